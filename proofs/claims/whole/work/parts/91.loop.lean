theorem g_h1 {L : Nat} {x4 : Int32} (hL : L ≤ 2048) (h0 : 0 ≤ x4.toInt) (c : ¬ ((Int32.ofNat L) - 4) < x4) : x4.toInt + 4 ≤ L := by
  have e : (Int32.ofNat L).toInt = (L : Int) := nI_toInt (n := L) (by omega)
  have z : (4 : Int32).toInt = 4 := rfl
  have s := gz_s (Int32.ofNat L) 4 (by omega) (by omega)
  have q := mt Int32.lt_iff_toInt_lt.mpr c
  omega
theorem g_kl {L k : Nat} {x4 : Int32} (hL : L ≤ 2048) (hk : x4.toInt = 4 * (k : Int)) (h : x4.toInt + 4 ≤ L) : k < 512 := by omega
theorem g_i4 {k : Nat} {x4 : Int32} (hk : x4.toInt = 4 * (k : Int)) (h : k < 512) : (x4 + 4).toInt = 4 * ((k + 1 : Nat) : Int) := by
  have z : (4 : Int32).toInt = 4 := rfl
  rw [gz_a x4 4 (by omega) (by omega)]
  omega
theorem g_i0 {k : Nat} {x4 : Int32} (hk : x4.toInt = 4 * (k : Int)) : 0 ≤ x4.toInt := by omega
theorem g_ins {L : Nat} {x4 : Int32} (h0 : 0 ≤ x4.toInt) (h : x4.toInt + 4 ≤ L) : vp_in x4 L := by rw [vp_in_iff]; omega
theorem g_rc {c0 k : Nat} (h : c0 + 512 ≤ 1065) (hk : k < 512) : c0 + k + 1 ≤ room_1.cells := by
  show _ ≤ 1065
  omega
theorem g_rs {s0 k : Nat} (h : s0 + 3072 ≤ 16119) (hk : k < 512) : s0 + 6 * k + 6 ≤ room_1.slots := by
  show _ ≤ 16119
  omega
theorem g_wc {c0 k : Nat} (h : c0 + 512 ≤ 1065) (hk : k ≤ 512) : c0 + k ≤ 1065 := by omega
theorem g_ws {s0 k : Nat} (h : s0 + 3072 ≤ 16119) (hk : k ≤ 512) : s0 + 6 * k ≤ 16119 := by omega
theorem g_k6 {s0 k : Nat} : s0 + 6 * k + 6 ≤ s0 + 6 * (k + 1) := by omega
theorem e_I_t {tc gw gs ga zta zwd zst zka : Nat → Int32} {gn zkm : Nat → Int64} {tn fk fp gl gc ztn zfk zfp zkn ztd : Int32} (h : e_I tc tn fk fp gw gs gn ga gl gc zta ztn zfk zfp zwd zst zkn zkm zka ztd) : 0 ≤ tn.toInt ∧ tn.toInt ≤ 480 ∧ 0 ≤ ztn.toInt ∧ ztn.toInt ≤ 480 ∧ zkn.toInt ≤ 250 := by
  obtain ⟨⟨e1, h1, h2, -⟩, ⟨-, -, e2, -⟩, -, -, ⟨-, h3⟩, -⟩ := h
  rw [← e2, e1]
  omega

def g_Head (p : Program) (l : Launch) (e : Env) (s : State) (m : MethodId) (below : List Frame) (meth : Method) (c : Code) (dC : Nat → ClassId) (dI : Nat → Nat → Nat) (cB cI cJ : ClassId) (aX aT aTc aA aF aK aKk aKp aKv oM ozta ozkk ozkp ozkv ozlv ozla ozpa ozpw ozpk ozpl ozpp ozbg ozwd ozst ozkm ozka aO : Nat) (A : Nat → Prop) (b : Nat) (c0 s0 k : Nat) : Prop :=
  ∀ (od odw ods odn oda og ogw ogs ogn oga : Nat) (tc : Nat → Int32) (tn : Int32) (fk : Int32) (fp : Int32) (kk : Nat → Int32) (kp : Nat → Int32) (kv : Nat → Int64) (kn : Int32) (kl : Int32) (kx : Int32) (dw : Nat → Int32) (ds : Nat → Int32) (dn : Nat → Int64) (da : Nat → Int32) (dl : Int32) (dc : Int32) (sv : Int32) (cu : Int32) (na : Int32) (rg : Int32) (vl : Int64) (gw : Nat → Int32) (gs : Nat → Int32) (gn : Nat → Int64) (ga : Nat → Int32) (gl : Int32) (gc : Int32) (zth : Int32) (zta : Nat → Int32) (ztn : Int32) (zfk : Int32) (zfp : Int32) (ztk : Int32) (zkk : Nat → Int32) (zkp : Nat → Int32) (zkv : Nat → Int64) (zat : Int32) (zln : Int32) (zlv : Nat → Int64) (zla : Nat → Int32) (zpn : Int32) (zpa : Nat → Int32) (zpw : Nat → Int32) (zpk : Nat → Int32) (zpl : Nat → Int64) (zpp : Nat → Int32) (zbg : Nat → Int32) (znx : Int32) (zwd : Nat → Int32) (zst : Nat → Int32) (zkn : Int32) (zkm : Nat → Int64) (zka : Nat → Int32) (ztd : Int32) (zmd : Int32) (zgv : Int64) (ov : Nat → Int64) (x4 : Int32) (H : Heap) (locs : List Loc) (ls : Array Slot), x4.toInt = 4 * (k : Int) → e_I tc tn fk fp gw gs gn ga gl gc zta ztn zfk zfp zwd zst zkn zkm zka ztd → va_P (dC, dI) classes [(aX, .inr (5, [.ref aT, .ref aA, .ref og])), (aT, .inr (0, [.ref aTc, .int tn])), (aTc, .inl (cB, 480, .inl tc)), (aA, .inr (4, [.ref aF, .ref aK, .ref od, .int sv, .int cu, .int na, .int rg, .long vl])), (aF, .inr (3, [.int fk, .int fp])), (aK, .inr (1, [.ref aKk, .ref aKp, .ref aKv, .int kn, .int kl, .int kx])), (aKk, .inl (cI, 480, .inl kk)), (aKp, .inl (cI, 480, .inl kp)), (aKv, .inl (cJ, 480, .inr (.inl kv))), (od, .inr (2, [.ref odw, .ref ods, .ref odn, .ref oda, .int dl, .int dc])), (odw, .inl (cI, 256, .inl dw)), (ods, .inl (cI, 4, .inl ds)), (odn, .inl (cJ, 240, .inr (.inl dn))), (oda, .inl (cI, 240, .inl da)), (og, .inr (2, [.ref ogw, .ref ogs, .ref ogn, .ref oga, .int gl, .int gc])), (ogw, .inl (cI, 256, .inl gw)), (ogs, .inl (cI, 4, .inl gs)), (ogn, .inl (cJ, 240, .inr (.inl gn))), (oga, .inl (cI, 240, .inl ga)), (oM, .inr (6, [.int zth, .ref ozta, .int ztn, .int zfk, .int zfp, .int ztk, .ref ozkk, .ref ozkp, .ref ozkv, .int zat, .int zln, .ref ozlv, .ref ozla, .int zpn, .ref ozpa, .ref ozpw, .ref ozpk, .ref ozpl, .ref ozpp, .ref ozbg, .int znx, .ref ozwd, .ref ozst, .int zkn, .ref ozkm, .ref ozka, .int ztd, .int zmd, .long zgv])), (ozta, .inl (cI, 480, .inl zta)), (ozkk, .inl (cI, 482, .inl zkk)), (ozkp, .inl (cI, 482, .inl zkp)), (ozkv, .inl (cJ, 482, .inr (.inl zkv))), (ozlv, .inl (cJ, 250, .inr (.inl zlv))), (ozla, .inl (cI, 250, .inl zla)), (ozpa, .inl (cI, 250, .inl zpa)), (ozpw, .inl (cI, 250, .inl zpw)), (ozpk, .inl (cI, 250, .inl zpk)), (ozpl, .inl (cJ, 250, .inr (.inl zpl))), (ozpp, .inl (cI, 250, .inl zpp)), (ozbg, .inl (cI, 4, .inl zbg)), (ozwd, .inl (cI, 256, .inl zwd)), (ozst, .inl (cI, 4, .inl zst)), (ozkm, .inl (cJ, 250, .inr (.inl zkm))), (ozka, .inl (cI, 250, .inl zka)), (aO, .inl (cJ, 1, .inr (.inl ov)))] H → va_D A [(aX, .inr (5, [.ref aT, .ref aA, .ref og])), (aT, .inr (0, [.ref aTc, .int tn])), (aTc, .inl (cB, 480, .inl tc)), (aA, .inr (4, [.ref aF, .ref aK, .ref od, .int sv, .int cu, .int na, .int rg, .long vl])), (aF, .inr (3, [.int fk, .int fp])), (aK, .inr (1, [.ref aKk, .ref aKp, .ref aKv, .int kn, .int kl, .int kx])), (aKk, .inl (cI, 480, .inl kk)), (aKp, .inl (cI, 480, .inl kp)), (aKv, .inl (cJ, 480, .inr (.inl kv))), (od, .inr (2, [.ref odw, .ref ods, .ref odn, .ref oda, .int dl, .int dc])), (odw, .inl (cI, 256, .inl dw)), (ods, .inl (cI, 4, .inl ds)), (odn, .inl (cJ, 240, .inr (.inl dn))), (oda, .inl (cI, 240, .inl da)), (og, .inr (2, [.ref ogw, .ref ogs, .ref ogn, .ref oga, .int gl, .int gc])), (ogw, .inl (cI, 256, .inl gw)), (ogs, .inl (cI, 4, .inl gs)), (ogn, .inl (cJ, 240, .inr (.inl gn))), (oga, .inl (cI, 240, .inl ga)), (oM, .inr (6, [.int zth, .ref ozta, .int ztn, .int zfk, .int zfp, .int ztk, .ref ozkk, .ref ozkp, .ref ozkv, .int zat, .int zln, .ref ozlv, .ref ozla, .int zpn, .ref ozpa, .ref ozpw, .ref ozpk, .ref ozpl, .ref ozpp, .ref ozbg, .int znx, .ref ozwd, .ref ozst, .int zkn, .ref ozkm, .ref ozka, .int ztd, .int zmd, .long zgv])), (ozta, .inl (cI, 480, .inl zta)), (ozkk, .inl (cI, 482, .inl zkk)), (ozkp, .inl (cI, 482, .inl zkp)), (ozkv, .inl (cJ, 482, .inr (.inl zkv))), (ozlv, .inl (cJ, 250, .inr (.inl zlv))), (ozla, .inl (cI, 250, .inl zla)), (ozpa, .inl (cI, 250, .inl zpa)), (ozpw, .inl (cI, 250, .inl zpw)), (ozpk, .inl (cI, 250, .inl zpk)), (ozpl, .inl (cJ, 250, .inr (.inl zpl))), (ozpp, .inl (cI, 250, .inl zpp)), (ozbg, .inl (cI, 4, .inl zbg)), (ozwd, .inl (cI, 256, .inl zwd)), (ozst, .inl (cI, 4, .inl zst)), (ozkm, .inl (cJ, 250, .inr (.inl zkm))), (ozka, .inl (cI, 250, .inl zka)), (aO, .inl (cJ, 1, .inr (.inl ov)))] → va_S A s.heap H locs → lv_has ls 7 [(4, .int x4), (3, .ref aO), (2, .ref oM), (1, .ref aX), (0, .ref b)] → W p l e room_1 s m #[Value.ref b] below meth c H locs (c0 + k) (s0 + 6 * k) (lw_Z below #[Value.ref b] s) (F0 m 23 ls [])
set_option maxHeartbeats 4000000 in
set_option maxRecDepth 100000 in
theorem L_step {p : Program} {l : Launch} {e : Env} {s : State} {m : MethodId} {below : List Frame} {meth : Method} {c : Code} {dC : Nat → ClassId} {dI : Nat → Nat → Nat} {cB cI cJ : ClassId} {aX aT aTc aA aF aK aKk aKp aKv oM ozta ozkk ozkp ozkv ozlv ozla ozpa ozpw ozpk ozpl ozpp ozbg ozwd ozst ozkm ozka aO : Nat} {A : Nat → Prop} {b L : Nat} {xs : Nat → Int32} {ad : Nat → Nat} {tA : Nat} {adK adV sa : Nat → Nat} {c0 s0 : Nat} (C0 : g_Cx p s m meth c code 7 ret R_Law #[Value.ref b]) (hst : l.stackTraces = false) (hK : va_K (dC, dI) classes [(cB, .byte), (cI, .int), (cJ, .long)] s) (hA : ∀ q : Nat, s.heap.size ≤ q → A q) (hAs : ∀ q : Nat, A q → s.heap.size ≤ q) (hX : g_St ad tA adK adV A s s.heap) (hT : g_Tw sa A s s.heap) (hB : va_X b L xs s s.heap) (hbl : b < s.heap.size) (hbA : ¬ A b) (h_L : L ≤ 2048) (hc0 : c0 + 512 ≤ 1065) (hs0 : s0 + 3072 ≤ 16119) {k : Nat} (hk2 : k ≤ 512) (ih : k < 512 → g_Head p l e s m below meth c dC dI cB cI cJ aX aT aTc aA aF aK aKk aKp aKv oM ozta ozkk ozkp ozkv ozlv ozla ozpa ozpw ozpk ozpl ozpp ozbg ozwd ozst ozkm ozka aO A b c0 s0 (k + 1)) : g_Head p l e s m below meth c dC dI cB cI cJ aX aT aTc aA aF aK aKk aKp aKv oM ozta ozkk ozkp ozkv ozlv ozla ozpa ozpw ozpk ozpl ozpp ozbg ozwd ozst ozkm ozka aO A b c0 s0 k := by
  obtain ⟨hx, hb, hml, hr, hown, hts, hlocks⟩ := id C0
  intro od odw ods odn oda og ogw ogs ogn oga tc tn fk fp kk kp kv kn kl kx dw ds dn da dl dc sv cu na rg vl gw gs gn ga gl gc zth zta ztn zfk zfp ztk zkk zkp zkv zat zln zlv zla zpn zpa zpw zpk zpl zpp zbg znx zwd zst zkn zkm zka ztd zmd zgv ov x4 H locs ls hk h_i hP hD hS hl
  have h_0 := g_i0 hk
  obtain ⟨hb1, hb2, hb3, hb4, hb5⟩ := e_I_t h_i
  refine lv_iload hx hb d_law_23 (lv_at hl 0 rfl) ?_
  refine lv_aload_n hx hb d_law_25 rfl (lv_at hl 4 rfl) ?_
  refine va_slen hx hb hB hbl hbA hS d_law_26 ?_
  refine lv_iconst (v := 4) hx hb d_law_27 (by decide) ?_
  refine lv_isub hx hb d_law_28 ?_
  refine lv_icmp_gt (tgt := 454) hx hb d_law_29 (by decide) (fun c_1 => ?_) (fun c_1 => ?_)
  · have q_1 := Int32.lt_iff_toInt_lt.mp c_1
    refine lv_iconst (v := 1) hx hb d_law_454 (by decide) ?_
    refine W.widen (k := 1065) (n := 16119) (g_wc hc0 hk2) (g_ws hs0 hk2) ?_
    exact va_forget (fun q hq => hAs _ (hS.2.2 q hq)) (lw_ret hx hb hr hlocks d_law_455)
  · have q_1 := mt Int32.lt_iff_toInt_lt.mpr c_1
    have h_1 := g_h1 h_L h_0 c_1
    have hk9 := g_kl h_L hk h_1
    have nx : g_Next p l e s m below meth c dC dI cB cI cJ aX aT aTc aA aF aK aKk aKp aKv oM ozta ozkk ozkp ozkv ozlv ozla ozpa ozpw ozpk ozpl ozpp ozbg ozwd ozst ozkm ozka aO A b x4 (c0 + k + 1) (s0 + 6 * k + 6) (lw_Z below #[Value.ref b] s) := by
      intro od odw ods odn oda og ogw ogs ogn oga tc tn fk fp kk kp kv kn kl kx dw ds dn da dl dc sv cu na rg vl gw gs gn ga gl gc zth zta ztn zfk zfp ztk zkk zkp zkv zat zln zlv zla zpn zpa zpw zpk zpl zpp zbg znx zwd zst zkn zkm zka ztd zmd zgv ov H locs ls h_i hP hD hS hl
      refine lv_iinc (v := (x4 + 4)) (lv' := [(4, .int (x4 + 4)), (3, .ref aO), (2, .ref oM), (1, .ref aX), (0, .ref b)]) hx hb d_law_448 hl (k := 0) rfl rfl (by decide) rfl (fun ls hl => ?_)
      refine lv_goto (tgt := 23) hx hb d_law_451 (by decide) ?_
      refine W.widen (k := c0 + (k + 1)) (n := s0 + 6 * (k + 1)) (Nat.le_refl _) g_k6 ?_
      exact ih hk9 od odw ods odn oda og ogw ogs ogn oga tc tn fk fp kk kp kv kn kl kx dw ds dn da dl dc sv cu na rg vl gw gs gn ga gl gc zth zta ztn zfk zfp ztk zkk zkp zkv zat zln zlv zla zpn zpa zpw zpk zpl zpp zbg znx zwd zst zkn zkm zka ztd zmd zgv ov (x4 + 4) _ _ _ (g_i4 hk hk9) h_i hP hD hS hl
    refine lv_aload_n hx hb d_law_32 rfl (lv_at hl 4 rfl) ?_
    refine lv_iload hx hb d_law_33 (lv_at hl 0 rfl) ?_
    refine va_sld hx hb hB hbl hbA hS (g_ins h_0 h_1) d_law_35 ?_
    refine lv_bipush (v := 7) hx hb d_law_36 (by decide) ?_
    refine lv_iand hx hb d_law_38 ?_
    by_cases c_2 : ((xs x4.toNatClampNeg) &&& 7) = 0
    · refine lv_tableIn (off := 45) (tgt := 84) hx hb d_law_39 (by rw [c_2]; decide) (by rw [c_2]; decide) (by rw [c_2]; decide) (by decide) ?_
      exact J_law_84 C0 hK hA hX hT hB hbl hbA (Nat.le_of_succ_le (g_rc hc0 hk9)) (Nat.le_trans (Nat.le_add_right _ 6) (g_rs hs0 hk9)) (g_rc hc0 hk9) (g_rs hs0 hk9) hst h_0 h_1 h_L hb1 hb2 hb3 hb4 hb5 h_i nx _ _ _ hP hD hS (lv_sub hl [0, 1, 2, 3, 4] rfl)
    ·
      by_cases c_3 : ((xs x4.toNatClampNeg) &&& 7) = 1
      · refine lv_tableIn (off := 114) (tgt := 153) hx hb d_law_39 (by rw [c_3]; decide) (by rw [c_3]; decide) (by rw [c_3]; decide) (by decide) ?_
        exact J_law_153 C0 hK hA hX hT hB hbl hbA (Nat.le_of_succ_le (g_rc hc0 hk9)) (Nat.le_trans (Nat.le_add_right _ 6) (g_rs hs0 hk9)) (g_rc hc0 hk9) (g_rs hs0 hk9) hst h_0 h_1 h_L hb1 hb2 hb3 hb4 hb5 h_i nx _ _ _ hP hD hS (lv_sub hl [0, 1, 2, 3, 4] rfl)
      ·
        by_cases c_4 : ((xs x4.toNatClampNeg) &&& 7) = 2
        · refine lv_tableIn (off := 158) (tgt := 197) hx hb d_law_39 (by rw [c_4]; decide) (by rw [c_4]; decide) (by rw [c_4]; decide) (by decide) ?_
          exact J_law_197 C0 hK hA hX hT hB hbl hbA (Nat.le_of_succ_le (g_rc hc0 hk9)) (Nat.le_trans (Nat.le_add_right _ 6) (g_rs hs0 hk9)) (g_rc hc0 hk9) (g_rs hs0 hk9) hst h_0 h_1 h_L hb1 hb2 hb3 hb4 hb5 h_i nx _ _ _ hP hD hS (lv_sub hl [0, 1, 2, 3, 4] rfl)
        ·
          by_cases c_5 : ((xs x4.toNatClampNeg) &&& 7) = 3
          · refine lv_tableIn (off := 183) (tgt := 222) hx hb d_law_39 (by rw [c_5]; decide) (by rw [c_5]; decide) (by rw [c_5]; decide) (by decide) ?_
            exact J_law_222 C0 hK hA hX hT hB hbl hbA (Nat.le_of_succ_le (g_rc hc0 hk9)) (Nat.le_trans (Nat.le_add_right _ 6) (g_rs hs0 hk9)) (g_rc hc0 hk9) (g_rs hs0 hk9) hst h_0 h_1 h_L hb1 hb2 hb3 hb4 hb5 h_i nx _ _ _ hP hD hS (lv_sub hl [0, 1, 2, 3, 4] rfl)
          ·
            by_cases c_6 : ((xs x4.toNatClampNeg) &&& 7) = 4
            · refine lv_tableIn (off := 239) (tgt := 278) hx hb d_law_39 (by rw [c_6]; decide) (by rw [c_6]; decide) (by rw [c_6]; decide) (by decide) ?_
              exact J_law_278 C0 hK hA hX hT hB hbl hbA (Nat.le_of_succ_le (g_rc hc0 hk9)) (Nat.le_trans (Nat.le_add_right _ 6) (g_rs hs0 hk9)) (g_rc hc0 hk9) (g_rs hs0 hk9) hst h_0 h_1 h_L hb1 hb2 hb3 hb4 hb5 h_i nx _ _ _ hP hD hS (lv_sub hl [0, 1, 2, 3, 4] rfl)
            ·
              by_cases c_7 : ((xs x4.toNatClampNeg) &&& 7) = 5
              · refine lv_tableIn (off := 295) (tgt := 334) hx hb d_law_39 (by rw [c_7]; decide) (by rw [c_7]; decide) (by rw [c_7]; decide) (by decide) ?_
                exact J_law_334 C0 hK hA hX hT hB hbl hbA (Nat.le_of_succ_le (g_rc hc0 hk9)) (Nat.le_trans (Nat.le_add_right _ 6) (g_rs hs0 hk9)) (g_rc hc0 hk9) (g_rs hs0 hk9) hst h_0 h_1 h_L hb1 hb2 hb3 hb4 hb5 h_i nx _ _ _ hP hD hS (lv_sub hl [0, 1, 2, 3, 4] rfl)
              ·
                by_cases c_8 : ((xs x4.toNatClampNeg) &&& 7) = 6
                · refine lv_tableIn (off := 308) (tgt := 347) hx hb d_law_39 (by rw [c_8]; decide) (by rw [c_8]; decide) (by rw [c_8]; decide) (by decide) ?_
                  exact J_law_347 C0 hK hA hX hT hB hbl hbA (Nat.le_of_succ_le (g_rc hc0 hk9)) (Nat.le_trans (Nat.le_add_right _ 6) (g_rs hs0 hk9)) (g_rc hc0 hk9) (g_rs hs0 hk9) hst h_0 h_1 h_L hb1 hb2 hb3 hb4 hb5 h_i nx _ _ _ hP hD hS (lv_sub hl [0, 1, 2, 3, 4] rfl)
                ·
                  by_cases c_9 : ((xs x4.toNatClampNeg) &&& 7) = 7
                  · refine lv_tableIn (off := 396) (tgt := 435) hx hb d_law_39 (by rw [c_9]; decide) (by rw [c_9]; decide) (by rw [c_9]; decide) (by decide) ?_
                    exact J_law_435 C0 hK hA hX hT hB hbl hbA (Nat.le_of_succ_le (g_rc hc0 hk9)) (Nat.le_trans (Nat.le_add_right _ 6) (g_rs hs0 hk9)) (g_rc hc0 hk9) (g_rs hs0 hk9) hst h_0 h_1 h_L hb1 hb2 hb3 hb4 hb5 h_i nx _ _ _ hP hD hS (lv_sub hl [0, 1, 2, 3, 4] rfl)
                  ·
                    refine gt_tableD (tgt := 448) hx hb d_law_39 [0, 1, 2, 3, 4, 5, 6, 7] (by decide) (by decide) (List.forall_mem_cons.mpr ⟨lv_neT c_2 (by decide), List.forall_mem_cons.mpr ⟨lv_neT c_3 (by decide), List.forall_mem_cons.mpr ⟨lv_neT c_4 (by decide), List.forall_mem_cons.mpr ⟨lv_neT c_5 (by decide), List.forall_mem_cons.mpr ⟨lv_neT c_6 (by decide), List.forall_mem_cons.mpr ⟨lv_neT c_7 (by decide), List.forall_mem_cons.mpr ⟨lv_neT c_8 (by decide), List.forall_mem_cons.mpr ⟨lv_neT c_9 (by decide), fun _ h => absurd h List.not_mem_nil⟩⟩⟩⟩⟩⟩⟩⟩) (by decide) ?_
                    refine W.widen (k := c0 + k + 1) (n := s0 + 6 * k + 6) (Nat.le_succ _) (Nat.le_add_right _ _) ?_
                    exact nx od odw ods odn oda og ogw ogs ogn oga tc tn fk fp kk kp kv kn kl kx dw ds dn da dl dc sv cu na rg vl gw gs gn ga gl gc zth zta ztn zfk zfp ztk zkk zkp zkv zat zln zlv zla zpn zpa zpw zpk zpl zpp zbg znx zwd zst zkn zkm zka ztd zmd zgv ov _ _ _ h_i hP hD hS (lv_sub hl [0, 1, 2, 3, 4] rfl)
theorem L_loop {p : Program} {l : Launch} {e : Env} {s : State} {m : MethodId} {below : List Frame} {meth : Method} {c : Code} {dC : Nat → ClassId} {dI : Nat → Nat → Nat} {cB cI cJ : ClassId} {aX aT aTc aA aF aK aKk aKp aKv oM ozta ozkk ozkp ozkv ozlv ozla ozpa ozpw ozpk ozpl ozpp ozbg ozwd ozst ozkm ozka aO : Nat} {A : Nat → Prop} {b L : Nat} {xs : Nat → Int32} {ad : Nat → Nat} {tA : Nat} {adK adV sa : Nat → Nat} {c0 s0 : Nat} (C0 : g_Cx p s m meth c code 7 ret R_Law #[Value.ref b]) (hst : l.stackTraces = false) (hK : va_K (dC, dI) classes [(cB, .byte), (cI, .int), (cJ, .long)] s) (hA : ∀ q : Nat, s.heap.size ≤ q → A q) (hAs : ∀ q : Nat, A q → s.heap.size ≤ q) (hX : g_St ad tA adK adV A s s.heap) (hT : g_Tw sa A s s.heap) (hB : va_X b L xs s s.heap) (hbl : b < s.heap.size) (hbA : ¬ A b) (h_L : L ≤ 2048) (hc0 : c0 + 512 ≤ 1065) (hs0 : s0 + 3072 ≤ 16119) : ∀ n k : Nat, k + n = 512 → g_Head p l e s m below meth c dC dI cB cI cJ aX aT aTc aA aF aK aKk aKp aKv oM ozta ozkk ozkp ozkv ozlv ozla ozpa ozpw ozpk ozpl ozpp ozbg ozwd ozst ozkm ozka aO A b c0 s0 k := by
  intro n
  induction n with
  | zero => intro k hk; exact L_step C0 hst hK hA hAs hX hT hB hbl hbA h_L hc0 hs0 (by omega) (fun h => absurd h (by omega))
  | succ n ih => intro k hk; exact L_step C0 hst hK hA hAs hX hT hB hbl hbA h_L hc0 hs0 (by omega) (fun _ => ih (k + 1) (by omega))
