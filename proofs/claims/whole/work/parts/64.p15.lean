/-! labels of parts are looked up -/
section E11
variable {zln : Int32} {zlv : Nat → Int64} {zla zpa zpk : Nat → Int32} {zpl : Nat → Int64} {zpp : Nat → Int32} {k : Int32}
theorem e_rwn {v : Nat → Int64} {a : Nat → Int32} {n kd w : Int32} {nm : Int64} {ad : Int32} (h : ¬ kd = 0) : e_rw v a n kd w nm ad = if kd = 2 then (if kd = 32 then e_look v a n nm - ad else w ||| ((e_look v a n nm - ad) &&& 4095)) else (if kd = 32 then e_look v a n nm - 0 else w ||| ((e_look v a n nm - 0) &&& 4095)) := by
  unfold e_rw
  rw [if_neg h]
  by_cases c : kd = 2
  · rw [if_pos c, if_pos c]
  · rw [if_neg c, if_neg c]
theorem e_resL {zfk zfp : Int32} {zpw : Nat → Int32} (hl : zln.toInt ≤ 1000) (hk : ¬ zpk k.toNatClampNeg = 0) : ∀ (n : Nat) (x : Int32), 0 ≤ x.toInt → x.toInt ≤ zln.toInt → (zln.toInt - x.toInt).toNat < n → e_fnd zlv (zpl k.toNatClampNeg) x.toNatClampNeg = none →
    m_Mod_resolve_L2 zln zlv zla zpa zpk zpl zpp k n x zfk zfp zpw = if e_fnd zlv (zpl k.toNatClampNeg) zln.toNatClampNeg = none then ((m_Mod_note zfk zfp 2 (zpp k.toNatClampNeg)).1, (m_Mod_note zfk zfp 2 (zpp k.toNatClampNeg)).2, zpw) else (zfk, zfp, upd zpw k.toNatClampNeg (e_rw zlv zla zln (zpk k.toNatClampNeg) (zpw k.toNatClampNeg) (zpl k.toNatClampNeg) (zpa k.toNatClampNeg))) := by
  intro n
  induction n with
  | zero => intro x h0 h1 h2; omega
  | succ n ih =>
    intro x h0 h1 h2 h3
    obtain ⟨k1, k2, k3⟩ := e_cl1 (x := x) h0 (by omega)
    have e : zln.toNatClampNeg = zln.toInt.toNat := rfl
    unfold m_Mod_resolve_L2
    by_cases c1 : zln ≤ x
    · have q := Int32.le_iff_toInt_le.mp c1
      have e2 : x = zln := Int32.toInt_inj.mp (by omega)
      have hn : e_fnd zlv (zpl k.toNatClampNeg) zln.toNatClampNeg = none := by rw [← e2]; exact h3
      rw [if_pos c1, if_pos e2, if_pos hn]
    · have q := mt Int32.le_iff_toInt_le.mpr c1
      rw [if_neg c1]
      by_cases c3 : zlv x.toNatClampNeg = zpl k.toNatClampNeg
      · have ne : ¬ x = zln := fun z => by have z2 := congrArg Int32.toInt z; omega
        have f : e_fnd zlv (zpl k.toNatClampNeg) (x.toNatClampNeg + 1) = some x.toNatClampNeg := by rw [e_fnd_n h3, if_pos c3]
        have f2 := e_fnd_mono f (zln.toNatClampNeg - (x.toNatClampNeg + 1))
        rw [show x.toNatClampNeg + 1 + (zln.toNatClampNeg - (x.toNatClampNeg + 1)) = zln.toNatClampNeg by omega] at f2
        have lk : e_look zlv zla zln (zpl k.toNatClampNeg) = zla x.toNatClampNeg := by unfold e_look; rw [f2]
        have nn : ¬ e_fnd zlv (zpl k.toNatClampNeg) zln.toNatClampNeg = none := fun z => by rw [f2] at z; cases z
        rw [if_pos ((lg_cmp_eq _ _).mpr c3), if_neg ne, if_neg nn, e_rwn hk, lk]
        by_cases d1 : zpk k.toNatClampNeg = 2
        · rw [if_pos d1, if_pos d1]
          by_cases d2 : zpk k.toNatClampNeg = 32
          · rw [if_pos d2, if_pos d2]
          · rw [if_neg d2, if_neg d2]
        · rw [if_neg d1, if_neg d1]
          by_cases d2 : zpk k.toNatClampNeg = 32
          · rw [if_pos d2, if_pos d2]
          · rw [if_neg d2, if_neg d2]
      · rw [if_neg (fun h => c3 ((lg_cmp_eq _ _).mp h))]
        refine ih (x + 1) (by omega) (by omega) (by omega) ?_
        rw [k1, e_fnd_n h3, if_neg c3]
theorem e_res1 {zfk zfp : Int32} {zpw : Nat → Int32} (h0 : 0 ≤ zln.toInt) (hl : zln.toInt ≤ 1000) (hk : ¬ zpk k.toNatClampNeg = 0) : m_Mod_resolve zfk zfp zln zlv zla zpa zpw zpk zpl zpp k = if e_fnd zlv (zpl k.toNatClampNeg) zln.toNatClampNeg = none then ((m_Mod_note zfk zfp 2 (zpp k.toNatClampNeg)).1, (m_Mod_note zfk zfp 2 (zpp k.toNatClampNeg)).2, zpw) else (zfk, zfp, upd zpw k.toNatClampNeg (e_rw zlv zla zln (zpk k.toNatClampNeg) (zpw k.toNatClampNeg) (zpl k.toNatClampNeg) (zpa k.toNatClampNeg))) := by
  have z : (0 : Int32).toInt = 0 := rfl
  unfold m_Mod_resolve
  exact e_resL hl hk _ 0 (by omega) (by omega) (by omega) rfl
end E11
def e_K (zpn : Int32) (zpk : Nat → Int32) : Prop := ∀ k : Nat, (k : Int) < zpn.toInt → 0 ≤ (zpk k).toInt
theorem e_I77 {zln : Int32} {zlv : Nat → Int64} {zla : Nat → Int32} {zpn : Int32} {zpa zpk : Nat → Int32} {zpl : Nat → Int64} {zpp : Nat → Int32} {x1 : Int32} {zpw0 : Nat → Int32} {K0 : Int} (h0 : 0 ≤ zln.toInt) (hl : zln.toInt ≤ 1000) (hp : zpn.toInt ≤ 1000) (hK : e_K zpn zpk) (ha : ∀ i, i < zln.toNatClampNeg → 0 ≤ (zla i).toInt) : ∀ (n : Nat) (x2 zfk zfp : Int32) (zpw : Nat → Int32), 0 ≤ x2.toInt → x2.toInt ≤ zpn.toInt → (zpn.toInt - x2.toInt).toNat < n → e_vf zfk zfp → e_key zfk zfp = min K0 (e_U zlv zla zln zpk zpl zpp x2.toNatClampNeg) → (zfk = 0 → ∀ i, i < x2.toNatClampNeg → zpw i = e_rws zlv zla zln zpa zpw0 zpk zpl i) → (∀ i, x2.toNatClampNeg ≤ i → zpw i = zpw0 i) →
    ∃ y a b pw, m_Mod_readAll_I77 zln zlv zla zpn zpa zpk zpl zpp x1 n x2 zfk zfp zpw = (y, a, b, pw) ∧ e_vf a b ∧ e_key a b = min K0 (e_U zlv zla zln zpk zpl zpp zpn.toNatClampNeg) ∧ (a = 0 → ∀ i, i < zpn.toNatClampNeg → pw i = e_rws zlv zla zln zpa zpw0 zpk zpl i) := by
  intro n
  have z0 : (0 : Int32).toInt = 0 := rfl
  induction n with
  | zero => intro x2 zfk zfp zpw a1 a2 a3; omega
  | succ n ih =>
    intro x2 zfk zfp zpw a1 a2 a3 hv hk hw hw0
    obtain ⟨k1, k2, k3⟩ := e_cl1 (x := x2) a1 (by omega)
    have e : zpn.toNatClampNeg = zpn.toInt.toNat := rfl
    unfold m_Mod_readAll_I77
    by_cases c1 : zpn ≤ x2
    · have q := Int32.le_iff_toInt_le.mp c1
      have e2 : x2 = zpn := Int32.toInt_inj.mp (by omega)
      rw [if_pos c1]
      rw [e2] at hk hw
      exact ⟨x2, zfk, zfp, zpw, rfl, hv, hk, hw⟩
    · have q := mt Int32.le_iff_toInt_le.mpr c1
      rw [if_neg c1]
      have kb := hK x2.toNatClampNeg (by omega)
      have ub := e_U_le (v := zlv) (a := zla) (n := zln) (zpk := zpk) (zpl := zpl) (zpp := zpp) x2.toNatClampNeg
      by_cases c2 : zpk x2.toNatClampNeg ≤ 0
      · have q2 := Int32.le_iff_toInt_le.mp c2
        have zk : zpk x2.toNatClampNeg = 0 := Int32.toInt_inj.mp (by omega)
        rw [if_pos c2]
        refine ih (x2 + 1) zfk zfp zpw (by omega) (by omega) (by omega) hv ?_ (fun f0 i hi => ?_) (fun i hi => hw0 i (by omega))
        · rw [k1, e_U, if_pos zk, hk]
          omega
        · by_cases ei : i = x2.toNatClampNeg
          · rw [ei, hw0 _ (Nat.le_refl _)]
            unfold e_rws e_rw
            rw [if_pos zk]
          · exact hw f0 i (by omega)
      · have q2 := mt Int32.le_iff_toInt_le.mpr c2
        have zk : ¬ zpk x2.toNatClampNeg = 0 := fun z => by have z2 := congrArg Int32.toInt z; omega
        rw [if_neg c2, e_res1 h0 hl zk]
        by_cases c3 : e_fnd zlv (zpl x2.toNatClampNeg) zln.toNatClampNeg = none
        · rw [if_pos c3, g_m2_mk, g_m2_mk, e_note_eq hv (Or.inl rfl)]
          have nk := e_note_key (fk := zfk) (fp := zfp) (nk := 2) (wh := zpp x2.toNatClampNeg) hv (Or.inl rfl)
          have i2 := e_i2
          refine ih (x2 + 1) _ _ zpw (by omega) (by omega) (by omega) nk.1 ?_ (fun f0 => absurd f0 (e_note_nz (Or.inl rfl))) (fun i hi => hw0 i (by omega))
          rw [nk.2, k1, e_U, if_neg zk, if_pos ((e_look_n ha).mpr c3), hk]
          omega
        · rw [if_neg c3, g_m2_mk, g_m2_mk]
          refine ih (x2 + 1) zfk zfp _ (by omega) (by omega) (by omega) hv ?_ (fun f0 i hi => ?_) (fun i hi => ?_)
          · rw [k1, e_U, if_neg zk, if_neg (fun h => c3 ((e_look_n ha).mp h)), hk]
            omega
          · unfold upd
            by_cases ei : i = x2.toNatClampNeg
            · rw [if_pos ei, hw0 x2.toNatClampNeg (Nat.le_refl _), ei]
              rfl
            · rw [if_neg ei]; exact hw f0 i (by omega)
          · unfold upd
            rw [if_neg (by omega)]
            exact hw0 i (by omega)
theorem e_K_step {R : e_R} (ev : e_Ev) (h : e_K R.2.2.2.2.2.1 R.2.2.2.2.2.2.2.2.1) (b0 : 0 ≤ R.2.2.2.2.2.1.toInt) (b1 : R.2.2.2.2.2.1.toInt ≤ 1000) : e_K (e_rE R ev).2.2.2.2.2.1 (e_rE R ev).2.2.2.2.2.2.2.2.1 := by
  obtain ⟨zfk, zfp, zln, zlv, zla, zpn, zpa, zpw, zpk, zpl, zpp, zbg, znx⟩ := R
  have h : e_K zpn zpk := h
  have b0 : 0 ≤ zpn.toInt := b0
  have b1 : zpn.toInt ≤ 1000 := b1
  obtain ⟨i1, i2, i3⟩ := e_cl1 (x := zpn) b0 (by omega)
  rcases ev with ⟨nm, pl⟩ | ⟨oi, pl, ⟨cu, rg, q, nm, pN, vl⟩⟩
  · exact h
  · have hlt : e_K zpn (e_rk oi (upd zpk zpn.toNatClampNeg 0) zpn q) := fun k hk => by rw [e_rk_lt (by omega)]; exact h k hk
    rw [e_rE_o]
    by_cases h23 : oi = 23
    · simp only [if_pos h23]; exact hlt
    · by_cases h24 : oi = 24
      · simp only [if_neg h23, if_pos h24]; exact hlt
      · simp only [if_neg h23, if_neg h24]
        intro k hk
        by_cases e : k = zpn.toNatClampNeg
        · rw [e, e_rk_at]
          split
          · decide
          · split
            · decide
            · split <;> decide
        · exact hlt k (by omega)
theorem e_K_fold : ∀ (es : List e_Ev) (R : e_R), e_K R.2.2.2.2.2.1 R.2.2.2.2.2.2.2.2.1 → 0 ≤ R.2.2.1.toInt → 0 ≤ R.2.2.2.2.2.1.toInt → R.2.2.1.toInt + e_nl es ≤ 1000 → R.2.2.2.2.2.1.toInt + e_no es ≤ 1000 → e_K (es.foldl e_rE R).2.2.2.2.2.1 (es.foldl e_rE R).2.2.2.2.2.2.2.2.1 := by
  intro es
  induction es with
  | nil => intro R h _ _ _ _; exact h
  | cons ev es ih =>
    intro R h a1 a2 a3 a4
    have a3 : R.2.2.1.toInt + ((e_wl ev + e_nl es : Nat) : Int) ≤ 1000 := a3
    have a4 : R.2.2.2.2.2.1.toInt + ((e_wo ev + e_no es : Nat) : Int) ≤ 1000 := a4
    have st := e_rstep R ev a1 a2 (by omega) (by omega)
    exact ih _ (e_K_step ev h a2 (by omega)) (by omega) (by omega) (by omega) (by omega)
/-! addresses of labels are not negative -/
def e_LA (R : e_R) : Prop := 0 ≤ R.2.2.1.toInt ∧ ∀ i, i < R.2.2.1.toNatClampNeg → 0 ≤ (R.2.2.2.2.1 i).toInt
theorem e_LA_step {R : e_R} {ev : e_Ev} (h : e_LA R) (hJ : e_JR R) (b1 : R.2.2.1.toInt ≤ 1000) : e_LA (e_rE R ev) := by
  obtain ⟨zfk, zfp, zln, zlv, zla, zpn, zpa, zpw, zpk, zpl, zpp, zbg, znx⟩ := R
  obtain ⟨h1, h2⟩ := h
  have h1 : 0 ≤ zln.toInt := h1
  have b1 : zln.toInt ≤ 1000 := b1
  have j1 : 0 ≤ znx.toInt := hJ.2.1
  obtain ⟨i1, i2, i3⟩ := e_cl1 (x := zln) h1 (by omega)
  rcases ev with ⟨nm, pl⟩ | ⟨oi, pl, ⟨cu, rg, q, nm, pN, vl⟩⟩
  · exact ⟨by show 0 ≤ (zln + 1).toInt; omega, e_push_nn h1 (by omega) h2 j1⟩
  · rw [e_rE_o]
    by_cases h23 : oi = 23
    · simp only [if_pos h23]; exact ⟨h1, h2⟩
    · by_cases h24 : oi = 24
      · simp only [if_neg h23, if_pos h24]; exact ⟨h1, h2⟩
      · simp only [if_neg h23, if_neg h24]; exact ⟨h1, h2⟩
theorem e_LA_fold : ∀ (es : List e_Ev) (R : e_R), e_LA R → e_JR R → (∀ ev, ev ∈ es → e_wf ev) → 0 ≤ R.2.2.2.2.2.1.toInt → R.2.2.1.toInt + e_nl es ≤ 1000 → R.2.2.2.2.2.1.toInt + e_no es ≤ 1000 → e_LA (es.foldl e_rE R) := by
  intro es
  induction es with
  | nil => intro R h _ _ _ _ _; exact h
  | cons ev es ih =>
    intro R h hJ hw a2 a3 a4
    have a3 : R.2.2.1.toInt + ((e_wl ev + e_nl es : Nat) : Int) ≤ 1000 := a3
    have a4 : R.2.2.2.2.2.1.toInt + ((e_wo ev + e_no es : Nat) : Int) ≤ 1000 := a4
    have a1 := h.1
    have st := e_rstep R ev a1 a2 (by omega) (by omega)
    exact ih _ (e_LA_step h hJ (by omega)) (e_J_step hJ (hw _ List.mem_cons_self) a2 (by omega)) (fun e he => hw e (List.mem_cons_of_mem _ he)) (by omega) (by omega) (by omega)
/-! the whole reading of the reference -/
theorem e_rAll {zkk zkp : Nat → Int32} {zkv : Nat → Int64} {L : Nat} (hL : e_L zkk L) {zta : Nat → Int32} {ztn ztk : Int32} : ∀ (n : Nat) (x1 zfk zfp zat zln : Int32) (zlv : Nat → Int64) (zla : Nat → Int32) (zpn : Int32) (zpa zpw zpk : Nat → Int32) (zpl : Nat → Int64) (zpp zbg : Nat → Int32) (znx zmd : Int32) (zgv : Int64), ¬ x1 = 0 → e_vf zfk zfp → 0 ≤ zat.toInt → zat.toInt ≤ L → 0 ≤ zln.toInt → 2 * zln.toInt ≤ zat.toInt → 0 ≤ zpn.toInt → zpn.toInt ≤ zat.toInt → (L : Int) - zat.toInt < n →
    (∀ p, e_all zkk zkp zkv n zat = .error p → ∃ x, m_Mod_readAll_L50 zta ztn n x1 zfk zfp ztk zkk zkp zkv zat zln zlv zla zpn zpa zpw zpk zpl zpp zbg znx zmd zgv = (1, p, x)) ∧
    (∀ es, e_all zkk zkp zkv n zat = .ok es → ∃ a b ln lv la pn pa pw pk pl pp bg nx at' md gv x9, es.foldl e_rE (zfk, zfp, zln, zlv, zla, zpn, zpa, zpw, zpk, zpl, zpp, zbg, znx) = (a, b, ln, lv, la, pn, pa, pw, pk, pl, pp, bg, nx) ∧ e_vf a b ∧
      m_Mod_readAll_L50 zta ztn n x1 zfk zfp ztk zkk zkp zkv zat zln zlv zla zpn zpa zpw zpk zpl zpp zbg znx zmd zgv = ((m_Mod_readAll_I77 ln lv la pn pa pk pl pp x9 ((pn.toInt - (0 : Int32).toInt).toNat + 1) 0 a b pw).2.1, (m_Mod_readAll_I77 ln lv la pn pa pk pl pp x9 ((pn.toInt - (0 : Int32).toInt).toNat + 1) 0 a b pw).2.2.1, ztk, zkk, zkp, zkv, at', ln, lv, la, pn, pa, (m_Mod_readAll_I77 ln lv la pn pa pk pl pp x9 ((pn.toInt - (0 : Int32).toInt).toNat + 1) 0 a b pw).2.2.2, pk, pl, pp, bg, nx, md, gv)) := by
  intro n
  have hL1 := hL.1
  induction n with
  | zero => intro x1 zfk zfp zat zln zlv zla zpn zpa zpw zpk zpl zpp zbg znx zmd zgv hx hv h0 h1 l0 l1 p0 p1 hn; omega
  | succ n ih =>
    intro x1 zfk zfp zat zln zlv zla zpn zpa zpw zpk zpl zpp zbg znx zmd zgv hx hv h0 h1 l0 l1 p0 p1 hn
    unfold e_all m_Mod_readAll_L50
    by_cases c0 : zkk zat.toNatClampNeg = 0
    · rw [if_pos c0, if_pos c0, if_neg hx]
      refine ⟨fun p h => (by cases h), fun es h => ?_⟩
      cases h
      refine ⟨zfk, zfp, zln, zlv, zla, zpn, zpa, zpw, zpk, zpl, zpp, zbg, znx, zat, zmd, zgv, x1, rfl, hv, ?_⟩
      rcases m_Mod_readAll_I77 zln zlv zla zpn zpa zpk zpl zpp x1 ((zpn.toInt - (0 : Int32).toInt).toNat + 1) 0 zfk zfp zpw with ⟨y, u, w, pw⟩
      rw [g_m2_mk, g_m2_mk, g_m2_mk]
    · rw [if_neg c0, if_neg c0]
      have K := e_rStmt (zkp := zkp) (zkv := zkv) hL hv h0 h1 l0 l1 (zlv := zlv) (zla := zla) (zpn := zpn) (zpa := zpa) (zpw := zpw) (zpk := zpk) (zpl := zpl) (zpp := zpp) (zbg := zbg) (znx := znx) (zmd := zmd) (zgv := zgv)
      rcases hs : e_stmt zkk zkp zkv zat with p1 | ⟨es1, c⟩
      · obtain ⟨⟨y1, y2, y3, y4, y5, y6, y7, y8, y9, y10, y11, y12, y13, y14⟩, hx⟩ := K.1 p1 hs
        rw [hx, g_m2_mk, g_m2_mk, g_m2_mk, g_m2_mk, g_m2_mk, g_m2_mk, g_m2_mk, g_m2_mk, g_m2_mk, g_m2_mk, g_m2_mk, g_m2_mk, g_m2_mk, g_m2_mk, g_m2_mk, g_m2_mk, e_if0, e_if0]
        refine ⟨fun p h => ?_, fun es h => by cases h⟩
        cases h
        exact ⟨_, rfl⟩
      · obtain ⟨a, b, ln, lv, la, pn, pa, pw, pk, pl, pp, bg, nx, md, gv, hf, hx⟩ := K.2 es1 c hs
        rw [hx, g_m2_mk, g_m2_mk, g_m2_mk, g_m2_mk, g_m2_mk, g_m2_mk, g_m2_mk, g_m2_mk, g_m2_mk, g_m2_mk, g_m2_mk, g_m2_mk, g_m2_mk, g_m2_mk, g_m2_mk, g_m2_mk, e_if1]
        obtain ⟨w2, w3, w4, w5⟩ := e_stmt_n hL h0 h1 hs
        have cn := e_rcount es1 (zfk, zfp, zln, zlv, zla, zpn, zpa, zpw, zpk, zpl, zpp, zbg, znx) l0 p0 (by show zln.toInt + _ ≤ 1000; omega) (by show zpn.toInt + _ ≤ 1000; omega)
        have mv := e_rmonoL es1 (zfk, zfp, zln, zlv, zla, zpn, zpa, zpw, zpk, zpl, zpp, zbg, znx) hv
        rw [hf] at cn mv
        obtain ⟨c1, c2, c3⟩ := cn
        have c1 : ln.toInt = zln.toInt + _ := c1
        have c2 : zpn.toInt ≤ pn.toInt := c2
        have c3 : pn.toInt ≤ zpn.toInt + _ := c3
        have mv1 : e_vf a b := mv.1
        have I := ih 1 a b c ln lv la pn pa pw pk pl pp bg nx md gv (by decide) mv1 (by omega) w5 (by omega) (by omega) (by omega) (by omega) (by omega)
        rcases hr : e_all zkk zkp zkv n c with p1 | rr
        · refine ⟨fun p h => ?_, fun es h => by simp only [hr] at h; cases h⟩
          simp only [hr] at h
          cases h
          exact I.1 p1 hr
        · refine ⟨fun p h => (by simp only [hr] at h; cases h), fun es h => ?_⟩
          simp only [hr] at h
          cases h
          obtain ⟨a9, b9, ln9, lv9, la9, pn9, pa9, pw9, pk9, pl9, pp9, bg9, nx9, at9, md9, gv9, x9, t1, t2, t3⟩ := I.2 rr hr
          refine ⟨a9, b9, ln9, lv9, la9, pn9, pa9, pw9, pk9, pl9, pp9, bg9, nx9, at9, md9, gv9, x9, ?_, t2, t3⟩
          rw [List.foldl_append, hf, t1]
theorem e_I26 : ∀ (n : Nat) (x : Int32) (f : Nat → Int32), 0 ≤ x.toInt → x.toInt ≤ 4 → (4 - x.toInt).toNat < n → (∀ i : Nat, (i : Int) < x.toInt → f i = 0) → ∀ i : Nat, i < 4 → (m_Mod_readAll_I26 n x f).2 i = 0 := by
  intro n
  have z4 : (4 : Int32).toInt = 4 := rfl
  induction n with
  | zero => intro x f h0 h1 h2; omega
  | succ n ih =>
    intro x f h0 h1 h2 hf i hi
    unfold m_Mod_readAll_I26
    by_cases c : 4 ≤ x
    · have q := Int32.le_iff_toInt_le.mp c
      rw [if_pos c]
      exact hf i (by omega)
    · have q := mt Int32.le_iff_toInt_le.mpr c
      rw [if_neg c]
      obtain ⟨k1, k2, k3⟩ := e_cl1 (x := x) h0 (by omega)
      refine ih (x + 1) _ (by omega) (by omega) (by omega) (fun j hj => ?_) i hi
      unfold upd
      by_cases e : j = x.toNatClampNeg
      · rw [if_pos e]
      · rw [if_neg e]; exact hf j (by omega)
theorem e_PAix {zpn x1 : Int32} {zpa : Nat → Int32} (h : e_PA zpn zpa) (h0 : 0 ≤ x1.toInt) (h1 : x1.toInt < zpn.toInt) : vp_in (zpa x1.toNatClampNeg) 256 := by
  have e : x1.toNatClampNeg = x1.toInt.toNat := rfl
  have k := h x1.toNatClampNeg (by omega)
  rw [vp_in_iff]
  omega
section E12
variable {zta : Nat → Int32} {ztn zfk zfp ztk : Int32} {zkk zkp : Nat → Int32} {zkv : Nat → Int64} {zat zln : Int32} {zlv : Nat → Int64} {zla : Nat → Int32} {zpn : Int32} {zpa zpw zpk : Nat → Int32} {zpl : Nat → Int64} {zpp zbg : Nat → Int32} {znx zmd : Int32} {zgv : Int64} {tk : Int32} {kk kp : Nat → Int32} {kv : Nat → Int64}
theorem e_readAll_e (ht : m_Mod_tokenize zta ztn ztk zkk zkp zkv = (tk, kk, kp, kv)) (h0 : 0 ≤ ztn.toInt) (h1 : ztn.toInt ≤ 480) (hv : e_vf zfk zfp) {p : Int32} (h : e_all kk kp kv 481 0 = .error p) : ∃ x, m_Mod_readAll zta ztn zfk zfp ztk zkk zkp zkv zat zln zlv zla zpn zpa zpw zpk zpl zpp zbg znx zmd zgv = (1, p, x) := by
  have F := v_tokenize ht.symm h0 h1
  have z0 : (0 : Int32).toInt = 0 := rfl
  have f1 : 1 ≤ tk.toInt := F.1
  have f2 : tk.toInt ≤ 481 := F.2.1
  have hL : e_L kk (tk.toInt - 1).toNat := ⟨by omega, Or.inl F.2.2.1⟩
  have K := (e_rAll (zkp := kp) (zkv := kv) hL (zta := zta) (ztn := ztn) (ztk := tk) 481 1 zfk zfp 0 0 zlv zla 0 zpa zpw zpk zpl zpp (m_Mod_readAll_I26 5 0 zbg).2 0 zmd zgv (by decide) hv (by omega) (by omega) (by omega) (by omega) (by omega) (by omega) (by omega)).1 p h
  obtain ⟨x, hx⟩ := K
  refine ⟨x, ?_⟩
  unfold m_Mod_readAll
  rw [ht, g_m2_mk, g_m2_mk, g_m2_mk]
  exact hx
theorem e_readAll_o (ht : m_Mod_tokenize zta ztn ztk zkk zkp zkv = (tk, kk, kp, kv)) (h0 : 0 ≤ ztn.toInt) (h1 : ztn.toInt ≤ 480) (hv : e_vf zfk zfp) {es : List e_Ev} (h : e_all kk kp kv 481 0 = .ok es) :
    ∃ a b ln lv la pn pa pw pk pl pp bg nx at' md gv u w pw', es.foldl e_rE (zfk, zfp, 0, zlv, zla, 0, zpa, zpw, zpk, zpl, zpp, (m_Mod_readAll_I26 5 0 zbg).2, 0) = (a, b, ln, lv, la, pn, pa, pw, pk, pl, pp, bg, nx) ∧ e_vf a b ∧ e_J a b pn pa nx ∧ (0 ≤ ln.toInt ∧ ln.toInt ≤ 240 ∧ 0 ≤ pn.toInt ∧ pn.toInt ≤ 240) ∧ e_vf u w ∧ e_key u w = min (e_key a b) (e_U lv la ln pk pl pp pn.toNatClampNeg) ∧ (u = 0 → ∀ i, i < pn.toNatClampNeg → pw' i = e_rws lv la ln pa pw pk pl i) ∧
      m_Mod_readAll zta ztn zfk zfp ztk zkk zkp zkv zat zln zlv zla zpn zpa zpw zpk zpl zpp zbg znx zmd zgv = (u, w, tk, kk, kp, kv, at', ln, lv, la, pn, pa, pw', pk, pl, pp, bg, nx, md, gv) := by
  have F := v_tokenize ht.symm h0 h1
  have z0 : (0 : Int32).toInt = 0 := rfl
  have f1 : 1 ≤ tk.toInt := F.1
  have f2 : tk.toInt ≤ 481 := F.2.1
  have hL : e_L kk (tk.toInt - 1).toNat := ⟨by omega, Or.inl F.2.2.1⟩
  have hnn : e_nn kk kv (tk.toInt - 1).toNat := e_nn_of F
  obtain ⟨w1, w2, w3⟩ := e_all_wf hL hnn 481 0 es (by omega) (by omega) h
  have K := (e_rAll (zkp := kp) (zkv := kv) hL (zta := zta) (ztn := ztn) (ztk := tk) 481 1 zfk zfp 0 0 zlv zla 0 zpa zpw zpk zpl zpp (m_Mod_readAll_I26 5 0 zbg).2 0 zmd zgv (by decide) hv (by omega) (by omega) (by omega) (by omega) (by omega) (by omega) (by omega)).2 es h
  obtain ⟨a, b, ln, lv, la, pn, pa, pw, pk, pl, pp, bg, nx, at', md, gv, x9, t1, t2, t3⟩ := K
  have zz : 0 ≤ (0 : Int32).toInt := by decide
  have jz : e_JR (zfk, zfp, 0, zlv, zla, 0, zpa, zpw, zpk, zpl, zpp, (m_Mod_readAll_I26 5 0 zbg).2, 0) := e_J0 hv _
  have nl : (0 : Int32).toInt + (e_nl es : Int) ≤ 1000 := by omega
  have no : (0 : Int32).toInt + (e_no es : Int) ≤ 1000 := by omega
  have cn := e_rcount es (zfk, zfp, 0, zlv, zla, 0, zpa, zpw, zpk, zpl, zpp, (m_Mod_readAll_I26 5 0 zbg).2, 0) zz zz nl no
  have jf := e_J_fold es (zfk, zfp, 0, zlv, zla, 0, zpa, zpw, zpk, zpl, zpp, (m_Mod_readAll_I26 5 0 zbg).2, 0) jz w1 zz zz nl no
  have kf := e_K_fold es (zfk, zfp, 0, zlv, zla, 0, zpa, zpw, zpk, zpl, zpp, (m_Mod_readAll_I26 5 0 zbg).2, 0) (fun k hk => by have hk : (k : Int) < (0 : Int32).toInt := hk; omega) zz zz nl no
  have af := e_LA_fold es (zfk, zfp, 0, zlv, zla, 0, zpa, zpw, zpk, zpl, zpp, (m_Mod_readAll_I26 5 0 zbg).2, 0) ⟨zz, fun i hi => absurd hi (Nat.not_lt_zero _)⟩ jz w1 zz nl no
  rw [t1] at cn jf kf af
  obtain ⟨c1, c2, c3⟩ := cn
  have c1 : ln.toInt = (0 : Int32).toInt + _ := c1
  have c2 : (0 : Int32).toInt ≤ pn.toInt := c2
  have c3 : pn.toInt ≤ (0 : Int32).toInt + _ := c3
  have kb := e_key_le t2
  obtain ⟨y, u, w, pw', q1, q2, q3, q4⟩ := e_I77 (zlv := lv) (zla := la) (zpa := pa) (zpl := pl) (zpp := pp) (x1 := x9) (zpw0 := pw) (K0 := e_key a b) (zln := ln) (zpn := pn) (zpk := pk) (by omega) (by omega) (by omega) kf af.2 ((pn.toInt - (0 : Int32).toInt).toNat + 1) 0 a b pw (by omega) (by omega) (by omega) t2 (by show e_key a b = min (e_key a b) 1000000000000; omega) (fun _ i hi => absurd hi (Nat.not_lt_zero _)) (fun i _ => rfl)
  refine ⟨a, b, ln, lv, la, pn, pa, pw, pk, pl, pp, bg, nx, at', md, gv, u, w, pw', t1, t2, jf, ⟨by omega, by omega, by omega, by omega⟩, q2, q3, q4, ?_⟩
  rw [q1] at t3
  unfold m_Mod_readAll
  rw [ht, g_m2_mk, g_m2_mk, g_m2_mk]
  exact t3
theorem v_readAll2 {u w tk2 : Int32} {kk2 kp2 : Nat → Int32} {kv2 : Nat → Int64} {at2 ln : Int32} {lv : Nat → Int64} {la : Nat → Int32} {pn : Int32} {pa pw pk : Nat → Int32} {pl : Nat → Int64} {pp bg : Nat → Int32} {nx md : Int32} {gv : Int64} (hw : (u, w, tk2, kk2, kp2, kv2, at2, ln, lv, la, pn, pa, pw, pk, pl, pp, bg, nx, md, gv) = m_Mod_readAll zta ztn zfk zfp ztk zkk zkp zkv zat zln zlv zla zpn zpa zpw zpk zpl zpp zbg znx zmd zgv) (h0 : 0 ≤ ztn.toInt) (h1 : ztn.toInt ≤ 480) (hv : e_vf zfk zfp) (hz : u.toInt = (0 : Int32).toInt) : (0 ≤ pn.toInt ∧ pn.toInt ≤ 250 ∧ 0 ≤ ln.toInt ∧ ln.toInt ≤ 250) ∧ e_PA pn pa := by
  have hz : u = 0 := Int32.toInt_inj.mp hz
  rcases ht : m_Mod_tokenize zta ztn ztk zkk zkp zkv with ⟨tk, kk, kp, kv⟩
  rcases ha : e_all kk kp kv 481 0 with p | es
  · obtain ⟨x, hx⟩ := e_readAll_e (zat := zat) (zln := zln) (zlv := zlv) (zla := zla) (zpn := zpn) (zpa := zpa) (zpw := zpw) (zpk := zpk) (zpl := zpl) (zpp := zpp) (zbg := zbg) (znx := znx) (zmd := zmd) (zgv := zgv) ht h0 h1 hv ha
    rw [← hw] at hx
    simp only [Prod.mk.injEq] at hx
    exact absurd (hx.1.symm.trans hz) (by decide)
  · obtain ⟨a, b, ln', lv', la', pn', pa', pw', pk', pl', pp', bg', nx', at', md', gv', u', w', pw2, t1, t2, t3, t4, t5, t6, t7, t8⟩ := e_readAll_o (zat := zat) (zln := zln) (zlv := zlv) (zla := zla) (zpn := zpn) (zpa := zpa) (zpw := zpw) (zpk := zpk) (zpl := zpl) (zpp := zpp) (zbg := zbg) (znx := znx) (zmd := zmd) (zgv := zgv) ht h0 h1 hv ha
    rw [← hw] at t8
    simp only [Prod.mk.injEq] at t8
    obtain ⟨rfl, rfl, -, -, -, -, -, rfl, -, -, rfl, rfl, -, -, -, -, -, -, -, -⟩ := t8
    have kz := (e_key_z t5).mp hz
    have ka := e_key_le t2
    have ku := e_U_le (v := lv') (a := la') (n := ln) (zpk := pk') (zpl := pl') (zpp := pp') pn.toNatClampNeg
    exact ⟨⟨by omega, by omega, by omega, by omega⟩, t3.2.2.2 ((e_key_z t2).mpr (by omega))⟩
theorem v_readAll {u w tk2 : Int32} {kk2 kp2 : Nat → Int32} {kv2 : Nat → Int64} {at2 ln : Int32} {lv : Nat → Int64} {la : Nat → Int32} {pn : Int32} {pa pw pk : Nat → Int32} {pl : Nat → Int64} {pp bg : Nat → Int32} {nx md : Int32} {gv : Int64} (hw : (u, w, tk2, kk2, kp2, kv2, at2, ln, lv, la, pn, pa, pw, pk, pl, pp, bg, nx, md, gv) = m_Mod_readAll zta ztn zfk zfp ztk zkk zkp zkv zat zln zlv zla zpn zpa zpw zpk zpl zpp zbg znx zmd zgv) (h0 : 0 ≤ ztn.toInt) (h1 : ztn.toInt ≤ 480) (hv : e_vf zfk zfp) : u.toInt = (0 : Int32).toInt → 0 ≤ pn.toInt ∧ pn.toInt ≤ 250 ∧ 0 ≤ ln.toInt ∧ ln.toInt ≤ 250 := fun hz => (v_readAll2 hw h0 h1 hv hz).1
theorem v_readAllP {u w tk2 : Int32} {kk2 kp2 : Nat → Int32} {kv2 : Nat → Int64} {at2 ln : Int32} {lv : Nat → Int64} {la : Nat → Int32} {pn : Int32} {pa pw pk : Nat → Int32} {pl : Nat → Int64} {pp bg : Nat → Int32} {nx md : Int32} {gv : Int64} (hw : (u, w, tk2, kk2, kp2, kv2, at2, ln, lv, la, pn, pa, pw, pk, pl, pp, bg, nx, md, gv) = m_Mod_readAll zta ztn zfk zfp ztk zkk zkp zkv zat zln zlv zla zpn zpa zpw zpk zpl zpp zbg znx zmd zgv) (h0 : 0 ≤ ztn.toInt) (h1 : ztn.toInt ≤ 480) (hv : e_vf zfk zfp) : u.toInt = (0 : Int32).toInt → e_PA pn pa := fun hz => (v_readAll2 hw h0 h1 hv hz).2
end E12
