/-! what a good text leaves in the reference -/
theorem e_app_ext {f g zpa w w' : Nat → Int32} (hf : ∀ i, i < 256 → f i = g i) : ∀ n, (∀ k, k < n → w k = w' k) → ∀ i, i < 256 → e_app f zpa w n i = e_app g zpa w' n i := by
  intro n
  induction n with
  | zero => intro _ i hi; exact hf i hi
  | succ n ih =>
    intro h i hi
    have I := ih (fun k hk => h k (Nat.lt_succ_of_lt hk)) i hi
    show upd (e_app f zpa w n) (zpa n).toNatClampNeg (w n) i = upd (e_app g zpa w' n) (zpa n).toNatClampNeg (w' n) i
    unfold upd
    by_cases e : i = (zpa n).toNatClampNeg
    · rw [if_pos e, if_pos e, h n (Nat.lt_succ_self n)]
    · rw [if_neg e, if_neg e, I]
theorem e_I39 : ∀ (n : Nat) (x : Int32) (f : Nat → Int32), 0 ≤ x.toInt → x.toInt ≤ 256 → (256 - x.toInt).toNat < n → (∀ i : Nat, (i : Int) < x.toInt → f i = 0) → ∀ i : Nat, i < 256 → (m_Mod_assemble_I39 n x f).2 i = 0 := by
  intro n
  have z4 : (256 : Int32).toInt = 256 := rfl
  induction n with
  | zero => intro x f h0 h1 h2; omega
  | succ n ih =>
    intro x f h0 h1 h2 hf i hi
    unfold m_Mod_assemble_I39
    by_cases c : 256 ≤ x
    · have q := Int32.le_iff_toInt_le.mp c
      rw [if_pos c]
      exact hf i (by omega)
    · have q := mt Int32.le_iff_toInt_le.mpr c
      rw [if_neg c]
      obtain ⟨k1, k2, k3⟩ := e_cl1 (x := x) h0 (by omega)
      refine ih (x + 1) _ (by omega) (by omega) (by omega) (fun j hj => ?_) i hi
      unfold upd
      by_cases e : j = x.toNatClampNeg
      · rw [if_pos e]
      · rw [if_neg e]; exact hf j (by omega)
theorem e_I61 {zpn : Int32} {zpa zpw f0 : Nat → Int32} (hp : zpn.toInt ≤ 1000) : ∀ (n : Nat) (x : Int32) (f : Nat → Int32), 0 ≤ x.toInt → x.toInt ≤ zpn.toInt → (zpn.toInt - x.toInt).toNat < n → f = e_app f0 zpa zpw x.toNatClampNeg → (m_Mod_assemble_I61 zpn zpa zpw n x f).2 = e_app f0 zpa zpw zpn.toNatClampNeg := by
  intro n
  induction n with
  | zero => intro x f h0 h1 h2; omega
  | succ n ih =>
    intro x f h0 h1 h2 hf
    unfold m_Mod_assemble_I61
    by_cases c : zpn ≤ x
    · have q := Int32.le_iff_toInt_le.mp c
      have e2 : x = zpn := Int32.toInt_inj.mp (by omega)
      rw [if_pos c, ← e2]
      exact hf
    · have q := mt Int32.le_iff_toInt_le.mpr c
      rw [if_neg c]
      obtain ⟨k1, k2, k3⟩ := e_cl1 (x := x) h0 (by omega)
      refine ih (x + 1) _ (by omega) (by omega) (by omega) ?_
      rw [k1, e_app, hf]
theorem e_I94 {zbg : Nat → Int32} : ∀ (n : Nat) (x : Int32) (f : Nat → Int32), 0 ≤ x.toInt → x.toInt ≤ 4 → (4 - x.toInt).toNat < n → (∀ i : Nat, (i : Int) < x.toInt → f i = zbg i &&& 255) → ∀ i : Nat, i < 4 → (m_Mod_assemble_I94 zbg n x f).2 i = zbg i &&& 255 := by
  intro n
  have z4 : (4 : Int32).toInt = 4 := rfl
  induction n with
  | zero => intro x f h0 h1 h2; omega
  | succ n ih =>
    intro x f h0 h1 h2 hf i hi
    unfold m_Mod_assemble_I94
    by_cases c : 4 ≤ x
    · have q := Int32.le_iff_toInt_le.mp c
      rw [if_pos c]
      exact hf i (by omega)
    · have q := mt Int32.le_iff_toInt_le.mpr c
      rw [if_neg c]
      obtain ⟨k1, k2, k3⟩ := e_cl1 (x := x) h0 (by omega)
      refine ih (x + 1) _ (by omega) (by omega) (by omega) (fun j hj => ?_) i hi
      unfold upd
      by_cases e : j = x.toNatClampNeg
      · rw [if_pos e, e]
      · rw [if_neg e]; exact hf j (by omega)
theorem e_I131 {zln : Int32} {zlv : Nat → Int64} {zla : Nat → Int32} (hl : zln.toInt ≤ 1000) : ∀ (n : Nat) (x : Int32) (f : Nat → Int64) (g : Nat → Int32), 0 ≤ x.toInt → x.toInt ≤ zln.toInt → (zln.toInt - x.toInt).toNat < n → (∀ i : Nat, (i : Int) < x.toInt → f i = zlv i ∧ g i = zla i) → ∀ i : Nat, (i : Int) < zln.toInt → (m_Mod_assemble_I131 zln zlv zla n x f g).2.1 i = zlv i ∧ (m_Mod_assemble_I131 zln zlv zla n x f g).2.2 i = zla i := by
  intro n
  induction n with
  | zero => intro x f g h0 h1 h2; omega
  | succ n ih =>
    intro x f g h0 h1 h2 hf i hi
    unfold m_Mod_assemble_I131
    by_cases c : zln ≤ x
    · have q := Int32.le_iff_toInt_le.mp c
      rw [if_pos c]
      exact hf i (by omega)
    · have q := mt Int32.le_iff_toInt_le.mpr c
      rw [if_neg c]
      obtain ⟨k1, k2, k3⟩ := e_cl1 (x := x) h0 (by omega)
      refine ih (x + 1) _ _ (by omega) (by omega) (by omega) (fun j hj => ?_) i hi
      unfold upd vp_updL
      by_cases e : j = x.toNatClampNeg
      · rw [if_pos e, if_pos e, e]; exact ⟨rfl, rfl⟩
      · rw [if_neg e, if_neg e]; exact hf j (by omega)
theorem e_look_congr {v v' : Nat → Int64} {a a' : Nat → Int32} {n : Int32} (h : ∀ i, i < n.toNatClampNeg → v i = v' i ∧ a i = a' i) (nm : Int64) : e_look v a n nm = e_look v' a' n nm := by
  unfold e_look
  rw [e_fnd_congr n.toNatClampNeg (fun i hi => (h i hi).1)]
  rcases hf : e_fnd v' nm n.toNatClampNeg with _ | i
  · rfl
  · exact (h i (e_fnd_lt _ _ hf)).2
/-! assemble: the class and the reference -/
section E13
variable {tc : Nat → Int32} {tn fk fp : Int32} {kk kp : Nat → Int32} {kv : Nat → Int64} {kn kl kx : Int32} {dw ds : Nat → Int32} {dn : Nat → Int64} {da : Nat → Int32} {dl dc sv cu na rg : Int32} {vl : Int64}
variable {zth : Int32} {zta : Nat → Int32} {ztn zfk zfp ztk : Int32} {zkk zkp : Nat → Int32} {zkv : Nat → Int64} {zat zln : Int32} {zlv : Nat → Int64} {zla : Nat → Int32} {zpn : Int32} {zpa zpw zpk : Nat → Int32} {zpl : Nat → Int64} {zpp zbg : Nat → Int32} {znx : Int32} {zwd zst : Nat → Int32} {zkn : Int32} {zkm : Nat → Int64} {zka : Nat → Int32} {ztd zmd : Int32} {zgv : Int64}
theorem e_asm (h : e_tape tc tn zta ztn) :
    (∃ f2 p2 x y tk kk2 kp2 kv2 at2 ln lv la pn pa pw pk pl pp bg nx md gv, m_Asm_run fk fp kk kp kv kn kl kx dw ds dn da dl dc sv cu na rg vl tc tn = (0, f2, p2, x) ∧ ¬ f2 = 0 ∧ m_Mod_assemble zth zta ztn zfk zfp ztk zkk zkp zkv zat zln zlv zla zpn zpa zpw zpk zpl zpp zbg znx zwd zst zkn zkm zka ztd zmd zgv = (y, 1, 0, f2, p2, tk, kk2, kp2, kv2, at2, ln, lv, la, pn, pa, pw, pk, pl, pp, bg, nx, zwd, zst, zkn, zkm, zka, ztd, md, gv)) ∨
    (∃ kk1 kp1 kv1 kn1 kl1 kx1 dw2 ds2 dn2 da2 dl2 dc2 cu2 na2 rg2 vl2 tk kk2 kp2 kv2 at2 ln lv la pa pw pk pl pp bg nx zwd2 zst2 zkm2 zka2 md gv, m_Asm_run fk fp kk kp kv kn kl kx dw ds dn da dl dc sv cu na rg vl tc tn = (1, 0, 0, kk1, kp1, kv1, kn1, kl1, kx1, dw2, ds2, dn2, da2, dl2, dc2, 0, cu2, na2, rg2, vl2) ∧ m_Mod_assemble zth zta ztn zfk zfp ztk zkk zkp zkv zat zln zlv zla zpn zpa zpw zpk zpl zpp zbg znx zwd zst zkn zkm zka ztd zmd zgv = (dc2, 0, 0, 0, 0, tk, kk2, kp2, kv2, at2, ln, lv, la, dc2, pa, pw, pk, pl, pp, bg, nx, zwd2, zst2, dl2, zkm2, zka2, dc2, md, gv) ∧
      e_I tc 0 0 0 dw2 ds2 dn2 da2 dl2 dc2 zta 0 0 0 zwd2 zst2 dl2 zkm2 zka2 dc2) := by
  have hn0 := h.2.1
  have hn1 := h.2.2.1
  have z0 : (0 : Int32).toInt = 0 := rfl
  obtain ⟨L, hLr, hT⟩ := e_tokens h ztk zkk zkp zkv kk kp kv kn kl kx
  rcases ht : m_Mod_tokenize zta ztn ztk zkk zkp zkv with ⟨tk, kk2, kp2, kv2⟩
  rcases hs : m_Tokens_scan kk kp kv kn kl kx tc tn with ⟨kk1, kp1, kv1, kn1, kl1, kx1⟩
  rw [ht, hs] at hT
  rw [ht] at hLr
  have hT : e_Tok kk2 kp2 kv2 kk1 kp1 kv1 kn1 kl1 L := hT
  have hLr : (L : Int) + 1 ≤ tk.toInt := hLr
  have F := v_tokenize ht.symm hn0 hn1
  have hnn : e_nn kk2 kv2 L := fun i hi => e_nn_of F i (by show i ≤ (tk.toInt - 1).toNat; omega)
  have v0 : e_vf 0 0 := Or.inl ⟨rfl, rfl⟩
  rcases ha : e_all kk2 kp2 kv2 481 0 with p | es
  · obtain ⟨x, hx⟩ := e_cls_e (fk := fk) (fp := fp) (dw := dw) (ds := ds) (dn := dn) (da := da) (dl := dl) (dc := dc) (sv := sv) (cu := cu) (na := na) (rg := rg) (vl := vl) hT hs ha
    obtain ⟨⟨y1, y2, y3, y4, y5, y6, y7, y8, y9, y10, y11, y12, y13, y14, y15, y16, y17, y18⟩, hy⟩ := e_readAll_e (zat := zat) (zln := zln) (zlv := zlv) (zla := zla) (zpn := zpn) (zpa := zpa) (zpw := zpw) (zpk := zpk) (zpl := zpl) (zpp := zpp) (zbg := zbg) (znx := znx) (zmd := zmd) (zgv := zgv) ht hn0 hn1 v0 ha
    refine Or.inl ⟨1, p, x, 0, y1, y2, y3, y4, y5, y6, y7, y8, y9, y10, y11, y12, y13, y14, y15, y16, y17, y18, hx, by decide, ?_⟩
    unfold m_Mod_assemble
    rw [hy, g_m2_mk, g_m2_mk, g_m2_mk, g_m2_mk, g_m2_mk, g_m2_mk, g_m2_mk, g_m2_mk, g_m2_mk, g_m2_mk, g_m2_mk, g_m2_mk, g_m2_mk, g_m2_mk, g_m2_mk, g_m2_mk, g_m2_mk, g_m2_mk, g_m2_mk, if_neg (show ¬ (1 : Int32) = 0 by decide), show m_Mod_raise zth 1 = (0, 1) from rfl, g_m2_mk]
  · obtain ⟨a, b, ln, lv, la, pn, pa, pw, pk, pl, pp, bg, nx, at', md, gv, u, w, pw', t1, t2, t3, ⟨r1, r2, r3, r4⟩, t5, t6, t7, t8⟩ := e_readAll_o (zat := zat) (zln := zln) (zlv := zlv) (zla := zla) (zpn := zpn) (zpa := zpa) (zpw := zpw) (zpk := zpk) (zpl := zpl) (zpp := zpp) (zbg := zbg) (znx := znx) (zmd := zmd) (zgv := zgv) ht hn0 hn1 v0 ha
    obtain ⟨f2, p2, dw2, ds2, dn2, da2, dl2, dc2, cu2, na2, rg2, vl2, hx, hv2, hk2, hok, hza⟩ := e_cls_o (fk := fk) (fp := fp) (dw := dw) (ds := ds) (dn := dn) (da := da) (dl := dl) (dc := dc) (sv := sv) (cu := cu) (na := na) (rg := rg) (vl := vl) hT hnn hs ha (fun c hc => e_I26 5 0 zbg (by decide) (by decide) (by decide) (fun i hi => by omega) c hc) t1
    obtain ⟨e1, e2⟩ := e_key_inj hv2 t5 (hk2.trans t6.symm)
    subst e1; subst e2
    by_cases c : f2 = 0
    · rcases hv2 with ⟨-, hp0⟩ | hp0 | hp0
      · subst c; subst hp0
        obtain ⟨o1, o2, o3, o4, o5, o6⟩ := hok rfl
        subst o3; subst o4
        rw [if_pos rfl] at hx
        rcases h39 : m_Mod_assemble_I39 ((256 - (0 : Int32).toInt).toNat + 1) 0 zwd with ⟨y39, w39⟩
        rcases h61 : m_Mod_assemble_I61 dc2 pa pw' ((dc2.toInt - (0 : Int32).toInt).toNat + 1) 0 w39 with ⟨y61, w61⟩
        rcases h94 : m_Mod_assemble_I94 bg ((4 - (0 : Int32).toInt).toNat + 1) 0 zst with ⟨y94, w94⟩
        rcases h131 : m_Mod_assemble_I131 dl2 lv la ((dl2.toInt - (0 : Int32).toInt).toNat + 1) 0 zkm zka with ⟨y131, v131, w131⟩
        have a39 := e_I39 ((256 - (0 : Int32).toInt).toNat + 1) 0 zwd (by decide) (by decide) (by decide) (fun i hi => by omega)
        rw [h39] at a39
        have a61 := e_I61 (zpn := dc2) (zpa := pa) (zpw := pw') (f0 := w39) (by omega) ((dc2.toInt - (0 : Int32).toInt).toNat + 1) 0 w39 (by omega) (by omega) (by omega) rfl
        rw [h61] at a61
        have a61 : w61 = _ := a61
        have a94 := e_I94 (zbg := bg) ((4 - (0 : Int32).toInt).toNat + 1) 0 zst (by decide) (by decide) (by decide) (fun i hi => by omega)
        rw [h94] at a94
        have a131 := e_I131 (zln := dl2) (zlv := lv) (zla := la) (by omega) ((dl2.toInt - (0 : Int32).toInt).toNat + 1) 0 zkm zka (by omega) (by omega) (by omega) (fun i hi => by omega)
        rw [h131] at a131
        have edl : dl2.toNatClampNeg = dl2.toInt.toNat := rfl
        refine Or.inr ⟨kk1, kp1, kv1, kn1, kl1, kx1, dw2, ds2, dn2, da2, dl2, dc2, cu2, na2, rg2, vl2, tk, kk2, kp2, kv2, at', dl2, lv, la, pa, pw', pk, pl, pp, bg, nx, w61, w94, v131, w131, md, gv, hx, ?_, ?_⟩
        · unfold m_Mod_assemble
          rw [t8, g_m2_mk, g_m2_mk, g_m2_mk, g_m2_mk, g_m2_mk, g_m2_mk, g_m2_mk, g_m2_mk, g_m2_mk, g_m2_mk, g_m2_mk, g_m2_mk, g_m2_mk, g_m2_mk, g_m2_mk, g_m2_mk, g_m2_mk, g_m2_mk, g_m2_mk, if_pos rfl, h39, g_m2_mk, h61, g_m2_mk, h94, g_m2_mk, h131, g_m2_mk, g_m2_mk]
        · have lkc : ∀ nm, e_look v131 w131 dl2 nm = e_look lv la dl2 nm := e_look_congr (fun i hi => a131 i (by omega))
          refine ⟨⟨rfl, by decide, by decide, fun i hi => by omega⟩, ⟨rfl, rfl, rfl, rfl⟩, fun i hi => ?_, fun c hc => ?_, ⟨r1, r2⟩, fun nm => ?_, o6, fun i hi => ?_⟩
          · rw [o1, a61]
            exact e_app_ext (fun j hj => by rw [e_fill256 dw j hj]; exact (a39 j hj).symm) _ (fun k hk => (t7 rfl k hk).symm) i hi
          · obtain ⟨g1, g2, g3⟩ := o2 c hc
            rw [g1]
            exact (e_nm255 g2 g3).symm.trans (a94 c hc).symm
          · rw [lkc]; exact o5 nm
          · have q := (a131 i (by omega)).2
            have q : w131 i = la i := q
            rw [q]
            exact hza i hi
      · exact absurd (c.symm.trans hp0) (by decide)
      · exact absurd (c.symm.trans hp0) (by decide)
    · rw [if_neg c] at hx
      refine Or.inl ⟨f2, p2, _, 0, tk, kk2, kp2, kv2, at', ln, lv, la, pn, pa, pw', pk, pl, pp, bg, nx, md, gv, hx, c, ?_⟩
      unfold m_Mod_assemble
      rw [t8, g_m2_mk, g_m2_mk, g_m2_mk, g_m2_mk, g_m2_mk, g_m2_mk, g_m2_mk, g_m2_mk, g_m2_mk, g_m2_mk, g_m2_mk, g_m2_mk, g_m2_mk, g_m2_mk, g_m2_mk, g_m2_mk, g_m2_mk, g_m2_mk, g_m2_mk, if_neg c, show m_Mod_raise zth 1 = (0, 1) from rfl, g_m2_mk]
end E13
