/-! one call on either side: the answers agree, and what holds between the calls holds again -/
section PQ
variable {tc gw gs ga zta zwd zst zka : Nat → Int32} {gn zkm ov ov1 : Nat → Int64} {tn fk fp gl gc ztn zfk zfp zkn ztd zth : Int32}
theorem q_type (h : e_I tc tn fk fp gw gs gn ga gl gc zta ztn zfk zfp zwd zst zkn zkm zka ztd) {w : Int64} {k r1 tn1 r2 zth1 ztn1 : Int32} {tc1 zta1 : Nat → Int32} (h1 : (r1, tc1, tn1) = m_Desk_type tc tn w k) (h2 : (r2, zth1, zta1, ztn1) = m_Mod_type zth zta ztn w k) :
    r1 = r2 ∧ e_I tc1 tn1 fk fp gw gs gn ga gl gc zta1 ztn1 zfk zfp zwd zst zkn zkm zka ztd := by
  obtain ⟨ht, hr⟩ := h
  obtain ⟨r, tc', tn', zta', ztn', e1, e2, e3⟩ := e_type (w := w) (k := k) ht zth
  rw [e1] at h1
  rw [e2] at h2
  cases h1
  cases h2
  exact ⟨rfl, e3, hr⟩
theorem q_fault (h : e_I tc tn fk fp gw gs gn ga gl gc zta ztn zfk zfp zwd zst zkn zkm zka ztd) {wt r2 zth1 : Int32} (h2 : (r2, zth1) = m_Mod_fault zth zfk zfp wt) : (m_Desk_fault fk fp wt) = r2 := by
  obtain ⟨-, ⟨e1, e2, -, -⟩, -⟩ := h
  rw [← e1, ← e2, e_fault] at h2
  cases h2
  rfl
theorem q_labels (h : e_I tc tn fk fp gw gs gn ga gl gc zta ztn zfk zfp zwd zst zkn zkm zka ztd) {r2 zth1 : Int32} (h2 : (r2, zth1) = m_Mod_labels zth zkn) : (m_Desk_labels gl) = r2 := by
  obtain ⟨-, ⟨-, -, e1, -⟩, -⟩ := h
  unfold m_Mod_labels at h2
  cases h2
  exact e1
theorem q_told (h : e_I tc tn fk fp gw gs gn ga gl gc zta ztn zfk zfp zwd zst zkn zkm zka ztd) {r2 zth1 : Int32} (h2 : (r2, zth1) = m_Mod_told zth ztd) : (m_Desk_told gc) = r2 := by
  obtain ⟨-, ⟨-, -, -, e1⟩, -⟩ := h
  unfold m_Mod_told at h2
  cases h2
  exact e1
theorem q_upd (v : Int32) : lg_cmp ((vp_updL ov (0 : Int32).toNatClampNeg v.toInt64) (0 : Int32).toNatClampNeg) v.toInt64 = 0 := by
  rw [lg_cmp_eq]
  unfold vp_updL
  exact if_pos rfl
theorem q_word (h : e_I tc tn fk fp gw gs gn ga gl gc zta ztn zfk zfp zwd zst zkn zkm zka ztd) {p0 k1 b zth1 : Int32} (h1 : (k1, ov1) = m_Law_word gw ov p0) (h2 : (b, zth1) = m_Mod_word zth zwd p0) :
    (m_Mod_thrown zth1) = k1 ∧ (k1 = 0 → (lg_cmp (ov1 (0 : Int32).toNatClampNeg) (b.toInt64)) = 0) := by
  obtain ⟨-, -, hw, -⟩ := h
  have z0 : (0 : Int32).toInt = 0 := rfl
  have z1 : (255 : Int32).toInt = 255 := rfl
  have z2 : (256 : Int32).toInt = 256 := rfl
  have e : p0.toNatClampNeg = p0.toInt.toNat := rfl
  unfold m_Law_word m_Desk_word at h1
  unfold m_Mod_word at h2
  unfold m_Mod_thrown
  by_cases c1 : p0 < 0
  · rw [if_pos c1] at h1 h2
    cases h1; cases h2
    exact ⟨rfl, fun k => absurd k (by decide)⟩
  · have q1 := mt Int32.lt_iff_toInt_lt.mpr c1
    by_cases c2 : p0 < 256
    · have q2 := Int32.lt_iff_toInt_lt.mp c2
      have c3 : p0 ≤ 255 := Int32.le_iff_toInt_le.mpr (by omega)
      rw [if_neg c1, if_pos c2] at h1
      rw [if_neg c1, if_pos c3] at h2
      cases h1; cases h2
      refine ⟨rfl, fun _ => ?_⟩
      rw [hw _ (by omega)]
      exact q_upd _
    · have q2 := mt Int32.lt_iff_toInt_lt.mpr c2
      have c3 : ¬ p0 ≤ 255 := fun k => by have := Int32.le_iff_toInt_le.mp k; omega
      rw [if_neg c1, if_neg c2] at h1
      rw [if_neg c1, if_neg c3] at h2
      cases h1; cases h2
      exact ⟨rfl, fun k => absurd k (by decide)⟩
theorem q_start (h : e_I tc tn fk fp gw gs gn ga gl gc zta ztn zfk zfp zwd zst zkn zkm zka ztd) {p0 k1 b zth1 : Int32} (h1 : (k1, ov1) = m_Law_start gs ov p0) (h2 : (b, zth1) = m_Mod_start zth zst p0) :
    (m_Mod_thrown zth1) = k1 ∧ (k1 = 0 → (lg_cmp (ov1 (0 : Int32).toNatClampNeg) (b.toInt64)) = 0) := by
  obtain ⟨-, -, -, hw, -⟩ := h
  have z0 : (0 : Int32).toInt = 0 := rfl
  have z1 : (3 : Int32).toInt = 3 := rfl
  have z2 : (4 : Int32).toInt = 4 := rfl
  have e : p0.toNatClampNeg = p0.toInt.toNat := rfl
  unfold m_Law_start m_Desk_start at h1
  unfold m_Mod_start at h2
  unfold m_Mod_thrown
  by_cases c1 : p0 < 0
  · rw [if_pos c1] at h1 h2
    cases h1; cases h2
    exact ⟨rfl, fun k => absurd k (by decide)⟩
  · have q1 := mt Int32.lt_iff_toInt_lt.mpr c1
    by_cases c2 : p0 < 4
    · have q2 := Int32.lt_iff_toInt_lt.mp c2
      have c3 : p0 ≤ 3 := Int32.le_iff_toInt_le.mpr (by omega)
      rw [if_neg c1, if_pos c2] at h1
      rw [if_neg c1, if_pos c3] at h2
      cases h1; cases h2
      refine ⟨rfl, fun _ => ?_⟩
      rw [hw _ (by omega)]
      exact q_upd _
    · have q2 := mt Int32.lt_iff_toInt_lt.mpr c2
      have c3 : ¬ p0 ≤ 3 := fun k => by have := Int32.le_iff_toInt_le.mp k; omega
      rw [if_neg c1, if_neg c2] at h1
      rw [if_neg c1, if_neg c3] at h2
      cases h1; cases h2
      exact ⟨rfl, fun k => absurd k (by decide)⟩
theorem q_label (h : e_I tc tn fk fp gw gs gn ga gl gc zta ztn zfk zfp zwd zst zkn zkm zka ztd) {p0 : Int64} {k1 b zth1 : Int32} (h1 : (k1, ov1) = m_Law_label gn ga gl ov p0) (h2 : (b, zth1) = m_Mod_label zth zkn zkm zka p0) :
    (m_Mod_thrown zth1) = k1 ∧ (k1 = 0 → (lg_cmp (ov1 (0 : Int32).toNatClampNeg) (b.toInt64)) = 0) := by
  obtain ⟨-, ⟨-, -, e0, -⟩, -, -, ⟨g0, g1⟩, hl, -, hz⟩ := h
  have n0 : 0 ≤ zkn.toInt := by rw [← e0]; exact g0
  have n1 : zkn.toInt ≤ 1000 := by rw [← e0]; omega
  unfold m_Law_label m_Desk_label at h1
  rw [e_aof g0 g1, hl p0] at h1
  rw [e_label n0 n1 hz] at h2
  unfold m_Mod_thrown
  by_cases c : e_look zkm zka zkn p0 = -1
  · rw [if_pos c] at h1 h2
    cases h1; cases h2
    exact ⟨rfl, fun k => absurd k (by decide)⟩
  · rw [if_neg c] at h1 h2
    cases h1; cases h2
    exact ⟨rfl, fun _ => q_upd _⟩
variable {kk kp dw ds da : Nat → Int32} {kv dn : Nat → Int64} {kn kl kx dl dc sv cu na rg : Int32} {vl : Int64}
theorem q_run0 {f p : Int32} {kk1 kp1 dw1 ds1 da1 : Nat → Int32} {kv1 dn1 : Nat → Int64} {kn1 kl1 kx1 dl1 dc1 sv1 cu1 na1 rg1 : Int32} {vl1 : Int64}
    (h : m_Asm_run fk fp kk kp kv kn kl kx dw ds dn da dl dc sv cu na rg vl tc tn = (0, f, p, kk1, kp1, kv1, kn1, kl1, kx1, dw1, ds1, dn1, da1, dl1, dc1, sv1, cu1, na1, rg1, vl1)) :
    m_Law_assemble tc tn fk fp kk kp kv kn kl kx dw ds dn da dl dc sv cu na rg vl ov = (1, 0, f, p, kk1, kp1, kv1, kn1, kl1, kx1, dw1, ds1, dn1, da1, dl1, dc1, sv1, cu1, na1, rg1, vl1, ov) := by
  unfold m_Law_assemble m_Desk_assemble
  rw [h]
  rfl
theorem q_run1 {f p : Int32} {kk1 kp1 dw1 ds1 da1 : Nat → Int32} {kv1 dn1 : Nat → Int64} {kn1 kl1 kx1 dl1 dc1 sv1 cu1 na1 rg1 : Int32} {vl1 : Int64}
    (h : m_Asm_run fk fp kk kp kv kn kl kx dw ds dn da dl dc sv cu na rg vl tc tn = (1, f, p, kk1, kp1, kv1, kn1, kl1, kx1, dw1, ds1, dn1, da1, dl1, dc1, sv1, cu1, na1, rg1, vl1)) :
    m_Law_assemble tc tn fk fp kk kp kv kn kl kx dw ds dn da dl dc sv cu na rg vl ov = (0, 0, f, p, kk1, kp1, kv1, kn1, kl1, kx1, dw1, ds1, dn1, da1, dl1, dc1, sv1, cu1, na1, rg1, vl1, vp_updL ov (0 : Int32).toNatClampNeg dc1.toInt64) := by
  unfold m_Law_assemble m_Desk_assemble
  rw [h]
  rfl
variable {zkk zkp zla zpa zpw zpk zpp zbg : Nat → Int32} {zkv zlv zpl : Nat → Int64} {ztk zat zln zpn znx zmd : Int32} {zgv : Int64}
theorem q_asm (h : e_I tc tn fk fp gw gs gn ga gl gc zta ztn zfk zfp zwd zst zkn zkm zka ztd)
    {k1 tn1 fk1 fp1 kn1 kl1 kx1 dl1 dc1 sv1 cu1 na1 rg1 b zth1 ztn1 zfk1 zfp1 ztk1 zat1 zln1 zpn1 znx1 zkn1 ztd1 zmd1 : Int32} {kk1 kp1 dw1 ds1 da1 zkk1 zkp1 zla1 zpa1 zpw1 zpk1 zpp1 zbg1 zwd1 zst1 zka1 : Nat → Int32} {kv1 dn1 zkv1 zlv1 zpl1 zkm1 : Nat → Int64} {vl1 zgv1 : Int64}
    (h1 : (k1, tn1, fk1, fp1, kk1, kp1, kv1, kn1, kl1, kx1, dw1, ds1, dn1, da1, dl1, dc1, sv1, cu1, na1, rg1, vl1, ov1) = m_Law_assemble tc tn fk fp kk kp kv kn kl kx dw ds dn da dl dc sv cu na rg vl ov)
    (h2 : (b, zth1, ztn1, zfk1, zfp1, ztk1, zkk1, zkp1, zkv1, zat1, zln1, zlv1, zla1, zpn1, zpa1, zpw1, zpk1, zpl1, zpp1, zbg1, znx1, zwd1, zst1, zkn1, zkm1, zka1, ztd1, zmd1, zgv1) = m_Mod_assemble zth zta ztn zfk zfp ztk zkk zkp zkv zat zln zlv zla zpn zpa zpw zpk zpl zpp zbg znx zwd zst zkn zkm zka ztd zmd zgv) :
    (m_Mod_thrown zth1) = k1 ∧ (k1 = 0 → (lg_cmp (ov1 (0 : Int32).toNatClampNeg) (b.toInt64)) = 0) ∧ (k1 = 1 → e_I tc tn1 fk1 fp1 gw gs gn ga gl gc zta ztn1 zfk1 zfp1 zwd1 zst1 zkn1 zkm1 zka1 ztd1) ∧ (k1 = 0 → e_I tc tn1 fk1 fp1 dw1 ds1 dn1 da1 dl1 dc1 zta ztn1 zfk1 zfp1 zwd1 zst1 zkn1 zkm1 zka1 ztd1) := by
  unfold m_Mod_thrown
  rcases e_asm (fk := fk) (fp := fp) (kk := kk) (kp := kp) (kv := kv) (kn := kn) (kl := kl) (kx := kx) (dw := dw) (ds := ds) (dn := dn) (da := da) (dl := dl) (dc := dc) (sv := sv) (cu := cu) (na := na) (rg := rg) (vl := vl) (zth := zth) (zfk := zfk) (zfp := zfp) (ztk := ztk) (zkk := zkk) (zkp := zkp) (zkv := zkv) (zat := zat) (zln := zln) (zlv := zlv) (zla := zla) (zpn := zpn) (zpa := zpa) (zpw := zpw) (zpk := zpk) (zpl := zpl) (zpp := zpp) (zbg := zbg) (znx := znx) (zwd := zwd) (zst := zst) (zkn := zkn) (zkm := zkm) (zka := zka) (ztd := ztd) (zmd := zmd) (zgv := zgv) h.1 with ⟨f2, p2, x, y, tk, kk2, kp2, kv2, at2, ln, lv, la, pn, pa, pw, pk, pl, pp, bg, nx, md, gv, e1, -, e2⟩ | ⟨kk3, kp3, kv3, kn3, kl3, kx3, dw2, ds2, dn2, da2, dl2, dc2, cu2, na2, rg2, vl2, tk, kk2, kp2, kv2, at2, ln, lv, la, pa, pw, pk, pl, pp, bg, nx, zwd2, zst2, zkm2, zka2, md, gv, e1, e2, e3⟩
  · obtain ⟨x1, x2, x3, x4, x5, x6, x7, x8, x9, x10, x11, x12, x13, x14, x15, x16, x17⟩ := x
    rw [q_run0 e1] at h1
    rw [e2] at h2
    cases h1
    cases h2
    obtain ⟨-, ⟨-, -, h3, h4⟩, hr⟩ := h
    refine ⟨rfl, fun k => absurd k (by decide), fun _ => ⟨⟨rfl, by decide, by decide, fun i hi => ?_⟩, ⟨rfl, rfl, h3, h4⟩, hr⟩, fun k => absurd k (by decide)⟩
    have z0 : (0 : Int32).toInt = 0 := rfl
    omega
  · rw [q_run1 e1] at h1
    rw [e2] at h2
    cases h1
    cases h2
    exact ⟨rfl, fun _ => q_upd _, fun k => absurd k (by decide), fun _ => e3⟩
end PQ
