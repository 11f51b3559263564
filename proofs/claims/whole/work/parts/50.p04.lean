theorem e_sp_none {v : Int64} (h : ∀ i, i < 25 → ¬ g_spl i = v) : ∀ (n : Nat) (x2 : Int32), m_Order_spelled_L2 v n x2 = none := by
  intro n
  have z25 : (25 : Int32).toInt = 25 := rfl
  induction n with
  | zero => intro x2; rfl
  | succ n ih =>
    intro x2
    unfold m_Order_spelled_L2
    split
    · rfl
    · rename_i c
      have q := mt Int32.le_iff_toInt_le.mpr c
      have e : x2.toNatClampNeg = x2.toInt.toNat := rfl
      rw [if_neg (fun k => h x2.toNatClampNeg (by omega) ((lg_cmp_eq _ _).mp k))]
      exact ih _
theorem e_sp_some : ∀ i, i < 25 → m_Order_spelled (g_spl i) = some i := by decide +kernel
theorem e_op_some : ∀ i, i < 25 → m_Mod_opOf (g_spl i) = e_op i := by decide +kernel
theorem e_op_none {v : Int64} (h : ∀ i, i < 25 → ¬ g_spl i = v) : m_Mod_opOf v = -1 := by
  unfold m_Mod_opOf
  rw [if_neg (fun e => h 0 (by decide) (((lg_cmp_eq _ _).mp e).trans (show m_Mod_named 104 97 108 116 0 = g_spl 0 by decide)).symm)]
  rw [if_neg (fun e => h 1 (by decide) (((lg_cmp_eq _ _).mp e).trans (show m_Mod_named 97 100 100 105 0 = g_spl 1 by decide)).symm)]
  rw [if_neg (fun e => h 2 (by decide) (((lg_cmp_eq _ _).mp e).trans (show m_Mod_named 97 100 100 0 0 = g_spl 2 by decide)).symm)]
  rw [if_neg (fun e => h 3 (by decide) (((lg_cmp_eq _ _).mp e).trans (show m_Mod_named 115 117 98 0 0 = g_spl 3 by decide)).symm)]
  rw [if_neg (fun e => h 4 (by decide) (((lg_cmp_eq _ _).mp e).trans (show m_Mod_named 97 110 100 0 0 = g_spl 4 by decide)).symm)]
  rw [if_neg (fun e => h 5 (by decide) (((lg_cmp_eq _ _).mp e).trans (show m_Mod_named 111 114 0 0 0 = g_spl 5 by decide)).symm)]
  rw [if_neg (fun e => h 6 (by decide) (((lg_cmp_eq _ _).mp e).trans (show m_Mod_named 120 111 114 0 0 = g_spl 6 by decide)).symm)]
  rw [if_neg (fun e => h 7 (by decide) (((lg_cmp_eq _ _).mp e).trans (show m_Mod_named 115 108 116 0 0 = g_spl 7 by decide)).symm)]
  rw [if_neg (fun e => h 8 (by decide) (((lg_cmp_eq _ _).mp e).trans (show m_Mod_named 115 108 108 0 0 = g_spl 8 by decide)).symm)]
  rw [if_neg (fun e => h 9 (by decide) (((lg_cmp_eq _ _).mp e).trans (show m_Mod_named 115 114 97 0 0 = g_spl 9 by decide)).symm)]
  rw [if_neg (fun e => h 10 (by decide) (((lg_cmp_eq _ _).mp e).trans (show m_Mod_named 108 117 105 0 0 = g_spl 10 by decide)).symm)]
  rw [if_neg (fun e => h 11 (by decide) (((lg_cmp_eq _ _).mp e).trans (show m_Mod_named 108 119 0 0 0 = g_spl 11 by decide)).symm)]
  rw [if_neg (fun e => h 12 (by decide) (((lg_cmp_eq _ _).mp e).trans (show m_Mod_named 115 119 0 0 0 = g_spl 12 by decide)).symm)]
  rw [if_neg (fun e => h 13 (by decide) (((lg_cmp_eq _ _).mp e).trans (show m_Mod_named 98 101 113 0 0 = g_spl 13 by decide)).symm)]
  rw [if_neg (fun e => h 14 (by decide) (((lg_cmp_eq _ _).mp e).trans (show m_Mod_named 98 110 101 0 0 = g_spl 14 by decide)).symm)]
  rw [if_neg (fun e => h 15 (by decide) (((lg_cmp_eq _ _).mp e).trans (show m_Mod_named 98 108 116 0 0 = g_spl 15 by decide)).symm)]
  rw [if_neg (fun e => h 16 (by decide) (((lg_cmp_eq _ _).mp e).trans (show m_Mod_named 106 97 108 0 0 = g_spl 16 by decide)).symm)]
  rw [if_neg (fun e => h 17 (by decide) (((lg_cmp_eq _ _).mp e).trans (show m_Mod_named 106 97 108 114 0 = g_spl 17 by decide)).symm)]
  rw [if_neg (fun e => h 18 (by decide) (((lg_cmp_eq _ _).mp e).trans (show m_Mod_named 115 119 97 112 0 = g_spl 18 by decide)).symm)]
  rw [if_neg (fun e => h 19 (by decide) (((lg_cmp_eq _ _).mp e).trans (show m_Mod_named 102 97 100 100 0 = g_spl 19 by decide)).symm)]
  rw [if_neg (fun e => h 20 (by decide) (((lg_cmp_eq _ _).mp e).trans (show m_Mod_named 102 109 97 120 0 = g_spl 20 by decide)).symm)]
  rw [if_neg (fun e => h 21 (by decide) (((lg_cmp_eq _ _).mp e).trans (show m_Mod_named 102 101 110 99 101 = g_spl 21 by decide)).symm)]
  rw [if_neg (fun e => h 22 (by decide) (((lg_cmp_eq _ _).mp e).trans (show m_Mod_named 119 111 114 100 0 = g_spl 22 by decide)).symm)]
  rw [if_neg (fun e => h 23 (by decide) (((lg_cmp_eq _ _).mp e).trans (show m_Mod_named 111 114 103 0 0 = g_spl 23 by decide)).symm)]
  rw [if_neg (fun e => h 24 (by decide) (((lg_cmp_eq _ _).mp e).trans (show m_Mod_named 99 111 114 101 0 = g_spl 24 by decide)).symm)]
theorem e_opOf (v : Int64) : m_Mod_opOf v = match m_Order_spelled v with
    | none => -1
    | some i => e_op i := by
  by_cases h : ∃ i, i < 25 ∧ g_spl i = v
  · obtain ⟨i, hi, rfl⟩ := h
    rw [e_op_some i hi, e_sp_some i hi]
  · have h' : ∀ i, i < 25 → ¬ g_spl i = v := fun i hi e => h ⟨i, hi, e⟩
    rw [e_op_none h', show m_Order_spelled v = none from e_sp_none h' 26 0]
theorem e_op_nm : ∀ i, i < 25 → ¬ e_op i = -1 := by decide
theorem e_opx {v : Int64} (h : ¬ m_Mod_opOf v = -1) : ∃ oi, oi < 25 ∧ m_Mod_opOf v = e_op oi ∧ m_Order_spelled v = some oi := by
  rw [e_opOf] at h ⊢
  rcases hs : m_Order_spelled v with _ | oi
  · rw [hs] at h; exact absurd rfl h
  · exact ⟨oi, v_Order_spelled hs.symm, rfl, rfl⟩
theorem e_opn {v : Int64} (h : m_Mod_opOf v = -1) : m_Order_spelled v = none := by
  rw [e_opOf] at h
  rcases hs : m_Order_spelled v with _ | oi
  · rfl
  · rw [hs] at h; exact absurd h (e_op_nm oi (v_Order_spelled hs.symm))
theorem e_u117 {zkk zkp : Nat → Int32} {zkv : Nat → Int64} {cu rg pN : Int32} {q : Nat} {nm vl : Int64} {cu' rg' pN' : Int32} {q' : Nat} {nm' vl' : Int64} (h : e_form zkk zkp zkv [117] (cu, rg, q, nm, pN, vl) = .ok (cu', rg', q', nm', pN', vl')) : q' = 1 ∧ zkk cu.toNatClampNeg = 2 ∧ vl' = zkv cu.toNatClampNeg := by
  rcases hp : e_num0 zkk zkp zkv (cu, rg, q, nm, pN, vl) with p | T
  · rw [e_fe ((e_p117 _ _ _ _).trans hp)] at h; cases h
  · rw [e_fo ((e_p117 _ _ _ _).trans hp)] at h
    have h' : Except.ok T = (Except.ok (cu', rg', q', nm', pN', vl') : Except Int32 e_S) := h
    cases h'
    rw [e_num0_eq] at hp
    split at hp
    · rename_i c; cases hp; exact ⟨rfl, c, rfl⟩
    · cases hp
theorem e_u110 {zkk zkp : Nat → Int32} {zkv : Nat → Int64} {cu rg pN : Int32} {q : Nat} {nm vl : Int64} {cu' rg' pN' : Int32} {q' : Nat} {nm' vl' : Int64} (h : e_form zkk zkp zkv [110] (cu, rg, q, nm, pN, vl) = .ok (cu', rg', q', nm', pN', vl')) : q' = 1 ∨ q' = 2 := by
  rcases hp : e_N zkk zkp zkv 2 (cu, rg, q, nm, pN, vl) with p | T
  · rw [e_fe ((e_p110 _ _ _ _).trans hp)] at h; cases h
  · rw [e_fo ((e_p110 _ _ _ _).trans hp)] at h
    have h' : Except.ok T = (Except.ok (cu', rg', q', nm', pN', vl') : Except Int32 e_S) := h
    cases h'
    rw [e_N_eq, e_num1_eq, e_num0_eq] at hp
    split at hp
    · cases hp; exact Or.inr rfl
    · split at hp
      · split at hp
        · cases hp; exact Or.inl rfl
        · cases hp
      · split at hp
        · cases hp; exact Or.inl rfl
        · cases hp
theorem e_part_q {zkk zkp : Nat → Int32} {zkv : Nat → Int64} {c : Int32} {S T : e_S} (h : e_part zkk zkp zkv c S = .ok T) (h3 : S.2.2.1 ≤ 3) : T.2.2.1 ≤ 3 := by
  obtain ⟨cu, rg, q, nm, pN, vl⟩ := S
  have h3 : q ≤ 3 := h3
  unfold e_part at h
  simp only [e_reg_eq, e_N_eq, e_num1_eq, e_num0_eq, e_sgn_eq] at h
  repeat' split at h
  all_goals first | (cases h; done) | (cases h; exact h3) | (cases h; show 1 ≤ 3; decide) | (cases h; show 2 ≤ 3; decide) | (cases h; show 3 ≤ 3; decide)
theorem e_form_q {zkk zkp : Nat → Int32} {zkv : Nat → Int64} : ∀ (cs : List Int32) (S T : e_S), e_form zkk zkp zkv cs S = .ok T → S.2.2.1 ≤ 3 → T.2.2.1 ≤ 3 := by
  intro cs
  induction cs with
  | nil =>
    intro S T h h3
    have h' : Except.ok S = (Except.ok T : Except Int32 e_S) := h
    cases h'
    exact h3
  | cons c cs ih =>
    intro S T h h3
    rcases hp : e_part zkk zkp zkv c S with p | T1
    · rw [e_fe hp] at h; cases h
    · rw [e_fo hp] at h
      exact ih _ _ h (e_part_q hp h3)
theorem e_op33 : ∀ oi, oi < 25 → 33 ≤ (e_op oi).toInt → oi = 23 ∨ oi = 24 := by decide
theorem e_clE {i : Int32} {E : Nat} (h0 : 0 ≤ i.toInt) (h1 : i.toInt ≤ E) : i.toNatClampNeg ≤ E := by
  have e : i.toNatClampNeg = i.toInt.toNat := rfl
  omega
theorem v_wantParts {r f1 f2 a1 : Int32} {k1 : Nat → Int32} {l1 : Nat → Int64} {p1 : Nat → Int32} {d1 : Int32} {g1 : Int64} {zfk zfp : Int32} {zkk zkp : Nat → Int32} {zkv : Nat → Int64} {zat zpn : Int32} {zpk : Nat → Int32} {zpl : Nat → Int64} {zpp : Nat → Int32} {zmd : Int32} {zgv : Int64} {op : Int32} {E : Nat} (hw : (r, f1, f2, a1, k1, l1, p1, d1, g1) = m_Mod_wantParts zfk zfp zkk zkp zkv zat zpn zpk zpl zpp zmd zgv op) (hop : ∃ oi, oi < 25 ∧ op = e_op oi) (hz : zkk E = 0) (hnn : e_nn zkk zkv E) (h0 : 0 ≤ zat.toInt) (h1 : zat.toInt ≤ E) (hE : (E : Int) ≤ 480) : ¬ r.toInt = (0 : Int32).toInt → zat.toInt ≤ a1.toInt ∧ a1.toInt ≤ E ∧ (33 ≤ op.toInt → 0 ≤ g1.toInt) := by
  obtain ⟨oi, hoi, rfl⟩ := hop
  intro hr
  have B := e_wP (zkk := zkk) (zkp := zkp) (zkv := zkv) hoi (zfk := zfk) (zfp := zfp) (zat := zat) (zpn := zpn) (zpk := zpk) (zpl := zpl) (zpp := zpp) (zmd := zmd) (zgv := zgv)
  rw [← hw] at B
  have hL : e_L zkk E := ⟨by omega, Or.inl hz⟩
  rcases hf : e_form zkk zkp zkv (e_chars oi) (zat, 0, 0, 0, 0, 0) with p | ⟨cu, rg, q, nm, pN, vl⟩
  · rw [hf] at B
    obtain ⟨x, hx⟩ := B
    simp only [Prod.mk.injEq] at hx
    exact absurd (by rw [hx.1]) hr
  · rw [hf] at B
    have B : (r, f1, f2, a1, k1, l1, p1, d1, g1) = _ := B
    simp only [Prod.mk.injEq] at B
    obtain ⟨-, -, -, b4, -, -, -, -, b9⟩ := B
    have k := e_form_in hL _ _ _ hf h0 h1
    have k1 : zat.toInt ≤ cu.toInt := k.1
    have k2 : cu.toInt ≤ E := k.2
    rw [b4, b9]
    refine ⟨k1, k2, fun ho => ?_⟩
    have hc : e_chars oi = [117] := by
      rcases e_op33 oi hoi ho with rfl | rfl <;> rfl
    rw [hc] at hf
    obtain ⟨q1, q2, q3⟩ := e_u117 hf
    unfold e_rg
    rw [if_pos q1, q3]
    exact hnn _ (e_clE h0 h1) q2
theorem v_readLabels_L {zkk zkp : Nat → Int32} {zkv : Nat → Int64} {znx : Int32} {E : Nat} (hz : zkk E = 0) (hE : (E : Int) ≤ 480) : ∀ (n : Nat) (zfk zfp zat zln : Int32) (zlv : Nat → Int64) (zla : Nat → Int32), 0 ≤ zat.toInt → zat.toInt ≤ E → 0 ≤ zln.toInt → 2 * zln.toInt ≤ zat.toInt →
    zat.toInt ≤ (m_Mod_readLabels_L0 zkk zkp zkv znx n zfk zfp zat zln zlv zla).2.2.2.1.toInt ∧ (m_Mod_readLabels_L0 zkk zkp zkv znx n zfk zfp zat zln zlv zla).2.2.2.1.toInt ≤ E ∧ zln.toInt ≤ (m_Mod_readLabels_L0 zkk zkp zkv znx n zfk zfp zat zln zlv zla).2.2.2.2.1.toInt ∧ 2 * (m_Mod_readLabels_L0 zkk zkp zkv znx n zfk zfp zat zln zlv zla).2.2.2.2.1.toInt ≤ (m_Mod_readLabels_L0 zkk zkp zkv znx n zfk zfp zat zln zlv zla).2.2.2.1.toInt := by
  intro n
  have hL : e_L zkk E := ⟨by omega, Or.inl hz⟩
  induction n with
  | zero => intro zfk zfp zat zln zlv zla h0 h1 h2 h3; exact ⟨Int.le_refl _, h1, Int.le_refl _, h3⟩
  | succ n ih =>
    intro zfk zfp zat zln zlv zla h0 h1 h2 h3
    unfold m_Mod_readLabels_L0
    split
    · rename_i c1
      split
      · rename_i c2
        split
        · have k := e_next hL h0 h1 c1 (by decide) (by decide)
          have k2 := e_next (i := zat + 1) hL (by omega) (by omega) c2 (by decide) (by decide)
          have e2 := e_two (i := zat) (by omega) (by omega)
          obtain ⟨j1, j2, j3⟩ := e_cl1 (x := zln) h2 (by omega)
          have I := ih (m_Mod_readLabels_I48 zkp zkv zat zln zlv ((zln.toInt - (0 : Int32).toInt).toNat + 1) 0 zfk zfp).2.1 (m_Mod_readLabels_I48 zkp zkv zat zln zlv ((zln.toInt - (0 : Int32).toInt).toNat + 1) 0 zfk zfp).2.2 (zat + 2) (zln + 1) (vp_updL zlv zln.toNatClampNeg (zkv zat.toNatClampNeg)) (upd zla zln.toNatClampNeg znx) (by omega) (by omega) (by omega) (by omega)
          obtain ⟨i1, i2, i3, i4⟩ := I
          exact ⟨Int.le_trans (by omega) i1, i2, Int.le_trans (by omega) i3, i4⟩
        · exact ⟨Int.le_refl _, h1, Int.le_refl _, h3⟩
      · exact ⟨Int.le_refl _, h1, Int.le_refl _, h3⟩
    · exact ⟨Int.le_refl _, h1, Int.le_refl _, h3⟩
theorem v_readLabels {r f1 f2 a1 n1 : Int32} {v1 : Nat → Int64} {w1 : Nat → Int32} {zfk zfp : Int32} {zkk zkp : Nat → Int32} {zkv : Nat → Int64} {zat zln : Int32} {zlv : Nat → Int64} {zla : Nat → Int32} {znx : Int32} {E : Nat} (hw : (r, f1, f2, a1, n1, v1, w1) = m_Mod_readLabels zfk zfp zkk zkp zkv zat zln zlv zla znx) (hz : zkk E = 0) (h0 : 0 ≤ zat.toInt) (h1 : zat.toInt ≤ E) (hE : (E : Int) ≤ 480) (h2 : 0 ≤ zln.toInt) (h3 : 2 * zln.toInt ≤ zat.toInt) : zat.toInt ≤ a1.toInt ∧ a1.toInt ≤ E ∧ zln.toInt ≤ n1.toInt ∧ 2 * n1.toInt ≤ a1.toInt := by
  have e1 : a1 = (m_Mod_readLabels zfk zfp zkk zkp zkv zat zln zlv zla znx).2.2.2.1 := by rw [← hw]
  have e2 : n1 = (m_Mod_readLabels zfk zfp zkk zkp zkv zat zln zlv zla znx).2.2.2.2.1 := by rw [← hw]
  rw [e1, e2]
  exact v_readLabels_L hz hE _ zfk zfp zat zln zlv zla h0 h1 h2 h3
