theorem g_adv {zkk : Nat → Int32} {zat c : Int32} {E : Nat} (h : zkk zat.toNatClampNeg = c) (hc : ¬ c = 0) (hz : zkk E = 0) (h0 : 0 ≤ zat.toInt) (h1 : zat.toInt ≤ E) (hE : (E : Int) ≤ 480) : (zat + 1).toInt = zat.toInt + 1 ∧ zat.toInt + 1 ≤ E := by
  have o : (1 : Int32).toInt = 1 := rfl
  have a := gz_a zat 1 (by omega) (by omega)
  have e : zat.toNatClampNeg = zat.toInt.toNat := rfl
  have ne : ¬ zat.toInt = E := by
    intro q
    apply hc
    rw [← h, e, q, Int.toNat_natCast]
    exact hz
  omega
theorem g_stay {a1 zat : Int32} {E : Nat} (h : a1 = zat) (h1 : zat.toInt ≤ E) : zat.toInt ≤ a1.toInt ∧ a1.toInt ≤ E := by
  rw [h]
  exact ⟨Int.le_refl _, h1⟩
theorem g_go {a1 zat : Int32} {E : Nat} (h : a1 = zat + 1) (q : (zat + 1).toInt = zat.toInt + 1 ∧ zat.toInt + 1 ≤ E) : zat.toInt ≤ a1.toInt ∧ a1.toInt ≤ E := by
  rw [h]
  omega
theorem v_wantSign {r f1 f2 a1 sg : Int32} {zfk zfp : Int32} {zkk zkp : Nat → Int32} {zkv : Nat → Int64} {zat : Int32} {E : Nat} (hw : (r, f1, f2, a1) = m_Mod_wantSign zfk zfp zkk zkp zkv zat sg) (hz : zkk E = 0) (h0 : 0 ≤ zat.toInt) (h1 : zat.toInt ≤ E) (hE : (E : Int) ≤ 480) : zat.toInt ≤ a1.toInt ∧ a1.toInt ≤ E := by
  unfold m_Mod_wantSign at hw
  split at hw
  · rename_i c
    split at hw
    · simp only [Prod.mk.injEq] at hw
      exact g_go hw.2.2.2 (g_adv c (by decide) hz h0 h1 hE)
    · split at hw
      simp only [Prod.mk.injEq] at hw
      exact g_stay hw.2.2.2 h1
  · split at hw
    simp only [Prod.mk.injEq] at hw
    exact g_stay hw.2.2.2 h1
theorem v_wantComma {r f1 f2 a1 : Int32} {zfk zfp : Int32} {zkk zkp : Nat → Int32} {zkv : Nat → Int64} {zat : Int32} {E : Nat} (hw : (r, f1, f2, a1) = m_Mod_wantComma zfk zfp zkk zkp zkv zat) (hz : zkk E = 0) (h0 : 0 ≤ zat.toInt) (h1 : zat.toInt ≤ E) (hE : (E : Int) ≤ 480) : zat.toInt ≤ a1.toInt ∧ a1.toInt ≤ E := by
  unfold m_Mod_wantComma at hw
  split at hw
  rename_i e
  simp only [Prod.mk.injEq] at hw
  rw [hw.2.2.2]
  exact v_wantSign e.symm hz h0 h1 hE
theorem v_wantRegister {r f1 f2 a1 d1 zmd sh : Int32} {zfk zfp : Int32} {zkk zkp : Nat → Int32} {zkv : Nat → Int64} {zat : Int32} {E : Nat} (hw : (r, f1, f2, a1, d1) = m_Mod_wantRegister zfk zfp zkk zkp zkv zat zmd sh) (hz : zkk E = 0) (h0 : 0 ≤ zat.toInt) (h1 : zat.toInt ≤ E) (hE : (E : Int) ≤ 480) : zat.toInt ≤ a1.toInt ∧ a1.toInt ≤ E := by
  unfold m_Mod_wantRegister at hw
  split at hw
  · rename_i c
    split at hw
    · split at hw
      simp only [Prod.mk.injEq] at hw
      exact g_stay hw.2.2.2.1 h1
    · split at hw
      · simp only [Prod.mk.injEq] at hw
        exact g_go hw.2.2.2.1 (g_adv c (by decide) hz h0 h1 hE)
      · split at hw
        simp only [Prod.mk.injEq] at hw
        exact g_stay hw.2.2.2.1 h1
  · split at hw
    simp only [Prod.mk.injEq] at hw
    exact g_stay hw.2.2.2.1 h1
theorem v_isSign {zkk : Nat → Int32} {zkv : Nat → Int64} {zat sg : Int32} (h : ¬ m_Mod_isSign zkk zkv zat sg = 0) : zkk zat.toNatClampNeg = 3 := by
  unfold m_Mod_isSign at h
  split at h
  · rename_i c; exact c
  · exact absurd rfl h
theorem v_wn1 {r f1 f2 a1 : Int32} {k1 : Nat → Int32} {l1 : Nat → Int64} {p1 : Nat → Int32} {d1 : Int32} {g1 : Int64} {zpn : Int32} {zpk : Nat → Int32} {zpl : Nat → Int64} {zpp : Nat → Int32} {zmd : Int32} {zgv : Int64} {zfk zfp : Int32} {zkk zkp : Nat → Int32} {zkv : Nat → Int64} {zat : Int32} {E : Nat} (hw : (r, f1, f2, a1, k1, l1, p1, d1, g1) = m_Mod_wn1 zfk zfp zkk zkp zkv zat zpn zpk zpl zpp zmd zgv) (hz : zkk E = 0) (h0 : 0 ≤ zat.toInt) (h1 : zat.toInt ≤ E) (hE : (E : Int) ≤ 480) : zat.toInt ≤ a1.toInt ∧ a1.toInt ≤ E := by
  unfold m_Mod_wn1 at hw
  split at hw
  · split at hw
    · rename_i c
      simp only [Prod.mk.injEq] at hw
      exact g_go hw.2.2.2.1 (g_adv c (by decide) hz h0 h1 hE)
    · split at hw
      · rename_i c
        have q := g_adv c (by decide) hz h0 h1 hE
        repeat' split at hw
        all_goals (simp only [Prod.mk.injEq] at hw; exact g_go hw.2.2.2.1 q)
      · split at hw
        simp only [Prod.mk.injEq] at hw
        exact g_stay hw.2.2.2.1 h1
  · rename_i cs
    have q := g_adv (v_isSign cs) (by decide) hz h0 h1 hE
    split at hw
    · rename_i c
      have q2 := g_adv (zat := zat + 1) c (by decide) hz (by omega) (by omega) hE
      repeat' split at hw
      all_goals (simp only [Prod.mk.injEq] at hw; rw [hw.2.2.2.1]; omega)
    · split at hw
      simp only [Prod.mk.injEq] at hw
      rw [hw.2.2.2.1]
      omega
theorem v_wn2 {r f1 f2 a1 : Int32} {k1 : Nat → Int32} {l1 : Nat → Int64} {p1 : Nat → Int32} {d1 : Int32} {g1 : Int64} {zpn : Int32} {zpk : Nat → Int32} {zpl : Nat → Int64} {zpp : Nat → Int32} {zmd : Int32} {zgv : Int64} {zfk zfp : Int32} {zkk zkp : Nat → Int32} {zkv : Nat → Int64} {zat : Int32} {E : Nat} (hw : (r, f1, f2, a1, k1, l1, p1, d1, g1) = m_Mod_wn2 zfk zfp zkk zkp zkv zat zpn zpk zpl zpp zmd zgv) (hz : zkk E = 0) (h0 : 0 ≤ zat.toInt) (h1 : zat.toInt ≤ E) (hE : (E : Int) ≤ 480) : zat.toInt ≤ a1.toInt ∧ a1.toInt ≤ E := by
  unfold m_Mod_wn2 at hw
  split at hw
  · split at hw
    · rename_i c
      simp only [Prod.mk.injEq] at hw
      exact g_go hw.2.2.2.1 (g_adv c (by decide) hz h0 h1 hE)
    · split at hw
      · rename_i c
        have q := g_adv c (by decide) hz h0 h1 hE
        repeat' split at hw
        all_goals (simp only [Prod.mk.injEq] at hw; exact g_go hw.2.2.2.1 q)
      · split at hw
        simp only [Prod.mk.injEq] at hw
        exact g_stay hw.2.2.2.1 h1
  · rename_i cs
    have q := g_adv (v_isSign cs) (by decide) hz h0 h1 hE
    split at hw
    · rename_i c
      have q2 := g_adv (zat := zat + 1) c (by decide) hz (by omega) (by omega) hE
      repeat' split at hw
      all_goals (simp only [Prod.mk.injEq] at hw; rw [hw.2.2.2.1]; omega)
    · split at hw
      simp only [Prod.mk.injEq] at hw
      rw [hw.2.2.2.1]
      omega
theorem v_wn32 {r f1 f2 a1 : Int32} {k1 : Nat → Int32} {l1 : Nat → Int64} {p1 : Nat → Int32} {d1 : Int32} {g1 : Int64} {zpn : Int32} {zpk : Nat → Int32} {zpl : Nat → Int64} {zpp : Nat → Int32} {zmd : Int32} {zgv : Int64} {zfk zfp : Int32} {zkk zkp : Nat → Int32} {zkv : Nat → Int64} {zat : Int32} {E : Nat} (hw : (r, f1, f2, a1, k1, l1, p1, d1, g1) = m_Mod_wn32 zfk zfp zkk zkp zkv zat zpn zpk zpl zpp zmd zgv) (hz : zkk E = 0) (h0 : 0 ≤ zat.toInt) (h1 : zat.toInt ≤ E) (hE : (E : Int) ≤ 480) : zat.toInt ≤ a1.toInt ∧ a1.toInt ≤ E := by
  unfold m_Mod_wn32 at hw
  split at hw
  · split at hw
    · rename_i c
      simp only [Prod.mk.injEq] at hw
      exact g_go hw.2.2.2.1 (g_adv c (by decide) hz h0 h1 hE)
    · split at hw
      · rename_i c
        have q := g_adv c (by decide) hz h0 h1 hE
        repeat' split at hw
        all_goals (simp only [Prod.mk.injEq] at hw; exact g_go hw.2.2.2.1 q)
      · split at hw
        simp only [Prod.mk.injEq] at hw
        exact g_stay hw.2.2.2.1 h1
  · rename_i cs
    have q := g_adv (v_isSign cs) (by decide) hz h0 h1 hE
    split at hw
    · rename_i c
      have q2 := g_adv (zat := zat + 1) c (by decide) hz (by omega) (by omega) hE
      repeat' split at hw
      all_goals (simp only [Prod.mk.injEq] at hw; rw [hw.2.2.2.1]; omega)
    · split at hw
      simp only [Prod.mk.injEq] at hw
      rw [hw.2.2.2.1]
      omega
theorem v_wn33 {r f1 f2 a1 : Int32} {k1 : Nat → Int32} {g1 : Int64} {zpn : Int32} {zpk : Nat → Int32} {zgv : Int64} {zfk zfp : Int32} {zkk zkp : Nat → Int32} {zkv : Nat → Int64} {zat : Int32} {E : Nat} (hw : (r, f1, f2, a1, k1, g1) = m_Mod_wn33 zfk zfp zkk zkp zkv zat zpn zpk zgv) (hz : zkk E = 0) (h0 : 0 ≤ zat.toInt) (h1 : zat.toInt ≤ E) (hE : (E : Int) ≤ 480) : zat.toInt ≤ a1.toInt ∧ a1.toInt ≤ E := by
  unfold m_Mod_wn33 at hw
  split at hw
  · rename_i c
    have q := g_adv c (by decide) hz h0 h1 hE
    repeat' split at hw
    all_goals (simp only [Prod.mk.injEq] at hw; exact g_go hw.2.2.2.1 q)
  · split at hw
    simp only [Prod.mk.injEq] at hw
    exact g_stay hw.2.2.2.1 h1
theorem v_wn34 {r f1 f2 a1 : Int32} {k1 : Nat → Int32} {g1 : Int64} {zpn : Int32} {zpk : Nat → Int32} {zgv : Int64} {zfk zfp : Int32} {zkk zkp : Nat → Int32} {zkv : Nat → Int64} {zat : Int32} {E : Nat} (hw : (r, f1, f2, a1, k1, g1) = m_Mod_wn34 zfk zfp zkk zkp zkv zat zpn zpk zgv) (hz : zkk E = 0) (h0 : 0 ≤ zat.toInt) (h1 : zat.toInt ≤ E) (hE : (E : Int) ≤ 480) : zat.toInt ≤ a1.toInt ∧ a1.toInt ≤ E := by
  unfold m_Mod_wn34 at hw
  split at hw
  · rename_i c
    have q := g_adv c (by decide) hz h0 h1 hE
    repeat' split at hw
    all_goals (simp only [Prod.mk.injEq] at hw; exact g_go hw.2.2.2.1 q)
  · split at hw
    simp only [Prod.mk.injEq] at hw
    exact g_stay hw.2.2.2.1 h1
