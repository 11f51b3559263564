theorem e_m32 : ∀ i, i < 32 → (255#32).getLsbD i = decide (i < 8) := by decide
theorem e_m64 : ∀ i, i < 64 → (255#64).getLsbD i = decide (i < 8) := by decide
theorem e_byteK (b : BitVec 64) (k : Nat) (hk : k ≤ 56) : ((b >>> k).signExtend 32) &&& 255#32 = ((b.sshiftRight k) &&& 255#64).signExtend 32 := by
  apply BitVec.eq_of_getLsbD_eq
  intro i hi
  rw [BitVec.getLsbD_and, BitVec.getLsbD_signExtend, BitVec.getLsbD_signExtend, BitVec.getLsbD_and, e_m32 i hi, e_m64 i (by omega), BitVec.getLsbD_ushiftRight, BitVec.getLsbD_sshiftRight]
  have h1 : i < 64 := by omega
  have h2 : ¬ 64 ≤ i := by omega
  by_cases h8 : i < 8
  · have h3 : k + i < 64 := by omega
    simp [h8, hi, h1, h2, h3]
  · have d : decide (i < 8) = false := decide_eq_false h8
    rw [if_pos h1, if_pos h1, d, Bool.and_false, Bool.and_false, Bool.and_false]
theorem e_byte0 (w : Int64) : m_Tape_byteOf w 0 = (((w >>> ((8 * (0 : Int32)).toInt64 &&& 63))) &&& 255).toInt32 := Int32.toBitVec_inj.mp (e_byteK w.toBitVec 0 (by decide))
theorem e_byte1 (w : Int64) : m_Tape_byteOf w 1 = (((w >>> ((8 * (1 : Int32)).toInt64 &&& 63))) &&& 255).toInt32 := Int32.toBitVec_inj.mp (e_byteK w.toBitVec 8 (by decide))
theorem e_byte2 (w : Int64) : m_Tape_byteOf w 2 = (((w >>> ((8 * (2 : Int32)).toInt64 &&& 63))) &&& 255).toInt32 := Int32.toBitVec_inj.mp (e_byteK w.toBitVec 16 (by decide))
theorem e_byte3 (w : Int64) : m_Tape_byteOf w 3 = (((w >>> ((8 * (3 : Int32)).toInt64 &&& 63))) &&& 255).toInt32 := Int32.toBitVec_inj.mp (e_byteK w.toBitVec 24 (by decide))
theorem e_byte4 (w : Int64) : m_Tape_byteOf w 4 = (((w >>> ((8 * (4 : Int32)).toInt64 &&& 63))) &&& 255).toInt32 := Int32.toBitVec_inj.mp (e_byteK w.toBitVec 32 (by decide))
theorem e_byte5 (w : Int64) : m_Tape_byteOf w 5 = (((w >>> ((8 * (5 : Int32)).toInt64 &&& 63))) &&& 255).toInt32 := Int32.toBitVec_inj.mp (e_byteK w.toBitVec 40 (by decide))
theorem e_byte6 (w : Int64) : m_Tape_byteOf w 6 = (((w >>> ((8 * (6 : Int32)).toInt64 &&& 63))) &&& 255).toInt32 := Int32.toBitVec_inj.mp (e_byteK w.toBitVec 48 (by decide))
theorem e_byte7 (w : Int64) : m_Tape_byteOf w 7 = (((w >>> ((8 * (7 : Int32)).toInt64 &&& 63))) &&& 255).toInt32 := Int32.toBitVec_inj.mp (e_byteK w.toBitVec 56 (by decide))
theorem e_byte (w : Int64) (i : Int32) (h0 : 0 ≤ i.toInt) (h1 : i.toInt < 8) : m_Tape_byteOf w i = (((w >>> ((8 * i).toInt64 &&& 63))) &&& 255).toInt32 := by
  have h : i.toInt = 0 ∨ i.toInt = 1 ∨ i.toInt = 2 ∨ i.toInt = 3 ∨ i.toInt = 4 ∨ i.toInt = 5 ∨ i.toInt = 6 ∨ i.toInt = 7 := by omega
  rcases h with h | h | h | h | h | h | h | h
  · have e : i = 0 := Int32.toInt_inj.mp h
    subst e; exact e_byte0 w
  · have e : i = 1 := Int32.toInt_inj.mp h
    subst e; exact e_byte1 w
  · have e : i = 2 := Int32.toInt_inj.mp h
    subst e; exact e_byte2 w
  · have e : i = 3 := Int32.toInt_inj.mp h
    subst e; exact e_byte3 w
  · have e : i = 4 := Int32.toInt_inj.mp h
    subst e; exact e_byte4 w
  · have e : i = 5 := Int32.toInt_inj.mp h
    subst e; exact e_byte5 w
  · have e : i = 6 := Int32.toInt_inj.mp h
    subst e; exact e_byte6 w
  · have e : i = 7 := Int32.toInt_inj.mp h
    subst e; exact e_byte7 w
theorem e_nb : ∀ k, k < 127 → vp_nar .byte ((Int32.ofNat k).toInt8.toInt32) = Int32.ofNat k := by decide +kernel
theorem e_narb {b : Int32} (h0 : 32 ≤ b.toInt) (h1 : b.toInt ≤ 126) : vp_nar .byte (b.toInt8.toInt32) = b := by
  have e : b = Int32.ofNat b.toInt.toNat := Int32.toInt_inj.mp (by rw [Int32.toInt_ofNat_of_lt (by omega)]; omega)
  rw [e]
  exact e_nb _ (by omega)
theorem e_allt {w : Int64} {k zth ztn : Int32} {zta : Nat → Int32} (hk : k.toInt ≤ 8) : ∀ (n : Nat) (x : Int32), 0 ≤ x.toInt → (k.toInt - x.toInt).toNat < n →
    (m_Tape_allTypable_L2 w k n x = 0 ∧ m_Mod_type_L33 w k n x zth zta ztn = (0, zth, zta, ztn)) ∨ (m_Tape_allTypable_L2 w k n x = 1 ∧ m_Mod_type_L33 w k n x zth zta ztn = m_Mod_type_L80 w k (((k - 1).toInt + 1).toNat + 1) (k - 1) zth zta ztn ∧ ∀ i : Int32, x.toInt ≤ i.toInt → i.toInt < k.toInt → 32 ≤ (m_Tape_byteOf w i).toInt ∧ (m_Tape_byteOf w i).toInt ≤ 126) := by
  intro n
  have o : (1 : Int32).toInt = 1 := rfl
  have z32 : (32 : Int32).toInt = 32 := rfl
  have z126 : (126 : Int32).toInt = 126 := rfl
  induction n with
  | zero => intro x h0 h1; omega
  | succ n ih =>
    intro x h0 h1
    unfold m_Tape_allTypable_L2 m_Mod_type_L33
    by_cases c : k ≤ x
    · have q := Int32.le_iff_toInt_le.mp c
      rw [if_pos c, if_pos c]
      exact Or.inr ⟨rfl, rfl, fun i a b => by omega⟩
    · have q := mt Int32.le_iff_toInt_le.mpr c
      have a := gz_a x 1 (by omega) (by omega)
      rw [if_neg c, if_neg c, ← e_byte w x h0 (by omega)]
      by_cases c1 : m_Tape_byteOf w x < 32
      · rw [if_pos c1, if_pos c1]
        exact Or.inl ⟨rfl, rfl⟩
      · have q1 := mt Int32.lt_iff_toInt_lt.mpr c1
        rw [if_neg c1, if_neg c1]
        by_cases c2 : m_Tape_byteOf w x ≤ 126
        · have q2 := Int32.le_iff_toInt_le.mp c2
          rw [if_pos c2, if_pos c2]
          rcases ih (x + 1) (by omega) (by omega) with I | ⟨I1, I2, I3⟩
          · exact Or.inl I
          · refine Or.inr ⟨I1, I2, fun i a1 b1 => ?_⟩
            by_cases e : i.toInt = x.toInt
            · rw [Int32.toInt_inj.mp e]; omega
            · exact I3 i (by omega) b1
        · rw [if_neg c2, if_neg c2]
          exact Or.inl ⟨rfl, rfl⟩
theorem e_tape_push {tc zta : Nat → Int32} {tn ztn : Int32} (b : Int32) (h : e_tape tc tn zta ztn) (h1 : ztn.toInt < 480) : e_tape (upd tc tn.toNatClampNeg b) (tn + 1) (upd zta ztn.toNatClampNeg b) (ztn + 1) := by
  obtain ⟨rfl, t1, t2, t3⟩ := h
  obtain ⟨k1, k2, k3⟩ := e_cl1 (x := tn) t1 (by omega)
  refine ⟨rfl, by omega, by omega, fun i hi => ?_⟩
  unfold upd
  by_cases e : i = tn.toNatClampNeg
  · rw [if_pos e, if_pos e]
  · rw [if_neg e, if_neg e]; exact t3 i (by omega)
theorem e_app80 {w : Int64} {k zth : Int32} : ∀ (n : Nat) (x tn ztn : Int32) (tc zta : Nat → Int32), e_tape tc tn zta ztn → -1 ≤ x.toInt → x.toInt ≤ 7 → ztn.toInt + x.toInt + 1 ≤ 480 → (x.toInt + 1).toNat < n → (∀ i : Int32, 0 ≤ i.toInt → i.toInt ≤ x.toInt → 32 ≤ (m_Tape_byteOf w i).toInt ∧ (m_Tape_byteOf w i).toInt ≤ 126) →
    ∃ tc' tn' zta' ztn', m_Tape_append_L38 w k n x tc tn = (1, tc', tn') ∧ m_Mod_type_L80 w k n x zth zta ztn = (1, zth, zta', ztn') ∧ e_tape tc' tn' zta' ztn' := by
  intro n
  have z0 : (0 : Int32).toInt = 0 := rfl
  induction n with
  | zero => intro x tn ztn tc zta h h0 h1 h2 h3; omega
  | succ n ih =>
    intro x tn ztn tc zta h h0 h1 h2 h3 hb
    unfold m_Tape_append_L38 m_Mod_type_L80
    by_cases c : x < 0
    · rw [if_pos c, if_pos c]
      exact ⟨tc, tn, zta, ztn, rfl, rfl, h⟩
    · have q := mt Int32.lt_iff_toInt_lt.mpr c
      have d := gz_d x (by omega)
      obtain ⟨b1, b2⟩ := hb x (by omega) (Int.le_refl _)
      rw [if_neg c, if_neg c, e_narb b1 b2, ← e_byte w x (by omega) (by omega)]
      have hx0 : 0 ≤ x.toInt := by omega
      generalize x + (-1) = y at d ⊢
      generalize m_Tape_byteOf w x = bb
      have T := e_tape_push bb h (by omega)
      obtain ⟨k1, k2, k3⟩ := e_cl1 (x := ztn) h.2.1 (by omega)
      exact ih y _ _ _ _ T (by omega) (by omega) (by omega) (by omega) (fun i a1 a2 => hb i a1 (by omega))
theorem e_type {w : Int64} {k tn ztn : Int32} {tc zta : Nat → Int32} (h : e_tape tc tn zta ztn) (zth : Int32) : ∃ r tc' tn' zta' ztn', m_Desk_type tc tn w k = (r, tc', tn') ∧ m_Mod_type zth zta ztn w k = (r, 0, zta', ztn') ∧ e_tape tc' tn' zta' ztn' := by
  have h' := h
  obtain ⟨e0, t1, t2, t3⟩ := h'
  have o : (1 : Int32).toInt = 1 := rfl
  have z0 : (0 : Int32).toInt = 0 := rfl
  have z8 : (8 : Int32).toInt = 8 := rfl
  have z480 : (480 : Int32).toInt = 480 := rfl
  unfold m_Desk_type m_Tape_append m_Mod_type m_Tape_allTypable
  by_cases c1 : k < 1
  · simp only [if_pos c1]; exact ⟨0, tc, tn, zta, ztn, rfl, rfl, h⟩
  · have q1 := mt Int32.lt_iff_toInt_lt.mpr c1
    by_cases c2 : 8 < k
    · simp only [if_neg c1, if_pos c2]; exact ⟨0, tc, tn, zta, ztn, rfl, rfl, h⟩
    · have q2 := mt Int32.lt_iff_toInt_lt.mpr c2
      have a := gz_a ztn k (by omega) (by omega)
      rw [e0]
      by_cases c3 : ztn + k ≤ 480
      · have q3 := Int32.le_iff_toInt_le.mp c3
        have c3' : ¬ 480 < ztn + k := fun z => by have z2 := Int32.lt_iff_toInt_lt.mp z; omega
        simp only [if_neg c1, if_neg c2, if_pos c3, if_neg c3']
        have s := gz_s k 1 (by omega) (by omega)
        rcases e_allt (w := w) (k := k) (zth := 0) (ztn := ztn) (zta := zta) (by omega) ((k.toInt - (0 : Int32).toInt).toNat + 1) 0 (by omega) (by omega) with ⟨A1, A2⟩ | ⟨A1, A2, A3⟩
        · rw [A1, A2, if_pos (rfl : (0 : Int32) = 0)]
          rw [e0] at h
          exact ⟨0, tc, ztn, zta, ztn, rfl, rfl, h⟩
        · rw [A1, A2, if_neg (show ¬ (1 : Int32) = 0 by decide)]
          rw [e0] at h
          obtain ⟨tc', tn', zta', ztn', B1, B2, B3⟩ := e_app80 (w := w) (k := k) (zth := 0) (((k - 1).toInt + 1).toNat + 1) (k - 1) ztn ztn tc zta h (by omega) (by omega) (by omega) (by omega) (fun i a1 a2 => A3 i (by omega) (by omega))
          rw [B1, B2]
          exact ⟨1, tc', tn', zta', ztn', rfl, rfl, B3⟩
      · have q3 := mt Int32.le_iff_toInt_le.mpr c3
        have c3' : 480 < ztn + k := Int32.lt_iff_toInt_lt.mpr (by omega)
        simp only [if_neg c1, if_neg c2, if_neg c3, if_pos c3']
        rw [e0] at h
        exact ⟨0, tc, ztn, zta, ztn, rfl, rfl, h⟩
theorem e_fillL {fn : Nat} {fv : Int32} {N : Int32} : ∀ (n : Nat) (x : Int32) (f : Nat → Int32), 0 ≤ x.toInt → x.toInt ≤ N.toInt → N.toInt ≤ 1000 → (N.toInt - x.toInt).toNat < n → (∀ i : Nat, (i : Int) < x.toInt → f i = fv) → ∀ i : Nat, (i : Int) < N.toInt → m_Arrays_fill_L5 fn fv n x N f i = fv := by
  intro n
  induction n with
  | zero => intro x f h0 h1 h2 h3; omega
  | succ n ih =>
    intro x f h0 h1 h2 h3 hf i hi
    unfold m_Arrays_fill_L5
    by_cases c : N ≤ x
    · have q := Int32.le_iff_toInt_le.mp c
      rw [if_pos c]
      exact hf i (by omega)
    · have q := mt Int32.le_iff_toInt_le.mpr c
      rw [if_neg c]
      obtain ⟨k1, k2, k3⟩ := e_cl1 (x := x) h0 (by omega)
      refine ih (x + 1) _ (by omega) (by omega) h2 (by omega) (fun j hj => ?_) i hi
      unfold upd
      by_cases e : j = x.toNatClampNeg
      · rw [if_pos e]
      · rw [if_neg e]; exact hf j (by omega)
theorem e_fill256 (f : Nat → Int32) : ∀ i, i < 256 → m_Arrays_fill 256 f 0 i = 0 := fun i hi => by
  have e : (Int32.ofNat 256).toInt = 256 := rfl
  have z0 : (0 : Int32).toInt = 0 := rfl
  exact e_fillL _ 0 f (by omega) (by omega) (by omega) (by omega) (fun j hj => by omega) i (by omega)
theorem e_fill4 (f : Nat → Int32) : ∀ i, i < 4 → m_Arrays_fill 4 f 0 i = 0 := fun i hi => by
  have e : (Int32.ofNat 4).toInt = 4 := rfl
  have z0 : (0 : Int32).toInt = 0 := rfl
  exact e_fillL _ 0 f (by omega) (by omega) (by omega) (by omega) (fun j hj => by omega) i (by omega)
theorem e_and255 : ∀ k, k < 257 → (Int32.ofNat k) &&& 255 = e_nm (Int32.ofNat k) := by decide +kernel
theorem e_nm255 {b : Int32} (h0 : 0 ≤ b.toInt) (h1 : b.toInt ≤ 256) : b &&& 255 = e_nm b := by
  have e : b = Int32.ofNat b.toInt.toNat := Int32.toInt_inj.mp (by rw [Int32.toInt_ofNat_of_lt (by omega)]; omega)
  rw [e]
  exact e_and255 _ (by omega)
