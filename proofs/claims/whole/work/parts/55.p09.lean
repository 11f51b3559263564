/-! both readers of one tape make one row of tokens -/
def e_tape (tc : Nat → Int32) (tn : Int32) (zta : Nat → Int32) (ztn : Int32) : Prop := tn = ztn ∧ 0 ≤ ztn.toInt ∧ ztn.toInt ≤ 480 ∧ ∀ i : Nat, (i : Int) < ztn.toInt → tc i = zta i
def e_tr (zkk zkp : Nat → Int32) (zkv : Nat → Int64) (kk kp : Nat → Int32) (kv : Nat → Int64) (i : Nat) : Prop :=
  kp i = zkp i ∧ ((zkk i = 4 ∧ kk i = 1) ∨ (zkk i = 1 ∧ kk i = 2 ∧ kv i = zkv i) ∨ (zkk i = 2 ∧ kk i = 3 ∧ kv i = zkv i) ∨ (zkk i = 3 ∧ zkv i = (kk i).toInt64 ∧ 40 ≤ (kk i).toInt))
theorem e_at {tc : Nat → Int32} {tn : Int32} {zta : Nat → Int32} {ztn k : Int32} (h : e_tape tc tn zta ztn) (h0 : 0 ≤ k.toInt) (h1 : k.toInt < ztn.toInt) : m_Tape_at tc tn k = zta k.toNatClampNeg ∧ m_Mod_see zta ztn k = zta k.toNatClampNeg := by
  obtain ⟨rfl, -, -, h2⟩ := h
  have z : (0 : Int32).toInt = 0 := rfl
  have e : k.toNatClampNeg = k.toInt.toNat := rfl
  constructor
  · unfold m_Tape_at
    rw [if_neg (fun q => by have q2 := Int32.lt_iff_toInt_lt.mp q; omega), if_pos (Int32.lt_iff_toInt_lt.mpr h1)]
    exact h2 _ (by omega)
  · unfold m_Mod_see
    rw [if_neg (fun q => by have q2 := Int32.le_iff_toInt_le.mp q; omega)]
theorem e_see_end {zta : Nat → Int32} {ztn k : Int32} (h1 : ¬ k.toInt < ztn.toInt) : m_Mod_see zta ztn k = 0 := v_see0 h1
theorem e_nameL {tc : Nat → Int32} {tn : Int32} {zta : Nat → Int32} {ztn : Int32} (h : e_tape tc tn zta ztn) {fr : Int32} (f0 : 0 ≤ fr.toInt) (kk kp : Nat → Int32) (kv : Nat → Int64) (kn : Int32) : ∀ (n n' : Nat) (k : Int32) (X Y : Int64), fr.toInt ≤ k.toInt → k.toInt ≤ ztn.toInt → (ztn.toInt - k.toInt).toNat < n → (ztn.toInt - k.toInt).toNat < n' → (k.toInt - fr.toInt ≤ 6 → X = Y) →
    ∃ k' X', (m_Mod_tokenize_I196 zta ztn fr n k Y).1 = k' ∧ k.toInt ≤ k'.toInt ∧ k'.toInt ≤ ztn.toInt ∧ (k'.toInt - fr.toInt ≤ 6 → X' = (m_Mod_tokenize_I196 zta ztn fr n k Y).2) ∧ m_Tokens_scanName_L7 ztn tc tn n' fr X kk kp kv kn k = ((m_Tokens_add kk kp kv kn (if 6 < k' - fr then 1 else 2) fr X').1, (m_Tokens_add kk kp kv kn (if 6 < k' - fr then 1 else 2) fr X').2.1, (m_Tokens_add kk kp kv kn (if 6 < k' - fr then 1 else 2) fr X').2.2.1, (m_Tokens_add kk kp kv kn (if 6 < k' - fr then 1 else 2) fr X').2.2.2, k') := by
  intro n
  have o : (1 : Int32).toInt = 1 := rfl
  have z6 : (6 : Int32).toInt = 6 := rfl
  have hz := h.2.2.1
  have hz0 := h.2.1
  induction n with
  | zero => intro n' k X Y h1 h2 h3; omega
  | succ n ih =>
    intro n' k X Y h1 h2 h3 h4 h5
    obtain ⟨n', rfl⟩ : ∃ j, n' = j + 1 := ⟨n' - 1, by omega⟩
    unfold m_Tokens_scanName_L7 m_Mod_tokenize_I196
    by_cases c : k.toInt < ztn.toInt
    · obtain ⟨a1, a2⟩ := e_at h (by omega) c
      have a := gz_a k 1 (by omega) (by omega)
      have s := gz_s k fr (by omega) (by omega)
      rw [if_neg (show ¬ ztn ≤ k from fun q => by have q2 := Int32.le_iff_toInt_le.mp q; omega), a1, a2]
      have go : ∃ k' X', (if 6 ≤ k - fr then m_Mod_tokenize_I196 zta ztn fr n (k + 1) Y else m_Mod_tokenize_I196 zta ztn fr n (k + 1) (((Y <<< ((8 : Int32).toInt64 &&& 63))) ||| ((zta k.toNatClampNeg).toInt64))).1 = k' ∧ k.toInt ≤ k'.toInt ∧ k'.toInt ≤ ztn.toInt ∧ (k'.toInt - fr.toInt ≤ 6 → X' = (if 6 ≤ k - fr then m_Mod_tokenize_I196 zta ztn fr n (k + 1) Y else m_Mod_tokenize_I196 zta ztn fr n (k + 1) (((Y <<< ((8 : Int32).toInt64 &&& 63))) ||| ((zta k.toNatClampNeg).toInt64))).2) ∧ m_Tokens_scanName_L7 ztn tc tn n' fr (((X <<< ((8 : Int32).toInt64 &&& 63))) ||| ((zta k.toNatClampNeg).toInt64)) kk kp kv kn (k + 1) = ((m_Tokens_add kk kp kv kn (if 6 < k' - fr then 1 else 2) fr X').1, (m_Tokens_add kk kp kv kn (if 6 < k' - fr then 1 else 2) fr X').2.1, (m_Tokens_add kk kp kv kn (if 6 < k' - fr then 1 else 2) fr X').2.2.1, (m_Tokens_add kk kp kv kn (if 6 < k' - fr then 1 else 2) fr X').2.2.2, k') := by
        by_cases c6 : 6 ≤ k - fr
        · have q := Int32.le_iff_toInt_le.mp c6
          rw [if_pos c6]
          obtain ⟨k', X', i1, i2, i3, i4, i5⟩ := ih n' (k + 1) (((X <<< ((8 : Int32).toInt64 &&& 63))) ||| ((zta k.toNatClampNeg).toInt64)) Y (by omega) (by omega) (by omega) (by omega) (fun q2 => by omega)
          exact ⟨k', X', i1, by omega, i3, i4, i5⟩
        · have q := mt Int32.le_iff_toInt_le.mpr c6
          rw [if_neg c6]
          obtain ⟨k', X', i1, i2, i3, i4, i5⟩ := ih n' (k + 1) (((X <<< ((8 : Int32).toInt64 &&& 63))) ||| ((zta k.toNatClampNeg).toInt64)) (((Y <<< ((8 : Int32).toInt64 &&& 63))) ||| ((zta k.toNatClampNeg).toInt64)) (by omega) (by omega) (by omega) (by omega) (fun q2 => by rw [h5 (by omega)])
          exact ⟨k', X', i1, by omega, i3, i4, i5⟩
      by_cases cl : m_Mod_isSmall (zta k.toNatClampNeg) = 0
      · have cl' : m_Tokens_isLetter (zta k.toNatClampNeg) = 0 := cl
        rw [if_pos cl, if_pos cl']
        by_cases cd : m_Mod_isDigit (zta k.toNatClampNeg) = 0
        · have cd' : m_Tokens_isDigit (zta k.toNatClampNeg) = 0 := cd
          rw [if_pos cd, if_pos cd']
          refine ⟨k, X, rfl, Int.le_refl _, h2, h5, ?_⟩
          by_cases c6 : 6 < k - fr
          · rw [if_pos c6, if_pos c6]
          · rw [if_neg c6, if_neg c6]
        · have cd' : ¬ m_Tokens_isDigit (zta k.toNatClampNeg) = 0 := cd
          rw [if_neg cd, if_neg cd']
          exact go
      · have cl' : ¬ m_Tokens_isLetter (zta k.toNatClampNeg) = 0 := cl
        rw [if_neg cl, if_neg cl']
        exact go
    · have e0 := e_see_end (zta := zta) c
      rw [if_pos (show ztn ≤ k from Int32.le_iff_toInt_le.mpr (by omega)), e0]
      have s0 : m_Mod_isSmall 0 = 0 := rfl
      have d0 : m_Mod_isDigit 0 = 0 := rfl
      rw [if_pos s0, if_pos d0]
      refine ⟨k, X, rfl, Int.le_refl _, h2, h5, ?_⟩
      by_cases c6 : 6 < k - fr
      · rw [if_pos c6, if_pos c6]
      · rw [if_neg c6, if_neg c6]
theorem e_numL {tc : Nat → Int32} {tn : Int32} {zta : Nat → Int32} {ztn : Int32} (h : e_tape tc tn zta ztn) {fr : Int32} (f0 : 0 ≤ fr.toInt) (kk kp : Nat → Int32) (kv : Nat → Int64) (kn : Int32) : ∀ (n n' : Nat) (k : Int32) (X Y : Int64), fr.toInt ≤ k.toInt → k.toInt ≤ ztn.toInt → (ztn.toInt - k.toInt).toNat < n → (ztn.toInt - k.toInt).toNat < n' → (k.toInt - fr.toInt ≤ 10 → X = Y) →
    ∃ k' X', (m_Mod_tokenize_I121 zta ztn fr n k Y).1 = k' ∧ k.toInt ≤ k'.toInt ∧ k'.toInt ≤ ztn.toInt ∧ (k'.toInt - fr.toInt ≤ 10 → X' = (m_Mod_tokenize_I121 zta ztn fr n k Y).2) ∧ m_Tokens_scanNumber_L7 ztn tc tn n' fr X kk kp kv kn k = ((m_Tokens_add kk kp kv kn (if 10 < k' - fr then 1 else 3) fr X').1, (m_Tokens_add kk kp kv kn (if 10 < k' - fr then 1 else 3) fr X').2.1, (m_Tokens_add kk kp kv kn (if 10 < k' - fr then 1 else 3) fr X').2.2.1, (m_Tokens_add kk kp kv kn (if 10 < k' - fr then 1 else 3) fr X').2.2.2, k') := by
  intro n
  have o : (1 : Int32).toInt = 1 := rfl
  have z10 : (10 : Int32).toInt = 10 := rfl
  have hz := h.2.2.1
  have hz0 := h.2.1
  induction n with
  | zero => intro n' k X Y h1 h2 h3; omega
  | succ n ih =>
    intro n' k X Y h1 h2 h3 h4 h5
    obtain ⟨n', rfl⟩ : ∃ j, n' = j + 1 := ⟨n' - 1, by omega⟩
    unfold m_Tokens_scanNumber_L7 m_Mod_tokenize_I121
    by_cases c : k.toInt < ztn.toInt
    · obtain ⟨a1, a2⟩ := e_at h (by omega) c
      have a := gz_a k 1 (by omega) (by omega)
      have s := gz_s k fr (by omega) (by omega)
      rw [if_neg (show ¬ ztn ≤ k from fun q => by have q2 := Int32.le_iff_toInt_le.mp q; omega), a1, a2]
      by_cases cd : m_Mod_isDigit (zta k.toNatClampNeg) = 0
      · have cd' : m_Tokens_isDigit (zta k.toNatClampNeg) = 0 := cd
        rw [if_pos cd, if_pos cd']
        refine ⟨k, X, rfl, Int.le_refl _, h2, h5, ?_⟩
        by_cases c6 : 10 < k - fr
        · rw [if_pos c6, if_pos c6]
        · rw [if_neg c6, if_neg c6]
      · have cd' : ¬ m_Tokens_isDigit (zta k.toNatClampNeg) = 0 := cd
        rw [if_neg cd, if_neg cd']
        by_cases c6 : 10 ≤ k - fr
        · have q := Int32.le_iff_toInt_le.mp c6
          rw [if_pos c6]
          obtain ⟨k', X', i1, i2, i3, i4, i5⟩ := ih n' (k + 1) ((X * 10) + (((zta k.toNatClampNeg) - 48).toInt64)) Y (by omega) (by omega) (by omega) (by omega) (fun q2 => by omega)
          exact ⟨k', X', i1, by omega, i3, i4, i5⟩
        · have q := mt Int32.le_iff_toInt_le.mpr c6
          rw [if_neg c6]
          obtain ⟨k', X', i1, i2, i3, i4, i5⟩ := ih n' (k + 1) ((X * 10) + (((zta k.toNatClampNeg) - 48).toInt64)) (((10 * Y) + ((zta k.toNatClampNeg).toInt64)) - 48) (by omega) (by omega) (by omega) (by omega) (fun q2 => by rw [h5 (by omega), e_dstep (e_dg cd)])
          exact ⟨k', X', i1, by omega, i3, i4, i5⟩
    · have e0 := e_see_end (zta := zta) c
      rw [if_pos (show ztn ≤ k from Int32.le_iff_toInt_le.mpr (by omega)), e0]
      have d0 : m_Mod_isDigit 0 = 0 := rfl
      rw [if_pos d0]
      refine ⟨k, X, rfl, Int.le_refl _, h2, h5, ?_⟩
      by_cases c6 : 10 < k - fr
      · rw [if_pos c6, if_pos c6]
      · rw [if_neg c6, if_neg c6]
/-! what is scanned behind a bad token leaves the earlier ones -/
def e_keep (m : Nat) (kk kp : Nat → Int32) (kv : Nat → Int64) (kn : Int32) (kk' kp' : Nat → Int32) (kv' : Nat → Int64) (kn' : Int32) : Prop := kn.toInt ≤ kn'.toInt ∧ ∀ i, i < m → kk' i = kk i ∧ kp' i = kp i ∧ kv' i = kv i
theorem e_keep_add {m : Nat} {kk kp : Nat → Int32} {kv : Nat → Int64} {kn kd pl : Int32} {va : Int64} (hm : (m : Int) ≤ kn.toInt) : e_keep m kk kp kv kn (m_Tokens_add kk kp kv kn kd pl va).1 (m_Tokens_add kk kp kv kn kd pl va).2.1 (m_Tokens_add kk kp kv kn kd pl va).2.2.1 (m_Tokens_add kk kp kv kn kd pl va).2.2.2 := by
  unfold m_Tokens_add
  by_cases c : 480 ≤ kn
  · rw [if_pos c]
    exact ⟨Int.le_refl _, fun i _ => ⟨rfl, rfl, rfl⟩⟩
  · rw [if_neg c]
    have q := mt Int32.le_iff_toInt_le.mpr c
    have z : (480 : Int32).toInt = 480 := rfl
    obtain ⟨k1, k2, k3⟩ := e_cl1 (x := kn) (by omega) (by omega)
    refine ⟨?_, fun i hi => ⟨e_upd_lt (by omega), e_upd_lt (by omega), e_updL_lt (by omega)⟩⟩
    show kn.toInt ≤ (kn + 1).toInt
    omega
theorem e_keep_name {m : Nat} {kl : Int32} {tc : Nat → Int32} {tn : Int32} : ∀ (n : Nat) (x2 : Int32) (x3 : Int64) (kk kp : Nat → Int32) (kv : Nat → Int64) (kn kx : Int32), (m : Int) ≤ kn.toInt → e_keep m kk kp kv kn (m_Tokens_scanName_L7 kl tc tn n x2 x3 kk kp kv kn kx).1 (m_Tokens_scanName_L7 kl tc tn n x2 x3 kk kp kv kn kx).2.1 (m_Tokens_scanName_L7 kl tc tn n x2 x3 kk kp kv kn kx).2.2.1 (m_Tokens_scanName_L7 kl tc tn n x2 x3 kk kp kv kn kx).2.2.2.1 := by
  intro n
  induction n with
  | zero => intro x2 x3 kk kp kv kn kx h; exact ⟨Int.le_refl _, fun i _ => ⟨rfl, rfl, rfl⟩⟩
  | succ n ih =>
    intro x2 x3 kk kp kv kn kx h
    unfold m_Tokens_scanName_L7
    split
    · split
      · exact e_keep_add h
      · exact e_keep_add h
    · split
      · split
        · split
          · exact e_keep_add h
          · exact e_keep_add h
        · exact ih _ _ _ _ _ _ _ h
      · exact ih _ _ _ _ _ _ _ h
theorem e_keep_number {m : Nat} {kl : Int32} {tc : Nat → Int32} {tn : Int32} : ∀ (n : Nat) (x2 : Int32) (x3 : Int64) (kk kp : Nat → Int32) (kv : Nat → Int64) (kn kx : Int32), (m : Int) ≤ kn.toInt → e_keep m kk kp kv kn (m_Tokens_scanNumber_L7 kl tc tn n x2 x3 kk kp kv kn kx).1 (m_Tokens_scanNumber_L7 kl tc tn n x2 x3 kk kp kv kn kx).2.1 (m_Tokens_scanNumber_L7 kl tc tn n x2 x3 kk kp kv kn kx).2.2.1 (m_Tokens_scanNumber_L7 kl tc tn n x2 x3 kk kp kv kn kx).2.2.2.1 := by
  intro n
  induction n with
  | zero => intro x2 x3 kk kp kv kn kx h; exact ⟨Int.le_refl _, fun i _ => ⟨rfl, rfl, rfl⟩⟩
  | succ n ih =>
    intro x2 x3 kk kp kv kn kx h
    unfold m_Tokens_scanNumber_L7
    split
    · split
      · exact e_keep_add h
      · exact e_keep_add h
    · split
      · split
        · exact e_keep_add h
        · exact e_keep_add h
      · exact ih _ _ _ _ _ _ _ h
theorem e_keep_tr {m : Nat} {kk kp : Nat → Int32} {kv : Nat → Int64} {kn : Int32} {a b : Nat → Int32} {c : Nat → Int64} {d : Int32} {a' b' : Nat → Int32} {c' : Nat → Int64} {d' : Int32} (h1 : e_keep m kk kp kv kn a b c d) (h2 : e_keep m a b c d a' b' c' d') : e_keep m kk kp kv kn a' b' c' d' :=
  ⟨Int.le_trans h1.1 h2.1, fun i hi => ⟨(h2.2 i hi).1.trans (h1.2 i hi).1, (h2.2 i hi).2.1.trans (h1.2 i hi).2.1, (h2.2 i hi).2.2.trans (h1.2 i hi).2.2⟩⟩
theorem e_keep_scan {m : Nat} {tc : Nat → Int32} {tn : Int32} : ∀ (n : Nat) (x2 : Int32) (kk kp : Nat → Int32) (kv : Nat → Int64) (kn kl kx : Int32), (m : Int) ≤ kn.toInt → e_keep m kk kp kv kn (m_Tokens_scan_L20 tc tn n x2 kk kp kv kn kl kx).1 (m_Tokens_scan_L20 tc tn n x2 kk kp kv kn kl kx).2.1 (m_Tokens_scan_L20 tc tn n x2 kk kp kv kn kl kx).2.2.1 (m_Tokens_scan_L20 tc tn n x2 kk kp kv kn kl kx).2.2.2.1 ∧ (m_Tokens_scan_L20 tc tn n x2 kk kp kv kn kl kx).2.2.2.2.1 = kl := by
  intro n
  induction n with
  | zero => intro x2 kk kp kv kn kl kx h; exact ⟨⟨Int.le_refl _, fun i _ => ⟨rfl, rfl, rfl⟩⟩, rfl⟩
  | succ n ih =>
    intro x2 kk kp kv kn kl kx h
    have kp0 : e_keep m kk kp kv kn kk kp kv kn := ⟨Int.le_refl _, fun i _ => ⟨rfl, rfl, rfl⟩⟩
    unfold m_Tokens_scan_L20
    split
    · exact ⟨kp0, rfl⟩
    split
    · exact ⟨kp0, rfl⟩
    split
    · exact ih _ _ _ _ _ _ _ h
    split
    · split
      · split
        · have k := e_keep_add (kk := kk) (kp := kp) (kv := kv) (kd := 1) (pl := kx + 1 - 1) (va := 0) h
          have I := ih (x2 + 1) (m_Tokens_add kk kp kv kn 1 (kx + 1 - 1) 0).1 (m_Tokens_add kk kp kv kn 1 (kx + 1 - 1) 0).2.1 (m_Tokens_add kk kp kv kn 1 (kx + 1 - 1) 0).2.2.1 (m_Tokens_add kk kp kv kn 1 (kx + 1 - 1) 0).2.2.2 kl (kx + 1) (Int.le_trans h k.1)
          exact ⟨e_keep_tr k I.1, I.2⟩
        · have k := e_keep_add (kk := kk) (kp := kp) (kv := kv) (kd := m_Tape_at tc tn kx) (pl := kx + 1 - 1) (va := 0) h
          have I := ih (x2 + 1) (m_Tokens_add kk kp kv kn (m_Tape_at tc tn kx) (kx + 1 - 1) 0).1 (m_Tokens_add kk kp kv kn (m_Tape_at tc tn kx) (kx + 1 - 1) 0).2.1 (m_Tokens_add kk kp kv kn (m_Tape_at tc tn kx) (kx + 1 - 1) 0).2.2.1 (m_Tokens_add kk kp kv kn (m_Tape_at tc tn kx) (kx + 1 - 1) 0).2.2.2 kl (kx + 1) (Int.le_trans h k.1)
          exact ⟨e_keep_tr k I.1, I.2⟩
      · have k := e_keep_number (kl := kl) (tc := tc) (tn := tn) ((kl.toInt - kx.toInt).toNat + 1) kx 0 kk kp kv kn kx h
        have I := ih (x2 + 1) (m_Tokens_scanNumber kk kp kv kn kl kx tc tn).1 (m_Tokens_scanNumber kk kp kv kn kl kx tc tn).2.1 (m_Tokens_scanNumber kk kp kv kn kl kx tc tn).2.2.1 (m_Tokens_scanNumber kk kp kv kn kl kx tc tn).2.2.2.1 kl (m_Tokens_scanNumber kk kp kv kn kl kx tc tn).2.2.2.2 (Int.le_trans h k.1)
        exact ⟨e_keep_tr k I.1, I.2⟩
    · have k := e_keep_name (kl := kl) (tc := tc) (tn := tn) ((kl.toInt - kx.toInt).toNat + 1) kx 0 kk kp kv kn kx h
      have I := ih (x2 + 1) (m_Tokens_scanName kk kp kv kn kl kx tc tn).1 (m_Tokens_scanName kk kp kv kn kl kx tc tn).2.1 (m_Tokens_scanName kk kp kv kn kl kx tc tn).2.2.1 (m_Tokens_scanName kk kp kv kn kl kx tc tn).2.2.2.1 kl (m_Tokens_scanName kk kp kv kn kl kx tc tn).2.2.2.2 (Int.le_trans h k.1)
      exact ⟨e_keep_tr k I.1, I.2⟩
theorem e_mk_tr {zkk zkp : Nat → Int32} {zkv : Nat → Int64} {kk kp : Nat → Int32} {kv : Nat → Int64} {kn kl i : Int32} (h : e_tr zkk zkp zkv kk kp kv i.toNatClampNeg) (h0 : 0 ≤ i.toInt) (h1 : i.toInt < kn.toInt) (h2 : i.toInt < 480) : e_TokAt zkk zkp zkv kk kp kv kn kl i := by
  have z0 : (0 : Int32).toInt = 0 := rfl
  have z480 : (480 : Int32).toInt = 480 := rfl
  have c1 : ¬ i < 0 := fun q => by have q2 := Int32.lt_iff_toInt_lt.mp q; omega
  have c2 : ¬ kn ≤ i := fun q => by have q2 := Int32.le_iff_toInt_le.mp q; omega
  have c3 : ¬ (480 : Int32) ≤ i := fun q => by have q2 := Int32.le_iff_toInt_le.mp q; omega
  unfold e_TokAt m_Tokens_place m_Tokens_kind m_Tokens_value
  rw [if_neg c1, if_neg c2, if_neg c3, if_neg c1, if_neg c2, if_neg c3, if_neg c1, if_neg c2, if_neg c3]
  exact ⟨h.1, Or.inr h.2⟩
theorem e_mk_end {zkk zkp : Nat → Int32} {zkv : Nat → Int64} {kk kp : Nat → Int32} {kv : Nat → Int64} {kn kl i : Int32} (h1 : kn.toInt ≤ i.toInt) (hk : zkk i.toNatClampNeg = 0) (hp : zkp i.toNatClampNeg = kl) : e_TokAt zkk zkp zkv kk kp kv kn kl i := by
  have c2 : kn ≤ i := Int32.le_iff_toInt_le.mpr h1
  refine ⟨?_, Or.inl ⟨hk, ?_⟩⟩
  · unfold m_Tokens_place
    rw [hp]
    by_cases c1 : i < 0
    · rw [if_pos c1]
    · rw [if_neg c1, if_pos c2]
  · unfold m_Tokens_kind
    by_cases c1 : i < 0
    · rw [if_pos c1]
    · rw [if_neg c1, if_pos c2]
def e_res (r : Int32 × (Nat → Int32) × (Nat → Int32) × (Nat → Int64)) (s : (Nat → Int32) × (Nat → Int32) × (Nat → Int64) × Int32 × Int32 × Int32) : Prop := ∃ L : Nat, (L : Int) + 1 ≤ r.1.toInt ∧ e_Tok r.2.1 r.2.2.1 r.2.2.2 s.1 s.2.1 s.2.2.1 s.2.2.2.1 s.2.2.2.2.1 L
theorem e_res_end {zkk zkp : Nat → Int32} {zkv : Nat → Int64} {kk kp : Nat → Int32} {kv : Nat → Int64} {ztk ztn kx : Int32} (h0 : 0 ≤ ztk.toInt) (h1 : ztk.toInt ≤ 480) (h : ∀ i : Nat, (i : Int) < ztk.toInt → e_tr zkk zkp zkv kk kp kv i) : e_res (m_Mod_token ztk zkk zkp zkv 0 ztn 0) (kk, kp, kv, ztk, ztn, kx) := by
  obtain ⟨k1, k2, k3⟩ := e_cl1 (x := ztk) h0 (by omega)
  refine ⟨ztk.toNatClampNeg, ?_, ⟨by omega, Or.inl e_upd_at⟩, fun i i0 i1 => ?_⟩
  · show (ztk.toNatClampNeg : Int) + 1 ≤ (ztk + 1).toInt; omega
  · have e : i.toNatClampNeg = i.toInt.toNat := rfl
    by_cases c : i.toInt < ztk.toInt
    · refine e_mk_tr ?_ i0 c (by omega)
      have t := h i.toNatClampNeg (by omega)
      show e_tr (upd zkk ztk.toNatClampNeg 0) (upd zkp ztk.toNatClampNeg ztn) (vp_updL zkv ztk.toNatClampNeg 0) kk kp kv i.toNatClampNeg
      unfold e_tr
      rw [e_upd_lt (by omega), e_upd_lt (by omega), e_updL_lt (by omega)]
      exact t
    · have ei : i = ztk := Int32.toInt_inj.mp (by omega)
      subst ei
      exact e_mk_end (Int.le_refl _) e_upd_at e_upd_at
theorem e_tr_push {zkk zkp : Nat → Int32} {zkv : Nat → Int64} {kk kp : Nat → Int32} {kv : Nat → Int64} {ztk : Int32} {zd cd pl : Int32} {zv cv : Int64} (h0 : 0 ≤ ztk.toInt) (h1 : ztk.toInt < 480) (h : ∀ i : Nat, (i : Int) < ztk.toInt → e_tr zkk zkp zkv kk kp kv i) (hn : (zd = 4 ∧ cd = 1) ∨ (zd = 1 ∧ cd = 2 ∧ cv = zv) ∨ (zd = 2 ∧ cd = 3 ∧ cv = zv) ∨ (zd = 3 ∧ zv = cd.toInt64 ∧ 40 ≤ cd.toInt)) : ∀ i : Nat, (i : Int) < (ztk + 1).toInt → e_tr (upd zkk ztk.toNatClampNeg zd) (upd zkp ztk.toNatClampNeg pl) (vp_updL zkv ztk.toNatClampNeg zv) (upd kk ztk.toNatClampNeg cd) (upd kp ztk.toNatClampNeg pl) (vp_updL kv ztk.toNatClampNeg cv) i := by
  intro i hi
  obtain ⟨k1, k2, k3⟩ := e_cl1 (x := ztk) h0 (by omega)
  unfold e_tr upd vp_updL
  by_cases c : i = ztk.toNatClampNeg
  · rw [if_pos c, if_pos c, if_pos c, if_pos c, if_pos c, if_pos c]
    exact ⟨rfl, hn⟩
  · rw [if_neg c, if_neg c, if_neg c, if_neg c, if_neg c, if_neg c]
    exact h i (by omega)
theorem e_add_lt {kk kp : Nat → Int32} {kv : Nat → Int64} {kn kd pl : Int32} {va : Int64} (h1 : kn.toInt < 480) : m_Tokens_add kk kp kv kn kd pl va = (upd kk kn.toNatClampNeg kd, upd kp kn.toNatClampNeg pl, vp_updL kv kn.toNatClampNeg va, kn + 1) := by
  have z480 : (480 : Int32).toInt = 480 := rfl
  unfold m_Tokens_add
  rw [if_neg (fun q => by have q2 := Int32.le_iff_toInt_le.mp q; omega)]
theorem e_res_bad {zkk zkp : Nat → Int32} {zkv : Nat → Int64} {kk kp : Nat → Int32} {kv : Nat → Int64} {ztk ztn pl : Int32} {zv cv : Int64} {zta tc : Nat → Int32} {tn : Int32} (h0 : 0 ≤ ztk.toInt) (h1 : ztk.toInt < 480) (h : ∀ i : Nat, (i : Int) < ztk.toInt → e_tr zkk zkp zkv kk kp kv i) {n n' : Nat} (hn : 0 < n) (x1 x2 y kl : Int32) :
    e_res (m_Mod_tokenize_L9 zta ztn n x1 0 (ztk + 1) (upd zkk ztk.toNatClampNeg 4) (upd zkp ztk.toNatClampNeg pl) (vp_updL zkv ztk.toNatClampNeg zv)) (m_Tokens_scan_L20 tc tn n' x2 (upd kk ztk.toNatClampNeg 1) (upd kp ztk.toNatClampNeg pl) (vp_updL kv ztk.toNatClampNeg cv) (ztk + 1) kl y) := by
  obtain ⟨n, rfl⟩ : ∃ j, n = j + 1 := ⟨n - 1, by omega⟩
  obtain ⟨k1, k2, k3⟩ := e_cl1 (x := ztk) h0 (by omega)
  obtain ⟨j1, j2, j3⟩ := e_cl1 (x := ztk + 1) (by omega) (by omega)
  have t := e_tr_push (zd := 4) (cd := 1) (pl := pl) (zv := zv) (cv := cv) h0 h1 h (Or.inl ⟨rfl, rfl⟩)
  have K := e_keep_scan (m := ztk.toNatClampNeg + 1) (tc := tc) (tn := tn) n' x2 (upd kk ztk.toNatClampNeg 1) (upd kp ztk.toNatClampNeg pl) (vp_updL kv ztk.toNatClampNeg cv) (ztk + 1) kl y (by omega)
  unfold m_Mod_tokenize_L9
  rw [if_pos (rfl : (0 : Int32) = 0)]
  generalize m_Tokens_scan_L20 tc tn n' x2 (upd kk ztk.toNatClampNeg 1) (upd kp ztk.toNatClampNeg pl) (vp_updL kv ztk.toNatClampNeg cv) (ztk + 1) kl y = s at K ⊢
  obtain ⟨⟨K1, K2⟩, K3⟩ := K
  refine ⟨ztk.toNatClampNeg, ?_, ⟨by omega, Or.inr ?_⟩, fun i i0 i1 => ?_⟩
  · show (ztk.toNatClampNeg : Int) + 1 ≤ (ztk + 1 + 1).toInt; omega
  · show upd (upd zkk ztk.toNatClampNeg 4) (ztk + 1).toNatClampNeg 0 ztk.toNatClampNeg = 4
    rw [e_upd_lt (by omega), e_upd_at]
  · have e : i.toNatClampNeg = i.toInt.toNat := rfl
    refine e_mk_tr ?_ i0 (by omega) (by omega)
    have ti := t i.toNatClampNeg (by omega)
    obtain ⟨q1, q2, q3⟩ := K2 i.toNatClampNeg (by omega)
    show e_tr (upd (upd zkk ztk.toNatClampNeg 4) (ztk + 1).toNatClampNeg 0) (upd (upd zkp ztk.toNatClampNeg pl) (ztk + 1).toNatClampNeg ztn) (vp_updL (vp_updL zkv ztk.toNatClampNeg zv) (ztk + 1).toNatClampNeg 0) s.1 s.2.1 s.2.2.1 i.toNatClampNeg
    unfold e_tr at ti ⊢
    rw [e_upd_lt (f := upd zkk ztk.toNatClampNeg 4) (by omega), e_upd_lt (f := upd zkp ztk.toNatClampNeg pl) (by omega), e_updL_lt (f := vp_updL zkv ztk.toNatClampNeg zv) (by omega), q1, q2, q3]
    exact ti
theorem e_sgk (c : Int32) : (m_Tokens_isSign c = 0 ∧ m_Mod_tokenize_I53 c = 4) ∨ (¬ m_Tokens_isSign c = 0 ∧ m_Mod_tokenize_I53 c = 3 ∧ 40 ≤ c.toInt) := by
  by_cases c1 : c = 58
  · subst c1; right; decide
  by_cases c2 : c = 59
  · subst c2; right; decide
  by_cases c3 : c = 44
  · subst c3; right; decide
  by_cases c4 : c = 40
  · subst c4; right; decide
  by_cases c5 : c = 41
  · subst c5; right; decide
  by_cases c6 : c = 45
  · subst c6; right; decide
  left
  unfold m_Tokens_isSign m_Mod_tokenize_I53
  rw [if_neg c1, if_neg c2, if_neg c3, if_neg c4, if_neg c5, if_neg c6, if_neg c1, if_neg c2, if_neg c3, if_neg c4, if_neg c5, if_neg c6]
  exact ⟨rfl, rfl⟩
theorem e_scan {tc : Nat → Int32} {tn : Int32} {zta : Nat → Int32} {ztn : Int32} (h : e_tape tc tn zta ztn) : ∀ (n n' : Nat) (x1 x2 ztk : Int32) (zkk zkp : Nat → Int32) (zkv : Nat → Int64) (kk kp : Nat → Int32) (kv : Nat → Int64), 0 ≤ x1.toInt → x1.toInt ≤ ztn.toInt → 0 ≤ ztk.toInt → ztk.toInt ≤ x1.toInt → 0 ≤ x2.toInt → x2.toInt ≤ x1.toInt → (ztn.toInt - x1.toInt).toNat < n → (ztn.toInt - x1.toInt).toNat < n' → (∀ i : Nat, (i : Int) < ztk.toInt → e_tr zkk zkp zkv kk kp kv i) → e_res (m_Mod_tokenize_L9 zta ztn n x1 1 ztk zkk zkp zkv) (m_Tokens_scan_L20 tc tn n' x2 kk kp kv ztk ztn x1) := by
  intro n
  have o : (1 : Int32).toInt = 1 := rfl
  have z480 : (480 : Int32).toInt = 480 := rfl
  have z6 : (6 : Int32).toInt = 6 := rfl
  have z10 : (10 : Int32).toInt = 10 := rfl
  have hz := h.2.2.1
  have hz0 := h.2.1
  induction n with
  | zero => intro n' x1 x2 ztk zkk zkp zkv kk kp kv h0 h1 h2 h3 h4 h5 h6; omega
  | succ n ih =>
    intro n' x1 x2 ztk zkk zkp zkv kk kp kv h0 h1 h2 h3 h4 h5 h6 h7 hT
    obtain ⟨n', rfl⟩ : ∃ j, n' = j + 1 := ⟨n' - 1, by omega⟩
    unfold m_Mod_tokenize_L9 m_Tokens_scan_L20
    rw [if_neg (show ¬ (1 : Int32) = 0 by decide)]
    by_cases c : ztn ≤ x1
    · rw [if_pos c, if_pos c]
      have e : (if (480 : Int32) ≤ x2 then (kk, kp, kv, ztk, ztn, x1) else (kk, kp, kv, ztk, ztn, x1)) = (kk, kp, kv, ztk, ztn, x1) := by split <;> rfl
      rw [e]
      exact e_res_end h2 (by omega) hT
    · have q := mt Int32.le_iff_toInt_le.mpr c
      rw [if_neg c, if_neg c, if_neg (show ¬ (480 : Int32) ≤ x2 from fun z => by have z2 := Int32.le_iff_toInt_le.mp z; omega)]
      obtain ⟨a1, a2⟩ := e_at h h0 (by omega)
      have a := gz_a x1 1 (by omega) (by omega)
      have a3 := gz_a x2 1 (by omega) (by omega)
      obtain ⟨k1, k2, k3⟩ := e_cl1 (x := ztk) h2 (by omega)
      rw [a1]
      by_cases cb : zta x1.toNatClampNeg = 32
      · rw [if_pos cb, if_pos cb]
        exact ih n' (x1 + 1) (x2 + 1) ztk zkk zkp zkv kk kp kv (by omega) (by omega) h2 (by omega) (by omega) (by omega) (by omega) (by omega) hT
      · rw [if_neg cb, if_neg cb]
        simp only
        by_cases cl : m_Mod_isSmall (zta x1.toNatClampNeg) = 0
        · have cl' : m_Tokens_isLetter (zta x1.toNatClampNeg) = 0 := cl
          rw [if_pos cl']
          by_cases cd : m_Mod_isDigit (zta x1.toNatClampNeg) = 0
          · have cd' : m_Tokens_isDigit (zta x1.toNatClampNeg) = 0 := cd
            rw [if_pos cd', if_pos cd, if_pos cl, Int32.add_sub_cancel, e_add_lt (by omega), e_add_lt (by omega)]
            rcases e_sgk (zta x1.toNatClampNeg) with ⟨g1, g2⟩ | ⟨g1, g2, g3⟩
            · rw [if_pos g1, g2, if_pos (rfl : (4 : Int32) = 4)]
              exact e_res_bad h2 (by omega) hT (by omega) _ _ _ _
            · rw [if_neg g1, g2, if_neg (show ¬ (3 : Int32) = 4 by decide)]
              exact ih n' (x1 + 1) (x2 + 1) (ztk + 1) _ _ _ _ _ _ (by omega) (by omega) (by omega) (by omega) (by omega) (by omega) (by omega) (by omega) (e_tr_push h2 (by omega) hT (Or.inr (Or.inr (Or.inr ⟨rfl, rfl, g3⟩))))
          · have cd' : ¬ m_Tokens_isDigit (zta x1.toNatClampNeg) = 0 := cd
            rw [if_neg cd', if_neg cd]
            have eN : m_Tokens_scanNumber kk kp kv ztk ztn x1 tc tn = m_Tokens_scanNumber_L7 ztn tc tn (ztn.toInt - x1.toInt).toNat x1 ((0 * 10) + (((zta x1.toNatClampNeg) - 48).toInt64)) kk kp kv ztk (x1 + 1) := by
              unfold m_Tokens_scanNumber
              rw [m_Tokens_scanNumber_L7, if_neg c, a1, if_neg cd']
            obtain ⟨k', X', i1, i2, i3, i4, i5⟩ := e_numL h h0 kk kp kv ztk ((ztn.toInt - (x1 + 1).toInt).toNat + 1) (ztn.toInt - x1.toInt).toNat (x1 + 1) ((0 * 10) + (((zta x1.toNatClampNeg) - 48).toInt64)) (((zta x1.toNatClampNeg) - 48).toInt64) (by omega) (by omega) (by omega) (by omega) (fun _ => by rw [Int64.zero_mul, Int64.zero_add])
            rw [eN, i5]
            rcases hI : m_Mod_tokenize_I121 zta ztn x1 ((ztn.toInt - (x1 + 1).toInt).toNat + 1) (x1 + 1) (((zta x1.toNatClampNeg) - 48).toInt64) with ⟨y1, y5⟩
            rw [hI] at i1 i4
            have i1 : y1 = k' := i1
            subst i1
            have s := gz_s y1 x1 (by omega) (by omega)
            simp only
            rw [e_add_lt (by omega)]
            by_cases c6 : y1 - x1 ≤ 10
            · have q6 := Int32.le_iff_toInt_le.mp c6
              rw [if_pos c6, if_neg (show ¬ 10 < y1 - x1 from fun z => by have z2 := Int32.lt_iff_toInt_lt.mp z; omega)]
              exact ih n' y1 (x2 + 1) (ztk + 1) _ _ _ _ _ _ (by omega) (by omega) (by omega) (by omega) (by omega) (by omega) (by omega) (by omega) (e_tr_push h2 (by omega) hT (Or.inr (Or.inr (Or.inl ⟨rfl, rfl, i4 (by omega)⟩))))
            · have q6 := mt Int32.le_iff_toInt_le.mpr c6
              rw [if_neg c6, if_pos (show 10 < y1 - x1 from Int32.lt_iff_toInt_lt.mpr (by omega))]
              exact e_res_bad h2 (by omega) hT (by omega) _ _ _ _
        · have cl' : ¬ m_Tokens_isLetter (zta x1.toNatClampNeg) = 0 := cl
          have cd : m_Mod_isDigit (zta x1.toNatClampNeg) = 0 := by
            have z97 : (97 : Int32).toInt = 97 := rfl
            have z57 : (57 : Int32).toInt = 57 := rfl
            unfold m_Mod_isSmall at cl
            unfold m_Mod_isDigit
            by_cases d1 : zta x1.toNatClampNeg < 97
            · rw [if_pos d1] at cl; exact absurd rfl cl
            · have q1 := mt Int32.lt_iff_toInt_lt.mpr d1
              split
              · rfl
              · rw [if_pos (Int32.lt_iff_toInt_lt.mpr (by omega))]
          rw [if_neg cl', if_pos cd, if_neg cl]
          have eN : m_Tokens_scanName kk kp kv ztk ztn x1 tc tn = m_Tokens_scanName_L7 ztn tc tn (ztn.toInt - x1.toInt).toNat x1 (((0 <<< ((8 : Int32).toInt64 &&& 63))) ||| ((zta x1.toNatClampNeg).toInt64)) kk kp kv ztk (x1 + 1) := by
            unfold m_Tokens_scanName
            rw [m_Tokens_scanName_L7, if_neg c, a1, if_neg cl']
          have e0 : ((0 : Int64) <<< ((8 : Int32).toInt64 &&& 63)) = 0 := by decide
          obtain ⟨k', X', i1, i2, i3, i4, i5⟩ := e_nameL h h0 kk kp kv ztk ((ztn.toInt - (x1 + 1).toInt).toNat + 1) (ztn.toInt - x1.toInt).toNat (x1 + 1) (((0 <<< ((8 : Int32).toInt64 &&& 63))) ||| ((zta x1.toNatClampNeg).toInt64)) ((zta x1.toNatClampNeg).toInt64) (by omega) (by omega) (by omega) (by omega) (fun _ => by rw [e0, Int64.zero_or])
          rw [eN, i5]
          rcases hI : m_Mod_tokenize_I196 zta ztn x1 ((ztn.toInt - (x1 + 1).toInt).toNat + 1) (x1 + 1) ((zta x1.toNatClampNeg).toInt64) with ⟨y1, y5⟩
          rw [hI] at i1 i4
          have i1 : y1 = k' := i1
          subst i1
          have s := gz_s y1 x1 (by omega) (by omega)
          simp only
          rw [e_add_lt (by omega)]
          by_cases c6 : y1 - x1 ≤ 6
          · have q6 := Int32.le_iff_toInt_le.mp c6
            rw [if_pos c6, if_neg (show ¬ 6 < y1 - x1 from fun z => by have z2 := Int32.lt_iff_toInt_lt.mp z; omega)]
            exact ih n' y1 (x2 + 1) (ztk + 1) _ _ _ _ _ _ (by omega) (by omega) (by omega) (by omega) (by omega) (by omega) (by omega) (by omega) (e_tr_push h2 (by omega) hT (Or.inr (Or.inl ⟨rfl, rfl, i4 (by omega)⟩)))
          · have q6 := mt Int32.le_iff_toInt_le.mpr c6
            rw [if_neg c6, if_pos (show 6 < y1 - x1 from Int32.lt_iff_toInt_lt.mpr (by omega))]
            exact e_res_bad h2 (by omega) hT (by omega) _ _ _ _
theorem e_tokens {tc : Nat → Int32} {tn : Int32} {zta : Nat → Int32} {ztn : Int32} (h : e_tape tc tn zta ztn) (ztk : Int32) (zkk zkp : Nat → Int32) (zkv : Nat → Int64) (kk kp : Nat → Int32) (kv : Nat → Int64) (kn kl kx : Int32) : e_res (m_Mod_tokenize zta ztn ztk zkk zkp zkv) (m_Tokens_scan kk kp kv kn kl kx tc tn) := by
  have z : (0 : Int32).toInt = 0 := rfl
  have e1 := h.1
  have e2 := h.2.1
  have e3 := h.2.2.1
  unfold m_Mod_tokenize m_Tokens_scan m_Tape_length
  rw [e1]
  rw [e1] at h
  exact e_scan h _ _ 0 0 0 zkk zkp zkv kk kp kv (by omega) (by omega) (by omega) (by omega) (by omega) (by omega) (by omega) (by omega) (fun i hi => by omega)
