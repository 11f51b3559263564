def e_L (zkk : Nat → Int32) (L : Nat) : Prop := L ≤ 480 ∧ (zkk L = 0 ∨ zkk L = 4)
theorem e_next {zkk : Nat → Int32} {L : Nat} (hL : e_L zkk L) {i : Int32} (h0 : 0 ≤ i.toInt) (h1 : i.toInt ≤ L) {c : Int32} (hc : zkk i.toNatClampNeg = c) (c0 : ¬ c = 0) (c4 : ¬ c = 4) : (i + 1).toInt = i.toInt + 1 ∧ i.toInt + 1 ≤ L := by
  have o : (1 : Int32).toInt = 1 := rfl
  have hL1 := hL.1
  have a := gz_a i 1 (by omega) (by omega)
  have e : i.toNatClampNeg = i.toInt.toNat := rfl
  have ne : ¬ i.toInt = L := by
    intro q
    have z : zkk L = c := by rw [← hc, e, q, Int.toNat_natCast]
    rcases hL.2 with k | k
    · exact c0 (z.symm.trans k)
    · exact c4 (z.symm.trans k)
  omega
section E1
variable {zkk zkp : Nat → Int32} {zkv : Nat → Int64} {L : Nat} {S T : e_S} {sh c : Int32}
theorem e_reg_in (hL : e_L zkk L) (h : e_reg zkk zkp zkv sh S = .ok T) (h0 : 0 ≤ S.1.toInt) (h1 : S.1.toInt ≤ L) : S.1.toInt < T.1.toInt ∧ T.1.toInt ≤ L := by
  obtain ⟨cu, rg, q, nm, pN, vl⟩ := S
  have h0 : 0 ≤ cu.toInt := h0
  have h1 : cu.toInt ≤ L := h1
  rw [e_reg_eq] at h
  split at h
  · rename_i c
    have k := e_next hL h0 h1 c.1 (by decide) (by decide)
    cases h
    show cu.toInt < (cu + 1).toInt ∧ (cu + 1).toInt ≤ L
    omega
  · cases h
theorem e_sgn_in (hL : e_L zkk L) (h : e_sgn zkk zkp zkv sh S = .ok T) (h0 : 0 ≤ S.1.toInt) (h1 : S.1.toInt ≤ L) : S.1.toInt < T.1.toInt ∧ T.1.toInt ≤ L := by
  obtain ⟨cu, rg, q, nm, pN, vl⟩ := S
  have h0 : 0 ≤ cu.toInt := h0
  have h1 : cu.toInt ≤ L := h1
  rw [e_sgn_eq] at h
  split at h
  · rename_i c
    have k := e_next hL h0 h1 c.1 (by decide) (by decide)
    cases h
    show cu.toInt < (cu + 1).toInt ∧ (cu + 1).toInt ≤ L
    omega
  · cases h
theorem e_num0_in (hL : e_L zkk L) (h : e_num0 zkk zkp zkv S = .ok T) (h0 : 0 ≤ S.1.toInt) (h1 : S.1.toInt ≤ L) : S.1.toInt < T.1.toInt ∧ T.1.toInt ≤ L := by
  obtain ⟨cu, rg, q, nm, pN, vl⟩ := S
  have h0 : 0 ≤ cu.toInt := h0
  have h1 : cu.toInt ≤ L := h1
  rw [e_num0_eq] at h
  split at h
  · rename_i c
    have k := e_next hL h0 h1 c (by decide) (by decide)
    cases h
    show cu.toInt < (cu + 1).toInt ∧ (cu + 1).toInt ≤ L
    omega
  · cases h
theorem e_num1_in (hL : e_L zkk L) (h : e_num1 zkk zkp zkv S = .ok T) (h0 : 0 ≤ S.1.toInt) (h1 : S.1.toInt ≤ L) : S.1.toInt < T.1.toInt ∧ T.1.toInt ≤ L := by
  obtain ⟨cu, rg, q, nm, pN, vl⟩ := S
  have h0 : 0 ≤ cu.toInt := h0
  have h1 : cu.toInt ≤ L := h1
  rw [e_num1_eq] at h
  split at h
  · rename_i c
    have k := e_next hL h0 h1 c.1 (by decide) (by decide)
    split at h
    · rename_i c2
      have k2 := e_next (i := cu + 1) hL (by omega) (by omega) c2 (by decide) (by decide)
      cases h
      show cu.toInt < (cu + 1 + 1).toInt ∧ (cu + 1 + 1).toInt ≤ L
      omega
    · cases h
  · exact e_num0_in (S := (cu, rg, q, nm, pN, vl)) hL h h0 h1
theorem e_N_in {o : Nat} (hL : e_L zkk L) (h : e_N zkk zkp zkv o S = .ok T) (h0 : 0 ≤ S.1.toInt) (h1 : S.1.toInt ≤ L) : S.1.toInt < T.1.toInt ∧ T.1.toInt ≤ L := by
  obtain ⟨cu, rg, q, nm, pN, vl⟩ := S
  have h0 : 0 ≤ cu.toInt := h0
  have h1 : cu.toInt ≤ L := h1
  rw [e_N_eq] at h
  split at h
  · rename_i c
    have k := e_next hL h0 h1 c (by decide) (by decide)
    cases h
    show cu.toInt < (cu + 1).toInt ∧ (cu + 1).toInt ≤ L
    omega
  · exact e_num1_in (S := (cu, rg, q, nm, pN, vl)) hL h h0 h1
theorem e_part_in (hL : e_L zkk L) (h : e_part zkk zkp zkv c S = .ok T) (h0 : 0 ≤ S.1.toInt) (h1 : S.1.toInt ≤ L) : S.1.toInt < T.1.toInt ∧ T.1.toInt ≤ L := by
  unfold e_part at h
  split at h
  · exact e_reg_in hL h h0 h1
  split at h
  · exact e_reg_in hL h h0 h1
  split at h
  · exact e_reg_in hL h h0 h1
  split at h
  · exact e_N_in hL h h0 h1
  split at h
  · exact e_N_in hL h h0 h1
  split at h
  · exact e_num0_in hL h h0 h1
  · exact e_sgn_in hL h h0 h1
theorem e_form_in (hL : e_L zkk L) : ∀ (cs : List Int32) (S T : e_S), e_form zkk zkp zkv cs S = .ok T → 0 ≤ S.1.toInt → S.1.toInt ≤ L → S.1.toInt ≤ T.1.toInt ∧ T.1.toInt ≤ L := by
  intro cs
  induction cs with
  | nil =>
    intro S T h h0 h1
    have h' : Except.ok S = (Except.ok T : Except Int32 e_S) := h
    cases h'
    exact ⟨Int.le_refl _, h1⟩
  | cons c cs ih =>
    intro S T h h0 h1
    rcases hp : e_part zkk zkp zkv c S with p | T1
    · rw [e_fe hp] at h; cases h
    · rw [e_fo hp] at h
      have k := e_part_in hL hp h0 h1
      have r := ih _ _ h (by omega) (by omega)
      omega
end E1
/-! numbers are not negative -/
def e_nn (zkk : Nat → Int32) (zkv : Nat → Int64) (L : Nat) : Prop := ∀ i : Nat, i ≤ L → zkk i = 2 → 0 ≤ (zkv i).toInt
/-! events: a label's name and place; an order, the place of its name, its parts -/
abbrev e_Ev : Type := (Int64 × Int32) ⊕ (Nat × Int32 × e_S)
def e_labs (zkk zkp : Nat → Int32) (zkv : Nat → Int64) : Nat → Int32 → List e_Ev × Int32
  | 0, cu => ([], cu)
  | n + 1, cu => if zkk cu.toNatClampNeg = 1 ∧ zkk (cu + 1).toNatClampNeg = 3 ∧ zkv (cu + 1).toNatClampNeg = (58 : Int32).toInt64 then (.inl (zkv cu.toNatClampNeg, zkp cu.toNatClampNeg) :: (e_labs zkk zkp zkv n (cu + 2)).1, (e_labs zkk zkp zkv n (cu + 2)).2) else ([], cu)
def e_ord (zkk zkp : Nat → Int32) (zkv : Nat → Int64) (cu : Int32) : Except Int32 e_Ev :=
  match m_Order_spelled (zkv cu.toNatClampNeg) with
  | none => .error (if zkk (cu + 1).toNatClampNeg = 4 then zkp (cu + 1).toNatClampNeg else zkp cu.toNatClampNeg)
  | some oi => match e_form zkk zkp zkv (e_chars oi) (cu + 1, 0, 0, 0, 0, 0) with
    | .error p => .error p
    | .ok S => .ok (.inr (oi, zkp cu.toNatClampNeg, S))
def e_evc (cu : Int32) : e_Ev → Int32
  | .inl _ => cu
  | .inr (_, _, S) => S.1
def e_end (zkk zkp : Nat → Int32) (zkv : Nat → Int64) (es : List e_Ev) (cu : Int32) : Except Int32 (List e_Ev × Int32) :=
  match e_sgn zkk zkp zkv 59 (cu, 0, 0, 0, 0, 0) with
  | .error p => .error p
  | .ok T => .ok (es, T.1)
def e_stmt (zkk zkp : Nat → Int32) (zkv : Nat → Int64) (cu : Int32) : Except Int32 (List e_Ev × Int32) :=
  if zkk (e_labs zkk zkp zkv 481 cu).2.toNatClampNeg = 1 then
    match e_ord zkk zkp zkv (e_labs zkk zkp zkv 481 cu).2 with
    | .error p => .error p
    | .ok ev => e_end zkk zkp zkv ((e_labs zkk zkp zkv 481 cu).1 ++ [ev]) (e_evc cu ev)
  else e_end zkk zkp zkv (e_labs zkk zkp zkv 481 cu).1 (e_labs zkk zkp zkv 481 cu).2
def e_all (zkk zkp : Nat → Int32) (zkv : Nat → Int64) : Nat → Int32 → Except Int32 (List e_Ev)
  | 0, _ => .ok []
  | n + 1, cu => if zkk cu.toNatClampNeg = 0 then .ok [] else match e_stmt zkk zkp zkv cu with
    | .error p => .error p
    | .ok (es, c) => match e_all zkk zkp zkv n c with
      | .error p => .error p
      | .ok r => .ok (es ++ r)
theorem e_two {i : Int32} (h0 : -1000 ≤ i.toInt) (h1 : i.toInt ≤ 100000) : (i + 2).toInt = i.toInt + 2 := by
  have o : (2 : Int32).toInt = 2 := rfl
  have a := gz_a i 2 (by omega) (by omega)
  omega
theorem e_labs_in {zkk zkp : Nat → Int32} {zkv : Nat → Int64} {L : Nat} (hL : e_L zkk L) : ∀ (n : Nat) (cu : Int32), 0 ≤ cu.toInt → cu.toInt ≤ L → cu.toInt + 2 * ((e_labs zkk zkp zkv n cu).1.length : Int) = (e_labs zkk zkp zkv n cu).2.toInt ∧ (e_labs zkk zkp zkv n cu).2.toInt ≤ L := by
  intro n
  induction n with
  | zero => intro cu h0 h1; exact ⟨by show cu.toInt + 2 * ((0 : Nat) : Int) = cu.toInt; omega, h1⟩
  | succ n ih =>
    intro cu h0 h1
    unfold e_labs
    split
    · rename_i c
      have hL1 := hL.1
      have k := e_next hL h0 h1 c.1 (by decide) (by decide)
      have k2 := e_next (i := cu + 1) hL (by omega) (by omega) c.2.1 (by decide) (by decide)
      have e2 := e_two (i := cu) (by omega) (by omega)
      have r := ih (cu + 2) (by omega) (by omega)
      refine ⟨?_, r.2⟩
      show cu.toInt + 2 * (((e_labs zkk zkp zkv n (cu + 2)).1.length + 1 : Nat) : Int) = (e_labs zkk zkp zkv n (cu + 2)).2.toInt
      omega
    · exact ⟨by show cu.toInt + 2 * ((0 : Nat) : Int) = cu.toInt; omega, h1⟩
theorem e_ord_in {zkk zkp : Nat → Int32} {zkv : Nat → Int64} {L : Nat} {cu : Int32} {ev : e_Ev} (hL : e_L zkk L) (h0 : 0 ≤ cu.toInt) (h1 : cu.toInt ≤ L) (hc : zkk cu.toNatClampNeg = 1) (h : e_ord zkk zkp zkv cu = .ok ev) : ∀ c, cu.toInt < (e_evc c ev).toInt ∧ (e_evc c ev).toInt ≤ L := by
  intro c
  unfold e_ord at h
  have k := e_next hL h0 h1 hc (by decide) (by decide)
  split at h
  · cases h
  · split at h
    · cases h
    · rename_i S hS
      cases h
      have r := e_form_in hL _ _ _ hS (by show 0 ≤ (cu + 1).toInt; omega) (by show (cu + 1).toInt ≤ L; omega)
      have r1 : (cu + 1).toInt ≤ S.1.toInt := r.1
      show cu.toInt < S.1.toInt ∧ S.1.toInt ≤ L
      have r2 := r.2
      omega
theorem e_end_in {zkk zkp : Nat → Int32} {zkv : Nat → Int64} {L : Nat} {es es' : List e_Ev} {cu c : Int32} (hL : e_L zkk L) (h0 : 0 ≤ cu.toInt) (h1 : cu.toInt ≤ L) (h : e_end zkk zkp zkv es cu = .ok (es', c)) : es' = es ∧ cu.toInt < c.toInt ∧ c.toInt ≤ L := by
  unfold e_end at h
  split at h
  · cases h
  · rename_i T hT
    have r := e_sgn_in hL hT h0 h1
    cases h
    exact ⟨rfl, r⟩
/-! the two readers of the tape -/
theorem e_dg {c : Int32} (h : ¬ m_Mod_isDigit c = 0) : 48 ≤ c.toInt ∧ c.toInt ≤ 57 := by
  have z48 : (48 : Int32).toInt = 48 := rfl
  have z57 : (57 : Int32).toInt = 57 := rfl
  unfold m_Mod_isDigit at h
  split at h
  · exact absurd rfl h
  · rename_i c1
    split at h
    · exact absurd rfl h
    · rename_i c2
      have q1 := mt Int32.lt_iff_toInt_lt.mpr c1
      have q2 := mt Int32.lt_iff_toInt_lt.mpr c2
      omega
theorem e_d64 {c : Int32} (h : 48 ≤ c.toInt ∧ c.toInt ≤ 57) : (c - 48).toInt64 = c.toInt64 - 48 ∧ ((c - 48).toInt64).toInt = c.toInt - 48 := by
  have z48 : (48 : Int32).toInt = 48 := rfl
  have y48 : (48 : Int64).toInt = 48 := rfl
  have s := gz_s c 48 (by omega) (by omega)
  have e1 : ((c - 48).toInt64).toInt = c.toInt - 48 := by rw [Int32.toInt_toInt64, s, z48]
  refine ⟨Int64.toInt_inj.mp ?_, e1⟩
  rw [e1, Int64.toInt_sub, Int32.toInt_toInt64, y48]
  exact (Int.bmod_eq_of_le (by omega) (by omega)).symm
theorem e_dstep {c : Int32} {x : Int64} (h : 48 ≤ c.toInt ∧ c.toInt ≤ 57) : (10 * x + c.toInt64) - 48 = x * 10 + (c - 48).toInt64 := by
  rw [(e_d64 h).1, Int64.mul_comm x 10, Int64.sub_eq_add_neg, Int64.sub_eq_add_neg, Int64.add_assoc]
theorem e_dval {c : Int32} {x : Int64} (h : 48 ≤ c.toInt ∧ c.toInt ≤ 57) (h0 : 0 ≤ x.toInt) (h1 : x.toInt ≤ 1000000000) : ((10 * x + c.toInt64) - 48).toInt = 10 * x.toInt + (c.toInt - 48) := by
  rw [e_dstep h, Int64.toInt_add, Int64.toInt_mul, (e_d64 h).2]
  have y10 : (10 : Int64).toInt = 10 := rfl
  rw [y10, Int.bmod_eq_of_le (n := x.toInt * 10) (by omega) (by omega), Int.bmod_eq_of_le (by omega) (by omega)]
  omega
/-! numbers are not negative: the reference alone -/
def e_pw : Nat → Int
  | 0 => 1
  | n + 1 => 10 * e_pw n
theorem e_pw9 : ∀ n, n < 10 → e_pw n ≤ 1000000000 ∧ 1 ≤ e_pw n := by decide
theorem e_I121 {zta : Nat → Int32} {ztn x3 : Int32} (h3 : 0 ≤ x3.toInt) : ∀ (n : Nat) (x1 : Int32) (x5 : Int64) (j : Nat), x1.toInt ≤ 480 → ztn.toInt ≤ 480 → x3.toInt ≤ x1.toInt → (x1.toInt - x3.toInt ≤ 10 → (j : Int) = x1.toInt - x3.toInt ∧ x5.toInt < e_pw j) → 0 ≤ x5.toInt → 0 ≤ (m_Mod_tokenize_I121 zta ztn x3 n x1 x5).2.toInt := by
  intro n
  have o : (1 : Int32).toInt = 1 := rfl
  have z10 : (10 : Int32).toInt = 10 := rfl
  induction n with
  | zero => intro x1 x5 j h1 h2 h4 h5 h6; exact h6
  | succ n ih =>
    intro x1 x5 j h1 h2 h4 h5 h6
    unfold m_Mod_tokenize_I121
    split
    · exact h6
    · rename_i c
      have lt := v_dig c
      have dg := e_dg c
      have a := gz_a x1 1 (by omega) (by omega)
      have s := gz_s x1 x3 (by omega) (by omega)
      split
      · rename_i c2
        have q := Int32.le_iff_toInt_le.mp c2
        exact ih (x1 + 1) x5 j (by omega) h2 (by omega) (fun h => by omega) h6
      · rename_i c2
        have q := mt Int32.le_iff_toInt_le.mpr c2
        obtain ⟨g1, g2⟩ := h5 (by omega)
        have p9 := e_pw9 j (by omega)
        have ev := e_dval (x := x5) dg h6 (by omega)
        have ps : e_pw (j + 1) = 10 * e_pw j := rfl
        refine ih (x1 + 1) _ (j + 1) (by omega) h2 (by omega) (fun h => ⟨by omega, ?_⟩) ?_
        · rw [ev, ps]; omega
        · rw [ev]; omega
def e_ok9 (ztk : Int32) (zkk : Nat → Int32) (zkv : Nat → Int64) : Prop := ∀ i : Nat, (i : Int) < ztk.toInt → zkk i = 2 → 0 ≤ (zkv i).toInt
theorem e_ok9_tok {ztk : Int32} {zkk zkp : Nat → Int32} {zkv : Nat → Int64} {kd fr : Int32} {va : Int64} (h : e_ok9 ztk zkk zkv) (h0 : 0 ≤ ztk.toInt) (h1 : ztk.toInt ≤ 480) (hk : kd = 2 → 0 ≤ va.toInt) : e_ok9 (m_Mod_token ztk zkk zkp zkv kd fr va).1 (m_Mod_token ztk zkk zkp zkv kd fr va).2.1 (m_Mod_token ztk zkk zkp zkv kd fr va).2.2.2 := by
  intro i hi
  obtain ⟨k1, k2, k3⟩ := e_cl1 (x := ztk) h0 (by omega)
  have hi : (i : Int) < (ztk + 1).toInt := hi
  show upd zkk ztk.toNatClampNeg kd i = 2 → 0 ≤ (vp_updL zkv ztk.toNatClampNeg va i).toInt
  unfold upd vp_updL
  by_cases c : i = ztk.toNatClampNeg
  · rw [if_pos c, if_pos c]; exact hk
  · rw [if_neg c, if_neg c]; exact h i (by omega)
def e_fin9 (r : Int32 × (Nat → Int32) × (Nat → Int32) × (Nat → Int64)) : Prop := 1 ≤ r.1.toInt ∧ r.1.toInt ≤ 481 ∧ r.2.1 (r.1.toInt - 1).toNat = 0 ∧ e_ok9 r.1 r.2.1 r.2.2.2
theorem e_fin9_end {ztk ztn : Int32} {zkk zkp : Nat → Int32} {zkv : Nat → Int64} (h : e_ok9 ztk zkk zkv) (h0 : 0 ≤ ztk.toInt) (h1 : ztk.toInt ≤ 480) : e_fin9 (m_Mod_token ztk zkk zkp zkv 0 ztn 0) := by
  obtain ⟨k1, k2, k3⟩ := e_cl1 (x := ztk) h0 (by omega)
  refine ⟨?_, ?_, ?_, e_ok9_tok h h0 h1 (fun h => absurd h (by decide))⟩
  · show 1 ≤ (ztk + 1).toInt; omega
  · show (ztk + 1).toInt ≤ 481; omega
  · show upd zkk ztk.toNatClampNeg 0 ((ztk + 1).toInt - 1).toNat = 0
    rw [show ((ztk + 1).toInt - 1).toNat = ztk.toNatClampNeg by omega]
    exact e_upd_at
theorem e_tokR {zta : Nat → Int32} {ztn : Int32} (hn : ztn.toInt ≤ 480) : ∀ (n : Nat) (x1 x2 ztk : Int32) (zkk zkp : Nat → Int32) (zkv : Nat → Int64), 0 ≤ x1.toInt → x1.toInt ≤ ztn.toInt → 0 ≤ ztk.toInt → ztk.toInt ≤ x1.toInt → (ztn.toInt - x1.toInt).toNat < n → e_ok9 ztk zkk zkv → e_fin9 (m_Mod_tokenize_L9 zta ztn n x1 x2 ztk zkk zkp zkv) := by
  intro n
  have o : (1 : Int32).toInt = 1 := rfl
  induction n with
  | zero => intro x1 x2 ztk zkk zkp zkv h0 h1 h2 h3 h4; omega
  | succ n ih =>
    intro x1 x2 ztk zkk zkp zkv h0 h1 h2 h3 h4 h5
    unfold m_Mod_tokenize_L9
    split
    · exact e_fin9_end h5 h2 (by omega)
    · split
      · exact e_fin9_end h5 h2 (by omega)
      · rename_i c1
        have q1 := mt Int32.le_iff_toInt_le.mpr c1
        have a := gz_a x1 1 (by omega) (by omega)
        obtain ⟨k1, k2, k3⟩ := e_cl1 (x := ztk) h2 (by omega)
        have st : ∀ (kd : Int32) (va : Int64) (y g : Int32), x1.toInt < y.toInt → y.toInt ≤ ztn.toInt → (kd = 2 → 0 ≤ va.toInt) → e_fin9 (m_Mod_tokenize_L9 zta ztn n y g (m_Mod_token ztk zkk zkp zkv kd x1 va).1 (m_Mod_token ztk zkk zkp zkv kd x1 va).2.1 (m_Mod_token ztk zkk zkp zkv kd x1 va).2.2.1 (m_Mod_token ztk zkk zkp zkv kd x1 va).2.2.2) := by
          intro kd va y g y1 y2 hk
          refine ih y g _ _ _ _ (by omega) y2 ?_ ?_ (by omega) (e_ok9_tok h5 h2 (by omega) hk)
          · show 0 ≤ (ztk + 1).toInt; omega
          · show (ztk + 1).toInt ≤ y.toInt; omega
        split
        · exact ih (x1 + 1) x2 ztk zkk zkp zkv (by omega) (by omega) h2 (by omega) (by omega) h5
        · have hk53 : ∀ c, ¬ m_Mod_tokenize_I53 c = 2 := by
            intro c
            unfold m_Mod_tokenize_I53
            repeat' split
            all_goals decide
          simp only
          split
          · split
            · split
              · exact st _ _ (x1 + 1) 0 (by omega) (by omega) (fun h => absurd h (hk53 _))
              · exact st _ _ (x1 + 1) 1 (by omega) (by omega) (fun h => absurd h (hk53 _))
            · have I := v_Mod_I196L zta ztn x1 ((ztn.toInt - (x1 + 1).toInt).toNat + 1) (x1 + 1) ((zta x1.toNatClampNeg).toInt64) (by omega) hn
              split
              · exact st 1 _ _ 1 (by omega) I.2 (fun h => absurd h (by decide))
              · exact st 4 _ _ 0 (by omega) I.2 (fun h => absurd h (by decide))
          · rename_i cd
            have dg := e_dg cd
            have I := v_Mod_I121L zta ztn x1 ((ztn.toInt - (x1 + 1).toInt).toNat + 1) (x1 + 1) (((zta x1.toNatClampNeg) - 48).toInt64) (by omega) hn
            have d2 := (e_d64 dg).2
            have J := e_I121 (zta := zta) (ztn := ztn) (x3 := x1) h0 ((ztn.toInt - (x1 + 1).toInt).toNat + 1) (x1 + 1) (((zta x1.toNatClampNeg) - 48).toInt64) 1 (by omega) hn (by omega) (fun _ => ⟨by omega, by rw [d2]; show _ < (10 : Int); omega⟩) (by rw [d2]; omega)
            split
            · exact st 2 _ _ 1 (by omega) I.2 (fun _ => J)
            · exact st 4 _ _ 0 (by omega) I.2 (fun h => absurd h (by decide))
theorem v_tokenize {a : Int32} {b c : Nat → Int32} {d : Nat → Int64} {zta : Nat → Int32} {ztn ztk : Int32} {zkk zkp : Nat → Int32} {zkv : Nat → Int64} (hw : (a, b, c, d) = m_Mod_tokenize zta ztn ztk zkk zkp zkv) (h0 : 0 ≤ ztn.toInt) (h1 : ztn.toInt ≤ 480) : e_fin9 (a, b, c, d) := by
  rw [hw]
  have z : (0 : Int32).toInt = 0 := rfl
  exact e_tokR h1 _ 0 1 0 zkk zkp zkv (by omega) (by omega) (by omega) (by omega) (by omega) (fun i hi => by omega)
theorem e_nn_of {r : Int32 × (Nat → Int32) × (Nat → Int32) × (Nat → Int64)} (h : e_fin9 r) : e_nn r.2.1 r.2.2.2 (r.1.toInt - 1).toNat := by
  obtain ⟨h1, h2, h3, h4⟩ := h
  intro i hi
  exact h4 i (by omega)
