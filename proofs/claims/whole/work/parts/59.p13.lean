/-! answers that look only -/
theorem e_labelL {zkn : Int32} {zkm : Nat → Int64} {zka : Nat → Int32} {nm : Int64} {zth : Int32} (hn : zkn.toInt ≤ 1000) (ha : ∀ i, i < zkn.toNatClampNeg → 0 ≤ (zka i).toInt) : ∀ (n : Nat) (x : Int32), 0 ≤ x.toInt → x.toInt ≤ zkn.toInt → (zkn.toInt - x.toInt).toNat < n → e_fnd zkm nm x.toNatClampNeg = none → m_Mod_label_L2 zkn zkm zka nm n x zth = if e_look zkm zka zkn nm = -1 then (0, 1) else (e_look zkm zka zkn nm, 0) := by
  intro n
  induction n with
  | zero => intro x h0 h1 h2; omega
  | succ n ih =>
    intro x h0 h1 h2 h3
    obtain ⟨k1, k2, k3⟩ := e_cl1 (x := x) h0 (by omega)
    have e : zkn.toNatClampNeg = zkn.toInt.toNat := rfl
    unfold m_Mod_label_L2
    by_cases c1 : zkn ≤ x
    · have q := Int32.le_iff_toInt_le.mp c1
      have e2 : zkn = x := Int32.toInt_inj.mp (by omega)
      rw [if_pos c1, if_pos ((e_look_n ha).mpr (by rw [e2]; exact h3))]
      rfl
    · have q := mt Int32.le_iff_toInt_le.mpr c1
      rw [if_neg c1]
      by_cases c3 : zkm x.toNatClampNeg = nm
      · rw [if_pos ((lg_cmp_eq _ _).mpr c3)]
        have f : e_fnd zkm nm (x.toNatClampNeg + 1) = some x.toNatClampNeg := by rw [e_fnd_n h3, if_pos c3]
        have f2 := e_fnd_mono f (zkn.toNatClampNeg - (x.toNatClampNeg + 1))
        rw [show x.toNatClampNeg + 1 + (zkn.toNatClampNeg - (x.toNatClampNeg + 1)) = zkn.toNatClampNeg by omega] at f2
        have ne : ¬ e_look zkm zka zkn nm = -1 := fun h => by rw [(e_look_n ha).mp h] at f2; cases f2
        rw [if_neg ne]
        unfold e_look
        rw [f2]
      · rw [if_neg (fun h => c3 ((lg_cmp_eq _ _).mp h))]
        refine ih (x + 1) (by omega) (by omega) (by omega) ?_
        rw [k1, e_fnd_n h3, if_neg c3]
theorem e_label {zkn : Int32} {zkm : Nat → Int64} {zka : Nat → Int32} {nm : Int64} {zth : Int32} (h0 : 0 ≤ zkn.toInt) (hn : zkn.toInt ≤ 1000) (ha : ∀ i, i < zkn.toNatClampNeg → 0 ≤ (zka i).toInt) : m_Mod_label zth zkn zkm zka nm = if e_look zkm zka zkn nm = -1 then (0, 1) else (e_look zkm zka zkn nm, 0) := by
  have z : (0 : Int32).toInt = 0 := rfl
  unfold m_Mod_label
  exact e_labelL hn ha _ 0 (by omega) (by omega) (by omega) rfl
/-! what holds between the calls -/
def e_I (tc : Nat → Int32) (tn fk fp : Int32) (gw gs : Nat → Int32) (gn : Nat → Int64) (ga : Nat → Int32) (gl gc : Int32) (zta : Nat → Int32) (ztn zfk zfp : Int32) (zwd zst : Nat → Int32) (zkn : Int32) (zkm : Nat → Int64) (zka : Nat → Int32) (ztd : Int32) : Prop :=
  e_tape tc tn zta ztn ∧ (fk = zfk ∧ fp = zfp ∧ gl = zkn ∧ gc = ztd) ∧ (∀ i, i < 256 → gw i = zwd i) ∧ (∀ c, c < 4 → gs c = zst c) ∧ (0 ≤ gl.toInt ∧ gl.toInt ≤ 240) ∧ (∀ nm, e_look gn ga gl nm = e_look zkm zka zkn nm) ∧ (∀ i, i < gl.toNatClampNeg → 0 ≤ (ga i).toInt) ∧ (∀ i, i < zkn.toNatClampNeg → 0 ≤ (zka i).toInt)
theorem e_fault (fk fp wt zth : Int32) : m_Mod_fault zth fk fp wt = (m_Desk_fault fk fp wt, 0) := by
  unfold m_Mod_fault m_Desk_fault
  split
  · rfl
  · split <;> rfl
theorem e_opx2 {v : Int64} (h : ¬ m_Mod_opOf v = -1) : ∃ oi, oi < 25 ∧ m_Mod_opOf v = e_op oi := by
  obtain ⟨oi, h1, h2, -⟩ := e_opx h
  exact ⟨oi, h1, h2⟩
theorem e_ix4 {v : Int64} (h0 : 0 ≤ v.toInt) (h : ¬ 0 ≤ lg_cmp v 4) : vp_in v.toInt32 4 := by
  have q : v < 4 := Int64.not_le.mp (fun k => h ((lg_cmp_ge _ _).mpr k))
  have q := Int64.lt_iff_toInt_lt.mp q
  have z : (4 : Int64).toInt = 4 := rfl
  have s := e_small h0 (by omega)
  rw [vp_in_iff]
  omega
theorem v_tokB {a : Int32} {b c : Nat → Int32} {d : Nat → Int64} {zta : Nat → Int32} {ztn ztk : Int32} {zkk zkp : Nat → Int32} {zkv : Nat → Int64} (hw : (a, b, c, d) = m_Mod_tokenize zta ztn ztk zkk zkp zkv) (h0 : 0 ≤ ztn.toInt) (h1 : ztn.toInt ≤ 480) : 1 ≤ a.toInt ∧ a.toInt ≤ 481 := by
  have k := v_tokenize hw h0 h1
  exact ⟨k.1, k.2.1⟩
