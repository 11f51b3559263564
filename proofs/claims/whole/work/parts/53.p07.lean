/-! faults as a least key -/
def e_key (fk fp : Int32) : Int := if fk = 0 then 1000000000000 else 4 * fp.toInt + fk.toInt
def e_vf (fk fp : Int32) : Prop := (fk = 0 ∧ fp = 0) ∨ fk = 2 ∨ fk = 3
theorem e_key0 {fk fp : Int32} (h : fk = 0) : e_key fk fp = 1000000000000 := if_pos h
theorem e_keyn {fk fp : Int32} (h : ¬ fk = 0) : e_key fk fp = 4 * fp.toInt + fk.toInt := if_neg h
theorem e_i2 : (2 : Int32).toInt = 2 := rfl
theorem e_i3 : (3 : Int32).toInt = 3 := rfl
theorem e_vf_t {fk fp : Int32} (h : e_vf fk fp) (h0 : ¬ fk = 0) : fk.toInt = 2 ∨ fk.toInt = 3 := by
  rcases h with h | h | h
  · exact absurd h.1 h0
  · exact Or.inl (by rw [h]; rfl)
  · exact Or.inr (by rw [h]; rfl)
theorem e_note_key {fk fp nk wh : Int32} (hv : e_vf fk fp) (hn : nk = 2 ∨ nk = 3) : e_vf (m_Fault_note fk fp nk wh).1 (m_Fault_note fk fp nk wh).2 ∧ e_key (m_Fault_note fk fp nk wh).1 (m_Fault_note fk fp nk wh).2 = min (e_key fk fp) (4 * wh.toInt + nk.toInt) := by
  have g1 := gz_r fp
  have g2 := gz_r wh
  have n0 : ¬ nk = 0 := by rcases hn with h | h <;> rw [h] <;> decide
  have nt : nk.toInt = 2 ∨ nk.toInt = 3 := by
    rcases hn with h | h
    · exact Or.inl (by rw [h]; rfl)
    · exact Or.inr (by rw [h]; rfl)
  have kn : e_key nk wh = 4 * wh.toInt + nk.toInt := e_keyn n0
  unfold m_Fault_note
  by_cases c0 : fk = 0
  · rw [if_pos c0, e_key0 c0]
    refine ⟨Or.inr hn, ?_⟩
    show e_key nk wh = _
    omega
  · rw [if_neg c0]
    have kf := e_keyn (fp := fp) c0
    have ft := e_vf_t hv c0
    by_cases c1 : wh < fp
    · rw [if_pos c1]
      have q := Int32.lt_iff_toInt_lt.mp c1
      refine ⟨Or.inr hn, ?_⟩
      show e_key nk wh = _
      omega
    · rw [if_neg c1]
      have q := mt Int32.lt_iff_toInt_lt.mpr c1
      by_cases c2 : wh = fp
      · rw [if_pos c2]
        have q2 := congrArg Int32.toInt c2
        by_cases c3 : fk ≤ nk
        · rw [if_pos c3]
          have q3 := Int32.le_iff_toInt_le.mp c3
          refine ⟨hv, ?_⟩
          show e_key fk fp = _
          omega
        · rw [if_neg c3]
          have q3 := mt Int32.le_iff_toInt_le.mpr c3
          refine ⟨Or.inr hn, ?_⟩
          show e_key nk wh = _
          omega
      · rw [if_neg c2]
        have q2 : ¬ wh.toInt = fp.toInt := fun h => c2 (Int32.toInt_inj.mp h)
        refine ⟨hv, ?_⟩
        show e_key fk fp = _
        omega
theorem e_note_eq {fk fp nk wh : Int32} (hv : e_vf fk fp) (hn : nk = 2 ∨ nk = 3) : m_Mod_note fk fp nk wh = m_Fault_note fk fp nk wh := by
  have n1 : ¬ nk = 1 := by rcases hn with h | h <;> rw [h] <;> decide
  unfold m_Mod_note m_Fault_note
  by_cases c0 : fk = 0
  · rw [if_pos c0, if_pos c0]
  · have f1 : ¬ fk = 1 := by
      rcases hv with h | h | h
      · exact absurd h.1 c0
      · rw [h]; decide
      · rw [h]; decide
    rw [if_neg c0, if_neg c0, if_neg n1, if_neg f1]
theorem e_note_nz {fk fp nk wh : Int32} (hn : nk = 2 ∨ nk = 3) : ¬ (m_Fault_note fk fp nk wh).1 = 0 := by
  have n0 : ¬ nk = 0 := by rcases hn with h | h <;> rw [h] <;> decide
  unfold m_Fault_note
  split
  · exact n0
  · rename_i c0
    split
    · exact n0
    · split
      · split
        · exact c0
        · exact n0
      · exact c0
theorem e_key_inj {a b c d : Int32} (h1 : e_vf a b) (h2 : e_vf c d) (h : e_key a b = e_key c d) : a = c ∧ b = d := by
  have g1 := gz_r b
  have g2 := gz_r d
  by_cases a0 : a = 0
  · by_cases c0 : c = 0
    · rcases h1 with k1 | k1 | k1
      · rcases h2 with k2 | k2 | k2
        · exact ⟨k1.1.trans k2.1.symm, k1.2.trans k2.2.symm⟩
        · exact absurd (k2.symm.trans c0) (by decide)
        · exact absurd (k2.symm.trans c0) (by decide)
      · exact absurd (k1.symm.trans a0) (by decide)
      · exact absurd (k1.symm.trans a0) (by decide)
    · rw [e_key0 a0, e_keyn c0] at h
      have t := e_vf_t h2 c0
      omega
  · by_cases c0 : c = 0
    · rw [e_key0 c0, e_keyn a0] at h
      have t := e_vf_t h1 a0
      omega
    · rw [e_keyn a0, e_keyn c0] at h
      have t1 := e_vf_t h1 a0
      have t2 := e_vf_t h2 c0
      exact ⟨Int32.toInt_inj.mp (by omega), Int32.toInt_inj.mp (by omega)⟩
theorem e_key_z {a b : Int32} (h1 : e_vf a b) : a = 0 ↔ e_key a b = 1000000000000 := by
  have g1 := gz_r b
  constructor
  · intro h; exact e_key0 h
  · intro h
    by_cases a0 : a = 0
    · exact a0
    · rw [e_keyn a0] at h
      have t1 := e_vf_t h1 a0
      omega
/-! labels: the first of a name -/
def e_fnd (v : Nat → Int64) (nm : Int64) : Nat → Option Nat
  | 0 => none
  | n + 1 => match e_fnd v nm n with
    | some i => some i
    | none => if v n = nm then some n else none
theorem e_fnd_s {v : Nat → Int64} {nm : Int64} {n i : Nat} (h : e_fnd v nm n = some i) : e_fnd v nm (n + 1) = some i := by
  rw [e_fnd, h]
theorem e_fnd_n {v : Nat → Int64} {nm : Int64} {n : Nat} (h : e_fnd v nm n = none) : e_fnd v nm (n + 1) = if v n = nm then some n else none := by
  rw [e_fnd, h]
theorem e_fnd_mono {v : Nat → Int64} {nm : Int64} {n i : Nat} (h : e_fnd v nm n = some i) : ∀ k, e_fnd v nm (n + k) = some i := by
  intro k
  induction k with
  | zero => exact h
  | succ k ih => exact e_fnd_s ih
theorem e_fnd_congr {v w : Nat → Int64} {nm : Int64} : ∀ n, (∀ i, i < n → v i = w i) → e_fnd v nm n = e_fnd w nm n := by
  intro n
  induction n with
  | zero => intro _; rfl
  | succ n ih =>
    intro h
    have k := ih (fun i hi => h i (Nat.lt_succ_of_lt hi))
    rw [e_fnd, e_fnd, k, h n (Nat.lt_succ_self n)]
theorem e_fnd_lt {v : Nat → Int64} {nm : Int64} : ∀ n i, e_fnd v nm n = some i → i < n := by
  intro n
  induction n with
  | zero => intro i h; cases h
  | succ n ih =>
    intro i h
    rcases hk : e_fnd v nm n with _ | j
    · rw [e_fnd_n hk] at h
      split at h
      · cases h; exact Nat.lt_succ_self n
      · cases h
    · rw [e_fnd_s hk] at h
      cases h
      exact Nat.lt_succ_of_lt (ih _ hk)
def e_look (v : Nat → Int64) (a : Nat → Int32) (n : Int32) (nm : Int64) : Int32 := match e_fnd v nm n.toNatClampNeg with
  | some i => a i
  | none => -1
theorem e_aof_L {dn : Nat → Int64} {da : Nat → Int32} {dl : Int32} {nm : Int64} (hd : dl.toInt ≤ 240) : ∀ (n : Nat) (x3 : Int32), 0 ≤ x3.toInt → x3.toInt ≤ dl.toInt → (240 - x3.toInt).toNat < n → e_fnd dn nm x3.toNatClampNeg = none → m_Program_addressOf_L2 dn da dl nm n x3 = e_look dn da dl nm := by
  intro n
  have z240 : (240 : Int32).toInt = 240 := rfl
  induction n with
  | zero => intro x3 h0 h1 h2 h3; omega
  | succ n ih =>
    intro x3 h0 h1 h2 h3
    obtain ⟨k1, k2, k3⟩ := e_cl1 h0 (by omega)
    have e : dl.toNatClampNeg = dl.toInt.toNat := rfl
    unfold m_Program_addressOf_L2
    by_cases c1 : dl ≤ x3
    · have q := Int32.le_iff_toInt_le.mp c1
      have e2 : dl = x3 := Int32.toInt_inj.mp (by omega)
      rw [if_pos c1]
      unfold e_look
      rw [e2, h3]
    · have q := mt Int32.le_iff_toInt_le.mpr c1
      rw [if_neg c1, if_neg (fun h => by have q2 := Int32.le_iff_toInt_le.mp h; omega)]
      by_cases c3 : dn x3.toNatClampNeg = nm
      · rw [if_pos ((lg_cmp_eq _ _).mpr c3)]
        have f : e_fnd dn nm (x3.toNatClampNeg + 1) = some x3.toNatClampNeg := by rw [e_fnd_n h3, if_pos c3]
        have f2 := e_fnd_mono f (dl.toNatClampNeg - (x3.toNatClampNeg + 1))
        rw [show x3.toNatClampNeg + 1 + (dl.toNatClampNeg - (x3.toNatClampNeg + 1)) = dl.toNatClampNeg by omega] at f2
        unfold e_look
        rw [f2]
      · rw [if_neg (fun h => c3 ((lg_cmp_eq _ _).mp h))]
        refine ih (x3 + 1) (by omega) (by omega) (by omega) ?_
        rw [k1, e_fnd_n h3, if_neg c3]
theorem e_aof {dn : Nat → Int64} {da : Nat → Int32} {dl : Int32} {nm : Int64} (h0 : 0 ≤ dl.toInt) (hd : dl.toInt ≤ 240) : m_Program_addressOf dn da dl nm = e_look dn da dl nm := by
  have z : (0 : Int32).toInt = 0 := rfl
  exact e_aof_L hd 241 0 (by omega) (by omega) (by omega) rfl
theorem e_look_n {v : Nat → Int64} {a : Nat → Int32} {n : Int32} {nm : Int64} (ha : ∀ i, i < n.toNatClampNeg → 0 ≤ (a i).toInt) : e_look v a n nm = -1 ↔ e_fnd v nm n.toNatClampNeg = none := by
  unfold e_look
  rcases hf : e_fnd v nm n.toNatClampNeg with _ | i
  · exact ⟨fun _ => rfl, fun _ => rfl⟩
  · constructor
    · intro h
      have h : a i = -1 := h
      have k := ha i (e_fnd_lt _ _ hf)
      rw [h] at k
      exact absurd k (by decide)
    · intro h; cases h
theorem e_look_push {v : Nat → Int64} {a : Nat → Int32} {n y : Int32} {x nm : Int64} (h0 : 0 ≤ n.toInt) (h1 : n.toInt ≤ 100000) (ha : ∀ i, i < n.toNatClampNeg → 0 ≤ (a i).toInt) : e_look (vp_updL v n.toNatClampNeg x) (upd a n.toNatClampNeg y) (n + 1) nm = if e_look v a n nm = -1 then (if x = nm then y else -1) else e_look v a n nm := by
  obtain ⟨k1, k2, k3⟩ := e_cl1 h0 h1
  have hcg : e_fnd (vp_updL v n.toNatClampNeg x) nm n.toNatClampNeg = e_fnd v nm n.toNatClampNeg := e_fnd_congr _ (fun i hi => by unfold vp_updL; rw [if_neg (by omega)])
  have hat : vp_updL v n.toNatClampNeg x n.toNatClampNeg = x := by unfold vp_updL; rw [if_pos rfl]
  rcases hf : e_fnd v nm n.toNatClampNeg with _ | i
  · rw [if_pos ((e_look_n ha).mpr hf)]
    unfold e_look
    rw [k1, e_fnd_n (hcg.trans hf), hat]
    by_cases c : x = nm
    · rw [if_pos c, if_pos c]
      show upd a n.toNatClampNeg y n.toNatClampNeg = y
      unfold upd; rw [if_pos rfl]
    · rw [if_neg c, if_neg c]
  · have ne : ¬ e_look v a n nm = -1 := fun h => by rw [(e_look_n ha).mp h] at hf; cases hf
    rw [if_neg ne]
    unfold e_look
    rw [k1, e_fnd_s (hcg.trans hf), hf]
    have hi := e_fnd_lt _ _ hf
    show upd a n.toNatClampNeg y i = a i
    unfold upd; rw [if_neg (by omega)]
theorem e_push_nn {a : Nat → Int32} {n y : Int32} (h0 : 0 ≤ n.toInt) (h1 : n.toInt ≤ 100000) (ha : ∀ i, i < n.toNatClampNeg → 0 ≤ (a i).toInt) (hy : 0 ≤ y.toInt) : ∀ i, i < (n + 1).toNatClampNeg → 0 ≤ (upd a n.toNatClampNeg y i).toInt := by
  obtain ⟨k1, k2, k3⟩ := e_cl1 h0 h1
  intro i hi
  unfold upd
  by_cases c : i = n.toNatClampNeg
  · rw [if_pos c]; exact hy
  · rw [if_neg c]; exact ha i (by omega)
/-! the fold of the reference -/
abbrev e_R : Type := Int32 × Int32 × Int32 × (Nat → Int64) × (Nat → Int32) × Int32 × (Nat → Int32) × (Nat → Int32) × (Nat → Int32) × (Nat → Int64) × (Nat → Int32) × (Nat → Int32) × Int32
def e_dup (zfk zfp zln : Int32) (zlv : Nat → Int64) (nm : Int64) (pl : Int32) : Int32 × Int32 := if e_fnd zlv nm zln.toNatClampNeg = none then (zfk, zfp) else m_Mod_note zfk zfp 2 pl
def e_lf (F : Int32 × Int32) (znx pl : Int32) : Int32 × Int32 := if znx ≤ 255 then F else m_Mod_note F.1 F.2 3 pl
def e_bs (oi : Nat) : Int32 := if oi < 22 then e_op oi <<< ((24 : Int32) &&& 31) else 0
def e_rE : e_R → e_Ev → e_R
  | (zfk, zfp, zln, zlv, zla, zpn, zpa, zpw, zpk, zpl, zpp, zbg, znx), .inl (nm, pl) =>
    ((e_dup zfk zfp zln zlv nm pl).1, (e_dup zfk zfp zln zlv nm pl).2, zln + 1, vp_updL zlv zln.toNatClampNeg nm, upd zla zln.toNatClampNeg znx, zpn, zpa, zpw, zpk, zpl, zpp, zbg, znx)
  | (zfk, zfp, zln, zlv, zla, zpn, zpa, zpw, zpk, zpl, zpp, zbg, znx), .inr (oi, pl, (_, rg, q, nm, pN, vl)) =>
    if oi = 23 then ((e_rf oi zfk zfp q pN vl).1, (e_rf oi zfk zfp q pN vl).2, zln, zlv, zla, zpn, zpa, zpw, e_rk oi (upd zpk zpn.toNatClampNeg 0) zpn q, e_rl zpl zpn q nm, e_rp zpp zpn q pN, zbg, if vl < 256 then vl.toInt32 else 256)
    else if oi = 24 then ((e_rf oi zfk zfp q pN vl).1, (e_rf oi zfk zfp q pN vl).2, zln, zlv, zla, zpn, zpa, zpw, e_rk oi (upd zpk zpn.toNatClampNeg 0) zpn q, e_rl zpl zpn q nm, e_rp zpp zpn q pN, if vl < 4 then upd zbg vl.toInt32.toNatClampNeg znx else zbg, znx)
    else ((e_lf (e_rf oi zfk zfp q pN vl) znx pl).1, (e_lf (e_rf oi zfk zfp q pN vl) znx pl).2, zln, zlv, zla, zpn + 1, upd zpa zpn.toNatClampNeg znx, upd zpw zpn.toNatClampNeg (e_rm oi (e_bs oi) rg q vl), e_rk oi (upd zpk zpn.toNatClampNeg 0) zpn q, e_rl zpl zpn q nm, e_rp zpp zpn q pN, zbg, znx + 1)
theorem e_rE_l (zfk zfp zln : Int32) (zlv : Nat → Int64) (zla : Nat → Int32) (zpn : Int32) (zpa zpw zpk : Nat → Int32) (zpl : Nat → Int64) (zpp zbg : Nat → Int32) (znx : Int32) (nm : Int64) (pl : Int32) : e_rE (zfk, zfp, zln, zlv, zla, zpn, zpa, zpw, zpk, zpl, zpp, zbg, znx) (.inl (nm, pl)) = ((e_dup zfk zfp zln zlv nm pl).1, (e_dup zfk zfp zln zlv nm pl).2, zln + 1, vp_updL zlv zln.toNatClampNeg nm, upd zla zln.toNatClampNeg znx, zpn, zpa, zpw, zpk, zpl, zpp, zbg, znx) := rfl
theorem e_rE_o (zfk zfp zln : Int32) (zlv : Nat → Int64) (zla : Nat → Int32) (zpn : Int32) (zpa zpw zpk : Nat → Int32) (zpl : Nat → Int64) (zpp zbg : Nat → Int32) (znx : Int32) (oi : Nat) (pl cu rg : Int32) (q : Nat) (nm : Int64) (pN : Int32) (vl : Int64) : e_rE (zfk, zfp, zln, zlv, zla, zpn, zpa, zpw, zpk, zpl, zpp, zbg, znx) (.inr (oi, pl, (cu, rg, q, nm, pN, vl))) =
    if oi = 23 then ((e_rf oi zfk zfp q pN vl).1, (e_rf oi zfk zfp q pN vl).2, zln, zlv, zla, zpn, zpa, zpw, e_rk oi (upd zpk zpn.toNatClampNeg 0) zpn q, e_rl zpl zpn q nm, e_rp zpp zpn q pN, zbg, if vl < 256 then vl.toInt32 else 256)
    else if oi = 24 then ((e_rf oi zfk zfp q pN vl).1, (e_rf oi zfk zfp q pN vl).2, zln, zlv, zla, zpn, zpa, zpw, e_rk oi (upd zpk zpn.toNatClampNeg 0) zpn q, e_rl zpl zpn q nm, e_rp zpp zpn q pN, if vl < 4 then upd zbg vl.toInt32.toNatClampNeg znx else zbg, znx)
    else ((e_lf (e_rf oi zfk zfp q pN vl) znx pl).1, (e_lf (e_rf oi zfk zfp q pN vl) znx pl).2, zln, zlv, zla, zpn + 1, upd zpa zpn.toNatClampNeg znx, upd zpw zpn.toNatClampNeg (e_rm oi (e_bs oi) rg q vl), e_rk oi (upd zpk zpn.toNatClampNeg 0) zpn q, e_rl zpl zpn q nm, e_rp zpp zpn q pN, zbg, znx + 1) := rfl
def e_wf : e_Ev → Prop
  | .inl _ => True
  | .inr (oi, _, (_, _, q, _, _, vl)) => oi < 25 ∧ q ≤ 3 ∧ (oi = 22 → ¬ q = 3) ∧ (oi = 23 ∨ oi = 24 → q = 1 ∧ 0 ≤ vl.toInt)
def e_wl : e_Ev → Nat
  | .inl _ => 1
  | .inr _ => 0
def e_wo : e_Ev → Nat
  | .inl _ => 0
  | .inr _ => 1
def e_nl : List e_Ev → Nat
  | [] => 0
  | ev :: t => e_wl ev + e_nl t
def e_no : List e_Ev → Nat
  | [] => 0
  | ev :: t => e_wo ev + e_no t
def e_nm (b : Int32) : Int32 := if 256 ≤ b then 0 else b
/-! the first pass and the reference -/
def e_P1 (fk fp : Int32) (ds : Nat → Int32) (dn : Nat → Int64) (da : Nat → Int32) (dl dc na zfk zfp zln : Int32) (zlv : Nat → Int64) (zla : Nat → Int32) (zpn : Int32) (zbg : Nat → Int32) (znx : Int32) : Prop :=
  (zfk = fk ∧ zfp = fp ∧ znx = na ∧ zpn = dc) ∧ e_vf fk fp ∧ (0 ≤ na.toInt ∧ na.toInt ≤ 256 + dc.toInt ∧ 0 ≤ dc.toInt ∧ (fk = 0 → na.toInt ≤ 256)) ∧ (0 ≤ dl.toInt ∧ dl.toInt ≤ zln.toInt ∧ (fk = 0 → dl = zln)) ∧ (∀ nm, e_look dn da dl nm = e_look zlv zla zln nm) ∧ (∀ i, i < dl.toNatClampNeg → 0 ≤ (da i).toInt) ∧ (∀ i, i < zln.toNatClampNeg → 0 ≤ (zla i).toInt) ∧ (∀ c, c < 4 → ds c = e_nm (zbg c)) ∧ (∀ c, c < 4 → 0 ≤ (zbg c).toInt ∧ (fk = 0 → (zbg c).toInt ≤ 256))
def e_Q1 (C : e_C) (R : e_R) : Prop := e_P1 C.1 C.2.1 C.2.2.2.1 C.2.2.2.2.1 C.2.2.2.2.2.1 C.2.2.2.2.2.2.1 C.2.2.2.2.2.2.2.1 C.2.2.2.2.2.2.2.2 R.1 R.2.1 R.2.2.1 R.2.2.2.1 R.2.2.2.2.1 R.2.2.2.2.2.1 R.2.2.2.2.2.2.2.2.2.2.2.1 R.2.2.2.2.2.2.2.2.2.2.2.2
theorem e_s1_lab {fk fp : Int32} {dw ds : Nat → Int32} {dn : Nat → Int64} {da : Nat → Int32} {dl dc na zfk zfp zln : Int32} {zlv : Nat → Int64} {zla : Nat → Int32} {zpn : Int32} {zpa zpw zpk : Nat → Int32} {zpl : Nat → Int64} {zpp zbg : Nat → Int32} {znx : Int32} {nm : Int64} {pl : Int32}
    (h : e_P1 fk fp ds dn da dl dc na zfk zfp zln zlv zla zpn zbg znx) (hr : zln.toInt < 240) :
    e_Q1 (e_cE 1 (fk, fp, dw, ds, dn, da, dl, dc, na) (.inl (nm, pl))) (e_rE (zfk, zfp, zln, zlv, zla, zpn, zpa, zpw, zpk, zpl, zpp, zbg, znx) (.inl (nm, pl))) ∧ (e_cE 1 (fk, fp, dw, ds, dn, da, dl, dc, na) (.inl (nm, pl))).2.2.1 = dw := by
  obtain ⟨⟨rfl, rfl, rfl, rfl⟩, hv, ⟨n0, n1, n2, n3⟩, ⟨d0, d1, d2⟩, hlk, hda, hza, hds, hbg⟩ := h
  have z240 : (240 : Int32).toInt = 240 := rfl
  obtain ⟨k1, k2, k3⟩ := e_cl1 (x := dl) d0 (by omega)
  obtain ⟨j1, j2, j3⟩ := e_cl1 (x := zln) (by omega) (by omega)
  have hP : e_look (vp_updL zlv zln.toNatClampNeg nm) (upd zla zln.toNatClampNeg znx) (zln + 1) = fun nm' => if e_look zlv zla zln nm' = -1 then (if nm = nm' then znx else -1) else e_look zlv zla zln nm' := by
    funext nm'
    exact e_look_push (by omega) (by omega) hza
  rw [e_cE_l, e_rE_l]
  unfold m_Program_add
  rw [if_neg (show ¬ (1 : Int32) = 0 by decide), e_aof d0 (by omega), hlk nm]
  by_cases c : e_look zlv zla zln nm = -1
  · have hdup : e_dup zfk zfp zln zlv nm pl = (zfk, zfp) := by
      unfold e_dup
      rw [if_pos ((e_look_n hza).mp c)]
    rw [if_pos c, if_pos (Int32.lt_iff_toInt_lt.mpr (by omega)), hdup]
    simp only [e_if1]
    refine ⟨?_, by first | rfl | trivial⟩
    refine ⟨⟨rfl, rfl, rfl, rfl⟩, hv, ⟨n0, n1, n2, n3⟩, ⟨?_, ?_, ?_⟩, ?_, e_push_nn d0 (by omega) hda n0, e_push_nn (by omega) (by omega) hza n0, hds, hbg⟩
    · show 0 ≤ (dl + 1).toInt; omega
    · show (dl + 1).toInt ≤ (zln + 1).toInt; omega
    · intro f0; show dl + 1 = zln + 1; rw [d2 f0]
    · intro nm'
      show e_look (vp_updL dn dl.toNatClampNeg nm) (upd da dl.toNatClampNeg znx) (dl + 1) nm' = e_look (vp_updL zlv zln.toNatClampNeg nm) (upd zla zln.toNatClampNeg znx) (zln + 1) nm'
      rw [hP, e_look_push d0 (by omega) hda, hlk nm']
  · have hdup : e_dup zfk zfp zln zlv nm pl = m_Fault_note zfk zfp 2 pl := by
      unfold e_dup
      rw [if_neg (fun h => c ((e_look_n hza).mpr h)), e_note_eq hv (Or.inl rfl)]
    have nz := e_note_nz (fk := zfk) (fp := zfp) (nk := 2) (wh := pl) (Or.inl rfl)
    rw [if_neg c, hdup]
    simp only [e_if0]
    refine ⟨?_, by first | rfl | trivial⟩
    refine ⟨⟨rfl, rfl, rfl, rfl⟩, (e_note_key hv (Or.inl rfl)).1, ⟨n0, n1, n2, fun h => absurd h nz⟩, ⟨d0, ?_, fun h => absurd h nz⟩, ?_, hda, e_push_nn (by omega) (by omega) hza n0, hds, fun c hc => ⟨(hbg c hc).1, fun h => absurd h nz⟩⟩
    · show dl.toInt ≤ (zln + 1).toInt; omega
    · intro nm'
      show e_look dn da dl nm' = e_look (vp_updL zlv zln.toNatClampNeg nm) (upd zla zln.toNatClampNeg znx) (zln + 1) nm'
      rw [hP, hlk nm']
      show _ = if e_look zlv zla zln nm' = -1 then (if nm = nm' then znx else -1) else e_look zlv zla zln nm'
      by_cases c2 : e_look zlv zla zln nm' = -1
      · rw [if_pos c2, c2, if_neg (fun e => c (by rw [e]; exact c2))]
      · rw [if_neg c2]
theorem e_cf1 {dn : Nat → Int64} {da : Nat → Int32} {dl : Int32} {oi : Nat} {fk fp : Int32} {q : Nat} {nm : Int64} {pN : Int32} {vl : Int64} (hv : e_vf fk fp) : e_cf 1 dn da dl oi fk fp q nm pN vl = e_rf oi fk fp q pN vl ∧ e_vf (e_rf oi fk fp q pN vl).1 (e_rf oi fk fp q pN vl).2 ∧ ((e_rf oi fk fp q pN vl).1 = 0 → fk = 0) ∧ e_key (e_rf oi fk fp q pN vl).1 (e_rf oi fk fp q pN vl).2 ≤ e_key fk fp ∧ (q = 1 → m_Order_fits oi vl = 0 → e_key (e_rf oi fk fp q pN vl).1 (e_rf oi fk fp q pN vl).2 ≤ 4 * pN.toInt + 3) := by
  unfold e_cf e_rf
  by_cases c1 : q = 1
  · rw [if_pos c1]
    by_cases c2 : m_Order_fits oi vl = 0
    · rw [if_pos c2, if_pos ⟨c1, c2⟩, e_note_eq hv (Or.inr rfl)]
      have k := e_note_key (fk := fk) (fp := fp) (nk := 3) (wh := pN) hv (Or.inr rfl)
      have i3 := e_i3
      exact ⟨rfl, k.1, fun h => absurd h (e_note_nz (Or.inr rfl)), by omega, fun _ _ => by omega⟩
    · rw [if_neg c2, if_neg (fun h => c2 h.2)]
      exact ⟨rfl, hv, fun h => h, Int.le_refl _, fun _ h => absurd h c2⟩
  · rw [if_neg c1, if_neg (fun h => absurd h.2.1 (by decide)), if_neg (fun h => c1 h.1)]
    exact ⟨rfl, hv, fun h => h, Int.le_refl _, fun h => absurd h c1⟩
theorem e_lf1 {F : Int32 × Int32} {znx pl : Int32} (hv : e_vf F.1 F.2) : e_vf (e_lf F znx pl).1 (e_lf F znx pl).2 ∧ ((e_lf F znx pl).1 = 0 → F.1 = 0 ∧ znx.toInt ≤ 255) ∧ e_key (e_lf F znx pl).1 (e_lf F znx pl).2 ≤ e_key F.1 F.2 ∧ (255 < znx.toInt → e_key (e_lf F znx pl).1 (e_lf F znx pl).2 ≤ 4 * pl.toInt + 3) := by
  have z255 : (255 : Int32).toInt = 255 := rfl
  unfold e_lf
  by_cases c : znx ≤ 255
  · have q := Int32.le_iff_toInt_le.mp c
    rw [if_pos c]
    exact ⟨hv, fun h => ⟨h, by omega⟩, Int.le_refl _, fun h => by omega⟩
  · have q := mt Int32.le_iff_toInt_le.mpr c
    rw [if_neg c, e_note_eq hv (Or.inr rfl)]
    have k := e_note_key (fk := F.1) (fp := F.2) (nk := 3) (wh := pl) hv (Or.inr rfl)
    have i3 := e_i3
    exact ⟨k.1, fun h => absurd h (e_note_nz (Or.inr rfl)), by omega, fun _ => by omega⟩
theorem e_lay1 {F : Int32 × Int32} (hv : e_vf F.1 F.2) (dw : Nat → Int32) (dc na co pl : Int32) : m_Asm_lay F.1 F.2 dw dc 1 na co pl = ((e_lf F na pl).1, (e_lf F na pl).2, dw, dc + 1, na + 1) := by
  have z255 : (255 : Int32).toInt = 255 := rfl
  have z256 : (256 : Int32).toInt = 256 := rfl
  unfold m_Asm_lay e_lf
  by_cases c : na ≤ 255
  · have q := Int32.le_iff_toInt_le.mp c
    rw [if_pos (Int32.lt_iff_toInt_lt.mpr (by omega)), if_neg (show ¬ (1 : Int32) = 0 by decide), if_pos c]
  · have q := mt Int32.le_iff_toInt_le.mpr c
    rw [if_neg (fun h => by have q2 := Int32.lt_iff_toInt_lt.mp h; omega), if_neg c, e_note_eq hv (Or.inr rfl)]
theorem e_co1 {F : Int32 × Int32} (hv : e_vf F.1 F.2) {oi : Nat} (h23 : ¬ oi = 23) (h24 : ¬ oi = 24) (dw ds : Nat → Int32) (dc na rg : Int32) (vl : Int64) (pl : Int32) : m_Asm_carryOut F.1 F.2 dw ds dc 1 na rg vl oi pl = ((e_lf F na pl).1, (e_lf F na pl).2, dw, ds, dc + 1, na + 1) := by
  unfold m_Asm_carryOut
  rw [if_neg h23, if_neg h24, e_lay1 hv, e_lay1 hv]
  split <;> rfl
theorem e_fits23 {vl : Int64} (h : 0 ≤ vl.toInt) : m_Order_fits 23 vl = 0 ↔ ¬ vl < 256 := by
  rw [e_fit, Int64.lt_iff_toInt_lt, Int64.lt_iff_toInt_lt, Int64.lt_iff_toInt_lt]
  have a : ((g_lst 23).toInt64).toInt = 0 := by decide
  have b : ((g_mst 23).toInt64).toInt = 255 := by decide
  have c : (256 : Int64).toInt = 256 := rfl
  omega
theorem e_fits24 {vl : Int64} (h : 0 ≤ vl.toInt) : m_Order_fits 24 vl = 0 ↔ ¬ vl < 4 := by
  rw [e_fit, Int64.lt_iff_toInt_lt, Int64.lt_iff_toInt_lt, Int64.lt_iff_toInt_lt]
  have a : ((g_lst 24).toInt64).toInt = 0 := by decide
  have b : ((g_mst 24).toInt64).toInt = 3 := by decide
  have c : (4 : Int64).toInt = 4 := rfl
  omega
theorem e_small {vl : Int64} (h0 : 0 ≤ vl.toInt) (h1 : vl.toInt ≤ 100000) : vl.toInt32.toInt = vl.toInt := by
  rw [Int64.toInt_toInt32]
  exact Int.bmod_eq_of_le (by omega) (by omega)
theorem e_nm_upd {ds zbg : Nat → Int32} {na : Int32} (hds : ∀ c, c < 4 → ds c = e_nm (zbg c)) (k : Nat) : ∀ c, c < 4 → upd ds k (e_nm na) c = e_nm (upd zbg k na c) := by
  intro c hc
  unfold upd
  by_cases e : c = k
  · rw [if_pos e, if_pos e]
  · rw [if_neg e, if_neg e]; exact hds c hc
theorem e_begin {ds : Nat → Int32} {co na : Int32} (h0 : 0 ≤ co.toInt) (h1 : co.toInt < 4) : m_Program_begin ds co na = upd ds co.toNatClampNeg (e_nm na) := by
  have z0 : (0 : Int32).toInt = 0 := rfl
  have z4 : (4 : Int32).toInt = 4 := rfl
  unfold m_Program_begin e_nm
  rw [if_neg (fun h => by have q := Int32.lt_iff_toInt_lt.mp h; omega), if_neg (fun h => by have q := Int32.le_iff_toInt_le.mp h; omega)]
  split <;> rfl
theorem e_begin1 {ds : Nat → Int32} {na : Int32} : m_Program_begin ds (-1) na = ds := by
  unfold m_Program_begin
  rw [if_pos (by decide)]
theorem e_s1_ord {fk fp : Int32} {dw ds : Nat → Int32} {dn : Nat → Int64} {da : Nat → Int32} {dl dc na zfk zfp zln : Int32} {zlv : Nat → Int64} {zla : Nat → Int32} {zpn : Int32} {zpa zpw zpk : Nat → Int32} {zpl : Nat → Int64} {zpp zbg : Nat → Int32} {znx : Int32} {oi : Nat} {pl : Int32} {S : e_S}
    (h : e_P1 fk fp ds dn da dl dc na zfk zfp zln zlv zla zpn zbg znx) (hw : e_wf (.inr (oi, pl, S))) (hr : zpn.toInt < 240) :
    e_Q1 (e_cE 1 (fk, fp, dw, ds, dn, da, dl, dc, na) (.inr (oi, pl, S))) (e_rE (zfk, zfp, zln, zlv, zla, zpn, zpa, zpw, zpk, zpl, zpp, zbg, znx) (.inr (oi, pl, S))) ∧ (e_cE 1 (fk, fp, dw, ds, dn, da, dl, dc, na) (.inr (oi, pl, S))).2.2.1 = dw := by
  obtain ⟨⟨rfl, rfl, rfl, rfl⟩, hv, ⟨n0, n1, n2, n3⟩, ⟨d0, d1, d2⟩, hlk, hda, hza, hds, hbg⟩ := h
  obtain ⟨cu, rg, q, nm, pN, vl⟩ := S
  obtain ⟨w1, w2, w3, w4⟩ := hw
  have hc := e_cf1 (dn := dn) (da := da) (dl := dl) (oi := oi) (q := q) (nm := nm) (pN := pN) (vl := vl) hv
  obtain ⟨hc, fv, f0, -, -⟩ := hc
  rw [e_cE_o, e_rE_o, hc]
  generalize e_rf oi zfk zfp q pN vl = F at fv f0 ⊢
  have z256 : (256 : Int32).toInt = 256 := rfl
  have zm1 : (-1 : Int32).toInt = -1 := by decide
  by_cases h23 : oi = 23
  · subst h23
    obtain ⟨q1, v0⟩ := w4 (Or.inl rfl)
    subst q1
    have ev : e_cv dn da dl znx 1 nm vl = vl := rfl
    rw [ev]
    unfold m_Asm_carryOut
    rw [if_pos rfl, if_pos rfl]
    by_cases c : vl < 256
    · have q := Int64.lt_iff_toInt_lt.mp c
      have z : (256 : Int64).toInt = 256 := rfl
      have s := e_small v0 (by omega)
      rw [if_neg (fun h => (e_fits23 v0).mp h c), if_pos c]
      refine ⟨⟨⟨rfl, rfl, rfl, rfl⟩, fv, ⟨?_, ?_, n2, fun _ => ?_⟩, ⟨d0, d1, fun h => d2 (f0 h)⟩, hlk, hda, hza, hds, fun c hc => ⟨(hbg c hc).1, fun h => (hbg c hc).2 (f0 h)⟩⟩, rfl⟩
      · show 0 ≤ vl.toInt32.toInt; omega
      · show vl.toInt32.toInt ≤ 256 + zpn.toInt; omega
      · show vl.toInt32.toInt ≤ 256; omega
    · rw [if_pos ((e_fits23 v0).mpr c), if_neg c]
      refine ⟨⟨⟨rfl, rfl, rfl, rfl⟩, fv, ⟨(show 0 ≤ (256 : Int32).toInt by decide), ?_, n2, fun _ => (show (256 : Int32).toInt ≤ 256 by decide)⟩, ⟨d0, d1, fun h => d2 (f0 h)⟩, hlk, hda, hza, hds, fun c hc => ⟨(hbg c hc).1, fun h => (hbg c hc).2 (f0 h)⟩⟩, rfl⟩
      show (256 : Int32).toInt ≤ 256 + zpn.toInt; omega
  by_cases h24 : oi = 24
  · subst h24
    obtain ⟨q1, v0⟩ := w4 (Or.inr rfl)
    subst q1
    have ev : e_cv dn da dl znx 1 nm vl = vl := rfl
    rw [ev]
    unfold m_Asm_carryOut
    rw [if_neg h23, if_neg h23, if_pos rfl, if_pos rfl]
    by_cases c : vl < 4
    · have q := Int64.lt_iff_toInt_lt.mp c
      have z : (4 : Int64).toInt = 4 := rfl
      have s := e_small v0 (by omega)
      rw [if_neg (fun h => (e_fits24 v0).mp h c), if_pos c, e_begin (by omega) (by omega)]
      refine ⟨⟨⟨rfl, rfl, rfl, rfl⟩, fv, ⟨n0, n1, n2, fun h => n3 (f0 h)⟩, ⟨d0, d1, fun h => d2 (f0 h)⟩, hlk, hda, hza, e_nm_upd hds _, fun c hc => ?_⟩, rfl⟩
      show 0 ≤ (upd zbg vl.toInt32.toNatClampNeg znx c).toInt ∧ (F.1 = 0 → (upd zbg vl.toInt32.toNatClampNeg znx c).toInt ≤ 256)
      unfold upd
      by_cases e : c = vl.toInt32.toNatClampNeg
      · rw [if_pos e]; exact ⟨n0, fun h => n3 (f0 h)⟩
      · rw [if_neg e]; exact ⟨(hbg c hc).1, fun h => (hbg c hc).2 (f0 h)⟩
    · rw [if_pos ((e_fits24 v0).mpr c), if_neg c, e_begin1]
      exact ⟨⟨⟨rfl, rfl, rfl, rfl⟩, fv, ⟨n0, n1, n2, fun h => n3 (f0 h)⟩, ⟨d0, d1, fun h => d2 (f0 h)⟩, hlk, hda, hza, hds, fun c hc => ⟨(hbg c hc).1, fun h => (hbg c hc).2 (f0 h)⟩⟩, rfl⟩
  · rw [if_neg h23, if_neg h24, e_co1 fv h23 h24]
    obtain ⟨l1, l2, -, -⟩ := e_lf1 (znx := znx) (pl := pl) fv
    obtain ⟨k1, k2, k3⟩ := e_cl1 (x := znx) n0 (by omega)
    obtain ⟨j1, j2, j3⟩ := e_cl1 (x := zpn) n2 (by omega)
    refine ⟨⟨⟨rfl, rfl, rfl, rfl⟩, l1, ⟨?_, ?_, ?_, fun h => ?_⟩, ⟨d0, d1, fun h => d2 (f0 (l2 h).1)⟩, hlk, hda, hza, hds, fun c hc => ⟨(hbg c hc).1, fun h => (hbg c hc).2 (f0 (l2 h).1)⟩⟩, rfl⟩
    · show 0 ≤ (znx + 1).toInt; omega
    · show (znx + 1).toInt ≤ 256 + (zpn + 1).toInt; omega
    · show 0 ≤ (zpn + 1).toInt; omega
    · show (znx + 1).toInt ≤ 256
      have k := (l2 h).2
      omega
/-! the key of the reference's fault only falls -/
def e_R3 (R : e_R) : Prop := e_vf R.1 R.2.1
theorem e_rmono {R : e_R} (ev : e_Ev) (h : e_R3 R) : e_R3 (e_rE R ev) ∧ e_key (e_rE R ev).1 (e_rE R ev).2.1 ≤ e_key R.1 R.2.1 := by
  obtain ⟨zfk, zfp, zln, zlv, zla, zpn, zpa, zpw, zpk, zpl, zpp, zbg, znx⟩ := R
  have hv : e_vf zfk zfp := h
  rcases ev with ⟨nm, pl⟩ | ⟨oi, pl, ⟨cu, rg, q, nm, pN, vl⟩⟩
  · show e_vf (e_dup zfk zfp zln zlv nm pl).1 (e_dup zfk zfp zln zlv nm pl).2 ∧ e_key (e_dup zfk zfp zln zlv nm pl).1 (e_dup zfk zfp zln zlv nm pl).2 ≤ e_key zfk zfp
    unfold e_dup
    split
    · exact ⟨hv, Int.le_refl _⟩
    · rw [e_note_eq hv (Or.inl rfl)]
      have k := e_note_key (fk := zfk) (fp := zfp) (nk := 2) (wh := pl) hv (Or.inl rfl)
      exact ⟨k.1, by omega⟩
  · have hc := e_cf1 (dn := fun _ => 0) (da := fun _ => 0) (dl := 0) (oi := oi) (q := q) (nm := nm) (pN := pN) (vl := vl) hv
    obtain ⟨-, fv, -, fk1, -⟩ := hc
    have hl := e_lf1 (znx := znx) (pl := pl) fv
    rw [e_rE_o]
    by_cases h23 : oi = 23
    · simp only [if_pos h23]; exact ⟨fv, fk1⟩
    · by_cases h24 : oi = 24
      · simp only [if_neg h23, if_pos h24]; exact ⟨fv, fk1⟩
      · simp only [if_neg h23, if_neg h24]; exact ⟨hl.1, Int.le_trans hl.2.2.1 fk1⟩
theorem e_rmonoL : ∀ (es : List e_Ev) (R : e_R), e_R3 R → e_R3 (es.foldl e_rE R) ∧ e_key (es.foldl e_rE R).1 (es.foldl e_rE R).2.1 ≤ e_key R.1 R.2.1 := by
  intro es
  induction es with
  | nil => intro R h; exact ⟨h, Int.le_refl _⟩
  | cons ev es ih =>
    intro R h
    have k := e_rmono ev h
    have r := ih _ k.1
    exact ⟨r.1, Int.le_trans r.2 k.2⟩
/-! how many labels and parts -/
theorem e_rstep (R : e_R) (ev : e_Ev) (a1 : 0 ≤ R.2.2.1.toInt) (a2 : 0 ≤ R.2.2.2.2.2.1.toInt) (a3 : R.2.2.1.toInt ≤ 1000) (a4 : R.2.2.2.2.2.1.toInt ≤ 1000) : (e_rE R ev).2.2.1.toInt = R.2.2.1.toInt + e_wl ev ∧ R.2.2.2.2.2.1.toInt ≤ (e_rE R ev).2.2.2.2.2.1.toInt ∧ (e_rE R ev).2.2.2.2.2.1.toInt ≤ R.2.2.2.2.2.1.toInt + e_wo ev := by
  obtain ⟨zfk, zfp, zln, zlv, zla, zpn, zpa, zpw, zpk, zpl, zpp, zbg, znx⟩ := R
  have a1 : 0 ≤ zln.toInt := a1
  have a2 : 0 ≤ zpn.toInt := a2
  have a3 : zln.toInt ≤ 1000 := a3
  have a4 : zpn.toInt ≤ 1000 := a4
  obtain ⟨k1, k2, k3⟩ := e_cl1 (x := zln) a1 (by omega)
  obtain ⟨j1, j2, j3⟩ := e_cl1 (x := zpn) a2 (by omega)
  rcases ev with ⟨nm, pl⟩ | ⟨oi, pl, ⟨cu, rg, q, nm, pN, vl⟩⟩
  · show (zln + 1).toInt = zln.toInt + ((1 : Nat) : Int) ∧ zpn.toInt ≤ zpn.toInt ∧ zpn.toInt ≤ zpn.toInt + ((0 : Nat) : Int)
    omega
  · rw [e_rE_o]
    by_cases h23 : oi = 23
    · simp only [if_pos h23]
      show zln.toInt = zln.toInt + ((0 : Nat) : Int) ∧ zpn.toInt ≤ zpn.toInt ∧ zpn.toInt ≤ zpn.toInt + ((1 : Nat) : Int)
      omega
    · by_cases h24 : oi = 24
      · simp only [if_neg h23, if_pos h24]
        show zln.toInt = zln.toInt + ((0 : Nat) : Int) ∧ zpn.toInt ≤ zpn.toInt ∧ zpn.toInt ≤ zpn.toInt + ((1 : Nat) : Int)
        omega
      · simp only [if_neg h23, if_neg h24]
        show zln.toInt = zln.toInt + ((0 : Nat) : Int) ∧ zpn.toInt ≤ (zpn + 1).toInt ∧ (zpn + 1).toInt ≤ zpn.toInt + ((1 : Nat) : Int)
        omega
theorem e_rcount : ∀ (es : List e_Ev) (R : e_R), 0 ≤ R.2.2.1.toInt → 0 ≤ R.2.2.2.2.2.1.toInt → R.2.2.1.toInt + e_nl es ≤ 1000 → R.2.2.2.2.2.1.toInt + e_no es ≤ 1000 → (es.foldl e_rE R).2.2.1.toInt = R.2.2.1.toInt + e_nl es ∧ R.2.2.2.2.2.1.toInt ≤ (es.foldl e_rE R).2.2.2.2.2.1.toInt ∧ (es.foldl e_rE R).2.2.2.2.2.1.toInt ≤ R.2.2.2.2.2.1.toInt + e_no es := by
  intro es
  induction es with
  | nil =>
    intro R _ _ _ _
    show R.2.2.1.toInt = R.2.2.1.toInt + ((0 : Nat) : Int) ∧ R.2.2.2.2.2.1.toInt ≤ R.2.2.2.2.2.1.toInt ∧ R.2.2.2.2.2.1.toInt ≤ R.2.2.2.2.2.1.toInt + ((0 : Nat) : Int)
    omega
  | cons ev es ih =>
    intro R a1 a2 a3 a4
    have a3 : R.2.2.1.toInt + ((e_wl ev + e_nl es : Nat) : Int) ≤ 1000 := a3
    have a4 : R.2.2.2.2.2.1.toInt + ((e_wo ev + e_no es : Nat) : Int) ≤ 1000 := a4
    have st := e_rstep R ev a1 a2 (by omega) (by omega)
    have I := ih (e_rE R ev) (by omega) (by omega) (by omega) (by omega)
    show (es.foldl e_rE (e_rE R ev)).2.2.1.toInt = R.2.2.1.toInt + ((e_wl ev + e_nl es : Nat) : Int) ∧ R.2.2.2.2.2.1.toInt ≤ (es.foldl e_rE (e_rE R ev)).2.2.2.2.2.1.toInt ∧ (es.foldl e_rE (e_rE R ev)).2.2.2.2.2.1.toInt ≤ R.2.2.2.2.2.1.toInt + ((e_wo ev + e_no es : Nat) : Int)
    omega
theorem e_F1 : ∀ (es : List e_Ev) (C : e_C) (R : e_R), e_Q1 C R → (∀ ev, ev ∈ es → e_wf ev) → R.2.2.1.toInt + e_nl es ≤ 240 → R.2.2.2.2.2.1.toInt + e_no es ≤ 240 → e_Q1 (es.foldl (e_cE 1) C) (es.foldl e_rE R) ∧ (es.foldl (e_cE 1) C).2.2.1 = C.2.2.1 := by
  intro es
  induction es with
  | nil => intro C R h _ _ _; exact ⟨h, rfl⟩
  | cons ev es ih =>
    intro C R h hw hl ho
    have hl : R.2.2.1.toInt + ((e_wl ev + e_nl es : Nat) : Int) ≤ 240 := hl
    have ho : R.2.2.2.2.2.1.toInt + ((e_wo ev + e_no es : Nat) : Int) ≤ 240 := ho
    have b1 : 0 ≤ R.2.2.1.toInt := Int.le_trans h.2.2.2.1.1 h.2.2.2.1.2.1
    have b2 : 0 ≤ R.2.2.2.2.2.1.toInt := by rw [h.1.2.2.2]; exact h.2.2.1.2.2.1
    have st := e_rstep R ev b1 b2 (by omega) (by omega)
    have key : e_Q1 (e_cE 1 C ev) (e_rE R ev) ∧ (e_cE 1 C ev).2.2.1 = C.2.2.1 := by
      obtain ⟨fk, fp, dw, ds, dn, da, dl, dc, na⟩ := C
      obtain ⟨zfk, zfp, zln, zlv, zla, zpn, zpa, zpw, zpk, zpl, zpp, zbg, znx⟩ := R
      rcases ev with ⟨nm, pl⟩ | ⟨oi, pl, S⟩
      · have hl : zln.toInt + ((1 + e_nl es : Nat) : Int) ≤ 240 := hl
        exact e_s1_lab h (by omega)
      · have ho : zpn.toInt + ((1 + e_no es : Nat) : Int) ≤ 240 := ho
        exact e_s1_ord h (hw _ (List.mem_cons_self)) (by omega)
    have I := ih _ _ key.1 (fun e he => hw e (List.mem_cons_of_mem _ he)) (by omega) (by omega)
    exact ⟨I.1, I.2.trans key.2⟩
