def g_m1 {α γ : Type} (a : α) (f : α → γ) : γ := f a
theorem g_m1_mk {α γ : Type} (a : α) (f : α → γ) : g_m1 a f = f a := rfl
theorem e_cl1 {x : Int32} (h0 : 0 ≤ x.toInt) (h1 : x.toInt ≤ 100000) : (x + 1).toNatClampNeg = x.toNatClampNeg + 1 ∧ (x + 1).toInt = x.toInt + 1 ∧ (x.toNatClampNeg : Int) = x.toInt := by
  have o : (1 : Int32).toInt = 1 := rfl
  have a := gz_a x 1 (by omega) (by omega)
  have e : x.toNatClampNeg = x.toInt.toNat := rfl
  have f : (x + 1).toNatClampNeg = (x + 1).toInt.toNat := rfl
  omega
theorem e_upd_lt {f : Nat → Int32} {k i : Nat} {x : Int32} (h : i < k) : upd f k x i = f i := by unfold upd; rw [if_neg (by omega)]
theorem e_upd_at {f : Nat → Int32} {k : Nat} {x : Int32} : upd f k x k = x := by unfold upd; rw [if_pos rfl]
theorem e_updL_lt {f : Nat → Int64} {k i : Nat} {x : Int64} (h : i < k) : vp_updL f k x i = f i := by unfold vp_updL; rw [if_neg (by omega)]
theorem e_updL_at {f : Nat → Int64} {k : Nat} {x : Int64} : vp_updL f k x k = x := by unfold vp_updL; rw [if_pos rfl]
abbrev e_S : Type := Int32 × Int32 × Nat × Int64 × Int32 × Int64
def e_reg (zkk zkp : Nat → Int32) (zkv : Nat → Int64) (sh : Int32) : e_S → Except Int32 e_S
  | (cu, rg, q, nm, pN, vl) => if zkk cu.toNatClampNeg = 1 ∧ 0 ≤ zkv cu.toNatClampNeg - 29232 ∧ zkv cu.toNatClampNeg - 29232 ≤ 7 then .ok (cu + 1, rg ||| ((zkv cu.toNatClampNeg - 29232).toInt32 <<< (sh &&& 31)), q, nm, pN, vl) else .error (zkp cu.toNatClampNeg)
def e_sgn (zkk zkp : Nat → Int32) (zkv : Nat → Int64) (c : Int32) : e_S → Except Int32 e_S
  | (cu, rg, q, nm, pN, vl) => if zkk cu.toNatClampNeg = 3 ∧ zkv cu.toNatClampNeg = c.toInt64 then .ok (cu + 1, rg, q, nm, pN, vl) else .error (zkp cu.toNatClampNeg)
def e_num0 (zkk zkp : Nat → Int32) (zkv : Nat → Int64) : e_S → Except Int32 e_S
  | (cu, rg, _, _, _, _) => if zkk cu.toNatClampNeg = 2 then .ok (cu + 1, rg, 1, 0, zkp cu.toNatClampNeg, zkv cu.toNatClampNeg) else .error (zkp cu.toNatClampNeg)
def e_num1 (zkk zkp : Nat → Int32) (zkv : Nat → Int64) : e_S → Except Int32 e_S
  | (cu, rg, q, nm, pN, vl) => if zkk cu.toNatClampNeg = 3 ∧ zkv cu.toNatClampNeg = (45 : Int32).toInt64 then (if zkk (cu + 1).toNatClampNeg = 2 then .ok (cu + 1 + 1, rg, 1, 0, zkp cu.toNatClampNeg, -(zkv (cu + 1).toNatClampNeg)) else .error (zkp (cu + 1).toNatClampNeg)) else e_num0 zkk zkp zkv (cu, rg, q, nm, pN, vl)
def e_N (zkk zkp : Nat → Int32) (zkv : Nat → Int64) (o : Nat) : e_S → Except Int32 e_S
  | (cu, rg, q, nm, pN, vl) => if zkk cu.toNatClampNeg = 1 then .ok (cu + 1, rg, o, zkv cu.toNatClampNeg, zkp cu.toNatClampNeg, 0) else e_num1 zkk zkp zkv (cu, rg, q, nm, pN, vl)
theorem e_reg_eq (zkk zkp : Nat → Int32) (zkv : Nat → Int64) (sh cu rg : Int32) (q : Nat) (nm : Int64) (pN : Int32) (vl : Int64) : e_reg zkk zkp zkv sh (cu, rg, q, nm, pN, vl) = if zkk cu.toNatClampNeg = 1 ∧ 0 ≤ zkv cu.toNatClampNeg - 29232 ∧ zkv cu.toNatClampNeg - 29232 ≤ 7 then .ok (cu + 1, rg ||| ((zkv cu.toNatClampNeg - 29232).toInt32 <<< (sh &&& 31)), q, nm, pN, vl) else .error (zkp cu.toNatClampNeg) := rfl
theorem e_sgn_eq (zkk zkp : Nat → Int32) (zkv : Nat → Int64) (c cu rg : Int32) (q : Nat) (nm : Int64) (pN : Int32) (vl : Int64) : e_sgn zkk zkp zkv c (cu, rg, q, nm, pN, vl) = if zkk cu.toNatClampNeg = 3 ∧ zkv cu.toNatClampNeg = c.toInt64 then .ok (cu + 1, rg, q, nm, pN, vl) else .error (zkp cu.toNatClampNeg) := rfl
theorem e_num0_eq (zkk zkp : Nat → Int32) (zkv : Nat → Int64) (cu rg : Int32) (q : Nat) (nm : Int64) (pN : Int32) (vl : Int64) : e_num0 zkk zkp zkv (cu, rg, q, nm, pN, vl) = if zkk cu.toNatClampNeg = 2 then .ok (cu + 1, rg, 1, 0, zkp cu.toNatClampNeg, zkv cu.toNatClampNeg) else .error (zkp cu.toNatClampNeg) := rfl
theorem e_num1_eq (zkk zkp : Nat → Int32) (zkv : Nat → Int64) (cu rg : Int32) (q : Nat) (nm : Int64) (pN : Int32) (vl : Int64) : e_num1 zkk zkp zkv (cu, rg, q, nm, pN, vl) = if zkk cu.toNatClampNeg = 3 ∧ zkv cu.toNatClampNeg = (45 : Int32).toInt64 then (if zkk (cu + 1).toNatClampNeg = 2 then .ok (cu + 1 + 1, rg, 1, 0, zkp cu.toNatClampNeg, -(zkv (cu + 1).toNatClampNeg)) else .error (zkp (cu + 1).toNatClampNeg)) else e_num0 zkk zkp zkv (cu, rg, q, nm, pN, vl) := rfl
theorem e_N_eq (zkk zkp : Nat → Int32) (zkv : Nat → Int64) (o : Nat) (cu rg : Int32) (q : Nat) (nm : Int64) (pN : Int32) (vl : Int64) : e_N zkk zkp zkv o (cu, rg, q, nm, pN, vl) = if zkk cu.toNatClampNeg = 1 then .ok (cu + 1, rg, o, zkv cu.toNatClampNeg, zkp cu.toNatClampNeg, 0) else e_num1 zkk zkp zkv (cu, rg, q, nm, pN, vl) := rfl
def e_part (zkk zkp : Nat → Int32) (zkv : Nat → Int64) (pt : Int32) (S : e_S) : Except Int32 e_S :=
  if pt = 97 then e_reg zkk zkp zkv 16 S else if pt = 98 then e_reg zkk zkp zkv 12 S else if pt = 100 then e_reg zkk zkp zkv 20 S else if pt = 110 then e_N zkk zkp zkv 2 S else if pt = 111 then e_N zkk zkp zkv 3 S else if pt = 117 then e_num0 zkk zkp zkv S else e_sgn zkk zkp zkv pt S
def e_form (zkk zkp : Nat → Int32) (zkv : Nat → Int64) : List Int32 → e_S → Except Int32 e_S
  | [], S => .ok S
  | c :: cs, S => match e_part zkk zkp zkv c S with
    | .error p => .error p
    | .ok T => e_form zkk zkp zkv cs T
theorem e_fe {zkk zkp : Nat → Int32} {zkv : Nat → Int64} {c : Int32} {cs : List Int32} {S : e_S} {p : Int32} (h : e_part zkk zkp zkv c S = .error p) : e_form zkk zkp zkv (c :: cs) S = .error p := by
  unfold e_form; rw [h]
theorem e_fo {zkk zkp : Nat → Int32} {zkv : Nat → Int64} {c : Int32} {cs : List Int32} {S T : e_S} (h : e_part zkk zkp zkv c S = .ok T) : e_form zkk zkp zkv (c :: cs) S = e_form zkk zkp zkv cs T := by
  rw [e_form, h]
def e_chars (oi : Nat) : List Int32 := g_byt.getD (g_frm oi) []
def e_opL : List Int32 := [0, 1, 2, 3, 4, 5, 6, 7, 8, 9, 10, 11, 12, 13, 14, 15, 16, 17, 18, 19, 20, 21, 32, 33, 34]
def e_op (oi : Nat) : Int32 := e_opL.getD oi 0
theorem e_if0 {α : Type} (a b : α) : (if (0 : Int32) = 0 then a else b) = a := if_pos rfl
theorem e_if1 {α : Type} (a b : α) : (if (1 : Int32) = 0 then a else b) = b := if_neg (by decide)
def e_rf (oi : Nat) (zfk zfp : Int32) (q : Nat) (pN : Int32) (vl : Int64) : Int32 × Int32 := if q = 1 ∧ m_Order_fits oi vl = 0 then m_Mod_note zfk zfp 3 pN else (zfk, zfp)
def e_rk (oi : Nat) (zpk : Nat → Int32) (zpn : Int32) (q : Nat) : Nat → Int32 := if q = 0 then zpk else upd zpk zpn.toNatClampNeg (if q = 1 then 0 else if q = 3 then 2 else if oi = 22 then 32 else 1)
def e_rl (zpl : Nat → Int64) (zpn : Int32) (q : Nat) (nm : Int64) : Nat → Int64 := if q = 2 ∨ q = 3 then vp_updL zpl zpn.toNatClampNeg nm else zpl
def e_rp (zpp : Nat → Int32) (zpn : Int32) (q : Nat) (pN : Int32) : Nat → Int32 := if q = 2 ∨ q = 3 then upd zpp zpn.toNatClampNeg pN else zpp
def e_rm (oi : Nat) (zmd rg : Int32) (q : Nat) (vl : Int64) : Int32 := if oi = 22 then (if q = 1 then vl.toInt32 else zmd) else if oi = 23 ∨ oi = 24 then zmd else (zmd ||| rg) ||| (if q = 1 then vl.toInt32 &&& 4095 else 0)
def e_rg (zgv : Int64) (q : Nat) (vl : Int64) : Int64 := if q = 1 then vl else zgv
def e_RB (oi : Nat) (zfk zfp zpn : Int32) (zpk : Nat → Int32) (zpl : Nat → Int64) (zpp : Nat → Int32) (zmd : Int32) (zgv : Int64) (r : Int32 × Int32 × Int32 × Int32 × (Nat → Int32) × (Nat → Int64) × (Nat → Int32) × Int32 × Int64) : Except Int32 e_S → Prop
  | .error p => ∃ x, r = (0, 1, p, x)
  | .ok (cu, rg, q, nm, pN, vl) => r = (1, (e_rf oi zfk zfp q pN vl).1, (e_rf oi zfk zfp q pN vl).2, cu, e_rk oi zpk zpn q, e_rl zpl zpn q nm, e_rp zpp zpn q pN, e_rm oi zmd rg q vl, e_rg zgv q vl)
theorem e_n1 (zfk zfp wh : Int32) : m_Mod_note zfk zfp 1 wh = (1, wh) := by
  unfold m_Mod_note
  split
  · rfl
  · exact if_pos rfl
theorem e_ref (zfk zfp : Int32) (zkp : Nat → Int32) (zat : Int32) : m_Mod_refuse zfk zfp zkp zat = (0, 1, zkp zat.toNatClampNeg) := by
  unfold m_Mod_refuse
  rw [e_n1]
theorem e_iS (zkk : Nat → Int32) (zkv : Nat → Int64) (zat sg : Int32) : m_Mod_isSign zkk zkv zat sg = if zkk zat.toNatClampNeg = 3 ∧ zkv zat.toNatClampNeg = sg.toInt64 then 1 else 0 := by
  unfold m_Mod_isSign
  by_cases c1 : zkk zat.toNatClampNeg = 3
  · by_cases c2 : zkv zat.toNatClampNeg = sg.toInt64
    · rw [if_pos c1, if_pos ((lg_cmp_eq _ _).mpr c2), if_pos ⟨c1, c2⟩]
    · rw [if_pos c1, if_neg (fun h => c2 ((lg_cmp_eq _ _).mp h)), if_neg (fun h => c2 h.2)]
  · rw [if_neg c1, if_neg (fun h => c1 h.1)]
theorem e_wS (zfk zfp : Int32) (zkk zkp : Nat → Int32) (zkv : Nat → Int64) (zat sg : Int32) : m_Mod_wantSign zfk zfp zkk zkp zkv zat sg = if zkk zat.toNatClampNeg = 3 ∧ zkv zat.toNatClampNeg = sg.toInt64 then (1, zfk, zfp, zat + 1) else (0, 1, zkp zat.toNatClampNeg, zat) := by
  unfold m_Mod_wantSign
  rw [e_ref]
  by_cases c1 : zkk zat.toNatClampNeg = 3
  · by_cases c2 : zkv zat.toNatClampNeg = sg.toInt64
    · rw [if_pos c1, if_pos ((lg_cmp_eq _ _).mpr c2), if_pos ⟨c1, c2⟩]
    · rw [if_pos c1, if_neg (fun h => c2 ((lg_cmp_eq _ _).mp h)), if_neg (fun h => c2 h.2)]
  · rw [if_neg c1, if_neg (fun h => c1 h.1)]
theorem e_wS_e {zkk zkp : Nat → Int32} {zkv : Nat → Int64} {zfk zfp sg cu rg pN p : Int32} {q : Nat} {nm vl : Int64} (h : e_sgn zkk zkp zkv sg (cu, rg, q, nm, pN, vl) = .error p) : m_Mod_wantSign zfk zfp zkk zkp zkv cu sg = (0, 1, p, cu) := by
  rw [e_sgn_eq] at h
  rw [e_wS]
  split at h
  · cases h
  · rename_i c; rw [if_neg c]; cases h; rfl
theorem e_wS_o {zkk zkp : Nat → Int32} {zkv : Nat → Int64} {zfk zfp sg cu rg pN : Int32} {q : Nat} {nm vl : Int64} {T : e_S} (h : e_sgn zkk zkp zkv sg (cu, rg, q, nm, pN, vl) = .ok T) : m_Mod_wantSign zfk zfp zkk zkp zkv cu sg = (1, zfk, zfp, cu + 1) ∧ T = (cu + 1, rg, q, nm, pN, vl) := by
  rw [e_sgn_eq] at h
  rw [e_wS]
  split at h
  · rename_i c; rw [if_pos c]; cases h; exact ⟨rfl, rfl⟩
  · cases h
theorem e_wC_e {zkk zkp : Nat → Int32} {zkv : Nat → Int64} {zfk zfp cu rg pN p : Int32} {q : Nat} {nm vl : Int64} (h : e_sgn zkk zkp zkv 44 (cu, rg, q, nm, pN, vl) = .error p) : m_Mod_wantComma zfk zfp zkk zkp zkv cu = (0, 1, p, cu) := by
  unfold m_Mod_wantComma
  rw [e_wS_e h]
theorem e_wC_o {zkk zkp : Nat → Int32} {zkv : Nat → Int64} {zfk zfp cu rg pN : Int32} {q : Nat} {nm vl : Int64} {T : e_S} (h : e_sgn zkk zkp zkv 44 (cu, rg, q, nm, pN, vl) = .ok T) : m_Mod_wantComma zfk zfp zkk zkp zkv cu = (1, zfk, zfp, cu + 1) ∧ T = (cu + 1, rg, q, nm, pN, vl) := by
  unfold m_Mod_wantComma
  rw [(e_wS_o h).1]
  exact ⟨rfl, (e_wS_o (zfk := zfk) (zfp := zfp) h).2⟩
theorem e_r0 (v : Int64) : v - 29184 - 48 = v - 29232 := by
  rw [Int64.sub_eq_add_neg, Int64.sub_eq_add_neg, Int64.sub_eq_add_neg, Int64.add_assoc]
  exact congrArg (fun z => v + z) (by decide)
theorem e_wR (zfk zfp : Int32) (zkk zkp : Nat → Int32) (zkv : Nat → Int64) (zat zmd sh : Int32) : m_Mod_wantRegister zfk zfp zkk zkp zkv zat zmd sh = if zkk zat.toNatClampNeg = 1 ∧ 0 ≤ zkv zat.toNatClampNeg - 29232 ∧ zkv zat.toNatClampNeg - 29232 ≤ 7 then (1, zfk, zfp, zat + 1, zmd ||| ((zkv zat.toNatClampNeg - 29232).toInt32 <<< (sh &&& 31))) else (0, 1, zkp zat.toNatClampNeg, zat, zmd) := by
  unfold m_Mod_wantRegister
  rw [e_ref, e_r0]
  by_cases c1 : zkk zat.toNatClampNeg = 1
  · rw [if_pos c1]
    by_cases c2 : 0 ≤ zkv zat.toNatClampNeg - 29232
    · rw [if_neg (fun h => absurd ((lg_cmp_lt _ _).mp h) (Int64.not_lt.mpr c2))]
      by_cases c3 : zkv zat.toNatClampNeg - 29232 ≤ 7
      · rw [if_pos ((lg_cmp_le _ _).mpr c3), if_pos ⟨c1, c2, c3⟩]
      · rw [if_neg (fun h => c3 ((lg_cmp_le _ _).mp h)), if_neg (fun h => c3 h.2.2)]
    · rw [if_pos ((lg_cmp_lt _ _).mpr (Int64.not_le.mp c2)), if_neg (fun h => c2 h.2.1)]
  · rw [if_neg c1, if_neg (fun h => c1 h.1)]
theorem e_wR_e {zkk zkp : Nat → Int32} {zkv : Nat → Int64} {zfk zfp zmd sh cu rg pN p : Int32} {q : Nat} {nm vl : Int64} (h : e_reg zkk zkp zkv sh (cu, rg, q, nm, pN, vl) = .error p) : m_Mod_wantRegister zfk zfp zkk zkp zkv cu zmd sh = (0, 1, p, cu, zmd) := by
  rw [e_reg_eq] at h
  rw [e_wR]
  split at h
  · cases h
  · rename_i c; rw [if_neg c]; cases h; rfl
theorem e_wR_o {zkk zkp : Nat → Int32} {zkv : Nat → Int64} {zfk zfp zmd sh cu rg pN : Int32} {q : Nat} {nm vl : Int64} {T : e_S} (h : e_reg zkk zkp zkv sh (cu, rg, q, nm, pN, vl) = .ok T) : m_Mod_wantRegister zfk zfp zkk zkp zkv cu zmd sh = (1, zfk, zfp, cu + 1, zmd ||| ((zkv cu.toNatClampNeg - 29232).toInt32 <<< (sh &&& 31))) ∧ T = (cu + 1, rg ||| ((zkv cu.toNatClampNeg - 29232).toInt32 <<< (sh &&& 31)), q, nm, pN, vl) := by
  rw [e_reg_eq] at h
  rw [e_wR]
  split at h
  · rename_i c; rw [if_pos c]; cases h; exact ⟨rfl, rfl⟩
  · cases h
theorem e_fit (oi : Nat) (v : Int64) : (m_Order_fits oi v = 0) ↔ (v < (g_lst oi).toInt64 ∨ (g_mst oi).toInt64 < v) := by
  unfold m_Order_fits
  by_cases c1 : v < (g_lst oi).toInt64
  · rw [if_pos ((lg_cmp_lt _ _).mpr c1)]
    exact ⟨fun _ => Or.inl c1, fun _ => rfl⟩
  · rw [if_neg (fun h => c1 ((lg_cmp_lt _ _).mp h))]
    by_cases c2 : (g_mst oi).toInt64 < v
    · rw [if_pos ((lg_cmp_gt _ _).mpr c2)]
      exact ⟨fun _ => Or.inr c2, fun _ => rfl⟩
    · rw [if_neg (fun h => c2 ((lg_cmp_gt _ _).mp h))]
      exact ⟨fun h => absurd h (by decide), fun h => absurd h (fun h => h.elim c1 c2)⟩
theorem e_rng {α : Type} {oi : Nat} {v lo hi : Int64} (hl : (g_lst oi).toInt64 = lo) (hh : (g_mst oi).toInt64 = hi) (zfk zfp pN : Int32) (f : Int32 × Int32 → α) : (if lg_cmp v lo < 0 then f (m_Mod_note zfk zfp 3 pN) else if lg_cmp v hi ≤ 0 then f (zfk, zfp) else f (m_Mod_note zfk zfp 3 pN)) = f (e_rf oi zfk zfp 1 pN v) := by
  have k := e_fit oi v
  rw [hl, hh] at k
  unfold e_rf
  by_cases c1 : v < lo
  · rw [if_pos ((lg_cmp_lt _ _).mpr c1), if_pos ⟨rfl, k.mpr (Or.inl c1)⟩]
  · rw [if_neg (fun h => c1 ((lg_cmp_lt _ _).mp h))]
    by_cases c2 : hi < v
    · rw [if_neg (fun h => absurd ((lg_cmp_le _ _).mp h) (Int64.not_le.mpr c2)), if_pos ⟨rfl, k.mpr (Or.inr c2)⟩]
    · rw [if_pos ((lg_cmp_le _ _).mpr (Int64.not_lt.mp c2)), if_neg (fun h => (k.mp h.2).elim c1 c2)]
theorem e_p97 (zkk zkp : Nat → Int32) (zkv : Nat → Int64) (S : e_S) : e_part zkk zkp zkv 97 S = e_reg zkk zkp zkv 16 S := by
  unfold e_part
  rw [if_pos (rfl : (97 : Int32) = 97)]
theorem e_p98 (zkk zkp : Nat → Int32) (zkv : Nat → Int64) (S : e_S) : e_part zkk zkp zkv 98 S = e_reg zkk zkp zkv 12 S := by
  unfold e_part
  rw [if_neg (show ¬ (98 : Int32) = 97 by decide), if_pos (rfl : (98 : Int32) = 98)]
theorem e_p100 (zkk zkp : Nat → Int32) (zkv : Nat → Int64) (S : e_S) : e_part zkk zkp zkv 100 S = e_reg zkk zkp zkv 20 S := by
  unfold e_part
  rw [if_neg (show ¬ (100 : Int32) = 97 by decide), if_neg (show ¬ (100 : Int32) = 98 by decide), if_pos (rfl : (100 : Int32) = 100)]
theorem e_p110 (zkk zkp : Nat → Int32) (zkv : Nat → Int64) (S : e_S) : e_part zkk zkp zkv 110 S = e_N zkk zkp zkv 2 S := by
  unfold e_part
  rw [if_neg (show ¬ (110 : Int32) = 97 by decide), if_neg (show ¬ (110 : Int32) = 98 by decide), if_neg (show ¬ (110 : Int32) = 100 by decide), if_pos (rfl : (110 : Int32) = 110)]
theorem e_p111 (zkk zkp : Nat → Int32) (zkv : Nat → Int64) (S : e_S) : e_part zkk zkp zkv 111 S = e_N zkk zkp zkv 3 S := by
  unfold e_part
  rw [if_neg (show ¬ (111 : Int32) = 97 by decide), if_neg (show ¬ (111 : Int32) = 98 by decide), if_neg (show ¬ (111 : Int32) = 100 by decide), if_neg (show ¬ (111 : Int32) = 110 by decide), if_pos (rfl : (111 : Int32) = 111)]
theorem e_p117 (zkk zkp : Nat → Int32) (zkv : Nat → Int64) (S : e_S) : e_part zkk zkp zkv 117 S = e_num0 zkk zkp zkv S := by
  unfold e_part
  rw [if_neg (show ¬ (117 : Int32) = 97 by decide), if_neg (show ¬ (117 : Int32) = 98 by decide), if_neg (show ¬ (117 : Int32) = 100 by decide), if_neg (show ¬ (117 : Int32) = 110 by decide), if_neg (show ¬ (117 : Int32) = 111 by decide), if_pos (rfl : (117 : Int32) = 117)]
theorem e_p44 (zkk zkp : Nat → Int32) (zkv : Nat → Int64) (S : e_S) : e_part zkk zkp zkv 44 S = e_sgn zkk zkp zkv 44 S := by
  unfold e_part
  rw [if_neg (show ¬ (44 : Int32) = 97 by decide), if_neg (show ¬ (44 : Int32) = 98 by decide), if_neg (show ¬ (44 : Int32) = 100 by decide), if_neg (show ¬ (44 : Int32) = 110 by decide), if_neg (show ¬ (44 : Int32) = 111 by decide), if_neg (show ¬ (44 : Int32) = 117 by decide)]
theorem e_p40 (zkk zkp : Nat → Int32) (zkv : Nat → Int64) (S : e_S) : e_part zkk zkp zkv 40 S = e_sgn zkk zkp zkv 40 S := by
  unfold e_part
  rw [if_neg (show ¬ (40 : Int32) = 97 by decide), if_neg (show ¬ (40 : Int32) = 98 by decide), if_neg (show ¬ (40 : Int32) = 100 by decide), if_neg (show ¬ (40 : Int32) = 110 by decide), if_neg (show ¬ (40 : Int32) = 111 by decide), if_neg (show ¬ (40 : Int32) = 117 by decide)]
theorem e_p41 (zkk zkp : Nat → Int32) (zkv : Nat → Int64) (S : e_S) : e_part zkk zkp zkv 41 S = e_sgn zkk zkp zkv 41 S := by
  unfold e_part
  rw [if_neg (show ¬ (41 : Int32) = 97 by decide), if_neg (show ¬ (41 : Int32) = 98 by decide), if_neg (show ¬ (41 : Int32) = 100 by decide), if_neg (show ¬ (41 : Int32) = 110 by decide), if_neg (show ¬ (41 : Int32) = 111 by decide), if_neg (show ¬ (41 : Int32) = 117 by decide)]
theorem e_wn1 {zkk zkp : Nat → Int32} {zkv : Nat → Int64} {oi : Nat} (hl : (g_lst oi).toInt64 = -2048) (hh : (g_mst oi).toInt64 = 2047) {zfk zfp zpn zmd : Int32} {zpk : Nat → Int32} {zpl : Nat → Int64} {zpp : Nat → Int32} {zgv : Int64} {cu rg pN : Int32} {q : Nat} {nm vl : Int64} :
    (∀ p, e_N zkk zkp zkv 2 (cu, rg, q, nm, pN, vl) = .error p → ∃ x, m_Mod_wn1 zfk zfp zkk zkp zkv cu zpn zpk zpl zpp zmd zgv = (0, 1, p, x)) ∧
    (∀ cu' rg' q' nm' pN' vl', e_N zkk zkp zkv 2 (cu, rg, q, nm, pN, vl) = .ok (cu', rg', q', nm', pN', vl') → rg' = rg ∧ (q' = 1 ∨ q' = 2) ∧ m_Mod_wn1 zfk zfp zkk zkp zkv cu zpn zpk zpl zpp zmd zgv = (1, (e_rf oi zfk zfp q' pN' vl').1, (e_rf oi zfk zfp q' pN' vl').2, cu', upd zpk zpn.toNatClampNeg (if q' = 1 then 0 else 1), e_rl zpl zpn q' nm', e_rp zpp zpn q' pN', (if q' = 1 then zmd ||| (vl'.toInt32 &&& 4095) else zmd), e_rg zgv q' vl')) := by
  have R1 := fun (v : Int64) (f : Int32 × Int32 → Int32 × Int32 × Int32 × Int32 × (Nat → Int32) × (Nat → Int64) × (Nat → Int32) × Int32 × Int64) => e_rng (v := v) hl hh zfk zfp (zkp cu.toNatClampNeg) f
  by_cases c3 : zkk cu.toNatClampNeg = 3 ∧ zkv cu.toNatClampNeg = (45 : Int32).toInt64
  · have c1 : ¬ zkk cu.toNatClampNeg = 1 := by rw [c3.1]; decide
    by_cases c2 : zkk (cu + 1).toNatClampNeg = 2
    · have G : e_N zkk zkp zkv 2 (cu, rg, q, nm, pN, vl) = .ok (cu + 1 + 1, rg, 1, 0, zkp cu.toNatClampNeg, -(zkv (cu + 1).toNatClampNeg)) := by
        rw [e_N_eq, e_num1_eq]
        rw [if_neg c1, if_pos c3, if_pos c2]
      have F : m_Mod_wn1 zfk zfp zkk zkp zkv cu zpn zpk zpl zpp zmd zgv = (1, (e_rf oi zfk zfp 1 (zkp cu.toNatClampNeg) (-(zkv (cu + 1).toNatClampNeg))).1, (e_rf oi zfk zfp 1 (zkp cu.toNatClampNeg) (-(zkv (cu + 1).toNatClampNeg))).2, cu + 1 + 1, upd zpk zpn.toNatClampNeg 0, zpl, zpp, zmd ||| ((-(zkv (cu + 1).toNatClampNeg)).toInt32 &&& 4095), -(zkv (cu + 1).toNatClampNeg)) := by
        unfold m_Mod_wn1
        rw [e_iS, if_pos c3, e_if1, if_pos c2]
        exact R1 (-(zkv (cu + 1).toNatClampNeg)) (fun N => (1, N.1, N.2, cu + 1 + 1, upd zpk zpn.toNatClampNeg 0, zpl, zpp, zmd ||| ((-(zkv (cu + 1).toNatClampNeg)).toInt32 &&& 4095), -(zkv (cu + 1).toNatClampNeg)))
      rw [G, F]
      refine ⟨fun p h => (by cases h), fun cu' rg' q' nm' pN' vl' h => ?_⟩
      cases h
      exact ⟨rfl, Or.inl rfl, rfl⟩
    · have G : e_N zkk zkp zkv 2 (cu, rg, q, nm, pN, vl) = .error (zkp (cu + 1).toNatClampNeg) := by
        rw [e_N_eq, e_num1_eq]
        rw [if_neg c1, if_pos c3, if_neg c2]
      have F : m_Mod_wn1 zfk zfp zkk zkp zkv cu zpn zpk zpl zpp zmd zgv = (0, 1, zkp (cu + 1).toNatClampNeg, cu + 1, zpk, zpl, zpp, zmd, zgv) := by
        unfold m_Mod_wn1
        rw [e_iS, if_pos c3, e_if1, if_neg c2, e_ref]
      rw [G, F]
      refine ⟨fun p h => ?_, fun cu' rg' q' nm' pN' vl' h => by cases h⟩
      cases h
      exact ⟨_, rfl⟩
  · by_cases c1 : zkk cu.toNatClampNeg = 1
    · have G : e_N zkk zkp zkv 2 (cu, rg, q, nm, pN, vl) = .ok (cu + 1, rg, 2, zkv cu.toNatClampNeg, zkp cu.toNatClampNeg, 0) := by
        rw [e_N_eq]
        rw [if_pos c1]
      have F : m_Mod_wn1 zfk zfp zkk zkp zkv cu zpn zpk zpl zpp zmd zgv = (1, zfk, zfp, cu + 1, upd zpk zpn.toNatClampNeg 1, vp_updL zpl zpn.toNatClampNeg (zkv cu.toNatClampNeg), upd zpp zpn.toNatClampNeg (zkp cu.toNatClampNeg), zmd, zgv) := by
        unfold m_Mod_wn1
        rw [e_iS, if_neg c3, e_if0, if_pos c1]
      rw [G, F]
      refine ⟨fun p h => (by cases h), fun cu' rg' q' nm' pN' vl' h => ?_⟩
      cases h
      exact ⟨rfl, Or.inr rfl, rfl⟩
    · by_cases c2 : zkk cu.toNatClampNeg = 2
      · have G : e_N zkk zkp zkv 2 (cu, rg, q, nm, pN, vl) = .ok (cu + 1, rg, 1, 0, zkp cu.toNatClampNeg, zkv cu.toNatClampNeg) := by
          rw [e_N_eq, e_num1_eq, e_num0_eq]
          rw [if_neg c1, if_neg c3, if_pos c2]
        have F : m_Mod_wn1 zfk zfp zkk zkp zkv cu zpn zpk zpl zpp zmd zgv = (1, (e_rf oi zfk zfp 1 (zkp cu.toNatClampNeg) (zkv cu.toNatClampNeg)).1, (e_rf oi zfk zfp 1 (zkp cu.toNatClampNeg) (zkv cu.toNatClampNeg)).2, cu + 1, upd zpk zpn.toNatClampNeg 0, zpl, zpp, zmd ||| ((zkv cu.toNatClampNeg).toInt32 &&& 4095), zkv cu.toNatClampNeg) := by
          unfold m_Mod_wn1
          rw [e_iS, if_neg c3, e_if0, if_neg c1, if_pos c2]
          exact R1 (zkv cu.toNatClampNeg) (fun N => (1, N.1, N.2, cu + 1, upd zpk zpn.toNatClampNeg 0, zpl, zpp, zmd ||| ((zkv cu.toNatClampNeg).toInt32 &&& 4095), zkv cu.toNatClampNeg))
        rw [G, F]
        refine ⟨fun p h => (by cases h), fun cu' rg' q' nm' pN' vl' h => ?_⟩
        cases h
        exact ⟨rfl, Or.inl rfl, rfl⟩
      · have G : e_N zkk zkp zkv 2 (cu, rg, q, nm, pN, vl) = .error (zkp cu.toNatClampNeg) := by
          rw [e_N_eq, e_num1_eq, e_num0_eq]
          rw [if_neg c1, if_neg c3, if_neg c2]
        have F : m_Mod_wn1 zfk zfp zkk zkp zkv cu zpn zpk zpl zpp zmd zgv = (0, 1, zkp cu.toNatClampNeg, cu, zpk, zpl, zpp, zmd, zgv) := by
          unfold m_Mod_wn1
          rw [e_iS, if_neg c3, e_if0, if_neg c1, if_neg c2, e_ref]
        rw [G, F]
        refine ⟨fun p h => ?_, fun cu' rg' q' nm' pN' vl' h => by cases h⟩
        cases h
        exact ⟨_, rfl⟩
theorem e_wn2 {zkk zkp : Nat → Int32} {zkv : Nat → Int64} {oi : Nat} (hl : (g_lst oi).toInt64 = -2048) (hh : (g_mst oi).toInt64 = 2047) {zfk zfp zpn zmd : Int32} {zpk : Nat → Int32} {zpl : Nat → Int64} {zpp : Nat → Int32} {zgv : Int64} {cu rg pN : Int32} {q : Nat} {nm vl : Int64} :
    (∀ p, e_N zkk zkp zkv 3 (cu, rg, q, nm, pN, vl) = .error p → ∃ x, m_Mod_wn2 zfk zfp zkk zkp zkv cu zpn zpk zpl zpp zmd zgv = (0, 1, p, x)) ∧
    (∀ cu' rg' q' nm' pN' vl', e_N zkk zkp zkv 3 (cu, rg, q, nm, pN, vl) = .ok (cu', rg', q', nm', pN', vl') → rg' = rg ∧ (q' = 1 ∨ q' = 3) ∧ m_Mod_wn2 zfk zfp zkk zkp zkv cu zpn zpk zpl zpp zmd zgv = (1, (e_rf oi zfk zfp q' pN' vl').1, (e_rf oi zfk zfp q' pN' vl').2, cu', upd zpk zpn.toNatClampNeg (if q' = 1 then 0 else 2), e_rl zpl zpn q' nm', e_rp zpp zpn q' pN', (if q' = 1 then zmd ||| (vl'.toInt32 &&& 4095) else zmd), e_rg zgv q' vl')) := by
  have R1 := fun (v : Int64) (f : Int32 × Int32 → Int32 × Int32 × Int32 × Int32 × (Nat → Int32) × (Nat → Int64) × (Nat → Int32) × Int32 × Int64) => e_rng (v := v) hl hh zfk zfp (zkp cu.toNatClampNeg) f
  by_cases c3 : zkk cu.toNatClampNeg = 3 ∧ zkv cu.toNatClampNeg = (45 : Int32).toInt64
  · have c1 : ¬ zkk cu.toNatClampNeg = 1 := by rw [c3.1]; decide
    by_cases c2 : zkk (cu + 1).toNatClampNeg = 2
    · have G : e_N zkk zkp zkv 3 (cu, rg, q, nm, pN, vl) = .ok (cu + 1 + 1, rg, 1, 0, zkp cu.toNatClampNeg, -(zkv (cu + 1).toNatClampNeg)) := by
        rw [e_N_eq, e_num1_eq]
        rw [if_neg c1, if_pos c3, if_pos c2]
      have F : m_Mod_wn2 zfk zfp zkk zkp zkv cu zpn zpk zpl zpp zmd zgv = (1, (e_rf oi zfk zfp 1 (zkp cu.toNatClampNeg) (-(zkv (cu + 1).toNatClampNeg))).1, (e_rf oi zfk zfp 1 (zkp cu.toNatClampNeg) (-(zkv (cu + 1).toNatClampNeg))).2, cu + 1 + 1, upd zpk zpn.toNatClampNeg 0, zpl, zpp, zmd ||| ((-(zkv (cu + 1).toNatClampNeg)).toInt32 &&& 4095), -(zkv (cu + 1).toNatClampNeg)) := by
        unfold m_Mod_wn2
        rw [e_iS, if_pos c3, e_if1, if_pos c2]
        exact R1 (-(zkv (cu + 1).toNatClampNeg)) (fun N => (1, N.1, N.2, cu + 1 + 1, upd zpk zpn.toNatClampNeg 0, zpl, zpp, zmd ||| ((-(zkv (cu + 1).toNatClampNeg)).toInt32 &&& 4095), -(zkv (cu + 1).toNatClampNeg)))
      rw [G, F]
      refine ⟨fun p h => (by cases h), fun cu' rg' q' nm' pN' vl' h => ?_⟩
      cases h
      exact ⟨rfl, Or.inl rfl, rfl⟩
    · have G : e_N zkk zkp zkv 3 (cu, rg, q, nm, pN, vl) = .error (zkp (cu + 1).toNatClampNeg) := by
        rw [e_N_eq, e_num1_eq]
        rw [if_neg c1, if_pos c3, if_neg c2]
      have F : m_Mod_wn2 zfk zfp zkk zkp zkv cu zpn zpk zpl zpp zmd zgv = (0, 1, zkp (cu + 1).toNatClampNeg, cu + 1, zpk, zpl, zpp, zmd, zgv) := by
        unfold m_Mod_wn2
        rw [e_iS, if_pos c3, e_if1, if_neg c2, e_ref]
      rw [G, F]
      refine ⟨fun p h => ?_, fun cu' rg' q' nm' pN' vl' h => by cases h⟩
      cases h
      exact ⟨_, rfl⟩
  · by_cases c1 : zkk cu.toNatClampNeg = 1
    · have G : e_N zkk zkp zkv 3 (cu, rg, q, nm, pN, vl) = .ok (cu + 1, rg, 3, zkv cu.toNatClampNeg, zkp cu.toNatClampNeg, 0) := by
        rw [e_N_eq]
        rw [if_pos c1]
      have F : m_Mod_wn2 zfk zfp zkk zkp zkv cu zpn zpk zpl zpp zmd zgv = (1, zfk, zfp, cu + 1, upd zpk zpn.toNatClampNeg 2, vp_updL zpl zpn.toNatClampNeg (zkv cu.toNatClampNeg), upd zpp zpn.toNatClampNeg (zkp cu.toNatClampNeg), zmd, zgv) := by
        unfold m_Mod_wn2
        rw [e_iS, if_neg c3, e_if0, if_pos c1]
      rw [G, F]
      refine ⟨fun p h => (by cases h), fun cu' rg' q' nm' pN' vl' h => ?_⟩
      cases h
      exact ⟨rfl, Or.inr rfl, rfl⟩
    · by_cases c2 : zkk cu.toNatClampNeg = 2
      · have G : e_N zkk zkp zkv 3 (cu, rg, q, nm, pN, vl) = .ok (cu + 1, rg, 1, 0, zkp cu.toNatClampNeg, zkv cu.toNatClampNeg) := by
          rw [e_N_eq, e_num1_eq, e_num0_eq]
          rw [if_neg c1, if_neg c3, if_pos c2]
        have F : m_Mod_wn2 zfk zfp zkk zkp zkv cu zpn zpk zpl zpp zmd zgv = (1, (e_rf oi zfk zfp 1 (zkp cu.toNatClampNeg) (zkv cu.toNatClampNeg)).1, (e_rf oi zfk zfp 1 (zkp cu.toNatClampNeg) (zkv cu.toNatClampNeg)).2, cu + 1, upd zpk zpn.toNatClampNeg 0, zpl, zpp, zmd ||| ((zkv cu.toNatClampNeg).toInt32 &&& 4095), zkv cu.toNatClampNeg) := by
          unfold m_Mod_wn2
          rw [e_iS, if_neg c3, e_if0, if_neg c1, if_pos c2]
          exact R1 (zkv cu.toNatClampNeg) (fun N => (1, N.1, N.2, cu + 1, upd zpk zpn.toNatClampNeg 0, zpl, zpp, zmd ||| ((zkv cu.toNatClampNeg).toInt32 &&& 4095), zkv cu.toNatClampNeg))
        rw [G, F]
        refine ⟨fun p h => (by cases h), fun cu' rg' q' nm' pN' vl' h => ?_⟩
        cases h
        exact ⟨rfl, Or.inl rfl, rfl⟩
      · have G : e_N zkk zkp zkv 3 (cu, rg, q, nm, pN, vl) = .error (zkp cu.toNatClampNeg) := by
          rw [e_N_eq, e_num1_eq, e_num0_eq]
          rw [if_neg c1, if_neg c3, if_neg c2]
        have F : m_Mod_wn2 zfk zfp zkk zkp zkv cu zpn zpk zpl zpp zmd zgv = (0, 1, zkp cu.toNatClampNeg, cu, zpk, zpl, zpp, zmd, zgv) := by
          unfold m_Mod_wn2
          rw [e_iS, if_neg c3, e_if0, if_neg c1, if_neg c2, e_ref]
        rw [G, F]
        refine ⟨fun p h => ?_, fun cu' rg' q' nm' pN' vl' h => by cases h⟩
        cases h
        exact ⟨_, rfl⟩
theorem e_wn32 {zkk zkp : Nat → Int32} {zkv : Nat → Int64} {oi : Nat} (hl : (g_lst oi).toInt64 = -2147483648) (hh : (g_mst oi).toInt64 = 2147483647) {zfk zfp zpn zmd : Int32} {zpk : Nat → Int32} {zpl : Nat → Int64} {zpp : Nat → Int32} {zgv : Int64} {cu rg pN : Int32} {q : Nat} {nm vl : Int64} :
    (∀ p, e_N zkk zkp zkv 2 (cu, rg, q, nm, pN, vl) = .error p → ∃ x, m_Mod_wn32 zfk zfp zkk zkp zkv cu zpn zpk zpl zpp zmd zgv = (0, 1, p, x)) ∧
    (∀ cu' rg' q' nm' pN' vl', e_N zkk zkp zkv 2 (cu, rg, q, nm, pN, vl) = .ok (cu', rg', q', nm', pN', vl') → rg' = rg ∧ (q' = 1 ∨ q' = 2) ∧ m_Mod_wn32 zfk zfp zkk zkp zkv cu zpn zpk zpl zpp zmd zgv = (1, (e_rf oi zfk zfp q' pN' vl').1, (e_rf oi zfk zfp q' pN' vl').2, cu', upd zpk zpn.toNatClampNeg (if q' = 1 then 0 else 32), e_rl zpl zpn q' nm', e_rp zpp zpn q' pN', (if q' = 1 then vl'.toInt32 else zmd), e_rg zgv q' vl')) := by
  have R1 := fun (v : Int64) (f : Int32 × Int32 → Int32 × Int32 × Int32 × Int32 × (Nat → Int32) × (Nat → Int64) × (Nat → Int32) × Int32 × Int64) => e_rng (v := v) hl hh zfk zfp (zkp cu.toNatClampNeg) f
  by_cases c3 : zkk cu.toNatClampNeg = 3 ∧ zkv cu.toNatClampNeg = (45 : Int32).toInt64
  · have c1 : ¬ zkk cu.toNatClampNeg = 1 := by rw [c3.1]; decide
    by_cases c2 : zkk (cu + 1).toNatClampNeg = 2
    · have G : e_N zkk zkp zkv 2 (cu, rg, q, nm, pN, vl) = .ok (cu + 1 + 1, rg, 1, 0, zkp cu.toNatClampNeg, -(zkv (cu + 1).toNatClampNeg)) := by
        rw [e_N_eq, e_num1_eq]
        rw [if_neg c1, if_pos c3, if_pos c2]
      have F : m_Mod_wn32 zfk zfp zkk zkp zkv cu zpn zpk zpl zpp zmd zgv = (1, (e_rf oi zfk zfp 1 (zkp cu.toNatClampNeg) (-(zkv (cu + 1).toNatClampNeg))).1, (e_rf oi zfk zfp 1 (zkp cu.toNatClampNeg) (-(zkv (cu + 1).toNatClampNeg))).2, cu + 1 + 1, upd zpk zpn.toNatClampNeg 0, zpl, zpp, (-(zkv (cu + 1).toNatClampNeg)).toInt32, -(zkv (cu + 1).toNatClampNeg)) := by
        unfold m_Mod_wn32
        rw [e_iS, if_pos c3, e_if1, if_pos c2]
        exact R1 (-(zkv (cu + 1).toNatClampNeg)) (fun N => (1, N.1, N.2, cu + 1 + 1, upd zpk zpn.toNatClampNeg 0, zpl, zpp, (-(zkv (cu + 1).toNatClampNeg)).toInt32, -(zkv (cu + 1).toNatClampNeg)))
      rw [G, F]
      refine ⟨fun p h => (by cases h), fun cu' rg' q' nm' pN' vl' h => ?_⟩
      cases h
      exact ⟨rfl, Or.inl rfl, rfl⟩
    · have G : e_N zkk zkp zkv 2 (cu, rg, q, nm, pN, vl) = .error (zkp (cu + 1).toNatClampNeg) := by
        rw [e_N_eq, e_num1_eq]
        rw [if_neg c1, if_pos c3, if_neg c2]
      have F : m_Mod_wn32 zfk zfp zkk zkp zkv cu zpn zpk zpl zpp zmd zgv = (0, 1, zkp (cu + 1).toNatClampNeg, cu + 1, zpk, zpl, zpp, zmd, zgv) := by
        unfold m_Mod_wn32
        rw [e_iS, if_pos c3, e_if1, if_neg c2, e_ref]
      rw [G, F]
      refine ⟨fun p h => ?_, fun cu' rg' q' nm' pN' vl' h => by cases h⟩
      cases h
      exact ⟨_, rfl⟩
  · by_cases c1 : zkk cu.toNatClampNeg = 1
    · have G : e_N zkk zkp zkv 2 (cu, rg, q, nm, pN, vl) = .ok (cu + 1, rg, 2, zkv cu.toNatClampNeg, zkp cu.toNatClampNeg, 0) := by
        rw [e_N_eq]
        rw [if_pos c1]
      have F : m_Mod_wn32 zfk zfp zkk zkp zkv cu zpn zpk zpl zpp zmd zgv = (1, zfk, zfp, cu + 1, upd zpk zpn.toNatClampNeg 32, vp_updL zpl zpn.toNatClampNeg (zkv cu.toNatClampNeg), upd zpp zpn.toNatClampNeg (zkp cu.toNatClampNeg), zmd, zgv) := by
        unfold m_Mod_wn32
        rw [e_iS, if_neg c3, e_if0, if_pos c1]
      rw [G, F]
      refine ⟨fun p h => (by cases h), fun cu' rg' q' nm' pN' vl' h => ?_⟩
      cases h
      exact ⟨rfl, Or.inr rfl, rfl⟩
    · by_cases c2 : zkk cu.toNatClampNeg = 2
      · have G : e_N zkk zkp zkv 2 (cu, rg, q, nm, pN, vl) = .ok (cu + 1, rg, 1, 0, zkp cu.toNatClampNeg, zkv cu.toNatClampNeg) := by
          rw [e_N_eq, e_num1_eq, e_num0_eq]
          rw [if_neg c1, if_neg c3, if_pos c2]
        have F : m_Mod_wn32 zfk zfp zkk zkp zkv cu zpn zpk zpl zpp zmd zgv = (1, (e_rf oi zfk zfp 1 (zkp cu.toNatClampNeg) (zkv cu.toNatClampNeg)).1, (e_rf oi zfk zfp 1 (zkp cu.toNatClampNeg) (zkv cu.toNatClampNeg)).2, cu + 1, upd zpk zpn.toNatClampNeg 0, zpl, zpp, (zkv cu.toNatClampNeg).toInt32, zkv cu.toNatClampNeg) := by
          unfold m_Mod_wn32
          rw [e_iS, if_neg c3, e_if0, if_neg c1, if_pos c2]
          exact R1 (zkv cu.toNatClampNeg) (fun N => (1, N.1, N.2, cu + 1, upd zpk zpn.toNatClampNeg 0, zpl, zpp, (zkv cu.toNatClampNeg).toInt32, zkv cu.toNatClampNeg))
        rw [G, F]
        refine ⟨fun p h => (by cases h), fun cu' rg' q' nm' pN' vl' h => ?_⟩
        cases h
        exact ⟨rfl, Or.inl rfl, rfl⟩
      · have G : e_N zkk zkp zkv 2 (cu, rg, q, nm, pN, vl) = .error (zkp cu.toNatClampNeg) := by
          rw [e_N_eq, e_num1_eq, e_num0_eq]
          rw [if_neg c1, if_neg c3, if_neg c2]
        have F : m_Mod_wn32 zfk zfp zkk zkp zkv cu zpn zpk zpl zpp zmd zgv = (0, 1, zkp cu.toNatClampNeg, cu, zpk, zpl, zpp, zmd, zgv) := by
          unfold m_Mod_wn32
          rw [e_iS, if_neg c3, e_if0, if_neg c1, if_neg c2, e_ref]
        rw [G, F]
        refine ⟨fun p h => ?_, fun cu' rg' q' nm' pN' vl' h => by cases h⟩
        cases h
        exact ⟨_, rfl⟩
theorem e_wn33 {zkk zkp : Nat → Int32} {zkv : Nat → Int64} {oi : Nat} (hl : (g_lst oi).toInt64 = 0) (hh : (g_mst oi).toInt64 = 255) {zfk zfp zpn : Int32} {zpk : Nat → Int32} {zgv : Int64} {cu rg pN : Int32} {q : Nat} {nm vl : Int64} :
    (∀ p, e_num0 zkk zkp zkv (cu, rg, q, nm, pN, vl) = .error p → ∃ x, m_Mod_wn33 zfk zfp zkk zkp zkv cu zpn zpk zgv = (0, 1, p, x)) ∧
    (∀ cu' rg' q' nm' pN' vl', e_num0 zkk zkp zkv (cu, rg, q, nm, pN, vl) = .ok (cu', rg', q', nm', pN', vl') → rg' = rg ∧ q' = 1 ∧ m_Mod_wn33 zfk zfp zkk zkp zkv cu zpn zpk zgv = (1, (e_rf oi zfk zfp q' pN' vl').1, (e_rf oi zfk zfp q' pN' vl').2, cu', upd zpk zpn.toNatClampNeg 0, vl')) := by
  have R1 := fun (v : Int64) (f : Int32 × Int32 → Int32 × Int32 × Int32 × Int32 × (Nat → Int32) × Int64) => e_rng (v := v) hl hh zfk zfp (zkp cu.toNatClampNeg) f
  by_cases c2 : zkk cu.toNatClampNeg = 2
  · have G : e_num0 zkk zkp zkv (cu, rg, q, nm, pN, vl) = .ok (cu + 1, rg, 1, 0, zkp cu.toNatClampNeg, zkv cu.toNatClampNeg) := by
      rw [e_num0_eq]
      rw [if_pos c2]
    have F : m_Mod_wn33 zfk zfp zkk zkp zkv cu zpn zpk zgv = (1, (e_rf oi zfk zfp 1 (zkp cu.toNatClampNeg) (zkv cu.toNatClampNeg)).1, (e_rf oi zfk zfp 1 (zkp cu.toNatClampNeg) (zkv cu.toNatClampNeg)).2, cu + 1, upd zpk zpn.toNatClampNeg 0, zkv cu.toNatClampNeg) := by
      unfold m_Mod_wn33
      rw [if_pos c2]
      exact R1 (zkv cu.toNatClampNeg) (fun N => (1, N.1, N.2, cu + 1, upd zpk zpn.toNatClampNeg 0, zkv cu.toNatClampNeg))
    rw [G, F]
    refine ⟨fun p h => (by cases h), fun cu' rg' q' nm' pN' vl' h => ?_⟩
    cases h
    exact ⟨rfl, rfl, rfl⟩
  · have G : e_num0 zkk zkp zkv (cu, rg, q, nm, pN, vl) = .error (zkp cu.toNatClampNeg) := by
      rw [e_num0_eq]
      rw [if_neg c2]
    have F : m_Mod_wn33 zfk zfp zkk zkp zkv cu zpn zpk zgv = (0, 1, zkp cu.toNatClampNeg, cu, zpk, zgv) := by
      unfold m_Mod_wn33
      rw [if_neg c2, e_ref]
    rw [G, F]
    refine ⟨fun p h => ?_, fun cu' rg' q' nm' pN' vl' h => by cases h⟩
    cases h
    exact ⟨_, rfl⟩
theorem e_wn34 {zkk zkp : Nat → Int32} {zkv : Nat → Int64} {oi : Nat} (hl : (g_lst oi).toInt64 = 0) (hh : (g_mst oi).toInt64 = 3) {zfk zfp zpn : Int32} {zpk : Nat → Int32} {zgv : Int64} {cu rg pN : Int32} {q : Nat} {nm vl : Int64} :
    (∀ p, e_num0 zkk zkp zkv (cu, rg, q, nm, pN, vl) = .error p → ∃ x, m_Mod_wn34 zfk zfp zkk zkp zkv cu zpn zpk zgv = (0, 1, p, x)) ∧
    (∀ cu' rg' q' nm' pN' vl', e_num0 zkk zkp zkv (cu, rg, q, nm, pN, vl) = .ok (cu', rg', q', nm', pN', vl') → rg' = rg ∧ q' = 1 ∧ m_Mod_wn34 zfk zfp zkk zkp zkv cu zpn zpk zgv = (1, (e_rf oi zfk zfp q' pN' vl').1, (e_rf oi zfk zfp q' pN' vl').2, cu', upd zpk zpn.toNatClampNeg 0, vl')) := by
  have R1 := fun (v : Int64) (f : Int32 × Int32 → Int32 × Int32 × Int32 × Int32 × (Nat → Int32) × Int64) => e_rng (v := v) hl hh zfk zfp (zkp cu.toNatClampNeg) f
  by_cases c2 : zkk cu.toNatClampNeg = 2
  · have G : e_num0 zkk zkp zkv (cu, rg, q, nm, pN, vl) = .ok (cu + 1, rg, 1, 0, zkp cu.toNatClampNeg, zkv cu.toNatClampNeg) := by
      rw [e_num0_eq]
      rw [if_pos c2]
    have F : m_Mod_wn34 zfk zfp zkk zkp zkv cu zpn zpk zgv = (1, (e_rf oi zfk zfp 1 (zkp cu.toNatClampNeg) (zkv cu.toNatClampNeg)).1, (e_rf oi zfk zfp 1 (zkp cu.toNatClampNeg) (zkv cu.toNatClampNeg)).2, cu + 1, upd zpk zpn.toNatClampNeg 0, zkv cu.toNatClampNeg) := by
      unfold m_Mod_wn34
      rw [if_pos c2]
      exact R1 (zkv cu.toNatClampNeg) (fun N => (1, N.1, N.2, cu + 1, upd zpk zpn.toNatClampNeg 0, zkv cu.toNatClampNeg))
    rw [G, F]
    refine ⟨fun p h => (by cases h), fun cu' rg' q' nm' pN' vl' h => ?_⟩
    cases h
    exact ⟨rfl, rfl, rfl⟩
  · have G : e_num0 zkk zkp zkv (cu, rg, q, nm, pN, vl) = .error (zkp cu.toNatClampNeg) := by
      rw [e_num0_eq]
      rw [if_neg c2]
    have F : m_Mod_wn34 zfk zfp zkk zkp zkv cu zpn zpk zgv = (0, 1, zkp cu.toNatClampNeg, cu, zpk, zgv) := by
      unfold m_Mod_wn34
      rw [if_neg c2, e_ref]
    rw [G, F]
    refine ⟨fun p h => ?_, fun cu' rg' q' nm' pN' vl' h => by cases h⟩
    cases h
    exact ⟨_, rfl⟩
