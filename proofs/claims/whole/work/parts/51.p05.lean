/-! the class's readers over the same tokens -/
def e_TokAt (zkk zkp : Nat → Int32) (zkv : Nat → Int64) (kk kp : Nat → Int32) (kv : Nat → Int64) (kn kl i : Int32) : Prop :=
  m_Tokens_place kp kn kl i = zkp i.toNatClampNeg ∧ ((zkk i.toNatClampNeg = 0 ∧ m_Tokens_kind kk kn i = 0) ∨ (zkk i.toNatClampNeg = 4 ∧ m_Tokens_kind kk kn i = 1) ∨ (zkk i.toNatClampNeg = 1 ∧ m_Tokens_kind kk kn i = 2 ∧ m_Tokens_value kv kn i = zkv i.toNatClampNeg) ∨ (zkk i.toNatClampNeg = 2 ∧ m_Tokens_kind kk kn i = 3 ∧ m_Tokens_value kv kn i = zkv i.toNatClampNeg) ∨ (zkk i.toNatClampNeg = 3 ∧ zkv i.toNatClampNeg = (m_Tokens_kind kk kn i).toInt64 ∧ 40 ≤ (m_Tokens_kind kk kn i).toInt))
def e_Tok (zkk zkp : Nat → Int32) (zkv : Nat → Int64) (kk kp : Nat → Int32) (kv : Nat → Int64) (kn kl : Int32) (L : Nat) : Prop :=
  e_L zkk L ∧ ∀ i : Int32, 0 ≤ i.toInt → i.toInt ≤ L → e_TokAt zkk zkp zkv kk kp kv kn kl i
section E2
variable {zkk zkp : Nat → Int32} {zkv : Nat → Int64} {kk kp : Nat → Int32} {kv : Nat → Int64} {kn kl i : Int32}
theorem e_k2 (h : e_TokAt zkk zkp zkv kk kp kv kn kl i) : m_Tokens_kind kk kn i = 2 ↔ zkk i.toNatClampNeg = 1 := by
  rcases h.2 with ⟨a, b⟩ | ⟨a, b⟩ | ⟨a, b, -⟩ | ⟨a, b, -⟩ | ⟨a, -, b⟩
  · rw [a, b]; decide
  · rw [a, b]; decide
  · rw [a, b]; decide
  · rw [a, b]; decide
  · exact ⟨fun e => absurd (e ▸ b : 40 ≤ (2 : Int32).toInt) (by decide), fun e => absurd (a.symm.trans e) (by decide)⟩
theorem e_k3 (h : e_TokAt zkk zkp zkv kk kp kv kn kl i) : m_Tokens_kind kk kn i = 3 ↔ zkk i.toNatClampNeg = 2 := by
  rcases h.2 with ⟨a, b⟩ | ⟨a, b⟩ | ⟨a, b, -⟩ | ⟨a, b, -⟩ | ⟨a, -, b⟩
  · rw [a, b]; decide
  · rw [a, b]; decide
  · rw [a, b]; decide
  · rw [a, b]; decide
  · exact ⟨fun e => absurd (e ▸ b : 40 ≤ (3 : Int32).toInt) (by decide), fun e => absurd (a.symm.trans e) (by decide)⟩
theorem e_k1 (h : e_TokAt zkk zkp zkv kk kp kv kn kl i) : m_Tokens_kind kk kn i = 1 ↔ zkk i.toNatClampNeg = 4 := by
  rcases h.2 with ⟨a, b⟩ | ⟨a, b⟩ | ⟨a, b, -⟩ | ⟨a, b, -⟩ | ⟨a, -, b⟩
  · rw [a, b]; decide
  · rw [a, b]; decide
  · rw [a, b]; decide
  · rw [a, b]; decide
  · exact ⟨fun e => absurd (e ▸ b : 40 ≤ (1 : Int32).toInt) (by decide), fun e => absurd (a.symm.trans e) (by decide)⟩
theorem e_k0 (h : e_TokAt zkk zkp zkv kk kp kv kn kl i) : m_Tokens_kind kk kn i = 0 ↔ zkk i.toNatClampNeg = 0 := by
  rcases h.2 with ⟨a, b⟩ | ⟨a, b⟩ | ⟨a, b, -⟩ | ⟨a, b, -⟩ | ⟨a, -, b⟩
  · rw [a, b]
  · rw [a, b]; decide
  · rw [a, b]; decide
  · rw [a, b]; decide
  · exact ⟨fun e => absurd (e ▸ b : 40 ≤ (0 : Int32).toInt) (by decide), fun e => absurd (a.symm.trans e) (by decide)⟩
theorem e_i64 {x y : Int32} (h : x.toInt64 = y.toInt64) : x = y := by
  have k := congrArg Int64.toInt h
  rw [Int32.toInt_toInt64, Int32.toInt_toInt64] at k
  exact Int32.toInt_inj.mp k
theorem e_kS (h : e_TokAt zkk zkp zkv kk kp kv kn kl i) {sg : Int32} (hs : 40 ≤ sg.toInt) : m_Tokens_kind kk kn i = sg ↔ zkk i.toNatClampNeg = 3 ∧ zkv i.toNatClampNeg = sg.toInt64 := by
  rcases h.2 with ⟨a, b⟩ | ⟨a, b⟩ | ⟨a, b, -⟩ | ⟨a, b, -⟩ | ⟨a, z, b⟩
  · exact ⟨fun e => absurd (show 40 ≤ (0 : Int32).toInt by rw [← b, e]; exact hs) (by decide), fun e => absurd (a.symm.trans e.1) (by decide)⟩
  · exact ⟨fun e => absurd (show 40 ≤ (1 : Int32).toInt by rw [← b, e]; exact hs) (by decide), fun e => absurd (a.symm.trans e.1) (by decide)⟩
  · exact ⟨fun e => absurd (show 40 ≤ (2 : Int32).toInt by rw [← b, e]; exact hs) (by decide), fun e => absurd (a.symm.trans e.1) (by decide)⟩
  · exact ⟨fun e => absurd (show 40 ≤ (3 : Int32).toInt by rw [← b, e]; exact hs) (by decide), fun e => absurd (a.symm.trans e.1) (by decide)⟩
  · exact ⟨fun e => ⟨a, by rw [z, e]⟩, fun e => e_i64 (z.symm.trans e.2)⟩
theorem e_v1 (h : e_TokAt zkk zkp zkv kk kp kv kn kl i) (hc : zkk i.toNatClampNeg = 1) : m_Tokens_value kv kn i = zkv i.toNatClampNeg := by
  rcases h.2 with ⟨a, b⟩ | ⟨a, b⟩ | ⟨a, b, v⟩ | ⟨a, b, v⟩ | ⟨a, z, b⟩
  · exact absurd (a.symm.trans hc) (by decide)
  · exact absurd (a.symm.trans hc) (by decide)
  · exact v
  · exact v
  · exact absurd (a.symm.trans hc) (by decide)
theorem e_v2 (h : e_TokAt zkk zkp zkv kk kp kv kn kl i) (hc : zkk i.toNatClampNeg = 2) : m_Tokens_value kv kn i = zkv i.toNatClampNeg := by
  rcases h.2 with ⟨a, b⟩ | ⟨a, b⟩ | ⟨a, b, v⟩ | ⟨a, b, v⟩ | ⟨a, z, b⟩
  · exact absurd (a.symm.trans hc) (by decide)
  · exact absurd (a.symm.trans hc) (by decide)
  · exact v
  · exact v
  · exact absurd (a.symm.trans hc) (by decide)
end E2
theorem e_cref (fk fp wh : Int32) : m_Fault_refuse fk fp wh = (0, 1, wh) := rfl
section E3
variable {zkk zkp : Nat → Int32} {zkv : Nat → Int64} {kk kp : Nat → Int32} {kv : Nat → Int64} {kn kl : Int32} {fk fp cu rg pN p sg sh : Int32} {q : Nat} {nm vl : Int64} {T : e_S}
theorem e_cS_e (hA : e_TokAt zkk zkp zkv kk kp kv kn kl cu) (hs : 40 ≤ sg.toInt) (h : e_sgn zkk zkp zkv sg (cu, rg, q, nm, pN, vl) = .error p) : m_Asm_readSign fk fp kk kp kn kl cu sg = (0, 1, p, cu) := by
  rw [e_sgn_eq] at h
  unfold m_Asm_readSign
  split at h
  · cases h
  · rename_i c
    rw [if_neg (fun e => c ((e_kS hA hs).mp e)), e_cref, hA.1]
    cases h; rfl
theorem e_cS_o (hA : e_TokAt zkk zkp zkv kk kp kv kn kl cu) (hs : 40 ≤ sg.toInt) (h : e_sgn zkk zkp zkv sg (cu, rg, q, nm, pN, vl) = .ok T) : m_Asm_readSign fk fp kk kp kn kl cu sg = (1, fk, fp, cu + 1) ∧ T = (cu + 1, rg, q, nm, pN, vl) := by
  rw [e_sgn_eq] at h
  unfold m_Asm_readSign
  split at h
  · rename_i c
    rw [if_pos ((e_kS hA hs).mpr c)]
    cases h; exact ⟨rfl, rfl⟩
  · cases h
theorem e_lt8 (v : Int64) : lg_cmp v 8 < 0 ↔ v ≤ 7 := by
  rw [lg_cmp_lt, Int64.lt_iff_toInt_lt, Int64.le_iff_toInt_le]
  have a : (8 : Int64).toInt = 8 := rfl
  have b : (7 : Int64).toInt = 7 := rfl
  omega
theorem e_cR (hA : e_TokAt zkk zkp zkv kk kp kv kn kl cu) : m_Asm_readRegister fk fp kk kp kv kn kl cu rg sh = if zkk cu.toNatClampNeg = 1 ∧ 0 ≤ zkv cu.toNatClampNeg - 29232 ∧ zkv cu.toNatClampNeg - 29232 ≤ 7 then (1, fk, fp, cu + 1, rg ||| ((zkv cu.toNatClampNeg - 29232).toInt32 <<< (sh &&& 31))) else (0, 1, zkp cu.toNatClampNeg, cu, rg) := by
  unfold m_Asm_readRegister
  rw [e_cref, hA.1]
  by_cases c1 : zkk cu.toNatClampNeg = 1
  · rw [if_pos ((e_k2 hA).mpr c1), e_v1 hA c1]
    by_cases c2 : 0 ≤ zkv cu.toNatClampNeg - 29232
    · rw [if_neg (fun h => absurd ((lg_cmp_lt _ _).mp h) (Int64.not_lt.mpr c2))]
      by_cases c3 : zkv cu.toNatClampNeg - 29232 ≤ 7
      · rw [if_pos ((e_lt8 _).mpr c3), if_pos ⟨c1, c2, c3⟩]
      · rw [if_neg (fun h => c3 ((e_lt8 _).mp h)), if_neg (fun h => c3 h.2.2)]
    · rw [if_pos ((lg_cmp_lt _ _).mpr (Int64.not_le.mp c2)), if_neg (fun h => c2 h.2.1)]
  · rw [if_neg (fun e => c1 ((e_k2 hA).mp e)), if_neg (fun h => c1 h.1)]
theorem e_cR_e (hA : e_TokAt zkk zkp zkv kk kp kv kn kl cu) (h : e_reg zkk zkp zkv sh (cu, rg, q, nm, pN, vl) = .error p) : m_Asm_readRegister fk fp kk kp kv kn kl cu rg sh = (0, 1, p, cu, rg) := by
  rw [e_reg_eq] at h
  rw [e_cR hA]
  split at h
  · cases h
  · rename_i c; rw [if_neg c]; cases h; rfl
theorem e_cR_o (hA : e_TokAt zkk zkp zkv kk kp kv kn kl cu) (h : e_reg zkk zkp zkv sh (cu, rg, q, nm, pN, vl) = .ok T) : m_Asm_readRegister fk fp kk kp kv kn kl cu rg sh = (1, fk, fp, T.1, T.2.1) ∧ T.2.2 = (q, nm, pN, vl) := by
  rw [e_reg_eq] at h
  rw [e_cR hA]
  split at h
  · rename_i c; rw [if_pos c]; cases h; exact ⟨rfl, rfl⟩
  · cases h
end E3
def e_cf (sv : Int32) (dn : Nat → Int64) (da : Nat → Int32) (dl : Int32) (oi : Nat) (fk fp : Int32) (q : Nat) (nm : Int64) (pN : Int32) (vl : Int64) : Int32 × Int32 :=
  if q = 1 then (if m_Order_fits oi vl = 0 then m_Fault_note fk fp 3 pN else (fk, fp)) else if (q = 2 ∨ q = 3) ∧ sv = 0 ∧ m_Program_addressOf dn da dl nm = -1 then m_Fault_note fk fp 2 pN else (fk, fp)
def e_cv (dn : Nat → Int64) (da : Nat → Int32) (dl na : Int32) (q : Nat) (nm vl : Int64) : Int64 :=
  if q = 1 then vl else if q = 2 then (m_Program_addressOf dn da dl nm - 0).toInt64 else if q = 3 then (m_Program_addressOf dn da dl nm - na).toInt64 else 0
section E4
variable {zkk zkp : Nat → Int32} {zkv : Nat → Int64} {kk kp : Nat → Int32} {kv : Nat → Int64} {kn kl : Int32} {fk fp cu rg pN p sg sh : Int32} {q : Nat} {nm vl : Int64} {T : e_S} {dn : Nat → Int64} {da : Nat → Int32} {dl sv na og : Int32} {oi o : Nat} {w : Int64} {L : Nat}
theorem e_cNum0 (hA : e_TokAt zkk zkp zkv kk kp kv kn kl cu) :
    (∀ p, e_num0 zkk zkp zkv (cu, rg, q, nm, pN, vl) = .error p → ∃ x, m_Asm_readNumber fk fp kk kp kv kn kl cu w oi 0 = (0, 1, p, x)) ∧
    (∀ cu' rg' q' nm' pN' vl', e_num0 zkk zkp zkv (cu, rg, q, nm, pN, vl) = .ok (cu', rg', q', nm', pN', vl') → rg' = rg ∧ q' = 1 ∧ m_Asm_readNumber fk fp kk kp kv kn kl cu w oi 0 = (1, (e_cf sv dn da dl oi fk fp q' nm' pN' vl').1, (e_cf sv dn da dl oi fk fp q' nm' pN' vl').2, cu', vl')) := by
  by_cases c2 : zkk cu.toNatClampNeg = 2
  · have G : e_num0 zkk zkp zkv (cu, rg, q, nm, pN, vl) = .ok (cu + 1, rg, 1, 0, zkp cu.toNatClampNeg, zkv cu.toNatClampNeg) := by
      rw [e_num0_eq]
      rw [if_pos c2]
    have F : m_Asm_readNumber fk fp kk kp kv kn kl cu w oi 0 = (1, (e_cf sv dn da dl oi fk fp 1 0 (zkp cu.toNatClampNeg) (zkv cu.toNatClampNeg)).1, (e_cf sv dn da dl oi fk fp 1 0 (zkp cu.toNatClampNeg) (zkv cu.toNatClampNeg)).2, cu + 1, zkv cu.toNatClampNeg) := by
      unfold m_Asm_readNumber e_cf
      rw [if_pos (rfl : (0 : Int32) = 0), if_pos ((e_k3 hA).mpr c2), e_v2 hA c2, hA.1, if_pos (rfl : 1 = 1)]
      by_cases f : m_Order_fits oi (zkv cu.toNatClampNeg) = 0
      · rw [if_pos f, if_pos f]
      · rw [if_neg f, if_neg f]
    rw [G, F]
    refine ⟨fun p h => (by cases h), fun cu' rg' q' nm' pN' vl' h => ?_⟩
    cases h
    exact ⟨rfl, rfl, rfl⟩
  · have G : e_num0 zkk zkp zkv (cu, rg, q, nm, pN, vl) = .error (zkp cu.toNatClampNeg) := by
      rw [e_num0_eq]
      rw [if_neg c2]
    have F : m_Asm_readNumber fk fp kk kp kv kn kl cu w oi 0 = (0, 1, zkp cu.toNatClampNeg, cu, w) := by
      unfold m_Asm_readNumber
      rw [if_pos (rfl : (0 : Int32) = 0), if_neg (fun e => c2 ((e_k3 hA).mp e)), e_cref, hA.1]
    rw [G, F]
    refine ⟨fun p h => ?_, fun cu' rg' q' nm' pN' vl' h => by cases h⟩
    cases h
    exact ⟨_, rfl⟩
theorem e_cNum1 (hA : e_TokAt zkk zkp zkv kk kp kv kn kl cu) (hB : zkk cu.toNatClampNeg = 3 → e_TokAt zkk zkp zkv kk kp kv kn kl (cu + 1)) :
    (∀ p, e_num1 zkk zkp zkv (cu, rg, q, nm, pN, vl) = .error p → ∃ x, m_Asm_readNumber fk fp kk kp kv kn kl cu w oi 1 = (0, 1, p, x)) ∧
    (∀ cu' rg' q' nm' pN' vl', e_num1 zkk zkp zkv (cu, rg, q, nm, pN, vl) = .ok (cu', rg', q', nm', pN', vl') → rg' = rg ∧ q' = 1 ∧ m_Asm_readNumber fk fp kk kp kv kn kl cu w oi 1 = (1, (e_cf sv dn da dl oi fk fp q' nm' pN' vl').1, (e_cf sv dn da dl oi fk fp q' nm' pN' vl').2, cu', vl')) := by
  by_cases c3 : zkk cu.toNatClampNeg = 3 ∧ zkv cu.toNatClampNeg = (45 : Int32).toInt64
  · have hB := hB c3.1
    by_cases c2 : zkk (cu + 1).toNatClampNeg = 2
    · have G : e_num1 zkk zkp zkv (cu, rg, q, nm, pN, vl) = .ok (cu + 1 + 1, rg, 1, 0, zkp cu.toNatClampNeg, -(zkv (cu + 1).toNatClampNeg)) := by
        rw [e_num1_eq]
        rw [if_pos c3, if_pos c2]
      have F : m_Asm_readNumber fk fp kk kp kv kn kl cu w oi 1 = (1, (e_cf sv dn da dl oi fk fp 1 0 (zkp cu.toNatClampNeg) (-(zkv (cu + 1).toNatClampNeg))).1, (e_cf sv dn da dl oi fk fp 1 0 (zkp cu.toNatClampNeg) (-(zkv (cu + 1).toNatClampNeg))).2, cu + 1 + 1, -(zkv (cu + 1).toNatClampNeg)) := by
        unfold m_Asm_readNumber e_cf
        rw [if_neg (show ¬ (1 : Int32) = 0 by decide), if_pos ((e_kS hA (sg := 45) (by decide)).mpr c3), if_pos ((e_k3 hB).mpr c2), e_v2 hB c2, hA.1, if_pos (rfl : 1 = 1)]
        by_cases f : m_Order_fits oi (-(zkv (cu + 1).toNatClampNeg)) = 0
        · rw [if_pos f, if_pos f]
        · rw [if_neg f, if_neg f]
      rw [G, F]
      refine ⟨fun p h => (by cases h), fun cu' rg' q' nm' pN' vl' h => ?_⟩
      cases h
      exact ⟨rfl, rfl, rfl⟩
    · have G : e_num1 zkk zkp zkv (cu, rg, q, nm, pN, vl) = .error (zkp (cu + 1).toNatClampNeg) := by
        rw [e_num1_eq]
        rw [if_pos c3, if_neg c2]
      have F : m_Asm_readNumber fk fp kk kp kv kn kl cu w oi 1 = (0, 1, zkp (cu + 1).toNatClampNeg, cu + 1, w) := by
        unfold m_Asm_readNumber
        rw [if_neg (show ¬ (1 : Int32) = 0 by decide), if_pos ((e_kS hA (sg := 45) (by decide)).mpr c3), if_neg (fun e => c2 ((e_k3 hB).mp e)), e_cref, hB.1]
      rw [G, F]
      refine ⟨fun p h => ?_, fun cu' rg' q' nm' pN' vl' h => by cases h⟩
      cases h
      exact ⟨_, rfl⟩
  · by_cases c2 : zkk cu.toNatClampNeg = 2
    · have G : e_num1 zkk zkp zkv (cu, rg, q, nm, pN, vl) = .ok (cu + 1, rg, 1, 0, zkp cu.toNatClampNeg, zkv cu.toNatClampNeg) := by
        rw [e_num1_eq, e_num0_eq]
        rw [if_neg c3, if_pos c2]
      have F : m_Asm_readNumber fk fp kk kp kv kn kl cu w oi 1 = (1, (e_cf sv dn da dl oi fk fp 1 0 (zkp cu.toNatClampNeg) (zkv cu.toNatClampNeg)).1, (e_cf sv dn da dl oi fk fp 1 0 (zkp cu.toNatClampNeg) (zkv cu.toNatClampNeg)).2, cu + 1, zkv cu.toNatClampNeg) := by
        unfold m_Asm_readNumber e_cf
        rw [if_neg (show ¬ (1 : Int32) = 0 by decide), if_neg (fun e => c3 ((e_kS hA (sg := 45) (by decide)).mp e)), if_pos ((e_k3 hA).mpr c2), e_v2 hA c2, hA.1, if_pos (rfl : 1 = 1)]
        by_cases f : m_Order_fits oi (zkv cu.toNatClampNeg) = 0
        · rw [if_pos f, if_pos f]
        · rw [if_neg f, if_neg f]
      rw [G, F]
      refine ⟨fun p h => (by cases h), fun cu' rg' q' nm' pN' vl' h => ?_⟩
      cases h
      exact ⟨rfl, rfl, rfl⟩
    · have G : e_num1 zkk zkp zkv (cu, rg, q, nm, pN, vl) = .error (zkp cu.toNatClampNeg) := by
        rw [e_num1_eq, e_num0_eq]
        rw [if_neg c3, if_neg c2]
      have F : m_Asm_readNumber fk fp kk kp kv kn kl cu w oi 1 = (0, 1, zkp cu.toNatClampNeg, cu, w) := by
        unfold m_Asm_readNumber
        rw [if_neg (show ¬ (1 : Int32) = 0 by decide), if_neg (fun e => c3 ((e_kS hA (sg := 45) (by decide)).mp e)), if_neg (fun e => c2 ((e_k3 hA).mp e)), e_cref, hA.1]
      rw [G, F]
      refine ⟨fun p h => ?_, fun cu' rg' q' nm' pN' vl' h => by cases h⟩
      cases h
      exact ⟨_, rfl⟩
theorem e_cLab (hA : e_TokAt zkk zkp zkv kk kp kv kn kl cu) : m_Asm_readLabel fk fp kk kp kv kn kl dn da dl sv cu w og = if zkk cu.toNatClampNeg = 1 then (1, (if sv = 0 ∧ m_Program_addressOf dn da dl (zkv cu.toNatClampNeg) = -1 then m_Fault_note fk fp 2 (zkp cu.toNatClampNeg) else (fk, fp)).1, (if sv = 0 ∧ m_Program_addressOf dn da dl (zkv cu.toNatClampNeg) = -1 then m_Fault_note fk fp 2 (zkp cu.toNatClampNeg) else (fk, fp)).2, cu + 1, (m_Program_addressOf dn da dl (zkv cu.toNatClampNeg) - og).toInt64) else (0, fk, fp, cu, w) := by
  unfold m_Asm_readLabel
  by_cases c1 : zkk cu.toNatClampNeg = 1
  · rw [if_pos ((e_k2 hA).mpr c1), if_pos c1, e_v1 hA c1, hA.1]
    by_cases c2 : sv = 0
    · rw [if_pos c2]
      by_cases c3 : m_Program_addressOf dn da dl (zkv cu.toNatClampNeg) = -1
      · rw [if_pos c3, if_pos ⟨c2, c3⟩]
      · rw [if_neg c3, if_neg (fun h => c3 h.2)]
    · rw [if_neg c2, if_neg (fun h => c2 h.1)]
  · rw [if_neg (fun e => c1 ((e_k2 hA).mp e)), if_neg c1]
theorem e_cN2 (hA : e_TokAt zkk zkp zkv kk kp kv kn kl cu) (hB : zkk cu.toNatClampNeg = 3 → e_TokAt zkk zkp zkv kk kp kv kn kl (cu + 1)) :
    (∀ p, e_part zkk zkp zkv 110 (cu, rg, q, nm, pN, vl) = .error p → ∃ x, m_Asm_readPart fk fp kk kp kv kn kl dn da dl sv cu na rg w oi 110 = (0, 1, p, x)) ∧
    (∀ cu' rg' q' nm' pN' vl', e_part zkk zkp zkv 110 (cu, rg, q, nm, pN, vl) = .ok (cu', rg', q', nm', pN', vl') → rg' = rg ∧ m_Asm_readPart fk fp kk kp kv kn kl dn da dl sv cu na rg w oi 110 = (1, (e_cf sv dn da dl oi fk fp q' nm' pN' vl').1, (e_cf sv dn da dl oi fk fp q' nm' pN' vl').2, cu', rg, e_cv dn da dl na q' nm' vl')) := by
  have N1 := e_cNum1 (fk := fk) (fp := fp) (rg := rg) (q := q) (nm := nm) (pN := pN) (vl := vl) (sv := sv) (dn := dn) (da := da) (dl := dl) (oi := oi) (w := w) hA hB
  rw [e_p110]
  have F0 : m_Asm_readPart fk fp kk kp kv kn kl dn da dl sv cu na rg w oi 110 = match m_Asm_readLabel fk fp kk kp kv kn kl dn da dl sv cu w 0 with
      | (r_8, u8_fk, u8_fp, u8_cu, u8_vl) => if r_8 = 0 then match m_Asm_readNumber u8_fk u8_fp kk kp kv kn kl u8_cu u8_vl oi 1 with
          | (r_10, u10_fk, u10_fp, u10_cu, u10_vl) => if r_10 = 0 then (0, u10_fk, u10_fp, u10_cu, rg, u10_vl) else (1, u10_fk, u10_fp, u10_cu, rg, u10_vl)
        else (1, u8_fk, u8_fp, u8_cu, rg, u8_vl) := by
    unfold m_Asm_readPart
    rw [if_neg (show ¬ (110 : Int32) = 97 by decide), if_neg (show ¬ (110 : Int32) = 98 by decide), if_neg (show ¬ (110 : Int32) = 100 by decide), if_pos (rfl : (110 : Int32) = 110)]
  rw [F0]
  by_cases c1 : zkk cu.toNatClampNeg = 1
  · have G : e_N zkk zkp zkv 2 (cu, rg, q, nm, pN, vl) = .ok (cu + 1, rg, 2, zkv cu.toNatClampNeg, zkp cu.toNatClampNeg, 0) := by
      rw [e_N_eq]
      rw [if_pos c1]
    have e1 : e_cf sv dn da dl oi fk fp 2 (zkv cu.toNatClampNeg) (zkp cu.toNatClampNeg) 0 = (if sv = 0 ∧ m_Program_addressOf dn da dl (zkv cu.toNatClampNeg) = -1 then m_Fault_note fk fp 2 (zkp cu.toNatClampNeg) else (fk, fp)) := by
      unfold e_cf
      rw [if_neg (show ¬ 2 = 1 by decide)]
      by_cases c2 : sv = 0 ∧ m_Program_addressOf dn da dl (zkv cu.toNatClampNeg) = -1
      · rw [if_pos c2, if_pos ⟨Or.inl rfl, c2⟩]
      · rw [if_neg c2, if_neg (fun h => c2 h.2)]
    rw [G, e_cLab hA, if_pos c1]
    refine ⟨fun p h => (by cases h), fun cu' rg' q' nm' pN' vl' h => ?_⟩
    cases h
    rw [e1]
    exact ⟨rfl, e_if1 _ _⟩
  · have G : e_N zkk zkp zkv 2 (cu, rg, q, nm, pN, vl) = e_num1 zkk zkp zkv (cu, rg, q, nm, pN, vl) := by
      rw [e_N_eq]
      rw [if_neg c1]
    rw [G, e_cLab hA, if_neg c1]
    dsimp only
    rw [e_if0]
    refine ⟨fun p h => ?_, fun cu' rg' q' nm' pN' vl' h => ?_⟩
    · obtain ⟨⟨x1, x2⟩, hx⟩ := N1.1 p h
      rw [hx]
      dsimp only
      rw [e_if0]
      exact ⟨_, rfl⟩
    · obtain ⟨h1, h2, h3⟩ := N1.2 _ _ _ _ _ _ h
      subst h1; subst h2
      rw [h3]
      dsimp only
      rw [e_if1]
      exact ⟨rfl, rfl⟩
theorem e_cN3 (hA : e_TokAt zkk zkp zkv kk kp kv kn kl cu) (hB : zkk cu.toNatClampNeg = 3 → e_TokAt zkk zkp zkv kk kp kv kn kl (cu + 1)) :
    (∀ p, e_part zkk zkp zkv 111 (cu, rg, q, nm, pN, vl) = .error p → ∃ x, m_Asm_readPart fk fp kk kp kv kn kl dn da dl sv cu na rg w oi 111 = (0, 1, p, x)) ∧
    (∀ cu' rg' q' nm' pN' vl', e_part zkk zkp zkv 111 (cu, rg, q, nm, pN, vl) = .ok (cu', rg', q', nm', pN', vl') → rg' = rg ∧ m_Asm_readPart fk fp kk kp kv kn kl dn da dl sv cu na rg w oi 111 = (1, (e_cf sv dn da dl oi fk fp q' nm' pN' vl').1, (e_cf sv dn da dl oi fk fp q' nm' pN' vl').2, cu', rg, e_cv dn da dl na q' nm' vl')) := by
  have N1 := e_cNum1 (fk := fk) (fp := fp) (rg := rg) (q := q) (nm := nm) (pN := pN) (vl := vl) (sv := sv) (dn := dn) (da := da) (dl := dl) (oi := oi) (w := w) hA hB
  rw [e_p111]
  have F0 : m_Asm_readPart fk fp kk kp kv kn kl dn da dl sv cu na rg w oi 111 = match m_Asm_readLabel fk fp kk kp kv kn kl dn da dl sv cu w na with
      | (r_8, u8_fk, u8_fp, u8_cu, u8_vl) => if r_8 = 0 then match m_Asm_readNumber u8_fk u8_fp kk kp kv kn kl u8_cu u8_vl oi 1 with
          | (r_10, u10_fk, u10_fp, u10_cu, u10_vl) => if r_10 = 0 then (0, u10_fk, u10_fp, u10_cu, rg, u10_vl) else (1, u10_fk, u10_fp, u10_cu, rg, u10_vl)
        else (1, u8_fk, u8_fp, u8_cu, rg, u8_vl) := by
    unfold m_Asm_readPart
    rw [if_neg (show ¬ (111 : Int32) = 97 by decide), if_neg (show ¬ (111 : Int32) = 98 by decide), if_neg (show ¬ (111 : Int32) = 100 by decide), if_neg (show ¬ (111 : Int32) = 110 by decide), if_pos (rfl : (111 : Int32) = 111)]
  rw [F0]
  by_cases c1 : zkk cu.toNatClampNeg = 1
  · have G : e_N zkk zkp zkv 3 (cu, rg, q, nm, pN, vl) = .ok (cu + 1, rg, 3, zkv cu.toNatClampNeg, zkp cu.toNatClampNeg, 0) := by
      rw [e_N_eq]
      rw [if_pos c1]
    have e1 : e_cf sv dn da dl oi fk fp 3 (zkv cu.toNatClampNeg) (zkp cu.toNatClampNeg) 0 = (if sv = 0 ∧ m_Program_addressOf dn da dl (zkv cu.toNatClampNeg) = -1 then m_Fault_note fk fp 2 (zkp cu.toNatClampNeg) else (fk, fp)) := by
      unfold e_cf
      rw [if_neg (show ¬ 3 = 1 by decide)]
      by_cases c2 : sv = 0 ∧ m_Program_addressOf dn da dl (zkv cu.toNatClampNeg) = -1
      · rw [if_pos c2, if_pos ⟨Or.inr rfl, c2⟩]
      · rw [if_neg c2, if_neg (fun h => c2 h.2)]
    rw [G, e_cLab hA, if_pos c1]
    refine ⟨fun p h => (by cases h), fun cu' rg' q' nm' pN' vl' h => ?_⟩
    cases h
    rw [e1]
    exact ⟨rfl, e_if1 _ _⟩
  · have G : e_N zkk zkp zkv 3 (cu, rg, q, nm, pN, vl) = e_num1 zkk zkp zkv (cu, rg, q, nm, pN, vl) := by
      rw [e_N_eq]
      rw [if_neg c1]
    rw [G, e_cLab hA, if_neg c1]
    dsimp only
    rw [e_if0]
    refine ⟨fun p h => ?_, fun cu' rg' q' nm' pN' vl' h => ?_⟩
    · obtain ⟨⟨x1, x2⟩, hx⟩ := N1.1 p h
      rw [hx]
      dsimp only
      rw [e_if0]
      exact ⟨_, rfl⟩
    · obtain ⟨h1, h2, h3⟩ := N1.2 _ _ _ _ _ _ h
      subst h1; subst h2
      rw [h3]
      dsimp only
      rw [e_if1]
      exact ⟨rfl, rfl⟩
theorem e_cU (hA : e_TokAt zkk zkp zkv kk kp kv kn kl cu) :
    (∀ p, e_part zkk zkp zkv 117 (cu, rg, q, nm, pN, vl) = .error p → ∃ x, m_Asm_readPart fk fp kk kp kv kn kl dn da dl sv cu na rg w oi 117 = (0, 1, p, x)) ∧
    (∀ cu' rg' q' nm' pN' vl', e_part zkk zkp zkv 117 (cu, rg, q, nm, pN, vl) = .ok (cu', rg', q', nm', pN', vl') → rg' = rg ∧ m_Asm_readPart fk fp kk kp kv kn kl dn da dl sv cu na rg w oi 117 = (1, (e_cf sv dn da dl oi fk fp q' nm' pN' vl').1, (e_cf sv dn da dl oi fk fp q' nm' pN' vl').2, cu', rg, e_cv dn da dl na q' nm' vl')) := by
  have N1 := e_cNum0 (fk := fk) (fp := fp) (rg := rg) (q := q) (nm := nm) (pN := pN) (vl := vl) (sv := sv) (dn := dn) (da := da) (dl := dl) (oi := oi) (w := w) hA
  rw [e_p117]
  have F0 : m_Asm_readPart fk fp kk kp kv kn kl dn da dl sv cu na rg w oi 117 = match m_Asm_readNumber fk fp kk kp kv kn kl cu w oi 0 with
      | (r_18, u18_fk, u18_fp, u18_cu, u18_vl) => (r_18, u18_fk, u18_fp, u18_cu, rg, u18_vl) := by
    unfold m_Asm_readPart
    rw [if_neg (show ¬ (117 : Int32) = 97 by decide), if_neg (show ¬ (117 : Int32) = 98 by decide), if_neg (show ¬ (117 : Int32) = 100 by decide), if_neg (show ¬ (117 : Int32) = 110 by decide), if_neg (show ¬ (117 : Int32) = 111 by decide), if_pos (rfl : (117 : Int32) = 117)]
  rw [F0]
  refine ⟨fun p h => ?_, fun cu' rg' q' nm' pN' vl' h => ?_⟩
  · obtain ⟨⟨x1, x2⟩, hx⟩ := N1.1 p h
    rw [hx]
    exact ⟨_, rfl⟩
  · obtain ⟨h1, h2, h3⟩ := N1.2 _ _ _ _ _ _ h
    subst h1; subst h2
    rw [h3]
    exact ⟨rfl, rfl⟩
theorem e_cO {c : Int32} (hc : c = 97 ∨ c = 98 ∨ c = 100 ∨ (40 ≤ c.toInt ∧ c.toInt ≤ 45)) (hA : e_TokAt zkk zkp zkv kk kp kv kn kl cu) :
    (∀ p, e_part zkk zkp zkv c (cu, rg, q, nm, pN, vl) = .error p → ∃ x, m_Asm_readPart fk fp kk kp kv kn kl dn da dl sv cu na rg w oi c = (0, 1, p, x)) ∧
    (∀ T, e_part zkk zkp zkv c (cu, rg, q, nm, pN, vl) = .ok T → T.2.2 = (q, nm, pN, vl) ∧ m_Asm_readPart fk fp kk kp kv kn kl dn da dl sv cu na rg w oi c = (1, fk, fp, T.1, T.2.1, w)) := by
  rcases hc with rfl | rfl | rfl | ⟨h1, h2⟩
  · rw [e_p97]
    have F0 : m_Asm_readPart fk fp kk kp kv kn kl dn da dl sv cu na rg w oi 97 = match m_Asm_readRegister fk fp kk kp kv kn kl cu rg 16 with
        | (r_2, u2_fk, u2_fp, u2_cu, u2_rg) => (r_2, u2_fk, u2_fp, u2_cu, u2_rg, w) := by
      unfold m_Asm_readPart
      rw [if_pos (rfl : (97 : Int32) = 97)]
    rw [F0]
    refine ⟨fun p h => ?_, fun T h => ?_⟩
    · rw [e_cR_e hA h]; exact ⟨_, rfl⟩
    · rw [(e_cR_o hA h).1]; exact ⟨(e_cR_o (fk := fk) (fp := fp) hA h).2, rfl⟩
  · rw [e_p98]
    have F0 : m_Asm_readPart fk fp kk kp kv kn kl dn da dl sv cu na rg w oi 98 = match m_Asm_readRegister fk fp kk kp kv kn kl cu rg 12 with
        | (r_2, u2_fk, u2_fp, u2_cu, u2_rg) => (r_2, u2_fk, u2_fp, u2_cu, u2_rg, w) := by
      unfold m_Asm_readPart
      rw [if_neg (show ¬ (98 : Int32) = 97 by decide), if_pos (rfl : (98 : Int32) = 98)]
    rw [F0]
    refine ⟨fun p h => ?_, fun T h => ?_⟩
    · rw [e_cR_e hA h]; exact ⟨_, rfl⟩
    · rw [(e_cR_o hA h).1]; exact ⟨(e_cR_o (fk := fk) (fp := fp) hA h).2, rfl⟩
  · rw [e_p100]
    have F0 : m_Asm_readPart fk fp kk kp kv kn kl dn da dl sv cu na rg w oi 100 = match m_Asm_readRegister fk fp kk kp kv kn kl cu rg 20 with
        | (r_2, u2_fk, u2_fp, u2_cu, u2_rg) => (r_2, u2_fk, u2_fp, u2_cu, u2_rg, w) := by
      unfold m_Asm_readPart
      rw [if_neg (show ¬ (100 : Int32) = 97 by decide), if_neg (show ¬ (100 : Int32) = 98 by decide), if_pos (rfl : (100 : Int32) = 100)]
    rw [F0]
    refine ⟨fun p h => ?_, fun T h => ?_⟩
    · rw [e_cR_e hA h]; exact ⟨_, rfl⟩
    · rw [(e_cR_o hA h).1]; exact ⟨(e_cR_o (fk := fk) (fp := fp) hA h).2, rfl⟩
  · have n1 : ¬ c = 97 := fun e => absurd (e ▸ h2 : (97 : Int32).toInt ≤ 45) (by decide)
    have n2 : ¬ c = 98 := fun e => absurd (e ▸ h2 : (98 : Int32).toInt ≤ 45) (by decide)
    have n3 : ¬ c = 100 := fun e => absurd (e ▸ h2 : (100 : Int32).toInt ≤ 45) (by decide)
    have n4 : ¬ c = 110 := fun e => absurd (e ▸ h2 : (110 : Int32).toInt ≤ 45) (by decide)
    have n5 : ¬ c = 111 := fun e => absurd (e ▸ h2 : (111 : Int32).toInt ≤ 45) (by decide)
    have n6 : ¬ c = 117 := fun e => absurd (e ▸ h2 : (117 : Int32).toInt ≤ 45) (by decide)
    have G : e_part zkk zkp zkv c (cu, rg, q, nm, pN, vl) = e_sgn zkk zkp zkv c (cu, rg, q, nm, pN, vl) := by
      unfold e_part
      rw [if_neg n1, if_neg n2, if_neg n3, if_neg n4, if_neg n5, if_neg n6]
    have F0 : m_Asm_readPart fk fp kk kp kv kn kl dn da dl sv cu na rg w oi c = match m_Asm_readSign fk fp kk kp kn kl cu c with
        | (r_19, u19_fk, u19_fp, u19_cu) => (r_19, u19_fk, u19_fp, u19_cu, rg, w) := by
      unfold m_Asm_readPart
      rw [if_neg n1, if_neg n2, if_neg n3, if_neg n4, if_neg n5, if_neg n6]
    rw [G, F0]
    refine ⟨fun p h => ?_, fun T h => ?_⟩
    · rw [e_cS_e hA h1 h]; exact ⟨_, rfl⟩
    · obtain ⟨a, b⟩ := e_cS_o (fk := fk) (fp := fp) hA h1 h
      rw [a, b]; exact ⟨rfl, rfl⟩
end E4
def e_isN (c : Int32) : Bool := decide (c = 110) || decide (c = 111) || decide (c = 117)
def e_one : Bool → List Int32 → Bool
  | _, [] => true
  | b, c :: cs => if e_isN c = true then !b && e_one true cs else decide (c = 97 ∨ c = 98 ∨ c = 100 ∨ (40 ≤ c.toInt ∧ c.toInt ≤ 45)) && e_one b cs
theorem e_one_chars : ∀ oi, oi < 25 → e_one false (e_chars oi) = true := by decide +kernel
theorem e_len7 : ∀ oi, oi < 25 → (e_chars oi).length ≤ 7 := by decide +kernel
theorem e_len : ∀ oi, oi < 25 → ∀ j, j < 8 → ((m_String_length (g_frm oi) ≤ Int32.ofNat j) ↔ (e_chars oi).length ≤ j) := by decide +kernel
theorem e_chr : ∀ oi, oi < 25 → ∀ j, j < 8 → j < (e_chars oi).length → m_String_charAt (g_frm oi) (Int32.ofNat j) = (e_chars oi).getD j 0 := by decide +kernel
theorem e_on (j : Nat) : Int32.ofNat j + 1 = Int32.ofNat (j + 1) := (Int32.ofNat_add j 1).symm
theorem e_dropc : ∀ oi, oi < 25 → ∀ j, j < 8 → j < (e_chars oi).length → (e_chars oi).drop j = (e_chars oi).getD j 0 :: (e_chars oi).drop (j + 1) := by decide +kernel
def e_fin (sv : Int32) (dw ds : Nat → Int32) (dn : Nat → Int64) (da : Nat → Int32) (dl dc na fk fp : Int32) (oi : Nat) (x1 cu rg : Int32) (q : Nat) (nm : Int64) (pN : Int32) (vl : Int64) : Int32 × Int32 × Int32 × (Nat → Int32) × (Nat → Int32) × Int32 × Int32 × Int32 × Int32 × Int64 :=
  match m_Asm_carryOut (e_cf sv dn da dl oi fk fp q nm pN vl).1 (e_cf sv dn da dl oi fk fp q nm pN vl).2 dw ds dc sv na rg (e_cv dn da dl na q nm vl) oi x1 with
  | (a, b, c, d, e, f) => (1, a, b, c, d, e, cu, f, rg, e_cv dn da dl na q nm vl)
theorem e_cf0 (sv : Int32) (dn : Nat → Int64) (da : Nat → Int32) (dl : Int32) (oi : Nat) (fk fp : Int32) (nm : Int64) (pN : Int32) (vl : Int64) : e_cf sv dn da dl oi fk fp 0 nm pN vl = (fk, fp) := by
  unfold e_cf
  rw [if_neg (by decide), if_neg (fun h => absurd h.1 (by decide))]
theorem e_L101 {zkk zkp : Nat → Int32} {zkv : Nat → Int64} {kk kp : Nat → Int32} {kv : Nat → Int64} {kn kl : Int32} {L : Nat} (hT : e_Tok zkk zkp zkv kk kp kv kn kl L) {oi : Nat} (hoi : oi < 25) {dn : Nat → Int64} {da : Nat → Int32} {dl sv na x1 fk fp : Int32} {dw ds : Nat → Int32} {dc : Int32} :
    ∀ (m j n : Nat) (cu rg pN : Int32) (q : Nat) (nm vl : Int64) (b : Bool), (e_chars oi).length = j + m → m < n → e_one b ((e_chars oi).drop j) = true → (b = false → q = 0) → 0 ≤ cu.toInt → cu.toInt ≤ L →
    (∀ p, e_form zkk zkp zkv ((e_chars oi).drop j) (cu, rg, q, nm, pN, vl) = .error p → ∃ x, m_Asm_readOrder_L101 kk kp kv kn kl dn da dl sv n x1 oi (Int32.ofNat j) (e_cf sv dn da dl oi fk fp q nm pN vl).1 (e_cf sv dn da dl oi fk fp q nm pN vl).2 dw ds dc cu na rg (e_cv dn da dl na q nm vl) = (0, 1, p, x)) ∧
    (∀ cu' rg' q' nm' pN' vl', e_form zkk zkp zkv ((e_chars oi).drop j) (cu, rg, q, nm, pN, vl) = .ok (cu', rg', q', nm', pN', vl') → m_Asm_readOrder_L101 kk kp kv kn kl dn da dl sv n x1 oi (Int32.ofNat j) (e_cf sv dn da dl oi fk fp q nm pN vl).1 (e_cf sv dn da dl oi fk fp q nm pN vl).2 dw ds dc cu na rg (e_cv dn da dl na q nm vl) = e_fin sv dw ds dn da dl dc na fk fp oi x1 cu' rg' q' nm' pN' vl') := by
  intro m
  have h7 := e_len7 oi hoi
  induction m with
  | zero =>
    intro j n cu rg pN q nm vl b hlen hn hone hq h0 h1
    obtain ⟨n, rfl⟩ : ∃ k, n = k + 1 := ⟨n - 1, by omega⟩
    rw [List.drop_eq_nil_of_le (by omega)]
    unfold m_Asm_readOrder_L101
    rw [if_pos ((e_len oi hoi j (by omega)).mpr (by omega))]
    refine ⟨fun p h => ?_, fun cu' rg' q' nm' pN' vl' h => ?_⟩
    · have h' : Except.ok (cu, rg, q, nm, pN, vl) = (Except.error p : Except Int32 e_S) := h
      cases h'
    · have h' : Except.ok (cu, rg, q, nm, pN, vl) = (Except.ok (cu', rg', q', nm', pN', vl') : Except Int32 e_S) := h
      cases h'
      rfl
  | succ m ih =>
    intro j n cu rg pN q nm vl b hlen hn hone hq h0 h1
    obtain ⟨n, rfl⟩ : ∃ k, n = k + 1 := ⟨n - 1, by omega⟩
    have hj : j < (e_chars oi).length := by omega
    have hd := e_dropc oi hoi j (by omega) hj
    unfold m_Asm_readOrder_L101
    rw [if_neg (fun h => by have k := (e_len oi hoi j (by omega)).mp h; omega), e_chr oi hoi j (by omega) hj]
    rw [hd] at hone ⊢
    generalize (e_chars oi).getD j 0 = c at hone ⊢
    have hA := hT.2 cu h0 h1
    unfold e_one at hone
    by_cases hN : e_isN c = true
    · rw [if_pos hN] at hone
      obtain ⟨hb, hone⟩ := Bool.and_eq_true_iff.mp hone
      have hb : b = false := by cases b; rfl; exact absurd hb (by decide)
      have hq := hq hb
      subst hq
      rw [e_cf0]
      have hB : zkk cu.toNatClampNeg = 3 → e_TokAt zkk zkp zkv kk kp kv kn kl (cu + 1) := fun e => by
        have k := e_next hT.1 h0 h1 e (by decide) (by decide)
        exact hT.2 _ (by omega) (by omega)
      have key : (∀ p, e_part zkk zkp zkv c (cu, rg, 0, nm, pN, vl) = .error p → ∃ x, m_Asm_readPart fk fp kk kp kv kn kl dn da dl sv cu na rg (e_cv dn da dl na 0 nm vl) oi c = (0, 1, p, x)) ∧
        (∀ cu' rg' q' nm' pN' vl', e_part zkk zkp zkv c (cu, rg, 0, nm, pN, vl) = .ok (cu', rg', q', nm', pN', vl') → rg' = rg ∧ m_Asm_readPart fk fp kk kp kv kn kl dn da dl sv cu na rg (e_cv dn da dl na 0 nm vl) oi c = (1, (e_cf sv dn da dl oi fk fp q' nm' pN' vl').1, (e_cf sv dn da dl oi fk fp q' nm' pN' vl').2, cu', rg, e_cv dn da dl na q' nm' vl')) := by
        unfold e_isN at hN
        simp only [Bool.or_eq_true, decide_eq_true_eq] at hN
        rcases hN with (rfl | rfl) | rfl
        · exact e_cN2 hA hB
        · exact e_cN3 hA hB
        · exact e_cU hA
      rcases hp : e_part zkk zkp zkv c (cu, rg, 0, nm, pN, vl) with p1 | ⟨cu1, rg1, q1, nm1, pN1, vl1⟩
      · obtain ⟨⟨y1, y2, y3⟩, hx⟩ := key.1 p1 hp
        rw [e_fe hp, hx]
        refine ⟨fun p h => ?_, fun cu' rg' q' nm' pN' vl' h => ?_⟩
        · cases h; simp only [e_if0]; exact ⟨_, rfl⟩
        · cases h
      · obtain ⟨hr, hx⟩ := key.2 _ _ _ _ _ _ hp
        subst hr
        have k := e_part_in hT.1 hp h0 h1
        have k1 : cu.toInt < cu1.toInt := k.1
        have k2 : cu1.toInt ≤ L := k.2
        rw [e_fo hp, hx]
        simp only [e_if1, e_on]
        exact ih (j + 1) n cu1 rg1 pN1 q1 nm1 vl1 true (by omega) (by omega) hone (fun h => by cases h) (by omega) k2
    · rw [if_neg hN] at hone
      obtain ⟨hc, hone⟩ := Bool.and_eq_true_iff.mp hone
      have hc := of_decide_eq_true hc
      have key := e_cO (fk := (e_cf sv dn da dl oi fk fp q nm pN vl).1) (fp := (e_cf sv dn da dl oi fk fp q nm pN vl).2) (rg := rg) (q := q) (nm := nm) (pN := pN) (vl := vl) (dn := dn) (da := da) (dl := dl) (sv := sv) (na := na) (oi := oi) (w := e_cv dn da dl na q nm vl) hc hA
      rcases hp : e_part zkk zkp zkv c (cu, rg, q, nm, pN, vl) with p1 | ⟨cu1, rg1, q1, nm1, pN1, vl1⟩
      · obtain ⟨⟨y1, y2, y3⟩, hx⟩ := key.1 p1 hp
        rw [e_fe hp, hx]
        refine ⟨fun p h => ?_, fun cu' rg' q' nm' pN' vl' h => ?_⟩
        · cases h; simp only [e_if0]; exact ⟨_, rfl⟩
        · cases h
      · obtain ⟨hr, hx⟩ := key.2 _ hp
        have hr : (q1, nm1, pN1, vl1) = (q, nm, pN, vl) := hr
        simp only [Prod.mk.injEq] at hr
        obtain ⟨rfl, rfl, rfl, rfl⟩ := hr
        have k := e_part_in hT.1 hp h0 h1
        have k1 : cu.toInt < cu1.toInt := k.1
        have k2 : cu1.toInt ≤ L := k.2
        rw [e_fo hp, hx]
        simp only [e_if1, e_on]
        exact ih (j + 1) n cu1 rg1 pN1 q1 nm1 vl1 b (by omega) (by omega) hone hq (by omega) k2
/-! the fold of a pass over events -/
abbrev e_C : Type := Int32 × Int32 × (Nat → Int32) × (Nat → Int32) × (Nat → Int64) × (Nat → Int32) × Int32 × Int32 × Int32
def e_cE (sv : Int32) : e_C → e_Ev → e_C
  | (fk, fp, dw, ds, dn, da, dl, dc, na), .inl (nm, pl) =>
    if sv = 0 then (fk, fp, dw, ds, dn, da, dl, dc, na) else
    match m_Program_add dn da dl nm na with
    | (r, dn1, da1, dl1) => if r = 0 then ((m_Fault_note fk fp 2 pl).1, (m_Fault_note fk fp 2 pl).2, dw, ds, dn1, da1, dl1, dc, na) else (fk, fp, dw, ds, dn1, da1, dl1, dc, na)
  | (fk, fp, dw, ds, dn, da, dl, dc, na), .inr (oi, pl, (_, rg, q, nm, pN, vl)) =>
    match m_Asm_carryOut (e_cf sv dn da dl oi fk fp q nm pN vl).1 (e_cf sv dn da dl oi fk fp q nm pN vl).2 dw ds dc sv na rg (e_cv dn da dl na q nm vl) oi pl with
    | (a, b, c, d, e, f) => (a, b, c, d, dn, da, dl, e, f)
theorem e_cE_l (sv : Int32) (fk fp : Int32) (dw ds : Nat → Int32) (dn : Nat → Int64) (da : Nat → Int32) (dl dc na : Int32) (nm : Int64) (pl : Int32) : e_cE sv (fk, fp, dw, ds, dn, da, dl, dc, na) (.inl (nm, pl)) = if sv = 0 then (fk, fp, dw, ds, dn, da, dl, dc, na) else
    match m_Program_add dn da dl nm na with
    | (r, dn1, da1, dl1) => if r = 0 then ((m_Fault_note fk fp 2 pl).1, (m_Fault_note fk fp 2 pl).2, dw, ds, dn1, da1, dl1, dc, na) else (fk, fp, dw, ds, dn1, da1, dl1, dc, na) := rfl
theorem e_cE_o (sv : Int32) (fk fp : Int32) (dw ds : Nat → Int32) (dn : Nat → Int64) (da : Nat → Int32) (dl dc na : Int32) (oi : Nat) (pl cu rg : Int32) (q : Nat) (nm : Int64) (pN : Int32) (vl : Int64) : e_cE sv (fk, fp, dw, ds, dn, da, dl, dc, na) (.inr (oi, pl, (cu, rg, q, nm, pN, vl))) = match m_Asm_carryOut (e_cf sv dn da dl oi fk fp q nm pN vl).1 (e_cf sv dn da dl oi fk fp q nm pN vl).2 dw ds dc sv na rg (e_cv dn da dl na q nm vl) oi pl with
    | (a, b, c, d, e, f) => (a, b, c, d, dn, da, dl, e, f) := rfl
section E5
variable {zkk zkp : Nat → Int32} {zkv : Nat → Int64} {kk kp : Nat → Int32} {kv : Nat → Int64} {kn kl : Int32} {L : Nat} {sv na : Int32}
theorem e_cLabs (hT : e_Tok zkk zkp zkv kk kp kv kn kl L) (dw ds : Nat → Int32) (dc : Int32) : ∀ (n : Nat) (x1 fk fp : Int32) (dn : Nat → Int64) (da : Nat → Int32) (dl cu : Int32), 0 ≤ x1.toInt → 2 * x1.toInt ≤ cu.toInt → cu.toInt ≤ L →
    ∃ a b c d e, (e_labs zkk zkp zkv n cu).1.foldl (e_cE sv) (fk, fp, dw, ds, dn, da, dl, dc, na) = (a, b, dw, ds, c, d, e, dc, na) ∧ m_Asm_readLabels_L2 kk kp kv kn kl sv na n x1 fk fp dn da dl cu = (a, b, c, d, e, (e_labs zkk zkp zkv n cu).2) := by
  intro n
  have hL1 := hT.1.1
  have z480 : (480 : Int32).toInt = 480 := rfl
  have o : (1 : Int32).toInt = 1 := rfl
  induction n with
  | zero => intro x1 fk fp dn da dl cu h0 h1 h2; exact ⟨fk, fp, dn, da, dl, rfl, rfl⟩
  | succ n ih =>
    intro x1 fk fp dn da dl cu h0 h1 h2
    have hA := hT.2 cu (by omega) h2
    unfold e_labs m_Asm_readLabels_L2
    rw [if_neg (show ¬ (480 : Int32) ≤ x1 from fun h => by have k := Int32.le_iff_toInt_le.mp h; omega)]
    have a1 := gz_a x1 1 (by omega) (by omega)
    by_cases c : zkk cu.toNatClampNeg = 1 ∧ zkk (cu + 1).toNatClampNeg = 3 ∧ zkv (cu + 1).toNatClampNeg = (58 : Int32).toInt64
    · have k := e_next hT.1 (by omega) h2 c.1 (by decide) (by decide)
      have hB := hT.2 (cu + 1) (by omega) (by omega)
      have k2 := e_next (i := cu + 1) hT.1 (by omega) (by omega) c.2.1 (by decide) (by decide)
      have e2 := e_two (i := cu) (by omega) (by omega)
      have hat : m_Asm_atLabel kk kn cu = 1 := by
        unfold m_Asm_atLabel
        rw [if_pos ((e_k2 hA).mpr c.1), if_pos ((e_kS hB (sg := 58) (by decide)).mpr c.2)]
      rw [if_pos c, hat, if_neg (show ¬ (1 : Int32) = 0 by decide), e_v1 hA c.1, hA.1]
      have I := fun fk fp dn da dl => ih (x1 + 1) fk fp dn da dl (cu + 2) (by omega) (by omega) (by omega)
      show ∃ a b c d e, (e_labs zkk zkp zkv n (cu + 2)).1.foldl (e_cE sv) (e_cE sv (fk, fp, dw, ds, dn, da, dl, dc, na) (.inl (zkv cu.toNatClampNeg, zkp cu.toNatClampNeg))) = _ ∧ _
      rw [e_cE_l]
      by_cases s0 : sv = 0
      · rw [if_pos s0, if_pos s0]
        exact I fk fp dn da dl
      · rw [if_neg s0, if_neg s0]
        rcases hadd : m_Program_add dn da dl (zkv cu.toNatClampNeg) na with ⟨r, dn1, da1, dl1⟩
        by_cases r0 : r = 0
        · rcases hnote : m_Fault_note fk fp 2 (zkp cu.toNatClampNeg) with ⟨f1, f2⟩
          simp only [if_pos r0]
          exact I f1 f2 dn1 da1 dl1
        · simp only [if_neg r0]
          exact I fk fp dn1 da1 dl1
    · have hat : m_Asm_atLabel kk kn cu = 0 := by
        unfold m_Asm_atLabel
        by_cases c1 : zkk cu.toNatClampNeg = 1
        · have k := e_next hT.1 (by omega) h2 c1 (by decide) (by decide)
          have hB := hT.2 (cu + 1) (by omega) (by omega)
          rw [if_pos ((e_k2 hA).mpr c1), if_neg (fun e => c ⟨c1, (e_kS hB (sg := 58) (by decide)).mp e⟩)]
        · rw [if_neg (fun e => c1 ((e_k2 hA).mp e))]
      rw [if_neg c, hat, if_pos (rfl : (0 : Int32) = 0)]
      exact ⟨fk, fp, dn, da, dl, rfl, rfl⟩
end E5
