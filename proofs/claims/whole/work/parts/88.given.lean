/-! what the Statement gives of the start: the constants of the enum, their texts, what throws need -/
def g_nm : List String := ["HALT", "ADDI", "ADD", "SUB", "AND", "OR", "XOR", "SLT", "SLL", "SRA", "LUI", "LW", "SW", "BEQ", "BNE", "BLT", "JAL", "JALR", "SWAP", "FADD", "FMAX", "FENCE", "WORD", "ORG", "CORE"]
def g_ord : List Int32 := [0, 1, 2, 3, 4, 5, 6, 7, 8, 9, 10, 11, 12, 13, 14, 15, 16, 17, 18, 19, 20, 21, 22, 23, 24]
def g_six : List Nat := [136, 144, 149, 175, 180, 185, 190, 201, 209, 223, 233]
abbrev g_OE : String := "AsmDesk$Order"
abbrev g_OD : String := "LAsmDesk$Order;"
abbrev g_FL : List Cond := flatC (Jvm.Cond.and given_1 narrow_1)
def g_tst (i : Nat) : Term := .static g_OE (g_nm.getD i "") g_OD
def g_tsr (i : Nat) : Term := .string g_OE (g_six.getD i 0)
abbrev g_vf (t : Term) : Term := .field t "java/lang/String" "value" "[B"
set_option maxRecDepth 100000 in
theorem gv_lays : ∀ i, i < 25 → Cond.laysStatic g_OE (g_nm.getD i "") g_OD ∈ lw_tbl := by decide +kernel
set_option maxRecDepth 100000 in
theorem gv_ex : ∀ i, i < 25 → Cond.exactly (g_tst i) g_OE ∈ g_FL := by decide +kernel
set_option maxRecDepth 100000 in
theorem gv_ord : ∀ i, i < 25 → Cond.eq (.field (g_tst i) "java/lang/Enum" "ordinal" "I") (.int (g_ord.getD i 0)) ∈ g_FL := by decide +kernel
set_option maxRecDepth 100000 in
theorem gv_num : ∀ i, i < 25 → Cond.eq (.field (g_tst i) g_OE "number" "I") (.int (g_num i)) ∈ g_FL := by decide +kernel
set_option maxRecDepth 100000 in
theorem gv_lst : ∀ i, i < 25 → Cond.eq (.field (g_tst i) g_OE "least" "I") (.int (g_lst i)) ∈ g_FL := by decide +kernel
set_option maxRecDepth 100000 in
theorem gv_mst : ∀ i, i < 25 → Cond.eq (.field (g_tst i) g_OE "most" "I") (.int (g_mst i)) ∈ g_FL := by decide +kernel
set_option maxRecDepth 100000 in
theorem gv_spl : ∀ i, i < 25 → Cond.eq (.field (g_tst i) g_OE "spelling" "J") (.long (g_spl i)) ∈ g_FL := by decide +kernel
set_option maxRecDepth 100000 in
theorem gv_frm : ∀ i, i < 25 → Cond.eq (.field (g_tst i) g_OE "form" "Ljava/lang/String;") (g_tsr (g_frm i)) ∈ g_FL := by decide +kernel
set_option maxRecDepth 100000 in
theorem gv_elm : ∀ i, i < 25 → Cond.eq (.elem (.static g_OE "ALL" "[LAsmDesk$Order;") (.int (Int32.ofNat i))) (g_tst i) ∈ g_FL := by decide +kernel
set_option maxRecDepth 100000 in
theorem gv_sex : ∀ i, i < 11 → Cond.exactly (g_tsr i) "java/lang/String" ∈ g_FL := by decide +kernel
set_option maxRecDepth 100000 in
theorem gv_sco : ∀ i, i < 11 → Cond.eq (.field (g_tsr i) "java/lang/String" "coder" "B") (.int 0) ∈ g_FL := by decide +kernel
set_option maxRecDepth 100000 in
theorem gv_sar : ∀ i, i < 11 → Cond.arrayOf (g_vf (g_tsr i)) .byte ∈ g_FL := by decide +kernel
set_option maxRecDepth 100000 in
theorem gv_sle : ∀ i, i < 11 → Cond.eq (.length (g_vf (g_tsr i))) (.int (Int32.ofNat (g_len.getD i 0))) ∈ g_FL := by decide +kernel
set_option maxRecDepth 100000 in
theorem gv_sel : ∀ i, i < 11 → ∀ j, j < g_len.getD i 0 → Cond.eq (.elem (g_vf (g_tsr i)) (.int (Int32.ofNat j))) (.int ((g_byt.getD i []).getD j 0)) ∈ g_FL := by decide +kernel
theorem gv_len : ∀ i, i < 11 → g_len.getD i 0 < 2 ^ 31 := by decide +kernel
/-- two of the texts part in their lengths, or in a place that both have -/
theorem gv_apart : ∀ i, i < 11 → ∀ j, j < 11 → i ≠ j → Int32.ofNat (g_len.getD i 0) ≠ Int32.ofNat (g_len.getD j 0) ∨ (g_len.getD i 0 = g_len.getD j 0 ∧ ∃ k, k < g_len.getD i 0 ∧ (g_byt.getD i []).getD k 0 ≠ (g_byt.getD j []).getD k 0) := by decide +kernel
theorem gv_oap : ∀ i, i < 25 → ∀ j, j < 25 → i ≠ j → g_ord.getD i 0 ≠ g_ord.getD j 0 := by decide +kernel
theorem g_neq {args : Array Value} {s : State} {t u : Term} {a b : Nat} (ht : t.eval args s none [] s = some (.ref a)) (hu : u.eval args s none [] s = some (.ref b)) (h : a ≠ b) : (Cond.not (.eq t u)).before args s = true := by
  simp [Cond.before, Cond.holds, Cond.value, ht, hu, h]
theorem g_refx {args : Array Value} {s : State} {t : Term} {C : String} (h : (Cond.exactly t C).before args s = true) : ∃ a, t.eval args s none [] s = some (.ref a) := by
  obtain ⟨a, c, cell, k, q1, -⟩ := Cond.exactly_spec (args := args) (first := s) (o := none) (s := s) (idx := []) (t := t) (cls := C) h
  exact ⟨a, q1⟩
theorem g_fieq {args : Array Value} {s : State} {t u : Term} {a : Nat} {c n d : String} (ht : t.eval args s none [] s = some (.ref a)) (hu : u.eval args s none [] s = some (.ref a)) : (Term.field t c n d).eval args s none [] s = (Term.field u c n d).eval args s none [] s := by
  rw [va_fe ht, va_fe hu]
theorem g_one {z y : Int32} {x : Option Value} (h1 : x = some (.int z)) (h2 : x = some (.int y)) : z = y := by
  rw [h1] at h2
  cases h2
  rfl
section GGV
variable {args : Array Value} {s : State}
theorem gv_sne (hs : ∀ w ∈ g_FL, w.before args s = true) (i j : Nat) (hi : i < 11) (hj : j < 11) (hij : i ≠ j) : (Cond.not (Cond.eq (g_tsr i) (g_tsr j))).before args s = true := by
  obtain ⟨a, ha⟩ := g_refx (hs _ (gv_sex i hi))
  obtain ⟨b, hb⟩ := g_refx (hs _ (gv_sex j hj))
  refine g_neq ha hb (fun e => ?_)
  subst e
  have hv : (g_vf (g_tsr i)).eval args s none [] s = (g_vf (g_tsr j)).eval args s none [] s := g_fieq ha hb
  rcases gv_apart i hi j hj hij with h | ⟨h1, k, hk, h⟩
  · have e1 := va_eqt (hs _ (gv_sle i hi))
    have e2 := va_eqt (hs _ (gv_sle j hj))
    have e3 : (Term.length (g_vf (g_tsr i))).eval args s none [] s = (Term.length (g_vf (g_tsr j))).eval args s none [] s := by simp only [Term.eval] at hv ⊢; rw [hv]
    rw [e3] at e1
    exact h (g_one e1 e2)
  · have e1 := va_eqt (hs _ (gv_sel i hi k hk))
    have e2 := va_eqt (hs _ (gv_sel j hj k (by rw [← h1]; exact hk)))
    have e3 : (Term.elem (g_vf (g_tsr i)) (.int (Int32.ofNat k))).eval args s none [] s = (Term.elem (g_vf (g_tsr j)) (.int (Int32.ofNat k))).eval args s none [] s := by simp only [Term.eval] at hv ⊢; rw [hv]
    rw [e3] at e1
    exact h (g_one e1 e2)
theorem gv_one (hs : ∀ w ∈ g_FL, w.before args s = true) (i j : Nat) (hi : i < 25) (hj : j < 25) (hij : i ≠ j) : (Cond.not (Cond.eq (g_tst i) (g_tst j))).before args s = true := by
  obtain ⟨a, ha⟩ := g_refx (hs _ (gv_ex i hi))
  obtain ⟨b, hb⟩ := g_refx (hs _ (gv_ex j hj))
  refine g_neq ha hb (fun e => ?_)
  subst e
  have e1 := va_eqt (hs _ (gv_ord i hi))
  have e2 := va_eqt (hs _ (gv_ord j hj))
  rw [g_fieq ha hb] at e1
  exact gv_oap i hi j hj hij (g_one e1 e2)
set_option maxRecDepth 100000 in
theorem gv_St {A : Nat → Prop} (ht : ∀ w ∈ lw_tbl, w.before args s = true) (hs : ∀ w ∈ g_FL, w.before args s = true) (hA : ∀ a : Nat, a < s.heap.size → ¬ A a) : ∃ (ad : Nat → Nat) (tA : Nat) (adK adV : Nat → Nat), g_St ad tA adK adV A s s.heap := by
  have hini : (Cond.initialized g_OE).before args s = true := ht _ (by decide +kernel)
  obtain ⟨ad, hE, hev⟩ := va_Enof2 (nm := g_nm) (F := []) (A := A) (fun i hi => ht _ (gv_lays i hi)) hini (fun i hi => hs _ (gv_ex i hi)) (fun q hq => absurd hq List.not_mem_nil) (fun i j hi hj hij => Or.inl (gv_one hs i j hi hj hij)) hA
  obtain ⟨adK, adV, hKS, hkv⟩ := vk_Sof (N := 11) (tm := g_tsr) (len := g_len) (byt := g_byt) (A := A) gv_len (fun i hi => hs _ (gv_sex i hi)) (fun i hi => hs _ (gv_sco i hi)) (fun i hi => hs _ (gv_sar i hi)) (fun i hi => hs _ (gv_sle i hi)) (fun i hi j hj => hs _ (gv_sel i hi j hj)) (fun i j hi hj hij => Or.inl (gv_sne hs i j hi hj hij)) hA
  have hlen : (Term.length (.static g_OE "ALL" "[LAsmDesk$Order;")).eval args s none [] s = some (.int (Int32.ofNat 25)) := va_eqt (hs _ (by decide +kernel))
  obtain ⟨tA, htA, hT⟩ := va_Tof (tm := .static g_OE "ALL" "[LAsmDesk$Order;") (ty := .object g_OE) (N := 25) (f := fun j => .ref (ad j)) (A := A) (by decide) (hs _ (by decide +kernel)) hlen (fun j hj => va_eqv (hs _ (gv_elm j hj)) (hev j hj)) hA
  have ef : ∀ (n d : String) (v : Nat → Value) (tm : Nat → Term), (∀ i, i < 25 → Cond.eq (.field (g_tst i) g_OE n d) (tm i) ∈ g_FL) → (∀ i, i < 25 → (tm i).eval args s none [] s = some (v i)) → va_Ef 25 g_OE n d v ad A s s.heap := fun n d v tm h1 h2 => va_Efof (nm := g_nm) (tm := tm) hev (fun i hi => hs _ (h1 i hi)) h2 hA
  refine ⟨ad, tA, adK, adV, hT, (hE.1 23 (by decide)).1, (hE.1 24 (by decide)).1, (hE.1 22 (by decide)).1, va_Zof (ht _ (by decide +kernel)) (ht _ (by decide +kernel)) (va_eqi (hs _ (by decide +kernel))) hA, fun i hi => (hE.1 i hi).2.1, ef _ _ _ _ gv_spl (fun _ _ => rfl), ef _ _ _ _ gv_num (fun _ _ => rfl), ef _ _ _ _ gv_lst (fun _ _ => rfl), ef _ _ _ _ gv_mst (fun _ _ => rfl), ef _ _ _ _ gv_frm (fun i hi => hkv _ (g_frm_lt hi)), hKS, fun i j hi hj e => hE.2 i j hi hj e, va_Zqof (ht _ (by decide +kernel)) (ht _ (by decide +kernel)) (hs _ (by decide +kernel)) hA, va_Zof (ht _ (by decide +kernel)) hini htA hA⟩
set_option maxRecDepth 100000 in
theorem gv_dn : ∀ y ∈ g_DN, Cond.declares y ∈ lw_tbl := by decide +kernel
set_option maxRecDepth 100000 in
theorem gv_Tw {A : Nat → Prop} (ht : ∀ w ∈ lw_tbl, w.before args s = true) (hs : ∀ w ∈ g_FL, w.before args s = true) (hA : ∀ a : Nat, a < s.heap.size → ¬ A a) : ∃ sa : Nat → Nat, g_Tw sa A s s.heap := by
  obtain ⟨a0, h0⟩ := g_refx (hs (.exactly (.string "AsmDesk" 43) "java/lang/String") (by decide +kernel))
  obtain ⟨a1, h1⟩ := g_refx (hs (.exactly (.string "AsmDesk" 70) "java/lang/String") (by decide +kernel))
  obtain ⟨a2, h2⟩ := g_refx (hs (.exactly (.string "AsmDesk" 77) "java/lang/String") (by decide +kernel))
  obtain ⟨a3, h3⟩ := g_refx (hs (.exactly (.string "AsmDesk" 91) "java/lang/String") (by decide +kernel))
  have hini : (Cond.initialized Bundle.tN).before args s = true := ht _ (by decide +kernel)
  refine ⟨fun k => if k = 0 then a0 else if k = 1 then a1 else if k = 2 then a2 else a3, vx_Zqof (ht _ (by decide +kernel)) hini (hs _ (by decide +kernel)) hA, vx_Zqof (ht _ (by decide +kernel)) hini (hs _ (by decide +kernel)) hA, fun y hy => va_Nw.of rfl (ht _ (gv_dn y hy)), va_Nw.of rfl (ht _ (by decide +kernel)), va_Nw.of rfl (ht _ (by decide +kernel)), va_Nw.of rfl (ht _ (by decide +kernel)), ?_, ?_, ?_, ?_⟩
  · exact vk_R.of (ht (.stringRef "AsmDesk" 43 "the text has a fault") (by decide +kernel)) h0
  · exact vk_R.of (ht (.stringRef "AsmDesk" 70 "no such address") (by decide +kernel)) h1
  · exact vk_R.of (ht (.stringRef "AsmDesk" 77 "no such core") (by decide +kernel)) h2
  · exact vk_R.of (ht (.stringRef "AsmDesk" 91 "no such label") (by decide +kernel)) h3
set_option maxRecDepth 100000 in
theorem gv_N2 (ht : ∀ w ∈ lw_tbl, w.before args s = true) : g_N2 s :=
  ⟨va_Nw.of rfl (ht _ (by decide +kernel)), va_Nw.of rfl (ht _ (by decide +kernel)), va_Nw.of rfl (ht _ (by decide +kernel)), va_Nw.of rfl (ht _ (by decide +kernel)), va_Nw.of rfl (ht _ (by decide +kernel)), va_Nw.of rfl (ht _ (by decide +kernel))⟩
theorem gv_Ar {ty : FieldType} (h : (Cond.arrayClass ty).before args s = true) (ho : ∀ C, ty ≠ .object C) : ∃ cA : ClassId, ArrOfT s cA ty ∧ va_RA s cA ty := by
  obtain ⟨cA, kA, comp, h1, h2, h3⟩ := Cond.arrayClass_spec (args := args) (first := s) (o := none) (s := s) (idx := []) h
  refine ⟨cA, fun n z => ⟨fun k h => (by cases h), kA, h2, comp, h3⟩, ?_⟩
  cases ty with
  | object C => exact absurd rfl (ho C)
  | _ => exact h1
set_option maxRecDepth 100000 in
theorem gv_K (ht : ∀ w ∈ lw_tbl, w.before args s = true) : ∃ (dC : Nat → ClassId) (dI : Nat → Nat → Nat) (cB cI cJ : ClassId), va_K (dC, dI) classes [(cB, .byte), (cI, .int), (cJ, .long)] s := by
  have hg : ∀ w ∈ g_TB, w.before args s = true := fun w hw => ht w (List.mem_filter.mp hw).1
  obtain ⟨c0, i0, k0⟩ := u_known (n := 2) hg i_Tape (ht (.instantiable R_Tape 2) (by decide +kernel))
  obtain ⟨c1, i1, k1⟩ := u_known (n := 6) hg i_Tokens (ht (.instantiable R_Tokens 6) (by decide +kernel))
  obtain ⟨c2, i2, k2⟩ := u_known (n := 6) hg i_Program (ht (.instantiable R_Program 6) (by decide +kernel))
  obtain ⟨c3, i3, k3⟩ := u_known (n := 2) hg i_Fault (ht (.instantiable R_Fault 2) (by decide +kernel))
  obtain ⟨c4, i4, k4⟩ := u_known (n := 8) hg i_Assembler (ht (.instantiable R_Assembler 8) (by decide +kernel))
  obtain ⟨c5, i5, k5⟩ := u_known (n := 3) hg i_AsmDesk (ht (.instantiable R_AsmDesk 3) (by decide +kernel))
  obtain ⟨c6, i6, k6⟩ := u_known (n := 29) hg i_AsmDeskModel (ht (.instantiable R_AsmDeskModel 29) (by decide +kernel))
  obtain ⟨cB, hB⟩ := gv_Ar (ty := .byte) (ht _ (by decide +kernel)) (fun _ h => by cases h)
  obtain ⟨cI, hI⟩ := gv_Ar (ty := .int) (ht _ (by decide +kernel)) (fun _ h => by cases h)
  obtain ⟨cJ, hJ⟩ := gv_Ar (ty := .long) (ht _ (by decide +kernel)) (fun _ h => by cases h)
  refine ⟨fun k => match k with | 0 => c0 | 1 => c1 | 2 => c2 | 3 => c3 | 4 => c4 | 5 => c5 | _ => c6, fun k => match k with | 0 => i0 | 1 => i1 | 2 => i2 | 3 => i3 | 4 => i4 | 5 => i5 | _ => i6, cB, cI, cJ, ?_, ?_⟩
  · intro k q hq
    match k, hq with
    | 0, hq => cases hq; exact k0
    | 1, hq => cases hq; exact k1
    | 2, hq => cases hq; exact k2
    | 3, hq => cases hq; exact k3
    | 4, hq => cases hq; exact k4
    | 5, hq => cases hq; exact k5
    | 6, hq => cases hq; exact k6
    | k + 7, hq => simp [classes] at hq
  · intro k q hq
    match k, hq with
    | 0, hq => cases hq; exact hB
    | 1, hq => cases hq; exact hI
    | 2, hq => cases hq; exact hJ
    | k + 3, hq => simp at hq
end GGV
