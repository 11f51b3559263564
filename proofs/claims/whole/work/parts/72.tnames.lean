def R_Law : String := "AsmDeskLaw"
theorem g_codeW {p : Program} {l : Launch} {y : MethodName} {cc : ByteArray} {maxL : Nat} {ret : Option FieldType} {hh : List (Nat × Nat × Nat × Nat)} {e : Env} {s : State} {m : MethodId} {args : Array Value} {below : List Frame} {meth : Method} {c : Code} {s₁ : State} {rm : Room}
    (B : BodyLoose p l y (headSpec (.codeWith y cc maxL ret hh :: g_TB) rm) cc maxL ret e s m args below meth c s₁) : (Cond.codeWith y cc maxL ret hh).before args s = true := atoms_spec (ws := .codeWith y cc maxL ret hh :: g_TB) B.pre _ List.mem_cons_self
theorem g_startW {p : Program} {l : Launch} {y : MethodName} {cc : ByteArray} {maxL : Nat} {ret : Option FieldType} {hh : List (Nat × Nat × Nat × Nat)} {e : Env} {s : State} {m : MethodId} {args : Array Value} {below : List Frame} {meth : Method} {c : Code} {s₁ : State} {rm : Room} {own : String}
    (B : BodyLoose p l y (headSpec (.codeWith y cc maxL ret hh :: g_TB) rm) cc maxL ret e s m args below meth c s₁) (hml : c.maxLocals = maxL) (ho : y.cls = own) : g_Cx p s m meth c cc maxL ret own args :=
  ⟨B.exec, B.bytes, hml, B.returns, by subst ho; exact findClass_of_methodNamed B.named, fun w h => atoms_spec (ws := .codeWith y cc maxL ret hh :: g_TB) B.pre w (List.mem_cons_of_mem _ h), B.notSynchronized⟩
theorem g_goodA {ws : List Cond} (h : ∀ w ∈ ws, w ∈ g_TB) : GoodIn g_TB ws := fun w hw => ⟨h w hw, good_of_word (List.mem_filter.mp (h w hw)).2⟩
def g_sSW (own : String) (index : Nat) (y : MethodName) (bytes : ByteArray) (maxL : Nat) (ret : Option FieldType) (hh : List (Nat × Nat × Nat × Nat)) (n : Nat) : Prop := Cond.codeWith y bytes maxL ret hh ∈ g_TB ∧ Cond.methodLink own index y ∈ g_TB ∧ Cond.initialized y.cls ∈ g_TB ∧ (y.cls ≠ "java/lang/invoke/MethodHandle" ∧ y.cls ≠ "java/lang/invoke/VarHandle" ∧ (parseMethodDescriptor y.desc).map (fun d => d.parameters.length) = some n) ∧ Cond.static y ∈ g_TB
section GSW
variable {p : Program} {l : Launch} {e : Env} {R : Room} {s : State} {m : MethodId} {args : Array Value} {below : List Frame} {meth : Method} {c : Code} {H : Heap} {locs : List Loc} {cells slots : Nat} {Q : State → Prop} {cc : ByteArray} {nL : Nat} {ret : Option FieldType} {own : String}
variable {pc : Nat} {ls : Array Slot} {rest st0 : List Value} {dC : Nat → ClassId} {dI : Nat → Nat → Nat} {tys : List (ClassId × FieldType)} {ws wc wr : va_W} {A : Nat → Prop} {H0 : Heap}
theorem gr_SW {y : MethodName} {bytes : ByteArray} {maxL mc ms : Nat} {ry : Option FieldType} {hh : List (Nat × Nat × Nat × Nat)} {rm : Room} {index n : Nat} {X : State → Prop} {As : List Value} {Qc : Array Value → State → Outcome → State → Prop} {free : Addr → Prop}
    (C0 : g_Cx p s m meth c cc nL ret own args) (hM : Met l y (.codeWith y bytes maxL ry hh :: g_TB) rm (va_Pc As (g_pre dC dI tys H.size wc X)) Qc mc ms free) (hs : g_sSW own index y bytes maxL ry hh n) (hK : va_K (dC, dI) classes tys s) (hP : va_P (dC, dI) classes ws H) (hD : va_D A ws) (isC : List Nat) (hC : isC.map (fun i => ws[i]?) = wc.map some) (hnd : va_nd isC = true) (hXb : g_B X) (hX : g_X s H X)
    (hn : As.length = n) (hrm : (rm.cells, rm.slots) = (mc, ms)) (hsize : ls.size = nL) (hstack : st0 = As.reverse ++ rest) (hW : 2 * (F0 m pc ls st0).monitorRoom + (rest.map fun v => v.category).sum ≤ 8) (hdg : decode cc pc = .ok (.invokestatic index, 3)) (hR : rm.frames + 1 ≤ R.frames ∧ 8 + (maxL + 11) + rm.locals ≤ R.locals) (hf : cells + mc ≤ R.cells ∧ slots + ms ≤ R.slots) :
    va_Run p l e R s m args below meth c H locs cells slots mc ms (F0 m pc ls st0) rest (Qc As.toArray) free := by
  obtain ⟨hx, hb, hml, -, hown, hts, -⟩ := C0
  obtain ⟨h1, h2, h3, h4, h5⟩ := hs
  refine vx_runSW (Ts := g_TB) ⟨hx, hb, hml, hown, hts⟩ hM (vx_cwSW (Ts := g_TB) n hts (g_goodA (fun w hw => ?_)) rfl (congrArg Prod.fst hrm) (congrArg Prod.snd hrm) h4 hR) (g_pr hK hP hD isC hC hnd hXb hX) rfl hn hsize hstack hW hdg hf
  unfold va_wsS at hw
  rcases List.mem_append.mp hw with hw | hw
  · rcases List.mem_cons.mp hw with rfl | hw
    · exact h2
    · rcases List.mem_cons.mp hw with rfl | hw
      · exact h5
      · rcases List.mem_cons.mp hw with rfl | hw
        · exact h3
        · exact absurd hw List.not_mem_nil
  · rcases List.mem_cons.mp hw with rfl | hw
    · exact h1
    · exact hw
variable {S : Type} {B can : S → va_W} {a : Array Value} {isC isR perm : List Nat}
theorem gk_j {mc ms : Nat} {post : Int32 → S → Prop} (hr : va_Run p l e R s m args below meth c H locs cells slots mc ms (F0 m pc ls st0) rest (va_Qi post (fun u => g_post dC dI tys (va_A wc H.size) (B u)) (va_A wc H.size) a) (va_A wc H.size))
    (hP : va_P (dC, dI) classes ws H) (hD : va_D A ws) (hS : va_S A H0 H locs) (hA : ∀ q, H0.size ≤ q → A q) (hC : isC.map (fun i => ws[i]?) = wc.map some) (hR : isR.map (fun i => ws[i]?) = wr.map some) (hn : va_nd isR = true) (hdis : ∀ i ∈ isR, i ∉ isC) (hp : va_nd perm = true) (hcan : ∀ u, perm.map (fun i => (wr ++ B u)[i]?) = (can u).map some)
    (kk : ∀ (r : Int32) (u : S) (H1 : Heap) (locs1 : List Loc), post r u → va_P (dC, dI) classes (can u) H1 → va_D A (can u) → va_S A H0 H1 locs1 → W p l e R s m args below meth c H1 locs1 (cells + mc) (slots + ms) Q (F0 m (pc + 3) ls (.int r :: rest))) : W p l e R s m args below meth c H locs cells slots Q (F0 m pc ls st0) := by
  have hF := va_free hD hS hA isC hC
  refine va_calli hr hS (fun q _ h => hF q h) hF (fun r u t H1 locs1 ht hvm hw hB hz hk hS1 => ?_)
  obtain ⟨hP1, hK1, hD1⟩ := hB
  rw [ht] at hP1
  obtain ⟨hP2, hD2⟩ := va_join hP hD isC isR hC hR hn hdis hk hF hP1 hD1
  exact kk r u H1 locs1 hw (hP2.sub perm (g_fm (hcan u))) (hD2.sub perm hp (hcan u)) hS1
end GSW
theorem g_in01 : vp_in (0 : Int32) 1 := by rw [vp_in_iff]; decide
abbrev b_Asm_exchange : ByteArray := prog_2_method_3_code
def y_Asm_exchange : MethodName := ⟨R_Assembler, "exchange", "(LAsmDesk$Program;)LAsmDesk$Program;"⟩
abbrev w_Asm_exchange : List Cond := .code y_Asm_exchange b_Asm_exchange 3 (some (.object "AsmDesk$Program")) :: g_TB
abbrev b_Desk_word : ByteArray := prog_1_method_5_code
def y_Desk_word : MethodName := ⟨R_AsmDesk, "word", "(I)I"⟩
abbrev w_Desk_word : List Cond := .code y_Desk_word b_Desk_word 2 (some .int) :: g_TB
abbrev b_Desk_start : ByteArray := prog_1_method_6_code
def y_Desk_start : MethodName := ⟨R_AsmDesk, "start", "(I)I"⟩
abbrev w_Desk_start : List Cond := .code y_Desk_start b_Desk_start 2 (some .int) :: g_TB
abbrev b_Desk_label : ByteArray := prog_1_method_8_code
def y_Desk_label : MethodName := ⟨R_AsmDesk, "label", "(J)I"⟩
abbrev w_Desk_label : List Cond := .code y_Desk_label b_Desk_label 4 (some .int) :: g_TB
abbrev b_Desk_assemble : ByteArray := prog_1_method_3_code
def y_Desk_assemble : MethodName := ⟨R_AsmDesk, "assemble", "()I"⟩
abbrev w_Desk_assemble : List Cond := .code y_Desk_assemble b_Desk_assemble 2 (some .int) :: g_TB
abbrev b_Law_word : ByteArray := method_4_code
def y_Law_word : MethodName := ⟨R_Law, "word", "(LAsmDesk;I[J)I"⟩
abbrev w_Law_word : List Cond := .codeWith y_Law_word b_Law_word 4 (some .int) [(0, 9, 12, 19)] :: g_TB
abbrev b_Law_start : ByteArray := method_5_code
def y_Law_start : MethodName := ⟨R_Law, "start", "(LAsmDesk;I[J)I"⟩
abbrev w_Law_start : List Cond := .codeWith y_Law_start b_Law_start 4 (some .int) [(0, 9, 12, 19)] :: g_TB
abbrev b_Law_label : ByteArray := method_6_code
def y_Law_label : MethodName := ⟨R_Law, "label", "(LAsmDesk;J[J)I"⟩
abbrev w_Law_label : List Cond := .codeWith y_Law_label b_Law_label 5 (some .int) [(0, 9, 12, 28)] :: g_TB
abbrev b_Law_assemble : ByteArray := method_3_code
def y_Law_assemble : MethodName := ⟨R_Law, "assemble", "(LAsmDesk;[J)I"⟩
abbrev w_Law_assemble : List Cond := .codeWith y_Law_assemble b_Law_assemble 3 (some .int) [(0, 8, 11, 13)] :: g_TB
theorem tw_121 : Cond.fieldLink "AsmDesk" 73 "AsmDesk$Program" "words" "[I" ∈ g_TB := g_tw (i := 99) (by decide +kernel) (by decide +kernel)
theorem tw_122 : Cond.fieldLink "AsmDesk" 79 "AsmDesk$Program" "starts" "[I" ∈ g_TB := g_tw (i := 101) (by decide +kernel) (by decide +kernel)
theorem tw_123 : Cond.classLink "AsmDeskLaw" 19 "java/lang/IndexOutOfBoundsException" ∈ g_TB := g_tw (i := 467) (by decide +kernel) (by decide +kernel)
theorem tw_124 : Cond.classLink "AsmDeskLaw" 28 "java/util/NoSuchElementException" ∈ g_TB := g_tw (i := 499) (by decide +kernel) (by decide +kernel)
theorem tw_125 : Cond.classLink "AsmDeskLaw" 13 "java/lang/IllegalArgumentException" ∈ g_TB := g_tw (i := 189) (by decide +kernel) (by decide +kernel)
set_option maxRecDepth 20000 in
theorem cs_AsmDesk_85 : g_sV R_AsmDesk 85 R_Program y_Program_addressOf b_Program_addressOf 4 (some .int) 1 := ⟨⟨g_tw (i := 270) rfl (by decide +kernel), g_tw (i := 504) (by decide +kernel) (by decide +kernel), g_tw (i := 6) (by decide +kernel) (by decide +kernel), by decide +kernel, by decide +kernel, by decide +kernel⟩, g_tw (i := 268) (by decide +kernel) (by decide +kernel), g_tw (i := 269) (by decide +kernel) (by decide +kernel)⟩
set_option maxRecDepth 20000 in
theorem cs_AsmDesk_34 : g_sV R_AsmDesk 34 R_Assembler y_Asm_run b_Asm_run 2 (some .boolean) 1 := ⟨⟨g_tw (i := 197) rfl (by decide +kernel), g_tw (i := 194) (by decide +kernel) (by decide +kernel), g_tw (i := 3) (by decide +kernel) (by decide +kernel), by decide +kernel, by decide +kernel, by decide +kernel⟩, g_tw (i := 195) (by decide +kernel) (by decide +kernel), g_tw (i := 196) (by decide +kernel) (by decide +kernel)⟩
set_option maxRecDepth 20000 in
theorem cs_AsmDesk_38 : g_sV R_AsmDesk 38 R_Tape y_Tape_clear b_Tape_clear 1 none 0 := ⟨⟨g_tw (i := 392) rfl (by decide +kernel), g_tw (i := 389) (by decide +kernel) (by decide +kernel), g_tw (i := 2) (by decide +kernel) (by decide +kernel), by decide +kernel, by decide +kernel, by decide +kernel⟩, g_tw (i := 390) (by decide +kernel) (by decide +kernel), g_tw (i := 391) (by decide +kernel) (by decide +kernel)⟩
set_option maxRecDepth 20000 in
theorem cs_AsmDesk_48 : g_sV R_AsmDesk 48 R_Assembler y_Asm_exchange b_Asm_exchange 3 (some (.object "AsmDesk$Program")) 1 := ⟨⟨g_tw (i := 463) rfl (by decide +kernel), g_tw (i := 460) (by decide +kernel) (by decide +kernel), g_tw (i := 3) (by decide +kernel) (by decide +kernel), by decide +kernel, by decide +kernel, by decide +kernel⟩, g_tw (i := 461) (by decide +kernel) (by decide +kernel), g_tw (i := 462) (by decide +kernel) (by decide +kernel)⟩
set_option maxRecDepth 20000 in
theorem cs_Law_15 : g_sV R_Law 15 R_AsmDesk y_Desk_word b_Desk_word 2 (some .int) 1 := ⟨⟨g_tw (i := 471) rfl (by decide +kernel), g_tw (i := 468) (by decide +kernel) (by decide +kernel), g_tw (i := 1) (by decide +kernel) (by decide +kernel), by decide +kernel, by decide +kernel, by decide +kernel⟩, g_tw (i := 469) (by decide +kernel) (by decide +kernel), g_tw (i := 470) (by decide +kernel) (by decide +kernel)⟩
set_option maxRecDepth 20000 in
theorem cs_Law_21 : g_sV R_Law 21 R_AsmDesk y_Desk_start b_Desk_start 2 (some .int) 1 := ⟨⟨g_tw (i := 494) rfl (by decide +kernel), g_tw (i := 491) (by decide +kernel) (by decide +kernel), g_tw (i := 1) (by decide +kernel) (by decide +kernel), by decide +kernel, by decide +kernel, by decide +kernel⟩, g_tw (i := 492) (by decide +kernel) (by decide +kernel), g_tw (i := 493) (by decide +kernel) (by decide +kernel)⟩
set_option maxRecDepth 20000 in
theorem cs_Law_24 : g_sV R_Law 24 R_AsmDesk y_Desk_label b_Desk_label 4 (some .int) 1 := ⟨⟨g_tw (i := 503) rfl (by decide +kernel), g_tw (i := 500) (by decide +kernel) (by decide +kernel), g_tw (i := 1) (by decide +kernel) (by decide +kernel), by decide +kernel, by decide +kernel, by decide +kernel⟩, g_tw (i := 501) (by decide +kernel) (by decide +kernel), g_tw (i := 502) (by decide +kernel) (by decide +kernel)⟩
set_option maxRecDepth 20000 in
theorem cs_Law_7 : g_sV R_Law 7 R_AsmDesk y_Desk_assemble b_Desk_assemble 2 (some .int) 0 := ⟨⟨g_tw (i := 193) rfl (by decide +kernel), g_tw (i := 190) (by decide +kernel) (by decide +kernel), g_tw (i := 1) (by decide +kernel) (by decide +kernel), by decide +kernel, by decide +kernel, by decide +kernel⟩, g_tw (i := 191) (by decide +kernel) (by decide +kernel), g_tw (i := 192) (by decide +kernel) (by decide +kernel)⟩
