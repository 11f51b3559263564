/-! the common ground of the contracts: one list of words for all methods, a world before and behind, a call in one row -/
theorem g_fm {α β : Type} {f : α → Option β} {is : List α} {l : List β} (h : is.map f = l.map some) : is.filterMap f = l := by
  have e : is.filterMap f = (is.map f).filterMap id := by rw [List.filterMap_map]; rfl
  rw [e, h, List.filterMap_map]
  exact List.filterMap_some
theorem gz_a (x y : Int32) (h1 : -2147483648 ≤ x.toInt + y.toInt) (h2 : x.toInt + y.toInt < 2147483648) : (x + y).toInt = x.toInt + y.toInt := by
  rw [Int32.toInt_add]
  exact Int.bmod_eq_of_le (by omega) (by omega)
theorem gz_r (x : Int32) : -2147483648 ≤ x.toInt ∧ x.toInt < 2147483648 := ⟨Int32.le_toInt x, Int32.toInt_lt x⟩
theorem gz_m1 : (-1 : Int32).toInt = -1 := by decide
theorem gz_d (x : Int32) (h : -2147483648 < x.toInt) : (x + (-1)).toInt = x.toInt - 1 := by
  have r := gz_r x
  have e := gz_a x (-1) (by rw [gz_m1]; omega) (by rw [gz_m1]; omega)
  rw [e, gz_m1]
  omega
theorem gz_s (x y : Int32) (h1 : -2147483648 ≤ x.toInt - y.toInt) (h2 : x.toInt - y.toInt < 2147483648) : (x - y).toInt = x.toInt - y.toInt := by
  rw [Int32.toInt_sub]
  exact Int.bmod_eq_of_le (by omega) (by omega)
theorem g_good {w : Cond} (h : w ∈ g_TB) : GoodIn g_TB (w :: g_TB) := by
  have k : ∀ v ∈ g_TB, v ∈ g_TB ∧ ((v.onTables && v.keeps) = true ∨ ∃ ty, v = .arrayClass ty) := fun v hv => ⟨hv, good_of_word (List.mem_filter.mp hv).2⟩
  intro v hv
  rcases List.mem_cons.mp hv with rfl | hv
  · exact k _ h
  · exact k v hv
def g_Cx (p : Program) (s : State) (m : MethodId) (meth : Method) (c : Code) (cc : ByteArray) (nL : Nat) (ret : Option FieldType) (own : String) (args : Array Value) : Prop :=
  p.tables.exec = Jvm.exec ∧ c.code = cc ∧ c.maxLocals = nL ∧ meth.sig.returnType = ret ∧ s.vm.findClass own = some m.cls ∧ (∀ w ∈ g_TB, w.before args s = true) ∧ meth.locks = false
theorem g_start {p : Program} {l : Launch} {y : MethodName} {cc : ByteArray} {maxL : Nat} {ret : Option FieldType} {e : Env} {s : State} {m : MethodId} {args : Array Value} {below : List Frame} {meth : Method} {c : Code} {s₁ : State} {rm : Room} {own : String}
    (B : BodyLoose p l y (headSpec (.code y cc maxL ret :: g_TB) rm) cc maxL ret e s m args below meth c s₁) (hml : c.maxLocals = maxL) (ho : y.cls = own) : g_Cx p s m meth c cc maxL ret own args :=
  ⟨B.exec, B.bytes, hml, B.returns, by subst ho; exact findClass_of_methodNamed B.named, fun w h => atoms_spec (ws := .code y cc maxL ret :: g_TB) B.pre w (List.mem_cons_of_mem _ h), B.notSynchronized⟩
abbrev g_pre (dC : Nat → ClassId) (dI : Nat → Nat → Nat) (tys : List (ClassId × FieldType)) (sz : Nat) (ws : va_W) (X : State → Prop) (U : State) : Prop := U.heap.size = sz ∧ va_P (dC, dI) classes ws U.heap ∧ va_K (dC, dI) classes tys U ∧ va_D (fun _ => True) ws ∧ X U
abbrev g_post (dC : Nat → ClassId) (dI : Nat → Nat → Nat) (tys : List (ClassId × FieldType)) (A : Nat → Prop) (ws : va_W) (t : State) : Prop := va_P (dC, dI) classes ws t.heap ∧ va_K (dC, dI) classes tys t ∧ va_D A ws
def g_sB (own : String) (index : Nat) (y : MethodName) (bytes : ByteArray) (maxL : Nat) (ret : Option FieldType) (n : Nat) : Prop := Cond.code y bytes maxL ret ∈ g_TB ∧ Cond.methodLink own index y ∈ g_TB ∧ Cond.initialized y.cls ∈ g_TB ∧ y.cls ≠ "java/lang/invoke/MethodHandle" ∧ y.cls ≠ "java/lang/invoke/VarHandle" ∧ (parseMethodDescriptor y.desc).map (fun d => d.parameters.length) = some n
def g_sV (own : String) (index : Nat) (C : String) (y : MethodName) (bytes : ByteArray) (maxL : Nat) (ret : Option FieldType) (n : Nat) : Prop := g_sB own index y bytes maxL ret n ∧ Cond.instanceMethod y ∈ g_TB ∧ Cond.selects C y y ∈ g_TB
def g_sS (own : String) (index : Nat) (y : MethodName) (bytes : ByteArray) (maxL : Nat) (ret : Option FieldType) (n : Nat) : Prop := g_sB own index y bytes maxL ret n ∧ Cond.static y ∈ g_TB
/-- what a method asks of the state beside its world: it doesn't look at the frames -/
def g_B (X : State → Prop) : Prop := ∀ (a : Array Value) (U : State) (g : JFrame) (mk : MethodId), X U → X (U.calling g mk a)
/-- .. and it holds at a call: the heap is as it is now, the tables have been warmed -/
def g_X (s : State) (H : Heap) (X : State → Prop) : Prop := ∀ U : State, U.heap = H → s.WarmedH U.vm → X U
theorem g_tb : g_B (fun _ => True) := fun _ _ _ _ _ => trivial
theorem g_tx {s : State} {H : Heap} : g_X s H (fun _ => True) := fun _ _ _ => trivial
section GK
variable {p : Program} {l : Launch} {e : Env} {R : Room} {s : State} {m : MethodId} {args : Array Value} {below : List Frame} {meth : Method} {c : Code} {H : Heap} {locs : List Loc} {cells slots : Nat} {Q : State → Prop} {cc : ByteArray} {nL : Nat} {ret : Option FieldType} {own : String}
variable {pc : Nat} {ls : Array Slot} {rest st0 : List Value} {dC : Nat → ClassId} {dI : Nat → Nat → Nat} {tys : List (ClassId × FieldType)} {ws wc wr : va_W} {A : Nat → Prop} {H0 : Heap}
theorem g_cbn {y : MethodName} {bytes : ByteArray} {maxL : Nat} {ry : Option FieldType} {rm : Room} {index n mc ms : Nat} (C0 : g_Cx p s m meth c cc nL ret own args) (hs : g_sB own index y bytes maxL ry n) (hrm : (rm.cells, rm.slots) = (mc, ms)) (hR : rm.frames + 1 ≤ R.frames ∧ 8 + (maxL + 11) + rm.locals ≤ R.locals) :
    CallB R s args own index y bytes maxL ry (.code y bytes maxL ry :: g_TB) rm mc ms n := by
  obtain ⟨-, -, -, -, -, hts, -⟩ := C0
  obtain ⟨h1, h2, h3, h4, h5, h6⟩ := hs
  exact callB_of n hts (g_good h1) rfl (congrArg Prod.fst hrm) (congrArg Prod.snd hrm) (hts _ h3) (hts _ h2) ⟨h4, h5, h6⟩ hR
theorem g_cb {y : MethodName} {bytes : ByteArray} {maxL : Nat} {ry : Option FieldType} {rm : Room} {index n : Nat} (C0 : g_Cx p s m meth c cc nL ret own args) (hs : g_sB own index y bytes maxL ry n) (hrm : (rm.cells, rm.slots) = (0, 0)) (hR : rm.frames + 1 ≤ R.frames ∧ 8 + (maxL + 11) + rm.locals ≤ R.locals) :
    CallB R s args own index y bytes maxL ry (.code y bytes maxL ry :: g_TB) rm 0 0 n := by
  obtain ⟨-, -, -, -, -, hts, -⟩ := C0
  obtain ⟨h1, h2, h3, h4, h5, h6⟩ := hs
  exact callB_of n hts (g_good h1) rfl (congrArg Prod.fst hrm) (congrArg Prod.snd hrm) (hts _ h3) (hts _ h2) ⟨h4, h5, h6⟩ hR
theorem g_blind {sz : Nat} {av : List Value} {X : State → Prop} (hXb : g_B X) : FrameBlind (va_Pc av (g_pre dC dI tys sz wc X)) := fun a U g mk q => by
  obtain ⟨q0, q1, qP, qK, qD, qX⟩ := q
  exact ⟨q0, q1, qP, va_K.moved (u := U) (U := U.calling g mk a) (Vm.Alike.refl U.vm) qK, qD, hXb a U g mk qX⟩
theorem g_pr {av : List Value} (hK : va_K (dC, dI) classes tys s) (hP : va_P (dC, dI) classes ws H) (hD : va_D A ws) (isC : List Nat) (hC : isC.map (fun i => ws[i]?) = wc.map some) (hn : va_nd isC = true) {X : State → Prop} (hXb : g_B X) (hX : g_X s H X) : PreS s H (va_Pc av (g_pre dC dI tys H.size wc X)) av :=
  ⟨g_blind hXb, fun U hU hW => ⟨rfl, by rw [hU], by rw [hU]; exact hP.sub isC (g_fm hC), va_K.moved hW.alike hK, (hD.sub isC hn hC).weaken (fun _ _ _ _ => trivial), hX U hU hW⟩⟩
theorem gr_S {y : MethodName} {bytes : ByteArray} {maxL : Nat} {ry : Option FieldType} {rm : Room} {index n : Nat} {X : State → Prop} {As : List Value} {Qc : Array Value → State → Outcome → State → Prop} {free : Addr → Prop}
    (C0 : g_Cx p s m meth c cc nL ret own args) (hM : Met l y (.code y bytes maxL ry :: g_TB) rm (va_Pc As (g_pre dC dI tys H.size wc X)) Qc 0 0 free) (hs : g_sS own index y bytes maxL ry n) (hK : va_K (dC, dI) classes tys s) (hP : va_P (dC, dI) classes ws H) (hD : va_D A ws) (isC : List Nat) (hC : isC.map (fun i => ws[i]?) = wc.map some) (hnd : va_nd isC = true) (hXb : g_B X) (hX : g_X s H X)
    (hn : As.length = n) (hrm : (rm.cells, rm.slots) = (0, 0)) (hsize : ls.size = nL) (hstack : st0 = As.reverse ++ rest) (hW : 2 * (F0 m pc ls st0).monitorRoom + (rest.map fun v => v.category).sum ≤ 8) (hdg : decode cc pc = .ok (.invokestatic index, 3)) (hR : rm.frames + 1 ≤ R.frames ∧ 8 + (maxL + 11) + rm.locals ≤ R.locals) (hf : cells ≤ R.cells ∧ slots ≤ R.slots) :
    va_Run p l e R s m args below meth c H locs cells slots 0 0 (F0 m pc ls st0) rest (Qc As.toArray) free := by
  have C1 := C0
  obtain ⟨hx, hb, hml, -, hown, hts, -⟩ := C0
  exact va_runS (Ts := g_TB) ⟨hx, hb, hml, hown, hts⟩ hM ⟨g_cb C1 hs.1 hrm hR, hts _ hs.2⟩ (g_pr hK hP hD isC hC hnd hXb hX) rfl hn hsize hstack hW hdg hf
theorem gr_V {y : MethodName} {bytes : ByteArray} {maxL : Nat} {ry : Option FieldType} {rm : Room} {index n : Nat} {X : State → Prop} {As : List Value} {b : Nat} {C : String} {T : u_T} {N ci k : Nat} {fs : List Value} {Qc : Array Value → State → Outcome → State → Prop} {free : Addr → Prop}
    (C0 : g_Cx p s m meth c cc nL ret own args) (hM : Met l y (.code y bytes maxL ry :: g_TB) rm (va_Pc (.ref b :: As) (g_pre dC dI tys H.size wc X)) Qc 0 0 free) (hs : g_sV own index C y bytes maxL ry n) (hK : va_K (dC, dI) classes tys s) (hP : va_P (dC, dI) classes ws H) (hD : va_D A ws) (isC : List Nat) (hC : isC.map (fun i => ws[i]?) = wc.map some) (hnd : va_nd isC = true) (hXb : g_B X) (hX : g_X s H X)
    (hc : classes[ci]? = some (C, T, N)) (he : wc[k]? = some (b, .inr (ci, fs))) (hn : As.length = n) (hrm : (rm.cells, rm.slots) = (0, 0)) (hsize : ls.size = nL) (hstack : st0 = As.reverse ++ .ref b :: rest) (hW : 2 * (F0 m pc ls st0).monitorRoom + (rest.map fun v => v.category).sum ≤ 8) (hdg : decode cc pc = .ok (.invokevirtual index, 3)) (hR : rm.frames + 1 ≤ R.frames ∧ 8 + (maxL + 11) + rm.locals ≤ R.locals) (hf : cells ≤ R.cells ∧ slots ≤ R.slots) :
    va_Run p l e R s m args below meth c H locs cells slots 0 0 (F0 m pc ls st0) rest (Qc (Value.ref b :: As).toArray) free := by
  have C1 := C0
  obtain ⟨hx, hb, hml, -, hown, hts, -⟩ := C0
  have hp := g_pr (av := .ref b :: As) hK hP hD isC hC hnd hXb hX
  exact va_runV (C := C) (Ts := g_TB) ⟨hx, hb, hml, hown, hts⟩ hM ⟨g_cb C1 hs.1 hrm hR, hts _ hs.2.1, hts _ hs.2.2⟩ ⟨hp.1, va_recv hK (hP.sub isC (g_fm hC)) hc he, hp.2⟩ rfl hn hsize hstack hW hdg hf
theorem gr_I {y : MethodName} {bytes : ByteArray} {maxL mc ms : Nat} {rm : Room} {index n : Nat} {X : State → Prop} {As : List Value} {b : Nat} {Qc : Array Value → State → Outcome → State → Prop} {free : Addr → Prop}
    (C0 : g_Cx p s m meth c cc nL ret own args) (hM : Met l y (.code y bytes maxL none :: g_TB) rm (va_Pc (.ref b :: As) (g_pre dC dI tys H.size wc X)) Qc mc ms free) (hs : g_sB own index y bytes maxL none n ∧ Cond.instanceMethod y ∈ g_TB ∧ y.name = "<init>") (hK : va_K (dC, dI) classes tys s) (hP : va_P (dC, dI) classes ws H) (hD : va_D A ws) (isC : List Nat) (hC : isC.map (fun i => ws[i]?) = wc.map some) (hnd : va_nd isC = true) (hXb : g_B X) (hX : g_X s H X)
    (hn : As.length = n) (hrm : (rm.cells, rm.slots) = (mc, ms)) (hsize : ls.size = nL) (hstack : st0 = As.reverse ++ .ref b :: rest) (hW : 2 * (F0 m pc ls st0).monitorRoom + (rest.map fun v => v.category).sum ≤ 8) (hdg : decode cc pc = .ok (.invokespecial index, 3)) (hR : rm.frames + 1 ≤ R.frames ∧ 8 + (maxL + 11) + rm.locals ≤ R.locals) (hf : cells + mc ≤ R.cells ∧ slots + ms ≤ R.slots) :
    va_Run p l e R s m args below meth c H locs cells slots mc ms (F0 m pc ls st0) rest (Qc (Value.ref b :: As).toArray) free := by
  have C1 := C0
  obtain ⟨hx, hb, hml, -, hown, hts, -⟩ := C0
  exact va_runI (Ts := g_TB) ⟨hx, hb, hml, hown, hts⟩ hM ⟨g_cbn C1 hs.1 hrm hR, hs.2.2, hts _ hs.2.1⟩ (g_pr hK hP hD isC hC hnd hXb hX) rfl hn hsize hstack hW hdg hf
def g_sN (y : MethodName) (bytes : ByteArray) (maxL : Nat) (ret : Option FieldType) (n : Nat) : Prop := Cond.code y bytes maxL ret ∈ g_TB ∧ Cond.initialized y.cls ∈ g_TB ∧ (y.cls ≠ "java/lang/invoke/MethodHandle" ∧ y.cls ≠ "java/lang/invoke/VarHandle" ∧ (parseMethodDescriptor y.desc).map (fun d => d.parameters.length) = some n) ∧ Cond.instanceMethod y ∈ g_TB ∧ y.name = "<init>"
theorem gr_IN {y : MethodName} {bytes : ByteArray} {maxL mc ms : Nat} {rm : Room} {index n : Nat} {host : String} {X : State → Prop} {As : List Value} {b : Nat} {Qc : Array Value → State → Outcome → State → Prop} {free : Addr → Prop}
    (C0 : g_Cx p s m meth c cc nL ret own args) (hM : Met l y (.code y bytes maxL none :: g_TB) rm (va_Pc (.ref b :: As) (g_pre dC dI tys H.size wc X)) Qc mc ms free) (hs : g_sN y bytes maxL none n) (hl : va_Nw (.methodLinkNest own index y host) s) (hK : va_K (dC, dI) classes tys s) (hP : va_P (dC, dI) classes ws H) (hD : va_D A ws) (isC : List Nat) (hC : isC.map (fun i => ws[i]?) = wc.map some) (hnd : va_nd isC = true) (hXb : g_B X) (hX : g_X s H X)
    (hn : As.length = n) (hrm : (rm.cells, rm.slots) = (mc, ms)) (hsize : ls.size = nL) (hstack : st0 = As.reverse ++ .ref b :: rest) (hW : 2 * (F0 m pc ls st0).monitorRoom + (rest.map fun v => v.category).sum ≤ 8) (hdg : decode cc pc = .ok (.invokespecial index, 3)) (hR : rm.frames + 1 ≤ R.frames ∧ 8 + (maxL + 11) + rm.locals ≤ R.locals) (hf : cells + mc ≤ R.cells ∧ slots + ms ≤ R.slots) :
    va_Run p l e R s m args below meth c H locs cells slots mc ms (F0 m pc ls st0) rest (Qc (Value.ref b :: As).toArray) free := by
  obtain ⟨hx, hb, hml, -, hown, hts, -⟩ := C0
  obtain ⟨h1, h2, h3, h4, h5⟩ := hs
  exact va_runIN (host := host) (Ts := g_TB) ⟨hx, hb, hml, hown, hts⟩ hM ⟨va_cnB n hts (g_good h1) rfl (congrArg Prod.fst hrm) (congrArg Prod.snd hrm) hl (hts _ h2) h3 hR, h5, hts _ h4⟩ (g_pr hK hP hD isC hC hnd hXb hX) rfl hn hsize hstack hW hdg hf
theorem gw_newa (hexec : p.tables.exec = Jvm.exec) (hb : c.code = cc) {atype : ArrayType} (harr : (Cond.arrayClass (newarray.typeOf atype)).before args s = true) {ty : FieldType} (hty : newarray.typeOf atype = ty) (hob : ∀ C, ty ≠ .object C) (hK : va_K (dC, dI) classes tys s) (hP : va_P (dC, dI) classes ws H) (hD : va_D A ws) (hS : va_S A H0 H locs) (hA : ∀ q, H0.size ≤ q → A q) {cA0 : ClassId} (t0 : Nat) (ht : tys[t0]? = some (cA0, ty))
    {n : Int32} {N' : Nat} {a0 : vp_A} (ha : ∀ cA : ClassId, vp_cell cA a0 = arrV cA N' (fun _ => defaultValue ty)) (hn : ¬ n < 0) (hN : n.toNatClampNeg = N') (hbytes : N' * componentBytes ty ≤ 536870912) (hcells : cells + 1 ≤ R.cells) (hslots : slots + N' ≤ R.slots) (hdg : decode cc pc = .ok (.newarray atype, 2))
    (kk : ∀ (q : Nat) (H1 : Heap), va_P (dC, dI) classes (ws ++ [(q, .inl (cA0, a0))]) H1 → va_D A (ws ++ [(q, .inl (cA0, a0))]) → va_S A H0 H1 locs →
      W p l e R s m args below meth c H1 locs (cells + 1) (slots + N') Q (F0 m (pc + 2) ls (.ref q :: rest))) : W p l e R s m args below meth c H locs cells slots Q (F0 m pc ls (.int n :: rest)) := by
  refine va_newa hexec hb harr hty hK hP hD hS hA ha hn hN hbytes hcells hslots hdg (fun q cA H1 hK1 hP1 hD1 hS1 => ?_)
  have r0 := (hK.2 t0 _ ht).2
  have r1 := (hK1.2 tys.length (cA, ty) (by simp)).2
  have e : cA = cA0 := by
    cases ty with
    | object C => exact absurd rfl (hob C)
    | _ => exact Option.some.inj (Eq.trans (Eq.symm r1) r0)
  subst e
  exact kk q H1 hP1 hD1 hS1
variable {S : Type} {B can : S → va_W} {a : Array Value} {isC isR perm : List Nat}
theorem gk_i {post : Int32 → S → Prop} (hr : va_Run p l e R s m args below meth c H locs cells slots 0 0 (F0 m pc ls st0) rest (va_Qi post (fun u => g_post dC dI tys (va_A wc H.size) (B u)) (va_A wc H.size) a) (va_A wc H.size))
    (hP : va_P (dC, dI) classes ws H) (hD : va_D A ws) (hS : va_S A H0 H locs) (hA : ∀ q, H0.size ≤ q → A q) (hC : isC.map (fun i => ws[i]?) = wc.map some) (hR : isR.map (fun i => ws[i]?) = wr.map some) (hn : va_nd isR = true) (hdis : ∀ i ∈ isR, i ∉ isC) (hp : va_nd perm = true) (hcan : ∀ u, perm.map (fun i => (wr ++ B u)[i]?) = (can u).map some)
    (kk : ∀ (r : Int32) (u : S) (H1 : Heap) (locs1 : List Loc), post r u → va_P (dC, dI) classes (can u) H1 → va_D A (can u) → va_S A H0 H1 locs1 → W p l e R s m args below meth c H1 locs1 cells slots Q (F0 m (pc + 3) ls (.int r :: rest))) : W p l e R s m args below meth c H locs cells slots Q (F0 m pc ls st0) := by
  have hF := va_free hD hS hA isC hC
  refine va_calli hr hS (fun q _ h => hF q h) hF (fun r u t H1 locs1 ht hvm hw hB hz hk hS1 => ?_)
  obtain ⟨hP1, hK1, hD1⟩ := hB
  rw [ht] at hP1
  obtain ⟨hP2, hD2⟩ := va_join hP hD isC isR hC hR hn hdis hk hF hP1 hD1
  exact kk r u H1 locs1 hw (hP2.sub perm (g_fm (hcan u))) (hD2.sub perm hp (hcan u)) hS1
theorem gk_l {post : Int64 → S → Prop} (hr : va_Run p l e R s m args below meth c H locs cells slots 0 0 (F0 m pc ls st0) rest (va_Ql post (fun u => g_post dC dI tys (va_A wc H.size) (B u)) (va_A wc H.size) a) (va_A wc H.size))
    (hP : va_P (dC, dI) classes ws H) (hD : va_D A ws) (hS : va_S A H0 H locs) (hA : ∀ q, H0.size ≤ q → A q) (hC : isC.map (fun i => ws[i]?) = wc.map some) (hR : isR.map (fun i => ws[i]?) = wr.map some) (hn : va_nd isR = true) (hdis : ∀ i ∈ isR, i ∉ isC) (hp : va_nd perm = true) (hcan : ∀ u, perm.map (fun i => (wr ++ B u)[i]?) = (can u).map some)
    (kk : ∀ (r : Int64) (u : S) (H1 : Heap) (locs1 : List Loc), post r u → va_P (dC, dI) classes (can u) H1 → va_D A (can u) → va_S A H0 H1 locs1 → W p l e R s m args below meth c H1 locs1 cells slots Q (F0 m (pc + 3) ls (.long r :: rest))) : W p l e R s m args below meth c H locs cells slots Q (F0 m pc ls st0) := by
  have hF := va_free hD hS hA isC hC
  refine va_calll hr hS (fun q _ h => hF q h) hF (fun r u t H1 locs1 ht hvm hw hB hz hk hS1 => ?_)
  obtain ⟨hP1, hK1, hD1⟩ := hB
  rw [ht] at hP1
  obtain ⟨hP2, hD2⟩ := va_join hP hD isC isR hC hR hn hdis hk hF hP1 hD1
  exact kk r u H1 locs1 hw (hP2.sub perm (g_fm (hcan u))) (hD2.sub perm hp (hcan u)) hS1
theorem gk_v {post : S → Prop} (hr : va_Run p l e R s m args below meth c H locs cells slots 0 0 (F0 m pc ls st0) rest (va_Qv post (fun u => g_post dC dI tys (va_A wc H.size) (B u)) (va_A wc H.size) a) (va_A wc H.size))
    (hP : va_P (dC, dI) classes ws H) (hD : va_D A ws) (hS : va_S A H0 H locs) (hA : ∀ q, H0.size ≤ q → A q) (hC : isC.map (fun i => ws[i]?) = wc.map some) (hR : isR.map (fun i => ws[i]?) = wr.map some) (hn : va_nd isR = true) (hdis : ∀ i ∈ isR, i ∉ isC) (hp : va_nd perm = true) (hcan : ∀ u, perm.map (fun i => (wr ++ B u)[i]?) = (can u).map some)
    (kk : ∀ (u : S) (H1 : Heap) (locs1 : List Loc), post u → va_P (dC, dI) classes (can u) H1 → va_D A (can u) → va_S A H0 H1 locs1 → W p l e R s m args below meth c H1 locs1 cells slots Q (F0 m (pc + 3) ls rest)) : W p l e R s m args below meth c H locs cells slots Q (F0 m pc ls st0) := by
  have hF := va_free hD hS hA isC hC
  refine va_callv hr hS (fun q _ h => hF q h) hF (fun u t H1 locs1 ht hvm hw hB hz hk hS1 => ?_)
  obtain ⟨hP1, hK1, hD1⟩ := hB
  rw [ht] at hP1
  obtain ⟨hP2, hD2⟩ := va_join hP hD isC isR hC hR hn hdis hk hF hP1 hD1
  exact kk u H1 locs1 hw (hP2.sub perm (g_fm (hcan u))) (hD2.sub perm hp (hcan u)) hS1
theorem gk_n {mc ms : Nat} {post : S → Prop} (hr : va_Run p l e R s m args below meth c H locs cells slots mc ms (F0 m pc ls st0) rest (va_Qv post (fun u => g_post dC dI tys (va_A wc H.size) (B u)) (va_A wc H.size) a) (va_A wc H.size))
    (hP : va_P (dC, dI) classes ws H) (hD : va_D A ws) (hS : va_S A H0 H locs) (hA : ∀ q, H0.size ≤ q → A q) (hC : isC.map (fun i => ws[i]?) = wc.map some) (hR : isR.map (fun i => ws[i]?) = wr.map some) (hn : va_nd isR = true) (hdis : ∀ i ∈ isR, i ∉ isC) (hp : va_nd perm = true) (hcan : ∀ u, perm.map (fun i => (wr ++ B u)[i]?) = (can u).map some)
    (kk : ∀ (u : S) (H1 : Heap) (locs1 : List Loc), post u → va_P (dC, dI) classes (can u) H1 → va_D A (can u) → va_S A H0 H1 locs1 → W p l e R s m args below meth c H1 locs1 (cells + mc) (slots + ms) Q (F0 m (pc + 3) ls rest)) : W p l e R s m args below meth c H locs cells slots Q (F0 m pc ls st0) := by
  have hF := va_free hD hS hA isC hC
  refine va_callv hr hS (fun q _ h => hF q h) hF (fun u t H1 locs1 ht hvm hw hB hz hk hS1 => ?_)
  obtain ⟨hP1, hK1, hD1⟩ := hB
  rw [ht] at hP1
  obtain ⟨hP2, hD2⟩ := va_join hP hD isC isR hC hR hn hdis hk hF hP1 hD1
  exact kk u H1 locs1 hw (hP2.sub perm (g_fm (hcan u))) (hD2.sub perm hp (hcan u)) hS1
end GK
