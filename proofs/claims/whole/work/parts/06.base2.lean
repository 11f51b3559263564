def g_splL : List Int64 := [1751215220, 1633969257, 6382692, 7566690, 6385252, 28530, 7892850, 7564404, 7564396, 7565921, 7107945, 27767, 29559, 6448497, 6450789, 6450292, 6971756, 1784769650, 1937203568, 1717658724, 1718444408, 439788397413, 2003792484, 7303783, 1668248165]
def g_spl (i : Nat) : Int64 := g_splL.getD i 0
def g_numL : List Int32 := [0, 1, 2, 3, 4, 5, 6, 7, 8, 9, 10, 11, 12, 13, 14, 15, 16, 17, 18, 19, 20, 21, 0, 0, 0]
def g_num (i : Nat) : Int32 := g_numL.getD i 0
def g_lstL : List Int32 := [(-2048), (-2048), (-2048), (-2048), (-2048), (-2048), (-2048), (-2048), (-2048), (-2048), (-2048), (-2048), (-2048), (-2048), (-2048), (-2048), (-2048), (-2048), (-2048), (-2048), (-2048), (-2048), (-2147483648), 0, 0]
def g_lst (i : Nat) : Int32 := g_lstL.getD i 0
def g_mstL : List Int32 := [2047, 2047, 2047, 2047, 2047, 2047, 2047, 2047, 2047, 2047, 2047, 2047, 2047, 2047, 2047, 2047, 2047, 2047, 2047, 2047, 2047, 2047, 2147483647, 255, 3]
def g_mst (i : Nat) : Int32 := g_mstL.getD i 0
def g_frmL : List Nat := [0, 1, 2, 2, 2, 2, 2, 2, 2, 2, 3, 4, 5, 6, 6, 6, 7, 1, 8, 8, 8, 0, 9, 10, 10]
def g_frm (i : Nat) : Nat := g_frmL.getD i 0
def g_nst : Nat := 11
def g_len : List Nat := [0, 5, 5, 3, 6, 6, 5, 3, 7, 1, 1]
def g_byt : List (List Int32) := [[], [100, 44, 97, 44, 110], [100, 44, 97, 44, 98], [100, 44, 110], [100, 44, 110, 40, 97, 41], [98, 44, 110, 40, 97, 41], [97, 44, 98, 44, 111], [100, 44, 111], [100, 44, 98, 44, 40, 97, 41], [110], [117]]
theorem g_frm_lt {i : Nat} (h : i < 25) : g_frm i < g_nst := by
  have k : ∀ i, i < 25 → g_frm i < g_nst := by decide
  exact k i h
/-! the constants of the enum and their texts: what holds of them at the start and stays -/
theorem gz_cl {x : Int32} {N : Nat} (h0 : 0 ≤ x.toInt) (h1 : x.toInt < N) : x.toNatClampNeg < N := by
  have e : x.toNatClampNeg = x.toInt.toNat := rfl
  omega
def g_St (ad : Nat → Nat) (tA : Nat) (adK adV : Nat → Nat) (A : Nat → Prop) (U : State) (H : Heap) : Prop :=
  va_T (.object "AsmDesk$Order") tA 25 (fun j => .ref (ad j)) A U H ∧ va_Z "AsmDesk$Order" "ORG" "LAsmDesk$Order;" (.ref (ad 23)) A U H ∧ va_Z "AsmDesk$Order" "CORE" "LAsmDesk$Order;" (.ref (ad 24)) A U H ∧ va_Z "AsmDesk$Order" "WORD" "LAsmDesk$Order;" (.ref (ad 22)) A U H ∧ va_Z "java/lang/String" "COMPACT_STRINGS" "Z" (.int 1) A U H
  ∧ (∀ i, i < 25 → va_O "AsmDesk$Order" (ad i) A U H) ∧ va_Ef 25 "AsmDesk$Order" "spelling" "J" (fun i => .long (g_spl i)) ad A U H ∧ va_Ef 25 "AsmDesk$Order" "number" "I" (fun i => .int (g_num i)) ad A U H ∧ va_Ef 25 "AsmDesk$Order" "least" "I" (fun i => .int (g_lst i)) ad A U H ∧ va_Ef 25 "AsmDesk$Order" "most" "I" (fun i => .int (g_mst i)) ad A U H ∧ va_Ef 25 "AsmDesk$Order" "form" "Ljava/lang/String;" (fun i => .ref (adK (g_frm i))) ad A U H
  ∧ vk_S g_nst g_len g_byt adK adV A U H ∧ (∀ i j : Nat, i < 25 → j < 25 → ad i = ad j → i = j) ∧ va_Zq "jdk/internal/util/Preconditions" "SIOOBE_FORMATTER" "Ljava/util/function/BiFunction;" A U H ∧ va_Z "AsmDesk$Order" "ALL" "[LAsmDesk$Order;" (.ref tA) A U H
theorem g_St.moved {ad : Nat → Nat} {tA : Nat} {adK adV : Nat → Nat} {A : Nat → Prop} {u U : State} {H : Heap} (hvm : u.vm.Alike U.vm) (h : g_St ad tA adK adV A u H) : g_St ad tA adK adV A U H := by
  obtain ⟨h1, h2, h3, h4, h5, h6, h7, h8, h9, h10, h11, h12, h13, h14, h15⟩ := h
  exact ⟨va_T.moved hvm h1, va_Z.moved hvm h2, va_Z.moved hvm h3, va_Z.moved hvm h4, va_Z.moved hvm h5, fun i hi => va_O.moved hvm (h6 i hi), va_Ef.moved hvm h7, va_Ef.moved hvm h8, va_Ef.moved hvm h9, va_Ef.moved hvm h10, va_Ef.moved hvm h11, vk_S.moved hvm h12, h13, va_Zq.moved hvm h14, va_Z.moved hvm h15⟩
theorem g_St.kept {ad : Nat → Nat} {tA : Nat} {adK adV : Nat → Nat} {A : Nat → Prop} {U : State} {H H1 : Heap} (h : g_St ad tA adK adV A U H) (hq : ∀ a : Nat, a < H.size → ¬ A a → H1[a]? = H[a]?) : g_St ad tA adK adV A U H1 := by
  obtain ⟨h1, h2, h3, h4, h5, h6, h7, h8, h9, h10, h11, h12, h13, h14, h15⟩ := h
  exact ⟨h1.kept hq, h2.kept hq, h3.kept hq, h4.kept hq, h5.kept hq, fun i hi => (h6 i hi).kept hq, h7.kept hq, h8.kept hq, h9.kept hq, h10.kept hq, h11.kept hq, h12.kept hq, h13, h14.kept hq, h15.kept hq⟩
theorem g_St.narrow {ad : Nat → Nat} {tA : Nat} {adK adV : Nat → Nat} {A B : Nat → Prop} {U : State} {H : Heap} (h : g_St ad tA adK adV A U H) (hAB : ∀ q, B q → A q) : g_St ad tA adK adV B U H := by
  obtain ⟨h1, h2, h3, h4, h5, h6, h7, h8, h9, h10, h11, h12, h13, h14, h15⟩ := h
  exact ⟨h1.narrow hAB, h2.narrow hAB, h3.narrow hAB, h4.narrow hAB, h5.narrow hAB, fun i hi => (h6 i hi).narrow hAB, h7.narrow hAB, h8.narrow hAB, h9.narrow hAB, h10.narrow hAB, h11.narrow hAB, h12.narrow hAB, h13, h14.narrow hAB, h15.narrow hAB⟩
theorem g_Sb {ad : Nat → Nat} {tA : Nat} {adK adV : Nat → Nat} {A : Nat → Prop} : g_B (fun U => g_St ad tA adK adV A U U.heap) := fun a U g mk q => g_St.moved (u := U) (U := U.calling g mk a) (Vm.Alike.refl U.vm) q
theorem g_Sx {s : State} {H : Heap} {locs : List Loc} {ad : Nat → Nat} {tA : Nat} {adK adV : Nat → Nat} {A A1 : Nat → Prop} (hX : g_St ad tA adK adV A s s.heap) (hS : va_S A s.heap H locs) (hF : ∀ q, A1 q → A q) : g_X s H (fun U => g_St ad tA adK adV A1 U U.heap) := fun U hU hW => by
  show g_St ad tA adK adV A1 U U.heap
  rw [hU]
  exact g_St.moved hW.alike ((hX.kept hS.2.1).narrow hF)
theorem g_rcO {s : State} {H : Heap} {locs : List Loc} {A : Nat → Prop} {E : String} {t : Nat} (h : va_O E t A s s.heap) (hS : va_S A s.heap H locs) : ∃ cell : Cell, H[t]? = some cell ∧ cell.vm.isStatics = false ∧ s.vm.findClass E = some cell.cls := by
  obtain ⟨cell, h1, h2, h3, -⟩ := h.kept hS.2.1
  exact ⟨cell, h1, h2, h3⟩
theorem g_rcE {s : State} {H : Heap} {locs : List Loc} {ad : Nat → Nat} {tA : Nat} {adK adV : Nat → Nat} {A : Nat → Prop} (hX : g_St ad tA adK adV A s s.heap) (hS : va_S A s.heap H locs) {i : Nat} (hi : i < 25) : ∃ cell : Cell, H[ad i]? = some cell ∧ cell.vm.isStatics = false ∧ s.vm.findClass "AsmDesk$Order" = some cell.cls := g_rcO (hX.2.2.2.2.2.1 i hi) hS
theorem g_rcK {s : State} {H : Heap} {locs : List Loc} {ad : Nat → Nat} {tA : Nat} {adK adV : Nat → Nat} {A : Nat → Prop} (hX : g_St ad tA adK adV A s s.heap) (hS : va_S A s.heap H locs) {i : Nat} (hi : i < g_nst) : ∃ cell : Cell, H[adK i]? = some cell ∧ cell.vm.isStatics = false ∧ s.vm.findClass "java/lang/String" = some cell.cls := g_rcO (hX.2.2.2.2.2.2.2.2.2.2.2.1.1 i hi).1 hS
section GT
variable {p : Program} {l : Launch} {e : Env} {R : Room} {s : State} {m : MethodId} {args : Array Value} {below : List Frame} {meth : Method} {c : Code} {H : Heap} {locs : List Loc} {cells slots : Nat} {Q : State → Prop} {cc : ByteArray} {pc : Nat} {ls : Array Slot} {rest : List Value} {A : Nat → Prop}
theorem gt_aald {E : String} {t N : Nat} {f : Nat → Value} (hexec : p.tables.exec = Jvm.exec) (hb : c.code = cc) (hT : va_T (.object E) t N f A s s.heap) (hS : va_S A s.heap H locs) {i : Int32} (hin : vp_in i N) (hdg : decode cc pc = .ok (.aaload, 1))
    (kk : W p l e R s m args below meth c H locs cells slots Q (F0 m (pc + 1) ls (f i.toNatClampNeg :: rest))) : W p l e R s m args below meth c H locs cells slots Q (F0 m pc ls (.int i :: .ref t :: rest)) := by
  obtain ⟨cell, h1, h2, h3, h4, h5, h6, h7⟩ := hT
  have hlt : i.toNatClampNeg < N := Nat.not_le.mp fun q => hin (Or.inr q)
  refine W.aald (v := f i.toNatClampNeg) (ty := .object E) hexec hb (by rw [hS.2.1 t (Array.getElem?_eq_some_iff.mp h1).1 h7]; exact h1) h2 rfl h3 (fun q => ?_) (h6 _ hlt) rfl rfl hdg kk
  rcases q with q | q
  · exact hin (Or.inl q)
  · omega
end GT
section GE
variable {p : Program} {l : Launch} {e : Env} {R : Room} {s : State} {m : MethodId} {args : Array Value} {below : List Frame} {meth : Method} {c : Code} {H : Heap} {locs : List Loc} {cells slots : Nat} {Q : State → Prop} {cc : ByteArray} {nL : Nat} {ret : Option FieldType} {own : String}
variable {pc : Nat} {ls : Array Slot} {rest st0 : List Value} {dC : Nat → ClassId} {dI : Nat → Nat → Nat} {tys : List (ClassId × FieldType)} {ws wc wr : va_W} {A : Nat → Prop} {H0 : Heap}
theorem gr_E {y : MethodName} {bytes : ByteArray} {maxL : Nat} {ry : Option FieldType} {rm : Room} {index n : Nat} {X : State → Prop} {As : List Value} {b : Nat} {C : String} {Qc : Array Value → State → Outcome → State → Prop} {free : Addr → Prop}
    (C0 : g_Cx p s m meth c cc nL ret own args) (hM : Met l y (.code y bytes maxL ry :: g_TB) rm (va_Pc (.ref b :: As) (g_pre dC dI tys H.size wc X)) Qc 0 0 free) (hs : g_sV own index C y bytes maxL ry n) (hK : va_K (dC, dI) classes tys s) (hP : va_P (dC, dI) classes ws H) (hD : va_D A ws) (isC : List Nat) (hC : isC.map (fun i => ws[i]?) = wc.map some) (hnd : va_nd isC = true) (hXb : g_B X) (hX : g_X s H X)
    (hrc : ∃ cell : Cell, H[b]? = some cell ∧ cell.vm.isStatics = false ∧ s.vm.findClass C = some cell.cls) (hn : As.length = n) (hrm : (rm.cells, rm.slots) = (0, 0)) (hsize : ls.size = nL) (hstack : st0 = As.reverse ++ .ref b :: rest) (hW : 2 * (F0 m pc ls st0).monitorRoom + (rest.map fun v => v.category).sum ≤ 8) (hdg : decode cc pc = .ok (.invokevirtual index, 3)) (hR : rm.frames + 1 ≤ R.frames ∧ 8 + (maxL + 11) + rm.locals ≤ R.locals) (hf : cells ≤ R.cells ∧ slots ≤ R.slots) :
    va_Run p l e R s m args below meth c H locs cells slots 0 0 (F0 m pc ls st0) rest (Qc (Value.ref b :: As).toArray) free := by
  have C1 := C0
  obtain ⟨hx, hb, hml, -, hown, hts, -⟩ := C0
  have hp := g_pr (av := .ref b :: As) hK hP hD isC hC hnd hXb hX
  exact va_runV (C := C) (Ts := g_TB) ⟨hx, hb, hml, hown, hts⟩ hM ⟨g_cb C1 hs.1 hrm hR, hts _ hs.2.1, hts _ hs.2.2⟩ ⟨hp.1, hrc, hp.2⟩ rfl hn hsize hstack hW hdg hf
variable {S : Type} {B can : S → va_W} {a : Array Value} {isC isR perm : List Nat}
theorem gk_e {ad : Nat → Nat} {post : Option Nat → S → Prop} (hr : va_Run p l e R s m args below meth c H locs cells slots 0 0 (F0 m pc ls st0) rest (va_Qe ad post (fun u => g_post dC dI tys (va_A wc H.size) (B u)) (va_A wc H.size) a) (va_A wc H.size))
    (hP : va_P (dC, dI) classes ws H) (hD : va_D A ws) (hS : va_S A H0 H locs) (hA : ∀ q, H0.size ≤ q → A q) (hC : isC.map (fun i => ws[i]?) = wc.map some) (hR : isR.map (fun i => ws[i]?) = wr.map some) (hn : va_nd isR = true) (hdis : ∀ i ∈ isR, i ∉ isC) (hp : va_nd perm = true) (hcan : ∀ u, perm.map (fun i => (wr ++ B u)[i]?) = (can u).map some)
    (kk : ∀ (r : Option Nat) (u : S) (H1 : Heap) (locs1 : List Loc), post r u → va_P (dC, dI) classes (can u) H1 → va_D A (can u) → va_S A H0 H1 locs1 → W p l e R s m args below meth c H1 locs1 cells slots Q (F0 m (pc + 3) ls (va_re ad r :: rest))) : W p l e R s m args below meth c H locs cells slots Q (F0 m pc ls st0) := by
  have hF := va_free hD hS hA isC hC
  refine va_calle hr hS (fun q _ h => hF q h) hF (fun r u t H1 locs1 ht hvm hw hB hz hk hS1 => ?_)
  obtain ⟨hP1, hK1, hD1⟩ := hB
  rw [ht] at hP1
  obtain ⟨hP2, hD2⟩ := va_join hP hD isC isR hC hR hn hdis hk hF hP1 hD1
  exact kk r u H1 locs1 hw (hP2.sub perm (g_fm (hcan u))) (hD2.sub perm hp (hcan u)) hS1
end GE
theorem g_inS {j : Nat} {i : Int32} (hj : j < g_nst) (h0 : 0 ≤ i.toInt) (h1 : i.toInt < (Int32.ofNat (g_len.getD j 0)).toInt) : vp_in i (g_len.getD j 0) := by
  have k : ∀ j, j < g_nst → (Int32.ofNat (g_len.getD j 0)).toInt = (g_len.getD j 0 : Int) := by decide
  rw [vp_in_iff]
  have e := k j hj
  omega
