def g_IA : String := "java/lang/IllegalArgumentException"
def g_IB : String := "java/lang/IndexOutOfBoundsException"
def g_NE : String := "java/util/NoSuchElementException"
abbrev g_NM : List String := ["java/lang/RuntimeException", "java/lang/Exception"]
/-- what throws need of the start, beside the tables: it holds then and stays -/
def g_Tw (sa : Nat → Nat) (A : Nat → Prop) (U : State) (H : Heap) : Prop :=
  vx_Zq Bundle.tN "UNASSIGNED_STACK" Bundle.steD A U H ∧ vx_Zq Bundle.tN "SUPPRESSED_SENTINEL" Bundle.listD A U H ∧ va_Nw (.castable g_IA g_IA) U ∧ va_Nw (.castable g_IB g_IB) U ∧ va_Nw (.castable g_NE g_NE) U ∧ vk_R R_AsmDesk 43 "the text has a fault" (sa 0) U ∧ vk_R R_AsmDesk 70 "no such address" (sa 1) U ∧ vk_R R_AsmDesk 77 "no such core" (sa 2) U ∧ vk_R R_AsmDesk 91 "no such label" (sa 3) U
theorem g_Tw.warm {sa : Nat → Nat} {A : Nat → Prop} {s U : State} {H : Heap} (hW : s.WarmedH U.vm) (h : g_Tw sa A s H) : g_Tw sa A U H := by
  obtain ⟨h1, h2, h3, h4, h5, h6, h7, h8, h9⟩ := h
  exact ⟨vx_Zq.moved hW.alike h1, vx_Zq.moved hW.alike h2, va_Nw.warmC hW h3, va_Nw.warmC hW h4, va_Nw.warmC hW h5, vk_R.warm hW h6, vk_R.warm hW h7, vk_R.warm hW h8, vk_R.warm hW h9⟩
theorem g_Tw.kept {sa : Nat → Nat} {A : Nat → Prop} {U : State} {H H1 : Heap} (h : g_Tw sa A U H) (hq : ∀ a : Nat, a < H.size → ¬ A a → H1[a]? = H[a]?) : g_Tw sa A U H1 := by
  obtain ⟨h1, h2, h3⟩ := h
  exact ⟨h1.kept hq, h2.kept hq, h3⟩
theorem g_Tw.narrow {sa : Nat → Nat} {A B : Nat → Prop} {U : State} {H : Heap} (h : g_Tw sa A U H) (hAB : ∀ q, B q → A q) : g_Tw sa B U H := by
  obtain ⟨h1, h2, h3⟩ := h
  exact ⟨h1.narrow hAB, h2.narrow hAB, h3⟩
theorem g_Tb {sa : Nat → Nat} {A : Nat → Prop} : g_B (fun U => g_Tw sa A U U.heap) := fun a U g mk q => by
  obtain ⟨h1, h2, h3, h4, h5, h6, h7, h8, h9⟩ := q
  exact ⟨vx_Zq.moved (u := U) (U := U.calling g mk a) (Vm.Alike.refl U.vm) h1, vx_Zq.moved (u := U) (U := U.calling g mk a) (Vm.Alike.refl U.vm) h2, va_Nw.same rfl rfl h3, va_Nw.same rfl rfl h4, va_Nw.same rfl rfl h5, vk_R.same rfl h6, vk_R.same rfl h7, vk_R.same rfl h8, vk_R.same rfl h9⟩
theorem g_Tx {s : State} {H : Heap} {locs : List Loc} {sa : Nat → Nat} {A A1 : Nat → Prop} (hX : g_Tw sa A s s.heap) (hS : va_S A s.heap H locs) (hF : ∀ q, A1 q → A q) : g_X s H (fun U => g_Tw sa A1 U U.heap) := fun U hU hW => by
  show g_Tw sa A1 U U.heap
  rw [hU]
  exact g_Tw.warm hW ((hX.kept hS.2.1).narrow hF)
def g_SW (ad : Nat → Nat) (tA : Nat) (adK adV sa : Nat → Nat) (A : Nat → Prop) (U : State) (H : Heap) : Prop := g_St ad tA adK adV A U H ∧ g_Tw sa A U H
theorem g_SWb {ad : Nat → Nat} {tA : Nat} {adK adV sa : Nat → Nat} {A : Nat → Prop} : g_B (fun U => g_SW ad tA adK adV sa A U U.heap) := fun a U g mk q => ⟨g_Sb a U g mk q.1, g_Tb a U g mk q.2⟩
theorem g_SWx {s : State} {H : Heap} {locs : List Loc} {ad : Nat → Nat} {tA : Nat} {adK adV sa : Nat → Nat} {A A1 : Nat → Prop} (hX : g_St ad tA adK adV A s s.heap) (hT : g_Tw sa A s s.heap) (hS : va_S A s.heap H locs) (hF : ∀ q, A1 q → A q) : g_X s H (fun U => g_SW ad tA adK adV sa A1 U U.heap) := fun U hU hW => ⟨g_Sx hX hS hF U hU hW, g_Tx hT hS hF U hU hW⟩
def g_site (ik ic : Nat) (cls : String) : Prop := Cond.classLink R_AsmDesk ik cls ∈ g_TB ∧ Cond.initialized cls ∈ g_TB ∧ (∀ w ∈ vx_atS R_AsmDesk ic cls g_NM, (w ∈ lw_tbl ∧ goodWord w = true) ∨ w = .castable cls cls) ∧ (∀ w ∈ Cond.classLink R_AsmDesk ik cls :: Cond.initialized cls :: vx_atS R_AsmDesk ic cls g_NM, vx_ot w = true) ∧ Bundle.fit cls = true
set_option maxRecDepth 20000 in
theorem g_site_IA : g_site 41 45 g_IA := ⟨g_in (by decide +kernel) (by decide +kernel), g_in (by decide +kernel) (by decide +kernel), by decide +kernel, by decide +kernel, by decide +kernel⟩
set_option maxRecDepth 20000 in
theorem g_site_IB : g_site 68 72 g_IB := ⟨g_in (by decide +kernel) (by decide +kernel), g_in (by decide +kernel) (by decide +kernel), by decide +kernel, by decide +kernel, by decide +kernel⟩
set_option maxRecDepth 20000 in
theorem g_site_NE : g_site 89 93 g_NE := ⟨g_in (by decide +kernel) (by decide +kernel), g_in (by decide +kernel) (by decide +kernel), by decide +kernel, by decide +kernel, by decide +kernel⟩
section GTH
variable {p : Program} {l : Launch} {e : Env} {R : Room} {s : State} {m : MethodId} {args : Array Value} {below : List Frame} {meth : Method} {c : Code} {H : Heap} {locs : List Loc} {cells slots : Nat} {Q : State → Prop} {cc : ByteArray} {nL : Nat} {ret : Option FieldType} {own : String}
variable {pc : Nat} {ls : Array Slot} {rest st0 : List Value} {dC : Nat → ClassId} {dI : Nat → Nat → Nat} {tys : List (ClassId × FieldType)} {ws wc wr : va_W} {A : Nat → Prop} {H0 : Heap}
theorem g_throw {cls text : String} {ik is ic sa mc ms : Nat} {Qc : Array Value → State → Outcome → State → Prop} {S : Type} {px : S → Prop} {B : S → va_W}
    (C0 : g_Cx p s m meth c cc nL ret R_AsmDesk args) (hst : l.stackTraces = false) (hex : ∀ x ∈ c.exceptionTable.toList, False) (site : g_site ik ic cls) (hstr : vk_R R_AsmDesk is text sa s) (hcast : va_Nw (.castable cls cls) s) (hU : vx_Zq Bundle.tN "UNASSIGNED_STACK" Bundle.steD A s s.heap) (hN : vx_Zq Bundle.tN "SUPPRESSED_SENTINEL" Bundle.listD A s s.heap)
    (hK : va_K (dC, dI) classes tys s) (hP : va_P (dC, dI) classes ws H) (hD : va_D A ws) (hS : va_S A s.heap H locs) (hsz : ls.size = nL)
    (d0 : decode cc pc = .ok (.new ik, 3)) (d3 : decode cc (pc + 3) = .ok (.dup, 1)) (d4 : decode cc (pc + 4) = .ok (.ldc is, 2)) (d6 : decode cc (pc + 6) = .ok (.invokespecial ic, 3)) (d9 : decode cc (pc + 9) = .ok (.athrow, 1))
    (hRf : 5 < R.frames) (hRl : (rest.map fun v => v.category).sum + 82 ≤ R.locals) (hRc : cells + 1 ≤ R.cells) (hRs : slots + 6 ≤ R.slots) (u : S) (hu : px u) (hB : B u = ws) (hc : cells + 1 ≤ mc) (hs : slots + 6 ≤ ms) :
    W p l e R s m args below meth c H locs cells slots (vx_MQ below Qc (vx_X px (fun E u t => E = cls ∧ g_post dC dI tys A (B u) t) A) args s mc ms A) (F0 m pc ls rest) := by
  obtain ⟨hx, hb, hml, -, hown, hts, hlocks⟩ := C0
  obtain ⟨s1, s2, s3, s4, s5⟩ := site
  refine vx_throwS (A := A) (names := g_NM) hx hb hst hown s5 (by decide) (hts _ s1) (hts _ s2) hstr (fun w hw => ?_) s4 hU hN hS (hsz.trans hml.symm) d0 d3 d4 d6 d9 (fun x h => (hex x h).elim) hRf hRl hRc hRs hlocks (fun t hvm hz hk => ?_) hS.2.2 hc hs
  · rcases s3 w hw with k | k
    · exact hts w (g_in k.1 k.2)
    · rw [k]; exact va_Nw.use rfl hcast
  · refine ⟨u, hu, ⟨rfl, ?_, va_K.moved hvm hK, by rw [hB]; exact hD⟩, Nat.le_trans hS.1 hz, fun q h1 h2 => (hk q (Nat.lt_of_lt_of_le h1 hS.1)).trans (hS.2.1 q h1 h2)⟩
    rw [hB]
    exact hP.kept (fun k q hq => hk q.1 (vx_lt hP hq))
theorem gr_Vx {y : MethodName} {bytes : ByteArray} {maxL mc ms : Nat} {ry : Option FieldType} {rm : Room} {index n : Nat} {X : State → Prop} {As : List Value} {b : Nat} {C : String} {T : u_T} {N ci k : Nat} {fs : List Value} {Qc : Array Value → State → Outcome → State → Prop} {XC : String → State → State → Prop} {free : Addr → Prop}
    (C0 : g_Cx p s m meth c cc nL ret own args) (hM : vx_Met l y (.code y bytes maxL ry :: g_TB) rm (va_Pc (.ref b :: As) (g_pre dC dI tys H.size wc X)) Qc XC mc ms free) (hs : g_sV own index C y bytes maxL ry n) (hK : va_K (dC, dI) classes tys s) (hP : va_P (dC, dI) classes ws H) (hD : va_D A ws) (isC : List Nat) (hC : isC.map (fun i => ws[i]?) = wc.map some) (hnd : va_nd isC = true) (hXb : g_B X) (hX : g_X s H X)
    (hc : classes[ci]? = some (C, T, N)) (he : wc[k]? = some (b, .inr (ci, fs))) (hn : As.length = n) (hrm : (rm.cells, rm.slots) = (mc, ms)) (hsize : ls.size = nL) (hstack : st0 = As.reverse ++ .ref b :: rest) (hW : 2 * (F0 m pc ls st0).monitorRoom + (rest.map fun v => v.category).sum ≤ 8) (hdg : decode cc pc = .ok (.invokevirtual index, 3)) (hR : rm.frames + 1 ≤ R.frames ∧ 8 + (maxL + 11) + rm.locals ≤ R.locals) (hf : cells + mc ≤ R.cells ∧ slots + ms ≤ R.slots) :
    vx_Run p l e R s m args below meth c H locs cells slots mc ms (F0 m pc ls st0) rest (Qc (Value.ref b :: As).toArray) XC free := by
  have C1 := C0
  obtain ⟨hx, hb, hml, -, hown, hts, -⟩ := C0
  have hp := g_pr (av := .ref b :: As) hK hP hD isC hC hnd hXb hX
  exact vx_runV (C := C) (Ts := g_TB) ⟨hx, hb, hml, hown, hts⟩ hM ⟨g_cbn C1 hs.1 hrm hR, hts _ hs.2.1, hts _ hs.2.2⟩ ⟨hp.1, va_recv hK (hP.sub isC (g_fm hC)) hc he, hp.2⟩ rfl hn hsize hstack hW hdg hf
variable {S : Type} {B can B2 can2 : S → va_W} {a : Array Value} {isC isR perm perm2 : List Nat}
theorem gk_r {post : S → Prop} {a0 : Nat} (hr : va_Run p l e R s m args below meth c H locs cells slots 0 0 (F0 m pc ls st0) rest (va_Qr post (fun u b t => b = a0 ∧ g_post dC dI tys (va_A wc H.size) (B u) t) (va_A wc H.size) a) (va_A wc H.size))
    (hP : va_P (dC, dI) classes ws H) (hD : va_D A ws) (hS : va_S A H0 H locs) (hA : ∀ q, H0.size ≤ q → A q) (hC : isC.map (fun i => ws[i]?) = wc.map some) (hR : isR.map (fun i => ws[i]?) = wr.map some) (hn : va_nd isR = true) (hdis : ∀ i ∈ isR, i ∉ isC) (hp : va_nd perm = true) (hcan : ∀ u, perm.map (fun i => (wr ++ B u)[i]?) = (can u).map some)
    (kk : ∀ (u : S) (H1 : Heap) (locs1 : List Loc), post u → va_P (dC, dI) classes (can u) H1 → va_D A (can u) → va_S A H0 H1 locs1 → W p l e R s m args below meth c H1 locs1 cells slots Q (F0 m (pc + 3) ls (.ref a0 :: rest))) : W p l e R s m args below meth c H locs cells slots Q (F0 m pc ls st0) := by
  have hF := va_free hD hS hA isC hC
  refine va_callr hr hS (fun q _ h => hF q h) hF (fun u ra t H1 locs1 ht hvm hw hB hz hk hS1 => ?_)
  obtain ⟨rfl, hP1, hK1, hD1⟩ := hB
  rw [ht] at hP1
  obtain ⟨hP2, hD2⟩ := va_join hP hD isC isR hC hR hn hdis hk hF hP1 hD1
  exact kk u H1 locs1 hw (hP2.sub perm (g_fm (hcan u))) (hD2.sub perm hp (hcan u)) hS1
theorem gk_x {mc ms : Nat} {post : Int32 → S → Prop} {px : S → Prop} {cls : String} (hr : vx_Run p l e R s m args below meth c H locs cells slots mc ms (F0 m pc ls st0) rest (va_Qi post (fun u => g_post dC dI tys (va_A wc H.size) (B u)) (va_A wc H.size) a) (vx_X px (fun E u t => E = cls ∧ g_post dC dI tys (va_A wc H.size) (B2 u) t) (va_A wc H.size)) (va_A wc H.size))
    (hP : va_P (dC, dI) classes ws H) (hD : va_D A ws) (hS : va_S A H0 H locs) (hA : ∀ q, H0.size ≤ q → A q) (hC : isC.map (fun i => ws[i]?) = wc.map some) (hR : isR.map (fun i => ws[i]?) = wr.map some) (hn : va_nd isR = true) (hdis : ∀ i ∈ isR, i ∉ isC) (hp : va_nd perm = true) (hcan : ∀ u, perm.map (fun i => (wr ++ B u)[i]?) = (can u).map some) (hp2 : va_nd perm2 = true) (hcan2 : ∀ u, perm2.map (fun i => (wr ++ B2 u)[i]?) = (can2 u).map some)
    (kx : ∀ (ce : Cell) (q9 : Addr) (u : S) (H1 : Heap) (locs1 : List Loc), px u → va_P (dC, dI) classes (can2 u) H1 → va_D A (can2 u) → va_S A H0 H1 locs1 → H1[q9]? = some ce → ce.vm = .none → s.vm.findClass cls = some ce.cls → vx_W p l e R s m args below meth c H1 locs1 (cells + mc) (slots + ms) Q (F0 m pc ls rest) q9)
    (kk : ∀ (r : Int32) (u : S) (H1 : Heap) (locs1 : List Loc), post r u → va_P (dC, dI) classes (can u) H1 → va_D A (can u) → va_S A H0 H1 locs1 → W p l e R s m args below meth c H1 locs1 (cells + mc) (slots + ms) Q (F0 m (pc + 3) ls (.int r :: rest))) : W p l e R s m args below meth c H locs cells slots Q (F0 m pc ls st0) := by
  have hF := va_free hD hS hA isC hC
  refine vx_calli hr hS (fun q _ h => hF q h) hF (fun q _ h => hF q h) (fun E ce q9 u t H1 locs1 ht hvm hw hB hz hk hS1 hc1 hc2 hc3 => ?_) (fun r u t H1 locs1 ht hvm hw hB hz hk hS1 => ?_)
  · obtain ⟨rfl, hP1, hK1, hD1⟩ := hB
    rw [ht] at hP1
    obtain ⟨hP2, hD2⟩ := va_join hP hD isC isR hC hR hn hdis hk hF hP1 hD1
    exact kx ce q9 u H1 locs1 hw (hP2.sub perm2 (g_fm (hcan2 u))) (hD2.sub perm2 hp2 (hcan2 u)) hS1 hc1 hc2 hc3
  · obtain ⟨hP1, hK1, hD1⟩ := hB
    rw [ht] at hP1
    obtain ⟨hP2, hD2⟩ := va_join hP hD isC isR hC hR hn hdis hk hF hP1 hD1
    exact kk r u H1 locs1 hw (hP2.sub perm (g_fm (hcan u))) (hD2.sub perm hp (hcan u)) hS1
end GTH
