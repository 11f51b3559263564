section GT3
variable {p : Program} {l : Launch} {e : Env} {R : Room} {s : State} {m : MethodId} {args : Array Value} {below : List Frame} {meth : Method} {c : Code} {H : Heap} {locs : List Loc} {cells slots : Nat} {Q : State → Prop} {cc : ByteArray} {pc : Nat} {ls : Array Slot} {rest : List Value}
theorem gt_tableD {dflt lo hi : Int} {offs : Array Int} {len : Nat} {x : Int32} {tgt : Nat} (hexec : p.tables.exec = Jvm.exec) (hb : c.code = cc) (hdg : decode cc pc = .ok (.tableswitch dflt lo hi offs, len)) (sp : List Nat) (hsz : hi = lo + offs.size - 1) (h : (List.range offs.size).all (fun k => decide (k ∈ sp) || decide (offs[k]? = some dflt)) = true) (hx : ∀ k ∈ sp, ¬ x.toInt = lo + (k : Int)) (ht : (pc : Int) + dflt = (tgt : Int))
    (kk : W p l e R s m args below meth c H locs cells slots Q (F0 m tgt ls rest)) : W p l e R s m args below meth c H locs cells slots Q (F0 m pc ls (.int x :: rest)) := by
  by_cases h1 : x.toInt < lo ∨ hi < x.toInt
  · exact lv_tableOut hexec hb hdg h1 ht kk
  · have a1 : ¬ x.toInt < lo := fun q => h1 (Or.inl q)
    have a2 : ¬ hi < x.toInt := fun q => h1 (Or.inr q)
    have hk : (x.toInt - lo).toNat < offs.size := by omega
    have e := List.all_eq_true.mp h _ (List.mem_range.mpr hk)
    rcases Bool.or_eq_true_iff.mp e with e | e
    · exact absurd (by omega) (hx _ (of_decide_eq_true e))
    · exact lv_tableIn hexec hb hdg a1 a2 (of_decide_eq_true e) ht kk
end GT3
