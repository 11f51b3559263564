section E6
variable {zkk zkp : Nat → Int32} {zkv : Nat → Int64} {kk kp : Nat → Int32} {kv : Nat → Int64} {kn kl : Int32} {L : Nat} {sv na bb : Int32}
theorem e_cOrd (hT : e_Tok zkk zkp zkv kk kp kv kn kl L) {cu : Int32} (h0 : 0 ≤ cu.toInt) (h1 : cu.toInt ≤ L) (hk : zkk cu.toNatClampNeg = 1) (fk fp : Int32) (dw ds : Nat → Int32) (dn : Nat → Int64) (da : Nat → Int32) (dl dc rg : Int32) (vl : Int64) :
    (∀ p, e_ord zkk zkp zkv cu = .error p → ∃ x, m_Asm_readOrder fk fp kk kp kv kn kl dw ds dn da dl dc sv cu na rg vl = (0, 1, p, x)) ∧
    (∀ ev, e_ord zkk zkp zkv cu = .ok ev → ∃ a b c d e f rg' vl', e_cE sv (fk, fp, dw, ds, dn, da, dl, dc, na) ev = (a, b, c, d, dn, da, dl, e, f) ∧ m_Asm_readOrder fk fp kk kp kv kn kl dw ds dn da dl dc sv cu na rg vl = (1, a, b, c, d, e, e_evc cu ev, f, rg', vl')) := by
  have hA := hT.2 cu h0 h1
  have k := e_next hT.1 h0 h1 hk (by decide) (by decide)
  have hB := hT.2 (cu + 1) (by omega) (by omega)
  unfold e_ord m_Asm_readOrder
  rw [e_v1 hA hk, hA.1]
  rcases hsp : m_Order_spelled (zkv cu.toNatClampNeg) with _ | oi
  · by_cases c4 : zkk (cu + 1).toNatClampNeg = 4
    · simp only [if_pos ((e_k1 hB).mpr c4), if_pos c4, e_cref, hB.1]
      refine ⟨fun p h => ?_, fun ev h => ?_⟩
      · cases h; exact ⟨_, rfl⟩
      · cases h
    · simp only [if_neg (fun e => c4 ((e_k1 hB).mp e)), if_neg c4, e_cref]
      refine ⟨fun p h => ?_, fun ev h => ?_⟩
      · cases h; exact ⟨_, rfl⟩
      · cases h
  · have hoi : oi < 25 := v_Order_spelled hsp.symm
    have K := e_L101 hT hoi (dn := dn) (da := da) (dl := dl) (sv := sv) (na := na) (x1 := zkp cu.toNatClampNeg) (fk := fk) (fp := fp) (dw := dw) (ds := ds) (dc := dc) (e_chars oi).length 0 8 (cu + 1) 0 0 0 0 0 false (by omega) (by have k7 := e_len7 oi hoi; omega) (e_one_chars oi hoi) (fun _ => rfl) (by omega) (by omega)
    rw [e_cf0, List.drop_zero] at K
    have z0 : Int32.ofNat 0 = 0 := rfl
    have ev0 : e_cv dn da dl na 0 0 0 = 0 := rfl
    rw [z0, ev0] at K
    simp only
    rcases hf : e_form zkk zkp zkv (e_chars oi) (cu + 1, 0, 0, 0, 0, 0) with p1 | ⟨cu', rg', q', nm', pN', vl'⟩
    · refine ⟨fun p h => ?_, fun ev h => ?_⟩
      · cases h; exact K.1 p1 hf
      · cases h
    · refine ⟨fun p h => ?_, fun ev h => ?_⟩
      · cases h
      · cases h
        have K2 := K.2 _ _ _ _ _ _ hf
        unfold e_fin at K2
        rcases hco : m_Asm_carryOut (e_cf sv dn da dl oi fk fp q' nm' pN' vl').1 (e_cf sv dn da dl oi fk fp q' nm' pN' vl').2 dw ds dc sv na rg' (e_cv dn da dl na q' nm' vl') oi (zkp cu.toNatClampNeg) with ⟨a, b, c, d, e, f⟩
        rw [hco] at K2
        refine ⟨a, b, c, d, e, f, rg', _, ?_, K2⟩
        show e_cE sv (fk, fp, dw, ds, dn, da, dl, dc, na) (.inr (oi, zkp cu.toNatClampNeg, (cu', rg', q', nm', pN', vl'))) = _
        rw [e_cE_o, hco]
theorem e_cEnd (hT : e_Tok zkk zkp zkv kk kp kv kn kl L) {cu : Int32} (h0 : 0 ≤ cu.toInt) (h1 : cu.toInt ≤ L) (fk fp : Int32) (es : List e_Ev) :
    (∀ p, e_end zkk zkp zkv es cu = .error p → m_Asm_readSign fk fp kk kp kn kl cu 59 = (0, 1, p, cu)) ∧
    (∀ es' c, e_end zkk zkp zkv es cu = .ok (es', c) → es' = es ∧ m_Asm_readSign fk fp kk kp kn kl cu 59 = (1, fk, fp, c)) := by
  have hA := hT.2 cu h0 h1
  unfold e_end
  rcases hs : e_sgn zkk zkp zkv 59 (cu, 0, 0, 0, 0, 0) with p1 | T
  · refine ⟨fun p h => ?_, fun es' c h => ?_⟩
    · cases h; exact e_cS_e hA (by decide) hs
    · cases h
  · obtain ⟨a, b⟩ := e_cS_o (fk := fk) (fp := fp) hA (by decide) hs
    subst b
    refine ⟨fun p h => ?_, fun es' c h => ?_⟩
    · cases h
    · cases h; exact ⟨rfl, a⟩
theorem e_cAll (hT : e_Tok zkk zkp zkv kk kp kv kn kl L) : ∀ (n : Nat) (x2 fk fp : Int32) (dw ds : Nat → Int32) (dn : Nat → Int64) (da : Nat → Int32) (dl dc cu na rg : Int32) (vl : Int64), 0 ≤ x2.toInt → x2.toInt ≤ cu.toInt → cu.toInt ≤ L → (L : Int) - cu.toInt < n →
    (∀ p, e_all zkk zkp zkv n cu = .error p → ∃ x, m_Asm_pass_L25 kk kp kv kn kl bb n x2 fk fp dw ds dn da dl dc sv cu na rg vl = (0, 1, p, x)) ∧
    (∀ es, e_all zkk zkp zkv n cu = .ok es → ∃ a b c d e f g h i cu' rg' vl', es.foldl (e_cE sv) (fk, fp, dw, ds, dn, da, dl, dc, na) = (a, b, c, d, e, f, g, h, i) ∧ m_Asm_pass_L25 kk kp kv kn kl bb n x2 fk fp dw ds dn da dl dc sv cu na rg vl = (1, a, b, c, d, e, f, g, h, sv, cu', i, rg', vl')) := by
  intro n
  have hL1 := hT.1.1
  have z480 : (480 : Int32).toInt = 480 := rfl
  have o : (1 : Int32).toInt = 1 := rfl
  induction n with
  | zero => intro x2 fk fp dw ds dn da dl dc cu na rg vl h0 h1 h2 h3; omega
  | succ n ih =>
    intro x2 fk fp dw ds dn da dl dc cu na rg vl h0 h1 h2 h3
    have hA := hT.2 cu (by omega) h2
    unfold e_all m_Asm_pass_L25
    by_cases c0 : zkk cu.toNatClampNeg = 0
    · rw [if_pos c0, if_pos ((e_k0 hA).mpr c0)]
      refine ⟨fun p h => ?_, fun es h => ?_⟩
      · cases h
      · cases h
        refine ⟨fk, fp, dw, ds, dn, da, dl, dc, na, cu, rg, vl, rfl, ?_⟩
        split <;> rfl
    · have x480 : ¬ (480 : Int32) ≤ x2 := fun h => by
        have q := Int32.le_iff_toInt_le.mp h
        apply c0
        rw [← e_k0 hA]
        unfold m_Tokens_kind
        split
        · rfl
        · split
          · rfl
          · rw [if_pos (Int32.le_iff_toInt_le.mpr (by omega))]
      rw [if_neg c0, if_neg x480, if_neg (fun e => c0 ((e_k0 hA).mp e))]
      have q480 : x2.toInt < 480 := by
        have q := mt Int32.le_iff_toInt_le.mpr x480
        omega
      have a1 := gz_a x2 1 (by omega) (by omega)
      obtain ⟨a, b, c, d, e, hf, hl⟩ := e_cLabs (sv := sv) (na := na) hT dw ds dc 481 0 fk fp dn da dl cu (by decide) (by have z : (0 : Int32).toInt = 0 := rfl; omega) h2
      have hl : m_Asm_readLabels fk fp kk kp kv kn kl dn da dl sv cu na = (a, b, c, d, e, (e_labs zkk zkp zkv 481 cu).2) := hl
      have hi := e_labs_in (zkp := zkp) (zkv := zkv) hT.1 481 cu (by omega) h2
      rw [hl]
      unfold e_stmt
      generalize (e_labs zkk zkp zkv 481 cu).1 = ls at hf hi ⊢
      generalize (e_labs zkk zkp zkv 481 cu).2 = c1 at hi ⊢
      have i0 : cu.toInt ≤ c1.toInt := by have q := hi.1; omega
      have hA1 := hT.2 c1 (by omega) hi.2
      simp only
      by_cases cN : zkk c1.toNatClampNeg = 1
      · rw [if_pos cN, if_pos ((e_k2 hA1).mpr cN)]
        have KO := e_cOrd (sv := sv) (na := na) hT (by omega) hi.2 cN a b dw ds c d e dc rg vl
        rcases ho : e_ord zkk zkp zkv c1 with p1 | ev
        · obtain ⟨⟨y1, y2, y3, y4, y5, y6, y7⟩, hx⟩ := KO.1 p1 ho
          refine ⟨fun p h => ?_, fun es h => ?_⟩
          · cases h; rw [hx]; simp only [e_if0]; exact ⟨_, rfl⟩
          · cases h
        · obtain ⟨a2, b2, c2, d2, e2, f2, rg2, vl2, hE, hx⟩ := KO.2 ev ho
          have hin := e_ord_in hT.1 (by omega) hi.2 cN ho
          have ec : e_evc cu ev = e_evc c1 ev := by
            unfold e_ord at ho
            split at ho
            · cases ho
            · split at ho
              · cases ho
              · cases ho; rfl
          dsimp only
          rw [ec]
          have hin := hin c1
          generalize e_evc c1 ev = c3 at hin hx ⊢
          rw [hx]
          simp only [e_if1]
          have KE := e_cEnd hT (cu := c3) (by omega) hin.2 a2 b2 (ls ++ [ev])
          rcases he : e_end zkk zkp zkv (ls ++ [ev]) c3 with p1 | ⟨es1, c4⟩
          · refine ⟨fun p h => ?_, fun es h => ?_⟩
            · cases h; rw [KE.1 p1 he]; simp only [e_if0]; exact ⟨_, rfl⟩
            · cases h
          · obtain ⟨q1, q2⟩ := KE.2 _ _ he
            have q3 := e_end_in hT.1 (by omega) hin.2 he
            rw [q2]
            simp only [e_if1]
            subst q1
            have I := ih (x2 + 1) a2 b2 c2 d2 c d e e2 c4 f2 rg2 vl2 (by omega) (by omega) (by omega) (by omega)
            rcases hr : e_all zkk zkp zkv n c4 with p1 | r
            · refine ⟨fun p h => ?_, fun es h => ?_⟩
              · cases h; exact I.1 p1 hr
              · cases h
            · refine ⟨fun p h => ?_, fun es h => ?_⟩
              · cases h
              · cases h
                obtain ⟨a9, b9, c9, d9, e9, f9, g9, h9, i9, cu9, rg9, vl9, w1, w2⟩ := I.2 r hr
                refine ⟨a9, b9, c9, d9, e9, f9, g9, h9, i9, cu9, rg9, vl9, ?_, w2⟩
                rw [List.foldl_append, List.foldl_append, hf]
                show List.foldl (e_cE sv) (e_cE sv (a, b, dw, ds, c, d, e, dc, na) ev) r = _
                rw [hE, w1]
      · rw [if_neg cN, if_neg (fun z => cN ((e_k2 hA1).mp z))]
        have KE := e_cEnd hT (cu := c1) (by omega) hi.2 a b ls
        rcases he : e_end zkk zkp zkv ls c1 with p1 | ⟨es1, c4⟩
        · refine ⟨fun p h => ?_, fun es h => ?_⟩
          · cases h; rw [KE.1 p1 he]; simp only [e_if0]; exact ⟨_, rfl⟩
          · cases h
        · obtain ⟨q1, q2⟩ := KE.2 _ _ he
          have q3 := e_end_in hT.1 (by omega) hi.2 he
          rw [q2]
          simp only [e_if1]
          subst q1
          have I := ih (x2 + 1) a b dw ds c d e dc c4 na rg vl (by omega) (by omega) (by omega) (by omega)
          rcases hr : e_all zkk zkp zkv n c4 with p1 | r
          · refine ⟨fun p h => ?_, fun es h => ?_⟩
            · cases h; exact I.1 p1 hr
            · cases h
          · refine ⟨fun p h => ?_, fun es h => ?_⟩
            · cases h
            · cases h
              obtain ⟨a9, b9, c9, d9, e9, f9, g9, h9, i9, cu9, rg9, vl9, w1, w2⟩ := I.2 r hr
              refine ⟨a9, b9, c9, d9, e9, f9, g9, h9, i9, cu9, rg9, vl9, ?_, w2⟩
              rw [List.foldl_append, hf, w1]
end E6
