/-! one statement of the reference -/
section E9
variable {zkk zkp : Nat → Int32} {zkv : Nat → Int64} {L : Nat} {zfk zfp zat zln : Int32} {zlv : Nat → Int64} {zla : Nat → Int32} {zpn : Int32} {zpa zpw zpk : Nat → Int32} {zpl : Nat → Int64} {zpp zbg : Nat → Int32} {znx zmd : Int32} {zgv : Int64}
theorem e_rEnd (es : List e_Ev) :
    (∀ p, e_end zkk zkp zkv es zat = .error p → ∃ x, m_Mod_readStatement_L193 zkk zkp zkv zfk zfp zat zln zlv zla zpn zpa zpw zpk zpl zpp zbg znx zmd zgv = (0, 1, p, x)) ∧
    (∀ es' c, e_end zkk zkp zkv es zat = .ok (es', c) → es' = es ∧ m_Mod_readStatement_L193 zkk zkp zkv zfk zfp zat zln zlv zla zpn zpa zpw zpk zpl zpp zbg znx zmd zgv = (1, zfk, zfp, c, zln, zlv, zla, zpn, zpa, zpw, zpk, zpl, zpp, zbg, znx, zmd, zgv)) := by
  unfold e_end m_Mod_readStatement_L193
  rcases hs : e_sgn zkk zkp zkv 59 (zat, 0, 0, 0, 0, 0) with p1 | T
  · rw [e_wS_e hs, g_m2_mk, g_m2_mk, g_m2_mk]
    refine ⟨fun p h => ?_, fun es' c h => by cases h⟩
    cases h
    exact ⟨_, rfl⟩
  · rw [(e_wS_o hs).1, g_m2_mk, g_m2_mk, g_m2_mk]
    have b := (e_wS_o (zfk := 0) (zfp := 0) hs).2
    subst b
    refine ⟨fun p h => (by cases h), fun es' c h => ?_⟩
    cases h
    exact ⟨rfl, rfl⟩
theorem e_rLay (F : Int32 × Int32) (c1 md : Int32) : m_Mod_lay F.1 F.2 zkp zpn zpa zpw znx md c1 = ((e_lf F znx (zkp c1.toNatClampNeg)).1, (e_lf F znx (zkp c1.toNatClampNeg)).2, zpn + 1, upd zpa zpn.toNatClampNeg znx, upd zpw zpn.toNatClampNeg md, znx + 1) := by
  unfold m_Mod_lay e_lf
  by_cases c : znx ≤ 255
  · rw [if_pos c, if_pos c]
  · rw [if_neg c, if_neg c]
theorem e_bs81 : ∀ oi, oi < 25 → (if (32 : Int32) ≤ e_op oi then (0 : Int32) else e_op oi <<< ((24 : Int32) &&& 31)) = e_bs oi := by decide
theorem e_op33b : ∀ oi, oi < 25 → ((33 : Int32) ≤ e_op oi ↔ (oi = 23 ∨ oi = 24)) := by decide
theorem e_op33c : ∀ oi, oi < 25 → (e_op oi = 33 ↔ oi = 23) := by decide
theorem e_rStmt (hL : e_L zkk L) (hv : e_vf zfk zfp) (h0 : 0 ≤ zat.toInt) (h1 : zat.toInt ≤ L) (l0 : 0 ≤ zln.toInt) (l1 : 2 * zln.toInt ≤ zat.toInt) :
    (∀ p, e_stmt zkk zkp zkv zat = .error p → ∃ x, m_Mod_readStatement zfk zfp zkk zkp zkv zat zln zlv zla zpn zpa zpw zpk zpl zpp zbg znx zmd zgv = (0, 1, p, x)) ∧
    (∀ es c, e_stmt zkk zkp zkv zat = .ok (es, c) → ∃ a b ln lv la pn pa pw pk pl pp bg nx md gv, es.foldl e_rE (zfk, zfp, zln, zlv, zla, zpn, zpa, zpw, zpk, zpl, zpp, zbg, znx) = (a, b, ln, lv, la, pn, pa, pw, pk, pl, pp, bg, nx) ∧ m_Mod_readStatement zfk zfp zkk zkp zkv zat zln zlv zla zpn zpa zpw zpk zpl zpp zbg znx zmd zgv = (1, a, b, c, ln, lv, la, pn, pa, pw, pk, pl, pp, bg, nx, md, gv)) := by
  obtain ⟨r, a, b, ln, lv, la, hf, hl⟩ := e_rLabs (zkp := zkp) (zkv := zkv) (znx := znx) hL zpn zpa zpw zpk zpl zpp zbg 481 zfk zfp zat zln zlv zla hv h0 h1 l0 l1
  have hl : m_Mod_readLabels zfk zfp zkk zkp zkv zat zln zlv zla znx = (r, a, b, (e_labs zkk zkp zkv 481 zat).2, ln, lv, la) := hl
  unfold m_Mod_readStatement
  rw [hl, g_m2_mk, g_m2_mk, g_m2_mk, g_m2_mk, g_m2_mk, g_m2_mk]
  unfold e_stmt
  generalize (e_labs zkk zkp zkv 481 zat).1 = ls at hf ⊢
  generalize (e_labs zkk zkp zkv 481 zat).2 = c1
  by_cases cN : zkk c1.toNatClampNeg = 1
  · rw [if_pos cN, if_pos cN]
    rcases hsp : m_Order_spelled (zkv c1.toNatClampNeg) with _ | oi
    · have hop : m_Mod_opOf (zkv c1.toNatClampNeg) = -1 := by rw [e_opOf, hsp]
      rw [if_pos hop]
      by_cases c4 : zkk (c1 + 1).toNatClampNeg = 4
      · have ho : e_ord zkk zkp zkv c1 = .error (zkp (c1 + 1).toNatClampNeg) := by
          unfold e_ord
          rw [hsp]
          show Except.error (if zkk (c1 + 1).toNatClampNeg = 4 then zkp (c1 + 1).toNatClampNeg else zkp c1.toNatClampNeg) = _
          rw [if_pos c4]
        rw [ho, if_pos c4, e_ref, g_m2_mk, g_m2_mk]
        refine ⟨fun p h => ?_, fun es' c h => by cases h⟩
        cases h
        exact ⟨_, rfl⟩
      · have ho : e_ord zkk zkp zkv c1 = .error (zkp c1.toNatClampNeg) := by
          unfold e_ord
          rw [hsp]
          show Except.error (if zkk (c1 + 1).toNatClampNeg = 4 then zkp (c1 + 1).toNatClampNeg else zkp c1.toNatClampNeg) = _
          rw [if_neg c4]
        rw [ho, if_neg c4, e_ref, g_m2_mk, g_m2_mk]
        refine ⟨fun p h => ?_, fun es' c h => by cases h⟩
        cases h
        exact ⟨_, rfl⟩
    · have hoi : oi < 25 := v_Order_spelled hsp.symm
      have hop : m_Mod_opOf (zkv c1.toNatClampNeg) = e_op oi := by rw [e_opOf, hsp]
      have hI : m_Mod_readStatement_I81 c1 (e_op oi) zmd = e_bs oi := e_bs81 oi hoi
      rw [hop, if_neg (e_op_nm oi hoi), hI, g_m1_mk]
      have B := e_wP (zkk := zkk) (zkp := zkp) (zkv := zkv) hoi (zfk := a) (zfp := b) (zat := c1 + 1) (zpn := zpn) (zpk := upd zpk zpn.toNatClampNeg 0) (zpl := zpl) (zpp := zpp) (zmd := e_bs oi) (zgv := zgv)
      rcases hfm : e_form zkk zkp zkv (e_chars oi) (c1 + 1, 0, 0, 0, 0, 0) with p1 | ⟨cu', rg', q', nm', pN', vl'⟩
      · have ho : e_ord zkk zkp zkv c1 = .error p1 := by
          unfold e_ord
          rw [hsp]
          show (match e_form zkk zkp zkv (e_chars oi) (c1 + 1, 0, 0, 0, 0, 0) with
            | .error p => (Except.error p : Except Int32 e_Ev)
            | .ok S => Except.ok (Sum.inr (oi, zkp c1.toNatClampNeg, S))) = _
          rw [hfm]
        rw [hfm] at B
        obtain ⟨⟨x1, x2, x3, x4, x5, x6⟩, hx⟩ := B
        rw [ho, hx, g_m2_mk, g_m2_mk, g_m2_mk, g_m2_mk, g_m2_mk, g_m2_mk, g_m2_mk, g_m2_mk, e_if0]
        refine ⟨fun p h => ?_, fun es' c h => by cases h⟩
        cases h
        exact ⟨_, rfl⟩
      · have ho : e_ord zkk zkp zkv c1 = .ok (.inr (oi, zkp c1.toNatClampNeg, (cu', rg', q', nm', pN', vl'))) := by
          unfold e_ord
          rw [hsp]
          show (match e_form zkk zkp zkv (e_chars oi) (c1 + 1, 0, 0, 0, 0, 0) with
            | .error p => (Except.error p : Except Int32 e_Ev)
            | .ok S => Except.ok (Sum.inr (oi, zkp c1.toNatClampNeg, S))) = _
          rw [hfm]
        rw [hfm] at B
        have hx : m_Mod_wantParts a b zkk zkp zkv (c1 + 1) zpn (upd zpk zpn.toNatClampNeg 0) zpl zpp (e_bs oi) zgv (e_op oi) = (1, (e_rf oi a b q' pN' vl').1, (e_rf oi a b q' pN' vl').2, cu', e_rk oi (upd zpk zpn.toNatClampNeg 0) zpn q', e_rl zpl zpn q' nm', e_rp zpp zpn q' pN', e_rm oi (e_bs oi) rg' q' vl', e_rg zgv q' vl') := B
        rw [ho, hx, g_m2_mk, g_m2_mk, g_m2_mk, g_m2_mk, g_m2_mk, g_m2_mk, g_m2_mk, g_m2_mk, e_if1]
        show (∀ p, e_end zkk zkp zkv (ls ++ [.inr (oi, zkp c1.toNatClampNeg, (cu', rg', q', nm', pN', vl'))]) cu' = .error p → _) ∧ (∀ es c, e_end zkk zkp zkv (ls ++ [.inr (oi, zkp c1.toNatClampNeg, (cu', rg', q', nm', pN', vl'))]) cu' = .ok (es, c) → _)
        have fin : ∀ (g h : Int32) (pn : Int32) (pa pw bg : Nat → Int32) (nx : Int32) (rs : Int32 × Int32 × Int32 × Int32 × Int32 × (Nat → Int64) × (Nat → Int32) × Int32 × (Nat → Int32) × (Nat → Int32) × (Nat → Int32) × (Nat → Int64) × (Nat → Int32) × (Nat → Int32) × Int32 × Int32 × Int64), rs = m_Mod_readStatement_L193 zkk zkp zkv g h cu' ln lv la pn pa pw (e_rk oi (upd zpk zpn.toNatClampNeg 0) zpn q') (e_rl zpl zpn q' nm') (e_rp zpp zpn q' pN') bg nx (e_rm oi (e_bs oi) rg' q' vl') (e_rg zgv q' vl') →
            e_rE (a, b, ln, lv, la, zpn, zpa, zpw, zpk, zpl, zpp, zbg, znx) (.inr (oi, zkp c1.toNatClampNeg, (cu', rg', q', nm', pN', vl'))) = (g, h, ln, lv, la, pn, pa, pw, e_rk oi (upd zpk zpn.toNatClampNeg 0) zpn q', e_rl zpl zpn q' nm', e_rp zpp zpn q' pN', bg, nx) →
            (∀ p, e_end zkk zkp zkv (ls ++ [.inr (oi, zkp c1.toNatClampNeg, (cu', rg', q', nm', pN', vl'))]) cu' = .error p → ∃ x, rs = (0, 1, p, x)) ∧ (∀ es c, e_end zkk zkp zkv (ls ++ [.inr (oi, zkp c1.toNatClampNeg, (cu', rg', q', nm', pN', vl'))]) cu' = .ok (es, c) → ∃ a b ln lv la pn pa pw pk pl pp bg nx md gv, es.foldl e_rE (zfk, zfp, zln, zlv, zla, zpn, zpa, zpw, zpk, zpl, zpp, zbg, znx) = (a, b, ln, lv, la, pn, pa, pw, pk, pl, pp, bg, nx) ∧ rs = (1, a, b, c, ln, lv, la, pn, pa, pw, pk, pl, pp, bg, nx, md, gv)) := by
          intro g h pn pa pw bg nx rs hrs hE
          rw [hrs]
          have K := e_rEnd (zkk := zkk) (zkp := zkp) (zkv := zkv) (zfk := g) (zfp := h) (zat := cu') (zln := ln) (zlv := lv) (zla := la) (zpn := pn) (zpa := pa) (zpw := pw) (zpk := e_rk oi (upd zpk zpn.toNatClampNeg 0) zpn q') (zpl := e_rl zpl zpn q' nm') (zpp := e_rp zpp zpn q' pN') (zbg := bg) (znx := nx) (zmd := e_rm oi (e_bs oi) rg' q' vl') (zgv := e_rg zgv q' vl') (ls ++ [.inr (oi, zkp c1.toNatClampNeg, (cu', rg', q', nm', pN', vl'))])
          refine ⟨K.1, fun es c hk => ?_⟩
          obtain ⟨q1, q2⟩ := K.2 es c hk
          subst q1
          refine ⟨_, _, _, _, _, _, _, _, _, _, _, _, _, _, _, ?_, q2⟩
          rw [List.foldl_append, hf]
          exact hE
        by_cases h33 : oi = 23 ∨ oi = 24
        · rw [if_pos ((e_op33b oi hoi).mpr h33)]
          have hc : e_chars oi = [117] := by rcases h33 with rfl | rfl <;> rfl
          have hfm' := hfm
          rw [hc] at hfm'
          obtain ⟨q1, -, -⟩ := e_u117 hfm'
          have hg : e_rg zgv q' vl' = vl' := by unfold e_rg; rw [if_pos q1]
          by_cases h23 : oi = 23
          · rw [if_pos ((e_op33c oi hoi).mpr h23)]
            by_cases c : vl' < 256
            · have cc : ¬ 0 ≤ lg_cmp (e_rg zgv q' vl') 256 := by rw [hg, lg_cmp_ge]; exact Int64.not_le.mpr c
              rw [if_neg cc]
              refine fin _ _ _ _ _ _ _ _ rfl ?_
              rw [e_rE_o]
              simp only [if_pos h23, if_pos c, hg]
            · have cc : 0 ≤ lg_cmp (e_rg zgv q' vl') 256 := by rw [hg, lg_cmp_ge]; exact Int64.not_lt.mp c
              rw [if_pos cc]
              refine fin _ _ _ _ _ _ _ _ rfl ?_
              rw [e_rE_o]
              simp only [if_pos h23, if_neg c]
          · have h24 : oi = 24 := h33.resolve_left h23
            rw [if_neg (fun e => h23 ((e_op33c oi hoi).mp e))]
            by_cases c : vl' < 4
            · have cc : ¬ 0 ≤ lg_cmp (e_rg zgv q' vl') 4 := by rw [hg, lg_cmp_ge]; exact Int64.not_le.mpr c
              rw [if_neg cc]
              refine fin _ _ _ _ _ _ _ _ rfl ?_
              rw [e_rE_o]
              simp only [if_neg h23, if_pos h24, if_pos c, hg]
            · have cc : 0 ≤ lg_cmp (e_rg zgv q' vl') 4 := by rw [hg, lg_cmp_ge]; exact Int64.not_lt.mp c
              rw [if_pos cc]
              refine fin _ _ _ _ _ _ _ _ rfl ?_
              rw [e_rE_o]
              simp only [if_neg h23, if_pos h24, if_neg c]
        · rw [if_neg (fun e => h33 ((e_op33b oi hoi).mp e)), e_rLay, g_m2_mk, g_m2_mk, g_m2_mk, g_m2_mk, g_m2_mk]
          refine fin _ _ _ _ _ _ _ _ rfl ?_
          have h23 : ¬ oi = 23 := fun e => h33 (Or.inl e)
          have h24 : ¬ oi = 24 := fun e => h33 (Or.inr e)
          rw [e_rE_o]
          simp only [if_neg h23, if_neg h24]
  · rw [if_neg cN, if_neg cN]
    have K := e_rEnd (zkk := zkk) (zkp := zkp) (zkv := zkv) (zfk := a) (zfp := b) (zat := c1) (zln := ln) (zlv := lv) (zla := la) (zpn := zpn) (zpa := zpa) (zpw := zpw) (zpk := zpk) (zpl := zpl) (zpp := zpp) (zbg := zbg) (znx := znx) (zmd := zmd) (zgv := zgv) ls
    refine ⟨K.1, fun es c h => ?_⟩
    obtain ⟨q1, q2⟩ := K.2 es c h
    subst q1
    exact ⟨_, _, _, _, _, _, _, _, _, _, _, _, _, _, _, hf, q2⟩
end E9
/-! what the loop keeps -/
def e_PA (zpn : Int32) (zpa : Nat → Int32) : Prop := ∀ k : Nat, (k : Int) < zpn.toInt → 0 ≤ (zpa k).toInt ∧ (zpa k).toInt ≤ 255
def e_J (zfk zfp zpn : Int32) (zpa : Nat → Int32) (znx : Int32) : Prop := e_vf zfk zfp ∧ 0 ≤ znx.toInt ∧ znx.toInt ≤ 256 + zpn.toInt ∧ (zfk = 0 → e_PA zpn zpa)
theorem e_J0 {zfk zfp : Int32} (h : e_vf zfk zfp) (zpa : Nat → Int32) : e_J zfk zfp 0 zpa 0 := ⟨h, by decide, by decide, fun _ k hk => by have z : (0 : Int32).toInt = 0 := rfl; omega⟩
def e_JR (R : e_R) : Prop := e_J R.1 R.2.1 R.2.2.2.2.2.1 R.2.2.2.2.2.2.1 R.2.2.2.2.2.2.2.2.2.2.2.2
theorem e_J_step {R : e_R} {ev : e_Ev} (h : e_JR R) (hw : e_wf ev) (b0 : 0 ≤ R.2.2.2.2.2.1.toInt) (b1 : R.2.2.2.2.2.1.toInt ≤ 1000) : e_JR (e_rE R ev) := by
  have m := e_rmono (R := R) ev h.1
  obtain ⟨zfk, zfp, zln, zlv, zla, zpn, zpa, zpw, zpk, zpl, zpp, zbg, znx⟩ := R
  obtain ⟨hv, j1, j2, j3⟩ := h
  have hv : e_vf zfk zfp := hv
  have j1 : 0 ≤ znx.toInt := j1
  have j2 : znx.toInt ≤ 256 + zpn.toInt := j2
  have j3 : zfk = 0 → e_PA zpn zpa := j3
  have b0 : 0 ≤ zpn.toInt := b0
  have b1 : zpn.toInt ≤ 1000 := b1
  have back : (e_rE (zfk, zfp, zln, zlv, zla, zpn, zpa, zpw, zpk, zpl, zpp, zbg, znx) ev).1 = 0 → zfk = 0 := fun h0 => by
    have k1 := (e_key_z m.1).mp h0
    have k2 : e_key (e_rE (zfk, zfp, zln, zlv, zla, zpn, zpa, zpw, zpk, zpl, zpp, zbg, znx) ev).1 (e_rE (zfk, zfp, zln, zlv, zla, zpn, zpa, zpw, zpk, zpl, zpp, zbg, znx) ev).2.1 ≤ e_key zfk zfp := m.2
    have k3 := e_key_le hv
    exact (e_key_z hv).mpr (by omega)
  rcases ev with ⟨nm, pl⟩ | ⟨oi, pl, ⟨cu, rg, q, nm, pN, vl⟩⟩
  · exact ⟨m.1, j1, j2, fun h0 => j3 (back h0)⟩
  · obtain ⟨w1, w2, w3, w4⟩ := hw
    have hc := e_cf1 (dn := fun _ => 0) (da := fun _ => 0) (dl := 0) (oi := oi) (q := q) (nm := nm) (pN := pN) (vl := vl) hv
    obtain ⟨-, fv, -, -, -⟩ := hc
    have hl := e_lf1 (znx := znx) (pl := pl) fv
    rw [e_rE_o] at m back ⊢
    have z256 : (256 : Int32).toInt = 256 := rfl
    by_cases h23 : oi = 23
    · simp only [if_pos h23] at m back ⊢
      obtain ⟨-, v0⟩ := w4 (Or.inl h23)
      refine ⟨m.1, ?_, ?_, fun h0 => j3 (back h0)⟩
      · show 0 ≤ (if vl < 256 then vl.toInt32 else 256).toInt
        split
        · rename_i c
          have q := Int64.lt_iff_toInt_lt.mp c
          have z : (256 : Int64).toInt = 256 := rfl
          have s := e_small v0 (by omega)
          omega
        · decide
      · show (if vl < 256 then vl.toInt32 else 256).toInt ≤ 256 + zpn.toInt
        split
        · rename_i c
          have q := Int64.lt_iff_toInt_lt.mp c
          have z : (256 : Int64).toInt = 256 := rfl
          have s := e_small v0 (by omega)
          omega
        · omega
    · by_cases h24 : oi = 24
      · simp only [if_neg h23, if_pos h24] at m back ⊢
        exact ⟨m.1, j1, j2, fun h0 => j3 (back h0)⟩
      · simp only [if_neg h23, if_neg h24] at m back ⊢
        obtain ⟨k1, k2, k3⟩ := e_cl1 (x := znx) j1 (by omega)
        obtain ⟨i1, i2, i3⟩ := e_cl1 (x := zpn) b0 (by omega)
        refine ⟨m.1, ?_, ?_, fun h0 => ?_⟩
        · show 0 ≤ (znx + 1).toInt; omega
        · show (znx + 1).toInt ≤ 256 + (zpn + 1).toInt; omega
        · show e_PA (zpn + 1) (upd zpa zpn.toNatClampNeg znx)
          have p := j3 (back h0)
          have z := (hl.2.1 h0).2
          intro k hk
          unfold upd
          by_cases e : k = zpn.toNatClampNeg
          · rw [if_pos e]; omega
          · rw [if_neg e]; exact p k (by omega)
theorem e_J_fold : ∀ (es : List e_Ev) (R : e_R), e_JR R → (∀ ev, ev ∈ es → e_wf ev) → 0 ≤ R.2.2.1.toInt → 0 ≤ R.2.2.2.2.2.1.toInt → R.2.2.1.toInt + e_nl es ≤ 1000 → R.2.2.2.2.2.1.toInt + e_no es ≤ 1000 → e_JR (es.foldl e_rE R) := by
  intro es
  induction es with
  | nil => intro R h _ _ _ _ _; exact h
  | cons ev es ih =>
    intro R h hw a1 a2 a3 a4
    have a3 : R.2.2.1.toInt + ((e_wl ev + e_nl es : Nat) : Int) ≤ 1000 := a3
    have a4 : R.2.2.2.2.2.1.toInt + ((e_wo ev + e_no es : Nat) : Int) ≤ 1000 := a4
    have st := e_rstep R ev a1 a2 (by omega) (by omega)
    exact ih _ (e_J_step h (hw _ List.mem_cons_self) a2 (by omega)) (fun e he => hw e (List.mem_cons_of_mem _ he)) (by omega) (by omega) (by omega) (by omega)
section E10
variable {zkk zkp : Nat → Int32} {zkv : Nat → Int64} {E : Nat} {zfk zfp zat zln : Int32} {zlv : Nat → Int64} {zla : Nat → Int32} {zpn : Int32} {zpa zpw zpk : Nat → Int32} {zpl : Nat → Int64} {zpp zbg : Nat → Int32} {znx zmd : Int32} {zgv : Int64} {r a b c ln : Int32} {lv : Nat → Int64} {la : Nat → Int32} {pn : Int32} {pa pw pk : Nat → Int32} {pl : Nat → Int64} {pp bg : Nat → Int32} {nx md : Int32} {gv : Int64}
theorem e_rsAll (hw : (r, a, b, c, ln, lv, la, pn, pa, pw, pk, pl, pp, bg, nx, md, gv) = m_Mod_readStatement zfk zfp zkk zkp zkv zat zln zlv zla zpn zpa zpw zpk zpl zpp zbg znx zmd zgv) (hz : zkk E = 0) (hnn : e_nn zkk zkv E) (h0 : 0 ≤ zat.toInt) (h1 : zat.toInt ≤ E) (hE : (E : Int) ≤ 480) (l0 : 0 ≤ zln.toInt) (l1 : 2 * zln.toInt ≤ zat.toInt) (p0 : 0 ≤ zpn.toInt) (p1 : 2 * zpn.toInt ≤ zat.toInt) (hJ : e_J zfk zfp zpn zpa znx) (hr : ¬ r.toInt = (0 : Int32).toInt) : (zat.toInt < c.toInt ∧ c.toInt ≤ E ∧ 0 ≤ ln.toInt ∧ 2 * ln.toInt ≤ c.toInt ∧ 0 ≤ pn.toInt ∧ 2 * pn.toInt ≤ c.toInt) ∧ e_J a b pn pa nx := by
  have hL : e_L zkk E := ⟨by omega, Or.inl hz⟩
  have K := e_rStmt (zkp := zkp) (zkv := zkv) hL hJ.1 h0 h1 l0 l1 (zlv := zlv) (zla := zla) (zpn := zpn) (zpa := zpa) (zpw := zpw) (zpk := zpk) (zpl := zpl) (zpp := zpp) (zbg := zbg) (znx := znx) (zmd := zmd) (zgv := zgv)
  rw [← hw] at K
  rcases hs : e_stmt zkk zkp zkv zat with p | ⟨es, c'⟩
  · obtain ⟨x, hx⟩ := K.1 p hs
    simp only [Prod.mk.injEq] at hx
    exact absurd (by rw [hx.1]) hr
  · obtain ⟨a', b', ln', lv', la', pn', pa', pw', pk', pl', pp', bg', nx', md', gv', hf, hx⟩ := K.2 es c' hs
    simp only [Prod.mk.injEq] at hx
    obtain ⟨-, rfl, rfl, rfl, rfl, rfl, rfl, rfl, rfl, rfl, rfl, rfl, rfl, rfl, rfl, -, -⟩ := hx
    obtain ⟨w1, w2, w3, w4, w5⟩ := e_stmt_wf hL hnn h0 h1 hs
    have cn := e_rcount es (zfk, zfp, zln, zlv, zla, zpn, zpa, zpw, zpk, zpl, zpp, zbg, znx) l0 p0 (by show zln.toInt + _ ≤ 1000; omega) (by show zpn.toInt + _ ≤ 1000; omega)
    have jf := e_J_fold es (zfk, zfp, zln, zlv, zla, zpn, zpa, zpw, zpk, zpl, zpp, zbg, znx) hJ w1 l0 p0 (by show zln.toInt + _ ≤ 1000; omega) (by show zpn.toInt + _ ≤ 1000; omega)
    rw [hf] at cn jf
    obtain ⟨c1, c2, c3⟩ := cn
    have c1 : ln.toInt = zln.toInt + _ := c1
    have c2 : zpn.toInt ≤ pn.toInt := c2
    have c3 : pn.toInt ≤ zpn.toInt + _ := c3
    exact ⟨⟨w4, w5, by omega, by omega, by omega, by omega⟩, jf⟩
theorem v_readStatement (hw : (r, a, b, c, ln, lv, la, pn, pa, pw, pk, pl, pp, bg, nx, md, gv) = m_Mod_readStatement zfk zfp zkk zkp zkv zat zln zlv zla zpn zpa zpw zpk zpl zpp zbg znx zmd zgv) (hz : zkk E = 0) (hnn : e_nn zkk zkv E) (h0 : 0 ≤ zat.toInt) (h1 : zat.toInt ≤ E) (hE : (E : Int) ≤ 480) (l0 : 0 ≤ zln.toInt) (l1 : 2 * zln.toInt ≤ zat.toInt) (p0 : 0 ≤ zpn.toInt) (p1 : 2 * zpn.toInt ≤ zat.toInt) (hJ : e_J zfk zfp zpn zpa znx) : ¬ r.toInt = (0 : Int32).toInt → zat.toInt < c.toInt ∧ c.toInt ≤ E ∧ 0 ≤ ln.toInt ∧ 2 * ln.toInt ≤ c.toInt ∧ 0 ≤ pn.toInt ∧ 2 * pn.toInt ≤ c.toInt := fun hr => (e_rsAll hw hz hnn h0 h1 hE l0 l1 p0 p1 hJ hr).1
theorem v_rsJ (hw : (r, a, b, c, ln, lv, la, pn, pa, pw, pk, pl, pp, bg, nx, md, gv) = m_Mod_readStatement zfk zfp zkk zkp zkv zat zln zlv zla zpn zpa zpw zpk zpl zpp zbg znx zmd zgv) (hz : zkk E = 0) (hnn : e_nn zkk zkv E) (h0 : 0 ≤ zat.toInt) (h1 : zat.toInt ≤ E) (hE : (E : Int) ≤ 480) (l0 : 0 ≤ zln.toInt) (l1 : 2 * zln.toInt ≤ zat.toInt) (p0 : 0 ≤ zpn.toInt) (p1 : 2 * zpn.toInt ≤ zat.toInt) (hJ : e_J zfk zfp zpn zpa znx) : ¬ r.toInt = (0 : Int32).toInt → e_J a b pn pa nx := fun hr => (e_rsAll hw hz hnn h0 h1 hE l0 l1 p0 p1 hJ hr).2
end E10
