def m_Order_spelled_L2 (lt : Int64) : Nat → Int32 → Option Nat
  | 0, x2 => none
  | n + 1, x2 =>
    if 25 ≤ x2 then
      none
    else
      if (lg_cmp (g_spl x2.toNatClampNeg) lt) = 0 then
        (some x2.toNatClampNeg)
      else
        m_Order_spelled_L2 lt n (x2 + 1)
theorem s_Order_spelled_0 {x2 : Int32} {n : Nat} (q_1 : ¬ (25 : Int32).toInt ≤ x2.toInt) (hm : (25 - x2.toInt).toNat < n + 1) (i_0 : 0 ≤ x2.toInt) : vp_in x2 25 := by rw [vp_in_iff]; have z0 : (25 : Int32).toInt = 25 := (by decide); have g0 := gz_r x2; omega
theorem s_Order_spelled_1 {x2 : Int32} {n : Nat} (q_1 : ¬ (25 : Int32).toInt ≤ x2.toInt) (hm : (25 - x2.toInt).toNat < n + 1) (i_0 : 0 ≤ x2.toInt) : 0 ≤ x2.toInt := by have z0 : (25 : Int32).toInt = 25 := (by decide); have g0 := gz_r x2; omega
theorem s_Order_spelled_2 {x2 : Int32} {n : Nat} (q_1 : ¬ (25 : Int32).toInt ≤ x2.toInt) (hm : (25 - x2.toInt).toNat < n + 1) (i_0 : 0 ≤ x2.toInt) : x2.toInt < (25 : Nat) := by have z0 : (25 : Int32).toInt = 25 := (by decide); have g0 := gz_r x2; omega
theorem s_Order_spelled_3 {x2 : Int32} {n : Nat} {lt : Int64} (q_1 : ¬ (25 : Int32).toInt ≤ x2.toInt) (q_2 : ¬ (lg_cmp (g_spl x2.toNatClampNeg) lt).toInt = (0 : Int32).toInt) (hm : (25 - x2.toInt).toNat < n + 1) (i_0 : 0 ≤ x2.toInt) : (25 - (x2 + 1).toInt).toNat < n := by have z0 : (0 : Int32).toInt = 0 := (by decide); have z1 : (1 : Int32).toInt = 1 := (by decide); have z2 : (25 : Int32).toInt = 25 := (by decide); have g0 := gz_r x2; have a0 := gz_a x2 1 (by omega) (by omega); omega
theorem s_Order_spelled_4 {x2 : Int32} {lt : Int64} {n : Nat} (q_1 : ¬ (25 : Int32).toInt ≤ x2.toInt) (q_2 : ¬ (lg_cmp (g_spl x2.toNatClampNeg) lt).toInt = (0 : Int32).toInt) (hm : (25 - x2.toInt).toNat < n + 1) (i_0 : 0 ≤ x2.toInt) : 0 ≤ (x2 + 1).toInt := by have z0 : (0 : Int32).toInt = 0 := (by decide); have z1 : (1 : Int32).toInt = 1 := (by decide); have z2 : (25 : Int32).toInt = 25 := (by decide); have g0 := gz_r x2; have a0 := gz_a x2 1 (by omega) (by omega); omega
theorem s_Order_spelled_5 {x2 : Int32} {lt : Int64} {n : Nat} (q_1 : ¬ (25 : Int32).toInt ≤ x2.toInt) (q_2 : (lg_cmp (g_spl x2.toNatClampNeg) lt).toInt = (0 : Int32).toInt) (hm : (25 - x2.toInt).toNat < n + 1) (i_0 : 0 ≤ x2.toInt) : vp_in x2 25 := by rw [vp_in_iff]; have z0 : (0 : Int32).toInt = 0 := (by decide); have z1 : (25 : Int32).toInt = 25 := (by decide); have g0 := gz_r x2; omega
set_option maxHeartbeats 4000000 in
set_option maxRecDepth 100000 in
theorem L_Order_spelled_2 {p : Program} {l : Launch} {e : Env} {s : State} {m : MethodId} {below : List Frame} {meth : Method} {c : Code} {dC : Nat → ClassId} {dI : Nat → Nat → Nat} {cB cI cJ : ClassId} {ad : Nat → Nat} {tA : Nat} {adK adV : Nat → Nat} {lt : Int64} {A : Nat → Prop} (C0 : g_Cx p s m meth c b_Order_spelled 3 (some (.object "AsmDesk$Order")) R_Order [.long lt].toArray) (hK : va_K (dC, dI) classes [(cB, .byte), (cI, .int), (cJ, .long)] s) (hA : ∀ q : Nat, s.heap.size ≤ q → A q) (hX : g_St ad tA adK adV A s s.heap) {res : Option Nat} :
    ∀ (n : Nat) (x2 : Int32), ((25 - x2.toInt).toNat) < n → (0 ≤ x2.toInt) → m_Order_spelled_L2 lt n x2 = res → ∀ (H : Heap) (locs : List Loc) (ls : Array Slot), va_P (dC, dI) classes [] H → va_D A [] → va_S A s.heap H locs → lv_has ls 3 [(2, .int x2), (0, .long lt)] → W p l e ({ frames := 0, cells := 0, slots := 0, locals := 0 }) s m [.long lt].toArray below meth c H locs 0 0 (MQ below (va_Qe ad (fun (r : Option Nat) (u : Unit) => r = res) (fun u => g_post dC dI [(cB, .byte), (cI, .int), (cJ, .long)] (A) []) (A)) [.long lt].toArray s 0 0 A) (F0 m 2 ls []) := by
  obtain ⟨hx, hb, hml, hr, hown, hts, hlocks⟩ := id C0
  obtain ⟨hVT, hZo, hZc, hZw, hZs, hOO, hEs, hEn, hEl, hEm, hEf, hKs, hinj, hZf, hZa⟩ := id hX
  intro n
  induction n with
  | zero => intro x2 hm; exact absurd hm (Nat.not_lt_zero _)
  | succ n ih =>
    intro x2 hm i_0 hres H locs ls hP hD hS hl
    refine lv_iload_n hx hb d_Order_spelled_2 rfl (lv_at hl 0 rfl) ?_
    refine va_gets hx hb (v := .ref tA) hZa hS hown (hts _ tw_29) (fun _ h9 => h9) d_Order_spelled_3 ?_
    refine va_tlen (v := 25) hx hb hVT hS rfl d_Order_spelled_6 ?_
    refine lv_icmp_ge (tgt := 35) hx hb d_Order_spelled_7 (by decide) (fun c_1 => ?_) (fun c_1 => ?_)
    · have q_1 := Int32.le_iff_toInt_le.mp c_1
      refine lv_null hx hb d_Order_spelled_35 ?_
      exact W.aret (v := va_re ad none) hx hb hr (Or.inl ⟨_, rfl⟩) (va_re_or ad _) (fun t ht hW => ⟨⟨none, (), rfl, by rw [← hres]; simp only [m_Order_spelled_L2, if_pos c_1], by rw [ht]; exact hP, va_K.moved hW.alike hK, hD⟩, hS.F ht⟩) hS.2.2 d_Order_spelled_36
    · have q_1 := mt Int32.le_iff_toInt_le.mpr c_1
      refine va_gets hx hb (v := .ref tA) hZa hS hown (hts _ tw_29) (fun _ h9 => h9) d_Order_spelled_10 ?_
      refine lv_iload_n hx hb d_Order_spelled_13 rfl (lv_at hl 0 rfl) ?_
      refine gt_aald hx hb hVT hS (s_Order_spelled_0 q_1 hm i_0) d_Order_spelled_14 ?_
      show W _ _ _ _ _ _ _ _ _ _ _ _ _ _ _ (F0 m _ ls (Value.ref (ad x2.toNatClampNeg) :: []))
      refine va_getX hx hb (i := x2.toNatClampNeg) hEs (gz_cl (s_Order_spelled_1 q_1 hm i_0) (s_Order_spelled_2 q_1 hm i_0)) hS hown (hts _ tw_30) (fun _ h9 => h9) d_Order_spelled_15 ?_
      refine lv_lload_n hx hb d_Order_spelled_18 rfl (lv_at hl 1 rfl) ?_
      refine W.lcmp hx hb d_Order_spelled_19 ?_
      refine lv_if_ne (tgt := 29) hx hb d_Order_spelled_20 (by decide) (fun c_2 => ?_) (fun c_2 => ?_)
      · have q_2 : ¬ _ = _ := fun h => c_2 (Int32.toInt_inj.mp h)
        refine lv_iinc (v := (x2 + 1)) (lv' := [(2, .int (x2 + 1)), (0, .long lt)]) hx hb d_Order_spelled_29 hl (k := 0) rfl rfl (by decide) rfl (fun ls hl => ?_)
        refine lv_goto (tgt := 2) hx hb d_Order_spelled_32 (by decide) ?_
        exact ih  (x2 + 1) (s_Order_spelled_3 q_1 q_2 hm i_0) (s_Order_spelled_4 q_1 q_2 hm i_0) (by rw [← hres]; simp only [m_Order_spelled_L2, if_neg c_1, if_neg c_2]) _ _ _ hP hD hS (lv_sub hl [0, 1] rfl)
      · have q_2 := congrArg Int32.toInt c_2
        refine va_gets hx hb (v := .ref tA) hZa hS hown (hts _ tw_29) (fun _ h9 => h9) d_Order_spelled_23 ?_
        refine lv_iload_n hx hb d_Order_spelled_26 rfl (lv_at hl 0 rfl) ?_
        refine gt_aald hx hb hVT hS (s_Order_spelled_5 q_1 q_2 hm i_0) d_Order_spelled_27 ?_
        show W _ _ _ _ _ _ _ _ _ _ _ _ _ _ _ (F0 m _ ls (Value.ref (ad x2.toNatClampNeg) :: []))
        exact W.aret (v := va_re ad (some x2.toNatClampNeg)) hx hb hr (Or.inl ⟨_, rfl⟩) (va_re_or ad _) (fun t ht hW => ⟨⟨(some x2.toNatClampNeg), (), rfl, by rw [← hres]; simp only [m_Order_spelled_L2, if_neg c_1, if_pos c_2], by rw [ht]; exact hP, va_K.moved hW.alike hK, hD⟩, hS.F ht⟩) hS.2.2 d_Order_spelled_28
def m_Order_spelled (lt : Int64) : Option Nat :=
  m_Order_spelled_L2 lt (26) 0
theorem s_Order_spelled_6 : (25 - (0 : Int32).toInt).toNat < (26) := by have z0 : (0 : Int32).toInt = 0 := (by decide); omega
theorem s_Order_spelled_7 : 0 ≤ (0 : Int32).toInt := by have z0 : (0 : Int32).toInt = 0 := (by decide); omega
set_option maxHeartbeats 4000000 in
set_option maxRecDepth 100000 in
theorem c_Order_spelled (l : Launch) (dC : Nat → ClassId) (dI : Nat → Nat → Nat) (cB cI cJ : ClassId) (ad : Nat → Nat) (tA : Nat) (adK adV : Nat → Nat) (sz : Nat) (lt : Int64) : Met l y_Order_spelled w_Order_spelled ({ frames := 0, cells := 0, slots := 0, locals := 0 }) (va_Pc [.long lt] (g_pre dC dI [(cB, .byte), (cI, .int), (cJ, .long)] sz [] (fun U => g_St ad tA adK adV (va_A [] sz) U U.heap))) (va_Qe ad (fun (r : Option Nat) (u : Unit) => r = (m_Order_spelled lt)) (fun u => g_post dC dI [(cB, .byte), (cI, .int), (cJ, .long)] (va_A [] sz) []) (va_A [] sz)) 0 0 (va_A [] sz) := by
  refine Met.ofW (cc := b_Order_spelled) (maxL := 3) (ret := (some (.object "AsmDesk$Order"))) (by decide) rfl ?_
  intro p e s m args below meth c s₁ B hml hv
  obtain ⟨rfl, hsz, hP, hK, hD0, hX⟩ := hv
  subst hsz
  have C0 : g_Cx p s m meth c b_Order_spelled 3 (some (.object "AsmDesk$Order")) R_Order [.long lt].toArray := g_start B hml rfl
  obtain ⟨hx, hb, hml, hr, hown, hts, hlocks⟩ := id C0
  have hD := hD0.self (sz := s.heap.size)
  generalize hAe : va_A [] s.heap.size = A at hD hX ⊢
  obtain ⟨hVT, hZo, hZc, hZw, hZs, hOO, hEs, hEn, hEl, hEm, hEf, hKs, hinj, hZf, hZa⟩ := id hX
  generalize hres : (m_Order_spelled lt) = res
  have hA : ∀ q : Nat, s.heap.size ≤ q → A q := fun q h => by rw [← hAe]; exact Or.inr h
  have hS : va_S A s.heap s.heap [] := va_S.rf
  have hl := lv_entry ([.long lt]) (n := 3) (Nat.le_of_ble_eq_true rfl)
  rw [lg_entry_eq]
  generalize (lg_sl ([.long lt]) ++ List.replicate (3 - (lg_sl ([.long lt])).length) Slot.unset).toArray = ls at hl ⊢
  have hl : lv_has ls 3 [(0, .long lt)] := hl
  refine lv_iconst (v := 0) hx hb d_Order_spelled_0 (by decide) ?_
  refine lv_istore_n (lv' := [(2, .int 0), (0, .long lt)]) hx hb d_Order_spelled_1 rfl hl (by decide) rfl (fun ls hl => ?_)
  exact L_Order_spelled_2 C0 hK hA hX (26) 0 (s_Order_spelled_6) (s_Order_spelled_7) (by rw [← hres]; simp only [m_Order_spelled]) _ _ _ hP hD hS (lv_sub hl [0, 1] rfl)
theorem v_Order_spelled_L (lt : Int64) : ∀ (n : Nat) (x2 : Int32) (i : Nat), 0 ≤ x2.toInt → m_Order_spelled_L2 lt n x2 = some i → i < 25 := by
  intro n
  have z : (25 : Int32).toInt = 25 := rfl
  have o : (1 : Int32).toInt = 1 := rfl
  induction n with
  | zero => intro x2 i _ h; cases h
  | succ n ih =>
    intro x2 i h0 h
    unfold m_Order_spelled_L2 at h
    split at h
    · cases h
    · rename_i c
      have q := mt Int32.le_iff_toInt_le.mpr c
      split at h
      · have e : x2.toNatClampNeg = i := Option.some.inj h
        rw [← e]
        exact gz_cl h0 (by omega)
      · have a := gz_a x2 1 (by omega) (by omega)
        exact ih (x2 + 1) i (by omega) h
theorem v_Order_spelled {i : Nat} {lt : Int64} (hw : some i = m_Order_spelled lt) : i < 25 := v_Order_spelled_L lt 26 0 i (by decide) hw.symm
def m_Order_fits (oi : Nat) (va : Int64) : Int32 :=
  if (lg_cmp va ((g_lst oi).toInt64)) < 0 then
    0
  else
    if 0 < (lg_cmp va ((g_mst oi).toInt64)) then
      0
    else
      1
set_option maxHeartbeats 4000000 in
set_option maxRecDepth 100000 in
theorem c_Order_fits (l : Launch) (dC : Nat → ClassId) (dI : Nat → Nat → Nat) (cB cI cJ : ClassId) (ad : Nat → Nat) (tA : Nat) (adK adV : Nat → Nat) (sz : Nat) (oi : Nat) (va : Int64) (h_oi : oi < 25) : Met l y_Order_fits w_Order_fits ({ frames := 0, cells := 0, slots := 0, locals := 0 }) (va_Pc [.ref (ad oi), .long va] (g_pre dC dI [(cB, .byte), (cI, .int), (cJ, .long)] sz [] (fun U => g_St ad tA adK adV (va_A [] sz) U U.heap))) (va_Qi (fun (r : Int32) (u : Unit) => r = (m_Order_fits oi va) ∧ narrow .boolean (.int r) = .int r) (fun u => g_post dC dI [(cB, .byte), (cI, .int), (cJ, .long)] (va_A [] sz) []) (va_A [] sz)) 0 0 (va_A [] sz) := by
  refine Met.ofW (cc := b_Order_fits) (maxL := 3) (ret := (some .boolean)) (by decide) rfl ?_
  intro p e s m args below meth c s₁ B hml hv
  obtain ⟨rfl, hsz, hP, hK, hD0, hX⟩ := hv
  subst hsz
  have C0 : g_Cx p s m meth c b_Order_fits 3 (some .boolean) R_Order [.ref (ad oi), .long va].toArray := g_start B hml rfl
  obtain ⟨hx, hb, hml, hr, hown, hts, hlocks⟩ := id C0
  have hD := hD0.self (sz := s.heap.size)
  generalize hAe : va_A [] s.heap.size = A at hD hX ⊢
  obtain ⟨hVT, hZo, hZc, hZw, hZs, hOO, hEs, hEn, hEl, hEm, hEf, hKs, hinj, hZf, hZa⟩ := id hX
  generalize hres : (m_Order_fits oi va) = res
  have hA : ∀ q : Nat, s.heap.size ≤ q → A q := fun q h => by rw [← hAe]; exact Or.inr h
  have hS : va_S A s.heap s.heap [] := va_S.rf
  have hl := lv_entry ([.ref (ad oi), .long va]) (n := 3) (Nat.le_of_ble_eq_true rfl)
  rw [lg_entry_eq]
  generalize (lg_sl ([.ref (ad oi), .long va]) ++ List.replicate (3 - (lg_sl ([.ref (ad oi), .long va])).length) Slot.unset).toArray = ls at hl ⊢
  have hl : lv_has ls 3 [(0, .ref (ad oi)), (1, .long va)] := hl
  refine lv_lload_n hx hb d_Order_fits_0 rfl (lv_at hl 1 rfl) ?_
  refine lv_aload_n hx hb d_Order_fits_1 rfl (lv_at hl 0 rfl) ?_
  refine va_getX hx hb (i := oi) hEl (h_oi) hS hown (hts _ tw_31) (fun _ h9 => h9) d_Order_fits_2 ?_
  refine lv_i2l (v := ((g_lst oi).toInt64)) hx hb d_Order_fits_5 rfl ?_
  refine W.lcmp hx hb d_Order_fits_6 ?_
  refine lv_if_lt (tgt := 24) hx hb d_Order_fits_7 (by decide) (fun c_1 => ?_) (fun c_1 => ?_)
  · have q_1 := Int32.lt_iff_toInt_lt.mp c_1
    refine lv_iconst (v := 0) hx hb d_Order_fits_24 (by decide) ?_
    exact W.zret (v := 0) hx hb hr rfl (fun t ht hW => ⟨⟨0, (), rfl, ⟨by rw [← hres]; simp only [m_Order_fits, if_pos c_1], rfl⟩, by rw [ht]; exact hP, va_K.moved hW.alike hK, hD⟩, hS.F ht⟩) hS.2.2 d_Order_fits_25
  · have q_1 := mt Int32.lt_iff_toInt_lt.mpr c_1
    refine lv_lload_n hx hb d_Order_fits_10 rfl (lv_at hl 1 rfl) ?_
    refine lv_aload_n hx hb d_Order_fits_11 rfl (lv_at hl 0 rfl) ?_
    refine va_getX hx hb (i := oi) hEm (h_oi) hS hown (hts _ tw_32) (fun _ h9 => h9) d_Order_fits_12 ?_
    refine lv_i2l (v := ((g_mst oi).toInt64)) hx hb d_Order_fits_15 rfl ?_
    refine W.lcmp hx hb d_Order_fits_16 ?_
    refine lv_if_gt (tgt := 24) hx hb d_Order_fits_17 (by decide) (fun c_2 => ?_) (fun c_2 => ?_)
    · have q_2 := Int32.lt_iff_toInt_lt.mp c_2
      refine lv_iconst (v := 0) hx hb d_Order_fits_24 (by decide) ?_
      exact W.zret (v := 0) hx hb hr rfl (fun t ht hW => ⟨⟨0, (), rfl, ⟨by rw [← hres]; simp only [m_Order_fits, if_neg c_1, if_pos c_2], rfl⟩, by rw [ht]; exact hP, va_K.moved hW.alike hK, hD⟩, hS.F ht⟩) hS.2.2 d_Order_fits_25
    · have q_2 := mt Int32.lt_iff_toInt_lt.mpr c_2
      refine lv_iconst (v := 1) hx hb d_Order_fits_20 (by decide) ?_
      refine lv_goto (tgt := 25) hx hb d_Order_fits_21 (by decide) ?_
      exact W.zret (v := 1) hx hb hr rfl (fun t ht hW => ⟨⟨1, (), rfl, ⟨by rw [← hres]; simp only [m_Order_fits, if_neg c_1, if_neg c_2], rfl⟩, by rw [ht]; exact hP, va_K.moved hW.alike hK, hD⟩, hS.F ht⟩) hS.2.2 d_Order_fits_25
def m_String_coder (j : Nat) : Int32 :=
  0
set_option maxHeartbeats 4000000 in
set_option maxRecDepth 100000 in
theorem c_String_coder (l : Launch) (dC : Nat → ClassId) (dI : Nat → Nat → Nat) (cB cI cJ : ClassId) (ad : Nat → Nat) (tA : Nat) (adK adV : Nat → Nat) (sz : Nat) (j : Nat) (h_j : j < g_nst) : Met l y_String_coder w_String_coder ({ frames := 0, cells := 0, slots := 0, locals := 0 }) (va_Pc [.ref (adK j)] (g_pre dC dI [(cB, .byte), (cI, .int), (cJ, .long)] sz [] (fun U => g_St ad tA adK adV (va_A [] sz) U U.heap))) (va_Qi (fun (r : Int32) (u : Unit) => r = (m_String_coder j) ∧ narrow .byte (.int r) = .int r) (fun u => g_post dC dI [(cB, .byte), (cI, .int), (cJ, .long)] (va_A [] sz) []) (va_A [] sz)) 0 0 (va_A [] sz) := by
  refine Met.ofW (cc := b_String_coder) (maxL := 1) (ret := (some .byte)) (by decide) rfl ?_
  intro p e s m args below meth c s₁ B hml hv
  obtain ⟨rfl, hsz, hP, hK, hD0, hX⟩ := hv
  subst hsz
  have C0 : g_Cx p s m meth c b_String_coder 1 (some .byte) R_String [.ref (adK j)].toArray := g_start B hml rfl
  obtain ⟨hx, hb, hml, hr, hown, hts, hlocks⟩ := id C0
  have hD := hD0.self (sz := s.heap.size)
  generalize hAe : va_A [] s.heap.size = A at hD hX ⊢
  obtain ⟨hVT, hZo, hZc, hZw, hZs, hOO, hEs, hEn, hEl, hEm, hEf, hKs, hinj, hZf, hZa⟩ := id hX
  generalize hres : (m_String_coder j) = res
  have hA : ∀ q : Nat, s.heap.size ≤ q → A q := fun q h => by rw [← hAe]; exact Or.inr h
  have hS : va_S A s.heap s.heap [] := va_S.rf
  have hl := lv_entry ([.ref (adK j)]) (n := 1) (Nat.le_of_ble_eq_true rfl)
  rw [lg_entry_eq]
  generalize (lg_sl ([.ref (adK j)]) ++ List.replicate (1 - (lg_sl ([.ref (adK j)])).length) Slot.unset).toArray = ls at hl ⊢
  have hl : lv_has ls 1 [(0, .ref (adK j))] := hl
  refine va_gets hx hb (v := .int 1) hZs hS hown (hts _ tw_33) (fun _ h9 => h9) d_String_coder_0 ?_
  refine lv_if_eq (tgt := 13) hx hb d_String_coder_3 (by decide) (fun c_1 => absurd c_1 (by decide)) (fun c_1 => ?_)
  refine lv_aload_n hx hb d_String_coder_6 rfl (lv_at hl 0 rfl) ?_
  refine vk_getf hx hb (hKs.1 j (h_j)).2.1 hS hown (hts _ tw_34) (fun _ h9 => h9) d_String_coder_7 ?_
  refine lv_goto (tgt := 14) hx hb d_String_coder_10 (by decide) ?_
  exact W.zret (v := 0) hx hb hr rfl (fun t ht hW => ⟨⟨0, (), rfl, ⟨by rw [← hres]; simp only [m_String_coder], rfl⟩, by rw [ht]; exact hP, va_K.moved hW.alike hK, hD⟩, hS.F ht⟩) hS.2.2 d_String_coder_14
def m_String_isLatin1 (j : Nat) : Int32 :=
  1
set_option maxHeartbeats 4000000 in
set_option maxRecDepth 100000 in
theorem c_String_isLatin1 (l : Launch) (dC : Nat → ClassId) (dI : Nat → Nat → Nat) (cB cI cJ : ClassId) (ad : Nat → Nat) (tA : Nat) (adK adV : Nat → Nat) (sz : Nat) (j : Nat) (h_j : j < g_nst) : Met l y_String_isLatin1 w_String_isLatin1 ({ frames := 0, cells := 0, slots := 0, locals := 0 }) (va_Pc [.ref (adK j)] (g_pre dC dI [(cB, .byte), (cI, .int), (cJ, .long)] sz [] (fun U => g_St ad tA adK adV (va_A [] sz) U U.heap))) (va_Qi (fun (r : Int32) (u : Unit) => r = (m_String_isLatin1 j) ∧ narrow .boolean (.int r) = .int r) (fun u => g_post dC dI [(cB, .byte), (cI, .int), (cJ, .long)] (va_A [] sz) []) (va_A [] sz)) 0 0 (va_A [] sz) := by
  refine Met.ofW (cc := b_String_isLatin1) (maxL := 1) (ret := (some .boolean)) (by decide) rfl ?_
  intro p e s m args below meth c s₁ B hml hv
  obtain ⟨rfl, hsz, hP, hK, hD0, hX⟩ := hv
  subst hsz
  have C0 : g_Cx p s m meth c b_String_isLatin1 1 (some .boolean) R_String [.ref (adK j)].toArray := g_start B hml rfl
  obtain ⟨hx, hb, hml, hr, hown, hts, hlocks⟩ := id C0
  have hD := hD0.self (sz := s.heap.size)
  generalize hAe : va_A [] s.heap.size = A at hD hX ⊢
  obtain ⟨hVT, hZo, hZc, hZw, hZs, hOO, hEs, hEn, hEl, hEm, hEf, hKs, hinj, hZf, hZa⟩ := id hX
  generalize hres : (m_String_isLatin1 j) = res
  have hA : ∀ q : Nat, s.heap.size ≤ q → A q := fun q h => by rw [← hAe]; exact Or.inr h
  have hS : va_S A s.heap s.heap [] := va_S.rf
  have hl := lv_entry ([.ref (adK j)]) (n := 1) (Nat.le_of_ble_eq_true rfl)
  rw [lg_entry_eq]
  generalize (lg_sl ([.ref (adK j)]) ++ List.replicate (1 - (lg_sl ([.ref (adK j)])).length) Slot.unset).toArray = ls at hl ⊢
  have hl : lv_has ls 1 [(0, .ref (adK j))] := hl
  refine va_gets hx hb (v := .int 1) hZs hS hown (hts _ tw_33) (fun _ h9 => h9) d_String_isLatin1_0 ?_
  refine lv_if_eq (tgt := 17) hx hb d_String_isLatin1_3 (by decide) (fun c_1 => absurd c_1 (by decide)) (fun c_1 => ?_)
  refine lv_aload_n hx hb d_String_isLatin1_6 rfl (lv_at hl 0 rfl) ?_
  refine vk_getf hx hb (hKs.1 j (h_j)).2.1 hS hown (hts _ tw_34) (fun _ h9 => h9) d_String_isLatin1_7 ?_
  refine lv_if_ne (tgt := 17) hx hb d_String_isLatin1_10 (by decide) (fun c_2 => absurd (by decide) c_2) (fun c_2 => ?_)
  refine lv_iconst (v := 1) hx hb d_String_isLatin1_13 (by decide) ?_
  refine lv_goto (tgt := 18) hx hb d_String_isLatin1_14 (by decide) ?_
  exact W.zret (v := 1) hx hb hr rfl (fun t ht hW => ⟨⟨1, (), rfl, ⟨by rw [← hres]; simp only [m_String_isLatin1], rfl⟩, by rw [ht]; exact hP, va_K.moved hW.alike hK, hD⟩, hS.F ht⟩) hS.2.2 d_String_isLatin1_18
def m_String_length (j : Nat) : Int32 :=
  ((Int32.ofNat (g_len.getD j 0)) >>> ((m_String_coder j) &&& 31))
theorem s_String_length_0 {j : Nat} (h_j : j < g_nst) : j < g_nst := by omega
set_option maxHeartbeats 4000000 in
set_option maxRecDepth 100000 in
theorem c_String_length (l : Launch) (dC : Nat → ClassId) (dI : Nat → Nat → Nat) (cB cI cJ : ClassId) (ad : Nat → Nat) (tA : Nat) (adK adV : Nat → Nat) (sz : Nat) (j : Nat) (h_j : j < g_nst) : Met l y_String_length w_String_length ({ frames := 1, cells := 0, slots := 0, locals := 20 }) (va_Pc [.ref (adK j)] (g_pre dC dI [(cB, .byte), (cI, .int), (cJ, .long)] sz [] (fun U => g_St ad tA adK adV (va_A [] sz) U U.heap))) (va_Qi (fun (r : Int32) (u : Unit) => r = (m_String_length j)) (fun u => g_post dC dI [(cB, .byte), (cI, .int), (cJ, .long)] (va_A [] sz) []) (va_A [] sz)) 0 0 (va_A [] sz) := by
  refine Met.ofW (cc := b_String_length) (maxL := 1) (ret := (some .int)) (by decide) rfl ?_
  intro p e s m args below meth c s₁ B hml hv
  obtain ⟨rfl, hsz, hP, hK, hD0, hX⟩ := hv
  subst hsz
  have C0 : g_Cx p s m meth c b_String_length 1 (some .int) R_String [.ref (adK j)].toArray := g_start B hml rfl
  obtain ⟨hx, hb, hml, hr, hown, hts, hlocks⟩ := id C0
  have hD := hD0.self (sz := s.heap.size)
  generalize hAe : va_A [] s.heap.size = A at hD hX ⊢
  obtain ⟨hVT, hZo, hZc, hZw, hZs, hOO, hEs, hEn, hEl, hEm, hEf, hKs, hinj, hZf, hZa⟩ := id hX
  generalize hres : (m_String_length j) = res
  have hA : ∀ q : Nat, s.heap.size ≤ q → A q := fun q h => by rw [← hAe]; exact Or.inr h
  have hS : va_S A s.heap s.heap [] := va_S.rf
  have hl := lv_entry ([.ref (adK j)]) (n := 1) (Nat.le_of_ble_eq_true rfl)
  rw [lg_entry_eq]
  generalize (lg_sl ([.ref (adK j)]) ++ List.replicate (1 - (lg_sl ([.ref (adK j)])).length) Slot.unset).toArray = ls at hl ⊢
  have hl : lv_has ls 1 [(0, .ref (adK j))] := hl
  refine lv_aload_n hx hb d_String_length_0 rfl (lv_at hl 0 rfl) ?_
  refine vk_getf hx hb (hKs.1 j (h_j)).2.2.1 hS hown (hts _ tw_35) (fun _ h9 => h9) d_String_length_1 ?_
  refine va_tlen hx hb (hKs.1 j (h_j)).2.2.2 hS rfl d_String_length_4 ?_
  refine lv_aload_n hx hb d_String_length_5 rfl (lv_at hl 0 rfl) ?_
  refine gk_i (isC := []) (isR := []) (perm := []) (wr := []) (can := fun u => []) (gr_E C0 (c_String_coder l dC dI cB cI cJ ad tA adK adV _ j (s_String_length_0 h_j)) cs_String_335 hK hP hD [] rfl (by decide) g_Sb (g_Sx hX hS (va_free hD hS hA [] rfl)) (g_rcK hX hS (h_j)) rfl rfl hl.1 rfl (lv_room (Nat.le_of_ble_eq_true rfl)) d_String_length_6 ⟨Nat.le_of_ble_eq_true rfl, Nat.le_of_ble_eq_true rfl⟩ ⟨Nat.le_of_ble_eq_true rfl, Nat.le_of_ble_eq_true rfl⟩) hP hD hS hA rfl rfl (by decide) (by decide) (by decide) (fun _ => rfl) (fun r_1 u_1 H locs hw_1 hP hD hS => ?_)
  obtain ⟨hw_1, hb_1⟩ := hw_1
  rw [hw_1]; rw [hw_1] at hb_1
  refine lv_ishr hx hb d_String_length_9 ?_
  exact W.iret (v := ((Int32.ofNat (g_len.getD j 0)) >>> ((m_String_coder j) &&& 31))) hx hb hr (fun t ht hW => ⟨⟨((Int32.ofNat (g_len.getD j 0)) >>> ((m_String_coder j) &&& 31)), (), rfl, by rw [← hres]; simp only [m_String_length], by rw [ht]; exact hP, va_K.moved hW.alike hK, hD⟩, hS.F ht⟩) hS.2.2 d_String_length_10
def m_Pre_checkN (i : Int32) (k : Int32) : Int32 :=
  i
set_option maxHeartbeats 4000000 in
set_option maxRecDepth 100000 in
theorem c_Pre_checkN (l : Launch) (dC : Nat → ClassId) (dI : Nat → Nat → Nat) (cB cI cJ : ClassId) (sz : Nat) (i : Int32) (k : Int32) (h_i0 : 0 ≤ i.toInt) (h_i1 : i.toInt < k.toInt) : Met l y_Pre_checkN w_Pre_checkN ({ frames := 0, cells := 0, slots := 0, locals := 0 }) (va_Pc [.int i, .int k, .null] (g_pre dC dI [(cB, .byte), (cI, .int), (cJ, .long)] sz [] (fun _ => True))) (va_Qi (fun (r : Int32) (u : Unit) => r = (m_Pre_checkN i k)) (fun u => g_post dC dI [(cB, .byte), (cI, .int), (cJ, .long)] (va_A [] sz) []) (va_A [] sz)) 0 0 (va_A [] sz) := by
  refine Met.ofW (cc := b_Pre_checkN) (maxL := 3) (ret := (some .int)) (by decide) rfl ?_
  intro p e s m args below meth c s₁ B hml hv
  obtain ⟨rfl, hsz, hP, hK, hD0, hX⟩ := hv
  subst hsz
  have C0 : g_Cx p s m meth c b_Pre_checkN 3 (some .int) R_Precond [.int i, .int k, .null].toArray := g_start B hml rfl
  obtain ⟨hx, hb, hml, hr, hown, hts, hlocks⟩ := id C0
  have hD := hD0.self (sz := s.heap.size)
  generalize hAe : va_A [] s.heap.size = A at hD ⊢
  generalize hres : (m_Pre_checkN i k) = res
  have hA : ∀ q : Nat, s.heap.size ≤ q → A q := fun q h => by rw [← hAe]; exact Or.inr h
  have hS : va_S A s.heap s.heap [] := va_S.rf
  have hl := lv_entry ([.int i, .int k, .null]) (n := 3) (Nat.le_of_ble_eq_true rfl)
  rw [lg_entry_eq]
  generalize (lg_sl ([.int i, .int k, .null]) ++ List.replicate (3 - (lg_sl ([.int i, .int k, .null])).length) Slot.unset).toArray = ls at hl ⊢
  have hl : lv_has ls 3 [(0, .int i), (1, .int k), (2, .null)] := hl
  refine lv_iload_n hx hb d_Pre_checkN_0 rfl (lv_at hl 0 rfl) ?_
  refine lv_if_lt (tgt := 9) hx hb d_Pre_checkN_1 (by decide) (fun c_1 => absurd c_1 (by rw [Int32.lt_iff_toInt_lt]; have z : (0 : Int32).toInt = 0 := rfl; omega)) (fun c_1 => ?_)
  refine lv_iload_n hx hb d_Pre_checkN_4 rfl (lv_at hl 0 rfl) ?_
  refine lv_iload_n hx hb d_Pre_checkN_5 rfl (lv_at hl 1 rfl) ?_
  refine lv_icmp_lt (tgt := 16) hx hb d_Pre_checkN_6 (by decide) (fun c_2 => ?_) (fun c_2 => absurd (by rw [Int32.lt_iff_toInt_lt]; have z : (0 : Int32).toInt = 0 := rfl; omega) c_2)
  refine lv_iload_n hx hb d_Pre_checkN_16 rfl (lv_at hl 0 rfl) ?_
  exact W.iret (v := i) hx hb hr (fun t ht hW => ⟨⟨i, (), rfl, by rw [← hres]; simp only [m_Pre_checkN], by rw [ht]; exact hP, va_K.moved hW.alike hK, hD⟩, hS.F ht⟩) hS.2.2 d_Pre_checkN_17
def m_Pre_checkR (i : Int32) (k : Int32) (fo : Nat) : Int32 :=
  i
set_option maxHeartbeats 4000000 in
set_option maxRecDepth 100000 in
theorem c_Pre_checkR (l : Launch) (dC : Nat → ClassId) (dI : Nat → Nat → Nat) (cB cI cJ : ClassId) (sz : Nat) (i : Int32) (k : Int32) (fo : Nat) (h_i0 : 0 ≤ i.toInt) (h_i1 : i.toInt < k.toInt) : Met l y_Pre_checkR w_Pre_checkR ({ frames := 0, cells := 0, slots := 0, locals := 0 }) (va_Pc [.int i, .int k, .ref fo] (g_pre dC dI [(cB, .byte), (cI, .int), (cJ, .long)] sz [] (fun _ => True))) (va_Qi (fun (r : Int32) (u : Unit) => r = (m_Pre_checkR i k fo)) (fun u => g_post dC dI [(cB, .byte), (cI, .int), (cJ, .long)] (va_A [] sz) []) (va_A [] sz)) 0 0 (va_A [] sz) := by
  refine Met.ofW (cc := b_Pre_checkR) (maxL := 3) (ret := (some .int)) (by decide) rfl ?_
  intro p e s m args below meth c s₁ B hml hv
  obtain ⟨rfl, hsz, hP, hK, hD0, hX⟩ := hv
  subst hsz
  have C0 : g_Cx p s m meth c b_Pre_checkR 3 (some .int) R_Precond [.int i, .int k, .ref fo].toArray := g_start B hml rfl
  obtain ⟨hx, hb, hml, hr, hown, hts, hlocks⟩ := id C0
  have hD := hD0.self (sz := s.heap.size)
  generalize hAe : va_A [] s.heap.size = A at hD ⊢
  generalize hres : (m_Pre_checkR i k fo) = res
  have hA : ∀ q : Nat, s.heap.size ≤ q → A q := fun q h => by rw [← hAe]; exact Or.inr h
  have hS : va_S A s.heap s.heap [] := va_S.rf
  have hl := lv_entry ([.int i, .int k, .ref fo]) (n := 3) (Nat.le_of_ble_eq_true rfl)
  rw [lg_entry_eq]
  generalize (lg_sl ([.int i, .int k, .ref fo]) ++ List.replicate (3 - (lg_sl ([.int i, .int k, .ref fo])).length) Slot.unset).toArray = ls at hl ⊢
  have hl : lv_has ls 3 [(0, .int i), (1, .int k), (2, .ref fo)] := hl
  refine lv_iload_n hx hb d_Pre_checkR_0 rfl (lv_at hl 0 rfl) ?_
  refine lv_if_lt (tgt := 9) hx hb d_Pre_checkR_1 (by decide) (fun c_1 => absurd c_1 (by rw [Int32.lt_iff_toInt_lt]; have z : (0 : Int32).toInt = 0 := rfl; omega)) (fun c_1 => ?_)
  refine lv_iload_n hx hb d_Pre_checkR_4 rfl (lv_at hl 0 rfl) ?_
  refine lv_iload_n hx hb d_Pre_checkR_5 rfl (lv_at hl 1 rfl) ?_
  refine lv_icmp_lt (tgt := 16) hx hb d_Pre_checkR_6 (by decide) (fun c_2 => ?_) (fun c_2 => absurd (by rw [Int32.lt_iff_toInt_lt]; have z : (0 : Int32).toInt = 0 := rfl; omega) c_2)
  refine lv_iload_n hx hb d_Pre_checkR_16 rfl (lv_at hl 0 rfl) ?_
  exact W.iret (v := i) hx hb hr (fun t ht hW => ⟨⟨i, (), rfl, by rw [← hres]; simp only [m_Pre_checkR], by rw [ht]; exact hP, va_K.moved hW.alike hK, hD⟩, hS.F ht⟩) hS.2.2 d_Pre_checkR_17
def m_String_checkIndex (i : Int32) (k : Int32) : Unit :=
  ()
theorem s_String_checkIndex_0 {i : Int32} {k : Int32} (h_i0 : 0 ≤ i.toInt) (h_i1 : i.toInt < k.toInt) : 0 ≤ i.toInt := by have g0 := gz_r i; have g1 := gz_r k; omega
theorem s_String_checkIndex_1 {i : Int32} {k : Int32} (h_i0 : 0 ≤ i.toInt) (h_i1 : i.toInt < k.toInt) : i.toInt < k.toInt := by have g0 := gz_r i; have g1 := gz_r k; omega
theorem s_String_checkIndex_2 {i : Int32} {k : Int32} (h_i0 : 0 ≤ i.toInt) (h_i1 : i.toInt < k.toInt) : 0 ≤ i.toInt := by have g0 := gz_r i; have g1 := gz_r k; omega
theorem s_String_checkIndex_3 {i : Int32} {k : Int32} (h_i0 : 0 ≤ i.toInt) (h_i1 : i.toInt < k.toInt) : i.toInt < k.toInt := by have g0 := gz_r i; have g1 := gz_r k; omega
set_option maxHeartbeats 4000000 in
set_option maxRecDepth 100000 in
theorem c_String_checkIndex (l : Launch) (dC : Nat → ClassId) (dI : Nat → Nat → Nat) (cB cI cJ : ClassId) (ad : Nat → Nat) (tA : Nat) (adK adV : Nat → Nat) (sz : Nat) (i : Int32) (k : Int32) (h_i0 : 0 ≤ i.toInt) (h_i1 : i.toInt < k.toInt) : Met l y_String_checkIndex w_String_checkIndex ({ frames := 1, cells := 0, slots := 0, locals := 22 }) (va_Pc [.int i, .int k] (g_pre dC dI [(cB, .byte), (cI, .int), (cJ, .long)] sz [] (fun U => g_St ad tA adK adV (va_A [] sz) U U.heap))) (va_Qv (fun u : Unit => True) (fun u => g_post dC dI [(cB, .byte), (cI, .int), (cJ, .long)] (va_A [] sz) []) (va_A [] sz)) 0 0 (va_A [] sz) := by
  refine Met.ofW (cc := b_String_checkIndex) (maxL := 2) (ret := none) (by decide) rfl ?_
  intro p e s m args below meth c s₁ B hml hv
  obtain ⟨rfl, hsz, hP, hK, hD0, hX⟩ := hv
  subst hsz
  have C0 : g_Cx p s m meth c b_String_checkIndex 2 none R_String [.int i, .int k].toArray := g_start B hml rfl
  obtain ⟨hx, hb, hml, hr, hown, hts, hlocks⟩ := id C0
  have hD := hD0.self (sz := s.heap.size)
  generalize hAe : va_A [] s.heap.size = A at hD hX ⊢
  obtain ⟨hVT, hZo, hZc, hZw, hZs, hOO, hEs, hEn, hEl, hEm, hEf, hKs, hinj, hZf, hZa⟩ := id hX
  have hA : ∀ q : Nat, s.heap.size ≤ q → A q := fun q h => by rw [← hAe]; exact Or.inr h
  have hS : va_S A s.heap s.heap [] := va_S.rf
  have hl := lv_entry ([.int i, .int k]) (n := 2) (Nat.le_of_ble_eq_true rfl)
  rw [lg_entry_eq]
  generalize (lg_sl ([.int i, .int k]) ++ List.replicate (2 - (lg_sl ([.int i, .int k])).length) Slot.unset).toArray = ls at hl ⊢
  have hl : lv_has ls 2 [(0, .int i), (1, .int k)] := hl
  refine lv_iload_n hx hb d_String_checkIndex_0 rfl (lv_at hl 0 rfl) ?_
  refine lv_iload_n hx hb d_String_checkIndex_1 rfl (lv_at hl 1 rfl) ?_
  rcases hZf with hZf | ⟨fo, hZf⟩
  · refine va_gets hx hb (v := .null) hZf hS hown (hts _ tw_36) (fun _ h9 => h9) d_String_checkIndex_2 ?_
    refine gk_i (isC := []) (isR := []) (perm := []) (wr := []) (can := fun u => []) (gr_S C0 (c_Pre_checkN l dC dI cB cI cJ _ i k (s_String_checkIndex_0 h_i0 h_i1) (s_String_checkIndex_1 h_i0 h_i1)) cs_String_1059 hK hP hD [] rfl (by decide) g_tb g_tx rfl rfl hl.1 rfl (lv_room (Nat.le_of_ble_eq_true rfl)) d_String_checkIndex_5 ⟨Nat.le_of_ble_eq_true rfl, Nat.le_of_ble_eq_true rfl⟩ ⟨Nat.le_of_ble_eq_true rfl, Nat.le_of_ble_eq_true rfl⟩) hP hD hS hA rfl rfl (by decide) (by decide) (by decide) (fun _ => rfl) (fun r_1 u_1 H locs hw_1 hP hD hS => ?_)
    rw [hw_1]
    refine lv_pop hx hb d_String_checkIndex_8 rfl ?_
    exact W.vret hx hb hr (fun t ht hW => ⟨⟨(), rfl, trivial, by rw [ht]; exact hP, va_K.moved hW.alike hK, hD⟩, hS.F ht⟩) hS.2.2 d_String_checkIndex_9
  · refine va_gets hx hb (v := .ref fo) hZf hS hown (hts _ tw_36) (fun _ h9 => h9) d_String_checkIndex_2 ?_
    refine gk_i (isC := []) (isR := []) (perm := []) (wr := []) (can := fun u => []) (gr_S C0 (c_Pre_checkR l dC dI cB cI cJ _ i k fo (s_String_checkIndex_2 h_i0 h_i1) (s_String_checkIndex_3 h_i0 h_i1)) cs_String_1059 hK hP hD [] rfl (by decide) g_tb g_tx rfl rfl hl.1 rfl (lv_room (Nat.le_of_ble_eq_true rfl)) d_String_checkIndex_5 ⟨Nat.le_of_ble_eq_true rfl, Nat.le_of_ble_eq_true rfl⟩ ⟨Nat.le_of_ble_eq_true rfl, Nat.le_of_ble_eq_true rfl⟩) hP hD hS hA rfl rfl (by decide) (by decide) (by decide) (fun _ => rfl) (fun r_2 u_2 H locs hw_2 hP hD hS => ?_)
    rw [hw_2]
    refine lv_pop hx hb d_String_checkIndex_8 rfl ?_
    exact W.vret hx hb hr (fun t ht hW => ⟨⟨(), rfl, trivial, by rw [ht]; exact hP, va_K.moved hW.alike hK, hD⟩, hS.F ht⟩) hS.2.2 d_String_checkIndex_9
def m_Latin1_charAt (j : Nat) (i : Int32) : Int32 :=
  (((((g_byt.getD j []).getD i.toNatClampNeg 0) &&& 255).toUInt32 % 65536).toInt32)
theorem s_Latin1_charAt_0 {i : Int32} {j : Nat} (h_j : j < g_nst) (h_i0 : 0 ≤ i.toInt) (h_i1 : i.toInt < (Int32.ofNat (g_len.getD j 0)).toInt) : 0 ≤ i.toInt := by have g0 := gz_r i; omega
theorem s_Latin1_charAt_1 {i : Int32} {j : Nat} (h_j : j < g_nst) (h_i0 : 0 ≤ i.toInt) (h_i1 : i.toInt < (Int32.ofNat (g_len.getD j 0)).toInt) : i.toInt < (Int32.ofNat (g_len.getD j 0)).toInt := by have g0 := gz_r i; omega
set_option maxHeartbeats 4000000 in
set_option maxRecDepth 100000 in
theorem c_Latin1_charAt (l : Launch) (dC : Nat → ClassId) (dI : Nat → Nat → Nat) (cB cI cJ : ClassId) (ad : Nat → Nat) (tA : Nat) (adK adV : Nat → Nat) (sz : Nat) (j : Nat) (i : Int32) (h_j : j < g_nst) (h_i0 : 0 ≤ i.toInt) (h_i1 : i.toInt < (Int32.ofNat (g_len.getD j 0)).toInt) : Met l y_Latin1_charAt w_Latin1_charAt ({ frames := 2, cells := 0, slots := 0, locals := 43 }) (va_Pc [.ref (adV j), .int i] (g_pre dC dI [(cB, .byte), (cI, .int), (cJ, .long)] sz [] (fun U => g_St ad tA adK adV (va_A [] sz) U U.heap))) (va_Qi (fun (r : Int32) (u : Unit) => r = (m_Latin1_charAt j i) ∧ narrow .char (.int r) = .int r) (fun u => g_post dC dI [(cB, .byte), (cI, .int), (cJ, .long)] (va_A [] sz) []) (va_A [] sz)) 0 0 (va_A [] sz) := by
  refine Met.ofW (cc := b_Latin1_charAt) (maxL := 2) (ret := (some .char)) (by decide) rfl ?_
  intro p e s m args below meth c s₁ B hml hv
  obtain ⟨rfl, hsz, hP, hK, hD0, hX⟩ := hv
  subst hsz
  have C0 : g_Cx p s m meth c b_Latin1_charAt 2 (some .char) R_Latin1 [.ref (adV j), .int i].toArray := g_start B hml rfl
  obtain ⟨hx, hb, hml, hr, hown, hts, hlocks⟩ := id C0
  have hD := hD0.self (sz := s.heap.size)
  generalize hAe : va_A [] s.heap.size = A at hD hX ⊢
  obtain ⟨hVT, hZo, hZc, hZw, hZs, hOO, hEs, hEn, hEl, hEm, hEf, hKs, hinj, hZf, hZa⟩ := id hX
  generalize hres : (m_Latin1_charAt j i) = res
  have hA : ∀ q : Nat, s.heap.size ≤ q → A q := fun q h => by rw [← hAe]; exact Or.inr h
  have hS : va_S A s.heap s.heap [] := va_S.rf
  have hl := lv_entry ([.ref (adV j), .int i]) (n := 2) (Nat.le_of_ble_eq_true rfl)
  rw [lg_entry_eq]
  generalize (lg_sl ([.ref (adV j), .int i]) ++ List.replicate (2 - (lg_sl ([.ref (adV j), .int i])).length) Slot.unset).toArray = ls at hl ⊢
  have hl : lv_has ls 2 [(0, .ref (adV j)), (1, .int i)] := hl
  refine lv_iload_n hx hb d_Latin1_charAt_0 rfl (lv_at hl 1 rfl) ?_
  refine lv_aload_n hx hb d_Latin1_charAt_1 rfl (lv_at hl 0 rfl) ?_
  refine va_tlen hx hb (hKs.1 j (h_j)).2.2.2 hS rfl d_Latin1_charAt_2 ?_
  refine gk_v (isC := []) (isR := []) (perm := []) (wr := []) (can := fun u => []) (gr_S C0 (c_String_checkIndex l dC dI cB cI cJ ad tA adK adV _ i (Int32.ofNat (g_len.getD j 0)) (s_Latin1_charAt_0 h_j h_i0 h_i1) (s_Latin1_charAt_1 h_j h_i0 h_i1)) cs_Latin1_9 hK hP hD [] rfl (by decide) g_Sb (g_Sx hX hS (va_free hD hS hA [] rfl)) rfl rfl hl.1 rfl (lv_room (Nat.le_of_ble_eq_true rfl)) d_Latin1_charAt_3 ⟨Nat.le_of_ble_eq_true rfl, Nat.le_of_ble_eq_true rfl⟩ ⟨Nat.le_of_ble_eq_true rfl, Nat.le_of_ble_eq_true rfl⟩) hP hD hS hA rfl rfl (by decide) (by decide) (by decide) (fun _ => rfl) (fun u_1 H locs hw_1 hP hD hS => ?_)
  refine lv_aload_n hx hb d_Latin1_charAt_6 rfl (lv_at hl 0 rfl) ?_
  refine lv_iload_n hx hb d_Latin1_charAt_7 rfl (lv_at hl 1 rfl) ?_
  refine va_tb (v := .int ((g_byt.getD j []).getD i.toNatClampNeg 0)) hx hb (hKs.1 j (h_j)).2.2.2 hS (g_inS h_j h_i0 h_i1) rfl d_Latin1_charAt_8 ?_
  refine lv_sipush (v := 255) hx hb d_Latin1_charAt_9 (by decide) ?_
  refine lv_iand hx hb d_Latin1_charAt_12 ?_
  refine lv_i2c (v := (((((g_byt.getD j []).getD i.toNatClampNeg 0) &&& 255).toUInt32 % 65536).toInt32)) hx hb d_Latin1_charAt_13 rfl ?_
  exact W.zret (v := (((((g_byt.getD j []).getD i.toNatClampNeg 0) &&& 255).toUInt32 % 65536).toInt32)) hx hb hr (pk_nc _) (fun t ht hW => ⟨⟨(((((g_byt.getD j []).getD i.toNatClampNeg 0) &&& 255).toUInt32 % 65536).toInt32), (), rfl, ⟨by rw [← hres]; simp only [m_Latin1_charAt], (pk_nc _)⟩, by rw [ht]; exact hP, va_K.moved hW.alike hK, hD⟩, hS.F ht⟩) hS.2.2 d_Latin1_charAt_14
def m_String_charAt (j : Nat) (i : Int32) : Int32 :=
  (m_Latin1_charAt j i)
theorem s_String_charAt_0 {j : Nat} {i : Int32} (h_j : j < g_nst) (h_i0 : 0 ≤ i.toInt) (h_i1 : i.toInt < (Int32.ofNat (g_len.getD j 0)).toInt) : j < g_nst := by have g1 := gz_r i; omega
theorem s_String_charAt_1 {j : Nat} {i : Int32} (h_j : j < g_nst) (h_i0 : 0 ≤ i.toInt) (h_i1 : i.toInt < (Int32.ofNat (g_len.getD j 0)).toInt) : j < g_nst := by have g1 := gz_r i; omega
theorem s_String_charAt_2 {i : Int32} {j : Nat} (h_j : j < g_nst) (h_i0 : 0 ≤ i.toInt) (h_i1 : i.toInt < (Int32.ofNat (g_len.getD j 0)).toInt) : 0 ≤ i.toInt := by have g0 := gz_r i; omega
theorem s_String_charAt_3 {i : Int32} {j : Nat} (h_j : j < g_nst) (h_i0 : 0 ≤ i.toInt) (h_i1 : i.toInt < (Int32.ofNat (g_len.getD j 0)).toInt) : i.toInt < (Int32.ofNat (g_len.getD j 0)).toInt := by have g0 := gz_r i; omega
set_option maxHeartbeats 4000000 in
set_option maxRecDepth 100000 in
theorem c_String_charAt (l : Launch) (dC : Nat → ClassId) (dI : Nat → Nat → Nat) (cB cI cJ : ClassId) (ad : Nat → Nat) (tA : Nat) (adK adV : Nat → Nat) (sz : Nat) (j : Nat) (i : Int32) (h_j : j < g_nst) (h_i0 : 0 ≤ i.toInt) (h_i1 : i.toInt < (Int32.ofNat (g_len.getD j 0)).toInt) : Met l y_String_charAt w_String_charAt ({ frames := 3, cells := 0, slots := 0, locals := 64 }) (va_Pc [.ref (adK j), .int i] (g_pre dC dI [(cB, .byte), (cI, .int), (cJ, .long)] sz [] (fun U => g_St ad tA adK adV (va_A [] sz) U U.heap))) (va_Qi (fun (r : Int32) (u : Unit) => r = (m_String_charAt j i) ∧ narrow .char (.int r) = .int r) (fun u => g_post dC dI [(cB, .byte), (cI, .int), (cJ, .long)] (va_A [] sz) []) (va_A [] sz)) 0 0 (va_A [] sz) := by
  refine Met.ofW (cc := b_String_charAt) (maxL := 2) (ret := (some .char)) (by decide) rfl ?_
  intro p e s m args below meth c s₁ B hml hv
  obtain ⟨rfl, hsz, hP, hK, hD0, hX⟩ := hv
  subst hsz
  have C0 : g_Cx p s m meth c b_String_charAt 2 (some .char) R_String [.ref (adK j), .int i].toArray := g_start B hml rfl
  obtain ⟨hx, hb, hml, hr, hown, hts, hlocks⟩ := id C0
  have hD := hD0.self (sz := s.heap.size)
  generalize hAe : va_A [] s.heap.size = A at hD hX ⊢
  obtain ⟨hVT, hZo, hZc, hZw, hZs, hOO, hEs, hEn, hEl, hEm, hEf, hKs, hinj, hZf, hZa⟩ := id hX
  generalize hres : (m_String_charAt j i) = res
  have hA : ∀ q : Nat, s.heap.size ≤ q → A q := fun q h => by rw [← hAe]; exact Or.inr h
  have hS : va_S A s.heap s.heap [] := va_S.rf
  have hl := lv_entry ([.ref (adK j), .int i]) (n := 2) (Nat.le_of_ble_eq_true rfl)
  rw [lg_entry_eq]
  generalize (lg_sl ([.ref (adK j), .int i]) ++ List.replicate (2 - (lg_sl ([.ref (adK j), .int i])).length) Slot.unset).toArray = ls at hl ⊢
  have hl : lv_has ls 2 [(0, .ref (adK j)), (1, .int i)] := hl
  refine lv_aload_n hx hb d_String_charAt_0 rfl (lv_at hl 0 rfl) ?_
  refine gk_i (isC := []) (isR := []) (perm := []) (wr := []) (can := fun u => []) (gr_E C0 (c_String_isLatin1 l dC dI cB cI cJ ad tA adK adV _ j (s_String_charAt_0 h_j h_i0 h_i1)) cs_String_492 hK hP hD [] rfl (by decide) g_Sb (g_Sx hX hS (va_free hD hS hA [] rfl)) (g_rcK hX hS (h_j)) rfl rfl hl.1 rfl (lv_room (Nat.le_of_ble_eq_true rfl)) d_String_charAt_1 ⟨Nat.le_of_ble_eq_true rfl, Nat.le_of_ble_eq_true rfl⟩ ⟨Nat.le_of_ble_eq_true rfl, Nat.le_of_ble_eq_true rfl⟩) hP hD hS hA rfl rfl (by decide) (by decide) (by decide) (fun _ => rfl) (fun r_1 u_1 H locs hw_1 hP hD hS => ?_)
  obtain ⟨hw_1, hb_1⟩ := hw_1
  rw [hw_1]; rw [hw_1] at hb_1
  refine lv_if_eq (tgt := 16) hx hb d_String_charAt_4 (by decide) (fun c_2 => absurd c_2 (by show ¬ (1 : Int32) = 0; decide)) (fun c_2 => ?_)
  refine lv_aload_n hx hb d_String_charAt_7 rfl (lv_at hl 0 rfl) ?_
  refine vk_getf hx hb (hKs.1 j (h_j)).2.2.1 hS hown (hts _ tw_35) (fun _ h9 => h9) d_String_charAt_8 ?_
  refine lv_iload_n hx hb d_String_charAt_11 rfl (lv_at hl 1 rfl) ?_
  refine gk_i (isC := []) (isR := []) (perm := []) (wr := []) (can := fun u => []) (gr_S C0 (c_Latin1_charAt l dC dI cB cI cJ ad tA adK adV _ j i (s_String_charAt_1 h_j h_i0 h_i1) (s_String_charAt_2 h_j h_i0 h_i1) (s_String_charAt_3 h_j h_i0 h_i1)) cs_String_495 hK hP hD [] rfl (by decide) g_Sb (g_Sx hX hS (va_free hD hS hA [] rfl)) rfl rfl hl.1 rfl (lv_room (Nat.le_of_ble_eq_true rfl)) d_String_charAt_12 ⟨Nat.le_of_ble_eq_true rfl, Nat.le_of_ble_eq_true rfl⟩ ⟨Nat.le_of_ble_eq_true rfl, Nat.le_of_ble_eq_true rfl⟩) hP hD hS hA rfl rfl (by decide) (by decide) (by decide) (fun _ => rfl) (fun r_3 u_3 H locs hw_3 hP hD hS => ?_)
  obtain ⟨hw_3, hb_3⟩ := hw_3
  rw [hw_3]; rw [hw_3] at hb_3
  exact W.zret (v := (m_Latin1_charAt j i)) hx hb hr hb_3 (fun t ht hW => ⟨⟨(m_Latin1_charAt j i), (), rfl, ⟨by rw [← hres]; simp only [m_String_charAt], hb_3⟩, by rw [ht]; exact hP, va_K.moved hW.alike hK, hD⟩, hS.F ht⟩) hS.2.2 d_String_charAt_15
theorem g_slen (j : Nat) : m_String_length j = Int32.ofNat (g_len.getD j 0) := sb_shr0 _
theorem g_slen7 : ∀ i, i < 25 → (m_String_length (g_frm i)).toInt ≤ 7 := by decide +kernel
