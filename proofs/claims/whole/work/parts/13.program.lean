def m_Arrays_fill_L5 (fn : Nat) (fv : Int32) : Nat → Int32 → Int32 → (Nat → Int32) → (Nat → Int32)
  | 0, x2, x3, fa => fa
  | n + 1, x2, x3, fa =>
    if x3 ≤ x2 then
      fa
    else
      m_Arrays_fill_L5 fn fv n (x2 + 1) x3 (upd fa x2.toNatClampNeg fv)
theorem s_Arrays_fill_0 {x2 : Int32} {fn : Nat} {x3 : Int32} {n : Nat} (q_1 : ¬ x3.toInt ≤ x2.toInt) (h_n : fn < 2147483648) (hm : (x3.toInt - x2.toInt).toNat < n + 1) (i_0 : 0 ≤ x2.toInt) (i_1 : x3.toInt ≤ fn) : vp_in x2 fn := by rw [vp_in_iff]; have g0 := gz_r x2; have g2 := gz_r x3; omega
theorem s_Arrays_fill_1 {x3 : Int32} {x2 : Int32} {n : Nat} {fn : Nat} (q_1 : ¬ x3.toInt ≤ x2.toInt) (h_n : fn < 2147483648) (hm : (x3.toInt - x2.toInt).toNat < n + 1) (i_0 : 0 ≤ x2.toInt) (i_1 : x3.toInt ≤ fn) : (x3.toInt - (x2 + 1).toInt).toNat < n := by have z0 : (1 : Int32).toInt = 1 := (by decide); have g0 := gz_r x3; have g1 := gz_r x2; have a0 := gz_a x2 1 (by omega) (by omega); omega
theorem s_Arrays_fill_2 {x2 : Int32} {x3 : Int32} {fn : Nat} {n : Nat} (q_1 : ¬ x3.toInt ≤ x2.toInt) (h_n : fn < 2147483648) (hm : (x3.toInt - x2.toInt).toNat < n + 1) (i_0 : 0 ≤ x2.toInt) (i_1 : x3.toInt ≤ fn) : 0 ≤ (x2 + 1).toInt := by have z0 : (1 : Int32).toInt = 1 := (by decide); have g0 := gz_r x2; have g1 := gz_r x3; have a0 := gz_a x2 1 (by omega) (by omega); omega
set_option maxHeartbeats 4000000 in
set_option maxRecDepth 100000 in
theorem L_Arrays_fill_5 {p : Program} {l : Launch} {e : Env} {s : State} {m : MethodId} {below : List Frame} {meth : Method} {c : Code} {dC : Nat → ClassId} {dI : Nat → Nat → Nat} {cB cI cJ : ClassId} {aR : Nat} {fn : Nat} {fv : Int32} {A : Nat → Prop} (C0 : g_Cx p s m meth c b_Arrays_fill 4 none R_Arrays [.ref aR, .int fv].toArray) (hK : va_K (dC, dI) classes [(cB, .byte), (cI, .int), (cJ, .long)] s) (hA : ∀ q : Nat, s.heap.size ≤ q → A q) (h_n : fn < 2147483648) {res : (Nat → Int32)} :
    ∀ (n : Nat) (x2 : Int32) (x3 : Int32) (fa : Nat → Int32), ((x3.toInt - x2.toInt).toNat) < n → (0 ≤ x2.toInt) → (x3.toInt ≤ fn) → m_Arrays_fill_L5 fn fv n x2 x3 fa = res → ∀ (H : Heap) (locs : List Loc) (ls : Array Slot), va_P (dC, dI) classes [(aR, .inl (cI, fn, .inl fa))] H → va_D A [(aR, .inl (cI, fn, .inl fa))] → va_S A s.heap H locs → lv_has ls 4 [(3, .int x3), (2, .int x2), (0, .ref aR), (1, .int fv)] → W p l e ({ frames := 0, cells := 0, slots := 0, locals := 0 }) s m [.ref aR, .int fv].toArray below meth c H locs 0 0 (MQ below (va_Qv (fun u : (Nat → Int32) => u = res) (fun u => g_post dC dI [(cB, .byte), (cI, .int), (cJ, .long)] (A) [(aR, .inl (cI, fn, .inl u))]) (A)) [.ref aR, .int fv].toArray s 0 0 A) (F0 m 5 ls []) := by
  obtain ⟨hx, hb, hml, hr, hown, hts, hlocks⟩ := id C0
  intro n
  induction n with
  | zero => intro x2 x3 fa hm; exact absurd hm (Nat.not_lt_zero _)
  | succ n ih =>
    intro x2 x3 fa hm i_0 i_1 hres H locs ls hP hD hS hl
    refine lv_iload_n hx hb d_Arrays_fill_5 rfl (lv_at hl 1 rfl) ?_
    refine lv_iload_n hx hb d_Arrays_fill_6 rfl (lv_at hl 0 rfl) ?_
    refine lv_icmp_ge (tgt := 20) hx hb d_Arrays_fill_7 (by decide) (fun c_1 => ?_) (fun c_1 => ?_)
    · have q_1 := Int32.le_iff_toInt_le.mp c_1
      exact W.vret hx hb hr (fun t ht hW => ⟨⟨(fa), rfl, by rw [← hres]; simp only [m_Arrays_fill_L5, if_pos c_1], by rw [ht]; exact hP, va_K.moved hW.alike hK, hD⟩, hS.F ht⟩) hS.2.2 d_Arrays_fill_20
    · have q_1 := mt Int32.le_iff_toInt_le.mpr c_1
      refine lv_aload_n hx hb d_Arrays_fill_10 rfl (lv_at hl 2 rfl) ?_
      refine lv_iload_n hx hb d_Arrays_fill_11 rfl (lv_at hl 1 rfl) ?_
      refine lv_iload_n hx hb d_Arrays_fill_12 rfl (lv_at hl 3 rfl) ?_
      refine va_iast hx hb hK hP hD hS 0 1 rfl rfl (s_Arrays_fill_0 q_1 h_n hm i_0 i_1) d_Arrays_fill_13 (fun H locs hP hD hS => ?_)
      have hP : va_P (dC, dI) classes [(aR, .inl (cI, fn, .inl (upd fa x2.toNatClampNeg fv)))] H := hP
      have hD : va_D A [(aR, .inl (cI, fn, .inl (upd fa x2.toNatClampNeg fv)))] := hD
      refine lv_iinc (v := (x2 + 1)) (lv' := [(2, .int (x2 + 1)), (3, .int x3), (0, .ref aR), (1, .int fv)]) hx hb d_Arrays_fill_14 hl (k := 1) rfl rfl (by decide) rfl (fun ls hl => ?_)
      refine lv_goto (tgt := 5) hx hb d_Arrays_fill_17 (by decide) ?_
      exact ih  (x2 + 1) x3 (upd fa x2.toNatClampNeg fv) (s_Arrays_fill_1 q_1 h_n hm i_0 i_1) (s_Arrays_fill_2 q_1 h_n hm i_0 i_1) (by have hz : (Int32.ofNat fn).toInt = _ := nI_toInt (n := fn) h_n; omega) (by rw [← hres]; simp only [m_Arrays_fill_L5, if_neg c_1]) _ _ _ hP hD hS (lv_sub hl [1, 0, 2, 3] rfl)
def m_Arrays_fill (fn : Nat) (fa : Nat → Int32) (fv : Int32) : (Nat → Int32) :=
  m_Arrays_fill_L5 fn fv (((Int32.ofNat fn).toInt - (0 : Int32).toInt).toNat + 1) 0 (Int32.ofNat fn) fa
theorem s_Arrays_fill_3 {fn : Nat} (h_n : fn < 2147483648) : ((Int32.ofNat fn).toInt - (0 : Int32).toInt).toNat < (((Int32.ofNat fn).toInt - (0 : Int32).toInt).toNat + 1) := by have z0 : (0 : Int32).toInt = 0 := (by decide); omega
theorem s_Arrays_fill_4 {fn : Nat} (h_n : fn < 2147483648) : 0 ≤ (0 : Int32).toInt := by have z0 : (0 : Int32).toInt = 0 := (by decide); omega
set_option maxHeartbeats 4000000 in
set_option maxRecDepth 100000 in
theorem c_Arrays_fill (l : Launch) (dC : Nat → ClassId) (dI : Nat → Nat → Nat) (cB cI cJ : ClassId) (aR : Nat) (sz : Nat) (fn : Nat) (fa : Nat → Int32) (fv : Int32) (h_n : fn < 2147483648) : Met l y_Arrays_fill w_Arrays_fill ({ frames := 0, cells := 0, slots := 0, locals := 0 }) (va_Pc [.ref aR, .int fv] (g_pre dC dI [(cB, .byte), (cI, .int), (cJ, .long)] sz [(aR, .inl (cI, fn, .inl fa))] (fun _ => True))) (va_Qv (fun u : (Nat → Int32) => u = (m_Arrays_fill fn fa fv)) (fun u => g_post dC dI [(cB, .byte), (cI, .int), (cJ, .long)] (va_A [(aR, .inl (cI, fn, .inl fa))] sz) [(aR, .inl (cI, fn, .inl u))]) (va_A [(aR, .inl (cI, fn, .inl fa))] sz)) 0 0 (va_A [(aR, .inl (cI, fn, .inl fa))] sz) := by
  refine Met.ofW (cc := b_Arrays_fill) (maxL := 4) (ret := none) (by decide) rfl ?_
  intro p e s m args below meth c s₁ B hml hv
  obtain ⟨rfl, hsz, hP, hK, hD0, hX⟩ := hv
  subst hsz
  have C0 : g_Cx p s m meth c b_Arrays_fill 4 none R_Arrays [.ref aR, .int fv].toArray := g_start B hml rfl
  obtain ⟨hx, hb, hml, hr, hown, hts, hlocks⟩ := id C0
  have hD := hD0.self (sz := s.heap.size)
  generalize hAe : va_A [(aR, .inl (cI, fn, .inl fa))] s.heap.size = A at hD ⊢
  generalize hres : (m_Arrays_fill fn fa fv) = res
  have hA : ∀ q : Nat, s.heap.size ≤ q → A q := fun q h => by rw [← hAe]; exact Or.inr h
  have hS : va_S A s.heap s.heap [] := va_S.rf
  have hl := lv_entry ([.ref aR, .int fv]) (n := 4) (Nat.le_of_ble_eq_true rfl)
  rw [lg_entry_eq]
  generalize (lg_sl ([.ref aR, .int fv]) ++ List.replicate (4 - (lg_sl ([.ref aR, .int fv])).length) Slot.unset).toArray = ls at hl ⊢
  have hl : lv_has ls 4 [(0, .ref aR), (1, .int fv)] := hl
  refine lv_iconst (v := 0) hx hb d_Arrays_fill_0 (by decide) ?_
  refine lv_istore_n (lv' := [(2, .int 0), (0, .ref aR), (1, .int fv)]) hx hb d_Arrays_fill_1 rfl hl (by decide) rfl (fun ls hl => ?_)
  refine lv_aload_n hx hb d_Arrays_fill_2 rfl (lv_at hl 1 rfl) ?_
  refine va_alen (v := Int32.ofNat fn) hx hb hK hP 0 1 rfl rfl rfl d_Arrays_fill_3 ?_
  refine lv_istore_n (lv' := [(3, .int (Int32.ofNat fn)), (2, .int 0), (0, .ref aR), (1, .int fv)]) hx hb d_Arrays_fill_4 rfl hl (by decide) rfl (fun ls hl => ?_)
  exact L_Arrays_fill_5 C0 hK hA h_n (((Int32.ofNat fn).toInt - (0 : Int32).toInt).toNat + 1) 0 (Int32.ofNat fn) fa (s_Arrays_fill_3 h_n) (s_Arrays_fill_4 h_n) (by have hz : (Int32.ofNat fn).toInt = _ := nI_toInt (n := fn) h_n; omega) (by rw [← hres]; simp only [m_Arrays_fill]) _ _ _ hP hD hS (lv_sub hl [0, 1, 2, 3] rfl)
def m_Program_clear (dw : Nat → Int32) (ds : Nat → Int32) (dl : Int32) (dc : Int32) : (Nat → Int32) × (Nat → Int32) × Int32 × Int32 :=
  match m_Arrays_fill 256 dw 0 with
  | u1_dw =>
  match m_Arrays_fill 4 ds 0 with
  | u2_ds =>
  (u1_dw, u2_ds, 0, 0)
theorem s_Program_clear_0 : 256 < 2147483648 := by omega
theorem s_Program_clear_1 : 4 < 2147483648 := by omega
set_option maxHeartbeats 4000000 in
set_option maxRecDepth 100000 in
theorem c_Program_clear (l : Launch) (dC : Nat → ClassId) (dI : Nat → Nat → Nat) (cB cI cJ : ClassId) (od odw ods odn oda : Nat) (sz : Nat) (dw : Nat → Int32) (ds : Nat → Int32) (dn : Nat → Int64) (da : Nat → Int32) (dl : Int32) (dc : Int32) : Met l y_Program_clear w_Program_clear ({ frames := 1, cells := 0, slots := 0, locals := 23 }) (va_Pc [.ref od] (g_pre dC dI [(cB, .byte), (cI, .int), (cJ, .long)] sz [(od, .inr (2, [.ref odw, .ref ods, .ref odn, .ref oda, .int dl, .int dc])), (odw, .inl (cI, 256, .inl dw)), (ods, .inl (cI, 4, .inl ds)), (odn, .inl (cJ, 240, .inr (.inl dn))), (oda, .inl (cI, 240, .inl da))] (fun _ => True))) (va_Qv (fun u : (Nat → Int32) × (Nat → Int32) × Int32 × Int32 => u = (m_Program_clear dw ds dl dc)) (fun u => g_post dC dI [(cB, .byte), (cI, .int), (cJ, .long)] (va_A [(od, .inr (2, [.ref odw, .ref ods, .ref odn, .ref oda, .int dl, .int dc])), (odw, .inl (cI, 256, .inl dw)), (ods, .inl (cI, 4, .inl ds)), (odn, .inl (cJ, 240, .inr (.inl dn))), (oda, .inl (cI, 240, .inl da))] sz) [(od, .inr (2, [.ref odw, .ref ods, .ref odn, .ref oda, .int u.2.2.1, .int u.2.2.2])), (odw, .inl (cI, 256, .inl u.1)), (ods, .inl (cI, 4, .inl u.2.1)), (odn, .inl (cJ, 240, .inr (.inl dn))), (oda, .inl (cI, 240, .inl da))]) (va_A [(od, .inr (2, [.ref odw, .ref ods, .ref odn, .ref oda, .int dl, .int dc])), (odw, .inl (cI, 256, .inl dw)), (ods, .inl (cI, 4, .inl ds)), (odn, .inl (cJ, 240, .inr (.inl dn))), (oda, .inl (cI, 240, .inl da))] sz)) 0 0 (va_A [(od, .inr (2, [.ref odw, .ref ods, .ref odn, .ref oda, .int dl, .int dc])), (odw, .inl (cI, 256, .inl dw)), (ods, .inl (cI, 4, .inl ds)), (odn, .inl (cJ, 240, .inr (.inl dn))), (oda, .inl (cI, 240, .inl da))] sz) := by
  refine Met.ofW (cc := b_Program_clear) (maxL := 1) (ret := none) (by decide) rfl ?_
  intro p e s m args below meth c s₁ B hml hv
  obtain ⟨rfl, hsz, hP, hK, hD0, hX⟩ := hv
  subst hsz
  have C0 : g_Cx p s m meth c b_Program_clear 1 none R_Program [.ref od].toArray := g_start B hml rfl
  obtain ⟨hx, hb, hml, hr, hown, hts, hlocks⟩ := id C0
  have hD := hD0.self (sz := s.heap.size)
  generalize hAe : va_A [(od, .inr (2, [.ref odw, .ref ods, .ref odn, .ref oda, .int dl, .int dc])), (odw, .inl (cI, 256, .inl dw)), (ods, .inl (cI, 4, .inl ds)), (odn, .inl (cJ, 240, .inr (.inl dn))), (oda, .inl (cI, 240, .inl da))] s.heap.size = A at hD ⊢
  generalize hres : (m_Program_clear dw ds dl dc) = res
  have hA : ∀ q : Nat, s.heap.size ≤ q → A q := fun q h => by rw [← hAe]; exact Or.inr h
  have hS : va_S A s.heap s.heap [] := va_S.rf
  have hl := lv_entry ([.ref od]) (n := 1) (Nat.le_of_ble_eq_true rfl)
  rw [lg_entry_eq]
  generalize (lg_sl ([.ref od]) ++ List.replicate (1 - (lg_sl ([.ref od])).length) Slot.unset).toArray = ls at hl ⊢
  have hl : lv_has ls 1 [(0, .ref od)] := hl
  refine lv_aload_n hx hb d_Program_clear_0 rfl (lv_at hl 0 rfl) ?_
  refine va_get (D := (dC, dI)) (ci := 2) (v := .ref odw) (C := R_Program) (T := F_Program) (N := 6) hx hb hts i_Program hown hK hP 0 rfl rfl 0 (by decide) (hts _ tw_10) (fun _ h9 => h9) rfl d_Program_clear_1 ?_
  refine lv_iconst (v := 0) hx hb d_Program_clear_4 (by decide) ?_
  refine gk_v (isC := [1]) (isR := [0, 2, 3, 4]) (perm := [0, 4, 1, 2, 3]) (wr := [(od, .inr (2, [.ref odw, .ref ods, .ref odn, .ref oda, .int dl, .int dc])), (ods, .inl (cI, 4, .inl ds)), (odn, .inl (cJ, 240, .inr (.inl dn))), (oda, .inl (cI, 240, .inl da))]) (can := fun u => [(od, .inr (2, [.ref odw, .ref ods, .ref odn, .ref oda, .int dl, .int dc])), (odw, .inl (cI, 256, .inl u)), (ods, .inl (cI, 4, .inl ds)), (odn, .inl (cJ, 240, .inr (.inl dn))), (oda, .inl (cI, 240, .inl da))]) (gr_S C0 (c_Arrays_fill l dC dI cB cI cJ odw _ 256 dw 0 (s_Program_clear_0)) cs_Program_34 hK hP hD [1] rfl (by decide) g_tb g_tx rfl rfl hl.1 rfl (lv_room (Nat.le_of_ble_eq_true rfl)) d_Program_clear_5 ⟨Nat.le_of_ble_eq_true rfl, Nat.le_of_ble_eq_true rfl⟩ ⟨Nat.le_of_ble_eq_true rfl, Nat.le_of_ble_eq_true rfl⟩) hP hD hS hA rfl rfl (by decide) (by decide) (by decide) (fun _ => rfl) (fun u_1 H locs hw_1 hP hD hS => ?_)
  obtain ⟨u1_dw, rfl⟩ : ∃ z, z = u_1 := ⟨_, rfl⟩
  have hP : va_P (dC, dI) classes [(od, .inr (2, [.ref odw, .ref ods, .ref odn, .ref oda, .int dl, .int dc])), (odw, .inl (cI, 256, .inl u1_dw)), (ods, .inl (cI, 4, .inl ds)), (odn, .inl (cJ, 240, .inr (.inl dn))), (oda, .inl (cI, 240, .inl da))] H := hP
  have hD : va_D A [(od, .inr (2, [.ref odw, .ref ods, .ref odn, .ref oda, .int dl, .int dc])), (odw, .inl (cI, 256, .inl u1_dw)), (ods, .inl (cI, 4, .inl ds)), (odn, .inl (cJ, 240, .inr (.inl dn))), (oda, .inl (cI, 240, .inl da))] := hD
  refine lv_aload_n hx hb d_Program_clear_8 rfl (lv_at hl 0 rfl) ?_
  refine va_get (D := (dC, dI)) (ci := 2) (v := .ref ods) (C := R_Program) (T := F_Program) (N := 6) hx hb hts i_Program hown hK hP 0 rfl rfl 1 (by decide) (hts _ tw_11) (fun _ h9 => h9) rfl d_Program_clear_9 ?_
  refine lv_iconst (v := 0) hx hb d_Program_clear_12 (by decide) ?_
  refine gk_v (isC := [2]) (isR := [0, 1, 3, 4]) (perm := [0, 1, 4, 2, 3]) (wr := [(od, .inr (2, [.ref odw, .ref ods, .ref odn, .ref oda, .int dl, .int dc])), (odw, .inl (cI, 256, .inl u1_dw)), (odn, .inl (cJ, 240, .inr (.inl dn))), (oda, .inl (cI, 240, .inl da))]) (can := fun u => [(od, .inr (2, [.ref odw, .ref ods, .ref odn, .ref oda, .int dl, .int dc])), (odw, .inl (cI, 256, .inl u1_dw)), (ods, .inl (cI, 4, .inl u)), (odn, .inl (cJ, 240, .inr (.inl dn))), (oda, .inl (cI, 240, .inl da))]) (gr_S C0 (c_Arrays_fill l dC dI cB cI cJ ods _ 4 ds 0 (s_Program_clear_1)) cs_Program_34 hK hP hD [2] rfl (by decide) g_tb g_tx rfl rfl hl.1 rfl (lv_room (Nat.le_of_ble_eq_true rfl)) d_Program_clear_13 ⟨Nat.le_of_ble_eq_true rfl, Nat.le_of_ble_eq_true rfl⟩ ⟨Nat.le_of_ble_eq_true rfl, Nat.le_of_ble_eq_true rfl⟩) hP hD hS hA rfl rfl (by decide) (by decide) (by decide) (fun _ => rfl) (fun u_2 H locs hw_2 hP hD hS => ?_)
  obtain ⟨u2_ds, rfl⟩ : ∃ z, z = u_2 := ⟨_, rfl⟩
  have hP : va_P (dC, dI) classes [(od, .inr (2, [.ref odw, .ref ods, .ref odn, .ref oda, .int dl, .int dc])), (odw, .inl (cI, 256, .inl u1_dw)), (ods, .inl (cI, 4, .inl u2_ds)), (odn, .inl (cJ, 240, .inr (.inl dn))), (oda, .inl (cI, 240, .inl da))] H := hP
  have hD : va_D A [(od, .inr (2, [.ref odw, .ref ods, .ref odn, .ref oda, .int dl, .int dc])), (odw, .inl (cI, 256, .inl u1_dw)), (ods, .inl (cI, 4, .inl u2_ds)), (odn, .inl (cJ, 240, .inr (.inl dn))), (oda, .inl (cI, 240, .inl da))] := hD
  refine lv_aload_n hx hb d_Program_clear_16 rfl (lv_at hl 0 rfl) ?_
  refine lv_iconst (v := 0) hx hb d_Program_clear_17 (by decide) ?_
  refine va_put (D := (dC, dI)) (ci := 2) (v := .int 0) (ty := .int) (C := R_Program) (T := F_Program) (N := 6) hx hb hts i_Program t_Program t_Program_ok n_Program hown hK hP hD hS 0 rfl rfl 4 (by decide) (hts _ tw_12) (fun _ h9 => h9) rfl (by decide +kernel) rfl rfl (Nat.le_of_ble_eq_true rfl) d_Program_clear_18 (fun H locs hP hD hS => ?_)
  have hP : va_P (dC, dI) classes [(od, .inr (2, [.ref odw, .ref ods, .ref odn, .ref oda, .int 0, .int dc])), (odw, .inl (cI, 256, .inl u1_dw)), (ods, .inl (cI, 4, .inl u2_ds)), (odn, .inl (cJ, 240, .inr (.inl dn))), (oda, .inl (cI, 240, .inl da))] H := hP
  have hD : va_D A [(od, .inr (2, [.ref odw, .ref ods, .ref odn, .ref oda, .int 0, .int dc])), (odw, .inl (cI, 256, .inl u1_dw)), (ods, .inl (cI, 4, .inl u2_ds)), (odn, .inl (cJ, 240, .inr (.inl dn))), (oda, .inl (cI, 240, .inl da))] := hD
  refine lv_aload_n hx hb d_Program_clear_21 rfl (lv_at hl 0 rfl) ?_
  refine lv_iconst (v := 0) hx hb d_Program_clear_22 (by decide) ?_
  refine va_put (D := (dC, dI)) (ci := 2) (v := .int 0) (ty := .int) (C := R_Program) (T := F_Program) (N := 6) hx hb hts i_Program t_Program t_Program_ok n_Program hown hK hP hD hS 0 rfl rfl 5 (by decide) (hts _ tw_13) (fun _ h9 => h9) rfl (by decide +kernel) rfl rfl (Nat.le_of_ble_eq_true rfl) d_Program_clear_23 (fun H locs hP hD hS => ?_)
  have hP : va_P (dC, dI) classes [(od, .inr (2, [.ref odw, .ref ods, .ref odn, .ref oda, .int 0, .int 0])), (odw, .inl (cI, 256, .inl u1_dw)), (ods, .inl (cI, 4, .inl u2_ds)), (odn, .inl (cJ, 240, .inr (.inl dn))), (oda, .inl (cI, 240, .inl da))] H := hP
  have hD : va_D A [(od, .inr (2, [.ref odw, .ref ods, .ref odn, .ref oda, .int 0, .int 0])), (odw, .inl (cI, 256, .inl u1_dw)), (ods, .inl (cI, 4, .inl u2_ds)), (odn, .inl (cJ, 240, .inr (.inl dn))), (oda, .inl (cI, 240, .inl da))] := hD
  exact W.vret hx hb hr (fun t ht hW => ⟨⟨(u1_dw, u2_ds, 0, 0), rfl, by rw [← hres]; simp only [m_Program_clear, ← hw_1, ← hw_2], by rw [ht]; exact hP, va_K.moved hW.alike hK, hD⟩, hS.F ht⟩) hS.2.2 d_Program_clear_26
theorem v_Program_clear {u1 u2 : Nat → Int32} {u3 u4 : Int32} {dw ds : Nat → Int32} {dl dc : Int32} (hw : (u1, u2, u3, u4) = m_Program_clear dw ds dl dc) : 0 ≤ u3.toInt := by
  unfold m_Program_clear at hw
  simp only [Prod.mk.injEq] at hw
  rw [hw.2.2.1]
  decide
def m_Program_put (dw : Nat → Int32) (ad : Int32) (co : Int32) : (Nat → Int32) :=
  if ad < 0 then
    dw
  else
    if 256 ≤ ad then
      dw
    else
      (upd dw ad.toNatClampNeg co)
theorem s_Program_put_0 {ad : Int32} (q_1 : ¬ ad.toInt < (0 : Int32).toInt) (q_2 : ¬ (256 : Int32).toInt ≤ ad.toInt) : vp_in ad 256 := by rw [vp_in_iff]; have z0 : (0 : Int32).toInt = 0 := (by decide); have z1 : (256 : Int32).toInt = 256 := (by decide); have g0 := gz_r ad; omega
set_option maxHeartbeats 4000000 in
set_option maxRecDepth 100000 in
theorem c_Program_put (l : Launch) (dC : Nat → ClassId) (dI : Nat → Nat → Nat) (cB cI cJ : ClassId) (od odw ods odn oda : Nat) (sz : Nat) (dw : Nat → Int32) (ds : Nat → Int32) (dn : Nat → Int64) (da : Nat → Int32) (dl : Int32) (dc : Int32) (ad : Int32) (co : Int32) : Met l y_Program_put w_Program_put ({ frames := 0, cells := 0, slots := 0, locals := 0 }) (va_Pc [.ref od, .int ad, .int co] (g_pre dC dI [(cB, .byte), (cI, .int), (cJ, .long)] sz [(od, .inr (2, [.ref odw, .ref ods, .ref odn, .ref oda, .int dl, .int dc])), (odw, .inl (cI, 256, .inl dw)), (ods, .inl (cI, 4, .inl ds)), (odn, .inl (cJ, 240, .inr (.inl dn))), (oda, .inl (cI, 240, .inl da))] (fun _ => True))) (va_Qv (fun u : (Nat → Int32) => u = (m_Program_put dw ad co)) (fun u => g_post dC dI [(cB, .byte), (cI, .int), (cJ, .long)] (va_A [(od, .inr (2, [.ref odw, .ref ods, .ref odn, .ref oda, .int dl, .int dc])), (odw, .inl (cI, 256, .inl dw)), (ods, .inl (cI, 4, .inl ds)), (odn, .inl (cJ, 240, .inr (.inl dn))), (oda, .inl (cI, 240, .inl da))] sz) [(od, .inr (2, [.ref odw, .ref ods, .ref odn, .ref oda, .int dl, .int dc])), (odw, .inl (cI, 256, .inl u)), (ods, .inl (cI, 4, .inl ds)), (odn, .inl (cJ, 240, .inr (.inl dn))), (oda, .inl (cI, 240, .inl da))]) (va_A [(od, .inr (2, [.ref odw, .ref ods, .ref odn, .ref oda, .int dl, .int dc])), (odw, .inl (cI, 256, .inl dw)), (ods, .inl (cI, 4, .inl ds)), (odn, .inl (cJ, 240, .inr (.inl dn))), (oda, .inl (cI, 240, .inl da))] sz)) 0 0 (va_A [(od, .inr (2, [.ref odw, .ref ods, .ref odn, .ref oda, .int dl, .int dc])), (odw, .inl (cI, 256, .inl dw)), (ods, .inl (cI, 4, .inl ds)), (odn, .inl (cJ, 240, .inr (.inl dn))), (oda, .inl (cI, 240, .inl da))] sz) := by
  refine Met.ofW (cc := b_Program_put) (maxL := 3) (ret := none) (by decide) rfl ?_
  intro p e s m args below meth c s₁ B hml hv
  obtain ⟨rfl, hsz, hP, hK, hD0, hX⟩ := hv
  subst hsz
  have C0 : g_Cx p s m meth c b_Program_put 3 none R_Program [.ref od, .int ad, .int co].toArray := g_start B hml rfl
  obtain ⟨hx, hb, hml, hr, hown, hts, hlocks⟩ := id C0
  have hD := hD0.self (sz := s.heap.size)
  generalize hAe : va_A [(od, .inr (2, [.ref odw, .ref ods, .ref odn, .ref oda, .int dl, .int dc])), (odw, .inl (cI, 256, .inl dw)), (ods, .inl (cI, 4, .inl ds)), (odn, .inl (cJ, 240, .inr (.inl dn))), (oda, .inl (cI, 240, .inl da))] s.heap.size = A at hD ⊢
  generalize hres : (m_Program_put dw ad co) = res
  have hA : ∀ q : Nat, s.heap.size ≤ q → A q := fun q h => by rw [← hAe]; exact Or.inr h
  have hS : va_S A s.heap s.heap [] := va_S.rf
  have hl := lv_entry ([.ref od, .int ad, .int co]) (n := 3) (Nat.le_of_ble_eq_true rfl)
  rw [lg_entry_eq]
  generalize (lg_sl ([.ref od, .int ad, .int co]) ++ List.replicate (3 - (lg_sl ([.ref od, .int ad, .int co])).length) Slot.unset).toArray = ls at hl ⊢
  have hl : lv_has ls 3 [(0, .ref od), (1, .int ad), (2, .int co)] := hl
  refine lv_iload_n hx hb d_Program_put_0 rfl (lv_at hl 1 rfl) ?_
  refine lv_if_lt (tgt := 18) hx hb d_Program_put_1 (by decide) (fun c_1 => ?_) (fun c_1 => ?_)
  · have q_1 := Int32.lt_iff_toInt_lt.mp c_1
    exact W.vret hx hb hr (fun t ht hW => ⟨⟨(dw), rfl, by rw [← hres]; simp only [m_Program_put, if_pos c_1], by rw [ht]; exact hP, va_K.moved hW.alike hK, hD⟩, hS.F ht⟩) hS.2.2 d_Program_put_18
  · have q_1 := mt Int32.lt_iff_toInt_lt.mpr c_1
    refine lv_iload_n hx hb d_Program_put_4 rfl (lv_at hl 1 rfl) ?_
    refine lv_sipush (v := 256) hx hb d_Program_put_5 (by decide) ?_
    refine lv_icmp_ge (tgt := 18) hx hb d_Program_put_8 (by decide) (fun c_2 => ?_) (fun c_2 => ?_)
    · have q_2 := Int32.le_iff_toInt_le.mp c_2
      exact W.vret hx hb hr (fun t ht hW => ⟨⟨(dw), rfl, by rw [← hres]; simp only [m_Program_put, if_neg c_1, if_pos c_2], by rw [ht]; exact hP, va_K.moved hW.alike hK, hD⟩, hS.F ht⟩) hS.2.2 d_Program_put_18
    · have q_2 := mt Int32.le_iff_toInt_le.mpr c_2
      refine lv_aload_n hx hb d_Program_put_11 rfl (lv_at hl 0 rfl) ?_
      refine va_get (D := (dC, dI)) (ci := 2) (v := .ref odw) (C := R_Program) (T := F_Program) (N := 6) hx hb hts i_Program hown hK hP 0 rfl rfl 0 (by decide) (hts _ tw_10) (fun _ h9 => h9) rfl d_Program_put_12 ?_
      refine lv_iload_n hx hb d_Program_put_15 rfl (lv_at hl 1 rfl) ?_
      refine lv_iload_n hx hb d_Program_put_16 rfl (lv_at hl 2 rfl) ?_
      refine va_iast hx hb hK hP hD hS 1 1 rfl rfl (s_Program_put_0 q_1 q_2) d_Program_put_17 (fun H locs hP hD hS => ?_)
      have hP : va_P (dC, dI) classes [(od, .inr (2, [.ref odw, .ref ods, .ref odn, .ref oda, .int dl, .int dc])), (odw, .inl (cI, 256, .inl (upd dw ad.toNatClampNeg co))), (ods, .inl (cI, 4, .inl ds)), (odn, .inl (cJ, 240, .inr (.inl dn))), (oda, .inl (cI, 240, .inl da))] H := hP
      have hD : va_D A [(od, .inr (2, [.ref odw, .ref ods, .ref odn, .ref oda, .int dl, .int dc])), (odw, .inl (cI, 256, .inl (upd dw ad.toNatClampNeg co))), (ods, .inl (cI, 4, .inl ds)), (odn, .inl (cJ, 240, .inr (.inl dn))), (oda, .inl (cI, 240, .inl da))] := hD
      exact W.vret hx hb hr (fun t ht hW => ⟨⟨((upd dw ad.toNatClampNeg co)), rfl, by rw [← hres]; simp only [m_Program_put, if_neg c_1, if_neg c_2], by rw [ht]; exact hP, va_K.moved hW.alike hK, hD⟩, hS.F ht⟩) hS.2.2 d_Program_put_18
def m_Program_begin (ds : Nat → Int32) (co : Int32) (ad : Int32) : (Nat → Int32) :=
  if co < 0 then
    ds
  else
    if 4 ≤ co then
      ds
    else
      if 256 ≤ ad then
        (upd ds co.toNatClampNeg 0)
      else
        (upd ds co.toNatClampNeg ad)
theorem s_Program_begin_0 {co : Int32} {ad : Int32} (q_1 : ¬ co.toInt < (0 : Int32).toInt) (q_2 : ¬ (4 : Int32).toInt ≤ co.toInt) (q_3 : (256 : Int32).toInt ≤ ad.toInt) : vp_in co 4 := by rw [vp_in_iff]; have z0 : (0 : Int32).toInt = 0 := (by decide); have z1 : (4 : Int32).toInt = 4 := (by decide); have z2 : (256 : Int32).toInt = 256 := (by decide); have g0 := gz_r co; have g1 := gz_r ad; omega
theorem s_Program_begin_1 {co : Int32} {ad : Int32} (q_1 : ¬ co.toInt < (0 : Int32).toInt) (q_2 : ¬ (4 : Int32).toInt ≤ co.toInt) (q_3 : ¬ (256 : Int32).toInt ≤ ad.toInt) : vp_in co 4 := by rw [vp_in_iff]; have z0 : (0 : Int32).toInt = 0 := (by decide); have z1 : (4 : Int32).toInt = 4 := (by decide); have z2 : (256 : Int32).toInt = 256 := (by decide); have g0 := gz_r co; have g1 := gz_r ad; omega
set_option maxHeartbeats 4000000 in
set_option maxRecDepth 100000 in
theorem c_Program_begin (l : Launch) (dC : Nat → ClassId) (dI : Nat → Nat → Nat) (cB cI cJ : ClassId) (od odw ods odn oda : Nat) (sz : Nat) (dw : Nat → Int32) (ds : Nat → Int32) (dn : Nat → Int64) (da : Nat → Int32) (dl : Int32) (dc : Int32) (co : Int32) (ad : Int32) : Met l y_Program_begin w_Program_begin ({ frames := 0, cells := 0, slots := 0, locals := 0 }) (va_Pc [.ref od, .int co, .int ad] (g_pre dC dI [(cB, .byte), (cI, .int), (cJ, .long)] sz [(od, .inr (2, [.ref odw, .ref ods, .ref odn, .ref oda, .int dl, .int dc])), (odw, .inl (cI, 256, .inl dw)), (ods, .inl (cI, 4, .inl ds)), (odn, .inl (cJ, 240, .inr (.inl dn))), (oda, .inl (cI, 240, .inl da))] (fun _ => True))) (va_Qv (fun u : (Nat → Int32) => u = (m_Program_begin ds co ad)) (fun u => g_post dC dI [(cB, .byte), (cI, .int), (cJ, .long)] (va_A [(od, .inr (2, [.ref odw, .ref ods, .ref odn, .ref oda, .int dl, .int dc])), (odw, .inl (cI, 256, .inl dw)), (ods, .inl (cI, 4, .inl ds)), (odn, .inl (cJ, 240, .inr (.inl dn))), (oda, .inl (cI, 240, .inl da))] sz) [(od, .inr (2, [.ref odw, .ref ods, .ref odn, .ref oda, .int dl, .int dc])), (odw, .inl (cI, 256, .inl dw)), (ods, .inl (cI, 4, .inl u)), (odn, .inl (cJ, 240, .inr (.inl dn))), (oda, .inl (cI, 240, .inl da))]) (va_A [(od, .inr (2, [.ref odw, .ref ods, .ref odn, .ref oda, .int dl, .int dc])), (odw, .inl (cI, 256, .inl dw)), (ods, .inl (cI, 4, .inl ds)), (odn, .inl (cJ, 240, .inr (.inl dn))), (oda, .inl (cI, 240, .inl da))] sz)) 0 0 (va_A [(od, .inr (2, [.ref odw, .ref ods, .ref odn, .ref oda, .int dl, .int dc])), (odw, .inl (cI, 256, .inl dw)), (ods, .inl (cI, 4, .inl ds)), (odn, .inl (cJ, 240, .inr (.inl dn))), (oda, .inl (cI, 240, .inl da))] sz) := by
  refine Met.ofW (cc := b_Program_begin) (maxL := 3) (ret := none) (by decide) rfl ?_
  intro p e s m args below meth c s₁ B hml hv
  obtain ⟨rfl, hsz, hP, hK, hD0, hX⟩ := hv
  subst hsz
  have C0 : g_Cx p s m meth c b_Program_begin 3 none R_Program [.ref od, .int co, .int ad].toArray := g_start B hml rfl
  obtain ⟨hx, hb, hml, hr, hown, hts, hlocks⟩ := id C0
  have hD := hD0.self (sz := s.heap.size)
  generalize hAe : va_A [(od, .inr (2, [.ref odw, .ref ods, .ref odn, .ref oda, .int dl, .int dc])), (odw, .inl (cI, 256, .inl dw)), (ods, .inl (cI, 4, .inl ds)), (odn, .inl (cJ, 240, .inr (.inl dn))), (oda, .inl (cI, 240, .inl da))] s.heap.size = A at hD ⊢
  generalize hres : (m_Program_begin ds co ad) = res
  have hA : ∀ q : Nat, s.heap.size ≤ q → A q := fun q h => by rw [← hAe]; exact Or.inr h
  have hS : va_S A s.heap s.heap [] := va_S.rf
  have hl := lv_entry ([.ref od, .int co, .int ad]) (n := 3) (Nat.le_of_ble_eq_true rfl)
  rw [lg_entry_eq]
  generalize (lg_sl ([.ref od, .int co, .int ad]) ++ List.replicate (3 - (lg_sl ([.ref od, .int co, .int ad])).length) Slot.unset).toArray = ls at hl ⊢
  have hl : lv_has ls 3 [(0, .ref od), (1, .int co), (2, .int ad)] := hl
  refine lv_iload_n hx hb d_Program_begin_0 rfl (lv_at hl 1 rfl) ?_
  refine lv_if_lt (tgt := 27) hx hb d_Program_begin_1 (by decide) (fun c_1 => ?_) (fun c_1 => ?_)
  · have q_1 := Int32.lt_iff_toInt_lt.mp c_1
    exact W.vret hx hb hr (fun t ht hW => ⟨⟨(ds), rfl, by rw [← hres]; simp only [m_Program_begin, if_pos c_1], by rw [ht]; exact hP, va_K.moved hW.alike hK, hD⟩, hS.F ht⟩) hS.2.2 d_Program_begin_27
  · have q_1 := mt Int32.lt_iff_toInt_lt.mpr c_1
    refine lv_iload_n hx hb d_Program_begin_4 rfl (lv_at hl 1 rfl) ?_
    refine lv_iconst (v := 4) hx hb d_Program_begin_5 (by decide) ?_
    refine lv_icmp_ge (tgt := 27) hx hb d_Program_begin_6 (by decide) (fun c_2 => ?_) (fun c_2 => ?_)
    · have q_2 := Int32.le_iff_toInt_le.mp c_2
      exact W.vret hx hb hr (fun t ht hW => ⟨⟨(ds), rfl, by rw [← hres]; simp only [m_Program_begin, if_neg c_1, if_pos c_2], by rw [ht]; exact hP, va_K.moved hW.alike hK, hD⟩, hS.F ht⟩) hS.2.2 d_Program_begin_27
    · have q_2 := mt Int32.le_iff_toInt_le.mpr c_2
      refine lv_aload_n hx hb d_Program_begin_9 rfl (lv_at hl 0 rfl) ?_
      refine va_get (D := (dC, dI)) (ci := 2) (v := .ref ods) (C := R_Program) (T := F_Program) (N := 6) hx hb hts i_Program hown hK hP 0 rfl rfl 1 (by decide) (hts _ tw_11) (fun _ h9 => h9) rfl d_Program_begin_10 ?_
      refine lv_iload_n hx hb d_Program_begin_13 rfl (lv_at hl 1 rfl) ?_
      refine lv_iload_n hx hb d_Program_begin_14 rfl (lv_at hl 2 rfl) ?_
      refine lv_sipush (v := 256) hx hb d_Program_begin_15 (by decide) ?_
      refine lv_icmp_ge (tgt := 25) hx hb d_Program_begin_18 (by decide) (fun c_3 => ?_) (fun c_3 => ?_)
      · have q_3 := Int32.le_iff_toInt_le.mp c_3
        refine lv_iconst (v := 0) hx hb d_Program_begin_25 (by decide) ?_
        refine va_iast hx hb hK hP hD hS 2 1 rfl rfl (s_Program_begin_0 q_1 q_2 q_3) d_Program_begin_26 (fun H locs hP hD hS => ?_)
        have hP : va_P (dC, dI) classes [(od, .inr (2, [.ref odw, .ref ods, .ref odn, .ref oda, .int dl, .int dc])), (odw, .inl (cI, 256, .inl dw)), (ods, .inl (cI, 4, .inl (upd ds co.toNatClampNeg 0))), (odn, .inl (cJ, 240, .inr (.inl dn))), (oda, .inl (cI, 240, .inl da))] H := hP
        have hD : va_D A [(od, .inr (2, [.ref odw, .ref ods, .ref odn, .ref oda, .int dl, .int dc])), (odw, .inl (cI, 256, .inl dw)), (ods, .inl (cI, 4, .inl (upd ds co.toNatClampNeg 0))), (odn, .inl (cJ, 240, .inr (.inl dn))), (oda, .inl (cI, 240, .inl da))] := hD
        exact W.vret hx hb hr (fun t ht hW => ⟨⟨((upd ds co.toNatClampNeg 0)), rfl, by rw [← hres]; simp only [m_Program_begin, if_neg c_1, if_neg c_2, if_pos c_3], by rw [ht]; exact hP, va_K.moved hW.alike hK, hD⟩, hS.F ht⟩) hS.2.2 d_Program_begin_27
      · have q_3 := mt Int32.le_iff_toInt_le.mpr c_3
        refine lv_iload_n hx hb d_Program_begin_21 rfl (lv_at hl 2 rfl) ?_
        refine lv_goto (tgt := 26) hx hb d_Program_begin_22 (by decide) ?_
        refine va_iast hx hb hK hP hD hS 2 1 rfl rfl (s_Program_begin_1 q_1 q_2 q_3) d_Program_begin_26 (fun H locs hP hD hS => ?_)
        have hP : va_P (dC, dI) classes [(od, .inr (2, [.ref odw, .ref ods, .ref odn, .ref oda, .int dl, .int dc])), (odw, .inl (cI, 256, .inl dw)), (ods, .inl (cI, 4, .inl (upd ds co.toNatClampNeg ad))), (odn, .inl (cJ, 240, .inr (.inl dn))), (oda, .inl (cI, 240, .inl da))] H := hP
        have hD : va_D A [(od, .inr (2, [.ref odw, .ref ods, .ref odn, .ref oda, .int dl, .int dc])), (odw, .inl (cI, 256, .inl dw)), (ods, .inl (cI, 4, .inl (upd ds co.toNatClampNeg ad))), (odn, .inl (cJ, 240, .inr (.inl dn))), (oda, .inl (cI, 240, .inl da))] := hD
        exact W.vret hx hb hr (fun t ht hW => ⟨⟨((upd ds co.toNatClampNeg ad)), rfl, by rw [← hres]; simp only [m_Program_begin, if_neg c_1, if_neg c_2, if_neg c_3], by rw [ht]; exact hP, va_K.moved hW.alike hK, hD⟩, hS.F ht⟩) hS.2.2 d_Program_begin_27
def m_Program_addressOf_L2 (dn : Nat → Int64) (da : Nat → Int32) (dl : Int32) (nm : Int64) : Nat → Int32 → Int32
  | 0, x3 => 0
  | n + 1, x3 =>
    if dl ≤ x3 then
      (-1)
    else
      if 240 ≤ x3 then
        (-1)
      else
        if (lg_cmp (dn x3.toNatClampNeg) nm) = 0 then
          (da x3.toNatClampNeg)
        else
          m_Program_addressOf_L2 dn da dl nm n (x3 + 1)
theorem s_Program_addressOf_0 {x3 : Int32} {dl : Int32} {n : Nat} (q_1 : ¬ dl.toInt ≤ x3.toInt) (q_2 : ¬ (240 : Int32).toInt ≤ x3.toInt) (hm : (240 - x3.toInt).toNat < n + 1) (i_0 : 0 ≤ x3.toInt) : vp_in x3 240 := by rw [vp_in_iff]; have z0 : (240 : Int32).toInt = 240 := (by decide); have g0 := gz_r x3; have g1 := gz_r dl; omega
theorem s_Program_addressOf_1 {x3 : Int32} {n : Nat} {dl : Int32} {dn : Nat → Int64} {nm : Int64} (q_1 : ¬ dl.toInt ≤ x3.toInt) (q_2 : ¬ (240 : Int32).toInt ≤ x3.toInt) (q_3 : ¬ (lg_cmp (dn x3.toNatClampNeg) nm).toInt = (0 : Int32).toInt) (hm : (240 - x3.toInt).toNat < n + 1) (i_0 : 0 ≤ x3.toInt) : (240 - (x3 + 1).toInt).toNat < n := by have z0 : (0 : Int32).toInt = 0 := (by decide); have z1 : (1 : Int32).toInt = 1 := (by decide); have z2 : (240 : Int32).toInt = 240 := (by decide); have g0 := gz_r x3; have g2 := gz_r dl; have a0 := gz_a x3 1 (by omega) (by omega); omega
theorem s_Program_addressOf_2 {x3 : Int32} {dl : Int32} {dn : Nat → Int64} {nm : Int64} {n : Nat} (q_1 : ¬ dl.toInt ≤ x3.toInt) (q_2 : ¬ (240 : Int32).toInt ≤ x3.toInt) (q_3 : ¬ (lg_cmp (dn x3.toNatClampNeg) nm).toInt = (0 : Int32).toInt) (hm : (240 - x3.toInt).toNat < n + 1) (i_0 : 0 ≤ x3.toInt) : 0 ≤ (x3 + 1).toInt := by have z0 : (0 : Int32).toInt = 0 := (by decide); have z1 : (1 : Int32).toInt = 1 := (by decide); have z2 : (240 : Int32).toInt = 240 := (by decide); have g0 := gz_r x3; have g1 := gz_r dl; have a0 := gz_a x3 1 (by omega) (by omega); omega
theorem s_Program_addressOf_3 {x3 : Int32} {dl : Int32} {dn : Nat → Int64} {nm : Int64} {n : Nat} (q_1 : ¬ dl.toInt ≤ x3.toInt) (q_2 : ¬ (240 : Int32).toInt ≤ x3.toInt) (q_3 : (lg_cmp (dn x3.toNatClampNeg) nm).toInt = (0 : Int32).toInt) (hm : (240 - x3.toInt).toNat < n + 1) (i_0 : 0 ≤ x3.toInt) : vp_in x3 240 := by rw [vp_in_iff]; have z0 : (0 : Int32).toInt = 0 := (by decide); have z1 : (240 : Int32).toInt = 240 := (by decide); have g0 := gz_r x3; have g1 := gz_r dl; omega
set_option maxHeartbeats 4000000 in
set_option maxRecDepth 100000 in
theorem L_Program_addressOf_2 {p : Program} {l : Launch} {e : Env} {s : State} {m : MethodId} {below : List Frame} {meth : Method} {c : Code} {dC : Nat → ClassId} {dI : Nat → Nat → Nat} {cB cI cJ : ClassId} {od odw ods odn oda : Nat} {dw : Nat → Int32} {ds : Nat → Int32} {dn : Nat → Int64} {da : Nat → Int32} {dl : Int32} {dc : Int32} {nm : Int64} {A : Nat → Prop} (C0 : g_Cx p s m meth c b_Program_addressOf 4 (some .int) R_Program [.ref od, .long nm].toArray) (hK : va_K (dC, dI) classes [(cB, .byte), (cI, .int), (cJ, .long)] s) (hA : ∀ q : Nat, s.heap.size ≤ q → A q) {res : Int32} :
    ∀ (n : Nat) (x3 : Int32), ((240 - x3.toInt).toNat) < n → (0 ≤ x3.toInt) → m_Program_addressOf_L2 dn da dl nm n x3 = res → ∀ (H : Heap) (locs : List Loc) (ls : Array Slot), va_P (dC, dI) classes [(od, .inr (2, [.ref odw, .ref ods, .ref odn, .ref oda, .int dl, .int dc])), (odw, .inl (cI, 256, .inl dw)), (ods, .inl (cI, 4, .inl ds)), (odn, .inl (cJ, 240, .inr (.inl dn))), (oda, .inl (cI, 240, .inl da))] H → va_D A [(od, .inr (2, [.ref odw, .ref ods, .ref odn, .ref oda, .int dl, .int dc])), (odw, .inl (cI, 256, .inl dw)), (ods, .inl (cI, 4, .inl ds)), (odn, .inl (cJ, 240, .inr (.inl dn))), (oda, .inl (cI, 240, .inl da))] → va_S A s.heap H locs → lv_has ls 4 [(3, .int x3), (0, .ref od), (1, .long nm)] → W p l e ({ frames := 0, cells := 0, slots := 0, locals := 0 }) s m [.ref od, .long nm].toArray below meth c H locs 0 0 (MQ below (va_Qi (fun (r : Int32) (u : Unit) => r = res) (fun u => g_post dC dI [(cB, .byte), (cI, .int), (cJ, .long)] (A) [(od, .inr (2, [.ref odw, .ref ods, .ref odn, .ref oda, .int dl, .int dc])), (odw, .inl (cI, 256, .inl dw)), (ods, .inl (cI, 4, .inl ds)), (odn, .inl (cJ, 240, .inr (.inl dn))), (oda, .inl (cI, 240, .inl da))]) (A)) [.ref od, .long nm].toArray s 0 0 A) (F0 m 2 ls []) := by
  obtain ⟨hx, hb, hml, hr, hown, hts, hlocks⟩ := id C0
  intro n
  induction n with
  | zero => intro x3 hm; exact absurd hm (Nat.not_lt_zero _)
  | succ n ih =>
    intro x3 hm i_0 hres H locs ls hP hD hS hl
    refine lv_iload_n hx hb d_Program_addressOf_2 rfl (lv_at hl 0 rfl) ?_
    refine lv_aload_n hx hb d_Program_addressOf_3 rfl (lv_at hl 1 rfl) ?_
    refine va_get (D := (dC, dI)) (ci := 2) (v := .int dl) (C := R_Program) (T := F_Program) (N := 6) hx hb hts i_Program hown hK hP 0 rfl rfl 4 (by decide) (hts _ tw_12) (fun _ h9 => h9) rfl d_Program_addressOf_4 ?_
    refine lv_icmp_ge (tgt := 41) hx hb d_Program_addressOf_7 (by decide) (fun c_1 => ?_) (fun c_1 => ?_)
    · have q_1 := Int32.le_iff_toInt_le.mp c_1
      refine lv_iconst (v := (-1)) hx hb d_Program_addressOf_41 (by decide) ?_
      exact W.iret (v := (-1)) hx hb hr (fun t ht hW => ⟨⟨(-1), (), rfl, by rw [← hres]; simp only [m_Program_addressOf_L2, if_pos c_1], by rw [ht]; exact hP, va_K.moved hW.alike hK, hD⟩, hS.F ht⟩) hS.2.2 d_Program_addressOf_42
    · have q_1 := mt Int32.le_iff_toInt_le.mpr c_1
      refine lv_iload_n hx hb d_Program_addressOf_10 rfl (lv_at hl 0 rfl) ?_
      refine lv_sipush (v := 240) hx hb d_Program_addressOf_11 (by decide) ?_
      refine lv_icmp_ge (tgt := 41) hx hb d_Program_addressOf_14 (by decide) (fun c_2 => ?_) (fun c_2 => ?_)
      · have q_2 := Int32.le_iff_toInt_le.mp c_2
        refine lv_iconst (v := (-1)) hx hb d_Program_addressOf_41 (by decide) ?_
        exact W.iret (v := (-1)) hx hb hr (fun t ht hW => ⟨⟨(-1), (), rfl, by rw [← hres]; simp only [m_Program_addressOf_L2, if_neg c_1, if_pos c_2], by rw [ht]; exact hP, va_K.moved hW.alike hK, hD⟩, hS.F ht⟩) hS.2.2 d_Program_addressOf_42
      · have q_2 := mt Int32.le_iff_toInt_le.mpr c_2
        refine lv_aload_n hx hb d_Program_addressOf_17 rfl (lv_at hl 1 rfl) ?_
        refine va_get (D := (dC, dI)) (ci := 2) (v := .ref odn) (C := R_Program) (T := F_Program) (N := 6) hx hb hts i_Program hown hK hP 0 rfl rfl 2 (by decide) (hts _ tw_14) (fun _ h9 => h9) rfl d_Program_addressOf_18 ?_
        refine lv_iload_n hx hb d_Program_addressOf_21 rfl (lv_at hl 0 rfl) ?_
        refine va_lald hx hb hK hP 3 2 rfl rfl (s_Program_addressOf_0 q_1 q_2 hm i_0) d_Program_addressOf_22 ?_
        refine lv_lload_n hx hb d_Program_addressOf_23 rfl (lv_at hl 2 rfl) ?_
        refine W.lcmp hx hb d_Program_addressOf_24 ?_
        refine lv_if_ne (tgt := 35) hx hb d_Program_addressOf_25 (by decide) (fun c_3 => ?_) (fun c_3 => ?_)
        · have q_3 : ¬ _ = _ := fun h => c_3 (Int32.toInt_inj.mp h)
          refine lv_iinc (v := (x3 + 1)) (lv' := [(3, .int (x3 + 1)), (0, .ref od), (1, .long nm)]) hx hb d_Program_addressOf_35 hl (k := 0) rfl rfl (by decide) rfl (fun ls hl => ?_)
          refine lv_goto (tgt := 2) hx hb d_Program_addressOf_38 (by decide) ?_
          exact ih  (x3 + 1) (s_Program_addressOf_1 q_1 q_2 q_3 hm i_0) (s_Program_addressOf_2 q_1 q_2 q_3 hm i_0) (by rw [← hres]; simp only [m_Program_addressOf_L2, if_neg c_1, if_neg c_2, if_neg c_3]) _ _ _ hP hD hS (lv_sub hl [0, 1, 2] rfl)
        · have q_3 := congrArg Int32.toInt c_3
          refine lv_aload_n hx hb d_Program_addressOf_28 rfl (lv_at hl 1 rfl) ?_
          refine va_get (D := (dC, dI)) (ci := 2) (v := .ref oda) (C := R_Program) (T := F_Program) (N := 6) hx hb hts i_Program hown hK hP 0 rfl rfl 3 (by decide) (hts _ tw_15) (fun _ h9 => h9) rfl d_Program_addressOf_29 ?_
          refine lv_iload_n hx hb d_Program_addressOf_32 rfl (lv_at hl 0 rfl) ?_
          refine va_iald hx hb hK hP 4 1 rfl rfl (s_Program_addressOf_3 q_1 q_2 q_3 hm i_0) d_Program_addressOf_33 ?_
          exact W.iret (v := (da x3.toNatClampNeg)) hx hb hr (fun t ht hW => ⟨⟨(da x3.toNatClampNeg), (), rfl, by rw [← hres]; simp only [m_Program_addressOf_L2, if_neg c_1, if_neg c_2, if_pos c_3], by rw [ht]; exact hP, va_K.moved hW.alike hK, hD⟩, hS.F ht⟩) hS.2.2 d_Program_addressOf_34
def m_Program_addressOf (dn : Nat → Int64) (da : Nat → Int32) (dl : Int32) (nm : Int64) : Int32 :=
  m_Program_addressOf_L2 dn da dl nm (241) 0
theorem s_Program_addressOf_4 : (240 - (0 : Int32).toInt).toNat < (241) := by have z0 : (0 : Int32).toInt = 0 := (by decide); omega
theorem s_Program_addressOf_5 : 0 ≤ (0 : Int32).toInt := by have z0 : (0 : Int32).toInt = 0 := (by decide); omega
set_option maxHeartbeats 4000000 in
set_option maxRecDepth 100000 in
theorem c_Program_addressOf (l : Launch) (dC : Nat → ClassId) (dI : Nat → Nat → Nat) (cB cI cJ : ClassId) (od odw ods odn oda : Nat) (sz : Nat) (dw : Nat → Int32) (ds : Nat → Int32) (dn : Nat → Int64) (da : Nat → Int32) (dl : Int32) (dc : Int32) (nm : Int64) : Met l y_Program_addressOf w_Program_addressOf ({ frames := 0, cells := 0, slots := 0, locals := 0 }) (va_Pc [.ref od, .long nm] (g_pre dC dI [(cB, .byte), (cI, .int), (cJ, .long)] sz [(od, .inr (2, [.ref odw, .ref ods, .ref odn, .ref oda, .int dl, .int dc])), (odw, .inl (cI, 256, .inl dw)), (ods, .inl (cI, 4, .inl ds)), (odn, .inl (cJ, 240, .inr (.inl dn))), (oda, .inl (cI, 240, .inl da))] (fun _ => True))) (va_Qi (fun (r : Int32) (u : Unit) => r = (m_Program_addressOf dn da dl nm)) (fun u => g_post dC dI [(cB, .byte), (cI, .int), (cJ, .long)] (va_A [(od, .inr (2, [.ref odw, .ref ods, .ref odn, .ref oda, .int dl, .int dc])), (odw, .inl (cI, 256, .inl dw)), (ods, .inl (cI, 4, .inl ds)), (odn, .inl (cJ, 240, .inr (.inl dn))), (oda, .inl (cI, 240, .inl da))] sz) [(od, .inr (2, [.ref odw, .ref ods, .ref odn, .ref oda, .int dl, .int dc])), (odw, .inl (cI, 256, .inl dw)), (ods, .inl (cI, 4, .inl ds)), (odn, .inl (cJ, 240, .inr (.inl dn))), (oda, .inl (cI, 240, .inl da))]) (va_A [(od, .inr (2, [.ref odw, .ref ods, .ref odn, .ref oda, .int dl, .int dc])), (odw, .inl (cI, 256, .inl dw)), (ods, .inl (cI, 4, .inl ds)), (odn, .inl (cJ, 240, .inr (.inl dn))), (oda, .inl (cI, 240, .inl da))] sz)) 0 0 (va_A [(od, .inr (2, [.ref odw, .ref ods, .ref odn, .ref oda, .int dl, .int dc])), (odw, .inl (cI, 256, .inl dw)), (ods, .inl (cI, 4, .inl ds)), (odn, .inl (cJ, 240, .inr (.inl dn))), (oda, .inl (cI, 240, .inl da))] sz) := by
  refine Met.ofW (cc := b_Program_addressOf) (maxL := 4) (ret := (some .int)) (by decide) rfl ?_
  intro p e s m args below meth c s₁ B hml hv
  obtain ⟨rfl, hsz, hP, hK, hD0, hX⟩ := hv
  subst hsz
  have C0 : g_Cx p s m meth c b_Program_addressOf 4 (some .int) R_Program [.ref od, .long nm].toArray := g_start B hml rfl
  obtain ⟨hx, hb, hml, hr, hown, hts, hlocks⟩ := id C0
  have hD := hD0.self (sz := s.heap.size)
  generalize hAe : va_A [(od, .inr (2, [.ref odw, .ref ods, .ref odn, .ref oda, .int dl, .int dc])), (odw, .inl (cI, 256, .inl dw)), (ods, .inl (cI, 4, .inl ds)), (odn, .inl (cJ, 240, .inr (.inl dn))), (oda, .inl (cI, 240, .inl da))] s.heap.size = A at hD ⊢
  generalize hres : (m_Program_addressOf dn da dl nm) = res
  have hA : ∀ q : Nat, s.heap.size ≤ q → A q := fun q h => by rw [← hAe]; exact Or.inr h
  have hS : va_S A s.heap s.heap [] := va_S.rf
  have hl := lv_entry ([.ref od, .long nm]) (n := 4) (Nat.le_of_ble_eq_true rfl)
  rw [lg_entry_eq]
  generalize (lg_sl ([.ref od, .long nm]) ++ List.replicate (4 - (lg_sl ([.ref od, .long nm])).length) Slot.unset).toArray = ls at hl ⊢
  have hl : lv_has ls 4 [(0, .ref od), (1, .long nm)] := hl
  refine lv_iconst (v := 0) hx hb d_Program_addressOf_0 (by decide) ?_
  refine lv_istore_n (lv' := [(3, .int 0), (0, .ref od), (1, .long nm)]) hx hb d_Program_addressOf_1 rfl hl (by decide) rfl (fun ls hl => ?_)
  exact L_Program_addressOf_2 C0 hK hA (241) 0 (s_Program_addressOf_4) (s_Program_addressOf_5) (by rw [← hres]; simp only [m_Program_addressOf]) _ _ _ hP hD hS (lv_sub hl [0, 1, 2] rfl)
def m_Program_add (dn : Nat → Int64) (da : Nat → Int32) (dl : Int32) (nm : Int64) (ad : Int32) : Int32 × (Nat → Int64) × (Nat → Int32) × Int32 :=
  if (m_Program_addressOf dn da dl nm) = (-1) then
    if dl < 240 then
      (1, (vp_updL dn dl.toNatClampNeg nm), (upd da dl.toNatClampNeg ad), (dl + 1))
    else
      (0, dn, da, dl)
  else
    (0, dn, da, dl)
theorem s_Program_add_0 {dl : Int32} {dn : Nat → Int64} {da : Nat → Int32} {nm : Int64} (q_2 : (m_Program_addressOf dn da dl nm).toInt = ((-1) : Int32).toInt) (q_3 : dl.toInt < (240 : Int32).toInt) (h_d0 : 0 ≤ dl.toInt) : vp_in dl 240 := by rw [vp_in_iff]; have z0 : ((-1) : Int32).toInt = -1 := (by decide); have z1 : (240 : Int32).toInt = 240 := (by decide); have g0 := gz_r dl; omega
theorem s_Program_add_1 {dl : Int32} {dn : Nat → Int64} {da : Nat → Int32} {nm : Int64} (q_2 : (m_Program_addressOf dn da dl nm).toInt = ((-1) : Int32).toInt) (q_3 : dl.toInt < (240 : Int32).toInt) (h_d0 : 0 ≤ dl.toInt) : vp_in dl 240 := by rw [vp_in_iff]; have z0 : ((-1) : Int32).toInt = -1 := (by decide); have z1 : (240 : Int32).toInt = 240 := (by decide); have g0 := gz_r dl; omega
set_option maxHeartbeats 4000000 in
set_option maxRecDepth 100000 in
theorem c_Program_add (l : Launch) (dC : Nat → ClassId) (dI : Nat → Nat → Nat) (cB cI cJ : ClassId) (od odw ods odn oda : Nat) (sz : Nat) (dw : Nat → Int32) (ds : Nat → Int32) (dn : Nat → Int64) (da : Nat → Int32) (dl : Int32) (dc : Int32) (nm : Int64) (ad : Int32) (h_d0 : 0 ≤ dl.toInt) : Met l y_Program_add w_Program_add ({ frames := 1, cells := 0, slots := 0, locals := 23 }) (va_Pc [.ref od, .long nm, .int ad] (g_pre dC dI [(cB, .byte), (cI, .int), (cJ, .long)] sz [(od, .inr (2, [.ref odw, .ref ods, .ref odn, .ref oda, .int dl, .int dc])), (odw, .inl (cI, 256, .inl dw)), (ods, .inl (cI, 4, .inl ds)), (odn, .inl (cJ, 240, .inr (.inl dn))), (oda, .inl (cI, 240, .inl da))] (fun _ => True))) (va_Qi (fun (r : Int32) (u : (Nat → Int64) × (Nat → Int32) × Int32) => (r, u) = (m_Program_add dn da dl nm ad) ∧ narrow .boolean (.int r) = .int r) (fun u => g_post dC dI [(cB, .byte), (cI, .int), (cJ, .long)] (va_A [(od, .inr (2, [.ref odw, .ref ods, .ref odn, .ref oda, .int dl, .int dc])), (odw, .inl (cI, 256, .inl dw)), (ods, .inl (cI, 4, .inl ds)), (odn, .inl (cJ, 240, .inr (.inl dn))), (oda, .inl (cI, 240, .inl da))] sz) [(od, .inr (2, [.ref odw, .ref ods, .ref odn, .ref oda, .int u.2.2, .int dc])), (odw, .inl (cI, 256, .inl dw)), (ods, .inl (cI, 4, .inl ds)), (odn, .inl (cJ, 240, .inr (.inl u.1))), (oda, .inl (cI, 240, .inl u.2.1))]) (va_A [(od, .inr (2, [.ref odw, .ref ods, .ref odn, .ref oda, .int dl, .int dc])), (odw, .inl (cI, 256, .inl dw)), (ods, .inl (cI, 4, .inl ds)), (odn, .inl (cJ, 240, .inr (.inl dn))), (oda, .inl (cI, 240, .inl da))] sz)) 0 0 (va_A [(od, .inr (2, [.ref odw, .ref ods, .ref odn, .ref oda, .int dl, .int dc])), (odw, .inl (cI, 256, .inl dw)), (ods, .inl (cI, 4, .inl ds)), (odn, .inl (cJ, 240, .inr (.inl dn))), (oda, .inl (cI, 240, .inl da))] sz) := by
  refine Met.ofW (cc := b_Program_add) (maxL := 4) (ret := (some .boolean)) (by decide) rfl ?_
  intro p e s m args below meth c s₁ B hml hv
  obtain ⟨rfl, hsz, hP, hK, hD0, hX⟩ := hv
  subst hsz
  have C0 : g_Cx p s m meth c b_Program_add 4 (some .boolean) R_Program [.ref od, .long nm, .int ad].toArray := g_start B hml rfl
  obtain ⟨hx, hb, hml, hr, hown, hts, hlocks⟩ := id C0
  have hD := hD0.self (sz := s.heap.size)
  generalize hAe : va_A [(od, .inr (2, [.ref odw, .ref ods, .ref odn, .ref oda, .int dl, .int dc])), (odw, .inl (cI, 256, .inl dw)), (ods, .inl (cI, 4, .inl ds)), (odn, .inl (cJ, 240, .inr (.inl dn))), (oda, .inl (cI, 240, .inl da))] s.heap.size = A at hD ⊢
  generalize hres : (m_Program_add dn da dl nm ad) = res
  have hA : ∀ q : Nat, s.heap.size ≤ q → A q := fun q h => by rw [← hAe]; exact Or.inr h
  have hS : va_S A s.heap s.heap [] := va_S.rf
  have hl := lv_entry ([.ref od, .long nm, .int ad]) (n := 4) (Nat.le_of_ble_eq_true rfl)
  rw [lg_entry_eq]
  generalize (lg_sl ([.ref od, .long nm, .int ad]) ++ List.replicate (4 - (lg_sl ([.ref od, .long nm, .int ad])).length) Slot.unset).toArray = ls at hl ⊢
  have hl : lv_has ls 4 [(0, .ref od), (1, .long nm), (3, .int ad)] := hl
  refine lv_aload_n hx hb d_Program_add_0 rfl (lv_at hl 0 rfl) ?_
  refine lv_lload_n hx hb d_Program_add_1 rfl (lv_at hl 1 rfl) ?_
  refine gk_i (isC := [0, 1, 2, 3, 4]) (isR := []) (perm := [0, 1, 2, 3, 4]) (wr := []) (can := fun u => [(od, .inr (2, [.ref odw, .ref ods, .ref odn, .ref oda, .int dl, .int dc])), (odw, .inl (cI, 256, .inl dw)), (ods, .inl (cI, 4, .inl ds)), (odn, .inl (cJ, 240, .inr (.inl dn))), (oda, .inl (cI, 240, .inl da))]) (gr_V C0 (c_Program_addressOf l dC dI cB cI cJ od odw ods odn oda _ dw ds dn da dl dc nm) cs_Program_40 hK hP hD [0, 1, 2, 3, 4] rfl (by decide) g_tb g_tx (ci := 2) (k := 0) rfl rfl rfl rfl hl.1 rfl (lv_room (Nat.le_of_ble_eq_true rfl)) d_Program_add_2 ⟨Nat.le_of_ble_eq_true rfl, Nat.le_of_ble_eq_true rfl⟩ ⟨Nat.le_of_ble_eq_true rfl, Nat.le_of_ble_eq_true rfl⟩) hP hD hS hA rfl rfl (by decide) (by decide) (by decide) (fun _ => rfl) (fun r_1 u_1 H locs hw_1 hP hD hS => ?_)
  rw [hw_1]
  have hP : va_P (dC, dI) classes [(od, .inr (2, [.ref odw, .ref ods, .ref odn, .ref oda, .int dl, .int dc])), (odw, .inl (cI, 256, .inl dw)), (ods, .inl (cI, 4, .inl ds)), (odn, .inl (cJ, 240, .inr (.inl dn))), (oda, .inl (cI, 240, .inl da))] H := hP
  have hD : va_D A [(od, .inr (2, [.ref odw, .ref ods, .ref odn, .ref oda, .int dl, .int dc])), (odw, .inl (cI, 256, .inl dw)), (ods, .inl (cI, 4, .inl ds)), (odn, .inl (cJ, 240, .inr (.inl dn))), (oda, .inl (cI, 240, .inl da))] := hD
  refine lv_iconst (v := (-1)) hx hb d_Program_add_5 (by decide) ?_
  refine lv_icmp_ne (tgt := 19) hx hb d_Program_add_6 (by decide) (fun c_2 => ?_) (fun c_2 => ?_)
  · have q_2 : ¬ _ = _ := fun h => c_2 (Int32.toInt_inj.mp h)
    refine lv_iconst (v := 0) hx hb d_Program_add_19 (by decide) ?_
    exact W.zret (v := 0) hx hb hr rfl (fun t ht hW => ⟨⟨0, (dn, da, dl), rfl, ⟨by rw [← hres]; simp only [m_Program_add, if_neg c_2], rfl⟩, by rw [ht]; exact hP, va_K.moved hW.alike hK, hD⟩, hS.F ht⟩) hS.2.2 d_Program_add_20
  · have q_2 := congrArg Int32.toInt c_2
    refine lv_aload_n hx hb d_Program_add_9 rfl (lv_at hl 0 rfl) ?_
    refine va_get (D := (dC, dI)) (ci := 2) (v := .int dl) (C := R_Program) (T := F_Program) (N := 6) hx hb hts i_Program hown hK hP 0 rfl rfl 4 (by decide) (hts _ tw_12) (fun _ h9 => h9) rfl d_Program_add_10 ?_
    refine lv_sipush (v := 240) hx hb d_Program_add_13 (by decide) ?_
    refine lv_icmp_lt (tgt := 21) hx hb d_Program_add_16 (by decide) (fun c_3 => ?_) (fun c_3 => ?_)
    · have q_3 := Int32.lt_iff_toInt_lt.mp c_3
      refine lv_aload_n hx hb d_Program_add_21 rfl (lv_at hl 0 rfl) ?_
      refine va_get (D := (dC, dI)) (ci := 2) (v := .ref odn) (C := R_Program) (T := F_Program) (N := 6) hx hb hts i_Program hown hK hP 0 rfl rfl 2 (by decide) (hts _ tw_14) (fun _ h9 => h9) rfl d_Program_add_22 ?_
      refine lv_aload_n hx hb d_Program_add_25 rfl (lv_at hl 0 rfl) ?_
      refine va_get (D := (dC, dI)) (ci := 2) (v := .int dl) (C := R_Program) (T := F_Program) (N := 6) hx hb hts i_Program hown hK hP 0 rfl rfl 4 (by decide) (hts _ tw_12) (fun _ h9 => h9) rfl d_Program_add_26 ?_
      refine lv_lload_n hx hb d_Program_add_29 rfl (lv_at hl 1 rfl) ?_
      refine va_last hx hb hK hP hD hS 3 2 rfl rfl (s_Program_add_0 q_2 q_3 h_d0) d_Program_add_30 (fun H locs hP hD hS => ?_)
      have hP : va_P (dC, dI) classes [(od, .inr (2, [.ref odw, .ref ods, .ref odn, .ref oda, .int dl, .int dc])), (odw, .inl (cI, 256, .inl dw)), (ods, .inl (cI, 4, .inl ds)), (odn, .inl (cJ, 240, .inr (.inl (vp_updL dn dl.toNatClampNeg nm)))), (oda, .inl (cI, 240, .inl da))] H := hP
      have hD : va_D A [(od, .inr (2, [.ref odw, .ref ods, .ref odn, .ref oda, .int dl, .int dc])), (odw, .inl (cI, 256, .inl dw)), (ods, .inl (cI, 4, .inl ds)), (odn, .inl (cJ, 240, .inr (.inl (vp_updL dn dl.toNatClampNeg nm)))), (oda, .inl (cI, 240, .inl da))] := hD
      refine lv_aload_n hx hb d_Program_add_31 rfl (lv_at hl 0 rfl) ?_
      refine va_get (D := (dC, dI)) (ci := 2) (v := .ref oda) (C := R_Program) (T := F_Program) (N := 6) hx hb hts i_Program hown hK hP 0 rfl rfl 3 (by decide) (hts _ tw_15) (fun _ h9 => h9) rfl d_Program_add_32 ?_
      refine lv_aload_n hx hb d_Program_add_35 rfl (lv_at hl 0 rfl) ?_
      refine va_get (D := (dC, dI)) (ci := 2) (v := .int dl) (C := R_Program) (T := F_Program) (N := 6) hx hb hts i_Program hown hK hP 0 rfl rfl 4 (by decide) (hts _ tw_12) (fun _ h9 => h9) rfl d_Program_add_36 ?_
      refine lv_iload_n hx hb d_Program_add_39 rfl (lv_at hl 2 rfl) ?_
      refine va_iast hx hb hK hP hD hS 4 1 rfl rfl (s_Program_add_1 q_2 q_3 h_d0) d_Program_add_40 (fun H locs hP hD hS => ?_)
      have hP : va_P (dC, dI) classes [(od, .inr (2, [.ref odw, .ref ods, .ref odn, .ref oda, .int dl, .int dc])), (odw, .inl (cI, 256, .inl dw)), (ods, .inl (cI, 4, .inl ds)), (odn, .inl (cJ, 240, .inr (.inl (vp_updL dn dl.toNatClampNeg nm)))), (oda, .inl (cI, 240, .inl (upd da dl.toNatClampNeg ad)))] H := hP
      have hD : va_D A [(od, .inr (2, [.ref odw, .ref ods, .ref odn, .ref oda, .int dl, .int dc])), (odw, .inl (cI, 256, .inl dw)), (ods, .inl (cI, 4, .inl ds)), (odn, .inl (cJ, 240, .inr (.inl (vp_updL dn dl.toNatClampNeg nm)))), (oda, .inl (cI, 240, .inl (upd da dl.toNatClampNeg ad)))] := hD
      refine lv_aload_n hx hb d_Program_add_41 rfl (lv_at hl 0 rfl) ?_
      refine lv_dup hx hb d_Program_add_42 rfl ?_
      refine va_get (D := (dC, dI)) (ci := 2) (v := .int dl) (C := R_Program) (T := F_Program) (N := 6) hx hb hts i_Program hown hK hP 0 rfl rfl 4 (by decide) (hts _ tw_12) (fun _ h9 => h9) rfl d_Program_add_43 ?_
      refine lv_iconst (v := 1) hx hb d_Program_add_46 (by decide) ?_
      refine lv_iadd hx hb d_Program_add_47 ?_
      refine va_put (D := (dC, dI)) (ci := 2) (v := .int (dl + 1)) (ty := .int) (C := R_Program) (T := F_Program) (N := 6) hx hb hts i_Program t_Program t_Program_ok n_Program hown hK hP hD hS 0 rfl rfl 4 (by decide) (hts _ tw_12) (fun _ h9 => h9) rfl (by decide +kernel) rfl rfl (Nat.le_of_ble_eq_true rfl) d_Program_add_48 (fun H locs hP hD hS => ?_)
      have hP : va_P (dC, dI) classes [(od, .inr (2, [.ref odw, .ref ods, .ref odn, .ref oda, .int (dl + 1), .int dc])), (odw, .inl (cI, 256, .inl dw)), (ods, .inl (cI, 4, .inl ds)), (odn, .inl (cJ, 240, .inr (.inl (vp_updL dn dl.toNatClampNeg nm)))), (oda, .inl (cI, 240, .inl (upd da dl.toNatClampNeg ad)))] H := hP
      have hD : va_D A [(od, .inr (2, [.ref odw, .ref ods, .ref odn, .ref oda, .int (dl + 1), .int dc])), (odw, .inl (cI, 256, .inl dw)), (ods, .inl (cI, 4, .inl ds)), (odn, .inl (cJ, 240, .inr (.inl (vp_updL dn dl.toNatClampNeg nm)))), (oda, .inl (cI, 240, .inl (upd da dl.toNatClampNeg ad)))] := hD
      refine lv_iconst (v := 1) hx hb d_Program_add_51 (by decide) ?_
      exact W.zret (v := 1) hx hb hr rfl (fun t ht hW => ⟨⟨1, ((vp_updL dn dl.toNatClampNeg nm), (upd da dl.toNatClampNeg ad), (dl + 1)), rfl, ⟨by rw [← hres]; simp only [m_Program_add, if_pos c_2, if_pos c_3], rfl⟩, by rw [ht]; exact hP, va_K.moved hW.alike hK, hD⟩, hS.F ht⟩) hS.2.2 d_Program_add_52
    · have q_3 := mt Int32.lt_iff_toInt_lt.mpr c_3
      refine lv_iconst (v := 0) hx hb d_Program_add_19 (by decide) ?_
      exact W.zret (v := 0) hx hb hr rfl (fun t ht hW => ⟨⟨0, (dn, da, dl), rfl, ⟨by rw [← hres]; simp only [m_Program_add, if_pos c_2, if_neg c_3], rfl⟩, by rw [ht]; exact hP, va_K.moved hW.alike hK, hD⟩, hS.F ht⟩) hS.2.2 d_Program_add_20
theorem v_Program_add {r : Int32} {u1 : Nat → Int64} {u2 : Nat → Int32} {u3 : Int32} {dn : Nat → Int64} {da : Nat → Int32} {dl : Int32} {nm : Int64} {ad : Int32} (hw : (r, u1, u2, u3) = m_Program_add dn da dl nm ad) (h : 0 ≤ dl.toInt) : 0 ≤ u3.toInt := by
  unfold m_Program_add at hw
  have z : (240 : Int32).toInt = 240 := rfl
  have o : (1 : Int32).toInt = 1 := rfl
  split at hw
  · split at hw
    · rename_i c
      simp only [Prod.mk.injEq] at hw
      rw [hw.2.2.2]
      have q := Int32.lt_iff_toInt_lt.mp c
      have a := gz_a dl 1 (by omega) (by omega)
      omega
    · simp only [Prod.mk.injEq] at hw
      rw [hw.2.2.2]; exact h
  · simp only [Prod.mk.injEq] at hw
    rw [hw.2.2.2]; exact h
def m_Fault_clear (fk : Int32) (fp : Int32) : Int32 × Int32 :=
  (0, 0)
set_option maxHeartbeats 4000000 in
set_option maxRecDepth 100000 in
theorem c_Fault_clear (l : Launch) (dC : Nat → ClassId) (dI : Nat → Nat → Nat) (cB cI cJ : ClassId) (aF : Nat) (sz : Nat) (fk : Int32) (fp : Int32) : Met l y_Fault_clear w_Fault_clear ({ frames := 0, cells := 0, slots := 0, locals := 0 }) (va_Pc [.ref aF] (g_pre dC dI [(cB, .byte), (cI, .int), (cJ, .long)] sz [(aF, .inr (3, [.int fk, .int fp]))] (fun _ => True))) (va_Qv (fun u : Int32 × Int32 => u = (m_Fault_clear fk fp)) (fun u => g_post dC dI [(cB, .byte), (cI, .int), (cJ, .long)] (va_A [(aF, .inr (3, [.int fk, .int fp]))] sz) [(aF, .inr (3, [.int u.1, .int u.2]))]) (va_A [(aF, .inr (3, [.int fk, .int fp]))] sz)) 0 0 (va_A [(aF, .inr (3, [.int fk, .int fp]))] sz) := by
  refine Met.ofW (cc := b_Fault_clear) (maxL := 1) (ret := none) (by decide) rfl ?_
  intro p e s m args below meth c s₁ B hml hv
  obtain ⟨rfl, hsz, hP, hK, hD0, hX⟩ := hv
  subst hsz
  have C0 : g_Cx p s m meth c b_Fault_clear 1 none R_Fault [.ref aF].toArray := g_start B hml rfl
  obtain ⟨hx, hb, hml, hr, hown, hts, hlocks⟩ := id C0
  have hD := hD0.self (sz := s.heap.size)
  generalize hAe : va_A [(aF, .inr (3, [.int fk, .int fp]))] s.heap.size = A at hD ⊢
  generalize hres : (m_Fault_clear fk fp) = res
  have hA : ∀ q : Nat, s.heap.size ≤ q → A q := fun q h => by rw [← hAe]; exact Or.inr h
  have hS : va_S A s.heap s.heap [] := va_S.rf
  have hl := lv_entry ([.ref aF]) (n := 1) (Nat.le_of_ble_eq_true rfl)
  rw [lg_entry_eq]
  generalize (lg_sl ([.ref aF]) ++ List.replicate (1 - (lg_sl ([.ref aF])).length) Slot.unset).toArray = ls at hl ⊢
  have hl : lv_has ls 1 [(0, .ref aF)] := hl
  refine lv_aload_n hx hb d_Fault_clear_0 rfl (lv_at hl 0 rfl) ?_
  refine lv_iconst (v := 0) hx hb d_Fault_clear_1 (by decide) ?_
  refine va_put (D := (dC, dI)) (ci := 3) (v := .int 0) (ty := .int) (C := R_Fault) (T := F_Fault) (N := 2) hx hb hts i_Fault t_Fault t_Fault_ok n_Fault hown hK hP hD hS 0 rfl rfl 0 (by decide) (hts _ tw_16) (fun _ h9 => h9) rfl (by decide +kernel) rfl rfl (Nat.le_of_ble_eq_true rfl) d_Fault_clear_2 (fun H locs hP hD hS => ?_)
  have hP : va_P (dC, dI) classes [(aF, .inr (3, [.int 0, .int fp]))] H := hP
  have hD : va_D A [(aF, .inr (3, [.int 0, .int fp]))] := hD
  refine lv_aload_n hx hb d_Fault_clear_5 rfl (lv_at hl 0 rfl) ?_
  refine lv_iconst (v := 0) hx hb d_Fault_clear_6 (by decide) ?_
  refine va_put (D := (dC, dI)) (ci := 3) (v := .int 0) (ty := .int) (C := R_Fault) (T := F_Fault) (N := 2) hx hb hts i_Fault t_Fault t_Fault_ok n_Fault hown hK hP hD hS 0 rfl rfl 1 (by decide) (hts _ tw_17) (fun _ h9 => h9) rfl (by decide +kernel) rfl rfl (Nat.le_of_ble_eq_true rfl) d_Fault_clear_7 (fun H locs hP hD hS => ?_)
  have hP : va_P (dC, dI) classes [(aF, .inr (3, [.int 0, .int 0]))] H := hP
  have hD : va_D A [(aF, .inr (3, [.int 0, .int 0]))] := hD
  exact W.vret hx hb hr (fun t ht hW => ⟨⟨(0, 0), rfl, by rw [← hres]; simp only [m_Fault_clear], by rw [ht]; exact hP, va_K.moved hW.alike hK, hD⟩, hS.F ht⟩) hS.2.2 d_Fault_clear_10
def m_Fault_refuse (fk : Int32) (fp : Int32) (wh : Int32) : Int32 × Int32 × Int32 :=
  (0, 1, wh)
set_option maxHeartbeats 4000000 in
set_option maxRecDepth 100000 in
theorem c_Fault_refuse (l : Launch) (dC : Nat → ClassId) (dI : Nat → Nat → Nat) (cB cI cJ : ClassId) (aF : Nat) (sz : Nat) (fk : Int32) (fp : Int32) (wh : Int32) : Met l y_Fault_refuse w_Fault_refuse ({ frames := 0, cells := 0, slots := 0, locals := 0 }) (va_Pc [.ref aF, .int wh] (g_pre dC dI [(cB, .byte), (cI, .int), (cJ, .long)] sz [(aF, .inr (3, [.int fk, .int fp]))] (fun _ => True))) (va_Qi (fun (r : Int32) (u : Int32 × Int32) => (r, u) = (m_Fault_refuse fk fp wh) ∧ narrow .boolean (.int r) = .int r) (fun u => g_post dC dI [(cB, .byte), (cI, .int), (cJ, .long)] (va_A [(aF, .inr (3, [.int fk, .int fp]))] sz) [(aF, .inr (3, [.int u.1, .int u.2]))]) (va_A [(aF, .inr (3, [.int fk, .int fp]))] sz)) 0 0 (va_A [(aF, .inr (3, [.int fk, .int fp]))] sz) := by
  refine Met.ofW (cc := b_Fault_refuse) (maxL := 2) (ret := (some .boolean)) (by decide) rfl ?_
  intro p e s m args below meth c s₁ B hml hv
  obtain ⟨rfl, hsz, hP, hK, hD0, hX⟩ := hv
  subst hsz
  have C0 : g_Cx p s m meth c b_Fault_refuse 2 (some .boolean) R_Fault [.ref aF, .int wh].toArray := g_start B hml rfl
  obtain ⟨hx, hb, hml, hr, hown, hts, hlocks⟩ := id C0
  have hD := hD0.self (sz := s.heap.size)
  generalize hAe : va_A [(aF, .inr (3, [.int fk, .int fp]))] s.heap.size = A at hD ⊢
  generalize hres : (m_Fault_refuse fk fp wh) = res
  have hA : ∀ q : Nat, s.heap.size ≤ q → A q := fun q h => by rw [← hAe]; exact Or.inr h
  have hS : va_S A s.heap s.heap [] := va_S.rf
  have hl := lv_entry ([.ref aF, .int wh]) (n := 2) (Nat.le_of_ble_eq_true rfl)
  rw [lg_entry_eq]
  generalize (lg_sl ([.ref aF, .int wh]) ++ List.replicate (2 - (lg_sl ([.ref aF, .int wh])).length) Slot.unset).toArray = ls at hl ⊢
  have hl : lv_has ls 2 [(0, .ref aF), (1, .int wh)] := hl
  refine lv_aload_n hx hb d_Fault_refuse_0 rfl (lv_at hl 0 rfl) ?_
  refine lv_iconst (v := 1) hx hb d_Fault_refuse_1 (by decide) ?_
  refine va_put (D := (dC, dI)) (ci := 3) (v := .int 1) (ty := .int) (C := R_Fault) (T := F_Fault) (N := 2) hx hb hts i_Fault t_Fault t_Fault_ok n_Fault hown hK hP hD hS 0 rfl rfl 0 (by decide) (hts _ tw_16) (fun _ h9 => h9) rfl (by decide +kernel) rfl rfl (Nat.le_of_ble_eq_true rfl) d_Fault_refuse_2 (fun H locs hP hD hS => ?_)
  have hP : va_P (dC, dI) classes [(aF, .inr (3, [.int 1, .int fp]))] H := hP
  have hD : va_D A [(aF, .inr (3, [.int 1, .int fp]))] := hD
  refine lv_aload_n hx hb d_Fault_refuse_5 rfl (lv_at hl 0 rfl) ?_
  refine lv_iload_n hx hb d_Fault_refuse_6 rfl (lv_at hl 1 rfl) ?_
  refine va_put (D := (dC, dI)) (ci := 3) (v := .int wh) (ty := .int) (C := R_Fault) (T := F_Fault) (N := 2) hx hb hts i_Fault t_Fault t_Fault_ok n_Fault hown hK hP hD hS 0 rfl rfl 1 (by decide) (hts _ tw_17) (fun _ h9 => h9) rfl (by decide +kernel) rfl rfl (Nat.le_of_ble_eq_true rfl) d_Fault_refuse_7 (fun H locs hP hD hS => ?_)
  have hP : va_P (dC, dI) classes [(aF, .inr (3, [.int 1, .int wh]))] H := hP
  have hD : va_D A [(aF, .inr (3, [.int 1, .int wh]))] := hD
  refine lv_iconst (v := 0) hx hb d_Fault_refuse_10 (by decide) ?_
  exact W.zret (v := 0) hx hb hr rfl (fun t ht hW => ⟨⟨0, (1, wh), rfl, ⟨by rw [← hres]; simp only [m_Fault_refuse], rfl⟩, by rw [ht]; exact hP, va_K.moved hW.alike hK, hD⟩, hS.F ht⟩) hS.2.2 d_Fault_refuse_11
def m_Fault_note (fk : Int32) (fp : Int32) (nk : Int32) (wh : Int32) : Int32 × Int32 :=
  if fk = 0 then
    (nk, wh)
  else
    if wh < fp then
      (nk, wh)
    else
      if wh = fp then
        if fk ≤ nk then
          (fk, fp)
        else
          (nk, wh)
      else
        (fk, fp)
set_option maxHeartbeats 4000000 in
set_option maxRecDepth 100000 in
theorem c_Fault_note (l : Launch) (dC : Nat → ClassId) (dI : Nat → Nat → Nat) (cB cI cJ : ClassId) (aF : Nat) (sz : Nat) (fk : Int32) (fp : Int32) (nk : Int32) (wh : Int32) : Met l y_Fault_note w_Fault_note ({ frames := 0, cells := 0, slots := 0, locals := 0 }) (va_Pc [.ref aF, .int nk, .int wh] (g_pre dC dI [(cB, .byte), (cI, .int), (cJ, .long)] sz [(aF, .inr (3, [.int fk, .int fp]))] (fun _ => True))) (va_Qv (fun u : Int32 × Int32 => u = (m_Fault_note fk fp nk wh)) (fun u => g_post dC dI [(cB, .byte), (cI, .int), (cJ, .long)] (va_A [(aF, .inr (3, [.int fk, .int fp]))] sz) [(aF, .inr (3, [.int u.1, .int u.2]))]) (va_A [(aF, .inr (3, [.int fk, .int fp]))] sz)) 0 0 (va_A [(aF, .inr (3, [.int fk, .int fp]))] sz) := by
  refine Met.ofW (cc := b_Fault_note) (maxL := 3) (ret := none) (by decide) rfl ?_
  intro p e s m args below meth c s₁ B hml hv
  obtain ⟨rfl, hsz, hP, hK, hD0, hX⟩ := hv
  subst hsz
  have C0 : g_Cx p s m meth c b_Fault_note 3 none R_Fault [.ref aF, .int nk, .int wh].toArray := g_start B hml rfl
  obtain ⟨hx, hb, hml, hr, hown, hts, hlocks⟩ := id C0
  have hD := hD0.self (sz := s.heap.size)
  generalize hAe : va_A [(aF, .inr (3, [.int fk, .int fp]))] s.heap.size = A at hD ⊢
  generalize hres : (m_Fault_note fk fp nk wh) = res
  have hA : ∀ q : Nat, s.heap.size ≤ q → A q := fun q h => by rw [← hAe]; exact Or.inr h
  have hS : va_S A s.heap s.heap [] := va_S.rf
  have hl := lv_entry ([.ref aF, .int nk, .int wh]) (n := 3) (Nat.le_of_ble_eq_true rfl)
  rw [lg_entry_eq]
  generalize (lg_sl ([.ref aF, .int nk, .int wh]) ++ List.replicate (3 - (lg_sl ([.ref aF, .int nk, .int wh])).length) Slot.unset).toArray = ls at hl ⊢
  have hl : lv_has ls 3 [(0, .ref aF), (1, .int nk), (2, .int wh)] := hl
  refine lv_aload_n hx hb d_Fault_note_0 rfl (lv_at hl 0 rfl) ?_
  refine va_get (D := (dC, dI)) (ci := 3) (v := .int fk) (C := R_Fault) (T := F_Fault) (N := 2) hx hb hts i_Fault hown hK hP 0 rfl rfl 0 (by decide) (hts _ tw_16) (fun _ h9 => h9) rfl d_Fault_note_1 ?_
  refine lv_if_eq (tgt := 31) hx hb d_Fault_note_4 (by decide) (fun c_1 => ?_) (fun c_1 => ?_)
  · have q_1 := congrArg Int32.toInt c_1
    refine lv_aload_n hx hb d_Fault_note_31 rfl (lv_at hl 0 rfl) ?_
    refine lv_iload_n hx hb d_Fault_note_32 rfl (lv_at hl 1 rfl) ?_
    refine va_put (D := (dC, dI)) (ci := 3) (v := .int nk) (ty := .int) (C := R_Fault) (T := F_Fault) (N := 2) hx hb hts i_Fault t_Fault t_Fault_ok n_Fault hown hK hP hD hS 0 rfl rfl 0 (by decide) (hts _ tw_16) (fun _ h9 => h9) rfl (by decide +kernel) rfl rfl (Nat.le_of_ble_eq_true rfl) d_Fault_note_33 (fun H locs hP hD hS => ?_)
    have hP : va_P (dC, dI) classes [(aF, .inr (3, [.int nk, .int fp]))] H := hP
    have hD : va_D A [(aF, .inr (3, [.int nk, .int fp]))] := hD
    refine lv_aload_n hx hb d_Fault_note_36 rfl (lv_at hl 0 rfl) ?_
    refine lv_iload_n hx hb d_Fault_note_37 rfl (lv_at hl 2 rfl) ?_
    refine va_put (D := (dC, dI)) (ci := 3) (v := .int wh) (ty := .int) (C := R_Fault) (T := F_Fault) (N := 2) hx hb hts i_Fault t_Fault t_Fault_ok n_Fault hown hK hP hD hS 0 rfl rfl 1 (by decide) (hts _ tw_17) (fun _ h9 => h9) rfl (by decide +kernel) rfl rfl (Nat.le_of_ble_eq_true rfl) d_Fault_note_38 (fun H locs hP hD hS => ?_)
    have hP : va_P (dC, dI) classes [(aF, .inr (3, [.int nk, .int wh]))] H := hP
    have hD : va_D A [(aF, .inr (3, [.int nk, .int wh]))] := hD
    exact W.vret hx hb hr (fun t ht hW => ⟨⟨(nk, wh), rfl, by rw [← hres]; simp only [m_Fault_note, if_pos c_1], by rw [ht]; exact hP, va_K.moved hW.alike hK, hD⟩, hS.F ht⟩) hS.2.2 d_Fault_note_41
  · have q_1 : ¬ _ = _ := fun h => c_1 (Int32.toInt_inj.mp h)
    refine lv_iload_n hx hb d_Fault_note_7 rfl (lv_at hl 2 rfl) ?_
    refine lv_aload_n hx hb d_Fault_note_8 rfl (lv_at hl 0 rfl) ?_
    refine va_get (D := (dC, dI)) (ci := 3) (v := .int fp) (C := R_Fault) (T := F_Fault) (N := 2) hx hb hts i_Fault hown hK hP 0 rfl rfl 1 (by decide) (hts _ tw_17) (fun _ h9 => h9) rfl d_Fault_note_9 ?_
    refine lv_icmp_lt (tgt := 31) hx hb d_Fault_note_12 (by decide) (fun c_2 => ?_) (fun c_2 => ?_)
    · have q_2 := Int32.lt_iff_toInt_lt.mp c_2
      refine lv_aload_n hx hb d_Fault_note_31 rfl (lv_at hl 0 rfl) ?_
      refine lv_iload_n hx hb d_Fault_note_32 rfl (lv_at hl 1 rfl) ?_
      refine va_put (D := (dC, dI)) (ci := 3) (v := .int nk) (ty := .int) (C := R_Fault) (T := F_Fault) (N := 2) hx hb hts i_Fault t_Fault t_Fault_ok n_Fault hown hK hP hD hS 0 rfl rfl 0 (by decide) (hts _ tw_16) (fun _ h9 => h9) rfl (by decide +kernel) rfl rfl (Nat.le_of_ble_eq_true rfl) d_Fault_note_33 (fun H locs hP hD hS => ?_)
      have hP : va_P (dC, dI) classes [(aF, .inr (3, [.int nk, .int fp]))] H := hP
      have hD : va_D A [(aF, .inr (3, [.int nk, .int fp]))] := hD
      refine lv_aload_n hx hb d_Fault_note_36 rfl (lv_at hl 0 rfl) ?_
      refine lv_iload_n hx hb d_Fault_note_37 rfl (lv_at hl 2 rfl) ?_
      refine va_put (D := (dC, dI)) (ci := 3) (v := .int wh) (ty := .int) (C := R_Fault) (T := F_Fault) (N := 2) hx hb hts i_Fault t_Fault t_Fault_ok n_Fault hown hK hP hD hS 0 rfl rfl 1 (by decide) (hts _ tw_17) (fun _ h9 => h9) rfl (by decide +kernel) rfl rfl (Nat.le_of_ble_eq_true rfl) d_Fault_note_38 (fun H locs hP hD hS => ?_)
      have hP : va_P (dC, dI) classes [(aF, .inr (3, [.int nk, .int wh]))] H := hP
      have hD : va_D A [(aF, .inr (3, [.int nk, .int wh]))] := hD
      exact W.vret hx hb hr (fun t ht hW => ⟨⟨(nk, wh), rfl, by rw [← hres]; simp only [m_Fault_note, if_neg c_1, if_pos c_2], by rw [ht]; exact hP, va_K.moved hW.alike hK, hD⟩, hS.F ht⟩) hS.2.2 d_Fault_note_41
    · have q_2 := mt Int32.lt_iff_toInt_lt.mpr c_2
      refine lv_iload_n hx hb d_Fault_note_15 rfl (lv_at hl 2 rfl) ?_
      refine lv_aload_n hx hb d_Fault_note_16 rfl (lv_at hl 0 rfl) ?_
      refine va_get (D := (dC, dI)) (ci := 3) (v := .int fp) (C := R_Fault) (T := F_Fault) (N := 2) hx hb hts i_Fault hown hK hP 0 rfl rfl 1 (by decide) (hts _ tw_17) (fun _ h9 => h9) rfl d_Fault_note_17 ?_
      refine lv_icmp_ne (tgt := 41) hx hb d_Fault_note_20 (by decide) (fun c_3 => ?_) (fun c_3 => ?_)
      · have q_3 : ¬ _ = _ := fun h => c_3 (Int32.toInt_inj.mp h)
        exact W.vret hx hb hr (fun t ht hW => ⟨⟨(fk, fp), rfl, by rw [← hres]; simp only [m_Fault_note, if_neg c_1, if_neg c_2, if_neg c_3], by rw [ht]; exact hP, va_K.moved hW.alike hK, hD⟩, hS.F ht⟩) hS.2.2 d_Fault_note_41
      · have q_3 := congrArg Int32.toInt c_3
        refine lv_iload_n hx hb d_Fault_note_23 rfl (lv_at hl 1 rfl) ?_
        refine lv_aload_n hx hb d_Fault_note_24 rfl (lv_at hl 0 rfl) ?_
        refine va_get (D := (dC, dI)) (ci := 3) (v := .int fk) (C := R_Fault) (T := F_Fault) (N := 2) hx hb hts i_Fault hown hK hP 0 rfl rfl 0 (by decide) (hts _ tw_16) (fun _ h9 => h9) rfl d_Fault_note_25 ?_
        refine lv_icmp_ge (tgt := 41) hx hb d_Fault_note_28 (by decide) (fun c_4 => ?_) (fun c_4 => ?_)
        · have q_4 := Int32.le_iff_toInt_le.mp c_4
          exact W.vret hx hb hr (fun t ht hW => ⟨⟨(fk, fp), rfl, by rw [← hres]; simp only [m_Fault_note, if_neg c_1, if_neg c_2, if_pos c_3, if_pos c_4], by rw [ht]; exact hP, va_K.moved hW.alike hK, hD⟩, hS.F ht⟩) hS.2.2 d_Fault_note_41
        · have q_4 := mt Int32.le_iff_toInt_le.mpr c_4
          refine lv_aload_n hx hb d_Fault_note_31 rfl (lv_at hl 0 rfl) ?_
          refine lv_iload_n hx hb d_Fault_note_32 rfl (lv_at hl 1 rfl) ?_
          refine va_put (D := (dC, dI)) (ci := 3) (v := .int nk) (ty := .int) (C := R_Fault) (T := F_Fault) (N := 2) hx hb hts i_Fault t_Fault t_Fault_ok n_Fault hown hK hP hD hS 0 rfl rfl 0 (by decide) (hts _ tw_16) (fun _ h9 => h9) rfl (by decide +kernel) rfl rfl (Nat.le_of_ble_eq_true rfl) d_Fault_note_33 (fun H locs hP hD hS => ?_)
          have hP : va_P (dC, dI) classes [(aF, .inr (3, [.int nk, .int fp]))] H := hP
          have hD : va_D A [(aF, .inr (3, [.int nk, .int fp]))] := hD
          refine lv_aload_n hx hb d_Fault_note_36 rfl (lv_at hl 0 rfl) ?_
          refine lv_iload_n hx hb d_Fault_note_37 rfl (lv_at hl 2 rfl) ?_
          refine va_put (D := (dC, dI)) (ci := 3) (v := .int wh) (ty := .int) (C := R_Fault) (T := F_Fault) (N := 2) hx hb hts i_Fault t_Fault t_Fault_ok n_Fault hown hK hP hD hS 0 rfl rfl 1 (by decide) (hts _ tw_17) (fun _ h9 => h9) rfl (by decide +kernel) rfl rfl (Nat.le_of_ble_eq_true rfl) d_Fault_note_38 (fun H locs hP hD hS => ?_)
          have hP : va_P (dC, dI) classes [(aF, .inr (3, [.int nk, .int wh]))] H := hP
          have hD : va_D A [(aF, .inr (3, [.int nk, .int wh]))] := hD
          exact W.vret hx hb hr (fun t ht hW => ⟨⟨(nk, wh), rfl, by rw [← hres]; simp only [m_Fault_note, if_neg c_1, if_neg c_2, if_pos c_3, if_neg c_4], by rw [ht]; exact hP, va_K.moved hW.alike hK, hD⟩, hS.F ht⟩) hS.2.2 d_Fault_note_41
