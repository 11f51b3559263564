def m_Tape_byteOf (w : Int64) (i : Int32) : Int32 :=
  ((((w.toUInt64 >>> ((8 * i).toInt64.toUInt64 &&& Int64.toUInt64 63)).toInt64).toInt32) &&& 255)
set_option maxHeartbeats 4000000 in
set_option maxRecDepth 100000 in
theorem c_Tape_byteOf (l : Launch) (dC : Nat → ClassId) (dI : Nat → Nat → Nat) (cB cI cJ : ClassId) (sz : Nat) (w : Int64) (i : Int32) : Met l y_Tape_byteOf w_Tape_byteOf ({ frames := 0, cells := 0, slots := 0, locals := 0 }) (va_Pc [.long w, .int i] (g_pre dC dI [(cB, .byte), (cI, .int), (cJ, .long)] sz [] (fun _ => True))) (va_Qi (fun (r : Int32) (u : Unit) => r = (m_Tape_byteOf w i)) (fun u => g_post dC dI [(cB, .byte), (cI, .int), (cJ, .long)] (va_A [] sz) []) (va_A [] sz)) 0 0 (va_A [] sz) := by
  refine Met.ofW (cc := b_Tape_byteOf) (maxL := 3) (ret := (some .int)) (by decide) rfl ?_
  intro p e s m args below meth c s₁ B hml hv
  obtain ⟨rfl, hsz, hP, hK, hD0, hX⟩ := hv
  subst hsz
  have C0 : g_Cx p s m meth c b_Tape_byteOf 3 (some .int) R_Tape [.long w, .int i].toArray := g_start B hml rfl
  obtain ⟨hx, hb, hml, hr, hown, hts, hlocks⟩ := id C0
  have hD := hD0.self (sz := s.heap.size)
  generalize hAe : va_A [] s.heap.size = A at hD ⊢
  generalize hres : (m_Tape_byteOf w i) = res
  have hA : ∀ q : Nat, s.heap.size ≤ q → A q := fun q h => by rw [← hAe]; exact Or.inr h
  have hS : va_S A s.heap s.heap [] := va_S.rf
  have hl := lv_entry ([.long w, .int i]) (n := 3) (Nat.le_of_ble_eq_true rfl)
  rw [lg_entry_eq]
  generalize (lg_sl ([.long w, .int i]) ++ List.replicate (3 - (lg_sl ([.long w, .int i])).length) Slot.unset).toArray = ls at hl ⊢
  have hl : lv_has ls 3 [(0, .long w), (2, .int i)] := hl
  refine lv_lload_n hx hb d_Tape_byteOf_0 rfl (lv_at hl 0 rfl) ?_
  refine lv_bipush (v := 8) hx hb d_Tape_byteOf_1 (by decide) ?_
  refine lv_iload_n hx hb d_Tape_byteOf_3 rfl (lv_at hl 1 rfl) ?_
  refine lv_imul hx hb d_Tape_byteOf_4 ?_
  refine lv_lushr (v := (w.toUInt64 >>> ((8 * i).toInt64.toUInt64 &&& Int64.toUInt64 63)).toInt64) hx hb d_Tape_byteOf_5 rfl ?_
  refine lv_l2i (v := (((w.toUInt64 >>> ((8 * i).toInt64.toUInt64 &&& Int64.toUInt64 63)).toInt64).toInt32)) hx hb d_Tape_byteOf_6 rfl ?_
  refine lv_sipush (v := 255) hx hb d_Tape_byteOf_7 (by decide) ?_
  refine lv_iand hx hb d_Tape_byteOf_10 ?_
  exact W.iret (v := ((((w.toUInt64 >>> ((8 * i).toInt64.toUInt64 &&& Int64.toUInt64 63)).toInt64).toInt32) &&& 255)) hx hb hr (fun t ht hW => ⟨⟨((((w.toUInt64 >>> ((8 * i).toInt64.toUInt64 &&& Int64.toUInt64 63)).toInt64).toInt32) &&& 255), (), rfl, by rw [← hres]; simp only [m_Tape_byteOf], by rw [ht]; exact hP, va_K.moved hW.alike hK, hD⟩, hS.F ht⟩) hS.2.2 d_Tape_byteOf_11
def m_Tape_allTypable_L2 (w : Int64) (k : Int32) : Nat → Int32 → Int32
  | 0, x3 => 0
  | n + 1, x3 =>
    if k ≤ x3 then
      1
    else
      if (m_Tape_byteOf w x3) < 32 then
        0
      else
        if (m_Tape_byteOf w x3) ≤ 126 then
          m_Tape_allTypable_L2 w k n (x3 + 1)
        else
          0
theorem s_Tape_allTypable_0 {k : Int32} {x3 : Int32} {n : Nat} {w : Int64} (q_1 : ¬ k.toInt ≤ x3.toInt) (q_3 : ¬ (m_Tape_byteOf w x3).toInt < (32 : Int32).toInt) (q_4 : (m_Tape_byteOf w x3).toInt ≤ (126 : Int32).toInt) (hm : (k.toInt - x3.toInt).toNat < n + 1) : (k.toInt - (x3 + 1).toInt).toNat < n := by have z0 : (1 : Int32).toInt = 1 := (by decide); have z1 : (32 : Int32).toInt = 32 := (by decide); have z2 : (126 : Int32).toInt = 126 := (by decide); have g0 := gz_r k; have g1 := gz_r x3; have a0 := gz_a x3 1 (by omega) (by omega); omega
set_option maxHeartbeats 4000000 in
set_option maxRecDepth 100000 in
theorem L_Tape_allTypable_2 {p : Program} {l : Launch} {e : Env} {s : State} {m : MethodId} {below : List Frame} {meth : Method} {c : Code} {dC : Nat → ClassId} {dI : Nat → Nat → Nat} {cB cI cJ : ClassId} {w : Int64} {k : Int32} {A : Nat → Prop} (C0 : g_Cx p s m meth c b_Tape_allTypable 5 (some .boolean) R_Tape [.long w, .int k].toArray) (hK : va_K (dC, dI) classes [(cB, .byte), (cI, .int), (cJ, .long)] s) (hA : ∀ q : Nat, s.heap.size ≤ q → A q) {res : Int32} :
    ∀ (n : Nat) (x3 : Int32), ((k.toInt - x3.toInt).toNat) < n → m_Tape_allTypable_L2 w k n x3 = res → ∀ (H : Heap) (locs : List Loc) (ls : Array Slot), va_P (dC, dI) classes [] H → va_D A [] → va_S A s.heap H locs → lv_has ls 5 [(3, .int x3), (0, .long w), (2, .int k)] → W p l e ({ frames := 1, cells := 0, slots := 0, locals := 22 }) s m [.long w, .int k].toArray below meth c H locs 0 0 (MQ below (va_Qi (fun (r : Int32) (u : Unit) => r = res ∧ narrow .boolean (.int r) = .int r) (fun u => g_post dC dI [(cB, .byte), (cI, .int), (cJ, .long)] (A) []) (A)) [.long w, .int k].toArray s 0 0 A) (F0 m 2 ls []) := by
  obtain ⟨hx, hb, hml, hr, hown, hts, hlocks⟩ := id C0
  intro n
  induction n with
  | zero => intro x3 hm; exact absurd hm (Nat.not_lt_zero _)
  | succ n ih =>
    intro x3 hm  hres H locs ls hP hD hS hl
    refine lv_iload_n hx hb d_Tape_allTypable_2 rfl (lv_at hl 0 rfl) ?_
    refine lv_iload_n hx hb d_Tape_allTypable_3 rfl (lv_at hl 2 rfl) ?_
    refine lv_icmp_ge (tgt := 36) hx hb d_Tape_allTypable_4 (by decide) (fun c_1 => ?_) (fun c_1 => ?_)
    · have q_1 := Int32.le_iff_toInt_le.mp c_1
      refine lv_iconst (v := 1) hx hb d_Tape_allTypable_36 (by decide) ?_
      exact W.zret (v := 1) hx hb hr rfl (fun t ht hW => ⟨⟨1, (), rfl, ⟨by rw [← hres]; simp only [m_Tape_allTypable_L2, if_pos c_1], rfl⟩, by rw [ht]; exact hP, va_K.moved hW.alike hK, hD⟩, hS.F ht⟩) hS.2.2 d_Tape_allTypable_37
    · have q_1 := mt Int32.le_iff_toInt_le.mpr c_1
      refine lv_lload_n hx hb d_Tape_allTypable_7 rfl (lv_at hl 1 rfl) ?_
      refine lv_iload_n hx hb d_Tape_allTypable_8 rfl (lv_at hl 0 rfl) ?_
      refine gk_i (isC := []) (isR := []) (perm := []) (wr := []) (can := fun u => []) (gr_S C0 (c_Tape_byteOf l dC dI cB cI cJ _ w x3) cs_Tape_23 hK hP hD [] rfl (by decide) g_tb g_tx rfl rfl hl.1 rfl (lv_room (Nat.le_of_ble_eq_true rfl)) d_Tape_allTypable_9 ⟨Nat.le_of_ble_eq_true rfl, Nat.le_of_ble_eq_true rfl⟩ ⟨Nat.le_of_ble_eq_true rfl, Nat.le_of_ble_eq_true rfl⟩) hP hD hS hA rfl rfl (by decide) (by decide) (by decide) (fun _ => rfl) (fun r_2 u_2 H locs hw_2 hP hD hS => ?_)
      rw [hw_2]
      refine lv_istore (lv' := [(4, .int (m_Tape_byteOf w x3)), (3, .int x3), (0, .long w), (2, .int k)]) hx hb d_Tape_allTypable_12 hl (by decide) rfl (fun ls hl => ?_)
      refine lv_iload hx hb d_Tape_allTypable_14 (lv_at hl 0 rfl) ?_
      refine lv_bipush (v := 32) hx hb d_Tape_allTypable_16 (by decide) ?_
      refine lv_icmp_lt (tgt := 28) hx hb d_Tape_allTypable_18 (by decide) (fun c_3 => ?_) (fun c_3 => ?_)
      · have q_3 := Int32.lt_iff_toInt_lt.mp c_3
        refine lv_iconst (v := 0) hx hb d_Tape_allTypable_28 (by decide) ?_
        exact W.zret (v := 0) hx hb hr rfl (fun t ht hW => ⟨⟨0, (), rfl, ⟨by rw [← hres]; simp only [m_Tape_allTypable_L2, if_neg c_1, if_pos c_3], rfl⟩, by rw [ht]; exact hP, va_K.moved hW.alike hK, hD⟩, hS.F ht⟩) hS.2.2 d_Tape_allTypable_29
      · have q_3 := mt Int32.lt_iff_toInt_lt.mpr c_3
        refine lv_iload hx hb d_Tape_allTypable_21 (lv_at hl 0 rfl) ?_
        refine lv_bipush (v := 126) hx hb d_Tape_allTypable_23 (by decide) ?_
        refine lv_icmp_le (tgt := 30) hx hb d_Tape_allTypable_25 (by decide) (fun c_4 => ?_) (fun c_4 => ?_)
        · have q_4 := Int32.le_iff_toInt_le.mp c_4
          refine lv_iinc (v := (x3 + 1)) (lv' := [(3, .int (x3 + 1)), (4, .int (m_Tape_byteOf w x3)), (0, .long w), (2, .int k)]) hx hb d_Tape_allTypable_30 hl (k := 1) rfl rfl (by decide) rfl (fun ls hl => ?_)
          refine lv_goto (tgt := 2) hx hb d_Tape_allTypable_33 (by decide) ?_
          exact ih  (x3 + 1) (s_Tape_allTypable_0 q_1 q_3 q_4 hm) (by rw [← hres]; simp only [m_Tape_allTypable_L2, if_neg c_1, if_neg c_3, if_pos c_4]) _ _ _ hP hD hS (lv_sub hl [0, 2, 3] rfl)
        · have q_4 := mt Int32.le_iff_toInt_le.mpr c_4
          refine lv_iconst (v := 0) hx hb d_Tape_allTypable_28 (by decide) ?_
          exact W.zret (v := 0) hx hb hr rfl (fun t ht hW => ⟨⟨0, (), rfl, ⟨by rw [← hres]; simp only [m_Tape_allTypable_L2, if_neg c_1, if_neg c_3, if_neg c_4], rfl⟩, by rw [ht]; exact hP, va_K.moved hW.alike hK, hD⟩, hS.F ht⟩) hS.2.2 d_Tape_allTypable_29
def m_Tape_allTypable (w : Int64) (k : Int32) : Int32 :=
  m_Tape_allTypable_L2 w k ((k.toInt - (0 : Int32).toInt).toNat + 1) 0
theorem s_Tape_allTypable_1 {k : Int32} : (k.toInt - (0 : Int32).toInt).toNat < ((k.toInt - (0 : Int32).toInt).toNat + 1) := by have z0 : (0 : Int32).toInt = 0 := (by decide); have g0 := gz_r k; omega
set_option maxHeartbeats 4000000 in
set_option maxRecDepth 100000 in
theorem c_Tape_allTypable (l : Launch) (dC : Nat → ClassId) (dI : Nat → Nat → Nat) (cB cI cJ : ClassId) (sz : Nat) (w : Int64) (k : Int32) : Met l y_Tape_allTypable w_Tape_allTypable ({ frames := 1, cells := 0, slots := 0, locals := 22 }) (va_Pc [.long w, .int k] (g_pre dC dI [(cB, .byte), (cI, .int), (cJ, .long)] sz [] (fun _ => True))) (va_Qi (fun (r : Int32) (u : Unit) => r = (m_Tape_allTypable w k) ∧ narrow .boolean (.int r) = .int r) (fun u => g_post dC dI [(cB, .byte), (cI, .int), (cJ, .long)] (va_A [] sz) []) (va_A [] sz)) 0 0 (va_A [] sz) := by
  refine Met.ofW (cc := b_Tape_allTypable) (maxL := 5) (ret := (some .boolean)) (by decide) rfl ?_
  intro p e s m args below meth c s₁ B hml hv
  obtain ⟨rfl, hsz, hP, hK, hD0, hX⟩ := hv
  subst hsz
  have C0 : g_Cx p s m meth c b_Tape_allTypable 5 (some .boolean) R_Tape [.long w, .int k].toArray := g_start B hml rfl
  obtain ⟨hx, hb, hml, hr, hown, hts, hlocks⟩ := id C0
  have hD := hD0.self (sz := s.heap.size)
  generalize hAe : va_A [] s.heap.size = A at hD ⊢
  generalize hres : (m_Tape_allTypable w k) = res
  have hA : ∀ q : Nat, s.heap.size ≤ q → A q := fun q h => by rw [← hAe]; exact Or.inr h
  have hS : va_S A s.heap s.heap [] := va_S.rf
  have hl := lv_entry ([.long w, .int k]) (n := 5) (Nat.le_of_ble_eq_true rfl)
  rw [lg_entry_eq]
  generalize (lg_sl ([.long w, .int k]) ++ List.replicate (5 - (lg_sl ([.long w, .int k])).length) Slot.unset).toArray = ls at hl ⊢
  have hl : lv_has ls 5 [(0, .long w), (2, .int k)] := hl
  refine lv_iconst (v := 0) hx hb d_Tape_allTypable_0 (by decide) ?_
  refine lv_istore_n (lv' := [(3, .int 0), (0, .long w), (2, .int k)]) hx hb d_Tape_allTypable_1 rfl hl (by decide) rfl (fun ls hl => ?_)
  exact L_Tape_allTypable_2 C0 hK hA ((k.toInt - (0 : Int32).toInt).toNat + 1) 0 (s_Tape_allTypable_1) (by rw [← hres]; simp only [m_Tape_allTypable]) _ _ _ hP hD hS (lv_sub hl [0, 1, 2] rfl)
def m_Tape_append_L38 (w : Int64) (k : Int32) : Nat → Int32 → (Nat → Int32) → Int32 → Int32 × (Nat → Int32) × Int32
  | 0, x4, tc, tn => (0, tc, tn)
  | n + 1, x4, tc, tn =>
    if x4 < 0 then
      (1, tc, tn)
    else
      m_Tape_append_L38 w k n (x4 + (-1)) (upd tc tn.toNatClampNeg (vp_nar .byte ((m_Tape_byteOf w x4).toInt8.toInt32))) (tn + 1)
theorem s_Tape_append_0 {tn : Int32} {x4 : Int32} {n : Nat} (q_1 : ¬ x4.toInt < (0 : Int32).toInt) (hm : (x4.toInt + 1).toNat < n + 1) (i_0 : 0 ≤ tn.toInt) (i_1 : tn.toInt + x4.toInt + 1 ≤ 480) (i_2 : x4.toInt ≤ 7) : vp_in tn 480 := by rw [vp_in_iff]; have z0 : (0 : Int32).toInt = 0 := (by decide); have g0 := gz_r tn; have g1 := gz_r x4; omega
theorem s_Tape_append_1 {x4 : Int32} {n : Nat} {tn : Int32} (q_1 : ¬ x4.toInt < (0 : Int32).toInt) (hm : (x4.toInt + 1).toNat < n + 1) (i_0 : 0 ≤ tn.toInt) (i_1 : tn.toInt + x4.toInt + 1 ≤ 480) (i_2 : x4.toInt ≤ 7) : ((x4 + (-1)).toInt + 1).toNat < n := by have z0 : (0 : Int32).toInt = 0 := (by decide); have g0 := gz_r x4; have g2 := gz_r tn; have a0 := gz_d x4 (by omega); omega
theorem s_Tape_append_2 {tn : Int32} {x4 : Int32} {n : Nat} (q_1 : ¬ x4.toInt < (0 : Int32).toInt) (hm : (x4.toInt + 1).toNat < n + 1) (i_0 : 0 ≤ tn.toInt) (i_1 : tn.toInt + x4.toInt + 1 ≤ 480) (i_2 : x4.toInt ≤ 7) : 0 ≤ (tn + 1).toInt := by have z0 : (0 : Int32).toInt = 0 := (by decide); have z1 : (1 : Int32).toInt = 1 := (by decide); have g0 := gz_r tn; have g1 := gz_r x4; have a0 := gz_a tn 1 (by omega) (by omega); omega
theorem s_Tape_append_3 {tn : Int32} {x4 : Int32} {n : Nat} (q_1 : ¬ x4.toInt < (0 : Int32).toInt) (hm : (x4.toInt + 1).toNat < n + 1) (i_0 : 0 ≤ tn.toInt) (i_1 : tn.toInt + x4.toInt + 1 ≤ 480) (i_2 : x4.toInt ≤ 7) : (tn + 1).toInt + (x4 + (-1)).toInt + 1 ≤ 480 := by have z0 : (0 : Int32).toInt = 0 := (by decide); have z1 : (1 : Int32).toInt = 1 := (by decide); have g0 := gz_r tn; have g1 := gz_r x4; have a0 := gz_a tn 1 (by omega) (by omega); have a1 := gz_d x4 (by omega); omega
theorem s_Tape_append_4 {x4 : Int32} {n : Nat} {tn : Int32} (q_1 : ¬ x4.toInt < (0 : Int32).toInt) (hm : (x4.toInt + 1).toNat < n + 1) (i_0 : 0 ≤ tn.toInt) (i_1 : tn.toInt + x4.toInt + 1 ≤ 480) (i_2 : x4.toInt ≤ 7) : (x4 + (-1)).toInt ≤ 7 := by have z0 : (0 : Int32).toInt = 0 := (by decide); have g0 := gz_r x4; have g2 := gz_r tn; have a0 := gz_d x4 (by omega); omega
set_option maxHeartbeats 4000000 in
set_option maxRecDepth 100000 in
theorem L_Tape_append_38 {p : Program} {l : Launch} {e : Env} {s : State} {m : MethodId} {below : List Frame} {meth : Method} {c : Code} {dC : Nat → ClassId} {dI : Nat → Nat → Nat} {cB cI cJ : ClassId} {aT aTc : Nat} {w : Int64} {k : Int32} {A : Nat → Prop} (C0 : g_Cx p s m meth c b_Tape_append 5 (some .boolean) R_Tape [.ref aT, .long w, .int k].toArray) (hK : va_K (dC, dI) classes [(cB, .byte), (cI, .int), (cJ, .long)] s) (hA : ∀ q : Nat, s.heap.size ≤ q → A q) {res : Int32 × (Nat → Int32) × Int32} :
    ∀ (n : Nat) (x4 : Int32) (tc : Nat → Int32) (tn : Int32), ((x4.toInt + 1).toNat) < n → (0 ≤ tn.toInt) → (tn.toInt + x4.toInt + 1 ≤ 480) → (x4.toInt ≤ 7) → m_Tape_append_L38 w k n x4 tc tn = res → ∀ (H : Heap) (locs : List Loc) (ls : Array Slot), va_P (dC, dI) classes [(aT, .inr (0, [.ref aTc, .int tn])), (aTc, .inl (cB, 480, .inl tc))] H → va_D A [(aT, .inr (0, [.ref aTc, .int tn])), (aTc, .inl (cB, 480, .inl tc))] → va_S A s.heap H locs → lv_has ls 5 [(4, .int x4), (0, .ref aT), (1, .long w), (3, .int k)] → W p l e ({ frames := 2, cells := 0, slots := 0, locals := 46 }) s m [.ref aT, .long w, .int k].toArray below meth c H locs 0 0 (MQ below (va_Qi (fun (r : Int32) (u : (Nat → Int32) × Int32) => (r, u) = res ∧ narrow .boolean (.int r) = .int r) (fun u => g_post dC dI [(cB, .byte), (cI, .int), (cJ, .long)] (A) [(aT, .inr (0, [.ref aTc, .int u.2])), (aTc, .inl (cB, 480, .inl u.1))]) (A)) [.ref aT, .long w, .int k].toArray s 0 0 A) (F0 m 38 ls []) := by
  obtain ⟨hx, hb, hml, hr, hown, hts, hlocks⟩ := id C0
  intro n
  induction n with
  | zero => intro x4 tc tn hm; exact absurd hm (Nat.not_lt_zero _)
  | succ n ih =>
    intro x4 tc tn hm i_0 i_1 i_2 hres H locs ls hP hD hS hl
    refine lv_iload hx hb d_Tape_append_38 (lv_at hl 0 rfl) ?_
    refine lv_if_lt (tgt := 75) hx hb d_Tape_append_40 (by decide) (fun c_1 => ?_) (fun c_1 => ?_)
    · have q_1 := Int32.lt_iff_toInt_lt.mp c_1
      refine lv_iconst (v := 1) hx hb d_Tape_append_75 (by decide) ?_
      exact W.zret (v := 1) hx hb hr rfl (fun t ht hW => ⟨⟨1, (tc, tn), rfl, ⟨by rw [← hres]; simp only [m_Tape_append_L38, if_pos c_1], rfl⟩, by rw [ht]; exact hP, va_K.moved hW.alike hK, hD⟩, hS.F ht⟩) hS.2.2 d_Tape_append_76
    · have q_1 := mt Int32.lt_iff_toInt_lt.mpr c_1
      refine lv_aload_n hx hb d_Tape_append_43 rfl (lv_at hl 1 rfl) ?_
      refine va_get (D := (dC, dI)) (ci := 0) (v := .ref aTc) (C := R_Tape) (T := F_Tape) (N := 2) hx hb hts i_Tape hown hK hP 0 rfl rfl 0 (by decide) (hts _ tw_2) (fun _ h9 => h9) rfl d_Tape_append_44 ?_
      refine lv_aload_n hx hb d_Tape_append_47 rfl (lv_at hl 1 rfl) ?_
      refine va_get (D := (dC, dI)) (ci := 0) (v := .int tn) (C := R_Tape) (T := F_Tape) (N := 2) hx hb hts i_Tape hown hK hP 0 rfl rfl 1 (by decide) (hts _ tw_1) (fun _ h9 => h9) rfl d_Tape_append_48 ?_
      refine lv_lload_n hx hb d_Tape_append_51 rfl (lv_at hl 2 rfl) ?_
      refine lv_iload hx hb d_Tape_append_52 (lv_at hl 0 rfl) ?_
      refine gk_i (isC := []) (isR := [0, 1]) (perm := [0, 1]) (wr := [(aT, .inr (0, [.ref aTc, .int tn])), (aTc, .inl (cB, 480, .inl tc))]) (can := fun u => [(aT, .inr (0, [.ref aTc, .int tn])), (aTc, .inl (cB, 480, .inl tc))]) (gr_S C0 (c_Tape_byteOf l dC dI cB cI cJ _ w x4) cs_Tape_23 hK hP hD [] rfl (by decide) g_tb g_tx rfl rfl hl.1 rfl (lv_room (Nat.le_of_ble_eq_true rfl)) d_Tape_append_54 ⟨Nat.le_of_ble_eq_true rfl, Nat.le_of_ble_eq_true rfl⟩ ⟨Nat.le_of_ble_eq_true rfl, Nat.le_of_ble_eq_true rfl⟩) hP hD hS hA rfl rfl (by decide) (by decide) (by decide) (fun _ => rfl) (fun r_2 u_2 H locs hw_2 hP hD hS => ?_)
      rw [hw_2]
      have hP : va_P (dC, dI) classes [(aT, .inr (0, [.ref aTc, .int tn])), (aTc, .inl (cB, 480, .inl tc))] H := hP
      have hD : va_D A [(aT, .inr (0, [.ref aTc, .int tn])), (aTc, .inl (cB, 480, .inl tc))] := hD
      refine lv_i2b (v := ((m_Tape_byteOf w x4).toInt8.toInt32)) hx hb d_Tape_append_57 rfl ?_
      refine va_bast hx hb hK hP hD hS 1 0 rfl rfl (s_Tape_append_0 q_1 hm i_0 i_1 i_2) d_Tape_append_58 (fun H locs hP hD hS => ?_)
      have hP : va_P (dC, dI) classes [(aT, .inr (0, [.ref aTc, .int tn])), (aTc, .inl (cB, 480, .inl (upd tc tn.toNatClampNeg (vp_nar .byte ((m_Tape_byteOf w x4).toInt8.toInt32)))))] H := hP
      have hD : va_D A [(aT, .inr (0, [.ref aTc, .int tn])), (aTc, .inl (cB, 480, .inl (upd tc tn.toNatClampNeg (vp_nar .byte ((m_Tape_byteOf w x4).toInt8.toInt32)))))] := hD
      refine lv_aload_n hx hb d_Tape_append_59 rfl (lv_at hl 1 rfl) ?_
      refine lv_dup hx hb d_Tape_append_60 rfl ?_
      refine va_get (D := (dC, dI)) (ci := 0) (v := .int tn) (C := R_Tape) (T := F_Tape) (N := 2) hx hb hts i_Tape hown hK hP 0 rfl rfl 1 (by decide) (hts _ tw_1) (fun _ h9 => h9) rfl d_Tape_append_61 ?_
      refine lv_iconst (v := 1) hx hb d_Tape_append_64 (by decide) ?_
      refine lv_iadd hx hb d_Tape_append_65 ?_
      refine va_put (D := (dC, dI)) (ci := 0) (v := .int (tn + 1)) (ty := .int) (C := R_Tape) (T := F_Tape) (N := 2) hx hb hts i_Tape t_Tape t_Tape_ok n_Tape hown hK hP hD hS 0 rfl rfl 1 (by decide) (hts _ tw_1) (fun _ h9 => h9) rfl (by decide +kernel) rfl rfl (Nat.le_of_ble_eq_true rfl) d_Tape_append_66 (fun H locs hP hD hS => ?_)
      have hP : va_P (dC, dI) classes [(aT, .inr (0, [.ref aTc, .int (tn + 1)])), (aTc, .inl (cB, 480, .inl (upd tc tn.toNatClampNeg (vp_nar .byte ((m_Tape_byteOf w x4).toInt8.toInt32)))))] H := hP
      have hD : va_D A [(aT, .inr (0, [.ref aTc, .int (tn + 1)])), (aTc, .inl (cB, 480, .inl (upd tc tn.toNatClampNeg (vp_nar .byte ((m_Tape_byteOf w x4).toInt8.toInt32)))))] := hD
      refine lv_iinc (v := (x4 + (-1))) (lv' := [(4, .int (x4 + (-1))), (0, .ref aT), (1, .long w), (3, .int k)]) hx hb d_Tape_append_69 hl (k := 0) rfl (congrArg (fun z => x4 + z) (by decide)) (by decide) rfl (fun ls hl => ?_)
      refine lv_goto (tgt := 38) hx hb d_Tape_append_72 (by decide) ?_
      exact ih  (x4 + (-1)) (upd tc tn.toNatClampNeg (vp_nar .byte ((m_Tape_byteOf w x4).toInt8.toInt32))) (tn + 1) (s_Tape_append_1 q_1 hm i_0 i_1 i_2) (s_Tape_append_2 q_1 hm i_0 i_1 i_2) (s_Tape_append_3 q_1 hm i_0 i_1 i_2) (s_Tape_append_4 q_1 hm i_0 i_1 i_2) (by rw [← hres]; simp only [m_Tape_append_L38, if_neg c_1]) _ _ _ hP hD hS (lv_sub hl [0, 1, 2, 3] rfl)
def m_Tape_append (tc : Nat → Int32) (tn : Int32) (w : Int64) (k : Int32) : Int32 × (Nat → Int32) × Int32 :=
  if k < 1 then
    (0, tc, tn)
  else
    if 8 < k then
      (0, tc, tn)
    else
      if 480 < (tn + k) then
        (0, tc, tn)
      else
        if (m_Tape_allTypable w k) = 0 then
          (0, tc, tn)
        else
          m_Tape_append_L38 w k (((k - 1).toInt + 1).toNat + 1) (k - 1) tc tn
theorem s_Tape_append_5 {k : Int32} {tn : Int32} {w : Int64} (q_1 : ¬ k.toInt < (1 : Int32).toInt) (q_2 : ¬ (8 : Int32).toInt < k.toInt) (q_3 : ¬ (480 : Int32).toInt < (tn + k).toInt) (q_5 : ¬ (m_Tape_allTypable w k).toInt = (0 : Int32).toInt) (h_t0 : 0 ≤ tn.toInt) (h_t1 : tn.toInt ≤ 480) : ((k - 1).toInt + 1).toNat < (((k - 1).toInt + 1).toNat + 1) := by have z0 : (0 : Int32).toInt = 0 := (by decide); have z1 : (1 : Int32).toInt = 1 := (by decide); have z2 : (8 : Int32).toInt = 8 := (by decide); have z3 : (480 : Int32).toInt = 480 := (by decide); have g0 := gz_r k; have g1 := gz_r tn; have s0 := gz_s k 1 (by omega) (by omega); have s1 := gz_a tn k (by omega) (by omega); omega
theorem s_Tape_append_6 {tn : Int32} {k : Int32} {w : Int64} (q_1 : ¬ k.toInt < (1 : Int32).toInt) (q_2 : ¬ (8 : Int32).toInt < k.toInt) (q_3 : ¬ (480 : Int32).toInt < (tn + k).toInt) (q_5 : ¬ (m_Tape_allTypable w k).toInt = (0 : Int32).toInt) (h_t0 : 0 ≤ tn.toInt) (h_t1 : tn.toInt ≤ 480) : 0 ≤ tn.toInt := by have z0 : (0 : Int32).toInt = 0 := (by decide); have z1 : (1 : Int32).toInt = 1 := (by decide); have z2 : (8 : Int32).toInt = 8 := (by decide); have z3 : (480 : Int32).toInt = 480 := (by decide); have g0 := gz_r tn; have g1 := gz_r k; have s0 := gz_s k 1 (by omega) (by omega); have s1 := gz_a tn k (by omega) (by omega); omega
theorem s_Tape_append_7 {tn : Int32} {k : Int32} {w : Int64} (q_1 : ¬ k.toInt < (1 : Int32).toInt) (q_2 : ¬ (8 : Int32).toInt < k.toInt) (q_3 : ¬ (480 : Int32).toInt < (tn + k).toInt) (q_5 : ¬ (m_Tape_allTypable w k).toInt = (0 : Int32).toInt) (h_t0 : 0 ≤ tn.toInt) (h_t1 : tn.toInt ≤ 480) : tn.toInt + (k - 1).toInt + 1 ≤ 480 := by have z0 : (0 : Int32).toInt = 0 := (by decide); have z1 : (1 : Int32).toInt = 1 := (by decide); have z2 : (8 : Int32).toInt = 8 := (by decide); have z3 : (480 : Int32).toInt = 480 := (by decide); have g0 := gz_r tn; have g1 := gz_r k; have s0 := gz_s k 1 (by omega) (by omega); have s1 := gz_a tn k (by omega) (by omega); omega
theorem s_Tape_append_8 {k : Int32} {tn : Int32} {w : Int64} (q_1 : ¬ k.toInt < (1 : Int32).toInt) (q_2 : ¬ (8 : Int32).toInt < k.toInt) (q_3 : ¬ (480 : Int32).toInt < (tn + k).toInt) (q_5 : ¬ (m_Tape_allTypable w k).toInt = (0 : Int32).toInt) (h_t0 : 0 ≤ tn.toInt) (h_t1 : tn.toInt ≤ 480) : (k - 1).toInt ≤ 7 := by have z0 : (0 : Int32).toInt = 0 := (by decide); have z1 : (1 : Int32).toInt = 1 := (by decide); have z2 : (8 : Int32).toInt = 8 := (by decide); have z3 : (480 : Int32).toInt = 480 := (by decide); have g0 := gz_r k; have g1 := gz_r tn; have s0 := gz_s k 1 (by omega) (by omega); have s1 := gz_a tn k (by omega) (by omega); omega
set_option maxHeartbeats 4000000 in
set_option maxRecDepth 100000 in
theorem c_Tape_append (l : Launch) (dC : Nat → ClassId) (dI : Nat → Nat → Nat) (cB cI cJ : ClassId) (aT aTc : Nat) (sz : Nat) (tc : Nat → Int32) (tn : Int32) (w : Int64) (k : Int32) (h_t0 : 0 ≤ tn.toInt) (h_t1 : tn.toInt ≤ 480) : Met l y_Tape_append w_Tape_append ({ frames := 2, cells := 0, slots := 0, locals := 46 }) (va_Pc [.ref aT, .long w, .int k] (g_pre dC dI [(cB, .byte), (cI, .int), (cJ, .long)] sz [(aT, .inr (0, [.ref aTc, .int tn])), (aTc, .inl (cB, 480, .inl tc))] (fun _ => True))) (va_Qi (fun (r : Int32) (u : (Nat → Int32) × Int32) => (r, u) = (m_Tape_append tc tn w k) ∧ narrow .boolean (.int r) = .int r) (fun u => g_post dC dI [(cB, .byte), (cI, .int), (cJ, .long)] (va_A [(aT, .inr (0, [.ref aTc, .int tn])), (aTc, .inl (cB, 480, .inl tc))] sz) [(aT, .inr (0, [.ref aTc, .int u.2])), (aTc, .inl (cB, 480, .inl u.1))]) (va_A [(aT, .inr (0, [.ref aTc, .int tn])), (aTc, .inl (cB, 480, .inl tc))] sz)) 0 0 (va_A [(aT, .inr (0, [.ref aTc, .int tn])), (aTc, .inl (cB, 480, .inl tc))] sz) := by
  refine Met.ofW (cc := b_Tape_append) (maxL := 5) (ret := (some .boolean)) (by decide) rfl ?_
  intro p e s m args below meth c s₁ B hml hv
  obtain ⟨rfl, hsz, hP, hK, hD0, hX⟩ := hv
  subst hsz
  have C0 : g_Cx p s m meth c b_Tape_append 5 (some .boolean) R_Tape [.ref aT, .long w, .int k].toArray := g_start B hml rfl
  obtain ⟨hx, hb, hml, hr, hown, hts, hlocks⟩ := id C0
  have hD := hD0.self (sz := s.heap.size)
  generalize hAe : va_A [(aT, .inr (0, [.ref aTc, .int tn])), (aTc, .inl (cB, 480, .inl tc))] s.heap.size = A at hD ⊢
  generalize hres : (m_Tape_append tc tn w k) = res
  have hA : ∀ q : Nat, s.heap.size ≤ q → A q := fun q h => by rw [← hAe]; exact Or.inr h
  have hS : va_S A s.heap s.heap [] := va_S.rf
  have hl := lv_entry ([.ref aT, .long w, .int k]) (n := 5) (Nat.le_of_ble_eq_true rfl)
  rw [lg_entry_eq]
  generalize (lg_sl ([.ref aT, .long w, .int k]) ++ List.replicate (5 - (lg_sl ([.ref aT, .long w, .int k])).length) Slot.unset).toArray = ls at hl ⊢
  have hl : lv_has ls 5 [(0, .ref aT), (1, .long w), (3, .int k)] := hl
  refine lv_iload_n hx hb d_Tape_append_0 rfl (lv_at hl 2 rfl) ?_
  refine lv_iconst (v := 1) hx hb d_Tape_append_1 (by decide) ?_
  refine lv_icmp_lt (tgt := 31) hx hb d_Tape_append_2 (by decide) (fun c_1 => ?_) (fun c_1 => ?_)
  · have q_1 := Int32.lt_iff_toInt_lt.mp c_1
    refine lv_iconst (v := 0) hx hb d_Tape_append_31 (by decide) ?_
    exact W.zret (v := 0) hx hb hr rfl (fun t ht hW => ⟨⟨0, (tc, tn), rfl, ⟨by rw [← hres]; simp only [m_Tape_append, if_pos c_1], rfl⟩, by rw [ht]; exact hP, va_K.moved hW.alike hK, hD⟩, hS.F ht⟩) hS.2.2 d_Tape_append_32
  · have q_1 := mt Int32.lt_iff_toInt_lt.mpr c_1
    refine lv_iload_n hx hb d_Tape_append_5 rfl (lv_at hl 2 rfl) ?_
    refine lv_bipush (v := 8) hx hb d_Tape_append_6 (by decide) ?_
    refine lv_icmp_gt (tgt := 31) hx hb d_Tape_append_8 (by decide) (fun c_2 => ?_) (fun c_2 => ?_)
    · have q_2 := Int32.lt_iff_toInt_lt.mp c_2
      refine lv_iconst (v := 0) hx hb d_Tape_append_31 (by decide) ?_
      exact W.zret (v := 0) hx hb hr rfl (fun t ht hW => ⟨⟨0, (tc, tn), rfl, ⟨by rw [← hres]; simp only [m_Tape_append, if_neg c_1, if_pos c_2], rfl⟩, by rw [ht]; exact hP, va_K.moved hW.alike hK, hD⟩, hS.F ht⟩) hS.2.2 d_Tape_append_32
    · have q_2 := mt Int32.lt_iff_toInt_lt.mpr c_2
      refine lv_aload_n hx hb d_Tape_append_11 rfl (lv_at hl 0 rfl) ?_
      refine va_get (D := (dC, dI)) (ci := 0) (v := .int tn) (C := R_Tape) (T := F_Tape) (N := 2) hx hb hts i_Tape hown hK hP 0 rfl rfl 1 (by decide) (hts _ tw_1) (fun _ h9 => h9) rfl d_Tape_append_12 ?_
      refine lv_iload_n hx hb d_Tape_append_15 rfl (lv_at hl 2 rfl) ?_
      refine lv_iadd hx hb d_Tape_append_16 ?_
      refine lv_sipush (v := 480) hx hb d_Tape_append_17 (by decide) ?_
      refine lv_icmp_gt (tgt := 31) hx hb d_Tape_append_20 (by decide) (fun c_3 => ?_) (fun c_3 => ?_)
      · have q_3 := Int32.lt_iff_toInt_lt.mp c_3
        refine lv_iconst (v := 0) hx hb d_Tape_append_31 (by decide) ?_
        exact W.zret (v := 0) hx hb hr rfl (fun t ht hW => ⟨⟨0, (tc, tn), rfl, ⟨by rw [← hres]; simp only [m_Tape_append, if_neg c_1, if_neg c_2, if_pos c_3], rfl⟩, by rw [ht]; exact hP, va_K.moved hW.alike hK, hD⟩, hS.F ht⟩) hS.2.2 d_Tape_append_32
      · have q_3 := mt Int32.lt_iff_toInt_lt.mpr c_3
        refine lv_lload_n hx hb d_Tape_append_23 rfl (lv_at hl 1 rfl) ?_
        refine lv_iload_n hx hb d_Tape_append_24 rfl (lv_at hl 2 rfl) ?_
        refine gk_i (isC := []) (isR := [0, 1]) (perm := [0, 1]) (wr := [(aT, .inr (0, [.ref aTc, .int tn])), (aTc, .inl (cB, 480, .inl tc))]) (can := fun u => [(aT, .inr (0, [.ref aTc, .int tn])), (aTc, .inl (cB, 480, .inl tc))]) (gr_S C0 (c_Tape_allTypable l dC dI cB cI cJ _ w k) cs_Tape_19 hK hP hD [] rfl (by decide) g_tb g_tx rfl rfl hl.1 rfl (lv_room (Nat.le_of_ble_eq_true rfl)) d_Tape_append_25 ⟨Nat.le_of_ble_eq_true rfl, Nat.le_of_ble_eq_true rfl⟩ ⟨Nat.le_of_ble_eq_true rfl, Nat.le_of_ble_eq_true rfl⟩) hP hD hS hA rfl rfl (by decide) (by decide) (by decide) (fun _ => rfl) (fun r_4 u_4 H locs hw_4 hP hD hS => ?_)
        obtain ⟨hw_4, hb_4⟩ := hw_4
        rw [hw_4]; rw [hw_4] at hb_4
        have hP : va_P (dC, dI) classes [(aT, .inr (0, [.ref aTc, .int tn])), (aTc, .inl (cB, 480, .inl tc))] H := hP
        have hD : va_D A [(aT, .inr (0, [.ref aTc, .int tn])), (aTc, .inl (cB, 480, .inl tc))] := hD
        refine lv_if_ne (tgt := 33) hx hb d_Tape_append_28 (by decide) (fun c_5 => ?_) (fun c_5 => ?_)
        · have q_5 : ¬ _ = _ := fun h => c_5 (Int32.toInt_inj.mp h)
          refine lv_iload_n hx hb d_Tape_append_33 rfl (lv_at hl 2 rfl) ?_
          refine lv_iconst (v := 1) hx hb d_Tape_append_34 (by decide) ?_
          refine lv_isub hx hb d_Tape_append_35 ?_
          refine lv_istore (lv' := [(4, .int (k - 1)), (0, .ref aT), (1, .long w), (3, .int k)]) hx hb d_Tape_append_36 hl (by decide) rfl (fun ls hl => ?_)
          exact L_Tape_append_38 C0 hK hA (((k - 1).toInt + 1).toNat + 1) (k - 1) tc tn (s_Tape_append_5 q_1 q_2 q_3 q_5 h_t0 h_t1) (s_Tape_append_6 q_1 q_2 q_3 q_5 h_t0 h_t1) (s_Tape_append_7 q_1 q_2 q_3 q_5 h_t0 h_t1) (s_Tape_append_8 q_1 q_2 q_3 q_5 h_t0 h_t1) (by rw [← hres]; simp only [m_Tape_append, if_neg c_1, if_neg c_2, if_neg c_3, if_neg c_5]) _ _ _ hP hD hS (lv_sub hl [0, 1, 2, 3] rfl)
        · have q_5 := congrArg Int32.toInt c_5
          refine lv_iconst (v := 0) hx hb d_Tape_append_31 (by decide) ?_
          exact W.zret (v := 0) hx hb hr rfl (fun t ht hW => ⟨⟨0, (tc, tn), rfl, ⟨by rw [← hres]; simp only [m_Tape_append, if_neg c_1, if_neg c_2, if_neg c_3, if_pos c_5], rfl⟩, by rw [ht]; exact hP, va_K.moved hW.alike hK, hD⟩, hS.F ht⟩) hS.2.2 d_Tape_append_32
def m_Tape_at (tc : Nat → Int32) (tn : Int32) (i : Int32) : Int32 :=
  if i < 0 then
    (-1)
  else
    if i < tn then
      (tc i.toNatClampNeg)
    else
      (-1)
theorem s_Tape_at_0 {i : Int32} {tn : Int32} (q_1 : ¬ i.toInt < (0 : Int32).toInt) (q_2 : i.toInt < tn.toInt) (h_t0 : 0 ≤ tn.toInt) (h_t1 : tn.toInt ≤ 480) : vp_in i 480 := by rw [vp_in_iff]; have z0 : (0 : Int32).toInt = 0 := (by decide); have g0 := gz_r i; have g1 := gz_r tn; omega
set_option maxHeartbeats 4000000 in
set_option maxRecDepth 100000 in
theorem c_Tape_at (l : Launch) (dC : Nat → ClassId) (dI : Nat → Nat → Nat) (cB cI cJ : ClassId) (aT aTc : Nat) (sz : Nat) (tc : Nat → Int32) (tn : Int32) (i : Int32) (h_t0 : 0 ≤ tn.toInt) (h_t1 : tn.toInt ≤ 480) : Met l y_Tape_at w_Tape_at ({ frames := 0, cells := 0, slots := 0, locals := 0 }) (va_Pc [.ref aT, .int i] (g_pre dC dI [(cB, .byte), (cI, .int), (cJ, .long)] sz [(aT, .inr (0, [.ref aTc, .int tn])), (aTc, .inl (cB, 480, .inl tc))] (fun _ => True))) (va_Qi (fun (r : Int32) (u : Unit) => r = (m_Tape_at tc tn i)) (fun u => g_post dC dI [(cB, .byte), (cI, .int), (cJ, .long)] (va_A [(aT, .inr (0, [.ref aTc, .int tn])), (aTc, .inl (cB, 480, .inl tc))] sz) [(aT, .inr (0, [.ref aTc, .int tn])), (aTc, .inl (cB, 480, .inl tc))]) (va_A [(aT, .inr (0, [.ref aTc, .int tn])), (aTc, .inl (cB, 480, .inl tc))] sz)) 0 0 (va_A [(aT, .inr (0, [.ref aTc, .int tn])), (aTc, .inl (cB, 480, .inl tc))] sz) := by
  refine Met.ofW (cc := b_Tape_at) (maxL := 2) (ret := (some .int)) (by decide) rfl ?_
  intro p e s m args below meth c s₁ B hml hv
  obtain ⟨rfl, hsz, hP, hK, hD0, hX⟩ := hv
  subst hsz
  have C0 : g_Cx p s m meth c b_Tape_at 2 (some .int) R_Tape [.ref aT, .int i].toArray := g_start B hml rfl
  obtain ⟨hx, hb, hml, hr, hown, hts, hlocks⟩ := id C0
  have hD := hD0.self (sz := s.heap.size)
  generalize hAe : va_A [(aT, .inr (0, [.ref aTc, .int tn])), (aTc, .inl (cB, 480, .inl tc))] s.heap.size = A at hD ⊢
  generalize hres : (m_Tape_at tc tn i) = res
  have hA : ∀ q : Nat, s.heap.size ≤ q → A q := fun q h => by rw [← hAe]; exact Or.inr h
  have hS : va_S A s.heap s.heap [] := va_S.rf
  have hl := lv_entry ([.ref aT, .int i]) (n := 2) (Nat.le_of_ble_eq_true rfl)
  rw [lg_entry_eq]
  generalize (lg_sl ([.ref aT, .int i]) ++ List.replicate (2 - (lg_sl ([.ref aT, .int i])).length) Slot.unset).toArray = ls at hl ⊢
  have hl : lv_has ls 2 [(0, .ref aT), (1, .int i)] := hl
  refine lv_iload_n hx hb d_Tape_at_0 rfl (lv_at hl 1 rfl) ?_
  refine lv_if_lt (tgt := 12) hx hb d_Tape_at_1 (by decide) (fun c_1 => ?_) (fun c_1 => ?_)
  · have q_1 := Int32.lt_iff_toInt_lt.mp c_1
    refine lv_iconst (v := (-1)) hx hb d_Tape_at_12 (by decide) ?_
    refine lv_goto (tgt := 22) hx hb d_Tape_at_13 (by decide) ?_
    exact W.iret (v := (-1)) hx hb hr (fun t ht hW => ⟨⟨(-1), (), rfl, by rw [← hres]; simp only [m_Tape_at, if_pos c_1], by rw [ht]; exact hP, va_K.moved hW.alike hK, hD⟩, hS.F ht⟩) hS.2.2 d_Tape_at_22
  · have q_1 := mt Int32.lt_iff_toInt_lt.mpr c_1
    refine lv_iload_n hx hb d_Tape_at_4 rfl (lv_at hl 1 rfl) ?_
    refine lv_aload_n hx hb d_Tape_at_5 rfl (lv_at hl 0 rfl) ?_
    refine va_get (D := (dC, dI)) (ci := 0) (v := .int tn) (C := R_Tape) (T := F_Tape) (N := 2) hx hb hts i_Tape hown hK hP 0 rfl rfl 1 (by decide) (hts _ tw_1) (fun _ h9 => h9) rfl d_Tape_at_6 ?_
    refine lv_icmp_lt (tgt := 16) hx hb d_Tape_at_9 (by decide) (fun c_2 => ?_) (fun c_2 => ?_)
    · have q_2 := Int32.lt_iff_toInt_lt.mp c_2
      refine lv_aload_n hx hb d_Tape_at_16 rfl (lv_at hl 0 rfl) ?_
      refine va_get (D := (dC, dI)) (ci := 0) (v := .ref aTc) (C := R_Tape) (T := F_Tape) (N := 2) hx hb hts i_Tape hown hK hP 0 rfl rfl 0 (by decide) (hts _ tw_2) (fun _ h9 => h9) rfl d_Tape_at_17 ?_
      refine lv_iload_n hx hb d_Tape_at_20 rfl (lv_at hl 1 rfl) ?_
      refine va_bald hx hb hK hP 1 0 rfl rfl (s_Tape_at_0 q_1 q_2 h_t0 h_t1) d_Tape_at_21 ?_
      exact W.iret (v := (tc i.toNatClampNeg)) hx hb hr (fun t ht hW => ⟨⟨(tc i.toNatClampNeg), (), rfl, by rw [← hres]; simp only [m_Tape_at, if_neg c_1, if_pos c_2], by rw [ht]; exact hP, va_K.moved hW.alike hK, hD⟩, hS.F ht⟩) hS.2.2 d_Tape_at_22
    · have q_2 := mt Int32.lt_iff_toInt_lt.mpr c_2
      refine lv_iconst (v := (-1)) hx hb d_Tape_at_12 (by decide) ?_
      refine lv_goto (tgt := 22) hx hb d_Tape_at_13 (by decide) ?_
      exact W.iret (v := (-1)) hx hb hr (fun t ht hW => ⟨⟨(-1), (), rfl, by rw [← hres]; simp only [m_Tape_at, if_neg c_1, if_neg c_2], by rw [ht]; exact hP, va_K.moved hW.alike hK, hD⟩, hS.F ht⟩) hS.2.2 d_Tape_at_22
def m_Tape_length (tn : Int32) : Int32 :=
  tn
set_option maxHeartbeats 4000000 in
set_option maxRecDepth 100000 in
theorem c_Tape_length (l : Launch) (dC : Nat → ClassId) (dI : Nat → Nat → Nat) (cB cI cJ : ClassId) (aT aTc : Nat) (sz : Nat) (tc : Nat → Int32) (tn : Int32) : Met l y_Tape_length w_Tape_length ({ frames := 0, cells := 0, slots := 0, locals := 0 }) (va_Pc [.ref aT] (g_pre dC dI [(cB, .byte), (cI, .int), (cJ, .long)] sz [(aT, .inr (0, [.ref aTc, .int tn])), (aTc, .inl (cB, 480, .inl tc))] (fun _ => True))) (va_Qi (fun (r : Int32) (u : Unit) => r = (m_Tape_length tn)) (fun u => g_post dC dI [(cB, .byte), (cI, .int), (cJ, .long)] (va_A [(aT, .inr (0, [.ref aTc, .int tn])), (aTc, .inl (cB, 480, .inl tc))] sz) [(aT, .inr (0, [.ref aTc, .int tn])), (aTc, .inl (cB, 480, .inl tc))]) (va_A [(aT, .inr (0, [.ref aTc, .int tn])), (aTc, .inl (cB, 480, .inl tc))] sz)) 0 0 (va_A [(aT, .inr (0, [.ref aTc, .int tn])), (aTc, .inl (cB, 480, .inl tc))] sz) := by
  refine Met.ofW (cc := b_Tape_length) (maxL := 1) (ret := (some .int)) (by decide) rfl ?_
  intro p e s m args below meth c s₁ B hml hv
  obtain ⟨rfl, hsz, hP, hK, hD0, hX⟩ := hv
  subst hsz
  have C0 : g_Cx p s m meth c b_Tape_length 1 (some .int) R_Tape [.ref aT].toArray := g_start B hml rfl
  obtain ⟨hx, hb, hml, hr, hown, hts, hlocks⟩ := id C0
  have hD := hD0.self (sz := s.heap.size)
  generalize hAe : va_A [(aT, .inr (0, [.ref aTc, .int tn])), (aTc, .inl (cB, 480, .inl tc))] s.heap.size = A at hD ⊢
  generalize hres : (m_Tape_length tn) = res
  have hA : ∀ q : Nat, s.heap.size ≤ q → A q := fun q h => by rw [← hAe]; exact Or.inr h
  have hS : va_S A s.heap s.heap [] := va_S.rf
  have hl := lv_entry ([.ref aT]) (n := 1) (Nat.le_of_ble_eq_true rfl)
  rw [lg_entry_eq]
  generalize (lg_sl ([.ref aT]) ++ List.replicate (1 - (lg_sl ([.ref aT])).length) Slot.unset).toArray = ls at hl ⊢
  have hl : lv_has ls 1 [(0, .ref aT)] := hl
  refine lv_aload_n hx hb d_Tape_length_0 rfl (lv_at hl 0 rfl) ?_
  refine va_get (D := (dC, dI)) (ci := 0) (v := .int tn) (C := R_Tape) (T := F_Tape) (N := 2) hx hb hts i_Tape hown hK hP 0 rfl rfl 1 (by decide) (hts _ tw_1) (fun _ h9 => h9) rfl d_Tape_length_1 ?_
  exact W.iret (v := tn) hx hb hr (fun t ht hW => ⟨⟨tn, (), rfl, by rw [← hres]; simp only [m_Tape_length], by rw [ht]; exact hP, va_K.moved hW.alike hK, hD⟩, hS.F ht⟩) hS.2.2 d_Tape_length_4
def m_Tape_clear (tn : Int32) : Int32 :=
  0
set_option maxHeartbeats 4000000 in
set_option maxRecDepth 100000 in
theorem c_Tape_clear (l : Launch) (dC : Nat → ClassId) (dI : Nat → Nat → Nat) (cB cI cJ : ClassId) (aT aTc : Nat) (sz : Nat) (tc : Nat → Int32) (tn : Int32) : Met l y_Tape_clear w_Tape_clear ({ frames := 0, cells := 0, slots := 0, locals := 0 }) (va_Pc [.ref aT] (g_pre dC dI [(cB, .byte), (cI, .int), (cJ, .long)] sz [(aT, .inr (0, [.ref aTc, .int tn])), (aTc, .inl (cB, 480, .inl tc))] (fun _ => True))) (va_Qv (fun u : Int32 => u = (m_Tape_clear tn)) (fun u => g_post dC dI [(cB, .byte), (cI, .int), (cJ, .long)] (va_A [(aT, .inr (0, [.ref aTc, .int tn])), (aTc, .inl (cB, 480, .inl tc))] sz) [(aT, .inr (0, [.ref aTc, .int u])), (aTc, .inl (cB, 480, .inl tc))]) (va_A [(aT, .inr (0, [.ref aTc, .int tn])), (aTc, .inl (cB, 480, .inl tc))] sz)) 0 0 (va_A [(aT, .inr (0, [.ref aTc, .int tn])), (aTc, .inl (cB, 480, .inl tc))] sz) := by
  refine Met.ofW (cc := b_Tape_clear) (maxL := 1) (ret := none) (by decide) rfl ?_
  intro p e s m args below meth c s₁ B hml hv
  obtain ⟨rfl, hsz, hP, hK, hD0, hX⟩ := hv
  subst hsz
  have C0 : g_Cx p s m meth c b_Tape_clear 1 none R_Tape [.ref aT].toArray := g_start B hml rfl
  obtain ⟨hx, hb, hml, hr, hown, hts, hlocks⟩ := id C0
  have hD := hD0.self (sz := s.heap.size)
  generalize hAe : va_A [(aT, .inr (0, [.ref aTc, .int tn])), (aTc, .inl (cB, 480, .inl tc))] s.heap.size = A at hD ⊢
  generalize hres : (m_Tape_clear tn) = res
  have hA : ∀ q : Nat, s.heap.size ≤ q → A q := fun q h => by rw [← hAe]; exact Or.inr h
  have hS : va_S A s.heap s.heap [] := va_S.rf
  have hl := lv_entry ([.ref aT]) (n := 1) (Nat.le_of_ble_eq_true rfl)
  rw [lg_entry_eq]
  generalize (lg_sl ([.ref aT]) ++ List.replicate (1 - (lg_sl ([.ref aT])).length) Slot.unset).toArray = ls at hl ⊢
  have hl : lv_has ls 1 [(0, .ref aT)] := hl
  refine lv_aload_n hx hb d_Tape_clear_0 rfl (lv_at hl 0 rfl) ?_
  refine lv_iconst (v := 0) hx hb d_Tape_clear_1 (by decide) ?_
  refine va_put (D := (dC, dI)) (ci := 0) (v := .int 0) (ty := .int) (C := R_Tape) (T := F_Tape) (N := 2) hx hb hts i_Tape t_Tape t_Tape_ok n_Tape hown hK hP hD hS 0 rfl rfl 1 (by decide) (hts _ tw_1) (fun _ h9 => h9) rfl (by decide +kernel) rfl rfl (Nat.le_of_ble_eq_true rfl) d_Tape_clear_2 (fun H locs hP hD hS => ?_)
  have hP : va_P (dC, dI) classes [(aT, .inr (0, [.ref aTc, .int 0])), (aTc, .inl (cB, 480, .inl tc))] H := hP
  have hD : va_D A [(aT, .inr (0, [.ref aTc, .int 0])), (aTc, .inl (cB, 480, .inl tc))] := hD
  exact W.vret hx hb hr (fun t ht hW => ⟨⟨(0), rfl, by rw [← hres]; simp only [m_Tape_clear], by rw [ht]; exact hP, va_K.moved hW.alike hK, hD⟩, hS.F ht⟩) hS.2.2 d_Tape_clear_5
