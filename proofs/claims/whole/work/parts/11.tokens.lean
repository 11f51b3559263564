def m_Tokens_isLetter (ch : Int32) : Int32 :=
  if ch < 97 then
    0
  else
    if 122 < ch then
      0
    else
      1
set_option maxHeartbeats 4000000 in
set_option maxRecDepth 100000 in
theorem c_Tokens_isLetter (l : Launch) (dC : Nat → ClassId) (dI : Nat → Nat → Nat) (cB cI cJ : ClassId) (sz : Nat) (ch : Int32) : Met l y_Tokens_isLetter w_Tokens_isLetter ({ frames := 0, cells := 0, slots := 0, locals := 0 }) (va_Pc [.int ch] (g_pre dC dI [(cB, .byte), (cI, .int), (cJ, .long)] sz [] (fun _ => True))) (va_Qi (fun (r : Int32) (u : Unit) => r = (m_Tokens_isLetter ch) ∧ narrow .boolean (.int r) = .int r) (fun u => g_post dC dI [(cB, .byte), (cI, .int), (cJ, .long)] (va_A [] sz) []) (va_A [] sz)) 0 0 (va_A [] sz) := by
  refine Met.ofW (cc := b_Tokens_isLetter) (maxL := 1) (ret := (some .boolean)) (by decide) rfl ?_
  intro p e s m args below meth c s₁ B hml hv
  obtain ⟨rfl, hsz, hP, hK, hD0, hX⟩ := hv
  subst hsz
  have C0 : g_Cx p s m meth c b_Tokens_isLetter 1 (some .boolean) R_Tokens [.int ch].toArray := g_start B hml rfl
  obtain ⟨hx, hb, hml, hr, hown, hts, hlocks⟩ := id C0
  have hD := hD0.self (sz := s.heap.size)
  generalize hAe : va_A [] s.heap.size = A at hD ⊢
  generalize hres : (m_Tokens_isLetter ch) = res
  have hA : ∀ q : Nat, s.heap.size ≤ q → A q := fun q h => by rw [← hAe]; exact Or.inr h
  have hS : va_S A s.heap s.heap [] := va_S.rf
  have hl := lv_entry ([.int ch]) (n := 1) (Nat.le_of_ble_eq_true rfl)
  rw [lg_entry_eq]
  generalize (lg_sl ([.int ch]) ++ List.replicate (1 - (lg_sl ([.int ch])).length) Slot.unset).toArray = ls at hl ⊢
  have hl : lv_has ls 1 [(0, .int ch)] := hl
  refine lv_iload_n hx hb d_Tokens_isLetter_0 rfl (lv_at hl 0 rfl) ?_
  refine lv_bipush (v := 97) hx hb d_Tokens_isLetter_1 (by decide) ?_
  refine lv_icmp_lt (tgt := 16) hx hb d_Tokens_isLetter_3 (by decide) (fun c_1 => ?_) (fun c_1 => ?_)
  · have q_1 := Int32.lt_iff_toInt_lt.mp c_1
    refine lv_iconst (v := 0) hx hb d_Tokens_isLetter_16 (by decide) ?_
    exact W.zret (v := 0) hx hb hr rfl (fun t ht hW => ⟨⟨0, (), rfl, ⟨by rw [← hres]; simp only [m_Tokens_isLetter, if_pos c_1], rfl⟩, by rw [ht]; exact hP, va_K.moved hW.alike hK, hD⟩, hS.F ht⟩) hS.2.2 d_Tokens_isLetter_17
  · have q_1 := mt Int32.lt_iff_toInt_lt.mpr c_1
    refine lv_iload_n hx hb d_Tokens_isLetter_6 rfl (lv_at hl 0 rfl) ?_
    refine lv_bipush (v := 122) hx hb d_Tokens_isLetter_7 (by decide) ?_
    refine lv_icmp_gt (tgt := 16) hx hb d_Tokens_isLetter_9 (by decide) (fun c_2 => ?_) (fun c_2 => ?_)
    · have q_2 := Int32.lt_iff_toInt_lt.mp c_2
      refine lv_iconst (v := 0) hx hb d_Tokens_isLetter_16 (by decide) ?_
      exact W.zret (v := 0) hx hb hr rfl (fun t ht hW => ⟨⟨0, (), rfl, ⟨by rw [← hres]; simp only [m_Tokens_isLetter, if_neg c_1, if_pos c_2], rfl⟩, by rw [ht]; exact hP, va_K.moved hW.alike hK, hD⟩, hS.F ht⟩) hS.2.2 d_Tokens_isLetter_17
    · have q_2 := mt Int32.lt_iff_toInt_lt.mpr c_2
      refine lv_iconst (v := 1) hx hb d_Tokens_isLetter_12 (by decide) ?_
      refine lv_goto (tgt := 17) hx hb d_Tokens_isLetter_13 (by decide) ?_
      exact W.zret (v := 1) hx hb hr rfl (fun t ht hW => ⟨⟨1, (), rfl, ⟨by rw [← hres]; simp only [m_Tokens_isLetter, if_neg c_1, if_neg c_2], rfl⟩, by rw [ht]; exact hP, va_K.moved hW.alike hK, hD⟩, hS.F ht⟩) hS.2.2 d_Tokens_isLetter_17
def m_Tokens_isDigit (ch : Int32) : Int32 :=
  if ch < 48 then
    0
  else
    if 57 < ch then
      0
    else
      1
set_option maxHeartbeats 4000000 in
set_option maxRecDepth 100000 in
theorem c_Tokens_isDigit (l : Launch) (dC : Nat → ClassId) (dI : Nat → Nat → Nat) (cB cI cJ : ClassId) (sz : Nat) (ch : Int32) : Met l y_Tokens_isDigit w_Tokens_isDigit ({ frames := 0, cells := 0, slots := 0, locals := 0 }) (va_Pc [.int ch] (g_pre dC dI [(cB, .byte), (cI, .int), (cJ, .long)] sz [] (fun _ => True))) (va_Qi (fun (r : Int32) (u : Unit) => r = (m_Tokens_isDigit ch) ∧ narrow .boolean (.int r) = .int r) (fun u => g_post dC dI [(cB, .byte), (cI, .int), (cJ, .long)] (va_A [] sz) []) (va_A [] sz)) 0 0 (va_A [] sz) := by
  refine Met.ofW (cc := b_Tokens_isDigit) (maxL := 1) (ret := (some .boolean)) (by decide) rfl ?_
  intro p e s m args below meth c s₁ B hml hv
  obtain ⟨rfl, hsz, hP, hK, hD0, hX⟩ := hv
  subst hsz
  have C0 : g_Cx p s m meth c b_Tokens_isDigit 1 (some .boolean) R_Tokens [.int ch].toArray := g_start B hml rfl
  obtain ⟨hx, hb, hml, hr, hown, hts, hlocks⟩ := id C0
  have hD := hD0.self (sz := s.heap.size)
  generalize hAe : va_A [] s.heap.size = A at hD ⊢
  generalize hres : (m_Tokens_isDigit ch) = res
  have hA : ∀ q : Nat, s.heap.size ≤ q → A q := fun q h => by rw [← hAe]; exact Or.inr h
  have hS : va_S A s.heap s.heap [] := va_S.rf
  have hl := lv_entry ([.int ch]) (n := 1) (Nat.le_of_ble_eq_true rfl)
  rw [lg_entry_eq]
  generalize (lg_sl ([.int ch]) ++ List.replicate (1 - (lg_sl ([.int ch])).length) Slot.unset).toArray = ls at hl ⊢
  have hl : lv_has ls 1 [(0, .int ch)] := hl
  refine lv_iload_n hx hb d_Tokens_isDigit_0 rfl (lv_at hl 0 rfl) ?_
  refine lv_bipush (v := 48) hx hb d_Tokens_isDigit_1 (by decide) ?_
  refine lv_icmp_lt (tgt := 16) hx hb d_Tokens_isDigit_3 (by decide) (fun c_1 => ?_) (fun c_1 => ?_)
  · have q_1 := Int32.lt_iff_toInt_lt.mp c_1
    refine lv_iconst (v := 0) hx hb d_Tokens_isDigit_16 (by decide) ?_
    exact W.zret (v := 0) hx hb hr rfl (fun t ht hW => ⟨⟨0, (), rfl, ⟨by rw [← hres]; simp only [m_Tokens_isDigit, if_pos c_1], rfl⟩, by rw [ht]; exact hP, va_K.moved hW.alike hK, hD⟩, hS.F ht⟩) hS.2.2 d_Tokens_isDigit_17
  · have q_1 := mt Int32.lt_iff_toInt_lt.mpr c_1
    refine lv_iload_n hx hb d_Tokens_isDigit_6 rfl (lv_at hl 0 rfl) ?_
    refine lv_bipush (v := 57) hx hb d_Tokens_isDigit_7 (by decide) ?_
    refine lv_icmp_gt (tgt := 16) hx hb d_Tokens_isDigit_9 (by decide) (fun c_2 => ?_) (fun c_2 => ?_)
    · have q_2 := Int32.lt_iff_toInt_lt.mp c_2
      refine lv_iconst (v := 0) hx hb d_Tokens_isDigit_16 (by decide) ?_
      exact W.zret (v := 0) hx hb hr rfl (fun t ht hW => ⟨⟨0, (), rfl, ⟨by rw [← hres]; simp only [m_Tokens_isDigit, if_neg c_1, if_pos c_2], rfl⟩, by rw [ht]; exact hP, va_K.moved hW.alike hK, hD⟩, hS.F ht⟩) hS.2.2 d_Tokens_isDigit_17
    · have q_2 := mt Int32.lt_iff_toInt_lt.mpr c_2
      refine lv_iconst (v := 1) hx hb d_Tokens_isDigit_12 (by decide) ?_
      refine lv_goto (tgt := 17) hx hb d_Tokens_isDigit_13 (by decide) ?_
      exact W.zret (v := 1) hx hb hr rfl (fun t ht hW => ⟨⟨1, (), rfl, ⟨by rw [← hres]; simp only [m_Tokens_isDigit, if_neg c_1, if_neg c_2], rfl⟩, by rw [ht]; exact hP, va_K.moved hW.alike hK, hD⟩, hS.F ht⟩) hS.2.2 d_Tokens_isDigit_17
def m_Tokens_isSign (ch : Int32) : Int32 :=
  if ch = 58 then
    1
  else
    if ch = 59 then
      1
    else
      if ch = 44 then
        1
      else
        if ch = 40 then
          1
        else
          if ch = 41 then
            1
          else
            if ch = 45 then
              1
            else
              0
set_option maxHeartbeats 4000000 in
set_option maxRecDepth 100000 in
theorem c_Tokens_isSign (l : Launch) (dC : Nat → ClassId) (dI : Nat → Nat → Nat) (cB cI cJ : ClassId) (sz : Nat) (ch : Int32) : Met l y_Tokens_isSign w_Tokens_isSign ({ frames := 0, cells := 0, slots := 0, locals := 0 }) (va_Pc [.int ch] (g_pre dC dI [(cB, .byte), (cI, .int), (cJ, .long)] sz [] (fun _ => True))) (va_Qi (fun (r : Int32) (u : Unit) => r = (m_Tokens_isSign ch) ∧ narrow .boolean (.int r) = .int r) (fun u => g_post dC dI [(cB, .byte), (cI, .int), (cJ, .long)] (va_A [] sz) []) (va_A [] sz)) 0 0 (va_A [] sz) := by
  refine Met.ofW (cc := b_Tokens_isSign) (maxL := 1) (ret := (some .boolean)) (by decide) rfl ?_
  intro p e s m args below meth c s₁ B hml hv
  obtain ⟨rfl, hsz, hP, hK, hD0, hX⟩ := hv
  subst hsz
  have C0 : g_Cx p s m meth c b_Tokens_isSign 1 (some .boolean) R_Tokens [.int ch].toArray := g_start B hml rfl
  obtain ⟨hx, hb, hml, hr, hown, hts, hlocks⟩ := id C0
  have hD := hD0.self (sz := s.heap.size)
  generalize hAe : va_A [] s.heap.size = A at hD ⊢
  generalize hres : (m_Tokens_isSign ch) = res
  have hA : ∀ q : Nat, s.heap.size ≤ q → A q := fun q h => by rw [← hAe]; exact Or.inr h
  have hS : va_S A s.heap s.heap [] := va_S.rf
  have hl := lv_entry ([.int ch]) (n := 1) (Nat.le_of_ble_eq_true rfl)
  rw [lg_entry_eq]
  generalize (lg_sl ([.int ch]) ++ List.replicate (1 - (lg_sl ([.int ch])).length) Slot.unset).toArray = ls at hl ⊢
  have hl : lv_has ls 1 [(0, .int ch)] := hl
  refine lv_iload_n hx hb d_Tokens_isSign_0 rfl (lv_at hl 0 rfl) ?_
  refine lv_bipush (v := 58) hx hb d_Tokens_isSign_1 (by decide) ?_
  refine lv_icmp_eq (tgt := 36) hx hb d_Tokens_isSign_3 (by decide) (fun c_1 => ?_) (fun c_1 => ?_)
  · have q_1 := congrArg Int32.toInt c_1
    refine lv_iconst (v := 1) hx hb d_Tokens_isSign_36 (by decide) ?_
    refine lv_goto (tgt := 41) hx hb d_Tokens_isSign_37 (by decide) ?_
    exact W.zret (v := 1) hx hb hr rfl (fun t ht hW => ⟨⟨1, (), rfl, ⟨by rw [← hres]; simp only [m_Tokens_isSign, if_pos c_1], rfl⟩, by rw [ht]; exact hP, va_K.moved hW.alike hK, hD⟩, hS.F ht⟩) hS.2.2 d_Tokens_isSign_41
  · have q_1 : ¬ _ = _ := fun h => c_1 (Int32.toInt_inj.mp h)
    refine lv_iload_n hx hb d_Tokens_isSign_6 rfl (lv_at hl 0 rfl) ?_
    refine lv_bipush (v := 59) hx hb d_Tokens_isSign_7 (by decide) ?_
    refine lv_icmp_eq (tgt := 36) hx hb d_Tokens_isSign_9 (by decide) (fun c_2 => ?_) (fun c_2 => ?_)
    · have q_2 := congrArg Int32.toInt c_2
      refine lv_iconst (v := 1) hx hb d_Tokens_isSign_36 (by decide) ?_
      refine lv_goto (tgt := 41) hx hb d_Tokens_isSign_37 (by decide) ?_
      exact W.zret (v := 1) hx hb hr rfl (fun t ht hW => ⟨⟨1, (), rfl, ⟨by rw [← hres]; simp only [m_Tokens_isSign, if_neg c_1, if_pos c_2], rfl⟩, by rw [ht]; exact hP, va_K.moved hW.alike hK, hD⟩, hS.F ht⟩) hS.2.2 d_Tokens_isSign_41
    · have q_2 : ¬ _ = _ := fun h => c_2 (Int32.toInt_inj.mp h)
      refine lv_iload_n hx hb d_Tokens_isSign_12 rfl (lv_at hl 0 rfl) ?_
      refine lv_bipush (v := 44) hx hb d_Tokens_isSign_13 (by decide) ?_
      refine lv_icmp_eq (tgt := 36) hx hb d_Tokens_isSign_15 (by decide) (fun c_3 => ?_) (fun c_3 => ?_)
      · have q_3 := congrArg Int32.toInt c_3
        refine lv_iconst (v := 1) hx hb d_Tokens_isSign_36 (by decide) ?_
        refine lv_goto (tgt := 41) hx hb d_Tokens_isSign_37 (by decide) ?_
        exact W.zret (v := 1) hx hb hr rfl (fun t ht hW => ⟨⟨1, (), rfl, ⟨by rw [← hres]; simp only [m_Tokens_isSign, if_neg c_1, if_neg c_2, if_pos c_3], rfl⟩, by rw [ht]; exact hP, va_K.moved hW.alike hK, hD⟩, hS.F ht⟩) hS.2.2 d_Tokens_isSign_41
      · have q_3 : ¬ _ = _ := fun h => c_3 (Int32.toInt_inj.mp h)
        refine lv_iload_n hx hb d_Tokens_isSign_18 rfl (lv_at hl 0 rfl) ?_
        refine lv_bipush (v := 40) hx hb d_Tokens_isSign_19 (by decide) ?_
        refine lv_icmp_eq (tgt := 36) hx hb d_Tokens_isSign_21 (by decide) (fun c_4 => ?_) (fun c_4 => ?_)
        · have q_4 := congrArg Int32.toInt c_4
          refine lv_iconst (v := 1) hx hb d_Tokens_isSign_36 (by decide) ?_
          refine lv_goto (tgt := 41) hx hb d_Tokens_isSign_37 (by decide) ?_
          exact W.zret (v := 1) hx hb hr rfl (fun t ht hW => ⟨⟨1, (), rfl, ⟨by rw [← hres]; simp only [m_Tokens_isSign, if_neg c_1, if_neg c_2, if_neg c_3, if_pos c_4], rfl⟩, by rw [ht]; exact hP, va_K.moved hW.alike hK, hD⟩, hS.F ht⟩) hS.2.2 d_Tokens_isSign_41
        · have q_4 : ¬ _ = _ := fun h => c_4 (Int32.toInt_inj.mp h)
          refine lv_iload_n hx hb d_Tokens_isSign_24 rfl (lv_at hl 0 rfl) ?_
          refine lv_bipush (v := 41) hx hb d_Tokens_isSign_25 (by decide) ?_
          refine lv_icmp_eq (tgt := 36) hx hb d_Tokens_isSign_27 (by decide) (fun c_5 => ?_) (fun c_5 => ?_)
          · have q_5 := congrArg Int32.toInt c_5
            refine lv_iconst (v := 1) hx hb d_Tokens_isSign_36 (by decide) ?_
            refine lv_goto (tgt := 41) hx hb d_Tokens_isSign_37 (by decide) ?_
            exact W.zret (v := 1) hx hb hr rfl (fun t ht hW => ⟨⟨1, (), rfl, ⟨by rw [← hres]; simp only [m_Tokens_isSign, if_neg c_1, if_neg c_2, if_neg c_3, if_neg c_4, if_pos c_5], rfl⟩, by rw [ht]; exact hP, va_K.moved hW.alike hK, hD⟩, hS.F ht⟩) hS.2.2 d_Tokens_isSign_41
          · have q_5 : ¬ _ = _ := fun h => c_5 (Int32.toInt_inj.mp h)
            refine lv_iload_n hx hb d_Tokens_isSign_30 rfl (lv_at hl 0 rfl) ?_
            refine lv_bipush (v := 45) hx hb d_Tokens_isSign_31 (by decide) ?_
            refine lv_icmp_ne (tgt := 40) hx hb d_Tokens_isSign_33 (by decide) (fun c_6 => ?_) (fun c_6 => ?_)
            · have q_6 : ¬ _ = _ := fun h => c_6 (Int32.toInt_inj.mp h)
              refine lv_iconst (v := 0) hx hb d_Tokens_isSign_40 (by decide) ?_
              exact W.zret (v := 0) hx hb hr rfl (fun t ht hW => ⟨⟨0, (), rfl, ⟨by rw [← hres]; simp only [m_Tokens_isSign, if_neg c_1, if_neg c_2, if_neg c_3, if_neg c_4, if_neg c_5, if_neg c_6], rfl⟩, by rw [ht]; exact hP, va_K.moved hW.alike hK, hD⟩, hS.F ht⟩) hS.2.2 d_Tokens_isSign_41
            · have q_6 := congrArg Int32.toInt c_6
              refine lv_iconst (v := 1) hx hb d_Tokens_isSign_36 (by decide) ?_
              refine lv_goto (tgt := 41) hx hb d_Tokens_isSign_37 (by decide) ?_
              exact W.zret (v := 1) hx hb hr rfl (fun t ht hW => ⟨⟨1, (), rfl, ⟨by rw [← hres]; simp only [m_Tokens_isSign, if_neg c_1, if_neg c_2, if_neg c_3, if_neg c_4, if_neg c_5, if_pos c_6], rfl⟩, by rw [ht]; exact hP, va_K.moved hW.alike hK, hD⟩, hS.F ht⟩) hS.2.2 d_Tokens_isSign_41
def m_Tokens_kind (kk : Nat → Int32) (kn : Int32) (i : Int32) : Int32 :=
  if i < 0 then
    0
  else
    if kn ≤ i then
      0
    else
      if 480 ≤ i then
        0
      else
        (kk i.toNatClampNeg)
theorem s_Tokens_kind_0 {i : Int32} {kn : Int32} (q_1 : ¬ i.toInt < (0 : Int32).toInt) (q_2 : ¬ kn.toInt ≤ i.toInt) (q_3 : ¬ (480 : Int32).toInt ≤ i.toInt) : vp_in i 480 := by rw [vp_in_iff]; have z0 : (0 : Int32).toInt = 0 := (by decide); have z1 : (480 : Int32).toInt = 480 := (by decide); have g0 := gz_r i; have g1 := gz_r kn; omega
set_option maxHeartbeats 4000000 in
set_option maxRecDepth 100000 in
theorem c_Tokens_kind (l : Launch) (dC : Nat → ClassId) (dI : Nat → Nat → Nat) (cB cI cJ : ClassId) (aK aKk aKp aKv : Nat) (sz : Nat) (kk : Nat → Int32) (kp : Nat → Int32) (kv : Nat → Int64) (kn : Int32) (kl : Int32) (kx : Int32) (i : Int32) : Met l y_Tokens_kind w_Tokens_kind ({ frames := 0, cells := 0, slots := 0, locals := 0 }) (va_Pc [.ref aK, .int i] (g_pre dC dI [(cB, .byte), (cI, .int), (cJ, .long)] sz [(aK, .inr (1, [.ref aKk, .ref aKp, .ref aKv, .int kn, .int kl, .int kx])), (aKk, .inl (cI, 480, .inl kk)), (aKp, .inl (cI, 480, .inl kp)), (aKv, .inl (cJ, 480, .inr (.inl kv)))] (fun _ => True))) (va_Qi (fun (r : Int32) (u : Unit) => r = (m_Tokens_kind kk kn i)) (fun u => g_post dC dI [(cB, .byte), (cI, .int), (cJ, .long)] (va_A [(aK, .inr (1, [.ref aKk, .ref aKp, .ref aKv, .int kn, .int kl, .int kx])), (aKk, .inl (cI, 480, .inl kk)), (aKp, .inl (cI, 480, .inl kp)), (aKv, .inl (cJ, 480, .inr (.inl kv)))] sz) [(aK, .inr (1, [.ref aKk, .ref aKp, .ref aKv, .int kn, .int kl, .int kx])), (aKk, .inl (cI, 480, .inl kk)), (aKp, .inl (cI, 480, .inl kp)), (aKv, .inl (cJ, 480, .inr (.inl kv)))]) (va_A [(aK, .inr (1, [.ref aKk, .ref aKp, .ref aKv, .int kn, .int kl, .int kx])), (aKk, .inl (cI, 480, .inl kk)), (aKp, .inl (cI, 480, .inl kp)), (aKv, .inl (cJ, 480, .inr (.inl kv)))] sz)) 0 0 (va_A [(aK, .inr (1, [.ref aKk, .ref aKp, .ref aKv, .int kn, .int kl, .int kx])), (aKk, .inl (cI, 480, .inl kk)), (aKp, .inl (cI, 480, .inl kp)), (aKv, .inl (cJ, 480, .inr (.inl kv)))] sz) := by
  refine Met.ofW (cc := b_Tokens_kind) (maxL := 2) (ret := (some .int)) (by decide) rfl ?_
  intro p e s m args below meth c s₁ B hml hv
  obtain ⟨rfl, hsz, hP, hK, hD0, hX⟩ := hv
  subst hsz
  have C0 : g_Cx p s m meth c b_Tokens_kind 2 (some .int) R_Tokens [.ref aK, .int i].toArray := g_start B hml rfl
  obtain ⟨hx, hb, hml, hr, hown, hts, hlocks⟩ := id C0
  have hD := hD0.self (sz := s.heap.size)
  generalize hAe : va_A [(aK, .inr (1, [.ref aKk, .ref aKp, .ref aKv, .int kn, .int kl, .int kx])), (aKk, .inl (cI, 480, .inl kk)), (aKp, .inl (cI, 480, .inl kp)), (aKv, .inl (cJ, 480, .inr (.inl kv)))] s.heap.size = A at hD ⊢
  generalize hres : (m_Tokens_kind kk kn i) = res
  have hA : ∀ q : Nat, s.heap.size ≤ q → A q := fun q h => by rw [← hAe]; exact Or.inr h
  have hS : va_S A s.heap s.heap [] := va_S.rf
  have hl := lv_entry ([.ref aK, .int i]) (n := 2) (Nat.le_of_ble_eq_true rfl)
  rw [lg_entry_eq]
  generalize (lg_sl ([.ref aK, .int i]) ++ List.replicate (2 - (lg_sl ([.ref aK, .int i])).length) Slot.unset).toArray = ls at hl ⊢
  have hl : lv_has ls 2 [(0, .ref aK), (1, .int i)] := hl
  refine lv_iload_n hx hb d_Tokens_kind_0 rfl (lv_at hl 1 rfl) ?_
  refine lv_if_lt (tgt := 28) hx hb d_Tokens_kind_1 (by decide) (fun c_1 => ?_) (fun c_1 => ?_)
  · have q_1 := Int32.lt_iff_toInt_lt.mp c_1
    refine lv_iconst (v := 0) hx hb d_Tokens_kind_28 (by decide) ?_
    exact W.iret (v := 0) hx hb hr (fun t ht hW => ⟨⟨0, (), rfl, by rw [← hres]; simp only [m_Tokens_kind, if_pos c_1], by rw [ht]; exact hP, va_K.moved hW.alike hK, hD⟩, hS.F ht⟩) hS.2.2 d_Tokens_kind_29
  · have q_1 := mt Int32.lt_iff_toInt_lt.mpr c_1
    refine lv_iload_n hx hb d_Tokens_kind_4 rfl (lv_at hl 1 rfl) ?_
    refine lv_aload_n hx hb d_Tokens_kind_5 rfl (lv_at hl 0 rfl) ?_
    refine va_get (D := (dC, dI)) (ci := 1) (v := .int kn) (C := R_Tokens) (T := F_Tokens) (N := 6) hx hb hts i_Tokens hown hK hP 0 rfl rfl 3 (by decide) (hts _ tw_3) (fun _ h9 => h9) rfl d_Tokens_kind_6 ?_
    refine lv_icmp_ge (tgt := 28) hx hb d_Tokens_kind_9 (by decide) (fun c_2 => ?_) (fun c_2 => ?_)
    · have q_2 := Int32.le_iff_toInt_le.mp c_2
      refine lv_iconst (v := 0) hx hb d_Tokens_kind_28 (by decide) ?_
      exact W.iret (v := 0) hx hb hr (fun t ht hW => ⟨⟨0, (), rfl, by rw [← hres]; simp only [m_Tokens_kind, if_neg c_1, if_pos c_2], by rw [ht]; exact hP, va_K.moved hW.alike hK, hD⟩, hS.F ht⟩) hS.2.2 d_Tokens_kind_29
    · have q_2 := mt Int32.le_iff_toInt_le.mpr c_2
      refine lv_iload_n hx hb d_Tokens_kind_12 rfl (lv_at hl 1 rfl) ?_
      refine lv_sipush (v := 480) hx hb d_Tokens_kind_13 (by decide) ?_
      refine lv_icmp_ge (tgt := 28) hx hb d_Tokens_kind_16 (by decide) (fun c_3 => ?_) (fun c_3 => ?_)
      · have q_3 := Int32.le_iff_toInt_le.mp c_3
        refine lv_iconst (v := 0) hx hb d_Tokens_kind_28 (by decide) ?_
        exact W.iret (v := 0) hx hb hr (fun t ht hW => ⟨⟨0, (), rfl, by rw [← hres]; simp only [m_Tokens_kind, if_neg c_1, if_neg c_2, if_pos c_3], by rw [ht]; exact hP, va_K.moved hW.alike hK, hD⟩, hS.F ht⟩) hS.2.2 d_Tokens_kind_29
      · have q_3 := mt Int32.le_iff_toInt_le.mpr c_3
        refine lv_aload_n hx hb d_Tokens_kind_19 rfl (lv_at hl 0 rfl) ?_
        refine va_get (D := (dC, dI)) (ci := 1) (v := .ref aKk) (C := R_Tokens) (T := F_Tokens) (N := 6) hx hb hts i_Tokens hown hK hP 0 rfl rfl 0 (by decide) (hts _ tw_4) (fun _ h9 => h9) rfl d_Tokens_kind_20 ?_
        refine lv_iload_n hx hb d_Tokens_kind_23 rfl (lv_at hl 1 rfl) ?_
        refine va_iald hx hb hK hP 1 1 rfl rfl (s_Tokens_kind_0 q_1 q_2 q_3) d_Tokens_kind_24 ?_
        refine lv_goto (tgt := 29) hx hb d_Tokens_kind_25 (by decide) ?_
        exact W.iret (v := (kk i.toNatClampNeg)) hx hb hr (fun t ht hW => ⟨⟨(kk i.toNatClampNeg), (), rfl, by rw [← hres]; simp only [m_Tokens_kind, if_neg c_1, if_neg c_2, if_neg c_3], by rw [ht]; exact hP, va_K.moved hW.alike hK, hD⟩, hS.F ht⟩) hS.2.2 d_Tokens_kind_29
def m_Tokens_place (kp : Nat → Int32) (kn : Int32) (kl : Int32) (i : Int32) : Int32 :=
  if i < 0 then
    kl
  else
    if kn ≤ i then
      kl
    else
      if 480 ≤ i then
        kl
      else
        (kp i.toNatClampNeg)
theorem s_Tokens_place_0 {i : Int32} {kn : Int32} (q_1 : ¬ i.toInt < (0 : Int32).toInt) (q_2 : ¬ kn.toInt ≤ i.toInt) (q_3 : ¬ (480 : Int32).toInt ≤ i.toInt) : vp_in i 480 := by rw [vp_in_iff]; have z0 : (0 : Int32).toInt = 0 := (by decide); have z1 : (480 : Int32).toInt = 480 := (by decide); have g0 := gz_r i; have g1 := gz_r kn; omega
set_option maxHeartbeats 4000000 in
set_option maxRecDepth 100000 in
theorem c_Tokens_place (l : Launch) (dC : Nat → ClassId) (dI : Nat → Nat → Nat) (cB cI cJ : ClassId) (aK aKk aKp aKv : Nat) (sz : Nat) (kk : Nat → Int32) (kp : Nat → Int32) (kv : Nat → Int64) (kn : Int32) (kl : Int32) (kx : Int32) (i : Int32) : Met l y_Tokens_place w_Tokens_place ({ frames := 0, cells := 0, slots := 0, locals := 0 }) (va_Pc [.ref aK, .int i] (g_pre dC dI [(cB, .byte), (cI, .int), (cJ, .long)] sz [(aK, .inr (1, [.ref aKk, .ref aKp, .ref aKv, .int kn, .int kl, .int kx])), (aKk, .inl (cI, 480, .inl kk)), (aKp, .inl (cI, 480, .inl kp)), (aKv, .inl (cJ, 480, .inr (.inl kv)))] (fun _ => True))) (va_Qi (fun (r : Int32) (u : Unit) => r = (m_Tokens_place kp kn kl i)) (fun u => g_post dC dI [(cB, .byte), (cI, .int), (cJ, .long)] (va_A [(aK, .inr (1, [.ref aKk, .ref aKp, .ref aKv, .int kn, .int kl, .int kx])), (aKk, .inl (cI, 480, .inl kk)), (aKp, .inl (cI, 480, .inl kp)), (aKv, .inl (cJ, 480, .inr (.inl kv)))] sz) [(aK, .inr (1, [.ref aKk, .ref aKp, .ref aKv, .int kn, .int kl, .int kx])), (aKk, .inl (cI, 480, .inl kk)), (aKp, .inl (cI, 480, .inl kp)), (aKv, .inl (cJ, 480, .inr (.inl kv)))]) (va_A [(aK, .inr (1, [.ref aKk, .ref aKp, .ref aKv, .int kn, .int kl, .int kx])), (aKk, .inl (cI, 480, .inl kk)), (aKp, .inl (cI, 480, .inl kp)), (aKv, .inl (cJ, 480, .inr (.inl kv)))] sz)) 0 0 (va_A [(aK, .inr (1, [.ref aKk, .ref aKp, .ref aKv, .int kn, .int kl, .int kx])), (aKk, .inl (cI, 480, .inl kk)), (aKp, .inl (cI, 480, .inl kp)), (aKv, .inl (cJ, 480, .inr (.inl kv)))] sz) := by
  refine Met.ofW (cc := b_Tokens_place) (maxL := 2) (ret := (some .int)) (by decide) rfl ?_
  intro p e s m args below meth c s₁ B hml hv
  obtain ⟨rfl, hsz, hP, hK, hD0, hX⟩ := hv
  subst hsz
  have C0 : g_Cx p s m meth c b_Tokens_place 2 (some .int) R_Tokens [.ref aK, .int i].toArray := g_start B hml rfl
  obtain ⟨hx, hb, hml, hr, hown, hts, hlocks⟩ := id C0
  have hD := hD0.self (sz := s.heap.size)
  generalize hAe : va_A [(aK, .inr (1, [.ref aKk, .ref aKp, .ref aKv, .int kn, .int kl, .int kx])), (aKk, .inl (cI, 480, .inl kk)), (aKp, .inl (cI, 480, .inl kp)), (aKv, .inl (cJ, 480, .inr (.inl kv)))] s.heap.size = A at hD ⊢
  generalize hres : (m_Tokens_place kp kn kl i) = res
  have hA : ∀ q : Nat, s.heap.size ≤ q → A q := fun q h => by rw [← hAe]; exact Or.inr h
  have hS : va_S A s.heap s.heap [] := va_S.rf
  have hl := lv_entry ([.ref aK, .int i]) (n := 2) (Nat.le_of_ble_eq_true rfl)
  rw [lg_entry_eq]
  generalize (lg_sl ([.ref aK, .int i]) ++ List.replicate (2 - (lg_sl ([.ref aK, .int i])).length) Slot.unset).toArray = ls at hl ⊢
  have hl : lv_has ls 2 [(0, .ref aK), (1, .int i)] := hl
  refine lv_iload_n hx hb d_Tokens_place_0 rfl (lv_at hl 1 rfl) ?_
  refine lv_if_lt (tgt := 28) hx hb d_Tokens_place_1 (by decide) (fun c_1 => ?_) (fun c_1 => ?_)
  · have q_1 := Int32.lt_iff_toInt_lt.mp c_1
    refine lv_aload_n hx hb d_Tokens_place_28 rfl (lv_at hl 0 rfl) ?_
    refine va_get (D := (dC, dI)) (ci := 1) (v := .int kl) (C := R_Tokens) (T := F_Tokens) (N := 6) hx hb hts i_Tokens hown hK hP 0 rfl rfl 4 (by decide) (hts _ tw_5) (fun _ h9 => h9) rfl d_Tokens_place_29 ?_
    exact W.iret (v := kl) hx hb hr (fun t ht hW => ⟨⟨kl, (), rfl, by rw [← hres]; simp only [m_Tokens_place, if_pos c_1], by rw [ht]; exact hP, va_K.moved hW.alike hK, hD⟩, hS.F ht⟩) hS.2.2 d_Tokens_place_32
  · have q_1 := mt Int32.lt_iff_toInt_lt.mpr c_1
    refine lv_iload_n hx hb d_Tokens_place_4 rfl (lv_at hl 1 rfl) ?_
    refine lv_aload_n hx hb d_Tokens_place_5 rfl (lv_at hl 0 rfl) ?_
    refine va_get (D := (dC, dI)) (ci := 1) (v := .int kn) (C := R_Tokens) (T := F_Tokens) (N := 6) hx hb hts i_Tokens hown hK hP 0 rfl rfl 3 (by decide) (hts _ tw_3) (fun _ h9 => h9) rfl d_Tokens_place_6 ?_
    refine lv_icmp_ge (tgt := 28) hx hb d_Tokens_place_9 (by decide) (fun c_2 => ?_) (fun c_2 => ?_)
    · have q_2 := Int32.le_iff_toInt_le.mp c_2
      refine lv_aload_n hx hb d_Tokens_place_28 rfl (lv_at hl 0 rfl) ?_
      refine va_get (D := (dC, dI)) (ci := 1) (v := .int kl) (C := R_Tokens) (T := F_Tokens) (N := 6) hx hb hts i_Tokens hown hK hP 0 rfl rfl 4 (by decide) (hts _ tw_5) (fun _ h9 => h9) rfl d_Tokens_place_29 ?_
      exact W.iret (v := kl) hx hb hr (fun t ht hW => ⟨⟨kl, (), rfl, by rw [← hres]; simp only [m_Tokens_place, if_neg c_1, if_pos c_2], by rw [ht]; exact hP, va_K.moved hW.alike hK, hD⟩, hS.F ht⟩) hS.2.2 d_Tokens_place_32
    · have q_2 := mt Int32.le_iff_toInt_le.mpr c_2
      refine lv_iload_n hx hb d_Tokens_place_12 rfl (lv_at hl 1 rfl) ?_
      refine lv_sipush (v := 480) hx hb d_Tokens_place_13 (by decide) ?_
      refine lv_icmp_ge (tgt := 28) hx hb d_Tokens_place_16 (by decide) (fun c_3 => ?_) (fun c_3 => ?_)
      · have q_3 := Int32.le_iff_toInt_le.mp c_3
        refine lv_aload_n hx hb d_Tokens_place_28 rfl (lv_at hl 0 rfl) ?_
        refine va_get (D := (dC, dI)) (ci := 1) (v := .int kl) (C := R_Tokens) (T := F_Tokens) (N := 6) hx hb hts i_Tokens hown hK hP 0 rfl rfl 4 (by decide) (hts _ tw_5) (fun _ h9 => h9) rfl d_Tokens_place_29 ?_
        exact W.iret (v := kl) hx hb hr (fun t ht hW => ⟨⟨kl, (), rfl, by rw [← hres]; simp only [m_Tokens_place, if_neg c_1, if_neg c_2, if_pos c_3], by rw [ht]; exact hP, va_K.moved hW.alike hK, hD⟩, hS.F ht⟩) hS.2.2 d_Tokens_place_32
      · have q_3 := mt Int32.le_iff_toInt_le.mpr c_3
        refine lv_aload_n hx hb d_Tokens_place_19 rfl (lv_at hl 0 rfl) ?_
        refine va_get (D := (dC, dI)) (ci := 1) (v := .ref aKp) (C := R_Tokens) (T := F_Tokens) (N := 6) hx hb hts i_Tokens hown hK hP 0 rfl rfl 1 (by decide) (hts _ tw_6) (fun _ h9 => h9) rfl d_Tokens_place_20 ?_
        refine lv_iload_n hx hb d_Tokens_place_23 rfl (lv_at hl 1 rfl) ?_
        refine va_iald hx hb hK hP 2 1 rfl rfl (s_Tokens_place_0 q_1 q_2 q_3) d_Tokens_place_24 ?_
        refine lv_goto (tgt := 32) hx hb d_Tokens_place_25 (by decide) ?_
        exact W.iret (v := (kp i.toNatClampNeg)) hx hb hr (fun t ht hW => ⟨⟨(kp i.toNatClampNeg), (), rfl, by rw [← hres]; simp only [m_Tokens_place, if_neg c_1, if_neg c_2, if_neg c_3], by rw [ht]; exact hP, va_K.moved hW.alike hK, hD⟩, hS.F ht⟩) hS.2.2 d_Tokens_place_32
def m_Tokens_value (kv : Nat → Int64) (kn : Int32) (i : Int32) : Int64 :=
  if i < 0 then
    0
  else
    if kn ≤ i then
      0
    else
      if 480 ≤ i then
        0
      else
        (kv i.toNatClampNeg)
theorem s_Tokens_value_0 {i : Int32} {kn : Int32} (q_1 : ¬ i.toInt < (0 : Int32).toInt) (q_2 : ¬ kn.toInt ≤ i.toInt) (q_3 : ¬ (480 : Int32).toInt ≤ i.toInt) : vp_in i 480 := by rw [vp_in_iff]; have z0 : (0 : Int32).toInt = 0 := (by decide); have z1 : (480 : Int32).toInt = 480 := (by decide); have g0 := gz_r i; have g1 := gz_r kn; omega
set_option maxHeartbeats 4000000 in
set_option maxRecDepth 100000 in
theorem c_Tokens_value (l : Launch) (dC : Nat → ClassId) (dI : Nat → Nat → Nat) (cB cI cJ : ClassId) (aK aKk aKp aKv : Nat) (sz : Nat) (kk : Nat → Int32) (kp : Nat → Int32) (kv : Nat → Int64) (kn : Int32) (kl : Int32) (kx : Int32) (i : Int32) : Met l y_Tokens_value w_Tokens_value ({ frames := 0, cells := 0, slots := 0, locals := 0 }) (va_Pc [.ref aK, .int i] (g_pre dC dI [(cB, .byte), (cI, .int), (cJ, .long)] sz [(aK, .inr (1, [.ref aKk, .ref aKp, .ref aKv, .int kn, .int kl, .int kx])), (aKk, .inl (cI, 480, .inl kk)), (aKp, .inl (cI, 480, .inl kp)), (aKv, .inl (cJ, 480, .inr (.inl kv)))] (fun _ => True))) (va_Ql (fun (r : Int64) (u : Unit) => r = (m_Tokens_value kv kn i)) (fun u => g_post dC dI [(cB, .byte), (cI, .int), (cJ, .long)] (va_A [(aK, .inr (1, [.ref aKk, .ref aKp, .ref aKv, .int kn, .int kl, .int kx])), (aKk, .inl (cI, 480, .inl kk)), (aKp, .inl (cI, 480, .inl kp)), (aKv, .inl (cJ, 480, .inr (.inl kv)))] sz) [(aK, .inr (1, [.ref aKk, .ref aKp, .ref aKv, .int kn, .int kl, .int kx])), (aKk, .inl (cI, 480, .inl kk)), (aKp, .inl (cI, 480, .inl kp)), (aKv, .inl (cJ, 480, .inr (.inl kv)))]) (va_A [(aK, .inr (1, [.ref aKk, .ref aKp, .ref aKv, .int kn, .int kl, .int kx])), (aKk, .inl (cI, 480, .inl kk)), (aKp, .inl (cI, 480, .inl kp)), (aKv, .inl (cJ, 480, .inr (.inl kv)))] sz)) 0 0 (va_A [(aK, .inr (1, [.ref aKk, .ref aKp, .ref aKv, .int kn, .int kl, .int kx])), (aKk, .inl (cI, 480, .inl kk)), (aKp, .inl (cI, 480, .inl kp)), (aKv, .inl (cJ, 480, .inr (.inl kv)))] sz) := by
  refine Met.ofW (cc := b_Tokens_value) (maxL := 2) (ret := (some .long)) (by decide) rfl ?_
  intro p e s m args below meth c s₁ B hml hv
  obtain ⟨rfl, hsz, hP, hK, hD0, hX⟩ := hv
  subst hsz
  have C0 : g_Cx p s m meth c b_Tokens_value 2 (some .long) R_Tokens [.ref aK, .int i].toArray := g_start B hml rfl
  obtain ⟨hx, hb, hml, hr, hown, hts, hlocks⟩ := id C0
  have hD := hD0.self (sz := s.heap.size)
  generalize hAe : va_A [(aK, .inr (1, [.ref aKk, .ref aKp, .ref aKv, .int kn, .int kl, .int kx])), (aKk, .inl (cI, 480, .inl kk)), (aKp, .inl (cI, 480, .inl kp)), (aKv, .inl (cJ, 480, .inr (.inl kv)))] s.heap.size = A at hD ⊢
  generalize hres : (m_Tokens_value kv kn i) = res
  have hA : ∀ q : Nat, s.heap.size ≤ q → A q := fun q h => by rw [← hAe]; exact Or.inr h
  have hS : va_S A s.heap s.heap [] := va_S.rf
  have hl := lv_entry ([.ref aK, .int i]) (n := 2) (Nat.le_of_ble_eq_true rfl)
  rw [lg_entry_eq]
  generalize (lg_sl ([.ref aK, .int i]) ++ List.replicate (2 - (lg_sl ([.ref aK, .int i])).length) Slot.unset).toArray = ls at hl ⊢
  have hl : lv_has ls 2 [(0, .ref aK), (1, .int i)] := hl
  refine lv_iload_n hx hb d_Tokens_value_0 rfl (lv_at hl 1 rfl) ?_
  refine lv_if_lt (tgt := 28) hx hb d_Tokens_value_1 (by decide) (fun c_1 => ?_) (fun c_1 => ?_)
  · have q_1 := Int32.lt_iff_toInt_lt.mp c_1
    refine lv_lconst (v := 0) hx hb d_Tokens_value_28 (by decide) ?_
    exact W.lret (v := 0) hx hb hr (fun t ht hW => ⟨⟨0, (), rfl, by rw [← hres]; simp only [m_Tokens_value, if_pos c_1], by rw [ht]; exact hP, va_K.moved hW.alike hK, hD⟩, hS.F ht⟩) hS.2.2 d_Tokens_value_29
  · have q_1 := mt Int32.lt_iff_toInt_lt.mpr c_1
    refine lv_iload_n hx hb d_Tokens_value_4 rfl (lv_at hl 1 rfl) ?_
    refine lv_aload_n hx hb d_Tokens_value_5 rfl (lv_at hl 0 rfl) ?_
    refine va_get (D := (dC, dI)) (ci := 1) (v := .int kn) (C := R_Tokens) (T := F_Tokens) (N := 6) hx hb hts i_Tokens hown hK hP 0 rfl rfl 3 (by decide) (hts _ tw_3) (fun _ h9 => h9) rfl d_Tokens_value_6 ?_
    refine lv_icmp_ge (tgt := 28) hx hb d_Tokens_value_9 (by decide) (fun c_2 => ?_) (fun c_2 => ?_)
    · have q_2 := Int32.le_iff_toInt_le.mp c_2
      refine lv_lconst (v := 0) hx hb d_Tokens_value_28 (by decide) ?_
      exact W.lret (v := 0) hx hb hr (fun t ht hW => ⟨⟨0, (), rfl, by rw [← hres]; simp only [m_Tokens_value, if_neg c_1, if_pos c_2], by rw [ht]; exact hP, va_K.moved hW.alike hK, hD⟩, hS.F ht⟩) hS.2.2 d_Tokens_value_29
    · have q_2 := mt Int32.le_iff_toInt_le.mpr c_2
      refine lv_iload_n hx hb d_Tokens_value_12 rfl (lv_at hl 1 rfl) ?_
      refine lv_sipush (v := 480) hx hb d_Tokens_value_13 (by decide) ?_
      refine lv_icmp_ge (tgt := 28) hx hb d_Tokens_value_16 (by decide) (fun c_3 => ?_) (fun c_3 => ?_)
      · have q_3 := Int32.le_iff_toInt_le.mp c_3
        refine lv_lconst (v := 0) hx hb d_Tokens_value_28 (by decide) ?_
        exact W.lret (v := 0) hx hb hr (fun t ht hW => ⟨⟨0, (), rfl, by rw [← hres]; simp only [m_Tokens_value, if_neg c_1, if_neg c_2, if_pos c_3], by rw [ht]; exact hP, va_K.moved hW.alike hK, hD⟩, hS.F ht⟩) hS.2.2 d_Tokens_value_29
      · have q_3 := mt Int32.le_iff_toInt_le.mpr c_3
        refine lv_aload_n hx hb d_Tokens_value_19 rfl (lv_at hl 0 rfl) ?_
        refine va_get (D := (dC, dI)) (ci := 1) (v := .ref aKv) (C := R_Tokens) (T := F_Tokens) (N := 6) hx hb hts i_Tokens hown hK hP 0 rfl rfl 2 (by decide) (hts _ tw_7) (fun _ h9 => h9) rfl d_Tokens_value_20 ?_
        refine lv_iload_n hx hb d_Tokens_value_23 rfl (lv_at hl 1 rfl) ?_
        refine va_lald hx hb hK hP 3 2 rfl rfl (s_Tokens_value_0 q_1 q_2 q_3) d_Tokens_value_24 ?_
        refine lv_goto (tgt := 29) hx hb d_Tokens_value_25 (by decide) ?_
        exact W.lret (v := (kv i.toNatClampNeg)) hx hb hr (fun t ht hW => ⟨⟨(kv i.toNatClampNeg), (), rfl, by rw [← hres]; simp only [m_Tokens_value, if_neg c_1, if_neg c_2, if_neg c_3], by rw [ht]; exact hP, va_K.moved hW.alike hK, hD⟩, hS.F ht⟩) hS.2.2 d_Tokens_value_29
def m_Tokens_add (kk : Nat → Int32) (kp : Nat → Int32) (kv : Nat → Int64) (kn : Int32) (kd : Int32) (pl : Int32) (va : Int64) : (Nat → Int32) × (Nat → Int32) × (Nat → Int64) × Int32 :=
  if 480 ≤ kn then
    (kk, kp, kv, kn)
  else
    ((upd kk kn.toNatClampNeg kd), (upd kp kn.toNatClampNeg pl), (vp_updL kv kn.toNatClampNeg va), (kn + 1))
theorem s_Tokens_add_0 {kn : Int32} (q_1 : ¬ (480 : Int32).toInt ≤ kn.toInt) (h_k0 : 0 ≤ kn.toInt) : vp_in kn 480 := by rw [vp_in_iff]; have z0 : (480 : Int32).toInt = 480 := (by decide); have g0 := gz_r kn; omega
theorem s_Tokens_add_1 {kn : Int32} (q_1 : ¬ (480 : Int32).toInt ≤ kn.toInt) (h_k0 : 0 ≤ kn.toInt) : vp_in kn 480 := by rw [vp_in_iff]; have z0 : (480 : Int32).toInt = 480 := (by decide); have g0 := gz_r kn; omega
theorem s_Tokens_add_2 {kn : Int32} (q_1 : ¬ (480 : Int32).toInt ≤ kn.toInt) (h_k0 : 0 ≤ kn.toInt) : vp_in kn 480 := by rw [vp_in_iff]; have z0 : (480 : Int32).toInt = 480 := (by decide); have g0 := gz_r kn; omega
set_option maxHeartbeats 4000000 in
set_option maxRecDepth 100000 in
theorem c_Tokens_add (l : Launch) (dC : Nat → ClassId) (dI : Nat → Nat → Nat) (cB cI cJ : ClassId) (aK aKk aKp aKv : Nat) (sz : Nat) (kk : Nat → Int32) (kp : Nat → Int32) (kv : Nat → Int64) (kn : Int32) (kl : Int32) (kx : Int32) (kd : Int32) (pl : Int32) (va : Int64) (h_k0 : 0 ≤ kn.toInt) : Met l y_Tokens_add w_Tokens_add ({ frames := 0, cells := 0, slots := 0, locals := 0 }) (va_Pc [.ref aK, .int kd, .int pl, .long va] (g_pre dC dI [(cB, .byte), (cI, .int), (cJ, .long)] sz [(aK, .inr (1, [.ref aKk, .ref aKp, .ref aKv, .int kn, .int kl, .int kx])), (aKk, .inl (cI, 480, .inl kk)), (aKp, .inl (cI, 480, .inl kp)), (aKv, .inl (cJ, 480, .inr (.inl kv)))] (fun _ => True))) (va_Qv (fun u : (Nat → Int32) × (Nat → Int32) × (Nat → Int64) × Int32 => u = (m_Tokens_add kk kp kv kn kd pl va)) (fun u => g_post dC dI [(cB, .byte), (cI, .int), (cJ, .long)] (va_A [(aK, .inr (1, [.ref aKk, .ref aKp, .ref aKv, .int kn, .int kl, .int kx])), (aKk, .inl (cI, 480, .inl kk)), (aKp, .inl (cI, 480, .inl kp)), (aKv, .inl (cJ, 480, .inr (.inl kv)))] sz) [(aK, .inr (1, [.ref aKk, .ref aKp, .ref aKv, .int u.2.2.2, .int kl, .int kx])), (aKk, .inl (cI, 480, .inl u.1)), (aKp, .inl (cI, 480, .inl u.2.1)), (aKv, .inl (cJ, 480, .inr (.inl u.2.2.1)))]) (va_A [(aK, .inr (1, [.ref aKk, .ref aKp, .ref aKv, .int kn, .int kl, .int kx])), (aKk, .inl (cI, 480, .inl kk)), (aKp, .inl (cI, 480, .inl kp)), (aKv, .inl (cJ, 480, .inr (.inl kv)))] sz)) 0 0 (va_A [(aK, .inr (1, [.ref aKk, .ref aKp, .ref aKv, .int kn, .int kl, .int kx])), (aKk, .inl (cI, 480, .inl kk)), (aKp, .inl (cI, 480, .inl kp)), (aKv, .inl (cJ, 480, .inr (.inl kv)))] sz) := by
  refine Met.ofW (cc := b_Tokens_add) (maxL := 5) (ret := none) (by decide) rfl ?_
  intro p e s m args below meth c s₁ B hml hv
  obtain ⟨rfl, hsz, hP, hK, hD0, hX⟩ := hv
  subst hsz
  have C0 : g_Cx p s m meth c b_Tokens_add 5 none R_Tokens [.ref aK, .int kd, .int pl, .long va].toArray := g_start B hml rfl
  obtain ⟨hx, hb, hml, hr, hown, hts, hlocks⟩ := id C0
  have hD := hD0.self (sz := s.heap.size)
  generalize hAe : va_A [(aK, .inr (1, [.ref aKk, .ref aKp, .ref aKv, .int kn, .int kl, .int kx])), (aKk, .inl (cI, 480, .inl kk)), (aKp, .inl (cI, 480, .inl kp)), (aKv, .inl (cJ, 480, .inr (.inl kv)))] s.heap.size = A at hD ⊢
  generalize hres : (m_Tokens_add kk kp kv kn kd pl va) = res
  have hA : ∀ q : Nat, s.heap.size ≤ q → A q := fun q h => by rw [← hAe]; exact Or.inr h
  have hS : va_S A s.heap s.heap [] := va_S.rf
  have hl := lv_entry ([.ref aK, .int kd, .int pl, .long va]) (n := 5) (Nat.le_of_ble_eq_true rfl)
  rw [lg_entry_eq]
  generalize (lg_sl ([.ref aK, .int kd, .int pl, .long va]) ++ List.replicate (5 - (lg_sl ([.ref aK, .int kd, .int pl, .long va])).length) Slot.unset).toArray = ls at hl ⊢
  have hl : lv_has ls 5 [(0, .ref aK), (1, .int kd), (2, .int pl), (3, .long va)] := hl
  refine lv_aload_n hx hb d_Tokens_add_0 rfl (lv_at hl 0 rfl) ?_
  refine va_get (D := (dC, dI)) (ci := 1) (v := .int kn) (C := R_Tokens) (T := F_Tokens) (N := 6) hx hb hts i_Tokens hown hK hP 0 rfl rfl 3 (by decide) (hts _ tw_3) (fun _ h9 => h9) rfl d_Tokens_add_1 ?_
  refine lv_sipush (v := 480) hx hb d_Tokens_add_4 (by decide) ?_
  refine lv_icmp_ge (tgt := 50) hx hb d_Tokens_add_7 (by decide) (fun c_1 => ?_) (fun c_1 => ?_)
  · have q_1 := Int32.le_iff_toInt_le.mp c_1
    exact W.vret hx hb hr (fun t ht hW => ⟨⟨(kk, kp, kv, kn), rfl, by rw [← hres]; simp only [m_Tokens_add, if_pos c_1], by rw [ht]; exact hP, va_K.moved hW.alike hK, hD⟩, hS.F ht⟩) hS.2.2 d_Tokens_add_50
  · have q_1 := mt Int32.le_iff_toInt_le.mpr c_1
    refine lv_aload_n hx hb d_Tokens_add_10 rfl (lv_at hl 0 rfl) ?_
    refine va_get (D := (dC, dI)) (ci := 1) (v := .ref aKk) (C := R_Tokens) (T := F_Tokens) (N := 6) hx hb hts i_Tokens hown hK hP 0 rfl rfl 0 (by decide) (hts _ tw_4) (fun _ h9 => h9) rfl d_Tokens_add_11 ?_
    refine lv_aload_n hx hb d_Tokens_add_14 rfl (lv_at hl 0 rfl) ?_
    refine va_get (D := (dC, dI)) (ci := 1) (v := .int kn) (C := R_Tokens) (T := F_Tokens) (N := 6) hx hb hts i_Tokens hown hK hP 0 rfl rfl 3 (by decide) (hts _ tw_3) (fun _ h9 => h9) rfl d_Tokens_add_15 ?_
    refine lv_iload_n hx hb d_Tokens_add_18 rfl (lv_at hl 1 rfl) ?_
    refine va_iast hx hb hK hP hD hS 1 1 rfl rfl (s_Tokens_add_0 q_1 h_k0) d_Tokens_add_19 (fun H locs hP hD hS => ?_)
    have hP : va_P (dC, dI) classes [(aK, .inr (1, [.ref aKk, .ref aKp, .ref aKv, .int kn, .int kl, .int kx])), (aKk, .inl (cI, 480, .inl (upd kk kn.toNatClampNeg kd))), (aKp, .inl (cI, 480, .inl kp)), (aKv, .inl (cJ, 480, .inr (.inl kv)))] H := hP
    have hD : va_D A [(aK, .inr (1, [.ref aKk, .ref aKp, .ref aKv, .int kn, .int kl, .int kx])), (aKk, .inl (cI, 480, .inl (upd kk kn.toNatClampNeg kd))), (aKp, .inl (cI, 480, .inl kp)), (aKv, .inl (cJ, 480, .inr (.inl kv)))] := hD
    refine lv_aload_n hx hb d_Tokens_add_20 rfl (lv_at hl 0 rfl) ?_
    refine va_get (D := (dC, dI)) (ci := 1) (v := .ref aKp) (C := R_Tokens) (T := F_Tokens) (N := 6) hx hb hts i_Tokens hown hK hP 0 rfl rfl 1 (by decide) (hts _ tw_6) (fun _ h9 => h9) rfl d_Tokens_add_21 ?_
    refine lv_aload_n hx hb d_Tokens_add_24 rfl (lv_at hl 0 rfl) ?_
    refine va_get (D := (dC, dI)) (ci := 1) (v := .int kn) (C := R_Tokens) (T := F_Tokens) (N := 6) hx hb hts i_Tokens hown hK hP 0 rfl rfl 3 (by decide) (hts _ tw_3) (fun _ h9 => h9) rfl d_Tokens_add_25 ?_
    refine lv_iload_n hx hb d_Tokens_add_28 rfl (lv_at hl 2 rfl) ?_
    refine va_iast hx hb hK hP hD hS 2 1 rfl rfl (s_Tokens_add_1 q_1 h_k0) d_Tokens_add_29 (fun H locs hP hD hS => ?_)
    have hP : va_P (dC, dI) classes [(aK, .inr (1, [.ref aKk, .ref aKp, .ref aKv, .int kn, .int kl, .int kx])), (aKk, .inl (cI, 480, .inl (upd kk kn.toNatClampNeg kd))), (aKp, .inl (cI, 480, .inl (upd kp kn.toNatClampNeg pl))), (aKv, .inl (cJ, 480, .inr (.inl kv)))] H := hP
    have hD : va_D A [(aK, .inr (1, [.ref aKk, .ref aKp, .ref aKv, .int kn, .int kl, .int kx])), (aKk, .inl (cI, 480, .inl (upd kk kn.toNatClampNeg kd))), (aKp, .inl (cI, 480, .inl (upd kp kn.toNatClampNeg pl))), (aKv, .inl (cJ, 480, .inr (.inl kv)))] := hD
    refine lv_aload_n hx hb d_Tokens_add_30 rfl (lv_at hl 0 rfl) ?_
    refine va_get (D := (dC, dI)) (ci := 1) (v := .ref aKv) (C := R_Tokens) (T := F_Tokens) (N := 6) hx hb hts i_Tokens hown hK hP 0 rfl rfl 2 (by decide) (hts _ tw_7) (fun _ h9 => h9) rfl d_Tokens_add_31 ?_
    refine lv_aload_n hx hb d_Tokens_add_34 rfl (lv_at hl 0 rfl) ?_
    refine va_get (D := (dC, dI)) (ci := 1) (v := .int kn) (C := R_Tokens) (T := F_Tokens) (N := 6) hx hb hts i_Tokens hown hK hP 0 rfl rfl 3 (by decide) (hts _ tw_3) (fun _ h9 => h9) rfl d_Tokens_add_35 ?_
    refine lv_lload_n hx hb d_Tokens_add_38 rfl (lv_at hl 3 rfl) ?_
    refine va_last hx hb hK hP hD hS 3 2 rfl rfl (s_Tokens_add_2 q_1 h_k0) d_Tokens_add_39 (fun H locs hP hD hS => ?_)
    have hP : va_P (dC, dI) classes [(aK, .inr (1, [.ref aKk, .ref aKp, .ref aKv, .int kn, .int kl, .int kx])), (aKk, .inl (cI, 480, .inl (upd kk kn.toNatClampNeg kd))), (aKp, .inl (cI, 480, .inl (upd kp kn.toNatClampNeg pl))), (aKv, .inl (cJ, 480, .inr (.inl (vp_updL kv kn.toNatClampNeg va))))] H := hP
    have hD : va_D A [(aK, .inr (1, [.ref aKk, .ref aKp, .ref aKv, .int kn, .int kl, .int kx])), (aKk, .inl (cI, 480, .inl (upd kk kn.toNatClampNeg kd))), (aKp, .inl (cI, 480, .inl (upd kp kn.toNatClampNeg pl))), (aKv, .inl (cJ, 480, .inr (.inl (vp_updL kv kn.toNatClampNeg va))))] := hD
    refine lv_aload_n hx hb d_Tokens_add_40 rfl (lv_at hl 0 rfl) ?_
    refine lv_dup hx hb d_Tokens_add_41 rfl ?_
    refine va_get (D := (dC, dI)) (ci := 1) (v := .int kn) (C := R_Tokens) (T := F_Tokens) (N := 6) hx hb hts i_Tokens hown hK hP 0 rfl rfl 3 (by decide) (hts _ tw_3) (fun _ h9 => h9) rfl d_Tokens_add_42 ?_
    refine lv_iconst (v := 1) hx hb d_Tokens_add_45 (by decide) ?_
    refine lv_iadd hx hb d_Tokens_add_46 ?_
    refine va_put (D := (dC, dI)) (ci := 1) (v := .int (kn + 1)) (ty := .int) (C := R_Tokens) (T := F_Tokens) (N := 6) hx hb hts i_Tokens t_Tokens t_Tokens_ok n_Tokens hown hK hP hD hS 0 rfl rfl 3 (by decide) (hts _ tw_3) (fun _ h9 => h9) rfl (by decide +kernel) rfl rfl (Nat.le_of_ble_eq_true rfl) d_Tokens_add_47 (fun H locs hP hD hS => ?_)
    have hP : va_P (dC, dI) classes [(aK, .inr (1, [.ref aKk, .ref aKp, .ref aKv, .int (kn + 1), .int kl, .int kx])), (aKk, .inl (cI, 480, .inl (upd kk kn.toNatClampNeg kd))), (aKp, .inl (cI, 480, .inl (upd kp kn.toNatClampNeg pl))), (aKv, .inl (cJ, 480, .inr (.inl (vp_updL kv kn.toNatClampNeg va))))] H := hP
    have hD : va_D A [(aK, .inr (1, [.ref aKk, .ref aKp, .ref aKv, .int (kn + 1), .int kl, .int kx])), (aKk, .inl (cI, 480, .inl (upd kk kn.toNatClampNeg kd))), (aKp, .inl (cI, 480, .inl (upd kp kn.toNatClampNeg pl))), (aKv, .inl (cJ, 480, .inr (.inl (vp_updL kv kn.toNatClampNeg va))))] := hD
    exact W.vret hx hb hr (fun t ht hW => ⟨⟨((upd kk kn.toNatClampNeg kd), (upd kp kn.toNatClampNeg pl), (vp_updL kv kn.toNatClampNeg va), (kn + 1)), rfl, by rw [← hres]; simp only [m_Tokens_add, if_neg c_1], by rw [ht]; exact hP, va_K.moved hW.alike hK, hD⟩, hS.F ht⟩) hS.2.2 d_Tokens_add_50
theorem v_Tokens_add {u1 u2 : Nat → Int32} {u3 : Nat → Int64} {u4 : Int32} {kk kp : Nat → Int32} {kv : Nat → Int64} {kn kd pl : Int32} {va : Int64} (hw : (u1, u2, u3, u4) = m_Tokens_add kk kp kv kn kd pl va) (h : 0 ≤ kn.toInt) : 0 ≤ u4.toInt := by
  unfold m_Tokens_add at hw
  have z : (480 : Int32).toInt = 480 := rfl
  have o : (1 : Int32).toInt = 1 := rfl
  split at hw
  · simp only [Prod.mk.injEq] at hw
    rw [hw.2.2.2]; exact h
  · rename_i c
    simp only [Prod.mk.injEq] at hw
    rw [hw.2.2.2]
    have q := mt Int32.le_iff_toInt_le.mpr c
    have a := gz_a kn 1 (by omega) (by omega)
    omega
def m_Tokens_scanName_L7 (kl : Int32) (tc : Nat → Int32) (tn : Int32) : Nat → Int32 → Int64 → (Nat → Int32) → (Nat → Int32) → (Nat → Int64) → Int32 → Int32 → (Nat → Int32) × (Nat → Int32) × (Nat → Int64) × Int32 × Int32
  | 0, x2, x3, kk, kp, kv, kn, kx => (kk, kp, kv, kn, kx)
  | n + 1, x2, x3, kk, kp, kv, kn, kx =>
    if kl ≤ kx then
      if 6 < (kx - x2) then
        match m_Tokens_add kk kp kv kn 1 x2 x3 with
        | (u3_kk, u3_kp, u3_kv, u3_kn) =>
        (u3_kk, u3_kp, u3_kv, u3_kn, kx)
      else
        match m_Tokens_add kk kp kv kn 2 x2 x3 with
        | (u4_kk, u4_kp, u4_kv, u4_kn) =>
        (u4_kk, u4_kp, u4_kv, u4_kn, kx)
    else
      if (m_Tokens_isLetter (m_Tape_at tc tn kx)) = 0 then
        if (m_Tokens_isDigit (m_Tape_at tc tn kx)) = 0 then
          if 6 < (kx - x2) then
            match m_Tokens_add kk kp kv kn 1 x2 x3 with
            | (u13_kk, u13_kp, u13_kv, u13_kn) =>
            (u13_kk, u13_kp, u13_kv, u13_kn, kx)
          else
            match m_Tokens_add kk kp kv kn 2 x2 x3 with
            | (u14_kk, u14_kp, u14_kv, u14_kn) =>
            (u14_kk, u14_kp, u14_kv, u14_kn, kx)
        else
          m_Tokens_scanName_L7 kl tc tn n x2 (((x3 <<< ((8 : Int32).toInt64 &&& 63))) ||| ((m_Tape_at tc tn kx).toInt64)) kk kp kv kn (kx + 1)
      else
        m_Tokens_scanName_L7 kl tc tn n x2 (((x3 <<< ((8 : Int32).toInt64 &&& 63))) ||| ((m_Tape_at tc tn kx).toInt64)) kk kp kv kn (kx + 1)
theorem s_Tokens_scanName_0 {kn : Int32} {kl : Int32} {kx : Int32} {x2 : Int32} {tn : Int32} {n : Nat} (q_1 : kl.toInt ≤ kx.toInt) (q_2 : (6 : Int32).toInt < (kx - x2).toInt) (h_t0 : 0 ≤ tn.toInt) (h_t1 : tn.toInt ≤ 480) (hm : (kl.toInt - kx.toInt).toNat < n + 1) : 0 ≤ kn.toInt := by have z0 : (6 : Int32).toInt = 6 := (by decide); have g0 := gz_r kn; have g1 := gz_r kl; have g2 := gz_r kx; have g3 := gz_r x2; have g4 := gz_r tn; omega
theorem s_Tokens_scanName_1 {kn : Int32} {kl : Int32} {kx : Int32} {x2 : Int32} {tn : Int32} {n : Nat} (q_1 : kl.toInt ≤ kx.toInt) (q_2 : (6 : Int32).toInt < (kx - x2).toInt) (h_t0 : 0 ≤ tn.toInt) (h_t1 : tn.toInt ≤ 480) (hm : (kl.toInt - kx.toInt).toNat < n + 1) : 0 ≤ kn.toInt := by have z0 : (6 : Int32).toInt = 6 := (by decide); have g0 := gz_r kn; have g1 := gz_r kl; have g2 := gz_r kx; have g3 := gz_r x2; have g4 := gz_r tn; omega
theorem s_Tokens_scanName_2 {kn : Int32} {kl : Int32} {kx : Int32} {x2 : Int32} {tn : Int32} {n : Nat} (q_1 : kl.toInt ≤ kx.toInt) (q_2 : ¬ (6 : Int32).toInt < (kx - x2).toInt) (h_t0 : 0 ≤ tn.toInt) (h_t1 : tn.toInt ≤ 480) (hm : (kl.toInt - kx.toInt).toNat < n + 1) : 0 ≤ kn.toInt := by have z0 : (6 : Int32).toInt = 6 := (by decide); have g0 := gz_r kn; have g1 := gz_r kl; have g2 := gz_r kx; have g3 := gz_r x2; have g4 := gz_r tn; omega
theorem s_Tokens_scanName_3 {kn : Int32} {kl : Int32} {kx : Int32} {x2 : Int32} {tn : Int32} {n : Nat} (q_1 : kl.toInt ≤ kx.toInt) (q_2 : ¬ (6 : Int32).toInt < (kx - x2).toInt) (h_t0 : 0 ≤ tn.toInt) (h_t1 : tn.toInt ≤ 480) (hm : (kl.toInt - kx.toInt).toNat < n + 1) : 0 ≤ kn.toInt := by have z0 : (6 : Int32).toInt = 6 := (by decide); have g0 := gz_r kn; have g1 := gz_r kl; have g2 := gz_r kx; have g3 := gz_r x2; have g4 := gz_r tn; omega
theorem s_Tokens_scanName_4 {tn : Int32} {kl : Int32} {kx : Int32} {n : Nat} (q_1 : ¬ kl.toInt ≤ kx.toInt) (h_t0 : 0 ≤ tn.toInt) (h_t1 : tn.toInt ≤ 480) (hm : (kl.toInt - kx.toInt).toNat < n + 1) : 0 ≤ tn.toInt := by have g0 := gz_r tn; have g1 := gz_r kl; have g2 := gz_r kx; omega
theorem s_Tokens_scanName_5 {tn : Int32} {kl : Int32} {kx : Int32} {n : Nat} (q_1 : ¬ kl.toInt ≤ kx.toInt) (h_t0 : 0 ≤ tn.toInt) (h_t1 : tn.toInt ≤ 480) (hm : (kl.toInt - kx.toInt).toNat < n + 1) : tn.toInt ≤ 480 := by have g0 := gz_r tn; have g1 := gz_r kl; have g2 := gz_r kx; omega
theorem s_Tokens_scanName_6 {tn : Int32} {kl : Int32} {kx : Int32} {tc : Nat → Int32} {n : Nat} (q_1 : ¬ kl.toInt ≤ kx.toInt) (q_7 : ¬ (m_Tokens_isLetter (m_Tape_at tc tn kx)).toInt = (0 : Int32).toInt) (h_t0 : 0 ≤ tn.toInt) (h_t1 : tn.toInt ≤ 480) (hm : (kl.toInt - kx.toInt).toNat < n + 1) : 0 ≤ tn.toInt := by have z0 : (0 : Int32).toInt = 0 := (by decide); have g0 := gz_r tn; have g1 := gz_r kl; have g2 := gz_r kx; omega
theorem s_Tokens_scanName_7 {tn : Int32} {kl : Int32} {kx : Int32} {tc : Nat → Int32} {n : Nat} (q_1 : ¬ kl.toInt ≤ kx.toInt) (q_7 : ¬ (m_Tokens_isLetter (m_Tape_at tc tn kx)).toInt = (0 : Int32).toInt) (h_t0 : 0 ≤ tn.toInt) (h_t1 : tn.toInt ≤ 480) (hm : (kl.toInt - kx.toInt).toNat < n + 1) : tn.toInt ≤ 480 := by have z0 : (0 : Int32).toInt = 0 := (by decide); have g0 := gz_r tn; have g1 := gz_r kl; have g2 := gz_r kx; omega
theorem s_Tokens_scanName_8 {kl : Int32} {kx : Int32} {n : Nat} {tc : Nat → Int32} {tn : Int32} (q_1 : ¬ kl.toInt ≤ kx.toInt) (q_7 : ¬ (m_Tokens_isLetter (m_Tape_at tc tn kx)).toInt = (0 : Int32).toInt) (h_t0 : 0 ≤ tn.toInt) (h_t1 : tn.toInt ≤ 480) (hm : (kl.toInt - kx.toInt).toNat < n + 1) : (kl.toInt - (kx + 1).toInt).toNat < n := by have z0 : (0 : Int32).toInt = 0 := (by decide); have z1 : (1 : Int32).toInt = 1 := (by decide); have g0 := gz_r kl; have g1 := gz_r kx; have g4 := gz_r tn; have a0 := gz_a kx 1 (by omega) (by omega); omega
theorem s_Tokens_scanName_9 {tn : Int32} {kl : Int32} {kx : Int32} {tc : Nat → Int32} {n : Nat} (q_1 : ¬ kl.toInt ≤ kx.toInt) (q_7 : (m_Tokens_isLetter (m_Tape_at tc tn kx)).toInt = (0 : Int32).toInt) (h_t0 : 0 ≤ tn.toInt) (h_t1 : tn.toInt ≤ 480) (hm : (kl.toInt - kx.toInt).toNat < n + 1) : 0 ≤ tn.toInt := by have z0 : (0 : Int32).toInt = 0 := (by decide); have g0 := gz_r tn; have g1 := gz_r kl; have g2 := gz_r kx; omega
theorem s_Tokens_scanName_10 {tn : Int32} {kl : Int32} {kx : Int32} {tc : Nat → Int32} {n : Nat} (q_1 : ¬ kl.toInt ≤ kx.toInt) (q_7 : (m_Tokens_isLetter (m_Tape_at tc tn kx)).toInt = (0 : Int32).toInt) (h_t0 : 0 ≤ tn.toInt) (h_t1 : tn.toInt ≤ 480) (hm : (kl.toInt - kx.toInt).toNat < n + 1) : tn.toInt ≤ 480 := by have z0 : (0 : Int32).toInt = 0 := (by decide); have g0 := gz_r tn; have g1 := gz_r kl; have g2 := gz_r kx; omega
theorem s_Tokens_scanName_11 {kn : Int32} {kl : Int32} {kx : Int32} {tc : Nat → Int32} {tn : Int32} {x2 : Int32} {n : Nat} (q_1 : ¬ kl.toInt ≤ kx.toInt) (q_7 : (m_Tokens_isLetter (m_Tape_at tc tn kx)).toInt = (0 : Int32).toInt) (q_11 : (m_Tokens_isDigit (m_Tape_at tc tn kx)).toInt = (0 : Int32).toInt) (q_12 : (6 : Int32).toInt < (kx - x2).toInt) (h_t0 : 0 ≤ tn.toInt) (h_t1 : tn.toInt ≤ 480) (hm : (kl.toInt - kx.toInt).toNat < n + 1) : 0 ≤ kn.toInt := by have z0 : (0 : Int32).toInt = 0 := (by decide); have z1 : (6 : Int32).toInt = 6 := (by decide); have g0 := gz_r kn; have g1 := gz_r kl; have g2 := gz_r kx; have g4 := gz_r tn; have g5 := gz_r x2; omega
theorem s_Tokens_scanName_12 {kn : Int32} {kl : Int32} {kx : Int32} {tc : Nat → Int32} {tn : Int32} {x2 : Int32} {n : Nat} (q_1 : ¬ kl.toInt ≤ kx.toInt) (q_7 : (m_Tokens_isLetter (m_Tape_at tc tn kx)).toInt = (0 : Int32).toInt) (q_11 : (m_Tokens_isDigit (m_Tape_at tc tn kx)).toInt = (0 : Int32).toInt) (q_12 : (6 : Int32).toInt < (kx - x2).toInt) (h_t0 : 0 ≤ tn.toInt) (h_t1 : tn.toInt ≤ 480) (hm : (kl.toInt - kx.toInt).toNat < n + 1) : 0 ≤ kn.toInt := by have z0 : (0 : Int32).toInt = 0 := (by decide); have z1 : (6 : Int32).toInt = 6 := (by decide); have g0 := gz_r kn; have g1 := gz_r kl; have g2 := gz_r kx; have g4 := gz_r tn; have g5 := gz_r x2; omega
theorem s_Tokens_scanName_13 {kn : Int32} {kl : Int32} {kx : Int32} {tc : Nat → Int32} {tn : Int32} {x2 : Int32} {n : Nat} (q_1 : ¬ kl.toInt ≤ kx.toInt) (q_7 : (m_Tokens_isLetter (m_Tape_at tc tn kx)).toInt = (0 : Int32).toInt) (q_11 : (m_Tokens_isDigit (m_Tape_at tc tn kx)).toInt = (0 : Int32).toInt) (q_12 : ¬ (6 : Int32).toInt < (kx - x2).toInt) (h_t0 : 0 ≤ tn.toInt) (h_t1 : tn.toInt ≤ 480) (hm : (kl.toInt - kx.toInt).toNat < n + 1) : 0 ≤ kn.toInt := by have z0 : (0 : Int32).toInt = 0 := (by decide); have z1 : (6 : Int32).toInt = 6 := (by decide); have g0 := gz_r kn; have g1 := gz_r kl; have g2 := gz_r kx; have g4 := gz_r tn; have g5 := gz_r x2; omega
theorem s_Tokens_scanName_14 {kn : Int32} {kl : Int32} {kx : Int32} {tc : Nat → Int32} {tn : Int32} {x2 : Int32} {n : Nat} (q_1 : ¬ kl.toInt ≤ kx.toInt) (q_7 : (m_Tokens_isLetter (m_Tape_at tc tn kx)).toInt = (0 : Int32).toInt) (q_11 : (m_Tokens_isDigit (m_Tape_at tc tn kx)).toInt = (0 : Int32).toInt) (q_12 : ¬ (6 : Int32).toInt < (kx - x2).toInt) (h_t0 : 0 ≤ tn.toInt) (h_t1 : tn.toInt ≤ 480) (hm : (kl.toInt - kx.toInt).toNat < n + 1) : 0 ≤ kn.toInt := by have z0 : (0 : Int32).toInt = 0 := (by decide); have z1 : (6 : Int32).toInt = 6 := (by decide); have g0 := gz_r kn; have g1 := gz_r kl; have g2 := gz_r kx; have g4 := gz_r tn; have g5 := gz_r x2; omega
theorem s_Tokens_scanName_15 {tn : Int32} {kl : Int32} {kx : Int32} {tc : Nat → Int32} {n : Nat} (q_1 : ¬ kl.toInt ≤ kx.toInt) (q_7 : (m_Tokens_isLetter (m_Tape_at tc tn kx)).toInt = (0 : Int32).toInt) (q_11 : ¬ (m_Tokens_isDigit (m_Tape_at tc tn kx)).toInt = (0 : Int32).toInt) (h_t0 : 0 ≤ tn.toInt) (h_t1 : tn.toInt ≤ 480) (hm : (kl.toInt - kx.toInt).toNat < n + 1) : 0 ≤ tn.toInt := by have z0 : (0 : Int32).toInt = 0 := (by decide); have g0 := gz_r tn; have g1 := gz_r kl; have g2 := gz_r kx; omega
theorem s_Tokens_scanName_16 {tn : Int32} {kl : Int32} {kx : Int32} {tc : Nat → Int32} {n : Nat} (q_1 : ¬ kl.toInt ≤ kx.toInt) (q_7 : (m_Tokens_isLetter (m_Tape_at tc tn kx)).toInt = (0 : Int32).toInt) (q_11 : ¬ (m_Tokens_isDigit (m_Tape_at tc tn kx)).toInt = (0 : Int32).toInt) (h_t0 : 0 ≤ tn.toInt) (h_t1 : tn.toInt ≤ 480) (hm : (kl.toInt - kx.toInt).toNat < n + 1) : tn.toInt ≤ 480 := by have z0 : (0 : Int32).toInt = 0 := (by decide); have g0 := gz_r tn; have g1 := gz_r kl; have g2 := gz_r kx; omega
theorem s_Tokens_scanName_17 {kl : Int32} {kx : Int32} {n : Nat} {tc : Nat → Int32} {tn : Int32} (q_1 : ¬ kl.toInt ≤ kx.toInt) (q_7 : (m_Tokens_isLetter (m_Tape_at tc tn kx)).toInt = (0 : Int32).toInt) (q_11 : ¬ (m_Tokens_isDigit (m_Tape_at tc tn kx)).toInt = (0 : Int32).toInt) (h_t0 : 0 ≤ tn.toInt) (h_t1 : tn.toInt ≤ 480) (hm : (kl.toInt - kx.toInt).toNat < n + 1) : (kl.toInt - (kx + 1).toInt).toNat < n := by have z0 : (0 : Int32).toInt = 0 := (by decide); have z1 : (1 : Int32).toInt = 1 := (by decide); have g0 := gz_r kl; have g1 := gz_r kx; have g4 := gz_r tn; have a0 := gz_a kx 1 (by omega) (by omega); omega
set_option maxHeartbeats 4000000 in
set_option maxRecDepth 100000 in
theorem L_Tokens_scanName_7 {p : Program} {l : Launch} {e : Env} {s : State} {m : MethodId} {below : List Frame} {meth : Method} {c : Code} {dC : Nat → ClassId} {dI : Nat → Nat → Nat} {cB cI cJ : ClassId} {aK aKk aKp aKv aT aTc : Nat} {kl : Int32} {tc : Nat → Int32} {tn : Int32} {A : Nat → Prop} (C0 : g_Cx p s m meth c b_Tokens_scanName 5 none R_Tokens [.ref aK, .ref aT].toArray) (hK : va_K (dC, dI) classes [(cB, .byte), (cI, .int), (cJ, .long)] s) (hA : ∀ q : Nat, s.heap.size ≤ q → A q) (h_t0 : 0 ≤ tn.toInt) (h_t1 : tn.toInt ≤ 480) {res : (Nat → Int32) × (Nat → Int32) × (Nat → Int64) × Int32 × Int32} :
    ∀ (n : Nat) (x2 : Int32) (x3 : Int64) (kk : Nat → Int32) (kp : Nat → Int32) (kv : Nat → Int64) (kn : Int32) (kx : Int32), ((kl.toInt - kx.toInt).toNat) < n → m_Tokens_scanName_L7 kl tc tn n x2 x3 kk kp kv kn kx = res → ∀ (H : Heap) (locs : List Loc) (ls : Array Slot), va_P (dC, dI) classes [(aK, .inr (1, [.ref aKk, .ref aKp, .ref aKv, .int kn, .int kl, .int kx])), (aKk, .inl (cI, 480, .inl kk)), (aKp, .inl (cI, 480, .inl kp)), (aKv, .inl (cJ, 480, .inr (.inl kv))), (aT, .inr (0, [.ref aTc, .int tn])), (aTc, .inl (cB, 480, .inl tc))] H → va_D A [(aK, .inr (1, [.ref aKk, .ref aKp, .ref aKv, .int kn, .int kl, .int kx])), (aKk, .inl (cI, 480, .inl kk)), (aKp, .inl (cI, 480, .inl kp)), (aKv, .inl (cJ, 480, .inr (.inl kv))), (aT, .inr (0, [.ref aTc, .int tn])), (aTc, .inl (cB, 480, .inl tc))] → va_S A s.heap H locs → lv_has ls 5 [(3, .long x3), (2, .int x2), (0, .ref aK), (1, .ref aT)] → W p l e ({ frames := 1, cells := 0, slots := 0, locals := 24 }) s m [.ref aK, .ref aT].toArray below meth c H locs 0 0 (MQ below (va_Qv (fun u : (Nat → Int32) × (Nat → Int32) × (Nat → Int64) × Int32 × Int32 => u = res) (fun u => g_post dC dI [(cB, .byte), (cI, .int), (cJ, .long)] (A) [(aK, .inr (1, [.ref aKk, .ref aKp, .ref aKv, .int u.2.2.2.1, .int kl, .int u.2.2.2.2])), (aKk, .inl (cI, 480, .inl u.1)), (aKp, .inl (cI, 480, .inl u.2.1)), (aKv, .inl (cJ, 480, .inr (.inl u.2.2.1))), (aT, .inr (0, [.ref aTc, .int tn])), (aTc, .inl (cB, 480, .inl tc))]) (A)) [.ref aK, .ref aT].toArray s 0 0 A) (F0 m 7 ls []) := by
  obtain ⟨hx, hb, hml, hr, hown, hts, hlocks⟩ := id C0
  intro n
  induction n with
  | zero => intro x2 x3 kk kp kv kn kx hm; exact absurd hm (Nat.not_lt_zero _)
  | succ n ih =>
    intro x2 x3 kk kp kv kn kx hm  hres H locs ls hP hD hS hl
    refine lv_aload_n hx hb d_Tokens_scanName_7 rfl (lv_at hl 2 rfl) ?_
    refine va_get (D := (dC, dI)) (ci := 1) (v := .int kx) (C := R_Tokens) (T := F_Tokens) (N := 6) hx hb hts i_Tokens hown hK hP 0 rfl rfl 5 (by decide) (hts _ tw_8) (fun _ h9 => h9) rfl d_Tokens_scanName_8 ?_
    refine lv_aload_n hx hb d_Tokens_scanName_11 rfl (lv_at hl 2 rfl) ?_
    refine va_get (D := (dC, dI)) (ci := 1) (v := .int kl) (C := R_Tokens) (T := F_Tokens) (N := 6) hx hb hts i_Tokens hown hK hP 0 rfl rfl 4 (by decide) (hts _ tw_5) (fun _ h9 => h9) rfl d_Tokens_scanName_12 ?_
    refine lv_icmp_ge (tgt := 74) hx hb d_Tokens_scanName_15 (by decide) (fun c_1 => ?_) (fun c_1 => ?_)
    · have q_1 := Int32.le_iff_toInt_le.mp c_1
      refine lv_aload_n hx hb d_Tokens_scanName_74 rfl (lv_at hl 2 rfl) ?_
      refine lv_aload_n hx hb d_Tokens_scanName_75 rfl (lv_at hl 2 rfl) ?_
      refine va_get (D := (dC, dI)) (ci := 1) (v := .int kx) (C := R_Tokens) (T := F_Tokens) (N := 6) hx hb hts i_Tokens hown hK hP 0 rfl rfl 5 (by decide) (hts _ tw_8) (fun _ h9 => h9) rfl d_Tokens_scanName_76 ?_
      refine lv_iload_n hx hb d_Tokens_scanName_79 rfl (lv_at hl 1 rfl) ?_
      refine lv_isub hx hb d_Tokens_scanName_80 ?_
      refine lv_bipush (v := 6) hx hb d_Tokens_scanName_81 (by decide) ?_
      refine lv_icmp_gt (tgt := 90) hx hb d_Tokens_scanName_83 (by decide) (fun c_2 => ?_) (fun c_2 => ?_)
      · have q_2 := Int32.lt_iff_toInt_lt.mp c_2
        refine lv_iconst (v := 1) hx hb d_Tokens_scanName_90 (by decide) ?_
        refine lv_iload_n hx hb d_Tokens_scanName_91 rfl (lv_at hl 1 rfl) ?_
        refine lv_lload_n hx hb d_Tokens_scanName_92 rfl (lv_at hl 0 rfl) ?_
        refine gk_v (isC := [0, 1, 2, 3]) (isR := [4, 5]) (perm := [2, 3, 4, 5, 0, 1]) (wr := [(aT, .inr (0, [.ref aTc, .int tn])), (aTc, .inl (cB, 480, .inl tc))]) (can := fun u => [(aK, .inr (1, [.ref aKk, .ref aKp, .ref aKv, .int u.2.2.2, .int kl, .int kx])), (aKk, .inl (cI, 480, .inl u.1)), (aKp, .inl (cI, 480, .inl u.2.1)), (aKv, .inl (cJ, 480, .inr (.inl u.2.2.1))), (aT, .inr (0, [.ref aTc, .int tn])), (aTc, .inl (cB, 480, .inl tc))]) (gr_V C0 (c_Tokens_add l dC dI cB cI cJ aK aKk aKp aKv _ kk kp kv kn kl kx 1 x2 x3 (s_Tokens_scanName_0 q_1 q_2 h_t0 h_t1 hm)) cs_Tokens_57 hK hP hD [0, 1, 2, 3] rfl (by decide) g_tb g_tx (ci := 1) (k := 0) rfl rfl rfl rfl hl.1 rfl (lv_room (Nat.le_of_ble_eq_true rfl)) d_Tokens_scanName_93 ⟨Nat.le_of_ble_eq_true rfl, Nat.le_of_ble_eq_true rfl⟩ ⟨Nat.le_of_ble_eq_true rfl, Nat.le_of_ble_eq_true rfl⟩) hP hD hS hA rfl rfl (by decide) (by decide) (by decide) (fun _ => rfl) (fun u_3 H locs hw_3 hP hD hS => ?_)
        obtain ⟨u3_kk, u3_kp, u3_kv, u3_kn⟩ := u_3
        have hP : va_P (dC, dI) classes [(aK, .inr (1, [.ref aKk, .ref aKp, .ref aKv, .int u3_kn, .int kl, .int kx])), (aKk, .inl (cI, 480, .inl u3_kk)), (aKp, .inl (cI, 480, .inl u3_kp)), (aKv, .inl (cJ, 480, .inr (.inl u3_kv))), (aT, .inr (0, [.ref aTc, .int tn])), (aTc, .inl (cB, 480, .inl tc))] H := hP
        have hD : va_D A [(aK, .inr (1, [.ref aKk, .ref aKp, .ref aKv, .int u3_kn, .int kl, .int kx])), (aKk, .inl (cI, 480, .inl u3_kk)), (aKp, .inl (cI, 480, .inl u3_kp)), (aKv, .inl (cJ, 480, .inr (.inl u3_kv))), (aT, .inr (0, [.ref aTc, .int tn])), (aTc, .inl (cB, 480, .inl tc))] := hD
        have v0_3 := v_Tokens_add hw_3 (s_Tokens_scanName_1 q_1 q_2 h_t0 h_t1 hm)
        exact W.vret hx hb hr (fun t ht hW => ⟨⟨(u3_kk, u3_kp, u3_kv, u3_kn, kx), rfl, by rw [← hres]; simp only [m_Tokens_scanName_L7, if_pos c_1, if_pos c_2, ← hw_3], by rw [ht]; exact hP, va_K.moved hW.alike hK, hD⟩, hS.F ht⟩) hS.2.2 d_Tokens_scanName_96
      · have q_2 := mt Int32.lt_iff_toInt_lt.mpr c_2
        refine lv_iconst (v := 2) hx hb d_Tokens_scanName_86 (by decide) ?_
        refine lv_goto (tgt := 91) hx hb d_Tokens_scanName_87 (by decide) ?_
        refine lv_iload_n hx hb d_Tokens_scanName_91 rfl (lv_at hl 1 rfl) ?_
        refine lv_lload_n hx hb d_Tokens_scanName_92 rfl (lv_at hl 0 rfl) ?_
        refine gk_v (isC := [0, 1, 2, 3]) (isR := [4, 5]) (perm := [2, 3, 4, 5, 0, 1]) (wr := [(aT, .inr (0, [.ref aTc, .int tn])), (aTc, .inl (cB, 480, .inl tc))]) (can := fun u => [(aK, .inr (1, [.ref aKk, .ref aKp, .ref aKv, .int u.2.2.2, .int kl, .int kx])), (aKk, .inl (cI, 480, .inl u.1)), (aKp, .inl (cI, 480, .inl u.2.1)), (aKv, .inl (cJ, 480, .inr (.inl u.2.2.1))), (aT, .inr (0, [.ref aTc, .int tn])), (aTc, .inl (cB, 480, .inl tc))]) (gr_V C0 (c_Tokens_add l dC dI cB cI cJ aK aKk aKp aKv _ kk kp kv kn kl kx 2 x2 x3 (s_Tokens_scanName_2 q_1 q_2 h_t0 h_t1 hm)) cs_Tokens_57 hK hP hD [0, 1, 2, 3] rfl (by decide) g_tb g_tx (ci := 1) (k := 0) rfl rfl rfl rfl hl.1 rfl (lv_room (Nat.le_of_ble_eq_true rfl)) d_Tokens_scanName_93 ⟨Nat.le_of_ble_eq_true rfl, Nat.le_of_ble_eq_true rfl⟩ ⟨Nat.le_of_ble_eq_true rfl, Nat.le_of_ble_eq_true rfl⟩) hP hD hS hA rfl rfl (by decide) (by decide) (by decide) (fun _ => rfl) (fun u_4 H locs hw_4 hP hD hS => ?_)
        obtain ⟨u4_kk, u4_kp, u4_kv, u4_kn⟩ := u_4
        have hP : va_P (dC, dI) classes [(aK, .inr (1, [.ref aKk, .ref aKp, .ref aKv, .int u4_kn, .int kl, .int kx])), (aKk, .inl (cI, 480, .inl u4_kk)), (aKp, .inl (cI, 480, .inl u4_kp)), (aKv, .inl (cJ, 480, .inr (.inl u4_kv))), (aT, .inr (0, [.ref aTc, .int tn])), (aTc, .inl (cB, 480, .inl tc))] H := hP
        have hD : va_D A [(aK, .inr (1, [.ref aKk, .ref aKp, .ref aKv, .int u4_kn, .int kl, .int kx])), (aKk, .inl (cI, 480, .inl u4_kk)), (aKp, .inl (cI, 480, .inl u4_kp)), (aKv, .inl (cJ, 480, .inr (.inl u4_kv))), (aT, .inr (0, [.ref aTc, .int tn])), (aTc, .inl (cB, 480, .inl tc))] := hD
        have v0_4 := v_Tokens_add hw_4 (s_Tokens_scanName_3 q_1 q_2 h_t0 h_t1 hm)
        exact W.vret hx hb hr (fun t ht hW => ⟨⟨(u4_kk, u4_kp, u4_kv, u4_kn, kx), rfl, by rw [← hres]; simp only [m_Tokens_scanName_L7, if_pos c_1, if_neg c_2, ← hw_4], by rw [ht]; exact hP, va_K.moved hW.alike hK, hD⟩, hS.F ht⟩) hS.2.2 d_Tokens_scanName_96
    · have q_1 := mt Int32.le_iff_toInt_le.mpr c_1
      refine lv_aload_n hx hb d_Tokens_scanName_18 rfl (lv_at hl 3 rfl) ?_
      refine lv_aload_n hx hb d_Tokens_scanName_19 rfl (lv_at hl 2 rfl) ?_
      refine va_get (D := (dC, dI)) (ci := 1) (v := .int kx) (C := R_Tokens) (T := F_Tokens) (N := 6) hx hb hts i_Tokens hown hK hP 0 rfl rfl 5 (by decide) (hts _ tw_8) (fun _ h9 => h9) rfl d_Tokens_scanName_20 ?_
      refine gk_i (isC := [4, 5]) (isR := [0, 1, 2, 3]) (perm := [0, 1, 2, 3, 4, 5]) (wr := [(aK, .inr (1, [.ref aKk, .ref aKp, .ref aKv, .int kn, .int kl, .int kx])), (aKk, .inl (cI, 480, .inl kk)), (aKp, .inl (cI, 480, .inl kp)), (aKv, .inl (cJ, 480, .inr (.inl kv)))]) (can := fun u => [(aK, .inr (1, [.ref aKk, .ref aKp, .ref aKv, .int kn, .int kl, .int kx])), (aKk, .inl (cI, 480, .inl kk)), (aKp, .inl (cI, 480, .inl kp)), (aKv, .inl (cJ, 480, .inr (.inl kv))), (aT, .inr (0, [.ref aTc, .int tn])), (aTc, .inl (cB, 480, .inl tc))]) (gr_V C0 (c_Tape_at l dC dI cB cI cJ aT aTc _ tc tn kx (s_Tokens_scanName_4 q_1 h_t0 h_t1 hm) (s_Tokens_scanName_5 q_1 h_t0 h_t1 hm)) cs_Tokens_36 hK hP hD [4, 5] rfl (by decide) g_tb g_tx (ci := 0) (k := 0) rfl rfl rfl rfl hl.1 rfl (lv_room (Nat.le_of_ble_eq_true rfl)) d_Tokens_scanName_23 ⟨Nat.le_of_ble_eq_true rfl, Nat.le_of_ble_eq_true rfl⟩ ⟨Nat.le_of_ble_eq_true rfl, Nat.le_of_ble_eq_true rfl⟩) hP hD hS hA rfl rfl (by decide) (by decide) (by decide) (fun _ => rfl) (fun r_5 u_5 H locs hw_5 hP hD hS => ?_)
      subst hw_5
      have hP : va_P (dC, dI) classes [(aK, .inr (1, [.ref aKk, .ref aKp, .ref aKv, .int kn, .int kl, .int kx])), (aKk, .inl (cI, 480, .inl kk)), (aKp, .inl (cI, 480, .inl kp)), (aKv, .inl (cJ, 480, .inr (.inl kv))), (aT, .inr (0, [.ref aTc, .int tn])), (aTc, .inl (cB, 480, .inl tc))] H := hP
      have hD : va_D A [(aK, .inr (1, [.ref aKk, .ref aKp, .ref aKv, .int kn, .int kl, .int kx])), (aKk, .inl (cI, 480, .inl kk)), (aKp, .inl (cI, 480, .inl kp)), (aKv, .inl (cJ, 480, .inr (.inl kv))), (aT, .inr (0, [.ref aTc, .int tn])), (aTc, .inl (cB, 480, .inl tc))] := hD
      refine gk_i (isC := []) (isR := [0, 1, 2, 3, 4, 5]) (perm := [0, 1, 2, 3, 4, 5]) (wr := [(aK, .inr (1, [.ref aKk, .ref aKp, .ref aKv, .int kn, .int kl, .int kx])), (aKk, .inl (cI, 480, .inl kk)), (aKp, .inl (cI, 480, .inl kp)), (aKv, .inl (cJ, 480, .inr (.inl kv))), (aT, .inr (0, [.ref aTc, .int tn])), (aTc, .inl (cB, 480, .inl tc))]) (can := fun u => [(aK, .inr (1, [.ref aKk, .ref aKp, .ref aKv, .int kn, .int kl, .int kx])), (aKk, .inl (cI, 480, .inl kk)), (aKp, .inl (cI, 480, .inl kp)), (aKv, .inl (cJ, 480, .inr (.inl kv))), (aT, .inr (0, [.ref aTc, .int tn])), (aTc, .inl (cB, 480, .inl tc))]) (gr_S C0 (c_Tokens_isLetter l dC dI cB cI cJ _ (m_Tape_at tc tn kx)) cs_Tokens_40 hK hP hD [] rfl (by decide) g_tb g_tx rfl rfl hl.1 rfl (lv_room (Nat.le_of_ble_eq_true rfl)) d_Tokens_scanName_26 ⟨Nat.le_of_ble_eq_true rfl, Nat.le_of_ble_eq_true rfl⟩ ⟨Nat.le_of_ble_eq_true rfl, Nat.le_of_ble_eq_true rfl⟩) hP hD hS hA rfl rfl (by decide) (by decide) (by decide) (fun _ => rfl) (fun r_6 u_6 H locs hw_6 hP hD hS => ?_)
      obtain ⟨hw_6, hb_6⟩ := hw_6
      subst hw_6
      have hP : va_P (dC, dI) classes [(aK, .inr (1, [.ref aKk, .ref aKp, .ref aKv, .int kn, .int kl, .int kx])), (aKk, .inl (cI, 480, .inl kk)), (aKp, .inl (cI, 480, .inl kp)), (aKv, .inl (cJ, 480, .inr (.inl kv))), (aT, .inr (0, [.ref aTc, .int tn])), (aTc, .inl (cB, 480, .inl tc))] H := hP
      have hD : va_D A [(aK, .inr (1, [.ref aKk, .ref aKp, .ref aKv, .int kn, .int kl, .int kx])), (aKk, .inl (cI, 480, .inl kk)), (aKp, .inl (cI, 480, .inl kp)), (aKv, .inl (cJ, 480, .inr (.inl kv))), (aT, .inr (0, [.ref aTc, .int tn])), (aTc, .inl (cB, 480, .inl tc))] := hD
      refine lv_if_ne (tgt := 46) hx hb d_Tokens_scanName_29 (by decide) (fun c_7 => ?_) (fun c_7 => ?_)
      · have q_7 : ¬ _ = _ := fun h => c_7 (Int32.toInt_inj.mp h)
        refine lv_lload_n hx hb d_Tokens_scanName_46 rfl (lv_at hl 0 rfl) ?_
        refine lv_bipush (v := 8) hx hb d_Tokens_scanName_47 (by decide) ?_
        refine lv_lshl (v := (x3 <<< ((8 : Int32).toInt64 &&& 63))) hx hb d_Tokens_scanName_49 rfl ?_
        refine lv_aload_n hx hb d_Tokens_scanName_50 rfl (lv_at hl 3 rfl) ?_
        refine lv_aload_n hx hb d_Tokens_scanName_51 rfl (lv_at hl 2 rfl) ?_
        refine va_get (D := (dC, dI)) (ci := 1) (v := .int kx) (C := R_Tokens) (T := F_Tokens) (N := 6) hx hb hts i_Tokens hown hK hP 0 rfl rfl 5 (by decide) (hts _ tw_8) (fun _ h9 => h9) rfl d_Tokens_scanName_52 ?_
        refine gk_i (isC := [4, 5]) (isR := [0, 1, 2, 3]) (perm := [0, 1, 2, 3, 4, 5]) (wr := [(aK, .inr (1, [.ref aKk, .ref aKp, .ref aKv, .int kn, .int kl, .int kx])), (aKk, .inl (cI, 480, .inl kk)), (aKp, .inl (cI, 480, .inl kp)), (aKv, .inl (cJ, 480, .inr (.inl kv)))]) (can := fun u => [(aK, .inr (1, [.ref aKk, .ref aKp, .ref aKv, .int kn, .int kl, .int kx])), (aKk, .inl (cI, 480, .inl kk)), (aKp, .inl (cI, 480, .inl kp)), (aKv, .inl (cJ, 480, .inr (.inl kv))), (aT, .inr (0, [.ref aTc, .int tn])), (aTc, .inl (cB, 480, .inl tc))]) (gr_V C0 (c_Tape_at l dC dI cB cI cJ aT aTc _ tc tn kx (s_Tokens_scanName_6 q_1 q_7 h_t0 h_t1 hm) (s_Tokens_scanName_7 q_1 q_7 h_t0 h_t1 hm)) cs_Tokens_36 hK hP hD [4, 5] rfl (by decide) g_tb g_tx (ci := 0) (k := 0) rfl rfl rfl rfl hl.1 rfl (lv_room (Nat.le_of_ble_eq_true rfl)) d_Tokens_scanName_55 ⟨Nat.le_of_ble_eq_true rfl, Nat.le_of_ble_eq_true rfl⟩ ⟨Nat.le_of_ble_eq_true rfl, Nat.le_of_ble_eq_true rfl⟩) hP hD hS hA rfl rfl (by decide) (by decide) (by decide) (fun _ => rfl) (fun r_8 u_8 H locs hw_8 hP hD hS => ?_)
        subst hw_8
        have hP : va_P (dC, dI) classes [(aK, .inr (1, [.ref aKk, .ref aKp, .ref aKv, .int kn, .int kl, .int kx])), (aKk, .inl (cI, 480, .inl kk)), (aKp, .inl (cI, 480, .inl kp)), (aKv, .inl (cJ, 480, .inr (.inl kv))), (aT, .inr (0, [.ref aTc, .int tn])), (aTc, .inl (cB, 480, .inl tc))] H := hP
        have hD : va_D A [(aK, .inr (1, [.ref aKk, .ref aKp, .ref aKv, .int kn, .int kl, .int kx])), (aKk, .inl (cI, 480, .inl kk)), (aKp, .inl (cI, 480, .inl kp)), (aKv, .inl (cJ, 480, .inr (.inl kv))), (aT, .inr (0, [.ref aTc, .int tn])), (aTc, .inl (cB, 480, .inl tc))] := hD
        refine lv_i2l (v := ((m_Tape_at tc tn kx).toInt64)) hx hb d_Tokens_scanName_58 rfl ?_
        refine lv_lor hx hb d_Tokens_scanName_59 ?_
        refine lv_lstore_n (lv' := [(3, .long (((x3 <<< ((8 : Int32).toInt64 &&& 63))) ||| ((m_Tape_at tc tn kx).toInt64))), (2, .int x2), (0, .ref aK), (1, .ref aT)]) hx hb d_Tokens_scanName_60 rfl hl (by decide) rfl (fun ls hl => ?_)
        refine lv_aload_n hx hb d_Tokens_scanName_61 rfl (lv_at hl 2 rfl) ?_
        refine lv_dup hx hb d_Tokens_scanName_62 rfl ?_
        refine va_get (D := (dC, dI)) (ci := 1) (v := .int kx) (C := R_Tokens) (T := F_Tokens) (N := 6) hx hb hts i_Tokens hown hK hP 0 rfl rfl 5 (by decide) (hts _ tw_8) (fun _ h9 => h9) rfl d_Tokens_scanName_63 ?_
        refine lv_iconst (v := 1) hx hb d_Tokens_scanName_66 (by decide) ?_
        refine lv_iadd hx hb d_Tokens_scanName_67 ?_
        refine va_put (D := (dC, dI)) (ci := 1) (v := .int (kx + 1)) (ty := .int) (C := R_Tokens) (T := F_Tokens) (N := 6) hx hb hts i_Tokens t_Tokens t_Tokens_ok n_Tokens hown hK hP hD hS 0 rfl rfl 5 (by decide) (hts _ tw_8) (fun _ h9 => h9) rfl (by decide +kernel) rfl rfl (Nat.le_of_ble_eq_true rfl) d_Tokens_scanName_68 (fun H locs hP hD hS => ?_)
        have hP : va_P (dC, dI) classes [(aK, .inr (1, [.ref aKk, .ref aKp, .ref aKv, .int kn, .int kl, .int (kx + 1)])), (aKk, .inl (cI, 480, .inl kk)), (aKp, .inl (cI, 480, .inl kp)), (aKv, .inl (cJ, 480, .inr (.inl kv))), (aT, .inr (0, [.ref aTc, .int tn])), (aTc, .inl (cB, 480, .inl tc))] H := hP
        have hD : va_D A [(aK, .inr (1, [.ref aKk, .ref aKp, .ref aKv, .int kn, .int kl, .int (kx + 1)])), (aKk, .inl (cI, 480, .inl kk)), (aKp, .inl (cI, 480, .inl kp)), (aKv, .inl (cJ, 480, .inr (.inl kv))), (aT, .inr (0, [.ref aTc, .int tn])), (aTc, .inl (cB, 480, .inl tc))] := hD
        refine lv_goto (tgt := 7) hx hb d_Tokens_scanName_71 (by decide) ?_
        exact ih  x2 (((x3 <<< ((8 : Int32).toInt64 &&& 63))) ||| ((m_Tape_at tc tn kx).toInt64)) kk kp kv kn (kx + 1) (s_Tokens_scanName_8 q_1 q_7 h_t0 h_t1 hm) (by rw [← hres]; simp only [m_Tokens_scanName_L7, if_neg c_1, if_neg c_7]) _ _ _ hP hD hS (lv_sub hl [0, 1, 2, 3] rfl)
      · have q_7 := congrArg Int32.toInt c_7
        refine lv_aload_n hx hb d_Tokens_scanName_32 rfl (lv_at hl 3 rfl) ?_
        refine lv_aload_n hx hb d_Tokens_scanName_33 rfl (lv_at hl 2 rfl) ?_
        refine va_get (D := (dC, dI)) (ci := 1) (v := .int kx) (C := R_Tokens) (T := F_Tokens) (N := 6) hx hb hts i_Tokens hown hK hP 0 rfl rfl 5 (by decide) (hts _ tw_8) (fun _ h9 => h9) rfl d_Tokens_scanName_34 ?_
        refine gk_i (isC := [4, 5]) (isR := [0, 1, 2, 3]) (perm := [0, 1, 2, 3, 4, 5]) (wr := [(aK, .inr (1, [.ref aKk, .ref aKp, .ref aKv, .int kn, .int kl, .int kx])), (aKk, .inl (cI, 480, .inl kk)), (aKp, .inl (cI, 480, .inl kp)), (aKv, .inl (cJ, 480, .inr (.inl kv)))]) (can := fun u => [(aK, .inr (1, [.ref aKk, .ref aKp, .ref aKv, .int kn, .int kl, .int kx])), (aKk, .inl (cI, 480, .inl kk)), (aKp, .inl (cI, 480, .inl kp)), (aKv, .inl (cJ, 480, .inr (.inl kv))), (aT, .inr (0, [.ref aTc, .int tn])), (aTc, .inl (cB, 480, .inl tc))]) (gr_V C0 (c_Tape_at l dC dI cB cI cJ aT aTc _ tc tn kx (s_Tokens_scanName_9 q_1 q_7 h_t0 h_t1 hm) (s_Tokens_scanName_10 q_1 q_7 h_t0 h_t1 hm)) cs_Tokens_36 hK hP hD [4, 5] rfl (by decide) g_tb g_tx (ci := 0) (k := 0) rfl rfl rfl rfl hl.1 rfl (lv_room (Nat.le_of_ble_eq_true rfl)) d_Tokens_scanName_37 ⟨Nat.le_of_ble_eq_true rfl, Nat.le_of_ble_eq_true rfl⟩ ⟨Nat.le_of_ble_eq_true rfl, Nat.le_of_ble_eq_true rfl⟩) hP hD hS hA rfl rfl (by decide) (by decide) (by decide) (fun _ => rfl) (fun r_9 u_9 H locs hw_9 hP hD hS => ?_)
        subst hw_9
        have hP : va_P (dC, dI) classes [(aK, .inr (1, [.ref aKk, .ref aKp, .ref aKv, .int kn, .int kl, .int kx])), (aKk, .inl (cI, 480, .inl kk)), (aKp, .inl (cI, 480, .inl kp)), (aKv, .inl (cJ, 480, .inr (.inl kv))), (aT, .inr (0, [.ref aTc, .int tn])), (aTc, .inl (cB, 480, .inl tc))] H := hP
        have hD : va_D A [(aK, .inr (1, [.ref aKk, .ref aKp, .ref aKv, .int kn, .int kl, .int kx])), (aKk, .inl (cI, 480, .inl kk)), (aKp, .inl (cI, 480, .inl kp)), (aKv, .inl (cJ, 480, .inr (.inl kv))), (aT, .inr (0, [.ref aTc, .int tn])), (aTc, .inl (cB, 480, .inl tc))] := hD
        refine gk_i (isC := []) (isR := [0, 1, 2, 3, 4, 5]) (perm := [0, 1, 2, 3, 4, 5]) (wr := [(aK, .inr (1, [.ref aKk, .ref aKp, .ref aKv, .int kn, .int kl, .int kx])), (aKk, .inl (cI, 480, .inl kk)), (aKp, .inl (cI, 480, .inl kp)), (aKv, .inl (cJ, 480, .inr (.inl kv))), (aT, .inr (0, [.ref aTc, .int tn])), (aTc, .inl (cB, 480, .inl tc))]) (can := fun u => [(aK, .inr (1, [.ref aKk, .ref aKp, .ref aKv, .int kn, .int kl, .int kx])), (aKk, .inl (cI, 480, .inl kk)), (aKp, .inl (cI, 480, .inl kp)), (aKv, .inl (cJ, 480, .inr (.inl kv))), (aT, .inr (0, [.ref aTc, .int tn])), (aTc, .inl (cB, 480, .inl tc))]) (gr_S C0 (c_Tokens_isDigit l dC dI cB cI cJ _ (m_Tape_at tc tn kx)) cs_Tokens_48 hK hP hD [] rfl (by decide) g_tb g_tx rfl rfl hl.1 rfl (lv_room (Nat.le_of_ble_eq_true rfl)) d_Tokens_scanName_40 ⟨Nat.le_of_ble_eq_true rfl, Nat.le_of_ble_eq_true rfl⟩ ⟨Nat.le_of_ble_eq_true rfl, Nat.le_of_ble_eq_true rfl⟩) hP hD hS hA rfl rfl (by decide) (by decide) (by decide) (fun _ => rfl) (fun r_10 u_10 H locs hw_10 hP hD hS => ?_)
        obtain ⟨hw_10, hb_10⟩ := hw_10
        subst hw_10
        have hP : va_P (dC, dI) classes [(aK, .inr (1, [.ref aKk, .ref aKp, .ref aKv, .int kn, .int kl, .int kx])), (aKk, .inl (cI, 480, .inl kk)), (aKp, .inl (cI, 480, .inl kp)), (aKv, .inl (cJ, 480, .inr (.inl kv))), (aT, .inr (0, [.ref aTc, .int tn])), (aTc, .inl (cB, 480, .inl tc))] H := hP
        have hD : va_D A [(aK, .inr (1, [.ref aKk, .ref aKp, .ref aKv, .int kn, .int kl, .int kx])), (aKk, .inl (cI, 480, .inl kk)), (aKp, .inl (cI, 480, .inl kp)), (aKv, .inl (cJ, 480, .inr (.inl kv))), (aT, .inr (0, [.ref aTc, .int tn])), (aTc, .inl (cB, 480, .inl tc))] := hD
        refine lv_if_eq (tgt := 74) hx hb d_Tokens_scanName_43 (by decide) (fun c_11 => ?_) (fun c_11 => ?_)
        · have q_11 := congrArg Int32.toInt c_11
          refine lv_aload_n hx hb d_Tokens_scanName_74 rfl (lv_at hl 2 rfl) ?_
          refine lv_aload_n hx hb d_Tokens_scanName_75 rfl (lv_at hl 2 rfl) ?_
          refine va_get (D := (dC, dI)) (ci := 1) (v := .int kx) (C := R_Tokens) (T := F_Tokens) (N := 6) hx hb hts i_Tokens hown hK hP 0 rfl rfl 5 (by decide) (hts _ tw_8) (fun _ h9 => h9) rfl d_Tokens_scanName_76 ?_
          refine lv_iload_n hx hb d_Tokens_scanName_79 rfl (lv_at hl 1 rfl) ?_
          refine lv_isub hx hb d_Tokens_scanName_80 ?_
          refine lv_bipush (v := 6) hx hb d_Tokens_scanName_81 (by decide) ?_
          refine lv_icmp_gt (tgt := 90) hx hb d_Tokens_scanName_83 (by decide) (fun c_12 => ?_) (fun c_12 => ?_)
          · have q_12 := Int32.lt_iff_toInt_lt.mp c_12
            refine lv_iconst (v := 1) hx hb d_Tokens_scanName_90 (by decide) ?_
            refine lv_iload_n hx hb d_Tokens_scanName_91 rfl (lv_at hl 1 rfl) ?_
            refine lv_lload_n hx hb d_Tokens_scanName_92 rfl (lv_at hl 0 rfl) ?_
            refine gk_v (isC := [0, 1, 2, 3]) (isR := [4, 5]) (perm := [2, 3, 4, 5, 0, 1]) (wr := [(aT, .inr (0, [.ref aTc, .int tn])), (aTc, .inl (cB, 480, .inl tc))]) (can := fun u => [(aK, .inr (1, [.ref aKk, .ref aKp, .ref aKv, .int u.2.2.2, .int kl, .int kx])), (aKk, .inl (cI, 480, .inl u.1)), (aKp, .inl (cI, 480, .inl u.2.1)), (aKv, .inl (cJ, 480, .inr (.inl u.2.2.1))), (aT, .inr (0, [.ref aTc, .int tn])), (aTc, .inl (cB, 480, .inl tc))]) (gr_V C0 (c_Tokens_add l dC dI cB cI cJ aK aKk aKp aKv _ kk kp kv kn kl kx 1 x2 x3 (s_Tokens_scanName_11 q_1 q_7 q_11 q_12 h_t0 h_t1 hm)) cs_Tokens_57 hK hP hD [0, 1, 2, 3] rfl (by decide) g_tb g_tx (ci := 1) (k := 0) rfl rfl rfl rfl hl.1 rfl (lv_room (Nat.le_of_ble_eq_true rfl)) d_Tokens_scanName_93 ⟨Nat.le_of_ble_eq_true rfl, Nat.le_of_ble_eq_true rfl⟩ ⟨Nat.le_of_ble_eq_true rfl, Nat.le_of_ble_eq_true rfl⟩) hP hD hS hA rfl rfl (by decide) (by decide) (by decide) (fun _ => rfl) (fun u_13 H locs hw_13 hP hD hS => ?_)
            obtain ⟨u13_kk, u13_kp, u13_kv, u13_kn⟩ := u_13
            have hP : va_P (dC, dI) classes [(aK, .inr (1, [.ref aKk, .ref aKp, .ref aKv, .int u13_kn, .int kl, .int kx])), (aKk, .inl (cI, 480, .inl u13_kk)), (aKp, .inl (cI, 480, .inl u13_kp)), (aKv, .inl (cJ, 480, .inr (.inl u13_kv))), (aT, .inr (0, [.ref aTc, .int tn])), (aTc, .inl (cB, 480, .inl tc))] H := hP
            have hD : va_D A [(aK, .inr (1, [.ref aKk, .ref aKp, .ref aKv, .int u13_kn, .int kl, .int kx])), (aKk, .inl (cI, 480, .inl u13_kk)), (aKp, .inl (cI, 480, .inl u13_kp)), (aKv, .inl (cJ, 480, .inr (.inl u13_kv))), (aT, .inr (0, [.ref aTc, .int tn])), (aTc, .inl (cB, 480, .inl tc))] := hD
            have v0_13 := v_Tokens_add hw_13 (s_Tokens_scanName_12 q_1 q_7 q_11 q_12 h_t0 h_t1 hm)
            exact W.vret hx hb hr (fun t ht hW => ⟨⟨(u13_kk, u13_kp, u13_kv, u13_kn, kx), rfl, by rw [← hres]; simp only [m_Tokens_scanName_L7, if_neg c_1, if_pos c_7, if_pos c_11, if_pos c_12, ← hw_13], by rw [ht]; exact hP, va_K.moved hW.alike hK, hD⟩, hS.F ht⟩) hS.2.2 d_Tokens_scanName_96
          · have q_12 := mt Int32.lt_iff_toInt_lt.mpr c_12
            refine lv_iconst (v := 2) hx hb d_Tokens_scanName_86 (by decide) ?_
            refine lv_goto (tgt := 91) hx hb d_Tokens_scanName_87 (by decide) ?_
            refine lv_iload_n hx hb d_Tokens_scanName_91 rfl (lv_at hl 1 rfl) ?_
            refine lv_lload_n hx hb d_Tokens_scanName_92 rfl (lv_at hl 0 rfl) ?_
            refine gk_v (isC := [0, 1, 2, 3]) (isR := [4, 5]) (perm := [2, 3, 4, 5, 0, 1]) (wr := [(aT, .inr (0, [.ref aTc, .int tn])), (aTc, .inl (cB, 480, .inl tc))]) (can := fun u => [(aK, .inr (1, [.ref aKk, .ref aKp, .ref aKv, .int u.2.2.2, .int kl, .int kx])), (aKk, .inl (cI, 480, .inl u.1)), (aKp, .inl (cI, 480, .inl u.2.1)), (aKv, .inl (cJ, 480, .inr (.inl u.2.2.1))), (aT, .inr (0, [.ref aTc, .int tn])), (aTc, .inl (cB, 480, .inl tc))]) (gr_V C0 (c_Tokens_add l dC dI cB cI cJ aK aKk aKp aKv _ kk kp kv kn kl kx 2 x2 x3 (s_Tokens_scanName_13 q_1 q_7 q_11 q_12 h_t0 h_t1 hm)) cs_Tokens_57 hK hP hD [0, 1, 2, 3] rfl (by decide) g_tb g_tx (ci := 1) (k := 0) rfl rfl rfl rfl hl.1 rfl (lv_room (Nat.le_of_ble_eq_true rfl)) d_Tokens_scanName_93 ⟨Nat.le_of_ble_eq_true rfl, Nat.le_of_ble_eq_true rfl⟩ ⟨Nat.le_of_ble_eq_true rfl, Nat.le_of_ble_eq_true rfl⟩) hP hD hS hA rfl rfl (by decide) (by decide) (by decide) (fun _ => rfl) (fun u_14 H locs hw_14 hP hD hS => ?_)
            obtain ⟨u14_kk, u14_kp, u14_kv, u14_kn⟩ := u_14
            have hP : va_P (dC, dI) classes [(aK, .inr (1, [.ref aKk, .ref aKp, .ref aKv, .int u14_kn, .int kl, .int kx])), (aKk, .inl (cI, 480, .inl u14_kk)), (aKp, .inl (cI, 480, .inl u14_kp)), (aKv, .inl (cJ, 480, .inr (.inl u14_kv))), (aT, .inr (0, [.ref aTc, .int tn])), (aTc, .inl (cB, 480, .inl tc))] H := hP
            have hD : va_D A [(aK, .inr (1, [.ref aKk, .ref aKp, .ref aKv, .int u14_kn, .int kl, .int kx])), (aKk, .inl (cI, 480, .inl u14_kk)), (aKp, .inl (cI, 480, .inl u14_kp)), (aKv, .inl (cJ, 480, .inr (.inl u14_kv))), (aT, .inr (0, [.ref aTc, .int tn])), (aTc, .inl (cB, 480, .inl tc))] := hD
            have v0_14 := v_Tokens_add hw_14 (s_Tokens_scanName_14 q_1 q_7 q_11 q_12 h_t0 h_t1 hm)
            exact W.vret hx hb hr (fun t ht hW => ⟨⟨(u14_kk, u14_kp, u14_kv, u14_kn, kx), rfl, by rw [← hres]; simp only [m_Tokens_scanName_L7, if_neg c_1, if_pos c_7, if_pos c_11, if_neg c_12, ← hw_14], by rw [ht]; exact hP, va_K.moved hW.alike hK, hD⟩, hS.F ht⟩) hS.2.2 d_Tokens_scanName_96
        · have q_11 : ¬ _ = _ := fun h => c_11 (Int32.toInt_inj.mp h)
          refine lv_lload_n hx hb d_Tokens_scanName_46 rfl (lv_at hl 0 rfl) ?_
          refine lv_bipush (v := 8) hx hb d_Tokens_scanName_47 (by decide) ?_
          refine lv_lshl (v := (x3 <<< ((8 : Int32).toInt64 &&& 63))) hx hb d_Tokens_scanName_49 rfl ?_
          refine lv_aload_n hx hb d_Tokens_scanName_50 rfl (lv_at hl 3 rfl) ?_
          refine lv_aload_n hx hb d_Tokens_scanName_51 rfl (lv_at hl 2 rfl) ?_
          refine va_get (D := (dC, dI)) (ci := 1) (v := .int kx) (C := R_Tokens) (T := F_Tokens) (N := 6) hx hb hts i_Tokens hown hK hP 0 rfl rfl 5 (by decide) (hts _ tw_8) (fun _ h9 => h9) rfl d_Tokens_scanName_52 ?_
          refine gk_i (isC := [4, 5]) (isR := [0, 1, 2, 3]) (perm := [0, 1, 2, 3, 4, 5]) (wr := [(aK, .inr (1, [.ref aKk, .ref aKp, .ref aKv, .int kn, .int kl, .int kx])), (aKk, .inl (cI, 480, .inl kk)), (aKp, .inl (cI, 480, .inl kp)), (aKv, .inl (cJ, 480, .inr (.inl kv)))]) (can := fun u => [(aK, .inr (1, [.ref aKk, .ref aKp, .ref aKv, .int kn, .int kl, .int kx])), (aKk, .inl (cI, 480, .inl kk)), (aKp, .inl (cI, 480, .inl kp)), (aKv, .inl (cJ, 480, .inr (.inl kv))), (aT, .inr (0, [.ref aTc, .int tn])), (aTc, .inl (cB, 480, .inl tc))]) (gr_V C0 (c_Tape_at l dC dI cB cI cJ aT aTc _ tc tn kx (s_Tokens_scanName_15 q_1 q_7 q_11 h_t0 h_t1 hm) (s_Tokens_scanName_16 q_1 q_7 q_11 h_t0 h_t1 hm)) cs_Tokens_36 hK hP hD [4, 5] rfl (by decide) g_tb g_tx (ci := 0) (k := 0) rfl rfl rfl rfl hl.1 rfl (lv_room (Nat.le_of_ble_eq_true rfl)) d_Tokens_scanName_55 ⟨Nat.le_of_ble_eq_true rfl, Nat.le_of_ble_eq_true rfl⟩ ⟨Nat.le_of_ble_eq_true rfl, Nat.le_of_ble_eq_true rfl⟩) hP hD hS hA rfl rfl (by decide) (by decide) (by decide) (fun _ => rfl) (fun r_15 u_15 H locs hw_15 hP hD hS => ?_)
          subst hw_15
          have hP : va_P (dC, dI) classes [(aK, .inr (1, [.ref aKk, .ref aKp, .ref aKv, .int kn, .int kl, .int kx])), (aKk, .inl (cI, 480, .inl kk)), (aKp, .inl (cI, 480, .inl kp)), (aKv, .inl (cJ, 480, .inr (.inl kv))), (aT, .inr (0, [.ref aTc, .int tn])), (aTc, .inl (cB, 480, .inl tc))] H := hP
          have hD : va_D A [(aK, .inr (1, [.ref aKk, .ref aKp, .ref aKv, .int kn, .int kl, .int kx])), (aKk, .inl (cI, 480, .inl kk)), (aKp, .inl (cI, 480, .inl kp)), (aKv, .inl (cJ, 480, .inr (.inl kv))), (aT, .inr (0, [.ref aTc, .int tn])), (aTc, .inl (cB, 480, .inl tc))] := hD
          refine lv_i2l (v := ((m_Tape_at tc tn kx).toInt64)) hx hb d_Tokens_scanName_58 rfl ?_
          refine lv_lor hx hb d_Tokens_scanName_59 ?_
          refine lv_lstore_n (lv' := [(3, .long (((x3 <<< ((8 : Int32).toInt64 &&& 63))) ||| ((m_Tape_at tc tn kx).toInt64))), (2, .int x2), (0, .ref aK), (1, .ref aT)]) hx hb d_Tokens_scanName_60 rfl hl (by decide) rfl (fun ls hl => ?_)
          refine lv_aload_n hx hb d_Tokens_scanName_61 rfl (lv_at hl 2 rfl) ?_
          refine lv_dup hx hb d_Tokens_scanName_62 rfl ?_
          refine va_get (D := (dC, dI)) (ci := 1) (v := .int kx) (C := R_Tokens) (T := F_Tokens) (N := 6) hx hb hts i_Tokens hown hK hP 0 rfl rfl 5 (by decide) (hts _ tw_8) (fun _ h9 => h9) rfl d_Tokens_scanName_63 ?_
          refine lv_iconst (v := 1) hx hb d_Tokens_scanName_66 (by decide) ?_
          refine lv_iadd hx hb d_Tokens_scanName_67 ?_
          refine va_put (D := (dC, dI)) (ci := 1) (v := .int (kx + 1)) (ty := .int) (C := R_Tokens) (T := F_Tokens) (N := 6) hx hb hts i_Tokens t_Tokens t_Tokens_ok n_Tokens hown hK hP hD hS 0 rfl rfl 5 (by decide) (hts _ tw_8) (fun _ h9 => h9) rfl (by decide +kernel) rfl rfl (Nat.le_of_ble_eq_true rfl) d_Tokens_scanName_68 (fun H locs hP hD hS => ?_)
          have hP : va_P (dC, dI) classes [(aK, .inr (1, [.ref aKk, .ref aKp, .ref aKv, .int kn, .int kl, .int (kx + 1)])), (aKk, .inl (cI, 480, .inl kk)), (aKp, .inl (cI, 480, .inl kp)), (aKv, .inl (cJ, 480, .inr (.inl kv))), (aT, .inr (0, [.ref aTc, .int tn])), (aTc, .inl (cB, 480, .inl tc))] H := hP
          have hD : va_D A [(aK, .inr (1, [.ref aKk, .ref aKp, .ref aKv, .int kn, .int kl, .int (kx + 1)])), (aKk, .inl (cI, 480, .inl kk)), (aKp, .inl (cI, 480, .inl kp)), (aKv, .inl (cJ, 480, .inr (.inl kv))), (aT, .inr (0, [.ref aTc, .int tn])), (aTc, .inl (cB, 480, .inl tc))] := hD
          refine lv_goto (tgt := 7) hx hb d_Tokens_scanName_71 (by decide) ?_
          exact ih  x2 (((x3 <<< ((8 : Int32).toInt64 &&& 63))) ||| ((m_Tape_at tc tn kx).toInt64)) kk kp kv kn (kx + 1) (s_Tokens_scanName_17 q_1 q_7 q_11 h_t0 h_t1 hm) (by rw [← hres]; simp only [m_Tokens_scanName_L7, if_neg c_1, if_pos c_7, if_neg c_11]) _ _ _ hP hD hS (lv_sub hl [0, 1, 2, 3] rfl)
def m_Tokens_scanName (kk : Nat → Int32) (kp : Nat → Int32) (kv : Nat → Int64) (kn : Int32) (kl : Int32) (kx : Int32) (tc : Nat → Int32) (tn : Int32) : (Nat → Int32) × (Nat → Int32) × (Nat → Int64) × Int32 × Int32 :=
  m_Tokens_scanName_L7 kl tc tn ((kl.toInt - kx.toInt).toNat + 1) kx 0 kk kp kv kn kx
theorem s_Tokens_scanName_18 {kl : Int32} {kx : Int32} {kn : Int32} {tn : Int32} (h_k0 : 0 ≤ kn.toInt) (h_t0 : 0 ≤ tn.toInt) (h_t1 : tn.toInt ≤ 480) : (kl.toInt - kx.toInt).toNat < ((kl.toInt - kx.toInt).toNat + 1) := by have g0 := gz_r kl; have g1 := gz_r kx; have g2 := gz_r kn; have g3 := gz_r tn; omega
set_option maxHeartbeats 4000000 in
set_option maxRecDepth 100000 in
theorem c_Tokens_scanName (l : Launch) (dC : Nat → ClassId) (dI : Nat → Nat → Nat) (cB cI cJ : ClassId) (aK aKk aKp aKv aT aTc : Nat) (sz : Nat) (kk : Nat → Int32) (kp : Nat → Int32) (kv : Nat → Int64) (kn : Int32) (kl : Int32) (kx : Int32) (tc : Nat → Int32) (tn : Int32) (h_k0 : 0 ≤ kn.toInt) (h_t0 : 0 ≤ tn.toInt) (h_t1 : tn.toInt ≤ 480) : Met l y_Tokens_scanName w_Tokens_scanName ({ frames := 1, cells := 0, slots := 0, locals := 24 }) (va_Pc [.ref aK, .ref aT] (g_pre dC dI [(cB, .byte), (cI, .int), (cJ, .long)] sz [(aK, .inr (1, [.ref aKk, .ref aKp, .ref aKv, .int kn, .int kl, .int kx])), (aKk, .inl (cI, 480, .inl kk)), (aKp, .inl (cI, 480, .inl kp)), (aKv, .inl (cJ, 480, .inr (.inl kv))), (aT, .inr (0, [.ref aTc, .int tn])), (aTc, .inl (cB, 480, .inl tc))] (fun _ => True))) (va_Qv (fun u : (Nat → Int32) × (Nat → Int32) × (Nat → Int64) × Int32 × Int32 => u = (m_Tokens_scanName kk kp kv kn kl kx tc tn)) (fun u => g_post dC dI [(cB, .byte), (cI, .int), (cJ, .long)] (va_A [(aK, .inr (1, [.ref aKk, .ref aKp, .ref aKv, .int kn, .int kl, .int kx])), (aKk, .inl (cI, 480, .inl kk)), (aKp, .inl (cI, 480, .inl kp)), (aKv, .inl (cJ, 480, .inr (.inl kv))), (aT, .inr (0, [.ref aTc, .int tn])), (aTc, .inl (cB, 480, .inl tc))] sz) [(aK, .inr (1, [.ref aKk, .ref aKp, .ref aKv, .int u.2.2.2.1, .int kl, .int u.2.2.2.2])), (aKk, .inl (cI, 480, .inl u.1)), (aKp, .inl (cI, 480, .inl u.2.1)), (aKv, .inl (cJ, 480, .inr (.inl u.2.2.1))), (aT, .inr (0, [.ref aTc, .int tn])), (aTc, .inl (cB, 480, .inl tc))]) (va_A [(aK, .inr (1, [.ref aKk, .ref aKp, .ref aKv, .int kn, .int kl, .int kx])), (aKk, .inl (cI, 480, .inl kk)), (aKp, .inl (cI, 480, .inl kp)), (aKv, .inl (cJ, 480, .inr (.inl kv))), (aT, .inr (0, [.ref aTc, .int tn])), (aTc, .inl (cB, 480, .inl tc))] sz)) 0 0 (va_A [(aK, .inr (1, [.ref aKk, .ref aKp, .ref aKv, .int kn, .int kl, .int kx])), (aKk, .inl (cI, 480, .inl kk)), (aKp, .inl (cI, 480, .inl kp)), (aKv, .inl (cJ, 480, .inr (.inl kv))), (aT, .inr (0, [.ref aTc, .int tn])), (aTc, .inl (cB, 480, .inl tc))] sz) := by
  refine Met.ofW (cc := b_Tokens_scanName) (maxL := 5) (ret := none) (by decide) rfl ?_
  intro p e s m args below meth c s₁ B hml hv
  obtain ⟨rfl, hsz, hP, hK, hD0, hX⟩ := hv
  subst hsz
  have C0 : g_Cx p s m meth c b_Tokens_scanName 5 none R_Tokens [.ref aK, .ref aT].toArray := g_start B hml rfl
  obtain ⟨hx, hb, hml, hr, hown, hts, hlocks⟩ := id C0
  have hD := hD0.self (sz := s.heap.size)
  generalize hAe : va_A [(aK, .inr (1, [.ref aKk, .ref aKp, .ref aKv, .int kn, .int kl, .int kx])), (aKk, .inl (cI, 480, .inl kk)), (aKp, .inl (cI, 480, .inl kp)), (aKv, .inl (cJ, 480, .inr (.inl kv))), (aT, .inr (0, [.ref aTc, .int tn])), (aTc, .inl (cB, 480, .inl tc))] s.heap.size = A at hD ⊢
  generalize hres : (m_Tokens_scanName kk kp kv kn kl kx tc tn) = res
  have hA : ∀ q : Nat, s.heap.size ≤ q → A q := fun q h => by rw [← hAe]; exact Or.inr h
  have hS : va_S A s.heap s.heap [] := va_S.rf
  have hl := lv_entry ([.ref aK, .ref aT]) (n := 5) (Nat.le_of_ble_eq_true rfl)
  rw [lg_entry_eq]
  generalize (lg_sl ([.ref aK, .ref aT]) ++ List.replicate (5 - (lg_sl ([.ref aK, .ref aT])).length) Slot.unset).toArray = ls at hl ⊢
  have hl : lv_has ls 5 [(0, .ref aK), (1, .ref aT)] := hl
  refine lv_aload_n hx hb d_Tokens_scanName_0 rfl (lv_at hl 0 rfl) ?_
  refine va_get (D := (dC, dI)) (ci := 1) (v := .int kx) (C := R_Tokens) (T := F_Tokens) (N := 6) hx hb hts i_Tokens hown hK hP 0 rfl rfl 5 (by decide) (hts _ tw_8) (fun _ h9 => h9) rfl d_Tokens_scanName_1 ?_
  refine lv_istore_n (lv' := [(2, .int kx), (0, .ref aK), (1, .ref aT)]) hx hb d_Tokens_scanName_4 rfl hl (by decide) rfl (fun ls hl => ?_)
  refine lv_lconst (v := 0) hx hb d_Tokens_scanName_5 (by decide) ?_
  refine lv_lstore_n (lv' := [(3, .long 0), (2, .int kx), (0, .ref aK), (1, .ref aT)]) hx hb d_Tokens_scanName_6 rfl hl (by decide) rfl (fun ls hl => ?_)
  exact L_Tokens_scanName_7 C0 hK hA h_t0 h_t1 ((kl.toInt - kx.toInt).toNat + 1) kx 0 kk kp kv kn kx (s_Tokens_scanName_18 h_k0 h_t0 h_t1) (by rw [← hres]; simp only [m_Tokens_scanName]) _ _ _ hP hD hS (lv_sub hl [0, 1, 2, 3] rfl)
theorem v_Tokens_scanName_L (kl : Int32) (tc : Nat → Int32) (tn : Int32) : ∀ (n : Nat) (x2 : Int32) (x3 : Int64) (kk kp : Nat → Int32) (kv : Nat → Int64) (kn kx : Int32), 0 ≤ kn.toInt → 0 ≤ (m_Tokens_scanName_L7 kl tc tn n x2 x3 kk kp kv kn kx).2.2.2.1.toInt := by
  intro n
  induction n with
  | zero => intro x2 x3 kk kp kv kn kx h; exact h
  | succ n ih =>
    intro x2 x3 kk kp kv kn kx h
    unfold m_Tokens_scanName_L7
    repeat' split
    all_goals first | exact ih _ _ _ _ _ _ _ h | (rename_i e; exact v_Tokens_add e.symm h)
theorem v_Tokens_scanName {u1 u2 : Nat → Int32} {u3 : Nat → Int64} {u4 u5 : Int32} {kk kp : Nat → Int32} {kv : Nat → Int64} {kn kl kx : Int32} {tc : Nat → Int32} {tn : Int32} (hw : (u1, u2, u3, u4, u5) = m_Tokens_scanName kk kp kv kn kl kx tc tn) (h : 0 ≤ kn.toInt) : 0 ≤ u4.toInt := by
  have e : u4 = (m_Tokens_scanName kk kp kv kn kl kx tc tn).2.2.2.1 := by rw [← hw]
  rw [e]
  exact v_Tokens_scanName_L kl tc tn _ _ _ _ _ _ _ _ h
def m_Tokens_scanNumber_L7 (kl : Int32) (tc : Nat → Int32) (tn : Int32) : Nat → Int32 → Int64 → (Nat → Int32) → (Nat → Int32) → (Nat → Int64) → Int32 → Int32 → (Nat → Int32) × (Nat → Int32) × (Nat → Int64) × Int32 × Int32
  | 0, x2, x3, kk, kp, kv, kn, kx => (kk, kp, kv, kn, kx)
  | n + 1, x2, x3, kk, kp, kv, kn, kx =>
    if kl ≤ kx then
      if 10 < (kx - x2) then
        match m_Tokens_add kk kp kv kn 1 x2 x3 with
        | (u3_kk, u3_kp, u3_kv, u3_kn) =>
        (u3_kk, u3_kp, u3_kv, u3_kn, kx)
      else
        match m_Tokens_add kk kp kv kn 3 x2 x3 with
        | (u4_kk, u4_kp, u4_kv, u4_kn) =>
        (u4_kk, u4_kp, u4_kv, u4_kn, kx)
    else
      if (m_Tokens_isDigit (m_Tape_at tc tn kx)) = 0 then
        if 10 < (kx - x2) then
          match m_Tokens_add kk kp kv kn 1 x2 x3 with
          | (u9_kk, u9_kp, u9_kv, u9_kn) =>
          (u9_kk, u9_kp, u9_kv, u9_kn, kx)
        else
          match m_Tokens_add kk kp kv kn 3 x2 x3 with
          | (u10_kk, u10_kp, u10_kv, u10_kn) =>
          (u10_kk, u10_kp, u10_kv, u10_kn, kx)
      else
        m_Tokens_scanNumber_L7 kl tc tn n x2 ((x3 * 10) + (((m_Tape_at tc tn kx) - 48).toInt64)) kk kp kv kn (kx + 1)
theorem s_Tokens_scanNumber_0 {kn : Int32} {kl : Int32} {kx : Int32} {x2 : Int32} {tn : Int32} {n : Nat} (q_1 : kl.toInt ≤ kx.toInt) (q_2 : (10 : Int32).toInt < (kx - x2).toInt) (h_t0 : 0 ≤ tn.toInt) (h_t1 : tn.toInt ≤ 480) (hm : (kl.toInt - kx.toInt).toNat < n + 1) : 0 ≤ kn.toInt := by have z0 : (10 : Int32).toInt = 10 := (by decide); have g0 := gz_r kn; have g1 := gz_r kl; have g2 := gz_r kx; have g3 := gz_r x2; have g4 := gz_r tn; omega
theorem s_Tokens_scanNumber_1 {kn : Int32} {kl : Int32} {kx : Int32} {x2 : Int32} {tn : Int32} {n : Nat} (q_1 : kl.toInt ≤ kx.toInt) (q_2 : (10 : Int32).toInt < (kx - x2).toInt) (h_t0 : 0 ≤ tn.toInt) (h_t1 : tn.toInt ≤ 480) (hm : (kl.toInt - kx.toInt).toNat < n + 1) : 0 ≤ kn.toInt := by have z0 : (10 : Int32).toInt = 10 := (by decide); have g0 := gz_r kn; have g1 := gz_r kl; have g2 := gz_r kx; have g3 := gz_r x2; have g4 := gz_r tn; omega
theorem s_Tokens_scanNumber_2 {kn : Int32} {kl : Int32} {kx : Int32} {x2 : Int32} {tn : Int32} {n : Nat} (q_1 : kl.toInt ≤ kx.toInt) (q_2 : ¬ (10 : Int32).toInt < (kx - x2).toInt) (h_t0 : 0 ≤ tn.toInt) (h_t1 : tn.toInt ≤ 480) (hm : (kl.toInt - kx.toInt).toNat < n + 1) : 0 ≤ kn.toInt := by have z0 : (10 : Int32).toInt = 10 := (by decide); have g0 := gz_r kn; have g1 := gz_r kl; have g2 := gz_r kx; have g3 := gz_r x2; have g4 := gz_r tn; omega
theorem s_Tokens_scanNumber_3 {kn : Int32} {kl : Int32} {kx : Int32} {x2 : Int32} {tn : Int32} {n : Nat} (q_1 : kl.toInt ≤ kx.toInt) (q_2 : ¬ (10 : Int32).toInt < (kx - x2).toInt) (h_t0 : 0 ≤ tn.toInt) (h_t1 : tn.toInt ≤ 480) (hm : (kl.toInt - kx.toInt).toNat < n + 1) : 0 ≤ kn.toInt := by have z0 : (10 : Int32).toInt = 10 := (by decide); have g0 := gz_r kn; have g1 := gz_r kl; have g2 := gz_r kx; have g3 := gz_r x2; have g4 := gz_r tn; omega
theorem s_Tokens_scanNumber_4 {tn : Int32} {kl : Int32} {kx : Int32} {n : Nat} (q_1 : ¬ kl.toInt ≤ kx.toInt) (h_t0 : 0 ≤ tn.toInt) (h_t1 : tn.toInt ≤ 480) (hm : (kl.toInt - kx.toInt).toNat < n + 1) : 0 ≤ tn.toInt := by have g0 := gz_r tn; have g1 := gz_r kl; have g2 := gz_r kx; omega
theorem s_Tokens_scanNumber_5 {tn : Int32} {kl : Int32} {kx : Int32} {n : Nat} (q_1 : ¬ kl.toInt ≤ kx.toInt) (h_t0 : 0 ≤ tn.toInt) (h_t1 : tn.toInt ≤ 480) (hm : (kl.toInt - kx.toInt).toNat < n + 1) : tn.toInt ≤ 480 := by have g0 := gz_r tn; have g1 := gz_r kl; have g2 := gz_r kx; omega
theorem s_Tokens_scanNumber_6 {kn : Int32} {kl : Int32} {kx : Int32} {tc : Nat → Int32} {tn : Int32} {x2 : Int32} {n : Nat} (q_1 : ¬ kl.toInt ≤ kx.toInt) (q_7 : (m_Tokens_isDigit (m_Tape_at tc tn kx)).toInt = (0 : Int32).toInt) (q_8 : (10 : Int32).toInt < (kx - x2).toInt) (h_t0 : 0 ≤ tn.toInt) (h_t1 : tn.toInt ≤ 480) (hm : (kl.toInt - kx.toInt).toNat < n + 1) : 0 ≤ kn.toInt := by have z0 : (0 : Int32).toInt = 0 := (by decide); have z1 : (10 : Int32).toInt = 10 := (by decide); have g0 := gz_r kn; have g1 := gz_r kl; have g2 := gz_r kx; have g4 := gz_r tn; have g5 := gz_r x2; omega
theorem s_Tokens_scanNumber_7 {kn : Int32} {kl : Int32} {kx : Int32} {tc : Nat → Int32} {tn : Int32} {x2 : Int32} {n : Nat} (q_1 : ¬ kl.toInt ≤ kx.toInt) (q_7 : (m_Tokens_isDigit (m_Tape_at tc tn kx)).toInt = (0 : Int32).toInt) (q_8 : (10 : Int32).toInt < (kx - x2).toInt) (h_t0 : 0 ≤ tn.toInt) (h_t1 : tn.toInt ≤ 480) (hm : (kl.toInt - kx.toInt).toNat < n + 1) : 0 ≤ kn.toInt := by have z0 : (0 : Int32).toInt = 0 := (by decide); have z1 : (10 : Int32).toInt = 10 := (by decide); have g0 := gz_r kn; have g1 := gz_r kl; have g2 := gz_r kx; have g4 := gz_r tn; have g5 := gz_r x2; omega
theorem s_Tokens_scanNumber_8 {kn : Int32} {kl : Int32} {kx : Int32} {tc : Nat → Int32} {tn : Int32} {x2 : Int32} {n : Nat} (q_1 : ¬ kl.toInt ≤ kx.toInt) (q_7 : (m_Tokens_isDigit (m_Tape_at tc tn kx)).toInt = (0 : Int32).toInt) (q_8 : ¬ (10 : Int32).toInt < (kx - x2).toInt) (h_t0 : 0 ≤ tn.toInt) (h_t1 : tn.toInt ≤ 480) (hm : (kl.toInt - kx.toInt).toNat < n + 1) : 0 ≤ kn.toInt := by have z0 : (0 : Int32).toInt = 0 := (by decide); have z1 : (10 : Int32).toInt = 10 := (by decide); have g0 := gz_r kn; have g1 := gz_r kl; have g2 := gz_r kx; have g4 := gz_r tn; have g5 := gz_r x2; omega
theorem s_Tokens_scanNumber_9 {kn : Int32} {kl : Int32} {kx : Int32} {tc : Nat → Int32} {tn : Int32} {x2 : Int32} {n : Nat} (q_1 : ¬ kl.toInt ≤ kx.toInt) (q_7 : (m_Tokens_isDigit (m_Tape_at tc tn kx)).toInt = (0 : Int32).toInt) (q_8 : ¬ (10 : Int32).toInt < (kx - x2).toInt) (h_t0 : 0 ≤ tn.toInt) (h_t1 : tn.toInt ≤ 480) (hm : (kl.toInt - kx.toInt).toNat < n + 1) : 0 ≤ kn.toInt := by have z0 : (0 : Int32).toInt = 0 := (by decide); have z1 : (10 : Int32).toInt = 10 := (by decide); have g0 := gz_r kn; have g1 := gz_r kl; have g2 := gz_r kx; have g4 := gz_r tn; have g5 := gz_r x2; omega
theorem s_Tokens_scanNumber_10 {tn : Int32} {kl : Int32} {kx : Int32} {tc : Nat → Int32} {n : Nat} (q_1 : ¬ kl.toInt ≤ kx.toInt) (q_7 : ¬ (m_Tokens_isDigit (m_Tape_at tc tn kx)).toInt = (0 : Int32).toInt) (h_t0 : 0 ≤ tn.toInt) (h_t1 : tn.toInt ≤ 480) (hm : (kl.toInt - kx.toInt).toNat < n + 1) : 0 ≤ tn.toInt := by have z0 : (0 : Int32).toInt = 0 := (by decide); have g0 := gz_r tn; have g1 := gz_r kl; have g2 := gz_r kx; omega
theorem s_Tokens_scanNumber_11 {tn : Int32} {kl : Int32} {kx : Int32} {tc : Nat → Int32} {n : Nat} (q_1 : ¬ kl.toInt ≤ kx.toInt) (q_7 : ¬ (m_Tokens_isDigit (m_Tape_at tc tn kx)).toInt = (0 : Int32).toInt) (h_t0 : 0 ≤ tn.toInt) (h_t1 : tn.toInt ≤ 480) (hm : (kl.toInt - kx.toInt).toNat < n + 1) : tn.toInt ≤ 480 := by have z0 : (0 : Int32).toInt = 0 := (by decide); have g0 := gz_r tn; have g1 := gz_r kl; have g2 := gz_r kx; omega
theorem s_Tokens_scanNumber_12 {kl : Int32} {kx : Int32} {n : Nat} {tc : Nat → Int32} {tn : Int32} (q_1 : ¬ kl.toInt ≤ kx.toInt) (q_7 : ¬ (m_Tokens_isDigit (m_Tape_at tc tn kx)).toInt = (0 : Int32).toInt) (h_t0 : 0 ≤ tn.toInt) (h_t1 : tn.toInt ≤ 480) (hm : (kl.toInt - kx.toInt).toNat < n + 1) : (kl.toInt - (kx + 1).toInt).toNat < n := by have z0 : (0 : Int32).toInt = 0 := (by decide); have z1 : (1 : Int32).toInt = 1 := (by decide); have g0 := gz_r kl; have g1 := gz_r kx; have g4 := gz_r tn; have a0 := gz_a kx 1 (by omega) (by omega); omega
set_option maxHeartbeats 4000000 in
set_option maxRecDepth 100000 in
theorem L_Tokens_scanNumber_7 {p : Program} {l : Launch} {e : Env} {s : State} {m : MethodId} {below : List Frame} {meth : Method} {c : Code} {dC : Nat → ClassId} {dI : Nat → Nat → Nat} {cB cI cJ : ClassId} {aK aKk aKp aKv aT aTc : Nat} {kl : Int32} {tc : Nat → Int32} {tn : Int32} {A : Nat → Prop} (C0 : g_Cx p s m meth c b_Tokens_scanNumber 5 none R_Tokens [.ref aK, .ref aT].toArray) (hK : va_K (dC, dI) classes [(cB, .byte), (cI, .int), (cJ, .long)] s) (hA : ∀ q : Nat, s.heap.size ≤ q → A q) (h_t0 : 0 ≤ tn.toInt) (h_t1 : tn.toInt ≤ 480) {res : (Nat → Int32) × (Nat → Int32) × (Nat → Int64) × Int32 × Int32} :
    ∀ (n : Nat) (x2 : Int32) (x3 : Int64) (kk : Nat → Int32) (kp : Nat → Int32) (kv : Nat → Int64) (kn : Int32) (kx : Int32), ((kl.toInt - kx.toInt).toNat) < n → m_Tokens_scanNumber_L7 kl tc tn n x2 x3 kk kp kv kn kx = res → ∀ (H : Heap) (locs : List Loc) (ls : Array Slot), va_P (dC, dI) classes [(aK, .inr (1, [.ref aKk, .ref aKp, .ref aKv, .int kn, .int kl, .int kx])), (aKk, .inl (cI, 480, .inl kk)), (aKp, .inl (cI, 480, .inl kp)), (aKv, .inl (cJ, 480, .inr (.inl kv))), (aT, .inr (0, [.ref aTc, .int tn])), (aTc, .inl (cB, 480, .inl tc))] H → va_D A [(aK, .inr (1, [.ref aKk, .ref aKp, .ref aKv, .int kn, .int kl, .int kx])), (aKk, .inl (cI, 480, .inl kk)), (aKp, .inl (cI, 480, .inl kp)), (aKv, .inl (cJ, 480, .inr (.inl kv))), (aT, .inr (0, [.ref aTc, .int tn])), (aTc, .inl (cB, 480, .inl tc))] → va_S A s.heap H locs → lv_has ls 5 [(3, .long x3), (2, .int x2), (0, .ref aK), (1, .ref aT)] → W p l e ({ frames := 1, cells := 0, slots := 0, locals := 24 }) s m [.ref aK, .ref aT].toArray below meth c H locs 0 0 (MQ below (va_Qv (fun u : (Nat → Int32) × (Nat → Int32) × (Nat → Int64) × Int32 × Int32 => u = res) (fun u => g_post dC dI [(cB, .byte), (cI, .int), (cJ, .long)] (A) [(aK, .inr (1, [.ref aKk, .ref aKp, .ref aKv, .int u.2.2.2.1, .int kl, .int u.2.2.2.2])), (aKk, .inl (cI, 480, .inl u.1)), (aKp, .inl (cI, 480, .inl u.2.1)), (aKv, .inl (cJ, 480, .inr (.inl u.2.2.1))), (aT, .inr (0, [.ref aTc, .int tn])), (aTc, .inl (cB, 480, .inl tc))]) (A)) [.ref aK, .ref aT].toArray s 0 0 A) (F0 m 7 ls []) := by
  obtain ⟨hx, hb, hml, hr, hown, hts, hlocks⟩ := id C0
  intro n
  induction n with
  | zero => intro x2 x3 kk kp kv kn kx hm; exact absurd hm (Nat.not_lt_zero _)
  | succ n ih =>
    intro x2 x3 kk kp kv kn kx hm  hres H locs ls hP hD hS hl
    refine lv_aload_n hx hb d_Tokens_scanNumber_7 rfl (lv_at hl 2 rfl) ?_
    refine va_get (D := (dC, dI)) (ci := 1) (v := .int kx) (C := R_Tokens) (T := F_Tokens) (N := 6) hx hb hts i_Tokens hown hK hP 0 rfl rfl 5 (by decide) (hts _ tw_8) (fun _ h9 => h9) rfl d_Tokens_scanNumber_8 ?_
    refine lv_aload_n hx hb d_Tokens_scanNumber_11 rfl (lv_at hl 2 rfl) ?_
    refine va_get (D := (dC, dI)) (ci := 1) (v := .int kl) (C := R_Tokens) (T := F_Tokens) (N := 6) hx hb hts i_Tokens hown hK hP 0 rfl rfl 4 (by decide) (hts _ tw_5) (fun _ h9 => h9) rfl d_Tokens_scanNumber_12 ?_
    refine lv_icmp_ge (tgt := 64) hx hb d_Tokens_scanNumber_15 (by decide) (fun c_1 => ?_) (fun c_1 => ?_)
    · have q_1 := Int32.le_iff_toInt_le.mp c_1
      refine lv_aload_n hx hb d_Tokens_scanNumber_64 rfl (lv_at hl 2 rfl) ?_
      refine lv_aload_n hx hb d_Tokens_scanNumber_65 rfl (lv_at hl 2 rfl) ?_
      refine va_get (D := (dC, dI)) (ci := 1) (v := .int kx) (C := R_Tokens) (T := F_Tokens) (N := 6) hx hb hts i_Tokens hown hK hP 0 rfl rfl 5 (by decide) (hts _ tw_8) (fun _ h9 => h9) rfl d_Tokens_scanNumber_66 ?_
      refine lv_iload_n hx hb d_Tokens_scanNumber_69 rfl (lv_at hl 1 rfl) ?_
      refine lv_isub hx hb d_Tokens_scanNumber_70 ?_
      refine lv_bipush (v := 10) hx hb d_Tokens_scanNumber_71 (by decide) ?_
      refine lv_icmp_gt (tgt := 80) hx hb d_Tokens_scanNumber_73 (by decide) (fun c_2 => ?_) (fun c_2 => ?_)
      · have q_2 := Int32.lt_iff_toInt_lt.mp c_2
        refine lv_iconst (v := 1) hx hb d_Tokens_scanNumber_80 (by decide) ?_
        refine lv_iload_n hx hb d_Tokens_scanNumber_81 rfl (lv_at hl 1 rfl) ?_
        refine lv_lload_n hx hb d_Tokens_scanNumber_82 rfl (lv_at hl 0 rfl) ?_
        refine gk_v (isC := [0, 1, 2, 3]) (isR := [4, 5]) (perm := [2, 3, 4, 5, 0, 1]) (wr := [(aT, .inr (0, [.ref aTc, .int tn])), (aTc, .inl (cB, 480, .inl tc))]) (can := fun u => [(aK, .inr (1, [.ref aKk, .ref aKp, .ref aKv, .int u.2.2.2, .int kl, .int kx])), (aKk, .inl (cI, 480, .inl u.1)), (aKp, .inl (cI, 480, .inl u.2.1)), (aKv, .inl (cJ, 480, .inr (.inl u.2.2.1))), (aT, .inr (0, [.ref aTc, .int tn])), (aTc, .inl (cB, 480, .inl tc))]) (gr_V C0 (c_Tokens_add l dC dI cB cI cJ aK aKk aKp aKv _ kk kp kv kn kl kx 1 x2 x3 (s_Tokens_scanNumber_0 q_1 q_2 h_t0 h_t1 hm)) cs_Tokens_57 hK hP hD [0, 1, 2, 3] rfl (by decide) g_tb g_tx (ci := 1) (k := 0) rfl rfl rfl rfl hl.1 rfl (lv_room (Nat.le_of_ble_eq_true rfl)) d_Tokens_scanNumber_83 ⟨Nat.le_of_ble_eq_true rfl, Nat.le_of_ble_eq_true rfl⟩ ⟨Nat.le_of_ble_eq_true rfl, Nat.le_of_ble_eq_true rfl⟩) hP hD hS hA rfl rfl (by decide) (by decide) (by decide) (fun _ => rfl) (fun u_3 H locs hw_3 hP hD hS => ?_)
        obtain ⟨u3_kk, u3_kp, u3_kv, u3_kn⟩ := u_3
        have hP : va_P (dC, dI) classes [(aK, .inr (1, [.ref aKk, .ref aKp, .ref aKv, .int u3_kn, .int kl, .int kx])), (aKk, .inl (cI, 480, .inl u3_kk)), (aKp, .inl (cI, 480, .inl u3_kp)), (aKv, .inl (cJ, 480, .inr (.inl u3_kv))), (aT, .inr (0, [.ref aTc, .int tn])), (aTc, .inl (cB, 480, .inl tc))] H := hP
        have hD : va_D A [(aK, .inr (1, [.ref aKk, .ref aKp, .ref aKv, .int u3_kn, .int kl, .int kx])), (aKk, .inl (cI, 480, .inl u3_kk)), (aKp, .inl (cI, 480, .inl u3_kp)), (aKv, .inl (cJ, 480, .inr (.inl u3_kv))), (aT, .inr (0, [.ref aTc, .int tn])), (aTc, .inl (cB, 480, .inl tc))] := hD
        have v0_3 := v_Tokens_add hw_3 (s_Tokens_scanNumber_1 q_1 q_2 h_t0 h_t1 hm)
        exact W.vret hx hb hr (fun t ht hW => ⟨⟨(u3_kk, u3_kp, u3_kv, u3_kn, kx), rfl, by rw [← hres]; simp only [m_Tokens_scanNumber_L7, if_pos c_1, if_pos c_2, ← hw_3], by rw [ht]; exact hP, va_K.moved hW.alike hK, hD⟩, hS.F ht⟩) hS.2.2 d_Tokens_scanNumber_86
      · have q_2 := mt Int32.lt_iff_toInt_lt.mpr c_2
        refine lv_iconst (v := 3) hx hb d_Tokens_scanNumber_76 (by decide) ?_
        refine lv_goto (tgt := 81) hx hb d_Tokens_scanNumber_77 (by decide) ?_
        refine lv_iload_n hx hb d_Tokens_scanNumber_81 rfl (lv_at hl 1 rfl) ?_
        refine lv_lload_n hx hb d_Tokens_scanNumber_82 rfl (lv_at hl 0 rfl) ?_
        refine gk_v (isC := [0, 1, 2, 3]) (isR := [4, 5]) (perm := [2, 3, 4, 5, 0, 1]) (wr := [(aT, .inr (0, [.ref aTc, .int tn])), (aTc, .inl (cB, 480, .inl tc))]) (can := fun u => [(aK, .inr (1, [.ref aKk, .ref aKp, .ref aKv, .int u.2.2.2, .int kl, .int kx])), (aKk, .inl (cI, 480, .inl u.1)), (aKp, .inl (cI, 480, .inl u.2.1)), (aKv, .inl (cJ, 480, .inr (.inl u.2.2.1))), (aT, .inr (0, [.ref aTc, .int tn])), (aTc, .inl (cB, 480, .inl tc))]) (gr_V C0 (c_Tokens_add l dC dI cB cI cJ aK aKk aKp aKv _ kk kp kv kn kl kx 3 x2 x3 (s_Tokens_scanNumber_2 q_1 q_2 h_t0 h_t1 hm)) cs_Tokens_57 hK hP hD [0, 1, 2, 3] rfl (by decide) g_tb g_tx (ci := 1) (k := 0) rfl rfl rfl rfl hl.1 rfl (lv_room (Nat.le_of_ble_eq_true rfl)) d_Tokens_scanNumber_83 ⟨Nat.le_of_ble_eq_true rfl, Nat.le_of_ble_eq_true rfl⟩ ⟨Nat.le_of_ble_eq_true rfl, Nat.le_of_ble_eq_true rfl⟩) hP hD hS hA rfl rfl (by decide) (by decide) (by decide) (fun _ => rfl) (fun u_4 H locs hw_4 hP hD hS => ?_)
        obtain ⟨u4_kk, u4_kp, u4_kv, u4_kn⟩ := u_4
        have hP : va_P (dC, dI) classes [(aK, .inr (1, [.ref aKk, .ref aKp, .ref aKv, .int u4_kn, .int kl, .int kx])), (aKk, .inl (cI, 480, .inl u4_kk)), (aKp, .inl (cI, 480, .inl u4_kp)), (aKv, .inl (cJ, 480, .inr (.inl u4_kv))), (aT, .inr (0, [.ref aTc, .int tn])), (aTc, .inl (cB, 480, .inl tc))] H := hP
        have hD : va_D A [(aK, .inr (1, [.ref aKk, .ref aKp, .ref aKv, .int u4_kn, .int kl, .int kx])), (aKk, .inl (cI, 480, .inl u4_kk)), (aKp, .inl (cI, 480, .inl u4_kp)), (aKv, .inl (cJ, 480, .inr (.inl u4_kv))), (aT, .inr (0, [.ref aTc, .int tn])), (aTc, .inl (cB, 480, .inl tc))] := hD
        have v0_4 := v_Tokens_add hw_4 (s_Tokens_scanNumber_3 q_1 q_2 h_t0 h_t1 hm)
        exact W.vret hx hb hr (fun t ht hW => ⟨⟨(u4_kk, u4_kp, u4_kv, u4_kn, kx), rfl, by rw [← hres]; simp only [m_Tokens_scanNumber_L7, if_pos c_1, if_neg c_2, ← hw_4], by rw [ht]; exact hP, va_K.moved hW.alike hK, hD⟩, hS.F ht⟩) hS.2.2 d_Tokens_scanNumber_86
    · have q_1 := mt Int32.le_iff_toInt_le.mpr c_1
      refine lv_aload_n hx hb d_Tokens_scanNumber_18 rfl (lv_at hl 3 rfl) ?_
      refine lv_aload_n hx hb d_Tokens_scanNumber_19 rfl (lv_at hl 2 rfl) ?_
      refine va_get (D := (dC, dI)) (ci := 1) (v := .int kx) (C := R_Tokens) (T := F_Tokens) (N := 6) hx hb hts i_Tokens hown hK hP 0 rfl rfl 5 (by decide) (hts _ tw_8) (fun _ h9 => h9) rfl d_Tokens_scanNumber_20 ?_
      refine gk_i (isC := [4, 5]) (isR := [0, 1, 2, 3]) (perm := [0, 1, 2, 3, 4, 5]) (wr := [(aK, .inr (1, [.ref aKk, .ref aKp, .ref aKv, .int kn, .int kl, .int kx])), (aKk, .inl (cI, 480, .inl kk)), (aKp, .inl (cI, 480, .inl kp)), (aKv, .inl (cJ, 480, .inr (.inl kv)))]) (can := fun u => [(aK, .inr (1, [.ref aKk, .ref aKp, .ref aKv, .int kn, .int kl, .int kx])), (aKk, .inl (cI, 480, .inl kk)), (aKp, .inl (cI, 480, .inl kp)), (aKv, .inl (cJ, 480, .inr (.inl kv))), (aT, .inr (0, [.ref aTc, .int tn])), (aTc, .inl (cB, 480, .inl tc))]) (gr_V C0 (c_Tape_at l dC dI cB cI cJ aT aTc _ tc tn kx (s_Tokens_scanNumber_4 q_1 h_t0 h_t1 hm) (s_Tokens_scanNumber_5 q_1 h_t0 h_t1 hm)) cs_Tokens_36 hK hP hD [4, 5] rfl (by decide) g_tb g_tx (ci := 0) (k := 0) rfl rfl rfl rfl hl.1 rfl (lv_room (Nat.le_of_ble_eq_true rfl)) d_Tokens_scanNumber_23 ⟨Nat.le_of_ble_eq_true rfl, Nat.le_of_ble_eq_true rfl⟩ ⟨Nat.le_of_ble_eq_true rfl, Nat.le_of_ble_eq_true rfl⟩) hP hD hS hA rfl rfl (by decide) (by decide) (by decide) (fun _ => rfl) (fun r_5 u_5 H locs hw_5 hP hD hS => ?_)
      subst hw_5
      have hP : va_P (dC, dI) classes [(aK, .inr (1, [.ref aKk, .ref aKp, .ref aKv, .int kn, .int kl, .int kx])), (aKk, .inl (cI, 480, .inl kk)), (aKp, .inl (cI, 480, .inl kp)), (aKv, .inl (cJ, 480, .inr (.inl kv))), (aT, .inr (0, [.ref aTc, .int tn])), (aTc, .inl (cB, 480, .inl tc))] H := hP
      have hD : va_D A [(aK, .inr (1, [.ref aKk, .ref aKp, .ref aKv, .int kn, .int kl, .int kx])), (aKk, .inl (cI, 480, .inl kk)), (aKp, .inl (cI, 480, .inl kp)), (aKv, .inl (cJ, 480, .inr (.inl kv))), (aT, .inr (0, [.ref aTc, .int tn])), (aTc, .inl (cB, 480, .inl tc))] := hD
      refine gk_i (isC := []) (isR := [0, 1, 2, 3, 4, 5]) (perm := [0, 1, 2, 3, 4, 5]) (wr := [(aK, .inr (1, [.ref aKk, .ref aKp, .ref aKv, .int kn, .int kl, .int kx])), (aKk, .inl (cI, 480, .inl kk)), (aKp, .inl (cI, 480, .inl kp)), (aKv, .inl (cJ, 480, .inr (.inl kv))), (aT, .inr (0, [.ref aTc, .int tn])), (aTc, .inl (cB, 480, .inl tc))]) (can := fun u => [(aK, .inr (1, [.ref aKk, .ref aKp, .ref aKv, .int kn, .int kl, .int kx])), (aKk, .inl (cI, 480, .inl kk)), (aKp, .inl (cI, 480, .inl kp)), (aKv, .inl (cJ, 480, .inr (.inl kv))), (aT, .inr (0, [.ref aTc, .int tn])), (aTc, .inl (cB, 480, .inl tc))]) (gr_S C0 (c_Tokens_isDigit l dC dI cB cI cJ _ (m_Tape_at tc tn kx)) cs_Tokens_48 hK hP hD [] rfl (by decide) g_tb g_tx rfl rfl hl.1 rfl (lv_room (Nat.le_of_ble_eq_true rfl)) d_Tokens_scanNumber_26 ⟨Nat.le_of_ble_eq_true rfl, Nat.le_of_ble_eq_true rfl⟩ ⟨Nat.le_of_ble_eq_true rfl, Nat.le_of_ble_eq_true rfl⟩) hP hD hS hA rfl rfl (by decide) (by decide) (by decide) (fun _ => rfl) (fun r_6 u_6 H locs hw_6 hP hD hS => ?_)
      obtain ⟨hw_6, hb_6⟩ := hw_6
      subst hw_6
      have hP : va_P (dC, dI) classes [(aK, .inr (1, [.ref aKk, .ref aKp, .ref aKv, .int kn, .int kl, .int kx])), (aKk, .inl (cI, 480, .inl kk)), (aKp, .inl (cI, 480, .inl kp)), (aKv, .inl (cJ, 480, .inr (.inl kv))), (aT, .inr (0, [.ref aTc, .int tn])), (aTc, .inl (cB, 480, .inl tc))] H := hP
      have hD : va_D A [(aK, .inr (1, [.ref aKk, .ref aKp, .ref aKv, .int kn, .int kl, .int kx])), (aKk, .inl (cI, 480, .inl kk)), (aKp, .inl (cI, 480, .inl kp)), (aKv, .inl (cJ, 480, .inr (.inl kv))), (aT, .inr (0, [.ref aTc, .int tn])), (aTc, .inl (cB, 480, .inl tc))] := hD
      refine lv_if_eq (tgt := 64) hx hb d_Tokens_scanNumber_29 (by decide) (fun c_7 => ?_) (fun c_7 => ?_)
      · have q_7 := congrArg Int32.toInt c_7
        refine lv_aload_n hx hb d_Tokens_scanNumber_64 rfl (lv_at hl 2 rfl) ?_
        refine lv_aload_n hx hb d_Tokens_scanNumber_65 rfl (lv_at hl 2 rfl) ?_
        refine va_get (D := (dC, dI)) (ci := 1) (v := .int kx) (C := R_Tokens) (T := F_Tokens) (N := 6) hx hb hts i_Tokens hown hK hP 0 rfl rfl 5 (by decide) (hts _ tw_8) (fun _ h9 => h9) rfl d_Tokens_scanNumber_66 ?_
        refine lv_iload_n hx hb d_Tokens_scanNumber_69 rfl (lv_at hl 1 rfl) ?_
        refine lv_isub hx hb d_Tokens_scanNumber_70 ?_
        refine lv_bipush (v := 10) hx hb d_Tokens_scanNumber_71 (by decide) ?_
        refine lv_icmp_gt (tgt := 80) hx hb d_Tokens_scanNumber_73 (by decide) (fun c_8 => ?_) (fun c_8 => ?_)
        · have q_8 := Int32.lt_iff_toInt_lt.mp c_8
          refine lv_iconst (v := 1) hx hb d_Tokens_scanNumber_80 (by decide) ?_
          refine lv_iload_n hx hb d_Tokens_scanNumber_81 rfl (lv_at hl 1 rfl) ?_
          refine lv_lload_n hx hb d_Tokens_scanNumber_82 rfl (lv_at hl 0 rfl) ?_
          refine gk_v (isC := [0, 1, 2, 3]) (isR := [4, 5]) (perm := [2, 3, 4, 5, 0, 1]) (wr := [(aT, .inr (0, [.ref aTc, .int tn])), (aTc, .inl (cB, 480, .inl tc))]) (can := fun u => [(aK, .inr (1, [.ref aKk, .ref aKp, .ref aKv, .int u.2.2.2, .int kl, .int kx])), (aKk, .inl (cI, 480, .inl u.1)), (aKp, .inl (cI, 480, .inl u.2.1)), (aKv, .inl (cJ, 480, .inr (.inl u.2.2.1))), (aT, .inr (0, [.ref aTc, .int tn])), (aTc, .inl (cB, 480, .inl tc))]) (gr_V C0 (c_Tokens_add l dC dI cB cI cJ aK aKk aKp aKv _ kk kp kv kn kl kx 1 x2 x3 (s_Tokens_scanNumber_6 q_1 q_7 q_8 h_t0 h_t1 hm)) cs_Tokens_57 hK hP hD [0, 1, 2, 3] rfl (by decide) g_tb g_tx (ci := 1) (k := 0) rfl rfl rfl rfl hl.1 rfl (lv_room (Nat.le_of_ble_eq_true rfl)) d_Tokens_scanNumber_83 ⟨Nat.le_of_ble_eq_true rfl, Nat.le_of_ble_eq_true rfl⟩ ⟨Nat.le_of_ble_eq_true rfl, Nat.le_of_ble_eq_true rfl⟩) hP hD hS hA rfl rfl (by decide) (by decide) (by decide) (fun _ => rfl) (fun u_9 H locs hw_9 hP hD hS => ?_)
          obtain ⟨u9_kk, u9_kp, u9_kv, u9_kn⟩ := u_9
          have hP : va_P (dC, dI) classes [(aK, .inr (1, [.ref aKk, .ref aKp, .ref aKv, .int u9_kn, .int kl, .int kx])), (aKk, .inl (cI, 480, .inl u9_kk)), (aKp, .inl (cI, 480, .inl u9_kp)), (aKv, .inl (cJ, 480, .inr (.inl u9_kv))), (aT, .inr (0, [.ref aTc, .int tn])), (aTc, .inl (cB, 480, .inl tc))] H := hP
          have hD : va_D A [(aK, .inr (1, [.ref aKk, .ref aKp, .ref aKv, .int u9_kn, .int kl, .int kx])), (aKk, .inl (cI, 480, .inl u9_kk)), (aKp, .inl (cI, 480, .inl u9_kp)), (aKv, .inl (cJ, 480, .inr (.inl u9_kv))), (aT, .inr (0, [.ref aTc, .int tn])), (aTc, .inl (cB, 480, .inl tc))] := hD
          have v0_9 := v_Tokens_add hw_9 (s_Tokens_scanNumber_7 q_1 q_7 q_8 h_t0 h_t1 hm)
          exact W.vret hx hb hr (fun t ht hW => ⟨⟨(u9_kk, u9_kp, u9_kv, u9_kn, kx), rfl, by rw [← hres]; simp only [m_Tokens_scanNumber_L7, if_neg c_1, if_pos c_7, if_pos c_8, ← hw_9], by rw [ht]; exact hP, va_K.moved hW.alike hK, hD⟩, hS.F ht⟩) hS.2.2 d_Tokens_scanNumber_86
        · have q_8 := mt Int32.lt_iff_toInt_lt.mpr c_8
          refine lv_iconst (v := 3) hx hb d_Tokens_scanNumber_76 (by decide) ?_
          refine lv_goto (tgt := 81) hx hb d_Tokens_scanNumber_77 (by decide) ?_
          refine lv_iload_n hx hb d_Tokens_scanNumber_81 rfl (lv_at hl 1 rfl) ?_
          refine lv_lload_n hx hb d_Tokens_scanNumber_82 rfl (lv_at hl 0 rfl) ?_
          refine gk_v (isC := [0, 1, 2, 3]) (isR := [4, 5]) (perm := [2, 3, 4, 5, 0, 1]) (wr := [(aT, .inr (0, [.ref aTc, .int tn])), (aTc, .inl (cB, 480, .inl tc))]) (can := fun u => [(aK, .inr (1, [.ref aKk, .ref aKp, .ref aKv, .int u.2.2.2, .int kl, .int kx])), (aKk, .inl (cI, 480, .inl u.1)), (aKp, .inl (cI, 480, .inl u.2.1)), (aKv, .inl (cJ, 480, .inr (.inl u.2.2.1))), (aT, .inr (0, [.ref aTc, .int tn])), (aTc, .inl (cB, 480, .inl tc))]) (gr_V C0 (c_Tokens_add l dC dI cB cI cJ aK aKk aKp aKv _ kk kp kv kn kl kx 3 x2 x3 (s_Tokens_scanNumber_8 q_1 q_7 q_8 h_t0 h_t1 hm)) cs_Tokens_57 hK hP hD [0, 1, 2, 3] rfl (by decide) g_tb g_tx (ci := 1) (k := 0) rfl rfl rfl rfl hl.1 rfl (lv_room (Nat.le_of_ble_eq_true rfl)) d_Tokens_scanNumber_83 ⟨Nat.le_of_ble_eq_true rfl, Nat.le_of_ble_eq_true rfl⟩ ⟨Nat.le_of_ble_eq_true rfl, Nat.le_of_ble_eq_true rfl⟩) hP hD hS hA rfl rfl (by decide) (by decide) (by decide) (fun _ => rfl) (fun u_10 H locs hw_10 hP hD hS => ?_)
          obtain ⟨u10_kk, u10_kp, u10_kv, u10_kn⟩ := u_10
          have hP : va_P (dC, dI) classes [(aK, .inr (1, [.ref aKk, .ref aKp, .ref aKv, .int u10_kn, .int kl, .int kx])), (aKk, .inl (cI, 480, .inl u10_kk)), (aKp, .inl (cI, 480, .inl u10_kp)), (aKv, .inl (cJ, 480, .inr (.inl u10_kv))), (aT, .inr (0, [.ref aTc, .int tn])), (aTc, .inl (cB, 480, .inl tc))] H := hP
          have hD : va_D A [(aK, .inr (1, [.ref aKk, .ref aKp, .ref aKv, .int u10_kn, .int kl, .int kx])), (aKk, .inl (cI, 480, .inl u10_kk)), (aKp, .inl (cI, 480, .inl u10_kp)), (aKv, .inl (cJ, 480, .inr (.inl u10_kv))), (aT, .inr (0, [.ref aTc, .int tn])), (aTc, .inl (cB, 480, .inl tc))] := hD
          have v0_10 := v_Tokens_add hw_10 (s_Tokens_scanNumber_9 q_1 q_7 q_8 h_t0 h_t1 hm)
          exact W.vret hx hb hr (fun t ht hW => ⟨⟨(u10_kk, u10_kp, u10_kv, u10_kn, kx), rfl, by rw [← hres]; simp only [m_Tokens_scanNumber_L7, if_neg c_1, if_pos c_7, if_neg c_8, ← hw_10], by rw [ht]; exact hP, va_K.moved hW.alike hK, hD⟩, hS.F ht⟩) hS.2.2 d_Tokens_scanNumber_86
      · have q_7 : ¬ _ = _ := fun h => c_7 (Int32.toInt_inj.mp h)
        refine lv_lload_n hx hb d_Tokens_scanNumber_32 rfl (lv_at hl 0 rfl) ?_
        refine lv_ldc2 hx hb (v := 10) hown (hts _ tw_9) d_Tokens_scanNumber_33 ?_
        refine lv_lmul hx hb d_Tokens_scanNumber_36 ?_
        refine lv_aload_n hx hb d_Tokens_scanNumber_37 rfl (lv_at hl 3 rfl) ?_
        refine lv_aload_n hx hb d_Tokens_scanNumber_38 rfl (lv_at hl 2 rfl) ?_
        refine va_get (D := (dC, dI)) (ci := 1) (v := .int kx) (C := R_Tokens) (T := F_Tokens) (N := 6) hx hb hts i_Tokens hown hK hP 0 rfl rfl 5 (by decide) (hts _ tw_8) (fun _ h9 => h9) rfl d_Tokens_scanNumber_39 ?_
        refine gk_i (isC := [4, 5]) (isR := [0, 1, 2, 3]) (perm := [0, 1, 2, 3, 4, 5]) (wr := [(aK, .inr (1, [.ref aKk, .ref aKp, .ref aKv, .int kn, .int kl, .int kx])), (aKk, .inl (cI, 480, .inl kk)), (aKp, .inl (cI, 480, .inl kp)), (aKv, .inl (cJ, 480, .inr (.inl kv)))]) (can := fun u => [(aK, .inr (1, [.ref aKk, .ref aKp, .ref aKv, .int kn, .int kl, .int kx])), (aKk, .inl (cI, 480, .inl kk)), (aKp, .inl (cI, 480, .inl kp)), (aKv, .inl (cJ, 480, .inr (.inl kv))), (aT, .inr (0, [.ref aTc, .int tn])), (aTc, .inl (cB, 480, .inl tc))]) (gr_V C0 (c_Tape_at l dC dI cB cI cJ aT aTc _ tc tn kx (s_Tokens_scanNumber_10 q_1 q_7 h_t0 h_t1 hm) (s_Tokens_scanNumber_11 q_1 q_7 h_t0 h_t1 hm)) cs_Tokens_36 hK hP hD [4, 5] rfl (by decide) g_tb g_tx (ci := 0) (k := 0) rfl rfl rfl rfl hl.1 rfl (lv_room (Nat.le_of_ble_eq_true rfl)) d_Tokens_scanNumber_42 ⟨Nat.le_of_ble_eq_true rfl, Nat.le_of_ble_eq_true rfl⟩ ⟨Nat.le_of_ble_eq_true rfl, Nat.le_of_ble_eq_true rfl⟩) hP hD hS hA rfl rfl (by decide) (by decide) (by decide) (fun _ => rfl) (fun r_11 u_11 H locs hw_11 hP hD hS => ?_)
        subst hw_11
        have hP : va_P (dC, dI) classes [(aK, .inr (1, [.ref aKk, .ref aKp, .ref aKv, .int kn, .int kl, .int kx])), (aKk, .inl (cI, 480, .inl kk)), (aKp, .inl (cI, 480, .inl kp)), (aKv, .inl (cJ, 480, .inr (.inl kv))), (aT, .inr (0, [.ref aTc, .int tn])), (aTc, .inl (cB, 480, .inl tc))] H := hP
        have hD : va_D A [(aK, .inr (1, [.ref aKk, .ref aKp, .ref aKv, .int kn, .int kl, .int kx])), (aKk, .inl (cI, 480, .inl kk)), (aKp, .inl (cI, 480, .inl kp)), (aKv, .inl (cJ, 480, .inr (.inl kv))), (aT, .inr (0, [.ref aTc, .int tn])), (aTc, .inl (cB, 480, .inl tc))] := hD
        refine lv_bipush (v := 48) hx hb d_Tokens_scanNumber_45 (by decide) ?_
        refine lv_isub hx hb d_Tokens_scanNumber_47 ?_
        refine lv_i2l (v := (((m_Tape_at tc tn kx) - 48).toInt64)) hx hb d_Tokens_scanNumber_48 rfl ?_
        refine lv_ladd hx hb d_Tokens_scanNumber_49 ?_
        refine lv_lstore_n (lv' := [(3, .long ((x3 * 10) + (((m_Tape_at tc tn kx) - 48).toInt64))), (2, .int x2), (0, .ref aK), (1, .ref aT)]) hx hb d_Tokens_scanNumber_50 rfl hl (by decide) rfl (fun ls hl => ?_)
        refine lv_aload_n hx hb d_Tokens_scanNumber_51 rfl (lv_at hl 2 rfl) ?_
        refine lv_dup hx hb d_Tokens_scanNumber_52 rfl ?_
        refine va_get (D := (dC, dI)) (ci := 1) (v := .int kx) (C := R_Tokens) (T := F_Tokens) (N := 6) hx hb hts i_Tokens hown hK hP 0 rfl rfl 5 (by decide) (hts _ tw_8) (fun _ h9 => h9) rfl d_Tokens_scanNumber_53 ?_
        refine lv_iconst (v := 1) hx hb d_Tokens_scanNumber_56 (by decide) ?_
        refine lv_iadd hx hb d_Tokens_scanNumber_57 ?_
        refine va_put (D := (dC, dI)) (ci := 1) (v := .int (kx + 1)) (ty := .int) (C := R_Tokens) (T := F_Tokens) (N := 6) hx hb hts i_Tokens t_Tokens t_Tokens_ok n_Tokens hown hK hP hD hS 0 rfl rfl 5 (by decide) (hts _ tw_8) (fun _ h9 => h9) rfl (by decide +kernel) rfl rfl (Nat.le_of_ble_eq_true rfl) d_Tokens_scanNumber_58 (fun H locs hP hD hS => ?_)
        have hP : va_P (dC, dI) classes [(aK, .inr (1, [.ref aKk, .ref aKp, .ref aKv, .int kn, .int kl, .int (kx + 1)])), (aKk, .inl (cI, 480, .inl kk)), (aKp, .inl (cI, 480, .inl kp)), (aKv, .inl (cJ, 480, .inr (.inl kv))), (aT, .inr (0, [.ref aTc, .int tn])), (aTc, .inl (cB, 480, .inl tc))] H := hP
        have hD : va_D A [(aK, .inr (1, [.ref aKk, .ref aKp, .ref aKv, .int kn, .int kl, .int (kx + 1)])), (aKk, .inl (cI, 480, .inl kk)), (aKp, .inl (cI, 480, .inl kp)), (aKv, .inl (cJ, 480, .inr (.inl kv))), (aT, .inr (0, [.ref aTc, .int tn])), (aTc, .inl (cB, 480, .inl tc))] := hD
        refine lv_goto (tgt := 7) hx hb d_Tokens_scanNumber_61 (by decide) ?_
        exact ih  x2 ((x3 * 10) + (((m_Tape_at tc tn kx) - 48).toInt64)) kk kp kv kn (kx + 1) (s_Tokens_scanNumber_12 q_1 q_7 h_t0 h_t1 hm) (by rw [← hres]; simp only [m_Tokens_scanNumber_L7, if_neg c_1, if_neg c_7]) _ _ _ hP hD hS (lv_sub hl [0, 1, 2, 3] rfl)
def m_Tokens_scanNumber (kk : Nat → Int32) (kp : Nat → Int32) (kv : Nat → Int64) (kn : Int32) (kl : Int32) (kx : Int32) (tc : Nat → Int32) (tn : Int32) : (Nat → Int32) × (Nat → Int32) × (Nat → Int64) × Int32 × Int32 :=
  m_Tokens_scanNumber_L7 kl tc tn ((kl.toInt - kx.toInt).toNat + 1) kx 0 kk kp kv kn kx
theorem s_Tokens_scanNumber_13 {kl : Int32} {kx : Int32} {kn : Int32} {tn : Int32} (h_k0 : 0 ≤ kn.toInt) (h_t0 : 0 ≤ tn.toInt) (h_t1 : tn.toInt ≤ 480) : (kl.toInt - kx.toInt).toNat < ((kl.toInt - kx.toInt).toNat + 1) := by have g0 := gz_r kl; have g1 := gz_r kx; have g2 := gz_r kn; have g3 := gz_r tn; omega
set_option maxHeartbeats 4000000 in
set_option maxRecDepth 100000 in
theorem c_Tokens_scanNumber (l : Launch) (dC : Nat → ClassId) (dI : Nat → Nat → Nat) (cB cI cJ : ClassId) (aK aKk aKp aKv aT aTc : Nat) (sz : Nat) (kk : Nat → Int32) (kp : Nat → Int32) (kv : Nat → Int64) (kn : Int32) (kl : Int32) (kx : Int32) (tc : Nat → Int32) (tn : Int32) (h_k0 : 0 ≤ kn.toInt) (h_t0 : 0 ≤ tn.toInt) (h_t1 : tn.toInt ≤ 480) : Met l y_Tokens_scanNumber w_Tokens_scanNumber ({ frames := 1, cells := 0, slots := 0, locals := 24 }) (va_Pc [.ref aK, .ref aT] (g_pre dC dI [(cB, .byte), (cI, .int), (cJ, .long)] sz [(aK, .inr (1, [.ref aKk, .ref aKp, .ref aKv, .int kn, .int kl, .int kx])), (aKk, .inl (cI, 480, .inl kk)), (aKp, .inl (cI, 480, .inl kp)), (aKv, .inl (cJ, 480, .inr (.inl kv))), (aT, .inr (0, [.ref aTc, .int tn])), (aTc, .inl (cB, 480, .inl tc))] (fun _ => True))) (va_Qv (fun u : (Nat → Int32) × (Nat → Int32) × (Nat → Int64) × Int32 × Int32 => u = (m_Tokens_scanNumber kk kp kv kn kl kx tc tn)) (fun u => g_post dC dI [(cB, .byte), (cI, .int), (cJ, .long)] (va_A [(aK, .inr (1, [.ref aKk, .ref aKp, .ref aKv, .int kn, .int kl, .int kx])), (aKk, .inl (cI, 480, .inl kk)), (aKp, .inl (cI, 480, .inl kp)), (aKv, .inl (cJ, 480, .inr (.inl kv))), (aT, .inr (0, [.ref aTc, .int tn])), (aTc, .inl (cB, 480, .inl tc))] sz) [(aK, .inr (1, [.ref aKk, .ref aKp, .ref aKv, .int u.2.2.2.1, .int kl, .int u.2.2.2.2])), (aKk, .inl (cI, 480, .inl u.1)), (aKp, .inl (cI, 480, .inl u.2.1)), (aKv, .inl (cJ, 480, .inr (.inl u.2.2.1))), (aT, .inr (0, [.ref aTc, .int tn])), (aTc, .inl (cB, 480, .inl tc))]) (va_A [(aK, .inr (1, [.ref aKk, .ref aKp, .ref aKv, .int kn, .int kl, .int kx])), (aKk, .inl (cI, 480, .inl kk)), (aKp, .inl (cI, 480, .inl kp)), (aKv, .inl (cJ, 480, .inr (.inl kv))), (aT, .inr (0, [.ref aTc, .int tn])), (aTc, .inl (cB, 480, .inl tc))] sz)) 0 0 (va_A [(aK, .inr (1, [.ref aKk, .ref aKp, .ref aKv, .int kn, .int kl, .int kx])), (aKk, .inl (cI, 480, .inl kk)), (aKp, .inl (cI, 480, .inl kp)), (aKv, .inl (cJ, 480, .inr (.inl kv))), (aT, .inr (0, [.ref aTc, .int tn])), (aTc, .inl (cB, 480, .inl tc))] sz) := by
  refine Met.ofW (cc := b_Tokens_scanNumber) (maxL := 5) (ret := none) (by decide) rfl ?_
  intro p e s m args below meth c s₁ B hml hv
  obtain ⟨rfl, hsz, hP, hK, hD0, hX⟩ := hv
  subst hsz
  have C0 : g_Cx p s m meth c b_Tokens_scanNumber 5 none R_Tokens [.ref aK, .ref aT].toArray := g_start B hml rfl
  obtain ⟨hx, hb, hml, hr, hown, hts, hlocks⟩ := id C0
  have hD := hD0.self (sz := s.heap.size)
  generalize hAe : va_A [(aK, .inr (1, [.ref aKk, .ref aKp, .ref aKv, .int kn, .int kl, .int kx])), (aKk, .inl (cI, 480, .inl kk)), (aKp, .inl (cI, 480, .inl kp)), (aKv, .inl (cJ, 480, .inr (.inl kv))), (aT, .inr (0, [.ref aTc, .int tn])), (aTc, .inl (cB, 480, .inl tc))] s.heap.size = A at hD ⊢
  generalize hres : (m_Tokens_scanNumber kk kp kv kn kl kx tc tn) = res
  have hA : ∀ q : Nat, s.heap.size ≤ q → A q := fun q h => by rw [← hAe]; exact Or.inr h
  have hS : va_S A s.heap s.heap [] := va_S.rf
  have hl := lv_entry ([.ref aK, .ref aT]) (n := 5) (Nat.le_of_ble_eq_true rfl)
  rw [lg_entry_eq]
  generalize (lg_sl ([.ref aK, .ref aT]) ++ List.replicate (5 - (lg_sl ([.ref aK, .ref aT])).length) Slot.unset).toArray = ls at hl ⊢
  have hl : lv_has ls 5 [(0, .ref aK), (1, .ref aT)] := hl
  refine lv_aload_n hx hb d_Tokens_scanNumber_0 rfl (lv_at hl 0 rfl) ?_
  refine va_get (D := (dC, dI)) (ci := 1) (v := .int kx) (C := R_Tokens) (T := F_Tokens) (N := 6) hx hb hts i_Tokens hown hK hP 0 rfl rfl 5 (by decide) (hts _ tw_8) (fun _ h9 => h9) rfl d_Tokens_scanNumber_1 ?_
  refine lv_istore_n (lv' := [(2, .int kx), (0, .ref aK), (1, .ref aT)]) hx hb d_Tokens_scanNumber_4 rfl hl (by decide) rfl (fun ls hl => ?_)
  refine lv_lconst (v := 0) hx hb d_Tokens_scanNumber_5 (by decide) ?_
  refine lv_lstore_n (lv' := [(3, .long 0), (2, .int kx), (0, .ref aK), (1, .ref aT)]) hx hb d_Tokens_scanNumber_6 rfl hl (by decide) rfl (fun ls hl => ?_)
  exact L_Tokens_scanNumber_7 C0 hK hA h_t0 h_t1 ((kl.toInt - kx.toInt).toNat + 1) kx 0 kk kp kv kn kx (s_Tokens_scanNumber_13 h_k0 h_t0 h_t1) (by rw [← hres]; simp only [m_Tokens_scanNumber]) _ _ _ hP hD hS (lv_sub hl [0, 1, 2, 3] rfl)
theorem v_Tokens_scanNumber_L (kl : Int32) (tc : Nat → Int32) (tn : Int32) : ∀ (n : Nat) (x2 : Int32) (x3 : Int64) (kk kp : Nat → Int32) (kv : Nat → Int64) (kn kx : Int32), 0 ≤ kn.toInt → 0 ≤ (m_Tokens_scanNumber_L7 kl tc tn n x2 x3 kk kp kv kn kx).2.2.2.1.toInt := by
  intro n
  induction n with
  | zero => intro x2 x3 kk kp kv kn kx h; exact h
  | succ n ih =>
    intro x2 x3 kk kp kv kn kx h
    unfold m_Tokens_scanNumber_L7
    repeat' split
    all_goals first | exact ih _ _ _ _ _ _ _ h | (rename_i e; exact v_Tokens_add e.symm h)
theorem v_Tokens_scanNumber {u1 u2 : Nat → Int32} {u3 : Nat → Int64} {u4 u5 : Int32} {kk kp : Nat → Int32} {kv : Nat → Int64} {kn kl kx : Int32} {tc : Nat → Int32} {tn : Int32} (hw : (u1, u2, u3, u4, u5) = m_Tokens_scanNumber kk kp kv kn kl kx tc tn) (h : 0 ≤ kn.toInt) : 0 ≤ u4.toInt := by
  have e : u4 = (m_Tokens_scanNumber kk kp kv kn kl kx tc tn).2.2.2.1 := by rw [← hw]
  rw [e]
  exact v_Tokens_scanNumber_L kl tc tn _ _ _ _ _ _ _ _ h
def m_Tokens_scan_L20 (tc : Nat → Int32) (tn : Int32) : Nat → Int32 → (Nat → Int32) → (Nat → Int32) → (Nat → Int64) → Int32 → Int32 → Int32 → (Nat → Int32) × (Nat → Int32) × (Nat → Int64) × Int32 × Int32 × Int32
  | 0, x2, kk, kp, kv, kn, kl, kx => (kk, kp, kv, kn, kl, kx)
  | n + 1, x2, kk, kp, kv, kn, kl, kx =>
    if 480 ≤ x2 then
      (kk, kp, kv, kn, kl, kx)
    else
      if kl ≤ kx then
        (kk, kp, kv, kn, kl, kx)
      else
        if (m_Tape_at tc tn kx) = 32 then
          m_Tokens_scan_L20 tc tn n (x2 + 1) kk kp kv kn kl (kx + 1)
        else
          if (m_Tokens_isLetter (m_Tape_at tc tn kx)) = 0 then
            if (m_Tokens_isDigit (m_Tape_at tc tn kx)) = 0 then
              if (m_Tokens_isSign (m_Tape_at tc tn kx)) = 0 then
                match m_Tokens_add kk kp kv kn 1 ((kx + 1) - 1) 0 with
                | (u11_kk, u11_kp, u11_kv, u11_kn) =>
                m_Tokens_scan_L20 tc tn n (x2 + 1) u11_kk u11_kp u11_kv u11_kn kl (kx + 1)
              else
                match m_Tokens_add kk kp kv kn (m_Tape_at tc tn kx) ((kx + 1) - 1) 0 with
                | (u12_kk, u12_kp, u12_kv, u12_kn) =>
                m_Tokens_scan_L20 tc tn n (x2 + 1) u12_kk u12_kp u12_kv u12_kn kl (kx + 1)
            else
              match m_Tokens_scanNumber kk kp kv kn kl kx tc tn with
              | (u13_kk, u13_kp, u13_kv, u13_kn, u13_kx) =>
              m_Tokens_scan_L20 tc tn n (x2 + 1) u13_kk u13_kp u13_kv u13_kn kl u13_kx
          else
            match m_Tokens_scanName kk kp kv kn kl kx tc tn with
            | (u14_kk, u14_kp, u14_kv, u14_kn, u14_kx) =>
            m_Tokens_scan_L20 tc tn n (x2 + 1) u14_kk u14_kp u14_kv u14_kn kl u14_kx
theorem s_Tokens_scan_0 {tn : Int32} {x2 : Int32} {kl : Int32} {kx : Int32} {n : Nat} {kn : Int32} (q_1 : ¬ (480 : Int32).toInt ≤ x2.toInt) (q_2 : ¬ kl.toInt ≤ kx.toInt) (h_t0 : 0 ≤ tn.toInt) (h_t1 : tn.toInt ≤ 480) (hm : (480 - x2.toInt).toNat < n + 1) (i_0 : 0 ≤ kn.toInt) : 0 ≤ tn.toInt := by have z0 : (480 : Int32).toInt = 480 := (by decide); have g0 := gz_r tn; have g1 := gz_r x2; have g2 := gz_r kl; have g3 := gz_r kx; have g5 := gz_r kn; omega
theorem s_Tokens_scan_1 {tn : Int32} {x2 : Int32} {kl : Int32} {kx : Int32} {n : Nat} {kn : Int32} (q_1 : ¬ (480 : Int32).toInt ≤ x2.toInt) (q_2 : ¬ kl.toInt ≤ kx.toInt) (h_t0 : 0 ≤ tn.toInt) (h_t1 : tn.toInt ≤ 480) (hm : (480 - x2.toInt).toNat < n + 1) (i_0 : 0 ≤ kn.toInt) : tn.toInt ≤ 480 := by have z0 : (480 : Int32).toInt = 480 := (by decide); have g0 := gz_r tn; have g1 := gz_r x2; have g2 := gz_r kl; have g3 := gz_r kx; have g5 := gz_r kn; omega
theorem s_Tokens_scan_2 {kn : Int32} {x2 : Int32} {kl : Int32} {kx : Int32} {tc : Nat → Int32} {tn : Int32} {n : Nat} (q_1 : ¬ (480 : Int32).toInt ≤ x2.toInt) (q_2 : ¬ kl.toInt ≤ kx.toInt) (q_4 : ¬ (m_Tape_at tc tn kx).toInt = (32 : Int32).toInt) (q_6 : (m_Tokens_isLetter (m_Tape_at tc tn kx)).toInt = (0 : Int32).toInt) (q_8 : (m_Tokens_isDigit (m_Tape_at tc tn kx)).toInt = (0 : Int32).toInt) (q_10 : (m_Tokens_isSign (m_Tape_at tc tn kx)).toInt = (0 : Int32).toInt) (h_t0 : 0 ≤ tn.toInt) (h_t1 : tn.toInt ≤ 480) (hm : (480 - x2.toInt).toNat < n + 1) (i_0 : 0 ≤ kn.toInt) : 0 ≤ kn.toInt := by have z0 : (0 : Int32).toInt = 0 := (by decide); have z1 : (32 : Int32).toInt = 32 := (by decide); have z2 : (480 : Int32).toInt = 480 := (by decide); have g0 := gz_r kn; have g1 := gz_r x2; have g2 := gz_r kl; have g3 := gz_r kx; have g5 := gz_r tn; omega
theorem s_Tokens_scan_3 {kn : Int32} {x2 : Int32} {kl : Int32} {kx : Int32} {tc : Nat → Int32} {tn : Int32} {n : Nat} (q_1 : ¬ (480 : Int32).toInt ≤ x2.toInt) (q_2 : ¬ kl.toInt ≤ kx.toInt) (q_4 : ¬ (m_Tape_at tc tn kx).toInt = (32 : Int32).toInt) (q_6 : (m_Tokens_isLetter (m_Tape_at tc tn kx)).toInt = (0 : Int32).toInt) (q_8 : (m_Tokens_isDigit (m_Tape_at tc tn kx)).toInt = (0 : Int32).toInt) (q_10 : (m_Tokens_isSign (m_Tape_at tc tn kx)).toInt = (0 : Int32).toInt) (h_t0 : 0 ≤ tn.toInt) (h_t1 : tn.toInt ≤ 480) (hm : (480 - x2.toInt).toNat < n + 1) (i_0 : 0 ≤ kn.toInt) : 0 ≤ kn.toInt := by have z0 : (0 : Int32).toInt = 0 := (by decide); have z1 : (32 : Int32).toInt = 32 := (by decide); have z2 : (480 : Int32).toInt = 480 := (by decide); have g0 := gz_r kn; have g1 := gz_r x2; have g2 := gz_r kl; have g3 := gz_r kx; have g5 := gz_r tn; omega
theorem s_Tokens_scan_4 {x2 : Int32} {n : Nat} {kl : Int32} {kx : Int32} {tc : Nat → Int32} {tn : Int32} {u11_kn : Int32} {kn : Int32} (q_1 : ¬ (480 : Int32).toInt ≤ x2.toInt) (q_2 : ¬ kl.toInt ≤ kx.toInt) (q_4 : ¬ (m_Tape_at tc tn kx).toInt = (32 : Int32).toInt) (q_6 : (m_Tokens_isLetter (m_Tape_at tc tn kx)).toInt = (0 : Int32).toInt) (q_8 : (m_Tokens_isDigit (m_Tape_at tc tn kx)).toInt = (0 : Int32).toInt) (q_10 : (m_Tokens_isSign (m_Tape_at tc tn kx)).toInt = (0 : Int32).toInt) (v0_11 : 0 ≤ u11_kn.toInt) (h_t0 : 0 ≤ tn.toInt) (h_t1 : tn.toInt ≤ 480) (hm : (480 - x2.toInt).toNat < n + 1) (i_0 : 0 ≤ kn.toInt) : (480 - (x2 + 1).toInt).toNat < n := by have z0 : (0 : Int32).toInt = 0 := (by decide); have z1 : (1 : Int32).toInt = 1 := (by decide); have z2 : (32 : Int32).toInt = 32 := (by decide); have z3 : (480 : Int32).toInt = 480 := (by decide); have g0 := gz_r x2; have g2 := gz_r kl; have g3 := gz_r kx; have g5 := gz_r tn; have g6 := gz_r u11_kn; have g7 := gz_r kn; have a0 := gz_a x2 1 (by omega) (by omega); omega
theorem s_Tokens_scan_5 {u11_kn : Int32} {x2 : Int32} {kl : Int32} {kx : Int32} {tc : Nat → Int32} {tn : Int32} {n : Nat} {kn : Int32} (q_1 : ¬ (480 : Int32).toInt ≤ x2.toInt) (q_2 : ¬ kl.toInt ≤ kx.toInt) (q_4 : ¬ (m_Tape_at tc tn kx).toInt = (32 : Int32).toInt) (q_6 : (m_Tokens_isLetter (m_Tape_at tc tn kx)).toInt = (0 : Int32).toInt) (q_8 : (m_Tokens_isDigit (m_Tape_at tc tn kx)).toInt = (0 : Int32).toInt) (q_10 : (m_Tokens_isSign (m_Tape_at tc tn kx)).toInt = (0 : Int32).toInt) (v0_11 : 0 ≤ u11_kn.toInt) (h_t0 : 0 ≤ tn.toInt) (h_t1 : tn.toInt ≤ 480) (hm : (480 - x2.toInt).toNat < n + 1) (i_0 : 0 ≤ kn.toInt) : 0 ≤ u11_kn.toInt := by have z0 : (0 : Int32).toInt = 0 := (by decide); have z1 : (32 : Int32).toInt = 32 := (by decide); have z2 : (480 : Int32).toInt = 480 := (by decide); have g0 := gz_r u11_kn; have g1 := gz_r x2; have g2 := gz_r kl; have g3 := gz_r kx; have g5 := gz_r tn; have g7 := gz_r kn; omega
theorem s_Tokens_scan_6 {kn : Int32} {x2 : Int32} {kl : Int32} {kx : Int32} {tc : Nat → Int32} {tn : Int32} {n : Nat} (q_1 : ¬ (480 : Int32).toInt ≤ x2.toInt) (q_2 : ¬ kl.toInt ≤ kx.toInt) (q_4 : ¬ (m_Tape_at tc tn kx).toInt = (32 : Int32).toInt) (q_6 : (m_Tokens_isLetter (m_Tape_at tc tn kx)).toInt = (0 : Int32).toInt) (q_8 : (m_Tokens_isDigit (m_Tape_at tc tn kx)).toInt = (0 : Int32).toInt) (q_10 : ¬ (m_Tokens_isSign (m_Tape_at tc tn kx)).toInt = (0 : Int32).toInt) (h_t0 : 0 ≤ tn.toInt) (h_t1 : tn.toInt ≤ 480) (hm : (480 - x2.toInt).toNat < n + 1) (i_0 : 0 ≤ kn.toInt) : 0 ≤ kn.toInt := by have z0 : (0 : Int32).toInt = 0 := (by decide); have z1 : (32 : Int32).toInt = 32 := (by decide); have z2 : (480 : Int32).toInt = 480 := (by decide); have g0 := gz_r kn; have g1 := gz_r x2; have g2 := gz_r kl; have g3 := gz_r kx; have g5 := gz_r tn; omega
theorem s_Tokens_scan_7 {kn : Int32} {x2 : Int32} {kl : Int32} {kx : Int32} {tc : Nat → Int32} {tn : Int32} {n : Nat} (q_1 : ¬ (480 : Int32).toInt ≤ x2.toInt) (q_2 : ¬ kl.toInt ≤ kx.toInt) (q_4 : ¬ (m_Tape_at tc tn kx).toInt = (32 : Int32).toInt) (q_6 : (m_Tokens_isLetter (m_Tape_at tc tn kx)).toInt = (0 : Int32).toInt) (q_8 : (m_Tokens_isDigit (m_Tape_at tc tn kx)).toInt = (0 : Int32).toInt) (q_10 : ¬ (m_Tokens_isSign (m_Tape_at tc tn kx)).toInt = (0 : Int32).toInt) (h_t0 : 0 ≤ tn.toInt) (h_t1 : tn.toInt ≤ 480) (hm : (480 - x2.toInt).toNat < n + 1) (i_0 : 0 ≤ kn.toInt) : 0 ≤ kn.toInt := by have z0 : (0 : Int32).toInt = 0 := (by decide); have z1 : (32 : Int32).toInt = 32 := (by decide); have z2 : (480 : Int32).toInt = 480 := (by decide); have g0 := gz_r kn; have g1 := gz_r x2; have g2 := gz_r kl; have g3 := gz_r kx; have g5 := gz_r tn; omega
theorem s_Tokens_scan_8 {x2 : Int32} {n : Nat} {kl : Int32} {kx : Int32} {tc : Nat → Int32} {tn : Int32} {u12_kn : Int32} {kn : Int32} (q_1 : ¬ (480 : Int32).toInt ≤ x2.toInt) (q_2 : ¬ kl.toInt ≤ kx.toInt) (q_4 : ¬ (m_Tape_at tc tn kx).toInt = (32 : Int32).toInt) (q_6 : (m_Tokens_isLetter (m_Tape_at tc tn kx)).toInt = (0 : Int32).toInt) (q_8 : (m_Tokens_isDigit (m_Tape_at tc tn kx)).toInt = (0 : Int32).toInt) (q_10 : ¬ (m_Tokens_isSign (m_Tape_at tc tn kx)).toInt = (0 : Int32).toInt) (v0_12 : 0 ≤ u12_kn.toInt) (h_t0 : 0 ≤ tn.toInt) (h_t1 : tn.toInt ≤ 480) (hm : (480 - x2.toInt).toNat < n + 1) (i_0 : 0 ≤ kn.toInt) : (480 - (x2 + 1).toInt).toNat < n := by have z0 : (0 : Int32).toInt = 0 := (by decide); have z1 : (1 : Int32).toInt = 1 := (by decide); have z2 : (32 : Int32).toInt = 32 := (by decide); have z3 : (480 : Int32).toInt = 480 := (by decide); have g0 := gz_r x2; have g2 := gz_r kl; have g3 := gz_r kx; have g5 := gz_r tn; have g6 := gz_r u12_kn; have g7 := gz_r kn; have a0 := gz_a x2 1 (by omega) (by omega); omega
theorem s_Tokens_scan_9 {u12_kn : Int32} {x2 : Int32} {kl : Int32} {kx : Int32} {tc : Nat → Int32} {tn : Int32} {n : Nat} {kn : Int32} (q_1 : ¬ (480 : Int32).toInt ≤ x2.toInt) (q_2 : ¬ kl.toInt ≤ kx.toInt) (q_4 : ¬ (m_Tape_at tc tn kx).toInt = (32 : Int32).toInt) (q_6 : (m_Tokens_isLetter (m_Tape_at tc tn kx)).toInt = (0 : Int32).toInt) (q_8 : (m_Tokens_isDigit (m_Tape_at tc tn kx)).toInt = (0 : Int32).toInt) (q_10 : ¬ (m_Tokens_isSign (m_Tape_at tc tn kx)).toInt = (0 : Int32).toInt) (v0_12 : 0 ≤ u12_kn.toInt) (h_t0 : 0 ≤ tn.toInt) (h_t1 : tn.toInt ≤ 480) (hm : (480 - x2.toInt).toNat < n + 1) (i_0 : 0 ≤ kn.toInt) : 0 ≤ u12_kn.toInt := by have z0 : (0 : Int32).toInt = 0 := (by decide); have z1 : (32 : Int32).toInt = 32 := (by decide); have z2 : (480 : Int32).toInt = 480 := (by decide); have g0 := gz_r u12_kn; have g1 := gz_r x2; have g2 := gz_r kl; have g3 := gz_r kx; have g5 := gz_r tn; have g7 := gz_r kn; omega
theorem s_Tokens_scan_10 {kn : Int32} {x2 : Int32} {kl : Int32} {kx : Int32} {tc : Nat → Int32} {tn : Int32} {n : Nat} (q_1 : ¬ (480 : Int32).toInt ≤ x2.toInt) (q_2 : ¬ kl.toInt ≤ kx.toInt) (q_4 : ¬ (m_Tape_at tc tn kx).toInt = (32 : Int32).toInt) (q_6 : (m_Tokens_isLetter (m_Tape_at tc tn kx)).toInt = (0 : Int32).toInt) (q_8 : ¬ (m_Tokens_isDigit (m_Tape_at tc tn kx)).toInt = (0 : Int32).toInt) (h_t0 : 0 ≤ tn.toInt) (h_t1 : tn.toInt ≤ 480) (hm : (480 - x2.toInt).toNat < n + 1) (i_0 : 0 ≤ kn.toInt) : 0 ≤ kn.toInt := by have z0 : (0 : Int32).toInt = 0 := (by decide); have z1 : (32 : Int32).toInt = 32 := (by decide); have z2 : (480 : Int32).toInt = 480 := (by decide); have g0 := gz_r kn; have g1 := gz_r x2; have g2 := gz_r kl; have g3 := gz_r kx; have g5 := gz_r tn; omega
theorem s_Tokens_scan_11 {tn : Int32} {x2 : Int32} {kl : Int32} {kx : Int32} {tc : Nat → Int32} {n : Nat} {kn : Int32} (q_1 : ¬ (480 : Int32).toInt ≤ x2.toInt) (q_2 : ¬ kl.toInt ≤ kx.toInt) (q_4 : ¬ (m_Tape_at tc tn kx).toInt = (32 : Int32).toInt) (q_6 : (m_Tokens_isLetter (m_Tape_at tc tn kx)).toInt = (0 : Int32).toInt) (q_8 : ¬ (m_Tokens_isDigit (m_Tape_at tc tn kx)).toInt = (0 : Int32).toInt) (h_t0 : 0 ≤ tn.toInt) (h_t1 : tn.toInt ≤ 480) (hm : (480 - x2.toInt).toNat < n + 1) (i_0 : 0 ≤ kn.toInt) : 0 ≤ tn.toInt := by have z0 : (0 : Int32).toInt = 0 := (by decide); have z1 : (32 : Int32).toInt = 32 := (by decide); have z2 : (480 : Int32).toInt = 480 := (by decide); have g0 := gz_r tn; have g1 := gz_r x2; have g2 := gz_r kl; have g3 := gz_r kx; have g6 := gz_r kn; omega
theorem s_Tokens_scan_12 {tn : Int32} {x2 : Int32} {kl : Int32} {kx : Int32} {tc : Nat → Int32} {n : Nat} {kn : Int32} (q_1 : ¬ (480 : Int32).toInt ≤ x2.toInt) (q_2 : ¬ kl.toInt ≤ kx.toInt) (q_4 : ¬ (m_Tape_at tc tn kx).toInt = (32 : Int32).toInt) (q_6 : (m_Tokens_isLetter (m_Tape_at tc tn kx)).toInt = (0 : Int32).toInt) (q_8 : ¬ (m_Tokens_isDigit (m_Tape_at tc tn kx)).toInt = (0 : Int32).toInt) (h_t0 : 0 ≤ tn.toInt) (h_t1 : tn.toInt ≤ 480) (hm : (480 - x2.toInt).toNat < n + 1) (i_0 : 0 ≤ kn.toInt) : tn.toInt ≤ 480 := by have z0 : (0 : Int32).toInt = 0 := (by decide); have z1 : (32 : Int32).toInt = 32 := (by decide); have z2 : (480 : Int32).toInt = 480 := (by decide); have g0 := gz_r tn; have g1 := gz_r x2; have g2 := gz_r kl; have g3 := gz_r kx; have g6 := gz_r kn; omega
theorem s_Tokens_scan_13 {kn : Int32} {x2 : Int32} {kl : Int32} {kx : Int32} {tc : Nat → Int32} {tn : Int32} {n : Nat} (q_1 : ¬ (480 : Int32).toInt ≤ x2.toInt) (q_2 : ¬ kl.toInt ≤ kx.toInt) (q_4 : ¬ (m_Tape_at tc tn kx).toInt = (32 : Int32).toInt) (q_6 : (m_Tokens_isLetter (m_Tape_at tc tn kx)).toInt = (0 : Int32).toInt) (q_8 : ¬ (m_Tokens_isDigit (m_Tape_at tc tn kx)).toInt = (0 : Int32).toInt) (h_t0 : 0 ≤ tn.toInt) (h_t1 : tn.toInt ≤ 480) (hm : (480 - x2.toInt).toNat < n + 1) (i_0 : 0 ≤ kn.toInt) : 0 ≤ kn.toInt := by have z0 : (0 : Int32).toInt = 0 := (by decide); have z1 : (32 : Int32).toInt = 32 := (by decide); have z2 : (480 : Int32).toInt = 480 := (by decide); have g0 := gz_r kn; have g1 := gz_r x2; have g2 := gz_r kl; have g3 := gz_r kx; have g5 := gz_r tn; omega
theorem s_Tokens_scan_14 {x2 : Int32} {n : Nat} {kl : Int32} {kx : Int32} {tc : Nat → Int32} {tn : Int32} {u13_kn : Int32} {kn : Int32} (q_1 : ¬ (480 : Int32).toInt ≤ x2.toInt) (q_2 : ¬ kl.toInt ≤ kx.toInt) (q_4 : ¬ (m_Tape_at tc tn kx).toInt = (32 : Int32).toInt) (q_6 : (m_Tokens_isLetter (m_Tape_at tc tn kx)).toInt = (0 : Int32).toInt) (q_8 : ¬ (m_Tokens_isDigit (m_Tape_at tc tn kx)).toInt = (0 : Int32).toInt) (v0_13 : 0 ≤ u13_kn.toInt) (h_t0 : 0 ≤ tn.toInt) (h_t1 : tn.toInt ≤ 480) (hm : (480 - x2.toInt).toNat < n + 1) (i_0 : 0 ≤ kn.toInt) : (480 - (x2 + 1).toInt).toNat < n := by have z0 : (0 : Int32).toInt = 0 := (by decide); have z1 : (1 : Int32).toInt = 1 := (by decide); have z2 : (32 : Int32).toInt = 32 := (by decide); have z3 : (480 : Int32).toInt = 480 := (by decide); have g0 := gz_r x2; have g2 := gz_r kl; have g3 := gz_r kx; have g5 := gz_r tn; have g6 := gz_r u13_kn; have g7 := gz_r kn; have a0 := gz_a x2 1 (by omega) (by omega); omega
theorem s_Tokens_scan_15 {u13_kn : Int32} {x2 : Int32} {kl : Int32} {kx : Int32} {tc : Nat → Int32} {tn : Int32} {n : Nat} {kn : Int32} (q_1 : ¬ (480 : Int32).toInt ≤ x2.toInt) (q_2 : ¬ kl.toInt ≤ kx.toInt) (q_4 : ¬ (m_Tape_at tc tn kx).toInt = (32 : Int32).toInt) (q_6 : (m_Tokens_isLetter (m_Tape_at tc tn kx)).toInt = (0 : Int32).toInt) (q_8 : ¬ (m_Tokens_isDigit (m_Tape_at tc tn kx)).toInt = (0 : Int32).toInt) (v0_13 : 0 ≤ u13_kn.toInt) (h_t0 : 0 ≤ tn.toInt) (h_t1 : tn.toInt ≤ 480) (hm : (480 - x2.toInt).toNat < n + 1) (i_0 : 0 ≤ kn.toInt) : 0 ≤ u13_kn.toInt := by have z0 : (0 : Int32).toInt = 0 := (by decide); have z1 : (32 : Int32).toInt = 32 := (by decide); have z2 : (480 : Int32).toInt = 480 := (by decide); have g0 := gz_r u13_kn; have g1 := gz_r x2; have g2 := gz_r kl; have g3 := gz_r kx; have g5 := gz_r tn; have g7 := gz_r kn; omega
theorem s_Tokens_scan_16 {kn : Int32} {x2 : Int32} {kl : Int32} {kx : Int32} {tc : Nat → Int32} {tn : Int32} {n : Nat} (q_1 : ¬ (480 : Int32).toInt ≤ x2.toInt) (q_2 : ¬ kl.toInt ≤ kx.toInt) (q_4 : ¬ (m_Tape_at tc tn kx).toInt = (32 : Int32).toInt) (q_6 : ¬ (m_Tokens_isLetter (m_Tape_at tc tn kx)).toInt = (0 : Int32).toInt) (h_t0 : 0 ≤ tn.toInt) (h_t1 : tn.toInt ≤ 480) (hm : (480 - x2.toInt).toNat < n + 1) (i_0 : 0 ≤ kn.toInt) : 0 ≤ kn.toInt := by have z0 : (0 : Int32).toInt = 0 := (by decide); have z1 : (32 : Int32).toInt = 32 := (by decide); have z2 : (480 : Int32).toInt = 480 := (by decide); have g0 := gz_r kn; have g1 := gz_r x2; have g2 := gz_r kl; have g3 := gz_r kx; have g5 := gz_r tn; omega
theorem s_Tokens_scan_17 {tn : Int32} {x2 : Int32} {kl : Int32} {kx : Int32} {tc : Nat → Int32} {n : Nat} {kn : Int32} (q_1 : ¬ (480 : Int32).toInt ≤ x2.toInt) (q_2 : ¬ kl.toInt ≤ kx.toInt) (q_4 : ¬ (m_Tape_at tc tn kx).toInt = (32 : Int32).toInt) (q_6 : ¬ (m_Tokens_isLetter (m_Tape_at tc tn kx)).toInt = (0 : Int32).toInt) (h_t0 : 0 ≤ tn.toInt) (h_t1 : tn.toInt ≤ 480) (hm : (480 - x2.toInt).toNat < n + 1) (i_0 : 0 ≤ kn.toInt) : 0 ≤ tn.toInt := by have z0 : (0 : Int32).toInt = 0 := (by decide); have z1 : (32 : Int32).toInt = 32 := (by decide); have z2 : (480 : Int32).toInt = 480 := (by decide); have g0 := gz_r tn; have g1 := gz_r x2; have g2 := gz_r kl; have g3 := gz_r kx; have g6 := gz_r kn; omega
theorem s_Tokens_scan_18 {tn : Int32} {x2 : Int32} {kl : Int32} {kx : Int32} {tc : Nat → Int32} {n : Nat} {kn : Int32} (q_1 : ¬ (480 : Int32).toInt ≤ x2.toInt) (q_2 : ¬ kl.toInt ≤ kx.toInt) (q_4 : ¬ (m_Tape_at tc tn kx).toInt = (32 : Int32).toInt) (q_6 : ¬ (m_Tokens_isLetter (m_Tape_at tc tn kx)).toInt = (0 : Int32).toInt) (h_t0 : 0 ≤ tn.toInt) (h_t1 : tn.toInt ≤ 480) (hm : (480 - x2.toInt).toNat < n + 1) (i_0 : 0 ≤ kn.toInt) : tn.toInt ≤ 480 := by have z0 : (0 : Int32).toInt = 0 := (by decide); have z1 : (32 : Int32).toInt = 32 := (by decide); have z2 : (480 : Int32).toInt = 480 := (by decide); have g0 := gz_r tn; have g1 := gz_r x2; have g2 := gz_r kl; have g3 := gz_r kx; have g6 := gz_r kn; omega
theorem s_Tokens_scan_19 {kn : Int32} {x2 : Int32} {kl : Int32} {kx : Int32} {tc : Nat → Int32} {tn : Int32} {n : Nat} (q_1 : ¬ (480 : Int32).toInt ≤ x2.toInt) (q_2 : ¬ kl.toInt ≤ kx.toInt) (q_4 : ¬ (m_Tape_at tc tn kx).toInt = (32 : Int32).toInt) (q_6 : ¬ (m_Tokens_isLetter (m_Tape_at tc tn kx)).toInt = (0 : Int32).toInt) (h_t0 : 0 ≤ tn.toInt) (h_t1 : tn.toInt ≤ 480) (hm : (480 - x2.toInt).toNat < n + 1) (i_0 : 0 ≤ kn.toInt) : 0 ≤ kn.toInt := by have z0 : (0 : Int32).toInt = 0 := (by decide); have z1 : (32 : Int32).toInt = 32 := (by decide); have z2 : (480 : Int32).toInt = 480 := (by decide); have g0 := gz_r kn; have g1 := gz_r x2; have g2 := gz_r kl; have g3 := gz_r kx; have g5 := gz_r tn; omega
theorem s_Tokens_scan_20 {x2 : Int32} {n : Nat} {kl : Int32} {kx : Int32} {tc : Nat → Int32} {tn : Int32} {u14_kn : Int32} {kn : Int32} (q_1 : ¬ (480 : Int32).toInt ≤ x2.toInt) (q_2 : ¬ kl.toInt ≤ kx.toInt) (q_4 : ¬ (m_Tape_at tc tn kx).toInt = (32 : Int32).toInt) (q_6 : ¬ (m_Tokens_isLetter (m_Tape_at tc tn kx)).toInt = (0 : Int32).toInt) (v0_14 : 0 ≤ u14_kn.toInt) (h_t0 : 0 ≤ tn.toInt) (h_t1 : tn.toInt ≤ 480) (hm : (480 - x2.toInt).toNat < n + 1) (i_0 : 0 ≤ kn.toInt) : (480 - (x2 + 1).toInt).toNat < n := by have z0 : (0 : Int32).toInt = 0 := (by decide); have z1 : (1 : Int32).toInt = 1 := (by decide); have z2 : (32 : Int32).toInt = 32 := (by decide); have z3 : (480 : Int32).toInt = 480 := (by decide); have g0 := gz_r x2; have g2 := gz_r kl; have g3 := gz_r kx; have g5 := gz_r tn; have g6 := gz_r u14_kn; have g7 := gz_r kn; have a0 := gz_a x2 1 (by omega) (by omega); omega
theorem s_Tokens_scan_21 {u14_kn : Int32} {x2 : Int32} {kl : Int32} {kx : Int32} {tc : Nat → Int32} {tn : Int32} {n : Nat} {kn : Int32} (q_1 : ¬ (480 : Int32).toInt ≤ x2.toInt) (q_2 : ¬ kl.toInt ≤ kx.toInt) (q_4 : ¬ (m_Tape_at tc tn kx).toInt = (32 : Int32).toInt) (q_6 : ¬ (m_Tokens_isLetter (m_Tape_at tc tn kx)).toInt = (0 : Int32).toInt) (v0_14 : 0 ≤ u14_kn.toInt) (h_t0 : 0 ≤ tn.toInt) (h_t1 : tn.toInt ≤ 480) (hm : (480 - x2.toInt).toNat < n + 1) (i_0 : 0 ≤ kn.toInt) : 0 ≤ u14_kn.toInt := by have z0 : (0 : Int32).toInt = 0 := (by decide); have z1 : (32 : Int32).toInt = 32 := (by decide); have z2 : (480 : Int32).toInt = 480 := (by decide); have g0 := gz_r u14_kn; have g1 := gz_r x2; have g2 := gz_r kl; have g3 := gz_r kx; have g5 := gz_r tn; have g7 := gz_r kn; omega
theorem s_Tokens_scan_22 {x2 : Int32} {n : Nat} {kl : Int32} {kx : Int32} {tc : Nat → Int32} {tn : Int32} {kn : Int32} (q_1 : ¬ (480 : Int32).toInt ≤ x2.toInt) (q_2 : ¬ kl.toInt ≤ kx.toInt) (q_4 : (m_Tape_at tc tn kx).toInt = (32 : Int32).toInt) (h_t0 : 0 ≤ tn.toInt) (h_t1 : tn.toInt ≤ 480) (hm : (480 - x2.toInt).toNat < n + 1) (i_0 : 0 ≤ kn.toInt) : (480 - (x2 + 1).toInt).toNat < n := by have z0 : (1 : Int32).toInt = 1 := (by decide); have z1 : (32 : Int32).toInt = 32 := (by decide); have z2 : (480 : Int32).toInt = 480 := (by decide); have g0 := gz_r x2; have g2 := gz_r kl; have g3 := gz_r kx; have g5 := gz_r tn; have g6 := gz_r kn; have a0 := gz_a x2 1 (by omega) (by omega); omega
theorem s_Tokens_scan_23 {kn : Int32} {x2 : Int32} {kl : Int32} {kx : Int32} {tc : Nat → Int32} {tn : Int32} {n : Nat} (q_1 : ¬ (480 : Int32).toInt ≤ x2.toInt) (q_2 : ¬ kl.toInt ≤ kx.toInt) (q_4 : (m_Tape_at tc tn kx).toInt = (32 : Int32).toInt) (h_t0 : 0 ≤ tn.toInt) (h_t1 : tn.toInt ≤ 480) (hm : (480 - x2.toInt).toNat < n + 1) (i_0 : 0 ≤ kn.toInt) : 0 ≤ kn.toInt := by have z0 : (32 : Int32).toInt = 32 := (by decide); have z1 : (480 : Int32).toInt = 480 := (by decide); have g0 := gz_r kn; have g1 := gz_r x2; have g2 := gz_r kl; have g3 := gz_r kx; have g5 := gz_r tn; omega
set_option maxHeartbeats 4000000 in
set_option maxRecDepth 100000 in
theorem L_Tokens_scan_20 {p : Program} {l : Launch} {e : Env} {s : State} {m : MethodId} {below : List Frame} {meth : Method} {c : Code} {dC : Nat → ClassId} {dI : Nat → Nat → Nat} {cB cI cJ : ClassId} {aK aKk aKp aKv aT aTc : Nat} {tc : Nat → Int32} {tn : Int32} {A : Nat → Prop} (C0 : g_Cx p s m meth c b_Tokens_scan 4 none R_Tokens [.ref aK, .ref aT].toArray) (hK : va_K (dC, dI) classes [(cB, .byte), (cI, .int), (cJ, .long)] s) (hA : ∀ q : Nat, s.heap.size ≤ q → A q) (h_t0 : 0 ≤ tn.toInt) (h_t1 : tn.toInt ≤ 480) {res : (Nat → Int32) × (Nat → Int32) × (Nat → Int64) × Int32 × Int32 × Int32} :
    ∀ (n : Nat) (x2 : Int32) (kk : Nat → Int32) (kp : Nat → Int32) (kv : Nat → Int64) (kn : Int32) (kl : Int32) (kx : Int32), ((480 - x2.toInt).toNat) < n → (0 ≤ kn.toInt) → m_Tokens_scan_L20 tc tn n x2 kk kp kv kn kl kx = res → ∀ (H : Heap) (locs : List Loc) (ls : Array Slot), va_P (dC, dI) classes [(aK, .inr (1, [.ref aKk, .ref aKp, .ref aKv, .int kn, .int kl, .int kx])), (aKk, .inl (cI, 480, .inl kk)), (aKp, .inl (cI, 480, .inl kp)), (aKv, .inl (cJ, 480, .inr (.inl kv))), (aT, .inr (0, [.ref aTc, .int tn])), (aTc, .inl (cB, 480, .inl tc))] H → va_D A [(aK, .inr (1, [.ref aKk, .ref aKp, .ref aKv, .int kn, .int kl, .int kx])), (aKk, .inl (cI, 480, .inl kk)), (aKp, .inl (cI, 480, .inl kp)), (aKv, .inl (cJ, 480, .inr (.inl kv))), (aT, .inr (0, [.ref aTc, .int tn])), (aTc, .inl (cB, 480, .inl tc))] → va_S A s.heap H locs → lv_has ls 4 [(2, .int x2), (0, .ref aK), (1, .ref aT)] → W p l e ({ frames := 2, cells := 0, slots := 0, locals := 48 }) s m [.ref aK, .ref aT].toArray below meth c H locs 0 0 (MQ below (va_Qv (fun u : (Nat → Int32) × (Nat → Int32) × (Nat → Int64) × Int32 × Int32 × Int32 => u = res) (fun u => g_post dC dI [(cB, .byte), (cI, .int), (cJ, .long)] (A) [(aK, .inr (1, [.ref aKk, .ref aKp, .ref aKv, .int u.2.2.2.1, .int u.2.2.2.2.1, .int u.2.2.2.2.2])), (aKk, .inl (cI, 480, .inl u.1)), (aKp, .inl (cI, 480, .inl u.2.1)), (aKv, .inl (cJ, 480, .inr (.inl u.2.2.1))), (aT, .inr (0, [.ref aTc, .int tn])), (aTc, .inl (cB, 480, .inl tc))]) (A)) [.ref aK, .ref aT].toArray s 0 0 A) (F0 m 20 ls []) := by
  obtain ⟨hx, hb, hml, hr, hown, hts, hlocks⟩ := id C0
  intro n
  induction n with
  | zero => intro x2 kk kp kv kn kl kx hm; exact absurd hm (Nat.not_lt_zero _)
  | succ n ih =>
    intro x2 kk kp kv kn kl kx hm i_0 hres H locs ls hP hD hS hl
    refine lv_iload_n hx hb d_Tokens_scan_20 rfl (lv_at hl 0 rfl) ?_
    refine lv_sipush (v := 480) hx hb d_Tokens_scan_21 (by decide) ?_
    refine lv_icmp_ge (tgt := 135) hx hb d_Tokens_scan_24 (by decide) (fun c_1 => ?_) (fun c_1 => ?_)
    · have q_1 := Int32.le_iff_toInt_le.mp c_1
      exact W.vret hx hb hr (fun t ht hW => ⟨⟨(kk, kp, kv, kn, kl, kx), rfl, by rw [← hres]; simp only [m_Tokens_scan_L20, if_pos c_1], by rw [ht]; exact hP, va_K.moved hW.alike hK, hD⟩, hS.F ht⟩) hS.2.2 d_Tokens_scan_135
    · have q_1 := mt Int32.le_iff_toInt_le.mpr c_1
      refine lv_aload_n hx hb d_Tokens_scan_27 rfl (lv_at hl 1 rfl) ?_
      refine va_get (D := (dC, dI)) (ci := 1) (v := .int kx) (C := R_Tokens) (T := F_Tokens) (N := 6) hx hb hts i_Tokens hown hK hP 0 rfl rfl 5 (by decide) (hts _ tw_8) (fun _ h9 => h9) rfl d_Tokens_scan_28 ?_
      refine lv_aload_n hx hb d_Tokens_scan_31 rfl (lv_at hl 1 rfl) ?_
      refine va_get (D := (dC, dI)) (ci := 1) (v := .int kl) (C := R_Tokens) (T := F_Tokens) (N := 6) hx hb hts i_Tokens hown hK hP 0 rfl rfl 4 (by decide) (hts _ tw_5) (fun _ h9 => h9) rfl d_Tokens_scan_32 ?_
      refine lv_icmp_ge (tgt := 135) hx hb d_Tokens_scan_35 (by decide) (fun c_2 => ?_) (fun c_2 => ?_)
      · have q_2 := Int32.le_iff_toInt_le.mp c_2
        exact W.vret hx hb hr (fun t ht hW => ⟨⟨(kk, kp, kv, kn, kl, kx), rfl, by rw [← hres]; simp only [m_Tokens_scan_L20, if_neg c_1, if_pos c_2], by rw [ht]; exact hP, va_K.moved hW.alike hK, hD⟩, hS.F ht⟩) hS.2.2 d_Tokens_scan_135
      · have q_2 := mt Int32.le_iff_toInt_le.mpr c_2
        refine lv_aload_n hx hb d_Tokens_scan_38 rfl (lv_at hl 2 rfl) ?_
        refine lv_aload_n hx hb d_Tokens_scan_39 rfl (lv_at hl 1 rfl) ?_
        refine va_get (D := (dC, dI)) (ci := 1) (v := .int kx) (C := R_Tokens) (T := F_Tokens) (N := 6) hx hb hts i_Tokens hown hK hP 0 rfl rfl 5 (by decide) (hts _ tw_8) (fun _ h9 => h9) rfl d_Tokens_scan_40 ?_
        refine gk_i (isC := [4, 5]) (isR := [0, 1, 2, 3]) (perm := [0, 1, 2, 3, 4, 5]) (wr := [(aK, .inr (1, [.ref aKk, .ref aKp, .ref aKv, .int kn, .int kl, .int kx])), (aKk, .inl (cI, 480, .inl kk)), (aKp, .inl (cI, 480, .inl kp)), (aKv, .inl (cJ, 480, .inr (.inl kv)))]) (can := fun u => [(aK, .inr (1, [.ref aKk, .ref aKp, .ref aKv, .int kn, .int kl, .int kx])), (aKk, .inl (cI, 480, .inl kk)), (aKp, .inl (cI, 480, .inl kp)), (aKv, .inl (cJ, 480, .inr (.inl kv))), (aT, .inr (0, [.ref aTc, .int tn])), (aTc, .inl (cB, 480, .inl tc))]) (gr_V C0 (c_Tape_at l dC dI cB cI cJ aT aTc _ tc tn kx (s_Tokens_scan_0 q_1 q_2 h_t0 h_t1 hm i_0) (s_Tokens_scan_1 q_1 q_2 h_t0 h_t1 hm i_0)) cs_Tokens_36 hK hP hD [4, 5] rfl (by decide) g_tb g_tx (ci := 0) (k := 0) rfl rfl rfl rfl hl.1 rfl (lv_room (Nat.le_of_ble_eq_true rfl)) d_Tokens_scan_43 ⟨Nat.le_of_ble_eq_true rfl, Nat.le_of_ble_eq_true rfl⟩ ⟨Nat.le_of_ble_eq_true rfl, Nat.le_of_ble_eq_true rfl⟩) hP hD hS hA rfl rfl (by decide) (by decide) (by decide) (fun _ => rfl) (fun r_3 u_3 H locs hw_3 hP hD hS => ?_)
        subst hw_3
        have hP : va_P (dC, dI) classes [(aK, .inr (1, [.ref aKk, .ref aKp, .ref aKv, .int kn, .int kl, .int kx])), (aKk, .inl (cI, 480, .inl kk)), (aKp, .inl (cI, 480, .inl kp)), (aKv, .inl (cJ, 480, .inr (.inl kv))), (aT, .inr (0, [.ref aTc, .int tn])), (aTc, .inl (cB, 480, .inl tc))] H := hP
        have hD : va_D A [(aK, .inr (1, [.ref aKk, .ref aKp, .ref aKv, .int kn, .int kl, .int kx])), (aKk, .inl (cI, 480, .inl kk)), (aKp, .inl (cI, 480, .inl kp)), (aKv, .inl (cJ, 480, .inr (.inl kv))), (aT, .inr (0, [.ref aTc, .int tn])), (aTc, .inl (cB, 480, .inl tc))] := hD
        refine lv_istore_n (lv' := [(3, .int (m_Tape_at tc tn kx)), (2, .int x2), (0, .ref aK), (1, .ref aT)]) hx hb d_Tokens_scan_46 rfl hl (by decide) rfl (fun ls hl => ?_)
        refine lv_iload_n hx hb d_Tokens_scan_47 rfl (lv_at hl 0 rfl) ?_
        refine lv_bipush (v := 32) hx hb d_Tokens_scan_48 (by decide) ?_
        refine lv_icmp_ne (tgt := 66) hx hb d_Tokens_scan_50 (by decide) (fun c_4 => ?_) (fun c_4 => ?_)
        · have q_4 : ¬ _ = _ := fun h => c_4 (Int32.toInt_inj.mp h)
          refine lv_iload_n hx hb d_Tokens_scan_66 rfl (lv_at hl 0 rfl) ?_
          refine gk_i (isC := []) (isR := [0, 1, 2, 3, 4, 5]) (perm := [0, 1, 2, 3, 4, 5]) (wr := [(aK, .inr (1, [.ref aKk, .ref aKp, .ref aKv, .int kn, .int kl, .int kx])), (aKk, .inl (cI, 480, .inl kk)), (aKp, .inl (cI, 480, .inl kp)), (aKv, .inl (cJ, 480, .inr (.inl kv))), (aT, .inr (0, [.ref aTc, .int tn])), (aTc, .inl (cB, 480, .inl tc))]) (can := fun u => [(aK, .inr (1, [.ref aKk, .ref aKp, .ref aKv, .int kn, .int kl, .int kx])), (aKk, .inl (cI, 480, .inl kk)), (aKp, .inl (cI, 480, .inl kp)), (aKv, .inl (cJ, 480, .inr (.inl kv))), (aT, .inr (0, [.ref aTc, .int tn])), (aTc, .inl (cB, 480, .inl tc))]) (gr_S C0 (c_Tokens_isLetter l dC dI cB cI cJ _ (m_Tape_at tc tn kx)) cs_Tokens_40 hK hP hD [] rfl (by decide) g_tb g_tx rfl rfl hl.1 rfl (lv_room (Nat.le_of_ble_eq_true rfl)) d_Tokens_scan_67 ⟨Nat.le_of_ble_eq_true rfl, Nat.le_of_ble_eq_true rfl⟩ ⟨Nat.le_of_ble_eq_true rfl, Nat.le_of_ble_eq_true rfl⟩) hP hD hS hA rfl rfl (by decide) (by decide) (by decide) (fun _ => rfl) (fun r_5 u_5 H locs hw_5 hP hD hS => ?_)
          obtain ⟨hw_5, hb_5⟩ := hw_5
          subst hw_5
          have hP : va_P (dC, dI) classes [(aK, .inr (1, [.ref aKk, .ref aKp, .ref aKv, .int kn, .int kl, .int kx])), (aKk, .inl (cI, 480, .inl kk)), (aKp, .inl (cI, 480, .inl kp)), (aKv, .inl (cJ, 480, .inr (.inl kv))), (aT, .inr (0, [.ref aTc, .int tn])), (aTc, .inl (cB, 480, .inl tc))] H := hP
          have hD : va_D A [(aK, .inr (1, [.ref aKk, .ref aKp, .ref aKv, .int kn, .int kl, .int kx])), (aKk, .inl (cI, 480, .inl kk)), (aKp, .inl (cI, 480, .inl kp)), (aKv, .inl (cJ, 480, .inr (.inl kv))), (aT, .inr (0, [.ref aTc, .int tn])), (aTc, .inl (cB, 480, .inl tc))] := hD
          refine lv_if_eq (tgt := 81) hx hb d_Tokens_scan_70 (by decide) (fun c_6 => ?_) (fun c_6 => ?_)
          · have q_6 := congrArg Int32.toInt c_6
            refine lv_iload_n hx hb d_Tokens_scan_81 rfl (lv_at hl 0 rfl) ?_
            refine gk_i (isC := []) (isR := [0, 1, 2, 3, 4, 5]) (perm := [0, 1, 2, 3, 4, 5]) (wr := [(aK, .inr (1, [.ref aKk, .ref aKp, .ref aKv, .int kn, .int kl, .int kx])), (aKk, .inl (cI, 480, .inl kk)), (aKp, .inl (cI, 480, .inl kp)), (aKv, .inl (cJ, 480, .inr (.inl kv))), (aT, .inr (0, [.ref aTc, .int tn])), (aTc, .inl (cB, 480, .inl tc))]) (can := fun u => [(aK, .inr (1, [.ref aKk, .ref aKp, .ref aKv, .int kn, .int kl, .int kx])), (aKk, .inl (cI, 480, .inl kk)), (aKp, .inl (cI, 480, .inl kp)), (aKv, .inl (cJ, 480, .inr (.inl kv))), (aT, .inr (0, [.ref aTc, .int tn])), (aTc, .inl (cB, 480, .inl tc))]) (gr_S C0 (c_Tokens_isDigit l dC dI cB cI cJ _ (m_Tape_at tc tn kx)) cs_Tokens_48 hK hP hD [] rfl (by decide) g_tb g_tx rfl rfl hl.1 rfl (lv_room (Nat.le_of_ble_eq_true rfl)) d_Tokens_scan_82 ⟨Nat.le_of_ble_eq_true rfl, Nat.le_of_ble_eq_true rfl⟩ ⟨Nat.le_of_ble_eq_true rfl, Nat.le_of_ble_eq_true rfl⟩) hP hD hS hA rfl rfl (by decide) (by decide) (by decide) (fun _ => rfl) (fun r_7 u_7 H locs hw_7 hP hD hS => ?_)
            obtain ⟨hw_7, hb_7⟩ := hw_7
            subst hw_7
            have hP : va_P (dC, dI) classes [(aK, .inr (1, [.ref aKk, .ref aKp, .ref aKv, .int kn, .int kl, .int kx])), (aKk, .inl (cI, 480, .inl kk)), (aKp, .inl (cI, 480, .inl kp)), (aKv, .inl (cJ, 480, .inr (.inl kv))), (aT, .inr (0, [.ref aTc, .int tn])), (aTc, .inl (cB, 480, .inl tc))] H := hP
            have hD : va_D A [(aK, .inr (1, [.ref aKk, .ref aKp, .ref aKv, .int kn, .int kl, .int kx])), (aKk, .inl (cI, 480, .inl kk)), (aKp, .inl (cI, 480, .inl kp)), (aKv, .inl (cJ, 480, .inr (.inl kv))), (aT, .inr (0, [.ref aTc, .int tn])), (aTc, .inl (cB, 480, .inl tc))] := hD
            refine lv_if_eq (tgt := 96) hx hb d_Tokens_scan_85 (by decide) (fun c_8 => ?_) (fun c_8 => ?_)
            · have q_8 := congrArg Int32.toInt c_8
              refine lv_aload_n hx hb d_Tokens_scan_96 rfl (lv_at hl 2 rfl) ?_
              refine lv_dup hx hb d_Tokens_scan_97 rfl ?_
              refine va_get (D := (dC, dI)) (ci := 1) (v := .int kx) (C := R_Tokens) (T := F_Tokens) (N := 6) hx hb hts i_Tokens hown hK hP 0 rfl rfl 5 (by decide) (hts _ tw_8) (fun _ h9 => h9) rfl d_Tokens_scan_98 ?_
              refine lv_iconst (v := 1) hx hb d_Tokens_scan_101 (by decide) ?_
              refine lv_iadd hx hb d_Tokens_scan_102 ?_
              refine va_put (D := (dC, dI)) (ci := 1) (v := .int (kx + 1)) (ty := .int) (C := R_Tokens) (T := F_Tokens) (N := 6) hx hb hts i_Tokens t_Tokens t_Tokens_ok n_Tokens hown hK hP hD hS 0 rfl rfl 5 (by decide) (hts _ tw_8) (fun _ h9 => h9) rfl (by decide +kernel) rfl rfl (Nat.le_of_ble_eq_true rfl) d_Tokens_scan_103 (fun H locs hP hD hS => ?_)
              have hP : va_P (dC, dI) classes [(aK, .inr (1, [.ref aKk, .ref aKp, .ref aKv, .int kn, .int kl, .int (kx + 1)])), (aKk, .inl (cI, 480, .inl kk)), (aKp, .inl (cI, 480, .inl kp)), (aKv, .inl (cJ, 480, .inr (.inl kv))), (aT, .inr (0, [.ref aTc, .int tn])), (aTc, .inl (cB, 480, .inl tc))] H := hP
              have hD : va_D A [(aK, .inr (1, [.ref aKk, .ref aKp, .ref aKv, .int kn, .int kl, .int (kx + 1)])), (aKk, .inl (cI, 480, .inl kk)), (aKp, .inl (cI, 480, .inl kp)), (aKv, .inl (cJ, 480, .inr (.inl kv))), (aT, .inr (0, [.ref aTc, .int tn])), (aTc, .inl (cB, 480, .inl tc))] := hD
              refine lv_aload_n hx hb d_Tokens_scan_106 rfl (lv_at hl 2 rfl) ?_
              refine lv_iload_n hx hb d_Tokens_scan_107 rfl (lv_at hl 0 rfl) ?_
              refine gk_i (isC := []) (isR := [0, 1, 2, 3, 4, 5]) (perm := [0, 1, 2, 3, 4, 5]) (wr := [(aK, .inr (1, [.ref aKk, .ref aKp, .ref aKv, .int kn, .int kl, .int (kx + 1)])), (aKk, .inl (cI, 480, .inl kk)), (aKp, .inl (cI, 480, .inl kp)), (aKv, .inl (cJ, 480, .inr (.inl kv))), (aT, .inr (0, [.ref aTc, .int tn])), (aTc, .inl (cB, 480, .inl tc))]) (can := fun u => [(aK, .inr (1, [.ref aKk, .ref aKp, .ref aKv, .int kn, .int kl, .int (kx + 1)])), (aKk, .inl (cI, 480, .inl kk)), (aKp, .inl (cI, 480, .inl kp)), (aKv, .inl (cJ, 480, .inr (.inl kv))), (aT, .inr (0, [.ref aTc, .int tn])), (aTc, .inl (cB, 480, .inl tc))]) (gr_S C0 (c_Tokens_isSign l dC dI cB cI cJ _ (m_Tape_at tc tn kx)) cs_Tokens_54 hK hP hD [] rfl (by decide) g_tb g_tx rfl rfl hl.1 rfl (lv_room (Nat.le_of_ble_eq_true rfl)) d_Tokens_scan_108 ⟨Nat.le_of_ble_eq_true rfl, Nat.le_of_ble_eq_true rfl⟩ ⟨Nat.le_of_ble_eq_true rfl, Nat.le_of_ble_eq_true rfl⟩) hP hD hS hA rfl rfl (by decide) (by decide) (by decide) (fun _ => rfl) (fun r_9 u_9 H locs hw_9 hP hD hS => ?_)
              obtain ⟨hw_9, hb_9⟩ := hw_9
              subst hw_9
              have hP : va_P (dC, dI) classes [(aK, .inr (1, [.ref aKk, .ref aKp, .ref aKv, .int kn, .int kl, .int (kx + 1)])), (aKk, .inl (cI, 480, .inl kk)), (aKp, .inl (cI, 480, .inl kp)), (aKv, .inl (cJ, 480, .inr (.inl kv))), (aT, .inr (0, [.ref aTc, .int tn])), (aTc, .inl (cB, 480, .inl tc))] H := hP
              have hD : va_D A [(aK, .inr (1, [.ref aKk, .ref aKp, .ref aKv, .int kn, .int kl, .int (kx + 1)])), (aKk, .inl (cI, 480, .inl kk)), (aKp, .inl (cI, 480, .inl kp)), (aKv, .inl (cJ, 480, .inr (.inl kv))), (aT, .inr (0, [.ref aTc, .int tn])), (aTc, .inl (cB, 480, .inl tc))] := hD
              refine lv_if_eq (tgt := 118) hx hb d_Tokens_scan_111 (by decide) (fun c_10 => ?_) (fun c_10 => ?_)
              · have q_10 := congrArg Int32.toInt c_10
                refine lv_iconst (v := 1) hx hb d_Tokens_scan_118 (by decide) ?_
                refine lv_aload_n hx hb d_Tokens_scan_119 rfl (lv_at hl 2 rfl) ?_
                refine va_get (D := (dC, dI)) (ci := 1) (v := .int (kx + 1)) (C := R_Tokens) (T := F_Tokens) (N := 6) hx hb hts i_Tokens hown hK hP 0 rfl rfl 5 (by decide) (hts _ tw_8) (fun _ h9 => h9) rfl d_Tokens_scan_120 ?_
                refine lv_iconst (v := 1) hx hb d_Tokens_scan_123 (by decide) ?_
                refine lv_isub hx hb d_Tokens_scan_124 ?_
                refine lv_lconst (v := 0) hx hb d_Tokens_scan_125 (by decide) ?_
                refine gk_v (isC := [0, 1, 2, 3]) (isR := [4, 5]) (perm := [2, 3, 4, 5, 0, 1]) (wr := [(aT, .inr (0, [.ref aTc, .int tn])), (aTc, .inl (cB, 480, .inl tc))]) (can := fun u => [(aK, .inr (1, [.ref aKk, .ref aKp, .ref aKv, .int u.2.2.2, .int kl, .int (kx + 1)])), (aKk, .inl (cI, 480, .inl u.1)), (aKp, .inl (cI, 480, .inl u.2.1)), (aKv, .inl (cJ, 480, .inr (.inl u.2.2.1))), (aT, .inr (0, [.ref aTc, .int tn])), (aTc, .inl (cB, 480, .inl tc))]) (gr_V C0 (c_Tokens_add l dC dI cB cI cJ aK aKk aKp aKv _ kk kp kv kn kl (kx + 1) 1 ((kx + 1) - 1) 0 (s_Tokens_scan_2 q_1 q_2 q_4 q_6 q_8 q_10 h_t0 h_t1 hm i_0)) cs_Tokens_57 hK hP hD [0, 1, 2, 3] rfl (by decide) g_tb g_tx (ci := 1) (k := 0) rfl rfl rfl rfl hl.1 rfl (lv_room (Nat.le_of_ble_eq_true rfl)) d_Tokens_scan_126 ⟨Nat.le_of_ble_eq_true rfl, Nat.le_of_ble_eq_true rfl⟩ ⟨Nat.le_of_ble_eq_true rfl, Nat.le_of_ble_eq_true rfl⟩) hP hD hS hA rfl rfl (by decide) (by decide) (by decide) (fun _ => rfl) (fun u_11 H locs hw_11 hP hD hS => ?_)
                obtain ⟨u11_kk, u11_kp, u11_kv, u11_kn⟩ := u_11
                have hP : va_P (dC, dI) classes [(aK, .inr (1, [.ref aKk, .ref aKp, .ref aKv, .int u11_kn, .int kl, .int (kx + 1)])), (aKk, .inl (cI, 480, .inl u11_kk)), (aKp, .inl (cI, 480, .inl u11_kp)), (aKv, .inl (cJ, 480, .inr (.inl u11_kv))), (aT, .inr (0, [.ref aTc, .int tn])), (aTc, .inl (cB, 480, .inl tc))] H := hP
                have hD : va_D A [(aK, .inr (1, [.ref aKk, .ref aKp, .ref aKv, .int u11_kn, .int kl, .int (kx + 1)])), (aKk, .inl (cI, 480, .inl u11_kk)), (aKp, .inl (cI, 480, .inl u11_kp)), (aKv, .inl (cJ, 480, .inr (.inl u11_kv))), (aT, .inr (0, [.ref aTc, .int tn])), (aTc, .inl (cB, 480, .inl tc))] := hD
                have v0_11 := v_Tokens_add hw_11 (s_Tokens_scan_3 q_1 q_2 q_4 q_6 q_8 q_10 h_t0 h_t1 hm i_0)
                refine lv_iinc (v := (x2 + 1)) (lv' := [(2, .int (x2 + 1)), (3, .int (m_Tape_at tc tn kx)), (0, .ref aK), (1, .ref aT)]) hx hb d_Tokens_scan_129 hl (k := 1) rfl rfl (by decide) rfl (fun ls hl => ?_)
                refine lv_goto (tgt := 20) hx hb d_Tokens_scan_132 (by decide) ?_
                exact ih  (x2 + 1) u11_kk u11_kp u11_kv u11_kn kl (kx + 1) (s_Tokens_scan_4 q_1 q_2 q_4 q_6 q_8 q_10 v0_11 h_t0 h_t1 hm i_0) (s_Tokens_scan_5 q_1 q_2 q_4 q_6 q_8 q_10 v0_11 h_t0 h_t1 hm i_0) (by rw [← hres]; simp only [m_Tokens_scan_L20, if_neg c_1, if_neg c_2, if_neg c_4, if_pos c_6, if_pos c_8, if_pos c_10, ← hw_11]) _ _ _ hP hD hS (lv_sub hl [0, 2, 3] rfl)
              · have q_10 : ¬ _ = _ := fun h => c_10 (Int32.toInt_inj.mp h)
                refine lv_iload_n hx hb d_Tokens_scan_114 rfl (lv_at hl 0 rfl) ?_
                refine lv_goto (tgt := 119) hx hb d_Tokens_scan_115 (by decide) ?_
                refine lv_aload_n hx hb d_Tokens_scan_119 rfl (lv_at hl 2 rfl) ?_
                refine va_get (D := (dC, dI)) (ci := 1) (v := .int (kx + 1)) (C := R_Tokens) (T := F_Tokens) (N := 6) hx hb hts i_Tokens hown hK hP 0 rfl rfl 5 (by decide) (hts _ tw_8) (fun _ h9 => h9) rfl d_Tokens_scan_120 ?_
                refine lv_iconst (v := 1) hx hb d_Tokens_scan_123 (by decide) ?_
                refine lv_isub hx hb d_Tokens_scan_124 ?_
                refine lv_lconst (v := 0) hx hb d_Tokens_scan_125 (by decide) ?_
                refine gk_v (isC := [0, 1, 2, 3]) (isR := [4, 5]) (perm := [2, 3, 4, 5, 0, 1]) (wr := [(aT, .inr (0, [.ref aTc, .int tn])), (aTc, .inl (cB, 480, .inl tc))]) (can := fun u => [(aK, .inr (1, [.ref aKk, .ref aKp, .ref aKv, .int u.2.2.2, .int kl, .int (kx + 1)])), (aKk, .inl (cI, 480, .inl u.1)), (aKp, .inl (cI, 480, .inl u.2.1)), (aKv, .inl (cJ, 480, .inr (.inl u.2.2.1))), (aT, .inr (0, [.ref aTc, .int tn])), (aTc, .inl (cB, 480, .inl tc))]) (gr_V C0 (c_Tokens_add l dC dI cB cI cJ aK aKk aKp aKv _ kk kp kv kn kl (kx + 1) (m_Tape_at tc tn kx) ((kx + 1) - 1) 0 (s_Tokens_scan_6 q_1 q_2 q_4 q_6 q_8 q_10 h_t0 h_t1 hm i_0)) cs_Tokens_57 hK hP hD [0, 1, 2, 3] rfl (by decide) g_tb g_tx (ci := 1) (k := 0) rfl rfl rfl rfl hl.1 rfl (lv_room (Nat.le_of_ble_eq_true rfl)) d_Tokens_scan_126 ⟨Nat.le_of_ble_eq_true rfl, Nat.le_of_ble_eq_true rfl⟩ ⟨Nat.le_of_ble_eq_true rfl, Nat.le_of_ble_eq_true rfl⟩) hP hD hS hA rfl rfl (by decide) (by decide) (by decide) (fun _ => rfl) (fun u_12 H locs hw_12 hP hD hS => ?_)
                obtain ⟨u12_kk, u12_kp, u12_kv, u12_kn⟩ := u_12
                have hP : va_P (dC, dI) classes [(aK, .inr (1, [.ref aKk, .ref aKp, .ref aKv, .int u12_kn, .int kl, .int (kx + 1)])), (aKk, .inl (cI, 480, .inl u12_kk)), (aKp, .inl (cI, 480, .inl u12_kp)), (aKv, .inl (cJ, 480, .inr (.inl u12_kv))), (aT, .inr (0, [.ref aTc, .int tn])), (aTc, .inl (cB, 480, .inl tc))] H := hP
                have hD : va_D A [(aK, .inr (1, [.ref aKk, .ref aKp, .ref aKv, .int u12_kn, .int kl, .int (kx + 1)])), (aKk, .inl (cI, 480, .inl u12_kk)), (aKp, .inl (cI, 480, .inl u12_kp)), (aKv, .inl (cJ, 480, .inr (.inl u12_kv))), (aT, .inr (0, [.ref aTc, .int tn])), (aTc, .inl (cB, 480, .inl tc))] := hD
                have v0_12 := v_Tokens_add hw_12 (s_Tokens_scan_7 q_1 q_2 q_4 q_6 q_8 q_10 h_t0 h_t1 hm i_0)
                refine lv_iinc (v := (x2 + 1)) (lv' := [(2, .int (x2 + 1)), (3, .int (m_Tape_at tc tn kx)), (0, .ref aK), (1, .ref aT)]) hx hb d_Tokens_scan_129 hl (k := 1) rfl rfl (by decide) rfl (fun ls hl => ?_)
                refine lv_goto (tgt := 20) hx hb d_Tokens_scan_132 (by decide) ?_
                exact ih  (x2 + 1) u12_kk u12_kp u12_kv u12_kn kl (kx + 1) (s_Tokens_scan_8 q_1 q_2 q_4 q_6 q_8 q_10 v0_12 h_t0 h_t1 hm i_0) (s_Tokens_scan_9 q_1 q_2 q_4 q_6 q_8 q_10 v0_12 h_t0 h_t1 hm i_0) (by rw [← hres]; simp only [m_Tokens_scan_L20, if_neg c_1, if_neg c_2, if_neg c_4, if_pos c_6, if_pos c_8, if_neg c_10, ← hw_12]) _ _ _ hP hD hS (lv_sub hl [0, 2, 3] rfl)
            · have q_8 : ¬ _ = _ := fun h => c_8 (Int32.toInt_inj.mp h)
              refine lv_aload_n hx hb d_Tokens_scan_88 rfl (lv_at hl 2 rfl) ?_
              refine lv_aload_n hx hb d_Tokens_scan_89 rfl (lv_at hl 3 rfl) ?_
              refine gk_v (isC := [0, 1, 2, 3, 4, 5]) (isR := []) (perm := [0, 1, 2, 3, 4, 5]) (wr := []) (can := fun u => [(aK, .inr (1, [.ref aKk, .ref aKp, .ref aKv, .int u.2.2.2.1, .int kl, .int u.2.2.2.2])), (aKk, .inl (cI, 480, .inl u.1)), (aKp, .inl (cI, 480, .inl u.2.1)), (aKv, .inl (cJ, 480, .inr (.inl u.2.2.1))), (aT, .inr (0, [.ref aTc, .int tn])), (aTc, .inl (cB, 480, .inl tc))]) (gr_V C0 (c_Tokens_scanNumber l dC dI cB cI cJ aK aKk aKp aKv aT aTc _ kk kp kv kn kl kx tc tn (s_Tokens_scan_10 q_1 q_2 q_4 q_6 q_8 h_t0 h_t1 hm i_0) (s_Tokens_scan_11 q_1 q_2 q_4 q_6 q_8 h_t0 h_t1 hm i_0) (s_Tokens_scan_12 q_1 q_2 q_4 q_6 q_8 h_t0 h_t1 hm i_0)) cs_Tokens_51 hK hP hD [0, 1, 2, 3, 4, 5] rfl (by decide) g_tb g_tx (ci := 1) (k := 0) rfl rfl rfl rfl hl.1 rfl (lv_room (Nat.le_of_ble_eq_true rfl)) d_Tokens_scan_90 ⟨Nat.le_of_ble_eq_true rfl, Nat.le_of_ble_eq_true rfl⟩ ⟨Nat.le_of_ble_eq_true rfl, Nat.le_of_ble_eq_true rfl⟩) hP hD hS hA rfl rfl (by decide) (by decide) (by decide) (fun _ => rfl) (fun u_13 H locs hw_13 hP hD hS => ?_)
              obtain ⟨u13_kk, u13_kp, u13_kv, u13_kn, u13_kx⟩ := u_13
              have hP : va_P (dC, dI) classes [(aK, .inr (1, [.ref aKk, .ref aKp, .ref aKv, .int u13_kn, .int kl, .int u13_kx])), (aKk, .inl (cI, 480, .inl u13_kk)), (aKp, .inl (cI, 480, .inl u13_kp)), (aKv, .inl (cJ, 480, .inr (.inl u13_kv))), (aT, .inr (0, [.ref aTc, .int tn])), (aTc, .inl (cB, 480, .inl tc))] H := hP
              have hD : va_D A [(aK, .inr (1, [.ref aKk, .ref aKp, .ref aKv, .int u13_kn, .int kl, .int u13_kx])), (aKk, .inl (cI, 480, .inl u13_kk)), (aKp, .inl (cI, 480, .inl u13_kp)), (aKv, .inl (cJ, 480, .inr (.inl u13_kv))), (aT, .inr (0, [.ref aTc, .int tn])), (aTc, .inl (cB, 480, .inl tc))] := hD
              have v0_13 := v_Tokens_scanNumber hw_13 (s_Tokens_scan_13 q_1 q_2 q_4 q_6 q_8 h_t0 h_t1 hm i_0)
              refine lv_goto (tgt := 129) hx hb d_Tokens_scan_93 (by decide) ?_
              refine lv_iinc (v := (x2 + 1)) (lv' := [(2, .int (x2 + 1)), (3, .int (m_Tape_at tc tn kx)), (0, .ref aK), (1, .ref aT)]) hx hb d_Tokens_scan_129 hl (k := 1) rfl rfl (by decide) rfl (fun ls hl => ?_)
              refine lv_goto (tgt := 20) hx hb d_Tokens_scan_132 (by decide) ?_
              exact ih  (x2 + 1) u13_kk u13_kp u13_kv u13_kn kl u13_kx (s_Tokens_scan_14 q_1 q_2 q_4 q_6 q_8 v0_13 h_t0 h_t1 hm i_0) (s_Tokens_scan_15 q_1 q_2 q_4 q_6 q_8 v0_13 h_t0 h_t1 hm i_0) (by rw [← hres]; simp only [m_Tokens_scan_L20, if_neg c_1, if_neg c_2, if_neg c_4, if_pos c_6, if_neg c_8, ← hw_13]) _ _ _ hP hD hS (lv_sub hl [0, 2, 3] rfl)
          · have q_6 : ¬ _ = _ := fun h => c_6 (Int32.toInt_inj.mp h)
            refine lv_aload_n hx hb d_Tokens_scan_73 rfl (lv_at hl 2 rfl) ?_
            refine lv_aload_n hx hb d_Tokens_scan_74 rfl (lv_at hl 3 rfl) ?_
            refine gk_v (isC := [0, 1, 2, 3, 4, 5]) (isR := []) (perm := [0, 1, 2, 3, 4, 5]) (wr := []) (can := fun u => [(aK, .inr (1, [.ref aKk, .ref aKp, .ref aKv, .int u.2.2.2.1, .int kl, .int u.2.2.2.2])), (aKk, .inl (cI, 480, .inl u.1)), (aKp, .inl (cI, 480, .inl u.2.1)), (aKv, .inl (cJ, 480, .inr (.inl u.2.2.1))), (aT, .inr (0, [.ref aTc, .int tn])), (aTc, .inl (cB, 480, .inl tc))]) (gr_V C0 (c_Tokens_scanName l dC dI cB cI cJ aK aKk aKp aKv aT aTc _ kk kp kv kn kl kx tc tn (s_Tokens_scan_16 q_1 q_2 q_4 q_6 h_t0 h_t1 hm i_0) (s_Tokens_scan_17 q_1 q_2 q_4 q_6 h_t0 h_t1 hm i_0) (s_Tokens_scan_18 q_1 q_2 q_4 q_6 h_t0 h_t1 hm i_0)) cs_Tokens_44 hK hP hD [0, 1, 2, 3, 4, 5] rfl (by decide) g_tb g_tx (ci := 1) (k := 0) rfl rfl rfl rfl hl.1 rfl (lv_room (Nat.le_of_ble_eq_true rfl)) d_Tokens_scan_75 ⟨Nat.le_of_ble_eq_true rfl, Nat.le_of_ble_eq_true rfl⟩ ⟨Nat.le_of_ble_eq_true rfl, Nat.le_of_ble_eq_true rfl⟩) hP hD hS hA rfl rfl (by decide) (by decide) (by decide) (fun _ => rfl) (fun u_14 H locs hw_14 hP hD hS => ?_)
            obtain ⟨u14_kk, u14_kp, u14_kv, u14_kn, u14_kx⟩ := u_14
            have hP : va_P (dC, dI) classes [(aK, .inr (1, [.ref aKk, .ref aKp, .ref aKv, .int u14_kn, .int kl, .int u14_kx])), (aKk, .inl (cI, 480, .inl u14_kk)), (aKp, .inl (cI, 480, .inl u14_kp)), (aKv, .inl (cJ, 480, .inr (.inl u14_kv))), (aT, .inr (0, [.ref aTc, .int tn])), (aTc, .inl (cB, 480, .inl tc))] H := hP
            have hD : va_D A [(aK, .inr (1, [.ref aKk, .ref aKp, .ref aKv, .int u14_kn, .int kl, .int u14_kx])), (aKk, .inl (cI, 480, .inl u14_kk)), (aKp, .inl (cI, 480, .inl u14_kp)), (aKv, .inl (cJ, 480, .inr (.inl u14_kv))), (aT, .inr (0, [.ref aTc, .int tn])), (aTc, .inl (cB, 480, .inl tc))] := hD
            have v0_14 := v_Tokens_scanName hw_14 (s_Tokens_scan_19 q_1 q_2 q_4 q_6 h_t0 h_t1 hm i_0)
            refine lv_goto (tgt := 129) hx hb d_Tokens_scan_78 (by decide) ?_
            refine lv_iinc (v := (x2 + 1)) (lv' := [(2, .int (x2 + 1)), (3, .int (m_Tape_at tc tn kx)), (0, .ref aK), (1, .ref aT)]) hx hb d_Tokens_scan_129 hl (k := 1) rfl rfl (by decide) rfl (fun ls hl => ?_)
            refine lv_goto (tgt := 20) hx hb d_Tokens_scan_132 (by decide) ?_
            exact ih  (x2 + 1) u14_kk u14_kp u14_kv u14_kn kl u14_kx (s_Tokens_scan_20 q_1 q_2 q_4 q_6 v0_14 h_t0 h_t1 hm i_0) (s_Tokens_scan_21 q_1 q_2 q_4 q_6 v0_14 h_t0 h_t1 hm i_0) (by rw [← hres]; simp only [m_Tokens_scan_L20, if_neg c_1, if_neg c_2, if_neg c_4, if_neg c_6, ← hw_14]) _ _ _ hP hD hS (lv_sub hl [0, 2, 3] rfl)
        · have q_4 := congrArg Int32.toInt c_4
          refine lv_aload_n hx hb d_Tokens_scan_53 rfl (lv_at hl 2 rfl) ?_
          refine lv_dup hx hb d_Tokens_scan_54 rfl ?_
          refine va_get (D := (dC, dI)) (ci := 1) (v := .int kx) (C := R_Tokens) (T := F_Tokens) (N := 6) hx hb hts i_Tokens hown hK hP 0 rfl rfl 5 (by decide) (hts _ tw_8) (fun _ h9 => h9) rfl d_Tokens_scan_55 ?_
          refine lv_iconst (v := 1) hx hb d_Tokens_scan_58 (by decide) ?_
          refine lv_iadd hx hb d_Tokens_scan_59 ?_
          refine va_put (D := (dC, dI)) (ci := 1) (v := .int (kx + 1)) (ty := .int) (C := R_Tokens) (T := F_Tokens) (N := 6) hx hb hts i_Tokens t_Tokens t_Tokens_ok n_Tokens hown hK hP hD hS 0 rfl rfl 5 (by decide) (hts _ tw_8) (fun _ h9 => h9) rfl (by decide +kernel) rfl rfl (Nat.le_of_ble_eq_true rfl) d_Tokens_scan_60 (fun H locs hP hD hS => ?_)
          have hP : va_P (dC, dI) classes [(aK, .inr (1, [.ref aKk, .ref aKp, .ref aKv, .int kn, .int kl, .int (kx + 1)])), (aKk, .inl (cI, 480, .inl kk)), (aKp, .inl (cI, 480, .inl kp)), (aKv, .inl (cJ, 480, .inr (.inl kv))), (aT, .inr (0, [.ref aTc, .int tn])), (aTc, .inl (cB, 480, .inl tc))] H := hP
          have hD : va_D A [(aK, .inr (1, [.ref aKk, .ref aKp, .ref aKv, .int kn, .int kl, .int (kx + 1)])), (aKk, .inl (cI, 480, .inl kk)), (aKp, .inl (cI, 480, .inl kp)), (aKv, .inl (cJ, 480, .inr (.inl kv))), (aT, .inr (0, [.ref aTc, .int tn])), (aTc, .inl (cB, 480, .inl tc))] := hD
          refine lv_goto (tgt := 129) hx hb d_Tokens_scan_63 (by decide) ?_
          refine lv_iinc (v := (x2 + 1)) (lv' := [(2, .int (x2 + 1)), (3, .int (m_Tape_at tc tn kx)), (0, .ref aK), (1, .ref aT)]) hx hb d_Tokens_scan_129 hl (k := 1) rfl rfl (by decide) rfl (fun ls hl => ?_)
          refine lv_goto (tgt := 20) hx hb d_Tokens_scan_132 (by decide) ?_
          exact ih  (x2 + 1) kk kp kv kn kl (kx + 1) (s_Tokens_scan_22 q_1 q_2 q_4 h_t0 h_t1 hm i_0) (s_Tokens_scan_23 q_1 q_2 q_4 h_t0 h_t1 hm i_0) (by rw [← hres]; simp only [m_Tokens_scan_L20, if_neg c_1, if_neg c_2, if_pos c_4]) _ _ _ hP hD hS (lv_sub hl [0, 2, 3] rfl)
def m_Tokens_scan (kk : Nat → Int32) (kp : Nat → Int32) (kv : Nat → Int64) (kn : Int32) (kl : Int32) (kx : Int32) (tc : Nat → Int32) (tn : Int32) : (Nat → Int32) × (Nat → Int32) × (Nat → Int64) × Int32 × Int32 × Int32 :=
  m_Tokens_scan_L20 tc tn (481) 0 kk kp kv 0 (m_Tape_length tn) 0
theorem s_Tokens_scan_24 {tn : Int32} (h_t0 : 0 ≤ tn.toInt) (h_t1 : tn.toInt ≤ 480) : (480 - (0 : Int32).toInt).toNat < (481) := by have z0 : (0 : Int32).toInt = 0 := (by decide); have g0 := gz_r tn; omega
theorem s_Tokens_scan_25 {tn : Int32} (h_t0 : 0 ≤ tn.toInt) (h_t1 : tn.toInt ≤ 480) : 0 ≤ (0 : Int32).toInt := by have z0 : (0 : Int32).toInt = 0 := (by decide); have g0 := gz_r tn; omega
set_option maxHeartbeats 4000000 in
set_option maxRecDepth 100000 in
theorem c_Tokens_scan (l : Launch) (dC : Nat → ClassId) (dI : Nat → Nat → Nat) (cB cI cJ : ClassId) (aK aKk aKp aKv aT aTc : Nat) (sz : Nat) (kk : Nat → Int32) (kp : Nat → Int32) (kv : Nat → Int64) (kn : Int32) (kl : Int32) (kx : Int32) (tc : Nat → Int32) (tn : Int32) (h_t0 : 0 ≤ tn.toInt) (h_t1 : tn.toInt ≤ 480) : Met l y_Tokens_scan w_Tokens_scan ({ frames := 2, cells := 0, slots := 0, locals := 48 }) (va_Pc [.ref aK, .ref aT] (g_pre dC dI [(cB, .byte), (cI, .int), (cJ, .long)] sz [(aK, .inr (1, [.ref aKk, .ref aKp, .ref aKv, .int kn, .int kl, .int kx])), (aKk, .inl (cI, 480, .inl kk)), (aKp, .inl (cI, 480, .inl kp)), (aKv, .inl (cJ, 480, .inr (.inl kv))), (aT, .inr (0, [.ref aTc, .int tn])), (aTc, .inl (cB, 480, .inl tc))] (fun _ => True))) (va_Qv (fun u : (Nat → Int32) × (Nat → Int32) × (Nat → Int64) × Int32 × Int32 × Int32 => u = (m_Tokens_scan kk kp kv kn kl kx tc tn)) (fun u => g_post dC dI [(cB, .byte), (cI, .int), (cJ, .long)] (va_A [(aK, .inr (1, [.ref aKk, .ref aKp, .ref aKv, .int kn, .int kl, .int kx])), (aKk, .inl (cI, 480, .inl kk)), (aKp, .inl (cI, 480, .inl kp)), (aKv, .inl (cJ, 480, .inr (.inl kv))), (aT, .inr (0, [.ref aTc, .int tn])), (aTc, .inl (cB, 480, .inl tc))] sz) [(aK, .inr (1, [.ref aKk, .ref aKp, .ref aKv, .int u.2.2.2.1, .int u.2.2.2.2.1, .int u.2.2.2.2.2])), (aKk, .inl (cI, 480, .inl u.1)), (aKp, .inl (cI, 480, .inl u.2.1)), (aKv, .inl (cJ, 480, .inr (.inl u.2.2.1))), (aT, .inr (0, [.ref aTc, .int tn])), (aTc, .inl (cB, 480, .inl tc))]) (va_A [(aK, .inr (1, [.ref aKk, .ref aKp, .ref aKv, .int kn, .int kl, .int kx])), (aKk, .inl (cI, 480, .inl kk)), (aKp, .inl (cI, 480, .inl kp)), (aKv, .inl (cJ, 480, .inr (.inl kv))), (aT, .inr (0, [.ref aTc, .int tn])), (aTc, .inl (cB, 480, .inl tc))] sz)) 0 0 (va_A [(aK, .inr (1, [.ref aKk, .ref aKp, .ref aKv, .int kn, .int kl, .int kx])), (aKk, .inl (cI, 480, .inl kk)), (aKp, .inl (cI, 480, .inl kp)), (aKv, .inl (cJ, 480, .inr (.inl kv))), (aT, .inr (0, [.ref aTc, .int tn])), (aTc, .inl (cB, 480, .inl tc))] sz) := by
  refine Met.ofW (cc := b_Tokens_scan) (maxL := 4) (ret := none) (by decide) rfl ?_
  intro p e s m args below meth c s₁ B hml hv
  obtain ⟨rfl, hsz, hP, hK, hD0, hX⟩ := hv
  subst hsz
  have C0 : g_Cx p s m meth c b_Tokens_scan 4 none R_Tokens [.ref aK, .ref aT].toArray := g_start B hml rfl
  obtain ⟨hx, hb, hml, hr, hown, hts, hlocks⟩ := id C0
  have hD := hD0.self (sz := s.heap.size)
  generalize hAe : va_A [(aK, .inr (1, [.ref aKk, .ref aKp, .ref aKv, .int kn, .int kl, .int kx])), (aKk, .inl (cI, 480, .inl kk)), (aKp, .inl (cI, 480, .inl kp)), (aKv, .inl (cJ, 480, .inr (.inl kv))), (aT, .inr (0, [.ref aTc, .int tn])), (aTc, .inl (cB, 480, .inl tc))] s.heap.size = A at hD ⊢
  generalize hres : (m_Tokens_scan kk kp kv kn kl kx tc tn) = res
  have hA : ∀ q : Nat, s.heap.size ≤ q → A q := fun q h => by rw [← hAe]; exact Or.inr h
  have hS : va_S A s.heap s.heap [] := va_S.rf
  have hl := lv_entry ([.ref aK, .ref aT]) (n := 4) (Nat.le_of_ble_eq_true rfl)
  rw [lg_entry_eq]
  generalize (lg_sl ([.ref aK, .ref aT]) ++ List.replicate (4 - (lg_sl ([.ref aK, .ref aT])).length) Slot.unset).toArray = ls at hl ⊢
  have hl : lv_has ls 4 [(0, .ref aK), (1, .ref aT)] := hl
  refine lv_aload_n hx hb d_Tokens_scan_0 rfl (lv_at hl 0 rfl) ?_
  refine lv_iconst (v := 0) hx hb d_Tokens_scan_1 (by decide) ?_
  refine va_put (D := (dC, dI)) (ci := 1) (v := .int 0) (ty := .int) (C := R_Tokens) (T := F_Tokens) (N := 6) hx hb hts i_Tokens t_Tokens t_Tokens_ok n_Tokens hown hK hP hD hS 0 rfl rfl 3 (by decide) (hts _ tw_3) (fun _ h9 => h9) rfl (by decide +kernel) rfl rfl (Nat.le_of_ble_eq_true rfl) d_Tokens_scan_2 (fun H locs hP hD hS => ?_)
  have hP : va_P (dC, dI) classes [(aK, .inr (1, [.ref aKk, .ref aKp, .ref aKv, .int 0, .int kl, .int kx])), (aKk, .inl (cI, 480, .inl kk)), (aKp, .inl (cI, 480, .inl kp)), (aKv, .inl (cJ, 480, .inr (.inl kv))), (aT, .inr (0, [.ref aTc, .int tn])), (aTc, .inl (cB, 480, .inl tc))] H := hP
  have hD : va_D A [(aK, .inr (1, [.ref aKk, .ref aKp, .ref aKv, .int 0, .int kl, .int kx])), (aKk, .inl (cI, 480, .inl kk)), (aKp, .inl (cI, 480, .inl kp)), (aKv, .inl (cJ, 480, .inr (.inl kv))), (aT, .inr (0, [.ref aTc, .int tn])), (aTc, .inl (cB, 480, .inl tc))] := hD
  refine lv_aload_n hx hb d_Tokens_scan_5 rfl (lv_at hl 0 rfl) ?_
  refine lv_iconst (v := 0) hx hb d_Tokens_scan_6 (by decide) ?_
  refine va_put (D := (dC, dI)) (ci := 1) (v := .int 0) (ty := .int) (C := R_Tokens) (T := F_Tokens) (N := 6) hx hb hts i_Tokens t_Tokens t_Tokens_ok n_Tokens hown hK hP hD hS 0 rfl rfl 5 (by decide) (hts _ tw_8) (fun _ h9 => h9) rfl (by decide +kernel) rfl rfl (Nat.le_of_ble_eq_true rfl) d_Tokens_scan_7 (fun H locs hP hD hS => ?_)
  have hP : va_P (dC, dI) classes [(aK, .inr (1, [.ref aKk, .ref aKp, .ref aKv, .int 0, .int kl, .int 0])), (aKk, .inl (cI, 480, .inl kk)), (aKp, .inl (cI, 480, .inl kp)), (aKv, .inl (cJ, 480, .inr (.inl kv))), (aT, .inr (0, [.ref aTc, .int tn])), (aTc, .inl (cB, 480, .inl tc))] H := hP
  have hD : va_D A [(aK, .inr (1, [.ref aKk, .ref aKp, .ref aKv, .int 0, .int kl, .int 0])), (aKk, .inl (cI, 480, .inl kk)), (aKp, .inl (cI, 480, .inl kp)), (aKv, .inl (cJ, 480, .inr (.inl kv))), (aT, .inr (0, [.ref aTc, .int tn])), (aTc, .inl (cB, 480, .inl tc))] := hD
  refine lv_aload_n hx hb d_Tokens_scan_10 rfl (lv_at hl 0 rfl) ?_
  refine lv_aload_n hx hb d_Tokens_scan_11 rfl (lv_at hl 1 rfl) ?_
  refine gk_i (isC := [4, 5]) (isR := [0, 1, 2, 3]) (perm := [0, 1, 2, 3, 4, 5]) (wr := [(aK, .inr (1, [.ref aKk, .ref aKp, .ref aKv, .int 0, .int kl, .int 0])), (aKk, .inl (cI, 480, .inl kk)), (aKp, .inl (cI, 480, .inl kp)), (aKv, .inl (cJ, 480, .inr (.inl kv)))]) (can := fun u => [(aK, .inr (1, [.ref aKk, .ref aKp, .ref aKv, .int 0, .int kl, .int 0])), (aKk, .inl (cI, 480, .inl kk)), (aKp, .inl (cI, 480, .inl kp)), (aKv, .inl (cJ, 480, .inr (.inl kv))), (aT, .inr (0, [.ref aTc, .int tn])), (aTc, .inl (cB, 480, .inl tc))]) (gr_V C0 (c_Tape_length l dC dI cB cI cJ aT aTc _ tc tn) cs_Tokens_32 hK hP hD [4, 5] rfl (by decide) g_tb g_tx (ci := 0) (k := 0) rfl rfl rfl rfl hl.1 rfl (lv_room (Nat.le_of_ble_eq_true rfl)) d_Tokens_scan_12 ⟨Nat.le_of_ble_eq_true rfl, Nat.le_of_ble_eq_true rfl⟩ ⟨Nat.le_of_ble_eq_true rfl, Nat.le_of_ble_eq_true rfl⟩) hP hD hS hA rfl rfl (by decide) (by decide) (by decide) (fun _ => rfl) (fun r_1 u_1 H locs hw_1 hP hD hS => ?_)
  subst hw_1
  have hP : va_P (dC, dI) classes [(aK, .inr (1, [.ref aKk, .ref aKp, .ref aKv, .int 0, .int kl, .int 0])), (aKk, .inl (cI, 480, .inl kk)), (aKp, .inl (cI, 480, .inl kp)), (aKv, .inl (cJ, 480, .inr (.inl kv))), (aT, .inr (0, [.ref aTc, .int tn])), (aTc, .inl (cB, 480, .inl tc))] H := hP
  have hD : va_D A [(aK, .inr (1, [.ref aKk, .ref aKp, .ref aKv, .int 0, .int kl, .int 0])), (aKk, .inl (cI, 480, .inl kk)), (aKp, .inl (cI, 480, .inl kp)), (aKv, .inl (cJ, 480, .inr (.inl kv))), (aT, .inr (0, [.ref aTc, .int tn])), (aTc, .inl (cB, 480, .inl tc))] := hD
  refine va_put (D := (dC, dI)) (ci := 1) (v := .int (m_Tape_length tn)) (ty := .int) (C := R_Tokens) (T := F_Tokens) (N := 6) hx hb hts i_Tokens t_Tokens t_Tokens_ok n_Tokens hown hK hP hD hS 0 rfl rfl 4 (by decide) (hts _ tw_5) (fun _ h9 => h9) rfl (by decide +kernel) rfl rfl (Nat.le_of_ble_eq_true rfl) d_Tokens_scan_15 (fun H locs hP hD hS => ?_)
  have hP : va_P (dC, dI) classes [(aK, .inr (1, [.ref aKk, .ref aKp, .ref aKv, .int 0, .int (m_Tape_length tn), .int 0])), (aKk, .inl (cI, 480, .inl kk)), (aKp, .inl (cI, 480, .inl kp)), (aKv, .inl (cJ, 480, .inr (.inl kv))), (aT, .inr (0, [.ref aTc, .int tn])), (aTc, .inl (cB, 480, .inl tc))] H := hP
  have hD : va_D A [(aK, .inr (1, [.ref aKk, .ref aKp, .ref aKv, .int 0, .int (m_Tape_length tn), .int 0])), (aKk, .inl (cI, 480, .inl kk)), (aKp, .inl (cI, 480, .inl kp)), (aKv, .inl (cJ, 480, .inr (.inl kv))), (aT, .inr (0, [.ref aTc, .int tn])), (aTc, .inl (cB, 480, .inl tc))] := hD
  refine lv_iconst (v := 0) hx hb d_Tokens_scan_18 (by decide) ?_
  refine lv_istore_n (lv' := [(2, .int 0), (0, .ref aK), (1, .ref aT)]) hx hb d_Tokens_scan_19 rfl hl (by decide) rfl (fun ls hl => ?_)
  exact L_Tokens_scan_20 C0 hK hA h_t0 h_t1 (481) 0 kk kp kv 0 (m_Tape_length tn) 0 (s_Tokens_scan_24 h_t0 h_t1) (s_Tokens_scan_25 h_t0 h_t1) (by rw [← hres]; simp only [m_Tokens_scan]) _ _ _ hP hD hS (lv_sub hl [0, 1, 2] rfl)
