def m_Tokens_isLetter (ch : Int32) : Int32 :=
  if ch < 97 then
    0
  else
    if 122 < ch then
      0
    else
      1
set_option maxHeartbeats 4000000 in
set_option maxRecDepth 100000 in
theorem c_Tokens_isLetter (l : Launch) (dC : Nat → ClassId) (dI : Nat → Nat → Nat) (cB cI cJ : ClassId) (sz : Nat) (ch : Int32) : Met l y_Tokens_isLetter w_Tokens_isLetter ({ frames := 0, cells := 0, slots := 0, locals := 0 }) (va_Pc [.int ch] (g_pre dC dI [(cB, .byte), (cI, .int), (cJ, .long)] sz [] (fun _ => True))) (va_Qi (fun (r : Int32) (u : Unit) => r = (m_Tokens_isLetter ch) ∧ narrow .boolean (.int r) = .int r) (fun u => g_post dC dI [(cB, .byte), (cI, .int), (cJ, .long)] (va_A [] sz) []) (va_A [] sz)) 0 0 (va_A [] sz) := by
  refine Met.ofW (cc := b_Tokens_isLetter) (maxL := 1) (ret := (some .boolean)) (by decide) rfl ?_
  intro p e s m args below meth c s₁ B hml hv
  obtain ⟨rfl, hsz, hP, hK, hD0, hX⟩ := hv
  subst hsz
  have C0 : g_Cx p s m meth c b_Tokens_isLetter 1 (some .boolean) R_Tokens [.int ch].toArray := g_start B hml rfl
  obtain ⟨hx, hb, hml, hr, hown, hts, hlocks⟩ := id C0
  have hD := hD0.self (sz := s.heap.size)
  generalize hAe : va_A [] s.heap.size = A at hD ⊢
  generalize hres : (m_Tokens_isLetter ch) = res
  have hA : ∀ q : Nat, s.heap.size ≤ q → A q := fun q h => by rw [← hAe]; exact Or.inr h
  have hS : va_S A s.heap s.heap [] := va_S.rf
  have hl := lv_entry ([.int ch]) (n := 1) (Nat.le_of_ble_eq_true rfl)
  rw [lg_entry_eq]
  generalize (lg_sl ([.int ch]) ++ List.replicate (1 - (lg_sl ([.int ch])).length) Slot.unset).toArray = ls at hl ⊢
  have hl : lv_has ls 1 [(0, .int ch)] := hl
  refine lv_iload_n hx hb d_Tokens_isLetter_0 rfl (lv_at hl 0 rfl) ?_
  refine lv_bipush (v := 97) hx hb d_Tokens_isLetter_1 (by decide) ?_
  refine lv_icmp_lt (tgt := 16) hx hb d_Tokens_isLetter_3 (by decide) (fun c_1 => ?_) (fun c_1 => ?_)
  · have q_1 := Int32.lt_iff_toInt_lt.mp c_1
    refine lv_iconst (v := 0) hx hb d_Tokens_isLetter_16 (by decide) ?_
    exact W.zret (v := 0) hx hb hr rfl (fun t ht hW => ⟨⟨0, (), rfl, ⟨by rw [← hres]; simp only [m_Tokens_isLetter, if_pos c_1], rfl⟩, by rw [ht]; exact hP, va_K.moved hW.alike hK, hD⟩, hS.F ht⟩) hS.2.2 d_Tokens_isLetter_17
  · have q_1 := mt Int32.lt_iff_toInt_lt.mpr c_1
    refine lv_iload_n hx hb d_Tokens_isLetter_6 rfl (lv_at hl 0 rfl) ?_
    refine lv_bipush (v := 122) hx hb d_Tokens_isLetter_7 (by decide) ?_
    refine lv_icmp_gt (tgt := 16) hx hb d_Tokens_isLetter_9 (by decide) (fun c_2 => ?_) (fun c_2 => ?_)
    · have q_2 := Int32.lt_iff_toInt_lt.mp c_2
      refine lv_iconst (v := 0) hx hb d_Tokens_isLetter_16 (by decide) ?_
      exact W.zret (v := 0) hx hb hr rfl (fun t ht hW => ⟨⟨0, (), rfl, ⟨by rw [← hres]; simp only [m_Tokens_isLetter, if_neg c_1, if_pos c_2], rfl⟩, by rw [ht]; exact hP, va_K.moved hW.alike hK, hD⟩, hS.F ht⟩) hS.2.2 d_Tokens_isLetter_17
    · have q_2 := mt Int32.lt_iff_toInt_lt.mpr c_2
      refine lv_iconst (v := 1) hx hb d_Tokens_isLetter_12 (by decide) ?_
      refine lv_goto (tgt := 17) hx hb d_Tokens_isLetter_13 (by decide) ?_
      exact W.zret (v := 1) hx hb hr rfl (fun t ht hW => ⟨⟨1, (), rfl, ⟨by rw [← hres]; simp only [m_Tokens_isLetter, if_neg c_1, if_neg c_2], rfl⟩, by rw [ht]; exact hP, va_K.moved hW.alike hK, hD⟩, hS.F ht⟩) hS.2.2 d_Tokens_isLetter_17
def m_Tokens_isDigit (ch : Int32) : Int32 :=
  if ch < 48 then
    0
  else
    if 57 < ch then
      0
    else
      1
set_option maxHeartbeats 4000000 in
set_option maxRecDepth 100000 in
theorem c_Tokens_isDigit (l : Launch) (dC : Nat → ClassId) (dI : Nat → Nat → Nat) (cB cI cJ : ClassId) (sz : Nat) (ch : Int32) : Met l y_Tokens_isDigit w_Tokens_isDigit ({ frames := 0, cells := 0, slots := 0, locals := 0 }) (va_Pc [.int ch] (g_pre dC dI [(cB, .byte), (cI, .int), (cJ, .long)] sz [] (fun _ => True))) (va_Qi (fun (r : Int32) (u : Unit) => r = (m_Tokens_isDigit ch) ∧ narrow .boolean (.int r) = .int r) (fun u => g_post dC dI [(cB, .byte), (cI, .int), (cJ, .long)] (va_A [] sz) []) (va_A [] sz)) 0 0 (va_A [] sz) := by
  refine Met.ofW (cc := b_Tokens_isDigit) (maxL := 1) (ret := (some .boolean)) (by decide) rfl ?_
  intro p e s m args below meth c s₁ B hml hv
  obtain ⟨rfl, hsz, hP, hK, hD0, hX⟩ := hv
  subst hsz
  have C0 : g_Cx p s m meth c b_Tokens_isDigit 1 (some .boolean) R_Tokens [.int ch].toArray := g_start B hml rfl
  obtain ⟨hx, hb, hml, hr, hown, hts, hlocks⟩ := id C0
  have hD := hD0.self (sz := s.heap.size)
  generalize hAe : va_A [] s.heap.size = A at hD ⊢
  generalize hres : (m_Tokens_isDigit ch) = res
  have hA : ∀ q : Nat, s.heap.size ≤ q → A q := fun q h => by rw [← hAe]; exact Or.inr h
  have hS : va_S A s.heap s.heap [] := va_S.rf
  have hl := lv_entry ([.int ch]) (n := 1) (Nat.le_of_ble_eq_true rfl)
  rw [lg_entry_eq]
  generalize (lg_sl ([.int ch]) ++ List.replicate (1 - (lg_sl ([.int ch])).length) Slot.unset).toArray = ls at hl ⊢
  have hl : lv_has ls 1 [(0, .int ch)] := hl
  refine lv_iload_n hx hb d_Tokens_isDigit_0 rfl (lv_at hl 0 rfl) ?_
  refine lv_bipush (v := 48) hx hb d_Tokens_isDigit_1 (by decide) ?_
  refine lv_icmp_lt (tgt := 16) hx hb d_Tokens_isDigit_3 (by decide) (fun c_1 => ?_) (fun c_1 => ?_)
  · have q_1 := Int32.lt_iff_toInt_lt.mp c_1
    refine lv_iconst (v := 0) hx hb d_Tokens_isDigit_16 (by decide) ?_
    exact W.zret (v := 0) hx hb hr rfl (fun t ht hW => ⟨⟨0, (), rfl, ⟨by rw [← hres]; simp only [m_Tokens_isDigit, if_pos c_1], rfl⟩, by rw [ht]; exact hP, va_K.moved hW.alike hK, hD⟩, hS.F ht⟩) hS.2.2 d_Tokens_isDigit_17
  · have q_1 := mt Int32.lt_iff_toInt_lt.mpr c_1
    refine lv_iload_n hx hb d_Tokens_isDigit_6 rfl (lv_at hl 0 rfl) ?_
    refine lv_bipush (v := 57) hx hb d_Tokens_isDigit_7 (by decide) ?_
    refine lv_icmp_gt (tgt := 16) hx hb d_Tokens_isDigit_9 (by decide) (fun c_2 => ?_) (fun c_2 => ?_)
    · have q_2 := Int32.lt_iff_toInt_lt.mp c_2
      refine lv_iconst (v := 0) hx hb d_Tokens_isDigit_16 (by decide) ?_
      exact W.zret (v := 0) hx hb hr rfl (fun t ht hW => ⟨⟨0, (), rfl, ⟨by rw [← hres]; simp only [m_Tokens_isDigit, if_neg c_1, if_pos c_2], rfl⟩, by rw [ht]; exact hP, va_K.moved hW.alike hK, hD⟩, hS.F ht⟩) hS.2.2 d_Tokens_isDigit_17
    · have q_2 := mt Int32.lt_iff_toInt_lt.mpr c_2
      refine lv_iconst (v := 1) hx hb d_Tokens_isDigit_12 (by decide) ?_
      refine lv_goto (tgt := 17) hx hb d_Tokens_isDigit_13 (by decide) ?_
      exact W.zret (v := 1) hx hb hr rfl (fun t ht hW => ⟨⟨1, (), rfl, ⟨by rw [← hres]; simp only [m_Tokens_isDigit, if_neg c_1, if_neg c_2], rfl⟩, by rw [ht]; exact hP, va_K.moved hW.alike hK, hD⟩, hS.F ht⟩) hS.2.2 d_Tokens_isDigit_17
def m_Tokens_isSign (ch : Int32) : Int32 :=
  if ch = 58 then
    1
  else
    if ch = 59 then
      1
    else
      if ch = 44 then
        1
      else
        if ch = 40 then
          1
        else
          if ch = 41 then
            1
          else
            if ch = 45 then
              1
            else
              0
set_option maxHeartbeats 4000000 in
set_option maxRecDepth 100000 in
theorem c_Tokens_isSign (l : Launch) (dC : Nat → ClassId) (dI : Nat → Nat → Nat) (cB cI cJ : ClassId) (sz : Nat) (ch : Int32) : Met l y_Tokens_isSign w_Tokens_isSign ({ frames := 0, cells := 0, slots := 0, locals := 0 }) (va_Pc [.int ch] (g_pre dC dI [(cB, .byte), (cI, .int), (cJ, .long)] sz [] (fun _ => True))) (va_Qi (fun (r : Int32) (u : Unit) => r = (m_Tokens_isSign ch) ∧ narrow .boolean (.int r) = .int r) (fun u => g_post dC dI [(cB, .byte), (cI, .int), (cJ, .long)] (va_A [] sz) []) (va_A [] sz)) 0 0 (va_A [] sz) := by
  refine Met.ofW (cc := b_Tokens_isSign) (maxL := 1) (ret := (some .boolean)) (by decide) rfl ?_
  intro p e s m args below meth c s₁ B hml hv
  obtain ⟨rfl, hsz, hP, hK, hD0, hX⟩ := hv
  subst hsz
  have C0 : g_Cx p s m meth c b_Tokens_isSign 1 (some .boolean) R_Tokens [.int ch].toArray := g_start B hml rfl
  obtain ⟨hx, hb, hml, hr, hown, hts, hlocks⟩ := id C0
  have hD := hD0.self (sz := s.heap.size)
  generalize hAe : va_A [] s.heap.size = A at hD ⊢
  generalize hres : (m_Tokens_isSign ch) = res
  have hA : ∀ q : Nat, s.heap.size ≤ q → A q := fun q h => by rw [← hAe]; exact Or.inr h
  have hS : va_S A s.heap s.heap [] := va_S.rf
  have hl := lv_entry ([.int ch]) (n := 1) (Nat.le_of_ble_eq_true rfl)
  rw [lg_entry_eq]
  generalize (lg_sl ([.int ch]) ++ List.replicate (1 - (lg_sl ([.int ch])).length) Slot.unset).toArray = ls at hl ⊢
  have hl : lv_has ls 1 [(0, .int ch)] := hl
  refine lv_iload_n hx hb d_Tokens_isSign_0 rfl (lv_at hl 0 rfl) ?_
  refine lv_bipush (v := 58) hx hb d_Tokens_isSign_1 (by decide) ?_
  refine lv_icmp_eq (tgt := 36) hx hb d_Tokens_isSign_3 (by decide) (fun c_1 => ?_) (fun c_1 => ?_)
  · have q_1 := congrArg Int32.toInt c_1
    refine lv_iconst (v := 1) hx hb d_Tokens_isSign_36 (by decide) ?_
    refine lv_goto (tgt := 41) hx hb d_Tokens_isSign_37 (by decide) ?_
    exact W.zret (v := 1) hx hb hr rfl (fun t ht hW => ⟨⟨1, (), rfl, ⟨by rw [← hres]; simp only [m_Tokens_isSign, if_pos c_1], rfl⟩, by rw [ht]; exact hP, va_K.moved hW.alike hK, hD⟩, hS.F ht⟩) hS.2.2 d_Tokens_isSign_41
  · have q_1 : ¬ _ = _ := fun h => c_1 (Int32.toInt_inj.mp h)
    refine lv_iload_n hx hb d_Tokens_isSign_6 rfl (lv_at hl 0 rfl) ?_
    refine lv_bipush (v := 59) hx hb d_Tokens_isSign_7 (by decide) ?_
    refine lv_icmp_eq (tgt := 36) hx hb d_Tokens_isSign_9 (by decide) (fun c_2 => ?_) (fun c_2 => ?_)
    · have q_2 := congrArg Int32.toInt c_2
      refine lv_iconst (v := 1) hx hb d_Tokens_isSign_36 (by decide) ?_
      refine lv_goto (tgt := 41) hx hb d_Tokens_isSign_37 (by decide) ?_
      exact W.zret (v := 1) hx hb hr rfl (fun t ht hW => ⟨⟨1, (), rfl, ⟨by rw [← hres]; simp only [m_Tokens_isSign, if_neg c_1, if_pos c_2], rfl⟩, by rw [ht]; exact hP, va_K.moved hW.alike hK, hD⟩, hS.F ht⟩) hS.2.2 d_Tokens_isSign_41
    · have q_2 : ¬ _ = _ := fun h => c_2 (Int32.toInt_inj.mp h)
      refine lv_iload_n hx hb d_Tokens_isSign_12 rfl (lv_at hl 0 rfl) ?_
      refine lv_bipush (v := 44) hx hb d_Tokens_isSign_13 (by decide) ?_
      refine lv_icmp_eq (tgt := 36) hx hb d_Tokens_isSign_15 (by decide) (fun c_3 => ?_) (fun c_3 => ?_)
      · have q_3 := congrArg Int32.toInt c_3
        refine lv_iconst (v := 1) hx hb d_Tokens_isSign_36 (by decide) ?_
        refine lv_goto (tgt := 41) hx hb d_Tokens_isSign_37 (by decide) ?_
        exact W.zret (v := 1) hx hb hr rfl (fun t ht hW => ⟨⟨1, (), rfl, ⟨by rw [← hres]; simp only [m_Tokens_isSign, if_neg c_1, if_neg c_2, if_pos c_3], rfl⟩, by rw [ht]; exact hP, va_K.moved hW.alike hK, hD⟩, hS.F ht⟩) hS.2.2 d_Tokens_isSign_41
      · have q_3 : ¬ _ = _ := fun h => c_3 (Int32.toInt_inj.mp h)
        refine lv_iload_n hx hb d_Tokens_isSign_18 rfl (lv_at hl 0 rfl) ?_
        refine lv_bipush (v := 40) hx hb d_Tokens_isSign_19 (by decide) ?_
        refine lv_icmp_eq (tgt := 36) hx hb d_Tokens_isSign_21 (by decide) (fun c_4 => ?_) (fun c_4 => ?_)
        · have q_4 := congrArg Int32.toInt c_4
          refine lv_iconst (v := 1) hx hb d_Tokens_isSign_36 (by decide) ?_
          refine lv_goto (tgt := 41) hx hb d_Tokens_isSign_37 (by decide) ?_
          exact W.zret (v := 1) hx hb hr rfl (fun t ht hW => ⟨⟨1, (), rfl, ⟨by rw [← hres]; simp only [m_Tokens_isSign, if_neg c_1, if_neg c_2, if_neg c_3, if_pos c_4], rfl⟩, by rw [ht]; exact hP, va_K.moved hW.alike hK, hD⟩, hS.F ht⟩) hS.2.2 d_Tokens_isSign_41
        · have q_4 : ¬ _ = _ := fun h => c_4 (Int32.toInt_inj.mp h)
          refine lv_iload_n hx hb d_Tokens_isSign_24 rfl (lv_at hl 0 rfl) ?_
          refine lv_bipush (v := 41) hx hb d_Tokens_isSign_25 (by decide) ?_
          refine lv_icmp_eq (tgt := 36) hx hb d_Tokens_isSign_27 (by decide) (fun c_5 => ?_) (fun c_5 => ?_)
          · have q_5 := congrArg Int32.toInt c_5
            refine lv_iconst (v := 1) hx hb d_Tokens_isSign_36 (by decide) ?_
            refine lv_goto (tgt := 41) hx hb d_Tokens_isSign_37 (by decide) ?_
            exact W.zret (v := 1) hx hb hr rfl (fun t ht hW => ⟨⟨1, (), rfl, ⟨by rw [← hres]; simp only [m_Tokens_isSign, if_neg c_1, if_neg c_2, if_neg c_3, if_neg c_4, if_pos c_5], rfl⟩, by rw [ht]; exact hP, va_K.moved hW.alike hK, hD⟩, hS.F ht⟩) hS.2.2 d_Tokens_isSign_41
          · have q_5 : ¬ _ = _ := fun h => c_5 (Int32.toInt_inj.mp h)
            refine lv_iload_n hx hb d_Tokens_isSign_30 rfl (lv_at hl 0 rfl) ?_
            refine lv_bipush (v := 45) hx hb d_Tokens_isSign_31 (by decide) ?_
            refine lv_icmp_ne (tgt := 40) hx hb d_Tokens_isSign_33 (by decide) (fun c_6 => ?_) (fun c_6 => ?_)
            · have q_6 : ¬ _ = _ := fun h => c_6 (Int32.toInt_inj.mp h)
              refine lv_iconst (v := 0) hx hb d_Tokens_isSign_40 (by decide) ?_
              exact W.zret (v := 0) hx hb hr rfl (fun t ht hW => ⟨⟨0, (), rfl, ⟨by rw [← hres]; simp only [m_Tokens_isSign, if_neg c_1, if_neg c_2, if_neg c_3, if_neg c_4, if_neg c_5, if_neg c_6], rfl⟩, by rw [ht]; exact hP, va_K.moved hW.alike hK, hD⟩, hS.F ht⟩) hS.2.2 d_Tokens_isSign_41
            · have q_6 := congrArg Int32.toInt c_6
              refine lv_iconst (v := 1) hx hb d_Tokens_isSign_36 (by decide) ?_
              refine lv_goto (tgt := 41) hx hb d_Tokens_isSign_37 (by decide) ?_
              exact W.zret (v := 1) hx hb hr rfl (fun t ht hW => ⟨⟨1, (), rfl, ⟨by rw [← hres]; simp only [m_Tokens_isSign, if_neg c_1, if_neg c_2, if_neg c_3, if_neg c_4, if_neg c_5, if_pos c_6], rfl⟩, by rw [ht]; exact hP, va_K.moved hW.alike hK, hD⟩, hS.F ht⟩) hS.2.2 d_Tokens_isSign_41
def m_Tokens_kind (kk : Nat → Int32) (kn : Int32) (i : Int32) : Int32 :=
  if i < 0 then
    0
  else
    if kn ≤ i then
      0
    else
      if 480 ≤ i then
        0
      else
        (kk i.toNatClampNeg)
theorem s_Tokens_kind_0 {i : Int32} {kn : Int32} (q_1 : ¬ i.toInt < (0 : Int32).toInt) (q_2 : ¬ kn.toInt ≤ i.toInt) (q_3 : ¬ (480 : Int32).toInt ≤ i.toInt) : vp_in i 480 := by rw [vp_in_iff]; have z0 : (0 : Int32).toInt = 0 := (by decide); have z1 : (480 : Int32).toInt = 480 := (by decide); have g0 := gz_r i; have g1 := gz_r kn; omega
set_option maxHeartbeats 4000000 in
set_option maxRecDepth 100000 in
theorem c_Tokens_kind (l : Launch) (dC : Nat → ClassId) (dI : Nat → Nat → Nat) (cB cI cJ : ClassId) (aK aKk aKp aKv : Nat) (sz : Nat) (kk : Nat → Int32) (kp : Nat → Int32) (kv : Nat → Int64) (kn : Int32) (kl : Int32) (kx : Int32) (i : Int32) : Met l y_Tokens_kind w_Tokens_kind ({ frames := 0, cells := 0, slots := 0, locals := 0 }) (va_Pc [.ref aK, .int i] (g_pre dC dI [(cB, .byte), (cI, .int), (cJ, .long)] sz [(aK, .inr (1, [.ref aKk, .ref aKp, .ref aKv, .int kn, .int kl, .int kx])), (aKk, .inl (cI, 480, .inl kk)), (aKp, .inl (cI, 480, .inl kp)), (aKv, .inl (cJ, 480, .inr (.inl kv)))] (fun _ => True))) (va_Qi (fun (r : Int32) (u : Unit) => r = (m_Tokens_kind kk kn i)) (fun u => g_post dC dI [(cB, .byte), (cI, .int), (cJ, .long)] (va_A [(aK, .inr (1, [.ref aKk, .ref aKp, .ref aKv, .int kn, .int kl, .int kx])), (aKk, .inl (cI, 480, .inl kk)), (aKp, .inl (cI, 480, .inl kp)), (aKv, .inl (cJ, 480, .inr (.inl kv)))] sz) [(aK, .inr (1, [.ref aKk, .ref aKp, .ref aKv, .int kn, .int kl, .int kx])), (aKk, .inl (cI, 480, .inl kk)), (aKp, .inl (cI, 480, .inl kp)), (aKv, .inl (cJ, 480, .inr (.inl kv)))]) (va_A [(aK, .inr (1, [.ref aKk, .ref aKp, .ref aKv, .int kn, .int kl, .int kx])), (aKk, .inl (cI, 480, .inl kk)), (aKp, .inl (cI, 480, .inl kp)), (aKv, .inl (cJ, 480, .inr (.inl kv)))] sz)) 0 0 (va_A [(aK, .inr (1, [.ref aKk, .ref aKp, .ref aKv, .int kn, .int kl, .int kx])), (aKk, .inl (cI, 480, .inl kk)), (aKp, .inl (cI, 480, .inl kp)), (aKv, .inl (cJ, 480, .inr (.inl kv)))] sz) := by
  refine Met.ofW (cc := b_Tokens_kind) (maxL := 2) (ret := (some .int)) (by decide) rfl ?_
  intro p e s m args below meth c s₁ B hml hv
  obtain ⟨rfl, hsz, hP, hK, hD0, hX⟩ := hv
  subst hsz
  have C0 : g_Cx p s m meth c b_Tokens_kind 2 (some .int) R_Tokens [.ref aK, .int i].toArray := g_start B hml rfl
  obtain ⟨hx, hb, hml, hr, hown, hts, hlocks⟩ := id C0
  have hD := hD0.self (sz := s.heap.size)
  generalize hAe : va_A [(aK, .inr (1, [.ref aKk, .ref aKp, .ref aKv, .int kn, .int kl, .int kx])), (aKk, .inl (cI, 480, .inl kk)), (aKp, .inl (cI, 480, .inl kp)), (aKv, .inl (cJ, 480, .inr (.inl kv)))] s.heap.size = A at hD ⊢
  generalize hres : (m_Tokens_kind kk kn i) = res
  have hA : ∀ q : Nat, s.heap.size ≤ q → A q := fun q h => by rw [← hAe]; exact Or.inr h
  have hS : va_S A s.heap s.heap [] := va_S.rf
  have hl := lv_entry ([.ref aK, .int i]) (n := 2) (Nat.le_of_ble_eq_true rfl)
  rw [lg_entry_eq]
  generalize (lg_sl ([.ref aK, .int i]) ++ List.replicate (2 - (lg_sl ([.ref aK, .int i])).length) Slot.unset).toArray = ls at hl ⊢
  have hl : lv_has ls 2 [(0, .ref aK), (1, .int i)] := hl
  refine lv_iload_n hx hb d_Tokens_kind_0 rfl (lv_at hl 1 rfl) ?_
  refine lv_if_lt (tgt := 28) hx hb d_Tokens_kind_1 (by decide) (fun c_1 => ?_) (fun c_1 => ?_)
  · have q_1 := Int32.lt_iff_toInt_lt.mp c_1
    refine lv_iconst (v := 0) hx hb d_Tokens_kind_28 (by decide) ?_
    exact W.iret (v := 0) hx hb hr (fun t ht hW => ⟨⟨0, (), rfl, by rw [← hres]; simp only [m_Tokens_kind, if_pos c_1], by rw [ht]; exact hP, va_K.moved hW.alike hK, hD⟩, hS.F ht⟩) hS.2.2 d_Tokens_kind_29
  · have q_1 := mt Int32.lt_iff_toInt_lt.mpr c_1
    refine lv_iload_n hx hb d_Tokens_kind_4 rfl (lv_at hl 1 rfl) ?_
    refine lv_aload_n hx hb d_Tokens_kind_5 rfl (lv_at hl 0 rfl) ?_
    refine va_get (D := (dC, dI)) (ci := 1) (v := .int kn) (C := R_Tokens) (T := F_Tokens) (N := 6) hx hb hts i_Tokens hown hK hP 0 rfl rfl 3 (by decide) (hts _ tw_3) (fun _ h9 => h9) rfl d_Tokens_kind_6 ?_
    refine lv_icmp_ge (tgt := 28) hx hb d_Tokens_kind_9 (by decide) (fun c_2 => ?_) (fun c_2 => ?_)
    · have q_2 := Int32.le_iff_toInt_le.mp c_2
      refine lv_iconst (v := 0) hx hb d_Tokens_kind_28 (by decide) ?_
      exact W.iret (v := 0) hx hb hr (fun t ht hW => ⟨⟨0, (), rfl, by rw [← hres]; simp only [m_Tokens_kind, if_neg c_1, if_pos c_2], by rw [ht]; exact hP, va_K.moved hW.alike hK, hD⟩, hS.F ht⟩) hS.2.2 d_Tokens_kind_29
    · have q_2 := mt Int32.le_iff_toInt_le.mpr c_2
      refine lv_iload_n hx hb d_Tokens_kind_12 rfl (lv_at hl 1 rfl) ?_
      refine lv_sipush (v := 480) hx hb d_Tokens_kind_13 (by decide) ?_
      refine lv_icmp_ge (tgt := 28) hx hb d_Tokens_kind_16 (by decide) (fun c_3 => ?_) (fun c_3 => ?_)
      · have q_3 := Int32.le_iff_toInt_le.mp c_3
        refine lv_iconst (v := 0) hx hb d_Tokens_kind_28 (by decide) ?_
        exact W.iret (v := 0) hx hb hr (fun t ht hW => ⟨⟨0, (), rfl, by rw [← hres]; simp only [m_Tokens_kind, if_neg c_1, if_neg c_2, if_pos c_3], by rw [ht]; exact hP, va_K.moved hW.alike hK, hD⟩, hS.F ht⟩) hS.2.2 d_Tokens_kind_29
      · have q_3 := mt Int32.le_iff_toInt_le.mpr c_3
        refine lv_aload_n hx hb d_Tokens_kind_19 rfl (lv_at hl 0 rfl) ?_
        refine va_get (D := (dC, dI)) (ci := 1) (v := .ref aKk) (C := R_Tokens) (T := F_Tokens) (N := 6) hx hb hts i_Tokens hown hK hP 0 rfl rfl 0 (by decide) (hts _ tw_4) (fun _ h9 => h9) rfl d_Tokens_kind_20 ?_
        refine lv_iload_n hx hb d_Tokens_kind_23 rfl (lv_at hl 1 rfl) ?_
        refine va_iald hx hb hK hP 1 1 rfl rfl (s_Tokens_kind_0 q_1 q_2 q_3) d_Tokens_kind_24 ?_
        refine lv_goto (tgt := 29) hx hb d_Tokens_kind_25 (by decide) ?_
        exact W.iret (v := (kk i.toNatClampNeg)) hx hb hr (fun t ht hW => ⟨⟨(kk i.toNatClampNeg), (), rfl, by rw [← hres]; simp only [m_Tokens_kind, if_neg c_1, if_neg c_2, if_neg c_3], by rw [ht]; exact hP, va_K.moved hW.alike hK, hD⟩, hS.F ht⟩) hS.2.2 d_Tokens_kind_29
def m_Tokens_place (kp : Nat → Int32) (kn : Int32) (kl : Int32) (i : Int32) : Int32 :=
  if i < 0 then
    kl
  else
    if kn ≤ i then
      kl
    else
      if 480 ≤ i then
        kl
      else
        (kp i.toNatClampNeg)
theorem s_Tokens_place_0 {i : Int32} {kn : Int32} (q_1 : ¬ i.toInt < (0 : Int32).toInt) (q_2 : ¬ kn.toInt ≤ i.toInt) (q_3 : ¬ (480 : Int32).toInt ≤ i.toInt) : vp_in i 480 := by rw [vp_in_iff]; have z0 : (0 : Int32).toInt = 0 := (by decide); have z1 : (480 : Int32).toInt = 480 := (by decide); have g0 := gz_r i; have g1 := gz_r kn; omega
set_option maxHeartbeats 4000000 in
set_option maxRecDepth 100000 in
theorem c_Tokens_place (l : Launch) (dC : Nat → ClassId) (dI : Nat → Nat → Nat) (cB cI cJ : ClassId) (aK aKk aKp aKv : Nat) (sz : Nat) (kk : Nat → Int32) (kp : Nat → Int32) (kv : Nat → Int64) (kn : Int32) (kl : Int32) (kx : Int32) (i : Int32) : Met l y_Tokens_place w_Tokens_place ({ frames := 0, cells := 0, slots := 0, locals := 0 }) (va_Pc [.ref aK, .int i] (g_pre dC dI [(cB, .byte), (cI, .int), (cJ, .long)] sz [(aK, .inr (1, [.ref aKk, .ref aKp, .ref aKv, .int kn, .int kl, .int kx])), (aKk, .inl (cI, 480, .inl kk)), (aKp, .inl (cI, 480, .inl kp)), (aKv, .inl (cJ, 480, .inr (.inl kv)))] (fun _ => True))) (va_Qi (fun (r : Int32) (u : Unit) => r = (m_Tokens_place kp kn kl i)) (fun u => g_post dC dI [(cB, .byte), (cI, .int), (cJ, .long)] (va_A [(aK, .inr (1, [.ref aKk, .ref aKp, .ref aKv, .int kn, .int kl, .int kx])), (aKk, .inl (cI, 480, .inl kk)), (aKp, .inl (cI, 480, .inl kp)), (aKv, .inl (cJ, 480, .inr (.inl kv)))] sz) [(aK, .inr (1, [.ref aKk, .ref aKp, .ref aKv, .int kn, .int kl, .int kx])), (aKk, .inl (cI, 480, .inl kk)), (aKp, .inl (cI, 480, .inl kp)), (aKv, .inl (cJ, 480, .inr (.inl kv)))]) (va_A [(aK, .inr (1, [.ref aKk, .ref aKp, .ref aKv, .int kn, .int kl, .int kx])), (aKk, .inl (cI, 480, .inl kk)), (aKp, .inl (cI, 480, .inl kp)), (aKv, .inl (cJ, 480, .inr (.inl kv)))] sz)) 0 0 (va_A [(aK, .inr (1, [.ref aKk, .ref aKp, .ref aKv, .int kn, .int kl, .int kx])), (aKk, .inl (cI, 480, .inl kk)), (aKp, .inl (cI, 480, .inl kp)), (aKv, .inl (cJ, 480, .inr (.inl kv)))] sz) := by
  refine Met.ofW (cc := b_Tokens_place) (maxL := 2) (ret := (some .int)) (by decide) rfl ?_
  intro p e s m args below meth c s₁ B hml hv
  obtain ⟨rfl, hsz, hP, hK, hD0, hX⟩ := hv
  subst hsz
  have C0 : g_Cx p s m meth c b_Tokens_place 2 (some .int) R_Tokens [.ref aK, .int i].toArray := g_start B hml rfl
  obtain ⟨hx, hb, hml, hr, hown, hts, hlocks⟩ := id C0
  have hD := hD0.self (sz := s.heap.size)
  generalize hAe : va_A [(aK, .inr (1, [.ref aKk, .ref aKp, .ref aKv, .int kn, .int kl, .int kx])), (aKk, .inl (cI, 480, .inl kk)), (aKp, .inl (cI, 480, .inl kp)), (aKv, .inl (cJ, 480, .inr (.inl kv)))] s.heap.size = A at hD ⊢
  generalize hres : (m_Tokens_place kp kn kl i) = res
  have hA : ∀ q : Nat, s.heap.size ≤ q → A q := fun q h => by rw [← hAe]; exact Or.inr h
  have hS : va_S A s.heap s.heap [] := va_S.rf
  have hl := lv_entry ([.ref aK, .int i]) (n := 2) (Nat.le_of_ble_eq_true rfl)
  rw [lg_entry_eq]
  generalize (lg_sl ([.ref aK, .int i]) ++ List.replicate (2 - (lg_sl ([.ref aK, .int i])).length) Slot.unset).toArray = ls at hl ⊢
  have hl : lv_has ls 2 [(0, .ref aK), (1, .int i)] := hl
  refine lv_iload_n hx hb d_Tokens_place_0 rfl (lv_at hl 1 rfl) ?_
  refine lv_if_lt (tgt := 28) hx hb d_Tokens_place_1 (by decide) (fun c_1 => ?_) (fun c_1 => ?_)
  · have q_1 := Int32.lt_iff_toInt_lt.mp c_1
    refine lv_aload_n hx hb d_Tokens_place_28 rfl (lv_at hl 0 rfl) ?_
    refine va_get (D := (dC, dI)) (ci := 1) (v := .int kl) (C := R_Tokens) (T := F_Tokens) (N := 6) hx hb hts i_Tokens hown hK hP 0 rfl rfl 4 (by decide) (hts _ tw_5) (fun _ h9 => h9) rfl d_Tokens_place_29 ?_
    exact W.iret (v := kl) hx hb hr (fun t ht hW => ⟨⟨kl, (), rfl, by rw [← hres]; simp only [m_Tokens_place, if_pos c_1], by rw [ht]; exact hP, va_K.moved hW.alike hK, hD⟩, hS.F ht⟩) hS.2.2 d_Tokens_place_32
  · have q_1 := mt Int32.lt_iff_toInt_lt.mpr c_1
    refine lv_iload_n hx hb d_Tokens_place_4 rfl (lv_at hl 1 rfl) ?_
    refine lv_aload_n hx hb d_Tokens_place_5 rfl (lv_at hl 0 rfl) ?_
    refine va_get (D := (dC, dI)) (ci := 1) (v := .int kn) (C := R_Tokens) (T := F_Tokens) (N := 6) hx hb hts i_Tokens hown hK hP 0 rfl rfl 3 (by decide) (hts _ tw_3) (fun _ h9 => h9) rfl d_Tokens_place_6 ?_
    refine lv_icmp_ge (tgt := 28) hx hb d_Tokens_place_9 (by decide) (fun c_2 => ?_) (fun c_2 => ?_)
    · have q_2 := Int32.le_iff_toInt_le.mp c_2
      refine lv_aload_n hx hb d_Tokens_place_28 rfl (lv_at hl 0 rfl) ?_
      refine va_get (D := (dC, dI)) (ci := 1) (v := .int kl) (C := R_Tokens) (T := F_Tokens) (N := 6) hx hb hts i_Tokens hown hK hP 0 rfl rfl 4 (by decide) (hts _ tw_5) (fun _ h9 => h9) rfl d_Tokens_place_29 ?_
      exact W.iret (v := kl) hx hb hr (fun t ht hW => ⟨⟨kl, (), rfl, by rw [← hres]; simp only [m_Tokens_place, if_neg c_1, if_pos c_2], by rw [ht]; exact hP, va_K.moved hW.alike hK, hD⟩, hS.F ht⟩) hS.2.2 d_Tokens_place_32
    · have q_2 := mt Int32.le_iff_toInt_le.mpr c_2
      refine lv_iload_n hx hb d_Tokens_place_12 rfl (lv_at hl 1 rfl) ?_
      refine lv_sipush (v := 480) hx hb d_Tokens_place_13 (by decide) ?_
      refine lv_icmp_ge (tgt := 28) hx hb d_Tokens_place_16 (by decide) (fun c_3 => ?_) (fun c_3 => ?_)
      · have q_3 := Int32.le_iff_toInt_le.mp c_3
        refine lv_aload_n hx hb d_Tokens_place_28 rfl (lv_at hl 0 rfl) ?_
        refine va_get (D := (dC, dI)) (ci := 1) (v := .int kl) (C := R_Tokens) (T := F_Tokens) (N := 6) hx hb hts i_Tokens hown hK hP 0 rfl rfl 4 (by decide) (hts _ tw_5) (fun _ h9 => h9) rfl d_Tokens_place_29 ?_
        exact W.iret (v := kl) hx hb hr (fun t ht hW => ⟨⟨kl, (), rfl, by rw [← hres]; simp only [m_Tokens_place, if_neg c_1, if_neg c_2, if_pos c_3], by rw [ht]; exact hP, va_K.moved hW.alike hK, hD⟩, hS.F ht⟩) hS.2.2 d_Tokens_place_32
      · have q_3 := mt Int32.le_iff_toInt_le.mpr c_3
        refine lv_aload_n hx hb d_Tokens_place_19 rfl (lv_at hl 0 rfl) ?_
        refine va_get (D := (dC, dI)) (ci := 1) (v := .ref aKp) (C := R_Tokens) (T := F_Tokens) (N := 6) hx hb hts i_Tokens hown hK hP 0 rfl rfl 1 (by decide) (hts _ tw_6) (fun _ h9 => h9) rfl d_Tokens_place_20 ?_
        refine lv_iload_n hx hb d_Tokens_place_23 rfl (lv_at hl 1 rfl) ?_
        refine va_iald hx hb hK hP 2 1 rfl rfl (s_Tokens_place_0 q_1 q_2 q_3) d_Tokens_place_24 ?_
        refine lv_goto (tgt := 32) hx hb d_Tokens_place_25 (by decide) ?_
        exact W.iret (v := (kp i.toNatClampNeg)) hx hb hr (fun t ht hW => ⟨⟨(kp i.toNatClampNeg), (), rfl, by rw [← hres]; simp only [m_Tokens_place, if_neg c_1, if_neg c_2, if_neg c_3], by rw [ht]; exact hP, va_K.moved hW.alike hK, hD⟩, hS.F ht⟩) hS.2.2 d_Tokens_place_32
def m_Tokens_value (kv : Nat → Int64) (kn : Int32) (i : Int32) : Int64 :=
  if i < 0 then
    0
  else
    if kn ≤ i then
      0
    else
      if 480 ≤ i then
        0
      else
        (kv i.toNatClampNeg)
theorem s_Tokens_value_0 {i : Int32} {kn : Int32} (q_1 : ¬ i.toInt < (0 : Int32).toInt) (q_2 : ¬ kn.toInt ≤ i.toInt) (q_3 : ¬ (480 : Int32).toInt ≤ i.toInt) : vp_in i 480 := by rw [vp_in_iff]; have z0 : (0 : Int32).toInt = 0 := (by decide); have z1 : (480 : Int32).toInt = 480 := (by decide); have g0 := gz_r i; have g1 := gz_r kn; omega
set_option maxHeartbeats 4000000 in
set_option maxRecDepth 100000 in
theorem c_Tokens_value (l : Launch) (dC : Nat → ClassId) (dI : Nat → Nat → Nat) (cB cI cJ : ClassId) (aK aKk aKp aKv : Nat) (sz : Nat) (kk : Nat → Int32) (kp : Nat → Int32) (kv : Nat → Int64) (kn : Int32) (kl : Int32) (kx : Int32) (i : Int32) : Met l y_Tokens_value w_Tokens_value ({ frames := 0, cells := 0, slots := 0, locals := 0 }) (va_Pc [.ref aK, .int i] (g_pre dC dI [(cB, .byte), (cI, .int), (cJ, .long)] sz [(aK, .inr (1, [.ref aKk, .ref aKp, .ref aKv, .int kn, .int kl, .int kx])), (aKk, .inl (cI, 480, .inl kk)), (aKp, .inl (cI, 480, .inl kp)), (aKv, .inl (cJ, 480, .inr (.inl kv)))] (fun _ => True))) (va_Ql (fun (r : Int64) (u : Unit) => r = (m_Tokens_value kv kn i)) (fun u => g_post dC dI [(cB, .byte), (cI, .int), (cJ, .long)] (va_A [(aK, .inr (1, [.ref aKk, .ref aKp, .ref aKv, .int kn, .int kl, .int kx])), (aKk, .inl (cI, 480, .inl kk)), (aKp, .inl (cI, 480, .inl kp)), (aKv, .inl (cJ, 480, .inr (.inl kv)))] sz) [(aK, .inr (1, [.ref aKk, .ref aKp, .ref aKv, .int kn, .int kl, .int kx])), (aKk, .inl (cI, 480, .inl kk)), (aKp, .inl (cI, 480, .inl kp)), (aKv, .inl (cJ, 480, .inr (.inl kv)))]) (va_A [(aK, .inr (1, [.ref aKk, .ref aKp, .ref aKv, .int kn, .int kl, .int kx])), (aKk, .inl (cI, 480, .inl kk)), (aKp, .inl (cI, 480, .inl kp)), (aKv, .inl (cJ, 480, .inr (.inl kv)))] sz)) 0 0 (va_A [(aK, .inr (1, [.ref aKk, .ref aKp, .ref aKv, .int kn, .int kl, .int kx])), (aKk, .inl (cI, 480, .inl kk)), (aKp, .inl (cI, 480, .inl kp)), (aKv, .inl (cJ, 480, .inr (.inl kv)))] sz) := by
  refine Met.ofW (cc := b_Tokens_value) (maxL := 2) (ret := (some .long)) (by decide) rfl ?_
  intro p e s m args below meth c s₁ B hml hv
  obtain ⟨rfl, hsz, hP, hK, hD0, hX⟩ := hv
  subst hsz
  have C0 : g_Cx p s m meth c b_Tokens_value 2 (some .long) R_Tokens [.ref aK, .int i].toArray := g_start B hml rfl
  obtain ⟨hx, hb, hml, hr, hown, hts, hlocks⟩ := id C0
  have hD := hD0.self (sz := s.heap.size)
  generalize hAe : va_A [(aK, .inr (1, [.ref aKk, .ref aKp, .ref aKv, .int kn, .int kl, .int kx])), (aKk, .inl (cI, 480, .inl kk)), (aKp, .inl (cI, 480, .inl kp)), (aKv, .inl (cJ, 480, .inr (.inl kv)))] s.heap.size = A at hD ⊢
  generalize hres : (m_Tokens_value kv kn i) = res
  have hA : ∀ q : Nat, s.heap.size ≤ q → A q := fun q h => by rw [← hAe]; exact Or.inr h
  have hS : va_S A s.heap s.heap [] := va_S.rf
  have hl := lv_entry ([.ref aK, .int i]) (n := 2) (Nat.le_of_ble_eq_true rfl)
  rw [lg_entry_eq]
  generalize (lg_sl ([.ref aK, .int i]) ++ List.replicate (2 - (lg_sl ([.ref aK, .int i])).length) Slot.unset).toArray = ls at hl ⊢
  have hl : lv_has ls 2 [(0, .ref aK), (1, .int i)] := hl
  refine lv_iload_n hx hb d_Tokens_value_0 rfl (lv_at hl 1 rfl) ?_
  refine lv_if_lt (tgt := 28) hx hb d_Tokens_value_1 (by decide) (fun c_1 => ?_) (fun c_1 => ?_)
  · have q_1 := Int32.lt_iff_toInt_lt.mp c_1
    refine lv_lconst (v := 0) hx hb d_Tokens_value_28 (by decide) ?_
    exact W.lret (v := 0) hx hb hr (fun t ht hW => ⟨⟨0, (), rfl, by rw [← hres]; simp only [m_Tokens_value, if_pos c_1], by rw [ht]; exact hP, va_K.moved hW.alike hK, hD⟩, hS.F ht⟩) hS.2.2 d_Tokens_value_29
  · have q_1 := mt Int32.lt_iff_toInt_lt.mpr c_1
    refine lv_iload_n hx hb d_Tokens_value_4 rfl (lv_at hl 1 rfl) ?_
    refine lv_aload_n hx hb d_Tokens_value_5 rfl (lv_at hl 0 rfl) ?_
    refine va_get (D := (dC, dI)) (ci := 1) (v := .int kn) (C := R_Tokens) (T := F_Tokens) (N := 6) hx hb hts i_Tokens hown hK hP 0 rfl rfl 3 (by decide) (hts _ tw_3) (fun _ h9 => h9) rfl d_Tokens_value_6 ?_
    refine lv_icmp_ge (tgt := 28) hx hb d_Tokens_value_9 (by decide) (fun c_2 => ?_) (fun c_2 => ?_)
    · have q_2 := Int32.le_iff_toInt_le.mp c_2
      refine lv_lconst (v := 0) hx hb d_Tokens_value_28 (by decide) ?_
      exact W.lret (v := 0) hx hb hr (fun t ht hW => ⟨⟨0, (), rfl, by rw [← hres]; simp only [m_Tokens_value, if_neg c_1, if_pos c_2], by rw [ht]; exact hP, va_K.moved hW.alike hK, hD⟩, hS.F ht⟩) hS.2.2 d_Tokens_value_29
    · have q_2 := mt Int32.le_iff_toInt_le.mpr c_2
      refine lv_iload_n hx hb d_Tokens_value_12 rfl (lv_at hl 1 rfl) ?_
      refine lv_sipush (v := 480) hx hb d_Tokens_value_13 (by decide) ?_
      refine lv_icmp_ge (tgt := 28) hx hb d_Tokens_value_16 (by decide) (fun c_3 => ?_) (fun c_3 => ?_)
      · have q_3 := Int32.le_iff_toInt_le.mp c_3
        refine lv_lconst (v := 0) hx hb d_Tokens_value_28 (by decide) ?_
        exact W.lret (v := 0) hx hb hr (fun t ht hW => ⟨⟨0, (), rfl, by rw [← hres]; simp only [m_Tokens_value, if_neg c_1, if_neg c_2, if_pos c_3], by rw [ht]; exact hP, va_K.moved hW.alike hK, hD⟩, hS.F ht⟩) hS.2.2 d_Tokens_value_29
      · have q_3 := mt Int32.le_iff_toInt_le.mpr c_3
        refine lv_aload_n hx hb d_Tokens_value_19 rfl (lv_at hl 0 rfl) ?_
        refine va_get (D := (dC, dI)) (ci := 1) (v := .ref aKv) (C := R_Tokens) (T := F_Tokens) (N := 6) hx hb hts i_Tokens hown hK hP 0 rfl rfl 2 (by decide) (hts _ tw_7) (fun _ h9 => h9) rfl d_Tokens_value_20 ?_
        refine lv_iload_n hx hb d_Tokens_value_23 rfl (lv_at hl 1 rfl) ?_
        refine va_lald hx hb hK hP 3 2 rfl rfl (s_Tokens_value_0 q_1 q_2 q_3) d_Tokens_value_24 ?_
        refine lv_goto (tgt := 29) hx hb d_Tokens_value_25 (by decide) ?_
        exact W.lret (v := (kv i.toNatClampNeg)) hx hb hr (fun t ht hW => ⟨⟨(kv i.toNatClampNeg), (), rfl, by rw [← hres]; simp only [m_Tokens_value, if_neg c_1, if_neg c_2, if_neg c_3], by rw [ht]; exact hP, va_K.moved hW.alike hK, hD⟩, hS.F ht⟩) hS.2.2 d_Tokens_value_29
def m_Tokens_add (kk : Nat → Int32) (kp : Nat → Int32) (kv : Nat → Int64) (kn : Int32) (kd : Int32) (pl : Int32) (va : Int64) : (Nat → Int32) × (Nat → Int32) × (Nat → Int64) × Int32 :=
  if 480 ≤ kn then
    (kk, kp, kv, kn)
  else
    ((upd kk kn.toNatClampNeg kd), (upd kp kn.toNatClampNeg pl), (vp_updL kv kn.toNatClampNeg va), (kn + 1))
theorem s_Tokens_add_0 {kn : Int32} (q_1 : ¬ (480 : Int32).toInt ≤ kn.toInt) (h_k0 : 0 ≤ kn.toInt) : vp_in kn 480 := by rw [vp_in_iff]; have z0 : (480 : Int32).toInt = 480 := (by decide); have g0 := gz_r kn; omega
theorem s_Tokens_add_1 {kn : Int32} (q_1 : ¬ (480 : Int32).toInt ≤ kn.toInt) (h_k0 : 0 ≤ kn.toInt) : vp_in kn 480 := by rw [vp_in_iff]; have z0 : (480 : Int32).toInt = 480 := (by decide); have g0 := gz_r kn; omega
theorem s_Tokens_add_2 {kn : Int32} (q_1 : ¬ (480 : Int32).toInt ≤ kn.toInt) (h_k0 : 0 ≤ kn.toInt) : vp_in kn 480 := by rw [vp_in_iff]; have z0 : (480 : Int32).toInt = 480 := (by decide); have g0 := gz_r kn; omega
set_option maxHeartbeats 4000000 in
set_option maxRecDepth 100000 in
theorem c_Tokens_add (l : Launch) (dC : Nat → ClassId) (dI : Nat → Nat → Nat) (cB cI cJ : ClassId) (aK aKk aKp aKv : Nat) (sz : Nat) (kk : Nat → Int32) (kp : Nat → Int32) (kv : Nat → Int64) (kn : Int32) (kl : Int32) (kx : Int32) (kd : Int32) (pl : Int32) (va : Int64) (h_k0 : 0 ≤ kn.toInt) : Met l y_Tokens_add w_Tokens_add ({ frames := 0, cells := 0, slots := 0, locals := 0 }) (va_Pc [.ref aK, .int kd, .int pl, .long va] (g_pre dC dI [(cB, .byte), (cI, .int), (cJ, .long)] sz [(aK, .inr (1, [.ref aKk, .ref aKp, .ref aKv, .int kn, .int kl, .int kx])), (aKk, .inl (cI, 480, .inl kk)), (aKp, .inl (cI, 480, .inl kp)), (aKv, .inl (cJ, 480, .inr (.inl kv)))] (fun _ => True))) (va_Qv (fun u : (Nat → Int32) × (Nat → Int32) × (Nat → Int64) × Int32 => u = (m_Tokens_add kk kp kv kn kd pl va)) (fun u => g_post dC dI [(cB, .byte), (cI, .int), (cJ, .long)] (va_A [(aK, .inr (1, [.ref aKk, .ref aKp, .ref aKv, .int kn, .int kl, .int kx])), (aKk, .inl (cI, 480, .inl kk)), (aKp, .inl (cI, 480, .inl kp)), (aKv, .inl (cJ, 480, .inr (.inl kv)))] sz) [(aK, .inr (1, [.ref aKk, .ref aKp, .ref aKv, .int u.2.2.2, .int kl, .int kx])), (aKk, .inl (cI, 480, .inl u.1)), (aKp, .inl (cI, 480, .inl u.2.1)), (aKv, .inl (cJ, 480, .inr (.inl u.2.2.1)))]) (va_A [(aK, .inr (1, [.ref aKk, .ref aKp, .ref aKv, .int kn, .int kl, .int kx])), (aKk, .inl (cI, 480, .inl kk)), (aKp, .inl (cI, 480, .inl kp)), (aKv, .inl (cJ, 480, .inr (.inl kv)))] sz)) 0 0 (va_A [(aK, .inr (1, [.ref aKk, .ref aKp, .ref aKv, .int kn, .int kl, .int kx])), (aKk, .inl (cI, 480, .inl kk)), (aKp, .inl (cI, 480, .inl kp)), (aKv, .inl (cJ, 480, .inr (.inl kv)))] sz) := by
  refine Met.ofW (cc := b_Tokens_add) (maxL := 5) (ret := none) (by decide) rfl ?_
  intro p e s m args below meth c s₁ B hml hv
  obtain ⟨rfl, hsz, hP, hK, hD0, hX⟩ := hv
  subst hsz
  have C0 : g_Cx p s m meth c b_Tokens_add 5 none R_Tokens [.ref aK, .int kd, .int pl, .long va].toArray := g_start B hml rfl
  obtain ⟨hx, hb, hml, hr, hown, hts, hlocks⟩ := id C0
  have hD := hD0.self (sz := s.heap.size)
  generalize hAe : va_A [(aK, .inr (1, [.ref aKk, .ref aKp, .ref aKv, .int kn, .int kl, .int kx])), (aKk, .inl (cI, 480, .inl kk)), (aKp, .inl (cI, 480, .inl kp)), (aKv, .inl (cJ, 480, .inr (.inl kv)))] s.heap.size = A at hD ⊢
  generalize hres : (m_Tokens_add kk kp kv kn kd pl va) = res
  have hA : ∀ q : Nat, s.heap.size ≤ q → A q := fun q h => by rw [← hAe]; exact Or.inr h
  have hS : va_S A s.heap s.heap [] := va_S.rf
  have hl := lv_entry ([.ref aK, .int kd, .int pl, .long va]) (n := 5) (Nat.le_of_ble_eq_true rfl)
  rw [lg_entry_eq]
  generalize (lg_sl ([.ref aK, .int kd, .int pl, .long va]) ++ List.replicate (5 - (lg_sl ([.ref aK, .int kd, .int pl, .long va])).length) Slot.unset).toArray = ls at hl ⊢
  have hl : lv_has ls 5 [(0, .ref aK), (1, .int kd), (2, .int pl), (3, .long va)] := hl
  refine lv_aload_n hx hb d_Tokens_add_0 rfl (lv_at hl 0 rfl) ?_
  refine va_get (D := (dC, dI)) (ci := 1) (v := .int kn) (C := R_Tokens) (T := F_Tokens) (N := 6) hx hb hts i_Tokens hown hK hP 0 rfl rfl 3 (by decide) (hts _ tw_3) (fun _ h9 => h9) rfl d_Tokens_add_1 ?_
  refine lv_sipush (v := 480) hx hb d_Tokens_add_4 (by decide) ?_
  refine lv_icmp_ge (tgt := 50) hx hb d_Tokens_add_7 (by decide) (fun c_1 => ?_) (fun c_1 => ?_)
  · have q_1 := Int32.le_iff_toInt_le.mp c_1
    exact W.vret hx hb hr (fun t ht hW => ⟨⟨(kk, kp, kv, kn), rfl, by rw [← hres]; simp only [m_Tokens_add, if_pos c_1], by rw [ht]; exact hP, va_K.moved hW.alike hK, hD⟩, hS.F ht⟩) hS.2.2 d_Tokens_add_50
  · have q_1 := mt Int32.le_iff_toInt_le.mpr c_1
    refine lv_aload_n hx hb d_Tokens_add_10 rfl (lv_at hl 0 rfl) ?_
    refine va_get (D := (dC, dI)) (ci := 1) (v := .ref aKk) (C := R_Tokens) (T := F_Tokens) (N := 6) hx hb hts i_Tokens hown hK hP 0 rfl rfl 0 (by decide) (hts _ tw_4) (fun _ h9 => h9) rfl d_Tokens_add_11 ?_
    refine lv_aload_n hx hb d_Tokens_add_14 rfl (lv_at hl 0 rfl) ?_
    refine va_get (D := (dC, dI)) (ci := 1) (v := .int kn) (C := R_Tokens) (T := F_Tokens) (N := 6) hx hb hts i_Tokens hown hK hP 0 rfl rfl 3 (by decide) (hts _ tw_3) (fun _ h9 => h9) rfl d_Tokens_add_15 ?_
    refine lv_iload_n hx hb d_Tokens_add_18 rfl (lv_at hl 1 rfl) ?_
    refine va_iast hx hb hK hP hD hS 1 1 rfl rfl (s_Tokens_add_0 q_1 h_k0) d_Tokens_add_19 (fun H locs hP hD hS => ?_)
    have hP : va_P (dC, dI) classes [(aK, .inr (1, [.ref aKk, .ref aKp, .ref aKv, .int kn, .int kl, .int kx])), (aKk, .inl (cI, 480, .inl (upd kk kn.toNatClampNeg kd))), (aKp, .inl (cI, 480, .inl kp)), (aKv, .inl (cJ, 480, .inr (.inl kv)))] H := hP
    have hD : va_D A [(aK, .inr (1, [.ref aKk, .ref aKp, .ref aKv, .int kn, .int kl, .int kx])), (aKk, .inl (cI, 480, .inl (upd kk kn.toNatClampNeg kd))), (aKp, .inl (cI, 480, .inl kp)), (aKv, .inl (cJ, 480, .inr (.inl kv)))] := hD
    refine lv_aload_n hx hb d_Tokens_add_20 rfl (lv_at hl 0 rfl) ?_
    refine va_get (D := (dC, dI)) (ci := 1) (v := .ref aKp) (C := R_Tokens) (T := F_Tokens) (N := 6) hx hb hts i_Tokens hown hK hP 0 rfl rfl 1 (by decide) (hts _ tw_6) (fun _ h9 => h9) rfl d_Tokens_add_21 ?_
    refine lv_aload_n hx hb d_Tokens_add_24 rfl (lv_at hl 0 rfl) ?_
    refine va_get (D := (dC, dI)) (ci := 1) (v := .int kn) (C := R_Tokens) (T := F_Tokens) (N := 6) hx hb hts i_Tokens hown hK hP 0 rfl rfl 3 (by decide) (hts _ tw_3) (fun _ h9 => h9) rfl d_Tokens_add_25 ?_
    refine lv_iload_n hx hb d_Tokens_add_28 rfl (lv_at hl 2 rfl) ?_
    refine va_iast hx hb hK hP hD hS 2 1 rfl rfl (s_Tokens_add_1 q_1 h_k0) d_Tokens_add_29 (fun H locs hP hD hS => ?_)
    have hP : va_P (dC, dI) classes [(aK, .inr (1, [.ref aKk, .ref aKp, .ref aKv, .int kn, .int kl, .int kx])), (aKk, .inl (cI, 480, .inl (upd kk kn.toNatClampNeg kd))), (aKp, .inl (cI, 480, .inl (upd kp kn.toNatClampNeg pl))), (aKv, .inl (cJ, 480, .inr (.inl kv)))] H := hP
    have hD : va_D A [(aK, .inr (1, [.ref aKk, .ref aKp, .ref aKv, .int kn, .int kl, .int kx])), (aKk, .inl (cI, 480, .inl (upd kk kn.toNatClampNeg kd))), (aKp, .inl (cI, 480, .inl (upd kp kn.toNatClampNeg pl))), (aKv, .inl (cJ, 480, .inr (.inl kv)))] := hD
    refine lv_aload_n hx hb d_Tokens_add_30 rfl (lv_at hl 0 rfl) ?_
    refine va_get (D := (dC, dI)) (ci := 1) (v := .ref aKv) (C := R_Tokens) (T := F_Tokens) (N := 6) hx hb hts i_Tokens hown hK hP 0 rfl rfl 2 (by decide) (hts _ tw_7) (fun _ h9 => h9) rfl d_Tokens_add_31 ?_
    refine lv_aload_n hx hb d_Tokens_add_34 rfl (lv_at hl 0 rfl) ?_
    refine va_get (D := (dC, dI)) (ci := 1) (v := .int kn) (C := R_Tokens) (T := F_Tokens) (N := 6) hx hb hts i_Tokens hown hK hP 0 rfl rfl 3 (by decide) (hts _ tw_3) (fun _ h9 => h9) rfl d_Tokens_add_35 ?_
    refine lv_lload_n hx hb d_Tokens_add_38 rfl (lv_at hl 3 rfl) ?_
    refine va_last hx hb hK hP hD hS 3 2 rfl rfl (s_Tokens_add_2 q_1 h_k0) d_Tokens_add_39 (fun H locs hP hD hS => ?_)
    have hP : va_P (dC, dI) classes [(aK, .inr (1, [.ref aKk, .ref aKp, .ref aKv, .int kn, .int kl, .int kx])), (aKk, .inl (cI, 480, .inl (upd kk kn.toNatClampNeg kd))), (aKp, .inl (cI, 480, .inl (upd kp kn.toNatClampNeg pl))), (aKv, .inl (cJ, 480, .inr (.inl (vp_updL kv kn.toNatClampNeg va))))] H := hP
    have hD : va_D A [(aK, .inr (1, [.ref aKk, .ref aKp, .ref aKv, .int kn, .int kl, .int kx])), (aKk, .inl (cI, 480, .inl (upd kk kn.toNatClampNeg kd))), (aKp, .inl (cI, 480, .inl (upd kp kn.toNatClampNeg pl))), (aKv, .inl (cJ, 480, .inr (.inl (vp_updL kv kn.toNatClampNeg va))))] := hD
    refine lv_aload_n hx hb d_Tokens_add_40 rfl (lv_at hl 0 rfl) ?_
    refine lv_dup hx hb d_Tokens_add_41 rfl ?_
    refine va_get (D := (dC, dI)) (ci := 1) (v := .int kn) (C := R_Tokens) (T := F_Tokens) (N := 6) hx hb hts i_Tokens hown hK hP 0 rfl rfl 3 (by decide) (hts _ tw_3) (fun _ h9 => h9) rfl d_Tokens_add_42 ?_
    refine lv_iconst (v := 1) hx hb d_Tokens_add_45 (by decide) ?_
    refine lv_iadd hx hb d_Tokens_add_46 ?_
    refine va_put (D := (dC, dI)) (ci := 1) (v := .int (kn + 1)) (ty := .int) (C := R_Tokens) (T := F_Tokens) (N := 6) hx hb hts i_Tokens t_Tokens t_Tokens_ok n_Tokens hown hK hP hD hS 0 rfl rfl 3 (by decide) (hts _ tw_3) (fun _ h9 => h9) rfl (by decide +kernel) rfl rfl (Nat.le_of_ble_eq_true rfl) d_Tokens_add_47 (fun H locs hP hD hS => ?_)
    have hP : va_P (dC, dI) classes [(aK, .inr (1, [.ref aKk, .ref aKp, .ref aKv, .int (kn + 1), .int kl, .int kx])), (aKk, .inl (cI, 480, .inl (upd kk kn.toNatClampNeg kd))), (aKp, .inl (cI, 480, .inl (upd kp kn.toNatClampNeg pl))), (aKv, .inl (cJ, 480, .inr (.inl (vp_updL kv kn.toNatClampNeg va))))] H := hP
    have hD : va_D A [(aK, .inr (1, [.ref aKk, .ref aKp, .ref aKv, .int (kn + 1), .int kl, .int kx])), (aKk, .inl (cI, 480, .inl (upd kk kn.toNatClampNeg kd))), (aKp, .inl (cI, 480, .inl (upd kp kn.toNatClampNeg pl))), (aKv, .inl (cJ, 480, .inr (.inl (vp_updL kv kn.toNatClampNeg va))))] := hD
    exact W.vret hx hb hr (fun t ht hW => ⟨⟨((upd kk kn.toNatClampNeg kd), (upd kp kn.toNatClampNeg pl), (vp_updL kv kn.toNatClampNeg va), (kn + 1)), rfl, by rw [← hres]; simp only [m_Tokens_add, if_neg c_1], by rw [ht]; exact hP, va_K.moved hW.alike hK, hD⟩, hS.F ht⟩) hS.2.2 d_Tokens_add_50
theorem v_Tokens_add {u1 u2 : Nat → Int32} {u3 : Nat → Int64} {u4 : Int32} {kk kp : Nat → Int32} {kv : Nat → Int64} {kn kd pl : Int32} {va : Int64} (hw : (u1, u2, u3, u4) = m_Tokens_add kk kp kv kn kd pl va) (h : 0 ≤ kn.toInt) : 0 ≤ u4.toInt := by
  unfold m_Tokens_add at hw
  have z : (480 : Int32).toInt = 480 := rfl
  have o : (1 : Int32).toInt = 1 := rfl
  split at hw
  · simp only [Prod.mk.injEq] at hw
    rw [hw.2.2.2]; exact h
  · rename_i c
    simp only [Prod.mk.injEq] at hw
    rw [hw.2.2.2]
    have q := mt Int32.le_iff_toInt_le.mpr c
    have a := gz_a kn 1 (by omega) (by omega)
    omega
