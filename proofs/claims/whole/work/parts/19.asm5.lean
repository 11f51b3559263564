theorem v_Asm_pass_L (kk kp : Nat → Int32) (kv : Nat → Int64) (kn kl bb : Int32) : ∀ (n : Nat) (x2 fk fp : Int32) (dw ds : Nat → Int32) (dn : Nat → Int64) (da : Nat → Int32) (dl dc sv cu na rg : Int32) (vl : Int64), 0 ≤ dl.toInt → 0 ≤ (m_Asm_pass_L25 kk kp kv kn kl bb n x2 fk fp dw ds dn da dl dc sv cu na rg vl).2.2.2.2.2.2.2.1.toInt := by
  intro n
  induction n with
  | zero => intro x2 fk fp dw ds dn da dl dc sv cu na rg vl h; exact h
  | succ n ih =>
    intro x2 fk fp dw ds dn da dl dc sv cu na rg vl h
    unfold m_Asm_pass_L25
    split
    · exact h
    · split
      · exact h
      · split
        rename_i e
        have h1 := v_Asm_readLabels e.symm h
        split
        · split
          split
          · exact h1
          · split
            split
            · exact h1
            · exact ih _ _ _ _ _ _ _ _ _ _ _ _ _ _ h1
        · split
          split
          · exact h1
          · exact ih _ _ _ _ _ _ _ _ _ _ _ _ _ _ h1
theorem v_Asm_pass {r u1 u2 : Int32} {u3 u4 : Nat → Int32} {u5 : Nat → Int64} {u6 : Nat → Int32} {u7 u8 u9 u10 u11 u12 : Int32} {u13 : Int64} {fk fp : Int32} {kk kp : Nat → Int32} {kv : Nat → Int64} {kn kl : Int32} {dw ds : Nat → Int32} {dn : Nat → Int64} {da : Nat → Int32} {dl dc sv cu na rg : Int32} {vl : Int64} {bb : Int32} (hw : (r, u1, u2, u3, u4, u5, u6, u7, u8, u9, u10, u11, u12, u13) = m_Asm_pass fk fp kk kp kv kn kl dw ds dn da dl dc sv cu na rg vl bb) (h : 0 ≤ dl.toInt) : 0 ≤ u7.toInt := by
  have e : u7 = (m_Asm_pass fk fp kk kp kv kn kl dw ds dn da dl dc sv cu na rg vl bb).2.2.2.2.2.2.2.1 := by rw [← hw]
  rw [e]
  exact v_Asm_pass_L kk kp kv kn kl bb _ _ _ _ _ _ _ _ _ _ _ _ _ _ _ h
def g_m2 {α β γ : Type} (p : α × β) (f : α → β → γ) : γ := f p.1 p.2
theorem g_m2_mk {α β γ : Type} (a : α) (b : β) (f : α → β → γ) : g_m2 (a, b) f = f a b := rfl
