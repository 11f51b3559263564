/-! events are well formed, and how many there are -/
theorem e_nl_app : ∀ (a b : List e_Ev), e_nl (a ++ b) = e_nl a + e_nl b := by
  intro a b
  induction a with
  | nil => show e_nl b = 0 + e_nl b; omega
  | cons x a ih => show e_wl x + e_nl (a ++ b) = e_wl x + e_nl a + e_nl b; omega
theorem e_no_app : ∀ (a b : List e_Ev), e_no (a ++ b) = e_no a + e_no b := by
  intro a b
  induction a with
  | nil => show e_no b = 0 + e_no b; omega
  | cons x a ih => show e_wo x + e_no (a ++ b) = e_wo x + e_no a + e_no b; omega
section E7
variable {zkk zkp : Nat → Int32} {zkv : Nat → Int64} {L : Nat}
theorem e_labs_wf : ∀ (n : Nat) (cu : Int32), (∀ ev, ev ∈ (e_labs zkk zkp zkv n cu).1 → e_wf ev) ∧ e_nl (e_labs zkk zkp zkv n cu).1 = (e_labs zkk zkp zkv n cu).1.length ∧ e_no (e_labs zkk zkp zkv n cu).1 = 0 := by
  intro n
  induction n with
  | zero => intro cu; exact ⟨fun ev h => absurd h List.not_mem_nil, rfl, rfl⟩
  | succ n ih =>
    intro cu
    unfold e_labs
    split
    · obtain ⟨i1, i2, i3⟩ := ih (cu + 2)
      refine ⟨fun ev h => ?_, ?_, ?_⟩
      · rcases List.mem_cons.mp h with rfl | h
        · trivial
        · exact i1 ev h
      · show 1 + e_nl (e_labs zkk zkp zkv n (cu + 2)).1 = (e_labs zkk zkp zkv n (cu + 2)).1.length + 1
        omega
      · show 0 + e_no (e_labs zkk zkp zkv n (cu + 2)).1 = 0
        omega
    · exact ⟨fun ev h => absurd h List.not_mem_nil, rfl, rfl⟩
theorem e_ord_wf {cu : Int32} {ev : e_Ev} (hL : e_L zkk L) (hnn : e_nn zkk zkv L) (h0 : 0 ≤ cu.toInt) (h1 : cu.toInt ≤ L) (hc : zkk cu.toNatClampNeg = 1) (h : e_ord zkk zkp zkv cu = .ok ev) : e_wf ev ∧ e_wl ev = 0 ∧ e_wo ev = 1 := by
  have k := e_next hL h0 h1 hc (by decide) (by decide)
  unfold e_ord at h
  rcases hs : m_Order_spelled (zkv cu.toNatClampNeg) with _ | oi
  · simp only [hs] at h; cases h
  · have hoi : oi < 25 := v_Order_spelled hs.symm
    simp only [hs] at h
    rcases hf : e_form zkk zkp zkv (e_chars oi) (cu + 1, 0, 0, 0, 0, 0) with p | ⟨cu', rg', q', nm', pN', vl'⟩
    · simp only [hf] at h; cases h
    · simp only [hf] at h
      cases h
      refine ⟨⟨hoi, e_form_q _ _ _ hf (show 0 ≤ 3 by decide), fun h22 => ?_, fun h => ?_⟩, rfl, rfl⟩
      · subst h22
        have hf' : e_form zkk zkp zkv [110] (cu + 1, 0, 0, 0, 0, 0) = .ok (cu', rg', q', nm', pN', vl') := hf
        rcases e_u110 hf' with q | q <;> omega
      · have hc : e_chars oi = [117] := by rcases h with rfl | rfl <;> rfl
        rw [hc] at hf
        obtain ⟨q1, q2, q3⟩ := e_u117 hf
        refine ⟨q1, ?_⟩
        rw [q3]
        exact hnn _ (e_clE (by omega) (by omega)) q2
theorem e_ord_n {cu : Int32} {ev : e_Ev} (h : e_ord zkk zkp zkv cu = .ok ev) : e_wl ev = 0 ∧ e_wo ev = 1 := by
  unfold e_ord at h
  split at h
  · cases h
  · split at h
    · cases h
    · cases h; exact ⟨rfl, rfl⟩
theorem e_stmt_n {cu c : Int32} {es : List e_Ev} (hL : e_L zkk L) (h0 : 0 ≤ cu.toInt) (h1 : cu.toInt ≤ L) (h : e_stmt zkk zkp zkv cu = .ok (es, c)) : cu.toInt + 2 * (e_nl es : Int) ≤ c.toInt ∧ cu.toInt + 2 * (e_no es : Int) ≤ c.toInt ∧ cu.toInt < c.toInt ∧ c.toInt ≤ L := by
  obtain ⟨w1, w2, w3⟩ := e_labs_wf (zkk := zkk) (zkp := zkp) (zkv := zkv) 481 cu
  have hi := e_labs_in (zkp := zkp) (zkv := zkv) hL 481 cu h0 h1
  unfold e_stmt at h
  generalize (e_labs zkk zkp zkv 481 cu).1 = ls at w1 w2 w3 hi h
  generalize (e_labs zkk zkp zkv 481 cu).2 = c1 at hi h
  have hi1 := hi.1
  split at h
  · rename_i cN
    rcases ho : e_ord zkk zkp zkv c1 with p | ev
    · rw [ho] at h; cases h
    · rw [ho] at h
      have o1 := e_ord_n ho
      have o2 := e_ord_in hL (by omega) hi.2 cN ho cu
      have h : e_end zkk zkp zkv (ls ++ [ev]) (e_evc cu ev) = .ok (es, c) := h
      obtain ⟨rfl, q2, q3⟩ := e_end_in hL (by omega) o2.2 h
      have n1 := e_nl_app ls [ev]
      have n2 := e_no_app ls [ev]
      have n3 : e_nl [ev] = e_wl ev + 0 := rfl
      have n4 : e_no [ev] = e_wo ev + 0 := rfl
      exact ⟨by omega, by omega, by omega, q3⟩
  · obtain ⟨rfl, q2, q3⟩ := e_end_in hL (by omega) hi.2 h
    exact ⟨by omega, by omega, by omega, q3⟩
theorem e_stmt_wf {cu c : Int32} {es : List e_Ev} (hL : e_L zkk L) (hnn : e_nn zkk zkv L) (h0 : 0 ≤ cu.toInt) (h1 : cu.toInt ≤ L) (h : e_stmt zkk zkp zkv cu = .ok (es, c)) : (∀ ev, ev ∈ es → e_wf ev) ∧ cu.toInt + 2 * (e_nl es : Int) ≤ c.toInt ∧ cu.toInt + 2 * (e_no es : Int) ≤ c.toInt ∧ cu.toInt < c.toInt ∧ c.toInt ≤ L := by
  obtain ⟨w1, w2, w3⟩ := e_labs_wf (zkk := zkk) (zkp := zkp) (zkv := zkv) 481 cu
  have hi := e_labs_in (zkp := zkp) (zkv := zkv) hL 481 cu h0 h1
  unfold e_stmt at h
  generalize (e_labs zkk zkp zkv 481 cu).1 = ls at w1 w2 w3 hi h
  generalize (e_labs zkk zkp zkv 481 cu).2 = c1 at hi h
  have hi1 := hi.1
  split at h
  · rename_i cN
    rcases ho : e_ord zkk zkp zkv c1 with p | ev
    · rw [ho] at h; cases h
    · rw [ho] at h
      have o1 := e_ord_wf hL hnn (by omega) hi.2 cN ho
      have o2 := e_ord_in hL (by omega) hi.2 cN ho cu
      have h : e_end zkk zkp zkv (ls ++ [ev]) (e_evc cu ev) = .ok (es, c) := h
      obtain ⟨rfl, q2, q3⟩ := e_end_in hL (by omega) o2.2 h
      have n1 := e_nl_app ls [ev]
      have n2 := e_no_app ls [ev]
      have n3 : e_nl [ev] = e_wl ev + 0 := rfl
      have n4 : e_no [ev] = e_wo ev + 0 := rfl
      refine ⟨fun e he => ?_, by omega, by omega, by omega, q3⟩
      rcases List.mem_append.mp he with he | he
      · exact w1 e he
      · rw [List.mem_singleton.mp he]; exact o1.1
  · obtain ⟨rfl, q2, q3⟩ := e_end_in hL (by omega) hi.2 h
    exact ⟨w1, by omega, by omega, by omega, q3⟩
theorem e_all_wf (hL : e_L zkk L) (hnn : e_nn zkk zkv L) : ∀ (n : Nat) (cu : Int32) (es : List e_Ev), 0 ≤ cu.toInt → cu.toInt ≤ L → e_all zkk zkp zkv n cu = .ok es → (∀ ev, ev ∈ es → e_wf ev) ∧ cu.toInt + 2 * (e_nl es : Int) ≤ L ∧ cu.toInt + 2 * (e_no es : Int) ≤ L := by
  intro n
  induction n with
  | zero =>
    intro cu es h0 h1 h
    have h' : Except.ok [] = (Except.ok es : Except Int32 (List e_Ev)) := h
    cases h'
    exact ⟨fun ev h => absurd h List.not_mem_nil, by show cu.toInt + 2 * ((0 : Nat) : Int) ≤ L; omega, by show cu.toInt + 2 * ((0 : Nat) : Int) ≤ L; omega⟩
  | succ n ih =>
    intro cu es h0 h1 h
    unfold e_all at h
    split at h
    · cases h
      exact ⟨fun ev h => absurd h List.not_mem_nil, by show cu.toInt + 2 * ((0 : Nat) : Int) ≤ L; omega, by show cu.toInt + 2 * ((0 : Nat) : Int) ≤ L; omega⟩
    · rcases hs : e_stmt zkk zkp zkv cu with p | ⟨es1, c⟩
      · rw [hs] at h; cases h
      · rw [hs] at h
        obtain ⟨s1, s2, s3, s4, s5⟩ := e_stmt_wf hL hnn h0 h1 hs
        rcases hr : e_all zkk zkp zkv n c with p | r
        · simp only [hr] at h; cases h
        · simp only [hr] at h
          cases h
          obtain ⟨i1, i2, i3⟩ := ih c r (by omega) s5 hr
          have n1 := e_nl_app es1 r
          have n2 := e_no_app es1 r
          refine ⟨fun e he => ?_, by omega, by omega⟩
          rcases List.mem_append.mp he with he | he
          · exact s1 e he
          · exact i1 e he
end E7
/-! the reference's labels -/
theorem e_note_idem {fk fp wh : Int32} (hv : e_vf fk fp) : m_Fault_note (m_Fault_note fk fp 2 wh).1 (m_Fault_note fk fp 2 wh).2 2 wh = m_Fault_note fk fp 2 wh := by
  have k1 := e_note_key (fk := fk) (fp := fp) (nk := 2) (wh := wh) hv (Or.inl rfl)
  have k2 := e_note_key (fk := (m_Fault_note fk fp 2 wh).1) (fp := (m_Fault_note fk fp 2 wh).2) (nk := 2) (wh := wh) k1.1 (Or.inl rfl)
  have q := e_key_inj k2.1 k1.1 (by omega)
  exact Prod.ext q.1 q.2
theorem e_I48 {zkp : Nat → Int32} {zkv : Nat → Int64} {zat zln : Int32} {zlv : Nat → Int64} {fk fp : Int32} (hv : e_vf fk fp) (hl : zln.toInt ≤ 1000) : ∀ (n : Nat) (x1 a b : Int32), 0 ≤ x1.toInt → x1.toInt ≤ zln.toInt → (zln.toInt - x1.toInt).toNat < n → (a, b) = (if e_fnd zlv (zkv zat.toNatClampNeg) x1.toNatClampNeg = none then (fk, fp) else m_Fault_note fk fp 2 (zkp zat.toNatClampNeg)) → (m_Mod_readLabels_I48 zkp zkv zat zln zlv n x1 a b).2 = e_dup fk fp zln zlv (zkv zat.toNatClampNeg) (zkp zat.toNatClampNeg) := by
  intro n
  induction n with
  | zero => intro x1 a b h0 h1 h2; omega
  | succ n ih =>
    intro x1 a b h0 h1 h2 h3
    obtain ⟨k1, k2, k3⟩ := e_cl1 (x := x1) h0 (by omega)
    have hab : e_vf a b := by
      have ha : a = ((a, b) : Int32 × Int32).1 := rfl
      have hb : b = ((a, b) : Int32 × Int32).2 := rfl
      rw [ha, hb, h3]
      split
      · exact hv
      · exact (e_note_key hv (Or.inl rfl)).1
    unfold m_Mod_readLabels_I48
    by_cases c : zln ≤ x1
    · have q := Int32.le_iff_toInt_le.mp c
      have e : x1 = zln := Int32.toInt_inj.mp (by omega)
      rw [if_pos c]
      show (a, b) = _
      rw [h3, e]
      unfold e_dup
      rw [e_note_eq hv (Or.inl rfl)]
    · have q := mt Int32.le_iff_toInt_le.mpr c
      rw [if_neg c, e_note_eq hab (Or.inl rfl)]
      by_cases c2 : zlv x1.toNatClampNeg = zkv zat.toNatClampNeg
      · rw [if_pos ((lg_cmp_eq _ _).mpr c2)]
        refine ih (x1 + 1) _ _ (by omega) (by omega) (by omega) ?_
        have nn : ¬ e_fnd zlv (zkv zat.toNatClampNeg) (x1 + 1).toNatClampNeg = none := by
          rw [k1]
          rcases hf : e_fnd zlv (zkv zat.toNatClampNeg) x1.toNatClampNeg with _ | i
          · rw [e_fnd_n hf, if_pos c2]; exact fun h => by cases h
          · rw [e_fnd_s hf]; exact fun h => by cases h
        rw [if_neg nn]
        show m_Fault_note a b 2 (zkp zat.toNatClampNeg) = _
        by_cases c3 : e_fnd zlv (zkv zat.toNatClampNeg) x1.toNatClampNeg = none
        · rw [if_pos c3] at h3
          simp only [Prod.mk.injEq] at h3
          rw [h3.1, h3.2]
        · rw [if_neg c3] at h3
          have h3a : a = (m_Fault_note fk fp 2 (zkp zat.toNatClampNeg)).1 := congrArg Prod.fst h3
          have h3b : b = (m_Fault_note fk fp 2 (zkp zat.toNatClampNeg)).2 := congrArg Prod.snd h3
          rw [h3a, h3b, e_note_idem hv]
      · rw [if_neg (fun h => c2 ((lg_cmp_eq _ _).mp h))]
        refine ih (x1 + 1) a b (by omega) (by omega) (by omega) ?_
        rw [h3, k1]
        rcases hf : e_fnd zlv (zkv zat.toNatClampNeg) x1.toNatClampNeg with _ | i
        · rw [e_fnd_n hf, if_neg c2]
        · rw [e_fnd_s hf]
theorem e58 : (58 : Int32).toInt64 = (58 : Int64) := by decide
theorem e_rLabs {zkk zkp : Nat → Int32} {zkv : Nat → Int64} {znx : Int32} {L : Nat} (hL : e_L zkk L) (zpn : Int32) (zpa zpw zpk : Nat → Int32) (zpl : Nat → Int64) (zpp zbg : Nat → Int32) : ∀ (n : Nat) (zfk zfp zat zln : Int32) (zlv : Nat → Int64) (zla : Nat → Int32), e_vf zfk zfp → 0 ≤ zat.toInt → zat.toInt ≤ L → 0 ≤ zln.toInt → 2 * zln.toInt ≤ zat.toInt →
    ∃ r a b c d e, (e_labs zkk zkp zkv n zat).1.foldl e_rE (zfk, zfp, zln, zlv, zla, zpn, zpa, zpw, zpk, zpl, zpp, zbg, znx) = (a, b, c, d, e, zpn, zpa, zpw, zpk, zpl, zpp, zbg, znx) ∧ m_Mod_readLabels_L0 zkk zkp zkv znx n zfk zfp zat zln zlv zla = (r, a, b, (e_labs zkk zkp zkv n zat).2, c, d, e) := by
  intro n
  have hL1 := hL.1
  induction n with
  | zero => intro zfk zfp zat zln zlv zla hv h0 h1 h2 h3; exact ⟨0, zfk, zfp, zln, zlv, zla, rfl, rfl⟩
  | succ n ih =>
    intro zfk zfp zat zln zlv zla hv h0 h1 h2 h3
    unfold e_labs m_Mod_readLabels_L0
    by_cases c : zkk zat.toNatClampNeg = 1 ∧ zkk (zat + 1).toNatClampNeg = 3 ∧ zkv (zat + 1).toNatClampNeg = (58 : Int32).toInt64
    · obtain ⟨c1, c2, c3⟩ := c
      have k := e_next hL h0 h1 c1 (by decide) (by decide)
      have k2 := e_next (i := zat + 1) hL (by omega) (by omega) c2 (by decide) (by decide)
      have e2 := e_two (i := zat) (by omega) (by omega)
      obtain ⟨j1, j2, j3⟩ := e_cl1 (x := zln) h2 (by omega)
      have z0 : (0 : Int32).toInt = 0 := rfl
      rw [if_pos c1, if_pos c2, if_pos ((lg_cmp_eq _ _).mpr (c3.trans e58)), if_pos ⟨c1, c2, c3⟩]
      have I48 := e_I48 (zkp := zkp) (zkv := zkv) (zat := zat) (zln := zln) (zlv := zlv) hv (by omega) ((zln.toInt - (0 : Int32).toInt).toNat + 1) 0 zfk zfp (by omega) (by omega) (by omega) rfl
      rcases hI : m_Mod_readLabels_I48 zkp zkv zat zln zlv ((zln.toInt - (0 : Int32).toInt).toNat + 1) 0 zfk zfp with ⟨y, u, w⟩
      rw [hI] at I48
      have I48 : (u, w) = e_dup zfk zfp zln zlv (zkv zat.toNatClampNeg) (zkp zat.toNatClampNeg) := I48
      have m := e_rmono (R := (zfk, zfp, zln, zlv, zla, zpn, zpa, zpw, zpk, zpl, zpp, zbg, znx)) (.inl (zkv zat.toNatClampNeg, zkp zat.toNatClampNeg)) hv
      have mv : e_vf (e_dup zfk zfp zln zlv (zkv zat.toNatClampNeg) (zkp zat.toNatClampNeg)).1 (e_dup zfk zfp zln zlv (zkv zat.toNatClampNeg) (zkp zat.toNatClampNeg)).2 := m.1
      rw [← I48] at mv
      show ∃ r a b c d e, (e_labs zkk zkp zkv n (zat + 2)).1.foldl e_rE ((e_dup zfk zfp zln zlv (zkv zat.toNatClampNeg) (zkp zat.toNatClampNeg)).1, (e_dup zfk zfp zln zlv (zkv zat.toNatClampNeg) (zkp zat.toNatClampNeg)).2, zln + 1, vp_updL zlv zln.toNatClampNeg (zkv zat.toNatClampNeg), upd zla zln.toNatClampNeg znx, zpn, zpa, zpw, zpk, zpl, zpp, zbg, znx) = _ ∧ _
      rw [← I48]
      exact ih u w (zat + 2) (zln + 1) _ _ mv (by omega) (by omega) (by omega) (by omega)
    · rw [if_neg c]
      refine ⟨1, zfk, zfp, zln, zlv, zla, rfl, ?_⟩
      by_cases c1 : zkk zat.toNatClampNeg = 1
      · rw [if_pos c1]
        by_cases c2 : zkk (zat + 1).toNatClampNeg = 3
        · rw [if_pos c2, if_neg (fun h => c ⟨c1, c2, ((lg_cmp_eq _ _).mp h).trans e58.symm⟩)]
        · rw [if_neg c2]
      · rw [if_neg c1]
