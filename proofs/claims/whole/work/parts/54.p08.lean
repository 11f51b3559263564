/-! the second pass: words of parts, labels that are none -/
def e_rw (v : Nat → Int64) (a : Nat → Int32) (n : Int32) (kd w : Int32) (nm : Int64) (ad : Int32) : Int32 := if kd = 0 then w else if kd = 32 then e_look v a n nm - (if kd = 2 then ad else 0) else w ||| ((e_look v a n nm - (if kd = 2 then ad else 0)) &&& 4095)
def e_app (f : Nat → Int32) (zpa w : Nat → Int32) : Nat → (Nat → Int32)
  | 0 => f
  | k + 1 => upd (e_app f zpa w k) (zpa k).toNatClampNeg (w k)
def e_rws (v : Nat → Int64) (a : Nat → Int32) (n : Int32) (zpa zpw zpk : Nat → Int32) (zpl : Nat → Int64) : Nat → Int32 := fun k => e_rw v a n (zpk k) (zpw k) (zpl k) (zpa k)
def e_U (v : Nat → Int64) (a : Nat → Int32) (n : Int32) (zpk : Nat → Int32) (zpl : Nat → Int64) (zpp : Nat → Int32) : Nat → Int
  | 0 => 1000000000000
  | k + 1 => min (e_U v a n zpk zpl zpp k) (if zpk k = 0 then 1000000000000 else if e_look v a n (zpl k) = -1 then 4 * (zpp k).toInt + 2 else 1000000000000)
theorem e_app_congr {f zpa zpa' w w' : Nat → Int32} : ∀ n, (∀ i, i < n → zpa i = zpa' i ∧ w i = w' i) → e_app f zpa w n = e_app f zpa' w' n := by
  intro n
  induction n with
  | zero => intro _; rfl
  | succ n ih =>
    intro h
    rw [e_app, e_app, ih (fun i hi => h i (Nat.lt_succ_of_lt hi)), (h n (Nat.lt_succ_self n)).1, (h n (Nat.lt_succ_self n)).2]
theorem e_U_congr {v : Nat → Int64} {a : Nat → Int32} {m : Int32} {zpk zpk' : Nat → Int32} {zpl zpl' : Nat → Int64} {zpp zpp' : Nat → Int32} : ∀ n, (∀ i, i < n → zpk i = zpk' i ∧ zpl i = zpl' i ∧ zpp i = zpp' i) → e_U v a m zpk zpl zpp n = e_U v a m zpk' zpl' zpp' n := by
  intro n
  induction n with
  | zero => intro _; rfl
  | succ n ih =>
    intro h
    obtain ⟨h1, h2, h3⟩ := h n (Nat.lt_succ_self n)
    rw [e_U, e_U, ih (fun i hi => h i (Nat.lt_succ_of_lt hi)), h1, h2, h3]
theorem e_rk_lt {oi : Nat} {zpk : Nat → Int32} {zpn : Int32} {q i : Nat} (h : i < zpn.toNatClampNeg) : e_rk oi (upd zpk zpn.toNatClampNeg 0) zpn q i = zpk i := by
  unfold e_rk
  split
  · exact e_upd_lt h
  · rw [e_upd_lt h, e_upd_lt h]
theorem e_rk_at {oi : Nat} {zpk : Nat → Int32} {zpn : Int32} {q : Nat} : e_rk oi (upd zpk zpn.toNatClampNeg 0) zpn q zpn.toNatClampNeg = if q = 0 ∨ q = 1 then 0 else if q = 3 then 2 else if oi = 22 then 32 else 1 := by
  unfold e_rk
  by_cases c0 : q = 0
  · rw [if_pos c0, if_pos (Or.inl c0), e_upd_at]
  · rw [if_neg c0, e_upd_at]
    by_cases c1 : q = 1
    · rw [if_pos c1, if_pos (Or.inr c1)]
    · rw [if_neg c1, if_neg (show ¬ (q = 0 ∨ q = 1) from fun h => h.elim c0 c1)]
theorem e_rl_lt {zpl : Nat → Int64} {zpn : Int32} {q i : Nat} {nm : Int64} (h : i < zpn.toNatClampNeg) : e_rl zpl zpn q nm i = zpl i := by
  unfold e_rl
  split
  · exact e_updL_lt h
  · rfl
theorem e_rp_lt {zpp : Nat → Int32} {zpn : Int32} {q i : Nat} {pN : Int32} (h : i < zpn.toNatClampNeg) : e_rp zpp zpn q pN i = zpp i := by
  unfold e_rp
  split
  · exact e_upd_lt h
  · rfl
/-! D: fk fp dw ds dc na of the second pass; v a n: the labels; K1: the key of the first pass's fault -/
def e_P2 (v : Nat → Int64) (a : Nat → Int32) (n : Int32) (K1 : Int) (f ds1 : Nat → Int32) (fk fp : Int32) (dw ds : Nat → Int32) (dc na zfk zfp zpn : Int32) (zpa zpw zpk : Nat → Int32) (zpl : Nat → Int64) (zpp zbg : Nat → Int32) (znx : Int32) : Prop :=
  (zpn = dc ∧ znx = na) ∧ e_vf fk fp ∧ e_vf zfk zfp ∧ (0 ≤ dc.toInt ∧ 0 ≤ na.toInt ∧ na.toInt ≤ 256 + dc.toInt) ∧ e_key fk fp = min K1 (e_U v a n zpk zpl zpp zpn.toNatClampNeg) ∧ (fk = 0 → dw = e_app f zpa (e_rws v a n zpa zpw zpk zpl) zpn.toNatClampNeg) ∧ (∀ c, c < 4 → ds c = e_nm (zbg c) ∨ ds c = ds1 c)
def e_Q2 (v : Nat → Int64) (a : Nat → Int32) (n : Int32) (K1 : Int) (f ds1 : Nat → Int32) (C : e_C) (R : e_R) : Prop := e_P2 v a n K1 f ds1 C.1 C.2.1 C.2.2.1 C.2.2.2.1 C.2.2.2.2.2.2.2.1 C.2.2.2.2.2.2.2.2 R.1 R.2.1 R.2.2.2.2.2.1 R.2.2.2.2.2.2.1 R.2.2.2.2.2.2.2.1 R.2.2.2.2.2.2.2.2.1 R.2.2.2.2.2.2.2.2.2.1 R.2.2.2.2.2.2.2.2.2.2.1 R.2.2.2.2.2.2.2.2.2.2.2.1 R.2.2.2.2.2.2.2.2.2.2.2.2 ∧ C.2.2.2.2.1 = v ∧ C.2.2.2.2.2.1 = a ∧ C.2.2.2.2.2.2.1 = n
def e_un (v : Nat → Int64) (a : Nat → Int32) (n : Int32) (q : Nat) (nm : Int64) (pN : Int32) : Int := if (q = 2 ∨ q = 3) ∧ e_look v a n nm = -1 then 4 * pN.toInt + 2 else 1000000000000
theorem e_cf2 {v : Nat → Int64} {a : Nat → Int32} {n : Int32} (n0 : 0 ≤ n.toInt) (n1 : n.toInt ≤ 240) {oi : Nat} {fk fp : Int32} {q : Nat} {nm : Int64} {pN : Int32} {vl : Int64} (hv : e_vf fk fp) (hm : q = 1 → m_Order_fits oi vl = 0 → e_key fk fp ≤ 4 * pN.toInt + 3) : e_vf (e_cf 0 v a n oi fk fp q nm pN vl).1 (e_cf 0 v a n oi fk fp q nm pN vl).2 ∧ e_key (e_cf 0 v a n oi fk fp q nm pN vl).1 (e_cf 0 v a n oi fk fp q nm pN vl).2 = min (e_key fk fp) (e_un v a n q nm pN) ∧ ((e_cf 0 v a n oi fk fp q nm pN vl).1 = 0 → fk = 0) := by
  have i2 := e_i2
  have i3 := e_i3
  have kb : e_key fk fp ≤ 1000000000000 := by
    have g := gz_r fp
    by_cases c0 : fk = 0
    · rw [e_key0 c0]; exact Int.le_refl _
    · rw [e_keyn c0]; have t := e_vf_t hv c0; omega
  unfold e_cf e_un
  rw [e_aof n0 n1]
  by_cases c1 : q = 1
  · rw [if_pos c1, if_neg (show ¬ ((q = 2 ∨ q = 3) ∧ e_look v a n nm = -1) from fun h => by have q2 := h.1; omega)]
    by_cases c2 : m_Order_fits oi vl = 0
    · rw [if_pos c2]
      have k := e_note_key (fk := fk) (fp := fp) (nk := 3) (wh := pN) hv (Or.inr rfl)
      have m := hm c1 c2
      exact ⟨k.1, by omega, fun h => absurd h (e_note_nz (Or.inr rfl))⟩
    · rw [if_neg c2]
      refine ⟨hv, ?_, fun h => h⟩
      show e_key fk fp = min (e_key fk fp) 1000000000000
      omega
  · rw [if_neg c1]
    by_cases c2 : (q = 2 ∨ q = 3) ∧ e_look v a n nm = -1
    · rw [if_pos c2, if_pos ⟨c2.1, rfl, c2.2⟩]
      have k := e_note_key (fk := fk) (fp := fp) (nk := 2) (wh := pN) hv (Or.inl rfl)
      exact ⟨k.1, by omega, fun h => absurd h (e_note_nz (Or.inl rfl))⟩
    · rw [if_neg c2, if_neg (fun h => c2 ⟨h.1, h.2.2⟩)]
      refine ⟨hv, ?_, fun h => h⟩
      show e_key fk fp = min (e_key fk fp) 1000000000000
      omega
theorem e_lay2 {fk fp : Int32} (hv : e_vf fk fp) (dw : Nat → Int32) (dc na co pl : Int32) (h0 : 0 ≤ na.toInt) (hm : 255 < na.toInt → e_key fk fp ≤ 4 * pl.toInt + 3) : ∃ g h w, m_Asm_lay fk fp dw dc 0 na co pl = (g, h, w, dc + 1, na + 1) ∧ e_vf g h ∧ e_key g h = e_key fk fp ∧ (g = 0 → fk = 0 ∧ w = upd dw na.toNatClampNeg co) := by
  have z0 : (0 : Int32).toInt = 0 := rfl
  have z256 : (256 : Int32).toInt = 256 := rfl
  have i3 := e_i3
  unfold m_Asm_lay
  by_cases c : na < 256
  · have q := Int32.lt_iff_toInt_lt.mp c
    refine ⟨fk, fp, upd dw na.toNatClampNeg co, ?_, hv, rfl, fun h => ⟨h, rfl⟩⟩
    rw [if_pos c, if_pos (rfl : (0 : Int32) = 0)]
    unfold m_Program_put
    rw [if_neg (fun h => by have q2 := Int32.lt_iff_toInt_lt.mp h; omega), if_neg (fun h => by have q2 := Int32.le_iff_toInt_le.mp h; omega)]
  · have q := mt Int32.lt_iff_toInt_lt.mpr c
    have k := e_note_key (fk := fk) (fp := fp) (nk := 3) (wh := pl) hv (Or.inr rfl)
    have m := hm (by omega)
    refine ⟨(m_Fault_note fk fp 3 pl).1, (m_Fault_note fk fp 3 pl).2, dw, ?_, k.1, by omega, fun h => absurd h (e_note_nz (Or.inr rfl))⟩
    rw [if_neg c]
theorem e_num_op : ∀ oi, oi < 22 → g_num oi = e_op oi := by decide
theorem e_b1 (x : Int32) : x.toInt64.toInt32 = x := Int32.toInt32_toInt64 x
theorem e_rw0 (v : Nat → Int64) (a : Nat → Int32) (n w : Int32) (nm : Int64) (ad : Int32) : e_rw v a n 0 w nm ad = w := if_pos rfl
theorem e_rw32 (v : Nat → Int64) (a : Nat → Int32) (n w : Int32) (nm : Int64) (ad : Int32) : e_rw v a n 32 w nm ad = e_look v a n nm - 0 := by
  unfold e_rw
  rw [if_neg (show ¬ (32 : Int32) = 0 by decide), if_pos (rfl : (32 : Int32) = 32), if_neg (show ¬ (32 : Int32) = 2 by decide)]
theorem e_rw1 (v : Nat → Int64) (a : Nat → Int32) (n w : Int32) (nm : Int64) (ad : Int32) : e_rw v a n 1 w nm ad = w ||| ((e_look v a n nm - 0) &&& 4095) := by
  unfold e_rw
  rw [if_neg (show ¬ (1 : Int32) = 0 by decide), if_neg (show ¬ (1 : Int32) = 32 by decide), if_neg (show ¬ (1 : Int32) = 2 by decide)]
theorem e_rw2 (v : Nat → Int64) (a : Nat → Int32) (n w : Int32) (nm : Int64) (ad : Int32) : e_rw v a n 2 w nm ad = w ||| ((e_look v a n nm - ad) &&& 4095) := by
  unfold e_rw
  rw [if_neg (show ¬ (2 : Int32) = 0 by decide), if_neg (show ¬ (2 : Int32) = 32 by decide), if_pos (rfl : (2 : Int32) = 2)]
theorem e_word {v : Nat → Int64} {a : Nat → Int32} {n : Int32} (n0 : 0 ≤ n.toInt) (n1 : n.toInt ≤ 240) {oi : Nat} (w1 : oi < 25) (h23 : ¬ oi = 23) (h24 : ¬ oi = 24) {q : Nat} (w2 : q ≤ 3) (w3 : oi = 22 → ¬ q = 3) (na rg : Int32) (nm vl : Int64) (zl : Nat → Int64) (zpn : Int32) :
    (if oi = 22 then (e_cv v a n na q nm vl).toInt32 else (((g_num oi) <<< (24 &&& 31)) ||| rg) ||| ((e_cv v a n na q nm vl).toInt32 &&& 4095)) = e_rw v a n (if q = 0 ∨ q = 1 then 0 else if q = 3 then 2 else if oi = 22 then 32 else 1) (e_rm oi (e_bs oi) rg q vl) (e_rl zl zpn q nm zpn.toNatClampNeg) na := by
  have hb : oi < 22 → (g_num oi) <<< ((24 : Int32) &&& 31) = e_bs oi := fun h => by unfold e_bs; rw [if_pos h, e_num_op oi h]
  have hoi : oi = 22 ∨ oi < 22 := by omega
  have cv0 : e_cv v a n na 0 nm vl = 0 := rfl
  have cv1 : e_cv v a n na 1 nm vl = vl := rfl
  have cv2 : e_cv v a n na 2 nm vl = (m_Program_addressOf v a n nm - 0).toInt64 := rfl
  have cv3 : e_cv v a n na 3 nm vl = (m_Program_addressOf v a n nm - na).toInt64 := rfl
  have d1 : oi < 22 → ¬ oi = 22 := fun h => by omega
  have d2 : ¬ (oi = 23 ∨ oi = 24) := fun h => h.elim h23 h24
  have hq : q = 0 ∨ q = 1 ∨ q = 2 ∨ q = 3 := by omega
  rcases hq with rfl | rfl | rfl | rfl
  · have k0 : (if 0 = 0 ∨ 0 = 1 then (0 : Int32) else if 0 = 3 then 2 else if oi = 22 then 32 else 1) = 0 := if_pos (Or.inl rfl)
    rw [k0, e_rw0, cv0]
    rcases hoi with h | h
    · rw [if_pos h]
      subst h
      rfl
    · have z : ((0 : Int64).toInt32 &&& 4095) = 0 := by decide
      rw [if_neg (d1 h), hb h, e_rm2 (d1 h) d2 (show ¬ 0 = 1 by decide), z, Int32.or_zero]
  · have k1 : (if 1 = 0 ∨ 1 = 1 then (0 : Int32) else if 1 = 3 then 2 else if oi = 22 then 32 else 1) = 0 := if_pos (Or.inr rfl)
    rw [k1, e_rw0, cv1]
    rcases hoi with h | h
    · rw [if_pos h]
      subst h
      rfl
    · rw [if_neg (d1 h), hb h, e_rm1 (d1 h) d2]
  · have k2 : (if 2 = 0 ∨ 2 = 1 then (0 : Int32) else if 2 = 3 then 2 else if oi = 22 then 32 else 1) = if oi = 22 then 32 else 1 := by rw [if_neg (show ¬ (2 = 0 ∨ 2 = 1) by decide), if_neg (show ¬ 2 = 3 by decide)]
    have hl : e_rl zl zpn 2 nm zpn.toNatClampNeg = nm := by unfold e_rl; rw [if_pos (Or.inl rfl), e_updL_at]
    rw [k2, hl, cv2, e_aof n0 n1, e_b1]
    rcases hoi with h | h
    · rw [if_pos h, if_pos h, e_rw32]
    · rw [if_neg (d1 h), if_neg (d1 h), hb h, e_rw1, e_rm2 (d1 h) d2 (show ¬ 2 = 1 by decide)]
  · have h : oi < 22 := by
      rcases hoi with h | h
      · exact absurd rfl (w3 h)
      · exact h
    have k3 : (if 3 = 0 ∨ 3 = 1 then (0 : Int32) else if 3 = 3 then 2 else if oi = 22 then 32 else 1) = 2 := by rw [if_neg (show ¬ (3 = 0 ∨ 3 = 1) by decide), if_pos (rfl : 3 = 3)]
    have hl : e_rl zl zpn 3 nm zpn.toNatClampNeg = nm := by unfold e_rl; rw [if_pos (Or.inr rfl), e_updL_at]
    rw [k3, hl, cv3, e_aof n0 n1, e_b1, if_neg (d1 h), hb h, e_rw2, e_rm2 (d1 h) d2 (show ¬ 3 = 1 by decide)]
theorem e_term {v : Nat → Int64} {a : Nat → Int32} {n : Int32} {oi q : Nat} (w2 : q ≤ 3) {zpk : Nat → Int32} {zpl : Nat → Int64} {zpp : Nat → Int32} {zpn pN : Int32} {nm : Int64} : (if e_rk oi (upd zpk zpn.toNatClampNeg 0) zpn q zpn.toNatClampNeg = 0 then (1000000000000 : Int) else if e_look v a n (e_rl zpl zpn q nm zpn.toNatClampNeg) = -1 then 4 * (e_rp zpp zpn q pN zpn.toNatClampNeg).toInt + 2 else 1000000000000) = e_un v a n q nm pN := by
  rw [e_rk_at]
  unfold e_un
  by_cases c : q = 0 ∨ q = 1
  · rw [if_pos c, if_pos rfl, if_neg (fun h => by have h1 := h.1; omega)]
  · have c2 : q = 2 ∨ q = 3 := by omega
    have hl : e_rl zpl zpn q nm zpn.toNatClampNeg = nm := by unfold e_rl; rw [if_pos c2, e_updL_at]
    have hp : e_rp zpp zpn q pN zpn.toNatClampNeg = pN := by unfold e_rp; rw [if_pos c2, e_upd_at]
    have hk : ¬ (if q = 3 then (2 : Int32) else if oi = 22 then 32 else 1) = 0 := by
      split
      · decide
      · split <;> decide
    rw [if_neg c, if_neg hk, hl, hp]
    by_cases c3 : e_look v a n nm = -1
    · rw [if_pos c3, if_pos ⟨c2, c3⟩]
    · rw [if_neg c3, if_neg (fun h => c3 h.2)]
theorem e_s2 {v : Nat → Int64} {a : Nat → Int32} {n : Int32} (n0 : 0 ≤ n.toInt) (n1 : n.toInt ≤ 240) {K1 : Int} {f ds1 : Nat → Int32} {C : e_C} {R : e_R} {ev : e_Ev} (h : e_Q2 v a n K1 f ds1 C R) (hw : e_wf ev) (hr : R.2.2.2.2.2.1.toInt + e_wo ev ≤ 240) (hK : K1 ≤ e_key (e_rE R ev).1 (e_rE R ev).2.1) : e_Q2 v a n K1 f ds1 (e_cE 0 C ev) (e_rE R ev) := by
  obtain ⟨fk, fp, dw, ds, dn, da, dl, dc, na⟩ := C
  obtain ⟨zfk, zfp, zln, zlv, zla, zpn, zpa, zpw, zpk, zpl, zpp, zbg, znx⟩ := R
  have h : e_P2 v a n K1 f ds1 fk fp dw ds dc na zfk zfp zpn zpa zpw zpk zpl zpp zbg znx ∧ dn = v ∧ da = a ∧ dl = n := h
  obtain ⟨⟨⟨rfl, rfl⟩, hv, zv, ⟨p0, p1, p2⟩, hk, hdw, hds⟩, rfl, rfl, rfl⟩ := h
  have hR := e_rmono (R := (zfk, zfp, zln, zlv, zla, zpn, zpa, zpw, zpk, zpl, zpp, zbg, znx)) ev zv
  rcases ev with ⟨nm, pl⟩ | ⟨oi, pl, ⟨cu, rg, q, nm, pN, vl⟩⟩
  · have e0 : e_cE 0 (fk, fp, dw, ds, dn, da, dl, zpn, znx) (.inl (nm, pl)) = (fk, fp, dw, ds, dn, da, dl, zpn, znx) := by
      rw [e_cE_l, if_pos (rfl : (0 : Int32) = 0)]
    rw [e0]
    exact ⟨⟨⟨rfl, rfl⟩, hv, hR.1, ⟨p0, p1, p2⟩, hk, hdw, hds⟩, rfl, rfl, rfl⟩
  have hr : zpn.toInt + ((1 : Nat) : Int) ≤ 240 := hr
  obtain ⟨w1, w2, w3, w4⟩ := hw
  have hc1 := e_cf1 (dn := dn) (da := da) (dl := dl) (oi := oi) (q := q) (nm := nm) (pN := pN) (vl := vl) zv
  obtain ⟨-, fv, -, fkey, fm⟩ := hc1
  have hl := e_lf1 (znx := znx) (pl := pl) fv
  have kle : e_key fk fp ≤ K1 := by omega
  have hKF : K1 ≤ e_key (e_rf oi zfk zfp q pN vl).1 (e_rf oi zfk zfp q pN vl).2 := by
    rw [e_rE_o] at hK
    by_cases h23 : oi = 23
    · simp only [if_pos h23] at hK; exact hK
    · by_cases h24 : oi = 24
      · simp only [if_neg h23, if_pos h24] at hK; exact hK
      · simp only [if_neg h23, if_neg h24] at hK; exact Int.le_trans hK hl.2.2.1
  obtain ⟨cv, ck, cz⟩ := e_cf2 (v := dn) (a := da) (n := dl) n0 n1 (oi := oi) (q := q) (nm := nm) (pN := pN) (vl := vl) hv (fun h1 h2 => by have m := fm h1 h2; omega)
  have hUc : ∀ k, k ≤ zpn.toNatClampNeg → e_U dn da dl (e_rk oi (upd zpk zpn.toNatClampNeg 0) zpn q) (e_rl zpl zpn q nm) (e_rp zpp zpn q pN) k = e_U dn da dl zpk zpl zpp k := fun k hk => e_U_congr k (fun i hi => ⟨e_rk_lt (by omega), e_rl_lt (by omega), e_rp_lt (by omega)⟩)
  obtain ⟨j1, j2, j3⟩ := e_cl1 (x := zpn) p0 (by omega)
  obtain ⟨i1, i2, i3⟩ := e_cl1 (x := znx) p1 (by omega)
  have ub : ∀ k, e_U dn da dl zpk zpl zpp k ≤ 1000000000000 := by
    intro k
    induction k with
    | zero => exact Int.le_refl _
    | succ k ih => rw [e_U]; omega
  have z256 : (256 : Int32).toInt = 256 := rfl
  rw [e_cE_o]
  rw [e_rE_o] at hR hK ⊢
  by_cases h23 : oi = 23
  · subst h23
    obtain ⟨q1, v0⟩ := w4 (Or.inl rfl)
    subst q1
    have ev : e_cv dn da dl znx 1 nm vl = vl := rfl
    have un : e_un dn da dl 1 nm pN = 1000000000000 := by unfold e_un; rw [if_neg (fun h => by have h1 := h.1; omega)]
    rw [ev]
    simp only [if_pos] at hR hK ⊢
    unfold m_Asm_carryOut
    rw [if_pos rfl]
    have key : e_key (e_cf 0 dn da dl 23 fk fp 1 nm pN vl).1 (e_cf 0 dn da dl 23 fk fp 1 nm pN vl).2 = min K1 (e_U dn da dl (e_rk 23 (upd zpk zpn.toNatClampNeg 0) zpn 1) (e_rl zpl zpn 1 nm) (e_rp zpp zpn 1 pN) zpn.toNatClampNeg) := by
      rw [ck, hUc _ (Nat.le_refl _), hk, un]
      have u := ub zpn.toNatClampNeg
      omega
    have dwe : (e_cf 0 dn da dl 23 fk fp 1 nm pN vl).1 = 0 → dw = e_app f zpa (e_rws dn da dl zpa zpw (e_rk 23 (upd zpk zpn.toNatClampNeg 0) zpn 1) (e_rl zpl zpn 1 nm)) zpn.toNatClampNeg := fun h => by
      rw [hdw (cz h)]
      refine e_app_congr _ (fun i hi => ⟨rfl, ?_⟩)
      unfold e_rws
      rw [e_rk_lt hi, e_rl_lt hi]
    by_cases c : vl < 256
    · have q := Int64.lt_iff_toInt_lt.mp c
      have z : (256 : Int64).toInt = 256 := rfl
      have s := e_small v0 (by omega)
      rw [if_neg (fun h => (e_fits23 v0).mp h c), if_pos c]
      refine ⟨⟨⟨rfl, rfl⟩, cv, fv, ⟨p0, ?_, ?_⟩, key, dwe, hds⟩, rfl, rfl, rfl⟩
      · show 0 ≤ vl.toInt32.toInt; omega
      · show vl.toInt32.toInt ≤ 256 + zpn.toInt; omega
    · rw [if_pos ((e_fits23 v0).mpr c), if_neg c]
      refine ⟨⟨⟨rfl, rfl⟩, cv, fv, ⟨p0, (show 0 ≤ (256 : Int32).toInt by decide), ?_⟩, key, dwe, hds⟩, rfl, rfl, rfl⟩
      show (256 : Int32).toInt ≤ 256 + zpn.toInt; omega
  by_cases h24 : oi = 24
  · subst h24
    obtain ⟨q1, v0⟩ := w4 (Or.inr rfl)
    subst q1
    have ev : e_cv dn da dl znx 1 nm vl = vl := rfl
    have un : e_un dn da dl 1 nm pN = 1000000000000 := by unfold e_un; rw [if_neg (fun h => by have h1 := h.1; omega)]
    rw [ev]
    simp only [if_neg h23, if_pos] at hR hK ⊢
    unfold m_Asm_carryOut
    rw [if_neg h23, if_pos rfl]
    have key : e_key (e_cf 0 dn da dl 24 fk fp 1 nm pN vl).1 (e_cf 0 dn da dl 24 fk fp 1 nm pN vl).2 = min K1 (e_U dn da dl (e_rk 24 (upd zpk zpn.toNatClampNeg 0) zpn 1) (e_rl zpl zpn 1 nm) (e_rp zpp zpn 1 pN) zpn.toNatClampNeg) := by
      rw [ck, hUc _ (Nat.le_refl _), hk, un]
      have u := ub zpn.toNatClampNeg
      omega
    have dwe : (e_cf 0 dn da dl 24 fk fp 1 nm pN vl).1 = 0 → dw = e_app f zpa (e_rws dn da dl zpa zpw (e_rk 24 (upd zpk zpn.toNatClampNeg 0) zpn 1) (e_rl zpl zpn 1 nm)) zpn.toNatClampNeg := fun h => by
      rw [hdw (cz h)]
      refine e_app_congr _ (fun i hi => ⟨rfl, ?_⟩)
      unfold e_rws
      rw [e_rk_lt hi, e_rl_lt hi]
    by_cases c : vl < 4
    · have q := Int64.lt_iff_toInt_lt.mp c
      have z : (4 : Int64).toInt = 4 := rfl
      have s := e_small v0 (by omega)
      rw [if_neg (fun h => (e_fits24 v0).mp h c), if_pos c, e_begin (by omega) (by omega)]
      refine ⟨⟨⟨rfl, rfl⟩, cv, fv, ⟨p0, p1, p2⟩, key, dwe, fun c hc => ?_⟩, rfl, rfl, rfl⟩
      show upd ds vl.toInt32.toNatClampNeg (e_nm znx) c = e_nm (upd zbg vl.toInt32.toNatClampNeg znx c) ∨ upd ds vl.toInt32.toNatClampNeg (e_nm znx) c = ds1 c
      unfold upd
      by_cases e : c = vl.toInt32.toNatClampNeg
      · rw [if_pos e, if_pos e]; exact Or.inl rfl
      · rw [if_neg e, if_neg e]; exact hds c hc
    · rw [if_pos ((e_fits24 v0).mpr c), if_neg c, e_begin1]
      exact ⟨⟨⟨rfl, rfl⟩, cv, fv, ⟨p0, p1, p2⟩, key, dwe, hds⟩, rfl, rfl, rfl⟩
  simp only [if_neg h23, if_neg h24] at hR hK ⊢
  have W := e_word n0 n1 w1 h23 h24 w2 w3 znx rg nm vl zpl zpn (v := dn) (a := da)
  unfold m_Asm_carryOut
  rw [if_neg h23, if_neg h24]
  have hm : ∀ g h, e_key g h = e_key (e_cf 0 dn da dl oi fk fp q nm pN vl).1 (e_cf 0 dn da dl oi fk fp q nm pN vl).2 → 255 < znx.toInt → e_key g h ≤ 4 * pl.toInt + 3 := fun g h e x => by
    have m := hl.2.2.2 x
    omega
  have fin : ∀ g h w, e_vf g h → e_key g h = e_key (e_cf 0 dn da dl oi fk fp q nm pN vl).1 (e_cf 0 dn da dl oi fk fp q nm pN vl).2 → (g = 0 → (e_cf 0 dn da dl oi fk fp q nm pN vl).1 = 0 ∧ w = upd dw znx.toNatClampNeg (e_rw dn da dl (if q = 0 ∨ q = 1 then 0 else if q = 3 then 2 else if oi = 22 then 32 else 1) (e_rm oi (e_bs oi) rg q vl) (e_rl zpl zpn q nm zpn.toNatClampNeg) znx)) → e_Q2 dn da dl K1 f ds1 (g, h, w, ds, dn, da, dl, zpn + 1, znx + 1) ((e_lf (e_rf oi zfk zfp q pN vl) znx pl).1, (e_lf (e_rf oi zfk zfp q pN vl) znx pl).2, zln, zlv, zla, zpn + 1, upd zpa zpn.toNatClampNeg znx, upd zpw zpn.toNatClampNeg (e_rm oi (e_bs oi) rg q vl), e_rk oi (upd zpk zpn.toNatClampNeg 0) zpn q, e_rl zpl zpn q nm, e_rp zpp zpn q pN, zbg, znx + 1) := by
    intro g h w gv ge gw
    refine ⟨⟨⟨rfl, rfl⟩, gv, hl.1, ⟨?_, ?_, ?_⟩, ?_, fun h0 => ?_, hds⟩, rfl, rfl, rfl⟩
    · show 0 ≤ (zpn + 1).toInt; omega
    · show 0 ≤ (znx + 1).toInt; omega
    · show (znx + 1).toInt ≤ 256 + (zpn + 1).toInt; omega
    · show e_key g h = min K1 (e_U dn da dl (e_rk oi (upd zpk zpn.toNatClampNeg 0) zpn q) (e_rl zpl zpn q nm) (e_rp zpp zpn q pN) (zpn + 1).toNatClampNeg)
      rw [j1, e_U, e_term w2, hUc _ (Nat.le_refl _), ge, ck, hk]
      omega
    · obtain ⟨g1, g2⟩ := gw h0
      show w = e_app f (upd zpa zpn.toNatClampNeg znx) (e_rws dn da dl (upd zpa zpn.toNatClampNeg znx) (upd zpw zpn.toNatClampNeg (e_rm oi (e_bs oi) rg q vl)) (e_rk oi (upd zpk zpn.toNatClampNeg 0) zpn q) (e_rl zpl zpn q nm)) (zpn + 1).toNatClampNeg
      rw [j1, e_app, e_upd_at, g2, hdw (cz g1)]
      have e1 : e_rws dn da dl (upd zpa zpn.toNatClampNeg znx) (upd zpw zpn.toNatClampNeg (e_rm oi (e_bs oi) rg q vl)) (e_rk oi (upd zpk zpn.toNatClampNeg 0) zpn q) (e_rl zpl zpn q nm) zpn.toNatClampNeg = e_rw dn da dl (if q = 0 ∨ q = 1 then 0 else if q = 3 then 2 else if oi = 22 then 32 else 1) (e_rm oi (e_bs oi) rg q vl) (e_rl zpl zpn q nm zpn.toNatClampNeg) znx := by
        unfold e_rws
        rw [e_rk_at, e_upd_at, e_upd_at]
      rw [e1]
      congr 1
      refine e_app_congr _ (fun i hi => ⟨(e_upd_lt hi).symm, ?_⟩)
      unfold e_rws
      rw [e_rk_lt hi, e_rl_lt hi, e_upd_lt hi, e_upd_lt hi]
  by_cases h22 : oi = 22
  · rw [if_pos h22]
    rw [if_pos h22] at W
    obtain ⟨g, h, w, l1, l2, l3, l4⟩ := e_lay2 cv dw zpn znx (e_cv dn da dl znx q nm vl).toInt32 pl p1 (hm _ _ rfl)
    rw [l1]
    exact fin g h w l2 l3 (fun h0 => ⟨(l4 h0).1, by rw [(l4 h0).2, W]⟩)
  · rw [if_neg h22]
    rw [if_neg h22] at W
    obtain ⟨g, h, w, l1, l2, l3, l4⟩ := e_lay2 cv dw zpn znx (((g_num oi) <<< (24 &&& 31)) ||| rg ||| ((e_cv dn da dl znx q nm vl).toInt32 &&& 4095)) pl p1 (hm _ _ rfl)
    rw [l1]
    exact fin g h w l2 l3 (fun h0 => ⟨(l4 h0).1, by rw [(l4 h0).2, W]⟩)
theorem e_F2 {v : Nat → Int64} {a : Nat → Int32} {n : Int32} (n0 : 0 ≤ n.toInt) (n1 : n.toInt ≤ 240) {K1 : Int} {f ds1 : Nat → Int32} : ∀ (es : List e_Ev) (C : e_C) (R : e_R), e_Q2 v a n K1 f ds1 C R → (∀ ev, ev ∈ es → e_wf ev) → 0 ≤ R.2.2.1.toInt → R.2.2.1.toInt + e_nl es ≤ 1000 → R.2.2.2.2.2.1.toInt + e_no es ≤ 240 → K1 ≤ e_key (es.foldl e_rE R).1 (es.foldl e_rE R).2.1 → e_Q2 v a n K1 f ds1 (es.foldl (e_cE 0) C) (es.foldl e_rE R) := by
  intro es
  induction es with
  | nil => intro C R h _ _ _ _ _; exact h
  | cons ev es ih =>
    intro C R h hw a0 hl ho hK
    have hl : R.2.2.1.toInt + ((e_wl ev + e_nl es : Nat) : Int) ≤ 1000 := hl
    have ho : R.2.2.2.2.2.1.toInt + ((e_wo ev + e_no es : Nat) : Int) ≤ 240 := ho
    have b2 : 0 ≤ R.2.2.2.2.2.1.toInt := by rw [h.1.1.1]; exact h.1.2.2.2.1.1
    have st := e_rstep R ev a0 b2 (by omega) (by omega)
    have m := e_rmono (R := R) ev h.1.2.2.1
    have mL := e_rmonoL es (e_rE R ev) m.1
    have s := e_s2 n0 n1 h (hw _ (List.mem_cons_self)) (by omega) (Int.le_trans hK mL.2)
    exact ih _ _ s (fun e he => hw e (List.mem_cons_of_mem _ he)) (by omega) (by omega) (by omega) hK
