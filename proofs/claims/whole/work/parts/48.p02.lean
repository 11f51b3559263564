theorem e_oA1 (a x n : Int32) : (a ||| x) ||| n = (a ||| (0 ||| x)) ||| n := by rw [Int32.zero_or]
theorem e_oA2 (a x y n : Int32) : ((a ||| x) ||| y) ||| n = (a ||| ((0 ||| x) ||| y)) ||| n := by rw [Int32.zero_or, Int32.or_assoc a x y]
theorem e_oB (a x n y : Int32) : ((a ||| x) ||| n) ||| y = (a ||| ((0 ||| x) ||| y)) ||| n := by rw [Int32.zero_or, Int32.or_assoc (a ||| x) n y, Int32.or_comm n y, ← Int32.or_assoc (a ||| x) y n, Int32.or_assoc a x y]
theorem e_oL1 (a x : Int32) : a ||| x = a ||| (0 ||| x) := by rw [Int32.zero_or]
theorem e_oL2 (a x y : Int32) : (a ||| x) ||| y = a ||| ((0 ||| x) ||| y) := by rw [Int32.zero_or, Int32.or_assoc a x y]
theorem e_oL3 (a x y z : Int32) : ((a ||| x) ||| y) ||| z = a ||| (((0 ||| x) ||| y) ||| z) := by rw [Int32.zero_or, Int32.or_assoc a x y, Int32.or_assoc a (x ||| y) z]
theorem e_tup {r a b c m m2 : Int32} {k k2 : Nat → Int32} {l : Nat → Int64} {p : Nat → Int32} {g : Int64} (h1 : k = k2) (h2 : m = m2) : (r, a, b, c, k, l, p, m, g) = (r, a, b, c, k2, l, p, m2, g) := by rw [h1, h2]
theorem e_form_nil (zkk zkp : Nat → Int32) (zkv : Nat → Int64) (S : e_S) : e_form zkk zkp zkv [] S = .ok S := rfl
theorem e_RBok {oi : Nat} {zfk zfp zpn : Int32} {zpk : Nat → Int32} {zpl : Nat → Int64} {zpp : Nat → Int32} {zmd : Int32} {zgv : Int64} {r : Int32 × Int32 × Int32 × Int32 × (Nat → Int32) × (Nat → Int64) × (Nat → Int32) × Int32 × Int64} {cu rg : Int32} {q : Nat} {nm : Int64} {pN : Int32} {vl : Int64} (h : r = (1, (e_rf oi zfk zfp q pN vl).1, (e_rf oi zfk zfp q pN vl).2, cu, e_rk oi zpk zpn q, e_rl zpl zpn q nm, e_rp zpp zpn q pN, e_rm oi zmd rg q vl, e_rg zgv q vl)) : e_RB oi zfk zfp zpn zpk zpl zpp zmd zgv r (.ok (cu, rg, q, nm, pN, vl)) := h
theorem e_rf0 (oi : Nat) (zfk zfp pN : Int32) (vl : Int64) : e_rf oi zfk zfp 0 pN vl = (zfk, zfp) := if_neg (fun h => absurd h.1 (by decide))
theorem e_rk0 (oi : Nat) (zpk : Nat → Int32) (zpn : Int32) : e_rk oi zpk zpn 0 = zpk := if_pos rfl
theorem e_rk1 (oi : Nat) (zpk : Nat → Int32) (zpn : Int32) : e_rk oi zpk zpn 1 = upd zpk zpn.toNatClampNeg 0 := rfl
theorem e_rk2 {oi : Nat} (h : ¬ oi = 22) (zpk : Nat → Int32) (zpn : Int32) : e_rk oi zpk zpn 2 = upd zpk zpn.toNatClampNeg 1 := by
  unfold e_rk
  rw [if_neg (show ¬ 2 = 0 by decide), if_neg (show ¬ 2 = 1 by decide), if_neg (show ¬ 2 = 3 by decide), if_neg h]
theorem e_rk3 (oi : Nat) (zpk : Nat → Int32) (zpn : Int32) : e_rk oi zpk zpn 3 = upd zpk zpn.toNatClampNeg 2 := rfl
theorem e_rl0 (zpl : Nat → Int64) (zpn : Int32) (nm : Int64) : e_rl zpl zpn 0 nm = zpl := if_neg (by decide)
theorem e_rp0 (zpp : Nat → Int32) (zpn pN : Int32) : e_rp zpp zpn 0 pN = zpp := if_neg (by decide)
theorem e_rg0 (zgv vl : Int64) : e_rg zgv 0 vl = zgv := if_neg (by decide)
theorem e_rm1 {oi : Nat} (d1 : ¬ oi = 22) (d2 : ¬ (oi = 23 ∨ oi = 24)) (zmd rg : Int32) (vl : Int64) : e_rm oi zmd rg 1 vl = (zmd ||| rg) ||| (vl.toInt32 &&& 4095) := by
  unfold e_rm
  rw [if_neg d1, if_neg d2, if_pos rfl]
theorem e_rm2 {oi : Nat} (d1 : ¬ oi = 22) (d2 : ¬ (oi = 23 ∨ oi = 24)) {q : Nat} (hq : ¬ q = 1) (zmd rg : Int32) (vl : Int64) : e_rm oi zmd rg q vl = zmd ||| rg := by
  unfold e_rm
  rw [if_neg d1, if_neg d2, if_neg hq, Int32.or_zero]
set_option maxRecDepth 100000 in
theorem e_b158 {zkk zkp : Nat → Int32} {zkv : Nat → Int64} {oi : Nat} (h0 : oi < 22) (hl : (g_lst oi).toInt64 = -2048) (hh : (g_mst oi).toInt64 = 2047) {zfk zfp zat zpn op : Int32} {zpk : Nat → Int32} {zpl : Nat → Int64} {zpp : Nat → Int32} {zmd : Int32} {zgv : Int64} : e_RB oi zfk zfp zpn zpk zpl zpp zmd zgv (m_Mod_wantParts_L158 zkk zkp zkv zpn op zfk zfp zat zpk zpl zpp zmd zgv) (e_form zkk zkp zkv [100, 44, 97, 44, 110] (zat, 0, 0, 0, 0, 0)) := by
  unfold m_Mod_wantParts_L158
  rcases h1 : e_reg zkk zkp zkv 20 (zat, 0, 0, 0, 0, 0) with p | T
  · rw [e_fe ((e_p100 _ _ _ _).trans h1), e_wR_e h1, g_m2_mk, g_m2_mk, g_m2_mk, g_m2_mk, e_if0]; exact ⟨_, rfl⟩
  rw [e_fo ((e_p100 _ _ _ _).trans h1), (e_wR_o h1).1, (e_wR_o (zfk := 0) (zfp := 0) (zmd := 0) h1).2, g_m2_mk, g_m2_mk, g_m2_mk, g_m2_mk, e_if1]
  rcases h2 : e_sgn zkk zkp zkv 44 (zat + 1, 0 ||| ((zkv (zat).toNatClampNeg - 29232).toInt32 <<< ((20 : Int32) &&& 31)), 0, 0, 0, 0) with p | T
  · rw [e_fe ((e_p44 _ _ _ _).trans h2), e_wC_e h2, g_m2_mk, g_m2_mk, g_m2_mk, e_if0]; exact ⟨_, rfl⟩
  rw [e_fo ((e_p44 _ _ _ _).trans h2), (e_wC_o h2).1, (e_wC_o (zfk := 0) (zfp := 0) h2).2, g_m2_mk, g_m2_mk, g_m2_mk, e_if1]
  rcases h3 : e_reg zkk zkp zkv 16 (zat + 1 + 1, 0 ||| ((zkv (zat).toNatClampNeg - 29232).toInt32 <<< ((20 : Int32) &&& 31)), 0, 0, 0, 0) with p | T
  · rw [e_fe ((e_p97 _ _ _ _).trans h3), e_wR_e h3, g_m2_mk, g_m2_mk, g_m2_mk, g_m2_mk, e_if0]; exact ⟨_, rfl⟩
  rw [e_fo ((e_p97 _ _ _ _).trans h3), (e_wR_o h3).1, (e_wR_o (zfk := 0) (zfp := 0) (zmd := 0) h3).2, g_m2_mk, g_m2_mk, g_m2_mk, g_m2_mk, e_if1]
  rcases h4 : e_sgn zkk zkp zkv 44 (zat + 1 + 1 + 1, 0 ||| ((zkv (zat).toNatClampNeg - 29232).toInt32 <<< ((20 : Int32) &&& 31)) ||| ((zkv (zat + 1 + 1).toNatClampNeg - 29232).toInt32 <<< ((16 : Int32) &&& 31)), 0, 0, 0, 0) with p | T
  · rw [e_fe ((e_p44 _ _ _ _).trans h4), e_wC_e h4, g_m2_mk, g_m2_mk, g_m2_mk, e_if0]; exact ⟨_, rfl⟩
  rw [e_fo ((e_p44 _ _ _ _).trans h4), (e_wC_o h4).1, (e_wC_o (zfk := 0) (zfp := 0) h4).2, g_m2_mk, g_m2_mk, g_m2_mk, e_if1]
  rcases h5 : e_N zkk zkp zkv 2 (zat + 1 + 1 + 1 + 1, 0 ||| ((zkv (zat).toNatClampNeg - 29232).toInt32 <<< ((20 : Int32) &&& 31)) ||| ((zkv (zat + 1 + 1).toNatClampNeg - 29232).toInt32 <<< ((16 : Int32) &&& 31)), 0, 0, 0, 0) with p | ⟨cu', rg', q', nm', pN', vl'⟩
  · obtain ⟨x, hx⟩ := (e_wn1 (zkk := zkk) (zkp := zkp) (zkv := zkv) hl hh (zfk := zfk) (zfp := zfp) (zpn := zpn) (zmd := ((zmd ||| ((zkv (zat).toNatClampNeg - 29232).toInt32 <<< ((20 : Int32) &&& 31))) ||| ((zkv (zat + 1 + 1).toNatClampNeg - 29232).toInt32 <<< ((16 : Int32) &&& 31)))) (zpk := zpk) (zpl := zpl) (zpp := zpp) (zgv := zgv)).1 p h5; obtain ⟨x1, x2, x3, x4, x5, x6⟩ := x
    rw [e_fe ((e_p110 _ _ _ _).trans h5), hx, g_m2_mk, g_m2_mk, g_m2_mk, g_m2_mk, g_m2_mk, g_m2_mk, g_m2_mk, g_m2_mk, e_if0]; exact ⟨_, rfl⟩
  obtain ⟨hr, hq, hx⟩ := (e_wn1 (zkk := zkk) (zkp := zkp) (zkv := zkv) hl hh (zfk := zfk) (zfp := zfp) (zpn := zpn) (zmd := ((zmd ||| ((zkv (zat).toNatClampNeg - 29232).toInt32 <<< ((20 : Int32) &&& 31))) ||| ((zkv (zat + 1 + 1).toNatClampNeg - 29232).toInt32 <<< ((16 : Int32) &&& 31)))) (zpk := zpk) (zpl := zpl) (zpp := zpp) (zgv := zgv)).2 _ _ _ _ _ _ h5; subst hr
  rw [e_fo ((e_p110 _ _ _ _).trans h5), hx, g_m2_mk, g_m2_mk, g_m2_mk, g_m2_mk, g_m2_mk, g_m2_mk, g_m2_mk, g_m2_mk, e_if1]
  rw [e_form_nil]
  refine e_RBok ?_
  have d1 : ¬ oi = 22 := by omega
  have d2 : ¬ (oi = 23 ∨ oi = 24) := by omega
  rcases hq with hq | hq
  · subst hq
    rw [if_pos (rfl : 1 = 1), if_pos (rfl : 1 = 1), e_rk1, e_rm1 d1 d2]
    exact e_tup rfl (e_oA2 _ _ _ _)
  · subst hq
    rw [if_neg (show ¬ 2 = 1 by decide), if_neg (show ¬ 2 = 1 by decide), e_rk2 d1, e_rm2 d1 d2 (show ¬ 2 = 1 by decide)]
    exact e_tup rfl (e_oL2 _ _ _)
set_option maxRecDepth 100000 in
theorem e_b205 {zkk zkp : Nat → Int32} {zkv : Nat → Int64} {oi : Nat} (h0 : oi < 22) (hl : (g_lst oi).toInt64 = -2048) (hh : (g_mst oi).toInt64 = 2047) {zfk zfp zat zpn op : Int32} {zpk : Nat → Int32} {zpl : Nat → Int64} {zpp : Nat → Int32} {zmd : Int32} {zgv : Int64} : e_RB oi zfk zfp zpn zpk zpl zpp zmd zgv (m_Mod_wantParts_L205 zkk zkp zkv zpn op zfk zfp zat zpk zpl zpp zmd zgv) (e_form zkk zkp zkv [100, 44, 110] (zat, 0, 0, 0, 0, 0)) := by
  unfold m_Mod_wantParts_L205
  rcases h1 : e_reg zkk zkp zkv 20 (zat, 0, 0, 0, 0, 0) with p | T
  · rw [e_fe ((e_p100 _ _ _ _).trans h1), e_wR_e h1, g_m2_mk, g_m2_mk, g_m2_mk, g_m2_mk, e_if0]; exact ⟨_, rfl⟩
  rw [e_fo ((e_p100 _ _ _ _).trans h1), (e_wR_o h1).1, (e_wR_o (zfk := 0) (zfp := 0) (zmd := 0) h1).2, g_m2_mk, g_m2_mk, g_m2_mk, g_m2_mk, e_if1]
  rcases h2 : e_sgn zkk zkp zkv 44 (zat + 1, 0 ||| ((zkv (zat).toNatClampNeg - 29232).toInt32 <<< ((20 : Int32) &&& 31)), 0, 0, 0, 0) with p | T
  · rw [e_fe ((e_p44 _ _ _ _).trans h2), e_wC_e h2, g_m2_mk, g_m2_mk, g_m2_mk, e_if0]; exact ⟨_, rfl⟩
  rw [e_fo ((e_p44 _ _ _ _).trans h2), (e_wC_o h2).1, (e_wC_o (zfk := 0) (zfp := 0) h2).2, g_m2_mk, g_m2_mk, g_m2_mk, e_if1]
  rcases h3 : e_N zkk zkp zkv 2 (zat + 1 + 1, 0 ||| ((zkv (zat).toNatClampNeg - 29232).toInt32 <<< ((20 : Int32) &&& 31)), 0, 0, 0, 0) with p | ⟨cu', rg', q', nm', pN', vl'⟩
  · obtain ⟨x, hx⟩ := (e_wn1 (zkk := zkk) (zkp := zkp) (zkv := zkv) hl hh (zfk := zfk) (zfp := zfp) (zpn := zpn) (zmd := (zmd ||| ((zkv (zat).toNatClampNeg - 29232).toInt32 <<< ((20 : Int32) &&& 31)))) (zpk := zpk) (zpl := zpl) (zpp := zpp) (zgv := zgv)).1 p h3; obtain ⟨x1, x2, x3, x4, x5, x6⟩ := x
    rw [e_fe ((e_p110 _ _ _ _).trans h3), hx, g_m2_mk, g_m2_mk, g_m2_mk, g_m2_mk, g_m2_mk, g_m2_mk, g_m2_mk, g_m2_mk, e_if0]; exact ⟨_, rfl⟩
  obtain ⟨hr, hq, hx⟩ := (e_wn1 (zkk := zkk) (zkp := zkp) (zkv := zkv) hl hh (zfk := zfk) (zfp := zfp) (zpn := zpn) (zmd := (zmd ||| ((zkv (zat).toNatClampNeg - 29232).toInt32 <<< ((20 : Int32) &&& 31)))) (zpk := zpk) (zpl := zpl) (zpp := zpp) (zgv := zgv)).2 _ _ _ _ _ _ h3; subst hr
  rw [e_fo ((e_p110 _ _ _ _).trans h3), hx, g_m2_mk, g_m2_mk, g_m2_mk, g_m2_mk, g_m2_mk, g_m2_mk, g_m2_mk, g_m2_mk, e_if1]
  rw [e_form_nil]
  refine e_RBok ?_
  have d1 : ¬ oi = 22 := by omega
  have d2 : ¬ (oi = 23 ∨ oi = 24) := by omega
  rcases hq with hq | hq
  · subst hq
    rw [if_pos (rfl : 1 = 1), if_pos (rfl : 1 = 1), e_rk1, e_rm1 d1 d2]
    exact e_tup rfl (e_oA1 _ _ _)
  · subst hq
    rw [if_neg (show ¬ 2 = 1 by decide), if_neg (show ¬ 2 = 1 by decide), e_rk2 d1, e_rm2 d1 d2 (show ¬ 2 = 1 by decide)]
    exact e_tup rfl (e_oL1 _ _)
set_option maxRecDepth 100000 in
theorem e_b236 {zkk zkp : Nat → Int32} {zkv : Nat → Int64} {oi : Nat} (h0 : oi < 22) (hl : (g_lst oi).toInt64 = -2048) (hh : (g_mst oi).toInt64 = 2047) {zfk zfp zat zpn op : Int32} {zpk : Nat → Int32} {zpl : Nat → Int64} {zpp : Nat → Int32} {zmd : Int32} {zgv : Int64} : e_RB oi zfk zfp zpn zpk zpl zpp zmd zgv (m_Mod_wantParts_L236 zkk zkp zkv zpn op zfk zfp zat zpk zpl zpp zmd zgv) (e_form zkk zkp zkv [100, 44, 110, 40, 97, 41] (zat, 0, 0, 0, 0, 0)) := by
  unfold m_Mod_wantParts_L236
  rcases h1 : e_reg zkk zkp zkv 20 (zat, 0, 0, 0, 0, 0) with p | T
  · rw [e_fe ((e_p100 _ _ _ _).trans h1), e_wR_e h1, g_m2_mk, g_m2_mk, g_m2_mk, g_m2_mk, e_if0]; exact ⟨_, rfl⟩
  rw [e_fo ((e_p100 _ _ _ _).trans h1), (e_wR_o h1).1, (e_wR_o (zfk := 0) (zfp := 0) (zmd := 0) h1).2, g_m2_mk, g_m2_mk, g_m2_mk, g_m2_mk, e_if1]
  rcases h2 : e_sgn zkk zkp zkv 44 (zat + 1, 0 ||| ((zkv (zat).toNatClampNeg - 29232).toInt32 <<< ((20 : Int32) &&& 31)), 0, 0, 0, 0) with p | T
  · rw [e_fe ((e_p44 _ _ _ _).trans h2), e_wC_e h2, g_m2_mk, g_m2_mk, g_m2_mk, e_if0]; exact ⟨_, rfl⟩
  rw [e_fo ((e_p44 _ _ _ _).trans h2), (e_wC_o h2).1, (e_wC_o (zfk := 0) (zfp := 0) h2).2, g_m2_mk, g_m2_mk, g_m2_mk, e_if1]
  rcases h3 : e_N zkk zkp zkv 2 (zat + 1 + 1, 0 ||| ((zkv (zat).toNatClampNeg - 29232).toInt32 <<< ((20 : Int32) &&& 31)), 0, 0, 0, 0) with p | ⟨cu', rg', q', nm', pN', vl'⟩
  · obtain ⟨x, hx⟩ := (e_wn1 (zkk := zkk) (zkp := zkp) (zkv := zkv) hl hh (zfk := zfk) (zfp := zfp) (zpn := zpn) (zmd := (zmd ||| ((zkv (zat).toNatClampNeg - 29232).toInt32 <<< ((20 : Int32) &&& 31)))) (zpk := zpk) (zpl := zpl) (zpp := zpp) (zgv := zgv)).1 p h3; obtain ⟨x1, x2, x3, x4, x5, x6⟩ := x
    rw [e_fe ((e_p110 _ _ _ _).trans h3), hx, g_m2_mk, g_m2_mk, g_m2_mk, g_m2_mk, g_m2_mk, g_m2_mk, g_m2_mk, g_m2_mk, e_if0]; exact ⟨_, rfl⟩
  obtain ⟨hr, hq, hx⟩ := (e_wn1 (zkk := zkk) (zkp := zkp) (zkv := zkv) hl hh (zfk := zfk) (zfp := zfp) (zpn := zpn) (zmd := (zmd ||| ((zkv (zat).toNatClampNeg - 29232).toInt32 <<< ((20 : Int32) &&& 31)))) (zpk := zpk) (zpl := zpl) (zpp := zpp) (zgv := zgv)).2 _ _ _ _ _ _ h3; subst hr
  rw [e_fo ((e_p110 _ _ _ _).trans h3), hx, g_m2_mk, g_m2_mk, g_m2_mk, g_m2_mk, g_m2_mk, g_m2_mk, g_m2_mk, g_m2_mk, e_if1]
  rcases h4 : e_sgn zkk zkp zkv 40 (cu', 0 ||| ((zkv (zat).toNatClampNeg - 29232).toInt32 <<< ((20 : Int32) &&& 31)), q', nm', pN', vl') with p | T
  · rw [e_fe ((e_p40 _ _ _ _).trans h4), e_wS_e h4, g_m2_mk, g_m2_mk, g_m2_mk, e_if0]; exact ⟨_, rfl⟩
  rw [e_fo ((e_p40 _ _ _ _).trans h4), (e_wS_o h4).1, (e_wS_o (zfk := 0) (zfp := 0) h4).2, g_m2_mk, g_m2_mk, g_m2_mk, e_if1]
  rcases h5 : e_reg zkk zkp zkv 16 (cu' + 1, 0 ||| ((zkv (zat).toNatClampNeg - 29232).toInt32 <<< ((20 : Int32) &&& 31)), q', nm', pN', vl') with p | T
  · rw [e_fe ((e_p97 _ _ _ _).trans h5), e_wR_e h5, g_m2_mk, g_m2_mk, g_m2_mk, g_m2_mk, e_if0]; exact ⟨_, rfl⟩
  rw [e_fo ((e_p97 _ _ _ _).trans h5), (e_wR_o h5).1, (e_wR_o (zfk := 0) (zfp := 0) (zmd := 0) h5).2, g_m2_mk, g_m2_mk, g_m2_mk, g_m2_mk, e_if1]
  rcases h6 : e_sgn zkk zkp zkv 41 (cu' + 1 + 1, 0 ||| ((zkv (zat).toNatClampNeg - 29232).toInt32 <<< ((20 : Int32) &&& 31)) ||| ((zkv (cu' + 1).toNatClampNeg - 29232).toInt32 <<< ((16 : Int32) &&& 31)), q', nm', pN', vl') with p | T
  · rw [e_fe ((e_p41 _ _ _ _).trans h6), e_wS_e h6, g_m2_mk, g_m2_mk, g_m2_mk, e_if0]; exact ⟨_, rfl⟩
  rw [e_fo ((e_p41 _ _ _ _).trans h6), (e_wS_o h6).1, (e_wS_o (zfk := 0) (zfp := 0) h6).2, g_m2_mk, g_m2_mk, g_m2_mk, e_if1]
  rw [e_form_nil]
  refine e_RBok ?_
  have d1 : ¬ oi = 22 := by omega
  have d2 : ¬ (oi = 23 ∨ oi = 24) := by omega
  rcases hq with hq | hq
  · subst hq
    rw [if_pos (rfl : 1 = 1), if_pos (rfl : 1 = 1), e_rk1, e_rm1 d1 d2]
    exact e_tup rfl (e_oB _ _ _ _)
  · subst hq
    rw [if_neg (show ¬ 2 = 1 by decide), if_neg (show ¬ 2 = 1 by decide), e_rk2 d1, e_rm2 d1 d2 (show ¬ 2 = 1 by decide)]
    exact e_tup rfl (e_oL2 _ _ _)
set_option maxRecDepth 100000 in
theorem e_b294 {zkk zkp : Nat → Int32} {zkv : Nat → Int64} {oi : Nat} (h0 : oi < 22) (hl : (g_lst oi).toInt64 = -2048) (hh : (g_mst oi).toInt64 = 2047) {zfk zfp zat zpn op : Int32} {zpk : Nat → Int32} {zpl : Nat → Int64} {zpp : Nat → Int32} {zmd : Int32} {zgv : Int64} : e_RB oi zfk zfp zpn zpk zpl zpp zmd zgv (m_Mod_wantParts_L294 zkk zkp zkv zpn op zfk zfp zat zpk zpl zpp zmd zgv) (e_form zkk zkp zkv [98, 44, 110, 40, 97, 41] (zat, 0, 0, 0, 0, 0)) := by
  unfold m_Mod_wantParts_L294
  rcases h1 : e_reg zkk zkp zkv 12 (zat, 0, 0, 0, 0, 0) with p | T
  · rw [e_fe ((e_p98 _ _ _ _).trans h1), e_wR_e h1, g_m2_mk, g_m2_mk, g_m2_mk, g_m2_mk, e_if0]; exact ⟨_, rfl⟩
  rw [e_fo ((e_p98 _ _ _ _).trans h1), (e_wR_o h1).1, (e_wR_o (zfk := 0) (zfp := 0) (zmd := 0) h1).2, g_m2_mk, g_m2_mk, g_m2_mk, g_m2_mk, e_if1]
  rcases h2 : e_sgn zkk zkp zkv 44 (zat + 1, 0 ||| ((zkv (zat).toNatClampNeg - 29232).toInt32 <<< ((12 : Int32) &&& 31)), 0, 0, 0, 0) with p | T
  · rw [e_fe ((e_p44 _ _ _ _).trans h2), e_wC_e h2, g_m2_mk, g_m2_mk, g_m2_mk, e_if0]; exact ⟨_, rfl⟩
  rw [e_fo ((e_p44 _ _ _ _).trans h2), (e_wC_o h2).1, (e_wC_o (zfk := 0) (zfp := 0) h2).2, g_m2_mk, g_m2_mk, g_m2_mk, e_if1]
  rcases h3 : e_N zkk zkp zkv 2 (zat + 1 + 1, 0 ||| ((zkv (zat).toNatClampNeg - 29232).toInt32 <<< ((12 : Int32) &&& 31)), 0, 0, 0, 0) with p | ⟨cu', rg', q', nm', pN', vl'⟩
  · obtain ⟨x, hx⟩ := (e_wn1 (zkk := zkk) (zkp := zkp) (zkv := zkv) hl hh (zfk := zfk) (zfp := zfp) (zpn := zpn) (zmd := (zmd ||| ((zkv (zat).toNatClampNeg - 29232).toInt32 <<< ((12 : Int32) &&& 31)))) (zpk := zpk) (zpl := zpl) (zpp := zpp) (zgv := zgv)).1 p h3; obtain ⟨x1, x2, x3, x4, x5, x6⟩ := x
    rw [e_fe ((e_p110 _ _ _ _).trans h3), hx, g_m2_mk, g_m2_mk, g_m2_mk, g_m2_mk, g_m2_mk, g_m2_mk, g_m2_mk, g_m2_mk, e_if0]; exact ⟨_, rfl⟩
  obtain ⟨hr, hq, hx⟩ := (e_wn1 (zkk := zkk) (zkp := zkp) (zkv := zkv) hl hh (zfk := zfk) (zfp := zfp) (zpn := zpn) (zmd := (zmd ||| ((zkv (zat).toNatClampNeg - 29232).toInt32 <<< ((12 : Int32) &&& 31)))) (zpk := zpk) (zpl := zpl) (zpp := zpp) (zgv := zgv)).2 _ _ _ _ _ _ h3; subst hr
  rw [e_fo ((e_p110 _ _ _ _).trans h3), hx, g_m2_mk, g_m2_mk, g_m2_mk, g_m2_mk, g_m2_mk, g_m2_mk, g_m2_mk, g_m2_mk, e_if1]
  rcases h4 : e_sgn zkk zkp zkv 40 (cu', 0 ||| ((zkv (zat).toNatClampNeg - 29232).toInt32 <<< ((12 : Int32) &&& 31)), q', nm', pN', vl') with p | T
  · rw [e_fe ((e_p40 _ _ _ _).trans h4), e_wS_e h4, g_m2_mk, g_m2_mk, g_m2_mk, e_if0]; exact ⟨_, rfl⟩
  rw [e_fo ((e_p40 _ _ _ _).trans h4), (e_wS_o h4).1, (e_wS_o (zfk := 0) (zfp := 0) h4).2, g_m2_mk, g_m2_mk, g_m2_mk, e_if1]
  rcases h5 : e_reg zkk zkp zkv 16 (cu' + 1, 0 ||| ((zkv (zat).toNatClampNeg - 29232).toInt32 <<< ((12 : Int32) &&& 31)), q', nm', pN', vl') with p | T
  · rw [e_fe ((e_p97 _ _ _ _).trans h5), e_wR_e h5, g_m2_mk, g_m2_mk, g_m2_mk, g_m2_mk, e_if0]; exact ⟨_, rfl⟩
  rw [e_fo ((e_p97 _ _ _ _).trans h5), (e_wR_o h5).1, (e_wR_o (zfk := 0) (zfp := 0) (zmd := 0) h5).2, g_m2_mk, g_m2_mk, g_m2_mk, g_m2_mk, e_if1]
  rcases h6 : e_sgn zkk zkp zkv 41 (cu' + 1 + 1, 0 ||| ((zkv (zat).toNatClampNeg - 29232).toInt32 <<< ((12 : Int32) &&& 31)) ||| ((zkv (cu' + 1).toNatClampNeg - 29232).toInt32 <<< ((16 : Int32) &&& 31)), q', nm', pN', vl') with p | T
  · rw [e_fe ((e_p41 _ _ _ _).trans h6), e_wS_e h6, g_m2_mk, g_m2_mk, g_m2_mk, e_if0]; exact ⟨_, rfl⟩
  rw [e_fo ((e_p41 _ _ _ _).trans h6), (e_wS_o h6).1, (e_wS_o (zfk := 0) (zfp := 0) h6).2, g_m2_mk, g_m2_mk, g_m2_mk, e_if1]
  rw [e_form_nil]
  refine e_RBok ?_
  have d1 : ¬ oi = 22 := by omega
  have d2 : ¬ (oi = 23 ∨ oi = 24) := by omega
  rcases hq with hq | hq
  · subst hq
    rw [if_pos (rfl : 1 = 1), if_pos (rfl : 1 = 1), e_rk1, e_rm1 d1 d2]
    exact e_tup rfl (e_oB _ _ _ _)
  · subst hq
    rw [if_neg (show ¬ 2 = 1 by decide), if_neg (show ¬ 2 = 1 by decide), e_rk2 d1, e_rm2 d1 d2 (show ¬ 2 = 1 by decide)]
    exact e_tup rfl (e_oL2 _ _ _)
set_option maxRecDepth 100000 in
theorem e_b352 {zkk zkp : Nat → Int32} {zkv : Nat → Int64} {oi : Nat} (h0 : oi < 22) (hl : (g_lst oi).toInt64 = -2048) (hh : (g_mst oi).toInt64 = 2047) {zfk zfp zat zpn op : Int32} {zpk : Nat → Int32} {zpl : Nat → Int64} {zpp : Nat → Int32} {zmd : Int32} {zgv : Int64} : e_RB oi zfk zfp zpn zpk zpl zpp zmd zgv (m_Mod_wantParts_L352 zkk zkp zkv zpn op zfk zfp zat zpk zpl zpp zmd zgv) (e_form zkk zkp zkv [97, 44, 98, 44, 111] (zat, 0, 0, 0, 0, 0)) := by
  unfold m_Mod_wantParts_L352
  rcases h1 : e_reg zkk zkp zkv 16 (zat, 0, 0, 0, 0, 0) with p | T
  · rw [e_fe ((e_p97 _ _ _ _).trans h1), e_wR_e h1, g_m2_mk, g_m2_mk, g_m2_mk, g_m2_mk, e_if0]; exact ⟨_, rfl⟩
  rw [e_fo ((e_p97 _ _ _ _).trans h1), (e_wR_o h1).1, (e_wR_o (zfk := 0) (zfp := 0) (zmd := 0) h1).2, g_m2_mk, g_m2_mk, g_m2_mk, g_m2_mk, e_if1]
  rcases h2 : e_sgn zkk zkp zkv 44 (zat + 1, 0 ||| ((zkv (zat).toNatClampNeg - 29232).toInt32 <<< ((16 : Int32) &&& 31)), 0, 0, 0, 0) with p | T
  · rw [e_fe ((e_p44 _ _ _ _).trans h2), e_wC_e h2, g_m2_mk, g_m2_mk, g_m2_mk, e_if0]; exact ⟨_, rfl⟩
  rw [e_fo ((e_p44 _ _ _ _).trans h2), (e_wC_o h2).1, (e_wC_o (zfk := 0) (zfp := 0) h2).2, g_m2_mk, g_m2_mk, g_m2_mk, e_if1]
  rcases h3 : e_reg zkk zkp zkv 12 (zat + 1 + 1, 0 ||| ((zkv (zat).toNatClampNeg - 29232).toInt32 <<< ((16 : Int32) &&& 31)), 0, 0, 0, 0) with p | T
  · rw [e_fe ((e_p98 _ _ _ _).trans h3), e_wR_e h3, g_m2_mk, g_m2_mk, g_m2_mk, g_m2_mk, e_if0]; exact ⟨_, rfl⟩
  rw [e_fo ((e_p98 _ _ _ _).trans h3), (e_wR_o h3).1, (e_wR_o (zfk := 0) (zfp := 0) (zmd := 0) h3).2, g_m2_mk, g_m2_mk, g_m2_mk, g_m2_mk, e_if1]
  rcases h4 : e_sgn zkk zkp zkv 44 (zat + 1 + 1 + 1, 0 ||| ((zkv (zat).toNatClampNeg - 29232).toInt32 <<< ((16 : Int32) &&& 31)) ||| ((zkv (zat + 1 + 1).toNatClampNeg - 29232).toInt32 <<< ((12 : Int32) &&& 31)), 0, 0, 0, 0) with p | T
  · rw [e_fe ((e_p44 _ _ _ _).trans h4), e_wC_e h4, g_m2_mk, g_m2_mk, g_m2_mk, e_if0]; exact ⟨_, rfl⟩
  rw [e_fo ((e_p44 _ _ _ _).trans h4), (e_wC_o h4).1, (e_wC_o (zfk := 0) (zfp := 0) h4).2, g_m2_mk, g_m2_mk, g_m2_mk, e_if1]
  rcases h5 : e_N zkk zkp zkv 3 (zat + 1 + 1 + 1 + 1, 0 ||| ((zkv (zat).toNatClampNeg - 29232).toInt32 <<< ((16 : Int32) &&& 31)) ||| ((zkv (zat + 1 + 1).toNatClampNeg - 29232).toInt32 <<< ((12 : Int32) &&& 31)), 0, 0, 0, 0) with p | ⟨cu', rg', q', nm', pN', vl'⟩
  · obtain ⟨x, hx⟩ := (e_wn2 (zkk := zkk) (zkp := zkp) (zkv := zkv) hl hh (zfk := zfk) (zfp := zfp) (zpn := zpn) (zmd := ((zmd ||| ((zkv (zat).toNatClampNeg - 29232).toInt32 <<< ((16 : Int32) &&& 31))) ||| ((zkv (zat + 1 + 1).toNatClampNeg - 29232).toInt32 <<< ((12 : Int32) &&& 31)))) (zpk := zpk) (zpl := zpl) (zpp := zpp) (zgv := zgv)).1 p h5; obtain ⟨x1, x2, x3, x4, x5, x6⟩ := x
    rw [e_fe ((e_p111 _ _ _ _).trans h5), hx, g_m2_mk, g_m2_mk, g_m2_mk, g_m2_mk, g_m2_mk, g_m2_mk, g_m2_mk, g_m2_mk, e_if0]; exact ⟨_, rfl⟩
  obtain ⟨hr, hq, hx⟩ := (e_wn2 (zkk := zkk) (zkp := zkp) (zkv := zkv) hl hh (zfk := zfk) (zfp := zfp) (zpn := zpn) (zmd := ((zmd ||| ((zkv (zat).toNatClampNeg - 29232).toInt32 <<< ((16 : Int32) &&& 31))) ||| ((zkv (zat + 1 + 1).toNatClampNeg - 29232).toInt32 <<< ((12 : Int32) &&& 31)))) (zpk := zpk) (zpl := zpl) (zpp := zpp) (zgv := zgv)).2 _ _ _ _ _ _ h5; subst hr
  rw [e_fo ((e_p111 _ _ _ _).trans h5), hx, g_m2_mk, g_m2_mk, g_m2_mk, g_m2_mk, g_m2_mk, g_m2_mk, g_m2_mk, g_m2_mk, e_if1]
  rw [e_form_nil]
  refine e_RBok ?_
  have d1 : ¬ oi = 22 := by omega
  have d2 : ¬ (oi = 23 ∨ oi = 24) := by omega
  rcases hq with hq | hq
  · subst hq
    rw [if_pos (rfl : 1 = 1), if_pos (rfl : 1 = 1), e_rk1, e_rm1 d1 d2]
    exact e_tup rfl (e_oA2 _ _ _ _)
  · subst hq
    rw [if_neg (show ¬ 3 = 1 by decide), if_neg (show ¬ 3 = 1 by decide), e_rk3, e_rm2 d1 d2 (show ¬ 3 = 1 by decide)]
    exact e_tup rfl (e_oL2 _ _ _)
set_option maxRecDepth 100000 in
theorem e_b399 {zkk zkp : Nat → Int32} {zkv : Nat → Int64} {oi : Nat} (h0 : oi < 22) (hl : (g_lst oi).toInt64 = -2048) (hh : (g_mst oi).toInt64 = 2047) {zfk zfp zat zpn op : Int32} {zpk : Nat → Int32} {zpl : Nat → Int64} {zpp : Nat → Int32} {zmd : Int32} {zgv : Int64} : e_RB oi zfk zfp zpn zpk zpl zpp zmd zgv (m_Mod_wantParts_L399 zkk zkp zkv zpn op zfk zfp zat zpk zpl zpp zmd zgv) (e_form zkk zkp zkv [100, 44, 111] (zat, 0, 0, 0, 0, 0)) := by
  unfold m_Mod_wantParts_L399
  rcases h1 : e_reg zkk zkp zkv 20 (zat, 0, 0, 0, 0, 0) with p | T
  · rw [e_fe ((e_p100 _ _ _ _).trans h1), e_wR_e h1, g_m2_mk, g_m2_mk, g_m2_mk, g_m2_mk, e_if0]; exact ⟨_, rfl⟩
  rw [e_fo ((e_p100 _ _ _ _).trans h1), (e_wR_o h1).1, (e_wR_o (zfk := 0) (zfp := 0) (zmd := 0) h1).2, g_m2_mk, g_m2_mk, g_m2_mk, g_m2_mk, e_if1]
  rcases h2 : e_sgn zkk zkp zkv 44 (zat + 1, 0 ||| ((zkv (zat).toNatClampNeg - 29232).toInt32 <<< ((20 : Int32) &&& 31)), 0, 0, 0, 0) with p | T
  · rw [e_fe ((e_p44 _ _ _ _).trans h2), e_wC_e h2, g_m2_mk, g_m2_mk, g_m2_mk, e_if0]; exact ⟨_, rfl⟩
  rw [e_fo ((e_p44 _ _ _ _).trans h2), (e_wC_o h2).1, (e_wC_o (zfk := 0) (zfp := 0) h2).2, g_m2_mk, g_m2_mk, g_m2_mk, e_if1]
  rcases h3 : e_N zkk zkp zkv 3 (zat + 1 + 1, 0 ||| ((zkv (zat).toNatClampNeg - 29232).toInt32 <<< ((20 : Int32) &&& 31)), 0, 0, 0, 0) with p | ⟨cu', rg', q', nm', pN', vl'⟩
  · obtain ⟨x, hx⟩ := (e_wn2 (zkk := zkk) (zkp := zkp) (zkv := zkv) hl hh (zfk := zfk) (zfp := zfp) (zpn := zpn) (zmd := (zmd ||| ((zkv (zat).toNatClampNeg - 29232).toInt32 <<< ((20 : Int32) &&& 31)))) (zpk := zpk) (zpl := zpl) (zpp := zpp) (zgv := zgv)).1 p h3; obtain ⟨x1, x2, x3, x4, x5, x6⟩ := x
    rw [e_fe ((e_p111 _ _ _ _).trans h3), hx, g_m2_mk, g_m2_mk, g_m2_mk, g_m2_mk, g_m2_mk, g_m2_mk, g_m2_mk, g_m2_mk, e_if0]; exact ⟨_, rfl⟩
  obtain ⟨hr, hq, hx⟩ := (e_wn2 (zkk := zkk) (zkp := zkp) (zkv := zkv) hl hh (zfk := zfk) (zfp := zfp) (zpn := zpn) (zmd := (zmd ||| ((zkv (zat).toNatClampNeg - 29232).toInt32 <<< ((20 : Int32) &&& 31)))) (zpk := zpk) (zpl := zpl) (zpp := zpp) (zgv := zgv)).2 _ _ _ _ _ _ h3; subst hr
  rw [e_fo ((e_p111 _ _ _ _).trans h3), hx, g_m2_mk, g_m2_mk, g_m2_mk, g_m2_mk, g_m2_mk, g_m2_mk, g_m2_mk, g_m2_mk, e_if1]
  rw [e_form_nil]
  refine e_RBok ?_
  have d1 : ¬ oi = 22 := by omega
  have d2 : ¬ (oi = 23 ∨ oi = 24) := by omega
  rcases hq with hq | hq
  · subst hq
    rw [if_pos (rfl : 1 = 1), if_pos (rfl : 1 = 1), e_rk1, e_rm1 d1 d2]
    exact e_tup rfl (e_oA1 _ _ _)
  · subst hq
    rw [if_neg (show ¬ 3 = 1 by decide), if_neg (show ¬ 3 = 1 by decide), e_rk3, e_rm2 d1 d2 (show ¬ 3 = 1 by decide)]
    exact e_tup rfl (e_oL1 _ _)
set_option maxRecDepth 100000 in
theorem e_b430 {zkk zkp : Nat → Int32} {zkv : Nat → Int64} {oi : Nat} (h0 : oi < 22) (hl : (g_lst oi).toInt64 = -2048) (hh : (g_mst oi).toInt64 = 2047) {zfk zfp zat zpn op : Int32} {zpk : Nat → Int32} {zpl : Nat → Int64} {zpp : Nat → Int32} {zmd : Int32} {zgv : Int64} : e_RB oi zfk zfp zpn zpk zpl zpp zmd zgv (m_Mod_wantParts_L430 zkk zkp zkv zpn op zfk zfp zat zpk zpl zpp zmd zgv) (e_form zkk zkp zkv [100, 44, 98, 44, 40, 97, 41] (zat, 0, 0, 0, 0, 0)) := by
  unfold m_Mod_wantParts_L430
  rcases h1 : e_reg zkk zkp zkv 20 (zat, 0, 0, 0, 0, 0) with p | T
  · rw [e_fe ((e_p100 _ _ _ _).trans h1), e_wR_e h1, g_m2_mk, g_m2_mk, g_m2_mk, g_m2_mk, e_if0]; exact ⟨_, rfl⟩
  rw [e_fo ((e_p100 _ _ _ _).trans h1), (e_wR_o h1).1, (e_wR_o (zfk := 0) (zfp := 0) (zmd := 0) h1).2, g_m2_mk, g_m2_mk, g_m2_mk, g_m2_mk, e_if1]
  rcases h2 : e_sgn zkk zkp zkv 44 (zat + 1, 0 ||| ((zkv (zat).toNatClampNeg - 29232).toInt32 <<< ((20 : Int32) &&& 31)), 0, 0, 0, 0) with p | T
  · rw [e_fe ((e_p44 _ _ _ _).trans h2), e_wC_e h2, g_m2_mk, g_m2_mk, g_m2_mk, e_if0]; exact ⟨_, rfl⟩
  rw [e_fo ((e_p44 _ _ _ _).trans h2), (e_wC_o h2).1, (e_wC_o (zfk := 0) (zfp := 0) h2).2, g_m2_mk, g_m2_mk, g_m2_mk, e_if1]
  rcases h3 : e_reg zkk zkp zkv 12 (zat + 1 + 1, 0 ||| ((zkv (zat).toNatClampNeg - 29232).toInt32 <<< ((20 : Int32) &&& 31)), 0, 0, 0, 0) with p | T
  · rw [e_fe ((e_p98 _ _ _ _).trans h3), e_wR_e h3, g_m2_mk, g_m2_mk, g_m2_mk, g_m2_mk, e_if0]; exact ⟨_, rfl⟩
  rw [e_fo ((e_p98 _ _ _ _).trans h3), (e_wR_o h3).1, (e_wR_o (zfk := 0) (zfp := 0) (zmd := 0) h3).2, g_m2_mk, g_m2_mk, g_m2_mk, g_m2_mk, e_if1]
  rcases h4 : e_sgn zkk zkp zkv 44 (zat + 1 + 1 + 1, 0 ||| ((zkv (zat).toNatClampNeg - 29232).toInt32 <<< ((20 : Int32) &&& 31)) ||| ((zkv (zat + 1 + 1).toNatClampNeg - 29232).toInt32 <<< ((12 : Int32) &&& 31)), 0, 0, 0, 0) with p | T
  · rw [e_fe ((e_p44 _ _ _ _).trans h4), e_wC_e h4, g_m2_mk, g_m2_mk, g_m2_mk, e_if0]; exact ⟨_, rfl⟩
  rw [e_fo ((e_p44 _ _ _ _).trans h4), (e_wC_o h4).1, (e_wC_o (zfk := 0) (zfp := 0) h4).2, g_m2_mk, g_m2_mk, g_m2_mk, e_if1]
  rcases h5 : e_sgn zkk zkp zkv 40 (zat + 1 + 1 + 1 + 1, 0 ||| ((zkv (zat).toNatClampNeg - 29232).toInt32 <<< ((20 : Int32) &&& 31)) ||| ((zkv (zat + 1 + 1).toNatClampNeg - 29232).toInt32 <<< ((12 : Int32) &&& 31)), 0, 0, 0, 0) with p | T
  · rw [e_fe ((e_p40 _ _ _ _).trans h5), e_wS_e h5, g_m2_mk, g_m2_mk, g_m2_mk, e_if0]; exact ⟨_, rfl⟩
  rw [e_fo ((e_p40 _ _ _ _).trans h5), (e_wS_o h5).1, (e_wS_o (zfk := 0) (zfp := 0) h5).2, g_m2_mk, g_m2_mk, g_m2_mk, e_if1]
  rcases h6 : e_reg zkk zkp zkv 16 (zat + 1 + 1 + 1 + 1 + 1, 0 ||| ((zkv (zat).toNatClampNeg - 29232).toInt32 <<< ((20 : Int32) &&& 31)) ||| ((zkv (zat + 1 + 1).toNatClampNeg - 29232).toInt32 <<< ((12 : Int32) &&& 31)), 0, 0, 0, 0) with p | T
  · rw [e_fe ((e_p97 _ _ _ _).trans h6), e_wR_e h6, g_m2_mk, g_m2_mk, g_m2_mk, g_m2_mk, e_if0]; exact ⟨_, rfl⟩
  rw [e_fo ((e_p97 _ _ _ _).trans h6), (e_wR_o h6).1, (e_wR_o (zfk := 0) (zfp := 0) (zmd := 0) h6).2, g_m2_mk, g_m2_mk, g_m2_mk, g_m2_mk, e_if1]
  rcases h7 : e_sgn zkk zkp zkv 41 (zat + 1 + 1 + 1 + 1 + 1 + 1, 0 ||| ((zkv (zat).toNatClampNeg - 29232).toInt32 <<< ((20 : Int32) &&& 31)) ||| ((zkv (zat + 1 + 1).toNatClampNeg - 29232).toInt32 <<< ((12 : Int32) &&& 31)) ||| ((zkv (zat + 1 + 1 + 1 + 1 + 1).toNatClampNeg - 29232).toInt32 <<< ((16 : Int32) &&& 31)), 0, 0, 0, 0) with p | T
  · rw [e_fe ((e_p41 _ _ _ _).trans h7), e_wS_e h7, g_m2_mk, g_m2_mk, g_m2_mk, e_if0]; exact ⟨_, rfl⟩
  rw [e_fo ((e_p41 _ _ _ _).trans h7), (e_wS_o h7).1, (e_wS_o (zfk := 0) (zfp := 0) h7).2, g_m2_mk, g_m2_mk, g_m2_mk, e_if1]
  rw [e_form_nil]
  refine e_RBok ?_
  have d1 : ¬ oi = 22 := by omega
  have d2 : ¬ (oi = 23 ∨ oi = 24) := by omega
  rw [e_rf0, e_rk0, e_rl0, e_rp0, e_rg0, e_rm2 d1 d2 (show ¬ 0 = 1 by decide)]
  exact e_tup rfl (e_oL3 _ _ _ _)
set_option maxRecDepth 100000 in
theorem e_b510 {zkk zkp : Nat → Int32} {zkv : Nat → Int64} {oi : Nat} (h0 : oi < 22) (hl : (g_lst oi).toInt64 = -2048) (hh : (g_mst oi).toInt64 = 2047) {zfk zfp zat zpn op : Int32} {zpk : Nat → Int32} {zpl : Nat → Int64} {zpp : Nat → Int32} {zmd : Int32} {zgv : Int64} : e_RB oi zfk zfp zpn zpk zpl zpp zmd zgv (m_Mod_wantParts_L510 zkk zkp zkv zpn op zfk zfp zat zpk zpl zpp zmd zgv) (e_form zkk zkp zkv [100, 44, 97, 44, 98] (zat, 0, 0, 0, 0, 0)) := by
  unfold m_Mod_wantParts_L510
  rcases h1 : e_reg zkk zkp zkv 20 (zat, 0, 0, 0, 0, 0) with p | T
  · rw [e_fe ((e_p100 _ _ _ _).trans h1), e_wR_e h1, g_m2_mk, g_m2_mk, g_m2_mk, g_m2_mk, e_if0]; exact ⟨_, rfl⟩
  rw [e_fo ((e_p100 _ _ _ _).trans h1), (e_wR_o h1).1, (e_wR_o (zfk := 0) (zfp := 0) (zmd := 0) h1).2, g_m2_mk, g_m2_mk, g_m2_mk, g_m2_mk, e_if1]
  rcases h2 : e_sgn zkk zkp zkv 44 (zat + 1, 0 ||| ((zkv (zat).toNatClampNeg - 29232).toInt32 <<< ((20 : Int32) &&& 31)), 0, 0, 0, 0) with p | T
  · rw [e_fe ((e_p44 _ _ _ _).trans h2), e_wC_e h2, g_m2_mk, g_m2_mk, g_m2_mk, e_if0]; exact ⟨_, rfl⟩
  rw [e_fo ((e_p44 _ _ _ _).trans h2), (e_wC_o h2).1, (e_wC_o (zfk := 0) (zfp := 0) h2).2, g_m2_mk, g_m2_mk, g_m2_mk, e_if1]
  rcases h3 : e_reg zkk zkp zkv 16 (zat + 1 + 1, 0 ||| ((zkv (zat).toNatClampNeg - 29232).toInt32 <<< ((20 : Int32) &&& 31)), 0, 0, 0, 0) with p | T
  · rw [e_fe ((e_p97 _ _ _ _).trans h3), e_wR_e h3, g_m2_mk, g_m2_mk, g_m2_mk, g_m2_mk, e_if0]; exact ⟨_, rfl⟩
  rw [e_fo ((e_p97 _ _ _ _).trans h3), (e_wR_o h3).1, (e_wR_o (zfk := 0) (zfp := 0) (zmd := 0) h3).2, g_m2_mk, g_m2_mk, g_m2_mk, g_m2_mk, e_if1]
  rcases h4 : e_sgn zkk zkp zkv 44 (zat + 1 + 1 + 1, 0 ||| ((zkv (zat).toNatClampNeg - 29232).toInt32 <<< ((20 : Int32) &&& 31)) ||| ((zkv (zat + 1 + 1).toNatClampNeg - 29232).toInt32 <<< ((16 : Int32) &&& 31)), 0, 0, 0, 0) with p | T
  · rw [e_fe ((e_p44 _ _ _ _).trans h4), e_wC_e h4, g_m2_mk, g_m2_mk, g_m2_mk, e_if0]; exact ⟨_, rfl⟩
  rw [e_fo ((e_p44 _ _ _ _).trans h4), (e_wC_o h4).1, (e_wC_o (zfk := 0) (zfp := 0) h4).2, g_m2_mk, g_m2_mk, g_m2_mk, e_if1]
  rcases h5 : e_reg zkk zkp zkv 12 (zat + 1 + 1 + 1 + 1, 0 ||| ((zkv (zat).toNatClampNeg - 29232).toInt32 <<< ((20 : Int32) &&& 31)) ||| ((zkv (zat + 1 + 1).toNatClampNeg - 29232).toInt32 <<< ((16 : Int32) &&& 31)), 0, 0, 0, 0) with p | T
  · rw [e_fe ((e_p98 _ _ _ _).trans h5), e_wR_e h5, g_m2_mk, g_m2_mk, g_m2_mk, g_m2_mk, e_if0]; exact ⟨_, rfl⟩
  rw [e_fo ((e_p98 _ _ _ _).trans h5), (e_wR_o h5).1, (e_wR_o (zfk := 0) (zfp := 0) (zmd := 0) h5).2, g_m2_mk, g_m2_mk, g_m2_mk, g_m2_mk, e_if1]
  rw [e_form_nil]
  refine e_RBok ?_
  have d1 : ¬ oi = 22 := by omega
  have d2 : ¬ (oi = 23 ∨ oi = 24) := by omega
  rw [e_rf0, e_rk0, e_rl0, e_rp0, e_rg0, e_rm2 d1 d2 (show ¬ 0 = 1 by decide)]
  exact e_tup rfl (e_oL3 _ _ _ _)
set_option maxRecDepth 100000 in
theorem e_wP0 {zkk zkp : Nat → Int32} {zkv : Nat → Int64} {zfk zfp zat zpn : Int32} {zpk : Nat → Int32} {zpl : Nat → Int64} {zpp : Nat → Int32} {zmd : Int32} {zgv : Int64} : e_RB 0 zfk zfp zpn zpk zpl zpp zmd zgv (m_Mod_wantParts zfk zfp zkk zkp zkv zat zpn zpk zpl zpp zmd zgv (e_op 0)) (e_form zkk zkp zkv (e_chars 0) (zat, 0, 0, 0, 0, 0)) := by
  rw [show e_op 0 = 0 from rfl, show e_chars 0 = [] from rfl]
  unfold m_Mod_wantParts
  rw [if_pos (rfl : (0 : Int32) = 0)]
  rw [e_form_nil]
  refine e_RBok ?_
  rw [e_rf0, e_rk0, e_rl0, e_rp0, e_rg0, e_rm2 (show ¬ 0 = 22 by decide) (show ¬ (0 = 23 ∨ 0 = 24) by decide) (show ¬ 0 = 1 by decide), Int32.or_zero]
set_option maxRecDepth 100000 in
theorem e_wP1 {zkk zkp : Nat → Int32} {zkv : Nat → Int64} {zfk zfp zat zpn : Int32} {zpk : Nat → Int32} {zpl : Nat → Int64} {zpp : Nat → Int32} {zmd : Int32} {zgv : Int64} : e_RB 1 zfk zfp zpn zpk zpl zpp zmd zgv (m_Mod_wantParts zfk zfp zkk zkp zkv zat zpn zpk zpl zpp zmd zgv (e_op 1)) (e_form zkk zkp zkv (e_chars 1) (zat, 0, 0, 0, 0, 0)) := by
  rw [show e_op 1 = 1 from rfl, show e_chars 1 = [100, 44, 97, 44, 110] from rfl]
  unfold m_Mod_wantParts
  rw [if_neg (show ¬ (1 : Int32) = 0 by decide), if_pos (rfl : (1 : Int32) = 1)]
  exact e_b158 (by decide) (by decide) (by decide)
set_option maxRecDepth 100000 in
theorem e_wP2 {zkk zkp : Nat → Int32} {zkv : Nat → Int64} {zfk zfp zat zpn : Int32} {zpk : Nat → Int32} {zpl : Nat → Int64} {zpp : Nat → Int32} {zmd : Int32} {zgv : Int64} : e_RB 2 zfk zfp zpn zpk zpl zpp zmd zgv (m_Mod_wantParts zfk zfp zkk zkp zkv zat zpn zpk zpl zpp zmd zgv (e_op 2)) (e_form zkk zkp zkv (e_chars 2) (zat, 0, 0, 0, 0, 0)) := by
  rw [show e_op 2 = 2 from rfl, show e_chars 2 = [100, 44, 97, 44, 98] from rfl]
  unfold m_Mod_wantParts
  rw [if_neg (show ¬ (2 : Int32) = 0 by decide), if_neg (show ¬ (2 : Int32) = 1 by decide), if_neg (show ¬ (2 : Int32) = 10 by decide), if_neg (show ¬ (2 : Int32) = 11 by decide), if_neg (show ¬ (2 : Int32) = 12 by decide), if_neg (show ¬ (2 : Int32) = 13 by decide), if_neg (show ¬ (2 : Int32) = 14 by decide), if_neg (show ¬ (2 : Int32) = 15 by decide), if_neg (show ¬ (2 : Int32) = 16 by decide), if_neg (show ¬ (2 : Int32) = 17 by decide), if_neg (show ¬ (2 : Int32) = 18 by decide), if_neg (show ¬ (2 : Int32) = 19 by decide), if_neg (show ¬ (2 : Int32) = 20 by decide), if_neg (show ¬ (2 : Int32) = 21 by decide), if_neg (show ¬ (2 : Int32) = 32 by decide), if_neg (show ¬ (2 : Int32) = 33 by decide), if_neg (show ¬ (2 : Int32) = 34 by decide)]
  exact e_b510 (by decide) (by decide) (by decide)
set_option maxRecDepth 100000 in
theorem e_wP3 {zkk zkp : Nat → Int32} {zkv : Nat → Int64} {zfk zfp zat zpn : Int32} {zpk : Nat → Int32} {zpl : Nat → Int64} {zpp : Nat → Int32} {zmd : Int32} {zgv : Int64} : e_RB 3 zfk zfp zpn zpk zpl zpp zmd zgv (m_Mod_wantParts zfk zfp zkk zkp zkv zat zpn zpk zpl zpp zmd zgv (e_op 3)) (e_form zkk zkp zkv (e_chars 3) (zat, 0, 0, 0, 0, 0)) := by
  rw [show e_op 3 = 3 from rfl, show e_chars 3 = [100, 44, 97, 44, 98] from rfl]
  unfold m_Mod_wantParts
  rw [if_neg (show ¬ (3 : Int32) = 0 by decide), if_neg (show ¬ (3 : Int32) = 1 by decide), if_neg (show ¬ (3 : Int32) = 10 by decide), if_neg (show ¬ (3 : Int32) = 11 by decide), if_neg (show ¬ (3 : Int32) = 12 by decide), if_neg (show ¬ (3 : Int32) = 13 by decide), if_neg (show ¬ (3 : Int32) = 14 by decide), if_neg (show ¬ (3 : Int32) = 15 by decide), if_neg (show ¬ (3 : Int32) = 16 by decide), if_neg (show ¬ (3 : Int32) = 17 by decide), if_neg (show ¬ (3 : Int32) = 18 by decide), if_neg (show ¬ (3 : Int32) = 19 by decide), if_neg (show ¬ (3 : Int32) = 20 by decide), if_neg (show ¬ (3 : Int32) = 21 by decide), if_neg (show ¬ (3 : Int32) = 32 by decide), if_neg (show ¬ (3 : Int32) = 33 by decide), if_neg (show ¬ (3 : Int32) = 34 by decide)]
  exact e_b510 (by decide) (by decide) (by decide)
set_option maxRecDepth 100000 in
theorem e_wP4 {zkk zkp : Nat → Int32} {zkv : Nat → Int64} {zfk zfp zat zpn : Int32} {zpk : Nat → Int32} {zpl : Nat → Int64} {zpp : Nat → Int32} {zmd : Int32} {zgv : Int64} : e_RB 4 zfk zfp zpn zpk zpl zpp zmd zgv (m_Mod_wantParts zfk zfp zkk zkp zkv zat zpn zpk zpl zpp zmd zgv (e_op 4)) (e_form zkk zkp zkv (e_chars 4) (zat, 0, 0, 0, 0, 0)) := by
  rw [show e_op 4 = 4 from rfl, show e_chars 4 = [100, 44, 97, 44, 98] from rfl]
  unfold m_Mod_wantParts
  rw [if_neg (show ¬ (4 : Int32) = 0 by decide), if_neg (show ¬ (4 : Int32) = 1 by decide), if_neg (show ¬ (4 : Int32) = 10 by decide), if_neg (show ¬ (4 : Int32) = 11 by decide), if_neg (show ¬ (4 : Int32) = 12 by decide), if_neg (show ¬ (4 : Int32) = 13 by decide), if_neg (show ¬ (4 : Int32) = 14 by decide), if_neg (show ¬ (4 : Int32) = 15 by decide), if_neg (show ¬ (4 : Int32) = 16 by decide), if_neg (show ¬ (4 : Int32) = 17 by decide), if_neg (show ¬ (4 : Int32) = 18 by decide), if_neg (show ¬ (4 : Int32) = 19 by decide), if_neg (show ¬ (4 : Int32) = 20 by decide), if_neg (show ¬ (4 : Int32) = 21 by decide), if_neg (show ¬ (4 : Int32) = 32 by decide), if_neg (show ¬ (4 : Int32) = 33 by decide), if_neg (show ¬ (4 : Int32) = 34 by decide)]
  exact e_b510 (by decide) (by decide) (by decide)
set_option maxRecDepth 100000 in
theorem e_wP5 {zkk zkp : Nat → Int32} {zkv : Nat → Int64} {zfk zfp zat zpn : Int32} {zpk : Nat → Int32} {zpl : Nat → Int64} {zpp : Nat → Int32} {zmd : Int32} {zgv : Int64} : e_RB 5 zfk zfp zpn zpk zpl zpp zmd zgv (m_Mod_wantParts zfk zfp zkk zkp zkv zat zpn zpk zpl zpp zmd zgv (e_op 5)) (e_form zkk zkp zkv (e_chars 5) (zat, 0, 0, 0, 0, 0)) := by
  rw [show e_op 5 = 5 from rfl, show e_chars 5 = [100, 44, 97, 44, 98] from rfl]
  unfold m_Mod_wantParts
  rw [if_neg (show ¬ (5 : Int32) = 0 by decide), if_neg (show ¬ (5 : Int32) = 1 by decide), if_neg (show ¬ (5 : Int32) = 10 by decide), if_neg (show ¬ (5 : Int32) = 11 by decide), if_neg (show ¬ (5 : Int32) = 12 by decide), if_neg (show ¬ (5 : Int32) = 13 by decide), if_neg (show ¬ (5 : Int32) = 14 by decide), if_neg (show ¬ (5 : Int32) = 15 by decide), if_neg (show ¬ (5 : Int32) = 16 by decide), if_neg (show ¬ (5 : Int32) = 17 by decide), if_neg (show ¬ (5 : Int32) = 18 by decide), if_neg (show ¬ (5 : Int32) = 19 by decide), if_neg (show ¬ (5 : Int32) = 20 by decide), if_neg (show ¬ (5 : Int32) = 21 by decide), if_neg (show ¬ (5 : Int32) = 32 by decide), if_neg (show ¬ (5 : Int32) = 33 by decide), if_neg (show ¬ (5 : Int32) = 34 by decide)]
  exact e_b510 (by decide) (by decide) (by decide)
set_option maxRecDepth 100000 in
theorem e_wP6 {zkk zkp : Nat → Int32} {zkv : Nat → Int64} {zfk zfp zat zpn : Int32} {zpk : Nat → Int32} {zpl : Nat → Int64} {zpp : Nat → Int32} {zmd : Int32} {zgv : Int64} : e_RB 6 zfk zfp zpn zpk zpl zpp zmd zgv (m_Mod_wantParts zfk zfp zkk zkp zkv zat zpn zpk zpl zpp zmd zgv (e_op 6)) (e_form zkk zkp zkv (e_chars 6) (zat, 0, 0, 0, 0, 0)) := by
  rw [show e_op 6 = 6 from rfl, show e_chars 6 = [100, 44, 97, 44, 98] from rfl]
  unfold m_Mod_wantParts
  rw [if_neg (show ¬ (6 : Int32) = 0 by decide), if_neg (show ¬ (6 : Int32) = 1 by decide), if_neg (show ¬ (6 : Int32) = 10 by decide), if_neg (show ¬ (6 : Int32) = 11 by decide), if_neg (show ¬ (6 : Int32) = 12 by decide), if_neg (show ¬ (6 : Int32) = 13 by decide), if_neg (show ¬ (6 : Int32) = 14 by decide), if_neg (show ¬ (6 : Int32) = 15 by decide), if_neg (show ¬ (6 : Int32) = 16 by decide), if_neg (show ¬ (6 : Int32) = 17 by decide), if_neg (show ¬ (6 : Int32) = 18 by decide), if_neg (show ¬ (6 : Int32) = 19 by decide), if_neg (show ¬ (6 : Int32) = 20 by decide), if_neg (show ¬ (6 : Int32) = 21 by decide), if_neg (show ¬ (6 : Int32) = 32 by decide), if_neg (show ¬ (6 : Int32) = 33 by decide), if_neg (show ¬ (6 : Int32) = 34 by decide)]
  exact e_b510 (by decide) (by decide) (by decide)
set_option maxRecDepth 100000 in
theorem e_wP7 {zkk zkp : Nat → Int32} {zkv : Nat → Int64} {zfk zfp zat zpn : Int32} {zpk : Nat → Int32} {zpl : Nat → Int64} {zpp : Nat → Int32} {zmd : Int32} {zgv : Int64} : e_RB 7 zfk zfp zpn zpk zpl zpp zmd zgv (m_Mod_wantParts zfk zfp zkk zkp zkv zat zpn zpk zpl zpp zmd zgv (e_op 7)) (e_form zkk zkp zkv (e_chars 7) (zat, 0, 0, 0, 0, 0)) := by
  rw [show e_op 7 = 7 from rfl, show e_chars 7 = [100, 44, 97, 44, 98] from rfl]
  unfold m_Mod_wantParts
  rw [if_neg (show ¬ (7 : Int32) = 0 by decide), if_neg (show ¬ (7 : Int32) = 1 by decide), if_neg (show ¬ (7 : Int32) = 10 by decide), if_neg (show ¬ (7 : Int32) = 11 by decide), if_neg (show ¬ (7 : Int32) = 12 by decide), if_neg (show ¬ (7 : Int32) = 13 by decide), if_neg (show ¬ (7 : Int32) = 14 by decide), if_neg (show ¬ (7 : Int32) = 15 by decide), if_neg (show ¬ (7 : Int32) = 16 by decide), if_neg (show ¬ (7 : Int32) = 17 by decide), if_neg (show ¬ (7 : Int32) = 18 by decide), if_neg (show ¬ (7 : Int32) = 19 by decide), if_neg (show ¬ (7 : Int32) = 20 by decide), if_neg (show ¬ (7 : Int32) = 21 by decide), if_neg (show ¬ (7 : Int32) = 32 by decide), if_neg (show ¬ (7 : Int32) = 33 by decide), if_neg (show ¬ (7 : Int32) = 34 by decide)]
  exact e_b510 (by decide) (by decide) (by decide)
set_option maxRecDepth 100000 in
theorem e_wP8 {zkk zkp : Nat → Int32} {zkv : Nat → Int64} {zfk zfp zat zpn : Int32} {zpk : Nat → Int32} {zpl : Nat → Int64} {zpp : Nat → Int32} {zmd : Int32} {zgv : Int64} : e_RB 8 zfk zfp zpn zpk zpl zpp zmd zgv (m_Mod_wantParts zfk zfp zkk zkp zkv zat zpn zpk zpl zpp zmd zgv (e_op 8)) (e_form zkk zkp zkv (e_chars 8) (zat, 0, 0, 0, 0, 0)) := by
  rw [show e_op 8 = 8 from rfl, show e_chars 8 = [100, 44, 97, 44, 98] from rfl]
  unfold m_Mod_wantParts
  rw [if_neg (show ¬ (8 : Int32) = 0 by decide), if_neg (show ¬ (8 : Int32) = 1 by decide), if_neg (show ¬ (8 : Int32) = 10 by decide), if_neg (show ¬ (8 : Int32) = 11 by decide), if_neg (show ¬ (8 : Int32) = 12 by decide), if_neg (show ¬ (8 : Int32) = 13 by decide), if_neg (show ¬ (8 : Int32) = 14 by decide), if_neg (show ¬ (8 : Int32) = 15 by decide), if_neg (show ¬ (8 : Int32) = 16 by decide), if_neg (show ¬ (8 : Int32) = 17 by decide), if_neg (show ¬ (8 : Int32) = 18 by decide), if_neg (show ¬ (8 : Int32) = 19 by decide), if_neg (show ¬ (8 : Int32) = 20 by decide), if_neg (show ¬ (8 : Int32) = 21 by decide), if_neg (show ¬ (8 : Int32) = 32 by decide), if_neg (show ¬ (8 : Int32) = 33 by decide), if_neg (show ¬ (8 : Int32) = 34 by decide)]
  exact e_b510 (by decide) (by decide) (by decide)
set_option maxRecDepth 100000 in
theorem e_wP9 {zkk zkp : Nat → Int32} {zkv : Nat → Int64} {zfk zfp zat zpn : Int32} {zpk : Nat → Int32} {zpl : Nat → Int64} {zpp : Nat → Int32} {zmd : Int32} {zgv : Int64} : e_RB 9 zfk zfp zpn zpk zpl zpp zmd zgv (m_Mod_wantParts zfk zfp zkk zkp zkv zat zpn zpk zpl zpp zmd zgv (e_op 9)) (e_form zkk zkp zkv (e_chars 9) (zat, 0, 0, 0, 0, 0)) := by
  rw [show e_op 9 = 9 from rfl, show e_chars 9 = [100, 44, 97, 44, 98] from rfl]
  unfold m_Mod_wantParts
  rw [if_neg (show ¬ (9 : Int32) = 0 by decide), if_neg (show ¬ (9 : Int32) = 1 by decide), if_neg (show ¬ (9 : Int32) = 10 by decide), if_neg (show ¬ (9 : Int32) = 11 by decide), if_neg (show ¬ (9 : Int32) = 12 by decide), if_neg (show ¬ (9 : Int32) = 13 by decide), if_neg (show ¬ (9 : Int32) = 14 by decide), if_neg (show ¬ (9 : Int32) = 15 by decide), if_neg (show ¬ (9 : Int32) = 16 by decide), if_neg (show ¬ (9 : Int32) = 17 by decide), if_neg (show ¬ (9 : Int32) = 18 by decide), if_neg (show ¬ (9 : Int32) = 19 by decide), if_neg (show ¬ (9 : Int32) = 20 by decide), if_neg (show ¬ (9 : Int32) = 21 by decide), if_neg (show ¬ (9 : Int32) = 32 by decide), if_neg (show ¬ (9 : Int32) = 33 by decide), if_neg (show ¬ (9 : Int32) = 34 by decide)]
  exact e_b510 (by decide) (by decide) (by decide)
set_option maxRecDepth 100000 in
theorem e_wP10 {zkk zkp : Nat → Int32} {zkv : Nat → Int64} {zfk zfp zat zpn : Int32} {zpk : Nat → Int32} {zpl : Nat → Int64} {zpp : Nat → Int32} {zmd : Int32} {zgv : Int64} : e_RB 10 zfk zfp zpn zpk zpl zpp zmd zgv (m_Mod_wantParts zfk zfp zkk zkp zkv zat zpn zpk zpl zpp zmd zgv (e_op 10)) (e_form zkk zkp zkv (e_chars 10) (zat, 0, 0, 0, 0, 0)) := by
  rw [show e_op 10 = 10 from rfl, show e_chars 10 = [100, 44, 110] from rfl]
  unfold m_Mod_wantParts
  rw [if_neg (show ¬ (10 : Int32) = 0 by decide), if_neg (show ¬ (10 : Int32) = 1 by decide), if_pos (rfl : (10 : Int32) = 10)]
  exact e_b205 (by decide) (by decide) (by decide)
set_option maxRecDepth 100000 in
theorem e_wP11 {zkk zkp : Nat → Int32} {zkv : Nat → Int64} {zfk zfp zat zpn : Int32} {zpk : Nat → Int32} {zpl : Nat → Int64} {zpp : Nat → Int32} {zmd : Int32} {zgv : Int64} : e_RB 11 zfk zfp zpn zpk zpl zpp zmd zgv (m_Mod_wantParts zfk zfp zkk zkp zkv zat zpn zpk zpl zpp zmd zgv (e_op 11)) (e_form zkk zkp zkv (e_chars 11) (zat, 0, 0, 0, 0, 0)) := by
  rw [show e_op 11 = 11 from rfl, show e_chars 11 = [100, 44, 110, 40, 97, 41] from rfl]
  unfold m_Mod_wantParts
  rw [if_neg (show ¬ (11 : Int32) = 0 by decide), if_neg (show ¬ (11 : Int32) = 1 by decide), if_neg (show ¬ (11 : Int32) = 10 by decide), if_pos (rfl : (11 : Int32) = 11)]
  exact e_b236 (by decide) (by decide) (by decide)
set_option maxRecDepth 100000 in
theorem e_wP12 {zkk zkp : Nat → Int32} {zkv : Nat → Int64} {zfk zfp zat zpn : Int32} {zpk : Nat → Int32} {zpl : Nat → Int64} {zpp : Nat → Int32} {zmd : Int32} {zgv : Int64} : e_RB 12 zfk zfp zpn zpk zpl zpp zmd zgv (m_Mod_wantParts zfk zfp zkk zkp zkv zat zpn zpk zpl zpp zmd zgv (e_op 12)) (e_form zkk zkp zkv (e_chars 12) (zat, 0, 0, 0, 0, 0)) := by
  rw [show e_op 12 = 12 from rfl, show e_chars 12 = [98, 44, 110, 40, 97, 41] from rfl]
  unfold m_Mod_wantParts
  rw [if_neg (show ¬ (12 : Int32) = 0 by decide), if_neg (show ¬ (12 : Int32) = 1 by decide), if_neg (show ¬ (12 : Int32) = 10 by decide), if_neg (show ¬ (12 : Int32) = 11 by decide), if_pos (rfl : (12 : Int32) = 12)]
  exact e_b294 (by decide) (by decide) (by decide)
set_option maxRecDepth 100000 in
theorem e_wP13 {zkk zkp : Nat → Int32} {zkv : Nat → Int64} {zfk zfp zat zpn : Int32} {zpk : Nat → Int32} {zpl : Nat → Int64} {zpp : Nat → Int32} {zmd : Int32} {zgv : Int64} : e_RB 13 zfk zfp zpn zpk zpl zpp zmd zgv (m_Mod_wantParts zfk zfp zkk zkp zkv zat zpn zpk zpl zpp zmd zgv (e_op 13)) (e_form zkk zkp zkv (e_chars 13) (zat, 0, 0, 0, 0, 0)) := by
  rw [show e_op 13 = 13 from rfl, show e_chars 13 = [97, 44, 98, 44, 111] from rfl]
  unfold m_Mod_wantParts
  rw [if_neg (show ¬ (13 : Int32) = 0 by decide), if_neg (show ¬ (13 : Int32) = 1 by decide), if_neg (show ¬ (13 : Int32) = 10 by decide), if_neg (show ¬ (13 : Int32) = 11 by decide), if_neg (show ¬ (13 : Int32) = 12 by decide), if_pos (rfl : (13 : Int32) = 13)]
  exact e_b352 (by decide) (by decide) (by decide)
set_option maxRecDepth 100000 in
theorem e_wP14 {zkk zkp : Nat → Int32} {zkv : Nat → Int64} {zfk zfp zat zpn : Int32} {zpk : Nat → Int32} {zpl : Nat → Int64} {zpp : Nat → Int32} {zmd : Int32} {zgv : Int64} : e_RB 14 zfk zfp zpn zpk zpl zpp zmd zgv (m_Mod_wantParts zfk zfp zkk zkp zkv zat zpn zpk zpl zpp zmd zgv (e_op 14)) (e_form zkk zkp zkv (e_chars 14) (zat, 0, 0, 0, 0, 0)) := by
  rw [show e_op 14 = 14 from rfl, show e_chars 14 = [97, 44, 98, 44, 111] from rfl]
  unfold m_Mod_wantParts
  rw [if_neg (show ¬ (14 : Int32) = 0 by decide), if_neg (show ¬ (14 : Int32) = 1 by decide), if_neg (show ¬ (14 : Int32) = 10 by decide), if_neg (show ¬ (14 : Int32) = 11 by decide), if_neg (show ¬ (14 : Int32) = 12 by decide), if_neg (show ¬ (14 : Int32) = 13 by decide), if_pos (rfl : (14 : Int32) = 14)]
  exact e_b352 (by decide) (by decide) (by decide)
set_option maxRecDepth 100000 in
theorem e_wP15 {zkk zkp : Nat → Int32} {zkv : Nat → Int64} {zfk zfp zat zpn : Int32} {zpk : Nat → Int32} {zpl : Nat → Int64} {zpp : Nat → Int32} {zmd : Int32} {zgv : Int64} : e_RB 15 zfk zfp zpn zpk zpl zpp zmd zgv (m_Mod_wantParts zfk zfp zkk zkp zkv zat zpn zpk zpl zpp zmd zgv (e_op 15)) (e_form zkk zkp zkv (e_chars 15) (zat, 0, 0, 0, 0, 0)) := by
  rw [show e_op 15 = 15 from rfl, show e_chars 15 = [97, 44, 98, 44, 111] from rfl]
  unfold m_Mod_wantParts
  rw [if_neg (show ¬ (15 : Int32) = 0 by decide), if_neg (show ¬ (15 : Int32) = 1 by decide), if_neg (show ¬ (15 : Int32) = 10 by decide), if_neg (show ¬ (15 : Int32) = 11 by decide), if_neg (show ¬ (15 : Int32) = 12 by decide), if_neg (show ¬ (15 : Int32) = 13 by decide), if_neg (show ¬ (15 : Int32) = 14 by decide), if_pos (rfl : (15 : Int32) = 15)]
  exact e_b352 (by decide) (by decide) (by decide)
set_option maxRecDepth 100000 in
theorem e_wP16 {zkk zkp : Nat → Int32} {zkv : Nat → Int64} {zfk zfp zat zpn : Int32} {zpk : Nat → Int32} {zpl : Nat → Int64} {zpp : Nat → Int32} {zmd : Int32} {zgv : Int64} : e_RB 16 zfk zfp zpn zpk zpl zpp zmd zgv (m_Mod_wantParts zfk zfp zkk zkp zkv zat zpn zpk zpl zpp zmd zgv (e_op 16)) (e_form zkk zkp zkv (e_chars 16) (zat, 0, 0, 0, 0, 0)) := by
  rw [show e_op 16 = 16 from rfl, show e_chars 16 = [100, 44, 111] from rfl]
  unfold m_Mod_wantParts
  rw [if_neg (show ¬ (16 : Int32) = 0 by decide), if_neg (show ¬ (16 : Int32) = 1 by decide), if_neg (show ¬ (16 : Int32) = 10 by decide), if_neg (show ¬ (16 : Int32) = 11 by decide), if_neg (show ¬ (16 : Int32) = 12 by decide), if_neg (show ¬ (16 : Int32) = 13 by decide), if_neg (show ¬ (16 : Int32) = 14 by decide), if_neg (show ¬ (16 : Int32) = 15 by decide), if_pos (rfl : (16 : Int32) = 16)]
  exact e_b399 (by decide) (by decide) (by decide)
set_option maxRecDepth 100000 in
theorem e_wP17 {zkk zkp : Nat → Int32} {zkv : Nat → Int64} {zfk zfp zat zpn : Int32} {zpk : Nat → Int32} {zpl : Nat → Int64} {zpp : Nat → Int32} {zmd : Int32} {zgv : Int64} : e_RB 17 zfk zfp zpn zpk zpl zpp zmd zgv (m_Mod_wantParts zfk zfp zkk zkp zkv zat zpn zpk zpl zpp zmd zgv (e_op 17)) (e_form zkk zkp zkv (e_chars 17) (zat, 0, 0, 0, 0, 0)) := by
  rw [show e_op 17 = 17 from rfl, show e_chars 17 = [100, 44, 97, 44, 110] from rfl]
  unfold m_Mod_wantParts
  rw [if_neg (show ¬ (17 : Int32) = 0 by decide), if_neg (show ¬ (17 : Int32) = 1 by decide), if_neg (show ¬ (17 : Int32) = 10 by decide), if_neg (show ¬ (17 : Int32) = 11 by decide), if_neg (show ¬ (17 : Int32) = 12 by decide), if_neg (show ¬ (17 : Int32) = 13 by decide), if_neg (show ¬ (17 : Int32) = 14 by decide), if_neg (show ¬ (17 : Int32) = 15 by decide), if_neg (show ¬ (17 : Int32) = 16 by decide), if_pos (rfl : (17 : Int32) = 17)]
  exact e_b158 (by decide) (by decide) (by decide)
set_option maxRecDepth 100000 in
theorem e_wP18 {zkk zkp : Nat → Int32} {zkv : Nat → Int64} {zfk zfp zat zpn : Int32} {zpk : Nat → Int32} {zpl : Nat → Int64} {zpp : Nat → Int32} {zmd : Int32} {zgv : Int64} : e_RB 18 zfk zfp zpn zpk zpl zpp zmd zgv (m_Mod_wantParts zfk zfp zkk zkp zkv zat zpn zpk zpl zpp zmd zgv (e_op 18)) (e_form zkk zkp zkv (e_chars 18) (zat, 0, 0, 0, 0, 0)) := by
  rw [show e_op 18 = 18 from rfl, show e_chars 18 = [100, 44, 98, 44, 40, 97, 41] from rfl]
  unfold m_Mod_wantParts
  rw [if_neg (show ¬ (18 : Int32) = 0 by decide), if_neg (show ¬ (18 : Int32) = 1 by decide), if_neg (show ¬ (18 : Int32) = 10 by decide), if_neg (show ¬ (18 : Int32) = 11 by decide), if_neg (show ¬ (18 : Int32) = 12 by decide), if_neg (show ¬ (18 : Int32) = 13 by decide), if_neg (show ¬ (18 : Int32) = 14 by decide), if_neg (show ¬ (18 : Int32) = 15 by decide), if_neg (show ¬ (18 : Int32) = 16 by decide), if_neg (show ¬ (18 : Int32) = 17 by decide), if_pos (rfl : (18 : Int32) = 18)]
  exact e_b430 (by decide) (by decide) (by decide)
set_option maxRecDepth 100000 in
theorem e_wP19 {zkk zkp : Nat → Int32} {zkv : Nat → Int64} {zfk zfp zat zpn : Int32} {zpk : Nat → Int32} {zpl : Nat → Int64} {zpp : Nat → Int32} {zmd : Int32} {zgv : Int64} : e_RB 19 zfk zfp zpn zpk zpl zpp zmd zgv (m_Mod_wantParts zfk zfp zkk zkp zkv zat zpn zpk zpl zpp zmd zgv (e_op 19)) (e_form zkk zkp zkv (e_chars 19) (zat, 0, 0, 0, 0, 0)) := by
  rw [show e_op 19 = 19 from rfl, show e_chars 19 = [100, 44, 98, 44, 40, 97, 41] from rfl]
  unfold m_Mod_wantParts
  rw [if_neg (show ¬ (19 : Int32) = 0 by decide), if_neg (show ¬ (19 : Int32) = 1 by decide), if_neg (show ¬ (19 : Int32) = 10 by decide), if_neg (show ¬ (19 : Int32) = 11 by decide), if_neg (show ¬ (19 : Int32) = 12 by decide), if_neg (show ¬ (19 : Int32) = 13 by decide), if_neg (show ¬ (19 : Int32) = 14 by decide), if_neg (show ¬ (19 : Int32) = 15 by decide), if_neg (show ¬ (19 : Int32) = 16 by decide), if_neg (show ¬ (19 : Int32) = 17 by decide), if_neg (show ¬ (19 : Int32) = 18 by decide), if_pos (rfl : (19 : Int32) = 19)]
  exact e_b430 (by decide) (by decide) (by decide)
set_option maxRecDepth 100000 in
theorem e_wP20 {zkk zkp : Nat → Int32} {zkv : Nat → Int64} {zfk zfp zat zpn : Int32} {zpk : Nat → Int32} {zpl : Nat → Int64} {zpp : Nat → Int32} {zmd : Int32} {zgv : Int64} : e_RB 20 zfk zfp zpn zpk zpl zpp zmd zgv (m_Mod_wantParts zfk zfp zkk zkp zkv zat zpn zpk zpl zpp zmd zgv (e_op 20)) (e_form zkk zkp zkv (e_chars 20) (zat, 0, 0, 0, 0, 0)) := by
  rw [show e_op 20 = 20 from rfl, show e_chars 20 = [100, 44, 98, 44, 40, 97, 41] from rfl]
  unfold m_Mod_wantParts
  rw [if_neg (show ¬ (20 : Int32) = 0 by decide), if_neg (show ¬ (20 : Int32) = 1 by decide), if_neg (show ¬ (20 : Int32) = 10 by decide), if_neg (show ¬ (20 : Int32) = 11 by decide), if_neg (show ¬ (20 : Int32) = 12 by decide), if_neg (show ¬ (20 : Int32) = 13 by decide), if_neg (show ¬ (20 : Int32) = 14 by decide), if_neg (show ¬ (20 : Int32) = 15 by decide), if_neg (show ¬ (20 : Int32) = 16 by decide), if_neg (show ¬ (20 : Int32) = 17 by decide), if_neg (show ¬ (20 : Int32) = 18 by decide), if_neg (show ¬ (20 : Int32) = 19 by decide), if_pos (rfl : (20 : Int32) = 20)]
  exact e_b430 (by decide) (by decide) (by decide)
set_option maxRecDepth 100000 in
theorem e_wP21 {zkk zkp : Nat → Int32} {zkv : Nat → Int64} {zfk zfp zat zpn : Int32} {zpk : Nat → Int32} {zpl : Nat → Int64} {zpp : Nat → Int32} {zmd : Int32} {zgv : Int64} : e_RB 21 zfk zfp zpn zpk zpl zpp zmd zgv (m_Mod_wantParts zfk zfp zkk zkp zkv zat zpn zpk zpl zpp zmd zgv (e_op 21)) (e_form zkk zkp zkv (e_chars 21) (zat, 0, 0, 0, 0, 0)) := by
  rw [show e_op 21 = 21 from rfl, show e_chars 21 = [] from rfl]
  unfold m_Mod_wantParts
  rw [if_neg (show ¬ (21 : Int32) = 0 by decide), if_neg (show ¬ (21 : Int32) = 1 by decide), if_neg (show ¬ (21 : Int32) = 10 by decide), if_neg (show ¬ (21 : Int32) = 11 by decide), if_neg (show ¬ (21 : Int32) = 12 by decide), if_neg (show ¬ (21 : Int32) = 13 by decide), if_neg (show ¬ (21 : Int32) = 14 by decide), if_neg (show ¬ (21 : Int32) = 15 by decide), if_neg (show ¬ (21 : Int32) = 16 by decide), if_neg (show ¬ (21 : Int32) = 17 by decide), if_neg (show ¬ (21 : Int32) = 18 by decide), if_neg (show ¬ (21 : Int32) = 19 by decide), if_neg (show ¬ (21 : Int32) = 20 by decide), if_pos (rfl : (21 : Int32) = 21)]
  rw [e_form_nil]
  refine e_RBok ?_
  rw [e_rf0, e_rk0, e_rl0, e_rp0, e_rg0, e_rm2 (show ¬ 21 = 22 by decide) (show ¬ (21 = 23 ∨ 21 = 24) by decide) (show ¬ 0 = 1 by decide), Int32.or_zero]
set_option maxRecDepth 100000 in
theorem e_wP22 {zkk zkp : Nat → Int32} {zkv : Nat → Int64} {zfk zfp zat zpn : Int32} {zpk : Nat → Int32} {zpl : Nat → Int64} {zpp : Nat → Int32} {zmd : Int32} {zgv : Int64} : e_RB 22 zfk zfp zpn zpk zpl zpp zmd zgv (m_Mod_wantParts zfk zfp zkk zkp zkv zat zpn zpk zpl zpp zmd zgv (e_op 22)) (e_form zkk zkp zkv (e_chars 22) (zat, 0, 0, 0, 0, 0)) := by
  rw [show e_op 22 = 32 from rfl, show e_chars 22 = [110] from rfl]
  unfold m_Mod_wantParts
  rw [if_neg (show ¬ (32 : Int32) = 0 by decide), if_neg (show ¬ (32 : Int32) = 1 by decide), if_neg (show ¬ (32 : Int32) = 10 by decide), if_neg (show ¬ (32 : Int32) = 11 by decide), if_neg (show ¬ (32 : Int32) = 12 by decide), if_neg (show ¬ (32 : Int32) = 13 by decide), if_neg (show ¬ (32 : Int32) = 14 by decide), if_neg (show ¬ (32 : Int32) = 15 by decide), if_neg (show ¬ (32 : Int32) = 16 by decide), if_neg (show ¬ (32 : Int32) = 17 by decide), if_neg (show ¬ (32 : Int32) = 18 by decide), if_neg (show ¬ (32 : Int32) = 19 by decide), if_neg (show ¬ (32 : Int32) = 20 by decide), if_neg (show ¬ (32 : Int32) = 21 by decide), if_pos (rfl : (32 : Int32) = 32)]
  rcases h1 : e_N zkk zkp zkv 2 (zat, 0, 0, 0, 0, 0) with p | ⟨cu', rg', q', nm', pN', vl'⟩
  · obtain ⟨x, hx⟩ := (e_wn32 (zkk := zkk) (zkp := zkp) (zkv := zkv) (oi := 22) (by decide) (by decide) (zfk := zfk) (zfp := zfp) (zpn := zpn) (zmd := zmd) (zpk := zpk) (zpl := zpl) (zpp := zpp) (zgv := zgv)).1 p h1; obtain ⟨x1, x2, x3, x4, x5, x6⟩ := x
    rw [e_fe ((e_p110 _ _ _ _).trans h1), hx, g_m2_mk, g_m2_mk, g_m2_mk, g_m2_mk, g_m2_mk, g_m2_mk, g_m2_mk, g_m2_mk]; exact ⟨_, rfl⟩
  obtain ⟨hr, hq, hx⟩ := (e_wn32 (zkk := zkk) (zkp := zkp) (zkv := zkv) (oi := 22) (by decide) (by decide) (zfk := zfk) (zfp := zfp) (zpn := zpn) (zmd := zmd) (zpk := zpk) (zpl := zpl) (zpp := zpp) (zgv := zgv)).2 _ _ _ _ _ _ h1; subst hr
  rw [e_fo ((e_p110 _ _ _ _).trans h1), hx, g_m2_mk, g_m2_mk, g_m2_mk, g_m2_mk, g_m2_mk, g_m2_mk, g_m2_mk, g_m2_mk]
  rw [e_form_nil]
  refine e_RBok ?_
  rcases hq with hq | hq <;> subst hq <;> simp [e_rk, e_rm]
set_option maxRecDepth 100000 in
theorem e_wP23 {zkk zkp : Nat → Int32} {zkv : Nat → Int64} {zfk zfp zat zpn : Int32} {zpk : Nat → Int32} {zpl : Nat → Int64} {zpp : Nat → Int32} {zmd : Int32} {zgv : Int64} : e_RB 23 zfk zfp zpn zpk zpl zpp zmd zgv (m_Mod_wantParts zfk zfp zkk zkp zkv zat zpn zpk zpl zpp zmd zgv (e_op 23)) (e_form zkk zkp zkv (e_chars 23) (zat, 0, 0, 0, 0, 0)) := by
  rw [show e_op 23 = 33 from rfl, show e_chars 23 = [117] from rfl]
  unfold m_Mod_wantParts
  rw [if_neg (show ¬ (33 : Int32) = 0 by decide), if_neg (show ¬ (33 : Int32) = 1 by decide), if_neg (show ¬ (33 : Int32) = 10 by decide), if_neg (show ¬ (33 : Int32) = 11 by decide), if_neg (show ¬ (33 : Int32) = 12 by decide), if_neg (show ¬ (33 : Int32) = 13 by decide), if_neg (show ¬ (33 : Int32) = 14 by decide), if_neg (show ¬ (33 : Int32) = 15 by decide), if_neg (show ¬ (33 : Int32) = 16 by decide), if_neg (show ¬ (33 : Int32) = 17 by decide), if_neg (show ¬ (33 : Int32) = 18 by decide), if_neg (show ¬ (33 : Int32) = 19 by decide), if_neg (show ¬ (33 : Int32) = 20 by decide), if_neg (show ¬ (33 : Int32) = 21 by decide), if_neg (show ¬ (33 : Int32) = 32 by decide), if_pos (rfl : (33 : Int32) = 33)]
  rcases h1 : e_num0 zkk zkp zkv (zat, 0, 0, 0, 0, 0) with p | ⟨cu', rg', q', nm', pN', vl'⟩
  · obtain ⟨x, hx⟩ := (e_wn33 (zkk := zkk) (zkp := zkp) (zkv := zkv) (oi := 23) (by decide) (by decide) (zfk := zfk) (zfp := zfp) (zpn := zpn) (zpk := zpk) (zgv := zgv)).1 p h1; obtain ⟨x1, x2, x3⟩ := x
    rw [e_fe ((e_p117 _ _ _ _).trans h1), hx, g_m2_mk, g_m2_mk, g_m2_mk, g_m2_mk, g_m2_mk]; exact ⟨_, rfl⟩
  obtain ⟨hr, hq, hx⟩ := (e_wn33 (zkk := zkk) (zkp := zkp) (zkv := zkv) (oi := 23) (by decide) (by decide) (zfk := zfk) (zfp := zfp) (zpn := zpn) (zpk := zpk) (zgv := zgv)).2 _ _ _ _ _ _ h1; subst hr; subst hq
  rw [e_fo ((e_p117 _ _ _ _).trans h1), hx, g_m2_mk, g_m2_mk, g_m2_mk, g_m2_mk, g_m2_mk]
  rw [e_form_nil]
  refine e_RBok ?_
  simp [e_rk, e_rl, e_rp, e_rm, e_rg]
set_option maxRecDepth 100000 in
theorem e_wP24 {zkk zkp : Nat → Int32} {zkv : Nat → Int64} {zfk zfp zat zpn : Int32} {zpk : Nat → Int32} {zpl : Nat → Int64} {zpp : Nat → Int32} {zmd : Int32} {zgv : Int64} : e_RB 24 zfk zfp zpn zpk zpl zpp zmd zgv (m_Mod_wantParts zfk zfp zkk zkp zkv zat zpn zpk zpl zpp zmd zgv (e_op 24)) (e_form zkk zkp zkv (e_chars 24) (zat, 0, 0, 0, 0, 0)) := by
  rw [show e_op 24 = 34 from rfl, show e_chars 24 = [117] from rfl]
  unfold m_Mod_wantParts
  rw [if_neg (show ¬ (34 : Int32) = 0 by decide), if_neg (show ¬ (34 : Int32) = 1 by decide), if_neg (show ¬ (34 : Int32) = 10 by decide), if_neg (show ¬ (34 : Int32) = 11 by decide), if_neg (show ¬ (34 : Int32) = 12 by decide), if_neg (show ¬ (34 : Int32) = 13 by decide), if_neg (show ¬ (34 : Int32) = 14 by decide), if_neg (show ¬ (34 : Int32) = 15 by decide), if_neg (show ¬ (34 : Int32) = 16 by decide), if_neg (show ¬ (34 : Int32) = 17 by decide), if_neg (show ¬ (34 : Int32) = 18 by decide), if_neg (show ¬ (34 : Int32) = 19 by decide), if_neg (show ¬ (34 : Int32) = 20 by decide), if_neg (show ¬ (34 : Int32) = 21 by decide), if_neg (show ¬ (34 : Int32) = 32 by decide), if_neg (show ¬ (34 : Int32) = 33 by decide), if_pos (rfl : (34 : Int32) = 34)]
  rcases h1 : e_num0 zkk zkp zkv (zat, 0, 0, 0, 0, 0) with p | ⟨cu', rg', q', nm', pN', vl'⟩
  · obtain ⟨x, hx⟩ := (e_wn34 (zkk := zkk) (zkp := zkp) (zkv := zkv) (oi := 24) (by decide) (by decide) (zfk := zfk) (zfp := zfp) (zpn := zpn) (zpk := zpk) (zgv := zgv)).1 p h1; obtain ⟨x1, x2, x3⟩ := x
    rw [e_fe ((e_p117 _ _ _ _).trans h1), hx, g_m2_mk, g_m2_mk, g_m2_mk, g_m2_mk, g_m2_mk]; exact ⟨_, rfl⟩
  obtain ⟨hr, hq, hx⟩ := (e_wn34 (zkk := zkk) (zkp := zkp) (zkv := zkv) (oi := 24) (by decide) (by decide) (zfk := zfk) (zfp := zfp) (zpn := zpn) (zpk := zpk) (zgv := zgv)).2 _ _ _ _ _ _ h1; subst hr; subst hq
  rw [e_fo ((e_p117 _ _ _ _).trans h1), hx, g_m2_mk, g_m2_mk, g_m2_mk, g_m2_mk, g_m2_mk]
  rw [e_form_nil]
  refine e_RBok ?_
  simp [e_rk, e_rl, e_rp, e_rm, e_rg]
theorem e_wP {zkk zkp : Nat → Int32} {zkv : Nat → Int64} {oi : Nat} (h : oi < 25) {zfk zfp zat zpn : Int32} {zpk : Nat → Int32} {zpl : Nat → Int64} {zpp : Nat → Int32} {zmd : Int32} {zgv : Int64} : e_RB oi zfk zfp zpn zpk zpl zpp zmd zgv (m_Mod_wantParts zfk zfp zkk zkp zkv zat zpn zpk zpl zpp zmd zgv (e_op oi)) (e_form zkk zkp zkv (e_chars oi) (zat, 0, 0, 0, 0, 0)) := by
  match oi, h with
  | 0, _ => exact e_wP0
  | 1, _ => exact e_wP1
  | 2, _ => exact e_wP2
  | 3, _ => exact e_wP3
  | 4, _ => exact e_wP4
  | 5, _ => exact e_wP5
  | 6, _ => exact e_wP6
  | 7, _ => exact e_wP7
  | 8, _ => exact e_wP8
  | 9, _ => exact e_wP9
  | 10, _ => exact e_wP10
  | 11, _ => exact e_wP11
  | 12, _ => exact e_wP12
  | 13, _ => exact e_wP13
  | 14, _ => exact e_wP14
  | 15, _ => exact e_wP15
  | 16, _ => exact e_wP16
  | 17, _ => exact e_wP17
  | 18, _ => exact e_wP18
  | 19, _ => exact e_wP19
  | 20, _ => exact e_wP20
  | 21, _ => exact e_wP21
  | 22, _ => exact e_wP22
  | 23, _ => exact e_wP23
  | 24, _ => exact e_wP24
  | n + 25, h => omega
