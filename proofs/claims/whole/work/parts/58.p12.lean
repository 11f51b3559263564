theorem e_U_look {v v' : Nat → Int64} {a a' : Nat → Int32} {n n' : Int32} (h : ∀ nm, e_look v a n nm = e_look v' a' n' nm) (zpk : Nat → Int32) (zpl : Nat → Int64) (zpp : Nat → Int32) : ∀ k, e_U v a n zpk zpl zpp k = e_U v' a' n' zpk zpl zpp k := by
  intro k
  induction k with
  | zero => rfl
  | succ k ih => rw [e_U, e_U, ih, h]
theorem e_rws_look {v v' : Nat → Int64} {a a' : Nat → Int32} {n n' : Int32} (h : ∀ nm, e_look v a n nm = e_look v' a' n' nm) (zpa zpw zpk : Nat → Int32) (zpl : Nat → Int64) : e_rws v a n zpa zpw zpk zpl = e_rws v' a' n' zpa zpw zpk zpl := by
  funext k
  unfold e_rws e_rw
  rw [h]
theorem e_U_le {v : Nat → Int64} {a : Nat → Int32} {n : Int32} {zpk : Nat → Int32} {zpl : Nat → Int64} {zpp : Nat → Int32} : ∀ k, e_U v a n zpk zpl zpp k ≤ 1000000000000 := by
  intro k
  induction k with
  | zero => exact Int.le_refl _
  | succ k ih => rw [e_U]; omega
theorem e_key_le {fk fp : Int32} (hv : e_vf fk fp) : e_key fk fp ≤ 1000000000000 := by
  have g := gz_r fp
  by_cases c0 : fk = 0
  · rw [e_key0 c0]; exact Int.le_refl _
  · rw [e_keyn c0]; have t := e_vf_t hv c0; omega
section E8
variable {zkk zkp : Nat → Int32} {zkv : Nat → Int64} {kk kp : Nat → Int32} {kv : Nat → Int64} {kn kl kx : Int32} {kk' kp' : Nat → Int32} {kv' : Nat → Int64} {kn' kl' kx' : Int32} {tc : Nat → Int32} {tn : Int32} {L : Nat} {fk fp : Int32} {dw ds : Nat → Int32} {dn : Nat → Int64} {da : Nat → Int32} {dl dc sv cu na rg : Int32} {vl : Int64}
theorem e_cls_e (hT : e_Tok zkk zkp zkv kk' kp' kv' kn' kl' L) (hs : m_Tokens_scan kk kp kv kn kl kx tc tn = (kk', kp', kv', kn', kl', kx')) {p : Int32} (h : e_all zkk zkp zkv 481 0 = .error p) : ∃ x, m_Asm_run fk fp kk kp kv kn kl kx dw ds dn da dl dc sv cu na rg vl tc tn = (0, 1, p, x) := by
  have z0 : (0 : Int32).toInt = 0 := rfl
  have hL1 := hT.1.1
  have K := (e_cAll (bb := 1) (sv := 1) hT 481 0 0 0 (m_Arrays_fill 256 dw 0) (m_Arrays_fill 4 ds 0) dn da 0 0 0 0 rg vl (by omega) (by omega) (by omega) (by omega)).1 p h
  obtain ⟨⟨x1, x2, x3, x4, x5, x6, x7, x8, x9, x10, x11⟩, hx⟩ := K
  have hp : m_Asm_pass 0 0 kk' kp' kv' kn' kl' (m_Arrays_fill 256 dw 0) (m_Arrays_fill 4 ds 0) dn da 0 0 sv cu na rg vl 1 = (0, 1, p, x1, x2, x3, x4, x5, x6, x7, x8, x9, x10, x11) := hx
  unfold m_Asm_run
  rw [show m_Fault_clear fk fp = (0, 0) from rfl, g_m2_mk, show m_Program_clear dw ds dl dc = (m_Arrays_fill 256 dw 0, m_Arrays_fill 4 ds 0, 0, 0) from rfl, g_m2_mk, g_m2_mk, g_m2_mk, hs, g_m2_mk, g_m2_mk, g_m2_mk, g_m2_mk, g_m2_mk, hp, g_m2_mk, g_m2_mk, g_m2_mk, g_m2_mk, g_m2_mk, g_m2_mk, g_m2_mk, g_m2_mk, g_m2_mk, g_m2_mk, g_m2_mk, g_m2_mk, g_m2_mk, e_if0, if_neg (show ¬ (1 : Int32) = 0 by decide)]
  exact ⟨_, rfl⟩
theorem e_cls_o (hT : e_Tok zkk zkp zkv kk' kp' kv' kn' kl' L) (hnn : e_nn zkk zkv L) (hs : m_Tokens_scan kk kp kv kn kl kx tc tn = (kk', kp', kv', kn', kl', kx')) {es : List e_Ev} (h : e_all zkk zkp zkv 481 0 = .ok es)
    {zlv0 : Nat → Int64} {zla0 zpa0 zpw0 zpk0 : Nat → Int32} {zpl0 : Nat → Int64} {zpp0 zbg0 : Nat → Int32} (hbg : ∀ c, c < 4 → zbg0 c = 0) {zfk zfp zln : Int32} {zlv : Nat → Int64} {zla : Nat → Int32} {zpn : Int32} {zpa zpw zpk : Nat → Int32} {zpl : Nat → Int64} {zpp zbg : Nat → Int32} {znx : Int32}
    (hR : es.foldl e_rE (0, 0, 0, zlv0, zla0, 0, zpa0, zpw0, zpk0, zpl0, zpp0, zbg0, 0) = (zfk, zfp, zln, zlv, zla, zpn, zpa, zpw, zpk, zpl, zpp, zbg, znx)) :
    ∃ fk2 fp2 dw2 ds2 dn2 da2 dl2 dc2 cu2 na2 rg2 vl2, m_Asm_run fk fp kk kp kv kn kl kx dw ds dn da dl dc sv cu na rg vl tc tn = ((if fk2 = 0 then 1 else 0), fk2, fp2, kk', kp', kv', kn', kl', kx', dw2, ds2, dn2, da2, dl2, dc2, 0, cu2, na2, rg2, vl2) ∧ e_vf fk2 fp2 ∧ e_key fk2 fp2 = min (e_key zfk zfp) (e_U zlv zla zln zpk zpl zpp zpn.toNatClampNeg) ∧
    (fk2 = 0 → dw2 = e_app (m_Arrays_fill 256 dw 0) zpa (e_rws zlv zla zln zpa zpw zpk zpl) zpn.toNatClampNeg ∧ (∀ c, c < 4 → ds2 c = e_nm (zbg c) ∧ 0 ≤ (zbg c).toInt ∧ (zbg c).toInt ≤ 256) ∧ dl2 = zln ∧ dc2 = zpn ∧ (∀ nm, e_look dn2 da2 dl2 nm = e_look zlv zla zln nm) ∧ (∀ i, i < dl2.toNatClampNeg → 0 ≤ (da2 i).toInt)) ∧ (∀ i, i < zln.toNatClampNeg → 0 ≤ (zla i).toInt) := by
  have z0 : (0 : Int32).toInt = 0 := rfl
  have zz : 0 ≤ (0 : Int32).toInt := by decide
  obtain ⟨fw, hfw⟩ : ∃ z, z = m_Arrays_fill 256 dw 0 := ⟨_, rfl⟩
  obtain ⟨fs, hfs⟩ : ∃ z, z = m_Arrays_fill 4 ds 0 := ⟨_, rfl⟩
  have hclr : m_Program_clear dw ds dl dc = (fw, fs, 0, 0) := by
    unfold m_Program_clear
    rw [← hfw, ← hfs]
  have hf4 : ∀ c, c < 4 → fs c = 0 := fun c hc => by rw [hfs]; exact e_fill4 ds c hc
  rw [← hfw]
  have hL1 := hT.1.1
  obtain ⟨w1, w2, w3⟩ := e_all_wf hT.1 hnn 481 0 es (by omega) (by omega) h
  have K := (e_cAll (bb := 1) (sv := 1) hT 481 0 0 0 fw fs dn da 0 0 0 0 rg vl (by omega) (by omega) (by omega) (by omega)).2 es h
  obtain ⟨a1, b1, c1, d1, e1, f1, g1, h1, i1, cu1, rg1, vl1, hf, hx⟩ := K
  have hp : m_Asm_pass 0 0 kk' kp' kv' kn' kl' fw fs dn da 0 0 sv cu na rg vl 1 = (1, a1, b1, c1, d1, e1, f1, g1, h1, 1, cu1, i1, rg1, vl1) := hx
  have q0 : e_Q1 (0, 0, fw, fs, dn, da, 0, 0, 0) (0, 0, 0, zlv0, zla0, 0, zpa0, zpw0, zpk0, zpl0, zpp0, zbg0, 0) := by
    show e_P1 0 0 fs dn da 0 0 0 0 0 0 zlv0 zla0 0 zbg0 0
    refine ⟨⟨rfl, rfl, rfl, rfl⟩, Or.inl ⟨rfl, rfl⟩, ⟨by decide, by decide, by decide, fun _ => by decide⟩, ⟨by decide, by decide, fun _ => rfl⟩, fun nm => rfl, fun i hi => absurd hi (Nat.not_lt_zero _), fun i hi => absurd hi (Nat.not_lt_zero _), fun c hc => ?_, fun c hc => ?_⟩
    · show fs c = e_nm (zbg0 c)
      rw [hf4 c hc, hbg c hc]
      rfl
    · show 0 ≤ (zbg0 c).toInt ∧ ((0 : Int32) = 0 → (zbg0 c).toInt ≤ 256)
      rw [hbg c hc]
      exact ⟨by decide, fun _ => by decide⟩
  have F1 := e_F1 es _ _ q0 w1 (by show (0 : Int32).toInt + _ ≤ 240; omega) (by show (0 : Int32).toInt + _ ≤ 240; omega)
  rw [hf, hR] at F1
  obtain ⟨⟨⟨s1, s2, s3, s4⟩, sv1, ⟨n0, n1, n2, n3⟩, ⟨d0, dd1, dd2⟩, hlk, hda, hza, hds, hzb⟩, hdw⟩ := F1
  have r1 : zfk = a1 := s1
  have r2 : zfp = b1 := s2
  have r4 : zpn = h1 := s4
  dsimp only at hdw
  have rlk : ∀ nm, e_look e1 f1 g1 nm = e_look zlv zla zln nm := hlk
  have rd0 : 0 ≤ g1.toInt := d0
  have rd1 : g1.toInt ≤ zln.toInt := dd1
  have rd2 : a1 = 0 → g1 = zln := dd2
  have rds : ∀ c, c < 4 → d1 c = e_nm (zbg c) := hds
  have rzb : ∀ c, c < 4 → 0 ≤ (zbg c).toInt ∧ (a1 = 0 → (zbg c).toInt ≤ 256) := hzb
  have rda : ∀ i, i < g1.toNatClampNeg → 0 ≤ (f1 i).toInt := hda
  have rv1 : e_vf a1 b1 := sv1
  rw [hdw] at hp
  have cnt := e_rcount es (0, 0, 0, zlv0, zla0, 0, zpa0, zpw0, zpk0, zpl0, zpp0, zbg0, 0) zz zz (by show (0 : Int32).toInt + _ ≤ 1000; omega) (by show (0 : Int32).toInt + _ ≤ 1000; omega)
  rw [hR] at cnt
  have cnt1 : zln.toInt = (0 : Int32).toInt + _ := cnt.1
  have g240 : g1.toInt ≤ 240 := by omega
  have q2 : e_Q2 e1 f1 g1 (e_key a1 b1) fw d1 (a1, b1, fw, d1, e1, f1, g1, 0, 0) (0, 0, 0, zlv0, zla0, 0, zpa0, zpw0, zpk0, zpl0, zpp0, zbg0, 0) := by
    show e_P2 e1 f1 g1 (e_key a1 b1) fw d1 a1 b1 fw d1 0 0 0 0 0 zpa0 zpw0 zpk0 zpl0 zpp0 zbg0 0 ∧ e1 = e1 ∧ f1 = f1 ∧ g1 = g1
    refine ⟨⟨⟨rfl, rfl⟩, rv1, Or.inl ⟨rfl, rfl⟩, ⟨by decide, by decide, by decide⟩, ?_, fun _ => rfl, fun c _ => Or.inr rfl⟩, rfl, rfl, rfl⟩
    show e_key a1 b1 = min (e_key a1 b1) 1000000000000
    have k := e_key_le rv1
    omega
  have F2 := e_F2 rd0 g240 es _ _ q2 w1 zz (by show (0 : Int32).toInt + _ ≤ 1000; omega) (by show (0 : Int32).toInt + _ ≤ 240; omega) (by rw [hR]; show e_key a1 b1 ≤ e_key zfk zfp; rw [r1, r2]; exact Int.le_refl _)
  have K2 := (e_cAll (bb := 0) (sv := 0) hT 481 0 a1 b1 fw d1 e1 f1 g1 0 0 0 rg1 vl1 (by omega) (by omega) (by omega) (by omega)).2 es h
  obtain ⟨a2, b2, c2, d2, e2, f2, g2, h2, i2, cu2, rg2, vl2, hf2, hx2⟩ := K2
  have hp2 : m_Asm_pass a1 b1 kk' kp' kv' kn' kl' fw d1 e1 f1 g1 h1 1 cu1 i1 rg1 vl1 0 = (1, a2, b2, c2, d2, e2, f2, g2, h2, 0, cu2, i2, rg2, vl2) := hx2
  rw [hf2, hR] at F2
  obtain ⟨⟨⟨t1, t2⟩, tv, tz, -, tk, tw, td⟩, t3, t4, t5⟩ := F2
  have y1 : zpn = h2 := t1
  have y3 : e2 = e1 := t3
  have y4 : f2 = f1 := t4
  have y5 : g2 = g1 := t5
  have yv : e_vf a2 b2 := tv
  have yk : e_key a2 b2 = min (e_key a1 b1) (e_U e1 f1 g1 zpk zpl zpp zpn.toNatClampNeg) := tk
  have yw : a2 = 0 → c2 = e_app fw zpa (e_rws e1 f1 g1 zpa zpw zpk zpl) zpn.toNatClampNeg := tw
  have yd : ∀ c, c < 4 → d2 c = e_nm (zbg c) ∨ d2 c = d1 c := td
  subst y3; subst y4; subst y5
  rw [e_U_look rlk, ← r1, ← r2] at yk
  rw [e_rws_look rlk] at yw
  refine ⟨a2, b2, c2, d2, e2, f2, g2, h2, cu2, i2, rg2, vl2, ?_, yv, yk, fun a0 => ?_, hza⟩
  · unfold m_Asm_run
    rw [show m_Fault_clear fk fp = (0, 0) from rfl, g_m2_mk, hclr, g_m2_mk, g_m2_mk, g_m2_mk, hs, g_m2_mk, g_m2_mk, g_m2_mk, g_m2_mk, g_m2_mk, hp, g_m2_mk, g_m2_mk, g_m2_mk, g_m2_mk, g_m2_mk, g_m2_mk, g_m2_mk, g_m2_mk, g_m2_mk, g_m2_mk, g_m2_mk, g_m2_mk, g_m2_mk, e_if1, hp2, g_m2_mk, g_m2_mk, g_m2_mk, g_m2_mk, g_m2_mk, g_m2_mk, g_m2_mk, g_m2_mk, g_m2_mk, g_m2_mk, g_m2_mk, g_m2_mk, g_m2_mk]
    by_cases c : a2 = 0
    · rw [if_pos c, if_pos c]
    · rw [if_neg c, if_neg c]
  · have kz := (e_key_z yv).mp a0
    have kle := e_key_le (fk := zfk) (fp := zfp) (by rw [r1, r2]; exact rv1)
    have ule := e_U_le (v := zlv) (a := zla) (n := zln) (zpk := zpk) (zpl := zpl) (zpp := zpp) zpn.toNatClampNeg
    have z1 : a1 = 0 := (e_key_z rv1).mpr (by rw [← r1, ← r2]; omega)
    refine ⟨yw a0, fun c hc => ⟨?_, (rzb c hc).1, (rzb c hc).2 z1⟩, rd2 z1, y1.symm, rlk, rda⟩
    rcases yd c hc with k | k
    · exact k
    · rw [k]; exact rds c hc
end E8
