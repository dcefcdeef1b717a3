/-! the last quarter (b ≥ 192) -/
section LA
variable (N : Nat) (Z K : xSt) (m g : Nat → Int32) (b : Nat) (pm sh pf pn pl : Int32) (J : Nat → Int32)
theorem m_odds : ∀ j i n g, i + j = 8 → j < n → f_M_odd_25 N n (nI i) (eM Z K m g pf pn pl J sh) = some (0, eM Z K m (gXs g i j) pf pn pl J sh) := by
  intro j
  induction j with
  | zero =>
    intro i n g hij hn
    obtain ⟨n, rfl⟩ : ∃ q, n = q + 1 := ⟨n - 1, by omega⟩
    have : i = 8 := by omega
    subst this
    rw [f_M_odd_25, if_neg (by decide)]
    rfl
  | succ j ih =>
    intro i n g hij hn
    obtain ⟨n, rfl⟩ : ∃ q, n = q + 1 := ⟨n - 1, by omega⟩
    rw [f_M_odd_25, if_pos (show nI i < 8 from nI_lt (b := 8) (by omega) (by decide)), show nI i + 8 = nI (i + 8) from nI_add i 8, m_change N Z K m g sh pf pn pl J (by omega) (by omega), xB_some, nI_1]
    exact ih (i + 1) n _ (by omega) (by omega)
set_option maxRecDepth 100000 in
theorem sim_mixed (hN : 64 ≤ N) {t : Nat} (hI : Inv Z K m g t) (hb : t + 200 < 2 ^ 30) (hM : Mh b pf) {y : Nat} (hy : y < 8) (h1 : y ≠ 1) : Sim t 200 (f_P_doMixed N (nI y) (eC Z m g (nI b) pm sh)) (f_M_third N (nI y) (eM Z K m g pf pn pl J sh)) := by
  obtain ⟨hT, hm, hg, hR⟩ := hI
  have hI : Inv Z K m g t := ⟨hT, hm, hg, hR⟩
  have hbs := hM.bs
  have h0 := hg.1 0 (by decide)
  rcases (show y = 0 ∨ y = 2 ∨ y = 3 ∨ y = 4 ∨ y = 5 ∨ y = 6 ∨ y = 7 by omega) with rfl | rfl | rfl | rfl | rfl | rfl | rfl
  · obtain ⟨t1, a1, a2, hI1⟩ := hI.a3 (g 21) (by omega)
    obtain ⟨t2, a3, a4, hI2⟩ := hI1.a3 (g 21 + 1) (by omega)
    refine ⟨_, K, m, upd (gPC g 2) 21 (pw (m (ix (g 21 + 1))) (m (ix (g 21)))), nI b, pm, sh, pf, pn, pl, J, t2, ?_, ?_, by omega, by omega, hI2.reg ((hg.pc 2).u16 (by decide) (by decide) (pw_wd (hm _) (hm _)))⟩
    · unfold f_P_doMixed f_P_doMixed_219
      rw [xr_0, if_pos (by decide), c_nextWord, xB_some, xw_21, uC_g]
    · unfold f_M_third f_M_third_176
      rw [if_pos (by decide), m_twoNext N K m g sh pf pn pl J hT hN (by omega) hm, xB_some, xw_21, uM_g]
  · obtain ⟨t1, a1, a2, hI1⟩ := hI.a3 (g 21) (by omega)
    have hI1 := hI1.reg (hg.pc 1)
    obtain ⟨Z2, t2, a3, a4, hI2, o1, o2⟩ := sim_out N (zA Z (g 21) 3) K m (gPC g 1) hN hI1 (by omega) (pw_wd h0 (hm (ix (g 21)))) (g 0)
    have g0 : gPC g 1 0 = g 0 := by unfold gPC; rw [pk_un (by decide)]
    refine ⟨Z2, K, m, gPC g 1, nI b, pm, sh, pf, pn, pl, J, t2, ?_, ?_, by omega, by omega, hI2⟩
    · unfold f_P_doMixed f_P_doMixed_219
      rw [xr_0, if_neg (by decide), if_neg (by decide), if_pos (by decide), c_nextByte, xB_some, eC_g, show ∀ x : Int32, (g 0 <<< ((8 : Int32) &&& 31)) ||| x = pw (g 0) x from fun _ => rfl, o1, xB_some]
    · unfold f_M_third f_M_third_28 f_M_third_74 f_M_third_176
      rw [if_neg (by decide), if_pos (by decide), xr_0, eM_g, m_next N K m g sh pf pn pl J hT hN (by omega), xB_some, xV_eq, if_pos (by decide), xr_0, eM_g, g0, pw_eq h0 (hm _), o2, xB_some]
  · obtain ⟨t1, a1, a2, hI1⟩ := hI.a3 (g 21) (by omega)
    have hI1 := hI1.reg (hg.pc 1)
    obtain ⟨v, Z2, K2, t2, hv, a3, a4, hI2, o1, o2⟩ := sim_in N (zA Z (g 21) 3) K m (gPC g 1) hN hI1 (by omega) (pw_wd h0 (hm (ix (g 21))))
    refine ⟨Z2, K2, m, upd (gPC g 1) 0 v, nI b, pm, sh, pf, pn, pl, J, t2, ?_, ?_, by omega, by omega, hI2.reg ((hg.pc 1).u8 (by decide) hv)⟩
    · unfold f_P_doMixed f_P_doMixed_219
      rw [xr_0, if_neg (by decide), if_neg (by decide), if_neg (by decide), if_pos (by decide), c_nextByte, xB_some, eC_g, show ∀ x : Int32, (g 0 <<< ((8 : Int32) &&& 31)) ||| x = pw (g 0) x from fun _ => rfl, o1, xB_some, xw_0, uC_g]
    · unfold f_M_third f_M_third_28 f_M_third_74 f_M_third_176
      rw [if_neg (by decide), if_neg (by decide), if_pos (by decide), xr_0, eM_g, m_next N K m g sh pf pn pl J hT hN (by omega), xB_some, xV_eq, if_neg (by decide), pw_eq h0 (hm _), o2, xB_some, xw_0, uM_g]
  · obtain ⟨t1, a1, a2, hI1⟩ := hI.a3 (g 20) (by omega)
    obtain ⟨t2, a3, a4, hI2⟩ := hI1.a3 (g 20 + 1) (by omega)
    obtain ⟨t3, a5, a6, hI3⟩ := hI2.a3 (g 20) (by omega)
    obtain ⟨t4, a7, a8, hI4⟩ := hI3.a3 (g 20 + 1) (by omega)
    refine ⟨_, K, mW (mW m (g 20) (hlv b g)) (g 20 + 1) (hlv b g >>> ((8 : Int32) &&& 31)), gHl b g (pw (m (ix (g 20 + 1))) (m (ix (g 20)))), nI b, pm, sh, pf, pn, pl, J, t4, ?_, ?_, by omega, by omega, (hI4.mem ((hm.mw _ _).mw _ _)).reg (hg.hl hbs _)⟩
    · unfold f_P_doMixed f_P_doMixed_219
      rw [xr_0, if_neg (by decide), if_neg (by decide), if_neg (by decide), if_neg (by decide), if_pos (by decide), xr_20, eC_g, c_readWord, xB_some, xr_20, eC_g, c_hl N _ m g b pm sh hbs, xB_some, c_writeWord, xB_some, c_setHl N _ _ g b pm sh hbs, xB_some]
    · unfold f_M_third f_M_third_176
      rw [if_neg (by decide), if_neg (by decide), if_neg (by decide), if_pos (by decide), xr_20, eM_g, m_two N K m g sh pf pn pl J hT hN (by omega) hm, xB_some, xr_20, eM_g, m_main N K m g sh pf pn pl J b _ hM hg, xB_some, m_setTwo N K m g sh pf pn pl J hI2.1 hN (by omega), xB_some, m_setMain N K _ g sh pf pn pl J b _ hM, xB_some]
  · refine ⟨Z, K, m, gX (gX g 4 6) 5 7, nI b, pm, sh, pf, pn, pl, J, t, ?_, ?_, Nat.le_refl _, by omega, hI.reg (gX_gd (gX_gd hg (by decide) (by decide)) (by decide) (by decide))⟩
    · unfold f_P_doMixed f_P_doMixed_219
      rw [xr_0, if_neg (by decide), if_neg (by decide), if_neg (by decide), if_neg (by decide), if_neg (by decide), if_pos (by decide), show (4 : Int32) = nI 4 from rfl, show (6 : Int32) = nI 6 from rfl, show (5 : Int32) = nI 5 from rfl, show (7 : Int32) = nI 7 from rfl, c_swap N Z m g pm sh _ (by decide) (by decide), xB_some, c_swap N Z m _ pm sh _ (by decide) (by decide), xB_some]
    · unfold f_M_third f_M_third_176
      rw [if_neg (by decide), if_neg (by decide), if_neg (by decide), if_neg (by decide), if_pos (by decide), show (4 : Int32) = nI 4 from rfl, show (6 : Int32) = nI 6 from rfl, show (5 : Int32) = nI 5 from rfl, show (7 : Int32) = nI 7 from rfl, m_change N Z K m g sh pf pn pl J (by decide) (by decide), xB_some, m_change N Z K m _ sh pf pn pl J (by decide) (by decide), xB_some]
  · refine ⟨Z, K, m, upd (upd g 22 0) 23 0, nI b, pm, 0, pf, pn, pl, J, t, ?_, ?_, Nat.le_refl _, by omega, hI.reg ((hg.uF (by decide) (by decide) (Or.inl rfl)).uF (by decide) (by decide) (Or.inl rfl))⟩
    · have e : nI 6 - 6 = (0 : Int32) := by rw [show (6 : Int32) = nI 6 from rfl, pk_sub (by decide)]; rfl
      unfold f_P_doMixed f_P_doMixed_179 f_P_doMixed_213 f_P_doMixed_219
      rw [xr_0, if_neg (by decide), if_neg (by decide), if_neg (by decide), if_neg (by decide), if_neg (by decide), if_neg (by decide), if_pos (by decide), e, xw_22, uC_g, xw_23, uC_g, if_neg (by decide), xBo_0, xPu_eq, uC_sh]
    · have e : nI 6 - 6 = (0 : Int32) := by rw [show (6 : Int32) = nI 6 from rfl, pk_sub (by decide)]; rfl
      unfold f_M_third f_M_third_173 f_M_third_176
      rw [if_neg (by decide), if_neg (by decide), if_neg (by decide), if_neg (by decide), if_neg (by decide), e, xw_22, uM_g, xw_23, uM_g, if_neg (by decide), xBo_0, xPu_eq, uM_sh]
  · refine ⟨Z, K, m, upd (upd g 22 1) 23 1, nI b, pm, 1, pf, pn, pl, J, t, ?_, ?_, Nat.le_refl _, by omega, hI.reg ((hg.uF (by decide) (by decide) (Or.inr rfl)).uF (by decide) (by decide) (Or.inr rfl))⟩
    · have e : nI 7 - 6 = (1 : Int32) := by rw [show (6 : Int32) = nI 6 from rfl, pk_sub (by decide)]; rfl
      unfold f_P_doMixed f_P_doMixed_179 f_P_doMixed_213 f_P_doMixed_219
      rw [xr_0, if_neg (by decide), if_neg (by decide), if_neg (by decide), if_neg (by decide), if_neg (by decide), if_neg (by decide), if_neg (by decide), if_pos (by decide), e, xw_22, uC_g, xw_23, uC_g, if_pos (by decide), xBo_1, xPu_eq, uC_sh]
    · have e : nI 7 - 6 = (1 : Int32) := by rw [show (6 : Int32) = nI 6 from rfl, pk_sub (by decide)]; rfl
      unfold f_M_third f_M_third_173 f_M_third_176
      rw [if_neg (by decide), if_neg (by decide), if_neg (by decide), if_neg (by decide), if_neg (by decide), e, xw_22, uM_g, xw_23, uM_g, if_pos (by decide), xBo_1, xPu_eq, uM_sh]
theorem m_last {y : Nat} (hy : y < 8) (z : Int32) (S : xSt) : f_M_last N (nI y) z S = f_M_last_16 N (nI y) z (nI (y / 2)) (b2 (decide (y % 2 = 1))) S := by
  unfold f_M_last
  rw [xV_eq, ny1 hy, nrm hy]
  rcases (show y % 2 = 0 ∨ y % 2 = 1 by omega) with h | h
  · rw [h, if_neg (by decide)]; rfl
  · rw [h, if_pos (show nI 1 = (1 : Int32) from rfl)]; rfl
set_option maxRecDepth 100000 in
theorem sim_ret (hN : 64 ≤ N) {t : Nat} (hI : Inv Z K m g t) (hb : t + 100 < 2 ^ 30) : Sim t 100 (xB (f_P_pop N (eC Z m g (nI b) pm sh)) fun v S => xWr S 10 26 21 v fun S6 => some (0, S6)) (xB (f_M_pop N (eM Z K m g pf pn pl J sh)) fun v S => xWr S 2 26 21 v fun S5 => some (0, S5)) := by
  obtain ⟨hT, hm, hg, hR⟩ := hI
  have hI : Inv Z K m g t := ⟨hT, hm, hg, hR⟩
  obtain ⟨t1, a1, a2, hI1⟩ := hI.a3 (g 20) (by omega)
  obtain ⟨t2, a3, a4, hI2⟩ := hI1.a3 (g 20 + 1) (by omega)
  have hg2 : Gd (upd g 20 ((g 20 + 2) &&& 65535)) := hg.u16 (by decide) (by decide) (and16 _)
  refine ⟨_, K, m, _, nI b, pm, sh, pf, pn, pl, J, t2, ?_, ?_, by omega, by omega, hI2.reg (hg2.u16 (i := 21) (by decide) (by decide) (pw_wd (hm (ix (g 20 + 1))) (hm (ix (g 20)))))⟩
  · rw [c_pop, xB_some, xw_21, uC_g]
  · rw [m_pop N K m g sh pf pn pl J hT hN (by omega) hm, xB_some, xw_21, uM_g]
set_option maxRecDepth 100000 in
theorem sim_call (hN : 64 ≤ N) {t : Nat} (hI : Inv Z K m g t) (hb : t + 100 < 2 ^ 30) {w : Int32} (hw : Wd w) : Sim t 100 (f_P_call N w (eC Z m g (nI b) pm sh)) (xRd (eM Z K m g pf pn pl J sh) 2 26 21 fun v => xB (f_M_push N v (eM Z K m g pf pn pl J sh)) fun _ S => xWr S 2 26 21 w fun S6 => some (0, S6)) := by
  obtain ⟨hT, hm, hg, hR⟩ := hI
  have hI : Inv Z K m g t := ⟨hT, hm, hg, hR⟩
  obtain ⟨t1, a1, a2, hI1⟩ := hI.a3 (g 20 - 1) (by omega)
  obtain ⟨t2, a3, a4, hI2⟩ := hI1.a3 (g 20 - 2) (by omega)
  have hg2 : Gd (upd g 20 ((g 20 - 2) &&& 65535)) := hg.u16 (by decide) (by decide) (and16 _)
  refine ⟨_, K, _, _, nI b, pm, sh, pf, pn, pl, J, t2, c_call N Z m g pm sh (nI b) w, ?_, by omega, by omega, (hI2.mem ((hm.mw _ _).mw _ _)).reg (hg2.u16 (by decide) (by decide) hw)⟩
  rw [xr_21, eM_g, m_push N K m g sh pf pn pl J hT hN (by omega), xB_some, xw_21, uM_g]
set_option maxRecDepth 100000 in
theorem sim_push (hN : 64 ≤ N) {t : Nat} (hI : Inv Z K m g t) (hb : t + 100 < 2 ^ 30) (w : Int32) : Sim t 100 (xB (f_P_push N w (eC Z m g (nI b) pm sh)) fun _ S => some (0, S)) (xB (f_M_push N w (eM Z K m g pf pn pl J sh)) fun _ S => some (0, S)) := by
  obtain ⟨hT, hm, hg, hR⟩ := hI
  have hI : Inv Z K m g t := ⟨hT, hm, hg, hR⟩
  obtain ⟨t1, a1, a2, hI1⟩ := hI.a3 (g 20 - 1) (by omega)
  obtain ⟨t2, a3, a4, hI2⟩ := hI1.a3 (g 20 - 2) (by omega)
  have hg2 : Gd (upd g 20 ((g 20 - 2) &&& 65535)) := hg.u16 (by decide) (by decide) (and16 _)
  refine ⟨_, K, mW (mW m (g 20 - 1) (w >>> ((8 : Int32) &&& 31))) (g 20 - 2) w, _, nI b, pm, sh, pf, pn, pl, J, t2, ?_, ?_, by omega, by omega, (hI2.mem ((hm.mw _ _).mw _ _)).reg hg2⟩
  · rw [c_push, xB_some]
  · rw [m_push N K m g sh pf pn pl J hT hN (by omega), xB_some]
set_option maxRecDepth 100000 in
theorem sim_pop (hN : 64 ≤ N) {t : Nat} (hI : Inv Z K m g t) (hb : t + 100 < 2 ^ 30) (hM : Mh b pf) {y : Nat} (hy : y < 8) : Sim t 100 (f_P_popOrGo N (nI y) (eC Z m g (nI b) pm sh)) (f_M_last N (nI y) (nI 1) (eM Z K m g pf pn pl J sh)) := by
  obtain ⟨hT, hm, hg, hR⟩ := hI
  have hI : Inv Z K m g t := ⟨hT, hm, hg, hR⟩
  have hbs := hM.bs
  have w1 := hlv_wd hg hbs
  rw [m_last N hy]
  obtain ⟨t1, a1, a2, hI1⟩ := hI.a3 (g 20) (by omega)
  obtain ⟨t2, a3, a4, hI2⟩ := hI1.a3 (g 20 + 1) (by omega)
  have hg2 : Gd (upd g 20 ((g 20 + 2) &&& 65535)) := hg.u16 (by decide) (by decide) (and16 _)
  -- POP of a pair
  have pp : ∀ k : Nat, k < 3 → Sim t 100 (f_P_popOrGo_120 N (nI (2 * k)) (eC Z m g (nI b) pm sh)) (xB (f_M_pop N (eM Z K m g pf pn pl J sh)) fun v3 S4 => xB (f_M_setW N (nI k) v3 S4) fun v5 S6 => some (0, S6)) := by
    intro k hk
    refine ⟨_, K, m, gPr b (upd g 20 ((g 20 + 2) &&& 65535)) k (pw (m (ix (g 20 + 1))) (m (ix (g 20)))), nI b, pm, sh, pf, pn, pl, J, t2, ?_, ?_, by omega, by omega, hI2.reg (hg2.pr hbs (by omega) _)⟩
    · unfold f_P_popOrGo_120 f_P_popOrGo_134
      rw [c_pop, xB_some, ny1 (by omega), show 2 * k / 2 = k by omega, c_setPair N _ m _ b pm sh hbs rfl (by omega), xB_some]
    · rw [m_pop N K m g sh pf pn pl J hT hN (by omega) hm, xB_some, m_setW N K m _ sh pf pn pl J b _ hM rfl (by omega), xB_some]
  rcases (show y = 0 ∨ y = 1 ∨ y = 2 ∨ y = 3 ∨ y = 4 ∨ y = 5 ∨ y = 6 ∨ y = 7 by omega) with rfl | rfl | rfl | rfl | rfl | rfl | rfl | rfl
  · exact pp 0 (by decide)
  · have := (sim_ret N Z K m g b pm sh pf pn pl J hN hI hb).r
    exact this
  · exact pp 1 (by decide)
  · refine ⟨Z, K, m, gXs g 2 6, nI b, pm, sh, pf, pn, pl, J, t, ?_, ?_, Nat.le_refl _, by omega, hI.reg (gXs_gd 6 2 g hg (by decide))⟩
    · show xB (f_G_swapWithSecond_2 N N (nI 7) (nI 2) (eC Z m g (nI b) pm sh)) (fun v7 S8 => some (0, S8)) = _
      rw [c_swaps N Z m pm sh (nI b) (to := 7) (by decide) 6 2 N g (by decide) (by omega), xB_some]
    · show xB (f_M_odd_25 N N (nI 2) (eM Z K m g pf pn pl J sh)) (fun v1 S2 => some (0, S2)) = _
      rw [m_odds N Z K m sh pf pn pl J 6 2 N g (by decide) (by omega), xB_some]
  · exact pp 2 (by decide)
  · refine ⟨Z, K, m, upd g 21 (hlv b g), nI b, pm, sh, pf, pn, pl, J, t, ?_, ?_, Nat.le_refl _, by omega, hI.reg (hg.u16 (by decide) (by decide) w1)⟩
    · show xB (f_G_hl N (eC Z m g (nI b) pm sh)) (fun v11 S12 => xWr S12 10 26 21 v11 fun S13 => some (0, S13)) = _
      rw [c_hl N Z m g b pm sh hbs, xB_some, xw_21, uC_g]
    · show xB (xB (f_M_main N (eM Z K m g pf pn pl J sh)) fun v4 S5 => xWr S5 2 26 21 v4 fun S6 => some (0, S6)) (fun v1 S2 => some (0, S2)) = _
      rw [m_main N K m g sh pf pn pl J b Z hM hg, xB_some, xw_21, uM_g, xB_some]
  · refine ⟨_, K, m, gSp (upd g 20 ((g 20 + 2) &&& 65535)) 0 (pw (m (ix (g 20 + 1))) (m (ix (g 20)))), nI b, pm, sh, pf, pn, pl, J, t2, ?_, ?_, by omega, by omega, hI2.reg (gSp_gd hg2 (by decide) _)⟩
    · show xB (f_P_pop N (eC Z m g (nI b) pm sh)) (fun v15 S16 => xB (f_G_split N (nI 0) v15 S16) fun v17 S18 => some (0, S18)) = _
      rw [c_pop, xB_some, c_split N _ m _ pm sh _ _ rfl (by decide), xB_some]
    · show xB (f_M_pop N (eM Z K m g pf pn pl J sh)) (fun v3 S4 => xB (f_M_setPair N (nI 0) v3 S4) fun v7 S8 => some (0, S8)) = _
      rw [m_pop N K m g sh pf pn pl J hT hN (by omega) hm, xB_some, m_setPair N K m _ sh pf pn pl J _ _ rfl (by decide), xB_some]
  · refine ⟨Z, K, m, upd g 20 (hlv b g), nI b, pm, sh, pf, pn, pl, J, t, ?_, ?_, Nat.le_refl _, by omega, hI.reg (hg.u16 (by decide) (by decide) w1)⟩
    · show xB (f_G_hl N (eC Z m g (nI b) pm sh)) (fun v11 S12 => xWr S12 10 26 20 v11 fun S13 => some (0, S13)) = _
      rw [c_hl N Z m g b pm sh hbs, xB_some, xw_20, uC_g]
    · show xB (xB (f_M_main N (eM Z K m g pf pn pl J sh)) fun v4 S5 => xWr S5 2 26 20 v4 fun S6 => some (0, S6)) (fun v1 S2 => some (0, S2)) = _
      rw [m_main N K m g sh pf pn pl J b Z hM hg, xB_some, xw_20, uM_g, xB_some]
set_option maxRecDepth 100000 in
theorem sim_pushOrCall (hN : 64 ≤ N) {t : Nat} (hI : Inv Z K m g t) (hb : t + 200 < 2 ^ 30) (hM : Mh b pf) {y : Nat} (hy : y < 8) : Sim t 200 (f_P_pushOrCall N (nI y) (eC Z m g (nI b) pm sh)) (f_M_last N (nI y) (nI 5) (eM Z K m g pf pn pl J sh)) := by
  obtain ⟨hT, hm, hg, hR⟩ := hI
  have hI : Inv Z K m g t := ⟨hT, hm, hg, hR⟩
  have hbs := hM.bs
  rw [m_last N hy]
  unfold f_P_pushOrCall
  rw [nod hy]
  rcases (show y % 2 = 0 ∨ y % 2 = 1 by omega) with h | h
  · rw [h, if_neg (by decide), decide_eq_false (by omega)]
    show Sim t 200 _ (if nI (y / 2) = 3 then _ else _)
    by_cases h6 : y = 6
    · subst h6
      rw [if_pos (by decide), if_pos (by decide)]
      show Sim t 200 (xB (f_G_joined N 0 (eC Z m g (nI b) pm sh)) _) (xB (f_M_pair N 0 (eM Z K m g pf pn pl J sh)) _)
      rw [c_joined N Z m g pm sh _ (a := 0) (j := 0) rfl (by decide), xB_some, m_pair N K m g sh pf pn pl J Z (a := 0) (j := 0) rfl (by decide) hg, xB_some]
      exact (sim_push N Z K m g b pm sh pf pn pl J hN hI (by omega) _).up (Nat.le_refl _) (by omega)
    · rw [if_neg (nI_ne (x := 6) (c := 6) rfl (by omega) (by decide) h6), if_neg (nI_ne (x := 3) (c := 3) rfl (by omega) (by decide) (by omega)), ny1 hy, c_pair N Z m g b pm sh hbs rfl (by omega), xB_some]
      show Sim t 200 _ (xB (f_M_w N (nI (y / 2)) (eM Z K m g pf pn pl J sh)) _)
      rw [m_w N K m g sh pf pn pl J b Z hM hg rfl (by omega), xB_some]
      exact (sim_push N Z K m g b pm sh pf pn pl J hN hI (by omega) _).up (Nat.le_refl _) (by omega)
  · rw [h, if_pos (show nI 1 = (1 : Int32) from rfl)]
    obtain ⟨t1, a1, a2, hI1⟩ := hI.a3 (g 21) (by omega)
    obtain ⟨t2, a3, a4, hI2⟩ := hI1.a3 (g 21 + 1) (by omega)
    have := (sim_call N _ K m (gPC g 2) b pm sh pf pn pl J hN (hI2.reg (hg.pc 2)) (by omega) (pw_wd (hm (ix (g 21 + 1))) (hm (ix (g 21))))).l
    rw [c_nextWord, xB_some]
    unfold f_M_last_16 f_M_last_64 f_M_last_83 f_M_last_88 f_M_last_111 f_M_last_134 f_M_last_258 f_P_pushOrCall_49
    rw [if_neg (by decide), if_neg (by decide), if_neg (by decide), if_pos (by decide), if_neg (by decide), m_twoNext N K m g sh pf pn pl J hT hN (by omega) hm, xB_some, if_pos (by decide), if_neg (by decide), if_neg (by decide)]
    simp only [if_neg (show ¬ (1 : Int32) = 0 by decide)]
    exact this.up (by omega) (by omega)
set_option maxRecDepth 100000 in
theorem sim_last (hN : 64 ≤ N) {t : Nat} (hI : Inv Z K m g t) (hb : t + 200 < 2 ^ 30) {y z : Nat} (hy : y < 8) (hz : z = 0 ∨ z = 2 ∨ z = 4 ∨ z = 6 ∨ z = 7) : Sim t 200 (f_P_doLast N (nI y) (nI z) (eC Z m g (nI b) pm sh)) (f_M_last N (nI y) (nI z) (eM Z K m g pf pn pl J sh)) := by
  obtain ⟨hT, hm, hg, hR⟩ := hI
  have hI : Inv Z K m g t := ⟨hT, hm, hg, hR⟩
  rw [m_last N hy]
  obtain ⟨t1, a1, a2, hI1⟩ := hI.a3 (g 21) (by omega)
  obtain ⟨t2, a3, a4, hI2⟩ := hI1.a3 (g 21 + 1) (by omega)
  rcases hz with rfl | rfl | rfl | rfl | rfl
  · show Sim t 200 (xB (f_P_condition N (nI y) (eC Z m g (nI b) pm sh)) fun v2 S3 => if v2 = 0 then some (0, S3) else xB (f_P_pop N S3) fun v S => xWr S 10 26 21 v fun S6 => some (0, S6)) (xB (f_M_cond N (nI y) (eM Z K m g pf pn pl J sh)) fun v2 S3 => if v2 = 0 then some (0, S3) else xB (f_M_pop N S3) fun v S => xWr S 2 26 21 v fun S5 => some (0, S5))
    rw [c_cond N Z m g _ pm sh hy, xB_some, m_cond N Z K m g sh pf pn pl J hy, xB_some]
    by_cases hc : cnv y (g 1) = 0
    · rw [if_pos hc, if_pos hc]
      exact ⟨Z, K, m, g, nI b, pm, sh, pf, pn, pl, J, t, rfl, rfl, Nat.le_refl _, by omega, hI⟩
    · rw [if_neg hc, if_neg hc]
      exact (sim_ret N Z K m g b pm sh pf pn pl J hN hI (by omega)).up (Nat.le_refl _) (by omega)
  · show Sim t 200 (xB (f_P_nextWord N (eC Z m g (nI b) pm sh)) fun v1 S2 => xB (f_P_condition N (nI y) S2) fun v9 S10 => if v9 = 0 then some (0, S10) else xWr S10 10 26 21 v1 fun S11 => some (0, S11)) (xB (f_M_twoNext N (eM Z K m g pf pn pl J sh)) fun v1 S2 => xB (f_M_cond N (nI y) S2) fun v3 S4 => if v3 = 0 then xRd S4 2 26 21 fun v => xWr S4 2 26 21 v fun S => some (0, S) else xWr S4 2 26 21 v1 fun S => some (0, S))
    rw [c_nextWord, xB_some, c_cond N _ m _ _ pm sh hy, xB_some, m_twoNext N K m g sh pf pn pl J hT hN (by omega) hm, xB_some, m_cond N _ K m _ sh pf pn pl J hy, xB_some]
    by_cases hc : cnv y (gPC g 2 1) = 0
    · rw [if_pos hc, if_pos hc]
      refine ⟨_, K, m, gPC g 2, nI b, pm, sh, pf, pn, pl, J, t2, rfl, ?_, by omega, by omega, hI2.reg (hg.pc 2)⟩
      rw [xr_21, eM_g, xw_21, uM_g, upd_self]
    · rw [if_neg hc, if_neg hc]
      refine ⟨_, K, m, _, nI b, pm, sh, pf, pn, pl, J, t2, ?_, ?_, by omega, by omega, hI2.reg ((hg.pc 2).u16 (i := 21) (by decide) (by decide) (pw_wd (hm (ix (g 21 + 1))) (hm (ix (g 21)))))⟩
      · rw [xw_21, uC_g]
      · rw [xw_21, uM_g]
  · show Sim t 200 (xB (f_P_nextWord N (eC Z m g (nI b) pm sh)) fun v1 S2 => xB (f_P_condition N (nI y) S2) fun v9 S10 => if v9 = 0 then some (0, S10) else xB (f_P_call N v1 S10) fun _ S11 => some (0, S11)) (xB (f_M_twoNext N (eM Z K m g pf pn pl J sh)) fun v1 S2 => xB (f_M_cond N (nI y) S2) fun v3 S4 => if v3 = 0 then xRd S4 2 26 21 fun v => xWr S4 2 26 21 v fun S => some (0, S) else xRd S4 2 26 21 fun v => xB (f_M_push N v S4) fun _ S5 => xWr S5 2 26 21 v1 fun S => some (0, S))
    rw [c_nextWord, xB_some, c_cond N _ m _ _ pm sh hy, xB_some, m_twoNext N K m g sh pf pn pl J hT hN (by omega) hm, xB_some, m_cond N _ K m _ sh pf pn pl J hy, xB_some]
    by_cases hc : cnv y (gPC g 2 1) = 0
    · rw [if_pos hc, if_pos hc]
      refine ⟨_, K, m, gPC g 2, nI b, pm, sh, pf, pn, pl, J, t2, rfl, ?_, by omega, by omega, hI2.reg (hg.pc 2)⟩
      rw [xr_21, eM_g, xw_21, uM_g, upd_self]
    · rw [if_neg hc, if_neg hc]
      exact (sim_call N _ K m (gPC g 2) b pm sh pf pn pl J hN (hI2.reg (hg.pc 2)) (by omega) (pw_wd (hm (ix (g 21 + 1))) (hm (ix (g 21))))).l.up (by omega) (by omega)
  · show Sim t 200 (xB (f_P_nextByte N (eC Z m g (nI b) pm sh)) fun v20 S21 => xB (f_P_operate N (nI y) v20 S21) fun _ S => some (0, S)) (xB (f_M_next N (eM Z K m g pf pn pl J sh)) fun v17 S18 => xB (f_M_work N (nI y) v17 S18) fun _ S => some (0, S))
    rw [c_nextByte, xB_some, m_next N K m g sh pf pn pl J hT hN (by omega), xB_some]
    obtain ⟨g', J', h1, h2, h3⟩ := sim_work N (zA Z (g 21) 3) K m (gPC g 1) (nI b) pm sh pf pn pl J hN (hg.pc 1) (hm (ix (g 21))) hy
    rw [h2, xB_some, h3, xB_some]
    exact ⟨_, K, m, g', nI b, pm, sh, pf, pn, pl, J', t1, rfl, rfl, by omega, by omega, hI1.reg h1⟩
  · have e8 : (8 : Int32) * nI y = nI (8 * y) := by rw [show (8 : Int32) = nI 8 from rfl, pk_mul]
    have := (sim_call N Z K m g b pm sh pf pn pl J hN hI (by omega) (w := (8 : Int32) * nI y) ⟨8 * y, by omega, e8⟩).l
    exact this.up (Nat.le_refl _) (by omega)
end LA
