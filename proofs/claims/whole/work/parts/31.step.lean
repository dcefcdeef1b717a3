/-! interrupt, halt, one step of the processor -/
section ST
variable (N : Nat) (Z K : xSt) (m g : Nat → Int32) (B pm sh pf pn pl : Int32) (J : Nat → Int32)
theorem sim_int (hN : 64 ≤ N) {t : Nat} (hI : Inv Z K m g t) (hb : t + 100 < 2 ^ 30) : Sim t 100 (f_P_takeInterrupt N (eC Z m g B pm sh)) (f_M_interrupt N (eM Z K m g pf pn pl J sh)) := by
  obtain ⟨hT, hm, hg, hR⟩ := hI
  have hI : Inv Z K m g t := ⟨hT, hm, hg, hR⟩
  have hg4 : Gd (gR (upd (upd (upd g 25 0) 22 0) 23 0)) := (((hg.u25 (Or.inl rfl)).uF (i := 22) (by decide) (by decide) (Or.inl rfl)).uF (i := 23) (by decide) (by decide) (Or.inl rfl)).r
  have hI0 : Inv (zP Z 4) K m g (t + 4) := hI.pp (k := 4) (by decide) (by omega)
  have hI1 := hI0.reg hg4
  unfold f_P_takeInterrupt f_P_takeInterrupt_87 f_M_interrupt f_M_interrupt_85
  rw [xw_25, uC_g, xw_22, uC_g, xw_23, uC_g, c_refresh, xB_some, c_pass, xB_some, xw_25, uM_g, xw_22, uM_g, xw_23, uM_g, m_refresh, xB_some, show (4 : Int32) = nI 4 from rfl, m_pass N K m _ sh pf pn pl J hT (by decide) hN (by omega), xB_some, show nI 4 = (4 : Int32) from rfl]
  generalize gR (upd (upd (upd g 25 0) 22 0) 23 0) = g4 at hg4 hI1
  generalize zP Z 4 = Z4 at hI1
  clear hI0
  obtain ⟨t1, a1, a2, hI2⟩ := hI1.a3 (g4 20 - 1) (by omega)
  obtain ⟨t2, a3, a4, hI3⟩ := hI2.a3 (g4 20 - 2) (by omega)
  rw [xr_21, eC_g, c_push, xB_some, xr_21, eM_g, m_push N K m g4 sh pf pn pl J hI1.1 hN (by omega), xB_some]
  have hg5 : Gd (upd g4 20 ((g4 20 - 2) &&& 65535)) := hg4.u16 (by decide) (by decide) (and16 _)
  have hm5 : Bm (mW (mW m (g4 20 - 1) (g4 21 >>> ((8 : Int32) &&& 31))) (g4 20 - 2) (g4 21)) := (hm.mw _ _).mw _ _
  have hI4 := (hI3.mem hm5).reg hg5
  generalize upd g4 20 ((g4 20 - 2) &&& 65535) = g5 at hg5 hI4
  generalize mW (mW m (g4 20 - 1) (g4 21 >>> ((8 : Int32) &&& 31))) (g4 20 - 2) (g4 21) = m5 at hm5 hI4
  generalize zA (zA Z4 (g4 20 - 1) 3) (g4 20 - 2) 3 = Z5 at hI4
  rw [xr_24, eC_g, xr_24, eM_g]
  by_cases h2 : g5 24 = 2
  · obtain ⟨t3, a5, a6, hI5⟩ := hI4.a3 (pw (g5 16) 255) (by omega)
    obtain ⟨t4, a7, a8, hI6⟩ := hI5.a3 (pw (g5 16) 255 + 1) (by omega)
    rw [if_pos h2, if_pos h2, xr_16, eC_g, xr_16, eM_g, show (256 : Int32) * g5 16 + 255 = pw (g5 16) 255 from pw_eq (hg5.1 16 (by decide)) (by_c 255 (by decide)), show (g5 16 <<< ((8 : Int32) &&& 31)) ||| 255 = pw (g5 16) 255 from rfl, c_readWord, xB_some, m_two N K m5 g5 sh pf pn pl J hI4.1 hN (by omega) hm5, xB_some, xw_21, uC_g, xw_21, uM_g]
    exact ⟨_, K, m5, _, B, pm, sh, pf, pn, pl, J, t4, rfl, rfl, by omega, by omega, hI6.reg (hg5.u16 (i := 21) (by decide) (by decide) (pw_wd (hm5 _) (hm5 _)))⟩
  · rw [if_neg h2, if_neg h2, xw_21, uC_g, xw_21, uM_g]
    exact ⟨Z5, K, m5, _, B, pm, sh, pf, pn, pl, J, t2, rfl, rfl, by omega, by omega, hI4.reg (hg5.u16 (i := 21) (by decide) (by decide) ⟨56, by decide, rfl⟩)⟩
theorem sim_59 (hN : 64 ≤ N) {t : Nat} (hI : Inv Z K m g t) (hb : t + 400 < 2 ^ 30) : Sim t 400 (f_P_next_59 N (eC Z m g (nI 6) pm 0)) (f_M_one_46 N (eM Z K m g 0 0 pl J sh)) := by
  obtain ⟨hT, hm, hg, hR⟩ := hI
  have hI : Inv Z K m g t := ⟨hT, hm, hg, hR⟩
  unfold f_P_next_59 f_M_one_46
  rw [xBo_0, xPu_eq, uM_sh, xr_25, eC_g, xr_25, eM_g]
  obtain ⟨t1, a1, a2, hI1⟩ := hI.a4 (g 21) (by omega)
  by_cases h1 : g 25 = 1
  · rw [if_pos h1, if_pos h1, xr_21, eC_g, c_fetchAt, xB_some, c_refresh, xB_some, xr_21, eM_g, show (4 : Int32) = nI 4 from rfl, m_reach N K m g 0 0 0 pl J hT hN _ (by decide) (by omega), xB_some, m_refresh, xB_some]
    exact ⟨_, K, m, _, nI 6, pm, 0, 0, 0, pl, J, t1, rfl, rfl, a1, by omega, hI1.reg hg.r⟩
  · rw [if_neg h1, if_neg h1]
    unfold f_P_fetchBehindPrefixes
    rw [xB_assoc, c_fetch, xB_some, m_fetch N K m g 0 0 0 pl J hT hN (by omega), xB_some]
    obtain ⟨n, hn, e⟩ := hm (ix (g 21))
    rw [e]
    exact (sim_pre N K m pm 0 pl J hN 3 0 N N _ _ 6 0 t1 n (by decide) (by omega) (by omega) hn (hI1.reg (hg.pc 1).r) (by omega) mh6).up a1 (by omega)
theorem sim_next (hN : 64 ≤ N) {t : Nat} (hI : Inv Z K m g t) (hb : t + 400 < 2 ^ 30) : Sim t 400 (f_P_next N (eC Z m g B pm sh)) (f_M_one N (eM Z K m g pf pn pl J sh)) := by
  obtain ⟨hT, hm, hg, hR⟩ := hI
  have hI : Inv Z K m g t := ⟨hT, hm, hg, hR⟩
  have c0 : ∀ sh, f_P_next_23 N 0 (eC Z m g B pm sh) = f_P_next_59 N (eC Z m g (nI 6) pm 0) := fun sh => by
    unfold f_P_next_23
    rw [xBo_0, xPu_eq, uC_sh, xPu_eq, uC_b, if_pos rfl]
    rfl
  have s0 := sim_59 N Z K m g pm sh pl J hN hI hb
  have tk : nI t &&& 4095 = nI (t % 4096) := pk_andN (by have := hT.2; omega) (m := 4095) 12 (by decide)
  have tm : nI t - nI t / (4096 : Int32) * (4096 : Int32) = nI (t % 4096) := pk_rem (by have := hT.2; omega) (by decide) (by decide)
  unfold f_P_next f_P_next_22 f_M_one
  rw [xPu_eq, uM_pf, xBo_0, xPu_eq, uM_pn, xr_22, eC_g, xr_22, eM_g, eC_sh]
  by_cases h22 : g 22 = 1
  · rw [if_pos h22, if_pos h22, eM_now, hT.1, tm, eM_sh]
    by_cases hs : sh = 0
    · subst hs
      rw [if_pos rfl]
      unfold f_P_next_23
      rw [xBo_0, xPu_eq, uC_sh, xPu_eq, uC_b, if_neg (by decide)]
      unfold f_B_tickOfFrame
      rw [eC_1, hT.1, tk, xB_some]
      by_cases hl : nI (t % 4096) < (32 : Int32)
      · rw [if_pos hl, if_pos hl, if_pos rfl]
        exact ((sim_int N Z K m g 6 pm 0 0 0 pl J hN hI (by omega)).lr).up (Nat.le_refl _) (by omega)
      · rw [if_neg hl, if_neg hl]
        exact s0
    · rw [if_neg hs, if_neg hs, c0, ite_self]
      exact s0
  · rw [if_neg h22, if_neg h22, ite_self, c0]
    exact s0
end ST
