/-! the first quarter, whole -/
theorem xB_assoc (x : xR) (f h : Int32 → xSt → xR) : xB (xB x f) h = xB x fun v S => xB (f v S) h := by
  cases x with
  | none => rfl
  | some q => rfl
theorem Mh.mg {b : Nat} {pf pn : Int32} (h : Mh b pf) (hp : pn = 0) : Mg b pf pn := by
  rcases h with ⟨h1, h2⟩ | ⟨h1, h2⟩ | ⟨h1, h2⟩
  · exact Or.inl ⟨h1, h2⟩
  · exact Or.inr (Or.inr (Or.inl ⟨h1, h2, hp⟩))
  · exact Or.inr (Or.inr (Or.inr ⟨h1, h2, hp⟩))
section F3
variable (N : Nat) (Z K : xSt) (m g : Nat → Int32) (b : Nat) (pm sh pf pn pl : Int32) (J : Nat → Int32)
theorem c_first {y : Nat} (hy : y < 8) (z : Int32) (S : xSt) : f_P_doFirst N (nI y) z S = f_P_doFirst_16 N (nI y) z (nI (y / 2)) (b2 (decide (y % 2 = 1))) S := by
  unfold f_P_doFirst
  rw [xV_eq, ny1 hy, nod hy]
  rcases (show y % 2 = 0 ∨ y % 2 = 1 by omega) with h | h
  · rw [h, if_neg (by decide)]; rfl
  · rw [h, if_pos (show nI 1 = (1 : Int32) from rfl)]; rfl
theorem m_first {y : Nat} (hy : y < 8) (z : Int32) (S : xSt) : f_M_first N (nI y) z S = f_M_first_16 N (nI y) z (nI (y / 2)) (b2 (decide (y % 2 = 1))) S := by
  unfold f_M_first
  rw [xV_eq, ny1 hy, nrm hy]
  rcases (show y % 2 = 0 ∨ y % 2 = 1 by omega) with h | h
  · rw [h, if_neg (by decide)]; rfl
  · rw [h, if_pos (show nI 1 = (1 : Int32) from rfl)]; rfl
theorem sim_first (hN : 64 ≤ N) {t : Nat} (hI : Inv Z K m g t) (hb : t + 200 < 2 ^ 30) (hM : Mh b pf) (hp : pn = 0) {y z : Nat} (hy : y < 8) (hz : z < 8) (hn : ¬ (y = 6 ∧ 4 ≤ z ∧ z ≤ 6)) : Sim t 200 (f_P_doFirst N (nI y) (nI z) (eC Z m g (nI b) pm sh)) (f_M_first N (nI y) (nI z) (eM Z K m g pf pn pl J sh)) := by
  obtain ⟨hT, hm, hg, hR⟩ := hI
  have hI : Inv Z K m g t := ⟨hT, hm, hg, hR⟩
  have hbs := hM.bs
  rw [c_first N hy, m_first N hy]
  have hk : y / 2 < 4 := by omega
  generalize hq : decide (y % 2 = 1) = q
  rcases (show z = 0 ∨ z = 1 ∨ z = 2 ∨ z = 3 ∨ z = 4 ∨ z = 5 ∨ z = 6 ∨ z = 7 by omega) with rfl | rfl | rfl | rfl | rfl | rfl | rfl | rfl
  · have := (sim_jump N Z K m g b pm sh pf pn pl J hN hI (by omega) hy).lr
    exact this.up (Nat.le_refl _) (by omega)
  · cases q
    · obtain ⟨t1, a1, a2, hI1⟩ := hI.a3 (g 21) (by omega)
      obtain ⟨t2, a3, a4, hI2⟩ := hI1.a3 (g 21 + 1) (by omega)
      refine ⟨_, K, m, gPr b (gPC g 2) (y / 2) (pw (m (ix (g 21 + 1))) (m (ix (g 21)))), nI b, pm, sh, pf, pn, pl, J, t2, ?_, ?_, by omega, by omega, hI2.reg ((hg.pc 2).pr hbs hk _)⟩
      · show xB (f_P_nextWord N (eC Z m g (nI b) pm sh)) (fun v5 S6 => xB (f_G_setPair N (nI (y / 2)) v5 S6) fun v7 S8 => some (0, S8)) = _
        rw [c_nextWord, xB_some, c_setPair N _ m _ b pm sh hbs rfl hk, xB_some]
      · show xB (f_M_twoNext N (eM Z K m g pf pn pl J sh)) (fun v11 S12 => xB (f_M_setW N (nI (y / 2)) v11 S12) fun v13 S14 => some (0, S14)) = _
        rw [m_twoNext N K m g sh pf pn pl J hT hN (by omega) hm, xB_some, m_setW N K m _ sh pf pn pl J b _ hM rfl hk, xB_some]
    · have := (sim_addpair N Z K m g b pm sh pf pn pl J hN hI hM hk).lr
      rw [xB_assoc] at this
      exact this.up (Nat.le_refl _) (by omega)
  · have := (sim_store N Z K m g b pm sh pf pn pl J hN hI (by omega) hM hk q).lr
    cases q
    · exact this.up (Nat.le_refl _) (by omega)
    · exact this.up (Nat.le_refl _) (by omega)
  · cases q
    · refine ⟨Z, K, m, gPr b g (y / 2) (prv b g (y / 2) + 1), nI b, pm, sh, pf, pn, pl, J, t, ?_, ?_, Nat.le_refl _, by omega, hI.reg (hg.pr hbs hk _)⟩
      · show xB (f_G_pair N (nI (y / 2)) (eC Z m g (nI b) pm sh)) (fun v17 S18 => xB (f_G_setPair N (nI (y / 2)) (v17 + 1) S18) fun v1 S2 => some (0, S2)) = _
        rw [c_pair N Z m g b pm sh hbs rfl hk, xB_some, c_setPair N Z m g b pm sh hbs rfl hk, xB_some]
      · show xB (f_M_w N (nI (y / 2)) (eM Z K m g pf pn pl J sh)) (fun v5 S6 => xB (f_M_setW N (nI (y / 2)) (v5 + 1) S6) fun v1 S2 => some (0, S2)) = _
        rw [m_w N K m g sh pf pn pl J b Z hM hg rfl hk, xB_some, m_setW N K m g sh pf pn pl J b Z hM rfl hk, xB_some]
    · refine ⟨Z, K, m, gPr b g (y / 2) (prv b g (y / 2) + (-1)), nI b, pm, sh, pf, pn, pl, J, t, ?_, ?_, Nat.le_refl _, by omega, hI.reg (hg.pr hbs hk _)⟩
      · show xB (f_G_pair N (nI (y / 2)) (eC Z m g (nI b) pm sh)) (fun v17 S18 => xB (f_G_setPair N (nI (y / 2)) (v17 + (-1)) S18) fun v1 S2 => some (0, S2)) = _
        rw [c_pair N Z m g b pm sh hbs rfl hk, xB_some, c_setPair N Z m g b pm sh hbs rfl hk, xB_some]
      · show xB (f_M_w N (nI (y / 2)) (eM Z K m g pf pn pl J sh)) (fun v5 S6 => xB (f_M_setW N (nI (y / 2)) (v5 - 1) S6) fun v1 S2 => some (0, S2)) = _
        rw [m_w N K m g sh pf pn pl J b Z hM hg rfl hk, xB_some, m_setW N K m g sh pf pn pl J b Z hM rfl hk, xB_some, Int32.sub_eq_add_neg]
  · have h6 : y ≠ 6 := fun e => hn ⟨e, by decide, by decide⟩
    have n6 : ¬ nI y = 6 := nI_ne (x := 6) (c := 6) rfl (by omega) (by decide) h6
    have := (sim_count N Z K m g b pm sh pf pn pl J hN hI (by omega) hbs (hM.mg hp) hy h6 false).lr
    simp only [xB_assoc] at this
    have em : f_M_first_16 N (nI y) (nI 4) (nI (y / 2)) (b2 q) (eM Z K m g pf pn pl J sh) = f_M_first_138 N (nI y) (nI 4) (eM Z K m g pf pn pl J sh) := by
      show (if nI y = 6 then _ else _) = _
      rw [if_neg n6]
    rw [em]
    exact this.up (Nat.le_refl _) (by omega)
  · have h6 : y ≠ 6 := fun e => hn ⟨e, by decide, by decide⟩
    have n6 : ¬ nI y = 6 := nI_ne (x := 6) (c := 6) rfl (by omega) (by decide) h6
    have := (sim_count N Z K m g b pm sh pf pn pl J hN hI (by omega) hbs (hM.mg hp) hy h6 true).lr
    simp only [xB_assoc] at this
    have em : f_M_first_16 N (nI y) (nI 5) (nI (y / 2)) (b2 q) (eM Z K m g pf pn pl J sh) = f_M_first_138 N (nI y) (nI 5) (eM Z K m g pf pn pl J sh) := by
      show (if nI y = 6 then _ else _) = _
      rw [if_neg n6]
    rw [em]
    exact this.up (Nat.le_refl _) (by omega)
  · have h6 : y ≠ 6 := fun e => hn ⟨e, by decide, by decide⟩
    have n6 : ¬ nI y = 6 := nI_ne (x := 6) (c := 6) rfl (by omega) (by decide) h6
    obtain ⟨t1, a1, a2, hI1⟩ := hI.a3 (g 21) (by omega)
    refine ⟨_, K, m, gSg b (gPC g 1) y (m (ix (g 21))), nI b, pm, sh, pf, pn, pl, J, t1, ?_, ?_, by omega, by omega, hI1.reg ((hg.pc 1).sg hbs hy (hm _))⟩
    · show xB (f_P_nextByte N (eC Z m g (nI b) pm sh)) (fun v22 S23 => xB (f_P_setOperand N (nI y) v22 S23) fun v24 S25 => some (0, S25)) = _
      rw [c_nextByte, xB_some, c_setOperand N _ m _ b pm sh hbs rfl hy h6, xB_some]
    · have em : f_M_first_16 N (nI y) (nI 6) (nI (y / 2)) (b2 q) (eM Z K m g pf pn pl J sh) = xB (f_M_next N (eM Z K m g pf pn pl J sh)) fun v3 S4 => xB (f_M_put N (nI y) v3 S4) fun v1 S2 => some (0, S2) := by
        show (if nI y = 6 then _ else _) = _
        rw [if_neg n6]; rfl
      rw [em, m_next N K m g sh pf pn pl J hT hN (by omega), xB_some, m_put N K m _ sh pf pn pl J b _ (hM.mg hp) (hg.pc 1) rfl hy h6 (hm _), xB_some]
  · obtain ⟨g', J', h1, h2, h3⟩ := sim_changeA N Z K m g (nI b) pm sh pf pn pl J hN hg hy
    have : Sim t 0 (f_P_changeA N (nI y) (eC Z m g (nI b) pm sh)) (f_M_single N (nI y) (eM Z K m g pf pn pl J sh)) := ⟨Z, K, m, g', nI b, pm, sh, pf, pn, pl, J', t, h2, h3, Nat.le_refl _, Nat.le_refl _, hI.reg h1⟩
    exact this.lr.up (Nat.le_refl _) (by omega)
theorem sim_firstM (hN : 64 ≤ N) {t : Nat} (hI : Inv Z K m g t) (hb : t + 200 < 2 ^ 30) (hM : Mh b pf) {z : Nat} (h4 : 4 ≤ z) (h6 : z ≤ 6) : Sim t 200 (xB (f_P_findM N (eC Z m g (nI b) pm sh)) fun _ S => f_P_doFirst N (nI 6) (nI z) S) (f_M_first N (nI 6) (nI z) (eM Z K m g pf pn pl J sh)) := by
  obtain ⟨Z1, g1, pv, t1, a1, a2, hI1, e1, e2⟩ := sim_aim N Z K m g b pm sh pf pn pl J hN hI (by omega) hM
  rw [e1, xB_some, c_first N (by decide), m_first N (by decide)]
  have em : ∀ z : Nat, 4 ≤ z → z ≤ 6 → f_M_first_16 N (nI 6) (nI z) (nI (6 / 2)) (b2 (decide (6 % 2 = 1))) (eM Z K m g pf pn pl J sh) = f_M_first_138 N (nI 6) (nI z) (eM Z1 K m g1 pf 1 pv J sh) := by
    intro z h4 h6
    rcases (show z = 4 ∨ z = 5 ∨ z = 6 by omega) with rfl | rfl | rfl
    · show xB (f_M_aim N (eM Z K m g pf pn pl J sh)) (fun v1 S2 => f_M_first_138 N (nI 6) (nI 4) S2) = _
      rw [e2, xB_some]
    · show xB (f_M_aim N (eM Z K m g pf pn pl J sh)) (fun v1 S2 => f_M_first_138 N (nI 6) (nI 5) S2) = _
      rw [e2, xB_some]
    · show xB (f_M_aim N (eM Z K m g pf pn pl J sh)) (fun v1 S2 => f_M_first_138 N (nI 6) (nI 6) S2) = _
      rw [e2, xB_some]
  rw [em z h4 h6]
  rcases (show z = 4 ∨ z = 5 ∨ z = 6 by omega) with rfl | rfl | rfl
  · have := (sim_countM N Z1 K m g1 6 sh pf 1 pv J hN hI1 (by omega) false).lr
    simp only [xB_assoc] at this
    exact this.up (by omega) (by omega)
  · have := (sim_countM N Z1 K m g1 6 sh pf 1 pv J hN hI1 (by omega) true).lr
    simp only [xB_assoc] at this
    exact this.up (by omega) (by omega)
  · obtain ⟨hT1, hm, hg1, hR1⟩ := hI1
    have hI1 : Inv Z1 K m g1 t1 := ⟨hT1, hm, hg1, hR1⟩
    obtain ⟨t2, a3, a4, hI2⟩ := hI1.a3 (g1 21) (by omega)
    obtain ⟨t3, a5, a6, hI3⟩ := hI2.a3 pv (by omega)
    refine ⟨_, K, mW m pv (m (ix (g1 21))), gPC g1 1, nI 6, pv, sh, pf, 1, pv, J, t3, ?_, ?_, by omega, by omega, (hI3.reg (hg1.pc 1)).mem (hm.mw _ _)⟩
    · show xB (f_P_nextByte N (eC Z1 m g1 (nI 6) pv sh)) (fun v22 S23 => xB (f_P_setOperand N 6 v22 S23) fun v24 S25 => some (0, S25)) = _
      rw [c_nextByte, xB_some, c_setOperand6, xB_some]
    · show xB (f_M_next N (eM Z1 K m g1 pf 1 pv J sh)) (fun v3 S4 => xB (f_M_put N 6 v3 S4) fun v1 S2 => some (0, S2)) = _
      rw [m_next N K m g1 sh pf 1 pv J hT1 hN (by omega), xB_some, m_put6 N K m _ sh pf 1 pv J hI2.1 hN (by omega), xB_some]
end F3
