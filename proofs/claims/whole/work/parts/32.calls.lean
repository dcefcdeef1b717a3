/-! the calls, one by one -/
def Ans (t d : Nat) (x y : xR) : Prop := ∃ (v : Int32) (Z K : xSt) (m g : Nat → Int32) (B pm sh pf pn pl : Int32) (J : Nat → Int32) (t' : Nat),
  x = some (v, eC Z m g B pm sh) ∧ y = some (v, eM Z K m g pf pn pl J sh) ∧ t ≤ t' ∧ t' ≤ t + d ∧ Inv Z K m g t'
theorem i_rng {x : Int32} {a b : Nat} (ha : a < 2 ^ 31) (hb : b < 2 ^ 31) (h1 : ¬ x < nI a) (h2 : ¬ nI b < x) : ∃ c, a ≤ c ∧ c ≤ b ∧ x = nI c := by
  have h0 : ¬ x < 0 := fun h => h1 (Int32.lt_of_lt_of_le h (nI_pos' ha))
  obtain ⟨j, hj, rfl⟩ := nI_of h0
  rw [nI_ltI hj ha] at h1
  rw [nI_ltI hb hj] at h2
  exact ⟨j, by omega, by omega, rfl⟩
theorem i_ix {x : Int32} {n : Nat} (hn : n < 2 ^ 31) (h0 : ¬ x < 0) (h1 : x < nI n) : ∃ c, c < n ∧ x = nI c := by
  obtain ⟨j, hj, rfl⟩ := nI_of h0
  rw [nI_ltI hj hn] at h1
  exact ⟨j, h1, rfl⟩
theorem us8 (x : Int32) : ∀ k, k < 4 → xUs x ((24 : Int32) - 8 * nI k) &&& 255 = (x >>> (((24 : Int32) - 8 * nI k) &&& 31)) &&& 255 := by
  have go : ∀ n, n ≤ 24 → xUs x (nI n) &&& 255 = (x >>> (nI n &&& 31)) &&& 255 := by
    intro n hn
    apply b_ext
    intro i hi
    rw [b_and, b_and, b_255]
    unfold xUs
    rw [b_ushr n (by omega), b_sshr n (by omega) x hi]
    by_cases h : i < 8
    · rw [if_pos (by omega)]
    · simp [h]
  intro k hk
  rcases (show k = 0 ∨ k = 1 ∨ k = 2 ∨ k = 3 by omega) with rfl | rfl | rfl | rfl
  · rw [show (24 : Int32) - 8 * nI 0 = nI 24 from by decide]; exact go 24 (by decide)
  · rw [show (24 : Int32) - 8 * nI 1 = nI 16 from by decide]; exact go 16 (by decide)
  · rw [show (24 : Int32) - 8 * nI 2 = nI 8 from by decide]; exact go 8 (by decide)
  · rw [show (24 : Int32) - 8 * nI 3 = nI 0 from by decide]; exact go 0 (by decide)
section CA
variable (N : Nat) (Z K : xSt) (m g : Nat → Int32) (B pm sh pf pn pl : Int32) (J : Nat → Int32)
theorem ans_same {t : Nat} (hI : Inv Z K m g t) (d : Nat) (v : Int32) : Ans t d (some (v, eC Z m g B pm sh)) (some (v, eM Z K m g pf pn pl J sh)) := ⟨v, Z, K, m, g, B, pm, sh, pf, pn, pl, J, t, rfl, rfl, Nat.le_refl _, by omega, hI⟩
theorem a_poke {t : Nat} (hI : Inv Z K m g t) (a v : Int32) : Ans t 0 (f_H_poke N a v (eC Z m g B pm sh)) (f_M_poke N a v (eM Z K m g pf pn pl J sh)) := by
  unfold f_H_poke f_M_poke
  rw [c_place, xB_some, x_wrm, uM_m]
  exact ans_same Z K _ g B pm sh pf pn pl J (hI.mem (Bm.upd hI.2.1 (and8 _))) 0 0
theorem a_load (hN : 64 ≤ N) {t : Nat} (hI : Inv Z K m g t) (a w n : Int32) : Ans t 0 (f_H_load N a w n (eC Z m g B pm sh)) (f_M_load N a w n (eM Z K m g pf pn pl J sh)) := by
  unfold f_H_load f_M_load f_H_load_10 f_M_load_10
  rw [xBo_0, xBo_0]
  by_cases h1 : n < 1
  · rw [if_pos h1, if_pos h1]; exact ans_same Z K m g B pm sh pf pn pl J hI 0 0
  by_cases h4 : 4 < n
  · rw [if_neg h1, if_neg h1, if_pos h4, if_pos h4]; exact ans_same Z K m g B pm sh pf pn pl J hI 0 0
  rw [if_neg h1, if_neg h1, if_neg h4, if_neg h4]
  obtain ⟨c, c1, c4, rfl⟩ := i_rng (a := 1) (b := 4) (by decide) (by decide) h1 h4
  have loop : ∀ (j k q q' : Nat) (m : Nat → Int32), k + j = c → j < q → j < q' → Inv Z K m g t → Ans t 0 (f_H_load_15 N q a w (nI c) (nI k) (eC Z m g B pm sh)) (f_M_load_15 N q' a w (nI c) (nI k) (eM Z K m g pf pn pl J sh)) := by
    intro j
    induction j with
    | zero =>
      intro k q q' m hk hq hq' hI
      obtain ⟨q, rfl⟩ : ∃ r, q = r + 1 := ⟨q - 1, by omega⟩
      obtain ⟨q', rfl⟩ : ∃ r, q' = r + 1 := ⟨q' - 1, by omega⟩
      rw [f_H_load_15, f_M_load_15, if_neg (nI_nlt (by omega) (by omega)), if_neg (nI_nlt (by omega) (by omega)), xBo_1, xBo_1]
      exact ans_same Z K m g B pm sh pf pn pl J hI 0 1
    | succ j ih =>
      intro k q q' m hk hq hq' hI
      obtain ⟨q, rfl⟩ : ∃ r, q = r + 1 := ⟨q - 1, by omega⟩
      obtain ⟨q', rfl⟩ : ∃ r, q' = r + 1 := ⟨q' - 1, by omega⟩
      have hl : nI k < nI c := nI_lt (by omega) (by omega)
      rw [f_H_load_15, f_M_load_15, if_pos hl, if_pos hl, c_place, xB_some, x_wrm, uM_m, us8 w k (by omega), nI_1]
      exact ih (k + 1) q q' _ (by omega) (by omega) (by omega) (hI.mem (Bm.upd hI.2.1 (and8 _)))
  exact loop c 0 N N m (by omega) (by omega) (by omega) hI
theorem a_peek {t : Nat} (hI : Inv Z K m g t) (a : Int32) : Ans t 0 (f_H_peek N a (eC Z m g B pm sh)) (f_M_peek N a (eM Z K m g pf pn pl J sh)) := by
  unfold f_H_peek f_B_byteAt f_M_peek
  rw [x_rdm, eC_m, xB_some, x_rdm, eM_m]
  exact ans_same Z K m g B pm sh pf pn pl J hI 0 _
theorem a_register {t : Nat} (hI : Inv Z K m g t) (a : Int32) : Ans t 0 (f_H_register N a (eC Z m g B pm sh)) (f_M_register N a (eM Z K m g pf pn pl J sh)) := by
  unfold f_H_register f_G_tell f_G_tell_10 f_G_tell_20 f_M_register f_M_register_10 f_M_register_20
  by_cases h0 : a < 0
  · rw [if_pos h0, if_pos h0, xB_some]; exact ans_same Z K m g B pm sh pf pn pl J hI 0 _
  by_cases h25 : 25 < a
  · rw [if_neg h0, if_neg h0, if_pos h25, if_pos h25, xB_some]; exact ans_same Z K m g B pm sh pf pn pl J hI 0 _
  rw [if_neg h0, if_neg h0, if_neg h25, if_neg h25]
  obtain ⟨c, -, c25, rfl⟩ := i_rng (a := 0) (b := 25) (by decide) (by decide) h0 h25
  rw [x_rd _ _ _ _ (by omega) (by decide), x_rd _ _ _ _ (by omega) (by decide), eC_g, eM_g, xB_some]
  exact ans_same Z K m g B pm sh pf pn pl J hI 0 _
theorem a_stripe {t : Nat} (hI : Inv Z K m g t) (a : Int32) : Ans t 0 (f_H_stripe N a (eC Z m g B pm sh)) (f_M_stripe N a (eM Z K m g pf pn pl J sh)) := by
  unfold f_H_stripe f_H_stripe_10 f_M_stripe f_M_stripe_10 f_M_stripe_20
  by_cases h0 : a < 0
  · rw [if_pos h0, if_pos h0]; exact ans_same Z K m g B pm sh pf pn pl J hI 0 _
  rw [if_neg h0, if_neg h0]
  by_cases h64 : a < 64
  · obtain ⟨c, hc, rfl⟩ := i_ix (n := 64) (by decide) h0 h64
    rw [if_pos h64, if_neg (show ¬ (63 : Int32) < nI c from nI_nlt (a := 63) (by omega) (by decide)), x_rd _ _ _ _ hc (by decide), x_rd _ _ _ _ hc (by decide), eC_7, eM_4]
    exact ans_same Z K m g B pm sh pf pn pl J hI 0 _
  · obtain ⟨c, hc, rfl⟩ := nI_of h0
    have h63 : (63 : Int32) < nI c := by
      rw [show (63 : Int32) = nI 63 from rfl, nI_ltI (by decide) hc]
      rw [show (64 : Int32) = nI 64 from rfl, nI_ltI hc (by decide)] at h64
      omega
    rw [if_neg h64, if_pos h63]
    exact ans_same Z K m g B pm sh pf pn pl J hI 0 _
theorem a_set {t : Nat} (hI : Inv Z K m g t) (a v : Int32) : Ans t 0 (f_H_set N a v (eC Z m g B pm sh)) (f_M_set N a v (eM Z K m g pf pn pl J sh)) := by
  have hg := hI.2.2.1
  unfold f_H_set f_G_change f_G_change_25 f_M_set f_M_set_25
  rw [xBo_0, xBo_0]
  by_cases h0 : a < 0
  · rw [if_pos h0, if_pos h0, xB_some, xBo_0]; exact ans_same Z K m g B pm sh pf pn pl J hI 0 _
  by_cases h24 : 24 < a
  · rw [if_neg h0, if_neg h0, if_pos h24, if_pos h24, xB_some, xBo_0]; exact ans_same Z K m g B pm sh pf pn pl J hI 0 _
  rw [if_neg h0, if_neg h0, if_neg h24, if_neg h24]
  obtain ⟨c, -, c24, rfl⟩ := i_rng (a := 0) (b := 24) (by decide) (by decide) h0 h24
  -- one write
  have put : ∀ (x : Int32), Gd (upd g c x) → ∀ (S1 S2 : xR), S1 = (xWr (eC Z m g B pm sh) 10 26 (nI c) x fun S3 => (xBo (1 : Int32) (some ((1 : Int32), S3)))) → S2 = (xWr (eM Z K m g pf pn pl J sh) 2 26 (nI c) x fun S3 => (xBo (1 : Int32) (some ((1 : Int32), S3)))) → Ans t 0 (xB S1 fun v1 S2 => (xBo v1 (some (v1, S2)))) S2 := by
    intro x hx S1 S2 e1 e2
    rw [e1, e2, x_wr _ _ _ _ (by omega) (by decide), x_wr _ _ _ _ (by omega) (by decide), uC_g, uM_g, xBo_1, xBo_1, xB_some, xBo_1]
    exact ans_same Z K m _ B pm sh pf pn pl J (hI.reg hx) 0 1
  by_cases e24 : c = 24
  · subst e24
    rw [if_pos (show nI 24 = (24 : Int32) from rfl), if_pos (show nI 24 = (24 : Int32) from rfl)]
    by_cases v0 : v < 0
    · rw [if_pos v0, if_pos v0, xB_some, xBo_0]; exact ans_same Z K m g B pm sh pf pn pl J hI 0 _
    by_cases v2 : 2 < v
    · rw [if_neg v0, if_neg v0, if_pos v2, if_pos v2, xB_some, xBo_0]; exact ans_same Z K m g B pm sh pf pn pl J hI 0 _
    rw [if_neg v0, if_neg v0, if_neg v2, if_neg v2]
    obtain ⟨d, -, d2, rfl⟩ := i_rng (a := 0) (b := 2) (by decide) (by decide) v0 v2
    have ed : nI d &&& 3 = nI d := by
      rw [pk_andN (by omega) (m := 3) 2 (by decide), Nat.mod_eq_of_lt (by omega)]
    have hd : nI d = 0 ∨ nI d = 1 ∨ nI d = 2 := by
      rcases (show d = 0 ∨ d = 1 ∨ d = 2 by omega) with rfl | rfl | rfl
      · exact Or.inl rfl
      · exact Or.inr (Or.inl rfl)
      · exact Or.inr (Or.inr rfl)
    refine put (nI d) (hg.u24 hd) _ _ ?_ ?_
    · unfold f_G_change_27 f_G_widest f_G_widest_30
      rw [if_neg (show ¬ nI 24 < (18 : Int32) from by decide), if_pos (show (21 : Int32) < nI 24 from by decide), if_pos (show nI 24 = (24 : Int32) from rfl), xB_some, ed]
    · unfold f_M_set_27 f_M_set_72
      rw [if_neg (by decide), if_neg (by decide), if_neg (by decide)]
  have n24 : ¬ nI c = (24 : Int32) := nI_ne (x := 24) (c := 24) rfl (by omega) (by decide) e24
  rw [if_neg n24, if_neg n24]
  unfold f_G_change_27 f_G_widest f_G_widest_30 f_M_set_27 f_M_set_72
  by_cases h18 : c < 18
  · have l : nI c < (18 : Int32) := nI_lt (b := 18) h18 (by decide)
    rw [if_pos l, if_pos l, xB_some]
    exact put _ (hg.u8 h18 (and8 v)) _ _ rfl rfl
  have l18 : ¬ nI c < (18 : Int32) := nI_nl (x := 18) (c := 18) rfl (by omega) (by omega)
  by_cases h22 : c < 22
  · have l : nI c < (22 : Int32) := nI_lt (b := 22) h22 (by decide)
    have l21 : ¬ (21 : Int32) < nI c := nI_nlt (a := 21) (by omega) (by decide)
    rw [if_neg l18, if_neg l18, if_neg l21, if_pos l, xB_some]
    exact put _ (hg.u16 (by omega) h22 (and16 v)) _ _ rfl rfl
  have l22 : ¬ nI c < (22 : Int32) := nI_nl (x := 22) (c := 22) rfl (by omega) (by omega)
  have l21 : (21 : Int32) < nI c := nI_lt (a := 21) (by omega) (by omega)
  have l24 : nI c < (24 : Int32) := nI_lt (b := 24) (by omega) (by decide)
  rw [if_neg l18, if_neg l18, if_pos l21, if_neg l22, if_neg n24, if_pos l24, xB_some]
  have h1 : v &&& 1 = 0 ∨ v &&& 1 = 1 := by
    obtain ⟨b, hb⟩ := cb v
    rw [hb]; cases b
    · exact Or.inl rfl
    · exact Or.inr rfl
  exact put _ (hg.uF (by omega) (by omega) h1) _ _ rfl rfl
/-- step -/
theorem a_step (hN : 2000 ≤ N) {t : Nat} (hI : Inv Z K m g t) (hb : t + 40000 < 2 ^ 30) (a : Int32) : Ans t 40000 (f_H_step N a (eC Z m g B pm sh)) (f_M_step N a (eM Z K m g pf pn pl J sh)) := by
  have h64 : 64 ≤ N := by omega
  unfold f_H_step f_H_step_11 f_M_step f_M_step_11
  by_cases h1 : a < 1
  · rw [if_pos h1, if_pos h1]; exact ans_same Z K m g B pm sh pf pn pl J hI _ _
  by_cases h100 : 100 < a
  · rw [if_neg h1, if_neg h1, if_pos h100, if_pos h100]; exact ans_same Z K m g B pm sh pf pn pl J hI _ _
  rw [if_neg h1, if_neg h1, if_neg h100, if_neg h100, xV_eq, xV_eq, eC_1, eM_now]
  obtain ⟨c, -, c100, rfl⟩ := i_rng (a := 1) (b := 100) (by decide) (by decide) h1 h100
  generalize Z 1 4 = w
  have loop : ∀ (j k q q' : Nat) (Z K : xSt) (m g : Nat → Int32) (B pm sh pf pn pl : Int32) (J : Nat → Int32) (t : Nat), k + j = c → j < q → j < q' → Inv Z K m g t → t + 400 * j < 2 ^ 30 → Ans t (400 * j) (f_H_step_23 N q (nI c) w (nI k) (eC Z m g B pm sh)) (f_M_step_20 N q' (nI c) w (nI k) (eM Z K m g pf pn pl J sh)) := by
    intro j
    induction j with
    | zero =>
      intro k q q' Z K m g B pm sh pf pn pl J t hk hq hq' hI hb
      obtain ⟨q, rfl⟩ : ∃ r, q = r + 1 := ⟨q - 1, by omega⟩
      obtain ⟨q', rfl⟩ : ∃ r, q' = r + 1 := ⟨q' - 1, by omega⟩
      rw [f_H_step_23, f_M_step_20, if_neg (nI_nlt (by omega) (by omega)), if_neg (nI_nlt (by omega) (by omega)), eC_1, eM_now]
      exact ans_same Z K m g B pm sh pf pn pl J hI _ _
    | succ j ih =>
      intro k q q' Z K m g B pm sh pf pn pl J t hk hq hq' hI hb
      obtain ⟨q, rfl⟩ : ∃ r, q = r + 1 := ⟨q - 1, by omega⟩
      obtain ⟨q', rfl⟩ : ∃ r, q' = r + 1 := ⟨q' - 1, by omega⟩
      have hl : nI k < nI c := nI_lt (by omega) (by omega)
      have hb1 : t + 400 < 2 ^ 30 := Nat.lt_of_le_of_lt (Nat.add_le_add_left (Nat.le_mul_of_pos_right 400 (Nat.succ_pos j)) t) hb
      obtain ⟨Z1, K1, m1, g1, B1, pm1, sh1, pf1, pn1, pl1, J1, t1, e1, e2, a1, a2, hI1⟩ := sim_next N Z K m g B pm sh pf pn pl J h64 hI hb1
      rw [f_H_step_23, f_M_step_20, if_pos hl, if_pos hl, e1, xB_some, e2, xB_some, nI_1]
      obtain ⟨v, Z2, K2, m2, g2, B2, pm2, sh2, pf2, pn2, pl2, J2, t2, f1, f2, b1, b2, hI2⟩ := ih (k + 1) q q' Z1 K1 m1 g1 B1 pm1 sh1 pf1 pn1 pl1 J1 t1 (by omega) (by omega) (by omega) hI1 (by omega)
      exact ⟨v, Z2, K2, m2, g2, B2, pm2, sh2, pf2, pn2, pl2, J2, t2, f1, f2, by omega, by omega, hI2⟩
  obtain ⟨v, Z2, K2, m2, g2, B2, pm2, sh2, pf2, pn2, pl2, J2, t2, f1, f2, b1, b2, hI2⟩ := loop c 0 N N Z K m g B pm sh pf pn pl J t (by omega) (by omega) (by omega) hI (by omega)
  exact ⟨v, Z2, K2, m2, g2, B2, pm2, sh2, pf2, pn2, pl2, J2, t2, f1, f2, b1, by omega, hI2⟩
/-- frame -/
theorem a_frame (hN : 2000 ≤ N) {t : Nat} (hI : Inv Z K m g t) (hb : t + 440000 < 2 ^ 30) : Ans t 440000 (f_H_frame N (eC Z m g B pm sh)) (f_M_frame N (eM Z K m g pf pn pl J sh)) := by
  have fr : ∀ {Z K : xSt} {m g : Nat → Int32} {t : Nat}, Inv Z K m g t → Z 1 4 >>> ((12 : Int32) &&& 31) = Z 1 4 / (4096 : Int32) := by
    intro Z K m g t h
    have := h.1.2
    rw [h.1.1, pk_shrN (by omega) _ 12 (by decide), show (4096 : Int32) = nI 4096 from rfl, pk_div (by omega) (by decide) (by decide)]
  have h64 : 64 ≤ N := by omega
  unfold f_H_frame f_B_frames f_M_frame
  rw [xB_some, xV_eq, eC_1, eM_now, fr hI]
  generalize Z 1 4 / (4096 : Int32) = w
  have loop : ∀ (j k q q' : Nat) (Z K : xSt) (m g : Nat → Int32) (B pm sh pf pn pl : Int32) (J : Nat → Int32) (t : Nat), k + j = 1100 → j < q → j < q' → Inv Z K m g t → t + 400 * j < 2 ^ 30 → Ans t (400 * j) (f_H_frame_10 N q w (nI k) (eC Z m g B pm sh)) (f_M_frame_11 N q' w (nI k) (eM Z K m g pf pn pl J sh)) := by
    intro j
    induction j with
    | zero =>
      intro k q q' Z K m g B pm sh pf pn pl J t hk hq hq' hI hb
      obtain ⟨q, rfl⟩ : ∃ r, q = r + 1 := ⟨q - 1, by omega⟩
      obtain ⟨q', rfl⟩ : ∃ r, q' = r + 1 := ⟨q' - 1, by omega⟩
      have hl : ¬ nI k < (1100 : Int32) := nI_nl (x := 1100) (c := 1100) rfl (by omega) (by omega)
      rw [f_H_frame_10, f_M_frame_11, if_neg hl, if_neg hl]
      exact ans_same Z K m g B pm sh pf pn pl J hI _ _
    | succ j ih =>
      intro k q q' Z K m g B pm sh pf pn pl J t hk hq hq' hI hb
      obtain ⟨q, rfl⟩ : ∃ r, q = r + 1 := ⟨q - 1, by omega⟩
      obtain ⟨q', rfl⟩ : ∃ r, q' = r + 1 := ⟨q' - 1, by omega⟩
      have hl : nI k < (1100 : Int32) := nI_lt (b := 1100) (by omega) (by decide)
      rw [f_H_frame_10, f_M_frame_11, if_pos hl, if_pos hl]
      unfold f_B_frames f_H_frame_41 f_M_frame_40
      rw [xB_some, eC_1, eM_now, fr hI]
      by_cases hw : Z 1 4 / (4096 : Int32) = w
      · rw [if_pos hw, if_pos hw]
        have hb1 : t + 400 < 2 ^ 30 := Nat.lt_of_le_of_lt (Nat.add_le_add_left (Nat.le_mul_of_pos_right 400 (Nat.succ_pos j)) t) hb
        obtain ⟨Z1, K1, m1, g1, B1, pm1, sh1, pf1, pn1, pl1, J1, t1, e1, e2, a1, a2, hI1⟩ := sim_next N Z K m g B pm sh pf pn pl J h64 hI hb1
        rw [e1, xB_some, e2, xB_some, nI_1]
        obtain ⟨v, Z2, K2, m2, g2, B2, pm2, sh2, pf2, pn2, pl2, J2, t2, f1, f2, b1, b2, hI2⟩ := ih (k + 1) q q' Z1 K1 m1 g1 B1 pm1 sh1 pf1 pn1 pl1 J1 t1 (by omega) (by omega) (by omega) hI1 (by omega)
        exact ⟨v, Z2, K2, m2, g2, B2, pm2, sh2, pf2, pn2, pl2, J2, t2, f1, f2, by omega, by omega, hI2⟩
      · rw [if_neg hw, if_neg hw]
        exact ans_same Z K m g B pm sh pf pn pl J hI _ _
  exact loop 1100 0 N N Z K m g B pm sh pf pn pl J t (by omega) (by omega) (by omega) hI (by omega)
end CA
