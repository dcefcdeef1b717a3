/-! the calls: keys, tape, look -/
def kdc (q : Bool) (d k : Nat) : Nat := if q then d ||| 2 ^ k else d - (if d.testBit k then 2 ^ k else 0)
theorem kd_t : ∀ k, k < 5 → ∀ d, d < 32 → kdc true d k < 32 ∧ nI d ||| ((1 : Int32) <<< (nI k &&& 31)) = nI (kdc true d k) ∧ ∀ j, j < 5 → (kdc true d k).testBit j = if j = k then true else d.testBit j := by decide +kernel
theorem kd_f : ∀ k, k < 5 → ∀ d, d < 32 → kdc false d k < 32 ∧ nI d &&& (((1 : Int32) <<< (nI k &&& 31)) ^^^ (-1)) = nI (kdc false d k) ∧ ∀ j, j < 5 → (kdc false d k).testBit j = if j = k then false else d.testBit j := by decide +kernel
section CT
variable (N : Nat) (Z K : xSt) (m g : Nat → Int32) (B pm sh pf pn pl : Int32) (J : Nat → Int32)
theorem a_key {t : Nat} (hI : Inv Z K m g t) (a k : Int32) (q : Bool) : Ans t 0 (f_H_key N a k (b2 q) (eC Z m g B pm sh)) (f_M_key N a k (b2 q) (eM Z K m g pf pn pl J sh)) := by
  unfold f_H_key f_K_move f_K_move_19 f_M_key f_M_key_19
  rw [xBo_0, xBo_0]
  by_cases h0 : a < 0
  · rw [if_pos h0, if_pos h0, xB_some, xBo_0]; exact ans_same Z K m g B pm sh pf pn pl J hI 0 _
  rw [if_neg h0, if_neg h0]
  obtain ⟨r, hr, rfl⟩ := nI_of h0
  by_cases h8 : 8 ≤ r
  · rw [if_neg (show ¬ nI r < (8 : Int32) from nI_nl (x := 8) (c := 8) rfl hr h8), if_pos (show (7 : Int32) < nI r from nI_lt (a := 7) (by omega) hr), xB_some, xBo_0]; exact ans_same Z K m g B pm sh pf pn pl J hI 0 _
  rw [if_pos (show nI r < (8 : Int32) from nI_lt (b := 8) (by omega) (by decide)), if_neg (show ¬ (7 : Int32) < nI r from nI_nlt (a := 7) (by omega) (by decide))]
  by_cases k0 : k < 0
  · rw [if_pos k0, if_pos k0, xB_some, xBo_0]; exact ans_same Z K m g B pm sh pf pn pl J hI 0 _
  rw [if_neg k0, if_neg k0]
  obtain ⟨k, hk, rfl⟩ := nI_of k0
  by_cases k5 : 5 ≤ k
  · rw [if_neg (show ¬ nI k < (5 : Int32) from nI_nl (x := 5) (c := 5) rfl hk k5), if_pos (show (4 : Int32) < nI k from nI_lt (a := 4) (by omega) hk), xB_some, xBo_0]; exact ans_same Z K m g B pm sh pf pn pl J hI 0 _
  rw [if_pos (show nI k < (5 : Int32) from nI_lt (b := 5) (by omega) (by decide)), if_neg (show ¬ (4 : Int32) < nI k from nI_nlt (a := 4) (by omega) (by decide)), xV_eq]
  obtain ⟨hT, hm, hg, c, ov, bg, pu, kd, p, a1, a2, a3, a4, a5, a6, a7, a8, a9, a10, a11⟩ := hI
  obtain ⟨r1, r2, r3⟩ := a11 r (by omega)
  have ei : (5 : Int32) * nI r + nI k = nI (5 * r + k) := by rw [show (5 : Int32) = nI 5 from rfl, pk_mul, nI_add]
  have fin : ∀ (d : Nat), d < 32 → (∀ j, j < 5 → d.testBit j = if j = k then q else (kd r).testBit j) → Ans t 0 (some ((1 : Int32), eC (xU Z 8 r (nI d)) m g B pm sh)) (some ((1 : Int32), eM Z (xU K 3 (5 * r + k) (b2 q)) m g pf pn pl J sh)) := by
    intro d hd hj
    generalize hZ2 : xU Z 8 r (nI d) = Z2
    generalize hK2 : xU K 3 (5 * r + k) (b2 q) = K2
    have hz : ∀ j, j ≠ 8 → Z2 j = Z j := fun j hj => by rw [← hZ2]; exact xU_ne _ _ _ hj
    have hz8 : Z2 8 = upd (Z 8) r (nI d) := by rw [← hZ2]; exact xU_at _ _ _ _
    have hk : ∀ j, j ≠ 3 → K2 j = K j := fun j hj => by rw [← hK2]; exact xU_ne _ _ _ hj
    have hk3 : K2 3 = upd (K 3) (5 * r + k) (b2 q) := by rw [← hK2]; exact xU_at _ _ _ _
    refine ⟨1, Z2, K2, m, g, B, pm, sh, pf, pn, pl, J, t, rfl, ?_, Nat.le_refl _, by omega, ?_, hm, hg, ?_⟩
    · rw [eM_cong (hz 1 (by decide)) (hz 7 (by decide))]
    · unfold Tm; rw [hz 1 (by decide)]; exact hT
    · rw [hz 4 (by decide), hz8, hz 9 (by decide)]
      obtain ⟨kd2, kd_r, kd_n⟩ : ∃ kd2 : Nat → Nat, kd2 r = d ∧ ∀ x, x ≠ r → kd2 x = kd x := ⟨fun x => if x = r then d else kd x, if_pos rfl, fun x hx => if_neg hx⟩
      refine ⟨c, ov, bg, pu, kd2, p, a1, a2, a3, by rw [hk 0 (by decide)]; exact a4, a5, by rw [hk 0 (by decide)]; exact a6, a7, by rw [hk 0 (by decide)]; exact a8, by rw [hk 5 (by decide)]; exact a9, by rw [hk 0 (by decide)]; exact a10, ?_⟩
      intro s hs
      rw [hk3]
      by_cases e : s = r
      · subst e
        rw [pk_us, kd_r]
        refine ⟨rfl, hd, fun j h5 => ?_⟩
        rw [hj j h5]
        by_cases ej : j = k
        · subst ej; rw [pk_us, if_pos rfl]
        · rw [pk_un (by omega), if_neg ej]; exact r3 j h5
      · obtain ⟨s1, s2, s3⟩ := a11 s hs
        rw [pk_un e, kd_n s e]
        refine ⟨s1, s2, fun j h5 => ?_⟩
        rw [pk_un (by omega)]; exact s3 j h5
  unfold f_K_move_58
  cases q
  · obtain ⟨d1, d2, d3⟩ := kd_f k (by omega) (kd r) r2
    rw [if_pos (show b2 false = 0 from rfl), show b2 false = 0 from rfl, xBo_0, x_rd _ _ _ _ (by omega) (by decide), eC_8, r1, d2, x_wr _ _ _ _ (by omega) (by decide), uC_8, xBo_1, xB_some, xBo_1, ei, x_wr _ _ _ _ (by omega) (by decide), uM_3, xBo_1]
    exact fin _ d1 d3
  · obtain ⟨d1, d2, d3⟩ := kd_t k (by omega) (kd r) r2
    rw [if_neg (show ¬ b2 true = 0 from by decide), show b2 true = 1 from rfl, xBo_1, x_rd _ _ _ _ (by omega) (by decide), eC_8, r1, d2, x_wr _ _ _ _ (by omega) (by decide), uC_8, xBo_1, xB_some, xBo_1, ei, x_wr _ _ _ _ (by omega) (by decide), uM_3, xBo_1]
    exact fin _ d1 d3
theorem psum_c {pu pu' : Nat → Nat} {c : Nat} (h : ∀ i, i < c → pu' i = pu i) : ∀ i, i ≤ c → psum pu' i = psum pu i := by
  intro i
  induction i with
  | zero => intro _; rfl
  | succ i ih => intro hi; simp only [psum]; rw [ih (by omega), h i (by omega)]
theorem a_pulse (hN : 64 ≤ N) {t : Nat} (hI : Inv Z K m g t) (a : Int32) : Ans t 0 (f_H_pulse N a (eC Z m g B pm sh)) (f_M_pulse N a (eM Z K m g pf pn pl J sh)) := by
  obtain ⟨Z1, K1, hI1, -, -, -, -, -, -, fc, fm⟩ := sim_follow N Z K m g hN hI
  unfold f_H_pulse f_M_pulse f_M_pulse_32
  rw [eC_1, fc, xB_some, fm, xB_some]
  unfold f_T_append f_T_append_28
  rw [xBo_0, xBo_0]
  by_cases h1 : a < 1
  · rw [if_pos h1, if_pos h1, xB_some, xBo_0]; exact ans_same Z1 K1 m g B pm sh pf pn pl J hI1 0 _
  rw [if_neg h1, if_neg h1]
  by_cases h2 : 10000 < a
  · rw [if_pos h2, if_pos h2, xB_some, xBo_0]; exact ans_same Z1 K1 m g B pm sh pf pn pl J hI1 0 _
  rw [if_neg h2, if_neg h2]
  obtain ⟨b, hb1, hb2, rfl⟩ := i_rng (a := 1) (b := 10000) (by decide) (by decide) h1 h2
  have hI2 := hI1
  obtain ⟨hT, hm, hg, c, ov, bg, pu, kd, p, a1, a2, a3, a4, a5, a6, a7, a8, a9, a10, a11⟩ := hI1
  rw [eC_4, a3, eM_16, a4]
  by_cases h40 : c = 40
  · subst h40
    rw [if_neg (show ¬ nI 40 < (40 : Int32) from by decide), if_pos (show nI 40 = (40 : Int32) from rfl), xB_some, xBo_0]; exact ans_same Z1 K1 m g B pm sh pf pn pl J hI2 0 _
  rw [if_pos (show nI c < (40 : Int32) from nI_lt (b := 40) (by omega) (by decide)), if_neg (nI_ne (x := 40) (c := 40) rfl (by omega) (by decide) h40), a7, eM_18, a8]
  cases p
  · rw [if_pos (show b2 false = 0 from rfl), if_pos (show b2 false = 0 from rfl)]
    have hp9 : ∀ i, i < c → pu i ≤ 10000 := fun i hi => (a9 i hi).2.1
    have ec : (if nI c = 0 then (f_T_append_61 N (nI c) (nI b) (0 : Int32) (eC Z1 m g B pm sh)) else (xRd (eC Z1 m g B pm sh) 9 40 (nI c - (1 : Int32)) fun v1 => (f_T_append_61 N (nI c) (nI b) v1 (eC Z1 m g B pm sh)))) = some (1, eC (xU (xU Z1 9 c (nI (psum pu c + b))) 4 1 (nI (c + 1))) m g B pm sh) := by
      have go : f_T_append_61 N (nI c) (nI b) (nI (psum pu c)) (eC Z1 m g B pm sh) = some (1, eC (xU (xU Z1 9 c (nI (psum pu c + b))) 4 1 (nI (c + 1))) m g B pm sh) := by
        unfold f_T_append_61
        rw [x_wr _ _ _ _ (by omega) (by decide), uC_9, xPu_eq, eC_4, xU_ne Z1 _ _ (by decide), a3, uC_4, xBo_1, nI_1, nI_add, Nat.add_comm b]
      by_cases e0 : c = 0
      · subst e0
        rw [if_pos (show nI 0 = (0 : Int32) from rfl)]; exact go
      · rw [if_neg (nI_ne (x := 0) (c := 0) rfl (by omega) (by decide) e0), show nI c - (1 : Int32) = nI (c - 1) from pk_sub (b := 1) (by omega), x_rd _ _ _ _ (by omega) (by decide), eC_9, (a9 (c - 1) (by omega)).2.2, show c - 1 + 1 = c by omega]
        exact go
    rw [ec, xB_some, xBo_1, x_wr _ _ _ _ (by omega) (by decide), uM_5, xPu_eq, eM_16, xU_ne K1 _ _ (by decide), a4, uM_16, nI_1, xBo_1]
    generalize hZ2 : xU (xU Z1 9 c (nI (psum pu c + b))) 4 1 (nI (c + 1)) = Z2
    generalize hK2 : xU (xU K1 5 c (nI b)) 0 16 (nI (c + 1)) = K2
    have hz : ∀ j, j ≠ 4 → j ≠ 9 → Z2 j = Z1 j := fun j h4 h9 => by rw [← hZ2, xU_ne _ _ _ h4, xU_ne _ _ _ h9]
    have hz4 : Z2 4 = upd (Z1 4) 1 (nI (c + 1)) := by rw [← hZ2, xU_at, xU_ne _ _ _ (by decide)]
    have hz9 : Z2 9 = upd (Z1 9) c (nI (psum pu c + b)) := by rw [← hZ2, xU_ne _ _ _ (by decide), xU_at]
    have hk0 : K2 0 = upd (K1 0) 16 (nI (c + 1)) := by rw [← hK2, xU_at, xU_ne _ _ _ (by decide)]
    have hk5 : K2 5 = upd (K1 5) c (nI b) := by rw [← hK2, xU_ne _ _ _ (by decide), xU_at]
    have hk3 : K2 3 = K1 3 := by rw [← hK2, xU_ne _ _ _ (by decide), xU_ne _ _ _ (by decide)]
    refine ⟨1, Z2, K2, m, g, B, pm, sh, pf, pn, pl, J, t, rfl, ?_, Nat.le_refl _, by omega, ?_, hm, hg, ?_⟩
    · rw [eM_cong (hz 1 (by decide) (by decide)) (hz 7 (by decide) (by decide))]
    · unfold Tm; rw [hz 1 (by decide) (by decide)]; exact hT
    · rw [hz4, hz 8 (by decide) (by decide), hz9]
      obtain ⟨pu2, pu_c, pu_n⟩ : ∃ pu2 : Nat → Nat, pu2 c = b ∧ ∀ x, x ≠ c → pu2 x = pu x := ⟨fun x => if x = c then b else pu x, if_pos rfl, fun x hx => if_neg hx⟩
      have hps := psum_c (c := c) (fun i hi => pu_n i (by omega))
      refine ⟨c + 1, ov, bg, pu2, kd, false, by omega, by omega, pk_us, ?_, ?_, ?_, ?_, ?_, ?_, fun h => (by cases h), ?_⟩
      · rw [hk0, pk_us]
      · rw [pk_un (by decide)]; exact a5
      · rw [hk0, pk_un (by decide)]; exact a6
      · rw [pk_un (by decide)]; exact a7
      · rw [hk0, pk_un (by decide)]; exact a8
      · intro i hi
        rw [hk5]
        by_cases e : i = c
        · subst e
          rw [pk_us, pk_us, pu_c]
          refine ⟨rfl, hb2, ?_⟩
          simp only [psum]
          rw [hps i (Nat.le_refl _), pu_c]
        · obtain ⟨q1, q2, q3⟩ := a9 i (by omega)
          rw [pk_un e, pk_un e, pu_n i e, hps (i + 1) (by omega)]
          exact ⟨q1, q2, q3⟩
      · intro r hr
        rw [hk3]
        exact a11 r hr
  · rw [if_neg (show ¬ b2 true = 0 from by decide), if_neg (show ¬ b2 true = 0 from by decide), xB_some, xBo_0]; exact ans_same Z1 K1 m g B pm sh pf pn pl J hI2 0 _
theorem a_look (hN : 64 ≤ N) {t : Nat} (hI : Inv Z K m g t) (a : Int32) : Ans t 0 (f_H_look N a (eC Z m g B pm sh)) (f_M_look N a (eM Z K m g pf pn pl J sh)) := by
  obtain ⟨Z1, K1, hI1, -, -, -, -, ⟨ov, ho, e3, e20⟩, e44, fc, fm⟩ := sim_follow N Z K m g hN hI
  have ht := hI1.1.2
  have hn := hI1.1.1
  unfold f_H_look f_H_look_121 f_B_frames f_B_tickOfFrame f_T_level f_M_look f_M_look_65 f_M_look_114
  rw [eC_1, fc, xB_some 0 (eC Z1 m g B pm sh), fm, xB_some 0 (eM Z1 K1 m g pf pn pl J sh)]
  have same := fun v => ans_same Z1 K1 m g B pm sh pf pn pl J hI1 0 v
  by_cases h0 : a = 0
  · subst h0
    rw [if_pos (by decide), if_pos (by decide), if_pos (by decide), xB_some, eC_1, eM_now, hn, pk_shrN (by omega) _ 12 (by decide), show (4096 : Int32) = nI 4096 from rfl, pk_div (by omega) (by decide) (by decide)]
    exact same _
  by_cases h1 : a = 1
  · subst h1
    rw [if_neg (by decide), if_pos (by decide), if_pos (by decide), if_neg (by decide), if_pos (by decide), xB_some, eC_1, eM_now, hn, pk_andN (by omega) (m := 4095) 12 (by decide), show (4096 : Int32) = nI 4096 from rfl, pk_rem (by omega) (by decide) (by decide)]
    exact same _
  by_cases h2 : a = 2
  · subst h2
    rw [if_neg (by decide), if_neg (by decide), if_pos (by decide), if_pos (by decide), if_neg (by decide), if_neg (by decide), if_pos (by decide), eC_1, eM_bd]
    exact same _
  by_cases h3 : a = 3
  · subst h3
    rw [if_neg (by decide), if_neg (by decide), if_neg (by decide), if_pos (by decide), if_pos (by decide), if_neg (by decide), if_neg (by decide), if_neg (by decide), if_pos (by decide), eC_1, eM_ed]
    exact same _
  by_cases h4 : a = 4
  · subst h4
    rw [if_neg (by decide), if_neg (by decide), if_neg (by decide), if_neg (by decide), if_pos (by decide), if_neg (by decide), if_pos (by decide), xB_some, eC_4, e3, eM_20, e20, pk_andN (by omega) (m := 1) 1 (by decide), show (2 : Int32) = nI 2 from rfl, pk_rem (by omega) (by decide) (by decide)]
    exact same _
  by_cases h5 : a = 5
  · subst h5
    rw [if_neg (by decide), if_neg (by decide), if_neg (by decide), if_neg (by decide), if_neg (by decide), if_pos (by decide), if_neg (show ¬ (5 : Int32) < 4 from by decide), if_neg (show ¬ (5 : Int32) = 4 from by decide), if_pos (show (5 : Int32) = 5 from rfl), eC_4, eM_18, e44]
    by_cases hp : K1 0 18 = 0
    · rw [if_pos hp, if_pos hp]; exact same _
    · rw [if_neg hp, if_neg hp]; exact same _
  by_cases h6 : a = 6
  · subst h6
    rw [if_neg (by decide), if_neg (by decide), if_neg (by decide), if_neg (by decide), if_neg (by decide), if_neg (by decide), if_pos (by decide), if_neg (by decide), if_neg (by decide), if_neg (by decide), if_pos (by decide), eC_4, e3, eM_20, e20]
    exact same _
  rw [if_neg h0, if_neg h1, if_neg h2, if_neg h3, if_neg h4, if_neg h5, if_neg h6]
  by_cases l4 : a < 4
  · rw [if_pos l4, if_neg h0, if_neg h1, if_neg h2, if_neg h3]; exact same _
  · rw [if_neg l4, if_neg h4, if_neg h5, if_neg h6]; exact same _
theorem a_tape (hN : 64 ≤ N) {t : Nat} (hI : Inv Z K m g t) (a : Int32) : Ans t 0 (f_H_tape N a (eC Z m g B pm sh)) (f_M_tape N a (eM Z K m g pf pn pl J sh)) := by
  obtain ⟨Z1, K1, hI1, -, -, -, -, -, -, fc, fm⟩ := sim_follow N Z K m g hN hI
  unfold f_H_tape f_M_tape f_M_tape_25
  rw [eC_1, fc, xB_some, fm, xB_some, eC_1]
  unfold f_T_command f_T_command_21
  rw [xBo_0, xBo_0]
  by_cases h0 : a < 0
  · rw [if_pos h0, if_pos h0, xB_some, xBo_0]; exact ans_same Z1 K1 m g B pm sh pf pn pl J hI1 0 _
  rw [if_neg h0, if_neg h0]
  by_cases h2 : 2 < a
  · rw [if_pos h2, if_pos h2, xB_some, xBo_0]; exact ans_same Z1 K1 m g B pm sh pf pn pl J hI1 0 _
  rw [if_neg h2, if_neg h2]
  obtain ⟨q, -, q2, rfl⟩ := i_rng (a := 0) (b := 2) (by decide) (by decide) h0 h2
  have hI2 := hI1
  obtain ⟨hT, hm, hg, c, ov, bg, pu, kd, p, a1, a2, a3, a4, a5, a6, a7, a8, a9, a10, a11⟩ := hI1
  -- what is left is a matter of the fields 4 and 0
  have fin : ∀ (U V : Nat → Int32) (Z2 K2 : xSt), (∀ j, j ≠ 4 → Z2 j = Z1 j) → Z2 4 = U → (∀ j, j ≠ 0 → K2 j = K1 j) → K2 0 = V → (∃ (c' ov' bg' : Nat) (pl' : Bool), c' ≤ c ∧ ov' ≤ c' ∧ U 1 = nI c' ∧ V 16 = nI c' ∧ U 3 = nI ov' ∧ V 20 = nI ov' ∧ U 4 = b2 pl' ∧ V 18 = b2 pl' ∧ (pl' = true → U 2 = nI bg' ∧ V 19 = nI bg' ∧ bg' ≤ t ∧ ov' = 0)) → Ans t 0 (some ((1 : Int32), eC Z2 m g B pm sh)) (some ((1 : Int32), eM Z1 K2 m g pf pn pl J sh)) := by
    intro U V Z2 K2 hz hU hk hV ⟨c', ov', bg', pl', x1, x2, x3, x4, x5, x6, x7, x8, x9⟩
    refine ⟨1, Z2, K2, m, g, B, pm, sh, pf, pn, pl, J, t, rfl, ?_, Nat.le_refl _, by omega, ?_, hm, hg, ?_⟩
    · rw [eM_cong (hz 1 (by decide)) (hz 7 (by decide))]
    · unfold Tm; rw [hz 1 (by decide)]; exact hT
    · rw [hU, hz 8 (by decide), hz 9 (by decide)]
      refine ⟨c', ov', bg', pu, kd, pl', by omega, x2, x3, by rw [hV]; exact x4, x5, by rw [hV]; exact x6, x7, by rw [hV]; exact x8, fun i hi => ?_, fun h => ?_, fun r hr => ?_⟩
      · rw [hk 5 (by decide)]; exact a9 i (by omega)
      · obtain ⟨y1, y2, y3, y4⟩ := x9 h
        exact ⟨y1, by rw [hV]; exact y2, y3, fun i hi => by omega⟩
      · rw [hk 3 (by decide)]; exact a11 r hr
  unfold f_T_command_23 f_T_command_34 f_T_command_51 f_T_command_61 f_M_tape_27 f_M_tape_38 f_M_tape_62 f_M_tape_79
  rcases (show q = 0 ∨ q = 1 ∨ q = 2 by omega) with rfl | rfl | rfl
  · rw [if_neg (show ¬ nI 0 = (1 : Int32) from by decide), if_neg (show ¬ nI 0 = (1 : Int32) from by decide), if_neg (show ¬ nI 0 = (1 : Int32) from by decide), if_neg (show ¬ nI 0 = (1 : Int32) from by decide)]
    rw [xBo_0, xPu_eq, uC_4, if_pos (show nI 0 = (0 : Int32) from rfl), if_neg (show ¬ nI 0 = (2 : Int32) from by decide), xBo_1, xB_some, xBo_1]
    rw [xBo_0, xPu_eq, uM_18, xPu_eq, eM_now, uM_19, if_neg (show ¬ (0 : Int32) < nI 0 from by decide), xPu_eq, eM_20, uM_20, if_neg (show ¬ nI 0 = (2 : Int32) from by decide), xPu_eq, eM_16, uM_16, xBo_1]
    refine fin _ _ _ _ (fun j hj => xU_ne _ _ _ hj) (xU_at _ _ _ _) (fun j hj => by rw [xU_ne _ _ _ hj, xU_ne _ _ _ hj, xU_ne _ _ _ hj, xU_ne _ _ _ hj]) (xU_at _ _ _ _) ⟨c, ov, bg, false, Nat.le_refl _, a2, ?_, ?_, ?_, ?_, ?_, ?_, fun h => by cases h⟩
    · rw [pk_un (by decide)]; exact a3
    · rw [pk_us, xU_at, pk_un (by decide), xU_at, pk_un (by decide), xU_at, pk_un (by decide)]; exact a4
    · rw [pk_un (by decide)]; exact a5
    · rw [pk_un (by decide), xU_at, pk_us, xU_at, pk_un (by decide), xU_at, pk_un (by decide)]; exact a6
    · rw [pk_us]; rfl
    · rw [pk_un (by decide), xU_at, pk_un (by decide), xU_at, pk_un (by decide), xU_at, pk_us]; rfl
  · rw [if_pos (show nI 1 = (1 : Int32) from rfl), if_pos (show nI 1 = (1 : Int32) from rfl), eC_4, a3, eM_16, a4]
    by_cases e0 : c = 0
    · subst e0
      rw [if_pos (show nI 0 = (0 : Int32) from rfl), if_pos (show nI 0 = (0 : Int32) from rfl), xB_some, xBo_0]; exact ans_same Z1 K1 m g B pm sh pf pn pl J hI2 0 _
    have n0 : ¬ nI c = (0 : Int32) := nI_ne (x := 0) (c := 0) rfl (by omega) (by decide) e0
    rw [if_neg n0, if_neg n0, if_pos (show nI 1 = (1 : Int32) from rfl), if_pos (show nI 1 = (1 : Int32) from rfl)]
    rw [xBo_1, xPu_eq, uC_4, if_neg (show ¬ nI 1 = (0 : Int32) from by decide), xPu_eq, uC_4, xPu_eq, uC_4, if_neg (show ¬ nI 1 = (2 : Int32) from by decide), xBo_1, xB_some, xBo_1]
    rw [xBo_1, xPu_eq, uM_18, xPu_eq, eM_now, uM_19, if_pos (show (0 : Int32) < nI 1 from by decide), xPu_eq, uM_20, if_neg (show ¬ nI 1 = (2 : Int32) from by decide), xPu_eq, eM_16, uM_16, xBo_1]
    refine fin _ _ _ _ (fun j hj => by rw [xU_ne _ _ _ hj, xU_ne _ _ _ hj, xU_ne _ _ _ hj]) (xU_at _ _ _ _) (fun j hj => by rw [xU_ne _ _ _ hj, xU_ne _ _ _ hj, xU_ne _ _ _ hj, xU_ne _ _ _ hj]) (xU_at _ _ _ _) ⟨c, 0, t, true, Nat.le_refl _, Nat.zero_le _, ?_, ?_, ?_, ?_, ?_, ?_, fun _ => ⟨?_, ?_, Nat.le_refl _, rfl⟩⟩
    · rw [pk_un (by decide), xU_at, pk_un (by decide), xU_at, pk_un (by decide)]; exact a3
    · rw [pk_us, xU_at, pk_un (by decide), xU_at, pk_un (by decide), xU_at, pk_un (by decide)]; exact a4
    · rw [pk_un (by decide), xU_at, pk_us]; rfl
    · rw [pk_un (by decide), xU_at, pk_us]; rfl
    · rw [pk_un (by decide), xU_at, pk_un (by decide), xU_at, pk_us]; rfl
    · rw [pk_un (by decide), xU_at, pk_un (by decide), xU_at, pk_un (by decide), xU_at, pk_us]; rfl
    · rw [pk_us]; exact hT.1
    · rw [pk_un (by decide), xU_at, pk_un (by decide), xU_at, pk_us]; exact hT.1
  · rw [if_neg (show ¬ nI 2 = (1 : Int32) from by decide), if_neg (show ¬ nI 2 = (1 : Int32) from by decide), if_neg (show ¬ nI 2 = (1 : Int32) from by decide), if_neg (show ¬ nI 2 = (1 : Int32) from by decide)]
    rw [xBo_0, xPu_eq, uC_4, if_neg (show ¬ nI 2 = (0 : Int32) from by decide), xPu_eq, uC_4, xPu_eq, uC_4, if_pos (show nI 2 = (2 : Int32) from rfl), xPu_eq, uC_4, xBo_1, xB_some, xBo_1]
    rw [xBo_0, xPu_eq, uM_18, xPu_eq, eM_now, uM_19, if_pos (show (0 : Int32) < nI 2 from by decide), xPu_eq, uM_20, if_pos (show nI 2 = (2 : Int32) from rfl), xPu_eq, uM_16, xBo_1]
    refine fin _ _ _ _ (fun j hj => by rw [xU_ne _ _ _ hj, xU_ne _ _ _ hj, xU_ne _ _ _ hj, xU_ne _ _ _ hj]) (xU_at _ _ _ _) (fun j hj => by rw [xU_ne _ _ _ hj, xU_ne _ _ _ hj, xU_ne _ _ _ hj, xU_ne _ _ _ hj]) (xU_at _ _ _ _) ⟨0, 0, t, false, Nat.zero_le _, Nat.zero_le _, ?_, ?_, ?_, ?_, ?_, ?_, fun h => by cases h⟩
    · rw [pk_us]; rfl
    · rw [pk_us]; rfl
    · rw [pk_un (by decide), xU_at, pk_un (by decide), xU_at, pk_us]; rfl
    · rw [pk_un (by decide), xU_at, pk_us]; rfl
    · rw [pk_un (by decide), xU_at, pk_un (by decide), xU_at, pk_un (by decide), xU_at, pk_us]; rfl
    · rw [pk_un (by decide), xU_at, pk_un (by decide), xU_at, pk_un (by decide), xU_at, pk_us]; rfl
end CT
