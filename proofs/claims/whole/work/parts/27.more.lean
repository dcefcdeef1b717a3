/-! MORE (237): its pieces -/
theorem twelve1 : ∀ c, c < 16 → ∀ n, n < 256 → ((nI c <<< ((4 : Int32) &&& 31)) ||| (nI n >>> ((4 : Int32) &&& 31))) = (16 : Int32) * nI c + (nI n >>> ((4 : Int32) &&& 31)) := by decide +kernel
theorem twelve2 : ∀ c, c < 16 → ∀ n, n < 256 → ((nI n <<< ((4 : Int32) &&& 31)) ||| nI c) &&& 255 = ((16 : Int32) * (nI n &&& 15) + nI c) &&& 255 := by decide +kernel
theorem sh4_by : ∀ n, n < 256 → (nI n >>> ((4 : Int32) &&& 31)) &&& 255 = nI n >>> ((4 : Int32) &&& 31) := by decide +kernel
theorem mW_c {m : Nat → Int32} {a v w : Int32} (h : v &&& 255 = w &&& 255) : mW m a v = mW m a w := by unfold mW; rw [h]
section MO
variable (N : Nat) (Z K : xSt) (m g : Nat → Int32) (pm sh pn pl : Int32) (J : Nat → Int32)
theorem bs6 : Bs 6 := Or.inl rfl
theorem mh6 : Mh 6 0 := Or.inl ⟨rfl, rfl⟩
theorem mg6 : Mg 6 0 pn := Or.inl ⟨rfl, rfl⟩
theorem gSg_1 {k : Nat} (h6 : k ≠ 6) (hk : k < 8) (g : Nat → Int32) (v w : Int32) : gSg 6 (upd g 1 w) k v = upd (gSg 6 g k v) 1 w := by
  unfold gSg
  by_cases h7 : k = 7
  · rw [if_pos h7, if_pos h7, upd_comm _ _ _ (by decide : (1 : Nat) ≠ 0)]
  · rw [if_neg h7, if_neg h7, if_pos (Or.inr rfl), if_pos (Or.inr rfl), upd_comm _ _ _ (by omega : (1 : Nat) ≠ 2 + k)]
theorem gSg_g1 {k : Nat} (hk : k < 8) (g : Nat → Int32) (v : Int32) : gSg 6 g k v 1 = g 1 := by
  unfold gSg
  by_cases h7 : k = 7
  · rw [if_pos h7, pk_un (by decide)]
  · rw [if_neg h7, if_pos (Or.inr rfl), pk_un (by omega)]
/-- z = 0: IN -/
theorem sim_inr (hN : 64 ≤ N) {t : Nat} (hI : Inv Z K m g t) (hb : t + 100 < 2 ^ 30) {y : Nat} (hy : y < 8) : Sim t 100 (f_P_takeFromPort N (nI y) (eC Z m g (nI 6) pm sh)) (xB (f_M_pair N 2 (eM Z K m g 0 pn pl J sh)) fun v40 S41 => (xB (f_M_input N v40 S41) fun v42 S43 => (if nI y = (6 : Int32) then (f_M_more_101 N v42 S43) else (xB (f_M_put N (nI y) v42 S43) fun v44 S45 => (f_M_more_101 N v42 S45))))) := by
  obtain ⟨hT, hm, hg, hR⟩ := hI
  have hI : Inv Z K m g t := ⟨hT, hm, hg, hR⟩
  have hw := pw_wd (hg.1 2 (by decide)) (hg.1 3 (by decide))
  obtain ⟨v, Z1, K1, t1, hv, a1, a2, hI1, o1, o2⟩ := sim_in N Z K m g hN hI (by omega) hw
  have hF : By ((g 1 &&& 1) ||| (byv v ||| par v)) := (an_by _ (by_c 1 (by decide))).or ((byv_by _).or (par_by _))
  have hg1 := hg.u8 (i := 1) (by decide) hF
  unfold f_P_takeFromPort f_P_takeFromPort_40 f_M_more_101 f_M_more_426
  rw [c_joined N Z m g pm sh _ (a := 2) (j := 2) rfl (by decide), xB_some, o1, xB_some, c_byP, xB_some, c_setFlags, xB_some, m_pair N K m g sh 0 pn pl J Z (a := 2) (j := 2) rfl (by decide) hg, xB_some, o2, xB_some]
  by_cases h6 : y = 6
  · subst h6
    rw [if_pos (by decide), if_pos (by decide)]
    refine ⟨Z1, K1, m, _, nI 6, pm, sh, 0, pn, pl, J, t1, rfl, ?_, a1, by omega, hI1.reg hg1⟩
    rw [xr_1, eM_g, m_by, xB_some, m_parity N _ hN hv, xB_some, xw_1, uM_g, or3]
  · have n6 : ¬ nI y = 6 := nI_ne (x := 6) (c := 6) rfl (by omega) (by decide) h6
    rw [if_neg n6, if_neg n6]
    refine ⟨Z1, K1, m, gSg 6 (upd g 1 ((g 1 &&& 1) ||| (byv v ||| par v))) y v, nI 6, pm, sh, 0, pn, pl, J, t1, ?_, ?_, a1, by omega, hI1.reg (hg1.sg bs6 hy hv)⟩
    · rw [c_setSingle N Z1 m _ 6 pm sh bs6 rfl hy h6, xB_some]
    · rw [m_put N K1 m g sh 0 pn pl J 6 Z1 (mg6 pn) hg rfl hy h6 hv, xB_some, xr_1, eM_g, gSg_g1 hy, m_by, xB_some, m_parity N _ hN hv, xB_some, xw_1, uM_g, gSg_1 h6 hy, or3]
/-- z = 1: OUT -/
theorem sim_outr (hN : 64 ≤ N) {t : Nat} (hI : Inv Z K m g t) (hb : t + 100 < 2 ^ 30) {y : Nat} (hy : y < 8) : Sim t 100 (xB (f_G_joined N 2 (eC Z m g (nI 6) pm sh)) fun v5 S6 => (if nI y = (6 : Int32) then (f_P_more_138 N v5 (0 : Int32) S6) else (xB (f_G_single N (nI y) S6) fun v7 S8 => (f_P_more_138 N v5 v7 S8)))) (xB (f_M_pair N 2 (eM Z K m g 0 pn pl J sh)) fun v36 S37 => (if nI y = (6 : Int32) then (f_M_more_156 N v36 (0 : Int32) S37) else (xB (f_M_get N (nI y) S37) fun v38 S39 => (f_M_more_156 N v36 v38 S39)))) := by
  obtain ⟨hT, hm, hg, hR⟩ := hI
  have hI : Inv Z K m g t := ⟨hT, hm, hg, hR⟩
  have hw := pw_wd (hg.1 2 (by decide)) (hg.1 3 (by decide))
  rw [c_joined N Z m g pm sh _ (a := 2) (j := 2) rfl (by decide), xB_some, m_pair N K m g sh 0 pn pl J Z (a := 2) (j := 2) rfl (by decide) hg, xB_some]
  have go : ∀ v : Int32, Sim t 100 (f_P_more_138 N (pw (g 2) (g 3)) v (eC Z m g (nI 6) pm sh)) (f_M_more_156 N (pw (g 2) (g 3)) v (eM Z K m g 0 pn pl J sh)) := by
    intro v
    obtain ⟨Z1, t1, a1, a2, hI1, o1, o2⟩ := sim_out N Z K m g hN hI (by omega) hw v
    unfold f_P_more_138 f_P_more_234 f_M_more_156 f_M_more_426
    rw [o1, xB_some, o2, xB_some]
    exact ⟨Z1, K, m, g, nI 6, pm, sh, 0, pn, pl, J, t1, rfl, rfl, a1, by omega, hI1⟩
  by_cases h6 : y = 6
  · subst h6
    rw [if_pos (by decide), if_pos (by decide)]
    exact go 0
  · have n6 : ¬ nI y = 6 := nI_ne (x := 6) (c := 6) rfl (by omega) (by decide) h6
    rw [if_neg n6, if_neg n6, c_single N Z m g 6 pm sh bs6 rfl hy h6, xB_some, m_get N K m g sh 0 pn pl J 6 Z (mg6 pn) rfl hy h6, xB_some]
    exact go _
theorem gHl6 (g : Nat → Int32) (v : Int32) : gHl 6 g v = gSp g 6 v := by unfold gHl; rw [if_pos rfl]
theorem gSp_6_1 (g : Nat → Int32) (v w : Int32) : gSp (upd g 1 w) 6 v = upd (gSp g 6 v) 1 w := by
  unfold gSp
  rw [upd_comm _ _ _ (by decide : (1 : Nat) ≠ 6), upd_comm _ _ _ (by decide : (1 : Nat) ≠ 7)]
/-- z = 2: ADC, SBC -/
theorem sim_adc (hN : 64 ≤ N) {t : Nat} (hI : Inv Z K m g t) {y : Nat} (hy : y < 8) : Sim t 0 (f_P_sumWithCarry N (nI y) (eC Z m g (nI 6) pm sh)) (xRd (eM Z K m g 0 pn pl J sh) 2 26 (1 : Int32) fun v22 => (xV (v22 &&& (1 : Int32)) fun b23 => (if b2 (decide (y % 2 = 1)) = 0 then (xB (f_M_pair N (6 : Int32) (eM Z K m g 0 pn pl J sh)) fun v24 S25 => (xB (f_M_w N (nI (y / 2)) S25) fun v26 S27 => (xB (f_M_difference N v24 v26 b23 (16 : Int32) S27) fun v28 S29 => (f_M_more_225 N (b2 (decide (y % 2 = 1))) v28 S29)))) else (xB (f_M_pair N (6 : Int32) (eM Z K m g 0 pn pl J sh)) fun v30 S31 => (xB (f_M_w N (nI (y / 2)) S31) fun v32 S33 => (xB (f_M_sum N v30 v32 b23 (16 : Int32) S33) fun v34 S35 => (f_M_more_225 N (b2 (decide (y % 2 = 1))) v34 S35))))))) := by
  obtain ⟨hT, hm, hg, hR⟩ := hI
  have hk : y / 2 < 4 := by omega
  have w1 := hlv_wd hg bs6
  have w2 := prv_wd hg bs6 hk
  have eh : pw (g 6) (g 7) = hlv 6 g := by unfold hlv; rw [if_pos rfl]
  obtain ⟨c, hc⟩ := cb (g 1)
  -- the common end
  have fin : ∀ (r : Int32) (hr : Wd r) (h o cy : Bool) (J' : Nat → Int32) (q : Bool), J' 7 = b2 h → J' 9 = b2 o → J' 8 = b2 cy →
      ∃ g', Gd g' ∧ f_P_sumWithCarry_51 N (pw r (byw r ||| rsv h o cy (if q then 0 else 2))) (eC Z m g (nI 6) pm sh) = some (0, eC Z m g' (nI 6) pm sh) ∧ f_M_more_225 N (b2 q) r (eM Z K m g 0 pn pl J' sh) = some (0, eM Z K m g' 0 pn pl J' sh) := by
    intro r hr h o cy J' q q7 q9 q8
    have hn2 : By (if q then (0 : Int32) else 2) := by cases q; exact by_c 2 (by decide); exact by_c 0 (by decide)
    have hf := (byw_by r).or (rsv_by h o cy hn2)
    refine ⟨upd (gSp g 6 r) 1 (byw r ||| rsv h o cy (if q then 0 else 2)), (gSp_gd hg (by decide) r).u8 (by decide) hf, ?_, ?_⟩
    · unfold f_P_sumWithCarry_51
      rw [pw_lo hr hf, pw_hi hr hf, xw_1, uC_g, c_setHl N Z m _ 6 pm sh bs6, xB_some, gHl6, gSp_6_1]
    · unfold f_M_more_225 f_M_more_260 f_M_more_272 f_M_more_426
      rw [m_setPair N K m g sh 0 pn pl J' Z r (a := 6) (j := 6) rfl (by decide), xB_some]
      have fl' : ∀ x : Int32, x = (((r >>> ((8 : Int32) &&& 31)) &&& 168) ||| (if r = 0 then 64 else 0)) → (if b2 q = 0 then (xB (f_M_rest N 2 (eM Z K m (gSp g 6 r) 0 pn pl J' sh)) fun v1 S2 => xWr S2 2 26 1 (x ||| v1) fun S3 => some (0, S3)) else (xB (f_M_rest N 0 (eM Z K m (gSp g 6 r) 0 pn pl J' sh)) fun v1 S2 => xWr S2 2 26 1 (x ||| v1) fun S3 => some (0, S3))) = some (0, eM Z K m (upd (gSp g 6 r) 1 (byw r ||| rsv h o cy (if q then 0 else 2))) 0 pn pl J' sh) := by
        intro x hx
        cases q
        · rw [if_pos (by decide), m_rest N Z K m _ sh 0 pn pl J' q7 q9 q8, xB_some, xw_1, uM_g, hx]; rfl
        · rw [if_neg (by decide), m_rest N Z K m _ sh 0 pn pl J' q7 q9 q8, xB_some, xw_1, uM_g, hx]; rfl
      by_cases hz : r = 0
      · rw [if_pos hz]; exact fl' _ (by rw [if_pos hz])
      · rw [if_neg hz]; exact fl' _ (by rw [if_neg hz])
  unfold f_P_sumWithCarry
  rw [ny1 hy, c_pair N Z m g 6 pm sh bs6 rfl hk, xB_some, nod hy, xr_1, eM_g, xV_eq, hc]
  rcases (show y % 2 = 0 ∨ y % 2 = 1 by omega) with h2 | h2
  · rw [h2, if_neg (by decide), c_hl N Z m g 6 pm sh bs6, xB_some, c_carry, xB_some, hc, c_minusWide N _ w1 w2 c, xB_some, show (decide ((0 : Nat) = 1)) = false from rfl, if_pos (by decide), m_pair N K m g sh 0 pn pl J Z (a := 6) (j := 6) rfl (by decide) hg, xB_some, eh, m_w N K m g sh 0 pn pl J 6 Z mh6 hg rfl hk, xB_some]
    obtain ⟨J', q1, q2, q3, -, q5⟩ := m_diff N Z K m g sh 0 pn pl (hlv 6 g) (prv 6 g (y / 2)) c (w := 16) (by decide) (by decide) hN J
    rw [show (16 : Int32) = nI 16 from rfl, q5, xB_some]
    obtain ⟨g', hg', e1, e2⟩ := fin _ (lo16_wd _) _ _ _ J' false q1 q3 q2
    exact ⟨Z, K, m, g', nI 6, pm, sh, 0, pn, pl, J', t, e1, e2, Nat.le_refl _, Nat.le_refl _, hT, hm, hg', hR⟩
  · rw [h2, if_pos (show nI 1 = (1 : Int32) from rfl), c_hl N Z m g 6 pm sh bs6, xB_some, c_carry, xB_some, hc, c_plusWide N _ w1 w2 c, xB_some, show (decide ((1 : Nat) = 1)) = true from rfl, if_neg (by decide), m_pair N K m g sh 0 pn pl J Z (a := 6) (j := 6) rfl (by decide) hg, xB_some, eh, m_w N K m g sh 0 pn pl J 6 Z mh6 hg rfl hk, xB_some]
    obtain ⟨J', q1, q2, q3, -, q5⟩ := m_sum N Z K m g sh 0 pn pl (hlv 6 g) (prv 6 g (y / 2)) c (w := 16) (by decide) (by decide) hN J
    rw [show (16 : Int32) = nI 16 from rfl, q5, xB_some]
    obtain ⟨g', hg', e1, e2⟩ := fin _ (lo16_wd _) _ _ _ J' true q1 q3 q2
    exact ⟨Z, K, m, g', nI 6, pm, sh, 0, pn, pl, J', t, e1, e2, Nat.le_refl _, Nat.le_refl _, hT, hm, hg', hR⟩
/-- z = 3: LD of pairs -/
theorem sim_ldp (hN : 64 ≤ N) {t : Nat} (hI : Inv Z K m g t) (hb : t + 100 < 2 ^ 30) {y : Nat} (hy : y < 8) : Sim t 100 (f_P_passPair N (nI y) (eC Z m g (nI 6) pm sh)) (xB (f_M_twoNext N (eM Z K m g 0 pn pl J sh)) fun v12 S13 => (if b2 (decide (y % 2 = 1)) = 0 then (xB (f_M_w N (nI (y / 2)) S13) fun v14 S15 => (xB (f_M_setTwo N v12 v14 S15) fun v16 S17 => (f_M_more_323 N S17))) else (xB (f_M_two N v12 S13) fun v18 S19 => (xB (f_M_setW N (nI (y / 2)) v18 S19) fun v20 S21 => (f_M_more_323 N S21))))) := by
  obtain ⟨hT, hm, hg, hR⟩ := hI
  have hI : Inv Z K m g t := ⟨hT, hm, hg, hR⟩
  have hk : y / 2 < 4 := by omega
  obtain ⟨t1, a1, a2, hI1⟩ := hI.a3 (g 21) (by omega)
  obtain ⟨t2, a3, a4, hI20⟩ := hI1.a3 (g 21 + 1) (by omega)
  have hI2 := hI20.reg (hg.pc 2)
  clear hI20
  have hg2 : Gd (gPC g 2) := hg.pc 2
  unfold f_P_passPair f_P_passPair_45 f_M_more_323 f_M_more_426
  rw [c_nextWord, xB_some, nod hy, m_twoNext N K m g sh 0 pn pl J hT hN (by omega) hm, xB_some]
  generalize pw (m (ix (g 21 + 1))) (m (ix (g 21))) = w
  generalize zA (zA Z (g 21) 3) (g 21 + 1) 3 = Z2 at hI2 ⊢
  generalize gPC g 2 = g2 at hI2 hg2 ⊢
  have hT2 := hI2.1
  obtain ⟨t3, a5, a6, hI3⟩ := hI2.a3 w (by omega)
  obtain ⟨t4, a7, a8, hI4⟩ := hI3.a3 (w + 1) (by omega)
  rcases (show y % 2 = 0 ∨ y % 2 = 1 by omega) with h2 | h2
  · rw [h2, if_neg (by decide), show (decide ((0 : Nat) = 1)) = false from rfl, if_pos (by decide), ny1 hy, c_pair N Z2 m g2 6 pm sh bs6 rfl hk, xB_some, c_writeWord, xB_some, m_w N K m g2 sh 0 pn pl J 6 Z2 mh6 hg2 rfl hk, xB_some, m_setTwo N K m g2 sh 0 pn pl J hT2 hN (by omega), xB_some]
    exact ⟨_, K, _, g2, nI 6, pm, sh, 0, pn, pl, J, t4, rfl, rfl, by omega, by omega, hI4.mem ((hm.mw _ _).mw _ _)⟩
  · rw [h2, if_pos (show nI 1 = (1 : Int32) from rfl), show (decide ((1 : Nat) = 1)) = true from rfl, if_neg (by decide), c_readWord, xB_some, ny1 hy, c_setPair N _ m g2 6 pm sh bs6 rfl hk, xB_some, m_two N K m g2 sh 0 pn pl J hT2 hN (by omega) hm, xB_some, m_setW N K m g2 sh 0 pn pl J 6 _ mh6 rfl hk, xB_some]
    exact ⟨_, K, m, _, nI 6, pm, sh, 0, pn, pl, J, t4, rfl, rfl, by omega, by omega, hI4.reg (hg2.pr bs6 hk _)⟩
/-- z = 4: NEG -/
theorem sim_neg (hN : 64 ≤ N) {t : Nat} (hI : Inv Z K m g t) : Sim t 0 (xRd (eC Z m g (nI 6) pm sh) 10 26 (0 : Int32) fun v16 => (xB (f_A_minus N (0 : Int32) v16 (0 : Int32) (eC Z m g (nI 6) pm sh)) fun v17 S18 => (xB (f_G_split N (0 : Int32) v17 S18) fun v19 S20 => (f_P_more_234 N S20)))) (xRd (eM Z K m g 0 pn pl J sh) 2 26 (0 : Int32) fun v8 => (xWr (eM Z K m g 0 pn pl J sh) 2 26 (0 : Int32) (0 : Int32) fun S9 => (xB (f_M_work N (2 : Int32) v8 S9) fun v10 S11 => (f_M_more_426 N S11)))) := by
  obtain ⟨hT, hm, hg, hR⟩ := hI
  have h0 := hg.1 0 (by decide)
  have hz : By (0 : Int32) := by_c 0 (by decide)
  have hg0 : Gd (upd g 0 0) := hg.u8 (by decide) hz
  obtain ⟨J', q1, q2, q3, -, q5⟩ := m_diff N Z K m (upd g 0 0) sh 0 pn pl 0 (g 0) false (w := 8) (by decide) (by decide) hN J
  have hr := lo8_by ((0 : Int32) - g 0 - b2 false)
  have hf := (byv_by (lo ((0 : Int32) - g 0 - b2 false) 8)).or (rsv_by (!cr 4 0 (g 0 ^^^ (-1)) (!false)) (cr 7 0 (g 0 ^^^ (-1)) (!false) ^^ cr 8 0 (g 0 ^^^ (-1)) (!false)) (!cr 8 0 (g 0 ^^^ (-1)) (!false)) (n := 2) (by_c 2 (by decide)))
  have hb := by_all (P := fun x => (byv x &&& (-41)) ||| (x &&& 40) = byv x) by40 hr
  refine ⟨Z, K, m, _, nI 6, pm, sh, 0, pn, pl, J', t, ?_, ?_, Nat.le_refl _, Nat.le_refl _, hT, hm, (hg.u8 (i := 0) (by decide) hr).u8 (i := 1) (by decide) hf, hR⟩
  · unfold f_P_more_234
    have := c_minus N (eC Z m g (nI 6) pm sh) hz h0 false
    rw [show b2 false = (0 : Int32) from rfl] at this hr hf
    rw [xr_0, eC_g, this, xB_some, c_split N Z m g pm sh _ _ (a := 0) (j := 0) rfl (by decide), xB_some, gSp_pw g 0 hr hf]
    rfl
  · unfold f_M_more_426
    rw [xr_0, eM_g, xw_0, uM_g]
    unfold f_M_work f_M_work_87 f_M_work_101 f_M_work_133 f_M_work_161 f_M_work_233
    rw [xr_0, eM_g, pk_us, xr_1, xV_eq, if_neg (by decide), if_pos rfl, if_neg (by decide), show (8 : Int32) = nI 8 from rfl]
    rw [show f_M_difference N 0 (g 0) 0 (nI 8) (eM Z K m (upd g 0 0) 0 pn pl J sh) = f_M_difference N 0 (g 0) (b2 false) (nI 8) (eM Z K m (upd g 0 0) 0 pn pl J sh) from rfl, q5, xB_some, m_by, xB_some, if_neg (by decide), m_rest N Z K m _ sh 0 pn pl J' q1 q3 q2, xB_some, xw_1, uM_g, if_neg (by decide), xw_0, uM_g, xB_some, hb, upd_comm _ _ _ (by decide : (1 : Nat) ≠ 0), upd_upd]
end MO
