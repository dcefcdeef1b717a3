/-! the first quarter, the rest of it -/
theorem add40 : ∀ h o c : Bool, ∀ z : Bool, ∀ n, n < 256 → (((nI n &&& 168) ||| (if z then 64 else 0)) ||| rsv h o c 0) &&& ((196 : Int32) ^^^ (-1)) = (nI n &&& 40) ||| (rsv h o c 0 &&& (-5)) := by decide +kernel
theorem wd_hi8 {x : Int32} (h : Wd x) : By (x >>> ((8 : Int32) &&& 31)) := wd_hi h
section F2
variable (N : Nat) (Z K : xSt) (m g : Nat → Int32) (b : Nat) (pm sh pf pn pl : Int32) (J : Nat → Int32)
theorem hl_un {g : Nat → Int32} {b : Nat} (hb : Bs b) {i : Nat} (hi : i = 1 ∨ i = 0 ∨ i = 21 ∨ i = 20) (v : Int32) : hlv b (upd g i v) = hlv b g := by
  unfold hlv
  rcases hb with rfl | rfl | rfl
  · rw [if_pos rfl, if_pos rfl, pk_un (by omega), pk_un (by omega)]
  · rw [if_neg (by decide), if_neg (by decide), pk_un (by omega)]
  · rw [if_neg (by decide), if_neg (by decide), pk_un (by omega)]
theorem gHl_1 {g : Nat → Int32} {b : Nat} (hb : Bs b) (v : Int32) : gHl b g v 1 = g 1 := by
  unfold gHl gSp
  rcases hb with rfl | rfl | rfl
  · rw [if_pos rfl, pk_un (by decide), pk_un (by decide)]
  · rw [if_neg (by decide), pk_un (by decide)]
  · rw [if_neg (by decide), pk_un (by decide)]
theorem sim_addpair (hN : 64 ≤ N) {t : Nat} (hI : Inv Z K m g t) (hM : Mh b pf) {k : Nat} (hk : k < 4) : Sim t 0 (f_P_addPair N (nI k) (eC Z m g (nI b) pm sh)) (xB (f_M_w N (nI k) (eM Z K m g pf pn pl J sh)) fun v S => f_M_add N v S) := by
  obtain ⟨hT, hm, hg, hR⟩ := hI
  have hbs := hM.bs
  have w1 := hlv_wd hg hbs
  have w2 := prv_wd hg hbs hk
  obtain ⟨J', q1, q2, q3, -, q5⟩ := m_sum N Z K m g sh pf pn pl (hlv b g) (prv b g k) false (w := 16) (by decide) (by decide) hN J
  generalize hs : lo (hlv b g + prv b g k + b2 false) 16 = r at q5
  have hr : Wd r := by rw [← hs]; exact lo16_wd _
  have hfl := (byw_by r).or (rsv_by (cr 12 (hlv b g) (prv b g k) false) (cr 15 (hlv b g) (prv b g k) false ^^ cr 16 (hlv b g) (prv b g k) false) (cr 16 (hlv b g) (prv b g k) false) (n := 0) (by_c 0 (by decide)))
  have hcp := c_plusWide N (eC Z m g (nI b) pm sh) w1 w2 false
  rw [hs] at hcp
  generalize hrs : rsv (cr 12 (hlv b g) (prv b g k) false) (cr 15 (hlv b g) (prv b g k) false ^^ cr 16 (hlv b g) (prv b g k) false) (cr 16 (hlv b g) (prv b g k) false) 0 = rv at hfl hcp
  have hrv : By rv := by rw [← hrs]; exact rsv_by _ _ _ (by_c 0 (by decide))
  have key : (byw r ||| rv) &&& ((196 : Int32) ^^^ (-1)) = ((r >>> ((8 : Int32) &&& 31)) &&& 40) ||| (rv &&& (-5)) := by
    obtain ⟨n, hn, en⟩ := wd_hi hr
    unfold byw
    rw [en, ← hrs]
    have := add40 (cr 12 (hlv b g) (prv b g k) false) (cr 15 (hlv b g) (prv b g k) false ^^ cr 16 (hlv b g) (prv b g k) false) (cr 16 (hlv b g) (prv b g k) false) (decide (r = 0)) n hn
    by_cases hz : r = 0
    · rw [decide_eq_true hz] at this; rw [if_pos hz]; exact this
    · rw [decide_eq_false hz] at this; rw [if_neg hz]; exact this
  have hF : By ((g 1 &&& 196) ||| (((r >>> ((8 : Int32) &&& 31)) &&& 40) ||| (rv &&& (-5)))) := (an_by _ (by_c 196 (by decide))).or ((an_by _ (by_c 40 (by decide))).or hrv.and)
  refine ⟨Z, K, m, upd (gHl b g r) 1 ((g 1 &&& 196) ||| (((r >>> ((8 : Int32) &&& 31)) &&& 40) ||| (rv &&& (-5)))), nI b, pm, sh, pf, pn, pl, J', t, ?_, ?_, Nat.le_refl _, Nat.le_refl _, hT, hm, (hg.hl hbs r).u8 (by decide) hF, hR⟩
  · unfold f_P_addPair
    rw [c_hl N Z m g b pm sh hbs, xB_some, c_pair N Z m g b pm sh hbs rfl hk, xB_some, show (0 : Int32) = b2 false from rfl, hcp, xB_some, pw_hi hr hfl, c_setHl N Z m g b pm sh hbs, xB_some, pw_lo hr hfl, key, c_setFlags, xB_some, gHl_1 hbs]
  · unfold f_M_add
    rw [m_w N K m g sh pf pn pl J b Z hM hg rfl hk, xB_some, m_main N K m g sh pf pn pl J b Z hM hg, xB_some, show (0 : Int32) = b2 false from rfl, show (16 : Int32) = nI 16 from rfl, q5, xB_some, m_setMain N K m g sh pf pn pl J' b Z hM, xB_some, xr_1, eM_g, gHl_1 hbs, show b2 false = (0 : Int32) from rfl, m_rest N Z K m _ sh pf pn pl J' q1 q3 q2, xB_some, hrs, xw_1, uM_g, or3]
theorem sim_store (hN : 64 ≤ N) {t : Nat} (hI : Inv Z K m g t) (hb : t + 100 < 2 ^ 30) (hM : Mh b pf) {k : Nat} (hk : k < 4) (q : Bool) : Sim t 100 (if q then f_P_takeFrom N (nI k) (eC Z m g (nI b) pm sh) else f_P_putAt N (nI k) (eC Z m g (nI b) pm sh)) (f_M_store N (nI k) (b2 q) (eM Z K m g pf pn pl J sh)) := by
  obtain ⟨hT, hm, hg, hR⟩ := hI
  have hI : Inv Z K m g t := ⟨hT, hm, hg, hR⟩
  have hbs := hM.bs
  by_cases h2 : k < 2
  · have n2 : nI k < 2 := nI_lt (b := 2) h2 (by decide)
    have ne2 : ¬ nI k = 2 := nI_ne (x := 2) (c := 2) rfl (by omega) (by decide) (by omega)
    have ep : prv b g k = pw (g (2 + 2 * k)) (g (2 + 2 * k + 1)) := by
      unfold prv
      rw [if_neg (by omega), if_neg (by omega), show 3 + 2 * k = 2 + 2 * k + 1 by omega]
    obtain ⟨t', b1, b2', hI'⟩ := hI.a3 (prv b g k) (by omega)
    cases q
    · refine ⟨zA Z (prv b g k) 3, K, mW m (prv b g k) (g 0), g, nI b, pm, sh, pf, pn, pl, J, t', ?_, ?_, b1, by omega, hI'.mem (hm.mw _ _)⟩
      · show f_P_putAt N (nI k) (eC Z m g (nI b) pm sh) = _
        unfold f_P_putAt
        rw [if_pos n2, c_pair N Z m g b pm sh hbs rfl hk, xB_some, xr_0, eC_g, c_write, xB_some]
      · unfold f_M_store f_M_store_50
        rw [if_pos n2, if_pos (by decide), n2k, m_pair N K m g sh pf pn pl J Z rfl (by omega) hg, xB_some, ← ep, xr_0, eM_g, m_write N K m g sh pf pn pl J hT hN _ _ (by omega), xB_some]
    · refine ⟨zA Z (prv b g k) 3, K, m, upd g 0 (m (ix (prv b g k))), nI b, pm, sh, pf, pn, pl, J, t', ?_, ?_, b1, by omega, hI'.reg (hg.u8 (by decide) (hm _))⟩
      · show f_P_takeFrom N (nI k) (eC Z m g (nI b) pm sh) = _
        unfold f_P_takeFrom f_P_takeFrom_41
        rw [if_neg ne2, if_pos n2, c_pair N Z m g b pm sh hbs rfl hk, xB_some, c_read, xB_some, xw_0, uC_g]
      · unfold f_M_store f_M_store_50
        rw [if_pos n2, if_neg (by decide), n2k, m_pair N K m g sh pf pn pl J Z rfl (by omega) hg, xB_some, ← ep, m_read N K m g sh pf pn pl J hT hN _ (by omega), xB_some, xw_0, uM_g]
  · have n2 : ¬ nI k < 2 := nI_nl (x := 2) (c := 2) rfl (by omega) (by omega)
    obtain ⟨t1, a1, a2, hI1⟩ := hI.a3 (g 21) (by omega)
    obtain ⟨t2, a3, a4, hI20⟩ := hI1.a3 (g 21 + 1) (by omega)
    have hI2 := hI20.reg (hg.pc 2)
    clear hI20
    have mt := m_twoNext N K m g sh pf pn pl J hT hN (by omega) hm
    generalize hw : pw (m (ix (g 21 + 1))) (m (ix (g 21))) = w at mt
    have cw := c_nextWord N Z m g pm sh (nI b)
    rw [hw] at cw
    generalize zA (zA Z (g 21) 3) (g 21 + 1) 3 = Z2 at hI2 mt cw
    have hg2 : Gd (gPC g 2) := hg.pc 2
    generalize gPC g 2 = g2 at hI2 mt cw hg2
    have hT2 := hI2.1
    obtain ⟨t3, a5, a6, hI3⟩ := hI2.a3 w (by omega)
    obtain ⟨t4, a7, a8, hI4⟩ := hI3.a3 (w + 1) (by omega)
    by_cases h3 : k = 3
    · subst h3
      have ne2 : ¬ nI 3 = 2 := by decide
      cases q
      · refine ⟨zA Z2 w 3, K, mW m w (g2 0), g2, nI b, pm, sh, pf, pn, pl, J, t3, ?_, ?_, by omega, by omega, hI3.mem (hm.mw _ _)⟩
        · show f_P_putAt N (nI 3) (eC Z m g (nI b) pm sh) = _
          unfold f_P_putAt f_P_putAt_66
          rw [if_neg n2, cw, xB_some, if_neg ne2, xr_0, eC_g, c_write, xB_some]
        · unfold f_M_store f_M_store_77 f_M_store_123
          rw [if_neg n2, mt, xB_some, if_neg ne2, if_neg ne2, if_pos (by decide), xr_0, eM_g, m_write N K m g2 sh pf pn pl J hT2 hN _ _ (by omega), xB_some]
      · refine ⟨zA Z2 w 3, K, m, upd g2 0 (m (ix w)), nI b, pm, sh, pf, pn, pl, J, t3, ?_, ?_, by omega, by omega, hI3.reg (hg2.u8 (by decide) (hm _))⟩
        · show f_P_takeFrom N (nI 3) (eC Z m g (nI b) pm sh) = _
          unfold f_P_takeFrom f_P_takeFrom_41
          rw [if_neg ne2, if_neg n2, cw, xB_some, c_read, xB_some, xw_0, uC_g]
        · unfold f_M_store f_M_store_77 f_M_store_123
          rw [if_neg n2, mt, xB_some, if_neg ne2, if_neg ne2, if_neg (by decide), m_read N K m g2 sh pf pn pl J hT2 hN _ (by omega), xB_some, xw_0, uM_g]
    · have h2 : k = 2 := by omega
      subst h2
      cases q
      · refine ⟨zA (zA Z2 w 3) (w + 1) 3, K, mW (mW m w (hlv b g2)) (w + 1) (hlv b g2 >>> ((8 : Int32) &&& 31)), g2, nI b, pm, sh, pf, pn, pl, J, t4, ?_, ?_, by omega, by omega, hI4.mem ((hm.mw _ _).mw _ _)⟩
        · show f_P_putAt N (nI 2) (eC Z m g (nI b) pm sh) = _
          unfold f_P_putAt f_P_putAt_66
          rw [if_neg n2, cw, xB_some, if_pos (by decide), c_hl N Z2 m g2 b pm sh hbs, xB_some, c_writeWord, xB_some]
        · unfold f_M_store f_M_store_77 f_M_store_123
          rw [if_neg n2, mt, xB_some, if_pos (by decide), if_pos (by decide), if_pos (by decide), m_main N K m g2 sh pf pn pl J b Z2 hM hg2, xB_some, m_setTwo N K m g2 sh pf pn pl J hT2 hN (by omega), xB_some]
      · refine ⟨zA (zA Z2 w 3) (w + 1) 3, K, m, gHl b g2 (pw (m (ix (w + 1))) (m (ix w))), nI b, pm, sh, pf, pn, pl, J, t4, ?_, ?_, by omega, by omega, hI4.reg (hg2.hl hbs _)⟩
        · show f_P_takeFrom N (nI 2) (eC Z m g (nI b) pm sh) = _
          unfold f_P_takeFrom
          rw [if_pos (by decide), cw, xB_some, c_readWord, xB_some, c_setHl N _ m g2 b pm sh hbs, xB_some]
        · unfold f_M_store f_M_store_123
          rw [if_neg n2, mt, xB_some, if_pos (by decide), if_neg (by decide), m_two N K m g2 sh pf pn pl J hT2 hN (by omega) hm, xB_some, m_setMain N K m g2 sh pf pn pl J b _ hM, xB_some]
/-- INC and DEC of a single register -/
theorem sim_count (hN : 64 ≤ N) {t : Nat} (hI : Inv Z K m g t) (hb : t + 100 < 2 ^ 30) (hbs : Bs b) (hM : Mg b pf pn) {j : Nat} (hj : j < 8) (h6 : j ≠ 6) (dn : Bool) : Sim t 100 (f_P_count N (nI j) (b2 dn) (eC Z m g (nI b) pm sh)) (xB (f_M_get N (nI j) (eM Z K m g pf pn pl J sh)) fun v S => xB (f_M_step1 N v (b2 (!dn)) S) fun r S2 => f_M_put N (nI j) r S2) := by
  obtain ⟨hT, hm, hg, hR⟩ := hI
  have hv := sgv_by hg hbs hj
  obtain ⟨r, f, w, J', hr, hf, e1, e2, e3, e4⟩ := sim_inc N Z K m g (nI b) pm sh pf pn pl J hN hg hv dn
  have hg1 := hg.u8 (i := 1) (by decide) hf
  refine ⟨Z, K, m, gSg b (upd g 1 f) j r, nI b, pm, sh, pf, pn, pl, J', t, ?_, ?_, Nat.le_refl _, by omega, hT, hm, hg1.sg hbs hj hr, hR⟩
  · unfold f_P_count f_P_count_25
    rw [c_operand N Z m g b pm sh hbs rfl hj h6, xB_some]
    cases dn
    · rw [if_pos (by decide)]
      simp only [Bool.false_eq_true, if_false] at e1
      rw [e1, xB_some, c_setFlags, xB_some, e3, e2, c_setOperand N Z m _ b pm sh hbs rfl hj h6, xB_some]
    · rw [if_neg (by decide)]
      simp only [if_true] at e1
      rw [e1, xB_some, c_setFlags, xB_some, e3, e2, c_setOperand N Z m _ b pm sh hbs rfl hj h6, xB_some]
  · rw [m_get N K m g sh pf pn pl J b Z hM rfl hj h6, xB_some, e4, xB_some, m_put N K m _ sh pf pn pl J' b Z hM hg1 rfl hj h6 hr]
theorem sim_countM (hN : 64 ≤ N) {t : Nat} (hI : Inv Z K m g t) (hb : t + 100 < 2 ^ 30) (dn : Bool) : Sim t 100 (f_P_count N 6 (b2 dn) (eC Z m g (nI b) pl sh)) (xB (f_M_get N 6 (eM Z K m g pf pn pl J sh)) fun v S => xB (f_M_step1 N v (b2 (!dn)) S) fun r S2 => f_M_put N 6 r S2) := by
  obtain ⟨hT, hm, hg, hR⟩ := hI
  have hI : Inv Z K m g t := ⟨hT, hm, hg, hR⟩
  have hv := hm (ix pl)
  obtain ⟨t1, a1, a2, hI1⟩ := hI.a3 pl (by omega)
  obtain ⟨t2, a3, a4, hI2⟩ := hI1.a3 pl (by omega)
  obtain ⟨r, f, w, J', hr, hf, e1, e2, e3, e4⟩ := sim_inc N (zA Z pl 3) K m g (nI b) pl sh pf pn pl J hN hg hv dn
  have hg1 := hg.u8 (i := 1) (by decide) hf
  refine ⟨zA (zA Z pl 3) pl 3, K, mW m pl r, upd g 1 f, nI b, pl, sh, pf, pn, pl, J', t2, ?_, ?_, by omega, by omega, (hI2.reg hg1).mem (hm.mw _ _)⟩
  · unfold f_P_count f_P_count_25
    rw [c_operand6, xB_some]
    cases dn
    · rw [if_pos (by decide)]
      simp only [Bool.false_eq_true, if_false] at e1
      rw [e1, xB_some, c_setFlags, xB_some, e3, e2, c_setOperand6, xB_some]
    · rw [if_neg (by decide)]
      simp only [if_true] at e1
      rw [e1, xB_some, c_setFlags, xB_some, e3, e2, c_setOperand6, xB_some]
  · rw [m_get6 N K m g sh pf pn pl J hT hN (by omega), xB_some, e4, xB_some, m_put6 N K m _ sh pf pn pl J' hI1.1 hN (by omega)]
end F2
