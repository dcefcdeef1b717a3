/-! the rest of MORE -/
theorem e8 {y : Nat} (h : y < 8) : y = 0 ∨ y = 1 ∨ y = 2 ∨ y = 3 ∨ y = 4 ∨ y = 5 ∨ y = 6 ∨ y = 7 := by omega
section M2
variable (N : Nat) (Z K : xSt) (m g : Nat → Int32) (pm sh pn pl : Int32) (J : Nat → Int32)
theorem lo4 {x : Int32} (h : By x) : ∃ c, c < 16 ∧ x &&& 15 = nI c := by
  obtain ⟨k, hk, e⟩ := pk_andE x (m := 15) 4 (by decide)
  exact ⟨k, by omega, e⟩
theorem tw1 {A v : Int32} (hA : By A) (hv : By v) : (((A &&& 15) <<< ((4 : Int32) &&& 31)) ||| (v >>> ((4 : Int32) &&& 31))) = (16 : Int32) * (A &&& 15) + (v >>> ((4 : Int32) &&& 31)) := by
  obtain ⟨c, hc, e⟩ := lo4 hA
  obtain ⟨n, hn, rfl⟩ := hv
  rw [e]
  exact twelve1 c hc n hn
theorem tw2 {A v : Int32} (hA : By A) (hv : By v) : ((v <<< ((4 : Int32) &&& 31)) ||| (A &&& 15)) &&& 255 = ((16 : Int32) * (v &&& 15) + (A &&& 15)) &&& 255 := by
  obtain ⟨c, hc, e⟩ := lo4 hA
  obtain ⟨n, hn, rfl⟩ := hv
  rw [e]
  exact twelve2 c hc n hn
theorem sh4b {v : Int32} (hv : By v) : By (v >>> ((4 : Int32) &&& 31)) := by
  obtain ⟨n, hn, rfl⟩ := hv
  rw [← sh4_by n hn]
  exact and8 _
/-- RRD, RLD -/
theorem sim_twelve (hN : 64 ≤ N) {t : Nat} (hI : Inv Z K m g t) (hb : t + 100 < 2 ^ 30) (q : Bool) : Sim t 100 (f_P_turnTwelveBits N (b2 q) (eC Z m g (nI 6) pm sh)) (f_M_special N (if q then 5 else 4) (eM Z K m g 0 pn pl J sh)) := by
  obtain ⟨hT, hm, hg, hR⟩ := hI
  have hI : Inv Z K m g t := ⟨hT, hm, hg, hR⟩
  have h0 := hg.1 0 (by decide)
  obtain ⟨t1, a1, a2, hI1⟩ := hI.a3 (pw (g 6) (g 7)) (by omega)
  obtain ⟨t2, a3, a4, hI2⟩ := hI1.a3 (pw (g 6) (g 7)) (by omega)
  have hv := hm (ix (pw (g 6) (g 7)))
  generalize hve : m (ix (pw (g 6) (g 7))) = v at hv
  have mp : ∀ Z, f_M_pair N 6 (eM Z K m g 0 pn pl J sh) = some (pw (g 6) (g 7), eM Z K m g 0 pn pl J sh) := fun Z => m_pair N K m g sh 0 pn pl J Z (a := 6) (j := 6) rfl (by decide) hg
  have core : ∀ (m' : Nat → Int32) (u : Int32), Bm m' → By u → Sim t 100 (f_P_turnTwelveBits_82 N (g 0 &&& 240) u (eC (zA (zA Z (pw (g 6) (g 7)) 3) (pw (g 6) (g 7)) 3) m' g (nI 6) pm sh)) (f_M_special_177 N 0 (g 0 &&& 240) u (eM (zA (zA Z (pw (g 6) (g 7)) 3) (pw (g 6) (g 7)) 3) K m' g 0 pn pl J sh)) := by
    intro m' u hm' hu
    have hx : By ((g 0 &&& 240) ||| u) := (an_by _ (by_c 240 (by decide))).or hu
    have hF : By ((g 1 &&& 1) ||| (byv ((g 0 &&& 240) ||| u) ||| par ((g 0 &&& 240) ||| u))) := (an_by _ (by_c 1 (by decide))).or ((byv_by _).or (par_by _))
    refine ⟨_, K, m', upd (upd g 0 ((g 0 &&& 240) ||| u)) 1 ((g 1 &&& 1) ||| (byv ((g 0 &&& 240) ||| u) ||| par ((g 0 &&& 240) ||| u))), nI 6, pm, sh, 0, pn, pl, J, t2, ?_, ?_, by omega, by omega, (hI2.mem hm').reg ((hg.u8 (i := 0) (by decide) hx).u8 (i := 1) (by decide) hF)⟩
    · unfold f_P_turnTwelveBits_82
      rw [xV_eq, xw_0, uC_g, c_byP, xB_some, c_setFlags, xB_some, pk_un (by decide)]
    · unfold f_M_special_177 f_M_special_213
      rw [xw_0, uM_g, xr_1, eM_g, xr_0, eM_g, pk_us, pk_un (by decide), m_by, xB_some, xr_0, eM_g, pk_us, m_parity N _ hN hx, xB_some, xw_1, uM_g, or3]
  cases q
  · unfold f_P_turnTwelveBits f_M_special
    simp only [Bool.false_eq_true, if_false]
    rw [c_hl N Z m g 6 pm sh bs6, xB_some, hl6, c_read, xB_some, hve, xr_0, eC_g, xV_eq, c_hl N _ m g 6 pm sh bs6, xB_some, hl6, if_pos (by decide), if_neg (by decide), if_neg (by decide), if_pos (by decide), xr_0, eM_g, mp, xB_some, m_read N K m g sh 0 pn pl J hT hN _ (by omega), xB_some, hve, mp, xB_some, if_pos trivial]
    unfold f_P_turnTwelveBits_55 f_M_special_149
    rw [c_write, xB_some, xr_0, eC_g, if_pos (by decide), m_write N K m g sh 0 pn pl J hI1.1 hN _ _ (by omega), xB_some, if_pos rfl, tw1 h0 hv]
    exact core _ _ (hm.mw _ _) (an_by _ (by_c 15 (by decide)))
  · unfold f_P_turnTwelveBits f_M_special
    simp only [if_true]
    rw [c_hl N Z m g 6 pm sh bs6, xB_some, hl6, c_read, xB_some, hve, xr_0, eC_g, xV_eq, c_hl N _ m g 6 pm sh bs6, xB_some, hl6, if_neg (by decide), if_neg (by decide), if_neg (by decide), if_pos (by decide), xr_0, eM_g, mp, xB_some, m_read N K m g sh 0 pn pl J hT hN _ (by omega), xB_some, hve, mp, xB_some, if_neg (by decide)]
    unfold f_P_turnTwelveBits_55 f_M_special_149
    rw [c_write, xB_some, xr_0, eC_g, if_neg (by decide), m_write N K m g sh 0 pn pl J hI1.1 hN _ _ (by omega), xB_some, if_neg (by decide), mW_c (tw2 h0 hv)]
    exact core _ _ (hm.mw _ _) (sh4b hv)
/-- LD A,I and LD A,R -/
theorem sim_lda {t : Nat} (hI : Inv Z K m g t) {i : Nat} (hi : i < 18) (e1 : ∀ (S : xSt) (q : Nat) (k : Int32 → xR), xRd S q 26 (nI i) k = k (S q i)) : Sim t 100 (f_P_doSpecial_88 N (nI i) (eC Z m g (nI 6) pm sh)) (xRd (eM Z K m g 0 pn pl J sh) 2 26 (nI i) fun v8 => (xWr (eM Z K m g 0 pn pl J sh) 2 26 (0 : Int32) v8 fun S9 => (xRd S9 2 26 (1 : Int32) fun v10 => (xRd S9 2 26 (0 : Int32) fun v11 => (xB (f_M_by N v11 S9) fun v12 S13 => (xRd S13 2 26 (23 : Int32) fun v14 => (if v14 = (1 : Int32) then (f_M_special_82 N (1 : Int32) ((v10 &&& (1 : Int32)) ||| v12) (4 : Int32) S13) else (f_M_special_82 N (1 : Int32) ((v10 &&& (1 : Int32)) ||| v12) (0 : Int32) S13)))))))) := by
  obtain ⟨hT, hm, hg, hR⟩ := hI
  have hi' := hg.1 i hi
  have f23 := hg.2.2.1 23 (by decide) (by decide)
  have h4 : By (g 23 * 4) := by
    rcases f23 with e | e <;> rw [e]
    · exact by_c 0 (by decide)
    · exact by_c 4 (by decide)
  have hg' : Gd (upd (upd g 0 (g i)) 1 ((g 1 &&& 1) ||| (byv (g i) ||| g 23 * 4))) := (hg.u8 (i := 0) (by decide) hi').u8 (i := 1) (by decide) ((an_by (g 1) (by_c 1 (by decide))).or ((byv_by (g i)).or h4))
  refine ⟨Z, K, m, _, nI 6, pm, sh, 0, pn, pl, J, t, ?_, ?_, Nat.le_refl _, by omega, hT, hm, hg', hR⟩
  · unfold f_P_doSpecial_88 f_P_doSpecial_136
    rw [e1, eC_g, xw_0, uC_g, c_by, xB_some, xr_23, eC_g, pk_un (by decide), c_setFlags, xB_some, pk_un (by decide)]
  · unfold f_M_special_82 f_M_special_213
    rw [e1, eM_g, xw_0, uM_g, xr_1, eM_g, pk_un (by decide), xr_0, eM_g, pk_us, m_by, xB_some, xr_23, eM_g, pk_un (by decide)]
    rcases f23 with e | e
    · rw [e, if_neg (by decide), xw_1, uM_g, show (0 : Int32) * 4 = 0 from rfl, or3]
    · rw [e, if_pos rfl, xw_1, uM_g, show (1 : Int32) * 4 = 4 from by decide, or3]
theorem sim_special (hN : 64 ≤ N) {t : Nat} (hI : Inv Z K m g t) (hb : t + 100 < 2 ^ 30) {y : Nat} (hy : y < 8) : Sim t 100 (f_P_doSpecial N (nI y) (eC Z m g (nI 6) pm sh)) (f_M_special N (nI y) (eM Z K m g 0 pn pl J sh)) := by
  obtain ⟨hT, hm, hg, hR⟩ := hI
  have hI : Inv Z K m g t := ⟨hT, hm, hg, hR⟩
  rcases e8 hy with rfl | rfl | rfl | rfl | rfl | rfl | rfl | rfl
  · refine ⟨Z, K, m, upd g 16 (g 0), nI 6, pm, sh, 0, pn, pl, J, t, ?_, ?_, Nat.le_refl _, by omega, hI.reg (hg.u8 (by decide) (hg.1 0 (by decide)))⟩
    · unfold f_P_doSpecial f_P_doSpecial_136
      rw [if_pos (by decide), xr_0, eC_g, xw_16, uC_g]
    · unfold f_M_special f_M_special_213
      rw [if_pos (by decide), xr_0, eM_g, show (16 : Int32) + nI 0 = 16 from by decide, xw_16, uM_g]
  · refine ⟨Z, K, m, upd g 17 (g 0), nI 6, pm, sh, 0, pn, pl, J, t, ?_, ?_, Nat.le_refl _, by omega, hI.reg (hg.u8 (by decide) (hg.1 0 (by decide)))⟩
    · unfold f_P_doSpecial f_P_doSpecial_136
      rw [if_neg (by decide), if_pos (by decide), xr_0, eC_g, xw_17, uC_g]
    · unfold f_M_special f_M_special_213
      rw [if_pos (by decide), xr_0, eM_g, show (16 : Int32) + nI 1 = 17 from by decide, xw_17, uM_g]
  · unfold f_P_doSpecial f_P_doSpecial_72 f_M_special
    rw [if_neg (by decide), if_neg (by decide), if_pos (by decide), if_pos (by decide), if_neg (by decide), if_pos (by decide), show (14 : Int32) + nI 2 = nI 16 from by decide]
    exact sim_lda N Z K m g pm sh pn pl J hI (i := 16) (by decide) xr_16
  · unfold f_P_doSpecial f_P_doSpecial_72 f_M_special
    rw [if_neg (by decide), if_neg (by decide), if_neg (by decide), if_pos (by decide), if_neg (by decide), if_neg (by decide), if_pos (by decide), show (14 : Int32) + nI 3 = nI 17 from by decide]
    exact sim_lda N Z K m g pm sh pn pl J hI (i := 17) (by decide) xr_17
  · unfold f_P_doSpecial f_P_doSpecial_119 f_P_doSpecial_130 f_P_doSpecial_136
    rw [if_neg (by decide), if_neg (by decide), if_neg (by decide), if_neg (by decide), if_pos (by decide), if_neg (by decide)]
    exact (sim_twelve N Z K m g pm sh pn pl J hN hI hb false).l
  · unfold f_P_doSpecial f_P_doSpecial_119 f_P_doSpecial_130 f_P_doSpecial_136
    rw [if_neg (by decide), if_neg (by decide), if_neg (by decide), if_neg (by decide), if_neg (by decide), if_pos (by decide), if_pos (by decide)]
    exact (sim_twelve N Z K m g pm sh pn pl J hN hI hb true).l
  · unfold f_P_doSpecial f_P_doSpecial_136 f_M_special f_M_special_213
    rw [if_neg (by decide), if_neg (by decide), if_neg (by decide), if_neg (by decide), if_neg (by decide), if_neg (by decide), if_neg (by decide), if_neg (by decide), if_neg (by decide)]
    exact ⟨Z, K, m, g, nI 6, pm, sh, 0, pn, pl, J, t, rfl, rfl, Nat.le_refl _, by omega, hI⟩
  · unfold f_P_doSpecial f_P_doSpecial_136 f_M_special f_M_special_213
    rw [if_neg (by decide), if_neg (by decide), if_neg (by decide), if_neg (by decide), if_neg (by decide), if_neg (by decide), if_neg (by decide), if_neg (by decide), if_neg (by decide)]
    exact ⟨Z, K, m, g, nI 6, pm, sh, 0, pn, pl, J, t, rfl, rfl, Nat.le_refl _, by omega, hI⟩
/-- RETN -/
theorem sim_retn (hN : 64 ≤ N) {t : Nat} (hI : Inv Z K m g t) (hb : t + 100 < 2 ^ 30) : Sim t 100 (xB (f_P_pop N (eC Z m g (nI 6) pm sh)) fun v22 S23 => (xWr S23 10 26 (21 : Int32) v22 fun S24 => (xRd S24 10 26 (23 : Int32) fun v25 => (xWr S24 10 26 (22 : Int32) v25 fun S26 => (f_P_more_234 N S26))))) (xB (f_M_pop N (eM Z K m g 0 pn pl J sh)) fun v3 S4 => (xWr S4 2 26 (21 : Int32) v3 fun S5 => (xRd S5 2 26 (23 : Int32) fun v6 => (xWr S5 2 26 (22 : Int32) v6 fun S7 => (f_M_more_426 N S7))))) := by
  obtain ⟨hT, hm, hg, hR⟩ := hI
  have hI : Inv Z K m g t := ⟨hT, hm, hg, hR⟩
  obtain ⟨t1, a1, a2, hI1⟩ := hI.a3 (g 20) (by omega)
  obtain ⟨t2, a3, a4, hI2⟩ := hI1.a3 (g 20 + 1) (by omega)
  have hg2 : Gd (upd g 20 ((g 20 + 2) &&& 65535)) := hg.u16 (by decide) (by decide) (and16 _)
  have hg3 := hg2.u16 (i := 21) (by decide) (by decide) (pw_wd (hm (ix (g 20 + 1))) (hm (ix (g 20))))
  refine ⟨_, K, m, _, nI 6, pm, sh, 0, pn, pl, J, t2, ?_, ?_, by omega, by omega, hI2.reg (hg3.uF (i := 22) (by decide) (by decide) (hg3.2.2.1 23 (by decide) (by decide)))⟩
  · unfold f_P_more_234
    rw [c_pop, xB_some, xw_21, uC_g, xr_23, eC_g, xw_22, uC_g]
  · unfold f_M_more_426
    rw [m_pop N K m g sh 0 pn pl J hT hN (by omega) hm, xB_some, xw_21, uM_g, xr_23, eM_g, xw_22, uM_g]
/-- IM -/
theorem sim_im {t : Nat} (hI : Inv Z K m g t) {y : Nat} (hy : y < 8) : Sim t 100 (xWr (eC Z m g (nI 6) pm sh) 10 26 (24 : Int32) (if (0 : Int32) < ((nI y &&& (3 : Int32)) - (1 : Int32)) then ((nI y &&& (3 : Int32)) - (1 : Int32)) else (0 : Int32)) fun S28 => (f_P_more_234 N S28)) (if (nI y &&& (3 : Int32)) < (2 : Int32) then (f_M_more_417 N (24 : Int32) (0 : Int32) (eM Z K m g 0 pn pl J sh)) else (f_M_more_417 N (24 : Int32) ((nI y &&& (3 : Int32)) - (1 : Int32)) (eM Z K m g 0 pn pl J sh))) := by
  obtain ⟨hT, hm, hg, hR⟩ := hI
  have hI : Inv Z K m g t := ⟨hT, hm, hg, hR⟩
  have k : ∀ y, y < 8 → ((nI y &&& 3) < 2 ∧ ¬ (0 : Int32) < (nI y &&& 3) - 1) ∨ (¬ (nI y &&& 3) < 2 ∧ (0 : Int32) < (nI y &&& 3) - 1 ∧ ((nI y &&& 3) - 1 = 1 ∨ (nI y &&& 3) - 1 = 2)) := by decide +kernel
  unfold f_P_more_234 f_M_more_417 f_M_more_426
  rcases k y hy with ⟨h1, h2⟩ | ⟨h1, h2, h3⟩
  · rw [if_pos h1, if_neg h2, xw_24, xw_24, uC_g, uM_g]
    exact ⟨Z, K, m, _, nI 6, pm, sh, 0, pn, pl, J, t, rfl, rfl, Nat.le_refl _, by omega, hI.reg (hg.u24 (Or.inl rfl))⟩
  · rw [if_neg h1, if_pos h2, xw_24, xw_24, uC_g, uM_g]
    exact ⟨Z, K, m, _, nI 6, pm, sh, 0, pn, pl, J, t, rfl, rfl, Nat.le_refl _, by omega, hI.reg (hg.u24 (Or.inr h3))⟩
theorem Sim.tail {t d : Nat} {x y : xR} {f1 f2 : Int32 → xSt → xR} (h : Sim t d x y) (h1 : ∀ v S, f1 v S = some (0, S)) (h2 : ∀ v S, f2 v S = some (0, S)) : Sim t d (xB x f1) (xB y f2) := by
  obtain ⟨Z, K, m, g, B, pm, sh, pf, pn, pl, J, t', a1, a2, h3⟩ := h
  exact ⟨Z, K, m, g, B, pm, sh, pf, pn, pl, J, t', by rw [a1, xB_some, h1], by rw [a2, xB_some, h2], h3⟩
/-- behind 237 -/
theorem sim_more (hN : 64 ≤ N) {t : Nat} (hI : Inv Z K m g t) (hb : t + 100 < 2 ^ 30) {n : Nat} (hn : n < 256) : Sim t 100 (f_P_more N (nI n) (eC Z m g (nI 6) pm sh)) (f_M_more N (nI n) (eM Z K m g 0 pn pl J sh)) := by
  have hy : n / 8 % 8 < 8 := Nat.mod_lt _ (by decide)
  have hz : n % 8 < 8 := Nat.mod_lt _ (by decide)
  have hx : n / 64 < 4 := by omega
  have dx := dec_x hn
  unfold f_P_more f_M_more
  rw [dec_y hn, dec_z hn, xV_eq, xV_eq, xV_eq, xV_eq]
  generalize n / 8 % 8 = y at hy
  generalize n % 8 = z at hz
  have c0 : ∀ S, n / 64 ≠ 1 → f_P_more_47 N (nI n) (nI y) (nI z) S = some (0, S) := fun S h => by
    unfold f_P_more_47
    rw [dx, if_neg (nI_ne (x := 1) (c := 1) rfl (by omega) (by decide) h)]
  have m0 : ∀ S, n / 64 ≠ 1 → f_M_more_45 N (nI n) (nI y) (nI z) S = some (0, S) := fun S h => by
    unfold f_M_more_45
    rw [dx, if_neg (nI_ne (x := 1) (c := 1) rfl (by omega) (by decide) h)]
  have nothing : n / 64 ≠ 1 → Sim t 100 (f_P_more_47 N (nI n) (nI y) (nI z) (eC Z m g (nI 6) pm sh)) (f_M_more_45 N (nI n) (nI y) (nI z) (eM Z K m g 0 pn pl J sh)) := fun h => by
    rw [c0 _ h, m0 _ h]
    exact ⟨Z, K, m, g, nI 6, pm, sh, 0, pn, pl, J, t, rfl, rfl, Nat.le_refl _, by omega, hI⟩
  by_cases h2 : n / 64 = 2
  · have n1 : n / 64 ≠ 1 := by omega
    rw [dx, h2, if_pos (show nI 2 = (2 : Int32) from rfl), if_pos (show nI 2 = (2 : Int32) from rfl)]
    by_cases h4 : y < 4
    · rw [if_pos (show nI y < 4 from nI_lt (b := 4) h4 (by decide)), if_neg (show ¬ (3 : Int32) < nI y from nI_nlt (a := 3) (by omega) (by decide))]
      exact nothing n1
    · rw [if_neg (show ¬ nI y < 4 from nI_nl (x := 4) (c := 4) rfl (by omega) (by omega)), if_pos (show (3 : Int32) < nI y from nI_lt (a := 3) (by omega) (by omega))]
      by_cases hz2 : z < 2
      · have l2 : nI z < (2 : Int32) := nI_lt (b := 2) hz2 (by decide)
        rw [if_pos l2, if_pos l2]
        unfold f_M_more_42
        rcases (show z = 0 ∨ z = 1 by omega) with rfl | rfl
        · rw [if_pos (show nI 0 = (0 : Int32) from rfl), if_neg (by decide)]
          exact (sim_blk N Z K m g pm sh pn pl J hN hI hb hy).tail (fun v S => c0 S n1) (fun v S => m0 S n1)
        · rw [if_neg (by decide), if_pos (show nI 1 = (1 : Int32) from rfl)]
          exact (sim_cpk N Z K m g pm sh pn pl J hN hI hb hy).tail (fun v S => c0 S n1) (fun v S => m0 S n1)
      · have l2 : ¬ nI z < (2 : Int32) := nI_nl (x := 2) (c := 2) rfl (by omega) (by omega)
        rw [if_neg l2, if_neg l2]
        exact nothing n1
  · have n2 : ¬ nI (n / 64) = (2 : Int32) := nI_ne (x := 2) (c := 2) rfl (by omega) (by decide) h2
    rw [dx, if_neg n2, if_neg n2]
    by_cases h1 : n / 64 = 1
    · have e71 : f_M_more_45 N (nI n) (nI y) (nI z) (eM Z K m g 0 pn pl J sh) = f_M_more_71 N (nI y) (nI z) (nI (y / 2)) (b2 (decide (y % 2 = 1))) (eM Z K m g 0 pn pl J sh) := by
        unfold f_M_more_45
        rw [dx, h1, if_pos (show nI 1 = (1 : Int32) from rfl), ny1 hy, xV_eq, nrm hy]
        rcases (show y % 2 = 0 ∨ y % 2 = 1 by omega) with e | e
        · rw [e, if_neg (by decide)]; rfl
        · rw [e, if_pos (show nI 1 = (1 : Int32) from rfl)]; rfl
      rw [e71]
      unfold f_P_more_47 f_M_more_71
      rw [dx, h1, if_pos (show nI 1 = (1 : Int32) from rfl)]
      rcases e8 hz with rfl | rfl | rfl | rfl | rfl | rfl | rfl | rfl
      · rw [if_pos (by decide), if_pos (by decide)]
        exact (sim_inr N Z K m g pm sh pn pl J hN hI hb hy).l
      · rw [if_neg (by decide), if_pos (by decide), if_neg (by decide), if_pos (by decide)]
        exact sim_outr N Z K m g pm sh pn pl J hN hI hb hy
      · rw [if_neg (by decide), if_neg (by decide), if_pos (by decide), if_neg (by decide), if_neg (by decide), if_pos (by decide)]
        exact ((sim_adc N Z K m g pm sh pn pl J hN hI hy).l).up (Nat.le_refl _) (by omega)
      · rw [if_neg (by decide), if_neg (by decide), if_neg (by decide), if_pos (by decide), if_neg (by decide), if_neg (by decide), if_neg (by decide), if_pos (by decide)]
        exact (sim_ldp N Z K m g pm sh pn pl J hN hI hb hy).l
      · rw [if_neg (by decide), if_neg (by decide), if_neg (by decide), if_neg (by decide), if_pos (by decide), if_neg (by decide), if_neg (by decide), if_neg (by decide), if_neg (by decide), if_pos (by decide)]
        exact (sim_neg N Z K m g pm sh pn pl J hN hI).up (Nat.le_refl _) (by omega)
      · rw [if_neg (by decide), if_neg (by decide), if_neg (by decide), if_neg (by decide), if_neg (by decide), if_pos (by decide), if_neg (by decide), if_neg (by decide), if_neg (by decide), if_neg (by decide), if_neg (by decide), if_pos (by decide)]
        exact sim_retn N Z K m g pm sh pn pl J hN hI hb
      · rw [if_neg (by decide), if_neg (by decide), if_neg (by decide), if_neg (by decide), if_neg (by decide), if_neg (by decide), if_pos (by decide), if_neg (show ¬ nI 6 = (0 : Int32) from by decide), if_neg (show ¬ nI 6 = (1 : Int32) from by decide), if_neg (show ¬ nI 6 = (2 : Int32) from by decide), if_neg (show ¬ nI 6 = (3 : Int32) from by decide), if_neg (show ¬ nI 6 = (4 : Int32) from by decide), if_neg (show ¬ nI 6 = (5 : Int32) from by decide), if_pos (show nI 6 = (6 : Int32) from rfl)]
        exact sim_im N Z K m g pm sh pn pl J hI hy
      · rw [if_neg (by decide), if_neg (by decide), if_neg (by decide), if_neg (by decide), if_neg (by decide), if_neg (by decide), if_neg (by decide), if_neg (by decide), if_neg (by decide), if_neg (by decide), if_neg (by decide), if_neg (by decide), if_neg (by decide), if_neg (by decide)]
        exact (sim_special N Z K m g pm sh pn pl J hN hI hb hy).tail (fun v S => rfl) (fun v S => rfl)
    · exact nothing h1
end M2
