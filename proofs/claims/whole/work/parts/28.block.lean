/-! blocks, and the rest of MORE -/
theorem pw_split (x : Int32) : pw ((x >>> ((8 : Int32) &&& 31)) &&& 255) (x &&& 255) = x &&& 65535 := by
  unfold pw
  apply b_ext
  intro i hi
  rw [b_or, b_shl8 _ hi, b_and x 65535, b_and x 255, b_255, b_65535]
  rcases Nat.lt_or_ge i 8 with h | h
  · simp [h, show ¬ 8 ≤ i by omega, show i < 16 by omega]
  · rw [b_and, b_255, b_sshr8 x (by omega), if_pos (by omega), show 8 + (i - 8) = i by omega]
    by_cases h16 : i < 16
    · simp [h, show ¬ i < 8 by omega, h16, show i - 8 < 8 by omega]
    · simp [h, show ¬ i < 8 by omega, h16, show ¬ i - 8 < 8 by omega]
theorem sp_and (x : Int32) : ((x &&& 65535) >>> ((8 : Int32) &&& 31)) &&& 255 = (x >>> ((8 : Int32) &&& 31)) &&& 255 := by
  apply b_ext
  intro i hi
  rw [b_and, b_and, b_sshr8 _ hi, b_sshr8 _ hi, b_255]
  rcases Nat.lt_or_ge i 8 with h | h
  · rw [if_pos (by omega), if_pos (by omega), b_and, b_65535]
    simp [show 8 + i < 16 by omega]
  · simp [show ¬ i < 8 by omega]
theorem sp_and2 (x : Int32) : (x &&& 65535) &&& 255 = x &&& 255 := by rw [Int32.and_assoc]; rfl
theorem gSp_and (g : Nat → Int32) (j : Nat) (x : Int32) : gSp g j (x &&& 65535) = gSp g j x := by
  unfold gSp
  rw [sp_and, sp_and2]
theorem t2_32 (t : Int32) : ((t &&& 2) <<< ((4 : Int32) &&& 31)) = if (t &&& 2) = 0 then 0 else 32 := by
  obtain ⟨k, hk, e⟩ := pk_andE t (m := 3) 2 (by decide)
  have e2 : t &&& 2 = (t &&& 3) &&& 2 := by rw [Int32.and_assoc]; rfl
  rw [e2, e]
  rcases (show k = 0 ∨ k = 1 ∨ k = 2 ∨ k = 3 by omega) with rfl | rfl | rfl | rfl <;> decide
theorem t8_4 (t : Int32) : (t &&& 8) &&& 4 = 0 := by rw [Int32.and_assoc]; show t &&& 0 = 0; exact Int32.and_zero
theorem fl_4 (t : Int32) (l : Bool) : (((((t &&& 2) <<< ((4 : Int32) &&& 31)) ||| (t &&& 8)) ||| fl 4 l) &&& 4 = 0) ↔ l = false := by
  rw [and_or, and_or, t8_4, t2_32, or_0]
  by_cases h : (t &&& 2) = 0
  · rw [if_pos h]; cases l <;> decide
  · rw [if_neg h]; cases l <;> decide
theorem or_blk (f l a c : Int32) : f ||| ((a ||| c) ||| l) = ((f ||| l) ||| a) ||| c := by
  apply b_ext
  intro i _
  simp only [b_or]
  cases bt f i <;> cases bt l i <;> cases bt a i <;> cases bt c i <;> rfl
theorem an193 (x : Int32) : (x &&& 1) ||| (x &&& 192) = x &&& 193 := by
  have h : ∀ i, i < 32 → (bt 1 i || bt 192 i) = bt 193 i := by decide +kernel
  apply b_ext
  intro i hi
  rw [b_or, b_and, b_and, b_and, ← h i hi]
  cases bt x i <;> rfl
theorem lk16 : ∀ h o c : Bool, ∀ n, n < 256 → ((byv (nI n) ||| rsv h o c 2) &&& 16 = 0 ↔ h = false) := by decide +kernel
theorem lk210 : ∀ h o c : Bool, ∀ n, n < 256 → (byv (nI n) ||| rsv h o c 2) &&& 210 = ((((nI n &&& 128) ||| (if nI n = 0 then 64 else 0)) ||| 2) ||| fl 16 h) := by decide +kernel
theorem pw_an {r f : Int32} (hr : By r) (hf : By f) {w : Int32} (hw : By w) : pw r f &&& w = f &&& w := by
  obtain ⟨n, hn, rfl⟩ := hw
  have e : ∀ x : Int32, x &&& nI n = (x &&& 255) &&& nI n := by
    intro x
    rw [Int32.and_assoc]
    congr 1
    rw [Int32.and_comm, pk_andN (by omega) (m := 255) 8 (by decide), Nat.mod_eq_of_lt hn]
  rw [e (pw r f), pw_lo hr.wd hf]
section BL
variable (N : Nat) (Z K : xSt) (m g : Nat → Int32) (pm sh pn pl : Int32) (J : Nat → Int32)
/-- what a block step leaves of HL and BC -/
def gAd (g : Nat → Int32) (d : Int32) : Nat → Int32 := gSp (gSp g 6 (pw (g 6) (g 7) + d)) 2 (pw (g 2) (g 3) - 1)
def lft (g : Nat → Int32) : Bool := !decide (((pw (g 2) (g 3) - 1) &&& 65535) = 0)
theorem gAd_gd {g : Nat → Int32} (h : Gd g) (d : Int32) : Gd (gAd g d) := gSp_gd (gSp_gd h (by decide) _) (by decide) _
theorem gSp6_un {g : Nat → Int32} {v : Int32} {i : Nat} (h6 : i ≠ 6) (h7 : i ≠ 7) : gSp g 6 v i = g i := by unfold gSp; rw [pk_un h7, pk_un h6]
theorem gSp2_un {g : Nat → Int32} {v : Int32} {i : Nat} (h2 : i ≠ 2) (h3 : i ≠ 3) : gSp g 2 v i = g i := by unfold gSp; rw [pk_un h3, pk_un h2]
theorem c_advance (d x : Int32) : f_P_advance N d x (eC Z m g (nI 6) pm sh) = some ((((x &&& 2) <<< ((4 : Int32) &&& 31)) ||| (x &&& 8)) ||| fl 4 (lft g), eC Z m (gAd g d) (nI 6) pm sh) := by
  unfold f_P_advance f_P_advance_58 gAd lft
  rw [c_hl N Z m g 6 pm sh bs6, xB_some, c_setHl N Z m g 6 pm sh bs6, xB_some, gHl6, c_joined N Z m _ pm sh _ (a := 2) (j := 2) rfl (by decide), xB_some, gSp6_un (by decide) (by decide), gSp6_un (by decide) (by decide), xV_eq, c_split N Z m _ pm sh _ _ (a := 2) (j := 2) rfl (by decide), xB_some, gSp_and, show hlv 6 g = pw (g 6) (g 7) from by unfold hlv; rw [if_pos rfl]]
  by_cases h : ((pw (g 2) (g 3) - 1) &&& 65535) = 0
  · rw [if_pos h, decide_eq_true h]; rfl
  · rw [if_neg h, decide_eq_false h]; rfl
/-- the reference's end of a block step -/
theorem m_advance (hg : Gd g) {y : Nat} (hy : y < 8) (d f x : Int32) (same : Bool) : f_M_move_179 N (nI y) d f x (b2 same) (eM Z K m g 0 pn pl J sh) = some (0, eM Z K m (if 5 < y ∧ lft g = true ∧ same = false then gPC (upd (gAd g d) 1 (f ||| ((((x &&& 2) <<< ((4 : Int32) &&& 31)) ||| (x &&& 8)) ||| fl 4 (lft g)))) (-2) else upd (gAd g d) 1 (f ||| ((((x &&& 2) <<< ((4 : Int32) &&& 31)) ||| (x &&& 8)) ||| fl 4 (lft g)))) 0 pn pl J sh) := by
  have hg1 := gSp_gd hg (j := 6) (by decide) (pw (g 6) (g 7) + d)
  have hgA := gAd_gd hg d
  have e5 : f_M_move_179 N (nI y) d f x (b2 same) (eM Z K m g 0 pn pl J sh) = f_M_move_218 N (nI y) f x (b2 same) (b2 (lft g)) (eM Z K m (gAd g d) 0 pn pl J sh) := by
    unfold f_M_move_179
    rw [m_pair N K m g sh 0 pn pl J Z (a := 6) (j := 6) rfl (by decide) hg, xB_some, m_setPair N K m g sh 0 pn pl J Z _ (a := 6) (j := 6) rfl (by decide), xB_some, m_pair N K m _ sh 0 pn pl J Z (a := 2) (j := 2) rfl (by decide) hg1, xB_some, gSp6_un (by decide) (by decide), gSp6_un (by decide) (by decide), m_setPair N K m _ sh 0 pn pl J Z _ (a := 2) (j := 2) rfl (by decide), xB_some]
    show xB (f_M_pair N 2 (eM Z K m (gAd g d) 0 pn pl J sh)) _ = _
    rw [m_pair N K m _ sh 0 pn pl J Z (a := 2) (j := 2) rfl (by decide) hgA, xB_some]
    have e2 : gAd g d 2 = (((pw (g 2) (g 3) - 1) >>> ((8 : Int32) &&& 31)) &&& 255) := by unfold gAd gSp; rw [pk_un (by decide), pk_us]
    have e3 : gAd g d (2 + 1) = ((pw (g 2) (g 3) - 1) &&& 255) := by unfold gAd gSp; rw [pk_us]
    rw [e2, e3, pw_split]
    unfold lft
    by_cases h : ((pw (g 2) (g 3) - 1) &&& 65535) = 0
    · rw [if_pos h, decide_eq_true h]; rfl
    · rw [if_neg h, decide_eq_false h]; rfl
  rw [e5]
  unfold f_M_move_218 f_M_move_237 f_M_move_251 f_M_move_293
  have hfl : ∀ l : Bool, (if b2 l = 0 then (if (x &&& 2) = 0 then (xWr (eM Z K m (gAd g d) 0 pn pl J sh) 2 26 (1 : Int32) (((f ||| 0) ||| 0) ||| (x &&& 8)) fun S1 => (if (5 : Int32) < nI y then (if b2 l = 0 then (some (0, S1)) else (if b2 same = 0 then (xRd S1 2 26 (21 : Int32) fun v2 => (xWr S1 2 26 (21 : Int32) ((v2 - (2 : Int32)) &&& (65535 : Int32)) fun S3 => (some (0, S3)))) else (some (0, S1)))) else (some (0, S1)))) else (xWr (eM Z K m (gAd g d) 0 pn pl J sh) 2 26 (1 : Int32) (((f ||| 0) ||| 32) ||| (x &&& 8)) fun S1 => (if (5 : Int32) < nI y then (if b2 l = 0 then (some (0, S1)) else (if b2 same = 0 then (xRd S1 2 26 (21 : Int32) fun v2 => (xWr S1 2 26 (21 : Int32) ((v2 - (2 : Int32)) &&& (65535 : Int32)) fun S3 => (some (0, S3)))) else (some (0, S1)))) else (some (0, S1))))) else (if (x &&& 2) = 0 then (xWr (eM Z K m (gAd g d) 0 pn pl J sh) 2 26 (1 : Int32) (((f ||| 4) ||| 0) ||| (x &&& 8)) fun S1 => (if (5 : Int32) < nI y then (if b2 l = 0 then (some (0, S1)) else (if b2 same = 0 then (xRd S1 2 26 (21 : Int32) fun v2 => (xWr S1 2 26 (21 : Int32) ((v2 - (2 : Int32)) &&& (65535 : Int32)) fun S3 => (some (0, S3)))) else (some (0, S1)))) else (some (0, S1)))) else (xWr (eM Z K m (gAd g d) 0 pn pl J sh) 2 26 (1 : Int32) (((f ||| 4) ||| 32) ||| (x &&& 8)) fun S1 => (if (5 : Int32) < nI y then (if b2 l = 0 then (some (0, S1)) else (if b2 same = 0 then (xRd S1 2 26 (21 : Int32) fun v2 => (xWr S1 2 26 (21 : Int32) ((v2 - (2 : Int32)) &&& (65535 : Int32)) fun S3 => (some (0, S3)))) else (some (0, S1)))) else (some (0, S1)))))) = (fun S1 : xSt => (if (5 : Int32) < nI y then (if b2 l = 0 then (some (0, S1)) else (if b2 same = 0 then (xRd S1 2 26 (21 : Int32) fun v2 => (xWr S1 2 26 (21 : Int32) ((v2 - (2 : Int32)) &&& (65535 : Int32)) fun S3 => (some (0, S3)))) else (some (0, S1)))) else (some (0, S1)))) (eM Z K m (upd (gAd g d) 1 (f ||| ((((x &&& 2) <<< ((4 : Int32) &&& 31)) ||| (x &&& 8)) ||| fl 4 l))) 0 pn pl J sh) := by
    intro l
    rw [or_blk, t2_32]
    cases l
    · rw [if_pos (by decide)]
      by_cases h : (x &&& 2) = 0
      · rw [if_pos h, if_pos h, xw_1, uM_g]; rfl
      · rw [if_neg h, if_neg h, xw_1, uM_g]; rfl
    · rw [if_neg (by decide)]
      by_cases h : (x &&& 2) = 0
      · rw [if_pos h, if_pos h, xw_1, uM_g]; rfl
      · rw [if_neg h, if_neg h, xw_1, uM_g]; rfl
  rw [hfl]
  generalize f ||| ((((x &&& 2) <<< ((4 : Int32) &&& 31)) ||| (x &&& 8)) ||| fl 4 (lft g)) = F
  by_cases h5 : 5 < y
  · have n5 : (5 : Int32) < nI y := nI_lt (a := 5) h5 (by omega)
    cases hl : lft g
    · rw [if_neg (by simp)]
      simp only [if_pos n5]
      rw [if_pos (by decide)]
    · cases same
      · rw [if_pos ⟨h5, rfl, rfl⟩]
        simp only [if_pos n5]
        rw [if_neg (by decide), if_pos (by decide), xr_21, eM_g, xw_21, uM_g]
        unfold gPC
        rw [Int32.sub_eq_add_neg]
      · rw [if_neg (by simp)]
        simp only [if_pos n5]
        rw [if_neg (by decide), if_neg (by decide)]
  · have n5 : ¬ (5 : Int32) < nI y := by rw [show (5 : Int32) = nI 5 from rfl]; exact nI_nlt (by omega) (by decide)
    rw [if_neg (by omega)]
    simp only [if_neg n5]
theorem hl6 (g : Nat → Int32) : hlv 6 g = pw (g 6) (g 7) := by unfold hlv; rw [if_pos rfl]
/-- LDI, LDD, LDIR, LDDR -/
theorem sim_blk (hN : 64 ≤ N) {t : Nat} (hI : Inv Z K m g t) (hb : t + 100 < 2 ^ 30) {y : Nat} (hy : y < 8) : Sim t 100 (f_P_moveByte N (nI y) (eC Z m g (nI 6) pm sh)) (f_M_move N (nI y) 0 (eM Z K m g 0 pn pl J sh)) := by
  obtain ⟨hT, hm, hg, hR⟩ := hI
  have hI : Inv Z K m g t := ⟨hT, hm, hg, hR⟩
  obtain ⟨t1, a1, a2, hI1⟩ := hI.a3 (pw (g 6) (g 7)) (by omega)
  obtain ⟨t2, a3, a4, hI2⟩ := hI1.a3 (pw (g 4) (g 5)) (by omega)
  have hv := hm (ix (pw (g 6) (g 7)))
  generalize hve : m (ix (pw (g 6) (g 7))) = v at hv
  have core : ∀ d : Int32, Sim t 100 (f_P_moveByte_42 N (nI y) v d (eC (zA (zA Z (pw (g 6) (g 7)) 3) (pw (g 4) (g 5)) 3) (mW m (pw (g 4) (g 5)) v) g (nI 6) pm sh)) (f_M_move_11 N (nI y) 0 d (eM Z K m g 0 pn pl J sh)) := by
    intro d
    have hg4 : Gd (gSp g 4 (pw (g 4) (g 5) + d)) := gSp_gd hg (by decide) _
    have u4 : ∀ i, i ≠ 4 → i ≠ 5 → gSp g 4 (pw (g 4) (g 5) + d) i = g i := fun i h4 h5 => by unfold gSp; rw [pk_un h5, pk_un h4]
    have em : f_M_move_11 N (nI y) 0 d (eM Z K m g 0 pn pl J sh) = f_M_move_179 N (nI y) d (g 1 &&& 193) (g 0 + v) (b2 false) (eM (zA (zA Z (pw (g 6) (g 7)) 3) (pw (g 4) (g 5)) 3) K (mW m (pw (g 4) (g 5)) v) (gSp g 4 (pw (g 4) (g 5) + d)) 0 pn pl J sh) := by
      unfold f_M_move_11
      rw [m_pair N K m g sh 0 pn pl J Z (a := 6) (j := 6) rfl (by decide) hg, xB_some, m_read N K m g sh 0 pn pl J hT hN _ (by omega), xB_some, hve, xr_1, eM_g, xV_eq, xr_0, eM_g, xV_eq, if_pos rfl, m_pair N K m g sh 0 pn pl J _ (a := 4) (j := 4) rfl (by decide) hg, xB_some, m_write N K m g sh 0 pn pl J hI1.1 hN _ _ (by omega), xB_some, m_pair N K _ g sh 0 pn pl J _ (a := 4) (j := 4) rfl (by decide) hg, xB_some, m_setPair N K _ g sh 0 pn pl J _ _ (a := 4) (j := 4) rfl (by decide), xB_some, xr_1, eM_g, xV_eq, u4 1 (by decide) (by decide), an193]
      rfl
    rw [em, m_advance N _ K _ _ sh pn pl J hg4 hy]
    unfold f_P_moveByte_42 f_P_moveByte_104
    rw [c_joined N _ _ g pm sh _ (a := 4) (j := 4) rfl (by decide), xB_some, c_split N _ _ g pm sh _ _ (a := 4) (j := 4) rfl (by decide), xB_some, xr_0, eC_g, u4 0 (by decide) (by decide), c_advance, xB_some, c_setFlags, xB_some]
    have g1 : gAd (gSp g 4 (pw (g 4) (g 5) + d)) d 1 = g 1 := by
      unfold gAd
      rw [gSp2_un (by decide) (by decide), gSp6_un (by decide) (by decide), u4 1 (by decide) (by decide)]
    rw [g1]
    have hfl := fl_4 (g 0 + v) (lft (gSp g 4 (pw (g 4) (g 5) + d)))
    have hby : By ((((g 0 + v) &&& 2) <<< ((4 : Int32) &&& 31) ||| ((g 0 + v) &&& 8)) ||| fl 4 (lft (gSp g 4 (pw (g 4) (g 5) + d)))) := by
      refine (By.or ?_ (an_by _ (by_c 8 (by decide)))).or (By.fl (by_c 4 (by decide)) _)
      rw [t2_32]; split
      · exact by_c 0 (by decide)
      · exact by_c 32 (by decide)
    generalize (((g 0 + v) &&& 2) <<< ((4 : Int32) &&& 31) ||| ((g 0 + v) &&& 8)) ||| fl 4 (lft (gSp g 4 (pw (g 4) (g 5) + d))) = F at hfl hby
    have hgF : Gd (upd (gAd (gSp g 4 (pw (g 4) (g 5) + d)) d) 1 ((g 1 &&& 193) ||| F)) := (gAd_gd hg4 d).u8 (by decide) ((an_by _ (by_c 193 (by decide))).or hby)
    have hI3 := (hI2.mem (hm.mw (pw (g 4) (g 5)) v)).reg hgF
    generalize upd (gAd (gSp g 4 (pw (g 4) (g 5) + d)) d) 1 ((g 1 &&& 193) ||| F) = G at hI3 hgF
    by_cases h5 : 5 < y
    · have n6 : ¬ nI y < 6 := nI_nl (x := 6) (c := 6) rfl (by omega) (by omega)
      rw [if_neg n6]
      cases hl : lft (gSp g 4 (pw (g 4) (g 5) + d))
      · rw [if_pos (hfl.mpr hl), if_neg (by simp)]
        exact ⟨_, K, _, G, nI 6, pm, sh, 0, pn, pl, J, t2, rfl, rfl, by omega, by omega, hI3⟩
      · rw [if_neg (fun q => by rw [hfl.mp q] at hl; cases hl), if_pos ⟨h5, rfl, rfl⟩, c_movePc, xB_some]
        exact ⟨_, K, _, _, nI 6, pm, sh, 0, pn, pl, J, t2, rfl, rfl, by omega, by omega, hI3.reg (hgF.pc (-2))⟩
    · rw [if_pos (show nI y < 6 from nI_lt (b := 6) (by omega) (by decide)), if_neg (by omega)]
      exact ⟨_, K, _, G, nI 6, pm, sh, 0, pn, pl, J, t2, rfl, rfl, by omega, by omega, hI3⟩
  unfold f_P_moveByte f_M_move
  rw [c_hl N Z m g 6 pm sh bs6, xB_some, hl6, c_read, xB_some, hve, c_joined N _ m g pm sh _ (a := 4) (j := 4) rfl (by decide), xB_some, c_write, xB_some, nod hy, nrm hy]
  rcases (show y % 2 = 0 ∨ y % 2 = 1 by omega) with h | h
  · rw [h, if_pos (by decide), if_pos (by decide)]; exact core 1
  · rw [h, if_neg (by decide), if_neg (by decide)]; exact core (-1)
/-- CPI, CPD, CPIR, CPDR -/
theorem sim_cpk (hN : 64 ≤ N) {t : Nat} (hI : Inv Z K m g t) (hb : t + 100 < 2 ^ 30) {y : Nat} (hy : y < 8) : Sim t 100 (f_P_lookAtByte N (nI y) (eC Z m g (nI 6) pm sh)) (f_M_move N (nI y) 1 (eM Z K m g 0 pn pl J sh)) := by
  obtain ⟨hT, hm, hg, hR⟩ := hI
  have hI : Inv Z K m g t := ⟨hT, hm, hg, hR⟩
  have h0 := hg.1 0 (by decide)
  obtain ⟨t1, a1, a2, hI1⟩ := hI.a3 (pw (g 6) (g 7)) (by omega)
  have hv := hm (ix (pw (g 6) (g 7)))
  generalize hve : m (ix (pw (g 6) (g 7))) = v at hv
  obtain ⟨J', q1, q2, q3, -, q5⟩ := m_diff N (zA Z (pw (g 6) (g 7)) 3) K m g sh 0 pn pl (g 0) v false (w := 8) (by decide) (by decide) hN J
  have q1 : J' 7 = b2 (!cr 4 (g 0) (v ^^^ (-1)) (!false)) := q1
  have hr := lo8_by (g 0 - v - b2 false)
  have cm := c_minus N (eC (zA Z (pw (g 6) (g 7)) 3) m g (nI 6) pm sh) h0 hv false
  generalize lo (g 0 - v - b2 false) 8 = r at hr q5 cm
  generalize (!cr 4 (g 0) (v ^^^ (-1)) (!false)) = hh at q1 cm
  generalize (cr 7 (g 0) (v ^^^ (-1)) (!false) ^^ cr 8 (g 0) (v ^^^ (-1)) (!false)) = ho at cm
  generalize (!cr 8 (g 0) (v ^^^ (-1)) (!false)) = hc at cm
  have hf := (byv_by r).or (rsv_by hh ho hc (n := 2) (by_c 2 (by decide)))
  have k16 := by_all (P := fun x => ((byv x ||| rsv hh ho hc 2) &&& 16 = 0 ↔ hh = false)) (fun n hn => lk16 _ _ _ n hn) hr
  have k210 := by_all (P := fun x => (byv x ||| rsv hh ho hc 2) &&& 210 = ((((x &&& 128) ||| (if x = 0 then 64 else 0)) ||| 2) ||| fl 16 hh)) (fun n hn => lk210 _ _ _ n hn) hr
  have p16 : pw r (byv r ||| rsv hh ho hc 2) &&& 16 = (byv r ||| rsv hh ho hc 2) &&& 16 := pw_an hr hf (by_c 16 (by decide))
  have p210 : pw r (byv r ||| rsv hh ho hc 2) &&& 210 = (byv r ||| rsv hh ho hc 2) &&& 210 := pw_an hr hf (by_c 210 (by decide))
  have phi := pw_hi hr.wd hf
  have q5 : f_M_difference N (g 0) v 0 8 (eM (zA Z (pw (g 6) (g 7)) 3) K m g 0 pn pl J sh) = some (r, eM (zA Z (pw (g 6) (g 7)) 3) K m g 0 pn pl J' sh) := q5
  have mp : f_M_pair N 6 (eM Z K m g 0 pn pl J sh) = some (pw (g 6) (g 7), eM Z K m g 0 pn pl J sh) := m_pair N K m g sh 0 pn pl J Z (a := 6) (j := 6) rfl (by decide) hg
  generalize pw r (byv r ||| rsv hh ho hc 2) = W at cm p16 p210 phi
  have cm : f_A_minus N (g 0) v 0 (eC (zA Z (pw (g 6) (g 7)) 3) m g (nI 6) pm sh) = some (W, eC (zA Z (pw (g 6) (g 7)) 3) m g (nI 6) pm sh) := cm
  have core : ∀ d : Int32, Sim t 100 (f_P_lookAtByte_53 N (nI y) W (b2 hh) d (eC (zA Z (pw (g 6) (g 7)) 3) m g (nI 6) pm sh)) (f_M_move_11 N (nI y) 1 d (eM Z K m g 0 pn pl J sh)) := by
    intro d
    have em : f_M_move_11 N (nI y) 1 d (eM Z K m g 0 pn pl J sh) = f_M_move_179 N (nI y) d ((g 1 &&& 1) ||| ((((r &&& 128) ||| (if r = 0 then 64 else 0)) ||| 2) ||| fl 16 hh)) (r - b2 hh) (b2 (decide (r = 0))) (eM (zA Z (pw (g 6) (g 7)) 3) K m g 0 pn pl J' sh) := by
      unfold f_M_move_11
      rw [mp, xB_some, m_read N K m g sh 0 pn pl J hT hN _ (by omega), xB_some, hve, xr_1, eM_g, xV_eq, xr_0, eM_g, xV_eq, if_neg (by decide), xr_0, eM_g, q5, xB_some]
      have e7 : eM (zA Z (pw (g 6) (g 7)) 3) K m g 0 pn pl J' sh 0 7 = b2 hh := by rw [← q1]; exact (id rfl)
      by_cases h : r = 0
      · rw [if_pos h, if_pos h, decide_eq_true h]
        unfold f_M_move_79 f_M_move_100 f_M_move_116 f_M_move_136
        rw [if_neg (by decide), e7]
        cases hh
        · rw [if_pos (by decide), xV_eq, if_pos (by decide), show b2 false = 0 from rfl, Int32.sub_zero]; rfl
        · rw [if_neg (by decide), xV_eq, if_neg (by decide)]; rfl
      · rw [if_neg h, if_neg h, decide_eq_false h]
        unfold f_M_move_79 f_M_move_100 f_M_move_116 f_M_move_136
        rw [if_pos (by decide), e7]
        cases hh
        · rw [if_pos (by decide), xV_eq, if_pos (by decide), show b2 false = 0 from rfl, Int32.sub_zero]; rfl
        · rw [if_neg (by decide), xV_eq, if_neg (by decide)]; rfl
    rw [em, m_advance N _ K _ _ sh pn pl J' hg hy]
    unfold f_P_lookAtByte_53 f_P_lookAtByte_104
    rw [phi, c_advance, xB_some, c_setFlags, xB_some, p210, k210]
    have g1 : gAd g d 1 = g 1 := by unfold gAd; rw [gSp2_un (by decide) (by decide), gSp6_un (by decide) (by decide)]
    rw [g1]
    have hfl := fl_4 (r - b2 hh) (lft g)
    have hby : By ((((r - b2 hh) &&& 2) <<< ((4 : Int32) &&& 31) ||| ((r - b2 hh) &&& 8)) ||| fl 4 (lft g)) := by
      refine (By.or ?_ (an_by _ (by_c 8 (by decide)))).or (By.fl (by_c 4 (by decide)) _)
      rw [t2_32]; split
      · exact by_c 0 (by decide)
      · exact by_c 32 (by decide)
    generalize (((r - b2 hh) &&& 2) <<< ((4 : Int32) &&& 31) ||| ((r - b2 hh) &&& 8)) ||| fl 4 (lft g) = F at hfl hby
    have hrb : By ((((r &&& 128) ||| (if r = 0 then 64 else 0)) ||| 2) ||| fl 16 hh) := by rw [← k210]; exact an_by _ (by_c 210 (by decide))
    generalize (((r &&& 128) ||| (if r = 0 then 64 else 0)) ||| 2) ||| fl 16 hh = Q at hrb
    rw [show ((g 1 &&& 1) ||| Q) ||| F = (g 1 &&& 1) ||| (F ||| Q) by rw [Int32.or_assoc, Int32.or_comm Q F]]
    have hgF : Gd (upd (gAd g d) 1 ((g 1 &&& 1) ||| (F ||| Q))) := (gAd_gd hg d).u8 (by decide) ((an_by _ (by_c 1 (by decide))).or (hby.or hrb))
    have hI3 := hI1.reg hgF
    generalize upd (gAd g d) 1 ((g 1 &&& 1) ||| (F ||| Q)) = G at hI3 hgF
    by_cases h5 : 5 < y
    · have n6 : ¬ nI y < 6 := nI_nl (x := 6) (c := 6) rfl (by omega) (by omega)
      rw [if_neg n6]
      cases hl : lft g
      · rw [if_pos (hfl.mpr hl), if_neg (by simp)]
        exact ⟨_, K, m, G, nI 6, pm, sh, 0, pn, pl, J', t1, rfl, rfl, by omega, by omega, hI3⟩
      · rw [if_neg (fun q => by rw [hfl.mp q] at hl; cases hl)]
        by_cases h : r = 0
        · rw [if_pos h, if_neg (by simp [h])]
          exact ⟨_, K, m, G, nI 6, pm, sh, 0, pn, pl, J', t1, rfl, rfl, by omega, by omega, hI3⟩
        · rw [if_neg h, if_pos ⟨h5, rfl, decide_eq_false h⟩, c_movePc, xB_some]
          exact ⟨_, K, m, _, nI 6, pm, sh, 0, pn, pl, J', t1, rfl, rfl, by omega, by omega, hI3.reg (hgF.pc (-2))⟩
    · rw [if_pos (show nI y < 6 from nI_lt (b := 6) (by omega) (by decide)), if_neg (by omega)]
      exact ⟨_, K, m, G, nI 6, pm, sh, 0, pn, pl, J', t1, rfl, rfl, by omega, by omega, hI3⟩
  unfold f_P_lookAtByte f_M_move
  rw [c_hl N Z m g 6 pm sh bs6, xB_some, hl6, c_read, xB_some, hve, xr_0, eC_g, cm, xB_some, p16]
  have e39 : (if ((byv r ||| rsv hh ho hc 2) &&& 16) = 0 then f_P_lookAtByte_39 N (nI y) W 0 (eC (zA Z (pw (g 6) (g 7)) 3) m g (nI 6) pm sh) else f_P_lookAtByte_39 N (nI y) W 1 (eC (zA Z (pw (g 6) (g 7)) 3) m g (nI 6) pm sh)) = f_P_lookAtByte_39 N (nI y) W (b2 hh) (eC (zA Z (pw (g 6) (g 7)) 3) m g (nI 6) pm sh) := by
    by_cases h : ((byv r ||| rsv hh ho hc 2) &&& 16) = 0
    · rw [if_pos h, k16.mp h]; rfl
    · rw [if_neg h]
      cases hh
      · exact absurd (k16.mpr rfl) h
      · rfl
  rw [e39]
  unfold f_P_lookAtByte_39
  rw [nod hy, nrm hy]
  rcases (show y % 2 = 0 ∨ y % 2 = 1 by omega) with h | h
  · rw [h, if_pos (by decide), if_pos (by decide)]; exact core 1
  · rw [h, if_neg (by decide), if_neg (by decide)]; exact core (-1)
end BL
