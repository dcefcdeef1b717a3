/-! instructions: the first quarter (b < 64) -/
def Sim (t d : Nat) (x y : xR) : Prop := ∃ (Z K : xSt) (m g : Nat → Int32) (B pm sh pf pn pl : Int32) (J : Nat → Int32) (t' : Nat),
  x = some (0, eC Z m g B pm sh) ∧ y = some (0, eM Z K m g pf pn pl J sh) ∧ t ≤ t' ∧ t' ≤ t + d ∧ Inv Z K m g t'
theorem Sim.l {t d : Nat} {x y : xR} (h : Sim t d x y) : Sim t d (xB x fun _ S => some (0, S)) y := by
  obtain ⟨Z, K, m, g, B, pm, sh, pf, pn, pl, J, t', h1, h2, h3⟩ := h
  exact ⟨Z, K, m, g, B, pm, sh, pf, pn, pl, J, t', by rw [h1, xB_some], h2, h3⟩
theorem Sim.r {t d : Nat} {x y : xR} (h : Sim t d x y) : Sim t d x (xB y fun _ S => some (0, S)) := by
  obtain ⟨Z, K, m, g, B, pm, sh, pf, pn, pl, J, t', h1, h2, h3⟩ := h
  exact ⟨Z, K, m, g, B, pm, sh, pf, pn, pl, J, t', h1, by rw [h2, xB_some], h3⟩
theorem Sim.lr {t d : Nat} {x y : xR} (h : Sim t d x y) : Sim t d (xB x fun _ S => some (0, S)) (xB y fun _ S => some (0, S)) := h.l.r
theorem Sim.up {t t1 d d1 : Nat} {x y : xR} (h : Sim t1 d1 x y) (h1 : t ≤ t1) (h2 : t1 + d1 ≤ t + d) : Sim t d x y := by
  obtain ⟨Z, K, m, g, B, pm, sh, pf, pn, pl, J, t', a1, a2, a3, a4, a5⟩ := h
  exact ⟨Z, K, m, g, B, pm, sh, pf, pn, pl, J, t', a1, a2, by omega, by omega, a5⟩
theorem Sim.mk' {t d t' : Nat} {Z K : xSt} {m g : Nat → Int32} {B pm sh pf pn pl : Int32} {J : Nat → Int32} {x y : xR} (hx : x = some (0, eC Z m g B pm sh)) (hy : y = some (0, eM Z K m g pf pn pl J sh)) (h1 : t ≤ t') (h2 : t' ≤ t + d) (hI : Inv Z K m g t') : Sim t d x y :=
  ⟨Z, K, m, g, B, pm, sh, pf, pn, pl, J, t', hx, hy, h1, h2, hI⟩
theorem Gd.pc {g : Nat → Int32} (h : Gd g) (k : Int32) : Gd (gPC g k) := h.u16 (by decide) (by decide) (and16 _)
theorem Gd.r {g : Nat → Int32} (h : Gd g) : Gd (gR g) := h.u8 (by decide) ((an_by _ (by_c 128 (by decide))).or (an_by _ (by_c 127 (by decide))))
theorem Gd.hl {g : Nat → Int32} (h : Gd g) {b : Nat} (hb : Bs b) (v : Int32) : Gd (gHl b g v) := by
  unfold gHl
  rcases hb with rfl | rfl | rfl
  · rw [if_pos rfl]; exact gSp_gd h (by decide) v
  · rw [if_neg (by decide)]; exact h.u16 (by decide) (by decide) (and16 _)
  · rw [if_neg (by decide)]; exact h.u16 (by decide) (by decide) (and16 _)
theorem Gd.pr {g : Nat → Int32} (h : Gd g) {b : Nat} (hb : Bs b) {k : Nat} (hk : k < 4) (v : Int32) : Gd (gPr b g k v) := by
  unfold gPr
  by_cases h3 : k = 3
  · rw [if_pos h3]; exact h.u16 (by decide) (by decide) (and16 _)
  · rw [if_neg h3]
    by_cases h2 : k = 2
    · rw [if_pos h2]; exact h.hl hb v
    · rw [if_neg h2]; exact gSp_gd h (by omega) v
theorem hlv_wd {g : Nat → Int32} (h : Gd g) {b : Nat} (hb : Bs b) : Wd (hlv b g) := by
  unfold hlv
  rcases hb with rfl | rfl | rfl
  · rw [if_pos rfl]; exact pw_wd (h.1 _ (by decide)) (h.1 _ (by decide))
  · rw [if_neg (by decide)]; exact h.2.1 _ (by decide) (by decide)
  · rw [if_neg (by decide)]; exact h.2.1 _ (by decide) (by decide)
theorem prv_wd {g : Nat → Int32} (h : Gd g) {b : Nat} (hb : Bs b) {k : Nat} (hk : k < 4) : Wd (prv b g k) := by
  unfold prv
  by_cases h3 : k = 3
  · rw [if_pos h3]; exact h.2.1 _ (by decide) (by decide)
  · rw [if_neg h3]
    by_cases h2 : k = 2
    · rw [if_pos h2]; exact hlv_wd h hb
    · rw [if_neg h2]; exact pw_wd (h.1 _ (by omega)) (h.1 _ (by omega))
theorem wd_hi {x : Int32} (h : Wd x) : By (x >>> ((8 : Int32) &&& 31)) := by
  obtain ⟨n, hn, rfl⟩ := h
  rw [pk_shrN (by omega) _ 8 (by decide)]
  exact ⟨n / 256, by omega, rfl⟩
theorem sgv_by {g : Nat → Int32} (h : Gd g) {b : Nat} (hb : Bs b) {k : Nat} (hk : k < 8) : By (sgv b g k) := by
  unfold sgv
  by_cases h7 : k = 7
  · rw [if_pos h7]; exact h.1 _ (by decide)
  · rw [if_neg h7]
    by_cases h4 : k < 4 ∨ b = 6
    · rw [if_pos h4]; exact h.1 _ (by omega)
    · rw [if_neg h4]
      by_cases h5 : k = 4
      · rw [if_pos h5]
        rcases hb with rfl | rfl | rfl
        · exact absurd (Or.inr rfl) h4
        · exact wd_hi (h.2.1 _ (by decide) (by decide))
        · exact wd_hi (h.2.1 _ (by decide) (by decide))
      · rw [if_neg h5]; exact and8 _
theorem Wd.or {x y : Int32} (hx : Wd x) (hy : Wd y) : Wd (x ||| y) := by
  obtain ⟨a, ha, rfl⟩ := hx
  obtain ⟨b, hb, rfl⟩ := hy
  exact ⟨a ||| b, Nat.or_lt_two_pow (n := 16) ha hb, nor⟩
theorem an_wd (x : Int32) {w : Int32} (hw : Wd w) : Wd (x &&& w) := by
  obtain ⟨n, hn, rfl⟩ := hw
  have e : x &&& nI n = (x &&& 65535) &&& nI n := by
    rw [Int32.and_assoc]
    congr 1
    rw [Int32.and_comm, pk_andN (by omega) (m := 65535) 16 (by decide), Nat.mod_eq_of_lt hn]
  obtain ⟨k, hk, ek⟩ := and16 x
  rw [e, ek]
  refine ⟨k &&& n, Nat.lt_of_le_of_lt Nat.and_le_right hn, ?_⟩
  apply Int32.toBitVec_inj.mp
  show BitVec.ofNat 32 k &&& BitVec.ofNat 32 n = BitVec.ofNat 32 (k &&& n)
  apply BitVec.eq_of_toNat_eq
  simp [Nat.and_mod_two_pow]
theorem Gd.sg {g : Nat → Int32} (h : Gd g) {b : Nat} (hb : Bs b) {k : Nat} (hk : k < 8) {v : Int32} (hv : By v) : Gd (gSg b g k v) := by
  have hs : Wd (v <<< ((8 : Int32) &&& 31)) := by
    obtain ⟨n, hn, rfl⟩ := hv
    rw [nsh8 (by omega)]
    exact ⟨n * 256, by omega, rfl⟩
  unfold gSg
  by_cases h7 : k = 7
  · rw [if_pos h7]; exact h.u8 (by decide) hv
  · rw [if_neg h7]
    by_cases h4 : k < 4 ∨ b = 6
    · rw [if_pos h4]; exact h.u8 (by omega) hv
    · rw [if_neg h4]
      rcases hb with rfl | rfl | rfl
      · exact absurd (Or.inr rfl) h4
      · split
        · exact h.u16 (by decide) (by decide) ((and8 _).wd.or hs)
        · exact h.u16 (by decide) (by decide) ((an_wd _ ⟨65280, by decide, rfl⟩).or hv.wd)
      · split
        · exact h.u16 (by decide) (by decide) ((and8 _).wd.or hs)
        · exact h.u16 (by decide) (by decide) ((an_wd _ ⟨65280, by decide, rfl⟩).or hv.wd)
theorem sgn : ∀ n, n < 256 → (nI n).toInt8.toInt32 = if (127 : Int32) < nI n then nI n - 256 else nI n := by decide +kernel
theorem m_signed (N : Nat) (S : xSt) {v : Int32} (hv : By v) : f_M_signed N v S = some (v.toInt8.toInt32, S) := by
  have := by_all (P := fun v => v.toInt8.toInt32 = if (127 : Int32) < v then v - 256 else v) sgn hv
  rw [this]
  unfold f_M_signed f_M_signed_15
  split <;> rfl
theorem ny1 {j : Nat} (hj : j < 8) : nI j >>> ((1 : Int32) &&& 31) = nI (j / 2) := pk_shrN (by omega) _ 1 (by decide)
theorem nod {j : Nat} (hj : j < 8) : nI j &&& 1 = nI (j % 2) := pk_andN (by omega) (m := 1) 1 (by decide)
theorem nrm {j : Nat} (hj : j < 8) : nI j - nI j / (2 : Int32) * 2 = nI (j % 2) := pk_rem (d := 2) (by omega) (by decide) (by decide)
def gX (g : Nat → Int32) (i j : Nat) : Nat → Int32 := upd (upd g i (g j)) j (g i)
theorem gX_gd {g : Nat → Int32} (h : Gd g) {i j : Nat} (hi : i < 18) (hj : j < 18) : Gd (gX g i j) := (h.u8 hi (h.1 _ hj)).u8 hj (h.1 _ hi)
section FI
variable (N : Nat) (Z K : xSt) (m g : Nat → Int32) (b : Nat) (pm sh pf pn pl : Int32) (J : Nat → Int32)
theorem c_swap (B : Int32) {i j : Nat} (hi : i < 26) (hj : j < 26) : f_G_swap N (nI i) (nI j) (eC Z m g B pm sh) = some (0, eC Z m (gX g i j) B pm sh) := by
  unfold f_G_swap gX
  rw [x_rd _ _ _ _ hi (by decide), x_rd _ _ _ _ hj (by decide), x_wr _ _ _ _ hi (by decide), x_wr _ _ _ _ hj (by decide), uC_g, uC_g]
  rfl
theorem m_change {i j : Nat} (hi : i < 26) (hj : j < 26) : f_M_change N (nI i) (nI j) (eM Z K m g pf pn pl J sh) = some (0, eM Z K m (gX g i j) pf pn pl J sh) := by
  unfold f_M_change gX
  rw [x_rd _ _ _ _ hi (by decide), x_rd _ _ _ _ hj (by decide), x_wr _ _ _ _ hi (by decide), x_wr _ _ _ _ hj (by decide), uM_g, uM_g]
  rfl
/-- exchanges of the registers i .. i + j - 1 with the second ones -/
def gXs (g : Nat → Int32) : Nat → Nat → (Nat → Int32)
  | _, 0 => g
  | i, j + 1 => gXs (gX g i (i + 8)) (i + 1) j
theorem gXs_gd : ∀ j i g, Gd g → i + j ≤ 8 → Gd (gXs g i j) := by
  intro j
  induction j with
  | zero => intro i g h _; exact h
  | succ j ih => intro i g h hij; exact ih (i + 1) _ (gX_gd h (by omega) (by omega)) (by omega)
theorem c_swaps (B : Int32) {to : Nat} (hto : to < 8) : ∀ j i n g, i + j = to + 1 → j < n → f_G_swapWithSecond_2 N n (nI to) (nI i) (eC Z m g B pm sh) = some (0, eC Z m (gXs g i j) B pm sh) := by
  intro j
  induction j with
  | zero =>
    intro i n g hij hn
    obtain ⟨n, rfl⟩ : ∃ q, n = q + 1 := ⟨n - 1, by omega⟩
    rw [f_G_swapWithSecond_2, if_pos (nI_lt (by omega) (by omega))]
    rfl
  | succ j ih =>
    intro i n g hij hn
    obtain ⟨n, rfl⟩ : ∃ q, n = q + 1 := ⟨n - 1, by omega⟩
    rw [f_G_swapWithSecond_2, if_neg (nI_nlt (by omega) (by omega)), if_pos (show nI i < 8 from nI_lt (b := 8) (by omega) (by decide)), show nI i + 8 = nI (i + 8) from nI_add i 8, c_swap N Z m g pm sh B (by omega) (by omega), xB_some, nI_1]
    exact ih (i + 1) n _ (by omega) (by omega)
/-- M: where it stands -/
theorem sim_aim (hN : 64 ≤ N) {t : Nat} (hI : Inv Z K m g t) (hb : t + 16 < 2 ^ 30) (hM : Mh b pf) : ∃ Z' g' pv t', t ≤ t' ∧ t' ≤ t + 16 ∧ Inv Z' K m g' t' ∧
    f_P_findM N (eC Z m g (nI b) pm sh) = some (0, eC Z' m g' (nI 6) pv sh) ∧ f_M_aim N (eM Z K m g pf pn pl J sh) = some (0, eM Z' K m g' pf 1 pv J sh) := by
  obtain ⟨hT, hm, hg, hR⟩ := hI
  have hbs := hM.bs
  have hw := hlv_wd hg hbs
  by_cases h6 : b = 6
  · subst h6
    have hpf : pf = 0 := by
      rcases hM with ⟨_, h⟩ | ⟨h, _⟩ | ⟨h, _⟩
      · exact h
      · cases h
      · cases h
    subst hpf
    refine ⟨Z, g, hlv 6 g, t, Nat.le_refl _, by omega, ⟨hT, hm, hg, hR⟩, ?_, ?_⟩
    · unfold f_P_findM f_P_findM_49
      rw [c_hl N Z m g 6 pm sh hbs, xB_some, xPu_eq, uC_pm, eC_b, if_pos (by decide)]
    · unfold f_M_aim f_M_aim_18
      rw [eM_pf, if_pos rfl, m_main N K m g sh 0 pn pl J 6 Z hM hg, xB_some, xPu_eq, uM_pl, xBo_1, xPu_eq, uM_pn, Int32.add_zero, hw.a65535]
  · have hne : ¬ nI b = 6 := by
      rcases hbs with h | h | h
      · exact absurd h h6
      · subst h; decide
      · subst h; decide
    have hpf : ¬ pf = 0 := by
      rcases hM with ⟨h, _⟩ | ⟨_, h⟩ | ⟨_, h⟩
      · exact absurd h h6
      · subst h; decide
      · subst h; decide
    obtain ⟨t', h1, h2, hI'⟩ := Inv.a3 (K := K) ⟨hT, hm, hg, hR⟩ (g 21) hb
    have ehl : hlv b (gPC g 1) = hlv b g := by
      unfold hlv gPC
      rcases hbs with h | h | h
      · exact absurd h h6
      · subst h; rw [if_neg (by decide), if_neg (by decide), pk_un (by decide)]
      · subst h; rw [if_neg (by decide), if_neg (by decide), pk_un (by decide)]
    refine ⟨zA Z (g 21) 3, gPC g 1, (hlv b g + (m (ix (g 21))).toInt8.toInt32) &&& 65535, t', h1, h2, hI'.reg (hg.pc 1), ?_, ?_⟩
    · unfold f_P_findM f_P_findM_49
      rw [c_hl N Z m g b pm sh hbs, xB_some, xPu_eq, uC_pm, eC_b, if_neg hne, c_nextByte, xB_some, xPu_eq, uC_pm, eC_pm, xPu_eq, uC_b]
      rfl
    · unfold f_M_aim f_M_aim_18
      rw [eM_pf, if_neg hpf, m_next N K m g sh pf pn pl J hT hN hb, xB_some, m_signed N _ (hm _), xB_some, m_main N K m _ sh pf pn pl J b _ hM (hg.pc 1), xB_some, xPu_eq, uM_pl, xBo_1, xPu_eq, uM_pn, ehl]
theorem an_0 (x : Int32) : gPC g 0 = upd g 21 (g 21 &&& 65535) := by unfold gPC; rw [Int32.add_zero]
/-- relative jumps, DJNZ, EX AF -/
theorem sim_jump (hN : 64 ≤ N) {t : Nat} (hI : Inv Z K m g t) (hb : t + 100 < 2 ^ 30) {j : Nat} (hj : j < 8) : Sim t 100 (f_P_moveNear N (nI j) (eC Z m g (nI b) pm sh)) (f_M_jump N (nI j) (eM Z K m g pf pn pl J sh)) := by
  obtain ⟨hT, hm, hg, hR⟩ := hI
  have hI : Inv Z K m g t := ⟨hT, hm, hg, hR⟩
  by_cases h0 : j = 0
  · subst h0
    exact Sim.mk' rfl rfl (Nat.le_refl _) (by omega) hI
  by_cases h1 : j = 1
  · subst h1
    have e1 := c_swaps N Z m pm sh (nI b) (to := 1) (by decide) 2 0 N g (by decide) (by omega)
    refine ⟨Z, K, m, gXs g 0 2, nI b, pm, sh, pf, pn, pl, J, t, ?_, ?_, Nat.le_refl _, by omega, hI.reg (gXs_gd 2 0 g hg (by decide))⟩
    · show xB (f_G_swapWithSecond_2 N N (nI 1) (nI 0) (eC Z m g (nI b) pm sh)) (fun v6 S7 => some (0, S7)) = _
      rw [e1, xB_some]
    · show xB (f_M_change N (nI 0) (nI 8) (eM Z K m g pf pn pl J sh)) (fun v3 S4 => xB (f_M_change N (nI 1) (nI 9) S4) fun v5 S6 => some (0, S6)) = _
      rw [m_change N Z K m g sh pf pn pl J (by decide) (by decide), xB_some, m_change N Z K m _ sh pf pn pl J (by decide) (by decide), xB_some]
      rfl
  have n0 : ¬ nI j = 0 := nI_ne (x := 0) (c := 0) rfl (by omega) (by decide) h0
  have n1 : ¬ nI j = 1 := nI_ne (x := 1) (c := 1) rfl (by omega) (by decide) h1
  obtain ⟨t', b1, b2', hI'⟩ := hI.a3 (g 21) (by omega)
  have hpc := hg.pc 1
  generalize he : (m (ix (g 21))).toInt8.toInt32 = e
  by_cases h2 : j = 2
  · subst h2
    have gg : upd (gPC g 1) 2 ((g 2 - 1) &&& 255) = gPC (upd g 2 ((g 2 - 1) &&& 255)) 1 := by
      unfold gPC; rw [pk_un (by decide), upd_comm _ _ _ (by decide : (21 : Nat) ≠ 2)]
    have hg2 : Gd (upd g 2 ((g 2 - 1) &&& 255)) := hg.u8 (by decide) (and8 _)
    have ec : f_P_moveNear N (nI 2) (eC Z m g (nI b) pm sh) = (if ((g 2 - 1) &&& 255) = 0 then f_P_moveNear_89 N e 0 (eC (zA Z (g 21) 3) m (gPC (upd g 2 ((g 2 - 1) &&& 255)) 1) (nI b) pm sh) else f_P_moveNear_89 N e 1 (eC (zA Z (g 21) 3) m (gPC (upd g 2 ((g 2 - 1) &&& 255)) 1) (nI b) pm sh)) := by
      unfold f_P_moveNear f_P_moveNear_50 f_P_moveNear_51
      rw [if_neg n0, if_neg n1, c_nextByte, xB_some, xV_eq, if_neg (by decide), if_neg (by decide), if_pos (by decide), xr_2, eC_g, xw_2, uC_g, xr_2, eC_g, pk_us, he]
      have : gPC g 1 2 = g 2 := by unfold gPC; rw [pk_un (by decide)]
      rw [this, gg]
    have em : f_M_jump N (nI 2) (eM Z K m g pf pn pl J sh) = (if ((g 2 - 1) &&& 255) = 0 then f_M_jump_107 N (eM (zA Z (g 21) 3) K m (gPC (upd g 2 ((g 2 - 1) &&& 255)) 1) pf pn pl J sh) else f_M_jump_88 N e (eM (zA Z (g 21) 3) K m (gPC (upd g 2 ((g 2 - 1) &&& 255)) 1) pf pn pl J sh)) := by
      unfold f_M_jump f_M_jump_48
      rw [if_neg n0, if_neg n1, if_pos (by decide), xr_2, eM_g, xw_2, uM_g, m_next N K m _ sh pf pn pl J hT hN (by omega), xB_some, pk_un (by decide), m_signed N _ (hm _), xB_some, if_pos (by decide), xr_2, eM_g, he]
      have : gPC (upd g 2 ((g 2 - 1) &&& 255)) 1 2 = (g 2 - 1) &&& 255 := by unfold gPC; rw [pk_un (by decide), pk_us]
      rw [this]
    rw [ec, em]
    by_cases hz : ((g 2 - 1) &&& 255) = 0
    · rw [if_pos hz, if_pos hz]
      exact Sim.mk' rfl rfl b1 (by omega) (hI'.reg (hg2.pc 1))
    · rw [if_neg hz, if_neg hz]
      refine ⟨_, K, m, _, nI b, pm, sh, pf, pn, pl, J, t', ?_, ?_, b1, by omega, hI'.reg ((hg2.pc 1).pc e)⟩
      · unfold f_P_moveNear_89 f_P_moveNear_90 f_P_moveNear_99
        rw [if_neg (by decide), c_movePc, xB_some]
      · unfold f_M_jump_88 f_M_jump_107
        rw [xr_21, xw_21, uM_g]; rfl
  · have n2 : ¬ nI j = 2 := nI_ne (x := 2) (c := 2) rfl (by omega) (by decide) h2
    have go : Sim t 100 (f_P_moveNear_46 N (nI j) e (eC (zA Z (g 21) 3) m (gPC g 1) (nI b) pm sh)) (f_M_jump_88 N e (eM (zA Z (g 21) 3) K m (gPC g 1) pf pn pl J sh)) := by
      refine ⟨_, K, m, _, nI b, pm, sh, pf, pn, pl, J, t', ?_, ?_, b1, by omega, hI'.reg (hpc.pc e)⟩
      · unfold f_P_moveNear_46 f_P_moveNear_51 f_P_moveNear_90 f_P_moveNear_99
        rw [if_neg n2, if_neg (by decide), c_movePc, xB_some]
      · unfold f_M_jump_88 f_M_jump_107
        rw [xr_21, xw_21, uM_g]; rfl
    have stay : Sim t 100 (f_P_moveNear_50 N (nI j) e (eC (zA Z (g 21) 3) m (gPC g 1) (nI b) pm sh)) (f_M_jump_107 N (eM (zA Z (g 21) 3) K m (gPC g 1) pf pn pl J sh)) := by
      refine ⟨_, K, m, _, nI b, pm, sh, pf, pn, pl, J, t', ?_, ?_, b1, by omega, hI'.reg hpc⟩
      · unfold f_P_moveNear_50 f_P_moveNear_51 f_P_moveNear_90 f_P_moveNear_99
        rw [if_neg n2, if_pos (by decide)]
      · rfl
    unfold f_P_moveNear f_M_jump f_M_jump_48
    rw [if_neg n0, if_neg n1, c_nextByte, xB_some, xV_eq, if_neg n0, if_neg n1, if_neg n2, m_next N K m g sh pf pn pl J hT hN (by omega), xB_some, m_signed N _ (hm _), xB_some, if_neg n2, he]
    by_cases h3 : j = 3
    · subst h3
      rw [if_pos (by decide), if_pos (by decide)]
      exact go
    · have n3 : ¬ nI j = 3 := nI_ne (x := 3) (c := 3) rfl (by omega) (by decide) h3
      have e4 : nI j - 4 = nI (j - 4) := pk_sub (b := 4) (by omega)
      rw [if_neg n3, if_neg n3, if_pos (show (3 : Int32) < nI j from nI_lt (a := 3) (by omega) (by omega)), e4, c_cond N _ m _ (nI b) pm sh (k := j - 4) (by omega), xB_some, m_cond N _ K m _ sh pf pn pl J (k := j - 4) (by omega), xB_some]
      by_cases hc : cnv (j - 4) (gPC g 1 1) = 0
      · rw [if_pos hc, if_pos hc]; exact stay
      · rw [if_neg hc, if_neg hc]; exact go
end FI
