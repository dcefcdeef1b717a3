/-! the ports themselves -/
def prs (p : Nat) (kd : Nat → Nat) : Nat → Nat
  | 0 => 0
  | r + 1 => if p.testBit (8 + r) then prs p kd r else prs p kd r ||| kd r
theorem prs_lt {p : Nat} {kd : Nat → Nat} (h : ∀ r, r < 8 → kd r < 32) : ∀ r, r ≤ 8 → prs p kd r < 32 := by
  intro r
  induction r with
  | zero => intro _; show 0 < 32; decide
  | succ r ih =>
    intro hr
    rw [prs]
    split
    · exact ih (by omega)
    · exact Nat.or_lt_two_pow (n := 5) (ih (by omega)) (h r (by omega))
theorem an_bit {x M : Int32} {k : Nat} (hk : k < 32) (hM : ∀ i, i < 32 → bt M i = decide (i = k)) : (x &&& M = 0) ↔ bt x k = false := by
  constructor
  · intro h
    have := congrArg (fun y => bt y k) h
    simp only [b_and, hM k hk, b_0, decide_true, Bool.and_true] at this
    exact this
  · intro h
    apply b_ext
    intro i hi
    rw [b_and, hM i hi, b_0]
    by_cases e : i = k
    · subst e; rw [h]; rfl
    · simp [e]
theorem row_bit : ∀ r, r < 8 → ∀ i, i < 32 → bt ((256 : Int32) <<< (nI r &&& 31)) i = decide (i = 8 + r) := by decide +kernel
section IO
variable (N : Nat) (Z K : xSt) (m g : Nat → Int32) (B pm sh pf pn pl : Int32) (J : Nat → Int32)
theorem c_upIn_loop {p : Nat} {kd : Nat → Nat} (hk : ∀ r, r < 8 → Z 8 r = nI (kd r)) : ∀ j r n, r + j = 8 → j < n → f_K_upIn_4 N n (nI p) (nI (prs p kd r)) (nI r) (eC Z m g B pm sh) = some ((31 : Int32) &&& (nI (prs p kd 8) ^^^ (-1)), eC Z m g B pm sh) := by
  intro j
  induction j with
  | zero =>
    intro r n h hn
    obtain ⟨n, rfl⟩ : ∃ q, n = q + 1 := ⟨n - 1, by omega⟩
    have hr : r = 8 := by omega
    subst hr
    rw [f_K_upIn_4, if_neg (by decide)]
  | succ j ih =>
    intro r n h hn
    obtain ⟨n, rfl⟩ : ∃ q, n = q + 1 := ⟨n - 1, by omega⟩
    have hb := an_bit (x := nI p) (k := 8 + r) (by omega) (row_bit r (by omega))
    rw [bt_n p (by omega)] at hb
    rw [f_K_upIn_4, if_pos (show nI r < 8 from nI_lt (b := 8) (by omega) (by decide)), x_rd _ _ _ _ (by omega) (by decide), eC_8, hk r (by omega), xV_eq, nor]
    unfold f_K_upIn_29
    rw [nI_1]
    have hp : prs p kd (r + 1) = if p.testBit (8 + r) then prs p kd r else prs p kd r ||| kd r := rfl
    have := ih (r + 1) n (by omega) (by omega)
    cases hbit : p.testBit (8 + r)
    · rw [hbit] at hp
      rw [if_pos (hb.mpr hbit)]
      rw [hp] at this
      exact this
    · rw [hbit] at hp
      rw [if_neg (fun q => by rw [hb.mp q] at hbit; cases hbit)]
      rw [hp] at this
      exact this
theorem m_keys {p : Nat} {kd : Nat → Nat} {k : Nat} (hk5 : k < 5) (hk : ∀ r, r < 8 → K 3 (5 * r + k) = b2 ((kd r).testBit k)) (kk : Int32 → Int32 → Int32 → xSt → xR) (v : Int32) : ∀ j r n, r + j = 8 → j < n →
    f_M_input_58 N kk n (nI p) v (nI k) (b2 ((prs p kd r).testBit k)) (nI r) (eM Z K m g pf pn pl J sh) = kk (nI p) (v + if (prs p kd 8).testBit k then 0 else (1 : Int32) <<< (nI k &&& 31)) (nI (k + 1)) (eM Z K m g pf pn pl J sh) := by
  intro j
  induction j with
  | zero =>
    intro r n h hn
    obtain ⟨n, rfl⟩ : ∃ q, n = q + 1 := ⟨n - 1, by omega⟩
    have hr : r = 8 := by omega
    subst hr
    rw [f_M_input_58, if_neg (by decide)]
    unfold f_M_input_122
    rw [xV_eq, xV_eq, nI_1]
    cases (prs p kd 8).testBit k
    · rw [if_pos (by decide)]; rfl
    · rw [if_neg (by decide)]; rfl
  | succ j ih =>
    intro r n h hn
    obtain ⟨n, rfl⟩ : ∃ q, n = q + 1 := ⟨n - 1, by omega⟩
    have hp : prs p kd (r + 1) = if p.testBit (8 + r) then prs p kd r else prs p kd r ||| kd r := rfl
    have e8 : ((nI p >>> (((8 : Int32) + nI r) &&& 31)) &&& 1) = b2 (p.testBit (8 + r)) := by
      rw [show (8 : Int32) = nI 8 from rfl, nI_add, sh_bit _ (by omega), bt_n p (by omega)]
    have e5 : ((5 : Int32) * nI r) + nI k = nI (5 * r + k) := by rw [show (5 : Int32) = nI 5 from rfl, pk_mul, nI_add]
    have := ih (r + 1) n (by omega) (by omega)
    rw [f_M_input_58, if_pos (show nI r < 8 from nI_lt (b := 8) (by omega) (by decide)), e8, e5, x_rd _ _ _ _ (by omega) (by decide), eM_3, hk r (by omega)]
    unfold f_M_input_100 f_M_input_96 f_M_input_101
    rw [nI_1]
    cases hbit : p.testBit (8 + r)
    · rw [hbit] at hp
      rw [hp] at this
      simp only [Bool.false_eq_true, if_false, Nat.testBit_or] at this
      cases hpk : (prs p kd r).testBit k
      · rw [hpk] at this
        rw [if_pos (by decide), if_pos (by decide)]
        cases hkk : (kd r).testBit k
        · rw [hkk] at this
          rw [if_pos (by decide)]
          exact this
        · rw [hkk] at this
          rw [if_neg (by decide)]
          exact this
      · rw [hpk] at this
        rw [if_neg (by decide)]
        exact this
    · rw [hbit] at hp
      rw [hp] at this
      simp only [if_true] at this
      cases hpk : (prs p kd r).testBit k
      · rw [hpk] at this
        rw [if_pos (by decide), if_neg (by decide)]
        exact this
      · rw [hpk] at this
        rw [if_neg (by decide)]
        exact this
def inv_ (lev : Bool) (q : Nat) : Int32 := (((((160 + (if lev then (64 : Int32) else 0)) + (if q.testBit 0 then 0 else (1 : Int32) <<< (nI 0 &&& 31))) + (if q.testBit 1 then 0 else (1 : Int32) <<< (nI 1 &&& 31))) + (if q.testBit 2 then 0 else (1 : Int32) <<< (nI 2 &&& 31))) + (if q.testBit 3 then 0 else (1 : Int32) <<< (nI 3 &&& 31))) + (if q.testBit 4 then 0 else (1 : Int32) <<< (nI 4 &&& 31))
theorem inv_eq : ∀ lev : Bool, ∀ q, q < 32 → ((160 : Int32) ||| (b2 lev <<< ((6 : Int32) &&& 31))) ||| ((31 : Int32) &&& (nI q ^^^ (-1))) = inv_ lev q := by decide +kernel
theorem inv_by : ∀ lev : Bool, ∀ q, q < 32 → inv_ lev q &&& 255 = inv_ lev q := by decide +kernel
theorem m_outer {p : Nat} {kd : Nat → Nat} (hN : 64 ≤ N) (hk : ∀ r, r < 8 → ∀ k, k < 5 → K 3 (5 * r + k) = b2 ((kd r).testBit k)) {t : Nat} (hT : Tm Z t) (hb : t + 4 < 2 ^ 30) (lev : Bool) :
    f_M_input_47 N N (nI p) (160 + (if lev then (64 : Int32) else 0)) 0 (eM Z K m g pf pn pl J sh) = some (inv_ lev (prs p kd 8), eM (zP Z 4) K m g pf pn pl J sh) := by
  obtain ⟨n, hn⟩ : ∃ n, N = n + 6 := ⟨N - 6, by omega⟩
  have step : ∀ (k : Nat) (hk5 : k < 5) (q : Nat) (v : Int32), f_M_input_47 N (q + 1) (nI p) v (nI k) (eM Z K m g pf pn pl J sh) = f_M_input_47 N q (nI p) (v + if (prs p kd 8).testBit k then 0 else (1 : Int32) <<< (nI k &&& 31)) (nI (k + 1)) (eM Z K m g pf pn pl J sh) := by
    intro k hk5 q v
    rw [f_M_input_47, if_pos (show nI k < 5 from nI_lt (b := 5) hk5 (by decide))]
    have := m_keys N Z K m g sh pf pn pl J (p := p) (kd := kd) hk5 (fun r hr => hk r hr k hk5) (f_M_input_47 N q) v 8 0 N (by omega) (by omega)
    rw [show b2 ((prs p kd 0).testBit k) = 0 by simp [prs, b2], nI_0] at this
    exact this
  have hm4 := m_pass N K m g sh pf pn pl J hT (k := 4) (by decide) hN hb
  have e0 : f_M_input_47 N N (nI p) (160 + (if lev then (64 : Int32) else 0)) 0 (eM Z K m g pf pn pl J sh) = f_M_input_47 N (n + 6) (nI p) (160 + (if lev then (64 : Int32) else 0)) (nI 0) (eM Z K m g pf pn pl J sh) := by rw [← hn]; rfl
  rw [e0, step 0 (by decide), step 1 (by decide), step 2 (by decide), step 3 (by decide), step 4 (by decide), f_M_input_47, if_neg (by decide), show (4 : Int32) = nI 4 from rfl, hm4, xB_some]
  rfl
theorem odd_n {p : Nat} (hp : p < 65536) : nI p - nI p / (2 : Int32) * 2 = nI (p % 2) := pk_rem (d := 2) (by omega) (by decide) (by decide)
theorem and1_n {p : Nat} (hp : p < 65536) : nI p &&& 1 = nI (p % 2) := pk_andN (by omega) (m := 1) 1 (by decide)
theorem sim_in (hN : 64 ≤ N) {t : Nat} (hI : Inv Z K m g t) (hb : t + 32 < 2 ^ 30) {x : Int32} (hx : Wd x) : ∃ v Z' K' t', By v ∧ t ≤ t' ∧ t' ≤ t + 32 ∧ Inv Z' K' m g t' ∧
    (∀ (B pm sh : Int32), f_B_readPort N x (eC Z m g B pm sh) = some (v, eC Z' m g B pm sh)) ∧
    (∀ (pf pn pl : Int32) (J : Nat → Int32) (sh : Int32), f_M_input N x (eM Z K m g pf pn pl J sh) = some (v, eM Z' K' m g pf pn pl J sh)) := by
  obtain ⟨p, hp, rfl⟩ := hx
  rcases (show p % 2 = 0 ∨ p % 2 = 1 by omega) with h2 | h2
  · -- the keyboard's and tape's port
    obtain ⟨d, hd, ed⟩ := zD_n hI.1 1
    have hI1 := hI.pp (k := d) (by omega) (by omega)
    obtain ⟨Z2, K2, hI2, f1, f7, f8, fk, ⟨ov, hov, g3, g20⟩, -, F1, F2⟩ := sim_follow N (zP Z (nI d)) K m g hN hI1
    have hI3 := hI2.pp (k := 4) (by decide) (by omega)
    have hI2' := hI2
    obtain ⟨-, -, -, c, ov', bg, pu, kd, plx, -, -, -, -, -, -, -, -, -, -, a11⟩ := hI2'
    have hlt := prs_lt (p := p) (kd := kd) (fun r hr => (a11 r hr).2.1) 8 (by decide)
    obtain ⟨lev, hlev⟩ : ∃ lev : Bool, nI ov &&& 1 = b2 lev ∧ (lev = true ↔ ov % 2 = 1) := by
      rw [pk_andN (by omega) (m := 1) 1 (by decide)]
      rcases (show ov % 2 = 0 ∨ ov % 2 = 1 by omega) with h | h
      · exact ⟨false, by rw [show ov % 2 ^ 1 = 0 by omega]; rfl, by simp [h]⟩
      · exact ⟨true, by rw [show ov % 2 ^ 1 = 1 by omega]; rfl, by simp [h]⟩
    refine ⟨inv_ lev (prs p kd 8), zP Z2 (nI 4), K2, t + d + 4, ?_, by omega, by omega, hI3, ?_, ?_⟩
    · rw [← inv_by lev _ hlt]; exact and8 _
    · intro B pm sh
      have hup := c_upIn_loop N Z2 m g B pm sh (p := p) (kd := kd) (fun r hr => (a11 r hr).1) 8 0 N (by omega) (by omega)
      unfold f_B_readPort
      rw [and1_n hp, h2, if_neg (by decide), c_delay, xB_some, ed, c_pass, xB_some, eC_1, F1, xB_some]
      unfold f_T_level f_K_upIn
      rw [xB_some, eC_4, g3, hlev.1]
      rw [show nI (prs p kd 0) = 0 from rfl, nI_0] at hup
      rw [hup, xB_some, xV_eq, inv_eq lev _ hlt, c_pass, xB_some]
      rfl
    · intro pf pn pl J sh
      have hT1 : Tm (zP Z (nI d)) (t + d) := hI1.1
      unfold f_M_input f_M_input_43
      rw [odd_n hp, h2, if_neg (by decide), m_slow N K m g sh pf pn pl J hI.1 hN (by omega), xB_some, ed, F2, xB_some, eM_20, g20, show nI ov - nI ov / (2 : Int32) * 2 = nI (ov % 2) from pk_rem (d := 2) (by omega) (by decide) (by decide), xV_eq, xV_eq]
      have ho := m_outer N Z2 K2 m g sh pf pn pl J (p := p) (kd := kd) hN (fun r hr k hk => (a11 r hr).2.2 k hk) hI2.1 (by omega) lev
      cases lev
      · rw [if_neg (by
          have : ov % 2 = 0 := by
            rcases (show ov % 2 = 0 ∨ ov % 2 = 1 by omega) with h | h
            · exact h
            · have := hlev.2.mpr h; cases this
          rw [this]; decide)]
        exact ho
      · rw [if_pos (by rw [hlev.2.mp rfl]; rfl)]
        exact ho
  · refine ⟨255, zP Z (nI 4), K, t + 4, by_c 255 (by decide), by omega, by omega, hI.pp (by decide) (by omega), ?_, ?_⟩
    · intro B pm sh
      unfold f_B_readPort
      rw [and1_n hp, h2, if_pos (show nI 1 = (1 : Int32) from rfl), c_pass, xB_some]
      rfl
    · intro pf pn pl J sh
      unfold f_M_input
      rw [odd_n hp, h2, if_pos (show nI 1 = (1 : Int32) from rfl), show (4 : Int32) = nI 4 from rfl, m_pass N K m g sh pf pn pl J hI.1 (by decide) hN (by omega), xB_some]
theorem xU_row (S : xSt) (q : Nat) {i j : Nat} (a b : Int32) (h : i ≠ j) : xU (xU S q i a) q j b = xU (xU S q j b) q i a := by
  funext p
  by_cases hp : p = q
  · subst hp; rw [xU_at, xU_at, xU_at, xU_at, upd_comm _ _ _ h]
  · rw [xU_ne _ _ _ hp, xU_ne _ _ _ hp, xU_ne _ _ _ hp, xU_ne _ _ _ hp]
theorem Inv.row1 {Z K : xSt} {m g : Nat → Int32} {t : Nat} (h : Inv Z K m g t) {i : Nat} (hi : i ≠ 4) (v : Int32) : Inv (xU Z 1 i v) K m g t := by
  obtain ⟨h1, h2, h3, h4⟩ := h
  refine ⟨⟨by rw [xU_at, pk_un (fun e => hi e.symm)]; exact h1.1, h1.2⟩, h2, h3, ?_⟩
  rw [xU_ne _ _ _ (by decide), xU_ne _ _ _ (by decide), xU_ne _ _ _ (by decide)]
  exact h4
theorem sim_out (hN : 64 ≤ N) {t : Nat} (hI : Inv Z K m g t) (hb : t + 32 < 2 ^ 30) {x : Int32} (hx : Wd x) (v : Int32) : ∃ Z' t', t ≤ t' ∧ t' ≤ t + 32 ∧ Inv Z' K m g t' ∧
    (∀ (B pm sh : Int32), f_B_writePort N x v (eC Z m g B pm sh) = some (0, eC Z' m g B pm sh)) ∧
    (∀ (pf pn pl : Int32) (J : Nat → Int32) (sh : Int32), f_M_output N x v (eM Z K m g pf pn pl J sh) = some (0, eM Z' K m g pf pn pl J sh)) := by
  obtain ⟨p, hp, rfl⟩ := hx
  rcases (show p % 2 = 0 ∨ p % 2 = 1 by omega) with h2 | h2
  · obtain ⟨d, hd, ed⟩ := zD_n hI.1 1
    have hI3 := hI.pp (k := d + 3) (by omega) (by omega)
    generalize hZ3 : zP Z (nI (d + 3)) = Z3 at hI3
    have e3 : nI d + 4 - 1 = nI (d + 3) := by
      rw [show (4 : Int32) = nI 4 from rfl, nI_add, show (1 : Int32) = nI 1 from rfl, pk_sub (by omega)]; rfl
    have e4 : zP (zP Z (nI d)) (nI 4) = zP Z3 1 := by
      rw [zP_add hI.1 (by omega) (by omega), ← hZ3, show (1 : Int32) = nI 1 from rfl, zP_add hI.1 (by omega) (by omega)]
    -- what stands behind the new border, speaker and edges
    let ed' : Int32 := if ((v >>> ((4 : Int32) &&& 31)) &&& 1) = Z3 1 6 then Z3 1 7 else Z3 1 7 + 1
    let Z4 : xSt := xU (xU (xU Z3 1 5 (v &&& 7)) 1 7 ed') 1 6 ((v >>> ((4 : Int32) &&& 31)) &&& 1)
    have hI4 : Inv Z4 K m g (t + (d + 3)) := ((hI3.row1 (by decide) _).row1 (by decide) _).row1 (by decide) _
    have hI5 := hI4.pp (k := 1) (by decide) (by omega)
    refine ⟨zP Z4 (nI 1), t + (d + 3) + 1, by omega, by omega, hI5, ?_, ?_⟩
    · intro B pm sh
      unfold f_B_writePort f_B_writePort_58
      rw [and1_n hp, h2, if_neg (by decide), c_delay, xB_some, ed, e3, c_pass, xB_some, hZ3]
      simp only [xPu_eq, xV_eq, uC_1, eC_1, xU_at, c_pass, xB_some, pk_un (show (6 : Nat) ≠ 5 by decide), pk_un (show (7 : Nat) ≠ 5 by decide)]
      by_cases hs : ((v >>> ((4 : Int32) &&& 31)) &&& 1) = Z3 1 6
      · rw [if_pos hs]
        have hZ4 : Z4 = xU (xU Z3 1 5 (v &&& 7)) 1 6 ((v >>> ((4 : Int32) &&& 31)) &&& 1) := by
          show xU (xU (xU Z3 1 5 (v &&& 7)) 1 7 ed') 1 6 _ = _
          have : ed' = xU Z3 1 5 (v &&& 7) 1 7 := by
            show (if _ then _ else _) = _
            rw [if_pos hs, xU_at, pk_un (by decide)]
          rw [this, xU_same]
        rw [hZ4]; rfl
      · rw [if_neg hs]
        have hZ4 : Z4 = xU (xU (xU Z3 1 5 (v &&& 7)) 1 7 (Z3 1 7 + 1)) 1 6 ((v >>> ((4 : Int32) &&& 31)) &&& 1) := by
          show xU (xU (xU Z3 1 5 (v &&& 7)) 1 7 ed') 1 6 _ = _
          have : ed' = Z3 1 7 + 1 := by
            show (if _ then _ else _) = _
            rw [if_neg hs]
          rw [this]
        rw [hZ4]; rfl
    · intro pf pn pl J sh
      have hT3 := hI3.1
      have hT4 := hI4.1
      have h64 : (64 : Int32) = nI 64 := rfl
      have h4096 : (4096 : Int32) = nI 4096 := rfl
      have hT5 : Tm (zP Z3 1) (t + (d + 3) + 1) := zP_t hT3 (k := 1) (by decide) (by omega)
      have hn5 : zP Z3 1 1 4 = nI (t + (d + 3) + 1) := hT5.1
      have h15 : ∀ i, i ≠ 4 → zP Z3 1 1 i = Z3 1 i := fun i hi => zP_1 1 hi
      have s3 := zP_step hT3 (by omega)
      have s4 := zP_step hT4 (by omega)
      have hZ45 : Z4 1 5 = v &&& 7 := by
        show xU (xU (xU Z3 1 5 (v &&& 7)) 1 7 ed') 1 6 _ 1 5 = _
        rw [xU_at, pk_un (by decide), xU_at, pk_un (by decide), xU_at, pk_us]
      -- the reference's last word
      have fin : ∀ W : xSt, W = xU (xU (xU (zP Z3 1) 1 5 (v &&& 7)) 1 7 ed') 1 6 ((v >>> ((4 : Int32) &&& 31)) &&& 1) →
          (if (eM W K m g pf pn pl J sh 0 2 - eM W K m g pf pn pl J sh 0 2 / (64 : Int32) * 64) = 0 then xWr (eM W K m g pf pn pl J sh) 4 64 ((eM W K m g pf pn pl J sh 0 2 - eM W K m g pf pn pl J sh 0 2 / (4096 : Int32) * 4096) / 64) (eM W K m g pf pn pl J sh 0 12) (fun S3 => some (0, S3)) else some (0, eM W K m g pf pn pl J sh)) = some (0, eM (zP Z4 (nI 1)) K m g pf pn pl J sh) := by
        intro W hW
        have hW4 : W 1 4 = nI (t + (d + 3) + 1) := by
          rw [hW, xU_at, pk_un (by decide), xU_at, pk_un (by decide), xU_at, pk_un (by decide)]; exact hn5
        have hW5 : W 1 5 = v &&& 7 := by
          rw [hW, xU_at, pk_un (by decide), xU_at, pk_un (by decide), xU_at, pk_us]
        rw [eM_now, eM_bd, hW4, hW5, h64, h4096, pk_rem (by omega) (by decide) (by decide), pk_rem (by omega) (by decide) (by decide), pk_div (by omega) (by decide) (by decide), x_wr _ _ _ _ (by omega) (by decide), uM_st, show nI 1 = (1 : Int32) from rfl, s4, hZ45]
        by_cases h1 : (t + (d + 3) + 1) % 64 = 0
        · rw [if_pos (by rw [h1]; rfl), if_pos h1]
          rw [if_pos h1] at s3
          rw [hW, s3]
          congr 3
          show xU (xU (xU (xU (xU (xU Z3 1 4 _) 7 _ (Z3 1 5)) 1 5 _) 1 7 ed') 1 6 _) 7 _ _ = xU (xU (xU (xU (xU Z3 1 5 _) 1 7 ed') 1 6 _) 1 4 _) 7 _ _
          rw [xU_comm _ _ _ _ _ (by decide : (7 : Nat) ≠ 1), xU_comm _ _ _ _ _ (by decide : (7 : Nat) ≠ 1), xU_comm _ _ _ _ _ (by decide : (7 : Nat) ≠ 1), xU_xU, xU_row _ 1 _ _ (by decide : (4 : Nat) ≠ 5), xU_row _ 1 _ _ (by decide : (4 : Nat) ≠ 7), xU_row _ 1 _ _ (by decide : (4 : Nat) ≠ 6)]
        · rw [if_neg (fun q => h1 ((nI_eq (b := 0) (by omega) (by decide)).mp (q.trans nI_0.symm))), if_neg h1]
          rw [if_neg h1] at s3
          rw [hW, s3]
          congr 3
          show xU (xU (xU (xU Z3 1 4 _) 1 5 _) 1 7 ed') 1 6 _ = xU (xU (xU (xU Z3 1 5 _) 1 7 ed') 1 6 _) 1 4 _
          rw [xU_row _ 1 _ _ (by decide : (4 : Nat) ≠ 5), xU_row _ 1 _ _ (by decide : (4 : Nat) ≠ 7), xU_row _ 1 _ _ (by decide : (4 : Nat) ≠ 6)]
      unfold f_M_output f_M_output_52 f_M_output_95
      rw [odd_n hp, h2, if_neg (by decide), m_slow N K m g sh pf pn pl J hI.1 hN (by omega), xB_some, ed, show (4 : Int32) = nI 4 from rfl, m_pass N K m g sh pf pn pl J (hI.pp (k := d) (by omega) (by omega)).1 (by decide) hN (by omega), xB_some, e4]
      simp only [xPu_eq, uM_bd, eM_sp, eM_ed, uM_ed, uM_sp]
      simp only [xU_at, pk_un (show (6 : Nat) ≠ 5 by decide), pk_un (show (7 : Nat) ≠ 5 by decide), h15 6 (by decide), h15 7 (by decide)]
      by_cases hs : ((v >>> ((4 : Int32) &&& 31)) &&& 1) = Z3 1 6
      · rw [show nI 4 = (4 : Int32) from rfl, if_pos hs]
        exact fin _ (by
          have : ed' = Z3 1 7 + 0 := by
            show (if _ then _ else _) = _
            rw [if_pos hs, Int32.add_zero]
          rw [this])
      · rw [show nI 4 = (4 : Int32) from rfl, if_neg hs]
        exact fin _ (by
          have : ed' = Z3 1 7 + 1 := by
            show (if _ then _ else _) = _
            rw [if_neg hs]
          rw [this])
  · refine ⟨zP Z (nI 4), t + 4, by omega, by omega, hI.pp (by decide) (by omega), ?_, ?_⟩
    · intro B pm sh
      unfold f_B_writePort
      rw [and1_n hp, h2, if_pos (show nI 1 = (1 : Int32) from rfl), c_pass, xB_some]
      rfl
    · intro pf pn pl J sh
      unfold f_M_output
      rw [odd_n hp, h2, if_pos (show nI 1 = (1 : Int32) from rfl), show (4 : Int32) = nI 4 from rfl, m_pass N K m g sh pf pn pl J hI.1 (by decide) hN (by omega), xB_some]
end IO
