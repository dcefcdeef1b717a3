/-! time: what an access costs, on both sides -/
theorem x_wr6 (S : xSt) (q : Nat) (a v : Int32) (k : xSt → xR) : xWr S q 64 (a &&& 63) v k = k (xU S q (a &&& 63).toNatClampNeg v) := by
  obtain ⟨j, hj, e⟩ := pk_andE a (m := 63) 6 (by decide)
  unfold xWr
  rw [e, if_neg (nI_in hj (by decide))]
theorem xU_same (S : xSt) (q i : Nat) : xU S q i (S q i) = S := by
  funext a
  by_cases h : a = q
  · subst h
    rw [xU_at]
    funext j
    by_cases hj : j = i
    · subst hj; rw [pk_us]
    · rw [pk_un hj]
  · rw [xU_ne _ _ _ h]
theorem upd_upd (f : Nat → Int32) (i : Nat) (a b : Int32) : upd (upd f i a) i b = upd f i b := by
  funext j
  by_cases hj : j = i
  · subst hj; rw [pk_us, pk_us]
  · rw [pk_un hj, pk_un hj, pk_un hj]
theorem upd_comm (f : Nat → Int32) {i j : Nat} (a b : Int32) (h : i ≠ j) : upd (upd f i a) j b = upd (upd f j b) i a := by
  funext k
  by_cases hk : k = i
  · subst hk; rw [pk_us, pk_un h, pk_us]
  · by_cases hj : k = j
    · subst hj; rw [pk_us, pk_un hk, pk_us]
    · rw [pk_un hj, pk_un hk, pk_un hk, pk_un hj]
theorem upd_self (f : Nat → Int32) (i : Nat) : upd f i (f i) = f := by
  funext j
  by_cases hj : j = i
  · subst hj; rw [pk_us]
  · rw [pk_un hj]
theorem xU_xU (S : xSt) (q i : Nat) (a b : Int32) : xU (xU S q i a) q i b = xU S q i b := by
  funext p
  by_cases h : p = q
  · subst h; rw [xU_at, xU_at, xU_at, upd_upd]
  · rw [xU_ne _ _ _ h, xU_ne _ _ _ h, xU_ne _ _ _ h]
theorem xU_comm (S : xSt) {q p : Nat} (i j : Nat) (a b : Int32) (h : q ≠ p) : xU (xU S q i a) p j b = xU (xU S p j b) q i a := by
  funext k
  by_cases hk : k = p
  · subst hk
    rw [xU_at, xU_ne _ _ _ (fun e => h e.symm), xU_ne _ _ _ (fun e => h e.symm), xU_at]
  · by_cases hq : k = q
    · subst hq; rw [xU_ne _ _ _ hk, xU_at, xU_at, xU_ne _ _ _ hk]
    · rw [xU_ne _ _ _ hk, xU_ne _ _ _ hq, xU_ne _ _ _ hq, xU_ne _ _ _ hk]
def zP (Z : xSt) (n : Int32) : xSt := if ((Z 1 4 + n) >>> ((6 : Int32) &&& 31)) = (Z 1 4 >>> ((6 : Int32) &&& 31)) then xU Z 1 4 (Z 1 4 + n) else xU (xU Z 1 4 (Z 1 4 + n)) 7 ((((Z 1 4 + n) >>> ((6 : Int32) &&& 31)) &&& 63).toNatClampNeg) (Z 1 5)
def zD (Z : xSt) (s : Int32) : Int32 := if s = 0 then 0 else if ((Z 1 4 >>> ((6 : Int32) &&& 31)) &&& 63) < 16 then 0 else if 47 < ((Z 1 4 >>> ((6 : Int32) &&& 31)) &&& 63) then 0 else if (Z 1 4 &&& 63) < 32 then (if (Z 1 4 &&& 7) < 6 then 6 - (Z 1 4 &&& 7) else 0) else 0
def zS (a : Int32) : Int32 := if (a &&& 3072) = 1024 then 1 else 0
def zA (Z : xSt) (a n : Int32) : xSt := zP Z (zD Z (zS a) + n)
def mW (m : Nat → Int32) (a v : Int32) : Nat → Int32 := if (a &&& 4095) < 1024 then m else upd m (ix a) (v &&& 255)
section TC
variable (N : Nat) (Z K : xSt) (m g : Nat → Int32) (b pm sh pf pn pl : Int32) (J : Nat → Int32)
theorem c_pass (n : Int32) : f_B_pass N n (eC Z m g b pm sh) = some (0, eC (zP Z n) m g b pm sh) := by
  unfold f_B_pass f_B_pass_48 zP
  simp only [xV_eq, xPu_eq, eC_1, uC_1, xU_at, pk_us, x_wr6, uC_7]
  by_cases h : (Z 1 4 + n) >>> ((6 : Int32) &&& 31) = Z 1 4 >>> ((6 : Int32) &&& 31)
  · rw [if_pos h, if_pos h]
  · rw [if_neg h, if_neg h, pk_un (by decide)]
theorem c_shared (a : Int32) (S : xSt) : f_B_isShared N a S = some (zS a, S) := by
  unfold f_B_isShared f_B_isShared_16 zS
  by_cases h : a &&& 3072 = 1024
  · rw [if_pos h, if_pos h]; rfl
  · rw [if_neg h, if_neg h]; rfl
theorem c_delay (s : Int32) : f_B_delay N s (eC Z m g b pm sh) = some (zD Z s, eC Z m g b pm sh) := by
  unfold f_B_delay f_B_delay_43 f_B_delay_44 f_B_delay_74 f_B_delay_75 zD
  simp only [xV_eq, eC_1]
  by_cases h0 : s = 0
  · rw [if_pos h0, if_pos h0]; rfl
  · rw [if_neg h0, if_neg h0]
    by_cases h1 : ((Z 1 4 >>> ((6 : Int32) &&& 31)) &&& 63) < 16
    · rw [if_pos h1, if_pos h1]; rfl
    · rw [if_neg h1, if_neg h1]
      by_cases h2 : 47 < ((Z 1 4 >>> ((6 : Int32) &&& 31)) &&& 63)
      · rw [if_pos h2, if_pos h2]; rfl
      · rw [if_neg h2, if_neg h2]
        by_cases h3 : (Z 1 4 &&& 63) < 32
        · rw [if_pos h3, if_pos h3, if_neg (by decide)]
          by_cases h4 : (Z 1 4 &&& 7) < 6
          · rw [if_pos h4, if_pos h4]
          · rw [if_neg h4, if_neg h4]
        · rw [if_neg h3, if_neg h3]; rfl
theorem c_read (a : Int32) : f_B_read N a (eC Z m g b pm sh) = some (m (ix a), eC (zA Z a 3) m g b pm sh) := by
  unfold f_B_read f_B_byteAt
  simp only [c_shared, xB_some, c_delay, c_pass, x_rdm, eC_m]
  rfl
theorem c_fetchAt (a : Int32) : f_B_fetchAt N a (eC Z m g b pm sh) = some (m (ix a), eC (zA Z a 4) m g b pm sh) := by
  unfold f_B_fetchAt f_B_byteAt
  simp only [c_shared, xB_some, c_delay, c_pass, x_rdm, eC_m]
  rfl
theorem c_place (a v : Int32) : f_B_place N a v (eC Z m g b pm sh) = some (0, eC Z (upd m (ix a) (v &&& 255)) g b pm sh) := by
  unfold f_B_place
  simp only [x_wrm, uC_m]
theorem c_write (a v : Int32) : f_B_write N a v (eC Z m g b pm sh) = some (0, eC (zA Z a 3) (mW m a v) g b pm sh) := by
  unfold f_B_write f_B_write_31 mW
  simp only [c_shared, xB_some, c_delay, c_pass, c_place]
  split <;> rfl
end TC
/-- now, as a number -/
def Tm (Z : xSt) (t : Nat) : Prop := Z 1 4 = nI t ∧ t < 2 ^ 30
theorem n6 : ((6 : Int32) &&& 31).toBitVec.smod 32 = 6 := by decide
theorem nsh6 {t : Nat} (h : t < 2 ^ 31) : nI t >>> ((6 : Int32) &&& 31) = nI (t / 64) := pk_shrN h _ 6 (by decide)
theorem zP_n {Z : xSt} {t : Nat} (h : Tm Z t) {k : Nat} (hk : k < 64) : zP Z (nI k) = if (t + k) / 64 = t / 64 then xU Z 1 4 (nI (t + k)) else xU (xU Z 1 4 (nI (t + k))) 7 ((t + k) / 64 % 64) (Z 1 5) := by
  obtain ⟨h1, h2⟩ := h
  unfold zP
  rw [h1, nI_add, nsh6 (by omega), nsh6 (by omega), pk_andN (by omega) (m := 63) 6 (by decide), nI_clamp (by omega)]
  by_cases hc : (t + k) / 64 = t / 64
  · rw [if_pos hc, if_pos (by rw [hc])]
  · rw [if_neg hc, if_neg (fun e => hc ((nI_eq (by omega) (by omega)).mp e))]
theorem zP_t {Z : xSt} {t : Nat} (h : Tm Z t) {k : Nat} (hk : k < 64) (hb : t + k < 2 ^ 30) : Tm (zP Z (nI k)) (t + k) := by
  refine ⟨?_, hb⟩
  rw [zP_n h hk]
  split
  · rw [xU_at, pk_us]
  · rw [xU_ne _ _ _ (by decide), xU_at, pk_us]
theorem zP_1 {Z : xSt} {i : Nat} (n : Int32) (hi : i ≠ 4) : zP Z n 1 i = Z 1 i := by
  unfold zP
  split
  · rw [xU_at, pk_un hi]
  · rw [xU_ne _ _ _ (by decide), xU_at, pk_un hi]
theorem zP_q {Z : xSt} {q : Nat} (n : Int32) (h1 : q ≠ 1) (h7 : q ≠ 7) : zP Z n q = Z q := by
  unfold zP
  split
  · rw [xU_ne _ _ _ h1]
  · rw [xU_ne _ _ _ h7, xU_ne _ _ _ h1]
theorem zP_0 (Z : xSt) : zP Z 0 = Z := by
  unfold zP
  rw [Int32.add_zero, if_pos rfl, xU_same]
theorem zP_add {Z : xSt} {t : Nat} (h : Tm Z t) {j k : Nat} (hj : j + k < 64) (hb : t + j + k < 2 ^ 30) : zP (zP Z (nI j)) (nI k) = zP Z (nI (j + k)) := by
  rw [zP_n (zP_t h (by omega) (by omega)) (by omega), zP_1 _ (by decide), zP_n h (by omega), zP_n h (by omega)]
  rw [← Nat.add_assoc]
  by_cases h1 : (t + j) / 64 = t / 64
  · rw [if_pos h1, h1, xU_xU]
  · have h2 : (t + j + k) / 64 = (t + j) / 64 := by omega
    have h3 : ¬ (t + j + k) / 64 = t / 64 := by omega
    rw [if_neg h1, if_pos h2, if_neg h3, h2, xU_comm _ _ _ _ _ (by decide : (7 : Nat) ≠ 1), xU_xU]
/-- the reference's clock, tick by tick -/
theorem zP_step {Z : xSt} {t : Nat} (h : Tm Z t) (hb : t + 1 < 2 ^ 30) : zP Z 1 = if (t + 1) % 64 = 0 then xU (xU Z 1 4 (nI (t + 1))) 7 ((t + 1) % 4096 / 64) (Z 1 5) else xU Z 1 4 (nI (t + 1)) := by
  have e := zP_n h (k := 1) (by decide)
  have e1 : nI 1 = 1 := rfl
  rw [e1] at e
  rw [e]
  by_cases h1 : (t + 1) % 64 = 0
  · rw [if_pos h1, if_neg (by omega), show (t + 1) / 64 % 64 = (t + 1) % 4096 / 64 by omega]
  · rw [if_neg h1, if_pos (by omega)]
section TM
variable (N : Nat) (K : xSt) (m g : Nat → Int32) (sh pf pn pl : Int32) (J : Nat → Int32)
theorem m_pass_loop : ∀ (j : Nat) (n : Nat) (k : Nat) (Z : xSt) (t : Nat), Tm Z t → j ≤ k → k < 64 → j < n → t + j < 2 ^ 30 →
    f_M_pass_2 N n (nI k) (nI (k - j)) (eM Z K m g pf pn pl J sh) = some (0, eM (zP Z (nI j)) K m g pf pn pl J sh) := by
  intro j
  induction j with
  | zero =>
    intro n k Z t hZ hj hk hn hb
    obtain ⟨n, rfl⟩ : ∃ q, n = q + 1 := ⟨n - 1, by omega⟩
    rw [f_M_pass_2, if_neg (nI_nlt (by omega) (by omega)), nI_0, zP_0]
  | succ j ih =>
    intro n k Z t hZ hj hk hn hb
    obtain ⟨n, rfl⟩ : ∃ q, n = q + 1 := ⟨n - 1, by omega⟩
    have h64 : (64 : Int32) = nI 64 := rfl
    have h4096 : (4096 : Int32) = nI 4096 := rfl
    have e : ∀ S : xSt, f_M_pass_47 N (f_M_pass_2 N n) (nI k) (nI (k - (j + 1))) S = f_M_pass_2 N n (nI k) (nI (k - j)) S := by
      intro S
      unfold f_M_pass_47
      rw [nI_1, show k - (j + 1) + 1 = k - j by omega]
    have hz1 := zP_step hZ (by omega)
    have hT1 : Tm (zP Z 1) (t + 1) := zP_t hZ (k := 1) (by decide) (by omega)
    have hadd := zP_add hZ (j := 1) (k := j) (by omega) (by omega)
    rw [f_M_pass_2, if_pos (nI_lt (by omega) (by omega))]
    simp only [xPu_eq, eM_now, uM_now, xU_at, pk_us, eM_bd, e]
    rw [hZ.1, nI_1, h64, h4096, pk_rem (by have := hZ.2; omega) (by decide) (by decide), pk_rem (by have := hZ.2; omega) (by decide) (by decide), pk_div (by omega) (by decide) (by decide), x_wr _ _ _ _ (by omega) (by decide), uM_st, pk_un (by decide)]
    have hfin := ih n k (zP Z 1) (t + 1) hT1 (by omega) hk (by omega) (by omega)
    rw [show zP (zP Z 1) (nI j) = zP Z (nI (j + 1)) by rw [show (1 : Int32) = nI 1 from rfl, hadd, Nat.add_comm]] at hfin
    rw [← hfin, hz1]
    by_cases h1 : (t + 1) % 64 = 0
    · rw [if_pos h1, if_pos (by rw [h1]; rfl), eM_bd]
    · rw [if_neg h1, if_neg (fun q => h1 ((nI_eq (b := 0) (by omega) (by decide)).mp (q.trans nI_0.symm)))]
theorem m_pass {Z : xSt} {t : Nat} (hZ : Tm Z t) {k : Nat} (hk : k < 64) (hN : 64 ≤ N) (hb : t + k < 2 ^ 30) : f_M_pass N (nI k) (eM Z K m g pf pn pl J sh) = some (0, eM (zP Z (nI k)) K m g pf pn pl J sh) := by
  unfold f_M_pass
  have := m_pass_loop N K m g sh pf pn pl J k N k Z t hZ (Nat.le_refl _) hk (by omega) hb
  rw [Nat.sub_self, nI_0] at this
  exact this
/-- the delay, as a number -/
theorem zD_n {Z : xSt} {t : Nat} (hZ : Tm Z t) (s : Int32) : ∃ d : Nat, d ≤ 6 ∧ zD Z s = nI d := by
  obtain ⟨j, hj, e⟩ := pk_andE (Z 1 4) (m := 7) 3 (by decide)
  unfold zD
  rw [e]
  repeat' split
  all_goals first | exact ⟨0, by decide, rfl⟩ | skip
  rename_i h
  have h6 : (6 : Int32) = nI 6 := rfl
  rw [h6, nI_ltI (by omega) (by decide)] at h
  exact ⟨6 - j, by omega, by rw [h6, pk_sub (by omega)]⟩
theorem m_slow {Z : xSt} {t : Nat} (hZ : Tm Z t) (hN : 64 ≤ N) (hb : t + 6 < 2 ^ 30) : f_M_slow N (eM Z K m g pf pn pl J sh) = some (0, eM (zP Z (zD Z 1)) K m g pf pn pl J sh) := by
  obtain ⟨hnow, ht⟩ := hZ
  have h64 : (64 : Int32) = nI 64 := rfl
  have h4096 : (4096 : Int32) = nI 4096 := rfl
  unfold f_M_slow f_M_slow_58
  simp only [xV_eq, eM_now]
  have hD : zD Z 1 = if nI (t / 64 % 64) < 16 then 0 else if 47 < nI (t / 64 % 64) then 0 else if nI (t % 64) < 32 then (if nI (t % 8) < 6 then 6 - nI (t % 8) else 0) else 0 := by
    unfold zD
    rw [if_neg (by decide), hnow, nsh6 (by omega), pk_andN (by omega) (m := 63) 6 (by decide), pk_andN (by omega) (m := 63) 6 (by decide), pk_andN (by omega) (m := 7) 3 (by decide)]
  rw [hnow, h64, h4096, pk_rem (by omega) (by decide) (by decide), pk_rem (by omega) (by decide) (by decide), pk_div (by omega) (by decide) (by decide), pk_andN (by omega) (m := 7) 3 (by decide), hD,
    show t % 4096 / 64 = t / 64 % 64 by omega, show t % 64 % 2 ^ 3 = t % 8 by omega]
  have c16 : (16 : Int32) = nI 16 := rfl
  have c47 : (47 : Int32) = nI 47 := rfl
  have c48 : (48 : Int32) = nI 48 := rfl
  have c32 : (32 : Int32) = nI 32 := rfl
  have c6 : (6 : Int32) = nI 6 := rfl
  simp only [c16, c47, c48, c32, c6]
  have hl : t / 64 % 64 < 64 := Nat.mod_lt _ (by decide)
  have hm : t % 64 < 64 := Nat.mod_lt _ (by decide)
  have ho : t % 8 < 8 := Nat.mod_lt _ (by decide)
  by_cases h1 : t / 64 % 64 < 16
  · have q1 : nI (t / 64 % 64) < nI 16 := nI_lt h1 (by decide)
    rw [if_pos q1, if_pos q1, zP_0]
  · have q1 : ¬ nI (t / 64 % 64) < nI 16 := nI_nlt (by omega) (by omega)
    rw [if_neg q1, if_neg q1]
    by_cases h2 : t / 64 % 64 < 48
    · have q2 : nI (t / 64 % 64) < nI 48 := nI_lt h2 (by decide)
      have q3 : ¬ nI 47 < nI (t / 64 % 64) := nI_nlt (by omega) (by omega)
      rw [if_pos q2, if_neg q3]
      by_cases h3 : t % 64 < 32
      · have q4 : nI (t % 64) < nI 32 := nI_lt h3 (by decide)
        rw [if_pos q4, if_pos q4]
        by_cases h4 : t % 8 < 6
        · have q5 : nI (t % 8) < nI 6 := nI_lt h4 (by decide)
          rw [if_pos q5, if_pos q5, pk_sub (by omega), m_pass N K m g sh pf pn pl J ⟨hnow, ht⟩ (by omega) hN (by omega)]
          rfl
        · have q5 : ¬ nI (t % 8) < nI 6 := nI_nlt (by omega) (by omega)
          rw [if_neg q5, if_neg q5, zP_0]
      · have q4 : ¬ nI (t % 64) < nI 32 := nI_nlt (by omega) (by omega)
        rw [if_neg q4, if_neg q4, zP_0]
    · have q2 : ¬ nI (t / 64 % 64) < nI 48 := nI_nlt (by omega) (by omega)
      have q3 : nI 47 < nI (t / 64 % 64) := nI_lt (by omega) (by omega)
      rw [if_neg q2, if_pos q3, zP_0]
theorem sh_iff (a : Int32) : (a &&& 3072 = 1024) ↔ (¬ (a &&& 4095) < 1024 ∧ (a &&& 4095) < 2048) := by
  have key0 : ∀ x, x < 64 → ∀ y, y < 64 → ((nI (64 * x + y) &&& 3072 = 1024) ↔ (¬ nI (64 * x + y) < 1024 ∧ nI (64 * x + y) < 2048)) := by decide +kernel
  have key : ∀ j, j < 4096 → ((nI j &&& 3072 = 1024) ↔ (¬ nI j < 1024 ∧ nI j < 2048)) := fun j hj => by
    have := key0 (j / 64) (by omega) (j % 64) (by omega)
    rwa [show 64 * (j / 64) + j % 64 = j by omega] at this
  obtain ⟨j, hj, e⟩ := pk_andE a (m := 4095) 12 (by decide)
  have e2 : a &&& 3072 = (a &&& 4095) &&& 3072 := by
    rw [Int32.and_assoc]; rfl
  rw [e2, e]
  exact key j hj
theorem m_reach {Z : xSt} {t : Nat} (hZ : Tm Z t) (hN : 64 ≤ N) (a : Int32) {k : Nat} (hk : k < 10) (hb : t + 16 < 2 ^ 30) : f_M_reach N a (nI k) (eM Z K m g pf pn pl J sh) = some (0, eM (zA Z a (nI k)) K m g pf pn pl J sh) := by
  unfold f_M_reach f_M_reach_24 zA zS
  simp only [xV_eq]
  have hs := sh_iff a
  obtain ⟨d, hd, ed⟩ := zD_n hZ 1
  have h0 : zD Z 0 = 0 := by unfold zD; rw [if_pos rfl]
  by_cases h1 : (a &&& 4095) < 1024
  · rw [if_pos h1, if_neg (fun q => (hs.mp q).1 h1), h0, Int32.zero_add, m_pass N K m g sh pf pn pl J hZ (by omega) hN (by omega)]
    rfl
  · rw [if_neg h1]
    by_cases h2 : (a &&& 4095) < 2048
    · rw [if_pos h2, if_pos (hs.mpr ⟨h1, h2⟩), m_slow N K m g sh pf pn pl J hZ hN (by omega), xB_some, ed,
        m_pass N K m g sh pf pn pl J (zP_t hZ (by omega) (by omega)) (by omega) hN (by omega), xB_some, zP_add hZ (by omega) (by omega), nI_add]
    · rw [if_neg h2, if_neg (fun q => h2 (hs.mp q).2), h0, Int32.zero_add, m_pass N K m g sh pf pn pl J hZ (by omega) hN (by omega)]
      rfl
theorem m_read {Z : xSt} {t : Nat} (hZ : Tm Z t) (hN : 64 ≤ N) (a : Int32) (hb : t + 16 < 2 ^ 30) : f_M_read N a (eM Z K m g pf pn pl J sh) = some (m (ix a), eM (zA Z a 3) K m g pf pn pl J sh) := by
  unfold f_M_read
  rw [show (3 : Int32) = nI 3 from rfl, m_reach N K m g sh pf pn pl J hZ hN a (by decide) hb]
  simp only [xB_some, x_rdm, eM_m]
theorem m_write {Z : xSt} {t : Nat} (hZ : Tm Z t) (hN : 64 ≤ N) (a v : Int32) (hb : t + 16 < 2 ^ 30) : f_M_write N a v (eM Z K m g pf pn pl J sh) = some (0, eM (zA Z a 3) K (mW m a v) g pf pn pl J sh) := by
  unfold f_M_write f_M_write_32 mW
  rw [show (3 : Int32) = nI 3 from rfl, m_reach N K m g sh pf pn pl J hZ hN a (by decide) hb]
  simp only [xB_some, x_wrm, uM_m]
  split <;> rfl
end TM
theorem zA_t {Z : xSt} {t : Nat} (hZ : Tm Z t) (a : Int32) {k : Nat} (hk : k < 10) (hb : t + 16 < 2 ^ 30) : ∃ t', t ≤ t' ∧ t' ≤ t + 16 ∧ Tm (zA Z a (nI k)) t' := by
  obtain ⟨d, hd, ed⟩ := zD_n hZ (zS a)
  unfold zA
  rw [ed, nI_add]
  exact ⟨t + (d + k), by omega, by omega, zP_t hZ (by omega) (by omega)⟩
