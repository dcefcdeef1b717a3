/-! the tape, the keys, the ports -/
def psum (pu : Nat → Nat) : Nat → Nat
  | 0 => 0
  | i + 1 => psum pu i + pu i
theorem psum_le {pu : Nat → Nat} {c : Nat} (h : ∀ i, i < c → pu i ≤ 10000) : ∀ i, i ≤ c → psum pu i ≤ 10000 * i := by
  intro i
  induction i with
  | zero => intro _; exact Nat.le_refl _
  | succ i ih =>
    intro hi
    have := ih (by omega)
    have := h i (by omega)
    simp only [psum]
    omega
def nv (pu : Nat → Nat) (x : Nat) : Nat → Nat → Nat
  | 0, i => i
  | j + 1, i => if psum pu (i + 1) ≤ x then nv pu x j (i + 1) else i
theorem nv_le (pu : Nat → Nat) (x : Nat) : ∀ j i, i ≤ nv pu x j i ∧ nv pu x j i ≤ i + j := by
  intro j
  induction j with
  | zero => intro i; exact ⟨Nat.le_refl _, Nat.le_refl _⟩
  | succ j ih =>
    intro i
    rw [nv]
    split
    · have := ih (i + 1); omega
    · omega
theorem nv_ok (pu : Nat → Nat) (x : Nat) : ∀ j i k, i ≤ k → k < nv pu x j i → psum pu (k + 1) ≤ x := by
  intro j
  induction j with
  | zero => intro i k h1 h2; rw [nv] at h2; omega
  | succ j ih =>
    intro i k h1 h2
    rw [nv] at h2
    split at h2
    · next h =>
      by_cases e : k = i
      · subst e; exact h
      · exact ih (i + 1) k (by omega) h2
    · omega
theorem nv_skip (pu : Nat → Nat) (x : Nat) : ∀ o j, (∀ i, i < o → psum pu (i + 1) ≤ x) → nv pu x (o + j) 0 = nv pu x j o := by
  intro o
  induction o with
  | zero => intro j _; rw [Nat.zero_add]
  | succ o ih =>
    intro j h
    rw [show o + 1 + j = o + (j + 1) by omega, ih (j + 1) (fun i hi => h i (by omega)), nv, if_pos (h o (by omega))]
/-- tape and keys of the two sides, at the tick t -/
def RT (T4 T8 T9 : Nat → Int32) (K : xSt) (t : Nat) : Prop := ∃ (c ov bg : Nat) (pu kd : Nat → Nat) (pl : Bool),
  c ≤ 40 ∧ ov ≤ c ∧ T4 1 = nI c ∧ K 0 16 = nI c ∧ T4 3 = nI ov ∧ K 0 20 = nI ov ∧ T4 4 = b2 pl ∧ K 0 18 = b2 pl ∧
  (∀ i, i < c → K 5 i = nI (pu i) ∧ pu i ≤ 10000 ∧ T9 i = nI (psum pu (i + 1))) ∧
  (pl = true → T4 2 = nI bg ∧ K 0 19 = nI bg ∧ bg ≤ t ∧ ∀ i, i < ov → psum pu (i + 1) + bg ≤ t) ∧
  ∀ r, r < 8 → T8 r = nI (kd r) ∧ kd r < 32 ∧ ∀ k, k < 5 → K 3 (5 * r + k) = b2 ((kd r).testBit k)
theorem RT.mono {T4 T8 T9 : Nat → Int32} {K : xSt} {t t' : Nat} (h : RT T4 T8 T9 K t) (ht : t ≤ t') : RT T4 T8 T9 K t' := by
  obtain ⟨c, ov, bg, pu, kd, pl, h1, h2, h3, h4, h5, h6, h7, h8, h9, h10, h11⟩ := h
  refine ⟨c, ov, bg, pu, kd, pl, h1, h2, h3, h4, h5, h6, h7, h8, h9, fun hp => ?_, h11⟩
  obtain ⟨a1, a2, a3, a4⟩ := h10 hp
  exact ⟨a1, a2, by omega, fun i hi => by have := a4 i hi; omega⟩
def Inv (Z K : xSt) (m g : Nat → Int32) (t : Nat) : Prop := Tm Z t ∧ Bm m ∧ Gd g ∧ RT (Z 4) (Z 8) (Z 9) K t
/-- time goes on: what an access leaves -/
theorem Inv.pp {Z K : xSt} {m g : Nat → Int32} {t : Nat} (h : Inv Z K m g t) {k : Nat} (hk : k < 64) (hb : t + k < 2 ^ 30) : Inv (zP Z (nI k)) K m g (t + k) := by
  obtain ⟨h1, h2, h3, h4⟩ := h
  refine ⟨zP_t h1 hk hb, h2, h3, ?_⟩
  rw [zP_q _ (by decide) (by decide), zP_q _ (by decide) (by decide), zP_q _ (by decide) (by decide)]
  exact h4.mono (by omega)
theorem Inv.aa {Z K : xSt} {m g : Nat → Int32} {t : Nat} (h : Inv Z K m g t) (a : Int32) {k : Nat} (hk : k < 10) (hb : t + 16 < 2 ^ 30) : ∃ t', t ≤ t' ∧ t' ≤ t + 16 ∧ Inv (zA Z a (nI k)) K m g t' := by
  obtain ⟨d, hd, ed⟩ := zD_n h.1 (zS a)
  unfold zA
  rw [ed, nI_add]
  exact ⟨t + (d + k), by omega, by omega, h.pp (by omega) (by omega)⟩
theorem Inv.a3 {Z K : xSt} {m g : Nat → Int32} {t : Nat} (h : Inv Z K m g t) (a : Int32) (hb : t + 16 < 2 ^ 30) : ∃ t', t ≤ t' ∧ t' ≤ t + 16 ∧ Inv (zA Z a 3) K m g t' := h.aa a (k := 3) (by decide) hb
theorem Inv.a4 {Z K : xSt} {m g : Nat → Int32} {t : Nat} (h : Inv Z K m g t) (a : Int32) (hb : t + 16 < 2 ^ 30) : ∃ t', t ≤ t' ∧ t' ≤ t + 16 ∧ Inv (zA Z a 4) K m g t' := h.aa a (k := 4) (by decide) hb
theorem Inv.mem {Z K : xSt} {m m' g : Nat → Int32} {t : Nat} (h : Inv Z K m g t) (hm : Bm m') : Inv Z K m' g t := ⟨h.1, hm, h.2.2.1, h.2.2.2⟩
theorem Inv.reg {Z K : xSt} {m g g' : Nat → Int32} {t : Nat} (h : Inv Z K m g t) (hg : Gd g') : Inv Z K m g' t := ⟨h.1, h.2.1, hg, h.2.2.2⟩
theorem eM_cong {Z Z' : xSt} (h1 : Z' 1 = Z 1) (h7 : Z' 7 = Z 7) (K : xSt) (m g : Nat → Int32) (pf pn pl : Int32) (J : Nat → Int32) (sh : Int32) : eM Z' K m g pf pn pl J sh = eM Z K m g pf pn pl J sh := by
  unfold eM
  rw [h1, h7]
section FO
variable (N : Nat) (Z K : xSt) (m g : Nat → Int32) (B pm sh pf pn pl : Int32) (J : Nat → Int32)
theorem c_follow_loop {c bg t : Nat} {pu : Nat → Nat} (hc : c ≤ 40) (h1 : Z 4 1 = nI c) (h2 : Z 4 2 = nI bg) (hbt : bg ≤ t) (ht : t < 2 ^ 30) (hp : ∀ i, i < c → pu i ≤ 10000 ∧ Z 9 i = nI (psum pu (i + 1))) :
    ∀ j i n, i + j = c → j < n → f_T_follow_8 N n (nI t) (eC (xU Z 4 3 (nI i)) m g B pm sh) = some (0, eC (xU (xU Z 4 3 (nI (nv pu (t - bg) j i))) 4 4 (b2 (decide (nv pu (t - bg) j i < c)))) m g B pm sh) := by
  have e50 : ∀ i, i ≤ c → f_T_follow_50 N (eC (xU Z 4 3 (nI i)) m g B pm sh) = some (0, eC (xU (xU Z 4 3 (nI i)) 4 4 (b2 (decide (i < c)))) m g B pm sh) := by
    intro i hi
    unfold f_T_follow_50 f_T_follow_67
    rw [eC_4, xU_at, pk_us, pk_un (by decide), h1]
    by_cases h : i < c
    · rw [if_pos (nI_lt h (by omega)), decide_eq_true h, xBo_1, xPu_eq, uC_4]; rfl
    · rw [if_neg (nI_nlt (by omega) (by omega)), decide_eq_false h, xBo_0, xPu_eq, uC_4]; rfl
  intro j
  induction j with
  | zero =>
    intro i n hij hn
    obtain ⟨n, rfl⟩ : ∃ q, n = q + 1 := ⟨n - 1, by omega⟩
    have hic : i = c := by omega
    subst hic
    rw [f_T_follow_8, eC_4, xU_at, pk_us, pk_un (by decide), h1, if_neg (nI_nlt (Nat.le_refl _) (by omega)), e50 i (Nat.le_refl _), nv]
  | succ j ih =>
    intro i n hij hn
    obtain ⟨n, rfl⟩ : ∃ q, n = q + 1 := ⟨n - 1, by omega⟩
    have hps := psum_le (fun i hi => (hp i hi).1) (i + 1) (by omega)
    rw [f_T_follow_8, eC_4, xU_at, pk_us, pk_un (by decide), pk_un (by decide), h1, if_pos (nI_lt (by omega) (by omega)), x_rd _ _ _ _ (by omega) (by decide), eC_9, xU_ne _ _ _ (by decide), (hp i (by omega)).2, h2, pk_sub hbt, nv]
    by_cases h : psum pu (i + 1) ≤ t - bg
    · rw [if_neg (nI_nlt h (by omega)), if_pos h, xPu_eq, uC_4, xU_xU, nI_1]
      exact ih (i + 1) n (by omega) (by omega)
    · rw [if_pos (nI_lt (by omega) (by omega)), if_neg h, e50 i (by omega)]
theorem m_over_loop {c bg t : Nat} {pu : Nat → Nat} (hc : c ≤ 40) (h1 : K 0 16 = nI c) (hbt : bg ≤ t) (ht : t < 2 ^ 30) (hp : ∀ i, i < c → pu i ≤ 10000 ∧ K 5 i = nI (pu i)) :
    ∀ j i n, i + j = c → j < n → f_M_over_7 N n (nI t) (nI i) (nI (bg + psum pu i)) (eM Z K m g pf pn pl J sh) = some (nI (nv pu (t - bg) j i), eM Z K m g pf pn pl J sh) := by
  intro j
  induction j with
  | zero =>
    intro i n hij hn
    obtain ⟨n, rfl⟩ : ∃ q, n = q + 1 := ⟨n - 1, by omega⟩
    have hic : i = c := by omega
    subst hic
    rw [f_M_over_7, eM_16, h1, if_neg (nI_nlt (Nat.le_refl _) (by omega)), nv]
    rfl
  | succ j ih =>
    intro i n hij hn
    obtain ⟨n, rfl⟩ : ∃ q, n = q + 1 := ⟨n - 1, by omega⟩
    have hps := psum_le (fun i hi => (hp i hi).1) (i + 1) (by omega)
    have hps1 : psum pu (i + 1) = psum pu i + pu i := rfl
    rw [f_M_over_7, eM_16, h1, if_pos (nI_lt (by omega) (by omega)), x_rd _ _ _ _ (by omega) (by decide), x_rd _ _ _ _ (by omega) (by decide), eM_5, (hp i (by omega)).2, xV_eq, nI_add, nI_1, nv]
    by_cases h : psum pu (i + 1) ≤ t - bg
    · rw [if_neg (nI_nlt (by omega) (by omega)), if_pos h, show bg + psum pu i + pu i = bg + psum pu (i + 1) by omega]
      exact ih (i + 1) n (by omega) (by omega)
    · rw [if_pos (nI_lt (by omega) (by omega)), if_neg h]
      rfl
/-- both sides look at the tape -/
theorem sim_follow (hN : 64 ≤ N) {t : Nat} (hI : Inv Z K m g t) : ∃ Z' K', Inv Z' K' m g t ∧ Z' 1 = Z 1 ∧ Z' 7 = Z 7 ∧ Z' 8 = Z 8 ∧ K' 3 = K 3 ∧ (∃ ov, ov ≤ 40 ∧ Z' 4 3 = nI ov ∧ K' 0 20 = nI ov) ∧ (Z' 4 4 = K' 0 18) ∧
    (∀ (m g : Nat → Int32) (B pm sh : Int32), f_T_follow N (Z 1 4) (eC Z m g B pm sh) = some (0, eC Z' m g B pm sh)) ∧
    (∀ (m g : Nat → Int32) (pf pn pl : Int32) (J : Nat → Int32) (sh : Int32), f_M_play N (eM Z K m g pf pn pl J sh) = some (0, eM Z' K' m g pf pn pl J sh)) := by
  obtain ⟨hT, hm, hg, c, ov, bg, pu, kd, pl, a1, a2, a3, a4, a5, a6, a7, a8, a9, a10, a11⟩ := hI
  cases pl
  · refine ⟨Z, K, ⟨hT, hm, hg, c, ov, bg, pu, kd, false, a1, a2, a3, a4, a5, a6, a7, a8, a9, a10, a11⟩, rfl, rfl, rfl, rfl, ⟨ov, by omega, a5, a6⟩, by rw [a7, a8], ?_, ?_⟩
    · intro m g B pm sh
      unfold f_T_follow
      rw [eC_4, a7, if_pos (by decide)]
    · intro m g pf pn pl J sh
      unfold f_M_play f_M_play_39
      rw [eM_18, a8, if_pos (by decide)]
  · obtain ⟨b1, b2', b3, b4⟩ := a10 rfl
    have hnv := nv_le pu (t - bg) (c - ov) ov
    have hok := nv_ok pu (t - bg) (c - ov) ov
    have hskip := nv_skip pu (t - bg) ov (c - ov) (fun i hi => by have := b4 i hi; omega)
    rw [show ov + (c - ov) = c by omega] at hskip
    generalize hr : nv pu (t - bg) (c - ov) ov = r at hnv hok hskip
    refine ⟨xU (xU Z 4 3 (nI r)) 4 4 (b2 (decide (r < c))), xU (xU K 0 20 (nI r)) 0 18 (b2 (decide (r < c))), ⟨⟨?_, hT.2⟩, hm, hg, c, r, bg, pu, kd, decide (r < c), a1, by omega, ?_, ?_, ?_, ?_, ?_, ?_, ?_, ?_, ?_⟩, ?_, ?_, ?_, ?_, ⟨r, by omega, ?_, ?_⟩, ?_, ?_, ?_⟩
    · rw [xU_ne _ _ _ (by decide), xU_ne _ _ _ (by decide)]; exact hT.1
    · rw [xU_at, pk_un (by decide), xU_at, pk_un (by decide)]; exact a3
    · rw [xU_at, pk_un (by decide), xU_at, pk_un (by decide)]; exact a4
    · rw [xU_at, pk_un (by decide), xU_at, pk_us]
    · rw [xU_at, pk_un (by decide), xU_at, pk_us]
    · rw [xU_at, pk_us]
    · rw [xU_at, pk_us]
    · intro i hi
      rw [xU_ne _ _ _ (by decide), xU_ne _ _ _ (by decide), xU_ne _ _ _ (by decide), xU_ne _ _ _ (by decide)]
      exact a9 i hi
    · intro _
      refine ⟨?_, ?_, b3, fun i hi => ?_⟩
      · rw [xU_at, pk_un (by decide), xU_at, pk_un (by decide)]; exact b1
      · rw [xU_at, pk_un (by decide), xU_at, pk_un (by decide)]; exact b2'
      · by_cases h : i < ov
        · exact b4 i h
        · have := hok i (by omega) hi; omega
    · intro r hr
      rw [xU_ne _ _ _ (by decide), xU_ne _ _ _ (by decide), xU_ne _ _ _ (by decide), xU_ne _ _ _ (by decide)]
      exact a11 r hr
    · rw [xU_ne _ _ _ (by decide), xU_ne _ _ _ (by decide)]
    · rw [xU_ne _ _ _ (by decide), xU_ne _ _ _ (by decide)]
    · rw [xU_ne _ _ _ (by decide), xU_ne _ _ _ (by decide)]
    · rw [xU_ne _ _ _ (by decide), xU_ne _ _ _ (by decide)]
    · rw [xU_at, pk_un (by decide), xU_at, pk_us]
    · rw [xU_at, pk_un (by decide), xU_at, pk_us]
    · rw [xU_at, pk_us, xU_at, pk_us]
    · intro m g B pm sh
      unfold f_T_follow
      rw [eC_4, a7, if_neg (by decide), hT.1]
      have := c_follow_loop N Z m g B pm sh (pu := pu) a1 a3 b1 b3 hT.2 (fun i hi => ⟨(a9 i hi).2.1, (a9 i hi).2.2⟩) (c - ov) ov N (by omega) (by omega)
      rw [← a5, xU_same, hr] at this
      exact this
    · intro m g pf pn pl J sh
      have := m_over_loop N Z K m g sh pf pn pl J (pu := pu) a1 a4 b3 hT.2 (fun i hi => ⟨(a9 i hi).2.1, (a9 i hi).1⟩) c 0 N (by omega) (by omega)
      rw [hskip, nI_0, show bg + psum pu 0 = bg from rfl] at this
      unfold f_M_play f_M_over f_M_play_36 f_M_play_39
      rw [eM_18, a8, if_neg (by decide), xV_eq, eM_19, b2', eM_now, hT.1, this, xB_some, xPu_eq, uM_20, eM_20, eM_16, xU_at, pk_us, pk_un (by decide), a4, eM_cong (Z' := xU (xU Z 4 3 (nI r)) 4 4 (b2 (decide (r < c)))) (Z := Z) (by rw [xU_ne _ _ _ (by decide), xU_ne _ _ _ (by decide)]) (by rw [xU_ne _ _ _ (by decide), xU_ne _ _ _ (by decide)])]
      by_cases h : r < c
      · rw [if_pos (nI_lt h (by omega)), decide_eq_true h, xBo_1, xPu_eq, uM_18]; rfl
      · rw [if_neg (nI_nlt (by omega) (by omega)), decide_eq_false h, xBo_0, xPu_eq, uM_18]; rfl
end FO
