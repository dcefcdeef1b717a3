/-! the law's loop -/
theorem Ans.up {t d d' : Nat} {x y : xR} (h : Ans t d x y) (hd : d ≤ d') : Ans t d' x y := by
  obtain ⟨v, Z, K, m, g, B, pm, sh, pf, pn, pl, J, t', h1, h2, h3, h4, h5⟩ := h
  exact ⟨v, Z, K, m, g, B, pm, sh, pf, pn, pl, J, t', h1, h2, h3, by omega, h5⟩
theorem y_rd {L : Nat} {xs : Nat → Int32} {i : Nat} (hi : i < L) (hL : L < 2 ^ 31) (k : Int32 → Option Int32) : yRd L xs (nI i) k = k (xs i) := by
  unfold yRd
  rw [nI_clamp (by omega), if_neg]
  rintro (h | h)
  · exact absurd h (nI_nlt (b := 0) (Nat.zero_le _) (by omega))
  · omega
theorem yB_some (v : Int32) (S : xSt) (k : Int32 → xSt → Option Int32) : yB (some (v, S)) k = k v S := rfl
theorem law_loop {L : Nat} (hL : L ≤ 2048) (xs : Nat → Int32) : ∀ (n k : Nat) (Z K : xSt) (m g : Nat → Int32) (B pm sh pf pn pl : Int32) (J : Nat → Int32) (t : Nat), (4 * k ≤ L + 3 ∧ L + 4 ≤ 4 * k + 4 * n) → Inv Z K m g t → t ≤ 440000 * k → f_L_18 2000 L xs n (nI (4 * k)) (eC Z m g B pm sh) (eM Z K m g pf pn pl J sh) = some 1 := by
  intro n
  induction n with
  | zero =>
    intro k Z K m g B pm sh pf pn pl J t hk hI ht
    omega
  | succ n ih =>
    intro k Z K m g B pm sh pf pn pl J t hk hI ht
    rw [f_L_18]
    by_cases hlt : L < 4 * k + 4
    · rw [if_pos]
      rw [Int32.lt_iff_toInt_lt, show Int32.ofNat L - (4 : Int32) = nI L - nI 4 from rfl, pk_sub_toInt (by omega) (by decide), nI_toInt (by omega)]
      omega
    rw [if_neg]
    case hnc =>
      rw [Int32.lt_iff_toInt_lt, show Int32.ofNat L - (4 : Int32) = nI L - nI 4 from rfl, pk_sub_toInt (by omega) (by decide), nI_toInt (by omega)]
      omega
    have r0 : ∀ q : Int32 → Option Int32, yRd L xs (nI (4 * k)) q = q (xs (4 * k)) := y_rd (by omega) (by omega)
    have r1 : ∀ q : Int32 → Option Int32, yRd L xs (nI (4 * k) + 1) q = q (xs (4 * k + 1)) := fun q => by rw [nI_1]; exact y_rd (by omega) (by omega) q
    have r2 : ∀ q : Int32 → Option Int32, yRd L xs (nI (4 * k) + 2) q = q (xs (4 * k + 2)) := fun q => by rw [show nI (4 * k) + 2 = nI (4 * k + 2) from nI_add _ 2]; exact y_rd (by omega) (by omega) q
    have r3 : ∀ q : Int32 → Option Int32, yRd L xs (nI (4 * k) + 3) q = q (xs (4 * k + 3)) := fun q => by rw [show nI (4 * k) + 3 = nI (4 * k + 3) from nI_add _ 3]; exact y_rd (by omega) (by omega) q
    have next : ∀ (Z K : xSt) (m g : Nat → Int32) (B pm sh pf pn pl : Int32) (J : Nat → Int32) (t' : Nat), t' ≤ t + 440000 → Inv Z K m g t' → f_L_436 2000 L xs (f_L_18 2000 L xs n) (nI (4 * k)) (eC Z m g B pm sh) (eM Z K m g pf pn pl J sh) = some 1 := by
      intro Z K m g B pm sh pf pn pl J t' ht' hI'
      unfold f_L_436
      rw [show nI (4 * k) + 4 = nI (4 * (k + 1)) from nI_add _ 4]
      exact ih (k + 1) Z K m g B pm sh pf pn pl J t' (by omega) hI' (by omega)
    have fin : ∀ x y : xR, Ans t 440000 x y → yB x (fun v S => yB y fun w T => if v = w then f_L_436 2000 L xs (f_L_18 2000 L xs n) (nI (4 * k)) S T else some 0) = some 1 := by
      intro x y h
      obtain ⟨v, Z, K, m, g, B, pm, sh, pf, pn, pl, J, t', h1, h2, h3, h4, h5⟩ := h
      rw [h1, yB_some, h2, yB_some, if_pos rfl]
      exact next Z K m g B pm sh pf pn pl J t' h4 h5
    have fin0 : ∀ x y : xR, Ans t 440000 x y → yB x (fun _ S => yB y fun _ T => f_L_436 2000 L xs (f_L_18 2000 L xs n) (nI (4 * k)) S T) = some 1 := by
      intro x y h
      obtain ⟨v, Z, K, m, g, B, pm, sh, pf, pn, pl, J, t', h1, h2, h3, h4, h5⟩ := h
      rw [h1, yB_some, h2, yB_some]
      exact next Z K m g B pm sh pf pn pl J t' h4 h5
    have hb : t + 440000 < 2 ^ 30 := by omega
    rw [r0]
    generalize (xs (4 * k) &&& 15) = o
    by_cases o0 : o = 0
    · rw [if_pos o0]
      simp only [r1, r2, r3]
      exact fin0 _ _ ((a_poke 2000 Z K m g B pm sh pf pn pl J hI _ _).up (by decide))
    rw [if_neg o0]
    by_cases o1 : o = 1
    · rw [if_pos o1]
      simp only [r1, r2, r3]
      exact fin _ _ ((a_load 2000 Z K m g B pm sh pf pn pl J (by decide) hI _ _ _).up (by decide))
    rw [if_neg o1]
    by_cases o2 : o = 2
    · rw [if_pos o2]
      simp only [r1, r2, r3]
      exact fin _ _ ((a_peek 2000 Z K m g B pm sh pf pn pl J hI _).up (by decide))
    rw [if_neg o2]
    by_cases o3 : o = 3
    · rw [if_pos o3]
      simp only [r1, r2, r3]
      exact fin _ _ ((a_set 2000 Z K m g B pm sh pf pn pl J hI _ _).up (by decide))
    rw [if_neg o3]
    by_cases o4 : o = 4
    · rw [if_pos o4]
      simp only [r1, r2, r3]
      exact fin _ _ ((a_register 2000 Z K m g B pm sh pf pn pl J hI _).up (by decide))
    rw [if_neg o4]
    by_cases o5 : o = 5
    · rw [if_pos o5]
      unfold f_L_273 f_L_300
      simp only [r1, r2, r3]
      by_cases w : xs (4 * k + 3) = 0
      · simp only [if_pos w]
        exact fin _ _ ((a_key 2000 Z K m g B pm sh pf pn pl J hI _ _ false).up (by decide))
      · simp only [if_neg w]
        exact fin _ _ ((a_key 2000 Z K m g B pm sh pf pn pl J hI _ _ true).up (by decide))
    rw [if_neg o5]
    by_cases o6 : o = 6
    · rw [if_pos o6]
      simp only [r1, r2, r3]
      exact fin _ _ ((a_pulse 2000 Z K m g B pm sh pf pn pl J (by decide) hI _).up (by decide))
    rw [if_neg o6]
    by_cases o7 : o = 7
    · rw [if_pos o7]
      simp only [r1, r2, r3]
      exact fin _ _ ((a_tape 2000 Z K m g B pm sh pf pn pl J (by decide) hI _).up (by decide))
    rw [if_neg o7]
    by_cases o8 : o = 8
    · rw [if_pos o8]
      simp only [r1, r2, r3]
      exact fin _ _ ((a_step 2000 Z K m g B pm sh pf pn pl J (by decide) hI (by omega) _).up (by decide))
    rw [if_neg o8]
    by_cases o9 : o = 9
    · rw [if_pos o9]
      exact fin _ _ (a_frame 2000 Z K m g B pm sh pf pn pl J (by decide) hI hb)
    rw [if_neg o9]
    by_cases o10 : o = 10
    · rw [if_pos o10]
      simp only [r1, r2, r3]
      exact fin _ _ ((a_look 2000 Z K m g B pm sh pf pn pl J (by decide) hI _).up (by decide))
    rw [if_neg o10]
    by_cases o11 : o = 11
    · rw [if_pos o11]
      simp only [r1, r2, r3]
      exact fin _ _ ((a_stripe 2000 Z K m g B pm sh pf pn pl J hI _).up (by decide))
    rw [if_neg o11]
    exact next Z K m g B pm sh pf pn pl J t (by omega) hI
theorem e0C : s0C = eC (fun _ _ => 0) (fun _ => 0) (fun _ => 0) 6 0 0 := by
  funext q i
  unfold s0C eC
  by_cases h5 : q = 5
  · subst h5; by_cases h1 : i = 1 <;> simp [h1]
  · simp [h5]
theorem e0M : s0M = eM (fun _ _ => 0) (fun _ _ => 0) (fun _ => 0) (fun _ => 0) 0 0 0 (fun _ => 0) 0 := by
  funext q i
  unfold s0M eM
  simp
theorem inv0 : Inv (fun _ _ => 0) (fun _ _ => 0) (fun _ => 0) (fun _ => 0) 0 := by
  refine ⟨⟨rfl, by decide⟩, fun _ => by_c 0 (by decide), ⟨fun _ _ => by_c 0 (by decide), fun _ _ _ => ⟨0, by decide, rfl⟩, fun _ _ _ => Or.inl rfl, Or.inl rfl, Or.inl rfl⟩, ?_⟩
  refine ⟨0, 0, 0, fun _ => 0, fun _ => 0, false, by decide, by decide, rfl, rfl, rfl, rfl, rfl, rfl, fun i hi => absurd hi (Nat.not_lt_zero _), fun h => (by cases h), fun r _ => ⟨rfl, Nat.succ_pos 31, fun k _ => ?_⟩⟩
  rw [Nat.zero_testBit]; rfl
theorem pure_all : ∀ L : Nat, L ≤ 2048 → ∀ xs : Nat → Int32, ∃ N n : Nat, f_L_18 N L xs n 0 s0C s0M = some 1 := by
  intro L hL xs
  refine ⟨2000, 513, ?_⟩
  rw [e0C, e0M]
  exact law_loop hL xs 513 0 _ _ _ _ _ _ _ _ _ _ _ 0 (by omega) inv0 (by omega)
