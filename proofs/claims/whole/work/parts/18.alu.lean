/-! parity, turns, adjusting, and the eight operations on A -/
theorem by_all {P : Int32 → Prop} (h : ∀ n, n < 256 → P (nI n)) {x : Int32} (hx : By x) : P x := by
  obtain ⟨n, hn, rfl⟩ := hx
  exact h n hn
def bcv (a0 : Int32) : Int32 :=
  let b1 := a0 - ((xUs a0 1) &&& 1431655765)
  let b2 := (b1 &&& 858993459) + ((xUs b1 2) &&& 858993459)
  let b3 := (b2 + (xUs b2 4)) &&& 252645135
  let b4 := b3 + (xUs b3 8)
  let b5 := b4 + (xUs b4 16)
  b5 &&& 63
def par (v : Int32) : Int32 := if (bcv v &&& 1) = 0 then 4 else 0
def onv (v : Int32) : Int32 := 0 + ((v >>> ((0 : Int32) &&& 31)) &&& 1) + ((v >>> ((1 : Int32) &&& 31)) &&& 1) + ((v >>> ((2 : Int32) &&& 31)) &&& 1) + ((v >>> ((3 : Int32) &&& 31)) &&& 1) + ((v >>> ((4 : Int32) &&& 31)) &&& 1) + ((v >>> ((5 : Int32) &&& 31)) &&& 1) + ((v >>> ((6 : Int32) &&& 31)) &&& 1) + ((v >>> ((7 : Int32) &&& 31)) &&& 1)
theorem par_on : ∀ n, n < 256 → ((onv (nI n) - onv (nI n) / 2 * 2 = 0) ↔ (bcv (nI n) &&& 1) = 0) := by decide +kernel
section PA
variable (N : Nat) (S : xSt)
theorem c_byP (v : Int32) : f_A_byWithParity N v S = some (byv v ||| par v, S) := by
  unfold f_A_byWithParity f_A_byWithParity_18 par
  rw [c_by, xB_some, show f_I_bitCount N v S = some (bcv v, S) from rfl, xB_some]
  split <;> rfl
theorem m_parity (hN : 64 ≤ N) {v : Int32} (hv : By v) : f_M_parity N v S = some (par v, S) := by
  obtain ⟨n, rfl⟩ : ∃ n, N = n + 9 := ⟨N - 9, by omega⟩
  have e : f_M_parity (n + 9) v S = if (onv v - onv v / 2 * 2) = 0 then some (4, S) else some (0, S) := by
    unfold f_M_parity f_M_parity_4 f_M_parity_4 f_M_parity_4 f_M_parity_4 f_M_parity_4 f_M_parity_4 f_M_parity_4 f_M_parity_4 f_M_parity_4
    rfl
  rw [e]
  have := by_all (P := fun v => (onv v - onv v / 2 * 2 = 0) ↔ (bcv v &&& 1) = 0) par_on hv
  unfold par
  by_cases h : (bcv v &&& 1) = 0
  · rw [if_pos (this.mpr h), if_pos h]
  · rw [if_neg (fun q => h (this.mp q)), if_neg h]
end PA
theorem par_by (v : Int32) : By (par v) := by
  unfold par
  split
  · exact by_c 4 (by decide)
  · exact by_c 0 (by decide)
def tOut (j : Nat) (v : Int32) : Int32 := if j % 2 = 1 then v &&& 1 else v >>> ((7 : Int32) &&& 31)
def tIn (j : Nat) (v c : Int32) : Int32 := if j = 0 ∨ j = 1 then tOut j v else if j = 2 ∨ j = 3 then c else if j = 5 then v >>> ((7 : Int32) &&& 31) else if j = 6 then 1 else 0
def tRes (j : Nat) (v c : Int32) : Int32 := if j % 2 = 1 then (v >>> ((1 : Int32) &&& 31)) ||| (tIn j v c <<< ((7 : Int32) &&& 31)) else ((v <<< ((1 : Int32) &&& 31)) &&& 255) ||| tIn j v c
theorem tRes_k : ∀ c : Bool, ∀ j, j < 8 → ∀ n, n < 256 → tRes j (nI n) (b2 c) &&& 255 = tRes j (nI n) (b2 c) := by decide +kernel
theorem tOut_k : ∀ j, j < 2 → ∀ n, n < 256 → tOut j (nI n) = 0 ∨ tOut j (nI n) = 1 := by decide +kernel
theorem tOut_m (j : Nat) (v : Int32) : tOut j v = tOut (j % 2) v := by unfold tOut; rw [Nat.mod_mod]
theorem tOut_01 {j : Nat} {v : Int32} (hv : By v) : tOut j v = 0 ∨ tOut j v = 1 := by
  rw [tOut_m]
  obtain ⟨n, hn, rfl⟩ := hv
  exact tOut_k _ (Nat.mod_lt _ (by decide)) n hn
theorem b01_by {x : Int32} (h : x = 0 ∨ x = 1) : By x := by
  rcases h with rfl | rfl
  · exact by_c 0 (by decide)
  · exact by_c 1 (by decide)
theorem tRes_by {j : Nat} (hj : j < 8) {v : Int32} (hv : By v) (c : Bool) : By (tRes j v (b2 c)) := by
  obtain ⟨n, hn, rfl⟩ := hv
  rw [← tRes_k c j hj n hn]
  exact and8 _
theorem j8 {P : Nat → Prop} (h0 : P 0) (h1 : P 1) (h2 : P 2) (h3 : P 3) (h4 : P 4) (h5 : P 5) (h6 : P 6) (h7 : P 7) {j : Nat} (hj : j < 8) : P j := by
  rcases (show j = 0 ∨ j = 1 ∨ j = 2 ∨ j = 3 ∨ j = 4 ∨ j = 5 ∨ j = 6 ∨ j = 7 by omega) with rfl | rfl | rfl | rfl | rfl | rfl | rfl | rfl <;> assumption
theorem cb (x : Int32) : ∃ c : Bool, x &&& 1 = b2 c := by
  obtain ⟨k, hk, e⟩ := pk_andE x (m := 1) 1 (by decide)
  rcases (show k = 0 ∨ k = 1 by omega) with rfl | rfl
  · exact ⟨false, e⟩
  · exact ⟨true, e⟩
section TU
variable (N : Nat) (S : xSt)
theorem c_turned {j : Nat} (hj : j < 8) (v c : Int32) : f_A_turned N (nI j) v c S = some (pw (tRes j v c) ((byv (tRes j v c) ||| par (tRes j v c)) ||| tOut j v), S) := by
  have e : f_A_turned N (nI j) v c S = f_A_turned_65 N (tOut j v) (tRes j v c) S := j8 (P := fun j => f_A_turned N (nI j) v c S = f_A_turned_65 N (tOut j v) (tRes j v c) S) rfl rfl rfl rfl rfl rfl rfl rfl hj
  rw [e]
  unfold f_A_turned_65 pw
  rw [c_byP, xB_some, Int32.or_assoc]
variable (Z K : xSt) (m g : Nat → Int32) (sh pf pn pl : Int32) (J : Nat → Int32)
theorem m_turn {j : Nat} (hj : j < 8) (v : Int32) : f_M_turn N (nI j) v (eM Z K m g pf pn pl J sh) = some (tRes j v (g 1 &&& 1), eM Z K m g pf pn pl (upd J 10 (tOut j v)) sh) := by
  have e : ∀ w : Int32, xU (eM Z K m g pf pn pl J sh) 0 10 w = eM Z K m g pf pn pl (upd J 10 w) sh := fun w => uM_ou Z K m g sh pf pn pl J w
  refine j8 (P := fun j => f_M_turn N (nI j) v (eM Z K m g pf pn pl J sh) = some (tRes j v (g 1 &&& 1), eM Z K m g pf pn pl (upd J 10 (tOut j v)) sh)) ?_ ?_ ?_ ?_ ?_ ?_ ?_ ?_ hj <;>
    (rw [← e]; rfl)
end TU
/-! ## A alone -/
theorem t40 : ∀ o : Bool, ∀ n, n < 256 → ((byv (nI n) ||| par (nI n)) ||| b2 o) &&& ((196 : Int32) ^^^ (-1)) = (nI n &&& 40) ||| b2 o := by decide +kernel
theorem t255 : ∀ n, n < 256 → nI n ^^^ 255 = 255 - nI n := by decide +kernel
theorem t255b : ∀ n, n < 256 → (nI n ^^^ 255) &&& 255 = nI n ^^^ 255 := by decide +kernel
theorem or3 (a b c : Int32) : a ||| (b ||| c) = (a ||| b) ||| c := (Int32.or_assoc a b c).symm
section CA
variable (N : Nat) (Z K : xSt) (m g : Nat → Int32) (B pm sh pf pn pl : Int32) (J : Nat → Int32)
theorem sim_adjust (hN : 64 ≤ N) (hg : Gd g) : ∃ g', Gd g' ∧ (∃ w, f_A_adjusted N (g 0) (g 1) (eC Z m g B pm sh) = some (w, eC Z m g B pm sh) ∧ gSp g 0 w = g') ∧ f_M_adjust N (eM Z K m g pf pn pl J sh) = some (0, eM Z K m g' pf pn pl J sh) := by
  have h0 := hg.1 0 (by decide)
  have h1 := hg.1 1 (by decide)
  -- the common end
  have fin : ∀ (x : Int32) (k : Bool), ∃ g', Gd g' ∧ (∃ w, f_A_adjusted_64 N (g 0) (g 1) (b2 k) x (eC Z m g B pm sh) = some (w, eC Z m g B pm sh) ∧ gSp g 0 w = g') ∧ f_M_adjust_91 N (g 0) (g 1) (b2 k) 0 x (eM Z K m g pf pn pl J sh) = some (0, eM Z K m g' pf pn pl J sh) := by
    intro x k
    have hx := and8 x
    have hf : By ((((byv (x &&& 255) ||| par (x &&& 255)) ||| ((g 0 ^^^ (x &&& 255)) &&& 16)) ||| (g 1 &&& 2)) ||| b2 k) := ((((byv_by _).or (par_by _)).or (an_by _ (by_c 16 (by decide)))).or (an_by _ (by_c 2 (by decide)))).or (b01_by (by cases k <;> decide))
    refine ⟨upd (upd g 0 (x &&& 255)) 1 ((((byv (x &&& 255) ||| par (x &&& 255)) ||| ((g 0 ^^^ (x &&& 255)) &&& 16)) ||| (g 1 &&& 2)) ||| b2 k), (hg.u8 (by decide) hx).u8 (by decide) hf, ⟨_, ?_, gSp_pw g 0 hx hf⟩, ?_⟩
    · unfold f_A_adjusted_64 pw
      rw [xV_eq, c_byP, xB_some]
      simp only [Int32.or_assoc]
    · unfold f_M_adjust_91 f_M_adjust_146
      simp only [xw_0, uM_g, xr_0, eM_g, pk_us, m_by, xB_some, m_parity N _ hN hx, xw_1]
      cases k <;> rfl
  have h96 : ∀ (d : Int32) (k : Bool), ∃ g', Gd g' ∧ (∃ w, f_A_adjusted_41 N (g 0) (g 1) d (b2 k) (eC Z m g B pm sh) = some (w, eC Z m g B pm sh) ∧ gSp g 0 w = g') ∧ f_M_adjust_55 N (g 0) (g 1) d (b2 k) (eM Z K m g pf pn pl J sh) = some (0, eM Z K m g' pf pn pl J sh) := by
    intro d k
    unfold f_A_adjusted_41 f_M_adjust_55 f_M_adjust_70
    rw [xV_eq]
    have e : (d + 96 * b2 k) = if b2 k = 0 then d else d + 96 := by
      cases k
      · show d + 96 * 0 = d
        rw [Int32.mul_zero, Int32.add_zero]
      · rfl
    rw [e]
    by_cases h2 : (g 1 &&& 2) = 0
    · rw [if_pos h2]
      cases k
      · rw [if_pos (by decide), if_pos (by decide), if_pos h2]; exact fin _ false
      · rw [if_neg (by decide), if_neg (by decide), if_pos h2]; exact fin _ true
    · rw [if_neg h2]
      cases k
      · rw [if_pos (by decide), if_pos (by decide), if_neg h2]; exact fin _ false
      · rw [if_neg (by decide), if_neg (by decide), if_neg h2]; exact fin _ true
  have h36 : ∀ d : Int32, ∃ g', Gd g' ∧ (∃ w, f_A_adjusted_22 N (g 0) (g 1) d (eC Z m g B pm sh) = some (w, eC Z m g B pm sh) ∧ gSp g 0 w = g') ∧ f_M_adjust_36 N (g 0) (g 1) d (eM Z K m g pf pn pl J sh) = some (0, eM Z K m g' pf pn pl J sh) := by
    intro d
    unfold f_A_adjusted_22 f_A_adjusted_36 f_M_adjust_36 f_M_adjust_50
    by_cases hc : (g 1 &&& 1) = 0
    · rw [if_pos hc, if_pos hc]
      by_cases h9 : 153 < g 0
      · rw [if_pos h9, if_pos h9]; exact h96 d true
      · rw [if_neg h9, if_neg h9]; exact h96 d false
    · rw [if_neg hc, if_neg hc]; exact h96 d true
  unfold f_A_adjusted f_A_adjusted_16 f_M_adjust f_M_adjust_30
  simp only [xr_0, xr_1, eM_g]
  by_cases h4 : (g 1 &&& 16) = 0
  · rw [if_pos h4, if_pos h4]
    by_cases h9 : 9 < (g 0 &&& 15)
    · rw [if_pos h9, if_pos h9]; exact h36 6
    · rw [if_neg h9, if_neg h9]; exact h36 0
  · rw [if_neg h4, if_neg h4]; exact h36 6
theorem sim_changeA (hN : 64 ≤ N) (hg : Gd g) {j : Nat} (hj : j < 8) : ∃ g' J', Gd g' ∧ f_P_changeA N (nI j) (eC Z m g B pm sh) = some (0, eC Z m g' B pm sh) ∧ f_M_single N (nI j) (eM Z K m g pf pn pl J sh) = some (0, eM Z K m g' pf pn pl J' sh) := by
  have h0 := hg.1 0 (by decide)
  have h1 := hg.1 1 (by decide)
  have f1 : ∀ w : Int32, By w → By ((g 1 &&& 196) ||| w) := fun w hw => (an_by _ (by_c 196 (by decide))).or hw
  by_cases h4 : j < 4
  · -- turns of A
    obtain ⟨c, hc⟩ := cb (g 1)
    have hr := tRes_by hj h0 c
    have ho := tOut_01 (j := j) h0
    obtain ⟨o, hob⟩ : ∃ o : Bool, tOut j (g 0) = b2 o := by
      rcases ho with h | h
      · exact ⟨false, h⟩
      · exact ⟨true, h⟩
    have hfl : By ((byv (tRes j (g 0) (b2 c)) ||| par (tRes j (g 0) (b2 c))) ||| tOut j (g 0)) := ((byv_by _).or (par_by _)).or (b01_by ho)
    have hk : ((byv (tRes j (g 0) (b2 c)) ||| par (tRes j (g 0) (b2 c))) ||| tOut j (g 0)) &&& ((196 : Int32) ^^^ (-1)) = (tRes j (g 0) (b2 c) &&& 40) ||| tOut j (g 0) := by
      rw [hob]
      exact by_all (P := fun x => ((byv x ||| par x) ||| b2 o) &&& ((196 : Int32) ^^^ (-1)) = (x &&& 40) ||| b2 o) (t40 o) hr
    refine ⟨upd (upd g 0 (tRes j (g 0) (b2 c))) 1 ((g 1 &&& 196) ||| ((tRes j (g 0) (b2 c) &&& 40) ||| tOut j (g 0))), upd J 10 (tOut j (g 0)), (hg.u8 (by decide) hr).u8 (by decide) (f1 _ ((an_by _ (by_c 40 (by decide))).or (b01_by ho))), ?_, ?_⟩
    · have e : f_P_changeA N (nI j) (eC Z m g B pm sh) = xB (f_P_carry N (eC Z m g B pm sh)) fun v18 S19 => (xB (f_A_turned N (nI j) (g 0) v18 S19) fun v20 S21 => (xWr S21 10 26 (0 : Int32) (v20 >>> ((8 : Int32) &&& 31)) fun S22 => (xB (f_P_setFlags N (196 : Int32) ((v20 &&& (255 : Int32)) &&& ((196 : Int32) ^^^ (-1 : Int32))) S22) fun v23 S24 => (f_P_changeA_177 N S24)))) := by
        rcases (show j = 0 ∨ j = 1 ∨ j = 2 ∨ j = 3 by omega) with rfl | rfl | rfl | rfl <;> rfl
      rw [e, c_carry, xB_some, hc, c_turned N _ hj, xB_some, xw_0, uC_g, c_setFlags, xB_some, pw_hi hr.wd hfl, pw_lo hr.wd hfl, hk, pk_un (by decide)]
      rfl
    · unfold f_M_single f_M_single_167
      rw [xr_1, if_pos (by have := nI_lt h4 (by decide); exact this), xr_0, eM_g, m_turn N Z K m g sh pf pn pl J hj, xB_some, hc, xw_0, uM_g, xr_0, eM_g, pk_us, xw_1, uM_g, eM_ou, pk_us, or3]
  · rcases (show j = 4 ∨ j = 5 ∨ j = 6 ∨ j = 7 by omega) with rfl | rfl | rfl | rfl
    · obtain ⟨g', hg', ⟨w, e1, e2⟩, e3⟩ := sim_adjust N Z K m g B pm sh pf pn pl J hN hg
      refine ⟨g', J, hg', ?_, ?_⟩
      · show xB (f_A_adjusted N (g 0) (g 1) (eC Z m g B pm sh)) (fun v4 S5 => xB (f_G_split N 0 v4 S5) fun v6 S7 => some (0, S7)) = _
        rw [e1, xB_some, c_split N Z m g pm sh B w (a := 0) (j := 0) rfl (by decide), xB_some, e2]
      · show xB (f_M_adjust N (eM Z K m g pf pn pl J sh)) (fun v8 S9 => some (0, S9)) = _
        rw [e3, xB_some]
    · have ha : g 0 ^^^ 255 = 255 - g 0 := by_all (P := fun x => x ^^^ 255 = 255 - x) t255 h0
      have hb : By (g 0 ^^^ 255) := by
        have := by_all (P := fun x => (x ^^^ 255) &&& 255 = x ^^^ 255) t255b h0
        rw [← this]; exact and8 _
      refine ⟨upd (upd g 0 (g 0 ^^^ 255)) 1 ((g 1 &&& 197) ||| ((((g 0 ^^^ 255) &&& 40) ||| 16) ||| 2)), J, (hg.u8 (by decide) hb).u8 (by decide) ((an_by _ (by_c 197 (by decide))).or (((an_by _ (by_c 40 (by decide))).or (by_c 16 (by decide))).or (by_c 2 (by decide)))), ?_, ?_⟩
      · show xWr (eC Z m g B pm sh) 10 26 0 (g 0 ^^^ 255) (fun S9 => xB (f_P_setFlags N ((196 : Int32) ||| 1) ((((g 0 ^^^ 255) &&& 40) ||| 16) ||| 2) S9) fun v10 S11 => some (0, S11)) = _
        rw [xw_0, uC_g, c_setFlags, xB_some, pk_un (by decide)]; rfl
      · show xWr (eM Z K m g pf pn pl J sh) 2 26 0 (255 - g 0) (fun S5 => xRd S5 2 26 0 fun v6 => xWr S5 2 26 1 ((((g 1 &&& 197) ||| (v6 &&& 40)) ||| 16) ||| 2) fun S7 => some (0, S7)) = _
        rw [xw_0, uM_g, xr_0, eM_g, pk_us, xw_1, uM_g, ha, or3, or3]
    · refine ⟨upd g 1 ((g 1 &&& 196) ||| ((g 0 &&& 40) ||| 1)), J, hg.u8 (by decide) (f1 _ ((an_by _ (by_c 40 (by decide))).or (by_c 1 (by decide)))), ?_, ?_⟩
      · show xB (f_P_setFlags N 196 ((g 0 &&& 40) ||| 1) (eC Z m g B pm sh)) (fun v13 S14 => some (0, S14)) = _
        rw [c_setFlags, xB_some]
      · show xWr (eM Z K m g pf pn pl J sh) 2 26 1 (((g 1 &&& 196) ||| (g 0 &&& 40)) ||| 1) (fun S1 => some (0, S1)) = _
        rw [xw_1, uM_g, or3]
    · refine ⟨upd g 1 ((g 1 &&& 196) ||| ((g 0 &&& 40) ||| (if (g 1 &&& 1) = 1 then 16 else 1))), J, hg.u8 (by decide) (f1 _ ((an_by _ (by_c 40 (by decide))).or (by split; exact by_c 16 (by decide); exact by_c 1 (by decide)))), ?_, ?_⟩
      · show xB (f_P_carry N (eC Z m g B pm sh)) (fun v16 S17 => if v16 = 1 then f_P_changeA_133 N 196 (g 0 &&& 40) 16 S17 else f_P_changeA_133 N 196 (g 0 &&& 40) 1 S17) = _
        rw [c_carry, xB_some]
        unfold f_P_changeA_133 f_P_changeA_177
        split <;> rw [c_setFlags, xB_some]
      · show (if (g 1 &&& 1) = 1 then f_M_single_165 N 1 ((g 1 &&& 196) ||| (g 0 &&& 40)) 16 (eM Z K m g pf pn pl J sh) else f_M_single_165 N 1 ((g 1 &&& 196) ||| (g 0 &&& 40)) 1 (eM Z K m g pf pn pl J sh)) = _
        unfold f_M_single_165 f_M_single_167
        split <;> rw [xw_1, uM_g, or3]
end CA
