/-! the eight operations, counting, conditions, BIT, exchanges: both sides -/
theorem by40 : ∀ n, n < 256 → (byv (nI n) &&& (-41)) ||| (nI n &&& 40) = byv (nI n) := by decide +kernel
theorem rs41 : ∀ h o c : Bool, rsv h o c 2 &&& (-41) = rsv h o c 2 := by decide
theorem byv2 : ∀ n, n < 256 → byv (nI n) &&& (-2) = byv (nI n) := by decide +kernel
theorem and_or (x y w : Int32) : (x ||| y) &&& w = (x &&& w) ||| (y &&& w) := by
  apply b_ext
  intro i _
  simp only [b_or, b_and]
  cases bt x i <;> cases bt y i <;> cases bt w i <;> rfl
theorem or_sw (a b c : Int32) : (a ||| b) ||| c = (a ||| c) ||| b := by
  rw [Int32.or_assoc, Int32.or_comm b c, Int32.or_assoc]
theorem By.and {x y : Int32} (hx : By x) : By (x &&& y) := by rw [Int32.and_comm]; exact an_by y hx
theorem By.xor {x y : Int32} (hx : By x) (hy : By y) : By (x ^^^ y) := by
  obtain ⟨a, ha, rfl⟩ := hx
  obtain ⟨b, hb, rfl⟩ := hy
  refine ⟨a ^^^ b, Nat.xor_lt_two_pow (n := 8) ha hb, ?_⟩
  apply Int32.toBitVec_inj.mp
  show BitVec.ofNat 32 a ^^^ BitVec.ofNat 32 b = BitVec.ofNat 32 (a ^^^ b)
  apply BitVec.eq_of_toNat_eq
  simp [Nat.xor_mod_two_pow]
section WK
variable (N : Nat) (Z K : xSt) (m g : Nat → Int32) (B pm sh pf pn pl : Int32) (J : Nat → Int32)
theorem c_145 (w : Int32) : f_P_operate_145 N w (eC Z m g B pm sh) = some (0, eC Z m (gSp g 0 w) B pm sh) := by
  unfold f_P_operate_145
  rw [c_split N Z m g pm sh B w (a := 0) (j := 0) rfl (by decide), xB_some]
theorem sim_plus (hN : 64 ≤ N) (hg : Gd g) {v : Int32} (hv : By v) (c : Bool) : ∃ g' J', Gd g' ∧ xB (f_A_plus N (g 0) v (b2 c) (eC Z m g B pm sh)) (fun v3 S4 => f_P_operate_145 N v3 S4) = some (0, eC Z m g' B pm sh) ∧ f_M_work_41 N 0 (g 0) v (b2 c) (eM Z K m g pf pn pl J sh) = some (0, eM Z K m g' pf pn pl J' sh) := by
  have h0 := hg.1 0 (by decide)
  obtain ⟨J', q1, q2, q3, -, q5⟩ := m_sum N Z K m g sh pf pn pl (g 0) v c (w := 8) (by decide) (by decide) hN J
  have hr := lo8_by (g 0 + v + b2 c)
  have hf := (byv_by (lo (g 0 + v + b2 c) 8)).or (rsv_by (cr 4 (g 0) v c) (cr 7 (g 0) v c ^^ cr 8 (g 0) v c) (cr 8 (g 0) v c) (by_c 0 (by decide)))
  refine ⟨_, J', (hg.u8 (i := 0) (by decide) hr).u8 (i := 1) (by decide) hf, ?_, ?_⟩
  · rw [c_plus N _ h0 hv c, xB_some, c_145, show pw (lo (g 0 + v + b2 c) 8) (byv (lo (g 0 + v + b2 c) 8) ||| rsv (cr 4 (g 0) v c) (cr 7 (g 0) v c ^^ cr 8 (g 0) v c) (cr 8 (g 0) v c) 0) = pw (lo (g 0 + v + b2 c) 8) (byv (lo (g 0 + v + b2 c) 8) ||| rsv (cr 4 (g 0) v c) (cr 7 (g 0) v c ^^ cr 8 (g 0) v c) (cr 8 (g 0) v c) (nI 0)) from rfl, gSp_pw g 0 hr hf]
  · unfold f_M_work_41 f_M_work_233
    rw [show (8 : Int32) = nI 8 from rfl, q5, xB_some, xw_0, uM_g, xr_0, eM_g, pk_us, m_by, xB_some, m_rest N Z K m _ sh pf pn pl J' q1 q3 q2, xB_some, xw_1, uM_g]
    rfl
theorem sim_minus (hN : 64 ≤ N) (hg : Gd g) {v : Int32} (hv : By v) (c : Bool) {j : Nat} (h7 : j ≠ 7) (hj : j < 8) : ∃ g' J', Gd g' ∧ xB (f_A_minus N (g 0) v (b2 c) (eC Z m g B pm sh)) (fun v3 S4 => f_P_operate_145 N v3 S4) = some (0, eC Z m g' B pm sh) ∧ f_M_work_101 N (nI j) v (g 0) (g 0) v (b2 c) (eM Z K m g pf pn pl J sh) = some (0, eM Z K m g' pf pn pl J' sh) := by
  have h0 := hg.1 0 (by decide)
  obtain ⟨J', q1, q2, q3, -, q5⟩ := m_diff N Z K m g sh pf pn pl (g 0) v c (w := 8) (by decide) (by decide) hN J
  have hr := lo8_by (g 0 - v - b2 c)
  have hf := (byv_by (lo (g 0 - v - b2 c) 8)).or (rsv_by (!cr 4 (g 0) (v ^^^ (-1)) (!c)) (cr 7 (g 0) (v ^^^ (-1)) (!c) ^^ cr 8 (g 0) (v ^^^ (-1)) (!c)) (!cr 8 (g 0) (v ^^^ (-1)) (!c)) (n := 2) (by_c 2 (by decide)))
  have hb := by_all (P := fun x => (byv x &&& (-41)) ||| (x &&& 40) = byv x) by40 hr
  refine ⟨_, J', (hg.u8 (i := 0) (by decide) hr).u8 (i := 1) (by decide) hf, ?_, ?_⟩
  · rw [c_minus N _ h0 hv c, xB_some, c_145, gSp_pw g 0 hr hf]
  · have hn7 : ¬ nI j = 7 := nI_ne (x := 7) (c := 7) rfl (by omega) (by decide) h7
    unfold f_M_work_101 f_M_work_133 f_M_work_161 f_M_work_233
    rw [show (8 : Int32) = nI 8 from rfl, q5, xB_some, m_by, xB_some, if_neg hn7, m_rest N Z K m _ sh pf pn pl J' q1 q3 q2, xB_some, xw_1, uM_g, if_neg hn7, xw_0, uM_g, hb, upd_comm _ _ _ (by decide : (1 : Nat) ≠ 0)]
theorem sim_cp (hN : 64 ≤ N) (hg : Gd g) {v : Int32} (hv : By v) : ∃ g' J', Gd g' ∧ xB (f_A_compared N (g 0) v (eC Z m g B pm sh)) (fun v3 S4 => f_P_operate_145 N v3 S4) = some (0, eC Z m g' B pm sh) ∧ f_M_work_101 N 7 v (g 0) (g 0) v (b2 false) (eM Z K m g pf pn pl J sh) = some (0, eM Z K m g' pf pn pl J' sh) := by
  have h0 := hg.1 0 (by decide)
  obtain ⟨J', q1, q2, q3, -, q5⟩ := m_diff N Z K m g sh pf pn pl (g 0) v false (w := 8) (by decide) (by decide) hN J
  have hr := lo8_by (g 0 - v - b2 false)
  have hf := (byv_by (lo (g 0 - v - b2 false) 8)).or (rsv_by (!cr 4 (g 0) (v ^^^ (-1)) (!false)) (cr 7 (g 0) (v ^^^ (-1)) (!false) ^^ cr 8 (g 0) (v ^^^ (-1)) (!false)) (!cr 8 (g 0) (v ^^^ (-1)) (!false)) (n := 2) (by_c 2 (by decide)))
  have hf2 : By (((byv (lo (g 0 - v - b2 false) 8) &&& (-41)) ||| (v &&& 40)) ||| rsv (!cr 4 (g 0) (v ^^^ (-1)) (!false)) (cr 7 (g 0) (v ^^^ (-1)) (!false) ^^ cr 8 (g 0) (v ^^^ (-1)) (!false)) (!cr 8 (g 0) (v ^^^ (-1)) (!false)) 2) := (((byv_by _).and).or (an_by _ (by_c 40 (by decide)))).or (rsv_by _ _ _ (by_c 2 (by decide)))
  refine ⟨_, J', hg.u8 (i := 1) (by decide) hf2, ?_, ?_⟩
  · unfold f_A_compared
    rw [show (0 : Int32) = b2 false from rfl, c_minus N _ h0 hv false, xB_some, xB_some, c_145, pw_lo hr.wd hf, and_or, rs41, Int32.or_assoc, or_sw, show ∀ x : Int32, (g 0 <<< ((8 : Int32) &&& 31)) ||| x = pw (g 0) x from fun _ => rfl, gSp_pw g 0 h0 hf2, upd_self]
    rfl
  · unfold f_M_work_101 f_M_work_133 f_M_work_161 f_M_work_233
    rw [show (8 : Int32) = nI 8 from rfl, q5, xB_some, m_by, xB_some, if_pos rfl, m_rest N Z K m _ sh pf pn pl J' q1 q3 q2, xB_some, xw_1, uM_g, if_pos rfl, xw_0, uM_g]
    congr 3
    rw [upd_comm _ _ _ (by decide : (1 : Nat) ≠ 0), upd_self]
theorem sim_logic (hN : 64 ≤ N) (hg : Gd g) {r : Int32} (hr : By r) (a : Bool) {j : Nat} (hj : j < 8) (ha : a = decide (j = 4)) : ∃ g', Gd g' ∧ xB (f_A_logic N r (eC Z m g B pm sh)) (fun v3 S4 => f_P_operate_145 N (v3 ||| fl 16 a) S4) = some (0, eC Z m g' B pm sh) ∧ f_M_work_195 N (nI j) 0 r (eM Z K m g pf pn pl J sh) = some (0, eM Z K m g' pf pn pl J sh) := by
  have hf : By ((byv r ||| par r) ||| fl 16 a) := ((byv_by _).or (par_by _)).or (By.fl (by_c 16 (by decide)) a)
  refine ⟨_, (hg.u8 (i := 0) (by decide) hr).u8 (i := 1) (by decide) hf, ?_, ?_⟩
  · unfold f_A_logic
    rw [c_byP, xB_some, xB_some, c_145, Int32.or_assoc, show ∀ x : Int32, (r <<< ((8 : Int32) &&& 31)) ||| x = pw r x from fun _ => rfl, gSp_pw g 0 hr hf]
  · unfold f_M_work_195 f_M_work_231 f_M_work_233
    simp only [xw_0, uM_g, xr_0, eM_g, pk_us, m_by, xB_some, m_parity N _ hN hr, xw_1]
    by_cases h4 : j = 4
    · subst h4; subst ha; rw [if_pos (by decide)]; rfl
    · rw [if_neg (nI_ne (x := 4) (c := 4) rfl (by omega) (by decide) h4)]
      subst ha
      rw [decide_eq_false h4]; rfl
theorem or_0 (x : Int32) : x ||| 0 = x := by
  apply b_ext
  intro i _
  rw [b_or, b_0, Bool.or_false]
theorem sim_work (hN : 64 ≤ N) (hg : Gd g) {v : Int32} (hv : By v) {j : Nat} (hj : j < 8) : ∃ g' J', Gd g' ∧ f_P_operate N (nI j) v (eC Z m g B pm sh) = some (0, eC Z m g' B pm sh) ∧ f_M_work N (nI j) v (eM Z K m g pf pn pl J sh) = some (0, eM Z K m g' pf pn pl J' sh) := by
  have h0 := hg.1 0 (by decide)
  obtain ⟨c, hc⟩ := cb (g 1)
  rcases (show j = 0 ∨ j = 1 ∨ j = 2 ∨ j = 3 ∨ j = 4 ∨ j = 5 ∨ j = 6 ∨ j = 7 by omega) with rfl | rfl | rfl | rfl | rfl | rfl | rfl | rfl
  · obtain ⟨g', J', h1, h2, h3⟩ := sim_plus N Z K m g B pm sh pf pn pl J hN hg hv false
    exact ⟨g', J', h1, h2, h3⟩
  · obtain ⟨g', J', h1, h2, h3⟩ := sim_plus N Z K m g B pm sh pf pn pl J hN hg hv c
    refine ⟨g', J', h1, ?_, ?_⟩
    · show xB (f_P_carry N (eC Z m g B pm sh)) (fun v6 S7 => xB (f_A_plus N (g 0) v v6 S7) fun v8 S9 => f_P_operate_145 N v8 S9) = _
      rw [c_carry, xB_some, hc]; exact h2
    · show f_M_work_41 N 0 (g 0) v (g 1 &&& 1) (eM Z K m g pf pn pl J sh) = _
      rw [hc]; exact h3
  · obtain ⟨g', J', h1, h2, h3⟩ := sim_minus N Z K m g B pm sh pf pn pl J hN hg hv false (j := 2) (by decide) (by decide)
    exact ⟨g', J', h1, h2, h3⟩
  · obtain ⟨g', J', h1, h2, h3⟩ := sim_minus N Z K m g B pm sh pf pn pl J hN hg hv c (j := 3) (by decide) (by decide)
    refine ⟨g', J', h1, ?_, ?_⟩
    · show xB (f_P_carry N (eC Z m g B pm sh)) (fun v6 S7 => xB (f_A_minus N (g 0) v v6 S7) fun v8 S9 => f_P_operate_145 N v8 S9) = _
      rw [c_carry, xB_some, hc]; exact h2
    · show f_M_work_101 N (nI 3) v (g 0) (g 0) v (g 1 &&& 1) (eM Z K m g pf pn pl J sh) = _
      rw [hc]; exact h3
  · obtain ⟨g', h1, h2, h3⟩ := sim_logic N Z K m g B pm sh pf pn pl J hN hg (h0.and (y := v)) true (j := 4) (by decide) (by decide)
    exact ⟨g', J, h1, h2, h3⟩
  · obtain ⟨g', h1, h2, h3⟩ := sim_logic N Z K m g B pm sh pf pn pl J hN hg (h0.xor hv) false (j := 5) (by decide) (by decide)
    refine ⟨g', J, h1, ?_, h3⟩
    simp only [show fl 16 false = 0 from rfl, or_0] at h2
    exact h2
  · obtain ⟨g', h1, h2, h3⟩ := sim_logic N Z K m g B pm sh pf pn pl J hN hg (h0.or hv) false (j := 6) (by decide) (by decide)
    refine ⟨g', J, h1, ?_, h3⟩
    simp only [show fl 16 false = 0 from rfl, or_0] at h2
    exact h2
  · obtain ⟨g', J', h1, h2, h3⟩ := sim_cp N Z K m g B pm sh pf pn pl J hN hg hv
    exact ⟨g', J', h1, h2, h3⟩
/-- one more, one less: the class's word, and what the reference makes of it -/
theorem sim_inc (hN : 64 ≤ N) (hg : Gd g) {v : Int32} (hv : By v) (down : Bool) : ∃ (r : Int32) (f : Int32) (w : Int32) (J' : Nat → Int32), By r ∧ By f ∧
    (if down then f_A_minus N v 1 0 (eC Z m g B pm sh) else f_A_plus N v 1 0 (eC Z m g B pm sh)) = some (w, eC Z m g B pm sh) ∧ (w >>> ((8 : Int32) &&& 31)) = r ∧ ((g 1 &&& 1) ||| ((w &&& 255) &&& (-2))) = f ∧
    f_M_step1 N v (b2 (!down)) (eM Z K m g pf pn pl J sh) = some (r, eM Z K m (upd g 1 f) pf pn pl J' sh) := by
  have h1 : By (1 : Int32) := by_c 1 (by decide)
  cases down
  · obtain ⟨J', q1, q2, q3, -, q5⟩ := m_sum N Z K m g sh pf pn pl v 1 false (w := 8) (by decide) (by decide) hN J
    have hr := lo8_by (v + 1 + b2 false)
    have hr0 := rsv_by (cr 4 v 1 false) (cr 7 v 1 false ^^ cr 8 v 1 false) (cr 8 v 1 false) (n := 0) (by_c 0 (by decide))
    have hf := (byv_by (lo (v + 1 + b2 false) 8)).or hr0
    have hb := by_all (P := fun x => byv x &&& (-2) = byv x) byv2 hr
    refine ⟨lo (v + 1 + b2 false) 8, (g 1 &&& 1) ||| (byv (lo (v + 1 + b2 false) 8) ||| (rsv (cr 4 v 1 false) (cr 7 v 1 false ^^ cr 8 v 1 false) (cr 8 v 1 false) 0 &&& (-2))), _, J', hr, (an_by _ h1).or ((byv_by _).or hr0.and), c_plus N _ hv h1 false, pw_hi hr.wd hf, ?_, ?_⟩
    · rw [pw_lo hr.wd hf, and_or, hb]
    · show xB (f_M_sum N v 1 (b2 false) (nI 8) (eM Z K m g pf pn pl J sh)) (fun v5 S6 => f_M_step1_34 N (b2 true) (g 1 &&& 1) v5 S6) = _
      rw [q5, xB_some]
      unfold f_M_step1_34 f_M_step1_56
      rw [m_by, xB_some, if_neg (by decide), m_rest N Z K m _ sh pf pn pl J' q1 q3 q2, xB_some, xw_1, uM_g, Int32.or_comm]
  · obtain ⟨J', q1, q2, q3, -, q5⟩ := m_diff N Z K m g sh pf pn pl v 1 false (w := 8) (by decide) (by decide) hN J
    have hr := lo8_by (v - 1 - b2 false)
    have hr0 := rsv_by (!cr 4 v (1 ^^^ (-1)) (!false)) (cr 7 v (1 ^^^ (-1)) (!false) ^^ cr 8 v (1 ^^^ (-1)) (!false)) (!cr 8 v (1 ^^^ (-1)) (!false)) (n := 2) (by_c 2 (by decide))
    have hf := (byv_by (lo (v - 1 - b2 false) 8)).or hr0
    have hb := by_all (P := fun x => byv x &&& (-2) = byv x) byv2 hr
    refine ⟨lo (v - 1 - b2 false) 8, (g 1 &&& 1) ||| (byv (lo (v - 1 - b2 false) 8) ||| (rsv (!cr 4 v (1 ^^^ (-1)) (!false)) (cr 7 v (1 ^^^ (-1)) (!false) ^^ cr 8 v (1 ^^^ (-1)) (!false)) (!cr 8 v (1 ^^^ (-1)) (!false)) 2 &&& (-2))), _, J', hr, (an_by _ h1).or ((byv_by _).or hr0.and), c_minus N _ hv h1 false, pw_hi hr.wd hf, ?_, ?_⟩
    · rw [pw_lo hr.wd hf, and_or, hb]
    · show xB (f_M_difference N v 1 (b2 false) (nI 8) (eM Z K m g pf pn pl J sh)) (fun v5 S6 => f_M_step1_34 N (b2 false) (g 1 &&& 1) v5 S6) = _
      rw [q5, xB_some]
      unfold f_M_step1_34 f_M_step1_56
      rw [m_by, xB_some, if_pos (by decide), m_rest N Z K m _ sh pf pn pl J' q1 q3 q2, xB_some, xw_1, uM_g, Int32.or_comm]
/-- conditions -/
def cnv (k : Nat) (f : Int32) : Int32 := if ((f &&& (if k / 2 = 0 then 64 else if k / 2 = 1 then 1 else if k / 2 = 2 then 4 else 128)) = 0) ↔ (k % 2 = 0) then 1 else 0
theorem c_cond {k : Nat} (hk : k < 8) : f_P_condition N (nI k) (eC Z m g B pm sh) = some (cnv k (g 1), eC Z m g B pm sh) := by
  refine j8 (P := fun k => f_P_condition N (nI k) (eC Z m g B pm sh) = some (cnv k (g 1), eC Z m g B pm sh)) ?_ ?_ ?_ ?_ ?_ ?_ ?_ ?_ hk
  · show f_P_condition_48 N (nI 0) 64 _ = _
    unfold f_P_condition_48 cnv; rw [xr_1, eC_g]; by_cases h : (g 1 &&& 64) = 0 <;> simp [h] <;> rfl
  · show f_P_condition_48 N (nI 1) 64 _ = _
    unfold f_P_condition_48 cnv; rw [xr_1, eC_g]; by_cases h : (g 1 &&& 64) = 0 <;> simp [h] <;> rfl
  · show f_P_condition_48 N (nI 2) 1 _ = _
    unfold f_P_condition_48 cnv; rw [xr_1, eC_g]; by_cases h : (g 1 &&& 1) = 0 <;> simp [h] <;> rfl
  · show f_P_condition_48 N (nI 3) 1 _ = _
    unfold f_P_condition_48 cnv; rw [xr_1, eC_g]; by_cases h : (g 1 &&& 1) = 0 <;> simp [h] <;> rfl
  · show f_P_condition_48 N (nI 4) 4 _ = _
    unfold f_P_condition_48 cnv; rw [xr_1, eC_g]; by_cases h : (g 1 &&& 4) = 0 <;> simp [h] <;> rfl
  · show f_P_condition_48 N (nI 5) 4 _ = _
    unfold f_P_condition_48 cnv; rw [xr_1, eC_g]; by_cases h : (g 1 &&& 4) = 0 <;> simp [h] <;> rfl
  · show f_P_condition_48 N (nI 6) 128 _ = _
    unfold f_P_condition_48 cnv; rw [xr_1, eC_g]; by_cases h : (g 1 &&& 128) = 0 <;> simp [h] <;> rfl
  · show f_P_condition_48 N (nI 7) 128 _ = _
    unfold f_P_condition_48 cnv; rw [xr_1, eC_g]; by_cases h : (g 1 &&& 128) = 0 <;> simp [h] <;> rfl
theorem m_cond32 {k : Nat} (hk : k < 8) (w : Int32) : f_M_cond_32 N (nI k) w (eM Z K m g pf pn pl J sh) = some (if ((g 1 &&& w) = 0) ↔ (k % 2 = 0) then 1 else 0, eM Z K m g pf pn pl J sh) := by
  have hrem : nI k - nI k / (2 : Int32) * 2 = nI (k % 2) := pk_rem (d := 2) (by omega) (by decide) (by decide)
  unfold f_M_cond_32 f_M_cond_49 f_M_cond_61 f_M_cond_69
  rw [xr_1, eM_g, hrem]
  rcases (show k % 2 = 0 ∨ k % 2 = 1 by omega) with h2 | h2 <;> rw [h2] <;> by_cases h : (g 1 &&& w) = 0
  · rw [if_pos h, if_neg (by decide), if_pos rfl, if_pos ⟨fun _ => rfl, fun _ => h⟩]; rfl
  · rw [if_neg h, if_neg (by decide), if_neg (by decide), if_neg (fun q => h (q.mpr rfl))]; rfl
  · rw [if_pos h, if_pos (by decide), if_neg (by decide), if_neg (fun q => by have := q.mp h; omega)]; rfl
  · rw [if_neg h, if_pos (by decide), if_pos rfl, if_pos ⟨fun q => absurd q h, fun q => by omega⟩]; rfl
theorem m_cond {k : Nat} (hk : k < 8) : f_M_cond N (nI k) (eM Z K m g pf pn pl J sh) = some (cnv k (g 1), eM Z K m g pf pn pl J sh) := by
  refine j8 (P := fun k => f_M_cond N (nI k) (eM Z K m g pf pn pl J sh) = some (cnv k (g 1), eM Z K m g pf pn pl J sh)) ?_ ?_ ?_ ?_ ?_ ?_ ?_ ?_ hk
  · have e : cnv 0 (g 1) = if ((g 1 &&& 64) = 0) ↔ (0 % 2 = 0) then 1 else 0 := rfl
    unfold f_M_cond
    rw [if_pos (by decide), e, m_cond32 N Z K m g sh pf pn pl J (k := 0) (by decide) 64]
  · have e : cnv 1 (g 1) = if ((g 1 &&& 64) = 0) ↔ (1 % 2 = 0) then 1 else 0 := rfl
    unfold f_M_cond
    rw [if_pos (by decide), e, m_cond32 N Z K m g sh pf pn pl J (k := 1) (by decide) 64]
  · have e : cnv 2 (g 1) = if ((g 1 &&& 1) = 0) ↔ (2 % 2 = 0) then 1 else 0 := rfl
    unfold f_M_cond
    rw [if_neg (by decide), if_pos (by decide), e, m_cond32 N Z K m g sh pf pn pl J (k := 2) (by decide) 1]
  · have e : cnv 3 (g 1) = if ((g 1 &&& 1) = 0) ↔ (3 % 2 = 0) then 1 else 0 := rfl
    unfold f_M_cond
    rw [if_neg (by decide), if_pos (by decide), e, m_cond32 N Z K m g sh pf pn pl J (k := 3) (by decide) 1]
  · have e : cnv 4 (g 1) = if ((g 1 &&& 4) = 0) ↔ (4 % 2 = 0) then 1 else 0 := rfl
    unfold f_M_cond
    rw [if_neg (by decide), if_neg (by decide), if_pos (by decide), e, m_cond32 N Z K m g sh pf pn pl J (k := 4) (by decide) 4]
  · have e : cnv 5 (g 1) = if ((g 1 &&& 4) = 0) ↔ (5 % 2 = 0) then 1 else 0 := rfl
    unfold f_M_cond
    rw [if_neg (by decide), if_neg (by decide), if_pos (by decide), e, m_cond32 N Z K m g sh pf pn pl J (k := 5) (by decide) 4]
  · have e : cnv 6 (g 1) = if ((g 1 &&& 128) = 0) ↔ (6 % 2 = 0) then 1 else 0 := rfl
    unfold f_M_cond
    rw [if_neg (by decide), if_neg (by decide), if_neg (by decide), e, m_cond32 N Z K m g sh pf pn pl J (k := 6) (by decide) 128]
  · have e : cnv 7 (g 1) = if ((g 1 &&& 128) = 0) ↔ (7 % 2 = 0) then 1 else 0 := rfl
    unfold f_M_cond
    rw [if_neg (by decide), if_neg (by decide), if_neg (by decide), e, m_cond32 N Z K m g sh pf pn pl J (k := 7) (by decide) 128]
end WK
