/-! ===== Int32 by its bits: bt x i ===== -/
def bt (x : Int32) (i : Nat) : Bool := x.toBitVec.getLsbD i
theorem b_ext {x y : Int32} (h : ∀ i, i < 32 → bt x i = bt y i) : x = y := Int32.toBitVec_inj.mp (BitVec.eq_of_getLsbD_eq (fun i hi => h i hi))
theorem b_or (x y : Int32) (i : Nat) : bt (x ||| y) i = (bt x i || bt y i) := by unfold bt; rw [Int32.toBitVec_or, BitVec.getLsbD_or]
theorem b_and (x y : Int32) (i : Nat) : bt (x &&& y) i = (bt x i && bt y i) := by unfold bt; rw [Int32.toBitVec_and, BitVec.getLsbD_and]
theorem b_xor (x y : Int32) (i : Nat) : bt (x ^^^ y) i = (bt x i ^^ bt y i) := by unfold bt; rw [Int32.toBitVec_xor, BitVec.getLsbD_xor]
theorem b_big {x : Int32} {i : Nat} (h : 32 ≤ i) : bt x i = false := BitVec.getLsbD_of_ge _ _ h
theorem b_255 (i : Nat) : bt 255 i = decide (i < 8) := by
  rcases Nat.lt_or_ge i 32 with h | h
  · exact (by decide +kernel : ∀ i, i < 32 → bt 255 i = decide (i < 8)) i h
  · rw [b_big h, decide_eq_false (by omega)]
theorem b_65535 (i : Nat) : bt 65535 i = decide (i < 16) := by
  rcases Nat.lt_or_ge i 32 with h | h
  · exact (by decide +kernel : ∀ i, i < 32 → bt 65535 i = decide (i < 16)) i h
  · rw [b_big h, decide_eq_false (by omega)]
theorem b_m1 : ∀ i, i < 32 → bt (-1) i = true := by decide +kernel
theorem b_0 (i : Nat) : bt 0 i = false := BitVec.getLsbD_zero
theorem s_l : ∀ n, n < 32 → ((nI n &&& 31).toBitVec.smod 32).toNat = n := by decide +kernel
theorem s_u : ∀ n, n < 32 → (((nI n).toUInt32 &&& Int32.toUInt32 31).toBitVec % 32).toNat = n := by decide +kernel
theorem b_shl (n : Nat) (hn : n < 32) (x : Int32) {i : Nat} (hi : i < 32) : bt (x <<< (nI n &&& 31)) i = (decide (n ≤ i) && bt x (i - n)) := by
  unfold bt
  rw [Int32.toBitVec_shiftLeft]
  show (x.toBitVec <<< ((nI n &&& 31).toBitVec.smod 32).toNat).getLsbD i = _
  rw [s_l n hn, BitVec.getLsbD_shiftLeft]
  rcases Nat.lt_or_ge i n with h | h
  · simp [h, Nat.not_le.mpr h]
  · simp [hi, h, Nat.not_lt.mpr h]
theorem b_ushr (n : Nat) (hn : n < 32) (x : Int32) (i : Nat) : bt ((x.toUInt32 >>> ((nI n).toUInt32 &&& Int32.toUInt32 31)).toInt32) i = bt x (n + i) := by
  show (x.toUInt32 >>> ((nI n).toUInt32 &&& Int32.toUInt32 31)).toBitVec.getLsbD i = x.toUInt32.toBitVec.getLsbD (n + i)
  rw [UInt32.toBitVec_shiftRight]
  show (x.toUInt32.toBitVec >>> (((nI n).toUInt32 &&& Int32.toUInt32 31).toBitVec % 32).toNat).getLsbD i = _
  rw [s_u n hn, BitVec.getLsbD_ushiftRight]
theorem b_sshr (n : Nat) (hn : n < 32) (x : Int32) {i : Nat} (hi : i < 32) : bt (x >>> (nI n &&& 31)) i = if n + i < 32 then bt x (n + i) else bt x 31 := by
  unfold bt
  rw [Int32.toBitVec_shiftRight]
  show (x.toBitVec.sshiftRight ((nI n &&& 31).toBitVec.smod 32).toNat).getLsbD i = _
  rw [s_l n hn, BitVec.getLsbD_sshiftRight, BitVec.msb_eq_getLsbD_last]
  simp [hi]
theorem b_shl8 (x : Int32) {i : Nat} (hi : i < 32) : bt (x <<< ((8 : Int32) &&& 31)) i = (decide (8 ≤ i) && bt x (i - 8)) := b_shl 8 (by omega) x hi
theorem b_shl16 (x : Int32) {i : Nat} (hi : i < 32) : bt (x <<< ((16 : Int32) &&& 31)) i = (decide (16 ≤ i) && bt x (i - 16)) := b_shl 16 (by omega) x hi
theorem b_shl24 (x : Int32) {i : Nat} (hi : i < 32) : bt (x <<< ((24 : Int32) &&& 31)) i = (decide (24 ≤ i) && bt x (i - 24)) := b_shl 24 (by omega) x hi
theorem b_sshr8 (x : Int32) {i : Nat} (hi : i < 32) : bt (x >>> ((8 : Int32) &&& 31)) i = if 8 + i < 32 then bt x (8 + i) else bt x 31 := b_sshr 8 (by omega) x hi
/-! the adder, by its bits -/
def b2 (c : Bool) : Int32 := if c then 1 else 0
def cr (i : Nat) (x y : Int32) (c : Bool) : Bool := BitVec.carry i x.toBitVec y.toBitVec c
theorem cr_0 (x y : Int32) (c : Bool) : cr 0 x y c = c := BitVec.carry_zero
theorem cr_s (i : Nat) (x y : Int32) (c : Bool) : cr (i + 1) x y c = Bool.atLeastTwo (bt x i) (bt y i) (cr i x y c) := BitVec.carry_succ i _ _ c
theorem s_bit (x y : Int32) (c : Bool) {i : Nat} (hi : i < 32) : bt (x + y + b2 c) i = (bt x i ^^ (bt y i ^^ cr i x y c)) := by
  have e : (x + y + b2 c).toBitVec = x.toBitVec + y.toBitVec + BitVec.setWidth 32 (BitVec.ofBool c) := by
    rw [Int32.toBitVec_add, Int32.toBitVec_add]
    cases c <;> rfl
  unfold bt cr
  rw [e]
  exact BitVec.getLsbD_add_add_bool hi _ _ c
theorem bt_1 : ∀ i, i < 32 → bt 1 i = decide (i = 0) := by decide +kernel
theorem bt_b2 (c : Bool) {i : Nat} (hi : i < 32) : bt (b2 c) i = (decide (i = 0) && c) := by
  cases c
  · show bt 0 i = _
    rw [b_0, Bool.and_false]
  · show bt 1 i = _
    rw [bt_1 i hi, Bool.and_true]
theorem sh_bit (x : Int32) {k : Nat} (hk : k < 32) : (x >>> (nI k &&& 31)) &&& 1 = b2 (bt x k) := by
  apply b_ext
  intro i hi
  rw [b_and, b_sshr k hk x hi, bt_1 i hi, bt_b2 _ hi]
  by_cases h : i = 0
  · subst h
    rw [if_pos (by omega), Nat.add_zero]
    cases bt x k <;> rfl
  · simp [h]
def lo (s : Int32) (k : Nat) : Int32 := nI (s.toBitVec.toNat % 2 ^ k)
theorem bt_lo (s : Int32) {k i : Nat} (hk : k < 32) (hi : i < 32) : bt (lo s k) i = (decide (i < k) && bt s i) := by
  unfold bt lo
  show (BitVec.ofNat 32 _).getLsbD i = _
  rw [BitVec.getLsbD_ofNat, Nat.testBit_mod_two_pow]
  simp [hi, BitVec.getLsbD]
theorem lo_0 (s : Int32) : lo s 0 = 0 := by
  unfold lo
  rw [Nat.pow_zero, Nat.mod_one]; rfl
theorem lo_8 (s : Int32) : s &&& 255 = lo s 8 := pk_and s 8 (by decide)
theorem lo_16 (s : Int32) : s &&& 65535 = lo s 16 := pk_and s 16 (by decide)
theorem lo_s (s : Int32) {k : Nat} (hk : k < 31) : lo s k ||| (b2 (bt s k) <<< (nI k &&& 31)) = lo s (k + 1) := by
  apply b_ext
  intro i hi
  rw [b_or, bt_lo s (by omega) hi, b_shl k (by omega) _ hi, bt_lo s (by omega) hi, bt_b2 _ (by omega)]
  by_cases h1 : i < k
  · simp [h1, show i < k + 1 by omega, show ¬ k ≤ i by omega]
  · by_cases h2 : i = k
    · subst h2; simp
    · simp [h1, show ¬ i < k + 1 by omega, show ¬ i - k = 0 by omega]
theorem ones_1 : ∀ a b c : Bool, (b2 a + b2 b + b2 c) &&& 1 = b2 (a ^^ (b ^^ c)) := by decide
theorem ones_2 : ∀ a b c : Bool, (b2 a + b2 b + b2 c) >>> ((1 : Int32) &&& 31) = b2 (Bool.atLeastTwo a b c) := by decide
theorem b2_eq : ∀ a b : Bool, (b2 a = b2 b) ↔ a = b := by decide
theorem b2_1 : ∀ a : Bool, (b2 a = 1) ↔ a = true := by decide
theorem b2_0 : ∀ a : Bool, (b2 a = 0) ↔ a = false := by decide
theorem xBo_b (c : Bool) (F : xR) : xBo (b2 c) F = F := by cases c <;> rfl
section AM
variable (N : Nat) (Z K : xSt) (m g : Nat → Int32) (sh pf pn pl : Int32)
theorem m_sum_loop (x y : Int32) (c : Bool) (w : Nat) (hw : 5 ≤ w) (hw2 : w < 30) : ∀ (j k n : Nat) (J : Nat → Int32), k + j = w → j < n → (w - 5 < k → J 7 = b2 (cr (w - 4) x y c)) → (k = w → J 9 = b2 (cr (w - 1) x y c ^^ cr w x y c)) →
    ∃ J' : Nat → Int32, J' 7 = b2 (cr (w - 4) x y c) ∧ J' 8 = b2 (cr w x y c) ∧ J' 9 = b2 (cr (w - 1) x y c ^^ cr w x y c) ∧ J' 10 = J 10 ∧
      f_M_sum_14 N n x y (nI w) (b2 (cr k x y c)) (lo (x + y + b2 c) k) (nI k) (eM Z K m g pf pn pl J sh) = some (lo (x + y + b2 c) w, eM Z K m g pf pn pl J' sh) := by
  intro j
  induction j with
  | zero =>
    intro k n J hk hn h7 h9
    obtain ⟨n, rfl⟩ : ∃ q, n = q + 1 := ⟨n - 1, by omega⟩
    have hkw : k = w := by omega
    subst hkw
    refine ⟨upd J 8 (b2 (cr k x y c)), ?_, pk_us, ?_, ?_, ?_⟩
    · rw [pk_un (by decide)]; exact h7 (by omega)
    · rw [pk_un (by decide)]; exact h9 rfl
    · rw [pk_un (by decide)]
    · rw [f_M_sum_14, if_neg (nI_nlt (Nat.le_refl _) (by omega))]
      unfold f_M_sum_126
      cases h : cr k x y c
      · rw [if_neg (by decide)]
        simp only [xBo_0, xPu_eq, uM_cy]; rfl
      · rw [if_pos (by decide)]
        simp only [xBo_1, xPu_eq, uM_cy]; rfl
  | succ j ih =>
    intro k n J hk hn h7 h9
    obtain ⟨n, rfl⟩ : ∃ q, n = q + 1 := ⟨n - 1, by omega⟩
    have hs : bt (x + y + b2 c) k = (bt x k ^^ (bt y k ^^ cr k x y c)) := s_bit x y c (by omega)
    have hcs := cr_s k x y c
    have e1 : nI w - 1 = nI (w - 1) := by rw [show (1 : Int32) = nI 1 from rfl, pk_sub (by omega)]
    have e5 : nI w - 5 = nI (w - 5) := by rw [show (5 : Int32) = nI 5 from rfl, pk_sub (by omega)]
    rw [f_M_sum_14, if_pos (nI_lt (by omega) (by omega))]
    simp only [xV_eq, sh_bit x (show k < 32 by omega), sh_bit y (show k < 32 by omega), ones_1, ones_2, ← hs, ← hcs, lo_s (x + y + b2 c) (show k < 31 by omega), e1]
    -- what happens behind the store of 'over'
    have step : ∀ (o : Bool) (J0 : Nat → Int32), (∀ i, i ≠ 9 → J0 i = J i) → J0 9 = b2 o → (k = w - 1 → o = (cr k x y c ^^ cr (k + 1) x y c)) →
        ∃ J' : Nat → Int32, J' 7 = b2 (cr (w - 4) x y c) ∧ J' 8 = b2 (cr w x y c) ∧ J' 9 = b2 (cr (w - 1) x y c ^^ cr w x y c) ∧ J' 10 = J 10 ∧
          (if nI k = nI (w - 5) then (if b2 (cr (k + 1) x y c) = 1 then f_M_sum_105 N (f_M_sum_14 N n) x y (nI w) (b2 (cr (k + 1) x y c)) (lo (x + y + b2 c) (k + 1)) (nI k) 1 (eM Z K m g pf pn pl J0 sh) else f_M_sum_105 N (f_M_sum_14 N n) x y (nI w) (b2 (cr (k + 1) x y c)) (lo (x + y + b2 c) (k + 1)) (nI k) 0 (eM Z K m g pf pn pl J0 sh)) else f_M_sum_108 N (f_M_sum_14 N n) x y (nI w) (b2 (cr (k + 1) x y c)) (lo (x + y + b2 c) (k + 1)) (nI k) (eM Z K m g pf pn pl J0 sh)) = some (lo (x + y + b2 c) w, eM Z K m g pf pn pl J' sh) := by
      intro o J0 hJ0 h9' ho
      have fin : ∀ J1 : Nat → Int32, (w - 5 < k + 1 → J1 7 = b2 (cr (w - 4) x y c)) → J1 9 = b2 o → J1 10 = J 10 →
          ∃ J' : Nat → Int32, J' 7 = b2 (cr (w - 4) x y c) ∧ J' 8 = b2 (cr w x y c) ∧ J' 9 = b2 (cr (w - 1) x y c ^^ cr w x y c) ∧ J' 10 = J 10 ∧
            f_M_sum_108 N (f_M_sum_14 N n) x y (nI w) (b2 (cr (k + 1) x y c)) (lo (x + y + b2 c) (k + 1)) (nI k) (eM Z K m g pf pn pl J1 sh) = some (lo (x + y + b2 c) w, eM Z K m g pf pn pl J' sh) := by
        intro J1 a1 a2 a3
        obtain ⟨J', q1, q2, q3, q4, q5⟩ := ih (k + 1) n J1 (by omega) (by omega) a1 (fun hkw => by
          rw [a2, ho (by omega)]
          have hk1 : w - 1 = k := by omega
          rw [hk1, ← hkw])
        refine ⟨J', q1, q2, q3, q4.trans a3, ?_⟩
        unfold f_M_sum_108
        rw [nI_1]
        exact q5
      by_cases h5 : k = w - 5
      · rw [if_pos (by rw [h5])]
        have hk4 : k + 1 = w - 4 := by omega
        obtain ⟨J', q1, q2, q3, q4, q5⟩ := fin (upd J0 7 (b2 (cr (k + 1) x y c))) (fun _ => by rw [pk_us, hk4]) (by rw [pk_un (by decide)]; exact h9') (by rw [pk_un (by decide)]; exact hJ0 10 (by decide))
        refine ⟨J', q1, q2, q3, q4, ?_⟩
        unfold f_M_sum_105
        cases hc : cr (k + 1) x y c
        · rw [hc] at q5
          rw [if_neg (by decide)]
          simp only [xBo_0, xPu_eq, uM_hf]
          exact q5
        · rw [hc] at q5
          rw [if_pos (by decide)]
          simp only [xBo_1, xPu_eq, uM_hf]
          exact q5
      · rw [if_neg (fun e => h5 ((nI_eq (by omega) (by omega)).mp e))]
        exact fin J0 (fun h => by rw [hJ0 7 (by decide)]; exact h7 (by omega)) h9' (hJ0 10 (by decide))
    have go : ∀ o : Bool, (k = w - 1 → o = (cr k x y c ^^ cr (k + 1) x y c)) →
        ∃ J' : Nat → Int32, J' 7 = b2 (cr (w - 4) x y c) ∧ J' 8 = b2 (cr w x y c) ∧ J' 9 = b2 (cr (w - 1) x y c ^^ cr w x y c) ∧ J' 10 = J 10 ∧
          f_M_sum_75 N (f_M_sum_14 N n) x y (nI w) (lo (x + y + b2 c) (k + 1)) (nI k) (b2 (bt x k) + b2 (bt y k) + b2 (cr k x y c)) (b2 o) (eM Z K m g pf pn pl J sh) = some (lo (x + y + b2 c) w, eM Z K m g pf pn pl J' sh) := by
      intro o ho
      unfold f_M_sum_75
      rw [xBo_b, xPu_eq, uM_ov, xV_eq, ones_2, ← hcs, e5]
      exact step o (upd J 9 (b2 o)) (fun i hi => pk_un hi) pk_us ho
    by_cases hl : k = w - 1
    · rw [if_pos (by rw [hl])]
      by_cases hq : cr k x y c = cr (k + 1) x y c
      · rw [if_pos (by rw [hq])]
        exact go false (fun _ => by rw [hq]; cases cr (k + 1) x y c <;> rfl)
      · rw [if_neg (fun e => hq ((b2_eq _ _).mp e))]
        exact go true (fun _ => by revert hq; cases cr k x y c <;> cases cr (k + 1) x y c <;> simp)
    · rw [if_neg (fun e => hl ((nI_eq (by omega) (by omega)).mp e))]
      exact go false (fun h => absurd h hl)
theorem m_sum (x y : Int32) (c : Bool) {w : Nat} (hw : 5 ≤ w) (hw2 : w < 30) (hN : 64 ≤ N) (J : Nat → Int32) : ∃ J' : Nat → Int32, J' 7 = b2 (cr (w - 4) x y c) ∧ J' 8 = b2 (cr w x y c) ∧ J' 9 = b2 (cr (w - 1) x y c ^^ cr w x y c) ∧ J' 10 = J 10 ∧
    f_M_sum N x y (b2 c) (nI w) (eM Z K m g pf pn pl J sh) = some (lo (x + y + b2 c) w, eM Z K m g pf pn pl J' sh) := by
  obtain ⟨J', q1, q2, q3, q4, q5⟩ := m_sum_loop N Z K m g sh pf pn pl x y c w hw hw2 w 0 N (upd J 9 0) (by omega) (by omega) (fun h => by omega) (fun h => by omega)
  refine ⟨J', q1, q2, q3, q4, ?_⟩
  unfold f_M_sum
  rw [xBo_0, xPu_eq, uM_ov]
  rw [cr_0, lo_0, nI_0] at q5
  exact q5
theorem sub_eq (x y : Int32) (c : Bool) : x + (y ^^^ (-1)) + b2 (!c) = x - y - b2 c := by
  have e : y ^^^ (-1) = -y - 1 := by
    apply Int32.toBitVec_inj.mp
    rw [Int32.toBitVec_xor, Int32.toBitVec_sub, Int32.toBitVec_neg]
    show y.toBitVec ^^^ BitVec.allOnes 32 = -y.toBitVec - 1#32
    rw [BitVec.xor_allOnes, BitVec.neg_eq_not_add, BitVec.add_sub_cancel]
  rw [e]
  cases c
  · show x + (-y - 1) + 1 = x - y - 0
    rw [Int32.sub_zero, Int32.add_assoc, Int32.sub_add_cancel, ← Int32.sub_eq_add_neg]
  · show x + (-y - 1) + 0 = x - y - 1
    rw [Int32.add_zero, Int32.sub_eq_add_neg (-y), ← Int32.add_assoc, ← Int32.sub_eq_add_neg, ← Int32.sub_eq_add_neg]
theorem m_diff (x y : Int32) (c : Bool) {w : Nat} (hw : 5 ≤ w) (hw2 : w < 30) (hN : 64 ≤ N) (J : Nat → Int32) : ∃ J' : Nat → Int32, J' 7 = b2 (!cr (w - 4) x (y ^^^ (-1)) (!c)) ∧ J' 8 = b2 (!cr w x (y ^^^ (-1)) (!c)) ∧ J' 9 = b2 (cr (w - 1) x (y ^^^ (-1)) (!c) ^^ cr w x (y ^^^ (-1)) (!c)) ∧ J' 10 = J 10 ∧
    f_M_difference N x y (b2 c) (nI w) (eM Z K m g pf pn pl J sh) = some (lo (x - y - b2 c) w, eM Z K m g pf pn pl J' sh) := by
  obtain ⟨J', q1, q2, q3, q4, q5⟩ := m_sum N Z K m g sh pf pn pl x (y ^^^ (-1)) (!c) hw hw2 hN J
  refine ⟨upd (upd J' 7 (b2 (!cr (w - 4) x (y ^^^ (-1)) (!c)))) 8 (b2 (!cr w x (y ^^^ (-1)) (!c))), by rw [pk_un (by decide), pk_us], pk_us, by rw [pk_un (by decide), pk_un (by decide)]; exact q3, by rw [pk_un (by decide), pk_un (by decide)]; exact q4, ?_⟩
  unfold f_M_difference f_M_difference_28 f_M_difference_44
  have e : (1 : Int32) - b2 c = b2 (!c) := by cases c <;> rfl
  rw [e, q5, xB_some, sub_eq, eM_hf, q1]
  have key : ∀ h : Bool, (if b2 h = 0 then xBo 1 (xPu (eM Z K m g pf pn pl J' sh) 0 7 1 fun S1 => if S1 0 8 = 0 then xBo 1 (xPu S1 0 8 1 fun S2 => some (lo (x - y - b2 c) w, S2)) else xBo 0 (xPu S1 0 8 0 fun S2 => some (lo (x - y - b2 c) w, S2))) else xBo 0 (xPu (eM Z K m g pf pn pl J' sh) 0 7 0 fun S1 => if S1 0 8 = 0 then xBo 1 (xPu S1 0 8 1 fun S2 => some (lo (x - y - b2 c) w, S2)) else xBo 0 (xPu S1 0 8 0 fun S2 => some (lo (x - y - b2 c) w, S2)))) = some (lo (x - y - b2 c) w, eM Z K m g pf pn pl (upd (upd J' 7 (b2 (!h))) 8 (b2 (!cr w x (y ^^^ (-1)) (!c)))) sh) := by
    intro h
    cases h <;> (simp only [b2, xBo_0, xBo_1, xPu_eq, uM_hf, uM_cy, eM_cy, pk_un (show (8 : Nat) ≠ 7 by decide), q2]; cases cr w x (y ^^^ (-1)) (!c) <;> rfl)
  exact key _
end AM
