/-! results and flags: what the class's arithmetic answers, in the reference's words -/
def fl (w : Int32) (c : Bool) : Int32 := if c then w else 0
def byv (v : Int32) : Int32 := (v &&& 168) ||| (if v = 0 then 64 else 0)
def byw (r : Int32) : Int32 := ((r >>> ((8 : Int32) &&& 31)) &&& 168) ||| (if r = 0 then 64 else 0)
def rsv (h o c : Bool) (n : Int32) : Int32 := ((fl 16 h ||| fl 4 o) ||| fl 1 c) ||| n
theorem or4 (x h o c : Int32) : ((x ||| h) ||| o) ||| c = x ||| (((h ||| o) ||| c) ||| 0) := by
  apply b_ext
  intro i _
  simp only [b_or, b_0]
  cases bt x i <;> cases bt h i <;> cases bt o i <;> cases bt c i <;> rfl
theorem or5 (x h o n c : Int32) : (((x ||| h) ||| o) ||| n) ||| c = x ||| (((h ||| o) ||| c) ||| n) := by
  apply b_ext
  intro i _
  simp only [b_or]
  cases bt x i <;> cases bt h i <;> cases bt o i <;> cases bt c i <;> cases bt n i <;> rfl
theorem bt_16 : ∀ i, i < 32 → bt 16 i = decide (i = 4) := by decide +kernel
theorem bt_128 : ∀ i, i < 32 → bt 128 i = decide (i = 7) := by decide +kernel
theorem bt_32768 : ∀ i, i < 32 → bt 32768 i = decide (i = 15) := by decide +kernel
theorem an_16 (x : Int32) : x &&& 16 = fl 16 (bt x 4) := by
  apply b_ext
  intro i hi
  rw [b_and, bt_16 i hi]
  unfold fl
  by_cases h : i = 4
  · subst h; cases bt x 4 <;> decide
  · cases bt x 4
    · simp [h, b_0]
    · rw [if_pos rfl, bt_16 i hi]; simp [h]
theorem an_128 (x : Int32) : x &&& 128 = fl 128 (bt x 7) := by
  apply b_ext
  intro i hi
  rw [b_and, bt_128 i hi]
  unfold fl
  by_cases h : i = 7
  · subst h; cases bt x 7 <;> decide
  · cases bt x 7
    · simp [h, b_0]
    · rw [if_pos rfl, bt_128 i hi]; simp [h]
theorem an_32768 (x : Int32) : x &&& 32768 = fl 32768 (bt x 15) := by
  apply b_ext
  intro i hi
  rw [b_and, bt_32768 i hi]
  unfold fl
  by_cases h : i = 15
  · subst h; cases bt x 15 <;> decide
  · cases bt x 15
    · simp [h, b_0]
    · rw [if_pos rfl, bt_32768 i hi]; simp [h]
theorem fl_sh5 : ∀ c : Bool, fl 128 c >>> ((5 : Int32) &&& 31) = fl 4 c := by decide
theorem fl_sh13 : ∀ c : Bool, fl 32768 c >>> ((13 : Int32) &&& 31) = fl 4 c := by decide
theorem bt_n (n : Nat) {i : Nat} (hi : i < 32) : bt (nI n) i = n.testBit i := by
  unfold bt
  show (BitVec.ofNat 32 n).getLsbD i = _
  rw [BitVec.getLsbD_ofNat]; simp [hi]
theorem By.bt {x : Int32} (h : By x) {i : Nat} (hi : 8 ≤ i) : bt x i = false := by
  obtain ⟨n, hn, rfl⟩ := h
  rcases Nat.lt_or_ge i 32 with h | h
  · rw [bt_n n h]
    exact Nat.testBit_lt_two_pow (Nat.lt_of_lt_of_le (by omega : n < 2 ^ 8) (Nat.pow_le_pow_right (by decide) hi))
  · exact b_big h
theorem Wd.bt {x : Int32} (h : Wd x) {i : Nat} (hi : 16 ≤ i) : bt x i = false := by
  obtain ⟨n, hn, rfl⟩ := h
  rcases Nat.lt_or_ge i 32 with h | h
  · rw [bt_n n h]
    exact Nat.testBit_lt_two_pow (Nat.lt_of_lt_of_le (by omega : n < 2 ^ 16) (Nat.pow_le_pow_right (by decide) hi))
  · exact b_big h
theorem lo8_by (s : Int32) : By (lo s 8) := ⟨_, Nat.mod_lt _ (by decide), rfl⟩
theorem lo16_wd (s : Int32) : Wd (lo s 16) := ⟨_, Nat.mod_lt _ (by decide), rfl⟩
section AC
variable (N : Nat) (S : xSt)
theorem c_by (v : Int32) : f_A_by N v S = some (byv v, S) := by
  unfold f_A_by f_A_by_15 byv
  split <;> rfl
theorem m_by (v : Int32) : f_M_by N v S = some (byv v, S) := by
  unfold f_M_by f_M_by_15 byv
  split <;> rfl
theorem wide_sh (s : Int32) : (s >>> ((8 : Int32) &&& 31)) &&& 168 = (lo s 16 >>> ((8 : Int32) &&& 31)) &&& 168 := by
  have hb : ∀ i, i < 32 → 8 ≤ i → bt 168 i = false := by decide +kernel
  apply b_ext
  intro i hi
  rw [b_and, b_and, b_sshr8 s hi, b_sshr8 _ hi]
  rcases Nat.lt_or_ge i 8 with h | h
  · rw [if_pos (by omega), if_pos (by omega), bt_lo s (by decide) (by omega)]
    simp [show 8 + i < 16 by omega]
  · rw [hb i hi h, Bool.and_false, Bool.and_false]
theorem c_byWide (s : Int32) : f_A_byWide N s S = some (byw (lo s 16), S) := by
  unfold f_A_byWide f_A_byWide_21 byw
  rw [lo_16, wide_sh]
  split <;> rfl
theorem c_plus {a v : Int32} (ha : By a) (hv : By v) (c : Bool) : f_A_plus N a v (b2 c) S = some (pw (lo (a + v + b2 c) 8) (byv (lo (a + v + b2 c) 8) ||| rsv (cr 4 a v c) (cr 7 a v c ^^ cr 8 a v c) (cr 8 a v c) 0), S) := by
  unfold f_A_plus rsv
  simp only [xV_eq, c_by, xB_some]
  have h4 : ((a ^^^ v) ^^^ (a + v + b2 c)) &&& 16 = fl 16 (cr 4 a v c) := by
    rw [an_16, b_xor, b_xor, s_bit a v c (by decide)]
    cases bt a 4 <;> cases bt v 4 <;> cases cr 4 a v c <;> rfl
  have h7 : (((a ^^^ (a + v + b2 c)) &&& (v ^^^ (a + v + b2 c))) &&& 128) >>> ((5 : Int32) &&& 31) = fl 4 (cr 7 a v c ^^ cr 8 a v c) := by
    rw [an_128, fl_sh5, b_and, b_xor, b_xor, s_bit a v c (by decide), cr_s 7]
    cases bt a 7 <;> cases bt v 7 <;> cases cr 7 a v c <;> rfl
  have h8 : ((a + v + b2 c) >>> ((8 : Int32) &&& 31)) &&& 1 = fl 1 (cr 8 a v c) := by
    rw [show ((8 : Int32) &&& 31) = (nI 8 &&& 31) from rfl, sh_bit _ (by decide), s_bit a v c (by decide), ha.bt (by decide), hv.bt (by decide)]
    cases cr 8 a v c <;> rfl
  rw [h4, h7, h8, or4, lo_8]
  rfl
theorem c_minus {a v : Int32} (ha : By a) (hv : By v) (c : Bool) : f_A_minus N a v (b2 c) S = some (pw (lo (a - v - b2 c) 8) (byv (lo (a - v - b2 c) 8) ||| rsv (!cr 4 a (v ^^^ (-1)) (!c)) (cr 7 a (v ^^^ (-1)) (!c) ^^ cr 8 a (v ^^^ (-1)) (!c)) (!cr 8 a (v ^^^ (-1)) (!c)) 2), S) := by
  unfold f_A_minus rsv
  simp only [xV_eq, c_by, xB_some]
  have sb : ∀ {i : Nat}, i < 32 → bt (a - v - b2 c) i = (bt a i ^^ ((!bt v i) ^^ cr i a (v ^^^ (-1)) (!c))) := by
    intro i hi
    rw [← sub_eq, s_bit a _ _ hi, b_xor, b_m1 i hi, Bool.xor_true]
  have h4 : ((a ^^^ v) ^^^ (a - v - b2 c)) &&& 16 = fl 16 (!cr 4 a (v ^^^ (-1)) (!c)) := by
    rw [an_16, b_xor, b_xor, sb (by decide)]
    cases bt a 4 <;> cases bt v 4 <;> cases cr 4 a (v ^^^ (-1)) (!c) <;> rfl
  have h7 : (((a ^^^ v) &&& (a ^^^ (a - v - b2 c))) &&& 128) >>> ((5 : Int32) &&& 31) = fl 4 (cr 7 a (v ^^^ (-1)) (!c) ^^ cr 8 a (v ^^^ (-1)) (!c)) := by
    rw [an_128, fl_sh5, b_and, b_xor, b_xor, sb (by decide), cr_s 7, b_xor, b_m1 7 (by decide), Bool.xor_true]
    cases bt a 7 <;> cases bt v 7 <;> cases cr 7 a (v ^^^ (-1)) (!c) <;> rfl
  have h8 : ((a - v - b2 c) >>> ((8 : Int32) &&& 31)) &&& 1 = fl 1 (!cr 8 a (v ^^^ (-1)) (!c)) := by
    rw [show ((8 : Int32) &&& 31) = (nI 8 &&& 31) from rfl, sh_bit _ (by decide), sb (by decide), ha.bt (by decide), hv.bt (by decide)]
    cases cr 8 a (v ^^^ (-1)) (!c) <;> rfl
  rw [h4, h7, h8, or5, lo_8]
  rfl
theorem sh8_16 (x : Int32) : (x >>> ((8 : Int32) &&& 31)) &&& 16 = fl 16 (bt x 12) := by
  rw [an_16, b_sshr8 x (by decide), if_pos (by decide)]
theorem c_plusWide {a v : Int32} (ha : Wd a) (hv : Wd v) (c : Bool) : f_A_plusWide N a v (b2 c) S = some (pw (lo (a + v + b2 c) 16) (byw (lo (a + v + b2 c) 16) ||| rsv (cr 12 a v c) (cr 15 a v c ^^ cr 16 a v c) (cr 16 a v c) 0), S) := by
  unfold f_A_plusWide rsv
  simp only [xV_eq, c_byWide, xB_some]
  have h4 : (((a ^^^ v) ^^^ (a + v + b2 c)) >>> ((8 : Int32) &&& 31)) &&& 16 = fl 16 (cr 12 a v c) := by
    rw [sh8_16, b_xor, b_xor, s_bit a v c (by decide)]
    cases bt a 12 <;> cases bt v 12 <;> cases cr 12 a v c <;> rfl
  have h7 : (((a ^^^ (a + v + b2 c)) &&& (v ^^^ (a + v + b2 c))) &&& 32768) >>> ((13 : Int32) &&& 31) = fl 4 (cr 15 a v c ^^ cr 16 a v c) := by
    rw [an_32768, fl_sh13, b_and, b_xor, b_xor, s_bit a v c (by decide), cr_s 15]
    cases bt a 15 <;> cases bt v 15 <;> cases cr 15 a v c <;> rfl
  have h8 : ((a + v + b2 c) >>> ((16 : Int32) &&& 31)) &&& 1 = fl 1 (cr 16 a v c) := by
    rw [show ((16 : Int32) &&& 31) = (nI 16 &&& 31) from rfl, sh_bit _ (by decide), s_bit a v c (by decide), ha.bt (by decide), hv.bt (by decide)]
    cases cr 16 a v c <;> rfl
  rw [h4, h7, h8, or4, lo_16]
  rfl
theorem c_minusWide {a v : Int32} (ha : Wd a) (hv : Wd v) (c : Bool) : f_A_minusWide N a v (b2 c) S = some (pw (lo (a - v - b2 c) 16) (byw (lo (a - v - b2 c) 16) ||| rsv (!cr 12 a (v ^^^ (-1)) (!c)) (cr 15 a (v ^^^ (-1)) (!c) ^^ cr 16 a (v ^^^ (-1)) (!c)) (!cr 16 a (v ^^^ (-1)) (!c)) 2), S) := by
  unfold f_A_minusWide rsv
  simp only [xV_eq, c_byWide, xB_some]
  have sb : ∀ {i : Nat}, i < 32 → bt (a - v - b2 c) i = (bt a i ^^ ((!bt v i) ^^ cr i a (v ^^^ (-1)) (!c))) := by
    intro i hi
    rw [← sub_eq, s_bit a _ _ hi, b_xor, b_m1 i hi, Bool.xor_true]
  have h4 : (((a ^^^ v) ^^^ (a - v - b2 c)) >>> ((8 : Int32) &&& 31)) &&& 16 = fl 16 (!cr 12 a (v ^^^ (-1)) (!c)) := by
    rw [sh8_16, b_xor, b_xor, sb (by decide)]
    cases bt a 12 <;> cases bt v 12 <;> cases cr 12 a (v ^^^ (-1)) (!c) <;> rfl
  have h7 : (((a ^^^ v) &&& (a ^^^ (a - v - b2 c))) &&& 32768) >>> ((13 : Int32) &&& 31) = fl 4 (cr 15 a (v ^^^ (-1)) (!c) ^^ cr 16 a (v ^^^ (-1)) (!c)) := by
    rw [an_32768, fl_sh13, b_and, b_xor, b_xor, sb (by decide), cr_s 15, b_xor, b_m1 15 (by decide), Bool.xor_true]
    cases bt a 15 <;> cases bt v 15 <;> cases cr 15 a (v ^^^ (-1)) (!c) <;> rfl
  have h8 : ((a - v - b2 c) >>> ((16 : Int32) &&& 31)) &&& 1 = fl 1 (!cr 16 a (v ^^^ (-1)) (!c)) := by
    rw [show ((16 : Int32) &&& 31) = (nI 16 &&& 31) from rfl, sh_bit _ (by decide), sb (by decide), ha.bt (by decide), hv.bt (by decide)]
    cases cr 16 a (v ^^^ (-1)) (!c) <;> rfl
  rw [h4, h7, h8, or5, lo_16]
  rfl
theorem m_rest (Z K : xSt) (m g : Nat → Int32) (sh pf pn pl : Int32) (J : Nat → Int32) {h o c : Bool} (h7 : J 7 = b2 h) (h9 : J 9 = b2 o) (h8 : J 8 = b2 c) (n : Int32) : f_M_rest N n (eM Z K m g pf pn pl J sh) = some (rsv h o c n, eM Z K m g pf pn pl J sh) := by
  unfold f_M_rest f_M_rest_13 f_M_rest_25 f_M_rest_38 rsv
  simp only [eM_hf, eM_ov, eM_cy, h7, h9, h8]
  cases h <;> cases o <;> cases c <;> rfl
end AC
theorem By.or {x y : Int32} (hx : By x) (hy : By y) : By (x ||| y) := by
  obtain ⟨a, ha, rfl⟩ := hx
  obtain ⟨b, hb, rfl⟩ := hy
  exact ⟨a ||| b, Nat.or_lt_two_pow (n := 8) ha hb, nor⟩
theorem By.fl {w : Int32} (hw : By w) (c : Bool) : By (fl w c) := by
  cases c
  · exact ⟨0, by decide, rfl⟩
  · exact hw
theorem by_c (n : Nat) (h : n < 256) : By (nI n) := ⟨n, h, rfl⟩
theorem an_by (x : Int32) {w : Int32} (hw : By w) : By (x &&& w) := by
  obtain ⟨n, hn, rfl⟩ := hw
  have e : x &&& nI n = (x &&& 255) &&& nI n := by
    rw [Int32.and_assoc]
    congr 1
    rw [Int32.and_comm, pk_andN (by omega) (m := 255) 8 (by decide), Nat.mod_eq_of_lt hn]
  obtain ⟨k, hk, ek⟩ := and8 x
  rw [e, ek]
  refine ⟨k &&& n, Nat.lt_of_le_of_lt Nat.and_le_right hn, ?_⟩
  apply Int32.toBitVec_inj.mp
  show BitVec.ofNat 32 k &&& BitVec.ofNat 32 n = BitVec.ofNat 32 (k &&& n)
  apply BitVec.eq_of_toNat_eq
  simp [Nat.and_mod_two_pow]
theorem byv_by (v : Int32) : By (byv v) := by
  unfold byv
  refine (an_by v (by_c 168 (by decide))).or ?_
  split
  · exact by_c 64 (by decide)
  · exact by_c 0 (by decide)
theorem byw_by (v : Int32) : By (byw v) := by
  unfold byw
  refine (an_by _ (by_c 168 (by decide))).or ?_
  split
  · exact by_c 64 (by decide)
  · exact by_c 0 (by decide)
theorem rsv_by (h o c : Bool) {n : Int32} (hn : By n) : By (rsv h o c n) := (((By.fl (by_c 16 (by decide)) h).or (By.fl (by_c 4 (by decide)) o)).or (By.fl (by_c 1 (by decide)) c)).or hn
theorem pw_lo {r f : Int32} (hr : Wd r) (hf : By f) : pw r f &&& 255 = f := by
  obtain ⟨a, ha, rfl⟩ := hr
  obtain ⟨b, hb, rfl⟩ := hf
  rw [pw_n ha hb, pk_andN (by omega) (m := 255) 8 (by decide)]
  congr 1
  omega
theorem pw_hi {r f : Int32} (hr : Wd r) (hf : By f) : pw r f >>> ((8 : Int32) &&& 31) = r := by
  obtain ⟨a, ha, rfl⟩ := hr
  obtain ⟨b, hb, rfl⟩ := hf
  rw [pw_n ha hb, pk_shrN (by omega) _ 8 (by decide)]
  congr 1
  omega
theorem By.a255 {r : Int32} (h : By r) : r &&& 255 = r := by
  obtain ⟨a, ha, rfl⟩ := h
  rw [pk_andN (by omega) (m := 255) 8 (by decide)]
  congr 1
  omega
theorem Wd.a65535 {r : Int32} (h : Wd r) : r &&& 65535 = r := by
  obtain ⟨a, ha, rfl⟩ := h
  rw [pk_andN (by omega) (m := 65535) 16 (by decide)]
  congr 1
  omega
theorem gSp_pw (g : Nat → Int32) (j : Nat) {r f : Int32} (hr : By r) (hf : By f) : gSp g j (pw r f) = upd (upd g j r) (j + 1) f := by
  unfold gSp
  rw [pw_hi hr.wd hf, pw_lo hr.wd hf, hr.a255]
theorem gSp_gd {g : Nat → Int32} (h : Gd g) {j : Nat} (hj : j < 17) (v : Int32) : Gd (gSp g j v) := (h.u8 (by omega) (and8 _)).u8 (by omega) (and8 _)
