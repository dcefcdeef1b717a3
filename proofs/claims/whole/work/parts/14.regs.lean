/-! registers and what is reached by them, on both sides -/
def By (x : Int32) : Prop := ∃ n : Nat, n < 256 ∧ x = nI n
def Wd (x : Int32) : Prop := ∃ n : Nat, n < 65536 ∧ x = nI n
def Bm (m : Nat → Int32) : Prop := ∀ i, By (m i)
def Gd (g : Nat → Int32) : Prop := (∀ i, i < 18 → By (g i)) ∧ (∀ i, 18 ≤ i → i < 22 → Wd (g i)) ∧ (∀ i, 22 ≤ i → i < 24 → g i = 0 ∨ g i = 1) ∧ (g 24 = 0 ∨ g 24 = 1 ∨ g 24 = 2) ∧ (g 25 = 0 ∨ g 25 = 1)
def pw (h l : Int32) : Int32 := (h <<< ((8 : Int32) &&& 31)) ||| l
theorem nor {a b : Nat} : nI a ||| nI b = nI (a ||| b) := by
  apply Int32.toBitVec_inj.mp
  show BitVec.ofNat 32 a ||| BitVec.ofNat 32 b = BitVec.ofNat 32 (a ||| b)
  apply BitVec.eq_of_toNat_eq
  simp [Nat.or_mod_two_pow]
theorem nsh8 {n : Nat} (h : n < 2 ^ 24) : nI n <<< ((8 : Int32) &&& 31) = nI (n * 256) := pk_shlN _ 8 (by decide) (by omega)
theorem nI_ne {k c : Nat} {x : Int32} (hx : x = nI c) (hk : k < 2 ^ 31) (hc : c < 2 ^ 31) (h : k ≠ c) : ¬ nI k = x := fun e => h ((nI_eq hk hc).mp (e.trans hx))
theorem nI_nl {k c : Nat} {x : Int32} (hx : x = nI c) (hk : k < 2 ^ 31) (h : c ≤ k) : ¬ nI k < x := by rw [hx]; exact nI_nlt h hk
theorem pw_n {h l : Nat} (hh : h < 65536) (hl : l < 256) : pw (nI h) (nI l) = nI (256 * h + l) := by
  unfold pw
  rw [nsh8 (by omega), nor]
  congr 1
  have := Nat.two_pow_add_eq_or_of_lt (i := 8) (b := l) (by omega) h
  rw [show h * 256 = 2 ^ 8 * h by omega, ← this]
theorem pw_eq {h l : Int32} (hh : By h) (hl : By l) : (256 : Int32) * h + l = pw h l := by
  obtain ⟨a, ha, rfl⟩ := hh
  obtain ⟨c, hc, rfl⟩ := hl
  rw [pw_n (by omega) hc, show (256 : Int32) = nI 256 from rfl, pk_mul, nI_add]
theorem pw_or {h l : Int32} : l ||| (h <<< ((8 : Int32) &&& 31)) = pw h l := Int32.or_comm _ _
theorem pw_wd {h l : Int32} (hh : By h) (hl : By l) : Wd (pw h l) := by
  obtain ⟨a, ha, rfl⟩ := hh
  obtain ⟨c, hc, rfl⟩ := hl
  exact ⟨256 * a + c, by omega, pw_n (by omega) hc⟩
theorem and8 (x : Int32) : By (x &&& 255) := by
  obtain ⟨j, hj, e⟩ := pk_andE x (m := 255) 8 (by decide)
  exact ⟨j, hj, e⟩
theorem and16 (x : Int32) : Wd (x &&& 65535) := by
  obtain ⟨j, hj, e⟩ := pk_andE x (m := 65535) 16 (by decide)
  exact ⟨j, hj, e⟩
theorem By.wd {x : Int32} (h : By x) : Wd x := by obtain ⟨n, hn, e⟩ := h; exact ⟨n, by omega, e⟩
theorem Bm.upd {m : Nat → Int32} (h : Bm m) {i : Nat} {v : Int32} (hv : By v) : Bm (upd m i v) := by
  intro j
  by_cases hj : j = i
  · subst hj; rw [pk_us]; exact hv
  · rw [pk_un hj]; exact h j
theorem Bm.mw {m : Nat → Int32} (h : Bm m) (a v : Int32) : Bm (mW m a v) := by
  unfold mW
  split
  · exact h
  · exact h.upd (and8 v)
theorem Gd.u8 {g : Nat → Int32} (h : Gd g) {i : Nat} (hi : i < 18) {v : Int32} (hv : By v) : Gd (upd g i v) := by
  obtain ⟨h1, h2, h3, h4, h5⟩ := h
  refine ⟨fun j hj => ?_, fun j a b => ?_, fun j a b => ?_, ?_, ?_⟩
  · by_cases e : j = i
    · subst e; rw [pk_us]; exact hv
    · rw [pk_un e]; exact h1 j hj
  · rw [pk_un (by omega)]; exact h2 j a b
  · rw [pk_un (by omega)]; exact h3 j a b
  · rw [pk_un (by omega)]; exact h4
  · rw [pk_un (by omega)]; exact h5
theorem Gd.u16 {g : Nat → Int32} (h : Gd g) {i : Nat} (ha : 18 ≤ i) (hb : i < 22) {v : Int32} (hv : Wd v) : Gd (upd g i v) := by
  obtain ⟨h1, h2, h3, h4, h5⟩ := h
  refine ⟨fun j hj => ?_, fun j a b => ?_, fun j a b => ?_, ?_, ?_⟩
  · rw [pk_un (by omega)]; exact h1 j hj
  · by_cases e : j = i
    · subst e; rw [pk_us]; exact hv
    · rw [pk_un e]; exact h2 j a b
  · rw [pk_un (by omega)]; exact h3 j a b
  · rw [pk_un (by omega)]; exact h4
  · rw [pk_un (by omega)]; exact h5
theorem Gd.uF {g : Nat → Int32} (h : Gd g) {i : Nat} (ha : 22 ≤ i) (hb : i < 24) {v : Int32} (hv : v = 0 ∨ v = 1) : Gd (upd g i v) := by
  obtain ⟨h1, h2, h3, h4, h5⟩ := h
  refine ⟨fun j hj => ?_, fun j a b => ?_, fun j a b => ?_, ?_, ?_⟩
  · rw [pk_un (by omega)]; exact h1 j hj
  · rw [pk_un (by omega)]; exact h2 j a b
  · by_cases e : j = i
    · subst e; rw [pk_us]; exact hv
    · rw [pk_un e]; exact h3 j a b
  · rw [pk_un (by omega)]; exact h4
  · rw [pk_un (by omega)]; exact h5
theorem Gd.u24 {g : Nat → Int32} (h : Gd g) {v : Int32} (hv : v = 0 ∨ v = 1 ∨ v = 2) : Gd (upd g 24 v) := by
  obtain ⟨h1, h2, h3, h4, h5⟩ := h
  refine ⟨fun j hj => ?_, fun j a b => ?_, fun j a b => ?_, ?_, ?_⟩
  · rw [pk_un (by omega)]; exact h1 j hj
  · rw [pk_un (by omega)]; exact h2 j a b
  · rw [pk_un (by omega)]; exact h3 j a b
  · rw [pk_us]; exact hv
  · rw [pk_un (by omega)]; exact h5
theorem Gd.u25 {g : Nat → Int32} (h : Gd g) {v : Int32} (hv : v = 0 ∨ v = 1) : Gd (upd g 25 v) := by
  obtain ⟨h1, h2, h3, h4, h5⟩ := h
  refine ⟨fun j hj => ?_, fun j a b => ?_, fun j a b => ?_, ?_, ?_⟩
  · rw [pk_un (by omega)]; exact h1 j hj
  · rw [pk_un (by omega)]; exact h2 j a b
  · rw [pk_un (by omega)]; exact h3 j a b
  · rw [pk_un (by omega)]; exact h4
  · rw [pk_us]; exact hv
/-! words: what the program counter and addresses do modulo 65536 -/
theorem an_an (x : Int32) : (x &&& 65535) &&& 4095 = x &&& 4095 := by rw [Int32.and_assoc]; rfl
theorem an_sh (x : Int32) : (x &&& 65535) &&& 3072 = x &&& 3072 := by rw [Int32.and_assoc]; rfl
theorem ix_and (x : Int32) : ix (x &&& 65535) = ix x := by unfold ix; rw [an_an]
theorem zA_and (Z : xSt) (x n : Int32) : zA Z (x &&& 65535) n = zA Z x n := by unfold zA zS; rw [an_sh]
theorem mW_and (m : Nat → Int32) (x v : Int32) : mW m (x &&& 65535) v = mW m x v := by unfold mW; rw [an_an, ix_and]
theorem an2 (x y : Int32) : ((x &&& 65535) + y) &&& 65535 = (x + y) &&& 65535 := by
  have hm : (65535 : Int32).toBitVec.toNat = 2 ^ 16 - 1 := by decide
  rw [pk_and ((x &&& 65535) + y) 16 hm, pk_and (x + y) 16 hm, pk_and x 16 hm]
  congr 1
  rw [Int32.toBitVec_add, Int32.toBitVec_add, BitVec.toNat_add, BitVec.toNat_add, pk_tn (by omega)]
  omega
theorem ix2 (x y : Int32) : ix ((x &&& 65535) + y) = ix (x + y) := by rw [← ix_and, an2, ix_and]
theorem zA2 (Z : xSt) (x y n : Int32) : zA Z ((x &&& 65535) + y) n = zA Z (x + y) n := by rw [← zA_and, an2, zA_and]
theorem mW2 (m : Nat → Int32) (x y v : Int32) : mW m ((x &&& 65535) + y) v = mW m (x + y) v := by rw [← mW_and, an2, mW_and]
def gR (g : Nat → Int32) : Nat → Int32 := upd g 17 ((g 17 &&& 128) ||| ((g 17 + 1) &&& 127))
def gPC (g : Nat → Int32) (k : Int32) : Nat → Int32 := upd g 21 ((g 21 + k) &&& 65535)
def hlv (b : Nat) (g : Nat → Int32) : Int32 := if b = 6 then pw (g 6) (g 7) else g b
def gSp (g : Nat → Int32) (j : Nat) (v : Int32) : Nat → Int32 := upd (upd g j ((v >>> ((8 : Int32) &&& 31)) &&& 255)) (j + 1) (v &&& 255)
def gHl (b : Nat) (g : Nat → Int32) (v : Int32) : Nat → Int32 := if b = 6 then gSp g 6 v else upd g b (v &&& 65535)
def prv (b : Nat) (g : Nat → Int32) (k : Nat) : Int32 := if k = 3 then g 20 else if k = 2 then hlv b g else pw (g (2 + 2 * k)) (g (3 + 2 * k))
def gPr (b : Nat) (g : Nat → Int32) (k : Nat) (v : Int32) : Nat → Int32 := if k = 3 then upd g 20 (v &&& 65535) else if k = 2 then gHl b g v else gSp g (2 + 2 * k) v
def sgv (b : Nat) (g : Nat → Int32) (k : Nat) : Int32 := if k = 7 then g 0 else if k < 4 ∨ b = 6 then g (2 + k) else if k = 4 then g b >>> ((8 : Int32) &&& 31) else g b &&& 255
def gSg (b : Nat) (g : Nat → Int32) (k : Nat) (v : Int32) : Nat → Int32 := if k = 7 then upd g 0 v else if k < 4 ∨ b = 6 then upd g (2 + k) v else if k = 4 then upd g b ((g b &&& 255) ||| (v <<< ((8 : Int32) &&& 31))) else upd g b ((g b &&& 65280) ||| v)
def Bs (b : Nat) : Prop := b = 6 ∨ b = 18 ∨ b = 19
section RC
variable (N : Nat) (Z : xSt) (m g : Nat → Int32) (b : Nat) (pm sh : Int32)
theorem c_refresh (B : Int32) : f_P_refresh N (eC Z m g B pm sh) = some (0, eC Z m (gR g) B pm sh) := by
  unfold f_P_refresh gR
  simp only [xr_17, xw_17, eC_g, uC_g]
theorem c_movePc (B k : Int32) : f_P_movePc N k (eC Z m g B pm sh) = some (0, eC Z m (gPC g k) B pm sh) := by
  unfold f_P_movePc gPC
  simp only [xr_21, xw_21, eC_g, uC_g]
theorem c_fetch (B : Int32) : f_P_fetch N (eC Z m g B pm sh) = some (m (ix (g 21)), eC (zA Z (g 21) 4) m (gR (gPC g 1)) B pm sh) := by
  unfold f_P_fetch
  simp only [xr_21, eC_g, c_fetchAt, xB_some, c_movePc, c_refresh]
theorem c_nextByte (B : Int32) : f_P_nextByte N (eC Z m g B pm sh) = some (m (ix (g 21)), eC (zA Z (g 21) 3) m (gPC g 1) B pm sh) := by
  unfold f_P_nextByte
  simp only [xr_21, eC_g, c_read, xB_some, c_movePc]
theorem c_nextWord (B : Int32) : f_P_nextWord N (eC Z m g B pm sh) = some (pw (m (ix (g 21 + 1))) (m (ix (g 21))), eC (zA (zA Z (g 21) 3) (g 21 + 1) 3) m (gPC g 2) B pm sh) := by
  unfold f_P_nextWord
  simp only [xr_21, eC_g, c_read, xB_some, c_movePc]
  rfl
theorem c_readWord (B a : Int32) : f_P_readWord N a (eC Z m g B pm sh) = some (pw (m (ix (a + 1))) (m (ix a)), eC (zA (zA Z a 3) (a + 1) 3) m g B pm sh) := by
  unfold f_P_readWord
  simp only [c_read, xB_some, pw_or]
theorem c_writeWord (B a v : Int32) : f_P_writeWord N a v (eC Z m g B pm sh) = some (0, eC (zA (zA Z a 3) (a + 1) 3) (mW (mW m a v) (a + 1) (v >>> ((8 : Int32) &&& 31))) g B pm sh) := by
  unfold f_P_writeWord
  simp only [c_write, xB_some]
theorem c_push (B v : Int32) : f_P_push N v (eC Z m g B pm sh) = some (0, eC (zA (zA Z (g 20 - 1) 3) (g 20 - 2) 3) (mW (mW m (g 20 - 1) (v >>> ((8 : Int32) &&& 31))) (g 20 - 2) v) (upd g 20 ((g 20 - 2) &&& 65535)) B pm sh) := by
  have e : ((g 20 - 1) &&& 65535) - 1 = ((g 20 - 1) &&& 65535) + (-1) := by rw [Int32.sub_eq_add_neg]
  have e2 : g 20 - 1 + (-1) = g 20 - 2 := by
    rw [Int32.sub_eq_add_neg, Int32.sub_eq_add_neg, Int32.add_assoc]; rfl
  unfold f_P_push
  simp only [xr_20, xw_20, eC_g, uC_g, pk_us, c_write, xB_some, e, an2, zA2, mW2, e2, upd_upd, zA_and, mW_and]
theorem c_pop (B : Int32) : f_P_pop N (eC Z m g B pm sh) = some (pw (m (ix (g 20 + 1))) (m (ix (g 20))), eC (zA (zA Z (g 20) 3) (g 20 + 1) 3) m (upd g 20 ((g 20 + 2) &&& 65535)) B pm sh) := by
  unfold f_P_pop
  simp only [xr_20, xw_20, eC_g, uC_g, c_readWord, xB_some]
theorem c_joined (B : Int32) {a : Int32} {j : Nat} (ha : a = nI j) (hj : j < 25) : f_G_joined N a (eC Z m g B pm sh) = some (pw (g j) (g (j + 1)), eC Z m g B pm sh) := by
  subst ha
  unfold f_G_joined
  rw [nI_1, x_rd _ _ _ _ (by omega) (by decide), x_rd _ _ _ _ (by omega) (by decide)]
  rfl
theorem c_split (B v : Int32) {a : Int32} {j : Nat} (ha : a = nI j) (hj : j < 25) : f_G_split N a v (eC Z m g B pm sh) = some (0, eC Z m (gSp g j v) B pm sh) := by
  subst ha
  unfold f_G_split gSp
  rw [nI_1, x_wr _ _ _ _ (by omega) (by decide), x_wr _ _ _ _ (by omega) (by decide), uC_g, uC_g]
theorem c_hl (hb : Bs b) : f_G_hl N (eC Z m g (nI b) pm sh) = some (hlv b g, eC Z m g (nI b) pm sh) := by
  unfold f_G_hl f_G_hl_27 hlv
  rcases hb with rfl | rfl | rfl
  · rw [eC_b, if_pos (by decide), c_joined N Z m g pm sh _ (a := 6) (j := 6) rfl (by decide)]; rfl
  · rw [eC_b, if_neg (by decide), x_rd _ _ _ _ (by decide) (by decide)]; rfl
  · rw [eC_b, if_neg (by decide), x_rd _ _ _ _ (by decide) (by decide)]; rfl
theorem c_setHl (hb : Bs b) (v : Int32) : f_G_setHl N v (eC Z m g (nI b) pm sh) = some (0, eC Z m (gHl b g v) (nI b) pm sh) := by
  unfold f_G_setHl f_G_setHl_32 gHl
  rcases hb with rfl | rfl | rfl
  · rw [eC_b, if_pos (by decide), c_split N Z m g pm sh _ v (a := 6) (j := 6) rfl (by decide)]; rfl
  · rw [eC_b, if_neg (by decide), x_wr _ _ _ _ (by decide) (by decide), uC_g]; rfl
  · rw [eC_b, if_neg (by decide), x_wr _ _ _ _ (by decide) (by decide), uC_g]; rfl
theorem n2k (k : Nat) : (2 : Int32) + 2 * nI k = nI (2 + 2 * k) := by
  rw [show (2 : Int32) = nI 2 from rfl, pk_mul, nI_add]
theorem c_pair (hb : Bs b) {a : Int32} {k : Nat} (ha : a = nI k) (hk : k < 4) : f_G_pair N a (eC Z m g (nI b) pm sh) = some (prv b g k, eC Z m g (nI b) pm sh) := by
  subst ha
  unfold f_G_pair f_G_pair_34 prv
  by_cases h3 : k = 3
  · subst h3; rw [if_pos (by decide), xr_20]; rfl
  · rw [if_neg (nI_ne (x := 3) (c := 3) rfl (by omega) (by decide) h3), if_neg h3]
    by_cases h2 : k = 2
    · subst h2; rw [if_pos (by decide), c_hl N Z m g b pm sh hb]; rfl
    · rw [if_neg (nI_ne (x := 2) (c := 2) rfl (by omega) (by decide) h2), if_neg h2, n2k, c_joined N Z m g pm sh _ rfl (by omega), xB_some, show 2 + 2 * k + 1 = 3 + 2 * k by omega]
theorem c_setPair (hb : Bs b) {a : Int32} {k : Nat} (ha : a = nI k) (hk : k < 4) (v : Int32) : f_G_setPair N a v (eC Z m g (nI b) pm sh) = some (0, eC Z m (gPr b g k v) (nI b) pm sh) := by
  subst ha
  unfold f_G_setPair f_G_setPair_42 gPr
  by_cases h3 : k = 3
  · subst h3; rw [if_pos (by decide), xw_20, uC_g]; rfl
  · rw [if_neg (nI_ne (x := 3) (c := 3) rfl (by omega) (by decide) h3), if_neg h3]
    by_cases h2 : k = 2
    · subst h2; rw [if_pos (by decide), c_setHl N Z m g b pm sh hb]; rfl
    · rw [if_neg (nI_ne (x := 2) (c := 2) rfl (by omega) (by decide) h2), if_neg h2, n2k, c_split N Z m g pm sh _ v rfl (by omega), xB_some]
theorem c_single (hb : Bs b) {a : Int32} {k : Nat} (ha : a = nI k) (hk : k < 8) (h6 : k ≠ 6) : f_G_single N a (eC Z m g (nI b) pm sh) = some (sgv b g k, eC Z m g (nI b) pm sh) := by
  subst ha
  rcases hb with rfl | rfl | rfl <;> (rcases (show k = 0 ∨ k = 1 ∨ k = 2 ∨ k = 3 ∨ k = 4 ∨ k = 5 ∨ k = 7 by omega) with rfl | rfl | rfl | rfl | rfl | rfl | rfl <;> rfl)
theorem c_setSingle (hb : Bs b) {a : Int32} {k : Nat} (ha : a = nI k) (hk : k < 8) (h6 : k ≠ 6) (v : Int32) : f_G_setSingle N a v (eC Z m g (nI b) pm sh) = some (0, eC Z m (gSg b g k v) (nI b) pm sh) := by
  subst ha
  have e : ∀ (i : Nat) (x : Int32), xU (eC Z m g (nI b) pm sh) 10 i x = eC Z m (upd g i x) (nI b) pm sh := fun i x => uC_g Z m g (nI b) pm sh i x
  rcases hb with rfl | rfl | rfl <;> (rcases (show k = 0 ∨ k = 1 ∨ k = 2 ∨ k = 3 ∨ k = 4 ∨ k = 5 ∨ k = 7 by omega) with rfl | rfl | rfl | rfl | rfl | rfl | rfl <;> exact congrArg (fun u => some ((0 : Int32), u)) (e _ _))
theorem c_operand6 (B : Int32) : f_P_operand N 6 (eC Z m g B pm sh) = some (m (ix pm), eC (zA Z pm 3) m g B pm sh) := by
  unfold f_P_operand f_P_operand_28
  rw [if_pos rfl, eC_pm, c_read]; rfl
theorem c_operand (hb : Bs b) {a : Int32} {k : Nat} (ha : a = nI k) (hk : k < 8) (h6 : k ≠ 6) : f_P_operand N a (eC Z m g (nI b) pm sh) = some (sgv b g k, eC Z m g (nI b) pm sh) := by
  unfold f_P_operand f_P_operand_28
  rw [if_neg (by rw [ha]; exact nI_ne (x := 6) (c := 6) rfl (by omega) (by decide) h6), c_single N Z m g b pm sh hb ha hk h6]; rfl
theorem c_setOperand6 (B v : Int32) : f_P_setOperand N 6 v (eC Z m g B pm sh) = some (0, eC (zA Z pm 3) (mW m pm v) g B pm sh) := by
  unfold f_P_setOperand f_P_setOperand_30
  rw [if_pos rfl, eC_pm, c_write]; rfl
theorem c_setOperand (hb : Bs b) {a : Int32} {k : Nat} (ha : a = nI k) (hk : k < 8) (h6 : k ≠ 6) (v : Int32) : f_P_setOperand N a v (eC Z m g (nI b) pm sh) = some (0, eC Z m (gSg b g k v) (nI b) pm sh) := by
  unfold f_P_setOperand f_P_setOperand_30
  rw [if_neg (by rw [ha]; exact nI_ne (x := 6) (c := 6) rfl (by omega) (by decide) h6), c_setSingle N Z m g b pm sh hb ha hk h6]; rfl
theorem c_carry (B : Int32) : f_P_carry N (eC Z m g B pm sh) = some (g 1 &&& 1, eC Z m g B pm sh) := by
  unfold f_P_carry
  simp only [xr_1, eC_g]
theorem c_setFlags (B x y : Int32) : f_P_setFlags N x y (eC Z m g B pm sh) = some (0, eC Z m (upd g 1 ((g 1 &&& x) ||| y)) B pm sh) := by
  unfold f_P_setFlags
  simp only [xr_1, xw_1, eC_g, uC_g]
theorem c_call (B v : Int32) : f_P_call N v (eC Z m g B pm sh) = some (0, eC (zA (zA Z (g 20 - 1) 3) (g 20 - 2) 3) (mW (mW m (g 20 - 1) (g 21 >>> ((8 : Int32) &&& 31))) (g 20 - 2) (g 21)) (upd (upd g 20 ((g 20 - 2) &&& 65535)) 21 v) B pm sh) := by
  unfold f_P_call
  simp only [xr_21, xw_21, eC_g, c_push, xB_some, uC_g]
end RC
