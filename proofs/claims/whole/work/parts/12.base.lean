/-! The pure part, first: states out of components. A class state is eC Z m g b pm sh (Z: the board's numbers, stripes, keyboard, tape;
m memory, g registers, b what stands for HL, pm the place of M, sh the shield); a reference state eM Z K m g pf pn pl J sh shares
Z (time, border, speaker, edges, stripes), m and g; K: its keys and tape; J: half, carry, over, out. -/
def eC (Z : xSt) (m g : Nat → Int32) (b pm sh : Int32) : xSt := fun q =>
  if q = 10 then g else if q = 6 then m else if q = 5 then (fun i => if i = 1 then b else 0) else if q = 2 then (fun i => if i = 3 then pm else if i = 4 then sh else 0) else Z q
def eM (Z K : xSt) (m g : Nat → Int32) (pf pn pl : Int32) (J : Nat → Int32) (sh : Int32) : xSt := fun q =>
  if q = 2 then g else if q = 1 then m else if q = 4 then Z 7 else if q = 0 then (fun i => if i = 2 then Z 1 4 else if i = 12 then Z 1 5 else if i = 13 then Z 1 6 else if i = 14 then Z 1 7 else if i = 3 then sh else if i = 4 then pf else if i = 5 then pn else if i = 6 then pl else if i = 7 then J 7 else if i = 8 then J 8 else if i = 9 then J 9 else if i = 10 then J 10 else K 0 i) else K q
theorem xB_some (r : Int32) (u : xSt) (k : Int32 → xSt → xR) : xB (some (r, u)) k = k r u := rfl
theorem xV_eq (v : Int32) (k : Int32 → xR) : xV v k = k v := rfl
theorem xPu_eq (S : xSt) (q i : Nat) (v : Int32) (k : xSt → xR) : xPu S q i v k = k (xU S q i v) := rfl
theorem xBo_0 (F : xR) : xBo 0 F = F := rfl
theorem xBo_1 (F : xR) : xBo 1 F = F := rfl
def ix (a : Int32) : Nat := (a &&& 4095).toNatClampNeg
theorem x_in12 (a : Int32) : ¬ ((a &&& 4095) < 0 ∨ 4096 ≤ (a &&& 4095).toNatClampNeg) := by
  obtain ⟨j, hj, e⟩ := pk_andE a (m := 4095) 12 (by decide)
  rw [e]
  exact nI_in hj (by decide)
theorem x_rdm (S : xSt) (q : Nat) (a : Int32) (k : Int32 → xR) : xRd S q 4096 (a &&& 4095) k = k (S q (ix a)) := by
  unfold xRd
  rw [if_neg (x_in12 a)]
  rfl
theorem x_wrm (S : xSt) (q : Nat) (a v : Int32) (k : xSt → xR) : xWr S q 4096 (a &&& 4095) v k = k (xU S q (ix a) v) := by
  unfold xWr
  rw [if_neg (x_in12 a)]
  rfl
theorem x_rd (S : xSt) (q n : Nat) (j : Nat) (hj : j < n) (hn : n < 2 ^ 31) (k : Int32 → xR) : xRd S q n (nI j) k = k (S q j) := by
  unfold xRd
  rw [if_neg (nI_in hj hn), nI_clamp (by omega)]
theorem x_wr (S : xSt) (q n : Nat) (j : Nat) (hj : j < n) (hn : n < 2 ^ 31) (v : Int32) (k : xSt → xR) : xWr S q n (nI j) v k = k (xU S q j v) := by
  unfold xWr
  rw [if_neg (nI_in hj hn), nI_clamp (by omega)]
theorem xr_0 (S : xSt) (q : Nat) (k : Int32 → xR) : xRd S q 26 (0 : Int32) k = k (S q 0) := x_rd S q 26 0 (by decide) (by decide) k
theorem xw_0 (S : xSt) (q : Nat) (v : Int32) (k : xSt → xR) : xWr S q 26 (0 : Int32) v k = k (xU S q 0 v) := x_wr S q 26 0 (by decide) (by decide) v k
theorem xr_1 (S : xSt) (q : Nat) (k : Int32 → xR) : xRd S q 26 (1 : Int32) k = k (S q 1) := x_rd S q 26 1 (by decide) (by decide) k
theorem xw_1 (S : xSt) (q : Nat) (v : Int32) (k : xSt → xR) : xWr S q 26 (1 : Int32) v k = k (xU S q 1 v) := x_wr S q 26 1 (by decide) (by decide) v k
theorem xr_2 (S : xSt) (q : Nat) (k : Int32 → xR) : xRd S q 26 (2 : Int32) k = k (S q 2) := x_rd S q 26 2 (by decide) (by decide) k
theorem xw_2 (S : xSt) (q : Nat) (v : Int32) (k : xSt → xR) : xWr S q 26 (2 : Int32) v k = k (xU S q 2 v) := x_wr S q 26 2 (by decide) (by decide) v k
theorem xr_3 (S : xSt) (q : Nat) (k : Int32 → xR) : xRd S q 26 (3 : Int32) k = k (S q 3) := x_rd S q 26 3 (by decide) (by decide) k
theorem xw_3 (S : xSt) (q : Nat) (v : Int32) (k : xSt → xR) : xWr S q 26 (3 : Int32) v k = k (xU S q 3 v) := x_wr S q 26 3 (by decide) (by decide) v k
theorem xr_4 (S : xSt) (q : Nat) (k : Int32 → xR) : xRd S q 26 (4 : Int32) k = k (S q 4) := x_rd S q 26 4 (by decide) (by decide) k
theorem xw_4 (S : xSt) (q : Nat) (v : Int32) (k : xSt → xR) : xWr S q 26 (4 : Int32) v k = k (xU S q 4 v) := x_wr S q 26 4 (by decide) (by decide) v k
theorem xr_5 (S : xSt) (q : Nat) (k : Int32 → xR) : xRd S q 26 (5 : Int32) k = k (S q 5) := x_rd S q 26 5 (by decide) (by decide) k
theorem xw_5 (S : xSt) (q : Nat) (v : Int32) (k : xSt → xR) : xWr S q 26 (5 : Int32) v k = k (xU S q 5 v) := x_wr S q 26 5 (by decide) (by decide) v k
theorem xr_6 (S : xSt) (q : Nat) (k : Int32 → xR) : xRd S q 26 (6 : Int32) k = k (S q 6) := x_rd S q 26 6 (by decide) (by decide) k
theorem xw_6 (S : xSt) (q : Nat) (v : Int32) (k : xSt → xR) : xWr S q 26 (6 : Int32) v k = k (xU S q 6 v) := x_wr S q 26 6 (by decide) (by decide) v k
theorem xr_7 (S : xSt) (q : Nat) (k : Int32 → xR) : xRd S q 26 (7 : Int32) k = k (S q 7) := x_rd S q 26 7 (by decide) (by decide) k
theorem xw_7 (S : xSt) (q : Nat) (v : Int32) (k : xSt → xR) : xWr S q 26 (7 : Int32) v k = k (xU S q 7 v) := x_wr S q 26 7 (by decide) (by decide) v k
theorem xr_8 (S : xSt) (q : Nat) (k : Int32 → xR) : xRd S q 26 (8 : Int32) k = k (S q 8) := x_rd S q 26 8 (by decide) (by decide) k
theorem xw_8 (S : xSt) (q : Nat) (v : Int32) (k : xSt → xR) : xWr S q 26 (8 : Int32) v k = k (xU S q 8 v) := x_wr S q 26 8 (by decide) (by decide) v k
theorem xr_9 (S : xSt) (q : Nat) (k : Int32 → xR) : xRd S q 26 (9 : Int32) k = k (S q 9) := x_rd S q 26 9 (by decide) (by decide) k
theorem xw_9 (S : xSt) (q : Nat) (v : Int32) (k : xSt → xR) : xWr S q 26 (9 : Int32) v k = k (xU S q 9 v) := x_wr S q 26 9 (by decide) (by decide) v k
theorem xr_10 (S : xSt) (q : Nat) (k : Int32 → xR) : xRd S q 26 (10 : Int32) k = k (S q 10) := x_rd S q 26 10 (by decide) (by decide) k
theorem xw_10 (S : xSt) (q : Nat) (v : Int32) (k : xSt → xR) : xWr S q 26 (10 : Int32) v k = k (xU S q 10 v) := x_wr S q 26 10 (by decide) (by decide) v k
theorem xr_11 (S : xSt) (q : Nat) (k : Int32 → xR) : xRd S q 26 (11 : Int32) k = k (S q 11) := x_rd S q 26 11 (by decide) (by decide) k
theorem xw_11 (S : xSt) (q : Nat) (v : Int32) (k : xSt → xR) : xWr S q 26 (11 : Int32) v k = k (xU S q 11 v) := x_wr S q 26 11 (by decide) (by decide) v k
theorem xr_12 (S : xSt) (q : Nat) (k : Int32 → xR) : xRd S q 26 (12 : Int32) k = k (S q 12) := x_rd S q 26 12 (by decide) (by decide) k
theorem xw_12 (S : xSt) (q : Nat) (v : Int32) (k : xSt → xR) : xWr S q 26 (12 : Int32) v k = k (xU S q 12 v) := x_wr S q 26 12 (by decide) (by decide) v k
theorem xr_13 (S : xSt) (q : Nat) (k : Int32 → xR) : xRd S q 26 (13 : Int32) k = k (S q 13) := x_rd S q 26 13 (by decide) (by decide) k
theorem xw_13 (S : xSt) (q : Nat) (v : Int32) (k : xSt → xR) : xWr S q 26 (13 : Int32) v k = k (xU S q 13 v) := x_wr S q 26 13 (by decide) (by decide) v k
theorem xr_14 (S : xSt) (q : Nat) (k : Int32 → xR) : xRd S q 26 (14 : Int32) k = k (S q 14) := x_rd S q 26 14 (by decide) (by decide) k
theorem xw_14 (S : xSt) (q : Nat) (v : Int32) (k : xSt → xR) : xWr S q 26 (14 : Int32) v k = k (xU S q 14 v) := x_wr S q 26 14 (by decide) (by decide) v k
theorem xr_15 (S : xSt) (q : Nat) (k : Int32 → xR) : xRd S q 26 (15 : Int32) k = k (S q 15) := x_rd S q 26 15 (by decide) (by decide) k
theorem xw_15 (S : xSt) (q : Nat) (v : Int32) (k : xSt → xR) : xWr S q 26 (15 : Int32) v k = k (xU S q 15 v) := x_wr S q 26 15 (by decide) (by decide) v k
theorem xr_16 (S : xSt) (q : Nat) (k : Int32 → xR) : xRd S q 26 (16 : Int32) k = k (S q 16) := x_rd S q 26 16 (by decide) (by decide) k
theorem xw_16 (S : xSt) (q : Nat) (v : Int32) (k : xSt → xR) : xWr S q 26 (16 : Int32) v k = k (xU S q 16 v) := x_wr S q 26 16 (by decide) (by decide) v k
theorem xr_17 (S : xSt) (q : Nat) (k : Int32 → xR) : xRd S q 26 (17 : Int32) k = k (S q 17) := x_rd S q 26 17 (by decide) (by decide) k
theorem xw_17 (S : xSt) (q : Nat) (v : Int32) (k : xSt → xR) : xWr S q 26 (17 : Int32) v k = k (xU S q 17 v) := x_wr S q 26 17 (by decide) (by decide) v k
theorem xr_18 (S : xSt) (q : Nat) (k : Int32 → xR) : xRd S q 26 (18 : Int32) k = k (S q 18) := x_rd S q 26 18 (by decide) (by decide) k
theorem xw_18 (S : xSt) (q : Nat) (v : Int32) (k : xSt → xR) : xWr S q 26 (18 : Int32) v k = k (xU S q 18 v) := x_wr S q 26 18 (by decide) (by decide) v k
theorem xr_19 (S : xSt) (q : Nat) (k : Int32 → xR) : xRd S q 26 (19 : Int32) k = k (S q 19) := x_rd S q 26 19 (by decide) (by decide) k
theorem xw_19 (S : xSt) (q : Nat) (v : Int32) (k : xSt → xR) : xWr S q 26 (19 : Int32) v k = k (xU S q 19 v) := x_wr S q 26 19 (by decide) (by decide) v k
theorem xr_20 (S : xSt) (q : Nat) (k : Int32 → xR) : xRd S q 26 (20 : Int32) k = k (S q 20) := x_rd S q 26 20 (by decide) (by decide) k
theorem xw_20 (S : xSt) (q : Nat) (v : Int32) (k : xSt → xR) : xWr S q 26 (20 : Int32) v k = k (xU S q 20 v) := x_wr S q 26 20 (by decide) (by decide) v k
theorem xr_21 (S : xSt) (q : Nat) (k : Int32 → xR) : xRd S q 26 (21 : Int32) k = k (S q 21) := x_rd S q 26 21 (by decide) (by decide) k
theorem xw_21 (S : xSt) (q : Nat) (v : Int32) (k : xSt → xR) : xWr S q 26 (21 : Int32) v k = k (xU S q 21 v) := x_wr S q 26 21 (by decide) (by decide) v k
theorem xr_22 (S : xSt) (q : Nat) (k : Int32 → xR) : xRd S q 26 (22 : Int32) k = k (S q 22) := x_rd S q 26 22 (by decide) (by decide) k
theorem xw_22 (S : xSt) (q : Nat) (v : Int32) (k : xSt → xR) : xWr S q 26 (22 : Int32) v k = k (xU S q 22 v) := x_wr S q 26 22 (by decide) (by decide) v k
theorem xr_23 (S : xSt) (q : Nat) (k : Int32 → xR) : xRd S q 26 (23 : Int32) k = k (S q 23) := x_rd S q 26 23 (by decide) (by decide) k
theorem xw_23 (S : xSt) (q : Nat) (v : Int32) (k : xSt → xR) : xWr S q 26 (23 : Int32) v k = k (xU S q 23 v) := x_wr S q 26 23 (by decide) (by decide) v k
theorem xr_24 (S : xSt) (q : Nat) (k : Int32 → xR) : xRd S q 26 (24 : Int32) k = k (S q 24) := x_rd S q 26 24 (by decide) (by decide) k
theorem xw_24 (S : xSt) (q : Nat) (v : Int32) (k : xSt → xR) : xWr S q 26 (24 : Int32) v k = k (xU S q 24 v) := x_wr S q 26 24 (by decide) (by decide) v k
theorem xr_25 (S : xSt) (q : Nat) (k : Int32 → xR) : xRd S q 26 (25 : Int32) k = k (S q 25) := x_rd S q 26 25 (by decide) (by decide) k
theorem xw_25 (S : xSt) (q : Nat) (v : Int32) (k : xSt → xR) : xWr S q 26 (25 : Int32) v k = k (xU S q 25 v) := x_wr S q 26 25 (by decide) (by decide) v k
theorem xU_at (S : xSt) (q i : Nat) (v : Int32) : xU S q i v q = upd (S q) i v := by simp [xU]
theorem xU_ne (S : xSt) {q p : Nat} (i : Nat) (v : Int32) (h : p ≠ q) : xU S q i v p = S p := by simp [xU, h]
section PC
variable (Z K : xSt) (m g : Nat → Int32) (b pm sh pf pn pl : Int32) (J : Nat → Int32) (i : Nat) (v : Int32)
theorem eC_g : eC Z m g b pm sh 10 = g := id rfl
theorem eC_m : eC Z m g b pm sh 6 = m := id rfl
theorem eC_b : eC Z m g b pm sh 5 1 = b := id rfl
theorem eC_pm : eC Z m g b pm sh 2 3 = pm := id rfl
theorem eC_sh : eC Z m g b pm sh 2 4 = sh := id rfl
theorem eC_1 : eC Z m g b pm sh 1 = Z 1 := id rfl
theorem eC_4 : eC Z m g b pm sh 4 = Z 4 := id rfl
theorem eC_7 : eC Z m g b pm sh 7 = Z 7 := id rfl
theorem eC_8 : eC Z m g b pm sh 8 = Z 8 := id rfl
theorem eC_9 : eC Z m g b pm sh 9 = Z 9 := id rfl
theorem uC_g : xU (eC Z m g b pm sh) 10 i v = eC Z m (upd g i v) b pm sh := by
  funext q
  by_cases h : q = 10
  · subst h; rfl
  · simp only [xU, eC, h, if_false]
theorem uC_m : xU (eC Z m g b pm sh) 6 i v = eC Z (upd m i v) g b pm sh := by
  funext q
  by_cases h : q = 6
  · subst h; rfl
  · simp only [xU, eC, h, if_false]
theorem uC_b : xU (eC Z m g b pm sh) 5 1 v = eC Z m g v pm sh := by
  funext q
  by_cases h : q = 5
  · subst h
    funext i
    show upd _ 1 v i = _
    by_cases hi : i = 1
    · subst hi; rw [pk_us]; rfl
    · rw [pk_un hi]; simp [eC, hi]
  · simp only [xU, eC, h, if_false]
theorem uC_pm : xU (eC Z m g b pm sh) 2 3 v = eC Z m g b v sh := by
  funext q
  by_cases h : q = 2
  · subst h
    funext i
    show upd _ 3 v i = _
    by_cases hi : i = 3
    · subst hi; rw [pk_us]; rfl
    · rw [pk_un hi]; simp [eC, hi]
  · simp only [xU, eC, h, if_false]
theorem uC_sh : xU (eC Z m g b pm sh) 2 4 v = eC Z m g b pm v := by
  funext q
  by_cases h : q = 2
  · subst h
    funext i
    show upd _ 4 v i = _
    by_cases hi : i = 4
    · subst hi; rw [pk_us]; rfl
    · rw [pk_un hi]; simp [eC, hi]
  · simp only [xU, eC, h, if_false]
theorem uC_Z (p : Nat) (h1 : p ≠ 10) (h2 : p ≠ 6) (h3 : p ≠ 5) (h4 : p ≠ 2) : xU (eC Z m g b pm sh) p i v = eC (xU Z p i v) m g b pm sh := by
  funext q
  by_cases h : q = p
  · subst h
    simp only [xU, eC, h1, h2, h3, h4, if_true, if_false]
  · simp only [xU, eC, h, if_false]
theorem uC_1 : xU (eC Z m g b pm sh) 1 i v = eC (xU Z 1 i v) m g b pm sh := uC_Z Z m g b pm sh i v 1 (by decide) (by decide) (by decide) (by decide)
theorem uC_4 : xU (eC Z m g b pm sh) 4 i v = eC (xU Z 4 i v) m g b pm sh := uC_Z Z m g b pm sh i v 4 (by decide) (by decide) (by decide) (by decide)
theorem uC_7 : xU (eC Z m g b pm sh) 7 i v = eC (xU Z 7 i v) m g b pm sh := uC_Z Z m g b pm sh i v 7 (by decide) (by decide) (by decide) (by decide)
theorem uC_8 : xU (eC Z m g b pm sh) 8 i v = eC (xU Z 8 i v) m g b pm sh := uC_Z Z m g b pm sh i v 8 (by decide) (by decide) (by decide) (by decide)
theorem uC_9 : xU (eC Z m g b pm sh) 9 i v = eC (xU Z 9 i v) m g b pm sh := uC_Z Z m g b pm sh i v 9 (by decide) (by decide) (by decide) (by decide)
theorem eM_g : eM Z K m g pf pn pl J sh 2 = g := id rfl
theorem eM_m : eM Z K m g pf pn pl J sh 1 = m := id rfl
theorem eM_3 : eM Z K m g pf pn pl J sh 3 = K 3 := id rfl
theorem eM_4 : eM Z K m g pf pn pl J sh 4 = Z 7 := id rfl
theorem eM_5 : eM Z K m g pf pn pl J sh 5 = K 5 := id rfl
theorem eM_now : eM Z K m g pf pn pl J sh 0 2 = Z 1 4 := id rfl
theorem eM_sh : eM Z K m g pf pn pl J sh 0 3 = sh := id rfl
theorem eM_pf : eM Z K m g pf pn pl J sh 0 4 = pf := id rfl
theorem eM_pn : eM Z K m g pf pn pl J sh 0 5 = pn := id rfl
theorem eM_pl : eM Z K m g pf pn pl J sh 0 6 = pl := id rfl
theorem eM_hf : eM Z K m g pf pn pl J sh 0 7 = J 7 := id rfl
theorem eM_cy : eM Z K m g pf pn pl J sh 0 8 = J 8 := id rfl
theorem eM_ov : eM Z K m g pf pn pl J sh 0 9 = J 9 := id rfl
theorem eM_ou : eM Z K m g pf pn pl J sh 0 10 = J 10 := id rfl
theorem eM_bd : eM Z K m g pf pn pl J sh 0 12 = Z 1 5 := id rfl
theorem eM_sp : eM Z K m g pf pn pl J sh 0 13 = Z 1 6 := id rfl
theorem eM_ed : eM Z K m g pf pn pl J sh 0 14 = Z 1 7 := id rfl
theorem eM_16 : eM Z K m g pf pn pl J sh 0 16 = K 0 16 := id rfl
theorem eM_18 : eM Z K m g pf pn pl J sh 0 18 = K 0 18 := id rfl
theorem eM_19 : eM Z K m g pf pn pl J sh 0 19 = K 0 19 := id rfl
theorem eM_20 : eM Z K m g pf pn pl J sh 0 20 = K 0 20 := id rfl
theorem uM_g : xU (eM Z K m g pf pn pl J sh) 2 i v = eM Z K m (upd g i v) pf pn pl J sh := by
  funext q
  by_cases h : q = 2
  · subst h; rfl
  · simp only [xU, eM, h, if_false]
theorem uM_m : xU (eM Z K m g pf pn pl J sh) 1 i v = eM Z K (upd m i v) g pf pn pl J sh := by
  funext q
  by_cases h : q = 1
  · subst h; rfl
  · simp only [xU, eM, h, if_false]
theorem uM_st : xU (eM Z K m g pf pn pl J sh) 4 i v = eM (xU Z 7 i v) K m g pf pn pl J sh := by
  funext q
  by_cases h : q = 4
  · subst h; rfl
  · simp only [xU, eM, h, if_false, show ¬ (1 : Nat) = 7 by decide]
theorem uM_3 : xU (eM Z K m g pf pn pl J sh) 3 i v = eM Z (xU K 3 i v) m g pf pn pl J sh := by
  funext q
  by_cases h : q = 3
  · subst h; rfl
  · simp only [xU, eM, h, if_false, show ¬ (0 : Nat) = 3 by decide]
theorem uM_5 : xU (eM Z K m g pf pn pl J sh) 5 i v = eM Z (xU K 5 i v) m g pf pn pl J sh := by
  funext q
  by_cases h : q = 5
  · subst h; rfl
  · simp only [xU, eM, h, if_false, show ¬ (0 : Nat) = 5 by decide]
theorem uM_now : xU (eM Z K m g pf pn pl J sh) 0 2 v = eM (xU Z 1 4 v) K m g pf pn pl J sh := by
  funext q
  by_cases h : q = 0
  · subst h
    funext i
    show upd _ 2 v i = _
    by_cases hi : i = 2
    · subst hi; rw [pk_us]; rfl
    · rw [pk_un hi]
      simp [eM, hi, xU_at, pk_un]
  · simp only [xU, eM, h, if_false, if_true, show ¬ (7 : Nat) = 1 by decide, show ¬ (7 : Nat) = 0 by decide]
theorem uM_sh : xU (eM Z K m g pf pn pl J sh) 0 3 v = eM Z K m g pf pn pl J v := by
  funext q
  by_cases h : q = 0
  · subst h
    funext i
    show upd _ 3 v i = _
    by_cases hi : i = 3
    · subst hi; rw [pk_us]; rfl
    · rw [pk_un hi]
      simp [eM, hi, xU_at, pk_un]
  · simp only [xU, eM, h, if_false, if_true, show ¬ (7 : Nat) = 1 by decide, show ¬ (7 : Nat) = 0 by decide]
theorem uM_pf : xU (eM Z K m g pf pn pl J sh) 0 4 v = eM Z K m g v pn pl J sh := by
  funext q
  by_cases h : q = 0
  · subst h
    funext i
    show upd _ 4 v i = _
    by_cases hi : i = 4
    · subst hi; rw [pk_us]; rfl
    · rw [pk_un hi]
      simp [eM, hi, xU_at, pk_un]
  · simp only [xU, eM, h, if_false, if_true, show ¬ (7 : Nat) = 1 by decide, show ¬ (7 : Nat) = 0 by decide]
theorem uM_pn : xU (eM Z K m g pf pn pl J sh) 0 5 v = eM Z K m g pf v pl J sh := by
  funext q
  by_cases h : q = 0
  · subst h
    funext i
    show upd _ 5 v i = _
    by_cases hi : i = 5
    · subst hi; rw [pk_us]; rfl
    · rw [pk_un hi]
      simp [eM, hi, xU_at, pk_un]
  · simp only [xU, eM, h, if_false, if_true, show ¬ (7 : Nat) = 1 by decide, show ¬ (7 : Nat) = 0 by decide]
theorem uM_pl : xU (eM Z K m g pf pn pl J sh) 0 6 v = eM Z K m g pf pn v J sh := by
  funext q
  by_cases h : q = 0
  · subst h
    funext i
    show upd _ 6 v i = _
    by_cases hi : i = 6
    · subst hi; rw [pk_us]; rfl
    · rw [pk_un hi]
      simp [eM, hi, xU_at, pk_un]
  · simp only [xU, eM, h, if_false, if_true, show ¬ (7 : Nat) = 1 by decide, show ¬ (7 : Nat) = 0 by decide]
theorem uM_hf : xU (eM Z K m g pf pn pl J sh) 0 7 v = eM Z K m g pf pn pl (upd J 7 v) sh := by
  funext q
  by_cases h : q = 0
  · subst h
    funext i
    show upd _ 7 v i = _
    by_cases hi : i = 7
    · subst hi; rw [pk_us]; rfl
    · rw [pk_un hi]
      simp [eM, hi, xU_at, pk_un]
  · simp only [xU, eM, h, if_false, if_true, show ¬ (7 : Nat) = 1 by decide, show ¬ (7 : Nat) = 0 by decide]
theorem uM_cy : xU (eM Z K m g pf pn pl J sh) 0 8 v = eM Z K m g pf pn pl (upd J 8 v) sh := by
  funext q
  by_cases h : q = 0
  · subst h
    funext i
    show upd _ 8 v i = _
    by_cases hi : i = 8
    · subst hi; rw [pk_us]; rfl
    · rw [pk_un hi]
      simp [eM, hi, xU_at, pk_un]
  · simp only [xU, eM, h, if_false, if_true, show ¬ (7 : Nat) = 1 by decide, show ¬ (7 : Nat) = 0 by decide]
theorem uM_ov : xU (eM Z K m g pf pn pl J sh) 0 9 v = eM Z K m g pf pn pl (upd J 9 v) sh := by
  funext q
  by_cases h : q = 0
  · subst h
    funext i
    show upd _ 9 v i = _
    by_cases hi : i = 9
    · subst hi; rw [pk_us]; rfl
    · rw [pk_un hi]
      simp [eM, hi, xU_at, pk_un]
  · simp only [xU, eM, h, if_false, if_true, show ¬ (7 : Nat) = 1 by decide, show ¬ (7 : Nat) = 0 by decide]
theorem uM_ou : xU (eM Z K m g pf pn pl J sh) 0 10 v = eM Z K m g pf pn pl (upd J 10 v) sh := by
  funext q
  by_cases h : q = 0
  · subst h
    funext i
    show upd _ 10 v i = _
    by_cases hi : i = 10
    · subst hi; rw [pk_us]; rfl
    · rw [pk_un hi]
      simp [eM, hi, xU_at, pk_un]
  · simp only [xU, eM, h, if_false, if_true, show ¬ (7 : Nat) = 1 by decide, show ¬ (7 : Nat) = 0 by decide]
theorem uM_bd : xU (eM Z K m g pf pn pl J sh) 0 12 v = eM (xU Z 1 5 v) K m g pf pn pl J sh := by
  funext q
  by_cases h : q = 0
  · subst h
    funext i
    show upd _ 12 v i = _
    by_cases hi : i = 12
    · subst hi; rw [pk_us]; rfl
    · rw [pk_un hi]
      simp [eM, hi, xU_at, pk_un]
  · simp only [xU, eM, h, if_false, if_true, show ¬ (7 : Nat) = 1 by decide, show ¬ (7 : Nat) = 0 by decide]
theorem uM_sp : xU (eM Z K m g pf pn pl J sh) 0 13 v = eM (xU Z 1 6 v) K m g pf pn pl J sh := by
  funext q
  by_cases h : q = 0
  · subst h
    funext i
    show upd _ 13 v i = _
    by_cases hi : i = 13
    · subst hi; rw [pk_us]; rfl
    · rw [pk_un hi]
      simp [eM, hi, xU_at, pk_un]
  · simp only [xU, eM, h, if_false, if_true, show ¬ (7 : Nat) = 1 by decide, show ¬ (7 : Nat) = 0 by decide]
theorem uM_ed : xU (eM Z K m g pf pn pl J sh) 0 14 v = eM (xU Z 1 7 v) K m g pf pn pl J sh := by
  funext q
  by_cases h : q = 0
  · subst h
    funext i
    show upd _ 14 v i = _
    by_cases hi : i = 14
    · subst hi; rw [pk_us]; rfl
    · rw [pk_un hi]
      simp [eM, hi, xU_at, pk_un]
  · simp only [xU, eM, h, if_false, if_true, show ¬ (7 : Nat) = 1 by decide, show ¬ (7 : Nat) = 0 by decide]
theorem uM_16 : xU (eM Z K m g pf pn pl J sh) 0 16 v = eM Z (xU K 0 16 v) m g pf pn pl J sh := by
  funext q
  by_cases h : q = 0
  · subst h
    funext i
    show upd _ 16 v i = _
    by_cases hi : i = 16
    · subst hi; rw [pk_us]; rfl
    · rw [pk_un hi]
      simp [eM, hi, xU_at, pk_un]
  · simp only [xU, eM, h, if_false, if_true, show ¬ (7 : Nat) = 1 by decide, show ¬ (7 : Nat) = 0 by decide]
theorem uM_18 : xU (eM Z K m g pf pn pl J sh) 0 18 v = eM Z (xU K 0 18 v) m g pf pn pl J sh := by
  funext q
  by_cases h : q = 0
  · subst h
    funext i
    show upd _ 18 v i = _
    by_cases hi : i = 18
    · subst hi; rw [pk_us]; rfl
    · rw [pk_un hi]
      simp [eM, hi, xU_at, pk_un]
  · simp only [xU, eM, h, if_false, if_true, show ¬ (7 : Nat) = 1 by decide, show ¬ (7 : Nat) = 0 by decide]
theorem uM_19 : xU (eM Z K m g pf pn pl J sh) 0 19 v = eM Z (xU K 0 19 v) m g pf pn pl J sh := by
  funext q
  by_cases h : q = 0
  · subst h
    funext i
    show upd _ 19 v i = _
    by_cases hi : i = 19
    · subst hi; rw [pk_us]; rfl
    · rw [pk_un hi]
      simp [eM, hi, xU_at, pk_un]
  · simp only [xU, eM, h, if_false, if_true, show ¬ (7 : Nat) = 1 by decide, show ¬ (7 : Nat) = 0 by decide]
theorem uM_20 : xU (eM Z K m g pf pn pl J sh) 0 20 v = eM Z (xU K 0 20 v) m g pf pn pl J sh := by
  funext q
  by_cases h : q = 0
  · subst h
    funext i
    show upd _ 20 v i = _
    by_cases hi : i = 20
    · subst hi; rw [pk_us]; rfl
    · rw [pk_un hi]
      simp [eM, hi, xU_at, pk_un]
  · simp only [xU, eM, h, if_false, if_true, show ¬ (7 : Nat) = 1 by decide, show ¬ (7 : Nat) = 0 by decide]
end PC
