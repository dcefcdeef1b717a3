/-! turns and bits (203) -/
def bfC (y : Nat) (v c : Int32) : Int32 := (((((v &&& ((1 : Int32) <<< (nI y &&& 31))) &&& 128) ||| (if v &&& ((1 : Int32) <<< (nI y &&& 31)) = 0 then 68 else 0)) ||| (v &&& 40)) ||| 16) ||| c
def bfM (y : Nat) (v c : Int32) : Int32 := ((((c ||| 16) ||| (v &&& 40)) ||| (if ((v >>> (nI y &&& 31)) &&& 1) = 1 then 0 else 68))) ||| (if ((v >>> (nI y &&& 31)) &&& 1) = 1 ∧ y = 7 then 128 else 0)
theorem bf_eq : ∀ c : Bool, ∀ y, y < 8 → ∀ n, n < 256 → bfC y (nI n) (b2 c) = bfM y (nI n) (b2 c) := by decide +kernel
theorem bf_by : ∀ c : Bool, ∀ y, y < 8 → ∀ n, n < 256 → bfC y (nI n) (b2 c) &&& 255 = bfC y (nI n) (b2 c) := by decide +kernel
theorem pow_by : ∀ y, y < 8 → ((1 : Int32) <<< (nI y &&& 31)) &&& 255 = (1 : Int32) <<< (nI y &&& 31) := by decide +kernel
section RO
variable (N : Nat) (Z K : xSt) (m g : Nat → Int32) (B pm sh pf pn pl : Int32) (J : Nat → Int32)
theorem c_bitFlags {y : Nat} (v c : Int32) (S : xSt) : f_A_bitFlags N (nI y) v c S = some (bfC y v c, S) := by
  unfold f_A_bitFlags f_A_bitFlags_21 bfC
  rw [xV_eq]
  split <;> rfl
theorem m_bit {y : Nat} (hy : y < 8) (v : Int32) : f_M_bit N (nI y) v (eM Z K m g pf pn pl J sh) = some (0, eM Z K m (upd g 1 (bfM y v (g 1 &&& 1))) pf pn pl J sh) := by
  unfold f_M_bit f_M_bit_14 f_M_bit_46 f_M_bit_63 f_M_bit_64 bfM
  by_cases h : ((v >>> (nI y &&& 31)) &&& 1) = 1
  · rw [if_pos h, if_pos h, xr_1, eM_g, if_neg (by decide), if_neg (by decide)]
    by_cases h7 : y = 7
    · subst h7
      rw [if_pos (by decide), if_pos ⟨h, rfl⟩, xw_1, uM_g]
    · rw [if_neg (nI_ne (x := 7) (c := 7) rfl (by omega) (by decide) h7), if_neg (fun q => h7 q.2), xw_1, uM_g]
  · rw [if_neg h, if_neg h, xr_1, eM_g, if_pos rfl, if_pos rfl, if_neg (fun q => h q.1), xw_1, uM_g]
theorem m_turned (hN : 64 ≤ N) {y : Nat} (hy : y < 8) {v : Int32} (hv : By v) {c : Bool} (hc : g 1 &&& 1 = b2 c) : f_M_turned N (nI y) v (eM Z K m g pf pn pl J sh) = some (tRes y v (b2 c), eM Z K m (upd g 1 ((byv (tRes y v (b2 c)) ||| par (tRes y v (b2 c))) ||| tOut y v)) pf pn pl (upd J 10 (tOut y v)) sh) := by
  unfold f_M_turned
  rw [m_turn N Z K m g sh pf pn pl J hy, xB_some, hc, m_by, xB_some, m_parity N _ hN (tRes_by hy hv c), xB_some, eM_ou, pk_us, xw_1, uM_g]
/-- the class's changed byte and the reference's road to it -/
theorem rot_core (hN : 64 ≤ N) (hg : Gd g) {x y : Nat} (hx : x < 4) (h1 : x ≠ 1) (hy : y < 8) {v : Int32} (hv : By v) : ∃ r g' J', By r ∧ Gd g' ∧ f_P_changedByte N (nI x) (nI y) v (eC Z m g B pm sh) = some (r, eC Z m g' B pm sh) ∧
    ∀ k : Int32 → xSt → xR, (if nI x = 0 then (xB (f_M_turned N (nI y) v (eM Z K m g pf pn pl J sh)) fun v3 S4 => k v3 S4) else (if nI x = 2 then k (v &&& (((1 : Int32) <<< (nI y &&& 31)) ^^^ (-1 : Int32))) (eM Z K m g pf pn pl J sh) else k (v ||| ((1 : Int32) <<< (nI y &&& 31))) (eM Z K m g pf pn pl J sh))) = k r (eM Z K m g' pf pn pl J' sh) := by
  have hpow : By ((1 : Int32) <<< (nI y &&& 31)) := by rw [← pow_by y hy]; exact and8 _
  rcases (show x = 0 ∨ x = 2 ∨ x = 3 by omega) with rfl | rfl | rfl
  · obtain ⟨c, hc⟩ := cb (g 1)
    have hr := tRes_by hy hv c
    have hfl : By ((byv (tRes y v (b2 c)) ||| par (tRes y v (b2 c))) ||| tOut y v) := ((byv_by _).or (par_by _)).or (b01_by (tOut_01 hv))
    refine ⟨tRes y v (b2 c), _, upd J 10 (tOut y v), hr, hg.u8 (i := 1) (by decide) hfl, ?_, ?_⟩
    · unfold f_P_changedByte
      rw [if_neg (by decide), if_neg (by decide), c_carry, xB_some, hc, c_turned N _ hy, xB_some, xw_1, uC_g, pw_lo hr.wd hfl, pw_hi hr.wd hfl]
    · intro k
      rw [if_pos (by decide), m_turned N Z K m g sh pf pn pl J hN hy hv hc, xB_some]
  · refine ⟨v &&& (((1 : Int32) <<< (nI y &&& 31)) ^^^ (-1 : Int32)), g, J, hv.and, hg, ?_, ?_⟩
    · unfold f_P_changedByte
      rw [if_pos (by decide)]
    · intro k
      rw [if_neg (by decide), if_pos (by decide)]
  · refine ⟨v ||| ((1 : Int32) <<< (nI y &&& 31)), g, J, hv.or hpow, hg, ?_, ?_⟩
    · unfold f_P_changedByte
      rw [if_neg (by decide), if_pos (by decide)]
    · intro k
      rw [if_neg (by decide), if_neg (by decide)]
theorem nI01 (P : Bool) : (b2 P = 0) ↔ P = false := b2_0 P
/-- the result goes back -/
theorem rot_tail (hN : 64 ≤ N) {t : Nat} (hI : Inv Z K m g t) (hb : t + 100 < 2 ^ 30) (hM : Mg 6 pf pn) (P : Bool) (hP : P = false ↔ pf = 0) {z : Nat} (hz : z < 8) {r : Int32} (hr : By r) :
    Sim t 100 (if b2 P = 0 then f_P_rotate_118 N (b2 P) (nI z) r (eC Z m g (nI 6) pl sh) else xB (f_P_setOperand N 6 r (eC Z m g (nI 6) pl sh)) fun _ S => f_P_rotate_118 N (b2 P) (nI z) r S) (f_M_rotation_134 N (nI z) r (eM Z K m g pf pn pl J sh)) := by
  obtain ⟨hT, hm, hg, hR⟩ := hI
  have hI : Inv Z K m g t := ⟨hT, hm, hg, hR⟩
  obtain ⟨t1, a1, a2, hI1⟩ := hI.a3 pl (by omega)
  have hbs : Bs 6 := Or.inl rfl
  cases P
  · have hpf := hP.mp rfl
    rw [if_pos (by decide)]
    unfold f_M_rotation_134 f_M_rotation_151 f_M_rotation_165 f_M_rotation_173 f_P_rotate_118 f_P_rotate_129 f_P_rotate_137
    rw [eM_pf, if_pos hpf, if_pos hpf, if_pos (by decide)]
    by_cases h6 : z = 6
    · subst h6
      refine ⟨_, K, mW m pl r, g, nI 6, pl, sh, pf, pn, pl, J, t1, ?_, ?_, by omega, by omega, hI1.mem (hm.mw _ _)⟩
      · rw [show nI 6 = (6 : Int32) from rfl, c_setOperand6, xB_some]
      · rw [show nI 6 = (6 : Int32) from rfl, m_put6 N K m g sh pf pn pl J hT hN (by omega), xB_some]
    · refine ⟨Z, K, m, gSg 6 g z r, nI 6, pl, sh, pf, pn, pl, J, t, ?_, ?_, Nat.le_refl _, by omega, hI.reg (hg.sg hbs hz hr)⟩
      · rw [c_setOperand N Z m g 6 pl sh hbs rfl hz h6, xB_some]
      · rw [m_put N K m g sh pf pn pl J 6 Z hM hg rfl hz h6 hr, xB_some]
  · have hpf : ¬ pf = 0 := fun e => by have := hP.mpr e; cases this
    rw [if_neg (by decide), c_setOperand6, xB_some]
    unfold f_M_rotation_134 f_M_rotation_151 f_M_rotation_165 f_M_rotation_173 f_P_rotate_118 f_P_rotate_129 f_P_rotate_137
    rw [eM_pf, if_neg hpf, m_put6 N K m g sh pf pn pl J hT hN (by omega), xB_some, eM_pf, if_neg hpf, if_neg (by decide)]
    by_cases h6 : z = 6
    · subst h6
      rw [if_pos (by decide), if_pos (by decide)]
      exact ⟨_, K, mW m pl r, g, nI 6, pl, sh, pf, pn, pl, J, t1, rfl, rfl, by omega, by omega, hI1.mem (hm.mw _ _)⟩
    · rw [if_neg (nI_ne (x := 6) (c := 6) rfl (by omega) (by decide) h6), if_neg (nI_ne (x := 6) (c := 6) rfl (by omega) (by decide) h6)]
      refine ⟨_, K, mW m pl r, gSg 6 g z r, nI 6, pl, sh, pf, pn, pl, J, t1, ?_, ?_, by omega, by omega, (hI1.mem (hm.mw _ _)).reg (hg.sg hbs hz hr)⟩
      · rw [c_setOperand N _ _ g 6 pl sh hbs rfl hz h6, xB_some]
      · rw [m_put N K _ g sh pf pn pl J 6 _ hM hg rfl hz h6 hr, xB_some]
theorem dec_x {n : Nat} (hn : n < 256) : nI n >>> ((6 : Int32) &&& 31) = nI (n / 64) := pk_shrN (by omega) _ 6 (by decide)
theorem dec_y {n : Nat} (hn : n < 256) : (nI n >>> ((3 : Int32) &&& 31)) &&& 7 = nI (n / 8 % 8) := by
  rw [pk_shrN (by omega) _ 3 (by decide), pk_andN (by omega) (m := 7) 3 (by decide)]
theorem dec_z {n : Nat} (hn : n < 256) : nI n &&& 7 = nI (n % 8) := pk_andN (by omega) (m := 7) 3 (by decide)
/-- behind the second byte -/
theorem rot_in (hN : 64 ≤ N) {t : Nat} (hI : Inv Z K m g t) (hb : t + 150 < 2 ^ 30) (hM : Mg 6 pf pn) (P : Bool) (hP : P = false ↔ pf = 0) {n : Nat} (hn : n < 256) :
    Sim t 150 (f_P_rotate_37 N (b2 P) (nI n) (eC Z m g (nI 6) pl sh)) (f_M_rotation_65 N (nI (n / 64)) (nI (n / 8 % 8)) (nI (n % 8)) (eM Z K m g pf pn pl J sh)) := by
  obtain ⟨hT, hm, hg, hR⟩ := hI
  have hI : Inv Z K m g t := ⟨hT, hm, hg, hR⟩
  have hbs : Bs 6 := Or.inl rfl
  have hz : n % 8 < 8 := by omega
  have hy : n / 8 % 8 < 8 := by omega
  have hx : n / 64 < 4 := by omega
  -- behind the operand
  have core : ∀ (Z' : xSt) (t' : Nat) (v : Int32), By v → t ≤ t' → t' ≤ t + 16 → Inv Z' K m g t' → Sim t 150
      (if (nI (n / 64)) = (1 : Int32) then (xB (f_P_carry N (eC Z' m g (nI 6) pl sh)) fun v7 S8 => (xB (f_A_bitFlags N (nI (n / 8 % 8)) v v7 S8) fun v9 S10 => (xWr S10 10 26 (1 : Int32) v9 fun S11 => (some (0, S11))))) else (xB (f_P_changedByte N (nI (n / 64)) (nI (n / 8 % 8)) v (eC Z' m g (nI 6) pl sh)) fun v3 S4 => (if b2 P = 0 then (f_P_rotate_118 N (b2 P) (nI (n % 8)) v3 S4) else (xB (f_P_setOperand N (6 : Int32) v3 S4) fun v5 S6 => (f_P_rotate_118 N (b2 P) (nI (n % 8)) v3 S6)))))
      (if nI (n / 64) = (1 : Int32) then (xB (f_M_bit N (nI (n / 8 % 8)) v (eM Z' K m g pf pn pl J sh)) fun v5 S6 => (some (0, S6))) else (if nI (n / 64) = 0 then (xB (f_M_turned N (nI (n / 8 % 8)) v (eM Z' K m g pf pn pl J sh)) fun v3 S4 => (f_M_rotation_134 N (nI (n % 8)) v3 S4)) else (if nI (n / 64) = (2 : Int32) then (f_M_rotation_134 N (nI (n % 8)) (v &&& (((1 : Int32) <<< (nI (n / 8 % 8) &&& 31)) ^^^ (-1 : Int32))) (eM Z' K m g pf pn pl J sh)) else (f_M_rotation_134 N (nI (n % 8)) (v ||| ((1 : Int32) <<< (nI (n / 8 % 8) &&& 31))) (eM Z' K m g pf pn pl J sh))))) := by
    intro Z' t' v hv b1 b2' hI'
    by_cases h1 : n / 64 = 1
    · rw [h1, if_pos (show nI 1 = (1 : Int32) from rfl), if_pos (show nI 1 = (1 : Int32) from rfl)]
      obtain ⟨c, hc⟩ := cb (g 1)
      have hbf : bfC (n / 8 % 8) v (b2 c) = bfM (n / 8 % 8) v (b2 c) := by_all (P := fun v => bfC (n / 8 % 8) v (b2 c) = bfM (n / 8 % 8) v (b2 c)) (fun k hk => bf_eq c _ hy k hk) hv
      have hby : By (bfC (n / 8 % 8) v (b2 c)) := by
        have := by_all (P := fun v => bfC (n / 8 % 8) v (b2 c) &&& 255 = bfC (n / 8 % 8) v (b2 c)) (fun k hk => bf_by c _ hy k hk) hv
        rw [← this]; exact and8 _
      refine ⟨Z', K, m, upd g 1 (bfC (n / 8 % 8) v (b2 c)), nI 6, pl, sh, pf, pn, pl, J, t', ?_, ?_, b1, by omega, hI'.reg (hg.u8 (by decide) hby)⟩
      · rw [c_carry, xB_some, hc, c_bitFlags, xB_some, xw_1, uC_g]
      · rw [m_bit N Z' K m g sh pf pn pl J hy, xB_some, hc, hbf]
    · have n1 : ¬ nI (n / 64) = 1 := nI_ne (x := 1) (c := 1) rfl (by omega) (by decide) h1
      obtain ⟨r, g', J', hr, hg', e1, e2⟩ := rot_core N Z' K m g (nI 6) pl sh pf pn pl J hN hg hx h1 hy hv
      have e2 := e2 (fun v S => f_M_rotation_134 N (nI (n % 8)) v S)
      rw [if_neg n1, if_neg n1, e1, xB_some, e2]
      exact (rot_tail N Z' K m g' sh pf pn pl J' hN (hI'.reg hg') (by omega) hM P hP hz hr).up b1 (by omega)
  have viaM : Sim t 150 (f_P_rotate_63 N (b2 P) (nI n) (nI (n / 8 % 8)) (nI (n % 8)) 6 (eC Z m g (nI 6) pl sh)) (f_M_rotation_80 N (nI (n / 64)) (nI (n / 8 % 8)) (nI (n % 8)) 6 (eM Z K m g pf pn pl J sh)) := by
    obtain ⟨t1, a1, a2, hI1⟩ := hI.a3 pl (by omega)
    unfold f_P_rotate_63 f_M_rotation_80
    rw [c_operand6, xB_some, m_get6 N K m g sh pf pn pl J hT hN (by omega), xB_some, dec_x hn]
    exact core _ t1 _ (hm _) a1 a2 hI1
  unfold f_P_rotate_37 f_M_rotation_65
  rw [xV_eq, xV_eq, dec_y hn, dec_z hn, eM_pf]
  cases P
  · rw [if_pos (by decide), if_pos (hP.mp rfl)]
    by_cases h6 : n % 8 = 6
    · rw [h6] at viaM core ⊢
      exact viaM
    · unfold f_P_rotate_63 f_M_rotation_80
      rw [c_operand N Z m g 6 pl sh hbs rfl hz h6, xB_some, m_get N K m g sh pf pn pl J 6 Z hM rfl hz h6, xB_some, dec_x hn]
      exact core Z t _ (sgv_by hg hbs hz) (Nat.le_refl _) (by omega) hI
  · have hpf : ¬ pf = 0 := fun e => by have := hP.mpr e; cases this
    rw [if_neg (by decide), if_neg hpf]
    exact viaM
theorem sim_rot (b : Nat) (hN : 64 ≤ N) {t : Nat} (hI : Inv Z K m g t) (hb : t + 250 < 2 ^ 30) (hM : Mh b pf) (hp : pn = 0) : Sim t 250 (f_P_rotate N (eC Z m g (nI b) pm sh)) (f_M_rotation N (eM Z K m g pf pn pl J sh)) := by
  obtain ⟨hT, hm, hg, hR⟩ := hI
  have hI : Inv Z K m g t := ⟨hT, hm, hg, hR⟩
  have hbs := hM.bs
  by_cases h6 : b = 6
  · subst h6
    have hpf : pf = 0 := by
      rcases hM with ⟨_, h⟩ | ⟨h, _⟩ | ⟨h, _⟩
      · exact h
      · cases h
      · cases h
    subst hpf
    obtain ⟨t1, a1, a2, hI1⟩ := hI.a4 (g 21) (by omega)
    have hg1 : Gd (gR (gPC g 1)) := (hg.pc 1).r
    obtain ⟨n, hn, en⟩ := hm (ix (g 21))
    have hin := rot_in N (zA Z (g 21) 4) K m (gR (gPC g 1)) sh 0 pn (hlv 6 g) J hN (hI1.reg hg1) (by omega) (Or.inl ⟨rfl, rfl⟩) false (by simp) hn
    have ehl : pw (gR (gPC g 1) 6) (gR (gPC g 1) 7) = hlv 6 g := by
      unfold gR gPC hlv
      rw [if_pos rfl, pk_un (by decide), pk_un (by decide), pk_un (by decide), pk_un (by decide)]
    have ec : f_P_rotate N (eC Z m g (nI 6) pm sh) = f_P_rotate_37 N (b2 false) (nI n) (eC (zA Z (g 21) 4) m (gR (gPC g 1)) (nI 6) (hlv 6 g) sh) := by
      unfold f_P_rotate f_P_rotate_17 f_P_findM f_P_findM_49
      rw [eC_b, if_pos (by decide), c_hl N Z m g 6 pm sh hbs, xB_some, xPu_eq, uC_pm, eC_b, if_pos (by decide), xB_some, if_pos rfl, c_fetch, xB_some, en]
      rfl
    have em : f_M_rotation N (eM Z K m g 0 pn pl J sh) = f_M_rotation_65 N (nI (n / 64)) (nI (n / 8 % 8)) (nI (n % 8)) (eM (zA Z (g 21) 4) K m (gR (gPC g 1)) 0 pn (hlv 6 g) J sh) := by
      unfold f_M_rotation f_M_rotation_11 f_M_rotation_29
      rw [eM_pf, if_pos rfl, if_pos rfl, m_fetch N K m g sh 0 pn pl J hT hN (by omega), xB_some, en, xV_eq, xV_eq, xV_eq, eM_pf, if_pos rfl, m_pair N K m _ sh 0 pn pl J _ (a := 6) (j := 6) rfl (by decide) hg1, xB_some, xPu_eq, uM_pl, ehl, dec_x hn, dec_y hn, dec_z hn]
    rw [ec, em]
    exact hin.up a1 (by omega)
  · have hne : ¬ nI b = 6 := by
      rcases hbs with h | h | h
      · exact absurd h h6
      · subst h; decide
      · subst h; decide
    have hpf : ¬ pf = 0 := by
      rcases hM with ⟨h, _⟩ | ⟨_, h⟩ | ⟨_, h⟩
      · exact absurd h h6
      · subst h; decide
      · subst h; decide
    obtain ⟨Z1, g1, pv, t1, a1, a2, hI1, e1, e2⟩ := sim_aim N Z K m g b pm sh pf pn pl J hN hI (by omega) hM
    have hg1 : Gd g1 := hI1.2.2.1
    obtain ⟨t2, a3, a4, hI2⟩ := hI1.a3 (g1 21) (by omega)
    obtain ⟨n, hn, en⟩ := hm (ix (g1 21))
    have hin := rot_in N (zA Z1 (g1 21) 3) K m (gPC g1 1) sh pf 1 pv J hN (hI2.reg (hg1.pc 1)) (by omega) (Or.inr (Or.inl ⟨rfl, rfl⟩)) true ⟨fun h => (Bool.noConfusion h), fun h => absurd h hpf⟩ hn
    have ec : f_P_rotate N (eC Z m g (nI b) pm sh) = f_P_rotate_37 N (b2 true) (nI n) (eC (zA Z1 (g1 21) 3) m (gPC g1 1) (nI 6) pv sh) := by
      unfold f_P_rotate f_P_rotate_17
      rw [eC_b, if_neg hne, e1, xB_some, if_neg (by decide), c_nextByte, xB_some, en]
      rfl
    have em : f_M_rotation N (eM Z K m g pf pn pl J sh) = f_M_rotation_65 N (nI (n / 64)) (nI (n / 8 % 8)) (nI (n % 8)) (eM (zA Z1 (g1 21) 3) K m (gPC g1 1) pf 1 pv J sh) := by
      unfold f_M_rotation f_M_rotation_11 f_M_rotation_29
      rw [eM_pf, if_neg hpf, e2, xB_some, eM_pf, if_neg hpf, m_next N K m g1 sh pf 1 pv J hI1.1 hN (by omega), xB_some, en, xV_eq, xV_eq, xV_eq, eM_pf, if_neg hpf, dec_x hn, dec_y hn, dec_z hn]
    rw [ec, em]
    exact hin.up (by omega) (by omega)
end RO
