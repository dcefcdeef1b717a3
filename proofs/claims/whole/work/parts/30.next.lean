/-! one instruction -/
def hC (a : Int32) : Int32 := if (a >>> ((6 : Int32) &&& 31)) = 0 then (if ((a >>> ((3 : Int32) &&& 31)) &&& 7) = 6 then (if (a &&& 7) < 4 then 0 else (if 6 < (a &&& 7) then 0 else 1)) else 0) else (if (a >>> ((6 : Int32) &&& 31)) = 1 then (if ((a >>> ((3 : Int32) &&& 31)) &&& 7) = 6 then (if a = 118 then 0 else 1) else (if (a &&& 7) = 6 then (if a = 118 then 0 else 1) else 0)) else (if (a >>> ((6 : Int32) &&& 31)) = 2 then (if (a &&& 7) = 6 then 1 else 0) else 0))
def hMn (n : Nat) : Bool := decide ((n / 64 = 0 ∧ n / 8 % 8 = 6 ∧ 4 ≤ n % 8 ∧ n % 8 ≤ 6) ∨ (n / 64 = 1 ∧ (n / 8 % 8 = 6 ∨ n % 8 = 6) ∧ n ≠ 118) ∨ (n / 64 = 2 ∧ n % 8 = 6))
theorem hC_n : ∀ n, n < 256 → hC (nI n) = b2 (hMn n) := by decide +kernel
theorem c_hasM (N : Nat) (a : Int32) (S : xSt) : f_P_hasM N a S = some (hC a, S) := by
  unfold f_P_hasM f_P_hasM_65 f_P_hasM_66 f_P_hasM_79 f_P_hasM_89 f_P_hasM_90 f_P_hasM_102 hC
  simp only [xV_eq, xBo_0, xBo_1]
  repeat' split
  all_goals first | rfl | contradiction
theorem hMn_t {n : Nat} (h : hMn n = true) : (n / 64 = 0 ∧ n / 8 % 8 = 6 ∧ 4 ≤ n % 8 ∧ n % 8 ≤ 6) ∨ (n / 64 = 1 ∧ (n / 8 % 8 = 6 ∨ n % 8 = 6) ∧ n ≠ 118) ∨ (n / 64 = 2 ∧ n % 8 = 6) := of_decide_eq_true h
theorem hMn_f {n : Nat} (h : hMn n = false) : ¬ ((n / 64 = 0 ∧ n / 8 % 8 = 6 ∧ 4 ≤ n % 8 ∧ n % 8 ≤ 6) ∨ (n / 64 = 1 ∧ (n / 8 % 8 = 6 ∨ n % 8 = 6) ∧ n ≠ 118) ∨ (n / 64 = 2 ∧ n % 8 = 6)) := of_decide_eq_false h
section NX
variable (N : Nat) (Z K : xSt) (m g : Nat → Int32) (b : Nat) (pm sh pf pl : Int32) (J : Nat → Int32)
/-- LD r,r' and the like, both registers: no M -/
theorem sim_ld (hN : 64 ≤ N) {t : Nat} (hI : Inv Z K m g t) (hM : Mh b pf) {y z : Nat} (hy : y < 8) (hz : z < 8) (y6 : y ≠ 6) (z6 : z ≠ 6) : Sim t 100 (xB (f_P_operand N (nI z) (eC Z m g (nI b) pm sh)) fun v S => xB (f_P_setOperand N (nI y) v S) fun _ S => some (0, S)) (xB (f_M_get N (nI z) (eM Z K m g pf 0 pl J sh)) fun v S => xB (f_M_put N (nI y) v S) fun _ S => some (0, S)) := by
  obtain ⟨hT, hm, hg, hR⟩ := hI
  have hI : Inv Z K m g t := ⟨hT, hm, hg, hR⟩
  have hv := sgv_by hg hM.bs hz
  rw [c_operand N Z m g b pm sh hM.bs rfl hz z6, xB_some, c_setOperand N Z m g b pm sh hM.bs rfl hy y6, xB_some, m_get N K m g sh pf 0 pl J b Z (hM.mg rfl) rfl hz z6, xB_some, m_put N K m g sh pf 0 pl J b Z (hM.mg rfl) hg rfl hy y6 hv, xB_some]
  exact ⟨Z, K, m, _, nI b, pm, sh, pf, 0, pl, J, t, rfl, rfl, Nat.le_refl _, by omega, hI.reg (hg.sg hM.bs hy hv)⟩
/-- behind findM -/
theorem sim_ldM (hN : 64 ≤ N) {t : Nat} (hI : Inv Z K m g t) (hb : t + 100 < 2 ^ 30) {y z : Nat} (hy : y < 8) (hz : z < 8) (h66 : ¬ (y = 6 ∧ z = 6)) (h6 : y = 6 ∨ z = 6) : Sim t 100 (xB (f_P_operand N (nI z) (eC Z m g (nI 6) pl sh)) fun v S => xB (f_P_setOperand N (nI y) v S) fun _ S => some (0, S)) (xB (f_M_get N (nI z) (eM Z K m g pf 1 pl J sh)) fun v S => xB (f_M_put N (nI y) v S) fun _ S => some (0, S)) := by
  obtain ⟨hT, hm, hg, hR⟩ := hI
  have hI : Inv Z K m g t := ⟨hT, hm, hg, hR⟩
  obtain ⟨t1, a1, a2, hI1⟩ := hI.a3 pl (by omega)
  have hM : Mg 6 pf 1 := Or.inr (Or.inl ⟨rfl, rfl⟩)
  rcases h6 with rfl | rfl
  · have z6 : z ≠ 6 := fun e => h66 ⟨rfl, e⟩
    rw [c_operand N Z m g 6 pl sh bs6 rfl hz z6, xB_some, m_get N K m g sh pf 1 pl J 6 Z hM rfl hz z6, xB_some, show nI 6 = (6 : Int32) from rfl, c_setOperand6, xB_some, m_put6 N K m g sh pf 1 pl J hT hN (by omega), xB_some]
    exact ⟨_, K, _, g, nI 6, pl, sh, pf, 1, pl, J, t1, rfl, rfl, a1, by omega, hI1.mem (hm.mw _ _)⟩
  · have y6 : y ≠ 6 := fun e => h66 ⟨e, rfl⟩
    have hv := hm (ix pl)
    rw [show f_P_operand N (nI 6) (eC Z m g (nI 6) pl sh) = some (m (ix pl), eC (zA Z pl 3) m g (nI 6) pl sh) from c_operand6 N Z m g pl sh (nI 6), xB_some, show f_M_get N (nI 6) (eM Z K m g pf 1 pl J sh) = some (m (ix pl), eM (zA Z pl 3) K m g pf 1 pl J sh) from m_get6 N K m g sh pf 1 pl J hT hN (by omega), xB_some, c_setOperand N _ m g 6 pl sh bs6 rfl hy y6, xB_some, m_put N K m g sh pf 1 pl J 6 _ hM hg rfl hy y6 hv, xB_some]
    exact ⟨_, K, m, _, nI 6, pl, sh, pf, 1, pl, J, t1, rfl, rfl, a1, by omega, hI1.reg (hg.sg bs6 hy hv)⟩
theorem sim_op (hN : 64 ≤ N) {t : Nat} (hI : Inv Z K m g t) (hM : Mh b pf) {y z : Nat} (hy : y < 8) (hz : z < 8) (z6 : z ≠ 6) : Sim t 100 (xB (f_P_operand N (nI z) (eC Z m g (nI b) pm sh)) fun v S => xB (f_P_operate N (nI y) v S) fun _ S => some (0, S)) (xB (f_M_get N (nI z) (eM Z K m g pf 0 pl J sh)) fun v S => xB (f_M_work N (nI y) v S) fun _ S => some (0, S)) := by
  obtain ⟨hT, hm, hg, hR⟩ := hI
  have hI : Inv Z K m g t := ⟨hT, hm, hg, hR⟩
  have hv := sgv_by hg hM.bs hz
  obtain ⟨g', J', hg', e1, e2⟩ := sim_work N Z K m g (nI b) pm sh pf 0 pl J hN hg hv hy
  rw [c_operand N Z m g b pm sh hM.bs rfl hz z6, xB_some, e1, xB_some, m_get N K m g sh pf 0 pl J b Z (hM.mg rfl) rfl hz z6, xB_some, e2, xB_some]
  exact ⟨Z, K, m, g', nI b, pm, sh, pf, 0, pl, J', t, rfl, rfl, Nat.le_refl _, by omega, hI.reg hg'⟩
theorem sim_opM (hN : 64 ≤ N) {t : Nat} (hI : Inv Z K m g t) (hb : t + 100 < 2 ^ 30) {y : Nat} (hy : y < 8) : Sim t 100 (xB (f_P_operand N (nI 6) (eC Z m g (nI 6) pl sh)) fun v S => xB (f_P_operate N (nI y) v S) fun _ S => some (0, S)) (xB (f_M_get N (nI 6) (eM Z K m g pf 1 pl J sh)) fun v S => xB (f_M_work N (nI y) v S) fun _ S => some (0, S)) := by
  obtain ⟨hT, hm, hg, hR⟩ := hI
  have hI : Inv Z K m g t := ⟨hT, hm, hg, hR⟩
  obtain ⟨t1, a1, a2, hI1⟩ := hI.a3 pl (by omega)
  have hv := hm (ix pl)
  obtain ⟨g', J', hg', e1, e2⟩ := sim_work N (zA Z pl 3) K m g (nI 6) pl sh pf 1 pl J hN hg hv hy
  rw [show f_P_operand N (nI 6) (eC Z m g (nI 6) pl sh) = some (m (ix pl), eC (zA Z pl 3) m g (nI 6) pl sh) from c_operand6 N Z m g pl sh (nI 6), xB_some, show f_M_get N (nI 6) (eM Z K m g pf 1 pl J sh) = some (m (ix pl), eM (zA Z pl 3) K m g pf 1 pl J sh) from m_get6 N K m g sh pf 1 pl J hT hN (by omega), xB_some, e1, xB_some, e2, xB_some]
  exact ⟨_, K, m, g', nI 6, pl, sh, pf, 1, pl, J', t1, rfl, rfl, a1, by omega, hI1.reg hg'⟩
/-- the class behind the prefixes -/
def cBody (N : Nat) (a : Int32) (S : xSt) : xR := xB (f_P_hasM N a S) fun v6 S7 => (if v6 = 0 then (f_P_next_114 N a S7) else (xB (f_P_findM N S7) fun v8 S9 => (f_P_next_114 N a S9)))
def mBody (N : Nat) (a1 : Int32) (S : xSt) : xR := if a1 = (237 : Int32) then (xPu S 0 4 (0 : Int32) fun S5 => (xB (f_M_fetch N S5) fun v6 S7 => (xB (f_M_more N v6 S7) fun v8 S9 => (f_M_one_177 N S9)))) else (if a1 = (203 : Int32) then (xB (f_M_rotation N S) fun v3 S4 => (f_M_one_177 N S4)) else (xB (f_M_perform N a1 S) fun v1 S2 => (f_M_one_177 N S2)))
theorem cB_f {n : Nat} (hn : n < 256) (h : hMn n = false) (S : xSt) : cBody N (nI n) S = f_P_next_114 N (nI n) S := by
  unfold cBody
  rw [c_hasM, xB_some, hC_n n hn, h, if_pos (show b2 false = 0 from rfl)]
theorem cB_t {n : Nat} (hn : n < 256) (h : hMn n = true) (S : xSt) : cBody N (nI n) S = xB (f_P_findM N S) fun v8 S9 => (f_P_next_114 N (nI n) S9) := by
  unfold cBody
  rw [c_hasM, xB_some, hC_n n hn, h, if_neg (by decide)]
theorem sim_body (hN : 64 ≤ N) {t : Nat} (hI : Inv Z K m g t) (hb : t + 300 < 2 ^ 30) (hM : Mh b pf) {n : Nat} (hn : n < 256) : Sim t 300 (cBody N (nI n) (eC Z m g (nI b) pm sh)) (mBody N (nI n) (eM Z K m g pf 0 pl J sh)) := by
  obtain ⟨hT, hm, hg, hR⟩ := hI
  have hI : Inv Z K m g t := ⟨hT, hm, hg, hR⟩
  by_cases h237 : n = 237
  · subst h237
    rw [cB_f N hn (by decide)]
    unfold f_P_next_114 mBody
    rw [xV_eq, xV_eq, if_neg (by decide), if_pos (by decide), if_pos (by decide), xPu_eq, uC_b, xPu_eq, uM_pf, c_fetch, xB_some, m_fetch N K m g sh 0 0 pl J hT hN (by omega), xB_some]
    obtain ⟨t1, a1, a2, hI1⟩ := hI.a4 (g 21) (by omega)
    obtain ⟨k, hk, ek⟩ := hm (ix (g 21))
    rw [ek]
    exact ((sim_more N _ K m _ pm sh 0 pl J hN (hI1.reg (hg.pc 1).r) (by omega) hk).tail (fun _ _ => rfl) (fun _ _ => rfl)).up a1 (by omega)
  by_cases h203 : n = 203
  · subst h203
    rw [cB_f N hn (by decide)]
    unfold f_P_next_114 mBody
    rw [xV_eq, xV_eq, if_pos (by decide), if_neg (by decide), if_pos (by decide)]
    exact ((sim_rot N Z K m g pm sh pf 0 pl J b hN hI (by omega) hM rfl).tail (fun _ _ => rfl) (fun _ _ => rfl)).up (Nat.le_refl _) (by omega)
  by_cases h118 : n = 118
  · subst h118
    rw [cB_f N hn (by decide)]
    unfold f_P_next_114 mBody f_M_perform
    rw [xV_eq, xV_eq, if_neg (by decide), if_neg (by decide), if_pos (by decide), if_neg (by decide), if_neg (by decide), xV_eq, xV_eq, xV_eq, if_neg (by decide), if_pos (by decide), if_pos (by decide), xw_25, uC_g, xw_25, uM_g]
    exact ⟨Z, K, m, _, nI b, pm, sh, pf, 0, pl, J, t, rfl, rfl, Nat.le_refl _, by omega, hI.reg (hg.u25 (Or.inr rfl))⟩
  have n237 : ¬ nI n = (237 : Int32) := nI_ne (x := 237) (c := 237) rfl (by omega) (by decide) h237
  have n203 : ¬ nI n = (203 : Int32) := nI_ne (x := 203) (c := 203) rfl (by omega) (by decide) h203
  have n118 : ¬ nI n = (118 : Int32) := nI_ne (x := 118) (c := 118) rfl (by omega) (by decide) h118
  have hy : n / 8 % 8 < 8 := Nat.mod_lt _ (by decide)
  have hz : n % 8 < 8 := Nat.mod_lt _ (by decide)
  have eC1 : ∀ S, f_P_next_114 N (nI n) S = (if nI n < (64 : Int32) then (xB (f_P_doFirst N (nI (n / 8 % 8)) (nI (n % 8)) S) fun v19 S20 => (f_P_next_292 N S20)) else (if nI n < (128 : Int32) then (xB (f_P_operand N (nI (n % 8)) S) fun v15 S16 => (xB (f_P_setOperand N (nI (n / 8 % 8)) v15 S16) fun v17 S18 => (f_P_next_292 N S18))) else (if nI n < (192 : Int32) then (xB (f_P_operand N (nI (n % 8)) S) fun v11 S12 => (xB (f_P_operate N (nI (n / 8 % 8)) v11 S12) fun v13 S14 => (f_P_next_292 N S14))) else (if nI (n % 8) = (1 : Int32) then (xB (f_P_popOrGo N (nI (n / 8 % 8)) S) fun v9 S10 => (f_P_next_292 N S10)) else (if nI (n % 8) = (3 : Int32) then (xB (f_P_doMixed N (nI (n / 8 % 8)) S) fun v7 S8 => (f_P_next_292 N S8)) else (if nI (n % 8) = (5 : Int32) then (xB (f_P_pushOrCall N (nI (n / 8 % 8)) S) fun v5 S6 => (f_P_next_292 N S6)) else (xB (f_P_doLast N (nI (n / 8 % 8)) (nI (n % 8)) S) fun v3 S4 => (f_P_next_292 N S4)))))))) := fun S => by
    unfold f_P_next_114
    rw [dec_y hn, dec_z hn, xV_eq, xV_eq, if_neg n203, if_neg n237, if_neg n118]
  have eM1 : ∀ S, mBody N (nI n) S = xB (f_M_perform N (nI n) S) fun v1 S2 => (f_M_one_177 N S2) := fun S => by
    unfold mBody
    rw [if_neg n237, if_neg n203]
  rw [eM1]
  unfold f_M_perform
  rw [dec_x hn, dec_y hn, dec_z hn, xV_eq, xV_eq, xV_eq]
  by_cases q1 : n < 64
  · have hx : n / 64 = 0 := by omega
    have l64 : nI n < (64 : Int32) := nI_lt (b := 64) q1 (by decide)
    rw [hx, if_pos (show nI 0 = (0 : Int32) from rfl)]
    cases hh : hMn n
    · rw [cB_f N hn hh, eC1, if_pos l64]
      have := hMn_f hh
      exact (((sim_first N Z K m g b pm sh pf 0 pl J hN hI (by omega) hM rfl hy hz (fun q => this (Or.inl ⟨hx, q⟩))).tail (fun _ _ => rfl) (fun _ _ => rfl)).r).up (Nat.le_refl _) (by omega)
    · have hq : n / 8 % 8 = 6 ∧ 4 ≤ n % 8 ∧ n % 8 ≤ 6 := by
        rcases hMn_t hh with ⟨_, q⟩ | ⟨q, _⟩ | ⟨q, _⟩
        · exact q
        · omega
        · omega
      have s := sim_firstM N Z K m g b pm sh pf 0 pl J hN hI (by omega) hM hq.2.1 hq.2.2
      rw [cB_t N hn hh]
      have e : ∀ S, f_P_next_114 N (nI n) S = xB (f_P_doFirst N (nI 6) (nI (n % 8)) S) fun _ S => some (0, S) := fun S => by rw [eC1, if_pos l64, hq.1]; rfl
      simp only [e]
      rw [hq.1, ← xB_assoc]
      exact ((s.tail (fun _ _ => rfl) (fun _ _ => rfl)).r).up (Nat.le_refl _) (by omega)
  · have l64 : ¬ nI n < (64 : Int32) := nI_nl (x := 64) (c := 64) rfl (by omega) (by omega)
    by_cases q2 : n < 128
    · have hx : n / 64 = 1 := by omega
      have l128 : nI n < (128 : Int32) := nI_lt (b := 128) q2 (by decide)
      rw [hx, if_neg (by decide), if_pos (show nI 1 = (1 : Int32) from rfl), if_neg n118]
      cases hh : hMn n
      · have hf := hMn_f hh
        have y6 : n / 8 % 8 ≠ 6 := fun e => hf (Or.inr (Or.inl ⟨hx, Or.inl e, h118⟩))
        have z6 : n % 8 ≠ 6 := fun e => hf (Or.inr (Or.inl ⟨hx, Or.inr e, h118⟩))
        rw [cB_f N hn hh, eC1, if_neg l64, if_pos l128, if_neg (nI_ne (x := 6) (c := 6) rfl (by omega) (by decide) y6), if_neg (nI_ne (x := 6) (c := 6) rfl (by omega) (by decide) z6)]
        exact ((sim_ld N Z K m g b pm sh pf pl J hN hI hM hy hz y6 z6).r).up (Nat.le_refl _) (by omega)
      · have h6 : n / 8 % 8 = 6 ∨ n % 8 = 6 := by
          rcases hMn_t hh with ⟨q, _⟩ | ⟨_, q, _⟩ | ⟨q, _⟩
          · omega
          · exact q
          · omega
        have e65 : ∀ S, (if nI (n / 8 % 8) = (6 : Int32) then (f_M_perform_65 N (nI (n / 8 % 8)) (nI (n % 8)) S) else (if nI (n % 8) = (6 : Int32) then (f_M_perform_65 N (nI (n / 8 % 8)) (nI (n % 8)) S) else (f_M_perform_69 N (nI (n / 8 % 8)) (nI (n % 8)) S))) = f_M_perform_65 N (nI (n / 8 % 8)) (nI (n % 8)) S := fun S => by
          rcases h6 with e | e
          · rw [e, if_pos (show nI 6 = (6 : Int32) from rfl)]
          · rw [e, if_pos (show nI 6 = (6 : Int32) from rfl), ite_self]
        rw [e65, cB_t N hn hh]
        obtain ⟨Z1, g1, pv, t1, a1, a2, hI1, e1, e2⟩ := sim_aim N Z K m g b pm sh pf 0 pl J hN hI (by omega) hM
        unfold f_M_perform_65 f_M_perform_69
        rw [e1, xB_some, e2, xB_some, eC1, if_neg l64, if_pos l128]
        exact ((sim_ldM N Z1 K m g1 sh pf pv J hN hI1 (by omega) hy hz (by omega) h6).r).up a1 (by omega)
    · have l128 : ¬ nI n < (128 : Int32) := nI_nl (x := 128) (c := 128) rfl (by omega) (by omega)
      by_cases q3 : n < 192
      · have hx : n / 64 = 2 := by omega
        have l192 : nI n < (192 : Int32) := nI_lt (b := 192) q3 (by decide)
        rw [hx, if_neg (by decide), if_neg (by decide), if_pos (show nI 2 = (2 : Int32) from rfl)]
        cases hh : hMn n
        · have hf := hMn_f hh
          have z6 : n % 8 ≠ 6 := fun e => hf (Or.inr (Or.inr ⟨hx, e⟩))
          rw [cB_f N hn hh, eC1, if_neg l64, if_neg l128, if_pos l192, if_neg (nI_ne (x := 6) (c := 6) rfl (by omega) (by decide) z6)]
          exact ((sim_op N Z K m g b pm sh pf pl J hN hI hM hy hz z6).r).up (Nat.le_refl _) (by omega)
        · have h6 : n % 8 = 6 := by
            rcases hMn_t hh with ⟨q, _⟩ | ⟨q, _⟩ | ⟨_, q⟩
            · omega
            · omega
            · exact q
          rw [cB_t N hn hh]
          obtain ⟨Z1, g1, pv, t1, a1, a2, hI1, e1, e2⟩ := sim_aim N Z K m g b pm sh pf 0 pl J hN hI (by omega) hM
          rw [e1, xB_some, eC1, if_neg l64, if_neg l128, if_pos l192, h6, if_pos (show nI 6 = (6 : Int32) from rfl), e2, xB_some]
          exact ((sim_opM N Z1 K m g1 sh pf pv J hN hI1 (by omega) hy).r).up a1 (by omega)
      · have hx : n / 64 = 3 := by omega
        have l192 : ¬ nI n < (192 : Int32) := nI_nl (x := 192) (c := 192) rfl (by omega) (by omega)
        have hh : hMn n = false := by
          apply decide_eq_false
          omega
        rw [cB_f N hn hh, eC1, if_neg l64, if_neg l128, if_neg l192, hx, if_neg (show ¬ nI 3 = (0 : Int32) from by decide), if_neg (show ¬ nI 3 = (1 : Int32) from by decide), if_neg (show ¬ nI 3 = (2 : Int32) from by decide)]
        by_cases z1 : n % 8 = 1
        · rw [z1, if_pos (show nI 1 = (1 : Int32) from rfl), if_neg (by decide)]
          exact (((sim_pop N Z K m g b pm sh pf 0 pl J hN hI (by omega) hM hy).tail (fun _ _ => rfl) (fun _ _ => rfl)).r).up (Nat.le_refl _) (by omega)
        by_cases z3 : n % 8 = 3
        · rw [z3, if_neg (by decide), if_pos (show nI 3 = (3 : Int32) from rfl), if_pos (show nI 3 = (3 : Int32) from rfl)]
          exact (((sim_mixed N Z K m g b pm sh pf 0 pl J hN hI (by omega) hM hy (by omega)).tail (fun _ _ => rfl) (fun _ _ => rfl)).r).up (Nat.le_refl _) (by omega)
        have n1 : ¬ nI (n % 8) = (1 : Int32) := nI_ne (x := 1) (c := 1) rfl (by omega) (by decide) z1
        have n3 : ¬ nI (n % 8) = (3 : Int32) := nI_ne (x := 3) (c := 3) rfl (by omega) (by decide) z3
        rw [if_neg n1, if_neg n3, if_neg n3]
        by_cases z5 : n % 8 = 5
        · rw [z5, if_pos (show nI 5 = (5 : Int32) from rfl)]
          exact (((sim_pushOrCall N Z K m g b pm sh pf 0 pl J hN hI (by omega) hM hy).tail (fun _ _ => rfl) (fun _ _ => rfl)).r).up (Nat.le_refl _) (by omega)
        · rw [if_neg (nI_ne (x := 5) (c := 5) rfl (by omega) (by decide) z5)]
          exact (((sim_last N Z K m g b pm sh pf 0 pl J hN hI (by omega) hy (by omega)).tail (fun _ _ => rfl) (fun _ _ => rfl)).r).up (Nat.le_refl _) (by omega)
theorem c_isP {n : Nat} (hn : n < 256) (S : xSt) : f_P_isPrefix N (nI n) S = some (b2 (decide (n = 221 ∨ n = 253)), S) := by
  unfold f_P_isPrefix f_P_isPrefix_14 f_P_isPrefix_19
  by_cases h1 : n = 221
  · subst h1; rw [if_pos (by decide), xBo_1]; rfl
  by_cases h2 : n = 253
  · subst h2; rw [if_neg (by decide), if_pos (by decide), xBo_1]; rfl
  rw [if_neg (nI_ne (x := 221) (c := 221) rfl (by omega) (by decide) h1), if_neg (nI_ne (x := 253) (c := 253) rfl (by omega) (by decide) h2), xBo_0, decide_eq_false (by omega)]
  rfl
/-- what the class does with the byte behind the prefixes -/
def cEnd (N : Nat) (v2 : Int32) (S3 : xSt) : xR := xB (f_P_isPrefix N v2 S3) fun v4 S5 => (if v4 = 0 then cBody N v2 S5 else (some (0, S5)))
theorem sim_pre (hN : 64 ≤ N) : ∀ (j c k k' : Nat) (Z : xSt) (g : Nat → Int32) (b : Nat) (pf : Int32) (t n : Nat), c + j = 3 → j < k → j < k' → n < 256 → Inv Z K m g t → t + 300 + 16 * j < 2 ^ 30 → Mh b pf →
    Sim t (300 + 16 * j) (xB (f_P_fetchBehindPrefixes_7 N k (nI n) (nI c) (eC Z m g (nI b) pm sh)) (cEnd N)) (f_M_one_86 N k' (nI n) (nI c) (eM Z K m g pf 0 pl J sh)) := by
  intro j
  induction j with
  | zero =>
    intro c k k' Z g b pf t n hc hk hk' hn hI hb hM
    obtain ⟨k, rfl⟩ : ∃ q, k = q + 1 := ⟨k - 1, by omega⟩
    obtain ⟨k', rfl⟩ : ∃ q, k' = q + 1 := ⟨k' - 1, by omega⟩
    obtain rfl : c = 3 := by omega
    rw [f_P_fetchBehindPrefixes_7, f_M_one_86, if_neg (by decide)]
    unfold f_P_fetchBehindPrefixes_51
    rw [xB_some, cEnd, c_isP N hn, xB_some]
    by_cases h1 : n = 221
    · subst h1
      rw [if_neg (by decide), if_pos (by decide)]
      unfold f_M_one_100
      rw [if_pos (by decide)]
      exact ⟨Z, K, m, g, nI b, pm, sh, pf, 0, pl, J, t, rfl, rfl, Nat.le_refl _, by omega, hI⟩
    by_cases h2 : n = 253
    · subst h2
      rw [if_neg (by decide), if_neg (by decide), if_pos (by decide)]
      unfold f_M_one_100
      rw [if_pos (by decide)]
      exact ⟨Z, K, m, g, nI b, pm, sh, pf, 0, pl, J, t, rfl, rfl, Nat.le_refl _, by omega, hI⟩
    rw [decide_eq_false (by omega), if_pos (show b2 false = 0 from rfl), if_neg (nI_ne (x := 221) (c := 221) rfl (by omega) (by decide) h1), if_neg (nI_ne (x := 253) (c := 253) rfl (by omega) (by decide) h2)]
    exact sim_body N Z K m g b pm sh pf pl J hN hI (by omega) hM hn
  | succ j ih =>
    intro c k k' Z g b pf t n hc hk hk' hn hI hb hM
    obtain ⟨hT, hm, hg, hR⟩ := hI
    have hI : Inv Z K m g t := ⟨hT, hm, hg, hR⟩
    obtain ⟨k, rfl⟩ : ∃ q, k = q + 1 := ⟨k - 1, by omega⟩
    obtain ⟨k', rfl⟩ : ∃ q, k' = q + 1 := ⟨k' - 1, by omega⟩
    rw [f_P_fetchBehindPrefixes_7, f_M_one_86, if_pos (show nI c < (3 : Int32) from nI_lt (b := 3) (by omega) (by decide)), c_isP N hn, xB_some]
    obtain ⟨t1, a1, a2, hI1⟩ := hI.a4 (g 21) (by omega)
    obtain ⟨n1, hn1, e1⟩ := hm (ix (g 21))
    have step : ∀ b' : Nat, Mh b' (nI b') → Sim t (300 + 16 * (j + 1)) (xB (f_P_fetchBehindPrefixes_37 N (f_P_fetchBehindPrefixes_7 N k) (nI c) (nI b') (eC Z m g (nI b) pm sh)) (cEnd N)) (f_M_one_124 N (f_M_one_86 N k') (nI c + 1) (nI b') (eM Z K m g pf 0 pl J sh)) := by
      intro b' hM'
      unfold f_P_fetchBehindPrefixes_37 f_M_one_124
      rw [xPu_eq, uC_b, c_fetch, xB_some, xPu_eq, uM_pf, m_fetch N K m g sh (nI b') 0 pl J hT hN (by omega), xB_some, e1, nI_1]
      exact (ih (c + 1) k k' _ _ b' (nI b') t1 n1 (by omega) (by omega) (by omega) hn1 (hI1.reg (hg.pc 1).r) (by omega) hM').up a1 (by omega)
    have n4 : ¬ nI c + 1 = (4 : Int32) := by rw [nI_1]; exact nI_ne (x := 4) (c := 4) rfl (by omega) (by decide) (by omega)
    by_cases h1 : n = 221
    · subst h1
      rw [if_neg (by decide), if_pos (by decide), if_pos (by decide)]
      unfold f_M_one_100
      rw [if_neg n4, if_pos (by decide)]
      exact step 18 (Or.inr (Or.inl ⟨rfl, rfl⟩))
    by_cases h2 : n = 253
    · subst h2
      rw [if_neg (by decide), if_neg (by decide), if_neg (by decide), if_pos (by decide)]
      unfold f_M_one_100
      rw [if_neg n4, if_neg (by decide)]
      exact step 19 (Or.inr (Or.inr ⟨rfl, rfl⟩))
    rw [decide_eq_false (by omega), if_pos (show b2 false = 0 from rfl), if_neg (nI_ne (x := 221) (c := 221) rfl (by omega) (by decide) h1), if_neg (nI_ne (x := 253) (c := 253) rfl (by omega) (by decide) h2)]
    unfold f_P_fetchBehindPrefixes_51
    rw [xB_some, cEnd, c_isP N hn, xB_some, decide_eq_false (by omega), if_pos (show b2 false = 0 from rfl)]
    exact (sim_body N Z K m g b pm sh pf pl J hN hI (by omega) hM hn).up (Nat.le_refl _) (by omega)
end NX
