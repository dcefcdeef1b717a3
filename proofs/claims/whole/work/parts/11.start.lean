/-! THE CLAIM OUT OF ONE WALK OF THE LAW'S BODY. Your part is whole_start (and what it stands on); all else here is the same for every law, but numbers. -/
def R_law : String := "HomeComputerLaw"
def lw_P (b : Addr) (xs : List Int32) (args : Array Value) (s : State) : Prop := args = #[.ref b] ∧ s.IntsAt b xs ∧ xs.length ≤ 2048 ∧ (Jvm.Cond.and given_1 narrow_1).before args s = true
def lw_Q (_ : Array Value) (s : State) (o : Outcome) (t : State) : Prop := o = .returned (some (.int 1)) ∧ Framed s o t [] 17 8544
def lw_Z (below : List Frame) (a : Array Value) (s : State) : State → Prop := fun t => ∃ o, t.status = .running ∧ Ended t below o ∧ lw_Q a s o t
/-- the law's own end, with 1 on the stack, nothing written that was there before, its room as the claim has it -/
theorem lw_ret {p : Program} {l : Launch} {e : Env} {s : State} {m : MethodId} {below : List Frame} {meth : Method} {c : Code} {b : Nat} (hx : p.tables.exec = Jvm.exec) (hb : c.code = code) (hr : meth.sig.returnType = ret) (hlocks : meth.locks = false) {pc : Nat} {H : Heap} {ls : Array Slot} (hdg : decode code pc = .ok (.ireturn, 1)) : W p l e room_1 s m #[Value.ref b] below meth c H [] 17 8544 (lw_Z below #[Value.ref b] s) (F0 m pc ls [.int 1]) := by
  intro T hT X
  obtain ⟨fs, hret, hrun, hended, hW, hframe⟩ := X.leave (v := some (.int 1)) (hlocks := hlocks) (fun h => by rw [hr] at h; cases h)
  have hmeth' : T.vm.method? m = some meth := X.method'
  refine ⟨T.setFrames fs, ?_, .returned (some (.int 1)), hrun, hended, rfl, ⟨_, rfl⟩, hW, hframe⟩
  jvm_step X.here [X.here.top, hx, hb, hdg, hmeth', hr, ret, narrow_b1]
  (try refine ⟨rfl, ?_⟩); (try refine ⟨rfl, ?_⟩)
  first | (intro acts; rw [hret _ acts rfl rfl rfl]) | rw [hret _ _ rfl rfl rfl]
  exact Steps.refl _
/-- what holds at the law's entry: the machine, the code, the tables' words (any of lw_tbl by 'hts w (by decide +kernel)'), the script of L ints xs at the cell b, what the Statement gives of the start (any of its parts by flat_of_before) -/
def lw_At (p : Program) (s : State) (m : MethodId) (meth : Method) (c : Code) (b L : Nat) (xs : Nat → Int32) : Prop :=
  p.tables.exec = Jvm.exec ∧ c.code = code ∧ meth.sig.returnType = ret ∧ c.maxLocals = 4 ∧ s.vm.findClass R_law = some m.cls ∧ (∀ w ∈ lw_tbl, w.before #[Value.ref b] s = true) ∧ va_X b L xs s s.heap ∧ b < s.heap.size ∧ meth.locks = false ∧ (Jvm.Cond.and given_1 narrow_1).before #[Value.ref b] s = true
/-- the two sides' first states -/
def s0C : xSt := fun q => if q = 5 then (fun i => if i = 1 then 6 else 0) else fun _ => 0
def s0M : xSt := fun _ _ => 0
set_option maxHeartbeats 4000000 in
set_option maxRecDepth 100000 in
theorem whole_start_open {p : Program} {e : Env} {s : State} {m : MethodId} {below : List Frame} {meth : Method} {c : Code} (l : Launch) {b L : Nat} {xs : Nat → Int32} (hpure : ∀ L : Nat, L ≤ 2048 → ∀ xs : Nat → Int32, ∃ N n : Nat, f_L_18 N L xs n 0 s0C s0M = some 1) (hL : L ≤ 2048) (C0 : lw_At p s m meth c b L xs) : W p l e room_1 s m #[Value.ref b] below meth c s.heap [] 0 0 (lw_Z below #[Value.ref b] s) (entryFrame m ([Value.ref b] : List Value).toArray 4) := by
  obtain ⟨hx, hb, hr, hml, hown, hts0, hX, hbl, hlocks, hgv⟩ := C0
  have hts : ∀ w ∈ wA, w.before #[Value.ref b] s = true := fun w h => hts0 w (List.mem_filter.mp h).1
  have hN : ∀ w ∈ nW, xNest w = true ∧ va_Nw w s := fun w h => ⟨(List.mem_filter.mp h).2, va_Nw.of (xNest_tab (List.mem_filter.mp h).2) (hts0 w (List.mem_filter.mp h).1)⟩
  obtain ⟨k0, i0, K0⟩ := u_known hts layH (hts _ kn_H)
  obtain ⟨k1, i1, K1⟩ := u_known hts layB (hts _ kn_B)
  obtain ⟨k2, i2, K2⟩ := u_known hts layP (hts _ kn_P)
  obtain ⟨k3, i3, K3⟩ := u_known hts layK (hts _ kn_K)
  obtain ⟨k4, i4, K4⟩ := u_known hts layT (hts _ kn_T)
  obtain ⟨k5, i5, K5⟩ := u_known hts layG (hts _ kn_G)
  obtain ⟨k6, i6, K6⟩ := u_known hts layM (hts _ kn_M)
  obtain ⟨D, hK⟩ : ∃ D : va_G, va_K D clA [] s := by
    refine ⟨(fun k => match k with | 0 => k0 | 1 => k1 | 2 => k2 | 3 => k3 | 4 => k4 | 5 => k5 | _ => k6, fun k => match k with | 0 => i0 | 1 => i1 | 2 => i2 | 3 => i3 | 4 => i4 | 5 => i5 | _ => i6), fun c q hq => ?_, fun k q hk => by simp at hk⟩
    match c, hq with
    | 0, hq => cases hq; exact K0
    | 1, hq => cases hq; exact K1
    | 2, hq => cases hq; exact K2
    | 3, hq => cases hq; exact K3
    | 4, hq => cases hq; exact K4
    | 5, hq => cases hq; exact K5
    | 6, hq => cases hq; exact K6
    | n + 7, hq => simp at hq
  have hA : ∀ q : Nat, s.heap.size ≤ q → (fun q => s.heap.size ≤ q) q := fun _ h => h
  have hP : va_P D clA [] s.heap := fun k q h => by simp at h
  have hD : va_D (fun q => s.heap.size ≤ q) [] := ⟨fun i j p q h => by simp at h, fun k q h => by simp at h⟩
  have hS : va_S (fun q => s.heap.size ≤ q) s.heap s.heap [] := va_S.rf
  have hl := lv_entry ([.ref b]) (n := 4) (Nat.le_of_ble_eq_true rfl)
  rw [lg_entry_eq]
  generalize (lg_sl ([.ref b]) ++ List.replicate (4 - (lg_sl ([.ref b])).length) Slot.unset).toArray = ls at hl ⊢
  have hl : lv_has ls 4 [(0, .ref b)] := hl
  refine va_new (ci := 0) (fs := [.null, .null]) (C := "HomeComputer") (T := TH) (N := 2) hx hb hts layH tyH tyH_ok hown (hts _ kL_7) (hts _ kn_H) (hts _ ki_H) hK hP hD hS hA rfl (fun j hj => by rcases (show j = 0 ∨ j = 1 by omega) with rfl | rfl <;> rfl) (Nat.le_of_ble_eq_true rfl) (Nat.le_of_ble_eq_true rfl) dL_law_0 (fun q0 H hP hD hS => ?_)
  have hP : va_P D clA [(q0, .inr (0, [.null, .null]))] H := hP
  have hD : va_D (fun q => s.heap.size ≤ q) [(q0, .inr (0, [.null, .null]))] := hD
  refine W.widen (k := 1) (n := 2) (by omega) (by omega) ?_
  refine lv_dup hx hb dL_law_3 rfl ?_
  have hPc := hP.sub (ws' := [(q0, .inr (0, [.null, .null]))]) [0] rfl
  have hDc := hD.sub (ws' := [(q0, .inr (0, [.null, .null]))]) [0] (by decide) rfl
  have hKc := hK.sub (tys' := []) [] rfl
  have hFc := va_free (wc := [(q0, .inr (0, [.null, .null]))]) hD hS hA [0] rfl
  refine va_callv (va_runI (As := []) (rest := [.ref q0]) ⟨hx, hb, hml, hown, hts⟩ (n_H_init l D q0 H.size) (cwI 0 hts (y_good yi_H.1) rfl rfl rfl (hts _ ki_H) (hts _ kL_9) (hts _ yi_H.2) rfl (by decide +kernel) ⟨Nat.le_of_ble_eq_true rfl, Nat.le_of_ble_eq_true rfl⟩) ⟨x_blindI, fun U hU hW => ⟨rfl, by rw [hU], by rw [hU]; exact hPc, va_K.moved hW.alike hKc, hDc.weaken (fun _ _ _ _ => trivial), fun w hw => ⟨(hN w hw).1, xNest_warm (hN w hw).1 hW (hN w hw).2⟩⟩⟩ rfl rfl hl.1 rfl (lv_room (Nat.le_of_ble_eq_true rfl)) dL_law_4 ⟨Nat.le_of_ble_eq_true rfl, Nat.le_of_ble_eq_true rfl⟩) hS (fun q _ h => hFc q h) hFc (fun u0 t H1 locs ht hvm _ hB hz1 hk1 hS => ?_)
  obtain ⟨hP1, hK1, hD1⟩ := hB
  rw [ht] at hP1
  have hK1 := va_K.moved hvm.symm hK1
  obtain ⟨hP, hD⟩ := va_join (wr := []) (w1 := [(q0, .inr (0, [.ref (u0.1 0), .ref (u0.1 7)])), ((u0.1 0), .inr (1, [.ref (u0.1 1), .ref (u0.1 2), .ref (u0.1 3), .ref (u0.1 5), .int 0, .int 0, .int 0, .int 0])), ((u0.1 1), .inl ((u0.2 1), 4096, .inl (fun _ => 0))), ((u0.1 2), .inl ((u0.2 2), 64, .inl (fun _ => 0))), ((u0.1 3), .inr (3, [.ref (u0.1 4)])), ((u0.1 4), .inl ((u0.2 4), 8, .inl (fun _ => 0))), ((u0.1 5), .inr (4, [.ref (u0.1 6), .int 0, .int 0, .int 0, .int 0])), ((u0.1 6), .inl ((u0.2 6), 40, .inl (fun _ => 0))), ((u0.1 7), .inr (2, [.ref (u0.1 0), .ref (u0.1 8), .ref (u0.1 9), .int 0, .int 0])), ((u0.1 8), .inr (5, [.ref (u0.1 9), .int 6])), ((u0.1 9), .inl ((u0.2 9), 26, .inl (fun _ => 0)))]) hP hD [0] [] rfl rfl (by decide) (by decide) hk1 hFc hP1 hD1
  have hK := hK.app hK1
  generalize H1 = H at hP hS ⊢
  have hP : va_P D clA [(q0, .inr (0, [.ref (u0.1 0), .ref (u0.1 7)])), ((u0.1 0), .inr (1, [.ref (u0.1 1), .ref (u0.1 2), .ref (u0.1 3), .ref (u0.1 5), .int 0, .int 0, .int 0, .int 0])), ((u0.1 1), .inl ((u0.2 1), 4096, .inl (fun _ => 0))), ((u0.1 2), .inl ((u0.2 2), 64, .inl (fun _ => 0))), ((u0.1 3), .inr (3, [.ref (u0.1 4)])), ((u0.1 4), .inl ((u0.2 4), 8, .inl (fun _ => 0))), ((u0.1 5), .inr (4, [.ref (u0.1 6), .int 0, .int 0, .int 0, .int 0])), ((u0.1 6), .inl ((u0.2 6), 40, .inl (fun _ => 0))), ((u0.1 7), .inr (2, [.ref (u0.1 0), .ref (u0.1 8), .ref (u0.1 9), .int 0, .int 0])), ((u0.1 8), .inr (5, [.ref (u0.1 9), .int 6])), ((u0.1 9), .inl ((u0.2 9), 26, .inl (fun _ => 0)))] H := hP
  have hD : va_D (fun q => s.heap.size ≤ q) [(q0, .inr (0, [.ref (u0.1 0), .ref (u0.1 7)])), ((u0.1 0), .inr (1, [.ref (u0.1 1), .ref (u0.1 2), .ref (u0.1 3), .ref (u0.1 5), .int 0, .int 0, .int 0, .int 0])), ((u0.1 1), .inl ((u0.2 1), 4096, .inl (fun _ => 0))), ((u0.1 2), .inl ((u0.2 2), 64, .inl (fun _ => 0))), ((u0.1 3), .inr (3, [.ref (u0.1 4)])), ((u0.1 4), .inl ((u0.2 4), 8, .inl (fun _ => 0))), ((u0.1 5), .inr (4, [.ref (u0.1 6), .int 0, .int 0, .int 0, .int 0])), ((u0.1 6), .inl ((u0.2 6), 40, .inl (fun _ => 0))), ((u0.1 7), .inr (2, [.ref (u0.1 0), .ref (u0.1 8), .ref (u0.1 9), .int 0, .int 0])), ((u0.1 8), .inr (5, [.ref (u0.1 9), .int 6])), ((u0.1 9), .inl ((u0.2 9), 26, .inl (fun _ => 0)))] := hD
  have hK : va_K D clA [((u0.2 1), .int), ((u0.2 2), .int), ((u0.2 4), .int), ((u0.2 6), .int), ((u0.2 9), .int)] s := hK
  refine W.widen (k := 11) (n := 4257) (by omega) (by omega) ?_
  refine lv_astore_n (lv' := [(1, .ref q0), (0, .ref b)]) hx hb dL_law_7 rfl hl (by decide) rfl (fun ls hl => ?_)
  refine va_new (ci := 6) (fs := [.null, .null, .int 0, .int 0, .int 0, .int 0, .int 0, .int 0, .int 0, .int 0, .int 0, .null, .int 0, .int 0, .int 0, .null, .int 0, .null, .int 0, .int 0, .int 0]) (C := "HomeComputerModel") (T := TM) (N := 21) hx hb hts layM tyM tyM_ok hown (hts _ kL_10) (hts _ kn_M) (hts _ ki_M) hK hP hD hS hA rfl (fun j hj => by rcases (show j = 0 ∨ j = 1 ∨ j = 2 ∨ j = 3 ∨ j = 4 ∨ j = 5 ∨ j = 6 ∨ j = 7 ∨ j = 8 ∨ j = 9 ∨ j = 10 ∨ j = 11 ∨ j = 12 ∨ j = 13 ∨ j = 14 ∨ j = 15 ∨ j = 16 ∨ j = 17 ∨ j = 18 ∨ j = 19 ∨ j = 20 by omega) with rfl | rfl | rfl | rfl | rfl | rfl | rfl | rfl | rfl | rfl | rfl | rfl | rfl | rfl | rfl | rfl | rfl | rfl | rfl | rfl | rfl <;> rfl) (Nat.le_of_ble_eq_true rfl) (Nat.le_of_ble_eq_true rfl) dL_law_8 (fun q8 H hP hD hS => ?_)
  have hP : va_P D clA [(q0, .inr (0, [.ref (u0.1 0), .ref (u0.1 7)])), ((u0.1 0), .inr (1, [.ref (u0.1 1), .ref (u0.1 2), .ref (u0.1 3), .ref (u0.1 5), .int 0, .int 0, .int 0, .int 0])), ((u0.1 1), .inl ((u0.2 1), 4096, .inl (fun _ => 0))), ((u0.1 2), .inl ((u0.2 2), 64, .inl (fun _ => 0))), ((u0.1 3), .inr (3, [.ref (u0.1 4)])), ((u0.1 4), .inl ((u0.2 4), 8, .inl (fun _ => 0))), ((u0.1 5), .inr (4, [.ref (u0.1 6), .int 0, .int 0, .int 0, .int 0])), ((u0.1 6), .inl ((u0.2 6), 40, .inl (fun _ => 0))), ((u0.1 7), .inr (2, [.ref (u0.1 0), .ref (u0.1 8), .ref (u0.1 9), .int 0, .int 0])), ((u0.1 8), .inr (5, [.ref (u0.1 9), .int 6])), ((u0.1 9), .inl ((u0.2 9), 26, .inl (fun _ => 0))), (q8, .inr (6, [.null, .null, .int 0, .int 0, .int 0, .int 0, .int 0, .int 0, .int 0, .int 0, .int 0, .null, .int 0, .int 0, .int 0, .null, .int 0, .null, .int 0, .int 0, .int 0]))] H := hP
  have hD : va_D (fun q => s.heap.size ≤ q) [(q0, .inr (0, [.ref (u0.1 0), .ref (u0.1 7)])), ((u0.1 0), .inr (1, [.ref (u0.1 1), .ref (u0.1 2), .ref (u0.1 3), .ref (u0.1 5), .int 0, .int 0, .int 0, .int 0])), ((u0.1 1), .inl ((u0.2 1), 4096, .inl (fun _ => 0))), ((u0.1 2), .inl ((u0.2 2), 64, .inl (fun _ => 0))), ((u0.1 3), .inr (3, [.ref (u0.1 4)])), ((u0.1 4), .inl ((u0.2 4), 8, .inl (fun _ => 0))), ((u0.1 5), .inr (4, [.ref (u0.1 6), .int 0, .int 0, .int 0, .int 0])), ((u0.1 6), .inl ((u0.2 6), 40, .inl (fun _ => 0))), ((u0.1 7), .inr (2, [.ref (u0.1 0), .ref (u0.1 8), .ref (u0.1 9), .int 0, .int 0])), ((u0.1 8), .inr (5, [.ref (u0.1 9), .int 6])), ((u0.1 9), .inl ((u0.2 9), 26, .inl (fun _ => 0))), (q8, .inr (6, [.null, .null, .int 0, .int 0, .int 0, .int 0, .int 0, .int 0, .int 0, .int 0, .int 0, .null, .int 0, .int 0, .int 0, .null, .int 0, .null, .int 0, .int 0, .int 0]))] := hD
  refine W.widen (k := 12) (n := 4278) (by omega) (by omega) ?_
  refine lv_dup hx hb dL_law_11 rfl ?_
  have hPc := hP.sub (ws' := [(q8, .inr (6, [.null, .null, .int 0, .int 0, .int 0, .int 0, .int 0, .int 0, .int 0, .int 0, .int 0, .null, .int 0, .int 0, .int 0, .null, .int 0, .null, .int 0, .int 0, .int 0]))]) [11] rfl
  have hDc := hD.sub (ws' := [(q8, .inr (6, [.null, .null, .int 0, .int 0, .int 0, .int 0, .int 0, .int 0, .int 0, .int 0, .int 0, .null, .int 0, .int 0, .int 0, .null, .int 0, .null, .int 0, .int 0, .int 0]))]) [11] (by decide) rfl
  have hKc := hK.sub (tys' := []) [] rfl
  have hFc := va_free (wc := [(q8, .inr (6, [.null, .null, .int 0, .int 0, .int 0, .int 0, .int 0, .int 0, .int 0, .int 0, .int 0, .null, .int 0, .int 0, .int 0, .null, .int 0, .null, .int 0, .int 0, .int 0]))]) hD hS hA [11] rfl
  refine va_callv (va_runI (As := []) (rest := [.ref q8]) ⟨hx, hb, hml, hown, hts⟩ (n_M_init l D q8 H.size) (cwI 0 hts (y_good yi_M.1) rfl rfl rfl (hts _ ki_M) (hts _ kL_12) (hts _ yi_M.2) rfl (by decide +kernel) ⟨Nat.le_of_ble_eq_true rfl, Nat.le_of_ble_eq_true rfl⟩) ⟨x_blindI, fun U hU hW => ⟨rfl, by rw [hU], by rw [hU]; exact hPc, va_K.moved hW.alike hKc, hDc.weaken (fun _ _ _ _ => trivial), fun w hw => ⟨(hN w hw).1, xNest_warm (hN w hw).1 hW (hN w hw).2⟩⟩⟩ rfl rfl hl.1 rfl (lv_room (Nat.le_of_ble_eq_true rfl)) dL_law_12 ⟨Nat.le_of_ble_eq_true rfl, Nat.le_of_ble_eq_true rfl⟩) hS (fun q _ h => hFc q h) hFc (fun u8 t H1 locs ht hvm _ hB hz1 hk1 hS => ?_)
  obtain ⟨hP1, hK1, hD1⟩ := hB
  rw [ht] at hP1
  have hK1 := va_K.moved hvm.symm hK1
  obtain ⟨hP, hD⟩ := va_join (wr := [(q0, .inr (0, [.ref (u0.1 0), .ref (u0.1 7)])), ((u0.1 0), .inr (1, [.ref (u0.1 1), .ref (u0.1 2), .ref (u0.1 3), .ref (u0.1 5), .int 0, .int 0, .int 0, .int 0])), ((u0.1 1), .inl ((u0.2 1), 4096, .inl (fun _ => 0))), ((u0.1 2), .inl ((u0.2 2), 64, .inl (fun _ => 0))), ((u0.1 3), .inr (3, [.ref (u0.1 4)])), ((u0.1 4), .inl ((u0.2 4), 8, .inl (fun _ => 0))), ((u0.1 5), .inr (4, [.ref (u0.1 6), .int 0, .int 0, .int 0, .int 0])), ((u0.1 6), .inl ((u0.2 6), 40, .inl (fun _ => 0))), ((u0.1 7), .inr (2, [.ref (u0.1 0), .ref (u0.1 8), .ref (u0.1 9), .int 0, .int 0])), ((u0.1 8), .inr (5, [.ref (u0.1 9), .int 6])), ((u0.1 9), .inl ((u0.2 9), 26, .inl (fun _ => 0)))]) (w1 := [(q8, .inr (6, [.ref (u8.1 0), .ref (u8.1 1), .int 0, .int 0, .int 0, .int 0, .int 0, .int 0, .int 0, .int 0, .int 0, .ref (u8.1 2), .int 0, .int 0, .int 0, .ref (u8.1 3), .int 0, .ref (u8.1 4), .int 0, .int 0, .int 0])), ((u8.1 0), .inl ((u8.2 0), 4096, .inl (fun _ => 0))), ((u8.1 1), .inl ((u8.2 1), 26, .inl (fun _ => 0))), ((u8.1 2), .inl ((u8.2 2), 40, .inl (fun _ => 0))), ((u8.1 3), .inl ((u8.2 3), 64, .inl (fun _ => 0))), ((u8.1 4), .inl ((u8.2 4), 40, .inl (fun _ => 0)))]) hP hD [11] [0, 1, 2, 3, 4, 5, 6, 7, 8, 9, 10] rfl rfl (by decide) (by decide) hk1 hFc hP1 hD1
  have hK := hK.app hK1
  generalize H1 = H at hP hS ⊢
  have hP : va_P D clA [(q0, .inr (0, [.ref (u0.1 0), .ref (u0.1 7)])), ((u0.1 0), .inr (1, [.ref (u0.1 1), .ref (u0.1 2), .ref (u0.1 3), .ref (u0.1 5), .int 0, .int 0, .int 0, .int 0])), ((u0.1 1), .inl ((u0.2 1), 4096, .inl (fun _ => 0))), ((u0.1 2), .inl ((u0.2 2), 64, .inl (fun _ => 0))), ((u0.1 3), .inr (3, [.ref (u0.1 4)])), ((u0.1 4), .inl ((u0.2 4), 8, .inl (fun _ => 0))), ((u0.1 5), .inr (4, [.ref (u0.1 6), .int 0, .int 0, .int 0, .int 0])), ((u0.1 6), .inl ((u0.2 6), 40, .inl (fun _ => 0))), ((u0.1 7), .inr (2, [.ref (u0.1 0), .ref (u0.1 8), .ref (u0.1 9), .int 0, .int 0])), ((u0.1 8), .inr (5, [.ref (u0.1 9), .int 6])), ((u0.1 9), .inl ((u0.2 9), 26, .inl (fun _ => 0))), (q8, .inr (6, [.ref (u8.1 0), .ref (u8.1 1), .int 0, .int 0, .int 0, .int 0, .int 0, .int 0, .int 0, .int 0, .int 0, .ref (u8.1 2), .int 0, .int 0, .int 0, .ref (u8.1 3), .int 0, .ref (u8.1 4), .int 0, .int 0, .int 0])), ((u8.1 0), .inl ((u8.2 0), 4096, .inl (fun _ => 0))), ((u8.1 1), .inl ((u8.2 1), 26, .inl (fun _ => 0))), ((u8.1 2), .inl ((u8.2 2), 40, .inl (fun _ => 0))), ((u8.1 3), .inl ((u8.2 3), 64, .inl (fun _ => 0))), ((u8.1 4), .inl ((u8.2 4), 40, .inl (fun _ => 0)))] H := hP
  have hD : va_D (fun q => s.heap.size ≤ q) [(q0, .inr (0, [.ref (u0.1 0), .ref (u0.1 7)])), ((u0.1 0), .inr (1, [.ref (u0.1 1), .ref (u0.1 2), .ref (u0.1 3), .ref (u0.1 5), .int 0, .int 0, .int 0, .int 0])), ((u0.1 1), .inl ((u0.2 1), 4096, .inl (fun _ => 0))), ((u0.1 2), .inl ((u0.2 2), 64, .inl (fun _ => 0))), ((u0.1 3), .inr (3, [.ref (u0.1 4)])), ((u0.1 4), .inl ((u0.2 4), 8, .inl (fun _ => 0))), ((u0.1 5), .inr (4, [.ref (u0.1 6), .int 0, .int 0, .int 0, .int 0])), ((u0.1 6), .inl ((u0.2 6), 40, .inl (fun _ => 0))), ((u0.1 7), .inr (2, [.ref (u0.1 0), .ref (u0.1 8), .ref (u0.1 9), .int 0, .int 0])), ((u0.1 8), .inr (5, [.ref (u0.1 9), .int 6])), ((u0.1 9), .inl ((u0.2 9), 26, .inl (fun _ => 0))), (q8, .inr (6, [.ref (u8.1 0), .ref (u8.1 1), .int 0, .int 0, .int 0, .int 0, .int 0, .int 0, .int 0, .int 0, .int 0, .ref (u8.1 2), .int 0, .int 0, .int 0, .ref (u8.1 3), .int 0, .ref (u8.1 4), .int 0, .int 0, .int 0])), ((u8.1 0), .inl ((u8.2 0), 4096, .inl (fun _ => 0))), ((u8.1 1), .inl ((u8.2 1), 26, .inl (fun _ => 0))), ((u8.1 2), .inl ((u8.2 2), 40, .inl (fun _ => 0))), ((u8.1 3), .inl ((u8.2 3), 64, .inl (fun _ => 0))), ((u8.1 4), .inl ((u8.2 4), 40, .inl (fun _ => 0)))] := hD
  have hK : va_K D clA [((u0.2 1), .int), ((u0.2 2), .int), ((u0.2 4), .int), ((u0.2 6), .int), ((u0.2 9), .int), ((u8.2 0), .int), ((u8.2 1), .int), ((u8.2 2), .boolean), ((u8.2 3), .int), ((u8.2 4), .int)] s := hK
  refine W.widen (k := 17) (n := 8544) (by omega) (by omega) ?_
  refine lv_astore_n (lv' := [(2, .ref q8), (1, .ref q0), (0, .ref b)]) hx hb dL_law_15 rfl hl (by decide) rfl (fun ls hl => ?_)
  refine lv_iconst (v := 0) hx hb dL_law_16 (by decide) ?_
  refine lv_istore_n (lv' := [(3, .int 0), (2, .ref q8), (1, .ref q0), (0, .ref b)]) hx hb dL_law_17 rfl hl (by decide) rfl (fun ls hl => ?_)
  obtain ⟨ad, had⟩ : ∃ ad : Nat → Nat, ad = (fun k => match k with | 0 => q0 | 1 => u0.1 0 | 2 => u0.1 7 | 3 => u0.1 3 | 4 => u0.1 5 | 5 => u0.1 8 | 6 => u0.1 1 | 7 => u0.1 2 | 8 => u0.1 4 | 9 => u0.1 6 | _ => u0.1 9) := ⟨_, rfl⟩
  obtain ⟨ca, hca⟩ : ∃ ca : Nat → ClassId, ca = (fun k => match k with | 6 => u0.2 1 | 7 => u0.2 2 | 8 => u0.2 4 | 9 => u0.2 6 | _ => u0.2 9) := ⟨_, rfl⟩
  obtain ⟨ad2, had2⟩ : ∃ ad2 : Nat → Nat, ad2 = (fun k => match k with | 0 => q8 | 1 => u8.1 0 | 2 => u8.1 1 | 3 => u8.1 2 | 4 => u8.1 3 | _ => u8.1 4) := ⟨_, rfl⟩
  obtain ⟨ca2, hca2⟩ : ∃ ca2 : Nat → ClassId, ca2 = (fun k => match k with | 1 => u8.2 0 | 2 => u8.2 1 | 3 => u8.2 2 | 4 => u8.2 3 | _ => u8.2 4) := ⟨_, rfl⟩
  have hP : va_P D clA (cellsC ad ca s0C ++ cellsM ad2 ca2 s0M) H := by
    subst had; subst hca; subst had2; subst hca2
    exact hP.sub [0, 1, 8, 4, 6, 9, 2, 3, 5, 7, 10, 11, 12, 13, 14, 15, 16] rfl
  have hD : va_D (fun q => s.heap.size ≤ q) (cellsC ad ca s0C ++ cellsM ad2 ca2 s0M) := by
    subst had; subst hca; subst had2; subst hca2
    exact hD.sub [0, 1, 8, 4, 6, 9, 2, 3, 5, 7, 10, 11, 12, 13, 14, 15, 16] (by decide) rfl
  have hK : va_K D clA (tysC ca ++ tysM ca2) s := by subst hca; subst hca2; exact hK
  have hl : lv_has ls 4 [(0, .ref b), (1, .ref (ad 0)), (2, .ref (ad2 0)), (3, .int 0)] := by
    subst had; subst had2
    exact lv_sub hl [3, 2, 1, 0] rfl
  have hC : yC p s m meth c b L xs D ca ca2 := ⟨hx, hb, hml, hown, hts, hK, hr, hlocks, ⟨hX, hbl⟩, hN⟩
  obtain ⟨N, n, hF⟩ := hpure L hL xs
  exact j_L_18 hC N n 0 s0C s0M hF ls H _ hl hP hD hS
