theorem kobj_i : Cond.instanceMethod objectInit ∈ wA := wA_in 17 (by decide +kernel) (by decide +kernel)
theorem kobj_c : Cond.code objectInit ⟨#[0xb1]⟩ 1 none ∈ wA := wA_in 18 (by decide +kernel) (by decide +kernel)
theorem yi_K : Cond.code yK_init cK_init 1 none ∈ wA ∧ Cond.instanceMethod yK_init ∈ wA := ⟨wA_in 29 (by decide +kernel) (by decide +kernel), wA_in 28 (by decide +kernel) (by decide +kernel)⟩
theorem yi_T : Cond.code yT_init cT_init 1 none ∈ wA ∧ Cond.instanceMethod yT_init ∈ wA := ⟨wA_in 40 (by decide +kernel) (by decide +kernel), wA_in 39 (by decide +kernel) (by decide +kernel)⟩
theorem yi_G : Cond.code yG_init cG_init 1 none ∈ wA ∧ Cond.instanceMethod yG_init ∈ wA := ⟨wA_in 101 (by decide +kernel) (by decide +kernel), wA_in 100 (by decide +kernel) (by decide +kernel)⟩
theorem yi_B : Cond.code yB_init cB_init 1 none ∈ wA ∧ Cond.instanceMethod yB_init ∈ wA := ⟨wA_in 23 (by decide +kernel) (by decide +kernel), wA_in 22 (by decide +kernel) (by decide +kernel)⟩
theorem yi_P : Cond.code yP_init cP_init 2 none ∈ wA ∧ Cond.instanceMethod yP_init ∈ wA := ⟨wA_in 95 (by decide +kernel) (by decide +kernel), wA_in 94 (by decide +kernel) (by decide +kernel)⟩
theorem yi_H : Cond.code yH_init cH_init 1 none ∈ wA ∧ Cond.instanceMethod yH_init ∈ wA := ⟨wA_in 15 (by decide +kernel) (by decide +kernel), wA_in 14 (by decide +kernel) (by decide +kernel)⟩
theorem yi_M : Cond.code yM_init cM_init 1 none ∈ wA ∧ Cond.instanceMethod yM_init ∈ wA := ⟨wA_in 551 (by decide +kernel) (by decide +kernel), wA_in 550 (by decide +kernel) (by decide +kernel)⟩
theorem x_blindI {D : va_G} {av : List Value} {w0 : va_W} {sz : Nat} : FrameBlind (va_Pc av (fun U => U.heap.size = sz ∧ va_P D clA w0 U.heap ∧ va_K D clA [] U ∧ va_D (fun _ => True) w0 ∧ ∀ w ∈ nW, xNest w = true ∧ va_Nw w U)) := fun a U g mk q => by
  obtain ⟨q0, q1, qP, qK, qD, qN⟩ := q
  exact ⟨q0, q1, qP, va_K.moved (u := U) (U := U.calling g mk a) (Vm.Alike.refl U.vm) qK, qD, fun w hw => ⟨(qN w hw).1, va_Nw.same (u := U) (U := U.calling g mk a) (xNest_tab (qN w hw).1) rfl (qN w hw).2⟩⟩
def xI (l : Launch) (D : va_G) (y : MethodName) (ws : List Cond) (rm : Room) (av : List Value) (w0 : va_W) (w1 : (Nat → Nat) × (Nat → ClassId) → va_W) (ty1 : (Nat → Nat) × (Nat → ClassId) → List (ClassId × FieldType)) (mc ms : Nat) : Prop :=
  ∀ sz : Nat, Met l y ws rm (va_Pc av (fun U => U.heap.size = sz ∧ va_P D clA w0 U.heap ∧ va_K D clA [] U ∧ va_D (fun _ => True) w0 ∧ ∀ w ∈ nW, xNest w = true ∧ va_Nw w U))
    (va_Qv (fun _ : (Nat → Nat) × (Nat → ClassId) => True) (fun u t => va_P D clA (w1 u) t.heap ∧ va_K D clA (ty1 u) t ∧ va_D (va_A w0 sz) (w1 u)) (va_A w0 sz)) mc ms (va_A w0 sz)
abbrev rm_K_init : Room := { frames := 1, cells := 1, slots := 8, locals := 12 }
set_option maxHeartbeats 4000000 in
set_option maxRecDepth 100000 in
theorem n_K_init (l : Launch) (D : va_G) (h0 : Nat) : xI l D yK_init (Cond.code yK_init cK_init 1 none :: wA) rm_K_init [.ref h0] [(h0, .inr (3, [.null]))] (fun u => [(h0, .inr (3, [.ref (u.1 0)])), ((u.1 0), .inl ((u.2 0), 8, .inl (fun _ => 0)))]) (fun u => [((u.2 0), .int)]) 1 8 := by
  intro sz
  refine Met.ofW (cc := cK_init) (maxL := 1) (ret := none) (by decide) rfl ?_
  intro p e s m args below meth c s₁ B hml hv
  obtain ⟨rfl, hsz, hP, hK, hD0, hN⟩ := hv
  have hx := B.exec
  have hb := B.bytes
  have hr := B.returns
  have hts := atoms_spec (ws := Cond.code yK_init cK_init 1 none :: wA) B.pre
  have hown : s.vm.findClass "HomeComputer$Keyboard" = some m.cls := findClass_of_methodNamed B.named
  have hlocks := B.notSynchronized
  have hin : meth.name = "<init>" := (name_of_methodNamed B.named B.method).1
  subst hsz
  have hD := hD0.self (sz := s.heap.size)
  generalize hAe : va_A [(h0, .inr (3, [.null]))] s.heap.size = A at hD ⊢
  have hA : ∀ q : Nat, s.heap.size ≤ q → A q := fun q h => by rw [← hAe]; exact Or.inr h
  have hS : va_S A s.heap s.heap [] := va_S.rf
  have hl := lv_entry ([.ref h0]) (n := 1) (Nat.le_of_ble_eq_true rfl)
  rw [lg_entry_eq]
  generalize (lg_sl ([.ref h0]) ++ List.replicate (1 - (lg_sl ([.ref h0])).length) Slot.unset).toArray = ls at hl ⊢
  have hl : lv_has ls 1 [(0, .ref h0)] := hl
  refine lv_aload_n hx hb dK_init_0 rfl (lv_at hl 0 rfl) ?_
  refine W.objInit hx hb hown (hts _ (List.mem_cons_of_mem _ kK_1)) (hts _ (List.mem_cons_of_mem _ kobj_i)) (hts _ (List.mem_cons_of_mem _ kobj_c)) rfl (by rw [hml]; exact hl.1) rfl dK_init_1 (Nat.le_of_ble_eq_true rfl) (Nat.le_of_ble_eq_true rfl) ?_
  refine W.eq (g2 := F0 m 4 ls []) rfl ?_
  refine lv_aload_n hx hb dK_init_4 rfl (lv_at hl 0 rfl) ?_
  refine lv_bipush (v := 8) hx hb dK_init_5 (by decide) ?_
  refine va_newa (atype := .int) (ty := .int) (a0 := (8, .inl (fun _ => 0))) (N' := 8) hx hb (hts _ (List.mem_cons_of_mem _ ka_int)) rfl hK hP hD hS hA (fun _ => rfl) (by decide) (by decide) (by decide) (Nat.le_of_ble_eq_true rfl) (Nat.le_of_ble_eq_true rfl) dK_init_7 (fun q7 c7 H hK hP hD hS => ?_)
  have hK : va_K D clA [(c7, .int)] s := hK
  have hP : va_P D clA [(h0, .inr (3, [.null])), (q7, .inl (c7, 8, .inl (fun _ => 0)))] H := hP
  have hD : va_D A [(h0, .inr (3, [.null])), (q7, .inl (c7, 8, .inl (fun _ => 0)))] := hD
  refine W.widen (k := 1) (n := 8) (by omega) (by omega) ?_
  refine va_putF (D := D) (ci := 3) (v := .ref q7) (ty := .array .int) (C := "HomeComputer$Keyboard") (T := TK) (N := 1) hx hb hts (fun w h => List.mem_cons_of_mem _ (layK w h)) tyK tyK_ok nmK hown hK hP hD hS 0 rfl rfl 0 (by decide) (hts _ (List.mem_cons_of_mem _ kK_9)) (fun _ h9 => h9) rfl hin rfl (by decide +kernel) rfl rfl (Nat.le_of_ble_eq_true rfl) dK_init_9 (fun H locs hP hD hS => ?_)
  have hP : va_P D clA [(h0, .inr (3, [.ref q7])), (q7, .inl (c7, 8, .inl (fun _ => 0)))] H := hP
  have hD : va_D A [(h0, .inr (3, [.ref q7])), (q7, .inl (c7, 8, .inl (fun _ => 0)))] := hD
  refine W.widen (k := 1) (n := 8) (by omega) (by omega) ?_
  exact W.vret hx hb hr (fun t ht hW => ⟨⟨((fun k => match k with | 0 => q7 | _ => 0), (fun k => match k with | 0 => c7 | _ => c7)), rfl, trivial, by rw [ht]; exact hP, va_K.moved hW.alike hK, hD⟩, hS.F ht⟩) hS.2.2 dK_init_12
abbrev rm_T_init : Room := { frames := 1, cells := 1, slots := 40, locals := 12 }
set_option maxHeartbeats 4000000 in
set_option maxRecDepth 100000 in
theorem n_T_init (l : Launch) (D : va_G) (h0 : Nat) : xI l D yT_init (Cond.code yT_init cT_init 1 none :: wA) rm_T_init [.ref h0] [(h0, .inr (4, [.null, .int 0, .int 0, .int 0, .int 0]))] (fun u => [(h0, .inr (4, [.ref (u.1 0), .int 0, .int 0, .int 0, .int 0])), ((u.1 0), .inl ((u.2 0), 40, .inl (fun _ => 0)))]) (fun u => [((u.2 0), .int)]) 1 40 := by
  intro sz
  refine Met.ofW (cc := cT_init) (maxL := 1) (ret := none) (by decide) rfl ?_
  intro p e s m args below meth c s₁ B hml hv
  obtain ⟨rfl, hsz, hP, hK, hD0, hN⟩ := hv
  have hx := B.exec
  have hb := B.bytes
  have hr := B.returns
  have hts := atoms_spec (ws := Cond.code yT_init cT_init 1 none :: wA) B.pre
  have hown : s.vm.findClass "HomeComputer$Recorder" = some m.cls := findClass_of_methodNamed B.named
  have hlocks := B.notSynchronized
  have hin : meth.name = "<init>" := (name_of_methodNamed B.named B.method).1
  subst hsz
  have hD := hD0.self (sz := s.heap.size)
  generalize hAe : va_A [(h0, .inr (4, [.null, .int 0, .int 0, .int 0, .int 0]))] s.heap.size = A at hD ⊢
  have hA : ∀ q : Nat, s.heap.size ≤ q → A q := fun q h => by rw [← hAe]; exact Or.inr h
  have hS : va_S A s.heap s.heap [] := va_S.rf
  have hl := lv_entry ([.ref h0]) (n := 1) (Nat.le_of_ble_eq_true rfl)
  rw [lg_entry_eq]
  generalize (lg_sl ([.ref h0]) ++ List.replicate (1 - (lg_sl ([.ref h0])).length) Slot.unset).toArray = ls at hl ⊢
  have hl : lv_has ls 1 [(0, .ref h0)] := hl
  refine lv_aload_n hx hb dT_init_0 rfl (lv_at hl 0 rfl) ?_
  refine W.objInit hx hb hown (hts _ (List.mem_cons_of_mem _ kT_1)) (hts _ (List.mem_cons_of_mem _ kobj_i)) (hts _ (List.mem_cons_of_mem _ kobj_c)) rfl (by rw [hml]; exact hl.1) rfl dT_init_1 (Nat.le_of_ble_eq_true rfl) (Nat.le_of_ble_eq_true rfl) ?_
  refine W.eq (g2 := F0 m 4 ls []) rfl ?_
  refine lv_aload_n hx hb dT_init_4 rfl (lv_at hl 0 rfl) ?_
  refine lv_bipush (v := 40) hx hb dT_init_5 (by decide) ?_
  refine va_newa (atype := .int) (ty := .int) (a0 := (40, .inl (fun _ => 0))) (N' := 40) hx hb (hts _ (List.mem_cons_of_mem _ ka_int)) rfl hK hP hD hS hA (fun _ => rfl) (by decide) (by decide) (by decide) (Nat.le_of_ble_eq_true rfl) (Nat.le_of_ble_eq_true rfl) dT_init_7 (fun q7 c7 H hK hP hD hS => ?_)
  have hK : va_K D clA [(c7, .int)] s := hK
  have hP : va_P D clA [(h0, .inr (4, [.null, .int 0, .int 0, .int 0, .int 0])), (q7, .inl (c7, 40, .inl (fun _ => 0)))] H := hP
  have hD : va_D A [(h0, .inr (4, [.null, .int 0, .int 0, .int 0, .int 0])), (q7, .inl (c7, 40, .inl (fun _ => 0)))] := hD
  refine W.widen (k := 1) (n := 40) (by omega) (by omega) ?_
  refine va_putF (D := D) (ci := 4) (v := .ref q7) (ty := .array .int) (C := "HomeComputer$Recorder") (T := TT) (N := 5) hx hb hts (fun w h => List.mem_cons_of_mem _ (layT w h)) tyT tyT_ok nmT hown hK hP hD hS 0 rfl rfl 0 (by decide) (hts _ (List.mem_cons_of_mem _ kT_9)) (fun _ h9 => h9) rfl hin rfl (by decide +kernel) rfl rfl (Nat.le_of_ble_eq_true rfl) dT_init_9 (fun H locs hP hD hS => ?_)
  have hP : va_P D clA [(h0, .inr (4, [.ref q7, .int 0, .int 0, .int 0, .int 0])), (q7, .inl (c7, 40, .inl (fun _ => 0)))] H := hP
  have hD : va_D A [(h0, .inr (4, [.ref q7, .int 0, .int 0, .int 0, .int 0])), (q7, .inl (c7, 40, .inl (fun _ => 0)))] := hD
  refine W.widen (k := 1) (n := 40) (by omega) (by omega) ?_
  exact W.vret hx hb hr (fun t ht hW => ⟨⟨((fun k => match k with | 0 => q7 | _ => 0), (fun k => match k with | 0 => c7 | _ => c7)), rfl, trivial, by rw [ht]; exact hP, va_K.moved hW.alike hK, hD⟩, hS.F ht⟩) hS.2.2 dT_init_12
abbrev rm_G_init : Room := { frames := 1, cells := 1, slots := 26, locals := 12 }
set_option maxHeartbeats 4000000 in
set_option maxRecDepth 100000 in
theorem n_G_init (l : Launch) (D : va_G) (h0 : Nat) : xI l D yG_init (Cond.code yG_init cG_init 1 none :: wA) rm_G_init [.ref h0] [(h0, .inr (5, [.null, .int 0]))] (fun u => [(h0, .inr (5, [.ref (u.1 0), .int 6])), ((u.1 0), .inl ((u.2 0), 26, .inl (fun _ => 0)))]) (fun u => [((u.2 0), .int)]) 1 26 := by
  intro sz
  refine Met.ofW (cc := cG_init) (maxL := 1) (ret := none) (by decide) rfl ?_
  intro p e s m args below meth c s₁ B hml hv
  obtain ⟨rfl, hsz, hP, hK, hD0, hN⟩ := hv
  have hx := B.exec
  have hb := B.bytes
  have hr := B.returns
  have hts := atoms_spec (ws := Cond.code yG_init cG_init 1 none :: wA) B.pre
  have hown : s.vm.findClass "HomeComputer$Registers" = some m.cls := findClass_of_methodNamed B.named
  have hlocks := B.notSynchronized
  have hin : meth.name = "<init>" := (name_of_methodNamed B.named B.method).1
  subst hsz
  have hD := hD0.self (sz := s.heap.size)
  generalize hAe : va_A [(h0, .inr (5, [.null, .int 0]))] s.heap.size = A at hD ⊢
  have hA : ∀ q : Nat, s.heap.size ≤ q → A q := fun q h => by rw [← hAe]; exact Or.inr h
  have hS : va_S A s.heap s.heap [] := va_S.rf
  have hl := lv_entry ([.ref h0]) (n := 1) (Nat.le_of_ble_eq_true rfl)
  rw [lg_entry_eq]
  generalize (lg_sl ([.ref h0]) ++ List.replicate (1 - (lg_sl ([.ref h0])).length) Slot.unset).toArray = ls at hl ⊢
  have hl : lv_has ls 1 [(0, .ref h0)] := hl
  refine lv_aload_n hx hb dG_init_0 rfl (lv_at hl 0 rfl) ?_
  refine W.objInit hx hb hown (hts _ (List.mem_cons_of_mem _ kG_1)) (hts _ (List.mem_cons_of_mem _ kobj_i)) (hts _ (List.mem_cons_of_mem _ kobj_c)) rfl (by rw [hml]; exact hl.1) rfl dG_init_1 (Nat.le_of_ble_eq_true rfl) (Nat.le_of_ble_eq_true rfl) ?_
  refine W.eq (g2 := F0 m 4 ls []) rfl ?_
  refine lv_aload_n hx hb dG_init_4 rfl (lv_at hl 0 rfl) ?_
  refine lv_bipush (v := 26) hx hb dG_init_5 (by decide) ?_
  refine va_newa (atype := .int) (ty := .int) (a0 := (26, .inl (fun _ => 0))) (N' := 26) hx hb (hts _ (List.mem_cons_of_mem _ ka_int)) rfl hK hP hD hS hA (fun _ => rfl) (by decide) (by decide) (by decide) (Nat.le_of_ble_eq_true rfl) (Nat.le_of_ble_eq_true rfl) dG_init_7 (fun q7 c7 H hK hP hD hS => ?_)
  have hK : va_K D clA [(c7, .int)] s := hK
  have hP : va_P D clA [(h0, .inr (5, [.null, .int 0])), (q7, .inl (c7, 26, .inl (fun _ => 0)))] H := hP
  have hD : va_D A [(h0, .inr (5, [.null, .int 0])), (q7, .inl (c7, 26, .inl (fun _ => 0)))] := hD
  refine W.widen (k := 1) (n := 26) (by omega) (by omega) ?_
  refine va_putF (D := D) (ci := 5) (v := .ref q7) (ty := .array .int) (C := "HomeComputer$Registers") (T := TG) (N := 2) hx hb hts (fun w h => List.mem_cons_of_mem _ (layG w h)) tyG tyG_ok nmG hown hK hP hD hS 0 rfl rfl 0 (by decide) (hts _ (List.mem_cons_of_mem _ kG_9)) (fun _ h9 => h9) rfl hin rfl (by decide +kernel) rfl rfl (Nat.le_of_ble_eq_true rfl) dG_init_9 (fun H locs hP hD hS => ?_)
  have hP : va_P D clA [(h0, .inr (5, [.ref q7, .int 0])), (q7, .inl (c7, 26, .inl (fun _ => 0)))] H := hP
  have hD : va_D A [(h0, .inr (5, [.ref q7, .int 0])), (q7, .inl (c7, 26, .inl (fun _ => 0)))] := hD
  refine lv_aload_n hx hb dG_init_12 rfl (lv_at hl 0 rfl) ?_
  refine lv_bipush (v := 6) hx hb dG_init_13 (by decide) ?_
  refine va_put (D := D) (ci := 5) (v := .int 6) (ty := .int) (C := "HomeComputer$Registers") (T := TG) (N := 2) hx hb hts (fun w h => List.mem_cons_of_mem _ (layG w h)) tyG tyG_ok nmG hown hK hP hD hS 0 rfl rfl 1 (by decide) (hts _ (List.mem_cons_of_mem _ kG_13)) (fun _ h9 => h9) rfl (by decide +kernel) rfl rfl (Nat.le_of_ble_eq_true rfl) dG_init_15 (fun H locs hP hD hS => ?_)
  have hP : va_P D clA [(h0, .inr (5, [.ref q7, .int 6])), (q7, .inl (c7, 26, .inl (fun _ => 0)))] H := hP
  have hD : va_D A [(h0, .inr (5, [.ref q7, .int 6])), (q7, .inl (c7, 26, .inl (fun _ => 0)))] := hD
  refine W.widen (k := 1) (n := 26) (by omega) (by omega) ?_
  exact W.vret hx hb hr (fun t ht hW => ⟨⟨((fun k => match k with | 0 => q7 | _ => 0), (fun k => match k with | 0 => c7 | _ => c7)), rfl, trivial, by rw [ht]; exact hP, va_K.moved hW.alike hK, hD⟩, hS.F ht⟩) hS.2.2 dG_init_18
abbrev rm_B_init : Room := { frames := 2, cells := 6, slots := 4214, locals := 32 }
set_option maxHeartbeats 4000000 in
set_option maxRecDepth 100000 in
theorem n_B_init (l : Launch) (D : va_G) (h0 : Nat) : xI l D yB_init (Cond.code yB_init cB_init 1 none :: wA) rm_B_init [.ref h0] [(h0, .inr (1, [.null, .null, .null, .null, .int 0, .int 0, .int 0, .int 0]))] (fun u => [(h0, .inr (1, [.ref (u.1 0), .ref (u.1 1), .ref (u.1 2), .ref (u.1 4), .int 0, .int 0, .int 0, .int 0])), ((u.1 0), .inl ((u.2 0), 4096, .inl (fun _ => 0))), ((u.1 1), .inl ((u.2 1), 64, .inl (fun _ => 0))), ((u.1 2), .inr (3, [.ref (u.1 3)])), ((u.1 3), .inl ((u.2 3), 8, .inl (fun _ => 0))), ((u.1 4), .inr (4, [.ref (u.1 5), .int 0, .int 0, .int 0, .int 0])), ((u.1 5), .inl ((u.2 5), 40, .inl (fun _ => 0)))]) (fun u => [((u.2 0), .int), ((u.2 1), .int), ((u.2 3), .int), ((u.2 5), .int)]) 6 4214 := by
  intro sz
  refine Met.ofW (cc := cB_init) (maxL := 1) (ret := none) (by decide) rfl ?_
  intro p e s m args below meth c s₁ B hml hv
  obtain ⟨rfl, hsz, hP, hK, hD0, hN⟩ := hv
  have hx := B.exec
  have hb := B.bytes
  have hr := B.returns
  have hts := atoms_spec (ws := Cond.code yB_init cB_init 1 none :: wA) B.pre
  have hown : s.vm.findClass "HomeComputer$Board" = some m.cls := findClass_of_methodNamed B.named
  have hlocks := B.notSynchronized
  have hin : meth.name = "<init>" := (name_of_methodNamed B.named B.method).1
  subst hsz
  have hD := hD0.self (sz := s.heap.size)
  generalize hAe : va_A [(h0, .inr (1, [.null, .null, .null, .null, .int 0, .int 0, .int 0, .int 0]))] s.heap.size = A at hD ⊢
  have hA : ∀ q : Nat, s.heap.size ≤ q → A q := fun q h => by rw [← hAe]; exact Or.inr h
  have hS : va_S A s.heap s.heap [] := va_S.rf
  have hl := lv_entry ([.ref h0]) (n := 1) (Nat.le_of_ble_eq_true rfl)
  rw [lg_entry_eq]
  generalize (lg_sl ([.ref h0]) ++ List.replicate (1 - (lg_sl ([.ref h0])).length) Slot.unset).toArray = ls at hl ⊢
  have hl : lv_has ls 1 [(0, .ref h0)] := hl
  refine lv_aload_n hx hb dB_init_0 rfl (lv_at hl 0 rfl) ?_
  refine W.objInit hx hb hown (hts _ (List.mem_cons_of_mem _ kB_1)) (hts _ (List.mem_cons_of_mem _ kobj_i)) (hts _ (List.mem_cons_of_mem _ kobj_c)) rfl (by rw [hml]; exact hl.1) rfl dB_init_1 (Nat.le_of_ble_eq_true rfl) (Nat.le_of_ble_eq_true rfl) ?_
  refine W.eq (g2 := F0 m 4 ls []) rfl ?_
  refine lv_aload_n hx hb dB_init_4 rfl (lv_at hl 0 rfl) ?_
  refine lv_sipush (v := 4096) hx hb dB_init_5 (by decide) ?_
  refine va_newa (atype := .int) (ty := .int) (a0 := (4096, .inl (fun _ => 0))) (N' := 4096) hx hb (hts _ (List.mem_cons_of_mem _ ka_int)) rfl hK hP hD hS hA (fun _ => rfl) (by decide) (by decide) (by decide) (Nat.le_of_ble_eq_true rfl) (Nat.le_of_ble_eq_true rfl) dB_init_8 (fun q8 c8 H hK hP hD hS => ?_)
  have hK : va_K D clA [(c8, .int)] s := hK
  have hP : va_P D clA [(h0, .inr (1, [.null, .null, .null, .null, .int 0, .int 0, .int 0, .int 0])), (q8, .inl (c8, 4096, .inl (fun _ => 0)))] H := hP
  have hD : va_D A [(h0, .inr (1, [.null, .null, .null, .null, .int 0, .int 0, .int 0, .int 0])), (q8, .inl (c8, 4096, .inl (fun _ => 0)))] := hD
  refine W.widen (k := 1) (n := 4096) (by omega) (by omega) ?_
  refine va_putF (D := D) (ci := 1) (v := .ref q8) (ty := .array .int) (C := "HomeComputer$Board") (T := TB) (N := 8) hx hb hts (fun w h => List.mem_cons_of_mem _ (layB w h)) tyB tyB_ok nmB hown hK hP hD hS 0 rfl rfl 0 (by decide) (hts _ (List.mem_cons_of_mem _ kB_9)) (fun _ h9 => h9) rfl hin rfl (by decide +kernel) rfl rfl (Nat.le_of_ble_eq_true rfl) dB_init_10 (fun H locs hP hD hS => ?_)
  have hP : va_P D clA [(h0, .inr (1, [.ref q8, .null, .null, .null, .int 0, .int 0, .int 0, .int 0])), (q8, .inl (c8, 4096, .inl (fun _ => 0)))] H := hP
  have hD : va_D A [(h0, .inr (1, [.ref q8, .null, .null, .null, .int 0, .int 0, .int 0, .int 0])), (q8, .inl (c8, 4096, .inl (fun _ => 0)))] := hD
  refine lv_aload_n hx hb dB_init_13 rfl (lv_at hl 0 rfl) ?_
  refine lv_bipush (v := 64) hx hb dB_init_14 (by decide) ?_
  refine va_newa (atype := .int) (ty := .int) (a0 := (64, .inl (fun _ => 0))) (N' := 64) hx hb (hts _ (List.mem_cons_of_mem _ ka_int)) rfl hK hP hD hS hA (fun _ => rfl) (by decide) (by decide) (by decide) (Nat.le_of_ble_eq_true rfl) (Nat.le_of_ble_eq_true rfl) dB_init_16 (fun q16 c16 H hK hP hD hS => ?_)
  have hK : va_K D clA [(c8, .int), (c16, .int)] s := hK
  have hP : va_P D clA [(h0, .inr (1, [.ref q8, .null, .null, .null, .int 0, .int 0, .int 0, .int 0])), (q8, .inl (c8, 4096, .inl (fun _ => 0))), (q16, .inl (c16, 64, .inl (fun _ => 0)))] H := hP
  have hD : va_D A [(h0, .inr (1, [.ref q8, .null, .null, .null, .int 0, .int 0, .int 0, .int 0])), (q8, .inl (c8, 4096, .inl (fun _ => 0))), (q16, .inl (c16, 64, .inl (fun _ => 0)))] := hD
  refine W.widen (k := 2) (n := 4160) (by omega) (by omega) ?_
  refine va_putF (D := D) (ci := 1) (v := .ref q16) (ty := .array .int) (C := "HomeComputer$Board") (T := TB) (N := 8) hx hb hts (fun w h => List.mem_cons_of_mem _ (layB w h)) tyB tyB_ok nmB hown hK hP hD hS 0 rfl rfl 1 (by decide) (hts _ (List.mem_cons_of_mem _ kB_13)) (fun _ h9 => h9) rfl hin rfl (by decide +kernel) rfl rfl (Nat.le_of_ble_eq_true rfl) dB_init_18 (fun H locs hP hD hS => ?_)
  have hP : va_P D clA [(h0, .inr (1, [.ref q8, .ref q16, .null, .null, .int 0, .int 0, .int 0, .int 0])), (q8, .inl (c8, 4096, .inl (fun _ => 0))), (q16, .inl (c16, 64, .inl (fun _ => 0)))] H := hP
  have hD : va_D A [(h0, .inr (1, [.ref q8, .ref q16, .null, .null, .int 0, .int 0, .int 0, .int 0])), (q8, .inl (c8, 4096, .inl (fun _ => 0))), (q16, .inl (c16, 64, .inl (fun _ => 0)))] := hD
  refine lv_aload_n hx hb dB_init_21 rfl (lv_at hl 0 rfl) ?_
  refine va_new (ci := 3) (fs := [.null]) (C := "HomeComputer$Keyboard") (T := TK) (N := 1) hx hb hts (fun w h => List.mem_cons_of_mem _ (layK w h)) tyK tyK_ok hown (hts _ (List.mem_cons_of_mem _ kB_16)) (hts _ (List.mem_cons_of_mem _ kn_K)) (hts _ (List.mem_cons_of_mem _ ki_K)) hK hP hD hS hA rfl (fun j hj => by rcases (show j = 0 by omega) with rfl <;> rfl) (Nat.le_of_ble_eq_true rfl) (Nat.le_of_ble_eq_true rfl) dB_init_22 (fun q22 H hP hD hS => ?_)
  have hP : va_P D clA [(h0, .inr (1, [.ref q8, .ref q16, .null, .null, .int 0, .int 0, .int 0, .int 0])), (q8, .inl (c8, 4096, .inl (fun _ => 0))), (q16, .inl (c16, 64, .inl (fun _ => 0))), (q22, .inr (3, [.null]))] H := hP
  have hD : va_D A [(h0, .inr (1, [.ref q8, .ref q16, .null, .null, .int 0, .int 0, .int 0, .int 0])), (q8, .inl (c8, 4096, .inl (fun _ => 0))), (q16, .inl (c16, 64, .inl (fun _ => 0))), (q22, .inr (3, [.null]))] := hD
  refine W.widen (k := 3) (n := 4161) (by omega) (by omega) ?_
  refine lv_dup hx hb dB_init_25 rfl ?_
  have hPc := hP.sub (ws' := [(q22, .inr (3, [.null]))]) [3] rfl
  have hDc := hD.sub (ws' := [(q22, .inr (3, [.null]))]) [3] (by decide) rfl
  have hKc := hK.sub (tys' := []) [] rfl
  have hFc := va_free (wc := [(q22, .inr (3, [.null]))]) hD hS hA [3] rfl
  refine va_callv (va_runIN (As := []) (rest := [.ref q22, .ref h0]) ⟨hx, hb, hml, hown, hts⟩ (n_K_init l D q22  H.size) (⟨va_cnB 0 hts (x_good _ goA yi_K.1) rfl rfl rfl (hN _ kB_18).2 (hts _ (List.mem_cons_of_mem _ ki_K)) (by decide +kernel) ⟨Nat.le_of_ble_eq_true rfl, Nat.le_of_ble_eq_true rfl⟩, rfl, (hts _ (List.mem_cons_of_mem _ yi_K.2))⟩) ⟨x_blindI, fun U hU hW => ⟨rfl, by rw [hU], by rw [hU]; exact hPc, va_K.moved hW.alike hKc, hDc.weaken (fun _ _ _ _ => trivial), fun w hw => ⟨(hN w hw).1, xNest_warm (hN w hw).1 hW (hN w hw).2⟩⟩⟩ rfl rfl hl.1 rfl (lv_room (Nat.le_of_ble_eq_true rfl)) dB_init_26 ⟨Nat.le_of_ble_eq_true rfl, Nat.le_of_ble_eq_true rfl⟩) hS (fun q _ h => hFc q h) hFc (fun u26 t H1 locs ht hvm _ hB hz1 hk1 hS => ?_)
  obtain ⟨hP1, hK1, hD1⟩ := hB
  rw [ht] at hP1
  have hK1 := va_K.moved hvm.symm hK1
  obtain ⟨hP, hD⟩ := va_join (wr := [(h0, .inr (1, [.ref q8, .ref q16, .null, .null, .int 0, .int 0, .int 0, .int 0])), (q8, .inl (c8, 4096, .inl (fun _ => 0))), (q16, .inl (c16, 64, .inl (fun _ => 0)))]) (w1 := [(q22, .inr (3, [.ref (u26.1 0)])), ((u26.1 0), .inl ((u26.2 0), 8, .inl (fun _ => 0)))]) hP hD [3] [0, 1, 2] rfl rfl (by decide) (by decide) hk1 hFc hP1 hD1
  have hK := hK.app hK1
  generalize H1 = H at hP hS ⊢
  have hP : va_P D clA [(h0, .inr (1, [.ref q8, .ref q16, .null, .null, .int 0, .int 0, .int 0, .int 0])), (q8, .inl (c8, 4096, .inl (fun _ => 0))), (q16, .inl (c16, 64, .inl (fun _ => 0))), (q22, .inr (3, [.ref (u26.1 0)])), ((u26.1 0), .inl ((u26.2 0), 8, .inl (fun _ => 0)))] H := hP
  have hD : va_D A [(h0, .inr (1, [.ref q8, .ref q16, .null, .null, .int 0, .int 0, .int 0, .int 0])), (q8, .inl (c8, 4096, .inl (fun _ => 0))), (q16, .inl (c16, 64, .inl (fun _ => 0))), (q22, .inr (3, [.ref (u26.1 0)])), ((u26.1 0), .inl ((u26.2 0), 8, .inl (fun _ => 0)))] := hD
  have hK : va_K D clA [(c8, .int), (c16, .int), ((u26.2 0), .int)] s := hK
  refine W.widen (k := 4) (n := 4169) (by omega) (by omega) ?_
  refine va_putF (D := D) (ci := 1) (v := .ref q22) (ty := .object "HomeComputer$Keyboard") (C := "HomeComputer$Board") (T := TB) (N := 8) hx hb hts (fun w h => List.mem_cons_of_mem _ (layB w h)) tyB tyB_ok nmB hown hK hP hD hS 0 rfl rfl 2 (by decide) (hts _ (List.mem_cons_of_mem _ kB_19)) (fun _ h9 => h9) rfl hin rfl (by decide +kernel) rfl rfl (Nat.le_of_ble_eq_true rfl) dB_init_29 (fun H locs hP hD hS => ?_)
  have hP : va_P D clA [(h0, .inr (1, [.ref q8, .ref q16, .ref q22, .null, .int 0, .int 0, .int 0, .int 0])), (q8, .inl (c8, 4096, .inl (fun _ => 0))), (q16, .inl (c16, 64, .inl (fun _ => 0))), (q22, .inr (3, [.ref (u26.1 0)])), ((u26.1 0), .inl ((u26.2 0), 8, .inl (fun _ => 0)))] H := hP
  have hD : va_D A [(h0, .inr (1, [.ref q8, .ref q16, .ref q22, .null, .int 0, .int 0, .int 0, .int 0])), (q8, .inl (c8, 4096, .inl (fun _ => 0))), (q16, .inl (c16, 64, .inl (fun _ => 0))), (q22, .inr (3, [.ref (u26.1 0)])), ((u26.1 0), .inl ((u26.2 0), 8, .inl (fun _ => 0)))] := hD
  refine lv_aload_n hx hb dB_init_32 rfl (lv_at hl 0 rfl) ?_
  refine va_new (ci := 4) (fs := [.null, .int 0, .int 0, .int 0, .int 0]) (C := "HomeComputer$Recorder") (T := TT) (N := 5) hx hb hts (fun w h => List.mem_cons_of_mem _ (layT w h)) tyT tyT_ok hown (hts _ (List.mem_cons_of_mem _ kB_23)) (hts _ (List.mem_cons_of_mem _ kn_T)) (hts _ (List.mem_cons_of_mem _ ki_T)) hK hP hD hS hA rfl (fun j hj => by rcases (show j = 0 ∨ j = 1 ∨ j = 2 ∨ j = 3 ∨ j = 4 by omega) with rfl | rfl | rfl | rfl | rfl <;> rfl) (Nat.le_of_ble_eq_true rfl) (Nat.le_of_ble_eq_true rfl) dB_init_33 (fun q33 H hP hD hS => ?_)
  have hP : va_P D clA [(h0, .inr (1, [.ref q8, .ref q16, .ref q22, .null, .int 0, .int 0, .int 0, .int 0])), (q8, .inl (c8, 4096, .inl (fun _ => 0))), (q16, .inl (c16, 64, .inl (fun _ => 0))), (q22, .inr (3, [.ref (u26.1 0)])), ((u26.1 0), .inl ((u26.2 0), 8, .inl (fun _ => 0))), (q33, .inr (4, [.null, .int 0, .int 0, .int 0, .int 0]))] H := hP
  have hD : va_D A [(h0, .inr (1, [.ref q8, .ref q16, .ref q22, .null, .int 0, .int 0, .int 0, .int 0])), (q8, .inl (c8, 4096, .inl (fun _ => 0))), (q16, .inl (c16, 64, .inl (fun _ => 0))), (q22, .inr (3, [.ref (u26.1 0)])), ((u26.1 0), .inl ((u26.2 0), 8, .inl (fun _ => 0))), (q33, .inr (4, [.null, .int 0, .int 0, .int 0, .int 0]))] := hD
  refine W.widen (k := 5) (n := 4174) (by omega) (by omega) ?_
  refine lv_dup hx hb dB_init_36 rfl ?_
  have hPc := hP.sub (ws' := [(q33, .inr (4, [.null, .int 0, .int 0, .int 0, .int 0]))]) [5] rfl
  have hDc := hD.sub (ws' := [(q33, .inr (4, [.null, .int 0, .int 0, .int 0, .int 0]))]) [5] (by decide) rfl
  have hKc := hK.sub (tys' := []) [] rfl
  have hFc := va_free (wc := [(q33, .inr (4, [.null, .int 0, .int 0, .int 0, .int 0]))]) hD hS hA [5] rfl
  refine va_callv (va_runIN (As := []) (rest := [.ref q33, .ref h0]) ⟨hx, hb, hml, hown, hts⟩ (n_T_init l D q33  H.size) (⟨va_cnB 0 hts (x_good _ goA yi_T.1) rfl rfl rfl (hN _ kB_25).2 (hts _ (List.mem_cons_of_mem _ ki_T)) (by decide +kernel) ⟨Nat.le_of_ble_eq_true rfl, Nat.le_of_ble_eq_true rfl⟩, rfl, (hts _ (List.mem_cons_of_mem _ yi_T.2))⟩) ⟨x_blindI, fun U hU hW => ⟨rfl, by rw [hU], by rw [hU]; exact hPc, va_K.moved hW.alike hKc, hDc.weaken (fun _ _ _ _ => trivial), fun w hw => ⟨(hN w hw).1, xNest_warm (hN w hw).1 hW (hN w hw).2⟩⟩⟩ rfl rfl hl.1 rfl (lv_room (Nat.le_of_ble_eq_true rfl)) dB_init_37 ⟨Nat.le_of_ble_eq_true rfl, Nat.le_of_ble_eq_true rfl⟩) hS (fun q _ h => hFc q h) hFc (fun u37 t H1 locs ht hvm _ hB hz1 hk1 hS => ?_)
  obtain ⟨hP1, hK1, hD1⟩ := hB
  rw [ht] at hP1
  have hK1 := va_K.moved hvm.symm hK1
  obtain ⟨hP, hD⟩ := va_join (wr := [(h0, .inr (1, [.ref q8, .ref q16, .ref q22, .null, .int 0, .int 0, .int 0, .int 0])), (q8, .inl (c8, 4096, .inl (fun _ => 0))), (q16, .inl (c16, 64, .inl (fun _ => 0))), (q22, .inr (3, [.ref (u26.1 0)])), ((u26.1 0), .inl ((u26.2 0), 8, .inl (fun _ => 0)))]) (w1 := [(q33, .inr (4, [.ref (u37.1 0), .int 0, .int 0, .int 0, .int 0])), ((u37.1 0), .inl ((u37.2 0), 40, .inl (fun _ => 0)))]) hP hD [5] [0, 1, 2, 3, 4] rfl rfl (by decide) (by decide) hk1 hFc hP1 hD1
  have hK := hK.app hK1
  generalize H1 = H at hP hS ⊢
  have hP : va_P D clA [(h0, .inr (1, [.ref q8, .ref q16, .ref q22, .null, .int 0, .int 0, .int 0, .int 0])), (q8, .inl (c8, 4096, .inl (fun _ => 0))), (q16, .inl (c16, 64, .inl (fun _ => 0))), (q22, .inr (3, [.ref (u26.1 0)])), ((u26.1 0), .inl ((u26.2 0), 8, .inl (fun _ => 0))), (q33, .inr (4, [.ref (u37.1 0), .int 0, .int 0, .int 0, .int 0])), ((u37.1 0), .inl ((u37.2 0), 40, .inl (fun _ => 0)))] H := hP
  have hD : va_D A [(h0, .inr (1, [.ref q8, .ref q16, .ref q22, .null, .int 0, .int 0, .int 0, .int 0])), (q8, .inl (c8, 4096, .inl (fun _ => 0))), (q16, .inl (c16, 64, .inl (fun _ => 0))), (q22, .inr (3, [.ref (u26.1 0)])), ((u26.1 0), .inl ((u26.2 0), 8, .inl (fun _ => 0))), (q33, .inr (4, [.ref (u37.1 0), .int 0, .int 0, .int 0, .int 0])), ((u37.1 0), .inl ((u37.2 0), 40, .inl (fun _ => 0)))] := hD
  have hK : va_K D clA [(c8, .int), (c16, .int), ((u26.2 0), .int), ((u37.2 0), .int)] s := hK
  refine W.widen (k := 6) (n := 4214) (by omega) (by omega) ?_
  refine va_putF (D := D) (ci := 1) (v := .ref q33) (ty := .object "HomeComputer$Recorder") (C := "HomeComputer$Board") (T := TB) (N := 8) hx hb hts (fun w h => List.mem_cons_of_mem _ (layB w h)) tyB tyB_ok nmB hown hK hP hD hS 0 rfl rfl 3 (by decide) (hts _ (List.mem_cons_of_mem _ kB_26)) (fun _ h9 => h9) rfl hin rfl (by decide +kernel) rfl rfl (Nat.le_of_ble_eq_true rfl) dB_init_40 (fun H locs hP hD hS => ?_)
  have hP : va_P D clA [(h0, .inr (1, [.ref q8, .ref q16, .ref q22, .ref q33, .int 0, .int 0, .int 0, .int 0])), (q8, .inl (c8, 4096, .inl (fun _ => 0))), (q16, .inl (c16, 64, .inl (fun _ => 0))), (q22, .inr (3, [.ref (u26.1 0)])), ((u26.1 0), .inl ((u26.2 0), 8, .inl (fun _ => 0))), (q33, .inr (4, [.ref (u37.1 0), .int 0, .int 0, .int 0, .int 0])), ((u37.1 0), .inl ((u37.2 0), 40, .inl (fun _ => 0)))] H := hP
  have hD : va_D A [(h0, .inr (1, [.ref q8, .ref q16, .ref q22, .ref q33, .int 0, .int 0, .int 0, .int 0])), (q8, .inl (c8, 4096, .inl (fun _ => 0))), (q16, .inl (c16, 64, .inl (fun _ => 0))), (q22, .inr (3, [.ref (u26.1 0)])), ((u26.1 0), .inl ((u26.2 0), 8, .inl (fun _ => 0))), (q33, .inr (4, [.ref (u37.1 0), .int 0, .int 0, .int 0, .int 0])), ((u37.1 0), .inl ((u37.2 0), 40, .inl (fun _ => 0)))] := hD
  refine W.widen (k := 6) (n := 4214) (by omega) (by omega) ?_
  exact W.vret hx hb hr (fun t ht hW => ⟨⟨((fun k => match k with | 0 => q8 | 1 => q16 | 2 => q22 | 3 => (u26.1 0) | 4 => q33 | 5 => (u37.1 0) | _ => 0), (fun k => match k with | 0 => c8 | 1 => c16 | 3 => (u26.2 0) | 5 => (u37.2 0) | _ => c8)), rfl, trivial, by rw [ht]; exact hP, va_K.moved hW.alike hK, hD⟩, hS.F ht⟩) hS.2.2 dB_init_43
abbrev rm_P_init : Room := { frames := 2, cells := 2, slots := 28, locals := 32 }
set_option maxHeartbeats 4000000 in
set_option maxRecDepth 100000 in
theorem n_P_init (l : Launch) (D : va_G) (h0 : Nat) (b1 : Nat) : xI l D yP_init (Cond.code yP_init cP_init 2 none :: wA) rm_P_init [.ref h0, .ref b1] [(h0, .inr (2, [.null, .null, .null, .int 0, .int 0]))] (fun u => [(h0, .inr (2, [.ref b1, .ref (u.1 0), .ref (u.1 1), .int 0, .int 0])), ((u.1 0), .inr (5, [.ref (u.1 1), .int 6])), ((u.1 1), .inl ((u.2 1), 26, .inl (fun _ => 0)))]) (fun u => [((u.2 1), .int)]) 2 28 := by
  intro sz
  refine Met.ofW (cc := cP_init) (maxL := 2) (ret := none) (by decide) rfl ?_
  intro p e s m args below meth c s₁ B hml hv
  obtain ⟨rfl, hsz, hP, hK, hD0, hN⟩ := hv
  have hx := B.exec
  have hb := B.bytes
  have hr := B.returns
  have hts := atoms_spec (ws := Cond.code yP_init cP_init 2 none :: wA) B.pre
  have hown : s.vm.findClass "HomeComputer$Processor" = some m.cls := findClass_of_methodNamed B.named
  have hlocks := B.notSynchronized
  have hin : meth.name = "<init>" := (name_of_methodNamed B.named B.method).1
  subst hsz
  have hD := hD0.self (sz := s.heap.size)
  generalize hAe : va_A [(h0, .inr (2, [.null, .null, .null, .int 0, .int 0]))] s.heap.size = A at hD ⊢
  have hA : ∀ q : Nat, s.heap.size ≤ q → A q := fun q h => by rw [← hAe]; exact Or.inr h
  have hS : va_S A s.heap s.heap [] := va_S.rf
  have hl := lv_entry ([.ref h0, .ref b1]) (n := 2) (Nat.le_of_ble_eq_true rfl)
  rw [lg_entry_eq]
  generalize (lg_sl ([.ref h0, .ref b1]) ++ List.replicate (2 - (lg_sl ([.ref h0, .ref b1])).length) Slot.unset).toArray = ls at hl ⊢
  have hl : lv_has ls 2 [(0, .ref h0), (1, .ref b1)] := hl
  refine lv_aload_n hx hb dP_init_0 rfl (lv_at hl 0 rfl) ?_
  refine W.objInit hx hb hown (hts _ (List.mem_cons_of_mem _ kP_1)) (hts _ (List.mem_cons_of_mem _ kobj_i)) (hts _ (List.mem_cons_of_mem _ kobj_c)) rfl (by rw [hml]; exact hl.1) rfl dP_init_1 (Nat.le_of_ble_eq_true rfl) (Nat.le_of_ble_eq_true rfl) ?_
  refine W.eq (g2 := F0 m 4 ls []) rfl ?_
  refine lv_aload_n hx hb dP_init_4 rfl (lv_at hl 0 rfl) ?_
  refine va_new (ci := 5) (fs := [.null, .int 0]) (C := "HomeComputer$Registers") (T := TG) (N := 2) hx hb hts (fun w h => List.mem_cons_of_mem _ (layG w h)) tyG tyG_ok hown (hts _ (List.mem_cons_of_mem _ kP_7)) (hts _ (List.mem_cons_of_mem _ kn_G)) (hts _ (List.mem_cons_of_mem _ ki_G)) hK hP hD hS hA rfl (fun j hj => by rcases (show j = 0 ∨ j = 1 by omega) with rfl | rfl <;> rfl) (Nat.le_of_ble_eq_true rfl) (Nat.le_of_ble_eq_true rfl) dP_init_5 (fun q5 H hP hD hS => ?_)
  have hP : va_P D clA [(h0, .inr (2, [.null, .null, .null, .int 0, .int 0])), (q5, .inr (5, [.null, .int 0]))] H := hP
  have hD : va_D A [(h0, .inr (2, [.null, .null, .null, .int 0, .int 0])), (q5, .inr (5, [.null, .int 0]))] := hD
  refine W.widen (k := 1) (n := 2) (by omega) (by omega) ?_
  refine lv_dup hx hb dP_init_8 rfl ?_
  have hPc := hP.sub (ws' := [(q5, .inr (5, [.null, .int 0]))]) [1] rfl
  have hDc := hD.sub (ws' := [(q5, .inr (5, [.null, .int 0]))]) [1] (by decide) rfl
  have hKc := hK.sub (tys' := []) [] rfl
  have hFc := va_free (wc := [(q5, .inr (5, [.null, .int 0]))]) hD hS hA [1] rfl
  refine va_callv (va_runIN (As := []) (rest := [.ref q5, .ref h0]) ⟨hx, hb, hml, hown, hts⟩ (n_G_init l D q5  H.size) (⟨va_cnB 0 hts (x_good _ goA yi_G.1) rfl rfl rfl (hN _ kP_9).2 (hts _ (List.mem_cons_of_mem _ ki_G)) (by decide +kernel) ⟨Nat.le_of_ble_eq_true rfl, Nat.le_of_ble_eq_true rfl⟩, rfl, (hts _ (List.mem_cons_of_mem _ yi_G.2))⟩) ⟨x_blindI, fun U hU hW => ⟨rfl, by rw [hU], by rw [hU]; exact hPc, va_K.moved hW.alike hKc, hDc.weaken (fun _ _ _ _ => trivial), fun w hw => ⟨(hN w hw).1, xNest_warm (hN w hw).1 hW (hN w hw).2⟩⟩⟩ rfl rfl hl.1 rfl (lv_room (Nat.le_of_ble_eq_true rfl)) dP_init_9 ⟨Nat.le_of_ble_eq_true rfl, Nat.le_of_ble_eq_true rfl⟩) hS (fun q _ h => hFc q h) hFc (fun u9 t H1 locs ht hvm _ hB hz1 hk1 hS => ?_)
  obtain ⟨hP1, hK1, hD1⟩ := hB
  rw [ht] at hP1
  have hK1 := va_K.moved hvm.symm hK1
  obtain ⟨hP, hD⟩ := va_join (wr := [(h0, .inr (2, [.null, .null, .null, .int 0, .int 0]))]) (w1 := [(q5, .inr (5, [.ref (u9.1 0), .int 6])), ((u9.1 0), .inl ((u9.2 0), 26, .inl (fun _ => 0)))]) hP hD [1] [0] rfl rfl (by decide) (by decide) hk1 hFc hP1 hD1
  have hK := hK.app hK1
  generalize H1 = H at hP hS ⊢
  have hP : va_P D clA [(h0, .inr (2, [.null, .null, .null, .int 0, .int 0])), (q5, .inr (5, [.ref (u9.1 0), .int 6])), ((u9.1 0), .inl ((u9.2 0), 26, .inl (fun _ => 0)))] H := hP
  have hD : va_D A [(h0, .inr (2, [.null, .null, .null, .int 0, .int 0])), (q5, .inr (5, [.ref (u9.1 0), .int 6])), ((u9.1 0), .inl ((u9.2 0), 26, .inl (fun _ => 0)))] := hD
  have hK : va_K D clA [((u9.2 0), .int)] s := hK
  refine W.widen (k := 2) (n := 28) (by omega) (by omega) ?_
  refine va_putF (D := D) (ci := 2) (v := .ref q5) (ty := .object "HomeComputer$Registers") (C := "HomeComputer$Processor") (T := TP) (N := 5) hx hb hts (fun w h => List.mem_cons_of_mem _ (layP w h)) tyP tyP_ok nmP hown hK hP hD hS 0 rfl rfl 1 (by decide) (hts _ (List.mem_cons_of_mem _ kP_10)) (fun _ h9 => h9) rfl hin rfl (by decide +kernel) rfl rfl (Nat.le_of_ble_eq_true rfl) dP_init_12 (fun H locs hP hD hS => ?_)
  have hP : va_P D clA [(h0, .inr (2, [.null, .ref q5, .null, .int 0, .int 0])), (q5, .inr (5, [.ref (u9.1 0), .int 6])), ((u9.1 0), .inl ((u9.2 0), 26, .inl (fun _ => 0)))] H := hP
  have hD : va_D A [(h0, .inr (2, [.null, .ref q5, .null, .int 0, .int 0])), (q5, .inr (5, [.ref (u9.1 0), .int 6])), ((u9.1 0), .inl ((u9.2 0), 26, .inl (fun _ => 0)))] := hD
  refine lv_aload_n hx hb dP_init_15 rfl (lv_at hl 0 rfl) ?_
  refine lv_aload_n hx hb dP_init_16 rfl (lv_at hl 0 rfl) ?_
  refine va_get (D := D) (ci := 2) (v := .ref q5) (C := "HomeComputer$Processor") (T := TP) (N := 5) hx hb hts (fun w h => List.mem_cons_of_mem _ (layP w h)) hown hK hP 0 rfl rfl 1 (by decide) (hts _ (List.mem_cons_of_mem _ kP_10)) (fun _ h9 => h9) rfl dP_init_17 ?_
  refine va_getN (D := D) (ci := 5) (v := .ref (u9.1 0)) (C := "HomeComputer$Registers") (T := TG) (N := 2) hx hb hts (fun w h => List.mem_cons_of_mem _ (layG w h)) hown hK hP 1 rfl rfl 0 (by decide) (va_Nw.use rfl (hN _ kP_16).2) (fun _ h9 => h9) rfl dP_init_20 ?_
  refine va_putF (D := D) (ci := 2) (v := .ref (u9.1 0)) (ty := .array .int) (C := "HomeComputer$Processor") (T := TP) (N := 5) hx hb hts (fun w h => List.mem_cons_of_mem _ (layP w h)) tyP tyP_ok nmP hown hK hP hD hS 0 rfl rfl 2 (by decide) (hts _ (List.mem_cons_of_mem _ kP_20)) (fun _ h9 => h9) rfl hin rfl (by decide +kernel) rfl rfl (Nat.le_of_ble_eq_true rfl) dP_init_23 (fun H locs hP hD hS => ?_)
  have hP : va_P D clA [(h0, .inr (2, [.null, .ref q5, .ref (u9.1 0), .int 0, .int 0])), (q5, .inr (5, [.ref (u9.1 0), .int 6])), ((u9.1 0), .inl ((u9.2 0), 26, .inl (fun _ => 0)))] H := hP
  have hD : va_D A [(h0, .inr (2, [.null, .ref q5, .ref (u9.1 0), .int 0, .int 0])), (q5, .inr (5, [.ref (u9.1 0), .int 6])), ((u9.1 0), .inl ((u9.2 0), 26, .inl (fun _ => 0)))] := hD
  refine lv_aload_n hx hb dP_init_26 rfl (lv_at hl 0 rfl) ?_
  refine lv_aload_n hx hb dP_init_27 rfl (lv_at hl 1 rfl) ?_
  refine va_putF (D := D) (ci := 2) (v := .ref b1) (ty := .object "HomeComputer$Board") (C := "HomeComputer$Processor") (T := TP) (N := 5) hx hb hts (fun w h => List.mem_cons_of_mem _ (layP w h)) tyP tyP_ok nmP hown hK hP hD hS 0 rfl rfl 0 (by decide) (hts _ (List.mem_cons_of_mem _ kP_21)) (fun _ h9 => h9) rfl hin rfl (by decide +kernel) rfl rfl (Nat.le_of_ble_eq_true rfl) dP_init_28 (fun H locs hP hD hS => ?_)
  have hP : va_P D clA [(h0, .inr (2, [.ref b1, .ref q5, .ref (u9.1 0), .int 0, .int 0])), (q5, .inr (5, [.ref (u9.1 0), .int 6])), ((u9.1 0), .inl ((u9.2 0), 26, .inl (fun _ => 0)))] H := hP
  have hD : va_D A [(h0, .inr (2, [.ref b1, .ref q5, .ref (u9.1 0), .int 0, .int 0])), (q5, .inr (5, [.ref (u9.1 0), .int 6])), ((u9.1 0), .inl ((u9.2 0), 26, .inl (fun _ => 0)))] := hD
  refine W.widen (k := 2) (n := 28) (by omega) (by omega) ?_
  exact W.vret hx hb hr (fun t ht hW => ⟨⟨((fun k => match k with | 0 => q5 | 1 => (u9.1 0) | _ => 0), (fun k => match k with | 1 => (u9.2 0) | _ => (u9.2 0))), rfl, trivial, by rw [ht]; exact hP, va_K.moved hW.alike hK, hD⟩, hS.F ht⟩) hS.2.2 dP_init_31
abbrev rm_H_init : Room := { frames := 3, cells := 10, slots := 4255, locals := 53 }
set_option maxHeartbeats 4000000 in
set_option maxRecDepth 100000 in
theorem n_H_init (l : Launch) (D : va_G) (h0 : Nat) : xI l D yH_init (Cond.code yH_init cH_init 1 none :: wA) rm_H_init [.ref h0] [(h0, .inr (0, [.null, .null]))] (fun u => [(h0, .inr (0, [.ref (u.1 0), .ref (u.1 7)])), ((u.1 0), .inr (1, [.ref (u.1 1), .ref (u.1 2), .ref (u.1 3), .ref (u.1 5), .int 0, .int 0, .int 0, .int 0])), ((u.1 1), .inl ((u.2 1), 4096, .inl (fun _ => 0))), ((u.1 2), .inl ((u.2 2), 64, .inl (fun _ => 0))), ((u.1 3), .inr (3, [.ref (u.1 4)])), ((u.1 4), .inl ((u.2 4), 8, .inl (fun _ => 0))), ((u.1 5), .inr (4, [.ref (u.1 6), .int 0, .int 0, .int 0, .int 0])), ((u.1 6), .inl ((u.2 6), 40, .inl (fun _ => 0))), ((u.1 7), .inr (2, [.ref (u.1 0), .ref (u.1 8), .ref (u.1 9), .int 0, .int 0])), ((u.1 8), .inr (5, [.ref (u.1 9), .int 6])), ((u.1 9), .inl ((u.2 9), 26, .inl (fun _ => 0)))]) (fun u => [((u.2 1), .int), ((u.2 2), .int), ((u.2 4), .int), ((u.2 6), .int), ((u.2 9), .int)]) 10 4255 := by
  intro sz
  refine Met.ofW (cc := cH_init) (maxL := 1) (ret := none) (by decide) rfl ?_
  intro p e s m args below meth c s₁ B hml hv
  obtain ⟨rfl, hsz, hP, hK, hD0, hN⟩ := hv
  have hx := B.exec
  have hb := B.bytes
  have hr := B.returns
  have hts := atoms_spec (ws := Cond.code yH_init cH_init 1 none :: wA) B.pre
  have hown : s.vm.findClass "HomeComputer" = some m.cls := findClass_of_methodNamed B.named
  have hlocks := B.notSynchronized
  have hin : meth.name = "<init>" := (name_of_methodNamed B.named B.method).1
  subst hsz
  have hD := hD0.self (sz := s.heap.size)
  generalize hAe : va_A [(h0, .inr (0, [.null, .null]))] s.heap.size = A at hD ⊢
  have hA : ∀ q : Nat, s.heap.size ≤ q → A q := fun q h => by rw [← hAe]; exact Or.inr h
  have hS : va_S A s.heap s.heap [] := va_S.rf
  have hl := lv_entry ([.ref h0]) (n := 1) (Nat.le_of_ble_eq_true rfl)
  rw [lg_entry_eq]
  generalize (lg_sl ([.ref h0]) ++ List.replicate (1 - (lg_sl ([.ref h0])).length) Slot.unset).toArray = ls at hl ⊢
  have hl : lv_has ls 1 [(0, .ref h0)] := hl
  refine lv_aload_n hx hb dH_init_0 rfl (lv_at hl 0 rfl) ?_
  refine W.objInit hx hb hown (hts _ (List.mem_cons_of_mem _ kH_1)) (hts _ (List.mem_cons_of_mem _ kobj_i)) (hts _ (List.mem_cons_of_mem _ kobj_c)) rfl (by rw [hml]; exact hl.1) rfl dH_init_1 (Nat.le_of_ble_eq_true rfl) (Nat.le_of_ble_eq_true rfl) ?_
  refine W.eq (g2 := F0 m 4 ls []) rfl ?_
  refine lv_aload_n hx hb dH_init_4 rfl (lv_at hl 0 rfl) ?_
  refine va_new (ci := 1) (fs := [.null, .null, .null, .null, .int 0, .int 0, .int 0, .int 0]) (C := "HomeComputer$Board") (T := TB) (N := 8) hx hb hts (fun w h => List.mem_cons_of_mem _ (layB w h)) tyB tyB_ok hown (hts _ (List.mem_cons_of_mem _ kH_7)) (hts _ (List.mem_cons_of_mem _ kn_B)) (hts _ (List.mem_cons_of_mem _ ki_B)) hK hP hD hS hA rfl (fun j hj => by rcases (show j = 0 ∨ j = 1 ∨ j = 2 ∨ j = 3 ∨ j = 4 ∨ j = 5 ∨ j = 6 ∨ j = 7 by omega) with rfl | rfl | rfl | rfl | rfl | rfl | rfl | rfl <;> rfl) (Nat.le_of_ble_eq_true rfl) (Nat.le_of_ble_eq_true rfl) dH_init_5 (fun q5 H hP hD hS => ?_)
  have hP : va_P D clA [(h0, .inr (0, [.null, .null])), (q5, .inr (1, [.null, .null, .null, .null, .int 0, .int 0, .int 0, .int 0]))] H := hP
  have hD : va_D A [(h0, .inr (0, [.null, .null])), (q5, .inr (1, [.null, .null, .null, .null, .int 0, .int 0, .int 0, .int 0]))] := hD
  refine W.widen (k := 1) (n := 8) (by omega) (by omega) ?_
  refine lv_dup hx hb dH_init_8 rfl ?_
  have hPc := hP.sub (ws' := [(q5, .inr (1, [.null, .null, .null, .null, .int 0, .int 0, .int 0, .int 0]))]) [1] rfl
  have hDc := hD.sub (ws' := [(q5, .inr (1, [.null, .null, .null, .null, .int 0, .int 0, .int 0, .int 0]))]) [1] (by decide) rfl
  have hKc := hK.sub (tys' := []) [] rfl
  have hFc := va_free (wc := [(q5, .inr (1, [.null, .null, .null, .null, .int 0, .int 0, .int 0, .int 0]))]) hD hS hA [1] rfl
  refine va_callv (va_runIN (As := []) (rest := [.ref q5, .ref h0]) ⟨hx, hb, hml, hown, hts⟩ (n_B_init l D q5  H.size) (⟨va_cnB 0 hts (x_good _ goA yi_B.1) rfl rfl rfl (hN _ kH_9).2 (hts _ (List.mem_cons_of_mem _ ki_B)) (by decide +kernel) ⟨Nat.le_of_ble_eq_true rfl, Nat.le_of_ble_eq_true rfl⟩, rfl, (hts _ (List.mem_cons_of_mem _ yi_B.2))⟩) ⟨x_blindI, fun U hU hW => ⟨rfl, by rw [hU], by rw [hU]; exact hPc, va_K.moved hW.alike hKc, hDc.weaken (fun _ _ _ _ => trivial), fun w hw => ⟨(hN w hw).1, xNest_warm (hN w hw).1 hW (hN w hw).2⟩⟩⟩ rfl rfl hl.1 rfl (lv_room (Nat.le_of_ble_eq_true rfl)) dH_init_9 ⟨Nat.le_of_ble_eq_true rfl, Nat.le_of_ble_eq_true rfl⟩) hS (fun q _ h => hFc q h) hFc (fun u9 t H1 locs ht hvm _ hB hz1 hk1 hS => ?_)
  obtain ⟨hP1, hK1, hD1⟩ := hB
  rw [ht] at hP1
  have hK1 := va_K.moved hvm.symm hK1
  obtain ⟨hP, hD⟩ := va_join (wr := [(h0, .inr (0, [.null, .null]))]) (w1 := [(q5, .inr (1, [.ref (u9.1 0), .ref (u9.1 1), .ref (u9.1 2), .ref (u9.1 4), .int 0, .int 0, .int 0, .int 0])), ((u9.1 0), .inl ((u9.2 0), 4096, .inl (fun _ => 0))), ((u9.1 1), .inl ((u9.2 1), 64, .inl (fun _ => 0))), ((u9.1 2), .inr (3, [.ref (u9.1 3)])), ((u9.1 3), .inl ((u9.2 3), 8, .inl (fun _ => 0))), ((u9.1 4), .inr (4, [.ref (u9.1 5), .int 0, .int 0, .int 0, .int 0])), ((u9.1 5), .inl ((u9.2 5), 40, .inl (fun _ => 0)))]) hP hD [1] [0] rfl rfl (by decide) (by decide) hk1 hFc hP1 hD1
  have hK := hK.app hK1
  generalize H1 = H at hP hS ⊢
  have hP : va_P D clA [(h0, .inr (0, [.null, .null])), (q5, .inr (1, [.ref (u9.1 0), .ref (u9.1 1), .ref (u9.1 2), .ref (u9.1 4), .int 0, .int 0, .int 0, .int 0])), ((u9.1 0), .inl ((u9.2 0), 4096, .inl (fun _ => 0))), ((u9.1 1), .inl ((u9.2 1), 64, .inl (fun _ => 0))), ((u9.1 2), .inr (3, [.ref (u9.1 3)])), ((u9.1 3), .inl ((u9.2 3), 8, .inl (fun _ => 0))), ((u9.1 4), .inr (4, [.ref (u9.1 5), .int 0, .int 0, .int 0, .int 0])), ((u9.1 5), .inl ((u9.2 5), 40, .inl (fun _ => 0)))] H := hP
  have hD : va_D A [(h0, .inr (0, [.null, .null])), (q5, .inr (1, [.ref (u9.1 0), .ref (u9.1 1), .ref (u9.1 2), .ref (u9.1 4), .int 0, .int 0, .int 0, .int 0])), ((u9.1 0), .inl ((u9.2 0), 4096, .inl (fun _ => 0))), ((u9.1 1), .inl ((u9.2 1), 64, .inl (fun _ => 0))), ((u9.1 2), .inr (3, [.ref (u9.1 3)])), ((u9.1 3), .inl ((u9.2 3), 8, .inl (fun _ => 0))), ((u9.1 4), .inr (4, [.ref (u9.1 5), .int 0, .int 0, .int 0, .int 0])), ((u9.1 5), .inl ((u9.2 5), 40, .inl (fun _ => 0)))] := hD
  have hK : va_K D clA [((u9.2 0), .int), ((u9.2 1), .int), ((u9.2 3), .int), ((u9.2 5), .int)] s := hK
  refine W.widen (k := 7) (n := 4222) (by omega) (by omega) ?_
  refine va_putF (D := D) (ci := 0) (v := .ref q5) (ty := .object "HomeComputer$Board") (C := "HomeComputer") (T := TH) (N := 2) hx hb hts (fun w h => List.mem_cons_of_mem _ (layH w h)) tyH tyH_ok nmH hown hK hP hD hS 0 rfl rfl 0 (by decide) (hts _ (List.mem_cons_of_mem _ kH_10)) (fun _ h9 => h9) rfl hin rfl (by decide +kernel) rfl rfl (Nat.le_of_ble_eq_true rfl) dH_init_12 (fun H locs hP hD hS => ?_)
  have hP : va_P D clA [(h0, .inr (0, [.ref q5, .null])), (q5, .inr (1, [.ref (u9.1 0), .ref (u9.1 1), .ref (u9.1 2), .ref (u9.1 4), .int 0, .int 0, .int 0, .int 0])), ((u9.1 0), .inl ((u9.2 0), 4096, .inl (fun _ => 0))), ((u9.1 1), .inl ((u9.2 1), 64, .inl (fun _ => 0))), ((u9.1 2), .inr (3, [.ref (u9.1 3)])), ((u9.1 3), .inl ((u9.2 3), 8, .inl (fun _ => 0))), ((u9.1 4), .inr (4, [.ref (u9.1 5), .int 0, .int 0, .int 0, .int 0])), ((u9.1 5), .inl ((u9.2 5), 40, .inl (fun _ => 0)))] H := hP
  have hD : va_D A [(h0, .inr (0, [.ref q5, .null])), (q5, .inr (1, [.ref (u9.1 0), .ref (u9.1 1), .ref (u9.1 2), .ref (u9.1 4), .int 0, .int 0, .int 0, .int 0])), ((u9.1 0), .inl ((u9.2 0), 4096, .inl (fun _ => 0))), ((u9.1 1), .inl ((u9.2 1), 64, .inl (fun _ => 0))), ((u9.1 2), .inr (3, [.ref (u9.1 3)])), ((u9.1 3), .inl ((u9.2 3), 8, .inl (fun _ => 0))), ((u9.1 4), .inr (4, [.ref (u9.1 5), .int 0, .int 0, .int 0, .int 0])), ((u9.1 5), .inl ((u9.2 5), 40, .inl (fun _ => 0)))] := hD
  refine lv_aload_n hx hb dH_init_15 rfl (lv_at hl 0 rfl) ?_
  refine va_new (ci := 2) (fs := [.null, .null, .null, .int 0, .int 0]) (C := "HomeComputer$Processor") (T := TP) (N := 5) hx hb hts (fun w h => List.mem_cons_of_mem _ (layP w h)) tyP tyP_ok hown (hts _ (List.mem_cons_of_mem _ kH_16)) (hts _ (List.mem_cons_of_mem _ kn_P)) (hts _ (List.mem_cons_of_mem _ ki_P)) hK hP hD hS hA rfl (fun j hj => by rcases (show j = 0 ∨ j = 1 ∨ j = 2 ∨ j = 3 ∨ j = 4 by omega) with rfl | rfl | rfl | rfl | rfl <;> rfl) (Nat.le_of_ble_eq_true rfl) (Nat.le_of_ble_eq_true rfl) dH_init_16 (fun q16 H hP hD hS => ?_)
  have hP : va_P D clA [(h0, .inr (0, [.ref q5, .null])), (q5, .inr (1, [.ref (u9.1 0), .ref (u9.1 1), .ref (u9.1 2), .ref (u9.1 4), .int 0, .int 0, .int 0, .int 0])), ((u9.1 0), .inl ((u9.2 0), 4096, .inl (fun _ => 0))), ((u9.1 1), .inl ((u9.2 1), 64, .inl (fun _ => 0))), ((u9.1 2), .inr (3, [.ref (u9.1 3)])), ((u9.1 3), .inl ((u9.2 3), 8, .inl (fun _ => 0))), ((u9.1 4), .inr (4, [.ref (u9.1 5), .int 0, .int 0, .int 0, .int 0])), ((u9.1 5), .inl ((u9.2 5), 40, .inl (fun _ => 0))), (q16, .inr (2, [.null, .null, .null, .int 0, .int 0]))] H := hP
  have hD : va_D A [(h0, .inr (0, [.ref q5, .null])), (q5, .inr (1, [.ref (u9.1 0), .ref (u9.1 1), .ref (u9.1 2), .ref (u9.1 4), .int 0, .int 0, .int 0, .int 0])), ((u9.1 0), .inl ((u9.2 0), 4096, .inl (fun _ => 0))), ((u9.1 1), .inl ((u9.2 1), 64, .inl (fun _ => 0))), ((u9.1 2), .inr (3, [.ref (u9.1 3)])), ((u9.1 3), .inl ((u9.2 3), 8, .inl (fun _ => 0))), ((u9.1 4), .inr (4, [.ref (u9.1 5), .int 0, .int 0, .int 0, .int 0])), ((u9.1 5), .inl ((u9.2 5), 40, .inl (fun _ => 0))), (q16, .inr (2, [.null, .null, .null, .int 0, .int 0]))] := hD
  refine W.widen (k := 8) (n := 4227) (by omega) (by omega) ?_
  refine lv_dup hx hb dH_init_19 rfl ?_
  refine lv_aload_n hx hb dH_init_20 rfl (lv_at hl 0 rfl) ?_
  refine va_get (D := D) (ci := 0) (v := .ref q5) (C := "HomeComputer") (T := TH) (N := 2) hx hb hts (fun w h => List.mem_cons_of_mem _ (layH w h)) hown hK hP 0 rfl rfl 0 (by decide) (hts _ (List.mem_cons_of_mem _ kH_10)) (fun _ h9 => h9) rfl dH_init_21 ?_
  have hPc := hP.sub (ws' := [(q16, .inr (2, [.null, .null, .null, .int 0, .int 0]))]) [8] rfl
  have hDc := hD.sub (ws' := [(q16, .inr (2, [.null, .null, .null, .int 0, .int 0]))]) [8] (by decide) rfl
  have hKc := hK.sub (tys' := []) [] rfl
  have hFc := va_free (wc := [(q16, .inr (2, [.null, .null, .null, .int 0, .int 0]))]) hD hS hA [8] rfl
  refine va_callv (va_runI (As := [.ref q5]) (rest := [.ref q16, .ref h0]) ⟨hx, hb, hml, hown, hts⟩ (n_P_init l D q16 q5 H.size) (cwI 1 hts (x_good _ goA yi_P.1) rfl rfl rfl (hts _ (List.mem_cons_of_mem _ ki_P)) (hts _ (List.mem_cons_of_mem _ kH_18)) (hts _ (List.mem_cons_of_mem _ yi_P.2)) rfl (by decide +kernel) ⟨Nat.le_of_ble_eq_true rfl, Nat.le_of_ble_eq_true rfl⟩) ⟨x_blindI, fun U hU hW => ⟨rfl, by rw [hU], by rw [hU]; exact hPc, va_K.moved hW.alike hKc, hDc.weaken (fun _ _ _ _ => trivial), fun w hw => ⟨(hN w hw).1, xNest_warm (hN w hw).1 hW (hN w hw).2⟩⟩⟩ rfl rfl hl.1 rfl (lv_room (Nat.le_of_ble_eq_true rfl)) dH_init_24 ⟨Nat.le_of_ble_eq_true rfl, Nat.le_of_ble_eq_true rfl⟩) hS (fun q _ h => hFc q h) hFc (fun u24 t H1 locs ht hvm _ hB hz1 hk1 hS => ?_)
  obtain ⟨hP1, hK1, hD1⟩ := hB
  rw [ht] at hP1
  have hK1 := va_K.moved hvm.symm hK1
  obtain ⟨hP, hD⟩ := va_join (wr := [(h0, .inr (0, [.ref q5, .null])), (q5, .inr (1, [.ref (u9.1 0), .ref (u9.1 1), .ref (u9.1 2), .ref (u9.1 4), .int 0, .int 0, .int 0, .int 0])), ((u9.1 0), .inl ((u9.2 0), 4096, .inl (fun _ => 0))), ((u9.1 1), .inl ((u9.2 1), 64, .inl (fun _ => 0))), ((u9.1 2), .inr (3, [.ref (u9.1 3)])), ((u9.1 3), .inl ((u9.2 3), 8, .inl (fun _ => 0))), ((u9.1 4), .inr (4, [.ref (u9.1 5), .int 0, .int 0, .int 0, .int 0])), ((u9.1 5), .inl ((u9.2 5), 40, .inl (fun _ => 0)))]) (w1 := [(q16, .inr (2, [.ref q5, .ref (u24.1 0), .ref (u24.1 1), .int 0, .int 0])), ((u24.1 0), .inr (5, [.ref (u24.1 1), .int 6])), ((u24.1 1), .inl ((u24.2 1), 26, .inl (fun _ => 0)))]) hP hD [8] [0, 1, 2, 3, 4, 5, 6, 7] rfl rfl (by decide) (by decide) hk1 hFc hP1 hD1
  have hK := hK.app hK1
  generalize H1 = H at hP hS ⊢
  have hP : va_P D clA [(h0, .inr (0, [.ref q5, .null])), (q5, .inr (1, [.ref (u9.1 0), .ref (u9.1 1), .ref (u9.1 2), .ref (u9.1 4), .int 0, .int 0, .int 0, .int 0])), ((u9.1 0), .inl ((u9.2 0), 4096, .inl (fun _ => 0))), ((u9.1 1), .inl ((u9.2 1), 64, .inl (fun _ => 0))), ((u9.1 2), .inr (3, [.ref (u9.1 3)])), ((u9.1 3), .inl ((u9.2 3), 8, .inl (fun _ => 0))), ((u9.1 4), .inr (4, [.ref (u9.1 5), .int 0, .int 0, .int 0, .int 0])), ((u9.1 5), .inl ((u9.2 5), 40, .inl (fun _ => 0))), (q16, .inr (2, [.ref q5, .ref (u24.1 0), .ref (u24.1 1), .int 0, .int 0])), ((u24.1 0), .inr (5, [.ref (u24.1 1), .int 6])), ((u24.1 1), .inl ((u24.2 1), 26, .inl (fun _ => 0)))] H := hP
  have hD : va_D A [(h0, .inr (0, [.ref q5, .null])), (q5, .inr (1, [.ref (u9.1 0), .ref (u9.1 1), .ref (u9.1 2), .ref (u9.1 4), .int 0, .int 0, .int 0, .int 0])), ((u9.1 0), .inl ((u9.2 0), 4096, .inl (fun _ => 0))), ((u9.1 1), .inl ((u9.2 1), 64, .inl (fun _ => 0))), ((u9.1 2), .inr (3, [.ref (u9.1 3)])), ((u9.1 3), .inl ((u9.2 3), 8, .inl (fun _ => 0))), ((u9.1 4), .inr (4, [.ref (u9.1 5), .int 0, .int 0, .int 0, .int 0])), ((u9.1 5), .inl ((u9.2 5), 40, .inl (fun _ => 0))), (q16, .inr (2, [.ref q5, .ref (u24.1 0), .ref (u24.1 1), .int 0, .int 0])), ((u24.1 0), .inr (5, [.ref (u24.1 1), .int 6])), ((u24.1 1), .inl ((u24.2 1), 26, .inl (fun _ => 0)))] := hD
  have hK : va_K D clA [((u9.2 0), .int), ((u9.2 1), .int), ((u9.2 3), .int), ((u9.2 5), .int), ((u24.2 1), .int)] s := hK
  refine W.widen (k := 10) (n := 4255) (by omega) (by omega) ?_
  refine va_putF (D := D) (ci := 0) (v := .ref q16) (ty := .object "HomeComputer$Processor") (C := "HomeComputer") (T := TH) (N := 2) hx hb hts (fun w h => List.mem_cons_of_mem _ (layH w h)) tyH tyH_ok nmH hown hK hP hD hS 0 rfl rfl 1 (by decide) (hts _ (List.mem_cons_of_mem _ kH_21)) (fun _ h9 => h9) rfl hin rfl (by decide +kernel) rfl rfl (Nat.le_of_ble_eq_true rfl) dH_init_27 (fun H locs hP hD hS => ?_)
  have hP : va_P D clA [(h0, .inr (0, [.ref q5, .ref q16])), (q5, .inr (1, [.ref (u9.1 0), .ref (u9.1 1), .ref (u9.1 2), .ref (u9.1 4), .int 0, .int 0, .int 0, .int 0])), ((u9.1 0), .inl ((u9.2 0), 4096, .inl (fun _ => 0))), ((u9.1 1), .inl ((u9.2 1), 64, .inl (fun _ => 0))), ((u9.1 2), .inr (3, [.ref (u9.1 3)])), ((u9.1 3), .inl ((u9.2 3), 8, .inl (fun _ => 0))), ((u9.1 4), .inr (4, [.ref (u9.1 5), .int 0, .int 0, .int 0, .int 0])), ((u9.1 5), .inl ((u9.2 5), 40, .inl (fun _ => 0))), (q16, .inr (2, [.ref q5, .ref (u24.1 0), .ref (u24.1 1), .int 0, .int 0])), ((u24.1 0), .inr (5, [.ref (u24.1 1), .int 6])), ((u24.1 1), .inl ((u24.2 1), 26, .inl (fun _ => 0)))] H := hP
  have hD : va_D A [(h0, .inr (0, [.ref q5, .ref q16])), (q5, .inr (1, [.ref (u9.1 0), .ref (u9.1 1), .ref (u9.1 2), .ref (u9.1 4), .int 0, .int 0, .int 0, .int 0])), ((u9.1 0), .inl ((u9.2 0), 4096, .inl (fun _ => 0))), ((u9.1 1), .inl ((u9.2 1), 64, .inl (fun _ => 0))), ((u9.1 2), .inr (3, [.ref (u9.1 3)])), ((u9.1 3), .inl ((u9.2 3), 8, .inl (fun _ => 0))), ((u9.1 4), .inr (4, [.ref (u9.1 5), .int 0, .int 0, .int 0, .int 0])), ((u9.1 5), .inl ((u9.2 5), 40, .inl (fun _ => 0))), (q16, .inr (2, [.ref q5, .ref (u24.1 0), .ref (u24.1 1), .int 0, .int 0])), ((u24.1 0), .inr (5, [.ref (u24.1 1), .int 6])), ((u24.1 1), .inl ((u24.2 1), 26, .inl (fun _ => 0)))] := hD
  refine W.widen (k := 10) (n := 4255) (by omega) (by omega) ?_
  exact W.vret hx hb hr (fun t ht hW => ⟨⟨((fun k => match k with | 0 => q5 | 1 => (u9.1 0) | 2 => (u9.1 1) | 3 => (u9.1 2) | 4 => (u9.1 3) | 5 => (u9.1 4) | 6 => (u9.1 5) | 7 => q16 | 8 => (u24.1 0) | 9 => (u24.1 1) | _ => 0), (fun k => match k with | 1 => (u9.2 0) | 2 => (u9.2 1) | 4 => (u9.2 3) | 6 => (u9.2 5) | 9 => (u24.2 1) | _ => (u9.2 0))), rfl, trivial, by rw [ht]; exact hP, va_K.moved hW.alike hK, hD⟩, hS.F ht⟩) hS.2.2 dH_init_30
abbrev rm_M_init : Room := { frames := 1, cells := 5, slots := 4266, locals := 12 }
set_option maxHeartbeats 4000000 in
set_option maxRecDepth 100000 in
theorem n_M_init (l : Launch) (D : va_G) (h0 : Nat) : xI l D yM_init (Cond.code yM_init cM_init 1 none :: wA) rm_M_init [.ref h0] [(h0, .inr (6, [.null, .null, .int 0, .int 0, .int 0, .int 0, .int 0, .int 0, .int 0, .int 0, .int 0, .null, .int 0, .int 0, .int 0, .null, .int 0, .null, .int 0, .int 0, .int 0]))] (fun u => [(h0, .inr (6, [.ref (u.1 0), .ref (u.1 1), .int 0, .int 0, .int 0, .int 0, .int 0, .int 0, .int 0, .int 0, .int 0, .ref (u.1 2), .int 0, .int 0, .int 0, .ref (u.1 3), .int 0, .ref (u.1 4), .int 0, .int 0, .int 0])), ((u.1 0), .inl ((u.2 0), 4096, .inl (fun _ => 0))), ((u.1 1), .inl ((u.2 1), 26, .inl (fun _ => 0))), ((u.1 2), .inl ((u.2 2), 40, .inl (fun _ => 0))), ((u.1 3), .inl ((u.2 3), 64, .inl (fun _ => 0))), ((u.1 4), .inl ((u.2 4), 40, .inl (fun _ => 0)))]) (fun u => [((u.2 0), .int), ((u.2 1), .int), ((u.2 2), .boolean), ((u.2 3), .int), ((u.2 4), .int)]) 5 4266 := by
  intro sz
  refine Met.ofW (cc := cM_init) (maxL := 1) (ret := none) (by decide) rfl ?_
  intro p e s m args below meth c s₁ B hml hv
  obtain ⟨rfl, hsz, hP, hK, hD0, hN⟩ := hv
  have hx := B.exec
  have hb := B.bytes
  have hr := B.returns
  have hts := atoms_spec (ws := Cond.code yM_init cM_init 1 none :: wA) B.pre
  have hown : s.vm.findClass "HomeComputerModel" = some m.cls := findClass_of_methodNamed B.named
  have hlocks := B.notSynchronized
  have hin : meth.name = "<init>" := (name_of_methodNamed B.named B.method).1
  subst hsz
  have hD := hD0.self (sz := s.heap.size)
  generalize hAe : va_A [(h0, .inr (6, [.null, .null, .int 0, .int 0, .int 0, .int 0, .int 0, .int 0, .int 0, .int 0, .int 0, .null, .int 0, .int 0, .int 0, .null, .int 0, .null, .int 0, .int 0, .int 0]))] s.heap.size = A at hD ⊢
  have hA : ∀ q : Nat, s.heap.size ≤ q → A q := fun q h => by rw [← hAe]; exact Or.inr h
  have hS : va_S A s.heap s.heap [] := va_S.rf
  have hl := lv_entry ([.ref h0]) (n := 1) (Nat.le_of_ble_eq_true rfl)
  rw [lg_entry_eq]
  generalize (lg_sl ([.ref h0]) ++ List.replicate (1 - (lg_sl ([.ref h0])).length) Slot.unset).toArray = ls at hl ⊢
  have hl : lv_has ls 1 [(0, .ref h0)] := hl
  refine lv_aload_n hx hb dM_init_0 rfl (lv_at hl 0 rfl) ?_
  refine W.objInit hx hb hown (hts _ (List.mem_cons_of_mem _ kM_1)) (hts _ (List.mem_cons_of_mem _ kobj_i)) (hts _ (List.mem_cons_of_mem _ kobj_c)) rfl (by rw [hml]; exact hl.1) rfl dM_init_1 (Nat.le_of_ble_eq_true rfl) (Nat.le_of_ble_eq_true rfl) ?_
  refine W.eq (g2 := F0 m 4 ls []) rfl ?_
  refine lv_aload_n hx hb dM_init_4 rfl (lv_at hl 0 rfl) ?_
  refine lv_sipush (v := 4096) hx hb dM_init_5 (by decide) ?_
  refine va_newa (atype := .int) (ty := .int) (a0 := (4096, .inl (fun _ => 0))) (N' := 4096) hx hb (hts _ (List.mem_cons_of_mem _ ka_int)) rfl hK hP hD hS hA (fun _ => rfl) (by decide) (by decide) (by decide) (Nat.le_of_ble_eq_true rfl) (Nat.le_of_ble_eq_true rfl) dM_init_8 (fun q8 c8 H hK hP hD hS => ?_)
  have hK : va_K D clA [(c8, .int)] s := hK
  have hP : va_P D clA [(h0, .inr (6, [.null, .null, .int 0, .int 0, .int 0, .int 0, .int 0, .int 0, .int 0, .int 0, .int 0, .null, .int 0, .int 0, .int 0, .null, .int 0, .null, .int 0, .int 0, .int 0])), (q8, .inl (c8, 4096, .inl (fun _ => 0)))] H := hP
  have hD : va_D A [(h0, .inr (6, [.null, .null, .int 0, .int 0, .int 0, .int 0, .int 0, .int 0, .int 0, .int 0, .int 0, .null, .int 0, .int 0, .int 0, .null, .int 0, .null, .int 0, .int 0, .int 0])), (q8, .inl (c8, 4096, .inl (fun _ => 0)))] := hD
  refine W.widen (k := 1) (n := 4096) (by omega) (by omega) ?_
  refine va_putF (D := D) (ci := 6) (v := .ref q8) (ty := .array .int) (C := "HomeComputerModel") (T := TM) (N := 21) hx hb hts (fun w h => List.mem_cons_of_mem _ (layM w h)) tyM tyM_ok nmM hown hK hP hD hS 0 rfl rfl 0 (by decide) (hts _ (List.mem_cons_of_mem _ kM_7)) (fun _ h9 => h9) rfl hin rfl (by decide +kernel) rfl rfl (Nat.le_of_ble_eq_true rfl) dM_init_10 (fun H locs hP hD hS => ?_)
  have hP : va_P D clA [(h0, .inr (6, [.ref q8, .null, .int 0, .int 0, .int 0, .int 0, .int 0, .int 0, .int 0, .int 0, .int 0, .null, .int 0, .int 0, .int 0, .null, .int 0, .null, .int 0, .int 0, .int 0])), (q8, .inl (c8, 4096, .inl (fun _ => 0)))] H := hP
  have hD : va_D A [(h0, .inr (6, [.ref q8, .null, .int 0, .int 0, .int 0, .int 0, .int 0, .int 0, .int 0, .int 0, .int 0, .null, .int 0, .int 0, .int 0, .null, .int 0, .null, .int 0, .int 0, .int 0])), (q8, .inl (c8, 4096, .inl (fun _ => 0)))] := hD
  refine lv_aload_n hx hb dM_init_13 rfl (lv_at hl 0 rfl) ?_
  refine lv_bipush (v := 26) hx hb dM_init_14 (by decide) ?_
  refine va_newa (atype := .int) (ty := .int) (a0 := (26, .inl (fun _ => 0))) (N' := 26) hx hb (hts _ (List.mem_cons_of_mem _ ka_int)) rfl hK hP hD hS hA (fun _ => rfl) (by decide) (by decide) (by decide) (Nat.le_of_ble_eq_true rfl) (Nat.le_of_ble_eq_true rfl) dM_init_16 (fun q16 c16 H hK hP hD hS => ?_)
  have hK : va_K D clA [(c8, .int), (c16, .int)] s := hK
  have hP : va_P D clA [(h0, .inr (6, [.ref q8, .null, .int 0, .int 0, .int 0, .int 0, .int 0, .int 0, .int 0, .int 0, .int 0, .null, .int 0, .int 0, .int 0, .null, .int 0, .null, .int 0, .int 0, .int 0])), (q8, .inl (c8, 4096, .inl (fun _ => 0))), (q16, .inl (c16, 26, .inl (fun _ => 0)))] H := hP
  have hD : va_D A [(h0, .inr (6, [.ref q8, .null, .int 0, .int 0, .int 0, .int 0, .int 0, .int 0, .int 0, .int 0, .int 0, .null, .int 0, .int 0, .int 0, .null, .int 0, .null, .int 0, .int 0, .int 0])), (q8, .inl (c8, 4096, .inl (fun _ => 0))), (q16, .inl (c16, 26, .inl (fun _ => 0)))] := hD
  refine W.widen (k := 2) (n := 4122) (by omega) (by omega) ?_
  refine va_putF (D := D) (ci := 6) (v := .ref q16) (ty := .array .int) (C := "HomeComputerModel") (T := TM) (N := 21) hx hb hts (fun w h => List.mem_cons_of_mem _ (layM w h)) tyM tyM_ok nmM hown hK hP hD hS 0 rfl rfl 1 (by decide) (hts _ (List.mem_cons_of_mem _ kM_13)) (fun _ h9 => h9) rfl hin rfl (by decide +kernel) rfl rfl (Nat.le_of_ble_eq_true rfl) dM_init_18 (fun H locs hP hD hS => ?_)
  have hP : va_P D clA [(h0, .inr (6, [.ref q8, .ref q16, .int 0, .int 0, .int 0, .int 0, .int 0, .int 0, .int 0, .int 0, .int 0, .null, .int 0, .int 0, .int 0, .null, .int 0, .null, .int 0, .int 0, .int 0])), (q8, .inl (c8, 4096, .inl (fun _ => 0))), (q16, .inl (c16, 26, .inl (fun _ => 0)))] H := hP
  have hD : va_D A [(h0, .inr (6, [.ref q8, .ref q16, .int 0, .int 0, .int 0, .int 0, .int 0, .int 0, .int 0, .int 0, .int 0, .null, .int 0, .int 0, .int 0, .null, .int 0, .null, .int 0, .int 0, .int 0])), (q8, .inl (c8, 4096, .inl (fun _ => 0))), (q16, .inl (c16, 26, .inl (fun _ => 0)))] := hD
  refine lv_aload_n hx hb dM_init_21 rfl (lv_at hl 0 rfl) ?_
  refine lv_bipush (v := 40) hx hb dM_init_22 (by decide) ?_
  refine va_newa (atype := .boolean) (ty := .boolean) (a0 := (40, .inl (fun _ => 0))) (N' := 40) hx hb (hts _ (List.mem_cons_of_mem _ ka_boolean)) rfl hK hP hD hS hA (fun _ => rfl) (by decide) (by decide) (by decide) (Nat.le_of_ble_eq_true rfl) (Nat.le_of_ble_eq_true rfl) dM_init_24 (fun q24 c24 H hK hP hD hS => ?_)
  have hK : va_K D clA [(c8, .int), (c16, .int), (c24, .boolean)] s := hK
  have hP : va_P D clA [(h0, .inr (6, [.ref q8, .ref q16, .int 0, .int 0, .int 0, .int 0, .int 0, .int 0, .int 0, .int 0, .int 0, .null, .int 0, .int 0, .int 0, .null, .int 0, .null, .int 0, .int 0, .int 0])), (q8, .inl (c8, 4096, .inl (fun _ => 0))), (q16, .inl (c16, 26, .inl (fun _ => 0))), (q24, .inl (c24, 40, .inl (fun _ => 0)))] H := hP
  have hD : va_D A [(h0, .inr (6, [.ref q8, .ref q16, .int 0, .int 0, .int 0, .int 0, .int 0, .int 0, .int 0, .int 0, .int 0, .null, .int 0, .int 0, .int 0, .null, .int 0, .null, .int 0, .int 0, .int 0])), (q8, .inl (c8, 4096, .inl (fun _ => 0))), (q16, .inl (c16, 26, .inl (fun _ => 0))), (q24, .inl (c24, 40, .inl (fun _ => 0)))] := hD
  refine W.widen (k := 3) (n := 4162) (by omega) (by omega) ?_
  refine va_putF (D := D) (ci := 6) (v := .ref q24) (ty := .array .boolean) (C := "HomeComputerModel") (T := TM) (N := 21) hx hb hts (fun w h => List.mem_cons_of_mem _ (layM w h)) tyM tyM_ok nmM hown hK hP hD hS 0 rfl rfl 11 (by decide) (hts _ (List.mem_cons_of_mem _ kM_16)) (fun _ h9 => h9) rfl hin rfl (by decide +kernel) rfl rfl (Nat.le_of_ble_eq_true rfl) dM_init_26 (fun H locs hP hD hS => ?_)
  have hP : va_P D clA [(h0, .inr (6, [.ref q8, .ref q16, .int 0, .int 0, .int 0, .int 0, .int 0, .int 0, .int 0, .int 0, .int 0, .ref q24, .int 0, .int 0, .int 0, .null, .int 0, .null, .int 0, .int 0, .int 0])), (q8, .inl (c8, 4096, .inl (fun _ => 0))), (q16, .inl (c16, 26, .inl (fun _ => 0))), (q24, .inl (c24, 40, .inl (fun _ => 0)))] H := hP
  have hD : va_D A [(h0, .inr (6, [.ref q8, .ref q16, .int 0, .int 0, .int 0, .int 0, .int 0, .int 0, .int 0, .int 0, .int 0, .ref q24, .int 0, .int 0, .int 0, .null, .int 0, .null, .int 0, .int 0, .int 0])), (q8, .inl (c8, 4096, .inl (fun _ => 0))), (q16, .inl (c16, 26, .inl (fun _ => 0))), (q24, .inl (c24, 40, .inl (fun _ => 0)))] := hD
  refine lv_aload_n hx hb dM_init_29 rfl (lv_at hl 0 rfl) ?_
  refine lv_bipush (v := 64) hx hb dM_init_30 (by decide) ?_
  refine va_newa (atype := .int) (ty := .int) (a0 := (64, .inl (fun _ => 0))) (N' := 64) hx hb (hts _ (List.mem_cons_of_mem _ ka_int)) rfl hK hP hD hS hA (fun _ => rfl) (by decide) (by decide) (by decide) (Nat.le_of_ble_eq_true rfl) (Nat.le_of_ble_eq_true rfl) dM_init_32 (fun q32 c32 H hK hP hD hS => ?_)
  have hK : va_K D clA [(c8, .int), (c16, .int), (c24, .boolean), (c32, .int)] s := hK
  have hP : va_P D clA [(h0, .inr (6, [.ref q8, .ref q16, .int 0, .int 0, .int 0, .int 0, .int 0, .int 0, .int 0, .int 0, .int 0, .ref q24, .int 0, .int 0, .int 0, .null, .int 0, .null, .int 0, .int 0, .int 0])), (q8, .inl (c8, 4096, .inl (fun _ => 0))), (q16, .inl (c16, 26, .inl (fun _ => 0))), (q24, .inl (c24, 40, .inl (fun _ => 0))), (q32, .inl (c32, 64, .inl (fun _ => 0)))] H := hP
  have hD : va_D A [(h0, .inr (6, [.ref q8, .ref q16, .int 0, .int 0, .int 0, .int 0, .int 0, .int 0, .int 0, .int 0, .int 0, .ref q24, .int 0, .int 0, .int 0, .null, .int 0, .null, .int 0, .int 0, .int 0])), (q8, .inl (c8, 4096, .inl (fun _ => 0))), (q16, .inl (c16, 26, .inl (fun _ => 0))), (q24, .inl (c24, 40, .inl (fun _ => 0))), (q32, .inl (c32, 64, .inl (fun _ => 0)))] := hD
  refine W.widen (k := 4) (n := 4226) (by omega) (by omega) ?_
  refine va_putF (D := D) (ci := 6) (v := .ref q32) (ty := .array .int) (C := "HomeComputerModel") (T := TM) (N := 21) hx hb hts (fun w h => List.mem_cons_of_mem _ (layM w h)) tyM tyM_ok nmM hown hK hP hD hS 0 rfl rfl 15 (by decide) (hts _ (List.mem_cons_of_mem _ kM_20)) (fun _ h9 => h9) rfl hin rfl (by decide +kernel) rfl rfl (Nat.le_of_ble_eq_true rfl) dM_init_34 (fun H locs hP hD hS => ?_)
  have hP : va_P D clA [(h0, .inr (6, [.ref q8, .ref q16, .int 0, .int 0, .int 0, .int 0, .int 0, .int 0, .int 0, .int 0, .int 0, .ref q24, .int 0, .int 0, .int 0, .ref q32, .int 0, .null, .int 0, .int 0, .int 0])), (q8, .inl (c8, 4096, .inl (fun _ => 0))), (q16, .inl (c16, 26, .inl (fun _ => 0))), (q24, .inl (c24, 40, .inl (fun _ => 0))), (q32, .inl (c32, 64, .inl (fun _ => 0)))] H := hP
  have hD : va_D A [(h0, .inr (6, [.ref q8, .ref q16, .int 0, .int 0, .int 0, .int 0, .int 0, .int 0, .int 0, .int 0, .int 0, .ref q24, .int 0, .int 0, .int 0, .ref q32, .int 0, .null, .int 0, .int 0, .int 0])), (q8, .inl (c8, 4096, .inl (fun _ => 0))), (q16, .inl (c16, 26, .inl (fun _ => 0))), (q24, .inl (c24, 40, .inl (fun _ => 0))), (q32, .inl (c32, 64, .inl (fun _ => 0)))] := hD
  refine lv_aload_n hx hb dM_init_37 rfl (lv_at hl 0 rfl) ?_
  refine lv_bipush (v := 40) hx hb dM_init_38 (by decide) ?_
  refine va_newa (atype := .int) (ty := .int) (a0 := (40, .inl (fun _ => 0))) (N' := 40) hx hb (hts _ (List.mem_cons_of_mem _ ka_int)) rfl hK hP hD hS hA (fun _ => rfl) (by decide) (by decide) (by decide) (Nat.le_of_ble_eq_true rfl) (Nat.le_of_ble_eq_true rfl) dM_init_40 (fun q40 c40 H hK hP hD hS => ?_)
  have hK : va_K D clA [(c8, .int), (c16, .int), (c24, .boolean), (c32, .int), (c40, .int)] s := hK
  have hP : va_P D clA [(h0, .inr (6, [.ref q8, .ref q16, .int 0, .int 0, .int 0, .int 0, .int 0, .int 0, .int 0, .int 0, .int 0, .ref q24, .int 0, .int 0, .int 0, .ref q32, .int 0, .null, .int 0, .int 0, .int 0])), (q8, .inl (c8, 4096, .inl (fun _ => 0))), (q16, .inl (c16, 26, .inl (fun _ => 0))), (q24, .inl (c24, 40, .inl (fun _ => 0))), (q32, .inl (c32, 64, .inl (fun _ => 0))), (q40, .inl (c40, 40, .inl (fun _ => 0)))] H := hP
  have hD : va_D A [(h0, .inr (6, [.ref q8, .ref q16, .int 0, .int 0, .int 0, .int 0, .int 0, .int 0, .int 0, .int 0, .int 0, .ref q24, .int 0, .int 0, .int 0, .ref q32, .int 0, .null, .int 0, .int 0, .int 0])), (q8, .inl (c8, 4096, .inl (fun _ => 0))), (q16, .inl (c16, 26, .inl (fun _ => 0))), (q24, .inl (c24, 40, .inl (fun _ => 0))), (q32, .inl (c32, 64, .inl (fun _ => 0))), (q40, .inl (c40, 40, .inl (fun _ => 0)))] := hD
  refine W.widen (k := 5) (n := 4266) (by omega) (by omega) ?_
  refine va_putF (D := D) (ci := 6) (v := .ref q40) (ty := .array .int) (C := "HomeComputerModel") (T := TM) (N := 21) hx hb hts (fun w h => List.mem_cons_of_mem _ (layM w h)) tyM tyM_ok nmM hown hK hP hD hS 0 rfl rfl 17 (by decide) (hts _ (List.mem_cons_of_mem _ kM_23)) (fun _ h9 => h9) rfl hin rfl (by decide +kernel) rfl rfl (Nat.le_of_ble_eq_true rfl) dM_init_42 (fun H locs hP hD hS => ?_)
  have hP : va_P D clA [(h0, .inr (6, [.ref q8, .ref q16, .int 0, .int 0, .int 0, .int 0, .int 0, .int 0, .int 0, .int 0, .int 0, .ref q24, .int 0, .int 0, .int 0, .ref q32, .int 0, .ref q40, .int 0, .int 0, .int 0])), (q8, .inl (c8, 4096, .inl (fun _ => 0))), (q16, .inl (c16, 26, .inl (fun _ => 0))), (q24, .inl (c24, 40, .inl (fun _ => 0))), (q32, .inl (c32, 64, .inl (fun _ => 0))), (q40, .inl (c40, 40, .inl (fun _ => 0)))] H := hP
  have hD : va_D A [(h0, .inr (6, [.ref q8, .ref q16, .int 0, .int 0, .int 0, .int 0, .int 0, .int 0, .int 0, .int 0, .int 0, .ref q24, .int 0, .int 0, .int 0, .ref q32, .int 0, .ref q40, .int 0, .int 0, .int 0])), (q8, .inl (c8, 4096, .inl (fun _ => 0))), (q16, .inl (c16, 26, .inl (fun _ => 0))), (q24, .inl (c24, 40, .inl (fun _ => 0))), (q32, .inl (c32, 64, .inl (fun _ => 0))), (q40, .inl (c40, 40, .inl (fun _ => 0)))] := hD
  refine W.widen (k := 5) (n := 4266) (by omega) (by omega) ?_
  exact W.vret hx hb hr (fun t ht hW => ⟨⟨((fun k => match k with | 0 => q8 | 1 => q16 | 2 => q24 | 3 => q32 | 4 => q40 | _ => 0), (fun k => match k with | 0 => c8 | 1 => c16 | 2 => c24 | 3 => c32 | 4 => c40 | _ => c8)), rfl, trivial, by rw [ht]; exact hP, va_K.moved hW.alike hK, hD⟩, hS.F ht⟩) hS.2.2 dM_init_45
