set_option maxHeartbeats 4000000 in
set_option maxRecDepth 100000 in
theorem m_B_place {l : Launch} {D : va_G} {ad : Nat → Nat} {ca : Nat → ClassId} (N : Nat) (a1 a2 : Int32) (S : xSt) : xM l D clA (tysC ca) (cellsC ad ca) nW yB_place (Cond.code yB_place cB_place 3 none :: wA) rm_B_place false [.ref (ad 1), .int a1, .int a2] S (f_B_place N a1 a2 S) := by
  refine x_met (cc := cB_place) (maxL := 3) (ret := none) (by decide) rfl [.ref (ad 1), .int a1, .int a2] (lv0 := [(0, .ref (ad 1)), (1, .int a1), (2, .int a2)]) (Nat.le_of_ble_eq_true rfl) rfl ?_
  intro p e s m args below meth c A h
  unfold f_B_place
  refine x_aload_n (nx := 1) (i := 0) h dB_place_0 rfl 0 rfl rfl ?_
  refine x_get (nx := 4) h (gC_1_0 ad ca _) (List.mem_cons_of_mem _ kB_9) dB_place_1 rfl ?_
  refine x_iload_n (nx := 5) (i := 1) h dB_place_4 rfl 1 rfl rfl ?_
  refine x_sipush (nx := 8) (v := (4095 : Int32)) h dB_place_5 (by decide) rfl ?_
  refine x_iand (nx := 9) h dB_place_8 rfl ?_
  refine x_iload_n (nx := 10) (i := 2) h dB_place_9 rfl 2 rfl rfl ?_
  refine x_sipush (nx := 13) (v := (255 : Int32)) h dB_place_10 (by decide) rfl ?_
  refine x_iand (nx := 14) h dB_place_13 rfl ?_
  refine x_iast (nx := 15) h (aC_6 ad ca) dB_place_14 rfl (fun S1 => ?_)
  exact x_vret h dB_place_15
set_option maxHeartbeats 4000000 in
set_option maxRecDepth 100000 in
theorem m_H_poke {l : Launch} {D : va_G} {ad : Nat → Nat} {ca : Nat → ClassId} (N : Nat) (a1 a2 : Int32) (S : xSt) : xM l D clA (tysC ca) (cellsC ad ca) nW yH_poke (Cond.code yH_poke cH_poke 3 none :: wA) rm_H_poke false [.ref (ad 0), .int a1, .int a2] S (f_H_poke N a1 a2 S) := by
  refine x_met (cc := cH_poke) (maxL := 3) (ret := none) (by decide) rfl [.ref (ad 0), .int a1, .int a2] (lv0 := [(0, .ref (ad 0)), (1, .int a1), (2, .int a2)]) (Nat.le_of_ble_eq_true rfl) rfl ?_
  intro p e s m args below meth c A h
  unfold f_H_poke
  refine x_aload_n (nx := 1) (i := 0) h dH_poke_0 rfl 0 rfl rfl ?_
  refine x_get (nx := 4) h (gC_0_0 ad ca _) (List.mem_cons_of_mem _ kH_10) dH_poke_1 rfl ?_
  refine x_iload_n (nx := 5) (i := 1) h dH_poke_4 rfl 1 rfl rfl ?_
  refine x_iload_n (nx := 6) (i := 2) h dH_poke_5 rfl 2 rfl rfl ?_
  refine x_cVv (nx := 9) (rest := []) (As := [.int a1, .int a2]) h (m_B_place N a1 a2 S) (x_wV h goA y_B_place kH_25 ⟨by decide, by decide⟩ rfl rfl) (oC_1 ad ca) rfl rfl (Nat.le_of_ble_eq_true rfl) dH_poke_6 rfl (fun v1 S2 => ?_)
  exact x_vret h dH_poke_9
set_option maxHeartbeats 4000000 in
set_option maxRecDepth 100000 in
theorem j_H_load_10 {l : Launch} {D : va_G} {ad : Nat → Nat} {ca : Nat → ClassId} {p : Program} {e : Env} {s : State} {m : MethodId} {args : Array Value} {below : List Frame} {meth : Method} {c : Code} {A : Nat → Prop} (h : xC p s m args meth c cH_load 5 (Cond.code yH_load cH_load 5 (some .boolean) :: wA) nW yH_load.cls (some .boolean) D clA (tysC ca) A) (N : Nat) (S : xSt) : xJ p l e rm_H_load s m args below meth c D clA (tysC ca) (cellsC ad ca) A true 5 10 [] [] S (f_H_load_10 N S) := by
  unfold f_H_load_10
  refine x_iconst (nx := 11) (v := (0 : Int32)) h dH_load_10 (by decide) rfl ?_
  exact x_zret h dH_load_11
set_option maxHeartbeats 4000000 in
set_option maxRecDepth 100000 in
theorem j_H_load_15 {l : Launch} {D : va_G} {ad : Nat → Nat} {ca : Nat → ClassId} {p : Program} {e : Env} {s : State} {m : MethodId} {args : Array Value} {below : List Frame} {meth : Method} {c : Code} {A : Nat → Prop} (h : xC p s m args meth c cH_load 5 (Cond.code yH_load cH_load 5 (some .boolean) :: wA) nW yH_load.cls (some .boolean) D clA (tysC ca) A) (N : Nat) : ∀ (n : Nat) (a1 a2 a3 a4 : Int32) (S : xSt), xJ p l e rm_H_load s m args below meth c D clA (tysC ca) (cellsC ad ca) A true 5 15 [(0, .ref (ad 0)), (1, .int a1), (2, .int a2), (3, .int a3), (4, .int a4)] [] S (f_H_load_15 N n a1 a2 a3 a4 S) := by
  intro n
  induction n with
  | zero =>
    intro a1 a2 a3 a4 S
    rw [f_H_load_15]
    exact x_none
  | succ n ih =>
    intro a1 a2 a3 a4 S
    rw [f_H_load_15]
    refine x_iload (nx := 17) (i := 4) h dH_load_15 4 rfl rfl ?_
    refine x_iload_n (nx := 18) (i := 3) h dH_load_17 rfl 3 rfl rfl ?_
    refine x_icmp_ge (nx := 21) (tgt := 48) h dH_load_18 (by decide) rfl ?_ ?_
    · refine x_iconst (nx := 49) (v := (1 : Int32)) h dH_load_48 (by decide) rfl ?_
      exact x_zret h dH_load_49
    · refine x_aload_n (nx := 22) (i := 0) h dH_load_21 rfl 0 rfl rfl ?_
      refine x_get (nx := 25) h (gC_0_0 ad ca _) (List.mem_cons_of_mem _ kH_10) dH_load_22 rfl ?_
      refine x_iload_n (nx := 26) (i := 1) h dH_load_25 rfl 1 rfl rfl ?_
      refine x_iload (nx := 28) (i := 4) h dH_load_26 4 rfl rfl ?_
      refine x_iadd (nx := 29) h dH_load_28 rfl ?_
      refine x_iload_n (nx := 30) (i := 2) h dH_load_29 rfl 2 rfl rfl ?_
      refine x_bipush (nx := 32) (v := (24 : Int32)) h dH_load_30 (by decide) rfl ?_
      refine x_bipush (nx := 34) (v := (8 : Int32)) h dH_load_32 (by decide) rfl ?_
      refine x_iload (nx := 36) (i := 4) h dH_load_34 4 rfl rfl ?_
      refine x_imul (nx := 37) h dH_load_36 rfl ?_
      refine x_isub (nx := 38) h dH_load_37 rfl ?_
      refine x_iushr (nx := 39) h dH_load_38 rfl ?_
      refine x_cVv (nx := 42) (rest := []) (As := [.int (a1 + a4), .int (xUs a2 ((24 : Int32) - ((8 : Int32) * a4)))]) h (m_B_place N (a1 + a4) (xUs a2 ((24 : Int32) - ((8 : Int32) * a4))) S) (x_wV h goA y_B_place kH_25 ⟨by decide, by decide⟩ rfl rfl) (oC_1 ad ca) rfl rfl (Nat.le_of_ble_eq_true rfl) dH_load_39 rfl (fun v1 S2 => ?_)
      refine x_iinc (nx := 45) (i := 4) (v := (a4 + (1 : Int32))) (lv' := [(4, .int (a4 + (1 : Int32))), (0, .ref (ad 0)), (1, .int a1), (2, .int a2), (3, .int a3)]) h dH_load_42 4 rfl (by rw [show Int32.ofInt 1 = (1 : Int32) by decide]) (by decide) rfl rfl ?_
      refine x_goto (tgt := 15) h dH_load_45 (by decide) ?_
      exact x_sub [1, 2, 3, 4, 0] rfl (ih a1 a2 a3 (a4 + (1 : Int32)) S2)
set_option maxHeartbeats 4000000 in
set_option maxRecDepth 100000 in
theorem m_H_load {l : Launch} {D : va_G} {ad : Nat → Nat} {ca : Nat → ClassId} (N : Nat) (a1 a2 a3 : Int32) (S : xSt) : xM l D clA (tysC ca) (cellsC ad ca) nW yH_load (Cond.code yH_load cH_load 5 (some .boolean) :: wA) rm_H_load true [.ref (ad 0), .int a1, .int a2, .int a3] S (f_H_load N a1 a2 a3 S) := by
  refine x_met (cc := cH_load) (maxL := 5) (ret := (some .boolean)) (by decide) rfl [.ref (ad 0), .int a1, .int a2, .int a3] (lv0 := [(0, .ref (ad 0)), (1, .int a1), (2, .int a2), (3, .int a3)]) (Nat.le_of_ble_eq_true rfl) rfl ?_
  intro p e s m args below meth c A h
  unfold f_H_load
  refine x_iload_n (nx := 1) (i := 3) h dH_load_0 rfl 3 rfl rfl ?_
  refine x_iconst (nx := 2) (v := (1 : Int32)) h dH_load_1 (by decide) rfl ?_
  refine x_icmp_lt (nx := 5) (tgt := 10) h dH_load_2 (by decide) rfl ?_ ?_
  · exact x_sub [] rfl (j_H_load_10 h N S)
  · refine x_iload_n (nx := 6) (i := 3) h dH_load_5 rfl 3 rfl rfl ?_
    refine x_iconst (nx := 7) (v := (4 : Int32)) h dH_load_6 (by decide) rfl ?_
    refine x_icmp_le (nx := 10) (tgt := 12) h dH_load_7 (by decide) rfl ?_ ?_
    · refine x_iconst (nx := 13) (v := (0 : Int32)) h dH_load_12 (by decide) rfl ?_
      refine x_istore (nx := 15) (i := 4) (lv' := [(4, .int (0 : Int32)), (0, .ref (ad 0)), (1, .int a1), (2, .int a2), (3, .int a3)]) h dH_load_13 (by decide) rfl rfl ?_
      exact x_sub [1, 2, 3, 4, 0] rfl (j_H_load_15 h N N a1 a2 a3 (0 : Int32) S)
    · exact x_sub [] rfl (j_H_load_10 h N S)
set_option maxHeartbeats 4000000 in
set_option maxRecDepth 100000 in
theorem m_B_byteAt {l : Launch} {D : va_G} {ad : Nat → Nat} {ca : Nat → ClassId} (N : Nat) (a1 : Int32) (S : xSt) : xM l D clA (tysC ca) (cellsC ad ca) nW yB_byteAt (Cond.code yB_byteAt cB_byteAt 2 (some .int) :: wA) rm_B_byteAt true [.ref (ad 1), .int a1] S (f_B_byteAt N a1 S) := by
  refine x_met (cc := cB_byteAt) (maxL := 2) (ret := (some .int)) (by decide) rfl [.ref (ad 1), .int a1] (lv0 := [(0, .ref (ad 1)), (1, .int a1)]) (Nat.le_of_ble_eq_true rfl) rfl ?_
  intro p e s m args below meth c A h
  unfold f_B_byteAt
  refine x_aload_n (nx := 1) (i := 0) h dB_byteAt_0 rfl 0 rfl rfl ?_
  refine x_get (nx := 4) h (gC_1_0 ad ca _) (List.mem_cons_of_mem _ kB_9) dB_byteAt_1 rfl ?_
  refine x_iload_n (nx := 5) (i := 1) h dB_byteAt_4 rfl 1 rfl rfl ?_
  refine x_sipush (nx := 8) (v := (4095 : Int32)) h dB_byteAt_5 (by decide) rfl ?_
  refine x_iand (nx := 9) h dB_byteAt_8 rfl ?_
  refine x_iald (nx := 10) h (aC_6 ad ca) dB_byteAt_9 rfl (fun v1 => ?_)
  exact x_iret h dB_byteAt_10
set_option maxHeartbeats 4000000 in
set_option maxRecDepth 100000 in
theorem m_H_peek {l : Launch} {D : va_G} {ad : Nat → Nat} {ca : Nat → ClassId} (N : Nat) (a1 : Int32) (S : xSt) : xM l D clA (tysC ca) (cellsC ad ca) nW yH_peek (Cond.code yH_peek cH_peek 2 (some .int) :: wA) rm_H_peek true [.ref (ad 0), .int a1] S (f_H_peek N a1 S) := by
  refine x_met (cc := cH_peek) (maxL := 2) (ret := (some .int)) (by decide) rfl [.ref (ad 0), .int a1] (lv0 := [(0, .ref (ad 0)), (1, .int a1)]) (Nat.le_of_ble_eq_true rfl) rfl ?_
  intro p e s m args below meth c A h
  unfold f_H_peek
  refine x_aload_n (nx := 1) (i := 0) h dH_peek_0 rfl 0 rfl rfl ?_
  refine x_get (nx := 4) h (gC_0_0 ad ca _) (List.mem_cons_of_mem _ kH_10) dH_peek_1 rfl ?_
  refine x_iload_n (nx := 5) (i := 1) h dH_peek_4 rfl 1 rfl rfl ?_
  refine x_cVi (nx := 8) (rest := []) (As := [.int a1]) h (m_B_byteAt N a1 S) (x_wV h goA y_B_byteAt kH_29 ⟨by decide, by decide⟩ rfl rfl) (oC_1 ad ca) rfl rfl (Nat.le_of_ble_eq_true rfl) dH_peek_5 rfl (fun v1 S2 => ?_)
  exact x_iret h dH_peek_8
set_option maxHeartbeats 4000000 in
set_option maxRecDepth 100000 in
theorem j_G_widest_30 {l : Launch} {D : va_G} {ad : Nat → Nat} {ca : Nat → ClassId} {p : Program} {e : Env} {s : State} {m : MethodId} {args : Array Value} {below : List Frame} {meth : Method} {c : Code} {A : Nat → Prop} (h : xC p s m args meth c cG_widest 1 (Cond.code yG_widest cG_widest 1 (some .int) :: wA) nW yG_widest.cls (some .int) D clA (tysC ca) A) (N : Nat) (w0 : Int32) (S : xSt) : xJ p l e rm_G_widest s m args below meth c D clA (tysC ca) (cellsC ad ca) A true 1 30 [] [.int w0] S (f_G_widest_30 N w0 S) := by
  unfold f_G_widest_30
  exact x_iret h dG_widest_30
set_option maxHeartbeats 4000000 in
set_option maxRecDepth 100000 in
theorem m_G_widest {l : Launch} {D : va_G} {ad : Nat → Nat} {ca : Nat → ClassId} (N : Nat) (a0 : Int32) (S : xSt) : xM l D clA (tysC ca) (cellsC ad ca) nW yG_widest (Cond.code yG_widest cG_widest 1 (some .int) :: wA) rm_G_widest true [.int a0] S (f_G_widest N a0 S) := by
  refine x_met (cc := cG_widest) (maxL := 1) (ret := (some .int)) (by decide) rfl [.int a0] (lv0 := [(0, .int a0)]) (Nat.le_of_ble_eq_true rfl) rfl ?_
  intro p e s m args below meth c A h
  unfold f_G_widest
  refine x_iload_n (nx := 1) (i := 0) h dG_widest_0 rfl 0 rfl rfl ?_
  refine x_bipush (nx := 3) (v := (18 : Int32)) h dG_widest_1 (by decide) rfl ?_
  refine x_icmp_ge (nx := 6) (tgt := 10) h dG_widest_3 (by decide) rfl ?_ ?_
  · refine x_iload_n (nx := 11) (i := 0) h dG_widest_10 rfl 0 rfl rfl ?_
    refine x_bipush (nx := 13) (v := (21 : Int32)) h dG_widest_11 (by decide) rfl ?_
    refine x_icmp_gt (nx := 16) (tgt := 19) h dG_widest_13 (by decide) rfl ?_ ?_
    · refine x_iload_n (nx := 20) (i := 0) h dG_widest_19 rfl 0 rfl rfl ?_
      refine x_bipush (nx := 22) (v := (24 : Int32)) h dG_widest_20 (by decide) rfl ?_
      refine x_icmp_ne (nx := 25) (tgt := 29) h dG_widest_22 (by decide) rfl ?_ ?_
      · refine x_iconst (nx := 30) (v := (1 : Int32)) h dG_widest_29 (by decide) rfl ?_
        exact x_sub [] rfl (j_G_widest_30 h N (1 : Int32) S)
      · refine x_iconst (nx := 26) (v := (3 : Int32)) h dG_widest_25 (by decide) rfl ?_
        refine x_goto (tgt := 30) h dG_widest_26 (by decide) ?_
        exact x_sub [] rfl (j_G_widest_30 h N (3 : Int32) S)
    · refine x_ldc (nx := 18) (v := (65535 : Int32)) h (List.mem_cons_of_mem _ kG_21) dG_widest_16 rfl ?_
      exact x_iret h dG_widest_18
  · refine x_sipush (nx := 9) (v := (255 : Int32)) h dG_widest_6 (by decide) rfl ?_
    exact x_iret h dG_widest_9
set_option maxHeartbeats 4000000 in
set_option maxRecDepth 100000 in
theorem j_G_change_25 {l : Launch} {D : va_G} {ad : Nat → Nat} {ca : Nat → ClassId} {p : Program} {e : Env} {s : State} {m : MethodId} {args : Array Value} {below : List Frame} {meth : Method} {c : Code} {A : Nat → Prop} (h : xC p s m args meth c cG_change 3 (Cond.code yG_change cG_change 3 (some .boolean) :: wA) nW yG_change.cls (some .boolean) D clA (tysC ca) A) (N : Nat) (S : xSt) : xJ p l e rm_G_change s m args below meth c D clA (tysC ca) (cellsC ad ca) A true 3 25 [] [] S (f_G_change_25 N S) := by
  unfold f_G_change_25
  refine x_iconst (nx := 26) (v := (0 : Int32)) h dG_change_25 (by decide) rfl ?_
  exact x_zret h dG_change_26
set_option maxHeartbeats 4000000 in
set_option maxRecDepth 100000 in
theorem j_G_change_27 {l : Launch} {D : va_G} {ad : Nat → Nat} {ca : Nat → ClassId} {p : Program} {e : Env} {s : State} {m : MethodId} {args : Array Value} {below : List Frame} {meth : Method} {c : Code} {A : Nat → Prop} (h : xC p s m args meth c cG_change 3 (Cond.code yG_change cG_change 3 (some .boolean) :: wA) nW yG_change.cls (some .boolean) D clA (tysC ca) A) (N : Nat) (a1 a2 : Int32) (S : xSt) : xJ p l e rm_G_change s m args below meth c D clA (tysC ca) (cellsC ad ca) A true 3 27 [(0, .ref (ad 5)), (1, .int a1), (2, .int a2)] [] S (f_G_change_27 N a1 a2 S) := by
  unfold f_G_change_27
  refine x_aload_n (nx := 28) (i := 0) h dG_change_27 rfl 0 rfl rfl ?_
  refine x_get (nx := 31) h (gC_5_0 ad ca _) (List.mem_cons_of_mem _ kG_9) dG_change_28 rfl ?_
  refine x_iload_n (nx := 32) (i := 1) h dG_change_31 rfl 1 rfl rfl ?_
  refine x_iload_n (nx := 33) (i := 2) h dG_change_32 rfl 2 rfl rfl ?_
  refine x_iload_n (nx := 34) (i := 1) h dG_change_33 rfl 1 rfl rfl ?_
  refine x_cSi (nx := 37) (rest := [.int a2, .int a1, .ref (ad 10)]) (As := [.int a1]) h (m_G_widest N a1 S) (x_wS h goA y_G_widest kG_17 ⟨by decide, by decide⟩ rfl rfl) rfl rfl (Nat.le_of_ble_eq_true rfl) dG_change_34 rfl (fun v1 S2 => ?_)
  refine x_iand (nx := 38) h dG_change_37 rfl ?_
  refine x_iast (nx := 39) h (aC_10 ad ca) dG_change_38 rfl (fun S3 => ?_)
  refine x_iconst (nx := 40) (v := (1 : Int32)) h dG_change_39 (by decide) rfl ?_
  exact x_zret h dG_change_40
set_option maxHeartbeats 4000000 in
set_option maxRecDepth 100000 in
theorem m_G_change {l : Launch} {D : va_G} {ad : Nat → Nat} {ca : Nat → ClassId} (N : Nat) (a1 a2 : Int32) (S : xSt) : xM l D clA (tysC ca) (cellsC ad ca) nW yG_change (Cond.code yG_change cG_change 3 (some .boolean) :: wA) rm_G_change true [.ref (ad 5), .int a1, .int a2] S (f_G_change N a1 a2 S) := by
  refine x_met (cc := cG_change) (maxL := 3) (ret := (some .boolean)) (by decide) rfl [.ref (ad 5), .int a1, .int a2] (lv0 := [(0, .ref (ad 5)), (1, .int a1), (2, .int a2)]) (Nat.le_of_ble_eq_true rfl) rfl ?_
  intro p e s m args below meth c A h
  unfold f_G_change
  refine x_iload_n (nx := 1) (i := 1) h dG_change_0 rfl 1 rfl rfl ?_
  refine x_if_lt (nx := 4) (tgt := 25) h dG_change_1 (by decide) rfl ?_ ?_
  · exact x_sub [] rfl (j_G_change_25 h N S)
  · refine x_iload_n (nx := 5) (i := 1) h dG_change_4 rfl 1 rfl rfl ?_
    refine x_bipush (nx := 7) (v := (24 : Int32)) h dG_change_5 (by decide) rfl ?_
    refine x_icmp_gt (nx := 10) (tgt := 25) h dG_change_7 (by decide) rfl ?_ ?_
    · exact x_sub [] rfl (j_G_change_25 h N S)
    · refine x_iload_n (nx := 11) (i := 1) h dG_change_10 rfl 1 rfl rfl ?_
      refine x_bipush (nx := 13) (v := (24 : Int32)) h dG_change_11 (by decide) rfl ?_
      refine x_icmp_ne (nx := 16) (tgt := 27) h dG_change_13 (by decide) rfl ?_ ?_
      · exact x_sub [0, 1, 2] rfl (j_G_change_27 h N a1 a2 S)
      · refine x_iload_n (nx := 17) (i := 2) h dG_change_16 rfl 2 rfl rfl ?_
        refine x_if_lt (nx := 20) (tgt := 25) h dG_change_17 (by decide) rfl ?_ ?_
        · exact x_sub [] rfl (j_G_change_25 h N S)
        · refine x_iload_n (nx := 21) (i := 2) h dG_change_20 rfl 2 rfl rfl ?_
          refine x_iconst (nx := 22) (v := (2 : Int32)) h dG_change_21 (by decide) rfl ?_
          refine x_icmp_le (nx := 25) (tgt := 27) h dG_change_22 (by decide) rfl ?_ ?_
          · exact x_sub [0, 1, 2] rfl (j_G_change_27 h N a1 a2 S)
          · exact x_sub [] rfl (j_G_change_25 h N S)
set_option maxHeartbeats 4000000 in
set_option maxRecDepth 100000 in
theorem m_H_set {l : Launch} {D : va_G} {ad : Nat → Nat} {ca : Nat → ClassId} (N : Nat) (a1 a2 : Int32) (S : xSt) : xM l D clA (tysC ca) (cellsC ad ca) nW yH_set (Cond.code yH_set cH_set 3 (some .boolean) :: wA) rm_H_set true [.ref (ad 0), .int a1, .int a2] S (f_H_set N a1 a2 S) := by
  refine x_met (cc := cH_set) (maxL := 3) (ret := (some .boolean)) (by decide) rfl [.ref (ad 0), .int a1, .int a2] (lv0 := [(0, .ref (ad 0)), (1, .int a1), (2, .int a2)]) (Nat.le_of_ble_eq_true rfl) rfl ?_
  intro p e s m args below meth c A h
  unfold f_H_set
  refine x_aload_n (nx := 1) (i := 0) h dH_set_0 rfl 0 rfl rfl ?_
  refine x_get (nx := 4) h (gC_0_1 ad ca _) (List.mem_cons_of_mem _ kH_21) dH_set_1 rfl ?_
  refine x_getN (nx := 7) h (gC_2_1 ad ca _) kH_33 dH_set_4 rfl ?_
  refine x_iload_n (nx := 8) (i := 1) h dH_set_7 rfl 1 rfl rfl ?_
  refine x_iload_n (nx := 9) (i := 2) h dH_set_8 rfl 2 rfl rfl ?_
  refine x_cVi (nx := 12) (rest := []) (As := [.int a1, .int a2]) h (m_G_change N a1 a2 S) (x_wV h goA y_G_change kH_37 ⟨by decide, by decide⟩ rfl rfl) (oC_5 ad ca) rfl rfl (Nat.le_of_ble_eq_true rfl) dH_set_9 rfl (fun v1 S2 => ?_)
  exact x_zret h dH_set_12
set_option maxHeartbeats 4000000 in
set_option maxRecDepth 100000 in
theorem j_G_tell_20 {l : Launch} {D : va_G} {ad : Nat → Nat} {ca : Nat → ClassId} {p : Program} {e : Env} {s : State} {m : MethodId} {args : Array Value} {below : List Frame} {meth : Method} {c : Code} {A : Nat → Prop} (h : xC p s m args meth c cG_tell 2 (Cond.code yG_tell cG_tell 2 (some .int) :: wA) nW yG_tell.cls (some .int) D clA (tysC ca) A) (N : Nat) (w0 : Int32) (S : xSt) : xJ p l e rm_G_tell s m args below meth c D clA (tysC ca) (cellsC ad ca) A true 2 20 [] [.int w0] S (f_G_tell_20 N w0 S) := by
  unfold f_G_tell_20
  exact x_iret h dG_tell_20
set_option maxHeartbeats 4000000 in
set_option maxRecDepth 100000 in
theorem j_G_tell_10 {l : Launch} {D : va_G} {ad : Nat → Nat} {ca : Nat → ClassId} {p : Program} {e : Env} {s : State} {m : MethodId} {args : Array Value} {below : List Frame} {meth : Method} {c : Code} {A : Nat → Prop} (h : xC p s m args meth c cG_tell 2 (Cond.code yG_tell cG_tell 2 (some .int) :: wA) nW yG_tell.cls (some .int) D clA (tysC ca) A) (N : Nat) (S : xSt) : xJ p l e rm_G_tell s m args below meth c D clA (tysC ca) (cellsC ad ca) A true 2 10 [] [] S (f_G_tell_10 N S) := by
  unfold f_G_tell_10
  refine x_iconst (nx := 11) (v := (-1 : Int32)) h dG_tell_10 (by decide) rfl ?_
  refine x_goto (tgt := 20) h dG_tell_11 (by decide) ?_
  exact x_sub [] rfl (j_G_tell_20 h N (-1 : Int32) S)
set_option maxHeartbeats 4000000 in
set_option maxRecDepth 100000 in
theorem m_G_tell {l : Launch} {D : va_G} {ad : Nat → Nat} {ca : Nat → ClassId} (N : Nat) (a1 : Int32) (S : xSt) : xM l D clA (tysC ca) (cellsC ad ca) nW yG_tell (Cond.code yG_tell cG_tell 2 (some .int) :: wA) rm_G_tell true [.ref (ad 5), .int a1] S (f_G_tell N a1 S) := by
  refine x_met (cc := cG_tell) (maxL := 2) (ret := (some .int)) (by decide) rfl [.ref (ad 5), .int a1] (lv0 := [(0, .ref (ad 5)), (1, .int a1)]) (Nat.le_of_ble_eq_true rfl) rfl ?_
  intro p e s m args below meth c A h
  unfold f_G_tell
  refine x_iload_n (nx := 1) (i := 1) h dG_tell_0 rfl 1 rfl rfl ?_
  refine x_if_lt (nx := 4) (tgt := 10) h dG_tell_1 (by decide) rfl ?_ ?_
  · exact x_sub [] rfl (j_G_tell_10 h N S)
  · refine x_iload_n (nx := 5) (i := 1) h dG_tell_4 rfl 1 rfl rfl ?_
    refine x_bipush (nx := 7) (v := (25 : Int32)) h dG_tell_5 (by decide) rfl ?_
    refine x_icmp_le (nx := 10) (tgt := 14) h dG_tell_7 (by decide) rfl ?_ ?_
    · refine x_aload_n (nx := 15) (i := 0) h dG_tell_14 rfl 0 rfl rfl ?_
      refine x_get (nx := 18) h (gC_5_0 ad ca _) (List.mem_cons_of_mem _ kG_9) dG_tell_15 rfl ?_
      refine x_iload_n (nx := 19) (i := 1) h dG_tell_18 rfl 1 rfl rfl ?_
      refine x_iald (nx := 20) h (aC_10 ad ca) dG_tell_19 rfl (fun v1 => ?_)
      exact x_sub [] rfl (j_G_tell_20 h N v1 S)
    · exact x_sub [] rfl (j_G_tell_10 h N S)
set_option maxHeartbeats 4000000 in
set_option maxRecDepth 100000 in
theorem m_H_register {l : Launch} {D : va_G} {ad : Nat → Nat} {ca : Nat → ClassId} (N : Nat) (a1 : Int32) (S : xSt) : xM l D clA (tysC ca) (cellsC ad ca) nW yH_register (Cond.code yH_register cH_register 2 (some .int) :: wA) rm_H_register true [.ref (ad 0), .int a1] S (f_H_register N a1 S) := by
  refine x_met (cc := cH_register) (maxL := 2) (ret := (some .int)) (by decide) rfl [.ref (ad 0), .int a1] (lv0 := [(0, .ref (ad 0)), (1, .int a1)]) (Nat.le_of_ble_eq_true rfl) rfl ?_
  intro p e s m args below meth c A h
  unfold f_H_register
  refine x_aload_n (nx := 1) (i := 0) h dH_register_0 rfl 0 rfl rfl ?_
  refine x_get (nx := 4) h (gC_0_1 ad ca _) (List.mem_cons_of_mem _ kH_21) dH_register_1 rfl ?_
  refine x_getN (nx := 7) h (gC_2_1 ad ca _) kH_33 dH_register_4 rfl ?_
  refine x_iload_n (nx := 8) (i := 1) h dH_register_7 rfl 1 rfl rfl ?_
  refine x_cVi (nx := 11) (rest := []) (As := [.int a1]) h (m_G_tell N a1 S) (x_wV h goA y_G_tell kH_43 ⟨by decide, by decide⟩ rfl rfl) (oC_5 ad ca) rfl rfl (Nat.le_of_ble_eq_true rfl) dH_register_8 rfl (fun v1 S2 => ?_)
  exact x_iret h dH_register_11
set_option maxHeartbeats 4000000 in
set_option maxRecDepth 100000 in
theorem j_K_move_19 {l : Launch} {D : va_G} {ad : Nat → Nat} {ca : Nat → ClassId} {p : Program} {e : Env} {s : State} {m : MethodId} {args : Array Value} {below : List Frame} {meth : Method} {c : Code} {A : Nat → Prop} (h : xC p s m args meth c cK_move 5 (Cond.code yK_move cK_move 5 (some .boolean) :: wA) nW yK_move.cls (some .boolean) D clA (tysC ca) A) (N : Nat) (S : xSt) : xJ p l e rm_K_move s m args below meth c D clA (tysC ca) (cellsC ad ca) A true 5 19 [] [] S (f_K_move_19 N S) := by
  unfold f_K_move_19
  refine x_iconst (nx := 20) (v := (0 : Int32)) h dK_move_19 (by decide) rfl ?_
  exact x_zret h dK_move_20
set_option maxHeartbeats 4000000 in
set_option maxRecDepth 100000 in
theorem j_K_move_58 {l : Launch} {D : va_G} {ad : Nat → Nat} {ca : Nat → ClassId} {p : Program} {e : Env} {s : State} {m : MethodId} {args : Array Value} {below : List Frame} {meth : Method} {c : Code} {A : Nat → Prop} (h : xC p s m args meth c cK_move 5 (Cond.code yK_move cK_move 5 (some .boolean) :: wA) nW yK_move.cls (some .boolean) D clA (tysC ca) A) (N : Nat) (w1 w2 : Int32) (S : xSt) : xJ p l e rm_K_move s m args below meth c D clA (tysC ca) (cellsC ad ca) A true 5 58 [] [.int w2, .int w1, .ref (ad 8)] S (f_K_move_58 N w1 w2 S) := by
  unfold f_K_move_58
  refine x_iast (nx := 59) h (aC_8 ad ca) dK_move_58 rfl (fun S1 => ?_)
  refine x_iconst (nx := 60) (v := (1 : Int32)) h dK_move_59 (by decide) rfl ?_
  exact x_zret h dK_move_60
set_option maxHeartbeats 4000000 in
set_option maxRecDepth 100000 in
theorem m_K_move {l : Launch} {D : va_G} {ad : Nat → Nat} {ca : Nat → ClassId} (N : Nat) (a1 a2 a3 : Int32) (S : xSt) : xM l D clA (tysC ca) (cellsC ad ca) nW yK_move (Cond.code yK_move cK_move 5 (some .boolean) :: wA) rm_K_move true [.ref (ad 3), .int a1, .int a2, .int a3] S (f_K_move N a1 a2 a3 S) := by
  refine x_met (cc := cK_move) (maxL := 5) (ret := (some .boolean)) (by decide) rfl [.ref (ad 3), .int a1, .int a2, .int a3] (lv0 := [(0, .ref (ad 3)), (1, .int a1), (2, .int a2), (3, .int a3)]) (Nat.le_of_ble_eq_true rfl) rfl ?_
  intro p e s m args below meth c A h
  unfold f_K_move
  refine x_iload_n (nx := 1) (i := 1) h dK_move_0 rfl 1 rfl rfl ?_
  refine x_if_lt (nx := 4) (tgt := 19) h dK_move_1 (by decide) rfl ?_ ?_
  · exact x_sub [] rfl (j_K_move_19 h N S)
  · refine x_iload_n (nx := 5) (i := 1) h dK_move_4 rfl 1 rfl rfl ?_
    refine x_bipush (nx := 7) (v := (8 : Int32)) h dK_move_5 (by decide) rfl ?_
    refine x_icmp_ge (nx := 10) (tgt := 19) h dK_move_7 (by decide) rfl ?_ ?_
    · exact x_sub [] rfl (j_K_move_19 h N S)
    · refine x_iload_n (nx := 11) (i := 2) h dK_move_10 rfl 2 rfl rfl ?_
      refine x_if_lt (nx := 14) (tgt := 19) h dK_move_11 (by decide) rfl ?_ ?_
      · exact x_sub [] rfl (j_K_move_19 h N S)
      · refine x_iload_n (nx := 15) (i := 2) h dK_move_14 rfl 2 rfl rfl ?_
        refine x_iconst (nx := 16) (v := (5 : Int32)) h dK_move_15 (by decide) rfl ?_
        refine x_icmp_lt (nx := 19) (tgt := 21) h dK_move_16 (by decide) rfl ?_ ?_
        · refine x_iconst (nx := 22) (v := (1 : Int32)) h dK_move_21 (by decide) rfl ?_
          refine x_iload_n (nx := 23) (i := 2) h dK_move_22 rfl 2 rfl rfl ?_
          refine x_ishl (nx := 24) h dK_move_23 rfl ?_
          refine x_val (fun b1 => ?_)
          refine x_istore (nx := 26) (i := 4) (lv' := [(4, .int b1), (0, .ref (ad 3)), (1, .int a1), (2, .int a2), (3, .int a3)]) h dK_move_24 (by decide) rfl rfl ?_
          refine x_aload_n (nx := 27) (i := 0) h dK_move_26 rfl 1 rfl rfl ?_
          refine x_get (nx := 30) h (gC_3_0 ad ca _) (List.mem_cons_of_mem _ kK_9) dK_move_27 rfl ?_
          refine x_iload_n (nx := 31) (i := 1) h dK_move_30 rfl 2 rfl rfl ?_
          refine x_iload_n (nx := 32) (i := 3) h dK_move_31 rfl 4 rfl rfl ?_
          refine x_if_eq (nx := 35) (tgt := 47) h dK_move_32 (by decide) rfl ?_ ?_
          · refine x_aload_n (nx := 48) (i := 0) h dK_move_47 rfl 1 rfl rfl ?_
            refine x_get (nx := 51) h (gC_3_0 ad ca _) (List.mem_cons_of_mem _ kK_9) dK_move_48 rfl ?_
            refine x_iload_n (nx := 52) (i := 1) h dK_move_51 rfl 2 rfl rfl ?_
            refine x_iald (nx := 53) h (aC_8 ad ca) dK_move_52 rfl (fun v2 => ?_)
            refine x_iload (nx := 55) (i := 4) h dK_move_53 0 rfl rfl ?_
            refine x_iconst (nx := 56) (v := (-1 : Int32)) h dK_move_55 (by decide) rfl ?_
            refine x_ixor (nx := 57) h dK_move_56 rfl ?_
            refine x_iand (nx := 58) h dK_move_57 rfl ?_
            exact x_sub [] rfl (j_K_move_58 h N a1 (v2 &&& (b1 ^^^ (-1 : Int32))) S)
          · refine x_aload_n (nx := 36) (i := 0) h dK_move_35 rfl 1 rfl rfl ?_
            refine x_get (nx := 39) h (gC_3_0 ad ca _) (List.mem_cons_of_mem _ kK_9) dK_move_36 rfl ?_
            refine x_iload_n (nx := 40) (i := 1) h dK_move_39 rfl 2 rfl rfl ?_
            refine x_iald (nx := 41) h (aC_8 ad ca) dK_move_40 rfl (fun v3 => ?_)
            refine x_iload (nx := 43) (i := 4) h dK_move_41 0 rfl rfl ?_
            refine x_ior (nx := 44) h dK_move_43 rfl ?_
            refine x_goto (tgt := 58) h dK_move_44 (by decide) ?_
            exact x_sub [] rfl (j_K_move_58 h N a1 (v3 ||| b1) S)
        · exact x_sub [] rfl (j_K_move_19 h N S)
set_option maxHeartbeats 4000000 in
set_option maxRecDepth 100000 in
theorem m_H_key {l : Launch} {D : va_G} {ad : Nat → Nat} {ca : Nat → ClassId} (N : Nat) (a1 a2 a3 : Int32) (S : xSt) : xM l D clA (tysC ca) (cellsC ad ca) nW yH_key (Cond.code yH_key cH_key 4 (some .boolean) :: wA) rm_H_key true [.ref (ad 0), .int a1, .int a2, .int a3] S (f_H_key N a1 a2 a3 S) := by
  refine x_met (cc := cH_key) (maxL := 4) (ret := (some .boolean)) (by decide) rfl [.ref (ad 0), .int a1, .int a2, .int a3] (lv0 := [(0, .ref (ad 0)), (1, .int a1), (2, .int a2), (3, .int a3)]) (Nat.le_of_ble_eq_true rfl) rfl ?_
  intro p e s m args below meth c A h
  unfold f_H_key
  refine x_aload_n (nx := 1) (i := 0) h dH_key_0 rfl 0 rfl rfl ?_
  refine x_get (nx := 4) h (gC_0_0 ad ca _) (List.mem_cons_of_mem _ kH_10) dH_key_1 rfl ?_
  refine x_getN (nx := 7) h (gC_1_2 ad ca _) kH_46 dH_key_4 rfl ?_
  refine x_iload_n (nx := 8) (i := 1) h dH_key_7 rfl 1 rfl rfl ?_
  refine x_iload_n (nx := 9) (i := 2) h dH_key_8 rfl 2 rfl rfl ?_
  refine x_iload_n (nx := 10) (i := 3) h dH_key_9 rfl 3 rfl rfl ?_
  refine x_cVi (nx := 13) (rest := []) (As := [.int a1, .int a2, .int a3]) h (m_K_move N a1 a2 a3 S) (x_wV h goA y_K_move kH_50 ⟨by decide, by decide⟩ rfl rfl) (oC_3 ad ca) rfl rfl (Nat.le_of_ble_eq_true rfl) dH_key_10 rfl (fun v1 S2 => ?_)
  exact x_zret h dH_key_13
set_option maxHeartbeats 4000000 in
set_option maxRecDepth 100000 in
theorem j_T_follow_67 {l : Launch} {D : va_G} {ad : Nat → Nat} {ca : Nat → ClassId} {p : Program} {e : Env} {s : State} {m : MethodId} {args : Array Value} {below : List Frame} {meth : Method} {c : Code} {A : Nat → Prop} (h : xC p s m args meth c cT_follow 2 (Cond.code yT_follow cT_follow 2 none :: wA) nW yT_follow.cls none D clA (tysC ca) A) (N : Nat) (w1 : Int32) (S : xSt) : xJ p l e rm_T_follow s m args below meth c D clA (tysC ca) (cellsC ad ca) A false 2 67 [] [.int w1, .ref (ad 4)] S (f_T_follow_67 N w1 S) := by
  unfold f_T_follow_67
  refine x_putZ (nx := 70) h (pC_4_4 ad ca _) (List.mem_cons_of_mem _ kT_17) dT_follow_67 rfl (fun S1 => ?_)
  exact x_vret h dT_follow_70
set_option maxHeartbeats 4000000 in
set_option maxRecDepth 100000 in
theorem j_T_follow_50 {l : Launch} {D : va_G} {ad : Nat → Nat} {ca : Nat → ClassId} {p : Program} {e : Env} {s : State} {m : MethodId} {args : Array Value} {below : List Frame} {meth : Method} {c : Code} {A : Nat → Prop} (h : xC p s m args meth c cT_follow 2 (Cond.code yT_follow cT_follow 2 none :: wA) nW yT_follow.cls none D clA (tysC ca) A) (N : Nat) (S : xSt) : xJ p l e rm_T_follow s m args below meth c D clA (tysC ca) (cellsC ad ca) A false 2 50 [(0, .ref (ad 4))] [] S (f_T_follow_50 N S) := by
  unfold f_T_follow_50
  refine x_aload_n (nx := 51) (i := 0) h dT_follow_50 rfl 0 rfl rfl ?_
  refine x_aload_n (nx := 52) (i := 0) h dT_follow_51 rfl 0 rfl rfl ?_
  refine x_get (nx := 55) h (gC_4_3 ad ca _) (List.mem_cons_of_mem _ kT_21) dT_follow_52 rfl ?_
  refine x_aload_n (nx := 56) (i := 0) h dT_follow_55 rfl 0 rfl rfl ?_
  refine x_get (nx := 59) h (gC_4_1 ad ca _) (List.mem_cons_of_mem _ kT_13) dT_follow_56 rfl ?_
  refine x_icmp_ge (nx := 62) (tgt := 66) h dT_follow_59 (by decide) rfl ?_ ?_
  · refine x_iconst (nx := 67) (v := (0 : Int32)) h dT_follow_66 (by decide) rfl ?_
    exact x_sub [] rfl (j_T_follow_67 h N (0 : Int32) S)
  · refine x_iconst (nx := 63) (v := (1 : Int32)) h dT_follow_62 (by decide) rfl ?_
    refine x_goto (tgt := 67) h dT_follow_63 (by decide) ?_
    exact x_sub [] rfl (j_T_follow_67 h N (1 : Int32) S)
set_option maxHeartbeats 4000000 in
set_option maxRecDepth 100000 in
theorem j_T_follow_8 {l : Launch} {D : va_G} {ad : Nat → Nat} {ca : Nat → ClassId} {p : Program} {e : Env} {s : State} {m : MethodId} {args : Array Value} {below : List Frame} {meth : Method} {c : Code} {A : Nat → Prop} (h : xC p s m args meth c cT_follow 2 (Cond.code yT_follow cT_follow 2 none :: wA) nW yT_follow.cls none D clA (tysC ca) A) (N : Nat) : ∀ (n : Nat) (a1 : Int32) (S : xSt), xJ p l e rm_T_follow s m args below meth c D clA (tysC ca) (cellsC ad ca) A false 2 8 [(0, .ref (ad 4)), (1, .int a1)] [] S (f_T_follow_8 N n a1 S) := by
  intro n
  induction n with
  | zero =>
    intro a1 S
    rw [f_T_follow_8]
    exact x_none
  | succ n ih =>
    intro a1 S
    rw [f_T_follow_8]
    refine x_aload_n (nx := 9) (i := 0) h dT_follow_8 rfl 0 rfl rfl ?_
    refine x_get (nx := 12) h (gC_4_3 ad ca _) (List.mem_cons_of_mem _ kT_21) dT_follow_9 rfl ?_
    refine x_aload_n (nx := 13) (i := 0) h dT_follow_12 rfl 0 rfl rfl ?_
    refine x_get (nx := 16) h (gC_4_1 ad ca _) (List.mem_cons_of_mem _ kT_13) dT_follow_13 rfl ?_
    refine x_icmp_ge (nx := 19) (tgt := 50) h dT_follow_16 (by decide) rfl ?_ ?_
    · exact x_sub [0] rfl (j_T_follow_50 h N S)
    · refine x_aload_n (nx := 20) (i := 0) h dT_follow_19 rfl 0 rfl rfl ?_
      refine x_get (nx := 23) h (gC_4_0 ad ca _) (List.mem_cons_of_mem _ kT_9) dT_follow_20 rfl ?_
      refine x_aload_n (nx := 24) (i := 0) h dT_follow_23 rfl 0 rfl rfl ?_
      refine x_get (nx := 27) h (gC_4_3 ad ca _) (List.mem_cons_of_mem _ kT_21) dT_follow_24 rfl ?_
      refine x_iald (nx := 28) h (aC_9 ad ca) dT_follow_27 rfl (fun v1 => ?_)
      refine x_iload_n (nx := 29) (i := 1) h dT_follow_28 rfl 1 rfl rfl ?_
      refine x_aload_n (nx := 30) (i := 0) h dT_follow_29 rfl 0 rfl rfl ?_
      refine x_get (nx := 33) h (gC_4_2 ad ca _) (List.mem_cons_of_mem _ kT_24) dT_follow_30 rfl ?_
      refine x_isub (nx := 34) h dT_follow_33 rfl ?_
      refine x_icmp_gt (nx := 37) (tgt := 50) h dT_follow_34 (by decide) rfl ?_ ?_
      · exact x_sub [0] rfl (j_T_follow_50 h N S)
      · refine x_aload_n (nx := 38) (i := 0) h dT_follow_37 rfl 0 rfl rfl ?_
        refine x_dup (nx := 39) h dT_follow_38 rfl rfl ?_
        refine x_get (nx := 42) h (gC_4_3 ad ca _) (List.mem_cons_of_mem _ kT_21) dT_follow_39 rfl ?_
        refine x_iconst (nx := 43) (v := (1 : Int32)) h dT_follow_42 (by decide) rfl ?_
        refine x_iadd (nx := 44) h dT_follow_43 rfl ?_
        refine x_put (nx := 47) h (pC_4_3 ad ca _) (List.mem_cons_of_mem _ kT_21) dT_follow_44 rfl (fun S2 => ?_)
        refine x_goto (tgt := 8) h dT_follow_47 (by decide) ?_
        exact x_sub [0, 1] rfl (ih a1 S2)
set_option maxHeartbeats 4000000 in
set_option maxRecDepth 100000 in
theorem m_T_follow {l : Launch} {D : va_G} {ad : Nat → Nat} {ca : Nat → ClassId} (N : Nat) (a1 : Int32) (S : xSt) : xM l D clA (tysC ca) (cellsC ad ca) nW yT_follow (Cond.code yT_follow cT_follow 2 none :: wA) rm_T_follow false [.ref (ad 4), .int a1] S (f_T_follow N a1 S) := by
  refine x_met (cc := cT_follow) (maxL := 2) (ret := none) (by decide) rfl [.ref (ad 4), .int a1] (lv0 := [(0, .ref (ad 4)), (1, .int a1)]) (Nat.le_of_ble_eq_true rfl) rfl ?_
  intro p e s m args below meth c A h
  unfold f_T_follow
  refine x_aload_n (nx := 1) (i := 0) h dT_follow_0 rfl 0 rfl rfl ?_
  refine x_get (nx := 4) h (gC_4_4 ad ca _) (List.mem_cons_of_mem _ kT_17) dT_follow_1 rfl ?_
  refine x_if_ne (nx := 7) (tgt := 8) h dT_follow_4 (by decide) rfl ?_ ?_
  · exact x_sub [0, 1] rfl (j_T_follow_8 h N N a1 S)
  · exact x_vret h dT_follow_7
set_option maxHeartbeats 4000000 in
set_option maxRecDepth 100000 in
theorem j_T_append_28 {l : Launch} {D : va_G} {ad : Nat → Nat} {ca : Nat → ClassId} {p : Program} {e : Env} {s : State} {m : MethodId} {args : Array Value} {below : List Frame} {meth : Method} {c : Code} {A : Nat → Prop} (h : xC p s m args meth c cT_append 2 (Cond.code yT_append cT_append 2 (some .boolean) :: wA) nW yT_append.cls (some .boolean) D clA (tysC ca) A) (N : Nat) (S : xSt) : xJ p l e rm_T_append s m args below meth c D clA (tysC ca) (cellsC ad ca) A true 2 28 [] [] S (f_T_append_28 N S) := by
  unfold f_T_append_28
  refine x_iconst (nx := 29) (v := (0 : Int32)) h dT_append_28 (by decide) rfl ?_
  exact x_zret h dT_append_29
set_option maxHeartbeats 4000000 in
set_option maxRecDepth 100000 in
theorem j_T_append_61 {l : Launch} {D : va_G} {ad : Nat → Nat} {ca : Nat → ClassId} {p : Program} {e : Env} {s : State} {m : MethodId} {args : Array Value} {below : List Frame} {meth : Method} {c : Code} {A : Nat → Prop} (h : xC p s m args meth c cT_append 2 (Cond.code yT_append cT_append 2 (some .boolean) :: wA) nW yT_append.cls (some .boolean) D clA (tysC ca) A) (N : Nat) (w1 w2 w3 : Int32) (S : xSt) : xJ p l e rm_T_append s m args below meth c D clA (tysC ca) (cellsC ad ca) A true 2 61 [(0, .ref (ad 4))] [.int w3, .int w2, .int w1, .ref (ad 9)] S (f_T_append_61 N w1 w2 w3 S) := by
  unfold f_T_append_61
  refine x_iadd (nx := 62) h dT_append_61 rfl ?_
  refine x_iast (nx := 63) h (aC_9 ad ca) dT_append_62 rfl (fun S1 => ?_)
  refine x_aload_n (nx := 64) (i := 0) h dT_append_63 rfl 0 rfl rfl ?_
  refine x_dup (nx := 65) h dT_append_64 rfl rfl ?_
  refine x_get (nx := 68) h (gC_4_1 ad ca _) (List.mem_cons_of_mem _ kT_13) dT_append_65 rfl ?_
  refine x_iconst (nx := 69) (v := (1 : Int32)) h dT_append_68 (by decide) rfl ?_
  refine x_iadd (nx := 70) h dT_append_69 rfl ?_
  refine x_put (nx := 73) h (pC_4_1 ad ca _) (List.mem_cons_of_mem _ kT_13) dT_append_70 rfl (fun S2 => ?_)
  refine x_iconst (nx := 74) (v := (1 : Int32)) h dT_append_73 (by decide) rfl ?_
  exact x_zret h dT_append_74
set_option maxHeartbeats 4000000 in
set_option maxRecDepth 100000 in
theorem m_T_append {l : Launch} {D : va_G} {ad : Nat → Nat} {ca : Nat → ClassId} (N : Nat) (a1 : Int32) (S : xSt) : xM l D clA (tysC ca) (cellsC ad ca) nW yT_append (Cond.code yT_append cT_append 2 (some .boolean) :: wA) rm_T_append true [.ref (ad 4), .int a1] S (f_T_append N a1 S) := by
  refine x_met (cc := cT_append) (maxL := 2) (ret := (some .boolean)) (by decide) rfl [.ref (ad 4), .int a1] (lv0 := [(0, .ref (ad 4)), (1, .int a1)]) (Nat.le_of_ble_eq_true rfl) rfl ?_
  intro p e s m args below meth c A h
  unfold f_T_append
  refine x_iload_n (nx := 1) (i := 1) h dT_append_0 rfl 1 rfl rfl ?_
  refine x_iconst (nx := 2) (v := (1 : Int32)) h dT_append_1 (by decide) rfl ?_
  refine x_icmp_lt (nx := 5) (tgt := 28) h dT_append_2 (by decide) rfl ?_ ?_
  · exact x_sub [] rfl (j_T_append_28 h N S)
  · refine x_iload_n (nx := 6) (i := 1) h dT_append_5 rfl 1 rfl rfl ?_
    refine x_sipush (nx := 9) (v := (10000 : Int32)) h dT_append_6 (by decide) rfl ?_
    refine x_icmp_gt (nx := 12) (tgt := 28) h dT_append_9 (by decide) rfl ?_ ?_
    · exact x_sub [] rfl (j_T_append_28 h N S)
    · refine x_aload_n (nx := 13) (i := 0) h dT_append_12 rfl 0 rfl rfl ?_
      refine x_get (nx := 16) h (gC_4_1 ad ca _) (List.mem_cons_of_mem _ kT_13) dT_append_13 rfl ?_
      refine x_bipush (nx := 18) (v := (40 : Int32)) h dT_append_16 (by decide) rfl ?_
      refine x_icmp_ge (nx := 21) (tgt := 28) h dT_append_18 (by decide) rfl ?_ ?_
      · exact x_sub [] rfl (j_T_append_28 h N S)
      · refine x_aload_n (nx := 22) (i := 0) h dT_append_21 rfl 0 rfl rfl ?_
        refine x_get (nx := 25) h (gC_4_4 ad ca _) (List.mem_cons_of_mem _ kT_17) dT_append_22 rfl ?_
        refine x_if_eq (nx := 28) (tgt := 30) h dT_append_25 (by decide) rfl ?_ ?_
        · refine x_aload_n (nx := 31) (i := 0) h dT_append_30 rfl 0 rfl rfl ?_
          refine x_get (nx := 34) h (gC_4_0 ad ca _) (List.mem_cons_of_mem _ kT_9) dT_append_31 rfl ?_
          refine x_aload_n (nx := 35) (i := 0) h dT_append_34 rfl 0 rfl rfl ?_
          refine x_get (nx := 38) h (gC_4_1 ad ca _) (List.mem_cons_of_mem _ kT_13) dT_append_35 rfl ?_
          refine x_iload_n (nx := 39) (i := 1) h dT_append_38 rfl 1 rfl rfl ?_
          refine x_aload_n (nx := 40) (i := 0) h dT_append_39 rfl 0 rfl rfl ?_
          refine x_get (nx := 43) h (gC_4_1 ad ca _) (List.mem_cons_of_mem _ kT_13) dT_append_40 rfl ?_
          refine x_if_ne (nx := 46) (tgt := 50) h dT_append_43 (by decide) rfl ?_ ?_
          · refine x_aload_n (nx := 51) (i := 0) h dT_append_50 rfl 0 rfl rfl ?_
            refine x_get (nx := 54) h (gC_4_0 ad ca _) (List.mem_cons_of_mem _ kT_9) dT_append_51 rfl ?_
            refine x_aload_n (nx := 55) (i := 0) h dT_append_54 rfl 0 rfl rfl ?_
            refine x_get (nx := 58) h (gC_4_1 ad ca _) (List.mem_cons_of_mem _ kT_13) dT_append_55 rfl ?_
            refine x_iconst (nx := 59) (v := (1 : Int32)) h dT_append_58 (by decide) rfl ?_
            refine x_isub (nx := 60) h dT_append_59 rfl ?_
            refine x_iald (nx := 61) h (aC_9 ad ca) dT_append_60 rfl (fun v1 => ?_)
            exact x_sub [0] rfl (j_T_append_61 h N (S 4 1) a1 v1 S)
          · refine x_iconst (nx := 47) (v := (0 : Int32)) h dT_append_46 (by decide) rfl ?_
            refine x_goto (tgt := 61) h dT_append_47 (by decide) ?_
            exact x_sub [0] rfl (j_T_append_61 h N (S 4 1) a1 (0 : Int32) S)
        · exact x_sub [] rfl (j_T_append_28 h N S)
set_option maxHeartbeats 4000000 in
set_option maxRecDepth 100000 in
theorem m_H_pulse {l : Launch} {D : va_G} {ad : Nat → Nat} {ca : Nat → ClassId} (N : Nat) (a1 : Int32) (S : xSt) : xM l D clA (tysC ca) (cellsC ad ca) nW yH_pulse (Cond.code yH_pulse cH_pulse 2 (some .boolean) :: wA) rm_H_pulse true [.ref (ad 0), .int a1] S (f_H_pulse N a1 S) := by
  refine x_met (cc := cH_pulse) (maxL := 2) (ret := (some .boolean)) (by decide) rfl [.ref (ad 0), .int a1] (lv0 := [(0, .ref (ad 0)), (1, .int a1)]) (Nat.le_of_ble_eq_true rfl) rfl ?_
  intro p e s m args below meth c A h
  unfold f_H_pulse
  refine x_aload_n (nx := 1) (i := 0) h dH_pulse_0 rfl 0 rfl rfl ?_
  refine x_get (nx := 4) h (gC_0_0 ad ca _) (List.mem_cons_of_mem _ kH_10) dH_pulse_1 rfl ?_
  refine x_getN (nx := 7) h (gC_1_3 ad ca _) kH_56 dH_pulse_4 rfl ?_
  refine x_aload_n (nx := 8) (i := 0) h dH_pulse_7 rfl 0 rfl rfl ?_
  refine x_get (nx := 11) h (gC_0_0 ad ca _) (List.mem_cons_of_mem _ kH_10) dH_pulse_8 rfl ?_
  refine x_getN (nx := 14) h (gC_1_4 ad ca _) kH_60 dH_pulse_11 rfl ?_
  refine x_cVv (nx := 17) (rest := []) (As := [.int (S 1 4)]) h (m_T_follow N (S 1 4) S) (x_wV h goA y_T_follow kH_64 ⟨by decide, by decide⟩ rfl rfl) (oC_4 ad ca) rfl rfl (Nat.le_of_ble_eq_true rfl) dH_pulse_14 rfl (fun v1 S2 => ?_)
  refine x_aload_n (nx := 18) (i := 0) h dH_pulse_17 rfl 0 rfl rfl ?_
  refine x_get (nx := 21) h (gC_0_0 ad ca _) (List.mem_cons_of_mem _ kH_10) dH_pulse_18 rfl ?_
  refine x_getN (nx := 24) h (gC_1_3 ad ca _) kH_56 dH_pulse_21 rfl ?_
  refine x_iload_n (nx := 25) (i := 1) h dH_pulse_24 rfl 1 rfl rfl ?_
  refine x_cVi (nx := 28) (rest := []) (As := [.int a1]) h (m_T_append N a1 S2) (x_wV h goA y_T_append kH_70 ⟨by decide, by decide⟩ rfl rfl) (oC_4 ad ca) rfl rfl (Nat.le_of_ble_eq_true rfl) dH_pulse_25 rfl (fun v3 S4 => ?_)
  exact x_zret h dH_pulse_28
set_option maxHeartbeats 4000000 in
set_option maxRecDepth 100000 in
theorem j_T_command_21 {l : Launch} {D : va_G} {ad : Nat → Nat} {ca : Nat → ClassId} {p : Program} {e : Env} {s : State} {m : MethodId} {args : Array Value} {below : List Frame} {meth : Method} {c : Code} {A : Nat → Prop} (h : xC p s m args meth c cT_command 3 (Cond.code yT_command cT_command 3 (some .boolean) :: wA) nW yT_command.cls (some .boolean) D clA (tysC ca) A) (N : Nat) (S : xSt) : xJ p l e rm_T_command s m args below meth c D clA (tysC ca) (cellsC ad ca) A true 3 21 [] [] S (f_T_command_21 N S) := by
  unfold f_T_command_21
  refine x_iconst (nx := 22) (v := (0 : Int32)) h dT_command_21 (by decide) rfl ?_
  exact x_zret h dT_command_22
set_option maxHeartbeats 4000000 in
set_option maxRecDepth 100000 in
theorem j_T_command_61 {l : Launch} {D : va_G} {ad : Nat → Nat} {ca : Nat → ClassId} {p : Program} {e : Env} {s : State} {m : MethodId} {args : Array Value} {below : List Frame} {meth : Method} {c : Code} {A : Nat → Prop} (h : xC p s m args meth c cT_command 3 (Cond.code yT_command cT_command 3 (some .boolean) :: wA) nW yT_command.cls (some .boolean) D clA (tysC ca) A) (N : Nat) (S : xSt) : xJ p l e rm_T_command s m args below meth c D clA (tysC ca) (cellsC ad ca) A true 3 61 [] [] S (f_T_command_61 N S) := by
  unfold f_T_command_61
  refine x_iconst (nx := 62) (v := (1 : Int32)) h dT_command_61 (by decide) rfl ?_
  exact x_zret h dT_command_62
set_option maxHeartbeats 4000000 in
set_option maxRecDepth 100000 in
theorem j_T_command_51 {l : Launch} {D : va_G} {ad : Nat → Nat} {ca : Nat → ClassId} {p : Program} {e : Env} {s : State} {m : MethodId} {args : Array Value} {below : List Frame} {meth : Method} {c : Code} {A : Nat → Prop} (h : xC p s m args meth c cT_command 3 (Cond.code yT_command cT_command 3 (some .boolean) :: wA) nW yT_command.cls (some .boolean) D clA (tysC ca) A) (N : Nat) (a1 : Int32) (S : xSt) : xJ p l e rm_T_command s m args below meth c D clA (tysC ca) (cellsC ad ca) A true 3 51 [(0, .ref (ad 4)), (1, .int a1)] [] S (f_T_command_51 N a1 S) := by
  unfold f_T_command_51
  refine x_iload_n (nx := 52) (i := 1) h dT_command_51 rfl 1 rfl rfl ?_
  refine x_iconst (nx := 53) (v := (2 : Int32)) h dT_command_52 (by decide) rfl ?_
  refine x_icmp_ne (nx := 56) (tgt := 61) h dT_command_53 (by decide) rfl ?_ ?_
  · exact x_sub [] rfl (j_T_command_61 h N S)
  · refine x_aload_n (nx := 57) (i := 0) h dT_command_56 rfl 0 rfl rfl ?_
    refine x_iconst (nx := 58) (v := (0 : Int32)) h dT_command_57 (by decide) rfl ?_
    refine x_put (nx := 61) h (pC_4_1 ad ca _) (List.mem_cons_of_mem _ kT_13) dT_command_58 rfl (fun S1 => ?_)
    exact x_sub [] rfl (j_T_command_61 h N S1)
set_option maxHeartbeats 4000000 in
set_option maxRecDepth 100000 in
theorem j_T_command_34 {l : Launch} {D : va_G} {ad : Nat → Nat} {ca : Nat → ClassId} {p : Program} {e : Env} {s : State} {m : MethodId} {args : Array Value} {below : List Frame} {meth : Method} {c : Code} {A : Nat → Prop} (h : xC p s m args meth c cT_command 3 (Cond.code yT_command cT_command 3 (some .boolean) :: wA) nW yT_command.cls (some .boolean) D clA (tysC ca) A) (N : Nat) (a1 a2 w1 : Int32) (S : xSt) : xJ p l e rm_T_command s m args below meth c D clA (tysC ca) (cellsC ad ca) A true 3 34 [(0, .ref (ad 4)), (1, .int a1), (2, .int a2)] [.int w1, .ref (ad 4)] S (f_T_command_34 N a1 a2 w1 S) := by
  unfold f_T_command_34
  refine x_putZ (nx := 37) h (pC_4_4 ad ca _) (List.mem_cons_of_mem _ kT_17) dT_command_34 rfl (fun S1 => ?_)
  refine x_iload_n (nx := 38) (i := 1) h dT_command_37 rfl 1 rfl rfl ?_
  refine x_if_eq (nx := 41) (tgt := 51) h dT_command_38 (by decide) rfl ?_ ?_
  · exact x_sub [0, 1] rfl (j_T_command_51 h N a1 S1)
  · refine x_aload_n (nx := 42) (i := 0) h dT_command_41 rfl 0 rfl rfl ?_
    refine x_iconst (nx := 43) (v := (0 : Int32)) h dT_command_42 (by decide) rfl ?_
    refine x_put (nx := 46) h (pC_4_3 ad ca _) (List.mem_cons_of_mem _ kT_21) dT_command_43 rfl (fun S2 => ?_)
    refine x_aload_n (nx := 47) (i := 0) h dT_command_46 rfl 0 rfl rfl ?_
    refine x_iload_n (nx := 48) (i := 2) h dT_command_47 rfl 2 rfl rfl ?_
    refine x_put (nx := 51) h (pC_4_2 ad ca _) (List.mem_cons_of_mem _ kT_24) dT_command_48 rfl (fun S3 => ?_)
    exact x_sub [0, 1] rfl (j_T_command_51 h N a1 S3)
set_option maxHeartbeats 4000000 in
set_option maxRecDepth 100000 in
theorem j_T_command_23 {l : Launch} {D : va_G} {ad : Nat → Nat} {ca : Nat → ClassId} {p : Program} {e : Env} {s : State} {m : MethodId} {args : Array Value} {below : List Frame} {meth : Method} {c : Code} {A : Nat → Prop} (h : xC p s m args meth c cT_command 3 (Cond.code yT_command cT_command 3 (some .boolean) :: wA) nW yT_command.cls (some .boolean) D clA (tysC ca) A) (N : Nat) (a1 a2 : Int32) (S : xSt) : xJ p l e rm_T_command s m args below meth c D clA (tysC ca) (cellsC ad ca) A true 3 23 [(0, .ref (ad 4)), (1, .int a1), (2, .int a2)] [] S (f_T_command_23 N a1 a2 S) := by
  unfold f_T_command_23
  refine x_aload_n (nx := 24) (i := 0) h dT_command_23 rfl 0 rfl rfl ?_
  refine x_iload_n (nx := 25) (i := 1) h dT_command_24 rfl 1 rfl rfl ?_
  refine x_iconst (nx := 26) (v := (1 : Int32)) h dT_command_25 (by decide) rfl ?_
  refine x_icmp_ne (nx := 29) (tgt := 33) h dT_command_26 (by decide) rfl ?_ ?_
  · refine x_iconst (nx := 34) (v := (0 : Int32)) h dT_command_33 (by decide) rfl ?_
    exact x_sub [0, 1, 2] rfl (j_T_command_34 h N a1 a2 (0 : Int32) S)
  · refine x_iconst (nx := 30) (v := (1 : Int32)) h dT_command_29 (by decide) rfl ?_
    refine x_goto (tgt := 34) h dT_command_30 (by decide) ?_
    exact x_sub [0, 1, 2] rfl (j_T_command_34 h N a1 a2 (1 : Int32) S)
set_option maxHeartbeats 4000000 in
set_option maxRecDepth 100000 in
theorem m_T_command {l : Launch} {D : va_G} {ad : Nat → Nat} {ca : Nat → ClassId} (N : Nat) (a1 a2 : Int32) (S : xSt) : xM l D clA (tysC ca) (cellsC ad ca) nW yT_command (Cond.code yT_command cT_command 3 (some .boolean) :: wA) rm_T_command true [.ref (ad 4), .int a1, .int a2] S (f_T_command N a1 a2 S) := by
  refine x_met (cc := cT_command) (maxL := 3) (ret := (some .boolean)) (by decide) rfl [.ref (ad 4), .int a1, .int a2] (lv0 := [(0, .ref (ad 4)), (1, .int a1), (2, .int a2)]) (Nat.le_of_ble_eq_true rfl) rfl ?_
  intro p e s m args below meth c A h
  unfold f_T_command
  refine x_iload_n (nx := 1) (i := 1) h dT_command_0 rfl 1 rfl rfl ?_
  refine x_if_lt (nx := 4) (tgt := 21) h dT_command_1 (by decide) rfl ?_ ?_
  · exact x_sub [] rfl (j_T_command_21 h N S)
  · refine x_iload_n (nx := 5) (i := 1) h dT_command_4 rfl 1 rfl rfl ?_
    refine x_iconst (nx := 6) (v := (2 : Int32)) h dT_command_5 (by decide) rfl ?_
    refine x_icmp_gt (nx := 9) (tgt := 21) h dT_command_6 (by decide) rfl ?_ ?_
    · exact x_sub [] rfl (j_T_command_21 h N S)
    · refine x_iload_n (nx := 10) (i := 1) h dT_command_9 rfl 1 rfl rfl ?_
      refine x_iconst (nx := 11) (v := (1 : Int32)) h dT_command_10 (by decide) rfl ?_
      refine x_icmp_ne (nx := 14) (tgt := 23) h dT_command_11 (by decide) rfl ?_ ?_
      · exact x_sub [0, 1, 2] rfl (j_T_command_23 h N a1 a2 S)
      · refine x_aload_n (nx := 15) (i := 0) h dT_command_14 rfl 0 rfl rfl ?_
        refine x_get (nx := 18) h (gC_4_1 ad ca _) (List.mem_cons_of_mem _ kT_13) dT_command_15 rfl ?_
        refine x_if_ne (nx := 21) (tgt := 23) h dT_command_18 (by decide) rfl ?_ ?_
        · exact x_sub [0, 1, 2] rfl (j_T_command_23 h N a1 a2 S)
        · exact x_sub [] rfl (j_T_command_21 h N S)
set_option maxHeartbeats 4000000 in
set_option maxRecDepth 100000 in
theorem m_H_tape {l : Launch} {D : va_G} {ad : Nat → Nat} {ca : Nat → ClassId} (N : Nat) (a1 : Int32) (S : xSt) : xM l D clA (tysC ca) (cellsC ad ca) nW yH_tape (Cond.code yH_tape cH_tape 2 (some .boolean) :: wA) rm_H_tape true [.ref (ad 0), .int a1] S (f_H_tape N a1 S) := by
  refine x_met (cc := cH_tape) (maxL := 2) (ret := (some .boolean)) (by decide) rfl [.ref (ad 0), .int a1] (lv0 := [(0, .ref (ad 0)), (1, .int a1)]) (Nat.le_of_ble_eq_true rfl) rfl ?_
  intro p e s m args below meth c A h
  unfold f_H_tape
  refine x_aload_n (nx := 1) (i := 0) h dH_tape_0 rfl 0 rfl rfl ?_
  refine x_get (nx := 4) h (gC_0_0 ad ca _) (List.mem_cons_of_mem _ kH_10) dH_tape_1 rfl ?_
  refine x_getN (nx := 7) h (gC_1_3 ad ca _) kH_56 dH_tape_4 rfl ?_
  refine x_aload_n (nx := 8) (i := 0) h dH_tape_7 rfl 0 rfl rfl ?_
  refine x_get (nx := 11) h (gC_0_0 ad ca _) (List.mem_cons_of_mem _ kH_10) dH_tape_8 rfl ?_
  refine x_getN (nx := 14) h (gC_1_4 ad ca _) kH_60 dH_tape_11 rfl ?_
  refine x_cVv (nx := 17) (rest := []) (As := [.int (S 1 4)]) h (m_T_follow N (S 1 4) S) (x_wV h goA y_T_follow kH_64 ⟨by decide, by decide⟩ rfl rfl) (oC_4 ad ca) rfl rfl (Nat.le_of_ble_eq_true rfl) dH_tape_14 rfl (fun v1 S2 => ?_)
  refine x_aload_n (nx := 18) (i := 0) h dH_tape_17 rfl 0 rfl rfl ?_
  refine x_get (nx := 21) h (gC_0_0 ad ca _) (List.mem_cons_of_mem _ kH_10) dH_tape_18 rfl ?_
  refine x_getN (nx := 24) h (gC_1_3 ad ca _) kH_56 dH_tape_21 rfl ?_
  refine x_iload_n (nx := 25) (i := 1) h dH_tape_24 rfl 1 rfl rfl ?_
  refine x_aload_n (nx := 26) (i := 0) h dH_tape_25 rfl 0 rfl rfl ?_
  refine x_get (nx := 29) h (gC_0_0 ad ca _) (List.mem_cons_of_mem _ kH_10) dH_tape_26 rfl ?_
  refine x_getN (nx := 32) h (gC_1_4 ad ca _) kH_60 dH_tape_29 rfl ?_
  refine x_cVi (nx := 35) (rest := []) (As := [.int a1, .int (S2 1 4)]) h (m_T_command N a1 (S2 1 4) S2) (x_wV h goA y_T_command kH_74 ⟨by decide, by decide⟩ rfl rfl) (oC_4 ad ca) rfl rfl (Nat.le_of_ble_eq_true rfl) dH_tape_32 rfl (fun v3 S4 => ?_)
  exact x_zret h dH_tape_35
set_option maxHeartbeats 4000000 in
set_option maxRecDepth 100000 in
theorem m_B_tickOfFrame {l : Launch} {D : va_G} {ad : Nat → Nat} {ca : Nat → ClassId} (N : Nat) (S : xSt) : xM l D clA (tysC ca) (cellsC ad ca) nW yB_tickOfFrame (Cond.code yB_tickOfFrame cB_tickOfFrame 1 (some .int) :: wA) rm_B_tickOfFrame true [.ref (ad 1)] S (f_B_tickOfFrame N S) := by
  refine x_met (cc := cB_tickOfFrame) (maxL := 1) (ret := (some .int)) (by decide) rfl [.ref (ad 1)] (lv0 := [(0, .ref (ad 1))]) (Nat.le_of_ble_eq_true rfl) rfl ?_
  intro p e s m args below meth c A h
  unfold f_B_tickOfFrame
  refine x_aload_n (nx := 1) (i := 0) h dB_tickOfFrame_0 rfl 0 rfl rfl ?_
  refine x_get (nx := 4) h (gC_1_4 ad ca _) (List.mem_cons_of_mem _ kB_30) dB_tickOfFrame_1 rfl ?_
  refine x_sipush (nx := 7) (v := (4095 : Int32)) h dB_tickOfFrame_4 (by decide) rfl ?_
  refine x_iand (nx := 8) h dB_tickOfFrame_7 rfl ?_
  exact x_iret h dB_tickOfFrame_8
set_option maxHeartbeats 4000000 in
set_option maxRecDepth 100000 in
theorem m_P_refresh {l : Launch} {D : va_G} {ad : Nat → Nat} {ca : Nat → ClassId} (N : Nat) (S : xSt) : xM l D clA (tysC ca) (cellsC ad ca) nW yP_refresh (Cond.code yP_refresh cP_refresh 2 none :: wA) rm_P_refresh false [.ref (ad 2)] S (f_P_refresh N S) := by
  refine x_met (cc := cP_refresh) (maxL := 2) (ret := none) (by decide) rfl [.ref (ad 2)] (lv0 := [(0, .ref (ad 2))]) (Nat.le_of_ble_eq_true rfl) rfl ?_
  intro p e s m args below meth c A h
  unfold f_P_refresh
  refine x_aload_n (nx := 1) (i := 0) h dP_refresh_0 rfl 0 rfl rfl ?_
  refine x_get (nx := 4) h (gC_2_2 ad ca _) (List.mem_cons_of_mem _ kP_20) dP_refresh_1 rfl ?_
  refine x_bipush (nx := 6) (v := (17 : Int32)) h dP_refresh_4 (by decide) rfl ?_
  refine x_iald (nx := 7) h (aC_10 ad ca) dP_refresh_6 rfl (fun v1 => ?_)
  refine x_istore_n (nx := 8) (i := 1) (lv' := [(1, .int v1), (0, .ref (ad 2))]) h dP_refresh_7 rfl (by decide) rfl rfl ?_
  refine x_aload_n (nx := 9) (i := 0) h dP_refresh_8 rfl 1 rfl rfl ?_
  refine x_get (nx := 12) h (gC_2_2 ad ca _) (List.mem_cons_of_mem _ kP_20) dP_refresh_9 rfl ?_
  refine x_bipush (nx := 14) (v := (17 : Int32)) h dP_refresh_12 (by decide) rfl ?_
  refine x_iload_n (nx := 15) (i := 1) h dP_refresh_14 rfl 0 rfl rfl ?_
  refine x_sipush (nx := 18) (v := (128 : Int32)) h dP_refresh_15 (by decide) rfl ?_
  refine x_iand (nx := 19) h dP_refresh_18 rfl ?_
  refine x_iload_n (nx := 20) (i := 1) h dP_refresh_19 rfl 0 rfl rfl ?_
  refine x_iconst (nx := 21) (v := (1 : Int32)) h dP_refresh_20 (by decide) rfl ?_
  refine x_iadd (nx := 22) h dP_refresh_21 rfl ?_
  refine x_bipush (nx := 24) (v := (127 : Int32)) h dP_refresh_22 (by decide) rfl ?_
  refine x_iand (nx := 25) h dP_refresh_24 rfl ?_
  refine x_ior (nx := 26) h dP_refresh_25 rfl ?_
  refine x_iast (nx := 27) h (aC_10 ad ca) dP_refresh_26 rfl (fun S2 => ?_)
  exact x_vret h dP_refresh_27
set_option maxHeartbeats 4000000 in
set_option maxRecDepth 100000 in
theorem j_B_pass_48 {l : Launch} {D : va_G} {ad : Nat → Nat} {ca : Nat → ClassId} {p : Program} {e : Env} {s : State} {m : MethodId} {args : Array Value} {below : List Frame} {meth : Method} {c : Code} {A : Nat → Prop} (h : xC p s m args meth c cB_pass 3 (Cond.code yB_pass cB_pass 3 none :: wA) nW yB_pass.cls none D clA (tysC ca) A) (N : Nat) (S : xSt) : xJ p l e rm_B_pass s m args below meth c D clA (tysC ca) (cellsC ad ca) A false 3 48 [] [] S (f_B_pass_48 N S) := by
  unfold f_B_pass_48
  exact x_vret h dB_pass_48
set_option maxHeartbeats 4000000 in
set_option maxRecDepth 100000 in
theorem m_B_pass {l : Launch} {D : va_G} {ad : Nat → Nat} {ca : Nat → ClassId} (N : Nat) (a1 : Int32) (S : xSt) : xM l D clA (tysC ca) (cellsC ad ca) nW yB_pass (Cond.code yB_pass cB_pass 3 none :: wA) rm_B_pass false [.ref (ad 1), .int a1] S (f_B_pass N a1 S) := by
  refine x_met (cc := cB_pass) (maxL := 3) (ret := none) (by decide) rfl [.ref (ad 1), .int a1] (lv0 := [(0, .ref (ad 1)), (1, .int a1)]) (Nat.le_of_ble_eq_true rfl) rfl ?_
  intro p e s m args below meth c A h
  unfold f_B_pass
  refine x_aload_n (nx := 1) (i := 0) h dB_pass_0 rfl 0 rfl rfl ?_
  refine x_get (nx := 4) h (gC_1_4 ad ca _) (List.mem_cons_of_mem _ kB_30) dB_pass_1 rfl ?_
  refine x_bipush (nx := 6) (v := (6 : Int32)) h dB_pass_4 (by decide) rfl ?_
  refine x_ishr (nx := 7) h dB_pass_6 rfl ?_
  refine x_val (fun b1 => ?_)
  refine x_istore_n (nx := 8) (i := 2) (lv' := [(2, .int b1), (0, .ref (ad 1)), (1, .int a1)]) h dB_pass_7 rfl (by decide) rfl rfl ?_
  refine x_aload_n (nx := 9) (i := 0) h dB_pass_8 rfl 1 rfl rfl ?_
  refine x_dup (nx := 10) h dB_pass_9 rfl rfl ?_
  refine x_get (nx := 13) h (gC_1_4 ad ca _) (List.mem_cons_of_mem _ kB_30) dB_pass_10 rfl ?_
  refine x_iload_n (nx := 14) (i := 1) h dB_pass_13 rfl 2 rfl rfl ?_
  refine x_iadd (nx := 15) h dB_pass_14 rfl ?_
  refine x_put (nx := 18) h (pC_1_4 ad ca _) (List.mem_cons_of_mem _ kB_30) dB_pass_15 rfl (fun S2 => ?_)
  refine x_aload_n (nx := 19) (i := 0) h dB_pass_18 rfl 1 rfl rfl ?_
  refine x_get (nx := 22) h (gC_1_4 ad ca _) (List.mem_cons_of_mem _ kB_30) dB_pass_19 rfl ?_
  refine x_bipush (nx := 24) (v := (6 : Int32)) h dB_pass_22 (by decide) rfl ?_
  refine x_ishr (nx := 25) h dB_pass_24 rfl ?_
  refine x_iload_n (nx := 26) (i := 2) h dB_pass_25 rfl 0 rfl rfl ?_
  refine x_icmp_eq (nx := 29) (tgt := 48) h dB_pass_26 (by decide) rfl ?_ ?_
  · exact x_sub [] rfl (j_B_pass_48 h N S2)
  · refine x_aload_n (nx := 30) (i := 0) h dB_pass_29 rfl 1 rfl rfl ?_
    refine x_get (nx := 33) h (gC_1_1 ad ca _) (List.mem_cons_of_mem _ kB_13) dB_pass_30 rfl ?_
    refine x_aload_n (nx := 34) (i := 0) h dB_pass_33 rfl 1 rfl rfl ?_
    refine x_get (nx := 37) h (gC_1_4 ad ca _) (List.mem_cons_of_mem _ kB_30) dB_pass_34 rfl ?_
    refine x_bipush (nx := 39) (v := (6 : Int32)) h dB_pass_37 (by decide) rfl ?_
    refine x_ishr (nx := 40) h dB_pass_39 rfl ?_
    refine x_bipush (nx := 42) (v := (63 : Int32)) h dB_pass_40 (by decide) rfl ?_
    refine x_iand (nx := 43) h dB_pass_42 rfl ?_
    refine x_aload_n (nx := 44) (i := 0) h dB_pass_43 rfl 1 rfl rfl ?_
    refine x_get (nx := 47) h (gC_1_5 ad ca _) (List.mem_cons_of_mem _ kB_34) dB_pass_44 rfl ?_
    refine x_iast (nx := 48) h (aC_7 ad ca) dB_pass_47 rfl (fun S3 => ?_)
    exact x_sub [] rfl (j_B_pass_48 h N S3)
set_option maxHeartbeats 4000000 in
set_option maxRecDepth 100000 in
theorem j_B_isShared_16 {l : Launch} {D : va_G} {ad : Nat → Nat} {ca : Nat → ClassId} {p : Program} {e : Env} {s : State} {m : MethodId} {args : Array Value} {below : List Frame} {meth : Method} {c : Code} {A : Nat → Prop} (h : xC p s m args meth c cB_isShared 1 (Cond.code yB_isShared cB_isShared 1 (some .boolean) :: wA) nW yB_isShared.cls (some .boolean) D clA (tysC ca) A) (N : Nat) (w0 : Int32) (S : xSt) : xJ p l e rm_B_isShared s m args below meth c D clA (tysC ca) (cellsC ad ca) A true 1 16 [] [.int w0] S (f_B_isShared_16 N w0 S) := by
  unfold f_B_isShared_16
  exact x_zret h dB_isShared_16
set_option maxHeartbeats 4000000 in
set_option maxRecDepth 100000 in
theorem m_B_isShared {l : Launch} {D : va_G} {ad : Nat → Nat} {ca : Nat → ClassId} (N : Nat) (a0 : Int32) (S : xSt) : xM l D clA (tysC ca) (cellsC ad ca) nW yB_isShared (Cond.code yB_isShared cB_isShared 1 (some .boolean) :: wA) rm_B_isShared true [.int a0] S (f_B_isShared N a0 S) := by
  refine x_met (cc := cB_isShared) (maxL := 1) (ret := (some .boolean)) (by decide) rfl [.int a0] (lv0 := [(0, .int a0)]) (Nat.le_of_ble_eq_true rfl) rfl ?_
  intro p e s m args below meth c A h
  unfold f_B_isShared
  refine x_iload_n (nx := 1) (i := 0) h dB_isShared_0 rfl 0 rfl rfl ?_
  refine x_sipush (nx := 4) (v := (3072 : Int32)) h dB_isShared_1 (by decide) rfl ?_
  refine x_iand (nx := 5) h dB_isShared_4 rfl ?_
  refine x_sipush (nx := 8) (v := (1024 : Int32)) h dB_isShared_5 (by decide) rfl ?_
  refine x_icmp_ne (nx := 11) (tgt := 15) h dB_isShared_8 (by decide) rfl ?_ ?_
  · refine x_iconst (nx := 16) (v := (0 : Int32)) h dB_isShared_15 (by decide) rfl ?_
    exact x_sub [] rfl (j_B_isShared_16 h N (0 : Int32) S)
  · refine x_iconst (nx := 12) (v := (1 : Int32)) h dB_isShared_11 (by decide) rfl ?_
    refine x_goto (tgt := 16) h dB_isShared_12 (by decide) ?_
    exact x_sub [] rfl (j_B_isShared_16 h N (1 : Int32) S)
set_option maxHeartbeats 4000000 in
set_option maxRecDepth 100000 in
theorem j_B_delay_75 {l : Launch} {D : va_G} {ad : Nat → Nat} {ca : Nat → ClassId} {p : Program} {e : Env} {s : State} {m : MethodId} {args : Array Value} {below : List Frame} {meth : Method} {c : Code} {A : Nat → Prop} (h : xC p s m args meth c cB_delay 4 (Cond.code yB_delay cB_delay 4 (some .int) :: wA) nW yB_delay.cls (some .int) D clA (tysC ca) A) (N : Nat) (w0 : Int32) (S : xSt) : xJ p l e rm_B_delay s m args below meth c D clA (tysC ca) (cellsC ad ca) A true 4 75 [] [.int w0] S (f_B_delay_75 N w0 S) := by
  unfold f_B_delay_75
  exact x_iret h dB_delay_75
set_option maxHeartbeats 4000000 in
set_option maxRecDepth 100000 in
theorem j_B_delay_74 {l : Launch} {D : va_G} {ad : Nat → Nat} {ca : Nat → ClassId} {p : Program} {e : Env} {s : State} {m : MethodId} {args : Array Value} {below : List Frame} {meth : Method} {c : Code} {A : Nat → Prop} (h : xC p s m args meth c cB_delay 4 (Cond.code yB_delay cB_delay 4 (some .int) :: wA) nW yB_delay.cls (some .int) D clA (tysC ca) A) (N : Nat) (S : xSt) : xJ p l e rm_B_delay s m args below meth c D clA (tysC ca) (cellsC ad ca) A true 4 74 [] [] S (f_B_delay_74 N S) := by
  unfold f_B_delay_74
  refine x_iconst (nx := 75) (v := (0 : Int32)) h dB_delay_74 (by decide) rfl ?_
  exact x_sub [] rfl (j_B_delay_75 h N (0 : Int32) S)
set_option maxHeartbeats 4000000 in
set_option maxRecDepth 100000 in
theorem j_B_delay_44 {l : Launch} {D : va_G} {ad : Nat → Nat} {ca : Nat → ClassId} {p : Program} {e : Env} {s : State} {m : MethodId} {args : Array Value} {below : List Frame} {meth : Method} {c : Code} {A : Nat → Prop} (h : xC p s m args meth c cB_delay 4 (Cond.code yB_delay cB_delay 4 (some .int) :: wA) nW yB_delay.cls (some .int) D clA (tysC ca) A) (N : Nat) (w0 : Int32) (S : xSt) : xJ p l e rm_B_delay s m args below meth c D clA (tysC ca) (cellsC ad ca) A true 4 44 [(0, .ref (ad 1))] [.int w0] S (f_B_delay_44 N w0 S) := by
  unfold f_B_delay_44
  refine x_istore_n (nx := 45) (i := 3) (lv' := [(3, .int w0), (0, .ref (ad 1))]) h dB_delay_44 rfl (by decide) rfl rfl ?_
  refine x_iload_n (nx := 46) (i := 3) h dB_delay_45 rfl 0 rfl rfl ?_
  refine x_if_eq (nx := 49) (tgt := 74) h dB_delay_46 (by decide) rfl ?_ ?_
  · exact x_sub [] rfl (j_B_delay_74 h N S)
  · refine x_aload_n (nx := 50) (i := 0) h dB_delay_49 rfl 1 rfl rfl ?_
    refine x_get (nx := 53) h (gC_1_4 ad ca _) (List.mem_cons_of_mem _ kB_30) dB_delay_50 rfl ?_
    refine x_bipush (nx := 55) (v := (7 : Int32)) h dB_delay_53 (by decide) rfl ?_
    refine x_iand (nx := 56) h dB_delay_55 rfl ?_
    refine x_bipush (nx := 58) (v := (6 : Int32)) h dB_delay_56 (by decide) rfl ?_
    refine x_icmp_ge (nx := 61) (tgt := 74) h dB_delay_58 (by decide) rfl ?_ ?_
    · exact x_sub [] rfl (j_B_delay_74 h N S)
    · refine x_bipush (nx := 63) (v := (6 : Int32)) h dB_delay_61 (by decide) rfl ?_
      refine x_aload_n (nx := 64) (i := 0) h dB_delay_63 rfl 1 rfl rfl ?_
      refine x_get (nx := 67) h (gC_1_4 ad ca _) (List.mem_cons_of_mem _ kB_30) dB_delay_64 rfl ?_
      refine x_bipush (nx := 69) (v := (7 : Int32)) h dB_delay_67 (by decide) rfl ?_
      refine x_iand (nx := 70) h dB_delay_69 rfl ?_
      refine x_isub (nx := 71) h dB_delay_70 rfl ?_
      refine x_goto (tgt := 75) h dB_delay_71 (by decide) ?_
      exact x_sub [] rfl (j_B_delay_75 h N ((6 : Int32) - ((S 1 4) &&& (7 : Int32))) S)
set_option maxHeartbeats 4000000 in
set_option maxRecDepth 100000 in
theorem j_B_delay_43 {l : Launch} {D : va_G} {ad : Nat → Nat} {ca : Nat → ClassId} {p : Program} {e : Env} {s : State} {m : MethodId} {args : Array Value} {below : List Frame} {meth : Method} {c : Code} {A : Nat → Prop} (h : xC p s m args meth c cB_delay 4 (Cond.code yB_delay cB_delay 4 (some .int) :: wA) nW yB_delay.cls (some .int) D clA (tysC ca) A) (N : Nat) (S : xSt) : xJ p l e rm_B_delay s m args below meth c D clA (tysC ca) (cellsC ad ca) A true 4 43 [(0, .ref (ad 1))] [] S (f_B_delay_43 N S) := by
  unfold f_B_delay_43
  refine x_iconst (nx := 44) (v := (0 : Int32)) h dB_delay_43 (by decide) rfl ?_
  exact x_sub [0] rfl (j_B_delay_44 h N (0 : Int32) S)
set_option maxHeartbeats 4000000 in
set_option maxRecDepth 100000 in
theorem m_B_delay {l : Launch} {D : va_G} {ad : Nat → Nat} {ca : Nat → ClassId} (N : Nat) (a1 : Int32) (S : xSt) : xM l D clA (tysC ca) (cellsC ad ca) nW yB_delay (Cond.code yB_delay cB_delay 4 (some .int) :: wA) rm_B_delay true [.ref (ad 1), .int a1] S (f_B_delay N a1 S) := by
  refine x_met (cc := cB_delay) (maxL := 4) (ret := (some .int)) (by decide) rfl [.ref (ad 1), .int a1] (lv0 := [(0, .ref (ad 1)), (1, .int a1)]) (Nat.le_of_ble_eq_true rfl) rfl ?_
  intro p e s m args below meth c A h
  unfold f_B_delay
  refine x_aload_n (nx := 1) (i := 0) h dB_delay_0 rfl 0 rfl rfl ?_
  refine x_get (nx := 4) h (gC_1_4 ad ca _) (List.mem_cons_of_mem _ kB_30) dB_delay_1 rfl ?_
  refine x_bipush (nx := 6) (v := (6 : Int32)) h dB_delay_4 (by decide) rfl ?_
  refine x_ishr (nx := 7) h dB_delay_6 rfl ?_
  refine x_bipush (nx := 9) (v := (63 : Int32)) h dB_delay_7 (by decide) rfl ?_
  refine x_iand (nx := 10) h dB_delay_9 rfl ?_
  refine x_val (fun b1 => ?_)
  refine x_istore_n (nx := 11) (i := 2) (lv' := [(2, .int b1), (0, .ref (ad 1)), (1, .int a1)]) h dB_delay_10 rfl (by decide) rfl rfl ?_
  refine x_iload_n (nx := 12) (i := 1) h dB_delay_11 rfl 2 rfl rfl ?_
  refine x_if_eq (nx := 15) (tgt := 43) h dB_delay_12 (by decide) rfl ?_ ?_
  · exact x_sub [1] rfl (j_B_delay_43 h N S)
  · refine x_iload_n (nx := 16) (i := 2) h dB_delay_15 rfl 0 rfl rfl ?_
    refine x_bipush (nx := 18) (v := (16 : Int32)) h dB_delay_16 (by decide) rfl ?_
    refine x_icmp_lt (nx := 21) (tgt := 43) h dB_delay_18 (by decide) rfl ?_ ?_
    · exact x_sub [1] rfl (j_B_delay_43 h N S)
    · refine x_iload_n (nx := 22) (i := 2) h dB_delay_21 rfl 0 rfl rfl ?_
      refine x_bipush (nx := 24) (v := (47 : Int32)) h dB_delay_22 (by decide) rfl ?_
      refine x_icmp_gt (nx := 27) (tgt := 43) h dB_delay_24 (by decide) rfl ?_ ?_
      · exact x_sub [1] rfl (j_B_delay_43 h N S)
      · refine x_aload_n (nx := 28) (i := 0) h dB_delay_27 rfl 1 rfl rfl ?_
        refine x_get (nx := 31) h (gC_1_4 ad ca _) (List.mem_cons_of_mem _ kB_30) dB_delay_28 rfl ?_
        refine x_bipush (nx := 33) (v := (63 : Int32)) h dB_delay_31 (by decide) rfl ?_
        refine x_iand (nx := 34) h dB_delay_33 rfl ?_
        refine x_bipush (nx := 36) (v := (32 : Int32)) h dB_delay_34 (by decide) rfl ?_
        refine x_icmp_ge (nx := 39) (tgt := 43) h dB_delay_36 (by decide) rfl ?_ ?_
        · exact x_sub [1] rfl (j_B_delay_43 h N S)
        · refine x_iconst (nx := 40) (v := (1 : Int32)) h dB_delay_39 (by decide) rfl ?_
          refine x_goto (tgt := 44) h dB_delay_40 (by decide) ?_
          exact x_sub [1] rfl (j_B_delay_44 h N (1 : Int32) S)
set_option maxHeartbeats 4000000 in
set_option maxRecDepth 100000 in
theorem j_B_write_31 {l : Launch} {D : va_G} {ad : Nat → Nat} {ca : Nat → ClassId} {p : Program} {e : Env} {s : State} {m : MethodId} {args : Array Value} {below : List Frame} {meth : Method} {c : Code} {A : Nat → Prop} (h : xC p s m args meth c cB_write 3 (Cond.code yB_write cB_write 3 none :: wA) nW yB_write.cls none D clA (tysC ca) A) (N : Nat) (S : xSt) : xJ p l e rm_B_write s m args below meth c D clA (tysC ca) (cellsC ad ca) A false 3 31 [] [] S (f_B_write_31 N S) := by
  unfold f_B_write_31
  exact x_vret h dB_write_31
set_option maxHeartbeats 4000000 in
set_option maxRecDepth 100000 in
theorem m_B_write {l : Launch} {D : va_G} {ad : Nat → Nat} {ca : Nat → ClassId} (N : Nat) (a1 a2 : Int32) (S : xSt) : xM l D clA (tysC ca) (cellsC ad ca) nW yB_write (Cond.code yB_write cB_write 3 none :: wA) rm_B_write false [.ref (ad 1), .int a1, .int a2] S (f_B_write N a1 a2 S) := by
  refine x_met (cc := cB_write) (maxL := 3) (ret := none) (by decide) rfl [.ref (ad 1), .int a1, .int a2] (lv0 := [(0, .ref (ad 1)), (1, .int a1), (2, .int a2)]) (Nat.le_of_ble_eq_true rfl) rfl ?_
  intro p e s m args below meth c A h
  unfold f_B_write
  refine x_aload_n (nx := 1) (i := 0) h dB_write_0 rfl 0 rfl rfl ?_
  refine x_aload_n (nx := 2) (i := 0) h dB_write_1 rfl 0 rfl rfl ?_
  refine x_iload_n (nx := 3) (i := 1) h dB_write_2 rfl 1 rfl rfl ?_
  refine x_cSi (nx := 6) (rest := [.ref (ad 1), .ref (ad 1)]) (As := [.int a1]) h (m_B_isShared N a1 S) (x_wS h goA y_B_isShared kB_37 ⟨by decide, by decide⟩ rfl rfl) rfl rfl (Nat.le_of_ble_eq_true rfl) dB_write_3 rfl (fun v1 S2 => ?_)
  refine x_cVi (nx := 9) (rest := [.ref (ad 1)]) (As := [.int v1]) h (m_B_delay N v1 S2) (x_wV h goA y_B_delay kB_41 ⟨by decide, by decide⟩ rfl rfl) (oC_1 ad ca) rfl rfl (Nat.le_of_ble_eq_true rfl) dB_write_6 rfl (fun v3 S4 => ?_)
  refine x_iconst (nx := 10) (v := (3 : Int32)) h dB_write_9 (by decide) rfl ?_
  refine x_iadd (nx := 11) h dB_write_10 rfl ?_
  refine x_cVv (nx := 14) (rest := []) (As := [.int (v3 + (3 : Int32))]) h (m_B_pass N (v3 + (3 : Int32)) S4) (x_wV h goA y_B_pass kB_45 ⟨by decide, by decide⟩ rfl rfl) (oC_1 ad ca) rfl rfl (Nat.le_of_ble_eq_true rfl) dB_write_11 rfl (fun v5 S6 => ?_)
  refine x_iload_n (nx := 15) (i := 1) h dB_write_14 rfl 1 rfl rfl ?_
  refine x_sipush (nx := 18) (v := (4095 : Int32)) h dB_write_15 (by decide) rfl ?_
  refine x_iand (nx := 19) h dB_write_18 rfl ?_
  refine x_sipush (nx := 22) (v := (1024 : Int32)) h dB_write_19 (by decide) rfl ?_
  refine x_icmp_lt (nx := 25) (tgt := 31) h dB_write_22 (by decide) rfl ?_ ?_
  · exact x_sub [] rfl (j_B_write_31 h N S6)
  · refine x_aload_n (nx := 26) (i := 0) h dB_write_25 rfl 0 rfl rfl ?_
    refine x_iload_n (nx := 27) (i := 1) h dB_write_26 rfl 1 rfl rfl ?_
    refine x_iload_n (nx := 28) (i := 2) h dB_write_27 rfl 2 rfl rfl ?_
    refine x_cVv (nx := 31) (rest := []) (As := [.int a1, .int a2]) h (m_B_place N a1 a2 S6) (x_wV h goA y_B_place kB_53 ⟨by decide, by decide⟩ rfl rfl) (oC_1 ad ca) rfl rfl (Nat.le_of_ble_eq_true rfl) dB_write_28 rfl (fun v7 S8 => ?_)
    exact x_sub [] rfl (j_B_write_31 h N S8)
