set_option maxHeartbeats 4000000 in
set_option maxRecDepth 100000 in
theorem j_M_pulse_32 {l : Launch} {D : va_G} {ad : Nat → Nat} {ca : Nat → ClassId} {p : Program} {e : Env} {s : State} {m : MethodId} {args : Array Value} {below : List Frame} {meth : Method} {c : Code} {A : Nat → Prop} (h : xC p s m args meth c cM_pulse 2 (Cond.code yM_pulse cM_pulse 2 (some .boolean) :: wA) nW yM_pulse.cls (some .boolean) D clA (tysM ca) A) (N : Nat) (S : xSt) : xJ p l e rm_M_pulse s m args below meth c D clA (tysM ca) (cellsM ad ca) A true 2 32 [] [] S (f_M_pulse_32 N S) := by
  unfold f_M_pulse_32
  refine x_iconst (nx := 33) (v := (0 : Int32)) h dM_pulse_32 (by decide) rfl ?_
  exact x_zret h dM_pulse_33
set_option maxHeartbeats 4000000 in
set_option maxRecDepth 100000 in
theorem m_M_pulse {l : Launch} {D : va_G} {ad : Nat → Nat} {ca : Nat → ClassId} (N : Nat) (a1 : Int32) (S : xSt) : xM l D clA (tysM ca) (cellsM ad ca) nW yM_pulse (Cond.code yM_pulse cM_pulse 2 (some .boolean) :: wA) rm_M_pulse true [.ref (ad 0), .int a1] S (f_M_pulse N a1 S) := by
  refine x_met (cc := cM_pulse) (maxL := 2) (ret := (some .boolean)) (by decide) rfl [.ref (ad 0), .int a1] (lv0 := [(0, .ref (ad 0)), (1, .int a1)]) (Nat.le_of_ble_eq_true rfl) rfl ?_
  intro p e s m args below meth c A h
  unfold f_M_pulse
  refine x_aload_n (nx := 1) (i := 0) h dM_pulse_0 rfl 0 rfl rfl ?_
  refine x_cVv (nx := 4) (rest := []) (As := []) h (m_M_play N S) (x_wV h goA y_M_play kM_134 ⟨by decide, by decide⟩ rfl rfl) (oM_0 ad ca) rfl rfl (Nat.le_of_ble_eq_true rfl) dM_pulse_1 rfl (fun v1 S2 => ?_)
  refine x_iload_n (nx := 5) (i := 1) h dM_pulse_4 rfl 1 rfl rfl ?_
  refine x_iconst (nx := 6) (v := (1 : Int32)) h dM_pulse_5 (by decide) rfl ?_
  refine x_icmp_lt (nx := 9) (tgt := 32) h dM_pulse_6 (by decide) rfl ?_ ?_
  · exact x_sub [] rfl (j_M_pulse_32 h N S2)
  · refine x_iload_n (nx := 10) (i := 1) h dM_pulse_9 rfl 1 rfl rfl ?_
    refine x_sipush (nx := 13) (v := (10000 : Int32)) h dM_pulse_10 (by decide) rfl ?_
    refine x_icmp_gt (nx := 16) (tgt := 32) h dM_pulse_13 (by decide) rfl ?_ ?_
    · exact x_sub [] rfl (j_M_pulse_32 h N S2)
    · refine x_aload_n (nx := 17) (i := 0) h dM_pulse_16 rfl 0 rfl rfl ?_
      refine x_get (nx := 20) h (gM_0_16 ad ca _) (List.mem_cons_of_mem _ kM_123) dM_pulse_17 rfl ?_
      refine x_bipush (nx := 22) (v := (40 : Int32)) h dM_pulse_20 (by decide) rfl ?_
      refine x_icmp_eq (nx := 25) (tgt := 32) h dM_pulse_22 (by decide) rfl ?_ ?_
      · exact x_sub [] rfl (j_M_pulse_32 h N S2)
      · refine x_aload_n (nx := 26) (i := 0) h dM_pulse_25 rfl 0 rfl rfl ?_
        refine x_get (nx := 29) h (gM_0_18 ad ca _) (List.mem_cons_of_mem _ kM_126) dM_pulse_26 rfl ?_
        refine x_if_eq (nx := 32) (tgt := 34) h dM_pulse_29 (by decide) rfl ?_ ?_
        · refine x_aload_n (nx := 35) (i := 0) h dM_pulse_34 rfl 0 rfl rfl ?_
          refine x_get (nx := 38) h (gM_0_17 ad ca _) (List.mem_cons_of_mem _ kM_23) dM_pulse_35 rfl ?_
          refine x_aload_n (nx := 39) (i := 0) h dM_pulse_38 rfl 0 rfl rfl ?_
          refine x_get (nx := 42) h (gM_0_16 ad ca _) (List.mem_cons_of_mem _ kM_123) dM_pulse_39 rfl ?_
          refine x_iload_n (nx := 43) (i := 1) h dM_pulse_42 rfl 1 rfl rfl ?_
          refine x_iast (nx := 44) h (aM_5 ad ca) dM_pulse_43 rfl (fun S3 => ?_)
          refine x_aload_n (nx := 45) (i := 0) h dM_pulse_44 rfl 0 rfl rfl ?_
          refine x_dup (nx := 46) h dM_pulse_45 rfl rfl ?_
          refine x_get (nx := 49) h (gM_0_16 ad ca _) (List.mem_cons_of_mem _ kM_123) dM_pulse_46 rfl ?_
          refine x_iconst (nx := 50) (v := (1 : Int32)) h dM_pulse_49 (by decide) rfl ?_
          refine x_iadd (nx := 51) h dM_pulse_50 rfl ?_
          refine x_put (nx := 54) h (pM_0_16 ad ca _) (List.mem_cons_of_mem _ kM_123) dM_pulse_51 rfl (fun S4 => ?_)
          refine x_iconst (nx := 55) (v := (1 : Int32)) h dM_pulse_54 (by decide) rfl ?_
          exact x_zret h dM_pulse_55
        · exact x_sub [] rfl (j_M_pulse_32 h N S2)
set_option maxHeartbeats 4000000 in
set_option maxRecDepth 100000 in
theorem j_M_tape_25 {l : Launch} {D : va_G} {ad : Nat → Nat} {ca : Nat → ClassId} {p : Program} {e : Env} {s : State} {m : MethodId} {args : Array Value} {below : List Frame} {meth : Method} {c : Code} {A : Nat → Prop} (h : xC p s m args meth c cM_tape 2 (Cond.code yM_tape cM_tape 2 (some .boolean) :: wA) nW yM_tape.cls (some .boolean) D clA (tysM ca) A) (N : Nat) (S : xSt) : xJ p l e rm_M_tape s m args below meth c D clA (tysM ca) (cellsM ad ca) A true 2 25 [] [] S (f_M_tape_25 N S) := by
  unfold f_M_tape_25
  refine x_iconst (nx := 26) (v := (0 : Int32)) h dM_tape_25 (by decide) rfl ?_
  exact x_zret h dM_tape_26
set_option maxHeartbeats 4000000 in
set_option maxRecDepth 100000 in
theorem j_M_tape_79 {l : Launch} {D : va_G} {ad : Nat → Nat} {ca : Nat → ClassId} {p : Program} {e : Env} {s : State} {m : MethodId} {args : Array Value} {below : List Frame} {meth : Method} {c : Code} {A : Nat → Prop} (h : xC p s m args meth c cM_tape 2 (Cond.code yM_tape cM_tape 2 (some .boolean) :: wA) nW yM_tape.cls (some .boolean) D clA (tysM ca) A) (N : Nat) (w1 : Int32) (S : xSt) : xJ p l e rm_M_tape s m args below meth c D clA (tysM ca) (cellsM ad ca) A true 2 79 [] [.int w1, .ref (ad 0)] S (f_M_tape_79 N w1 S) := by
  unfold f_M_tape_79
  refine x_put (nx := 82) h (pM_0_16 ad ca _) (List.mem_cons_of_mem _ kM_123) dM_tape_79 rfl (fun S1 => ?_)
  refine x_iconst (nx := 83) (v := (1 : Int32)) h dM_tape_82 (by decide) rfl ?_
  exact x_zret h dM_tape_83
set_option maxHeartbeats 4000000 in
set_option maxRecDepth 100000 in
theorem j_M_tape_62 {l : Launch} {D : va_G} {ad : Nat → Nat} {ca : Nat → ClassId} {p : Program} {e : Env} {s : State} {m : MethodId} {args : Array Value} {below : List Frame} {meth : Method} {c : Code} {A : Nat → Prop} (h : xC p s m args meth c cM_tape 2 (Cond.code yM_tape cM_tape 2 (some .boolean) :: wA) nW yM_tape.cls (some .boolean) D clA (tysM ca) A) (N : Nat) (a1 w1 : Int32) (S : xSt) : xJ p l e rm_M_tape s m args below meth c D clA (tysM ca) (cellsM ad ca) A true 2 62 [(0, .ref (ad 0)), (1, .int a1)] [.int w1, .ref (ad 0)] S (f_M_tape_62 N a1 w1 S) := by
  unfold f_M_tape_62
  refine x_put (nx := 65) h (pM_0_20 ad ca _) (List.mem_cons_of_mem _ kM_131) dM_tape_62 rfl (fun S1 => ?_)
  refine x_aload_n (nx := 66) (i := 0) h dM_tape_65 rfl 0 rfl rfl ?_
  refine x_iload_n (nx := 67) (i := 1) h dM_tape_66 rfl 1 rfl rfl ?_
  refine x_iconst (nx := 68) (v := (2 : Int32)) h dM_tape_67 (by decide) rfl ?_
  refine x_icmp_ne (nx := 71) (tgt := 75) h dM_tape_68 (by decide) rfl ?_ ?_
  · refine x_aload_n (nx := 76) (i := 0) h dM_tape_75 rfl 0 rfl rfl ?_
    refine x_get (nx := 79) h (gM_0_16 ad ca _) (List.mem_cons_of_mem _ kM_123) dM_tape_76 rfl ?_
    exact x_sub [] rfl (j_M_tape_79 h N (S1 0 16) S1)
  · refine x_iconst (nx := 72) (v := (0 : Int32)) h dM_tape_71 (by decide) rfl ?_
    refine x_goto (tgt := 79) h dM_tape_72 (by decide) ?_
    exact x_sub [] rfl (j_M_tape_79 h N (0 : Int32) S1)
set_option maxHeartbeats 4000000 in
set_option maxRecDepth 100000 in
theorem j_M_tape_38 {l : Launch} {D : va_G} {ad : Nat → Nat} {ca : Nat → ClassId} {p : Program} {e : Env} {s : State} {m : MethodId} {args : Array Value} {below : List Frame} {meth : Method} {c : Code} {A : Nat → Prop} (h : xC p s m args meth c cM_tape 2 (Cond.code yM_tape cM_tape 2 (some .boolean) :: wA) nW yM_tape.cls (some .boolean) D clA (tysM ca) A) (N : Nat) (a1 w1 : Int32) (S : xSt) : xJ p l e rm_M_tape s m args below meth c D clA (tysM ca) (cellsM ad ca) A true 2 38 [(0, .ref (ad 0)), (1, .int a1)] [.int w1, .ref (ad 0)] S (f_M_tape_38 N a1 w1 S) := by
  unfold f_M_tape_38
  refine x_putZ (nx := 41) h (pM_0_18 ad ca _) (List.mem_cons_of_mem _ kM_126) dM_tape_38 rfl (fun S1 => ?_)
  refine x_aload_n (nx := 42) (i := 0) h dM_tape_41 rfl 0 rfl rfl ?_
  refine x_aload_n (nx := 43) (i := 0) h dM_tape_42 rfl 0 rfl rfl ?_
  refine x_get (nx := 46) h (gM_0_2 ad ca _) (List.mem_cons_of_mem _ kM_26) dM_tape_43 rfl ?_
  refine x_put (nx := 49) h (pM_0_19 ad ca _) (List.mem_cons_of_mem _ kM_120) dM_tape_46 rfl (fun S2 => ?_)
  refine x_aload_n (nx := 50) (i := 0) h dM_tape_49 rfl 0 rfl rfl ?_
  refine x_iload_n (nx := 51) (i := 1) h dM_tape_50 rfl 1 rfl rfl ?_
  refine x_if_le (nx := 54) (tgt := 58) h dM_tape_51 (by decide) rfl ?_ ?_
  · refine x_aload_n (nx := 59) (i := 0) h dM_tape_58 rfl 0 rfl rfl ?_
    refine x_get (nx := 62) h (gM_0_20 ad ca _) (List.mem_cons_of_mem _ kM_131) dM_tape_59 rfl ?_
    exact x_sub [0, 1] rfl (j_M_tape_62 h N a1 (S2 0 20) S2)
  · refine x_iconst (nx := 55) (v := (0 : Int32)) h dM_tape_54 (by decide) rfl ?_
    refine x_goto (tgt := 62) h dM_tape_55 (by decide) ?_
    exact x_sub [0, 1] rfl (j_M_tape_62 h N a1 (0 : Int32) S2)
set_option maxHeartbeats 4000000 in
set_option maxRecDepth 100000 in
theorem j_M_tape_27 {l : Launch} {D : va_G} {ad : Nat → Nat} {ca : Nat → ClassId} {p : Program} {e : Env} {s : State} {m : MethodId} {args : Array Value} {below : List Frame} {meth : Method} {c : Code} {A : Nat → Prop} (h : xC p s m args meth c cM_tape 2 (Cond.code yM_tape cM_tape 2 (some .boolean) :: wA) nW yM_tape.cls (some .boolean) D clA (tysM ca) A) (N : Nat) (a1 : Int32) (S : xSt) : xJ p l e rm_M_tape s m args below meth c D clA (tysM ca) (cellsM ad ca) A true 2 27 [(0, .ref (ad 0)), (1, .int a1)] [] S (f_M_tape_27 N a1 S) := by
  unfold f_M_tape_27
  refine x_aload_n (nx := 28) (i := 0) h dM_tape_27 rfl 0 rfl rfl ?_
  refine x_iload_n (nx := 29) (i := 1) h dM_tape_28 rfl 1 rfl rfl ?_
  refine x_iconst (nx := 30) (v := (1 : Int32)) h dM_tape_29 (by decide) rfl ?_
  refine x_icmp_ne (nx := 33) (tgt := 37) h dM_tape_30 (by decide) rfl ?_ ?_
  · refine x_iconst (nx := 38) (v := (0 : Int32)) h dM_tape_37 (by decide) rfl ?_
    exact x_sub [0, 1] rfl (j_M_tape_38 h N a1 (0 : Int32) S)
  · refine x_iconst (nx := 34) (v := (1 : Int32)) h dM_tape_33 (by decide) rfl ?_
    refine x_goto (tgt := 38) h dM_tape_34 (by decide) ?_
    exact x_sub [0, 1] rfl (j_M_tape_38 h N a1 (1 : Int32) S)
set_option maxHeartbeats 4000000 in
set_option maxRecDepth 100000 in
theorem m_M_tape {l : Launch} {D : va_G} {ad : Nat → Nat} {ca : Nat → ClassId} (N : Nat) (a1 : Int32) (S : xSt) : xM l D clA (tysM ca) (cellsM ad ca) nW yM_tape (Cond.code yM_tape cM_tape 2 (some .boolean) :: wA) rm_M_tape true [.ref (ad 0), .int a1] S (f_M_tape N a1 S) := by
  refine x_met (cc := cM_tape) (maxL := 2) (ret := (some .boolean)) (by decide) rfl [.ref (ad 0), .int a1] (lv0 := [(0, .ref (ad 0)), (1, .int a1)]) (Nat.le_of_ble_eq_true rfl) rfl ?_
  intro p e s m args below meth c A h
  unfold f_M_tape
  refine x_aload_n (nx := 1) (i := 0) h dM_tape_0 rfl 0 rfl rfl ?_
  refine x_cVv (nx := 4) (rest := []) (As := []) h (m_M_play N S) (x_wV h goA y_M_play kM_134 ⟨by decide, by decide⟩ rfl rfl) (oM_0 ad ca) rfl rfl (Nat.le_of_ble_eq_true rfl) dM_tape_1 rfl (fun v1 S2 => ?_)
  refine x_iload_n (nx := 5) (i := 1) h dM_tape_4 rfl 1 rfl rfl ?_
  refine x_if_lt (nx := 8) (tgt := 25) h dM_tape_5 (by decide) rfl ?_ ?_
  · exact x_sub [] rfl (j_M_tape_25 h N S2)
  · refine x_iload_n (nx := 9) (i := 1) h dM_tape_8 rfl 1 rfl rfl ?_
    refine x_iconst (nx := 10) (v := (2 : Int32)) h dM_tape_9 (by decide) rfl ?_
    refine x_icmp_gt (nx := 13) (tgt := 25) h dM_tape_10 (by decide) rfl ?_ ?_
    · exact x_sub [] rfl (j_M_tape_25 h N S2)
    · refine x_iload_n (nx := 14) (i := 1) h dM_tape_13 rfl 1 rfl rfl ?_
      refine x_iconst (nx := 15) (v := (1 : Int32)) h dM_tape_14 (by decide) rfl ?_
      refine x_icmp_ne (nx := 18) (tgt := 27) h dM_tape_15 (by decide) rfl ?_ ?_
      · exact x_sub [0, 1] rfl (j_M_tape_27 h N a1 S2)
      · refine x_aload_n (nx := 19) (i := 0) h dM_tape_18 rfl 0 rfl rfl ?_
        refine x_get (nx := 22) h (gM_0_16 ad ca _) (List.mem_cons_of_mem _ kM_123) dM_tape_19 rfl ?_
        refine x_if_ne (nx := 25) (tgt := 27) h dM_tape_22 (by decide) rfl ?_ ?_
        · exact x_sub [0, 1] rfl (j_M_tape_27 h N a1 S2)
        · exact x_sub [] rfl (j_M_tape_25 h N S2)
set_option maxHeartbeats 4000000 in
set_option maxRecDepth 100000 in
theorem j_M_step_11 {l : Launch} {D : va_G} {ad : Nat → Nat} {ca : Nat → ClassId} {p : Program} {e : Env} {s : State} {m : MethodId} {args : Array Value} {below : List Frame} {meth : Method} {c : Code} {A : Nat → Prop} (h : xC p s m args meth c cM_step 4 (Cond.code yM_step cM_step 4 (some .int) :: wA) nW yM_step.cls (some .int) D clA (tysM ca) A) (N : Nat) (S : xSt) : xJ p l e rm_M_step s m args below meth c D clA (tysM ca) (cellsM ad ca) A true 4 11 [] [] S (f_M_step_11 N S) := by
  unfold f_M_step_11
  refine x_iconst (nx := 12) (v := (-1 : Int32)) h dM_step_11 (by decide) rfl ?_
  exact x_iret h dM_step_12
set_option maxHeartbeats 4000000 in
set_option maxRecDepth 100000 in
theorem j_M_step_20 {l : Launch} {D : va_G} {ad : Nat → Nat} {ca : Nat → ClassId} {p : Program} {e : Env} {s : State} {m : MethodId} {args : Array Value} {below : List Frame} {meth : Method} {c : Code} {A : Nat → Prop} (h : xC p s m args meth c cM_step 4 (Cond.code yM_step cM_step 4 (some .int) :: wA) nW yM_step.cls (some .int) D clA (tysM ca) A) (N : Nat) : ∀ (n : Nat) (a1 a2 a3 : Int32) (S : xSt), xJ p l e rm_M_step s m args below meth c D clA (tysM ca) (cellsM ad ca) A true 4 20 [(0, .ref (ad 0)), (1, .int a1), (2, .int a2), (3, .int a3)] [] S (f_M_step_20 N n a1 a2 a3 S) := by
  intro n
  induction n with
  | zero =>
    intro a1 a2 a3 S
    rw [f_M_step_20]
    exact x_none
  | succ n ih =>
    intro a1 a2 a3 S
    rw [f_M_step_20]
    refine x_iload_n (nx := 21) (i := 3) h dM_step_20 rfl 3 rfl rfl ?_
    refine x_iload_n (nx := 22) (i := 1) h dM_step_21 rfl 1 rfl rfl ?_
    refine x_icmp_ge (nx := 25) (tgt := 35) h dM_step_22 (by decide) rfl ?_ ?_
    · refine x_aload_n (nx := 36) (i := 0) h dM_step_35 rfl 0 rfl rfl ?_
      refine x_get (nx := 39) h (gM_0_2 ad ca _) (List.mem_cons_of_mem _ kM_26) dM_step_36 rfl ?_
      refine x_iload_n (nx := 40) (i := 2) h dM_step_39 rfl 2 rfl rfl ?_
      refine x_isub (nx := 41) h dM_step_40 rfl ?_
      exact x_iret h dM_step_41
    · refine x_aload_n (nx := 26) (i := 0) h dM_step_25 rfl 0 rfl rfl ?_
      refine x_cVv (nx := 29) (rest := []) (As := []) h (m_M_one N S) (x_wV h goA y_M_one kM_248 ⟨by decide, by decide⟩ rfl rfl) (oM_0 ad ca) rfl rfl (Nat.le_of_ble_eq_true rfl) dM_step_26 rfl (fun v1 S2 => ?_)
      refine x_iinc (nx := 32) (i := 3) (v := (a3 + (1 : Int32))) (lv' := [(3, .int (a3 + (1 : Int32))), (0, .ref (ad 0)), (1, .int a1), (2, .int a2)]) h dM_step_29 3 rfl (by rw [show Int32.ofInt 1 = (1 : Int32) by decide]) (by decide) rfl rfl ?_
      refine x_goto (tgt := 20) h dM_step_32 (by decide) ?_
      exact x_sub [1, 2, 3, 0] rfl (ih a1 a2 (a3 + (1 : Int32)) S2)
set_option maxHeartbeats 4000000 in
set_option maxRecDepth 100000 in
theorem m_M_step {l : Launch} {D : va_G} {ad : Nat → Nat} {ca : Nat → ClassId} (N : Nat) (a1 : Int32) (S : xSt) : xM l D clA (tysM ca) (cellsM ad ca) nW yM_step (Cond.code yM_step cM_step 4 (some .int) :: wA) rm_M_step true [.ref (ad 0), .int a1] S (f_M_step N a1 S) := by
  refine x_met (cc := cM_step) (maxL := 4) (ret := (some .int)) (by decide) rfl [.ref (ad 0), .int a1] (lv0 := [(0, .ref (ad 0)), (1, .int a1)]) (Nat.le_of_ble_eq_true rfl) rfl ?_
  intro p e s m args below meth c A h
  unfold f_M_step
  refine x_iload_n (nx := 1) (i := 1) h dM_step_0 rfl 1 rfl rfl ?_
  refine x_iconst (nx := 2) (v := (1 : Int32)) h dM_step_1 (by decide) rfl ?_
  refine x_icmp_lt (nx := 5) (tgt := 11) h dM_step_2 (by decide) rfl ?_ ?_
  · exact x_sub [] rfl (j_M_step_11 h N S)
  · refine x_iload_n (nx := 6) (i := 1) h dM_step_5 rfl 1 rfl rfl ?_
    refine x_bipush (nx := 8) (v := (100 : Int32)) h dM_step_6 (by decide) rfl ?_
    refine x_icmp_le (nx := 11) (tgt := 13) h dM_step_8 (by decide) rfl ?_ ?_
    · refine x_aload_n (nx := 14) (i := 0) h dM_step_13 rfl 0 rfl rfl ?_
      refine x_get (nx := 17) h (gM_0_2 ad ca _) (List.mem_cons_of_mem _ kM_26) dM_step_14 rfl ?_
      refine x_val (fun b1 => ?_)
      refine x_istore_n (nx := 18) (i := 2) (lv' := [(2, .int b1), (0, .ref (ad 0)), (1, .int a1)]) h dM_step_17 rfl (by decide) rfl rfl ?_
      refine x_iconst (nx := 19) (v := (0 : Int32)) h dM_step_18 (by decide) rfl ?_
      refine x_istore_n (nx := 20) (i := 3) (lv' := [(3, .int (0 : Int32)), (2, .int b1), (0, .ref (ad 0)), (1, .int a1)]) h dM_step_19 rfl (by decide) rfl rfl ?_
      exact x_sub [2, 3, 1, 0] rfl (j_M_step_20 h N N a1 b1 (0 : Int32) S)
    · exact x_sub [] rfl (j_M_step_11 h N S)
set_option maxHeartbeats 4000000 in
set_option maxRecDepth 100000 in
theorem j_M_frame_40 {l : Launch} {D : va_G} {ad : Nat → Nat} {ca : Nat → ClassId} {p : Program} {e : Env} {s : State} {m : MethodId} {args : Array Value} {below : List Frame} {meth : Method} {c : Code} {A : Nat → Prop} (h : xC p s m args meth c cM_frame 3 (Cond.code yM_frame cM_frame 3 (some .int) :: wA) nW yM_frame.cls (some .int) D clA (tysM ca) A) (N : Nat) (a2 : Int32) (S : xSt) : xJ p l e rm_M_frame s m args below meth c D clA (tysM ca) (cellsM ad ca) A true 3 40 [(2, .int a2)] [] S (f_M_frame_40 N a2 S) := by
  unfold f_M_frame_40
  refine x_iload_n (nx := 41) (i := 2) h dM_frame_40 rfl 0 rfl rfl ?_
  exact x_iret h dM_frame_41
set_option maxHeartbeats 4000000 in
set_option maxRecDepth 100000 in
theorem j_M_frame_11 {l : Launch} {D : va_G} {ad : Nat → Nat} {ca : Nat → ClassId} {p : Program} {e : Env} {s : State} {m : MethodId} {args : Array Value} {below : List Frame} {meth : Method} {c : Code} {A : Nat → Prop} (h : xC p s m args meth c cM_frame 3 (Cond.code yM_frame cM_frame 3 (some .int) :: wA) nW yM_frame.cls (some .int) D clA (tysM ca) A) (N : Nat) : ∀ (n : Nat) (a1 a2 : Int32) (S : xSt), xJ p l e rm_M_frame s m args below meth c D clA (tysM ca) (cellsM ad ca) A true 3 11 [(0, .ref (ad 0)), (1, .int a1), (2, .int a2)] [] S (f_M_frame_11 N n a1 a2 S) := by
  intro n
  induction n with
  | zero =>
    intro a1 a2 S
    rw [f_M_frame_11]
    exact x_none
  | succ n ih =>
    intro a1 a2 S
    rw [f_M_frame_11]
    refine x_iload_n (nx := 12) (i := 2) h dM_frame_11 rfl 2 rfl rfl ?_
    refine x_sipush (nx := 15) (v := (1100 : Int32)) h dM_frame_12 (by decide) rfl ?_
    refine x_icmp_ge (nx := 18) (tgt := 40) h dM_frame_15 (by decide) rfl ?_ ?_
    · exact x_sub [2] rfl (j_M_frame_40 h N a2 S)
    · refine x_aload_n (nx := 19) (i := 0) h dM_frame_18 rfl 0 rfl rfl ?_
      refine x_get (nx := 22) h (gM_0_2 ad ca _) (List.mem_cons_of_mem _ kM_26) dM_frame_19 rfl ?_
      refine x_sipush (nx := 25) (v := (4096 : Int32)) h dM_frame_22 (by decide) rfl ?_
      refine x_idiv (nx := 26) h dM_frame_25 (by decide) rfl ?_
      refine x_iload_n (nx := 27) (i := 1) h dM_frame_26 rfl 1 rfl rfl ?_
      refine x_icmp_ne (nx := 30) (tgt := 40) h dM_frame_27 (by decide) rfl ?_ ?_
      · exact x_sub [2] rfl (j_M_frame_40 h N a2 S)
      · refine x_aload_n (nx := 31) (i := 0) h dM_frame_30 rfl 0 rfl rfl ?_
        refine x_cVv (nx := 34) (rest := []) (As := []) h (m_M_one N S) (x_wV h goA y_M_one kM_248 ⟨by decide, by decide⟩ rfl rfl) (oM_0 ad ca) rfl rfl (Nat.le_of_ble_eq_true rfl) dM_frame_31 rfl (fun v1 S2 => ?_)
        refine x_iinc (nx := 37) (i := 2) (v := (a2 + (1 : Int32))) (lv' := [(2, .int (a2 + (1 : Int32))), (0, .ref (ad 0)), (1, .int a1)]) h dM_frame_34 2 rfl (by rw [show Int32.ofInt 1 = (1 : Int32) by decide]) (by decide) rfl rfl ?_
        refine x_goto (tgt := 11) h dM_frame_37 (by decide) ?_
        exact x_sub [1, 2, 0] rfl (ih a1 (a2 + (1 : Int32)) S2)
set_option maxHeartbeats 4000000 in
set_option maxRecDepth 100000 in
theorem m_M_frame {l : Launch} {D : va_G} {ad : Nat → Nat} {ca : Nat → ClassId} (N : Nat) (S : xSt) : xM l D clA (tysM ca) (cellsM ad ca) nW yM_frame (Cond.code yM_frame cM_frame 3 (some .int) :: wA) rm_M_frame true [.ref (ad 0)] S (f_M_frame N S) := by
  refine x_met (cc := cM_frame) (maxL := 3) (ret := (some .int)) (by decide) rfl [.ref (ad 0)] (lv0 := [(0, .ref (ad 0))]) (Nat.le_of_ble_eq_true rfl) rfl ?_
  intro p e s m args below meth c A h
  unfold f_M_frame
  refine x_aload_n (nx := 1) (i := 0) h dM_frame_0 rfl 0 rfl rfl ?_
  refine x_get (nx := 4) h (gM_0_2 ad ca _) (List.mem_cons_of_mem _ kM_26) dM_frame_1 rfl ?_
  refine x_sipush (nx := 7) (v := (4096 : Int32)) h dM_frame_4 (by decide) rfl ?_
  refine x_idiv (nx := 8) h dM_frame_7 (by decide) rfl ?_
  refine x_val (fun b1 => ?_)
  refine x_istore_n (nx := 9) (i := 1) (lv' := [(1, .int b1), (0, .ref (ad 0))]) h dM_frame_8 rfl (by decide) rfl rfl ?_
  refine x_iconst (nx := 10) (v := (0 : Int32)) h dM_frame_9 (by decide) rfl ?_
  refine x_istore_n (nx := 11) (i := 2) (lv' := [(2, .int (0 : Int32)), (1, .int b1), (0, .ref (ad 0))]) h dM_frame_10 rfl (by decide) rfl rfl ?_
  exact x_sub [2, 1, 0] rfl (j_M_frame_11 h N N b1 (0 : Int32) S)
set_option maxHeartbeats 4000000 in
set_option maxRecDepth 100000 in
theorem j_M_look_65 {l : Launch} {D : va_G} {ad : Nat → Nat} {ca : Nat → ClassId} {p : Program} {e : Env} {s : State} {m : MethodId} {args : Array Value} {below : List Frame} {meth : Method} {c : Code} {A : Nat → Prop} (h : xC p s m args meth c cM_look 2 (Cond.code yM_look cM_look 2 (some .int) :: wA) nW yM_look.cls (some .int) D clA (tysM ca) A) (N : Nat) (w0 : Int32) (S : xSt) : xJ p l e rm_M_look s m args below meth c D clA (tysM ca) (cellsM ad ca) A true 2 65 [] [.int w0] S (f_M_look_65 N w0 S) := by
  unfold f_M_look_65
  exact x_iret h dM_look_65
set_option maxHeartbeats 4000000 in
set_option maxRecDepth 100000 in
theorem j_M_look_114 {l : Launch} {D : va_G} {ad : Nat → Nat} {ca : Nat → ClassId} {p : Program} {e : Env} {s : State} {m : MethodId} {args : Array Value} {below : List Frame} {meth : Method} {c : Code} {A : Nat → Prop} (h : xC p s m args meth c cM_look 2 (Cond.code yM_look cM_look 2 (some .int) :: wA) nW yM_look.cls (some .int) D clA (tysM ca) A) (N : Nat) (w0 : Int32) (S : xSt) : xJ p l e rm_M_look s m args below meth c D clA (tysM ca) (cellsM ad ca) A true 2 114 [] [.int w0] S (f_M_look_114 N w0 S) := by
  unfold f_M_look_114
  exact x_iret h dM_look_114
set_option maxHeartbeats 4000000 in
set_option maxRecDepth 100000 in
theorem m_M_look {l : Launch} {D : va_G} {ad : Nat → Nat} {ca : Nat → ClassId} (N : Nat) (a1 : Int32) (S : xSt) : xM l D clA (tysM ca) (cellsM ad ca) nW yM_look (Cond.code yM_look cM_look 2 (some .int) :: wA) rm_M_look true [.ref (ad 0), .int a1] S (f_M_look N a1 S) := by
  refine x_met (cc := cM_look) (maxL := 2) (ret := (some .int)) (by decide) rfl [.ref (ad 0), .int a1] (lv0 := [(0, .ref (ad 0)), (1, .int a1)]) (Nat.le_of_ble_eq_true rfl) rfl ?_
  intro p e s m args below meth c A h
  unfold f_M_look
  refine x_aload_n (nx := 1) (i := 0) h dM_look_0 rfl 0 rfl rfl ?_
  refine x_cVv (nx := 4) (rest := []) (As := []) h (m_M_play N S) (x_wV h goA y_M_play kM_134 ⟨by decide, by decide⟩ rfl rfl) (oM_0 ad ca) rfl rfl (Nat.le_of_ble_eq_true rfl) dM_look_1 rfl (fun v1 S2 => ?_)
  refine x_iload_n (nx := 5) (i := 1) h dM_look_4 rfl 1 rfl rfl ?_
  refine x_iconst (nx := 6) (v := (4 : Int32)) h dM_look_5 (by decide) rfl ?_
  refine x_icmp_ge (nx := 9) (tgt := 66) h dM_look_6 (by decide) rfl ?_ ?_
  · refine x_iload_n (nx := 67) (i := 1) h dM_look_66 rfl 1 rfl rfl ?_
    refine x_iconst (nx := 68) (v := (4 : Int32)) h dM_look_67 (by decide) rfl ?_
    refine x_icmp_ne (nx := 71) (tgt := 80) h dM_look_68 (by decide) rfl ?_ ?_
    · refine x_iload_n (nx := 81) (i := 1) h dM_look_80 rfl 1 rfl rfl ?_
      refine x_iconst (nx := 82) (v := (5 : Int32)) h dM_look_81 (by decide) rfl ?_
      refine x_icmp_ne (nx := 85) (tgt := 100) h dM_look_82 (by decide) rfl ?_ ?_
      · refine x_iload_n (nx := 101) (i := 1) h dM_look_100 rfl 1 rfl rfl ?_
        refine x_bipush (nx := 103) (v := (6 : Int32)) h dM_look_101 (by decide) rfl ?_
        refine x_icmp_ne (nx := 106) (tgt := 113) h dM_look_103 (by decide) rfl ?_ ?_
        · refine x_iconst (nx := 114) (v := (-1 : Int32)) h dM_look_113 (by decide) rfl ?_
          exact x_sub [] rfl (j_M_look_114 h N (-1 : Int32) S2)
        · refine x_aload_n (nx := 107) (i := 0) h dM_look_106 rfl 0 rfl rfl ?_
          refine x_get (nx := 110) h (gM_0_20 ad ca _) (List.mem_cons_of_mem _ kM_131) dM_look_107 rfl ?_
          refine x_goto (tgt := 114) h dM_look_110 (by decide) ?_
          exact x_sub [] rfl (j_M_look_114 h N (S2 0 20) S2)
      · refine x_aload_n (nx := 86) (i := 0) h dM_look_85 rfl 0 rfl rfl ?_
        refine x_get (nx := 89) h (gM_0_18 ad ca _) (List.mem_cons_of_mem _ kM_126) dM_look_86 rfl ?_
        refine x_if_eq (nx := 92) (tgt := 96) h dM_look_89 (by decide) rfl ?_ ?_
        · refine x_iconst (nx := 97) (v := (0 : Int32)) h dM_look_96 (by decide) rfl ?_
          refine x_goto (tgt := 114) h dM_look_97 (by decide) ?_
          exact x_sub [] rfl (j_M_look_114 h N (0 : Int32) S2)
        · refine x_iconst (nx := 93) (v := (1 : Int32)) h dM_look_92 (by decide) rfl ?_
          refine x_goto (tgt := 114) h dM_look_93 (by decide) ?_
          exact x_sub [] rfl (j_M_look_114 h N (1 : Int32) S2)
    · refine x_aload_n (nx := 72) (i := 0) h dM_look_71 rfl 0 rfl rfl ?_
      refine x_get (nx := 75) h (gM_0_20 ad ca _) (List.mem_cons_of_mem _ kM_131) dM_look_72 rfl ?_
      refine x_iconst (nx := 76) (v := (2 : Int32)) h dM_look_75 (by decide) rfl ?_
      refine x_irem (nx := 77) h dM_look_76 (by decide) rfl ?_
      refine x_goto (tgt := 114) h dM_look_77 (by decide) ?_
      exact x_sub [] rfl (j_M_look_114 h N ((S2 0 20) - (S2 0 20) / (2 : Int32) * (2 : Int32)) S2)
  · refine x_iload_n (nx := 10) (i := 1) h dM_look_9 rfl 1 rfl rfl ?_
    refine x_if_ne (nx := 13) (tgt := 24) h dM_look_10 (by decide) rfl ?_ ?_
    · refine x_iload_n (nx := 25) (i := 1) h dM_look_24 rfl 1 rfl rfl ?_
      refine x_iconst (nx := 26) (v := (1 : Int32)) h dM_look_25 (by decide) rfl ?_
      refine x_icmp_ne (nx := 29) (tgt := 40) h dM_look_26 (by decide) rfl ?_ ?_
      · refine x_iload_n (nx := 41) (i := 1) h dM_look_40 rfl 1 rfl rfl ?_
        refine x_iconst (nx := 42) (v := (2 : Int32)) h dM_look_41 (by decide) rfl ?_
        refine x_icmp_ne (nx := 45) (tgt := 52) h dM_look_42 (by decide) rfl ?_ ?_
        · refine x_iload_n (nx := 53) (i := 1) h dM_look_52 rfl 1 rfl rfl ?_
          refine x_iconst (nx := 54) (v := (3 : Int32)) h dM_look_53 (by decide) rfl ?_
          refine x_icmp_ne (nx := 57) (tgt := 64) h dM_look_54 (by decide) rfl ?_ ?_
          · refine x_iconst (nx := 65) (v := (-1 : Int32)) h dM_look_64 (by decide) rfl ?_
            exact x_sub [] rfl (j_M_look_65 h N (-1 : Int32) S2)
          · refine x_aload_n (nx := 58) (i := 0) h dM_look_57 rfl 0 rfl rfl ?_
            refine x_get (nx := 61) h (gM_0_14 ad ca _) (List.mem_cons_of_mem _ kM_137) dM_look_58 rfl ?_
            refine x_goto (tgt := 65) h dM_look_61 (by decide) ?_
            exact x_sub [] rfl (j_M_look_65 h N (S2 0 14) S2)
        · refine x_aload_n (nx := 46) (i := 0) h dM_look_45 rfl 0 rfl rfl ?_
          refine x_get (nx := 49) h (gM_0_12 ad ca _) (List.mem_cons_of_mem _ kM_30) dM_look_46 rfl ?_
          refine x_goto (tgt := 65) h dM_look_49 (by decide) ?_
          exact x_sub [] rfl (j_M_look_65 h N (S2 0 12) S2)
      · refine x_aload_n (nx := 30) (i := 0) h dM_look_29 rfl 0 rfl rfl ?_
        refine x_get (nx := 33) h (gM_0_2 ad ca _) (List.mem_cons_of_mem _ kM_26) dM_look_30 rfl ?_
        refine x_sipush (nx := 36) (v := (4096 : Int32)) h dM_look_33 (by decide) rfl ?_
        refine x_irem (nx := 37) h dM_look_36 (by decide) rfl ?_
        refine x_goto (tgt := 65) h dM_look_37 (by decide) ?_
        exact x_sub [] rfl (j_M_look_65 h N ((S2 0 2) - (S2 0 2) / (4096 : Int32) * (4096 : Int32)) S2)
    · refine x_aload_n (nx := 14) (i := 0) h dM_look_13 rfl 0 rfl rfl ?_
      refine x_get (nx := 17) h (gM_0_2 ad ca _) (List.mem_cons_of_mem _ kM_26) dM_look_14 rfl ?_
      refine x_sipush (nx := 20) (v := (4096 : Int32)) h dM_look_17 (by decide) rfl ?_
      refine x_idiv (nx := 21) h dM_look_20 (by decide) rfl ?_
      refine x_goto (tgt := 65) h dM_look_21 (by decide) ?_
      exact x_sub [] rfl (j_M_look_65 h N ((S2 0 2) / (4096 : Int32)) S2)
set_option maxHeartbeats 4000000 in
set_option maxRecDepth 100000 in
theorem j_M_stripe_20 {l : Launch} {D : va_G} {ad : Nat → Nat} {ca : Nat → ClassId} {p : Program} {e : Env} {s : State} {m : MethodId} {args : Array Value} {below : List Frame} {meth : Method} {c : Code} {A : Nat → Prop} (h : xC p s m args meth c cM_stripe 2 (Cond.code yM_stripe cM_stripe 2 (some .int) :: wA) nW yM_stripe.cls (some .int) D clA (tysM ca) A) (N : Nat) (w0 : Int32) (S : xSt) : xJ p l e rm_M_stripe s m args below meth c D clA (tysM ca) (cellsM ad ca) A true 2 20 [] [.int w0] S (f_M_stripe_20 N w0 S) := by
  unfold f_M_stripe_20
  exact x_iret h dM_stripe_20
set_option maxHeartbeats 4000000 in
set_option maxRecDepth 100000 in
theorem j_M_stripe_10 {l : Launch} {D : va_G} {ad : Nat → Nat} {ca : Nat → ClassId} {p : Program} {e : Env} {s : State} {m : MethodId} {args : Array Value} {below : List Frame} {meth : Method} {c : Code} {A : Nat → Prop} (h : xC p s m args meth c cM_stripe 2 (Cond.code yM_stripe cM_stripe 2 (some .int) :: wA) nW yM_stripe.cls (some .int) D clA (tysM ca) A) (N : Nat) (S : xSt) : xJ p l e rm_M_stripe s m args below meth c D clA (tysM ca) (cellsM ad ca) A true 2 10 [] [] S (f_M_stripe_10 N S) := by
  unfold f_M_stripe_10
  refine x_iconst (nx := 11) (v := (-1 : Int32)) h dM_stripe_10 (by decide) rfl ?_
  refine x_goto (tgt := 20) h dM_stripe_11 (by decide) ?_
  exact x_sub [] rfl (j_M_stripe_20 h N (-1 : Int32) S)
set_option maxHeartbeats 4000000 in
set_option maxRecDepth 100000 in
theorem m_M_stripe {l : Launch} {D : va_G} {ad : Nat → Nat} {ca : Nat → ClassId} (N : Nat) (a1 : Int32) (S : xSt) : xM l D clA (tysM ca) (cellsM ad ca) nW yM_stripe (Cond.code yM_stripe cM_stripe 2 (some .int) :: wA) rm_M_stripe true [.ref (ad 0), .int a1] S (f_M_stripe N a1 S) := by
  refine x_met (cc := cM_stripe) (maxL := 2) (ret := (some .int)) (by decide) rfl [.ref (ad 0), .int a1] (lv0 := [(0, .ref (ad 0)), (1, .int a1)]) (Nat.le_of_ble_eq_true rfl) rfl ?_
  intro p e s m args below meth c A h
  unfold f_M_stripe
  refine x_iload_n (nx := 1) (i := 1) h dM_stripe_0 rfl 1 rfl rfl ?_
  refine x_if_lt (nx := 4) (tgt := 10) h dM_stripe_1 (by decide) rfl ?_ ?_
  · exact x_sub [] rfl (j_M_stripe_10 h N S)
  · refine x_iload_n (nx := 5) (i := 1) h dM_stripe_4 rfl 1 rfl rfl ?_
    refine x_bipush (nx := 7) (v := (63 : Int32)) h dM_stripe_5 (by decide) rfl ?_
    refine x_icmp_le (nx := 10) (tgt := 14) h dM_stripe_7 (by decide) rfl ?_ ?_
    · refine x_aload_n (nx := 15) (i := 0) h dM_stripe_14 rfl 0 rfl rfl ?_
      refine x_get (nx := 18) h (gM_0_15 ad ca _) (List.mem_cons_of_mem _ kM_20) dM_stripe_15 rfl ?_
      refine x_iload_n (nx := 19) (i := 1) h dM_stripe_18 rfl 1 rfl rfl ?_
      refine x_iald (nx := 20) h (aM_4 ad ca) dM_stripe_19 rfl (fun v1 => ?_)
      exact x_sub [] rfl (j_M_stripe_20 h N v1 S)
    · exact x_sub [] rfl (j_M_stripe_10 h N S)
