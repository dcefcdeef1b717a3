set_option maxHeartbeats 4000000 in
set_option maxRecDepth 100000 in
theorem j_M_pass_47 {l : Launch} {D : va_G} {ad : Nat → Nat} {ca : Nat → ClassId} {p : Program} {e : Env} {s : State} {m : MethodId} {args : Array Value} {below : List Frame} {meth : Method} {c : Code} {A : Nat → Prop} (h : xC p s m args meth c cM_pass 3 (Cond.code yM_pass cM_pass 3 none :: wA) nW yM_pass.cls none D clA (tysM ca) A) (N : Nat) (k2 : Int32 → Int32 → xSt → xR) (hk2 : ∀ (a1 a2 : Int32) (S : xSt), xJ p l e rm_M_pass s m args below meth c D clA (tysM ca) (cellsM ad ca) A false 3 2 [(0, .ref (ad 0)), (1, .int a1), (2, .int a2)] [] S (k2 a1 a2 S)) (a1 a2 : Int32) (S : xSt) : xJ p l e rm_M_pass s m args below meth c D clA (tysM ca) (cellsM ad ca) A false 3 47 [(0, .ref (ad 0)), (1, .int a1), (2, .int a2)] [] S (f_M_pass_47 N k2 a1 a2 S) := by
  unfold f_M_pass_47
  refine x_iinc (nx := 50) (i := 2) (v := (a2 + (1 : Int32))) (lv' := [(2, .int (a2 + (1 : Int32))), (0, .ref (ad 0)), (1, .int a1)]) h dM_pass_47 2 rfl (by rw [show Int32.ofInt 1 = (1 : Int32) by decide]) (by decide) rfl rfl ?_
  refine x_goto (tgt := 2) h dM_pass_50 (by decide) ?_
  exact x_sub [1, 2, 0] rfl (hk2 a1 (a2 + (1 : Int32)) S)
set_option maxHeartbeats 4000000 in
set_option maxRecDepth 100000 in
theorem j_M_pass_2 {l : Launch} {D : va_G} {ad : Nat → Nat} {ca : Nat → ClassId} {p : Program} {e : Env} {s : State} {m : MethodId} {args : Array Value} {below : List Frame} {meth : Method} {c : Code} {A : Nat → Prop} (h : xC p s m args meth c cM_pass 3 (Cond.code yM_pass cM_pass 3 none :: wA) nW yM_pass.cls none D clA (tysM ca) A) (N : Nat) : ∀ (n : Nat) (a1 a2 : Int32) (S : xSt), xJ p l e rm_M_pass s m args below meth c D clA (tysM ca) (cellsM ad ca) A false 3 2 [(0, .ref (ad 0)), (1, .int a1), (2, .int a2)] [] S (f_M_pass_2 N n a1 a2 S) := by
  intro n
  induction n with
  | zero =>
    intro a1 a2 S
    rw [f_M_pass_2]
    exact x_none
  | succ n ih =>
    intro a1 a2 S
    rw [f_M_pass_2]
    refine x_iload_n (nx := 3) (i := 2) h dM_pass_2 rfl 2 rfl rfl ?_
    refine x_iload_n (nx := 4) (i := 1) h dM_pass_3 rfl 1 rfl rfl ?_
    refine x_icmp_ge (nx := 7) (tgt := 53) h dM_pass_4 (by decide) rfl ?_ ?_
    · exact x_vret h dM_pass_53
    · refine x_aload_n (nx := 8) (i := 0) h dM_pass_7 rfl 0 rfl rfl ?_
      refine x_dup (nx := 9) h dM_pass_8 rfl rfl ?_
      refine x_get (nx := 12) h (gM_0_2 ad ca _) (List.mem_cons_of_mem _ kM_26) dM_pass_9 rfl ?_
      refine x_iconst (nx := 13) (v := (1 : Int32)) h dM_pass_12 (by decide) rfl ?_
      refine x_iadd (nx := 14) h dM_pass_13 rfl ?_
      refine x_put (nx := 17) h (pM_0_2 ad ca _) (List.mem_cons_of_mem _ kM_26) dM_pass_14 rfl (fun S1 => ?_)
      refine x_aload_n (nx := 18) (i := 0) h dM_pass_17 rfl 0 rfl rfl ?_
      refine x_get (nx := 21) h (gM_0_2 ad ca _) (List.mem_cons_of_mem _ kM_26) dM_pass_18 rfl ?_
      refine x_bipush (nx := 23) (v := (64 : Int32)) h dM_pass_21 (by decide) rfl ?_
      refine x_irem (nx := 24) h dM_pass_23 (by decide) rfl ?_
      refine x_if_ne (nx := 27) (tgt := 47) h dM_pass_24 (by decide) rfl ?_ ?_
      · exact x_sub [0, 1, 2] rfl (j_M_pass_47 h N (f_M_pass_2 N n) ih a1 a2 S1)
      · refine x_aload_n (nx := 28) (i := 0) h dM_pass_27 rfl 0 rfl rfl ?_
        refine x_get (nx := 31) h (gM_0_15 ad ca _) (List.mem_cons_of_mem _ kM_20) dM_pass_28 rfl ?_
        refine x_aload_n (nx := 32) (i := 0) h dM_pass_31 rfl 0 rfl rfl ?_
        refine x_get (nx := 35) h (gM_0_2 ad ca _) (List.mem_cons_of_mem _ kM_26) dM_pass_32 rfl ?_
        refine x_sipush (nx := 38) (v := (4096 : Int32)) h dM_pass_35 (by decide) rfl ?_
        refine x_irem (nx := 39) h dM_pass_38 (by decide) rfl ?_
        refine x_bipush (nx := 41) (v := (64 : Int32)) h dM_pass_39 (by decide) rfl ?_
        refine x_idiv (nx := 42) h dM_pass_41 (by decide) rfl ?_
        refine x_aload_n (nx := 43) (i := 0) h dM_pass_42 rfl 0 rfl rfl ?_
        refine x_get (nx := 46) h (gM_0_12 ad ca _) (List.mem_cons_of_mem _ kM_30) dM_pass_43 rfl ?_
        refine x_iast (nx := 47) h (aM_4 ad ca) dM_pass_46 rfl (fun S2 => ?_)
        exact x_sub [0, 1, 2] rfl (j_M_pass_47 h N (f_M_pass_2 N n) ih a1 a2 S2)
set_option maxHeartbeats 4000000 in
set_option maxRecDepth 100000 in
theorem m_M_pass {l : Launch} {D : va_G} {ad : Nat → Nat} {ca : Nat → ClassId} (N : Nat) (a1 : Int32) (S : xSt) : xM l D clA (tysM ca) (cellsM ad ca) nW yM_pass (Cond.code yM_pass cM_pass 3 none :: wA) rm_M_pass false [.ref (ad 0), .int a1] S (f_M_pass N a1 S) := by
  refine x_met (cc := cM_pass) (maxL := 3) (ret := none) (by decide) rfl [.ref (ad 0), .int a1] (lv0 := [(0, .ref (ad 0)), (1, .int a1)]) (Nat.le_of_ble_eq_true rfl) rfl ?_
  intro p e s m args below meth c A h
  unfold f_M_pass
  refine x_iconst (nx := 1) (v := (0 : Int32)) h dM_pass_0 (by decide) rfl ?_
  refine x_istore_n (nx := 2) (i := 2) (lv' := [(2, .int (0 : Int32)), (0, .ref (ad 0)), (1, .int a1)]) h dM_pass_1 rfl (by decide) rfl rfl ?_
  exact x_sub [1, 2, 0] rfl (j_M_pass_2 h N N a1 (0 : Int32) S)
set_option maxHeartbeats 4000000 in
set_option maxRecDepth 100000 in
theorem j_M_slow_58 {l : Launch} {D : va_G} {ad : Nat → Nat} {ca : Nat → ClassId} {p : Program} {e : Env} {s : State} {m : MethodId} {args : Array Value} {below : List Frame} {meth : Method} {c : Code} {A : Nat → Prop} (h : xC p s m args meth c cM_slow 3 (Cond.code yM_slow cM_slow 3 none :: wA) nW yM_slow.cls none D clA (tysM ca) A) (N : Nat) (S : xSt) : xJ p l e rm_M_slow s m args below meth c D clA (tysM ca) (cellsM ad ca) A false 3 58 [] [] S (f_M_slow_58 N S) := by
  unfold f_M_slow_58
  exact x_vret h dM_slow_58
set_option maxHeartbeats 4000000 in
set_option maxRecDepth 100000 in
theorem m_M_slow {l : Launch} {D : va_G} {ad : Nat → Nat} {ca : Nat → ClassId} (N : Nat) (S : xSt) : xM l D clA (tysM ca) (cellsM ad ca) nW yM_slow (Cond.code yM_slow cM_slow 3 none :: wA) rm_M_slow false [.ref (ad 0)] S (f_M_slow N S) := by
  refine x_met (cc := cM_slow) (maxL := 3) (ret := none) (by decide) rfl [.ref (ad 0)] (lv0 := [(0, .ref (ad 0))]) (Nat.le_of_ble_eq_true rfl) rfl ?_
  intro p e s m args below meth c A h
  unfold f_M_slow
  refine x_aload_n (nx := 1) (i := 0) h dM_slow_0 rfl 0 rfl rfl ?_
  refine x_get (nx := 4) h (gM_0_2 ad ca _) (List.mem_cons_of_mem _ kM_26) dM_slow_1 rfl ?_
  refine x_sipush (nx := 7) (v := (4096 : Int32)) h dM_slow_4 (by decide) rfl ?_
  refine x_irem (nx := 8) h dM_slow_7 (by decide) rfl ?_
  refine x_bipush (nx := 10) (v := (64 : Int32)) h dM_slow_8 (by decide) rfl ?_
  refine x_idiv (nx := 11) h dM_slow_10 (by decide) rfl ?_
  refine x_val (fun b1 => ?_)
  refine x_istore_n (nx := 12) (i := 1) (lv' := [(1, .int b1), (0, .ref (ad 0))]) h dM_slow_11 rfl (by decide) rfl rfl ?_
  refine x_aload_n (nx := 13) (i := 0) h dM_slow_12 rfl 1 rfl rfl ?_
  refine x_get (nx := 16) h (gM_0_2 ad ca _) (List.mem_cons_of_mem _ kM_26) dM_slow_13 rfl ?_
  refine x_bipush (nx := 18) (v := (64 : Int32)) h dM_slow_16 (by decide) rfl ?_
  refine x_irem (nx := 19) h dM_slow_18 (by decide) rfl ?_
  refine x_val (fun b2 => ?_)
  refine x_istore_n (nx := 20) (i := 2) (lv' := [(2, .int b2), (1, .int b1), (0, .ref (ad 0))]) h dM_slow_19 rfl (by decide) rfl rfl ?_
  refine x_iload_n (nx := 21) (i := 1) h dM_slow_20 rfl 1 rfl rfl ?_
  refine x_bipush (nx := 23) (v := (16 : Int32)) h dM_slow_21 (by decide) rfl ?_
  refine x_icmp_lt (nx := 26) (tgt := 58) h dM_slow_23 (by decide) rfl ?_ ?_
  · exact x_sub [] rfl (j_M_slow_58 h N S)
  · refine x_iload_n (nx := 27) (i := 1) h dM_slow_26 rfl 1 rfl rfl ?_
    refine x_bipush (nx := 29) (v := (48 : Int32)) h dM_slow_27 (by decide) rfl ?_
    refine x_icmp_ge (nx := 32) (tgt := 58) h dM_slow_29 (by decide) rfl ?_ ?_
    · exact x_sub [] rfl (j_M_slow_58 h N S)
    · refine x_iload_n (nx := 33) (i := 2) h dM_slow_32 rfl 0 rfl rfl ?_
      refine x_bipush (nx := 35) (v := (32 : Int32)) h dM_slow_33 (by decide) rfl ?_
      refine x_icmp_ge (nx := 38) (tgt := 58) h dM_slow_35 (by decide) rfl ?_ ?_
      · exact x_sub [] rfl (j_M_slow_58 h N S)
      · refine x_iload_n (nx := 39) (i := 2) h dM_slow_38 rfl 0 rfl rfl ?_
        refine x_bipush (nx := 41) (v := (7 : Int32)) h dM_slow_39 (by decide) rfl ?_
        refine x_iand (nx := 42) h dM_slow_41 rfl ?_
        refine x_bipush (nx := 44) (v := (6 : Int32)) h dM_slow_42 (by decide) rfl ?_
        refine x_icmp_ge (nx := 47) (tgt := 58) h dM_slow_44 (by decide) rfl ?_ ?_
        · exact x_sub [] rfl (j_M_slow_58 h N S)
        · refine x_aload_n (nx := 48) (i := 0) h dM_slow_47 rfl 2 rfl rfl ?_
          refine x_bipush (nx := 50) (v := (6 : Int32)) h dM_slow_48 (by decide) rfl ?_
          refine x_iload_n (nx := 51) (i := 2) h dM_slow_50 rfl 0 rfl rfl ?_
          refine x_bipush (nx := 53) (v := (7 : Int32)) h dM_slow_51 (by decide) rfl ?_
          refine x_iand (nx := 54) h dM_slow_53 rfl ?_
          refine x_isub (nx := 55) h dM_slow_54 rfl ?_
          refine x_cVv (nx := 58) (rest := []) (As := [.int ((6 : Int32) - (b2 &&& (7 : Int32)))]) h (m_M_pass N ((6 : Int32) - (b2 &&& (7 : Int32))) S) (x_wV h goA y_M_pass kM_33 ⟨by decide, by decide⟩ rfl rfl) (oM_0 ad ca) rfl rfl (Nat.le_of_ble_eq_true rfl) dM_slow_55 rfl (fun v3 S4 => ?_)
          exact x_sub [] rfl (j_M_slow_58 h N S4)
set_option maxHeartbeats 4000000 in
set_option maxRecDepth 100000 in
theorem j_M_reach_24 {l : Launch} {D : va_G} {ad : Nat → Nat} {ca : Nat → ClassId} {p : Program} {e : Env} {s : State} {m : MethodId} {args : Array Value} {below : List Frame} {meth : Method} {c : Code} {A : Nat → Prop} (h : xC p s m args meth c cM_reach 4 (Cond.code yM_reach cM_reach 4 none :: wA) nW yM_reach.cls none D clA (tysM ca) A) (N : Nat) (a2 : Int32) (S : xSt) : xJ p l e rm_M_reach s m args below meth c D clA (tysM ca) (cellsM ad ca) A false 4 24 [(0, .ref (ad 0)), (2, .int a2)] [] S (f_M_reach_24 N a2 S) := by
  unfold f_M_reach_24
  refine x_aload_n (nx := 25) (i := 0) h dM_reach_24 rfl 0 rfl rfl ?_
  refine x_iload_n (nx := 26) (i := 2) h dM_reach_25 rfl 1 rfl rfl ?_
  refine x_cVv (nx := 29) (rest := []) (As := [.int a2]) h (m_M_pass N a2 S) (x_wV h goA y_M_pass kM_33 ⟨by decide, by decide⟩ rfl rfl) (oM_0 ad ca) rfl rfl (Nat.le_of_ble_eq_true rfl) dM_reach_26 rfl (fun v1 S2 => ?_)
  exact x_vret h dM_reach_29
set_option maxHeartbeats 4000000 in
set_option maxRecDepth 100000 in
theorem m_M_reach {l : Launch} {D : va_G} {ad : Nat → Nat} {ca : Nat → ClassId} (N : Nat) (a1 a2 : Int32) (S : xSt) : xM l D clA (tysM ca) (cellsM ad ca) nW yM_reach (Cond.code yM_reach cM_reach 4 none :: wA) rm_M_reach false [.ref (ad 0), .int a1, .int a2] S (f_M_reach N a1 a2 S) := by
  refine x_met (cc := cM_reach) (maxL := 4) (ret := none) (by decide) rfl [.ref (ad 0), .int a1, .int a2] (lv0 := [(0, .ref (ad 0)), (1, .int a1), (2, .int a2)]) (Nat.le_of_ble_eq_true rfl) rfl ?_
  intro p e s m args below meth c A h
  unfold f_M_reach
  refine x_iload_n (nx := 1) (i := 1) h dM_reach_0 rfl 1 rfl rfl ?_
  refine x_sipush (nx := 4) (v := (4095 : Int32)) h dM_reach_1 (by decide) rfl ?_
  refine x_iand (nx := 5) h dM_reach_4 rfl ?_
  refine x_val (fun b1 => ?_)
  refine x_istore_n (nx := 6) (i := 3) (lv' := [(3, .int b1), (0, .ref (ad 0)), (1, .int a1), (2, .int a2)]) h dM_reach_5 rfl (by decide) rfl rfl ?_
  refine x_iload_n (nx := 7) (i := 3) h dM_reach_6 rfl 0 rfl rfl ?_
  refine x_sipush (nx := 10) (v := (1024 : Int32)) h dM_reach_7 (by decide) rfl ?_
  refine x_icmp_lt (nx := 13) (tgt := 24) h dM_reach_10 (by decide) rfl ?_ ?_
  · exact x_sub [1, 3] rfl (j_M_reach_24 h N a2 S)
  · refine x_iload_n (nx := 14) (i := 3) h dM_reach_13 rfl 0 rfl rfl ?_
    refine x_sipush (nx := 17) (v := (2048 : Int32)) h dM_reach_14 (by decide) rfl ?_
    refine x_icmp_ge (nx := 20) (tgt := 24) h dM_reach_17 (by decide) rfl ?_ ?_
    · exact x_sub [1, 3] rfl (j_M_reach_24 h N a2 S)
    · refine x_aload_n (nx := 21) (i := 0) h dM_reach_20 rfl 1 rfl rfl ?_
      refine x_cVv (nx := 24) (rest := []) (As := []) h (m_M_slow N S) (x_wV h goA y_M_slow kM_37 ⟨by decide, by decide⟩ rfl rfl) (oM_0 ad ca) rfl rfl (Nat.le_of_ble_eq_true rfl) dM_reach_21 rfl (fun v2 S3 => ?_)
      exact x_sub [1, 3] rfl (j_M_reach_24 h N a2 S3)
set_option maxHeartbeats 4000000 in
set_option maxRecDepth 100000 in
theorem m_M_read {l : Launch} {D : va_G} {ad : Nat → Nat} {ca : Nat → ClassId} (N : Nat) (a1 : Int32) (S : xSt) : xM l D clA (tysM ca) (cellsM ad ca) nW yM_read (Cond.code yM_read cM_read 2 (some .int) :: wA) rm_M_read true [.ref (ad 0), .int a1] S (f_M_read N a1 S) := by
  refine x_met (cc := cM_read) (maxL := 2) (ret := (some .int)) (by decide) rfl [.ref (ad 0), .int a1] (lv0 := [(0, .ref (ad 0)), (1, .int a1)]) (Nat.le_of_ble_eq_true rfl) rfl ?_
  intro p e s m args below meth c A h
  unfold f_M_read
  refine x_aload_n (nx := 1) (i := 0) h dM_read_0 rfl 0 rfl rfl ?_
  refine x_iload_n (nx := 2) (i := 1) h dM_read_1 rfl 1 rfl rfl ?_
  refine x_iconst (nx := 3) (v := (3 : Int32)) h dM_read_2 (by decide) rfl ?_
  refine x_cVv (nx := 6) (rest := []) (As := [.int a1, .int (3 : Int32)]) h (m_M_reach N a1 (3 : Int32) S) (x_wV h goA y_M_reach kM_40 ⟨by decide, by decide⟩ rfl rfl) (oM_0 ad ca) rfl rfl (Nat.le_of_ble_eq_true rfl) dM_read_3 rfl (fun v1 S2 => ?_)
  refine x_aload_n (nx := 7) (i := 0) h dM_read_6 rfl 0 rfl rfl ?_
  refine x_get (nx := 10) h (gM_0_0 ad ca _) (List.mem_cons_of_mem _ kM_7) dM_read_7 rfl ?_
  refine x_iload_n (nx := 11) (i := 1) h dM_read_10 rfl 1 rfl rfl ?_
  refine x_sipush (nx := 14) (v := (4095 : Int32)) h dM_read_11 (by decide) rfl ?_
  refine x_iand (nx := 15) h dM_read_14 rfl ?_
  refine x_iald (nx := 16) h (aM_1 ad ca) dM_read_15 rfl (fun v3 => ?_)
  exact x_iret h dM_read_16
set_option maxHeartbeats 4000000 in
set_option maxRecDepth 100000 in
theorem j_M_write_32 {l : Launch} {D : va_G} {ad : Nat → Nat} {ca : Nat → ClassId} {p : Program} {e : Env} {s : State} {m : MethodId} {args : Array Value} {below : List Frame} {meth : Method} {c : Code} {A : Nat → Prop} (h : xC p s m args meth c cM_write 3 (Cond.code yM_write cM_write 3 none :: wA) nW yM_write.cls none D clA (tysM ca) A) (N : Nat) (S : xSt) : xJ p l e rm_M_write s m args below meth c D clA (tysM ca) (cellsM ad ca) A false 3 32 [] [] S (f_M_write_32 N S) := by
  unfold f_M_write_32
  exact x_vret h dM_write_32
set_option maxHeartbeats 4000000 in
set_option maxRecDepth 100000 in
theorem m_M_write {l : Launch} {D : va_G} {ad : Nat → Nat} {ca : Nat → ClassId} (N : Nat) (a1 a2 : Int32) (S : xSt) : xM l D clA (tysM ca) (cellsM ad ca) nW yM_write (Cond.code yM_write cM_write 3 none :: wA) rm_M_write false [.ref (ad 0), .int a1, .int a2] S (f_M_write N a1 a2 S) := by
  refine x_met (cc := cM_write) (maxL := 3) (ret := none) (by decide) rfl [.ref (ad 0), .int a1, .int a2] (lv0 := [(0, .ref (ad 0)), (1, .int a1), (2, .int a2)]) (Nat.le_of_ble_eq_true rfl) rfl ?_
  intro p e s m args below meth c A h
  unfold f_M_write
  refine x_aload_n (nx := 1) (i := 0) h dM_write_0 rfl 0 rfl rfl ?_
  refine x_iload_n (nx := 2) (i := 1) h dM_write_1 rfl 1 rfl rfl ?_
  refine x_iconst (nx := 3) (v := (3 : Int32)) h dM_write_2 (by decide) rfl ?_
  refine x_cVv (nx := 6) (rest := []) (As := [.int a1, .int (3 : Int32)]) h (m_M_reach N a1 (3 : Int32) S) (x_wV h goA y_M_reach kM_40 ⟨by decide, by decide⟩ rfl rfl) (oM_0 ad ca) rfl rfl (Nat.le_of_ble_eq_true rfl) dM_write_3 rfl (fun v1 S2 => ?_)
  refine x_iload_n (nx := 7) (i := 1) h dM_write_6 rfl 1 rfl rfl ?_
  refine x_sipush (nx := 10) (v := (4095 : Int32)) h dM_write_7 (by decide) rfl ?_
  refine x_iand (nx := 11) h dM_write_10 rfl ?_
  refine x_sipush (nx := 14) (v := (1024 : Int32)) h dM_write_11 (by decide) rfl ?_
  refine x_icmp_lt (nx := 17) (tgt := 32) h dM_write_14 (by decide) rfl ?_ ?_
  · exact x_sub [] rfl (j_M_write_32 h N S2)
  · refine x_aload_n (nx := 18) (i := 0) h dM_write_17 rfl 0 rfl rfl ?_
    refine x_get (nx := 21) h (gM_0_0 ad ca _) (List.mem_cons_of_mem _ kM_7) dM_write_18 rfl ?_
    refine x_iload_n (nx := 22) (i := 1) h dM_write_21 rfl 1 rfl rfl ?_
    refine x_sipush (nx := 25) (v := (4095 : Int32)) h dM_write_22 (by decide) rfl ?_
    refine x_iand (nx := 26) h dM_write_25 rfl ?_
    refine x_iload_n (nx := 27) (i := 2) h dM_write_26 rfl 2 rfl rfl ?_
    refine x_sipush (nx := 30) (v := (255 : Int32)) h dM_write_27 (by decide) rfl ?_
    refine x_iand (nx := 31) h dM_write_30 rfl ?_
    refine x_iast (nx := 32) h (aM_1 ad ca) dM_write_31 rfl (fun S3 => ?_)
    exact x_sub [] rfl (j_M_write_32 h N S3)
set_option maxHeartbeats 4000000 in
set_option maxRecDepth 100000 in
theorem m_M_refresh {l : Launch} {D : va_G} {ad : Nat → Nat} {ca : Nat → ClassId} (N : Nat) (S : xSt) : xM l D clA (tysM ca) (cellsM ad ca) nW yM_refresh (Cond.code yM_refresh cM_refresh 1 none :: wA) rm_M_refresh false [.ref (ad 0)] S (f_M_refresh N S) := by
  refine x_met (cc := cM_refresh) (maxL := 1) (ret := none) (by decide) rfl [.ref (ad 0)] (lv0 := [(0, .ref (ad 0))]) (Nat.le_of_ble_eq_true rfl) rfl ?_
  intro p e s m args below meth c A h
  unfold f_M_refresh
  refine x_aload_n (nx := 1) (i := 0) h dM_refresh_0 rfl 0 rfl rfl ?_
  refine x_get (nx := 4) h (gM_0_1 ad ca _) (List.mem_cons_of_mem _ kM_13) dM_refresh_1 rfl ?_
  refine x_bipush (nx := 6) (v := (17 : Int32)) h dM_refresh_4 (by decide) rfl ?_
  refine x_aload_n (nx := 7) (i := 0) h dM_refresh_6 rfl 0 rfl rfl ?_
  refine x_get (nx := 10) h (gM_0_1 ad ca _) (List.mem_cons_of_mem _ kM_13) dM_refresh_7 rfl ?_
  refine x_bipush (nx := 12) (v := (17 : Int32)) h dM_refresh_10 (by decide) rfl ?_
  refine x_iald (nx := 13) h (aM_2 ad ca) dM_refresh_12 rfl (fun v1 => ?_)
  refine x_sipush (nx := 16) (v := (128 : Int32)) h dM_refresh_13 (by decide) rfl ?_
  refine x_iand (nx := 17) h dM_refresh_16 rfl ?_
  refine x_aload_n (nx := 18) (i := 0) h dM_refresh_17 rfl 0 rfl rfl ?_
  refine x_get (nx := 21) h (gM_0_1 ad ca _) (List.mem_cons_of_mem _ kM_13) dM_refresh_18 rfl ?_
  refine x_bipush (nx := 23) (v := (17 : Int32)) h dM_refresh_21 (by decide) rfl ?_
  refine x_iald (nx := 24) h (aM_2 ad ca) dM_refresh_23 rfl (fun v2 => ?_)
  refine x_iconst (nx := 25) (v := (1 : Int32)) h dM_refresh_24 (by decide) rfl ?_
  refine x_iadd (nx := 26) h dM_refresh_25 rfl ?_
  refine x_bipush (nx := 28) (v := (127 : Int32)) h dM_refresh_26 (by decide) rfl ?_
  refine x_iand (nx := 29) h dM_refresh_28 rfl ?_
  refine x_ior (nx := 30) h dM_refresh_29 rfl ?_
  refine x_iast (nx := 31) h (aM_2 ad ca) dM_refresh_30 rfl (fun S3 => ?_)
  exact x_vret h dM_refresh_31
set_option maxHeartbeats 4000000 in
set_option maxRecDepth 100000 in
theorem m_M_fetch {l : Launch} {D : va_G} {ad : Nat → Nat} {ca : Nat → ClassId} (N : Nat) (S : xSt) : xM l D clA (tysM ca) (cellsM ad ca) nW yM_fetch (Cond.code yM_fetch cM_fetch 2 (some .int) :: wA) rm_M_fetch true [.ref (ad 0)] S (f_M_fetch N S) := by
  refine x_met (cc := cM_fetch) (maxL := 2) (ret := (some .int)) (by decide) rfl [.ref (ad 0)] (lv0 := [(0, .ref (ad 0))]) (Nat.le_of_ble_eq_true rfl) rfl ?_
  intro p e s m args below meth c A h
  unfold f_M_fetch
  refine x_aload_n (nx := 1) (i := 0) h dM_fetch_0 rfl 0 rfl rfl ?_
  refine x_get (nx := 4) h (gM_0_0 ad ca _) (List.mem_cons_of_mem _ kM_7) dM_fetch_1 rfl ?_
  refine x_aload_n (nx := 5) (i := 0) h dM_fetch_4 rfl 0 rfl rfl ?_
  refine x_get (nx := 8) h (gM_0_1 ad ca _) (List.mem_cons_of_mem _ kM_13) dM_fetch_5 rfl ?_
  refine x_bipush (nx := 10) (v := (21 : Int32)) h dM_fetch_8 (by decide) rfl ?_
  refine x_iald (nx := 11) h (aM_2 ad ca) dM_fetch_10 rfl (fun v1 => ?_)
  refine x_sipush (nx := 14) (v := (4095 : Int32)) h dM_fetch_11 (by decide) rfl ?_
  refine x_iand (nx := 15) h dM_fetch_14 rfl ?_
  refine x_iald (nx := 16) h (aM_1 ad ca) dM_fetch_15 rfl (fun v2 => ?_)
  refine x_istore_n (nx := 17) (i := 1) (lv' := [(1, .int v2), (0, .ref (ad 0))]) h dM_fetch_16 rfl (by decide) rfl rfl ?_
  refine x_aload_n (nx := 18) (i := 0) h dM_fetch_17 rfl 1 rfl rfl ?_
  refine x_aload_n (nx := 19) (i := 0) h dM_fetch_18 rfl 1 rfl rfl ?_
  refine x_get (nx := 22) h (gM_0_1 ad ca _) (List.mem_cons_of_mem _ kM_13) dM_fetch_19 rfl ?_
  refine x_bipush (nx := 24) (v := (21 : Int32)) h dM_fetch_22 (by decide) rfl ?_
  refine x_iald (nx := 25) h (aM_2 ad ca) dM_fetch_24 rfl (fun v3 => ?_)
  refine x_iconst (nx := 26) (v := (4 : Int32)) h dM_fetch_25 (by decide) rfl ?_
  refine x_cVv (nx := 29) (rest := []) (As := [.int v3, .int (4 : Int32)]) h (m_M_reach N v3 (4 : Int32) S) (x_wV h goA y_M_reach kM_40 ⟨by decide, by decide⟩ rfl rfl) (oM_0 ad ca) rfl rfl (Nat.le_of_ble_eq_true rfl) dM_fetch_26 rfl (fun v4 S5 => ?_)
  refine x_aload_n (nx := 30) (i := 0) h dM_fetch_29 rfl 1 rfl rfl ?_
  refine x_get (nx := 33) h (gM_0_1 ad ca _) (List.mem_cons_of_mem _ kM_13) dM_fetch_30 rfl ?_
  refine x_bipush (nx := 35) (v := (21 : Int32)) h dM_fetch_33 (by decide) rfl ?_
  refine x_aload_n (nx := 36) (i := 0) h dM_fetch_35 rfl 1 rfl rfl ?_
  refine x_get (nx := 39) h (gM_0_1 ad ca _) (List.mem_cons_of_mem _ kM_13) dM_fetch_36 rfl ?_
  refine x_bipush (nx := 41) (v := (21 : Int32)) h dM_fetch_39 (by decide) rfl ?_
  refine x_iald (nx := 42) h (aM_2 ad ca) dM_fetch_41 rfl (fun v6 => ?_)
  refine x_iconst (nx := 43) (v := (1 : Int32)) h dM_fetch_42 (by decide) rfl ?_
  refine x_iadd (nx := 44) h dM_fetch_43 rfl ?_
  refine x_ldc (nx := 46) (v := (65535 : Int32)) h (List.mem_cons_of_mem _ kM_44) dM_fetch_44 rfl ?_
  refine x_iand (nx := 47) h dM_fetch_46 rfl ?_
  refine x_iast (nx := 48) h (aM_2 ad ca) dM_fetch_47 rfl (fun S7 => ?_)
  refine x_aload_n (nx := 49) (i := 0) h dM_fetch_48 rfl 1 rfl rfl ?_
  refine x_cVv (nx := 52) (rest := []) (As := []) h (m_M_refresh N S7) (x_wV h goA y_M_refresh kM_45 ⟨by decide, by decide⟩ rfl rfl) (oM_0 ad ca) rfl rfl (Nat.le_of_ble_eq_true rfl) dM_fetch_49 rfl (fun v8 S9 => ?_)
  refine x_iload_n (nx := 53) (i := 1) h dM_fetch_52 rfl 0 rfl rfl ?_
  exact x_iret h dM_fetch_53
set_option maxHeartbeats 4000000 in
set_option maxRecDepth 100000 in
theorem m_M_next {l : Launch} {D : va_G} {ad : Nat → Nat} {ca : Nat → ClassId} (N : Nat) (S : xSt) : xM l D clA (tysM ca) (cellsM ad ca) nW yM_next (Cond.code yM_next cM_next 2 (some .int) :: wA) rm_M_next true [.ref (ad 0)] S (f_M_next N S) := by
  refine x_met (cc := cM_next) (maxL := 2) (ret := (some .int)) (by decide) rfl [.ref (ad 0)] (lv0 := [(0, .ref (ad 0))]) (Nat.le_of_ble_eq_true rfl) rfl ?_
  intro p e s m args below meth c A h
  unfold f_M_next
  refine x_aload_n (nx := 1) (i := 0) h dM_next_0 rfl 0 rfl rfl ?_
  refine x_aload_n (nx := 2) (i := 0) h dM_next_1 rfl 0 rfl rfl ?_
  refine x_get (nx := 5) h (gM_0_1 ad ca _) (List.mem_cons_of_mem _ kM_13) dM_next_2 rfl ?_
  refine x_bipush (nx := 7) (v := (21 : Int32)) h dM_next_5 (by decide) rfl ?_
  refine x_iald (nx := 8) h (aM_2 ad ca) dM_next_7 rfl (fun v1 => ?_)
  refine x_cVi (nx := 11) (rest := []) (As := [.int v1]) h (m_M_read N v1 S) (x_wV h goA y_M_read kM_48 ⟨by decide, by decide⟩ rfl rfl) (oM_0 ad ca) rfl rfl (Nat.le_of_ble_eq_true rfl) dM_next_8 rfl (fun v2 S3 => ?_)
  refine x_istore_n (nx := 12) (i := 1) (lv' := [(1, .int v2), (0, .ref (ad 0))]) h dM_next_11 rfl (by decide) rfl rfl ?_
  refine x_aload_n (nx := 13) (i := 0) h dM_next_12 rfl 1 rfl rfl ?_
  refine x_get (nx := 16) h (gM_0_1 ad ca _) (List.mem_cons_of_mem _ kM_13) dM_next_13 rfl ?_
  refine x_bipush (nx := 18) (v := (21 : Int32)) h dM_next_16 (by decide) rfl ?_
  refine x_aload_n (nx := 19) (i := 0) h dM_next_18 rfl 1 rfl rfl ?_
  refine x_get (nx := 22) h (gM_0_1 ad ca _) (List.mem_cons_of_mem _ kM_13) dM_next_19 rfl ?_
  refine x_bipush (nx := 24) (v := (21 : Int32)) h dM_next_22 (by decide) rfl ?_
  refine x_iald (nx := 25) h (aM_2 ad ca) dM_next_24 rfl (fun v4 => ?_)
  refine x_iconst (nx := 26) (v := (1 : Int32)) h dM_next_25 (by decide) rfl ?_
  refine x_iadd (nx := 27) h dM_next_26 rfl ?_
  refine x_ldc (nx := 29) (v := (65535 : Int32)) h (List.mem_cons_of_mem _ kM_44) dM_next_27 rfl ?_
  refine x_iand (nx := 30) h dM_next_29 rfl ?_
  refine x_iast (nx := 31) h (aM_2 ad ca) dM_next_30 rfl (fun S5 => ?_)
  refine x_iload_n (nx := 32) (i := 1) h dM_next_31 rfl 0 rfl rfl ?_
  exact x_iret h dM_next_32
set_option maxHeartbeats 4000000 in
set_option maxRecDepth 100000 in
theorem j_M_signed_15 {l : Launch} {D : va_G} {ad : Nat → Nat} {ca : Nat → ClassId} {p : Program} {e : Env} {s : State} {m : MethodId} {args : Array Value} {below : List Frame} {meth : Method} {c : Code} {A : Nat → Prop} (h : xC p s m args meth c cM_signed 1 (Cond.code yM_signed cM_signed 1 (some .int) :: wA) nW yM_signed.cls (some .int) D clA (tysM ca) A) (N : Nat) (w0 : Int32) (S : xSt) : xJ p l e rm_M_signed s m args below meth c D clA (tysM ca) (cellsM ad ca) A true 1 15 [] [.int w0] S (f_M_signed_15 N w0 S) := by
  unfold f_M_signed_15
  exact x_iret h dM_signed_15
set_option maxHeartbeats 4000000 in
set_option maxRecDepth 100000 in
theorem m_M_signed {l : Launch} {D : va_G} {ad : Nat → Nat} {ca : Nat → ClassId} (N : Nat) (a0 : Int32) (S : xSt) : xM l D clA (tysM ca) (cellsM ad ca) nW yM_signed (Cond.code yM_signed cM_signed 1 (some .int) :: wA) rm_M_signed true [.int a0] S (f_M_signed N a0 S) := by
  refine x_met (cc := cM_signed) (maxL := 1) (ret := (some .int)) (by decide) rfl [.int a0] (lv0 := [(0, .int a0)]) (Nat.le_of_ble_eq_true rfl) rfl ?_
  intro p e s m args below meth c A h
  unfold f_M_signed
  refine x_iload_n (nx := 1) (i := 0) h dM_signed_0 rfl 0 rfl rfl ?_
  refine x_bipush (nx := 3) (v := (127 : Int32)) h dM_signed_1 (by decide) rfl ?_
  refine x_icmp_le (nx := 6) (tgt := 14) h dM_signed_3 (by decide) rfl ?_ ?_
  · refine x_iload_n (nx := 15) (i := 0) h dM_signed_14 rfl 0 rfl rfl ?_
    exact x_sub [] rfl (j_M_signed_15 h N a0 S)
  · refine x_iload_n (nx := 7) (i := 0) h dM_signed_6 rfl 0 rfl rfl ?_
    refine x_sipush (nx := 10) (v := (256 : Int32)) h dM_signed_7 (by decide) rfl ?_
    refine x_isub (nx := 11) h dM_signed_10 rfl ?_
    refine x_goto (tgt := 15) h dM_signed_11 (by decide) ?_
    exact x_sub [] rfl (j_M_signed_15 h N (a0 - (256 : Int32)) S)
set_option maxHeartbeats 4000000 in
set_option maxRecDepth 100000 in
theorem m_M_twoNext {l : Launch} {D : va_G} {ad : Nat → Nat} {ca : Nat → ClassId} (N : Nat) (S : xSt) : xM l D clA (tysM ca) (cellsM ad ca) nW yM_twoNext (Cond.code yM_twoNext cM_twoNext 3 (some .int) :: wA) rm_M_twoNext true [.ref (ad 0)] S (f_M_twoNext N S) := by
  refine x_met (cc := cM_twoNext) (maxL := 3) (ret := (some .int)) (by decide) rfl [.ref (ad 0)] (lv0 := [(0, .ref (ad 0))]) (Nat.le_of_ble_eq_true rfl) rfl ?_
  intro p e s m args below meth c A h
  unfold f_M_twoNext
  refine x_aload_n (nx := 1) (i := 0) h dM_twoNext_0 rfl 0 rfl rfl ?_
  refine x_cVi (nx := 4) (rest := []) (As := []) h (m_M_next N S) (x_wV h goA y_M_next kM_52 ⟨by decide, by decide⟩ rfl rfl) (oM_0 ad ca) rfl rfl (Nat.le_of_ble_eq_true rfl) dM_twoNext_1 rfl (fun v1 S2 => ?_)
  refine x_istore_n (nx := 5) (i := 1) (lv' := [(1, .int v1), (0, .ref (ad 0))]) h dM_twoNext_4 rfl (by decide) rfl rfl ?_
  refine x_aload_n (nx := 6) (i := 0) h dM_twoNext_5 rfl 1 rfl rfl ?_
  refine x_cVi (nx := 9) (rest := []) (As := []) h (m_M_next N S2) (x_wV h goA y_M_next kM_52 ⟨by decide, by decide⟩ rfl rfl) (oM_0 ad ca) rfl rfl (Nat.le_of_ble_eq_true rfl) dM_twoNext_6 rfl (fun v3 S4 => ?_)
  refine x_istore_n (nx := 10) (i := 2) (lv' := [(2, .int v3), (1, .int v1), (0, .ref (ad 0))]) h dM_twoNext_9 rfl (by decide) rfl rfl ?_
  refine x_sipush (nx := 13) (v := (256 : Int32)) h dM_twoNext_10 (by decide) rfl ?_
  refine x_iload_n (nx := 14) (i := 2) h dM_twoNext_13 rfl 0 rfl rfl ?_
  refine x_imul (nx := 15) h dM_twoNext_14 rfl ?_
  refine x_iload_n (nx := 16) (i := 1) h dM_twoNext_15 rfl 1 rfl rfl ?_
  refine x_iadd (nx := 17) h dM_twoNext_16 rfl ?_
  exact x_iret h dM_twoNext_17
set_option maxHeartbeats 4000000 in
set_option maxRecDepth 100000 in
theorem m_M_two {l : Launch} {D : va_G} {ad : Nat → Nat} {ca : Nat → ClassId} (N : Nat) (a1 : Int32) (S : xSt) : xM l D clA (tysM ca) (cellsM ad ca) nW yM_two (Cond.code yM_two cM_two 4 (some .int) :: wA) rm_M_two true [.ref (ad 0), .int a1] S (f_M_two N a1 S) := by
  refine x_met (cc := cM_two) (maxL := 4) (ret := (some .int)) (by decide) rfl [.ref (ad 0), .int a1] (lv0 := [(0, .ref (ad 0)), (1, .int a1)]) (Nat.le_of_ble_eq_true rfl) rfl ?_
  intro p e s m args below meth c A h
  unfold f_M_two
  refine x_aload_n (nx := 1) (i := 0) h dM_two_0 rfl 0 rfl rfl ?_
  refine x_iload_n (nx := 2) (i := 1) h dM_two_1 rfl 1 rfl rfl ?_
  refine x_cVi (nx := 5) (rest := []) (As := [.int a1]) h (m_M_read N a1 S) (x_wV h goA y_M_read kM_48 ⟨by decide, by decide⟩ rfl rfl) (oM_0 ad ca) rfl rfl (Nat.le_of_ble_eq_true rfl) dM_two_2 rfl (fun v1 S2 => ?_)
  refine x_istore_n (nx := 6) (i := 2) (lv' := [(2, .int v1), (0, .ref (ad 0)), (1, .int a1)]) h dM_two_5 rfl (by decide) rfl rfl ?_
  refine x_aload_n (nx := 7) (i := 0) h dM_two_6 rfl 1 rfl rfl ?_
  refine x_iload_n (nx := 8) (i := 1) h dM_two_7 rfl 2 rfl rfl ?_
  refine x_iconst (nx := 9) (v := (1 : Int32)) h dM_two_8 (by decide) rfl ?_
  refine x_iadd (nx := 10) h dM_two_9 rfl ?_
  refine x_cVi (nx := 13) (rest := []) (As := [.int (a1 + (1 : Int32))]) h (m_M_read N (a1 + (1 : Int32)) S2) (x_wV h goA y_M_read kM_48 ⟨by decide, by decide⟩ rfl rfl) (oM_0 ad ca) rfl rfl (Nat.le_of_ble_eq_true rfl) dM_two_10 rfl (fun v3 S4 => ?_)
  refine x_istore_n (nx := 14) (i := 3) (lv' := [(3, .int v3), (2, .int v1), (0, .ref (ad 0)), (1, .int a1)]) h dM_two_13 rfl (by decide) rfl rfl ?_
  refine x_sipush (nx := 17) (v := (256 : Int32)) h dM_two_14 (by decide) rfl ?_
  refine x_iload_n (nx := 18) (i := 3) h dM_two_17 rfl 0 rfl rfl ?_
  refine x_imul (nx := 19) h dM_two_18 rfl ?_
  refine x_iload_n (nx := 20) (i := 2) h dM_two_19 rfl 1 rfl rfl ?_
  refine x_iadd (nx := 21) h dM_two_20 rfl ?_
  exact x_iret h dM_two_21
set_option maxHeartbeats 4000000 in
set_option maxRecDepth 100000 in
theorem m_M_setTwo {l : Launch} {D : va_G} {ad : Nat → Nat} {ca : Nat → ClassId} (N : Nat) (a1 a2 : Int32) (S : xSt) : xM l D clA (tysM ca) (cellsM ad ca) nW yM_setTwo (Cond.code yM_setTwo cM_setTwo 3 none :: wA) rm_M_setTwo false [.ref (ad 0), .int a1, .int a2] S (f_M_setTwo N a1 a2 S) := by
  refine x_met (cc := cM_setTwo) (maxL := 3) (ret := none) (by decide) rfl [.ref (ad 0), .int a1, .int a2] (lv0 := [(0, .ref (ad 0)), (1, .int a1), (2, .int a2)]) (Nat.le_of_ble_eq_true rfl) rfl ?_
  intro p e s m args below meth c A h
  unfold f_M_setTwo
  refine x_aload_n (nx := 1) (i := 0) h dM_setTwo_0 rfl 0 rfl rfl ?_
  refine x_iload_n (nx := 2) (i := 1) h dM_setTwo_1 rfl 1 rfl rfl ?_
  refine x_iload_n (nx := 3) (i := 2) h dM_setTwo_2 rfl 2 rfl rfl ?_
  refine x_cVv (nx := 6) (rest := []) (As := [.int a1, .int a2]) h (m_M_write N a1 a2 S) (x_wV h goA y_M_write kM_56 ⟨by decide, by decide⟩ rfl rfl) (oM_0 ad ca) rfl rfl (Nat.le_of_ble_eq_true rfl) dM_setTwo_3 rfl (fun v1 S2 => ?_)
  refine x_aload_n (nx := 7) (i := 0) h dM_setTwo_6 rfl 0 rfl rfl ?_
  refine x_iload_n (nx := 8) (i := 1) h dM_setTwo_7 rfl 1 rfl rfl ?_
  refine x_iconst (nx := 9) (v := (1 : Int32)) h dM_setTwo_8 (by decide) rfl ?_
  refine x_iadd (nx := 10) h dM_setTwo_9 rfl ?_
  refine x_iload_n (nx := 11) (i := 2) h dM_setTwo_10 rfl 2 rfl rfl ?_
  refine x_bipush (nx := 13) (v := (8 : Int32)) h dM_setTwo_11 (by decide) rfl ?_
  refine x_ishr (nx := 14) h dM_setTwo_13 rfl ?_
  refine x_cVv (nx := 17) (rest := []) (As := [.int (a1 + (1 : Int32)), .int (a2 >>> ((8 : Int32) &&& 31))]) h (m_M_write N (a1 + (1 : Int32)) (a2 >>> ((8 : Int32) &&& 31)) S2) (x_wV h goA y_M_write kM_56 ⟨by decide, by decide⟩ rfl rfl) (oM_0 ad ca) rfl rfl (Nat.le_of_ble_eq_true rfl) dM_setTwo_14 rfl (fun v3 S4 => ?_)
  exact x_vret h dM_setTwo_17
set_option maxHeartbeats 4000000 in
set_option maxRecDepth 100000 in
theorem m_M_pair {l : Launch} {D : va_G} {ad : Nat → Nat} {ca : Nat → ClassId} (N : Nat) (a1 : Int32) (S : xSt) : xM l D clA (tysM ca) (cellsM ad ca) nW yM_pair (Cond.code yM_pair cM_pair 2 (some .int) :: wA) rm_M_pair true [.ref (ad 0), .int a1] S (f_M_pair N a1 S) := by
  refine x_met (cc := cM_pair) (maxL := 2) (ret := (some .int)) (by decide) rfl [.ref (ad 0), .int a1] (lv0 := [(0, .ref (ad 0)), (1, .int a1)]) (Nat.le_of_ble_eq_true rfl) rfl ?_
  intro p e s m args below meth c A h
  unfold f_M_pair
  refine x_sipush (nx := 3) (v := (256 : Int32)) h dM_pair_0 (by decide) rfl ?_
  refine x_aload_n (nx := 4) (i := 0) h dM_pair_3 rfl 0 rfl rfl ?_
  refine x_get (nx := 7) h (gM_0_1 ad ca _) (List.mem_cons_of_mem _ kM_13) dM_pair_4 rfl ?_
  refine x_iload_n (nx := 8) (i := 1) h dM_pair_7 rfl 1 rfl rfl ?_
  refine x_iald (nx := 9) h (aM_2 ad ca) dM_pair_8 rfl (fun v1 => ?_)
  refine x_imul (nx := 10) h dM_pair_9 rfl ?_
  refine x_aload_n (nx := 11) (i := 0) h dM_pair_10 rfl 0 rfl rfl ?_
  refine x_get (nx := 14) h (gM_0_1 ad ca _) (List.mem_cons_of_mem _ kM_13) dM_pair_11 rfl ?_
  refine x_iload_n (nx := 15) (i := 1) h dM_pair_14 rfl 1 rfl rfl ?_
  refine x_iconst (nx := 16) (v := (1 : Int32)) h dM_pair_15 (by decide) rfl ?_
  refine x_iadd (nx := 17) h dM_pair_16 rfl ?_
  refine x_iald (nx := 18) h (aM_2 ad ca) dM_pair_17 rfl (fun v2 => ?_)
  refine x_iadd (nx := 19) h dM_pair_18 rfl ?_
  exact x_iret h dM_pair_19
set_option maxHeartbeats 4000000 in
set_option maxRecDepth 100000 in
theorem m_M_setPair {l : Launch} {D : va_G} {ad : Nat → Nat} {ca : Nat → ClassId} (N : Nat) (a1 a2 : Int32) (S : xSt) : xM l D clA (tysM ca) (cellsM ad ca) nW yM_setPair (Cond.code yM_setPair cM_setPair 3 none :: wA) rm_M_setPair false [.ref (ad 0), .int a1, .int a2] S (f_M_setPair N a1 a2 S) := by
  refine x_met (cc := cM_setPair) (maxL := 3) (ret := none) (by decide) rfl [.ref (ad 0), .int a1, .int a2] (lv0 := [(0, .ref (ad 0)), (1, .int a1), (2, .int a2)]) (Nat.le_of_ble_eq_true rfl) rfl ?_
  intro p e s m args below meth c A h
  unfold f_M_setPair
  refine x_aload_n (nx := 1) (i := 0) h dM_setPair_0 rfl 0 rfl rfl ?_
  refine x_get (nx := 4) h (gM_0_1 ad ca _) (List.mem_cons_of_mem _ kM_13) dM_setPair_1 rfl ?_
  refine x_iload_n (nx := 5) (i := 1) h dM_setPair_4 rfl 1 rfl rfl ?_
  refine x_iload_n (nx := 6) (i := 2) h dM_setPair_5 rfl 2 rfl rfl ?_
  refine x_bipush (nx := 8) (v := (8 : Int32)) h dM_setPair_6 (by decide) rfl ?_
  refine x_ishr (nx := 9) h dM_setPair_8 rfl ?_
  refine x_sipush (nx := 12) (v := (255 : Int32)) h dM_setPair_9 (by decide) rfl ?_
  refine x_iand (nx := 13) h dM_setPair_12 rfl ?_
  refine x_iast (nx := 14) h (aM_2 ad ca) dM_setPair_13 rfl (fun S1 => ?_)
  refine x_aload_n (nx := 15) (i := 0) h dM_setPair_14 rfl 0 rfl rfl ?_
  refine x_get (nx := 18) h (gM_0_1 ad ca _) (List.mem_cons_of_mem _ kM_13) dM_setPair_15 rfl ?_
  refine x_iload_n (nx := 19) (i := 1) h dM_setPair_18 rfl 1 rfl rfl ?_
  refine x_iconst (nx := 20) (v := (1 : Int32)) h dM_setPair_19 (by decide) rfl ?_
  refine x_iadd (nx := 21) h dM_setPair_20 rfl ?_
  refine x_iload_n (nx := 22) (i := 2) h dM_setPair_21 rfl 2 rfl rfl ?_
  refine x_sipush (nx := 25) (v := (255 : Int32)) h dM_setPair_22 (by decide) rfl ?_
  refine x_iand (nx := 26) h dM_setPair_25 rfl ?_
  refine x_iast (nx := 27) h (aM_2 ad ca) dM_setPair_26 rfl (fun S2 => ?_)
  exact x_vret h dM_setPair_27
set_option maxHeartbeats 4000000 in
set_option maxRecDepth 100000 in
theorem j_M_main_25 {l : Launch} {D : va_G} {ad : Nat → Nat} {ca : Nat → ClassId} {p : Program} {e : Env} {s : State} {m : MethodId} {args : Array Value} {below : List Frame} {meth : Method} {c : Code} {A : Nat → Prop} (h : xC p s m args meth c cM_main 1 (Cond.code yM_main cM_main 1 (some .int) :: wA) nW yM_main.cls (some .int) D clA (tysM ca) A) (N : Nat) (w0 : Int32) (S : xSt) : xJ p l e rm_M_main s m args below meth c D clA (tysM ca) (cellsM ad ca) A true 1 25 [] [.int w0] S (f_M_main_25 N w0 S) := by
  unfold f_M_main_25
  exact x_iret h dM_main_25
set_option maxHeartbeats 4000000 in
set_option maxRecDepth 100000 in
theorem m_M_main {l : Launch} {D : va_G} {ad : Nat → Nat} {ca : Nat → ClassId} (N : Nat) (S : xSt) : xM l D clA (tysM ca) (cellsM ad ca) nW yM_main (Cond.code yM_main cM_main 1 (some .int) :: wA) rm_M_main true [.ref (ad 0)] S (f_M_main N S) := by
  refine x_met (cc := cM_main) (maxL := 1) (ret := (some .int)) (by decide) rfl [.ref (ad 0)] (lv0 := [(0, .ref (ad 0))]) (Nat.le_of_ble_eq_true rfl) rfl ?_
  intro p e s m args below meth c A h
  unfold f_M_main
  refine x_aload_n (nx := 1) (i := 0) h dM_main_0 rfl 0 rfl rfl ?_
  refine x_get (nx := 4) h (gM_0_4 ad ca _) (List.mem_cons_of_mem _ kM_59) dM_main_1 rfl ?_
  refine x_if_ne (nx := 7) (tgt := 16) h dM_main_4 (by decide) rfl ?_ ?_
  · refine x_aload_n (nx := 17) (i := 0) h dM_main_16 rfl 0 rfl rfl ?_
    refine x_get (nx := 20) h (gM_0_1 ad ca _) (List.mem_cons_of_mem _ kM_13) dM_main_17 rfl ?_
    refine x_aload_n (nx := 21) (i := 0) h dM_main_20 rfl 0 rfl rfl ?_
    refine x_get (nx := 24) h (gM_0_4 ad ca _) (List.mem_cons_of_mem _ kM_59) dM_main_21 rfl ?_
    refine x_iald (nx := 25) h (aM_2 ad ca) dM_main_24 rfl (fun v1 => ?_)
    exact x_sub [] rfl (j_M_main_25 h N v1 S)
  · refine x_aload_n (nx := 8) (i := 0) h dM_main_7 rfl 0 rfl rfl ?_
    refine x_bipush (nx := 10) (v := (6 : Int32)) h dM_main_8 (by decide) rfl ?_
    refine x_cVi (nx := 13) (rest := []) (As := [.int (6 : Int32)]) h (m_M_pair N (6 : Int32) S) (x_wV h goA y_M_pair kM_62 ⟨by decide, by decide⟩ rfl rfl) (oM_0 ad ca) rfl rfl (Nat.le_of_ble_eq_true rfl) dM_main_10 rfl (fun v2 S3 => ?_)
    refine x_goto (tgt := 25) h dM_main_13 (by decide) ?_
    exact x_sub [] rfl (j_M_main_25 h N v2 S3)
set_option maxHeartbeats 4000000 in
set_option maxRecDepth 100000 in
theorem j_M_setMain_30 {l : Launch} {D : va_G} {ad : Nat → Nat} {ca : Nat → ClassId} {p : Program} {e : Env} {s : State} {m : MethodId} {args : Array Value} {below : List Frame} {meth : Method} {c : Code} {A : Nat → Prop} (h : xC p s m args meth c cM_setMain 2 (Cond.code yM_setMain cM_setMain 2 none :: wA) nW yM_setMain.cls none D clA (tysM ca) A) (N : Nat) (S : xSt) : xJ p l e rm_M_setMain s m args below meth c D clA (tysM ca) (cellsM ad ca) A false 2 30 [] [] S (f_M_setMain_30 N S) := by
  unfold f_M_setMain_30
  exact x_vret h dM_setMain_30
set_option maxHeartbeats 4000000 in
set_option maxRecDepth 100000 in
theorem m_M_setMain {l : Launch} {D : va_G} {ad : Nat → Nat} {ca : Nat → ClassId} (N : Nat) (a1 : Int32) (S : xSt) : xM l D clA (tysM ca) (cellsM ad ca) nW yM_setMain (Cond.code yM_setMain cM_setMain 2 none :: wA) rm_M_setMain false [.ref (ad 0), .int a1] S (f_M_setMain N a1 S) := by
  refine x_met (cc := cM_setMain) (maxL := 2) (ret := none) (by decide) rfl [.ref (ad 0), .int a1] (lv0 := [(0, .ref (ad 0)), (1, .int a1)]) (Nat.le_of_ble_eq_true rfl) rfl ?_
  intro p e s m args below meth c A h
  unfold f_M_setMain
  refine x_aload_n (nx := 1) (i := 0) h dM_setMain_0 rfl 0 rfl rfl ?_
  refine x_get (nx := 4) h (gM_0_4 ad ca _) (List.mem_cons_of_mem _ kM_59) dM_setMain_1 rfl ?_
  refine x_if_ne (nx := 7) (tgt := 17) h dM_setMain_4 (by decide) rfl ?_ ?_
  · refine x_aload_n (nx := 18) (i := 0) h dM_setMain_17 rfl 0 rfl rfl ?_
    refine x_get (nx := 21) h (gM_0_1 ad ca _) (List.mem_cons_of_mem _ kM_13) dM_setMain_18 rfl ?_
    refine x_aload_n (nx := 22) (i := 0) h dM_setMain_21 rfl 0 rfl rfl ?_
    refine x_get (nx := 25) h (gM_0_4 ad ca _) (List.mem_cons_of_mem _ kM_59) dM_setMain_22 rfl ?_
    refine x_iload_n (nx := 26) (i := 1) h dM_setMain_25 rfl 1 rfl rfl ?_
    refine x_ldc (nx := 28) (v := (65535 : Int32)) h (List.mem_cons_of_mem _ kM_44) dM_setMain_26 rfl ?_
    refine x_iand (nx := 29) h dM_setMain_28 rfl ?_
    refine x_iast (nx := 30) h (aM_2 ad ca) dM_setMain_29 rfl (fun S1 => ?_)
    exact x_sub [] rfl (j_M_setMain_30 h N S1)
  · refine x_aload_n (nx := 8) (i := 0) h dM_setMain_7 rfl 0 rfl rfl ?_
    refine x_bipush (nx := 10) (v := (6 : Int32)) h dM_setMain_8 (by decide) rfl ?_
    refine x_iload_n (nx := 11) (i := 1) h dM_setMain_10 rfl 1 rfl rfl ?_
    refine x_cVv (nx := 14) (rest := []) (As := [.int (6 : Int32), .int a1]) h (m_M_setPair N (6 : Int32) a1 S) (x_wV h goA y_M_setPair kM_65 ⟨by decide, by decide⟩ rfl rfl) (oM_0 ad ca) rfl rfl (Nat.le_of_ble_eq_true rfl) dM_setMain_11 rfl (fun v2 S3 => ?_)
    refine x_goto (tgt := 30) h dM_setMain_14 (by decide) ?_
    exact x_sub [] rfl (j_M_setMain_30 h N S3)
set_option maxHeartbeats 4000000 in
set_option maxRecDepth 100000 in
theorem j_M_w_36 {l : Launch} {D : va_G} {ad : Nat → Nat} {ca : Nat → ClassId} {p : Program} {e : Env} {s : State} {m : MethodId} {args : Array Value} {below : List Frame} {meth : Method} {c : Code} {A : Nat → Prop} (h : xC p s m args meth c cM_w 2 (Cond.code yM_w cM_w 2 (some .int) :: wA) nW yM_w.cls (some .int) D clA (tysM ca) A) (N : Nat) (w0 : Int32) (S : xSt) : xJ p l e rm_M_w s m args below meth c D clA (tysM ca) (cellsM ad ca) A true 2 36 [] [.int w0] S (f_M_w_36 N w0 S) := by
  unfold f_M_w_36
  exact x_iret h dM_w_36
set_option maxHeartbeats 4000000 in
set_option maxRecDepth 100000 in
theorem m_M_w {l : Launch} {D : va_G} {ad : Nat → Nat} {ca : Nat → ClassId} (N : Nat) (a1 : Int32) (S : xSt) : xM l D clA (tysM ca) (cellsM ad ca) nW yM_w (Cond.code yM_w cM_w 2 (some .int) :: wA) rm_M_w true [.ref (ad 0), .int a1] S (f_M_w N a1 S) := by
  refine x_met (cc := cM_w) (maxL := 2) (ret := (some .int)) (by decide) rfl [.ref (ad 0), .int a1] (lv0 := [(0, .ref (ad 0)), (1, .int a1)]) (Nat.le_of_ble_eq_true rfl) rfl ?_
  intro p e s m args below meth c A h
  unfold f_M_w
  refine x_iload_n (nx := 1) (i := 1) h dM_w_0 rfl 1 rfl rfl ?_
  refine x_iconst (nx := 2) (v := (3 : Int32)) h dM_w_1 (by decide) rfl ?_
  refine x_icmp_ne (nx := 5) (tgt := 15) h dM_w_2 (by decide) rfl ?_ ?_
  · refine x_iload_n (nx := 16) (i := 1) h dM_w_15 rfl 1 rfl rfl ?_
    refine x_iconst (nx := 17) (v := (2 : Int32)) h dM_w_16 (by decide) rfl ?_
    refine x_icmp_ne (nx := 20) (tgt := 27) h dM_w_17 (by decide) rfl ?_ ?_
    · refine x_aload_n (nx := 28) (i := 0) h dM_w_27 rfl 0 rfl rfl ?_
      refine x_iconst (nx := 29) (v := (2 : Int32)) h dM_w_28 (by decide) rfl ?_
      refine x_iconst (nx := 30) (v := (2 : Int32)) h dM_w_29 (by decide) rfl ?_
      refine x_iload_n (nx := 31) (i := 1) h dM_w_30 rfl 1 rfl rfl ?_
      refine x_imul (nx := 32) h dM_w_31 rfl ?_
      refine x_iadd (nx := 33) h dM_w_32 rfl ?_
      refine x_cVi (nx := 36) (rest := []) (As := [.int ((2 : Int32) + ((2 : Int32) * a1))]) h (m_M_pair N ((2 : Int32) + ((2 : Int32) * a1)) S) (x_wV h goA y_M_pair kM_62 ⟨by decide, by decide⟩ rfl rfl) (oM_0 ad ca) rfl rfl (Nat.le_of_ble_eq_true rfl) dM_w_33 rfl (fun v1 S2 => ?_)
      exact x_sub [] rfl (j_M_w_36 h N v1 S2)
    · refine x_aload_n (nx := 21) (i := 0) h dM_w_20 rfl 0 rfl rfl ?_
      refine x_cVi (nx := 24) (rest := []) (As := []) h (m_M_main N S) (x_wV h goA y_M_main kM_68 ⟨by decide, by decide⟩ rfl rfl) (oM_0 ad ca) rfl rfl (Nat.le_of_ble_eq_true rfl) dM_w_21 rfl (fun v3 S4 => ?_)
      refine x_goto (tgt := 36) h dM_w_24 (by decide) ?_
      exact x_sub [] rfl (j_M_w_36 h N v3 S4)
  · refine x_aload_n (nx := 6) (i := 0) h dM_w_5 rfl 0 rfl rfl ?_
    refine x_get (nx := 9) h (gM_0_1 ad ca _) (List.mem_cons_of_mem _ kM_13) dM_w_6 rfl ?_
    refine x_bipush (nx := 11) (v := (20 : Int32)) h dM_w_9 (by decide) rfl ?_
    refine x_iald (nx := 12) h (aM_2 ad ca) dM_w_11 rfl (fun v5 => ?_)
    refine x_goto (tgt := 36) h dM_w_12 (by decide) ?_
    exact x_sub [] rfl (j_M_w_36 h N v5 S)
set_option maxHeartbeats 4000000 in
set_option maxRecDepth 100000 in
theorem j_M_setW_42 {l : Launch} {D : va_G} {ad : Nat → Nat} {ca : Nat → ClassId} {p : Program} {e : Env} {s : State} {m : MethodId} {args : Array Value} {below : List Frame} {meth : Method} {c : Code} {A : Nat → Prop} (h : xC p s m args meth c cM_setW 3 (Cond.code yM_setW cM_setW 3 none :: wA) nW yM_setW.cls none D clA (tysM ca) A) (N : Nat) (S : xSt) : xJ p l e rm_M_setW s m args below meth c D clA (tysM ca) (cellsM ad ca) A false 3 42 [] [] S (f_M_setW_42 N S) := by
  unfold f_M_setW_42
  exact x_vret h dM_setW_42
set_option maxHeartbeats 4000000 in
set_option maxRecDepth 100000 in
theorem m_M_setW {l : Launch} {D : va_G} {ad : Nat → Nat} {ca : Nat → ClassId} (N : Nat) (a1 a2 : Int32) (S : xSt) : xM l D clA (tysM ca) (cellsM ad ca) nW yM_setW (Cond.code yM_setW cM_setW 3 none :: wA) rm_M_setW false [.ref (ad 0), .int a1, .int a2] S (f_M_setW N a1 a2 S) := by
  refine x_met (cc := cM_setW) (maxL := 3) (ret := none) (by decide) rfl [.ref (ad 0), .int a1, .int a2] (lv0 := [(0, .ref (ad 0)), (1, .int a1), (2, .int a2)]) (Nat.le_of_ble_eq_true rfl) rfl ?_
  intro p e s m args below meth c A h
  unfold f_M_setW
  refine x_iload_n (nx := 1) (i := 1) h dM_setW_0 rfl 1 rfl rfl ?_
  refine x_iconst (nx := 2) (v := (3 : Int32)) h dM_setW_1 (by decide) rfl ?_
  refine x_icmp_ne (nx := 5) (tgt := 19) h dM_setW_2 (by decide) rfl ?_ ?_
  · refine x_iload_n (nx := 20) (i := 1) h dM_setW_19 rfl 1 rfl rfl ?_
    refine x_iconst (nx := 21) (v := (2 : Int32)) h dM_setW_20 (by decide) rfl ?_
    refine x_icmp_ne (nx := 24) (tgt := 32) h dM_setW_21 (by decide) rfl ?_ ?_
    · refine x_aload_n (nx := 33) (i := 0) h dM_setW_32 rfl 0 rfl rfl ?_
      refine x_iconst (nx := 34) (v := (2 : Int32)) h dM_setW_33 (by decide) rfl ?_
      refine x_iconst (nx := 35) (v := (2 : Int32)) h dM_setW_34 (by decide) rfl ?_
      refine x_iload_n (nx := 36) (i := 1) h dM_setW_35 rfl 1 rfl rfl ?_
      refine x_imul (nx := 37) h dM_setW_36 rfl ?_
      refine x_iadd (nx := 38) h dM_setW_37 rfl ?_
      refine x_iload_n (nx := 39) (i := 2) h dM_setW_38 rfl 2 rfl rfl ?_
      refine x_cVv (nx := 42) (rest := []) (As := [.int ((2 : Int32) + ((2 : Int32) * a1)), .int a2]) h (m_M_setPair N ((2 : Int32) + ((2 : Int32) * a1)) a2 S) (x_wV h goA y_M_setPair kM_65 ⟨by decide, by decide⟩ rfl rfl) (oM_0 ad ca) rfl rfl (Nat.le_of_ble_eq_true rfl) dM_setW_39 rfl (fun v1 S2 => ?_)
      exact x_sub [] rfl (j_M_setW_42 h N S2)
    · refine x_aload_n (nx := 25) (i := 0) h dM_setW_24 rfl 0 rfl rfl ?_
      refine x_iload_n (nx := 26) (i := 2) h dM_setW_25 rfl 2 rfl rfl ?_
      refine x_cVv (nx := 29) (rest := []) (As := [.int a2]) h (m_M_setMain N a2 S) (x_wV h goA y_M_setMain kM_71 ⟨by decide, by decide⟩ rfl rfl) (oM_0 ad ca) rfl rfl (Nat.le_of_ble_eq_true rfl) dM_setW_26 rfl (fun v3 S4 => ?_)
      refine x_goto (tgt := 42) h dM_setW_29 (by decide) ?_
      exact x_sub [] rfl (j_M_setW_42 h N S4)
  · refine x_aload_n (nx := 6) (i := 0) h dM_setW_5 rfl 0 rfl rfl ?_
    refine x_get (nx := 9) h (gM_0_1 ad ca _) (List.mem_cons_of_mem _ kM_13) dM_setW_6 rfl ?_
    refine x_bipush (nx := 11) (v := (20 : Int32)) h dM_setW_9 (by decide) rfl ?_
    refine x_iload_n (nx := 12) (i := 2) h dM_setW_11 rfl 2 rfl rfl ?_
    refine x_ldc (nx := 14) (v := (65535 : Int32)) h (List.mem_cons_of_mem _ kM_44) dM_setW_12 rfl ?_
    refine x_iand (nx := 15) h dM_setW_14 rfl ?_
    refine x_iast (nx := 16) h (aM_2 ad ca) dM_setW_15 rfl (fun S5 => ?_)
    refine x_goto (tgt := 42) h dM_setW_16 (by decide) ?_
    exact x_sub [] rfl (j_M_setW_42 h N S5)
set_option maxHeartbeats 4000000 in
set_option maxRecDepth 100000 in
theorem j_M_aim_18 {l : Launch} {D : va_G} {ad : Nat → Nat} {ca : Nat → ClassId} {p : Program} {e : Env} {s : State} {m : MethodId} {args : Array Value} {below : List Frame} {meth : Method} {c : Code} {A : Nat → Prop} (h : xC p s m args meth c cM_aim 2 (Cond.code yM_aim cM_aim 2 none :: wA) nW yM_aim.cls none D clA (tysM ca) A) (N : Nat) (w0 : Int32) (S : xSt) : xJ p l e rm_M_aim s m args below meth c D clA (tysM ca) (cellsM ad ca) A false 2 18 [(0, .ref (ad 0))] [.int w0] S (f_M_aim_18 N w0 S) := by
  unfold f_M_aim_18
  refine x_istore_n (nx := 19) (i := 1) (lv' := [(1, .int w0), (0, .ref (ad 0))]) h dM_aim_18 rfl (by decide) rfl rfl ?_
  refine x_aload_n (nx := 20) (i := 0) h dM_aim_19 rfl 1 rfl rfl ?_
  refine x_aload_n (nx := 21) (i := 0) h dM_aim_20 rfl 1 rfl rfl ?_
  refine x_cVi (nx := 24) (rest := [.ref (ad 0)]) (As := []) h (m_M_main N S) (x_wV h goA y_M_main kM_68 ⟨by decide, by decide⟩ rfl rfl) (oM_0 ad ca) rfl rfl (Nat.le_of_ble_eq_true rfl) dM_aim_21 rfl (fun v1 S2 => ?_)
  refine x_iload_n (nx := 25) (i := 1) h dM_aim_24 rfl 0 rfl rfl ?_
  refine x_iadd (nx := 26) h dM_aim_25 rfl ?_
  refine x_ldc (nx := 28) (v := (65535 : Int32)) h (List.mem_cons_of_mem _ kM_44) dM_aim_26 rfl ?_
  refine x_iand (nx := 29) h dM_aim_28 rfl ?_
  refine x_put (nx := 32) h (pM_0_6 ad ca _) (List.mem_cons_of_mem _ kM_77) dM_aim_29 rfl (fun S3 => ?_)
  refine x_aload_n (nx := 33) (i := 0) h dM_aim_32 rfl 1 rfl rfl ?_
  refine x_iconst (nx := 34) (v := (1 : Int32)) h dM_aim_33 (by decide) rfl ?_
  refine x_putZ (nx := 37) h (pM_0_5 ad ca _) (List.mem_cons_of_mem _ kM_80) dM_aim_34 rfl (fun S4 => ?_)
  exact x_vret h dM_aim_37
set_option maxHeartbeats 4000000 in
set_option maxRecDepth 100000 in
theorem m_M_aim {l : Launch} {D : va_G} {ad : Nat → Nat} {ca : Nat → ClassId} (N : Nat) (S : xSt) : xM l D clA (tysM ca) (cellsM ad ca) nW yM_aim (Cond.code yM_aim cM_aim 2 none :: wA) rm_M_aim false [.ref (ad 0)] S (f_M_aim N S) := by
  refine x_met (cc := cM_aim) (maxL := 2) (ret := none) (by decide) rfl [.ref (ad 0)] (lv0 := [(0, .ref (ad 0))]) (Nat.le_of_ble_eq_true rfl) rfl ?_
  intro p e s m args below meth c A h
  unfold f_M_aim
  refine x_aload_n (nx := 1) (i := 0) h dM_aim_0 rfl 0 rfl rfl ?_
  refine x_get (nx := 4) h (gM_0_4 ad ca _) (List.mem_cons_of_mem _ kM_59) dM_aim_1 rfl ?_
  refine x_if_ne (nx := 7) (tgt := 11) h dM_aim_4 (by decide) rfl ?_ ?_
  · refine x_aload_n (nx := 12) (i := 0) h dM_aim_11 rfl 0 rfl rfl ?_
    refine x_cVi (nx := 15) (rest := []) (As := []) h (m_M_next N S) (x_wV h goA y_M_next kM_52 ⟨by decide, by decide⟩ rfl rfl) (oM_0 ad ca) rfl rfl (Nat.le_of_ble_eq_true rfl) dM_aim_12 rfl (fun v1 S2 => ?_)
    refine x_cSi (nx := 18) (rest := []) (As := [.int v1]) h (m_M_signed N v1 S2) (x_wS h goA y_M_signed kM_74 ⟨by decide, by decide⟩ rfl rfl) rfl rfl (Nat.le_of_ble_eq_true rfl) dM_aim_15 rfl (fun v3 S4 => ?_)
    exact x_sub [0] rfl (j_M_aim_18 h N v3 S4)
  · refine x_iconst (nx := 8) (v := (0 : Int32)) h dM_aim_7 (by decide) rfl ?_
    refine x_goto (tgt := 18) h dM_aim_8 (by decide) ?_
    exact x_sub [0] rfl (j_M_aim_18 h N (0 : Int32) S)
set_option maxHeartbeats 4000000 in
set_option maxRecDepth 100000 in
theorem j_M_get_90 {l : Launch} {D : va_G} {ad : Nat → Nat} {ca : Nat → ClassId} {p : Program} {e : Env} {s : State} {m : MethodId} {args : Array Value} {below : List Frame} {meth : Method} {c : Code} {A : Nat → Prop} (h : xC p s m args meth c cM_get 2 (Cond.code yM_get cM_get 2 (some .int) :: wA) nW yM_get.cls (some .int) D clA (tysM ca) A) (N : Nat) (w1 : Int32) (S : xSt) : xJ p l e rm_M_get s m args below meth c D clA (tysM ca) (cellsM ad ca) A true 2 90 [] [.int w1, .ref (ad 2)] S (f_M_get_90 N w1 S) := by
  unfold f_M_get_90
  refine x_iald (nx := 91) h (aM_2 ad ca) dM_get_90 rfl (fun v1 => ?_)
  exact x_iret h dM_get_91
set_option maxHeartbeats 4000000 in
set_option maxRecDepth 100000 in
theorem j_M_get_73 {l : Launch} {D : va_G} {ad : Nat → Nat} {ca : Nat → ClassId} {p : Program} {e : Env} {s : State} {m : MethodId} {args : Array Value} {below : List Frame} {meth : Method} {c : Code} {A : Nat → Prop} (h : xC p s m args meth c cM_get 2 (Cond.code yM_get cM_get 2 (some .int) :: wA) nW yM_get.cls (some .int) D clA (tysM ca) A) (N : Nat) (a1 : Int32) (S : xSt) : xJ p l e rm_M_get s m args below meth c D clA (tysM ca) (cellsM ad ca) A true 2 73 [(0, .ref (ad 0)), (1, .int a1)] [] S (f_M_get_73 N a1 S) := by
  unfold f_M_get_73
  refine x_aload_n (nx := 74) (i := 0) h dM_get_73 rfl 0 rfl rfl ?_
  refine x_get (nx := 77) h (gM_0_1 ad ca _) (List.mem_cons_of_mem _ kM_13) dM_get_74 rfl ?_
  refine x_iload_n (nx := 78) (i := 1) h dM_get_77 rfl 1 rfl rfl ?_
  refine x_bipush (nx := 80) (v := (7 : Int32)) h dM_get_78 (by decide) rfl ?_
  refine x_icmp_ne (nx := 83) (tgt := 87) h dM_get_80 (by decide) rfl ?_ ?_
  · refine x_iload_n (nx := 88) (i := 1) h dM_get_87 rfl 1 rfl rfl ?_
    refine x_iconst (nx := 89) (v := (2 : Int32)) h dM_get_88 (by decide) rfl ?_
    refine x_iadd (nx := 90) h dM_get_89 rfl ?_
    exact x_sub [] rfl (j_M_get_90 h N (a1 + (2 : Int32)) S)
  · refine x_iconst (nx := 84) (v := (0 : Int32)) h dM_get_83 (by decide) rfl ?_
    refine x_goto (tgt := 90) h dM_get_84 (by decide) ?_
    exact x_sub [] rfl (j_M_get_90 h N (0 : Int32) S)
set_option maxHeartbeats 4000000 in
set_option maxRecDepth 100000 in
theorem j_M_get_72 {l : Launch} {D : va_G} {ad : Nat → Nat} {ca : Nat → ClassId} {p : Program} {e : Env} {s : State} {m : MethodId} {args : Array Value} {below : List Frame} {meth : Method} {c : Code} {A : Nat → Prop} (h : xC p s m args meth c cM_get 2 (Cond.code yM_get cM_get 2 (some .int) :: wA) nW yM_get.cls (some .int) D clA (tysM ca) A) (N : Nat) (w0 : Int32) (S : xSt) : xJ p l e rm_M_get s m args below meth c D clA (tysM ca) (cellsM ad ca) A true 2 72 [] [.int w0] S (f_M_get_72 N w0 S) := by
  unfold f_M_get_72
  exact x_iret h dM_get_72
set_option maxHeartbeats 4000000 in
set_option maxRecDepth 100000 in
theorem j_M_get_25 {l : Launch} {D : va_G} {ad : Nat → Nat} {ca : Nat → ClassId} {p : Program} {e : Env} {s : State} {m : MethodId} {args : Array Value} {below : List Frame} {meth : Method} {c : Code} {A : Nat → Prop} (h : xC p s m args meth c cM_get 2 (Cond.code yM_get cM_get 2 (some .int) :: wA) nW yM_get.cls (some .int) D clA (tysM ca) A) (N : Nat) (a1 : Int32) (S : xSt) : xJ p l e rm_M_get s m args below meth c D clA (tysM ca) (cellsM ad ca) A true 2 25 [(0, .ref (ad 0)), (1, .int a1)] [] S (f_M_get_25 N a1 S) := by
  unfold f_M_get_25
  refine x_aload_n (nx := 26) (i := 0) h dM_get_25 rfl 0 rfl rfl ?_
  refine x_get (nx := 29) h (gM_0_4 ad ca _) (List.mem_cons_of_mem _ kM_59) dM_get_26 rfl ?_
  refine x_if_eq (nx := 32) (tgt := 73) h dM_get_29 (by decide) rfl ?_ ?_
  · exact x_sub [0, 1] rfl (j_M_get_73 h N a1 S)
  · refine x_aload_n (nx := 33) (i := 0) h dM_get_32 rfl 0 rfl rfl ?_
    refine x_get (nx := 36) h (gM_0_5 ad ca _) (List.mem_cons_of_mem _ kM_80) dM_get_33 rfl ?_
    refine x_if_ne (nx := 39) (tgt := 73) h dM_get_36 (by decide) rfl ?_ ?_
    · exact x_sub [0, 1] rfl (j_M_get_73 h N a1 S)
    · refine x_iload_n (nx := 40) (i := 1) h dM_get_39 rfl 1 rfl rfl ?_
      refine x_iconst (nx := 41) (v := (4 : Int32)) h dM_get_40 (by decide) rfl ?_
      refine x_icmp_ne (nx := 44) (tgt := 59) h dM_get_41 (by decide) rfl ?_ ?_
      · refine x_aload_n (nx := 60) (i := 0) h dM_get_59 rfl 0 rfl rfl ?_
        refine x_get (nx := 63) h (gM_0_1 ad ca _) (List.mem_cons_of_mem _ kM_13) dM_get_60 rfl ?_
        refine x_aload_n (nx := 64) (i := 0) h dM_get_63 rfl 0 rfl rfl ?_
        refine x_get (nx := 67) h (gM_0_4 ad ca _) (List.mem_cons_of_mem _ kM_59) dM_get_64 rfl ?_
        refine x_iald (nx := 68) h (aM_2 ad ca) dM_get_67 rfl (fun v1 => ?_)
        refine x_sipush (nx := 71) (v := (255 : Int32)) h dM_get_68 (by decide) rfl ?_
        refine x_iand (nx := 72) h dM_get_71 rfl ?_
        exact x_sub [] rfl (j_M_get_72 h N (v1 &&& (255 : Int32)) S)
      · refine x_aload_n (nx := 45) (i := 0) h dM_get_44 rfl 0 rfl rfl ?_
        refine x_get (nx := 48) h (gM_0_1 ad ca _) (List.mem_cons_of_mem _ kM_13) dM_get_45 rfl ?_
        refine x_aload_n (nx := 49) (i := 0) h dM_get_48 rfl 0 rfl rfl ?_
        refine x_get (nx := 52) h (gM_0_4 ad ca _) (List.mem_cons_of_mem _ kM_59) dM_get_49 rfl ?_
        refine x_iald (nx := 53) h (aM_2 ad ca) dM_get_52 rfl (fun v2 => ?_)
        refine x_bipush (nx := 55) (v := (8 : Int32)) h dM_get_53 (by decide) rfl ?_
        refine x_ishr (nx := 56) h dM_get_55 rfl ?_
        refine x_goto (tgt := 72) h dM_get_56 (by decide) ?_
        exact x_sub [] rfl (j_M_get_72 h N (v2 >>> ((8 : Int32) &&& 31)) S)
set_option maxHeartbeats 4000000 in
set_option maxRecDepth 100000 in
theorem m_M_get {l : Launch} {D : va_G} {ad : Nat → Nat} {ca : Nat → ClassId} (N : Nat) (a1 : Int32) (S : xSt) : xM l D clA (tysM ca) (cellsM ad ca) nW yM_get (Cond.code yM_get cM_get 2 (some .int) :: wA) rm_M_get true [.ref (ad 0), .int a1] S (f_M_get N a1 S) := by
  refine x_met (cc := cM_get) (maxL := 2) (ret := (some .int)) (by decide) rfl [.ref (ad 0), .int a1] (lv0 := [(0, .ref (ad 0)), (1, .int a1)]) (Nat.le_of_ble_eq_true rfl) rfl ?_
  intro p e s m args below meth c A h
  unfold f_M_get
  refine x_iload_n (nx := 1) (i := 1) h dM_get_0 rfl 1 rfl rfl ?_
  refine x_bipush (nx := 3) (v := (6 : Int32)) h dM_get_1 (by decide) rfl ?_
  refine x_icmp_ne (nx := 6) (tgt := 15) h dM_get_3 (by decide) rfl ?_ ?_
  · refine x_iload_n (nx := 16) (i := 1) h dM_get_15 rfl 1 rfl rfl ?_
    refine x_iconst (nx := 17) (v := (4 : Int32)) h dM_get_16 (by decide) rfl ?_
    refine x_icmp_eq (nx := 20) (tgt := 25) h dM_get_17 (by decide) rfl ?_ ?_
    · exact x_sub [0, 1] rfl (j_M_get_25 h N a1 S)
    · refine x_iload_n (nx := 21) (i := 1) h dM_get_20 rfl 1 rfl rfl ?_
      refine x_iconst (nx := 22) (v := (5 : Int32)) h dM_get_21 (by decide) rfl ?_
      refine x_icmp_ne (nx := 25) (tgt := 73) h dM_get_22 (by decide) rfl ?_ ?_
      · exact x_sub [0, 1] rfl (j_M_get_73 h N a1 S)
      · exact x_sub [0, 1] rfl (j_M_get_25 h N a1 S)
  · refine x_aload_n (nx := 7) (i := 0) h dM_get_6 rfl 0 rfl rfl ?_
    refine x_aload_n (nx := 8) (i := 0) h dM_get_7 rfl 0 rfl rfl ?_
    refine x_get (nx := 11) h (gM_0_6 ad ca _) (List.mem_cons_of_mem _ kM_77) dM_get_8 rfl ?_
    refine x_cVi (nx := 14) (rest := []) (As := [.int (S 0 6)]) h (m_M_read N (S 0 6) S) (x_wV h goA y_M_read kM_48 ⟨by decide, by decide⟩ rfl rfl) (oM_0 ad ca) rfl rfl (Nat.le_of_ble_eq_true rfl) dM_get_11 rfl (fun v1 S2 => ?_)
    exact x_iret h dM_get_14
