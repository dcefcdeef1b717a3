set_option maxHeartbeats 4000000 in
set_option maxRecDepth 100000 in
theorem m_I_bitCount {l : Launch} {D : va_G} {ad : Nat → Nat} {ca : Nat → ClassId} (N : Nat) (a0 : Int32) (S : xSt) : xM l D clA (tysC ca) (cellsC ad ca) nW yI_bitCount (Cond.code yI_bitCount cI_bitCount 1 (some .int) :: wA) rm_I_bitCount true [.int a0] S (f_I_bitCount N a0 S) := by
  refine x_met (cc := cI_bitCount) (maxL := 1) (ret := (some .int)) (by decide) rfl [.int a0] (lv0 := [(0, .int a0)]) (Nat.le_of_ble_eq_true rfl) rfl ?_
  intro p e s m args below meth c A h
  unfold f_I_bitCount
  refine x_iload_n (nx := 1) (i := 0) h dI_bitCount_0 rfl 0 rfl rfl ?_
  refine x_iload_n (nx := 2) (i := 0) h dI_bitCount_1 rfl 0 rfl rfl ?_
  refine x_iconst (nx := 3) (v := (1 : Int32)) h dI_bitCount_2 (by decide) rfl ?_
  refine x_iushr (nx := 4) h dI_bitCount_3 rfl ?_
  refine x_ldc_w (nx := 7) (v := (1431655765 : Int32)) h (List.mem_cons_of_mem _ kI_265) dI_bitCount_4 rfl ?_
  refine x_iand (nx := 8) h dI_bitCount_7 rfl ?_
  refine x_isub (nx := 9) h dI_bitCount_8 rfl ?_
  refine x_val (fun b1 => ?_)
  refine x_istore_n (nx := 10) (i := 0) (lv' := [(0, .int b1)]) h dI_bitCount_9 rfl (by decide) rfl rfl ?_
  refine x_iload_n (nx := 11) (i := 0) h dI_bitCount_10 rfl 0 rfl rfl ?_
  refine x_ldc_w (nx := 14) (v := (858993459 : Int32)) h (List.mem_cons_of_mem _ kI_266) dI_bitCount_11 rfl ?_
  refine x_iand (nx := 15) h dI_bitCount_14 rfl ?_
  refine x_iload_n (nx := 16) (i := 0) h dI_bitCount_15 rfl 0 rfl rfl ?_
  refine x_iconst (nx := 17) (v := (2 : Int32)) h dI_bitCount_16 (by decide) rfl ?_
  refine x_iushr (nx := 18) h dI_bitCount_17 rfl ?_
  refine x_ldc_w (nx := 21) (v := (858993459 : Int32)) h (List.mem_cons_of_mem _ kI_266) dI_bitCount_18 rfl ?_
  refine x_iand (nx := 22) h dI_bitCount_21 rfl ?_
  refine x_iadd (nx := 23) h dI_bitCount_22 rfl ?_
  refine x_val (fun b2 => ?_)
  refine x_istore_n (nx := 24) (i := 0) (lv' := [(0, .int b2)]) h dI_bitCount_23 rfl (by decide) rfl rfl ?_
  refine x_iload_n (nx := 25) (i := 0) h dI_bitCount_24 rfl 0 rfl rfl ?_
  refine x_iload_n (nx := 26) (i := 0) h dI_bitCount_25 rfl 0 rfl rfl ?_
  refine x_iconst (nx := 27) (v := (4 : Int32)) h dI_bitCount_26 (by decide) rfl ?_
  refine x_iushr (nx := 28) h dI_bitCount_27 rfl ?_
  refine x_iadd (nx := 29) h dI_bitCount_28 rfl ?_
  refine x_ldc_w (nx := 32) (v := (252645135 : Int32)) h (List.mem_cons_of_mem _ kI_267) dI_bitCount_29 rfl ?_
  refine x_iand (nx := 33) h dI_bitCount_32 rfl ?_
  refine x_val (fun b3 => ?_)
  refine x_istore_n (nx := 34) (i := 0) (lv' := [(0, .int b3)]) h dI_bitCount_33 rfl (by decide) rfl rfl ?_
  refine x_iload_n (nx := 35) (i := 0) h dI_bitCount_34 rfl 0 rfl rfl ?_
  refine x_iload_n (nx := 36) (i := 0) h dI_bitCount_35 rfl 0 rfl rfl ?_
  refine x_bipush (nx := 38) (v := (8 : Int32)) h dI_bitCount_36 (by decide) rfl ?_
  refine x_iushr (nx := 39) h dI_bitCount_38 rfl ?_
  refine x_iadd (nx := 40) h dI_bitCount_39 rfl ?_
  refine x_val (fun b4 => ?_)
  refine x_istore_n (nx := 41) (i := 0) (lv' := [(0, .int b4)]) h dI_bitCount_40 rfl (by decide) rfl rfl ?_
  refine x_iload_n (nx := 42) (i := 0) h dI_bitCount_41 rfl 0 rfl rfl ?_
  refine x_iload_n (nx := 43) (i := 0) h dI_bitCount_42 rfl 0 rfl rfl ?_
  refine x_bipush (nx := 45) (v := (16 : Int32)) h dI_bitCount_43 (by decide) rfl ?_
  refine x_iushr (nx := 46) h dI_bitCount_45 rfl ?_
  refine x_iadd (nx := 47) h dI_bitCount_46 rfl ?_
  refine x_val (fun b5 => ?_)
  refine x_istore_n (nx := 48) (i := 0) (lv' := [(0, .int b5)]) h dI_bitCount_47 rfl (by decide) rfl rfl ?_
  refine x_iload_n (nx := 49) (i := 0) h dI_bitCount_48 rfl 0 rfl rfl ?_
  refine x_bipush (nx := 51) (v := (63 : Int32)) h dI_bitCount_49 (by decide) rfl ?_
  refine x_iand (nx := 52) h dI_bitCount_51 rfl ?_
  exact x_iret h dI_bitCount_52
set_option maxHeartbeats 4000000 in
set_option maxRecDepth 100000 in
theorem j_A_byWithParity_18 {l : Launch} {D : va_G} {ad : Nat → Nat} {ca : Nat → ClassId} {p : Program} {e : Env} {s : State} {m : MethodId} {args : Array Value} {below : List Frame} {meth : Method} {c : Code} {A : Nat → Prop} (h : xC p s m args meth c cA_byWithParity 1 (Cond.code yA_byWithParity cA_byWithParity 1 (some .int) :: wA) nW yA_byWithParity.cls (some .int) D clA (tysC ca) A) (N : Nat) (w0 w1 : Int32) (S : xSt) : xJ p l e rm_A_byWithParity s m args below meth c D clA (tysC ca) (cellsC ad ca) A true 1 18 [] [.int w1, .int w0] S (f_A_byWithParity_18 N w0 w1 S) := by
  unfold f_A_byWithParity_18
  refine x_ior (nx := 19) h dA_byWithParity_18 rfl ?_
  exact x_iret h dA_byWithParity_19
set_option maxHeartbeats 4000000 in
set_option maxRecDepth 100000 in
theorem m_A_byWithParity {l : Launch} {D : va_G} {ad : Nat → Nat} {ca : Nat → ClassId} (N : Nat) (a0 : Int32) (S : xSt) : xM l D clA (tysC ca) (cellsC ad ca) nW yA_byWithParity (Cond.code yA_byWithParity cA_byWithParity 1 (some .int) :: wA) rm_A_byWithParity true [.int a0] S (f_A_byWithParity N a0 S) := by
  refine x_met (cc := cA_byWithParity) (maxL := 1) (ret := (some .int)) (by decide) rfl [.int a0] (lv0 := [(0, .int a0)]) (Nat.le_of_ble_eq_true rfl) rfl ?_
  intro p e s m args below meth c A h
  unfold f_A_byWithParity
  refine x_iload_n (nx := 1) (i := 0) h dA_byWithParity_0 rfl 0 rfl rfl ?_
  refine x_cSi (nx := 4) (rest := []) (As := [.int a0]) h (m_A_by N a0 S) (x_wS h goA y_A_by kA_9 ⟨by decide, by decide⟩ rfl rfl) rfl rfl (Nat.le_of_ble_eq_true rfl) dA_byWithParity_1 rfl (fun v1 S2 => ?_)
  refine x_iload_n (nx := 5) (i := 0) h dA_byWithParity_4 rfl 0 rfl rfl ?_
  refine x_cSi (nx := 8) (rest := [.int v1]) (As := [.int a0]) h (m_I_bitCount N a0 S2) (x_wS h goA y_I_bitCount kA_13 ⟨by decide, by decide⟩ rfl rfl) rfl rfl (Nat.le_of_ble_eq_true rfl) dA_byWithParity_5 rfl (fun v3 S4 => ?_)
  refine x_iconst (nx := 9) (v := (1 : Int32)) h dA_byWithParity_8 (by decide) rfl ?_
  refine x_iand (nx := 10) h dA_byWithParity_9 rfl ?_
  refine x_if_ne (nx := 13) (tgt := 17) h dA_byWithParity_10 (by decide) rfl ?_ ?_
  · refine x_iconst (nx := 18) (v := (0 : Int32)) h dA_byWithParity_17 (by decide) rfl ?_
    exact x_sub [] rfl (j_A_byWithParity_18 h N v1 (0 : Int32) S4)
  · refine x_iconst (nx := 14) (v := (4 : Int32)) h dA_byWithParity_13 (by decide) rfl ?_
    refine x_goto (tgt := 18) h dA_byWithParity_14 (by decide) ?_
    exact x_sub [] rfl (j_A_byWithParity_18 h N v1 (4 : Int32) S4)
set_option maxHeartbeats 4000000 in
set_option maxRecDepth 100000 in
theorem j_A_turned_65 {l : Launch} {D : va_G} {ad : Nat → Nat} {ca : Nat → ClassId} {p : Program} {e : Env} {s : State} {m : MethodId} {args : Array Value} {below : List Frame} {meth : Method} {c : Code} {A : Nat → Prop} (h : xC p s m args meth c cA_turned 7 (Cond.code yA_turned cA_turned 7 (some .int) :: wA) nW yA_turned.cls (some .int) D clA (tysC ca) A) (N : Nat) (a4 w0 : Int32) (S : xSt) : xJ p l e rm_A_turned s m args below meth c D clA (tysC ca) (cellsC ad ca) A true 7 65 [(4, .int a4)] [.int w0] S (f_A_turned_65 N a4 w0 S) := by
  unfold f_A_turned_65
  refine x_istore (nx := 67) (i := 6) (lv' := [(6, .int w0), (4, .int a4)]) h dA_turned_65 (by decide) rfl rfl ?_
  refine x_iload (nx := 69) (i := 6) h dA_turned_67 0 rfl rfl ?_
  refine x_bipush (nx := 71) (v := (8 : Int32)) h dA_turned_69 (by decide) rfl ?_
  refine x_ishl (nx := 72) h dA_turned_71 rfl ?_
  refine x_iload (nx := 74) (i := 6) h dA_turned_72 0 rfl rfl ?_
  refine x_cSi (nx := 77) (rest := [.int (w0 <<< ((8 : Int32) &&& 31))]) (As := [.int w0]) h (m_A_byWithParity N w0 S) (x_wS h goA y_A_byWithParity kA_22 ⟨by decide, by decide⟩ rfl rfl) rfl rfl (Nat.le_of_ble_eq_true rfl) dA_turned_74 rfl (fun v1 S2 => ?_)
  refine x_ior (nx := 78) h dA_turned_77 rfl ?_
  refine x_iload (nx := 80) (i := 4) h dA_turned_78 1 rfl rfl ?_
  refine x_ior (nx := 81) h dA_turned_80 rfl ?_
  exact x_iret h dA_turned_81
set_option maxHeartbeats 4000000 in
set_option maxRecDepth 100000 in
theorem j_A_turned_27 {l : Launch} {D : va_G} {ad : Nat → Nat} {ca : Nat → ClassId} {p : Program} {e : Env} {s : State} {m : MethodId} {args : Array Value} {below : List Frame} {meth : Method} {c : Code} {A : Nat → Prop} (h : xC p s m args meth c cA_turned 7 (Cond.code yA_turned cA_turned 7 (some .int) :: wA) nW yA_turned.cls (some .int) D clA (tysC ca) A) (N : Nat) (a0 a1 a2 a3 w0 : Int32) (S : xSt) : xJ p l e rm_A_turned s m args below meth c D clA (tysC ca) (cellsC ad ca) A true 7 27 [(0, .int a0), (1, .int a1), (2, .int a2), (3, .int a3)] [.int w0] S (f_A_turned_27 N a0 a1 a2 a3 w0 S) := by
  unfold f_A_turned_27
  refine x_istore (nx := 29) (i := 4) (lv' := [(4, .int w0), (0, .int a0), (1, .int a1), (2, .int a2), (3, .int a3)]) h dA_turned_27 (by decide) rfl rfl ?_
  refine x_iload_n (nx := 30) (i := 0) h dA_turned_29 rfl 1 rfl rfl ?_
  refine x_iload_n (nx := 31) (i := 1) h dA_turned_30 rfl 2 rfl rfl ?_
  refine x_iload (nx := 33) (i := 4) h dA_turned_31 0 rfl rfl ?_
  refine x_iload_n (nx := 34) (i := 2) h dA_turned_33 rfl 3 rfl rfl ?_
  refine x_cSi (nx := 37) (rest := []) (As := [.int a0, .int a1, .int w0, .int a2]) h (m_A_comesIn N a0 a1 w0 a2 S) (x_wS h goA y_A_comesIn kA_30 ⟨by decide, by decide⟩ rfl rfl) rfl rfl (Nat.le_of_ble_eq_true rfl) dA_turned_34 rfl (fun v1 S2 => ?_)
  refine x_istore (nx := 39) (i := 5) (lv' := [(5, .int v1), (4, .int w0), (0, .int a0), (1, .int a1), (2, .int a2), (3, .int a3)]) h dA_turned_37 (by decide) rfl rfl ?_
  refine x_iload_n (nx := 40) (i := 3) h dA_turned_39 rfl 5 rfl rfl ?_
  refine x_if_eq (nx := 43) (tgt := 55) h dA_turned_40 (by decide) rfl ?_ ?_
  · refine x_iload_n (nx := 56) (i := 1) h dA_turned_55 rfl 3 rfl rfl ?_
    refine x_iconst (nx := 57) (v := (1 : Int32)) h dA_turned_56 (by decide) rfl ?_
    refine x_ishl (nx := 58) h dA_turned_57 rfl ?_
    refine x_sipush (nx := 61) (v := (255 : Int32)) h dA_turned_58 (by decide) rfl ?_
    refine x_iand (nx := 62) h dA_turned_61 rfl ?_
    refine x_iload (nx := 64) (i := 5) h dA_turned_62 0 rfl rfl ?_
    refine x_ior (nx := 65) h dA_turned_64 rfl ?_
    exact x_sub [1] rfl (j_A_turned_65 h N w0 (((a1 <<< ((1 : Int32) &&& 31)) &&& (255 : Int32)) ||| v1) S2)
  · refine x_iload_n (nx := 44) (i := 1) h dA_turned_43 rfl 3 rfl rfl ?_
    refine x_iconst (nx := 45) (v := (1 : Int32)) h dA_turned_44 (by decide) rfl ?_
    refine x_ishr (nx := 46) h dA_turned_45 rfl ?_
    refine x_iload (nx := 48) (i := 5) h dA_turned_46 0 rfl rfl ?_
    refine x_bipush (nx := 50) (v := (7 : Int32)) h dA_turned_48 (by decide) rfl ?_
    refine x_ishl (nx := 51) h dA_turned_50 rfl ?_
    refine x_ior (nx := 52) h dA_turned_51 rfl ?_
    refine x_goto (tgt := 65) h dA_turned_52 (by decide) ?_
    exact x_sub [1] rfl (j_A_turned_65 h N w0 ((a1 >>> ((1 : Int32) &&& 31)) ||| (v1 <<< ((7 : Int32) &&& 31))) S2)
set_option maxHeartbeats 4000000 in
set_option maxRecDepth 100000 in
theorem j_A_turned_12 {l : Launch} {D : va_G} {ad : Nat → Nat} {ca : Nat → ClassId} {p : Program} {e : Env} {s : State} {m : MethodId} {args : Array Value} {below : List Frame} {meth : Method} {c : Code} {A : Nat → Prop} (h : xC p s m args meth c cA_turned 7 (Cond.code yA_turned cA_turned 7 (some .int) :: wA) nW yA_turned.cls (some .int) D clA (tysC ca) A) (N : Nat) (a0 a1 a2 w0 : Int32) (S : xSt) : xJ p l e rm_A_turned s m args below meth c D clA (tysC ca) (cellsC ad ca) A true 7 12 [(0, .int a0), (1, .int a1), (2, .int a2)] [.int w0] S (f_A_turned_12 N a0 a1 a2 w0 S) := by
  unfold f_A_turned_12
  refine x_istore_n (nx := 13) (i := 3) (lv' := [(3, .int w0), (0, .int a0), (1, .int a1), (2, .int a2)]) h dA_turned_12 rfl (by decide) rfl rfl ?_
  refine x_iload_n (nx := 14) (i := 3) h dA_turned_13 rfl 0 rfl rfl ?_
  refine x_if_eq (nx := 17) (tgt := 23) h dA_turned_14 (by decide) rfl ?_ ?_
  · refine x_iload_n (nx := 24) (i := 1) h dA_turned_23 rfl 2 rfl rfl ?_
    refine x_bipush (nx := 26) (v := (7 : Int32)) h dA_turned_24 (by decide) rfl ?_
    refine x_ishr (nx := 27) h dA_turned_26 rfl ?_
    exact x_sub [1, 2, 3, 0] rfl (j_A_turned_27 h N a0 a1 a2 w0 (a1 >>> ((7 : Int32) &&& 31)) S)
  · refine x_iload_n (nx := 18) (i := 1) h dA_turned_17 rfl 2 rfl rfl ?_
    refine x_iconst (nx := 19) (v := (1 : Int32)) h dA_turned_18 (by decide) rfl ?_
    refine x_iand (nx := 20) h dA_turned_19 rfl ?_
    refine x_goto (tgt := 27) h dA_turned_20 (by decide) ?_
    exact x_sub [1, 2, 3, 0] rfl (j_A_turned_27 h N a0 a1 a2 w0 (a1 &&& (1 : Int32)) S)
set_option maxHeartbeats 4000000 in
set_option maxRecDepth 100000 in
theorem m_A_turned {l : Launch} {D : va_G} {ad : Nat → Nat} {ca : Nat → ClassId} (N : Nat) (a0 a1 a2 : Int32) (S : xSt) : xM l D clA (tysC ca) (cellsC ad ca) nW yA_turned (Cond.code yA_turned cA_turned 7 (some .int) :: wA) rm_A_turned true [.int a0, .int a1, .int a2] S (f_A_turned N a0 a1 a2 S) := by
  refine x_met (cc := cA_turned) (maxL := 7) (ret := (some .int)) (by decide) rfl [.int a0, .int a1, .int a2] (lv0 := [(0, .int a0), (1, .int a1), (2, .int a2)]) (Nat.le_of_ble_eq_true rfl) rfl ?_
  intro p e s m args below meth c A h
  unfold f_A_turned
  refine x_iload_n (nx := 1) (i := 0) h dA_turned_0 rfl 0 rfl rfl ?_
  refine x_iconst (nx := 2) (v := (1 : Int32)) h dA_turned_1 (by decide) rfl ?_
  refine x_iand (nx := 3) h dA_turned_2 rfl ?_
  refine x_iconst (nx := 4) (v := (1 : Int32)) h dA_turned_3 (by decide) rfl ?_
  refine x_icmp_ne (nx := 7) (tgt := 11) h dA_turned_4 (by decide) rfl ?_ ?_
  · refine x_iconst (nx := 12) (v := (0 : Int32)) h dA_turned_11 (by decide) rfl ?_
    exact x_sub [0, 1, 2] rfl (j_A_turned_12 h N a0 a1 a2 (0 : Int32) S)
  · refine x_iconst (nx := 8) (v := (1 : Int32)) h dA_turned_7 (by decide) rfl ?_
    refine x_goto (tgt := 12) h dA_turned_8 (by decide) ?_
    exact x_sub [0, 1, 2] rfl (j_A_turned_12 h N a0 a1 a2 (1 : Int32) S)
set_option maxHeartbeats 4000000 in
set_option maxRecDepth 100000 in
theorem m_P_changedByte {l : Launch} {D : va_G} {ad : Nat → Nat} {ca : Nat → ClassId} (N : Nat) (a1 a2 a3 : Int32) (S : xSt) : xM l D clA (tysC ca) (cellsC ad ca) nW yP_changedByte (Cond.code yP_changedByte cP_changedByte 5 (some .int) :: wA) rm_P_changedByte true [.ref (ad 2), .int a1, .int a2, .int a3] S (f_P_changedByte N a1 a2 a3 S) := by
  refine x_met (cc := cP_changedByte) (maxL := 5) (ret := (some .int)) (by decide) rfl [.ref (ad 2), .int a1, .int a2, .int a3] (lv0 := [(0, .ref (ad 2)), (1, .int a1), (2, .int a2), (3, .int a3)]) (Nat.le_of_ble_eq_true rfl) rfl ?_
  intro p e s m args below meth c A h
  unfold f_P_changedByte
  refine x_iload_n (nx := 1) (i := 1) h dP_changedByte_0 rfl 1 rfl rfl ?_
  refine x_iconst (nx := 2) (v := (2 : Int32)) h dP_changedByte_1 (by decide) rfl ?_
  refine x_icmp_ne (nx := 5) (tgt := 13) h dP_changedByte_2 (by decide) rfl ?_ ?_
  · refine x_iload_n (nx := 14) (i := 1) h dP_changedByte_13 rfl 1 rfl rfl ?_
    refine x_iconst (nx := 15) (v := (3 : Int32)) h dP_changedByte_14 (by decide) rfl ?_
    refine x_icmp_ne (nx := 18) (tgt := 24) h dP_changedByte_15 (by decide) rfl ?_ ?_
    · refine x_iload_n (nx := 25) (i := 2) h dP_changedByte_24 rfl 2 rfl rfl ?_
      refine x_iload_n (nx := 26) (i := 3) h dP_changedByte_25 rfl 3 rfl rfl ?_
      refine x_aload_n (nx := 27) (i := 0) h dP_changedByte_26 rfl 0 rfl rfl ?_
      refine x_cVi (nx := 30) (rest := [.int a3, .int a2]) (As := []) h (m_P_carry N S) (x_wV h goA y_P_carry kP_193 ⟨by decide, by decide⟩ rfl rfl) (oC_2 ad ca) rfl rfl (Nat.le_of_ble_eq_true rfl) dP_changedByte_27 rfl (fun v1 S2 => ?_)
      refine x_cSi (nx := 33) (rest := []) (As := [.int a2, .int a3, .int v1]) h (m_A_turned N a2 a3 v1 S2) (x_wS h goA y_A_turned kP_196 ⟨by decide, by decide⟩ rfl rfl) rfl rfl (Nat.le_of_ble_eq_true rfl) dP_changedByte_30 rfl (fun v3 S4 => ?_)
      refine x_istore (nx := 35) (i := 4) (lv' := [(4, .int v3), (0, .ref (ad 2)), (1, .int a1), (2, .int a2), (3, .int a3)]) h dP_changedByte_33 (by decide) rfl rfl ?_
      refine x_aload_n (nx := 36) (i := 0) h dP_changedByte_35 rfl 1 rfl rfl ?_
      refine x_get (nx := 39) h (gC_2_2 ad ca _) (List.mem_cons_of_mem _ kP_20) dP_changedByte_36 rfl ?_
      refine x_iconst (nx := 40) (v := (1 : Int32)) h dP_changedByte_39 (by decide) rfl ?_
      refine x_iload (nx := 42) (i := 4) h dP_changedByte_40 0 rfl rfl ?_
      refine x_sipush (nx := 45) (v := (255 : Int32)) h dP_changedByte_42 (by decide) rfl ?_
      refine x_iand (nx := 46) h dP_changedByte_45 rfl ?_
      refine x_iast (nx := 47) h (aC_10 ad ca) dP_changedByte_46 rfl (fun S5 => ?_)
      refine x_iload (nx := 49) (i := 4) h dP_changedByte_47 0 rfl rfl ?_
      refine x_bipush (nx := 51) (v := (8 : Int32)) h dP_changedByte_49 (by decide) rfl ?_
      refine x_ishr (nx := 52) h dP_changedByte_51 rfl ?_
      exact x_iret h dP_changedByte_52
    · refine x_iload_n (nx := 19) (i := 3) h dP_changedByte_18 rfl 3 rfl rfl ?_
      refine x_iconst (nx := 20) (v := (1 : Int32)) h dP_changedByte_19 (by decide) rfl ?_
      refine x_iload_n (nx := 21) (i := 2) h dP_changedByte_20 rfl 2 rfl rfl ?_
      refine x_ishl (nx := 22) h dP_changedByte_21 rfl ?_
      refine x_ior (nx := 23) h dP_changedByte_22 rfl ?_
      exact x_iret h dP_changedByte_23
  · refine x_iload_n (nx := 6) (i := 3) h dP_changedByte_5 rfl 3 rfl rfl ?_
    refine x_iconst (nx := 7) (v := (1 : Int32)) h dP_changedByte_6 (by decide) rfl ?_
    refine x_iload_n (nx := 8) (i := 2) h dP_changedByte_7 rfl 2 rfl rfl ?_
    refine x_ishl (nx := 9) h dP_changedByte_8 rfl ?_
    refine x_iconst (nx := 10) (v := (-1 : Int32)) h dP_changedByte_9 (by decide) rfl ?_
    refine x_ixor (nx := 11) h dP_changedByte_10 rfl ?_
    refine x_iand (nx := 12) h dP_changedByte_11 rfl ?_
    exact x_iret h dP_changedByte_12
set_option maxHeartbeats 4000000 in
set_option maxRecDepth 100000 in
theorem j_G_setSingle_100 {l : Launch} {D : va_G} {ad : Nat → Nat} {ca : Nat → ClassId} {p : Program} {e : Env} {s : State} {m : MethodId} {args : Array Value} {below : List Frame} {meth : Method} {c : Code} {A : Nat → Prop} (h : xC p s m args meth c cG_setSingle 3 (Cond.code yG_setSingle cG_setSingle 3 none :: wA) nW yG_setSingle.cls none D clA (tysC ca) A) (N : Nat) (S : xSt) : xJ p l e rm_G_setSingle s m args below meth c D clA (tysC ca) (cellsC ad ca) A false 3 100 [] [] S (f_G_setSingle_100 N S) := by
  unfold f_G_setSingle_100
  exact x_vret h dG_setSingle_100
set_option maxHeartbeats 4000000 in
set_option maxRecDepth 100000 in
theorem j_G_setSingle_30 {l : Launch} {D : va_G} {ad : Nat → Nat} {ca : Nat → ClassId} {p : Program} {e : Env} {s : State} {m : MethodId} {args : Array Value} {below : List Frame} {meth : Method} {c : Code} {A : Nat → Prop} (h : xC p s m args meth c cG_setSingle 3 (Cond.code yG_setSingle cG_setSingle 3 none :: wA) nW yG_setSingle.cls none D clA (tysC ca) A) (N : Nat) (a1 a2 : Int32) (S : xSt) : xJ p l e rm_G_setSingle s m args below meth c D clA (tysC ca) (cellsC ad ca) A false 3 30 [(0, .ref (ad 5)), (1, .int a1), (2, .int a2)] [] S (f_G_setSingle_30 N a1 a2 S) := by
  unfold f_G_setSingle_30
  refine x_aload_n (nx := 31) (i := 0) h dG_setSingle_30 rfl 0 rfl rfl ?_
  refine x_get (nx := 34) h (gC_5_0 ad ca _) (List.mem_cons_of_mem _ kG_9) dG_setSingle_31 rfl ?_
  refine x_iconst (nx := 35) (v := (2 : Int32)) h dG_setSingle_34 (by decide) rfl ?_
  refine x_iload_n (nx := 36) (i := 1) h dG_setSingle_35 rfl 1 rfl rfl ?_
  refine x_iadd (nx := 37) h dG_setSingle_36 rfl ?_
  refine x_iload_n (nx := 38) (i := 2) h dG_setSingle_37 rfl 2 rfl rfl ?_
  refine x_iast (nx := 39) h (aC_10 ad ca) dG_setSingle_38 rfl (fun S1 => ?_)
  refine x_goto (tgt := 100) h dG_setSingle_39 (by decide) ?_
  exact x_sub [] rfl (j_G_setSingle_100 h N S1)
set_option maxHeartbeats 4000000 in
set_option maxRecDepth 100000 in
theorem m_G_setSingle {l : Launch} {D : va_G} {ad : Nat → Nat} {ca : Nat → ClassId} (N : Nat) (a1 a2 : Int32) (S : xSt) : xM l D clA (tysC ca) (cellsC ad ca) nW yG_setSingle (Cond.code yG_setSingle cG_setSingle 3 none :: wA) rm_G_setSingle false [.ref (ad 5), .int a1, .int a2] S (f_G_setSingle N a1 a2 S) := by
  refine x_met (cc := cG_setSingle) (maxL := 3) (ret := none) (by decide) rfl [.ref (ad 5), .int a1, .int a2] (lv0 := [(0, .ref (ad 5)), (1, .int a1), (2, .int a2)]) (Nat.le_of_ble_eq_true rfl) rfl ?_
  intro p e s m args below meth c A h
  unfold f_G_setSingle
  refine x_iload_n (nx := 1) (i := 1) h dG_setSingle_0 rfl 1 rfl rfl ?_
  refine x_bipush (nx := 3) (v := (7 : Int32)) h dG_setSingle_1 (by decide) rfl ?_
  refine x_icmp_ne (nx := 6) (tgt := 16) h dG_setSingle_3 (by decide) rfl ?_ ?_
  · refine x_iload_n (nx := 17) (i := 1) h dG_setSingle_16 rfl 1 rfl rfl ?_
    refine x_iconst (nx := 18) (v := (4 : Int32)) h dG_setSingle_17 (by decide) rfl ?_
    refine x_icmp_lt (nx := 21) (tgt := 30) h dG_setSingle_18 (by decide) rfl ?_ ?_
    · exact x_sub [0, 1, 2] rfl (j_G_setSingle_30 h N a1 a2 S)
    · refine x_aload_n (nx := 22) (i := 0) h dG_setSingle_21 rfl 0 rfl rfl ?_
      refine x_get (nx := 25) h (gC_5_1 ad ca _) (List.mem_cons_of_mem _ kG_13) dG_setSingle_22 rfl ?_
      refine x_bipush (nx := 27) (v := (6 : Int32)) h dG_setSingle_25 (by decide) rfl ?_
      refine x_icmp_ne (nx := 30) (tgt := 42) h dG_setSingle_27 (by decide) rfl ?_ ?_
      · refine x_iload_n (nx := 43) (i := 1) h dG_setSingle_42 rfl 1 rfl rfl ?_
        refine x_iconst (nx := 44) (v := (4 : Int32)) h dG_setSingle_43 (by decide) rfl ?_
        refine x_icmp_ne (nx := 47) (tgt := 77) h dG_setSingle_44 (by decide) rfl ?_ ?_
        · refine x_aload_n (nx := 78) (i := 0) h dG_setSingle_77 rfl 0 rfl rfl ?_
          refine x_get (nx := 81) h (gC_5_0 ad ca _) (List.mem_cons_of_mem _ kG_9) dG_setSingle_78 rfl ?_
          refine x_aload_n (nx := 82) (i := 0) h dG_setSingle_81 rfl 0 rfl rfl ?_
          refine x_get (nx := 85) h (gC_5_1 ad ca _) (List.mem_cons_of_mem _ kG_13) dG_setSingle_82 rfl ?_
          refine x_aload_n (nx := 86) (i := 0) h dG_setSingle_85 rfl 0 rfl rfl ?_
          refine x_get (nx := 89) h (gC_5_0 ad ca _) (List.mem_cons_of_mem _ kG_9) dG_setSingle_86 rfl ?_
          refine x_aload_n (nx := 90) (i := 0) h dG_setSingle_89 rfl 0 rfl rfl ?_
          refine x_get (nx := 93) h (gC_5_1 ad ca _) (List.mem_cons_of_mem _ kG_13) dG_setSingle_90 rfl ?_
          refine x_iald (nx := 94) h (aC_10 ad ca) dG_setSingle_93 rfl (fun v1 => ?_)
          refine x_ldc (nx := 96) (v := (65280 : Int32)) h (List.mem_cons_of_mem _ kG_37) dG_setSingle_94 rfl ?_
          refine x_iand (nx := 97) h dG_setSingle_96 rfl ?_
          refine x_iload_n (nx := 98) (i := 2) h dG_setSingle_97 rfl 2 rfl rfl ?_
          refine x_ior (nx := 99) h dG_setSingle_98 rfl ?_
          refine x_iast (nx := 100) h (aC_10 ad ca) dG_setSingle_99 rfl (fun S2 => ?_)
          exact x_sub [] rfl (j_G_setSingle_100 h N S2)
        · refine x_aload_n (nx := 48) (i := 0) h dG_setSingle_47 rfl 0 rfl rfl ?_
          refine x_get (nx := 51) h (gC_5_0 ad ca _) (List.mem_cons_of_mem _ kG_9) dG_setSingle_48 rfl ?_
          refine x_aload_n (nx := 52) (i := 0) h dG_setSingle_51 rfl 0 rfl rfl ?_
          refine x_get (nx := 55) h (gC_5_1 ad ca _) (List.mem_cons_of_mem _ kG_13) dG_setSingle_52 rfl ?_
          refine x_aload_n (nx := 56) (i := 0) h dG_setSingle_55 rfl 0 rfl rfl ?_
          refine x_get (nx := 59) h (gC_5_0 ad ca _) (List.mem_cons_of_mem _ kG_9) dG_setSingle_56 rfl ?_
          refine x_aload_n (nx := 60) (i := 0) h dG_setSingle_59 rfl 0 rfl rfl ?_
          refine x_get (nx := 63) h (gC_5_1 ad ca _) (List.mem_cons_of_mem _ kG_13) dG_setSingle_60 rfl ?_
          refine x_iald (nx := 64) h (aC_10 ad ca) dG_setSingle_63 rfl (fun v3 => ?_)
          refine x_sipush (nx := 67) (v := (255 : Int32)) h dG_setSingle_64 (by decide) rfl ?_
          refine x_iand (nx := 68) h dG_setSingle_67 rfl ?_
          refine x_iload_n (nx := 69) (i := 2) h dG_setSingle_68 rfl 2 rfl rfl ?_
          refine x_bipush (nx := 71) (v := (8 : Int32)) h dG_setSingle_69 (by decide) rfl ?_
          refine x_ishl (nx := 72) h dG_setSingle_71 rfl ?_
          refine x_ior (nx := 73) h dG_setSingle_72 rfl ?_
          refine x_iast (nx := 74) h (aC_10 ad ca) dG_setSingle_73 rfl (fun S4 => ?_)
          refine x_goto (tgt := 100) h dG_setSingle_74 (by decide) ?_
          exact x_sub [] rfl (j_G_setSingle_100 h N S4)
      · exact x_sub [0, 1, 2] rfl (j_G_setSingle_30 h N a1 a2 S)
  · refine x_aload_n (nx := 7) (i := 0) h dG_setSingle_6 rfl 0 rfl rfl ?_
    refine x_get (nx := 10) h (gC_5_0 ad ca _) (List.mem_cons_of_mem _ kG_9) dG_setSingle_7 rfl ?_
    refine x_iconst (nx := 11) (v := (0 : Int32)) h dG_setSingle_10 (by decide) rfl ?_
    refine x_iload_n (nx := 12) (i := 2) h dG_setSingle_11 rfl 2 rfl rfl ?_
    refine x_iast (nx := 13) h (aC_10 ad ca) dG_setSingle_12 rfl (fun S5 => ?_)
    refine x_goto (tgt := 100) h dG_setSingle_13 (by decide) ?_
    exact x_sub [] rfl (j_G_setSingle_100 h N S5)
set_option maxHeartbeats 4000000 in
set_option maxRecDepth 100000 in
theorem j_P_setOperand_30 {l : Launch} {D : va_G} {ad : Nat → Nat} {ca : Nat → ClassId} {p : Program} {e : Env} {s : State} {m : MethodId} {args : Array Value} {below : List Frame} {meth : Method} {c : Code} {A : Nat → Prop} (h : xC p s m args meth c cP_setOperand 3 (Cond.code yP_setOperand cP_setOperand 3 none :: wA) nW yP_setOperand.cls none D clA (tysC ca) A) (N : Nat) (S : xSt) : xJ p l e rm_P_setOperand s m args below meth c D clA (tysC ca) (cellsC ad ca) A false 3 30 [] [] S (f_P_setOperand_30 N S) := by
  unfold f_P_setOperand_30
  exact x_vret h dP_setOperand_30
set_option maxHeartbeats 4000000 in
set_option maxRecDepth 100000 in
theorem m_P_setOperand {l : Launch} {D : va_G} {ad : Nat → Nat} {ca : Nat → ClassId} (N : Nat) (a1 a2 : Int32) (S : xSt) : xM l D clA (tysC ca) (cellsC ad ca) nW yP_setOperand (Cond.code yP_setOperand cP_setOperand 3 none :: wA) rm_P_setOperand false [.ref (ad 2), .int a1, .int a2] S (f_P_setOperand N a1 a2 S) := by
  refine x_met (cc := cP_setOperand) (maxL := 3) (ret := none) (by decide) rfl [.ref (ad 2), .int a1, .int a2] (lv0 := [(0, .ref (ad 2)), (1, .int a1), (2, .int a2)]) (Nat.le_of_ble_eq_true rfl) rfl ?_
  intro p e s m args below meth c A h
  unfold f_P_setOperand
  refine x_iload_n (nx := 1) (i := 1) h dP_setOperand_0 rfl 1 rfl rfl ?_
  refine x_bipush (nx := 3) (v := (6 : Int32)) h dP_setOperand_1 (by decide) rfl ?_
  refine x_icmp_ne (nx := 6) (tgt := 21) h dP_setOperand_3 (by decide) rfl ?_ ?_
  · refine x_aload_n (nx := 22) (i := 0) h dP_setOperand_21 rfl 0 rfl rfl ?_
    refine x_get (nx := 25) h (gC_2_1 ad ca _) (List.mem_cons_of_mem _ kP_10) dP_setOperand_22 rfl ?_
    refine x_iload_n (nx := 26) (i := 1) h dP_setOperand_25 rfl 1 rfl rfl ?_
    refine x_iload_n (nx := 27) (i := 2) h dP_setOperand_26 rfl 2 rfl rfl ?_
    refine x_cVv (nx := 30) (rest := []) (As := [.int a1, .int a2]) h (m_G_setSingle N a1 a2 S) (x_wV h goA y_G_setSingle kP_128 ⟨by decide, by decide⟩ rfl rfl) (oC_5 ad ca) rfl rfl (Nat.le_of_ble_eq_true rfl) dP_setOperand_27 rfl (fun v1 S2 => ?_)
    exact x_sub [] rfl (j_P_setOperand_30 h N S2)
  · refine x_aload_n (nx := 7) (i := 0) h dP_setOperand_6 rfl 0 rfl rfl ?_
    refine x_get (nx := 10) h (gC_2_0 ad ca _) (List.mem_cons_of_mem _ kP_21) dP_setOperand_7 rfl ?_
    refine x_aload_n (nx := 11) (i := 0) h dP_setOperand_10 rfl 0 rfl rfl ?_
    refine x_get (nx := 14) h (gC_2_3 ad ca _) (List.mem_cons_of_mem _ kP_112) dP_setOperand_11 rfl ?_
    refine x_iload_n (nx := 15) (i := 2) h dP_setOperand_14 rfl 2 rfl rfl ?_
    refine x_cVv (nx := 18) (rest := []) (As := [.int (S 2 3), .int a2]) h (m_B_write N (S 2 3) a2 S) (x_wV h goA y_B_write kP_122 ⟨by decide, by decide⟩ rfl rfl) (oC_1 ad ca) rfl rfl (Nat.le_of_ble_eq_true rfl) dP_setOperand_15 rfl (fun v3 S4 => ?_)
    refine x_goto (tgt := 30) h dP_setOperand_18 (by decide) ?_
    exact x_sub [] rfl (j_P_setOperand_30 h N S4)
set_option maxHeartbeats 4000000 in
set_option maxRecDepth 100000 in
theorem j_P_rotate_137 {l : Launch} {D : va_G} {ad : Nat → Nat} {ca : Nat → ClassId} {p : Program} {e : Env} {s : State} {m : MethodId} {args : Array Value} {below : List Frame} {meth : Method} {c : Code} {A : Nat → Prop} (h : xC p s m args meth c cP_rotate 7 (Cond.code yP_rotate cP_rotate 7 none :: wA) nW yP_rotate.cls none D clA (tysC ca) A) (N : Nat) (S : xSt) : xJ p l e rm_P_rotate s m args below meth c D clA (tysC ca) (cellsC ad ca) A false 7 137 [] [] S (f_P_rotate_137 N S) := by
  unfold f_P_rotate_137
  exact x_vret h dP_rotate_137
set_option maxHeartbeats 4000000 in
set_option maxRecDepth 100000 in
theorem j_P_rotate_129 {l : Launch} {D : va_G} {ad : Nat → Nat} {ca : Nat → ClassId} {p : Program} {e : Env} {s : State} {m : MethodId} {args : Array Value} {below : List Frame} {meth : Method} {c : Code} {A : Nat → Prop} (h : xC p s m args meth c cP_rotate 7 (Cond.code yP_rotate cP_rotate 7 none :: wA) nW yP_rotate.cls none D clA (tysC ca) A) (N : Nat) (a4 a6 : Int32) (S : xSt) : xJ p l e rm_P_rotate s m args below meth c D clA (tysC ca) (cellsC ad ca) A false 7 129 [(0, .ref (ad 2)), (4, .int a4), (6, .int a6)] [] S (f_P_rotate_129 N a4 a6 S) := by
  unfold f_P_rotate_129
  refine x_aload_n (nx := 130) (i := 0) h dP_rotate_129 rfl 0 rfl rfl ?_
  refine x_iload (nx := 132) (i := 4) h dP_rotate_130 1 rfl rfl ?_
  refine x_iload (nx := 134) (i := 6) h dP_rotate_132 2 rfl rfl ?_
  refine x_cVv (nx := 137) (rest := []) (As := [.int a4, .int a6]) h (m_P_setOperand N a4 a6 S) (x_wV h goA y_P_setOperand kP_79 ⟨by decide, by decide⟩ rfl rfl) (oC_2 ad ca) rfl rfl (Nat.le_of_ble_eq_true rfl) dP_rotate_134 rfl (fun v1 S2 => ?_)
  exact x_sub [] rfl (j_P_rotate_137 h N S2)
set_option maxHeartbeats 4000000 in
set_option maxRecDepth 100000 in
theorem j_P_rotate_118 {l : Launch} {D : va_G} {ad : Nat → Nat} {ca : Nat → ClassId} {p : Program} {e : Env} {s : State} {m : MethodId} {args : Array Value} {below : List Frame} {meth : Method} {c : Code} {A : Nat → Prop} (h : xC p s m args meth c cP_rotate 7 (Cond.code yP_rotate cP_rotate 7 none :: wA) nW yP_rotate.cls none D clA (tysC ca) A) (N : Nat) (a1 a4 a6 : Int32) (S : xSt) : xJ p l e rm_P_rotate s m args below meth c D clA (tysC ca) (cellsC ad ca) A false 7 118 [(0, .ref (ad 2)), (1, .int a1), (4, .int a4), (6, .int a6)] [] S (f_P_rotate_118 N a1 a4 a6 S) := by
  unfold f_P_rotate_118
  refine x_iload_n (nx := 119) (i := 1) h dP_rotate_118 rfl 1 rfl rfl ?_
  refine x_if_eq (nx := 122) (tgt := 129) h dP_rotate_119 (by decide) rfl ?_ ?_
  · exact x_sub [0, 2, 3] rfl (j_P_rotate_129 h N a4 a6 S)
  · refine x_iload (nx := 124) (i := 4) h dP_rotate_122 2 rfl rfl ?_
    refine x_bipush (nx := 126) (v := (6 : Int32)) h dP_rotate_124 (by decide) rfl ?_
    refine x_icmp_eq (nx := 129) (tgt := 137) h dP_rotate_126 (by decide) rfl ?_ ?_
    · exact x_sub [] rfl (j_P_rotate_137 h N S)
    · exact x_sub [0, 2, 3] rfl (j_P_rotate_129 h N a4 a6 S)
set_option maxHeartbeats 4000000 in
set_option maxRecDepth 100000 in
theorem j_P_rotate_63 {l : Launch} {D : va_G} {ad : Nat → Nat} {ca : Nat → ClassId} {p : Program} {e : Env} {s : State} {m : MethodId} {args : Array Value} {below : List Frame} {meth : Method} {c : Code} {A : Nat → Prop} (h : xC p s m args meth c cP_rotate 7 (Cond.code yP_rotate cP_rotate 7 none :: wA) nW yP_rotate.cls none D clA (tysC ca) A) (N : Nat) (a1 a2 a3 a4 w1 : Int32) (S : xSt) : xJ p l e rm_P_rotate s m args below meth c D clA (tysC ca) (cellsC ad ca) A false 7 63 [(0, .ref (ad 2)), (1, .int a1), (2, .int a2), (3, .int a3), (4, .int a4)] [.int w1, .ref (ad 2)] S (f_P_rotate_63 N a1 a2 a3 a4 w1 S) := by
  unfold f_P_rotate_63
  refine x_cVi (nx := 66) (rest := []) (As := [.int w1]) h (m_P_operand N w1 S) (x_wV h goA y_P_operand kP_76 ⟨by decide, by decide⟩ rfl rfl) (oC_2 ad ca) rfl rfl (Nat.le_of_ble_eq_true rfl) dP_rotate_63 rfl (fun v1 S2 => ?_)
  refine x_istore (nx := 68) (i := 5) (lv' := [(5, .int v1), (0, .ref (ad 2)), (1, .int a1), (2, .int a2), (3, .int a3), (4, .int a4)]) h dP_rotate_66 (by decide) rfl rfl ?_
  refine x_iload_n (nx := 69) (i := 2) h dP_rotate_68 rfl 3 rfl rfl ?_
  refine x_bipush (nx := 71) (v := (6 : Int32)) h dP_rotate_69 (by decide) rfl ?_
  refine x_ishr (nx := 72) h dP_rotate_71 rfl ?_
  refine x_iconst (nx := 73) (v := (1 : Int32)) h dP_rotate_72 (by decide) rfl ?_
  refine x_icmp_ne (nx := 76) (tgt := 93) h dP_rotate_73 (by decide) rfl ?_ ?_
  · refine x_aload_n (nx := 94) (i := 0) h dP_rotate_93 rfl 1 rfl rfl ?_
    refine x_iload_n (nx := 95) (i := 2) h dP_rotate_94 rfl 3 rfl rfl ?_
    refine x_bipush (nx := 97) (v := (6 : Int32)) h dP_rotate_95 (by decide) rfl ?_
    refine x_ishr (nx := 98) h dP_rotate_97 rfl ?_
    refine x_iload_n (nx := 99) (i := 3) h dP_rotate_98 rfl 4 rfl rfl ?_
    refine x_iload (nx := 101) (i := 5) h dP_rotate_99 0 rfl rfl ?_
    refine x_cVi (nx := 104) (rest := []) (As := [.int (a2 >>> ((6 : Int32) &&& 31)), .int a3, .int v1]) h (m_P_changedByte N (a2 >>> ((6 : Int32) &&& 31)) a3 v1 S2) (x_wV h goA y_P_changedByte kP_226 ⟨by decide, by decide⟩ rfl rfl) (oC_2 ad ca) rfl rfl (Nat.le_of_ble_eq_true rfl) dP_rotate_101 rfl (fun v3 S4 => ?_)
    refine x_istore (nx := 106) (i := 6) (lv' := [(6, .int v3), (5, .int v1), (0, .ref (ad 2)), (1, .int a1), (2, .int a2), (3, .int a3), (4, .int a4)]) h dP_rotate_104 (by decide) rfl rfl ?_
    refine x_iload_n (nx := 107) (i := 1) h dP_rotate_106 rfl 3 rfl rfl ?_
    refine x_if_eq (nx := 110) (tgt := 118) h dP_rotate_107 (by decide) rfl ?_ ?_
    · exact x_sub [2, 3, 6, 0] rfl (j_P_rotate_118 h N a1 a4 v3 S4)
    · refine x_aload_n (nx := 111) (i := 0) h dP_rotate_110 rfl 2 rfl rfl ?_
      refine x_bipush (nx := 113) (v := (6 : Int32)) h dP_rotate_111 (by decide) rfl ?_
      refine x_iload (nx := 115) (i := 6) h dP_rotate_113 0 rfl rfl ?_
      refine x_cVv (nx := 118) (rest := []) (As := [.int (6 : Int32), .int v3]) h (m_P_setOperand N (6 : Int32) v3 S4) (x_wV h goA y_P_setOperand kP_79 ⟨by decide, by decide⟩ rfl rfl) (oC_2 ad ca) rfl rfl (Nat.le_of_ble_eq_true rfl) dP_rotate_115 rfl (fun v5 S6 => ?_)
      exact x_sub [2, 3, 6, 0] rfl (j_P_rotate_118 h N a1 a4 v3 S6)
  · refine x_aload_n (nx := 77) (i := 0) h dP_rotate_76 rfl 1 rfl rfl ?_
    refine x_get (nx := 80) h (gC_2_2 ad ca _) (List.mem_cons_of_mem _ kP_20) dP_rotate_77 rfl ?_
    refine x_iconst (nx := 81) (v := (1 : Int32)) h dP_rotate_80 (by decide) rfl ?_
    refine x_iload_n (nx := 82) (i := 3) h dP_rotate_81 rfl 4 rfl rfl ?_
    refine x_iload (nx := 84) (i := 5) h dP_rotate_82 0 rfl rfl ?_
    refine x_aload_n (nx := 85) (i := 0) h dP_rotate_84 rfl 1 rfl rfl ?_
    refine x_cVi (nx := 88) (rest := [.int v1, .int a3, .int (1 : Int32), .ref (ad 10)]) (As := []) h (m_P_carry N S2) (x_wV h goA y_P_carry kP_193 ⟨by decide, by decide⟩ rfl rfl) (oC_2 ad ca) rfl rfl (Nat.le_of_ble_eq_true rfl) dP_rotate_85 rfl (fun v7 S8 => ?_)
    refine x_cSi (nx := 91) (rest := [.int (1 : Int32), .ref (ad 10)]) (As := [.int a3, .int v1, .int v7]) h (m_A_bitFlags N a3 v1 v7 S8) (x_wS h goA y_A_bitFlags kP_223 ⟨by decide, by decide⟩ rfl rfl) rfl rfl (Nat.le_of_ble_eq_true rfl) dP_rotate_88 rfl (fun v9 S10 => ?_)
    refine x_iast (nx := 92) h (aC_10 ad ca) dP_rotate_91 rfl (fun S11 => ?_)
    exact x_vret h dP_rotate_92
set_option maxHeartbeats 4000000 in
set_option maxRecDepth 100000 in
theorem j_P_rotate_37 {l : Launch} {D : va_G} {ad : Nat → Nat} {ca : Nat → ClassId} {p : Program} {e : Env} {s : State} {m : MethodId} {args : Array Value} {below : List Frame} {meth : Method} {c : Code} {A : Nat → Prop} (h : xC p s m args meth c cP_rotate 7 (Cond.code yP_rotate cP_rotate 7 none :: wA) nW yP_rotate.cls none D clA (tysC ca) A) (N : Nat) (a1 w0 : Int32) (S : xSt) : xJ p l e rm_P_rotate s m args below meth c D clA (tysC ca) (cellsC ad ca) A false 7 37 [(0, .ref (ad 2)), (1, .int a1)] [.int w0] S (f_P_rotate_37 N a1 w0 S) := by
  unfold f_P_rotate_37
  refine x_istore_n (nx := 38) (i := 2) (lv' := [(2, .int w0), (0, .ref (ad 2)), (1, .int a1)]) h dP_rotate_37 rfl (by decide) rfl rfl ?_
  refine x_iload_n (nx := 39) (i := 2) h dP_rotate_38 rfl 0 rfl rfl ?_
  refine x_iconst (nx := 40) (v := (3 : Int32)) h dP_rotate_39 (by decide) rfl ?_
  refine x_ishr (nx := 41) h dP_rotate_40 rfl ?_
  refine x_bipush (nx := 43) (v := (7 : Int32)) h dP_rotate_41 (by decide) rfl ?_
  refine x_iand (nx := 44) h dP_rotate_43 rfl ?_
  refine x_val (fun b1 => ?_)
  refine x_istore_n (nx := 45) (i := 3) (lv' := [(3, .int b1), (2, .int w0), (0, .ref (ad 2)), (1, .int a1)]) h dP_rotate_44 rfl (by decide) rfl rfl ?_
  refine x_iload_n (nx := 46) (i := 2) h dP_rotate_45 rfl 1 rfl rfl ?_
  refine x_bipush (nx := 48) (v := (7 : Int32)) h dP_rotate_46 (by decide) rfl ?_
  refine x_iand (nx := 49) h dP_rotate_48 rfl ?_
  refine x_val (fun b2 => ?_)
  refine x_istore (nx := 51) (i := 4) (lv' := [(4, .int b2), (3, .int b1), (2, .int w0), (0, .ref (ad 2)), (1, .int a1)]) h dP_rotate_49 (by decide) rfl rfl ?_
  refine x_aload_n (nx := 52) (i := 0) h dP_rotate_51 rfl 3 rfl rfl ?_
  refine x_iload_n (nx := 53) (i := 1) h dP_rotate_52 rfl 4 rfl rfl ?_
  refine x_if_eq (nx := 56) (tgt := 61) h dP_rotate_53 (by decide) rfl ?_ ?_
  · refine x_iload (nx := 63) (i := 4) h dP_rotate_61 0 rfl rfl ?_
    exact x_sub [3, 4, 2, 1, 0] rfl (j_P_rotate_63 h N a1 w0 b1 b2 b2 S)
  · refine x_bipush (nx := 58) (v := (6 : Int32)) h dP_rotate_56 (by decide) rfl ?_
    refine x_goto (tgt := 63) h dP_rotate_58 (by decide) ?_
    exact x_sub [3, 4, 2, 1, 0] rfl (j_P_rotate_63 h N a1 w0 b1 b2 (6 : Int32) S)
set_option maxHeartbeats 4000000 in
set_option maxRecDepth 100000 in
theorem j_P_rotate_17 {l : Launch} {D : va_G} {ad : Nat → Nat} {ca : Nat → ClassId} {p : Program} {e : Env} {s : State} {m : MethodId} {args : Array Value} {below : List Frame} {meth : Method} {c : Code} {A : Nat → Prop} (h : xC p s m args meth c cP_rotate 7 (Cond.code yP_rotate cP_rotate 7 none :: wA) nW yP_rotate.cls none D clA (tysC ca) A) (N : Nat) (w0 : Int32) (S : xSt) : xJ p l e rm_P_rotate s m args below meth c D clA (tysC ca) (cellsC ad ca) A false 7 17 [(0, .ref (ad 2))] [.int w0] S (f_P_rotate_17 N w0 S) := by
  unfold f_P_rotate_17
  refine x_istore_n (nx := 18) (i := 1) (lv' := [(1, .int w0), (0, .ref (ad 2))]) h dP_rotate_17 rfl (by decide) rfl rfl ?_
  refine x_aload_n (nx := 19) (i := 0) h dP_rotate_18 rfl 1 rfl rfl ?_
  refine x_cVv (nx := 22) (rest := []) (As := []) h (m_P_findM N S) (x_wV h goA y_P_findM kP_59 ⟨by decide, by decide⟩ rfl rfl) (oC_2 ad ca) rfl rfl (Nat.le_of_ble_eq_true rfl) dP_rotate_19 rfl (fun v1 S2 => ?_)
  refine x_iload_n (nx := 23) (i := 1) h dP_rotate_22 rfl 0 rfl rfl ?_
  refine x_if_eq (nx := 26) (tgt := 33) h dP_rotate_23 (by decide) rfl ?_ ?_
  · refine x_aload_n (nx := 34) (i := 0) h dP_rotate_33 rfl 1 rfl rfl ?_
    refine x_cVi (nx := 37) (rest := []) (As := []) h (m_P_fetch N S2) (x_wV h goA y_P_fetch kP_65 ⟨by decide, by decide⟩ rfl rfl) (oC_2 ad ca) rfl rfl (Nat.le_of_ble_eq_true rfl) dP_rotate_34 rfl (fun v3 S4 => ?_)
    exact x_sub [1, 0] rfl (j_P_rotate_37 h N w0 v3 S4)
  · refine x_aload_n (nx := 27) (i := 0) h dP_rotate_26 rfl 1 rfl rfl ?_
    refine x_cVi (nx := 30) (rest := []) (As := []) h (m_P_nextByte N S2) (x_wV h goA y_P_nextByte kP_115 ⟨by decide, by decide⟩ rfl rfl) (oC_2 ad ca) rfl rfl (Nat.le_of_ble_eq_true rfl) dP_rotate_27 rfl (fun v5 S6 => ?_)
    refine x_goto (tgt := 37) h dP_rotate_30 (by decide) ?_
    exact x_sub [1, 0] rfl (j_P_rotate_37 h N w0 v5 S6)
set_option maxHeartbeats 4000000 in
set_option maxRecDepth 100000 in
theorem m_P_rotate {l : Launch} {D : va_G} {ad : Nat → Nat} {ca : Nat → ClassId} (N : Nat) (S : xSt) : xM l D clA (tysC ca) (cellsC ad ca) nW yP_rotate (Cond.code yP_rotate cP_rotate 7 none :: wA) rm_P_rotate false [.ref (ad 2)] S (f_P_rotate N S) := by
  refine x_met (cc := cP_rotate) (maxL := 7) (ret := none) (by decide) rfl [.ref (ad 2)] (lv0 := [(0, .ref (ad 2))]) (Nat.le_of_ble_eq_true rfl) rfl ?_
  intro p e s m args below meth c A h
  unfold f_P_rotate
  refine x_aload_n (nx := 1) (i := 0) h dP_rotate_0 rfl 0 rfl rfl ?_
  refine x_get (nx := 4) h (gC_2_1 ad ca _) (List.mem_cons_of_mem _ kP_10) dP_rotate_1 rfl ?_
  refine x_getN (nx := 7) h (gC_5_1 ad ca _) kP_29 dP_rotate_4 rfl ?_
  refine x_bipush (nx := 9) (v := (6 : Int32)) h dP_rotate_7 (by decide) rfl ?_
  refine x_icmp_eq (nx := 12) (tgt := 16) h dP_rotate_9 (by decide) rfl ?_ ?_
  · refine x_iconst (nx := 17) (v := (0 : Int32)) h dP_rotate_16 (by decide) rfl ?_
    exact x_sub [0] rfl (j_P_rotate_17 h N (0 : Int32) S)
  · refine x_iconst (nx := 13) (v := (1 : Int32)) h dP_rotate_12 (by decide) rfl ?_
    refine x_goto (tgt := 17) h dP_rotate_13 (by decide) ?_
    exact x_sub [0] rfl (j_P_rotate_17 h N (1 : Int32) S)
set_option maxHeartbeats 4000000 in
set_option maxRecDepth 100000 in
theorem m_G_split {l : Launch} {D : va_G} {ad : Nat → Nat} {ca : Nat → ClassId} (N : Nat) (a1 a2 : Int32) (S : xSt) : xM l D clA (tysC ca) (cellsC ad ca) nW yG_split (Cond.code yG_split cG_split 3 none :: wA) rm_G_split false [.ref (ad 5), .int a1, .int a2] S (f_G_split N a1 a2 S) := by
  refine x_met (cc := cG_split) (maxL := 3) (ret := none) (by decide) rfl [.ref (ad 5), .int a1, .int a2] (lv0 := [(0, .ref (ad 5)), (1, .int a1), (2, .int a2)]) (Nat.le_of_ble_eq_true rfl) rfl ?_
  intro p e s m args below meth c A h
  unfold f_G_split
  refine x_aload_n (nx := 1) (i := 0) h dG_split_0 rfl 0 rfl rfl ?_
  refine x_get (nx := 4) h (gC_5_0 ad ca _) (List.mem_cons_of_mem _ kG_9) dG_split_1 rfl ?_
  refine x_iload_n (nx := 5) (i := 1) h dG_split_4 rfl 1 rfl rfl ?_
  refine x_iload_n (nx := 6) (i := 2) h dG_split_5 rfl 2 rfl rfl ?_
  refine x_bipush (nx := 8) (v := (8 : Int32)) h dG_split_6 (by decide) rfl ?_
  refine x_ishr (nx := 9) h dG_split_8 rfl ?_
  refine x_sipush (nx := 12) (v := (255 : Int32)) h dG_split_9 (by decide) rfl ?_
  refine x_iand (nx := 13) h dG_split_12 rfl ?_
  refine x_iast (nx := 14) h (aC_10 ad ca) dG_split_13 rfl (fun S1 => ?_)
  refine x_aload_n (nx := 15) (i := 0) h dG_split_14 rfl 0 rfl rfl ?_
  refine x_get (nx := 18) h (gC_5_0 ad ca _) (List.mem_cons_of_mem _ kG_9) dG_split_15 rfl ?_
  refine x_iload_n (nx := 19) (i := 1) h dG_split_18 rfl 1 rfl rfl ?_
  refine x_iconst (nx := 20) (v := (1 : Int32)) h dG_split_19 (by decide) rfl ?_
  refine x_iadd (nx := 21) h dG_split_20 rfl ?_
  refine x_iload_n (nx := 22) (i := 2) h dG_split_21 rfl 2 rfl rfl ?_
  refine x_sipush (nx := 25) (v := (255 : Int32)) h dG_split_22 (by decide) rfl ?_
  refine x_iand (nx := 26) h dG_split_25 rfl ?_
  refine x_iast (nx := 27) h (aC_10 ad ca) dG_split_26 rfl (fun S2 => ?_)
  exact x_vret h dG_split_27
set_option maxHeartbeats 4000000 in
set_option maxRecDepth 100000 in
theorem j_G_setHl_32 {l : Launch} {D : va_G} {ad : Nat → Nat} {ca : Nat → ClassId} {p : Program} {e : Env} {s : State} {m : MethodId} {args : Array Value} {below : List Frame} {meth : Method} {c : Code} {A : Nat → Prop} (h : xC p s m args meth c cG_setHl 2 (Cond.code yG_setHl cG_setHl 2 none :: wA) nW yG_setHl.cls none D clA (tysC ca) A) (N : Nat) (S : xSt) : xJ p l e rm_G_setHl s m args below meth c D clA (tysC ca) (cellsC ad ca) A false 2 32 [] [] S (f_G_setHl_32 N S) := by
  unfold f_G_setHl_32
  exact x_vret h dG_setHl_32
set_option maxHeartbeats 4000000 in
set_option maxRecDepth 100000 in
theorem m_G_setHl {l : Launch} {D : va_G} {ad : Nat → Nat} {ca : Nat → ClassId} (N : Nat) (a1 : Int32) (S : xSt) : xM l D clA (tysC ca) (cellsC ad ca) nW yG_setHl (Cond.code yG_setHl cG_setHl 2 none :: wA) rm_G_setHl false [.ref (ad 5), .int a1] S (f_G_setHl N a1 S) := by
  refine x_met (cc := cG_setHl) (maxL := 2) (ret := none) (by decide) rfl [.ref (ad 5), .int a1] (lv0 := [(0, .ref (ad 5)), (1, .int a1)]) (Nat.le_of_ble_eq_true rfl) rfl ?_
  intro p e s m args below meth c A h
  unfold f_G_setHl
  refine x_aload_n (nx := 1) (i := 0) h dG_setHl_0 rfl 0 rfl rfl ?_
  refine x_get (nx := 4) h (gC_5_1 ad ca _) (List.mem_cons_of_mem _ kG_13) dG_setHl_1 rfl ?_
  refine x_bipush (nx := 6) (v := (6 : Int32)) h dG_setHl_4 (by decide) rfl ?_
  refine x_icmp_ne (nx := 9) (tgt := 19) h dG_setHl_6 (by decide) rfl ?_ ?_
  · refine x_aload_n (nx := 20) (i := 0) h dG_setHl_19 rfl 0 rfl rfl ?_
    refine x_get (nx := 23) h (gC_5_0 ad ca _) (List.mem_cons_of_mem _ kG_9) dG_setHl_20 rfl ?_
    refine x_aload_n (nx := 24) (i := 0) h dG_setHl_23 rfl 0 rfl rfl ?_
    refine x_get (nx := 27) h (gC_5_1 ad ca _) (List.mem_cons_of_mem _ kG_13) dG_setHl_24 rfl ?_
    refine x_iload_n (nx := 28) (i := 1) h dG_setHl_27 rfl 1 rfl rfl ?_
    refine x_ldc (nx := 30) (v := (65535 : Int32)) h (List.mem_cons_of_mem _ kG_21) dG_setHl_28 rfl ?_
    refine x_iand (nx := 31) h dG_setHl_30 rfl ?_
    refine x_iast (nx := 32) h (aC_10 ad ca) dG_setHl_31 rfl (fun S1 => ?_)
    exact x_sub [] rfl (j_G_setHl_32 h N S1)
  · refine x_aload_n (nx := 10) (i := 0) h dG_setHl_9 rfl 0 rfl rfl ?_
    refine x_bipush (nx := 12) (v := (6 : Int32)) h dG_setHl_10 (by decide) rfl ?_
    refine x_iload_n (nx := 13) (i := 1) h dG_setHl_12 rfl 1 rfl rfl ?_
    refine x_cVv (nx := 16) (rest := []) (As := [.int (6 : Int32), .int a1]) h (m_G_split N (6 : Int32) a1 S) (x_wV h goA y_G_split kG_25 ⟨by decide, by decide⟩ rfl rfl) (oC_5 ad ca) rfl rfl (Nat.le_of_ble_eq_true rfl) dG_setHl_13 rfl (fun v2 S3 => ?_)
    refine x_goto (tgt := 32) h dG_setHl_16 (by decide) ?_
    exact x_sub [] rfl (j_G_setHl_32 h N S3)
set_option maxHeartbeats 4000000 in
set_option maxRecDepth 100000 in
theorem j_P_advance_58 {l : Launch} {D : va_G} {ad : Nat → Nat} {ca : Nat → ClassId} {p : Program} {e : Env} {s : State} {m : MethodId} {args : Array Value} {below : List Frame} {meth : Method} {c : Code} {A : Nat → Prop} (h : xC p s m args meth c cP_advance 4 (Cond.code yP_advance cP_advance 4 (some .int) :: wA) nW yP_advance.cls (some .int) D clA (tysC ca) A) (N : Nat) (w0 w1 : Int32) (S : xSt) : xJ p l e rm_P_advance s m args below meth c D clA (tysC ca) (cellsC ad ca) A true 4 58 [] [.int w1, .int w0] S (f_P_advance_58 N w0 w1 S) := by
  unfold f_P_advance_58
  refine x_ior (nx := 59) h dP_advance_58 rfl ?_
  exact x_iret h dP_advance_59
set_option maxHeartbeats 4000000 in
set_option maxRecDepth 100000 in
theorem m_P_advance {l : Launch} {D : va_G} {ad : Nat → Nat} {ca : Nat → ClassId} (N : Nat) (a1 a2 : Int32) (S : xSt) : xM l D clA (tysC ca) (cellsC ad ca) nW yP_advance (Cond.code yP_advance cP_advance 4 (some .int) :: wA) rm_P_advance true [.ref (ad 2), .int a1, .int a2] S (f_P_advance N a1 a2 S) := by
  refine x_met (cc := cP_advance) (maxL := 4) (ret := (some .int)) (by decide) rfl [.ref (ad 2), .int a1, .int a2] (lv0 := [(0, .ref (ad 2)), (1, .int a1), (2, .int a2)]) (Nat.le_of_ble_eq_true rfl) rfl ?_
  intro p e s m args below meth c A h
  unfold f_P_advance
  refine x_aload_n (nx := 1) (i := 0) h dP_advance_0 rfl 0 rfl rfl ?_
  refine x_get (nx := 4) h (gC_2_1 ad ca _) (List.mem_cons_of_mem _ kP_10) dP_advance_1 rfl ?_
  refine x_aload_n (nx := 5) (i := 0) h dP_advance_4 rfl 0 rfl rfl ?_
  refine x_get (nx := 8) h (gC_2_1 ad ca _) (List.mem_cons_of_mem _ kP_10) dP_advance_5 rfl ?_
  refine x_cVi (nx := 11) (rest := [.ref (ad 5)]) (As := []) h (m_G_hl N S) (x_wV h goA y_G_hl kP_109 ⟨by decide, by decide⟩ rfl rfl) (oC_5 ad ca) rfl rfl (Nat.le_of_ble_eq_true rfl) dP_advance_8 rfl (fun v1 S2 => ?_)
  refine x_iload_n (nx := 12) (i := 1) h dP_advance_11 rfl 1 rfl rfl ?_
  refine x_iadd (nx := 13) h dP_advance_12 rfl ?_
  refine x_cVv (nx := 16) (rest := []) (As := [.int (v1 + a1)]) h (m_G_setHl N (v1 + a1) S2) (x_wV h goA y_G_setHl kP_171 ⟨by decide, by decide⟩ rfl rfl) (oC_5 ad ca) rfl rfl (Nat.le_of_ble_eq_true rfl) dP_advance_13 rfl (fun v3 S4 => ?_)
  refine x_aload_n (nx := 17) (i := 0) h dP_advance_16 rfl 0 rfl rfl ?_
  refine x_get (nx := 20) h (gC_2_1 ad ca _) (List.mem_cons_of_mem _ kP_10) dP_advance_17 rfl ?_
  refine x_iconst (nx := 21) (v := (2 : Int32)) h dP_advance_20 (by decide) rfl ?_
  refine x_cVi (nx := 24) (rest := []) (As := [.int (2 : Int32)]) h (m_G_joined N (2 : Int32) S4) (x_wV h goA y_G_joined kP_211 ⟨by decide, by decide⟩ rfl rfl) (oC_5 ad ca) rfl rfl (Nat.le_of_ble_eq_true rfl) dP_advance_21 rfl (fun v5 S6 => ?_)
  refine x_iconst (nx := 25) (v := (1 : Int32)) h dP_advance_24 (by decide) rfl ?_
  refine x_isub (nx := 26) h dP_advance_25 rfl ?_
  refine x_ldc (nx := 28) (v := (65535 : Int32)) h (List.mem_cons_of_mem _ kP_118) dP_advance_26 rfl ?_
  refine x_iand (nx := 29) h dP_advance_28 rfl ?_
  refine x_val (fun b7 => ?_)
  refine x_istore_n (nx := 30) (i := 3) (lv' := [(3, .int b7), (0, .ref (ad 2)), (1, .int a1), (2, .int a2)]) h dP_advance_29 rfl (by decide) rfl rfl ?_
  refine x_aload_n (nx := 31) (i := 0) h dP_advance_30 rfl 1 rfl rfl ?_
  refine x_get (nx := 34) h (gC_2_1 ad ca _) (List.mem_cons_of_mem _ kP_10) dP_advance_31 rfl ?_
  refine x_iconst (nx := 35) (v := (2 : Int32)) h dP_advance_34 (by decide) rfl ?_
  refine x_iload_n (nx := 36) (i := 3) h dP_advance_35 rfl 0 rfl rfl ?_
  refine x_cVv (nx := 39) (rest := []) (As := [.int (2 : Int32), .int b7]) h (m_G_split N (2 : Int32) b7 S6) (x_wV h goA y_G_split kP_190 ⟨by decide, by decide⟩ rfl rfl) (oC_5 ad ca) rfl rfl (Nat.le_of_ble_eq_true rfl) dP_advance_36 rfl (fun v8 S9 => ?_)
  refine x_iload_n (nx := 40) (i := 2) h dP_advance_39 rfl 3 rfl rfl ?_
  refine x_iconst (nx := 41) (v := (2 : Int32)) h dP_advance_40 (by decide) rfl ?_
  refine x_iand (nx := 42) h dP_advance_41 rfl ?_
  refine x_iconst (nx := 43) (v := (4 : Int32)) h dP_advance_42 (by decide) rfl ?_
  refine x_ishl (nx := 44) h dP_advance_43 rfl ?_
  refine x_iload_n (nx := 45) (i := 2) h dP_advance_44 rfl 3 rfl rfl ?_
  refine x_bipush (nx := 47) (v := (8 : Int32)) h dP_advance_45 (by decide) rfl ?_
  refine x_iand (nx := 48) h dP_advance_47 rfl ?_
  refine x_ior (nx := 49) h dP_advance_48 rfl ?_
  refine x_iload_n (nx := 50) (i := 3) h dP_advance_49 rfl 0 rfl rfl ?_
  refine x_if_eq (nx := 53) (tgt := 57) h dP_advance_50 (by decide) rfl ?_ ?_
  · refine x_iconst (nx := 58) (v := (0 : Int32)) h dP_advance_57 (by decide) rfl ?_
    exact x_sub [] rfl (j_P_advance_58 h N (((a2 &&& (2 : Int32)) <<< ((4 : Int32) &&& 31)) ||| (a2 &&& (8 : Int32))) (0 : Int32) S9)
  · refine x_iconst (nx := 54) (v := (4 : Int32)) h dP_advance_53 (by decide) rfl ?_
    refine x_goto (tgt := 58) h dP_advance_54 (by decide) ?_
    exact x_sub [] rfl (j_P_advance_58 h N (((a2 &&& (2 : Int32)) <<< ((4 : Int32) &&& 31)) ||| (a2 &&& (8 : Int32))) (4 : Int32) S9)
set_option maxHeartbeats 4000000 in
set_option maxRecDepth 100000 in
theorem m_P_setFlags {l : Launch} {D : va_G} {ad : Nat → Nat} {ca : Nat → ClassId} (N : Nat) (a1 a2 : Int32) (S : xSt) : xM l D clA (tysC ca) (cellsC ad ca) nW yP_setFlags (Cond.code yP_setFlags cP_setFlags 3 none :: wA) rm_P_setFlags false [.ref (ad 2), .int a1, .int a2] S (f_P_setFlags N a1 a2 S) := by
  refine x_met (cc := cP_setFlags) (maxL := 3) (ret := none) (by decide) rfl [.ref (ad 2), .int a1, .int a2] (lv0 := [(0, .ref (ad 2)), (1, .int a1), (2, .int a2)]) (Nat.le_of_ble_eq_true rfl) rfl ?_
  intro p e s m args below meth c A h
  unfold f_P_setFlags
  refine x_aload_n (nx := 1) (i := 0) h dP_setFlags_0 rfl 0 rfl rfl ?_
  refine x_get (nx := 4) h (gC_2_2 ad ca _) (List.mem_cons_of_mem _ kP_20) dP_setFlags_1 rfl ?_
  refine x_iconst (nx := 5) (v := (1 : Int32)) h dP_setFlags_4 (by decide) rfl ?_
  refine x_aload_n (nx := 6) (i := 0) h dP_setFlags_5 rfl 0 rfl rfl ?_
  refine x_get (nx := 9) h (gC_2_2 ad ca _) (List.mem_cons_of_mem _ kP_20) dP_setFlags_6 rfl ?_
  refine x_iconst (nx := 10) (v := (1 : Int32)) h dP_setFlags_9 (by decide) rfl ?_
  refine x_iald (nx := 11) h (aC_10 ad ca) dP_setFlags_10 rfl (fun v1 => ?_)
  refine x_iload_n (nx := 12) (i := 1) h dP_setFlags_11 rfl 1 rfl rfl ?_
  refine x_iand (nx := 13) h dP_setFlags_12 rfl ?_
  refine x_iload_n (nx := 14) (i := 2) h dP_setFlags_13 rfl 2 rfl rfl ?_
  refine x_ior (nx := 15) h dP_setFlags_14 rfl ?_
  refine x_iast (nx := 16) h (aC_10 ad ca) dP_setFlags_15 rfl (fun S2 => ?_)
  exact x_vret h dP_setFlags_16
set_option maxHeartbeats 4000000 in
set_option maxRecDepth 100000 in
theorem j_P_moveByte_104 {l : Launch} {D : va_G} {ad : Nat → Nat} {ca : Nat → ClassId} {p : Program} {e : Env} {s : State} {m : MethodId} {args : Array Value} {below : List Frame} {meth : Method} {c : Code} {A : Nat → Prop} (h : xC p s m args meth c cP_moveByte 5 (Cond.code yP_moveByte cP_moveByte 5 none :: wA) nW yP_moveByte.cls none D clA (tysC ca) A) (N : Nat) (S : xSt) : xJ p l e rm_P_moveByte s m args below meth c D clA (tysC ca) (cellsC ad ca) A false 5 104 [] [] S (f_P_moveByte_104 N S) := by
  unfold f_P_moveByte_104
  exact x_vret h dP_moveByte_104
set_option maxHeartbeats 4000000 in
set_option maxRecDepth 100000 in
theorem j_P_moveByte_42 {l : Launch} {D : va_G} {ad : Nat → Nat} {ca : Nat → ClassId} {p : Program} {e : Env} {s : State} {m : MethodId} {args : Array Value} {below : List Frame} {meth : Method} {c : Code} {A : Nat → Prop} (h : xC p s m args meth c cP_moveByte 5 (Cond.code yP_moveByte cP_moveByte 5 none :: wA) nW yP_moveByte.cls none D clA (tysC ca) A) (N : Nat) (a1 a2 w0 : Int32) (S : xSt) : xJ p l e rm_P_moveByte s m args below meth c D clA (tysC ca) (cellsC ad ca) A false 5 42 [(0, .ref (ad 2)), (1, .int a1), (2, .int a2)] [.int w0] S (f_P_moveByte_42 N a1 a2 w0 S) := by
  unfold f_P_moveByte_42
  refine x_istore_n (nx := 43) (i := 3) (lv' := [(3, .int w0), (0, .ref (ad 2)), (1, .int a1), (2, .int a2)]) h dP_moveByte_42 rfl (by decide) rfl rfl ?_
  refine x_aload_n (nx := 44) (i := 0) h dP_moveByte_43 rfl 1 rfl rfl ?_
  refine x_get (nx := 47) h (gC_2_1 ad ca _) (List.mem_cons_of_mem _ kP_10) dP_moveByte_44 rfl ?_
  refine x_iconst (nx := 48) (v := (4 : Int32)) h dP_moveByte_47 (by decide) rfl ?_
  refine x_aload_n (nx := 49) (i := 0) h dP_moveByte_48 rfl 1 rfl rfl ?_
  refine x_get (nx := 52) h (gC_2_1 ad ca _) (List.mem_cons_of_mem _ kP_10) dP_moveByte_49 rfl ?_
  refine x_iconst (nx := 53) (v := (4 : Int32)) h dP_moveByte_52 (by decide) rfl ?_
  refine x_cVi (nx := 56) (rest := [.int (4 : Int32), .ref (ad 5)]) (As := [.int (4 : Int32)]) h (m_G_joined N (4 : Int32) S) (x_wV h goA y_G_joined kP_211 ⟨by decide, by decide⟩ rfl rfl) (oC_5 ad ca) rfl rfl (Nat.le_of_ble_eq_true rfl) dP_moveByte_53 rfl (fun v1 S2 => ?_)
  refine x_iload_n (nx := 57) (i := 3) h dP_moveByte_56 rfl 0 rfl rfl ?_
  refine x_iadd (nx := 58) h dP_moveByte_57 rfl ?_
  refine x_cVv (nx := 61) (rest := []) (As := [.int (4 : Int32), .int (v1 + w0)]) h (m_G_split N (4 : Int32) (v1 + w0) S2) (x_wV h goA y_G_split kP_190 ⟨by decide, by decide⟩ rfl rfl) (oC_5 ad ca) rfl rfl (Nat.le_of_ble_eq_true rfl) dP_moveByte_58 rfl (fun v3 S4 => ?_)
  refine x_aload_n (nx := 62) (i := 0) h dP_moveByte_61 rfl 1 rfl rfl ?_
  refine x_iload_n (nx := 63) (i := 3) h dP_moveByte_62 rfl 0 rfl rfl ?_
  refine x_aload_n (nx := 64) (i := 0) h dP_moveByte_63 rfl 1 rfl rfl ?_
  refine x_get (nx := 67) h (gC_2_2 ad ca _) (List.mem_cons_of_mem _ kP_20) dP_moveByte_64 rfl ?_
  refine x_iconst (nx := 68) (v := (0 : Int32)) h dP_moveByte_67 (by decide) rfl ?_
  refine x_iald (nx := 69) h (aC_10 ad ca) dP_moveByte_68 rfl (fun v5 => ?_)
  refine x_iload_n (nx := 70) (i := 2) h dP_moveByte_69 rfl 3 rfl rfl ?_
  refine x_iadd (nx := 71) h dP_moveByte_70 rfl ?_
  refine x_cVi (nx := 74) (rest := []) (As := [.int w0, .int (v5 + a2)]) h (m_P_advance N w0 (v5 + a2) S4) (x_wV h goA y_P_advance kP_265 ⟨by decide, by decide⟩ rfl rfl) (oC_2 ad ca) rfl rfl (Nat.le_of_ble_eq_true rfl) dP_moveByte_71 rfl (fun v6 S7 => ?_)
  refine x_istore (nx := 76) (i := 4) (lv' := [(4, .int v6), (3, .int w0), (0, .ref (ad 2)), (1, .int a1), (2, .int a2)]) h dP_moveByte_74 (by decide) rfl rfl ?_
  refine x_aload_n (nx := 77) (i := 0) h dP_moveByte_76 rfl 2 rfl rfl ?_
  refine x_sipush (nx := 80) (v := (193 : Int32)) h dP_moveByte_77 (by decide) rfl ?_
  refine x_iload (nx := 82) (i := 4) h dP_moveByte_80 0 rfl rfl ?_
  refine x_cVv (nx := 85) (rest := []) (As := [.int (193 : Int32), .int v6]) h (m_P_setFlags N (193 : Int32) v6 S7) (x_wV h goA y_P_setFlags kP_174 ⟨by decide, by decide⟩ rfl rfl) (oC_2 ad ca) rfl rfl (Nat.le_of_ble_eq_true rfl) dP_moveByte_82 rfl (fun v8 S9 => ?_)
  refine x_iload_n (nx := 86) (i := 1) h dP_moveByte_85 rfl 3 rfl rfl ?_
  refine x_bipush (nx := 88) (v := (6 : Int32)) h dP_moveByte_86 (by decide) rfl ?_
  refine x_icmp_lt (nx := 91) (tgt := 104) h dP_moveByte_88 (by decide) rfl ?_ ?_
  · exact x_sub [] rfl (j_P_moveByte_104 h N S9)
  · refine x_iload (nx := 93) (i := 4) h dP_moveByte_91 0 rfl rfl ?_
    refine x_iconst (nx := 94) (v := (4 : Int32)) h dP_moveByte_93 (by decide) rfl ?_
    refine x_iand (nx := 95) h dP_moveByte_94 rfl ?_
    refine x_if_eq (nx := 98) (tgt := 104) h dP_moveByte_95 (by decide) rfl ?_ ?_
    · exact x_sub [] rfl (j_P_moveByte_104 h N S9)
    · refine x_aload_n (nx := 99) (i := 0) h dP_moveByte_98 rfl 2 rfl rfl ?_
      refine x_bipush (nx := 101) (v := (-2 : Int32)) h dP_moveByte_99 (by decide) rfl ?_
      refine x_cVv (nx := 104) (rest := []) (As := [.int (-2 : Int32)]) h (m_P_movePc N (-2 : Int32) S9) (x_wV h goA y_P_movePc kP_106 ⟨by decide, by decide⟩ rfl rfl) (oC_2 ad ca) rfl rfl (Nat.le_of_ble_eq_true rfl) dP_moveByte_101 rfl (fun v10 S11 => ?_)
      exact x_sub [] rfl (j_P_moveByte_104 h N S11)
set_option maxHeartbeats 4000000 in
set_option maxRecDepth 100000 in
theorem m_P_moveByte {l : Launch} {D : va_G} {ad : Nat → Nat} {ca : Nat → ClassId} (N : Nat) (a1 : Int32) (S : xSt) : xM l D clA (tysC ca) (cellsC ad ca) nW yP_moveByte (Cond.code yP_moveByte cP_moveByte 5 none :: wA) rm_P_moveByte false [.ref (ad 2), .int a1] S (f_P_moveByte N a1 S) := by
  refine x_met (cc := cP_moveByte) (maxL := 5) (ret := none) (by decide) rfl [.ref (ad 2), .int a1] (lv0 := [(0, .ref (ad 2)), (1, .int a1)]) (Nat.le_of_ble_eq_true rfl) rfl ?_
  intro p e s m args below meth c A h
  unfold f_P_moveByte
  refine x_aload_n (nx := 1) (i := 0) h dP_moveByte_0 rfl 0 rfl rfl ?_
  refine x_get (nx := 4) h (gC_2_0 ad ca _) (List.mem_cons_of_mem _ kP_21) dP_moveByte_1 rfl ?_
  refine x_aload_n (nx := 5) (i := 0) h dP_moveByte_4 rfl 0 rfl rfl ?_
  refine x_get (nx := 8) h (gC_2_1 ad ca _) (List.mem_cons_of_mem _ kP_10) dP_moveByte_5 rfl ?_
  refine x_cVi (nx := 11) (rest := [.ref (ad 1)]) (As := []) h (m_G_hl N S) (x_wV h goA y_G_hl kP_109 ⟨by decide, by decide⟩ rfl rfl) (oC_5 ad ca) rfl rfl (Nat.le_of_ble_eq_true rfl) dP_moveByte_8 rfl (fun v1 S2 => ?_)
  refine x_cVi (nx := 14) (rest := []) (As := [.int v1]) h (m_B_read N v1 S2) (x_wV h goA y_B_read kP_119 ⟨by decide, by decide⟩ rfl rfl) (oC_1 ad ca) rfl rfl (Nat.le_of_ble_eq_true rfl) dP_moveByte_11 rfl (fun v3 S4 => ?_)
  refine x_istore_n (nx := 15) (i := 2) (lv' := [(2, .int v3), (0, .ref (ad 2)), (1, .int a1)]) h dP_moveByte_14 rfl (by decide) rfl rfl ?_
  refine x_aload_n (nx := 16) (i := 0) h dP_moveByte_15 rfl 1 rfl rfl ?_
  refine x_get (nx := 19) h (gC_2_0 ad ca _) (List.mem_cons_of_mem _ kP_21) dP_moveByte_16 rfl ?_
  refine x_aload_n (nx := 20) (i := 0) h dP_moveByte_19 rfl 1 rfl rfl ?_
  refine x_get (nx := 23) h (gC_2_1 ad ca _) (List.mem_cons_of_mem _ kP_10) dP_moveByte_20 rfl ?_
  refine x_iconst (nx := 24) (v := (4 : Int32)) h dP_moveByte_23 (by decide) rfl ?_
  refine x_cVi (nx := 27) (rest := [.ref (ad 1)]) (As := [.int (4 : Int32)]) h (m_G_joined N (4 : Int32) S4) (x_wV h goA y_G_joined kP_211 ⟨by decide, by decide⟩ rfl rfl) (oC_5 ad ca) rfl rfl (Nat.le_of_ble_eq_true rfl) dP_moveByte_24 rfl (fun v5 S6 => ?_)
  refine x_iload_n (nx := 28) (i := 2) h dP_moveByte_27 rfl 0 rfl rfl ?_
  refine x_cVv (nx := 31) (rest := []) (As := [.int v5, .int v3]) h (m_B_write N v5 v3 S6) (x_wV h goA y_B_write kP_122 ⟨by decide, by decide⟩ rfl rfl) (oC_1 ad ca) rfl rfl (Nat.le_of_ble_eq_true rfl) dP_moveByte_28 rfl (fun v7 S8 => ?_)
  refine x_iload_n (nx := 32) (i := 1) h dP_moveByte_31 rfl 2 rfl rfl ?_
  refine x_iconst (nx := 33) (v := (1 : Int32)) h dP_moveByte_32 (by decide) rfl ?_
  refine x_iand (nx := 34) h dP_moveByte_33 rfl ?_
  refine x_if_ne (nx := 37) (tgt := 41) h dP_moveByte_34 (by decide) rfl ?_ ?_
  · refine x_iconst (nx := 42) (v := (-1 : Int32)) h dP_moveByte_41 (by decide) rfl ?_
    exact x_sub [1, 2, 0] rfl (j_P_moveByte_42 h N a1 v3 (-1 : Int32) S8)
  · refine x_iconst (nx := 38) (v := (1 : Int32)) h dP_moveByte_37 (by decide) rfl ?_
    refine x_goto (tgt := 42) h dP_moveByte_38 (by decide) ?_
    exact x_sub [1, 2, 0] rfl (j_P_moveByte_42 h N a1 v3 (1 : Int32) S8)
