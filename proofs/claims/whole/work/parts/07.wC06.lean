set_option maxHeartbeats 4000000 in
set_option maxRecDepth 100000 in
theorem j_P_moveNear_99 {l : Launch} {D : va_G} {ad : Nat → Nat} {ca : Nat → ClassId} {p : Program} {e : Env} {s : State} {m : MethodId} {args : Array Value} {below : List Frame} {meth : Method} {c : Code} {A : Nat → Prop} (h : xC p s m args meth c cP_moveNear 4 (Cond.code yP_moveNear cP_moveNear 4 none :: wA) nW yP_moveNear.cls none D clA (tysC ca) A) (N : Nat) (S : xSt) : xJ p l e rm_P_moveNear s m args below meth c D clA (tysC ca) (cellsC ad ca) A false 4 99 [] [] S (f_P_moveNear_99 N S) := by
  unfold f_P_moveNear_99
  exact x_vret h dP_moveNear_99
set_option maxHeartbeats 4000000 in
set_option maxRecDepth 100000 in
theorem j_P_moveNear_90 {l : Launch} {D : va_G} {ad : Nat → Nat} {ca : Nat → ClassId} {p : Program} {e : Env} {s : State} {m : MethodId} {args : Array Value} {below : List Frame} {meth : Method} {c : Code} {A : Nat → Prop} (h : xC p s m args meth c cP_moveNear 4 (Cond.code yP_moveNear cP_moveNear 4 none :: wA) nW yP_moveNear.cls none D clA (tysC ca) A) (N : Nat) (a2 a3 : Int32) (S : xSt) : xJ p l e rm_P_moveNear s m args below meth c D clA (tysC ca) (cellsC ad ca) A false 4 90 [(0, .ref (ad 2)), (2, .int a2), (3, .int a3)] [] S (f_P_moveNear_90 N a2 a3 S) := by
  unfold f_P_moveNear_90
  refine x_iload_n (nx := 91) (i := 3) h dP_moveNear_90 rfl 2 rfl rfl ?_
  refine x_if_eq (nx := 94) (tgt := 99) h dP_moveNear_91 (by decide) rfl ?_ ?_
  · exact x_sub [] rfl (j_P_moveNear_99 h N S)
  · refine x_aload_n (nx := 95) (i := 0) h dP_moveNear_94 rfl 0 rfl rfl ?_
    refine x_iload_n (nx := 96) (i := 2) h dP_moveNear_95 rfl 1 rfl rfl ?_
    refine x_cVv (nx := 99) (rest := []) (As := [.int a2]) h (m_P_movePc N a2 S) (x_wV h goA y_P_movePc kP_106 ⟨by decide, by decide⟩ rfl rfl) (oC_2 ad ca) rfl rfl (Nat.le_of_ble_eq_true rfl) dP_moveNear_96 rfl (fun v1 S2 => ?_)
    exact x_sub [] rfl (j_P_moveNear_99 h N S2)
set_option maxHeartbeats 4000000 in
set_option maxRecDepth 100000 in
theorem j_P_moveNear_89 {l : Launch} {D : va_G} {ad : Nat → Nat} {ca : Nat → ClassId} {p : Program} {e : Env} {s : State} {m : MethodId} {args : Array Value} {below : List Frame} {meth : Method} {c : Code} {A : Nat → Prop} (h : xC p s m args meth c cP_moveNear 4 (Cond.code yP_moveNear cP_moveNear 4 none :: wA) nW yP_moveNear.cls none D clA (tysC ca) A) (N : Nat) (a2 w0 : Int32) (S : xSt) : xJ p l e rm_P_moveNear s m args below meth c D clA (tysC ca) (cellsC ad ca) A false 4 89 [(0, .ref (ad 2)), (2, .int a2)] [.int w0] S (f_P_moveNear_89 N a2 w0 S) := by
  unfold f_P_moveNear_89
  refine x_istore_n (nx := 90) (i := 3) (lv' := [(3, .int w0), (0, .ref (ad 2)), (2, .int a2)]) h dP_moveNear_89 rfl (by decide) rfl rfl ?_
  exact x_sub [1, 2, 0] rfl (j_P_moveNear_90 h N a2 w0 S)
set_option maxHeartbeats 4000000 in
set_option maxRecDepth 100000 in
theorem j_P_moveNear_51 {l : Launch} {D : va_G} {ad : Nat → Nat} {ca : Nat → ClassId} {p : Program} {e : Env} {s : State} {m : MethodId} {args : Array Value} {below : List Frame} {meth : Method} {c : Code} {A : Nat → Prop} (h : xC p s m args meth c cP_moveNear 4 (Cond.code yP_moveNear cP_moveNear 4 none :: wA) nW yP_moveNear.cls none D clA (tysC ca) A) (N : Nat) (a1 a2 w0 : Int32) (S : xSt) : xJ p l e rm_P_moveNear s m args below meth c D clA (tysC ca) (cellsC ad ca) A false 4 51 [(0, .ref (ad 2)), (1, .int a1), (2, .int a2)] [.int w0] S (f_P_moveNear_51 N a1 a2 w0 S) := by
  unfold f_P_moveNear_51
  refine x_istore_n (nx := 52) (i := 3) (lv' := [(3, .int w0), (0, .ref (ad 2)), (1, .int a1), (2, .int a2)]) h dP_moveNear_51 rfl (by decide) rfl rfl ?_
  refine x_iload_n (nx := 53) (i := 1) h dP_moveNear_52 rfl 2 rfl rfl ?_
  refine x_iconst (nx := 54) (v := (2 : Int32)) h dP_moveNear_53 (by decide) rfl ?_
  refine x_icmp_ne (nx := 57) (tgt := 90) h dP_moveNear_54 (by decide) rfl ?_ ?_
  · exact x_sub [1, 3, 0] rfl (j_P_moveNear_90 h N a2 w0 S)
  · refine x_aload_n (nx := 58) (i := 0) h dP_moveNear_57 rfl 1 rfl rfl ?_
    refine x_get (nx := 61) h (gC_2_2 ad ca _) (List.mem_cons_of_mem _ kP_20) dP_moveNear_58 rfl ?_
    refine x_iconst (nx := 62) (v := (2 : Int32)) h dP_moveNear_61 (by decide) rfl ?_
    refine x_aload_n (nx := 63) (i := 0) h dP_moveNear_62 rfl 1 rfl rfl ?_
    refine x_get (nx := 66) h (gC_2_2 ad ca _) (List.mem_cons_of_mem _ kP_20) dP_moveNear_63 rfl ?_
    refine x_iconst (nx := 67) (v := (2 : Int32)) h dP_moveNear_66 (by decide) rfl ?_
    refine x_iald (nx := 68) h (aC_10 ad ca) dP_moveNear_67 rfl (fun v1 => ?_)
    refine x_iconst (nx := 69) (v := (1 : Int32)) h dP_moveNear_68 (by decide) rfl ?_
    refine x_isub (nx := 70) h dP_moveNear_69 rfl ?_
    refine x_sipush (nx := 73) (v := (255 : Int32)) h dP_moveNear_70 (by decide) rfl ?_
    refine x_iand (nx := 74) h dP_moveNear_73 rfl ?_
    refine x_iast (nx := 75) h (aC_10 ad ca) dP_moveNear_74 rfl (fun S2 => ?_)
    refine x_aload_n (nx := 76) (i := 0) h dP_moveNear_75 rfl 1 rfl rfl ?_
    refine x_get (nx := 79) h (gC_2_2 ad ca _) (List.mem_cons_of_mem _ kP_20) dP_moveNear_76 rfl ?_
    refine x_iconst (nx := 80) (v := (2 : Int32)) h dP_moveNear_79 (by decide) rfl ?_
    refine x_iald (nx := 81) h (aC_10 ad ca) dP_moveNear_80 rfl (fun v3 => ?_)
    refine x_if_eq (nx := 84) (tgt := 88) h dP_moveNear_81 (by decide) rfl ?_ ?_
    · refine x_iconst (nx := 89) (v := (0 : Int32)) h dP_moveNear_88 (by decide) rfl ?_
      exact x_sub [1, 3] rfl (j_P_moveNear_89 h N a2 (0 : Int32) S2)
    · refine x_iconst (nx := 85) (v := (1 : Int32)) h dP_moveNear_84 (by decide) rfl ?_
      refine x_goto (tgt := 89) h dP_moveNear_85 (by decide) ?_
      exact x_sub [1, 3] rfl (j_P_moveNear_89 h N a2 (1 : Int32) S2)
set_option maxHeartbeats 4000000 in
set_option maxRecDepth 100000 in
theorem j_P_moveNear_46 {l : Launch} {D : va_G} {ad : Nat → Nat} {ca : Nat → ClassId} {p : Program} {e : Env} {s : State} {m : MethodId} {args : Array Value} {below : List Frame} {meth : Method} {c : Code} {A : Nat → Prop} (h : xC p s m args meth c cP_moveNear 4 (Cond.code yP_moveNear cP_moveNear 4 none :: wA) nW yP_moveNear.cls none D clA (tysC ca) A) (N : Nat) (a1 a2 : Int32) (S : xSt) : xJ p l e rm_P_moveNear s m args below meth c D clA (tysC ca) (cellsC ad ca) A false 4 46 [(0, .ref (ad 2)), (1, .int a1), (2, .int a2)] [] S (f_P_moveNear_46 N a1 a2 S) := by
  unfold f_P_moveNear_46
  refine x_iconst (nx := 47) (v := (1 : Int32)) h dP_moveNear_46 (by decide) rfl ?_
  refine x_goto (tgt := 51) h dP_moveNear_47 (by decide) ?_
  exact x_sub [0, 1, 2] rfl (j_P_moveNear_51 h N a1 a2 (1 : Int32) S)
set_option maxHeartbeats 4000000 in
set_option maxRecDepth 100000 in
theorem j_P_moveNear_50 {l : Launch} {D : va_G} {ad : Nat → Nat} {ca : Nat → ClassId} {p : Program} {e : Env} {s : State} {m : MethodId} {args : Array Value} {below : List Frame} {meth : Method} {c : Code} {A : Nat → Prop} (h : xC p s m args meth c cP_moveNear 4 (Cond.code yP_moveNear cP_moveNear 4 none :: wA) nW yP_moveNear.cls none D clA (tysC ca) A) (N : Nat) (a1 a2 : Int32) (S : xSt) : xJ p l e rm_P_moveNear s m args below meth c D clA (tysC ca) (cellsC ad ca) A false 4 50 [(0, .ref (ad 2)), (1, .int a1), (2, .int a2)] [] S (f_P_moveNear_50 N a1 a2 S) := by
  unfold f_P_moveNear_50
  refine x_iconst (nx := 51) (v := (0 : Int32)) h dP_moveNear_50 (by decide) rfl ?_
  exact x_sub [0, 1, 2] rfl (j_P_moveNear_51 h N a1 a2 (0 : Int32) S)
set_option maxHeartbeats 4000000 in
set_option maxRecDepth 100000 in
theorem m_P_moveNear {l : Launch} {D : va_G} {ad : Nat → Nat} {ca : Nat → ClassId} (N : Nat) (a1 : Int32) (S : xSt) : xM l D clA (tysC ca) (cellsC ad ca) nW yP_moveNear (Cond.code yP_moveNear cP_moveNear 4 none :: wA) rm_P_moveNear false [.ref (ad 2), .int a1] S (f_P_moveNear N a1 S) := by
  refine x_met (cc := cP_moveNear) (maxL := 4) (ret := none) (by decide) rfl [.ref (ad 2), .int a1] (lv0 := [(0, .ref (ad 2)), (1, .int a1)]) (Nat.le_of_ble_eq_true rfl) rfl ?_
  intro p e s m args below meth c A h
  unfold f_P_moveNear
  refine x_iload_n (nx := 1) (i := 1) h dP_moveNear_0 rfl 1 rfl rfl ?_
  refine x_if_ne (nx := 4) (tgt := 5) h dP_moveNear_1 (by decide) rfl ?_ ?_
  · refine x_iload_n (nx := 6) (i := 1) h dP_moveNear_5 rfl 1 rfl rfl ?_
    refine x_iconst (nx := 7) (v := (1 : Int32)) h dP_moveNear_6 (by decide) rfl ?_
    refine x_icmp_ne (nx := 10) (tgt := 20) h dP_moveNear_7 (by decide) rfl ?_ ?_
    · refine x_aload_n (nx := 21) (i := 0) h dP_moveNear_20 rfl 0 rfl rfl ?_
      refine x_cVi (nx := 24) (rest := []) (As := []) h (m_P_nextByte N S) (x_wV h goA y_P_nextByte kP_115 ⟨by decide, by decide⟩ rfl rfl) (oC_2 ad ca) rfl rfl (Nat.le_of_ble_eq_true rfl) dP_moveNear_21 rfl (fun v1 S2 => ?_)
      refine x_i2b (nx := 25) h dP_moveNear_24 rfl ?_
      refine x_val (fun b3 => ?_)
      refine x_istore_n (nx := 26) (i := 2) (lv' := [(2, .int b3), (0, .ref (ad 2)), (1, .int a1)]) h dP_moveNear_25 rfl (by decide) rfl rfl ?_
      refine x_iload_n (nx := 27) (i := 1) h dP_moveNear_26 rfl 2 rfl rfl ?_
      refine x_iconst (nx := 28) (v := (3 : Int32)) h dP_moveNear_27 (by decide) rfl ?_
      refine x_icmp_eq (nx := 31) (tgt := 46) h dP_moveNear_28 (by decide) rfl ?_ ?_
      · exact x_sub [1, 2, 0] rfl (j_P_moveNear_46 h N a1 b3 S2)
      · refine x_iload_n (nx := 32) (i := 1) h dP_moveNear_31 rfl 2 rfl rfl ?_
        refine x_iconst (nx := 33) (v := (3 : Int32)) h dP_moveNear_32 (by decide) rfl ?_
        refine x_icmp_le (nx := 36) (tgt := 50) h dP_moveNear_33 (by decide) rfl ?_ ?_
        · exact x_sub [1, 2, 0] rfl (j_P_moveNear_50 h N a1 b3 S2)
        · refine x_aload_n (nx := 37) (i := 0) h dP_moveNear_36 rfl 1 rfl rfl ?_
          refine x_iload_n (nx := 38) (i := 1) h dP_moveNear_37 rfl 2 rfl rfl ?_
          refine x_iconst (nx := 39) (v := (4 : Int32)) h dP_moveNear_38 (by decide) rfl ?_
          refine x_isub (nx := 40) h dP_moveNear_39 rfl ?_
          refine x_cVi (nx := 43) (rest := []) (As := [.int (a1 - (4 : Int32))]) h (m_P_condition N (a1 - (4 : Int32)) S2) (x_wV h goA y_P_condition kP_164 ⟨by decide, by decide⟩ rfl rfl) (oC_2 ad ca) rfl rfl (Nat.le_of_ble_eq_true rfl) dP_moveNear_40 rfl (fun v4 S5 => ?_)
          refine x_if_eq (nx := 46) (tgt := 50) h dP_moveNear_43 (by decide) rfl ?_ ?_
          · exact x_sub [1, 2, 0] rfl (j_P_moveNear_50 h N a1 b3 S5)
          · exact x_sub [1, 2, 0] rfl (j_P_moveNear_46 h N a1 b3 S5)
    · refine x_aload_n (nx := 11) (i := 0) h dP_moveNear_10 rfl 0 rfl rfl ?_
      refine x_get (nx := 14) h (gC_2_1 ad ca _) (List.mem_cons_of_mem _ kP_10) dP_moveNear_11 rfl ?_
      refine x_iconst (nx := 15) (v := (0 : Int32)) h dP_moveNear_14 (by decide) rfl ?_
      refine x_iconst (nx := 16) (v := (1 : Int32)) h dP_moveNear_15 (by decide) rfl ?_
      refine x_cVv (nx := 19) (rest := []) (As := [.int (0 : Int32), .int (1 : Int32)]) h (m_G_swapWithSecond N (0 : Int32) (1 : Int32) S) (x_wV h goA y_G_swapWithSecond kP_161 ⟨by decide, by decide⟩ rfl rfl) (oC_5 ad ca) rfl rfl (Nat.le_of_ble_eq_true rfl) dP_moveNear_16 rfl (fun v6 S7 => ?_)
      exact x_vret h dP_moveNear_19
  · exact x_vret h dP_moveNear_4
set_option maxHeartbeats 4000000 in
set_option maxRecDepth 100000 in
theorem m_P_addPair {l : Launch} {D : va_G} {ad : Nat → Nat} {ca : Nat → ClassId} (N : Nat) (a1 : Int32) (S : xSt) : xM l D clA (tysC ca) (cellsC ad ca) nW yP_addPair (Cond.code yP_addPair cP_addPair 4 none :: wA) rm_P_addPair false [.ref (ad 2), .int a1] S (f_P_addPair N a1 S) := by
  refine x_met (cc := cP_addPair) (maxL := 4) (ret := none) (by decide) rfl [.ref (ad 2), .int a1] (lv0 := [(0, .ref (ad 2)), (1, .int a1)]) (Nat.le_of_ble_eq_true rfl) rfl ?_
  intro p e s m args below meth c A h
  unfold f_P_addPair
  refine x_aload_n (nx := 1) (i := 0) h dP_addPair_0 rfl 0 rfl rfl ?_
  refine x_get (nx := 4) h (gC_2_1 ad ca _) (List.mem_cons_of_mem _ kP_10) dP_addPair_1 rfl ?_
  refine x_cVi (nx := 7) (rest := []) (As := []) h (m_G_hl N S) (x_wV h goA y_G_hl kP_109 ⟨by decide, by decide⟩ rfl rfl) (oC_5 ad ca) rfl rfl (Nat.le_of_ble_eq_true rfl) dP_addPair_4 rfl (fun v1 S2 => ?_)
  refine x_aload_n (nx := 8) (i := 0) h dP_addPair_7 rfl 0 rfl rfl ?_
  refine x_get (nx := 11) h (gC_2_1 ad ca _) (List.mem_cons_of_mem _ kP_10) dP_addPair_8 rfl ?_
  refine x_iload_n (nx := 12) (i := 1) h dP_addPair_11 rfl 1 rfl rfl ?_
  refine x_cVi (nx := 15) (rest := [.int v1]) (As := [.int a1]) h (m_G_pair N a1 S2) (x_wV h goA y_G_pair kP_151 ⟨by decide, by decide⟩ rfl rfl) (oC_5 ad ca) rfl rfl (Nat.le_of_ble_eq_true rfl) dP_addPair_12 rfl (fun v3 S4 => ?_)
  refine x_iconst (nx := 16) (v := (0 : Int32)) h dP_addPair_15 (by decide) rfl ?_
  refine x_cSi (nx := 19) (rest := []) (As := [.int v1, .int v3, .int (0 : Int32)]) h (m_A_plusWide N v1 v3 (0 : Int32) S4) (x_wS h goA y_A_plusWide kP_167 ⟨by decide, by decide⟩ rfl rfl) rfl rfl (Nat.le_of_ble_eq_true rfl) dP_addPair_16 rfl (fun v5 S6 => ?_)
  refine x_istore_n (nx := 20) (i := 2) (lv' := [(2, .int v5), (0, .ref (ad 2)), (1, .int a1)]) h dP_addPair_19 rfl (by decide) rfl rfl ?_
  refine x_aload_n (nx := 21) (i := 0) h dP_addPair_20 rfl 1 rfl rfl ?_
  refine x_get (nx := 24) h (gC_2_1 ad ca _) (List.mem_cons_of_mem _ kP_10) dP_addPair_21 rfl ?_
  refine x_iload_n (nx := 25) (i := 2) h dP_addPair_24 rfl 0 rfl rfl ?_
  refine x_bipush (nx := 27) (v := (8 : Int32)) h dP_addPair_25 (by decide) rfl ?_
  refine x_ishr (nx := 28) h dP_addPair_27 rfl ?_
  refine x_cVv (nx := 31) (rest := []) (As := [.int (v5 >>> ((8 : Int32) &&& 31))]) h (m_G_setHl N (v5 >>> ((8 : Int32) &&& 31)) S6) (x_wV h goA y_G_setHl kP_171 ⟨by decide, by decide⟩ rfl rfl) (oC_5 ad ca) rfl rfl (Nat.le_of_ble_eq_true rfl) dP_addPair_28 rfl (fun v7 S8 => ?_)
  refine x_sipush (nx := 34) (v := (196 : Int32)) h dP_addPair_31 (by decide) rfl ?_
  refine x_istore_n (nx := 35) (i := 3) (lv' := [(3, .int (196 : Int32)), (2, .int v5), (0, .ref (ad 2)), (1, .int a1)]) h dP_addPair_34 rfl (by decide) rfl rfl ?_
  refine x_aload_n (nx := 36) (i := 0) h dP_addPair_35 rfl 2 rfl rfl ?_
  refine x_iload_n (nx := 37) (i := 3) h dP_addPair_36 rfl 0 rfl rfl ?_
  refine x_iload_n (nx := 38) (i := 2) h dP_addPair_37 rfl 1 rfl rfl ?_
  refine x_sipush (nx := 41) (v := (255 : Int32)) h dP_addPair_38 (by decide) rfl ?_
  refine x_iand (nx := 42) h dP_addPair_41 rfl ?_
  refine x_iload_n (nx := 43) (i := 3) h dP_addPair_42 rfl 0 rfl rfl ?_
  refine x_iconst (nx := 44) (v := (-1 : Int32)) h dP_addPair_43 (by decide) rfl ?_
  refine x_ixor (nx := 45) h dP_addPair_44 rfl ?_
  refine x_iand (nx := 46) h dP_addPair_45 rfl ?_
  refine x_cVv (nx := 49) (rest := []) (As := [.int (196 : Int32), .int ((v5 &&& (255 : Int32)) &&& ((196 : Int32) ^^^ (-1 : Int32)))]) h (m_P_setFlags N (196 : Int32) ((v5 &&& (255 : Int32)) &&& ((196 : Int32) ^^^ (-1 : Int32))) S8) (x_wV h goA y_P_setFlags kP_174 ⟨by decide, by decide⟩ rfl rfl) (oC_2 ad ca) rfl rfl (Nat.le_of_ble_eq_true rfl) dP_addPair_46 rfl (fun v9 S10 => ?_)
  exact x_vret h dP_addPair_49
set_option maxHeartbeats 4000000 in
set_option maxRecDepth 100000 in
theorem j_P_takeFrom_41 {l : Launch} {D : va_G} {ad : Nat → Nat} {ca : Nat → ClassId} {p : Program} {e : Env} {s : State} {m : MethodId} {args : Array Value} {below : List Frame} {meth : Method} {c : Code} {A : Nat → Prop} (h : xC p s m args meth c cP_takeFrom 3 (Cond.code yP_takeFrom cP_takeFrom 3 none :: wA) nW yP_takeFrom.cls none D clA (tysC ca) A) (N : Nat) (w0 : Int32) (S : xSt) : xJ p l e rm_P_takeFrom s m args below meth c D clA (tysC ca) (cellsC ad ca) A false 3 41 [(0, .ref (ad 2))] [.int w0] S (f_P_takeFrom_41 N w0 S) := by
  unfold f_P_takeFrom_41
  refine x_istore_n (nx := 42) (i := 2) (lv' := [(2, .int w0), (0, .ref (ad 2))]) h dP_takeFrom_41 rfl (by decide) rfl rfl ?_
  refine x_aload_n (nx := 43) (i := 0) h dP_takeFrom_42 rfl 1 rfl rfl ?_
  refine x_get (nx := 46) h (gC_2_2 ad ca _) (List.mem_cons_of_mem _ kP_20) dP_takeFrom_43 rfl ?_
  refine x_iconst (nx := 47) (v := (0 : Int32)) h dP_takeFrom_46 (by decide) rfl ?_
  refine x_aload_n (nx := 48) (i := 0) h dP_takeFrom_47 rfl 1 rfl rfl ?_
  refine x_get (nx := 51) h (gC_2_0 ad ca _) (List.mem_cons_of_mem _ kP_21) dP_takeFrom_48 rfl ?_
  refine x_iload_n (nx := 52) (i := 2) h dP_takeFrom_51 rfl 0 rfl rfl ?_
  refine x_cVi (nx := 55) (rest := [.int (0 : Int32), .ref (ad 10)]) (As := [.int w0]) h (m_B_read N w0 S) (x_wV h goA y_B_read kP_119 ⟨by decide, by decide⟩ rfl rfl) (oC_1 ad ca) rfl rfl (Nat.le_of_ble_eq_true rfl) dP_takeFrom_52 rfl (fun v1 S2 => ?_)
  refine x_iast (nx := 56) h (aC_10 ad ca) dP_takeFrom_55 rfl (fun S3 => ?_)
  exact x_vret h dP_takeFrom_56
set_option maxHeartbeats 4000000 in
set_option maxRecDepth 100000 in
theorem m_P_takeFrom {l : Launch} {D : va_G} {ad : Nat → Nat} {ca : Nat → ClassId} (N : Nat) (a1 : Int32) (S : xSt) : xM l D clA (tysC ca) (cellsC ad ca) nW yP_takeFrom (Cond.code yP_takeFrom cP_takeFrom 3 none :: wA) rm_P_takeFrom false [.ref (ad 2), .int a1] S (f_P_takeFrom N a1 S) := by
  refine x_met (cc := cP_takeFrom) (maxL := 3) (ret := none) (by decide) rfl [.ref (ad 2), .int a1] (lv0 := [(0, .ref (ad 2)), (1, .int a1)]) (Nat.le_of_ble_eq_true rfl) rfl ?_
  intro p e s m args below meth c A h
  unfold f_P_takeFrom
  refine x_iload_n (nx := 1) (i := 1) h dP_takeFrom_0 rfl 1 rfl rfl ?_
  refine x_iconst (nx := 2) (v := (2 : Int32)) h dP_takeFrom_1 (by decide) rfl ?_
  refine x_icmp_ne (nx := 5) (tgt := 21) h dP_takeFrom_2 (by decide) rfl ?_ ?_
  · refine x_iload_n (nx := 22) (i := 1) h dP_takeFrom_21 rfl 1 rfl rfl ?_
    refine x_iconst (nx := 23) (v := (2 : Int32)) h dP_takeFrom_22 (by decide) rfl ?_
    refine x_icmp_ge (nx := 26) (tgt := 37) h dP_takeFrom_23 (by decide) rfl ?_ ?_
    · refine x_aload_n (nx := 38) (i := 0) h dP_takeFrom_37 rfl 0 rfl rfl ?_
      refine x_cVi (nx := 41) (rest := []) (As := []) h (m_P_nextWord N S) (x_wV h goA y_P_nextWord kP_139 ⟨by decide, by decide⟩ rfl rfl) (oC_2 ad ca) rfl rfl (Nat.le_of_ble_eq_true rfl) dP_takeFrom_38 rfl (fun v1 S2 => ?_)
      exact x_sub [0] rfl (j_P_takeFrom_41 h N v1 S2)
    · refine x_aload_n (nx := 27) (i := 0) h dP_takeFrom_26 rfl 0 rfl rfl ?_
      refine x_get (nx := 30) h (gC_2_1 ad ca _) (List.mem_cons_of_mem _ kP_10) dP_takeFrom_27 rfl ?_
      refine x_iload_n (nx := 31) (i := 1) h dP_takeFrom_30 rfl 1 rfl rfl ?_
      refine x_cVi (nx := 34) (rest := []) (As := [.int a1]) h (m_G_pair N a1 S) (x_wV h goA y_G_pair kP_151 ⟨by decide, by decide⟩ rfl rfl) (oC_5 ad ca) rfl rfl (Nat.le_of_ble_eq_true rfl) dP_takeFrom_31 rfl (fun v3 S4 => ?_)
      refine x_goto (tgt := 41) h dP_takeFrom_34 (by decide) ?_
      exact x_sub [0] rfl (j_P_takeFrom_41 h N v3 S4)
  · refine x_aload_n (nx := 6) (i := 0) h dP_takeFrom_5 rfl 0 rfl rfl ?_
    refine x_get (nx := 9) h (gC_2_1 ad ca _) (List.mem_cons_of_mem _ kP_10) dP_takeFrom_6 rfl ?_
    refine x_aload_n (nx := 10) (i := 0) h dP_takeFrom_9 rfl 0 rfl rfl ?_
    refine x_aload_n (nx := 11) (i := 0) h dP_takeFrom_10 rfl 0 rfl rfl ?_
    refine x_cVi (nx := 14) (rest := [.ref (ad 2), .ref (ad 5)]) (As := []) h (m_P_nextWord N S) (x_wV h goA y_P_nextWord kP_139 ⟨by decide, by decide⟩ rfl rfl) (oC_2 ad ca) rfl rfl (Nat.le_of_ble_eq_true rfl) dP_takeFrom_11 rfl (fun v5 S6 => ?_)
    refine x_cVi (nx := 17) (rest := [.ref (ad 5)]) (As := [.int v5]) h (m_P_readWord N v5 S6) (x_wV h goA y_P_readWord kP_103 ⟨by decide, by decide⟩ rfl rfl) (oC_2 ad ca) rfl rfl (Nat.le_of_ble_eq_true rfl) dP_takeFrom_14 rfl (fun v7 S8 => ?_)
    refine x_cVv (nx := 20) (rest := []) (As := [.int v7]) h (m_G_setHl N v7 S8) (x_wV h goA y_G_setHl kP_171 ⟨by decide, by decide⟩ rfl rfl) (oC_5 ad ca) rfl rfl (Nat.le_of_ble_eq_true rfl) dP_takeFrom_17 rfl (fun v9 S10 => ?_)
    exact x_vret h dP_takeFrom_20
set_option maxHeartbeats 4000000 in
set_option maxRecDepth 100000 in
theorem j_P_putAt_66 {l : Launch} {D : va_G} {ad : Nat → Nat} {ca : Nat → ClassId} {p : Program} {e : Env} {s : State} {m : MethodId} {args : Array Value} {below : List Frame} {meth : Method} {c : Code} {A : Nat → Prop} (h : xC p s m args meth c cP_putAt 3 (Cond.code yP_putAt cP_putAt 3 none :: wA) nW yP_putAt.cls none D clA (tysC ca) A) (N : Nat) (S : xSt) : xJ p l e rm_P_putAt s m args below meth c D clA (tysC ca) (cellsC ad ca) A false 3 66 [] [] S (f_P_putAt_66 N S) := by
  unfold f_P_putAt_66
  exact x_vret h dP_putAt_66
set_option maxHeartbeats 4000000 in
set_option maxRecDepth 100000 in
theorem m_P_putAt {l : Launch} {D : va_G} {ad : Nat → Nat} {ca : Nat → ClassId} (N : Nat) (a1 : Int32) (S : xSt) : xM l D clA (tysC ca) (cellsC ad ca) nW yP_putAt (Cond.code yP_putAt cP_putAt 3 none :: wA) rm_P_putAt false [.ref (ad 2), .int a1] S (f_P_putAt N a1 S) := by
  refine x_met (cc := cP_putAt) (maxL := 3) (ret := none) (by decide) rfl [.ref (ad 2), .int a1] (lv0 := [(0, .ref (ad 2)), (1, .int a1)]) (Nat.le_of_ble_eq_true rfl) rfl ?_
  intro p e s m args below meth c A h
  unfold f_P_putAt
  refine x_iload_n (nx := 1) (i := 1) h dP_putAt_0 rfl 1 rfl rfl ?_
  refine x_iconst (nx := 2) (v := (2 : Int32)) h dP_putAt_1 (by decide) rfl ?_
  refine x_icmp_ge (nx := 5) (tgt := 27) h dP_putAt_2 (by decide) rfl ?_ ?_
  · refine x_aload_n (nx := 28) (i := 0) h dP_putAt_27 rfl 0 rfl rfl ?_
    refine x_cVi (nx := 31) (rest := []) (As := []) h (m_P_nextWord N S) (x_wV h goA y_P_nextWord kP_139 ⟨by decide, by decide⟩ rfl rfl) (oC_2 ad ca) rfl rfl (Nat.le_of_ble_eq_true rfl) dP_putAt_28 rfl (fun v1 S2 => ?_)
    refine x_istore_n (nx := 32) (i := 2) (lv' := [(2, .int v1), (0, .ref (ad 2)), (1, .int a1)]) h dP_putAt_31 rfl (by decide) rfl rfl ?_
    refine x_iload_n (nx := 33) (i := 1) h dP_putAt_32 rfl 2 rfl rfl ?_
    refine x_iconst (nx := 34) (v := (2 : Int32)) h dP_putAt_33 (by decide) rfl ?_
    refine x_icmp_ne (nx := 37) (tgt := 52) h dP_putAt_34 (by decide) rfl ?_ ?_
    · refine x_aload_n (nx := 53) (i := 0) h dP_putAt_52 rfl 1 rfl rfl ?_
      refine x_get (nx := 56) h (gC_2_0 ad ca _) (List.mem_cons_of_mem _ kP_21) dP_putAt_53 rfl ?_
      refine x_iload_n (nx := 57) (i := 2) h dP_putAt_56 rfl 0 rfl rfl ?_
      refine x_aload_n (nx := 58) (i := 0) h dP_putAt_57 rfl 1 rfl rfl ?_
      refine x_get (nx := 61) h (gC_2_2 ad ca _) (List.mem_cons_of_mem _ kP_20) dP_putAt_58 rfl ?_
      refine x_iconst (nx := 62) (v := (0 : Int32)) h dP_putAt_61 (by decide) rfl ?_
      refine x_iald (nx := 63) h (aC_10 ad ca) dP_putAt_62 rfl (fun v3 => ?_)
      refine x_cVv (nx := 66) (rest := []) (As := [.int v1, .int v3]) h (m_B_write N v1 v3 S2) (x_wV h goA y_B_write kP_122 ⟨by decide, by decide⟩ rfl rfl) (oC_1 ad ca) rfl rfl (Nat.le_of_ble_eq_true rfl) dP_putAt_63 rfl (fun v4 S5 => ?_)
      exact x_sub [] rfl (j_P_putAt_66 h N S5)
    · refine x_aload_n (nx := 38) (i := 0) h dP_putAt_37 rfl 1 rfl rfl ?_
      refine x_iload_n (nx := 39) (i := 2) h dP_putAt_38 rfl 0 rfl rfl ?_
      refine x_aload_n (nx := 40) (i := 0) h dP_putAt_39 rfl 1 rfl rfl ?_
      refine x_get (nx := 43) h (gC_2_1 ad ca _) (List.mem_cons_of_mem _ kP_10) dP_putAt_40 rfl ?_
      refine x_cVi (nx := 46) (rest := [.int v1, .ref (ad 2)]) (As := []) h (m_G_hl N S2) (x_wV h goA y_G_hl kP_109 ⟨by decide, by decide⟩ rfl rfl) (oC_5 ad ca) rfl rfl (Nat.le_of_ble_eq_true rfl) dP_putAt_43 rfl (fun v6 S7 => ?_)
      refine x_cVv (nx := 49) (rest := []) (As := [.int v1, .int v6]) h (m_P_writeWord N v1 v6 S7) (x_wV h goA y_P_writeWord kP_177 ⟨by decide, by decide⟩ rfl rfl) (oC_2 ad ca) rfl rfl (Nat.le_of_ble_eq_true rfl) dP_putAt_46 rfl (fun v8 S9 => ?_)
      refine x_goto (tgt := 66) h dP_putAt_49 (by decide) ?_
      exact x_sub [] rfl (j_P_putAt_66 h N S9)
  · refine x_aload_n (nx := 6) (i := 0) h dP_putAt_5 rfl 0 rfl rfl ?_
    refine x_get (nx := 9) h (gC_2_0 ad ca _) (List.mem_cons_of_mem _ kP_21) dP_putAt_6 rfl ?_
    refine x_aload_n (nx := 10) (i := 0) h dP_putAt_9 rfl 0 rfl rfl ?_
    refine x_get (nx := 13) h (gC_2_1 ad ca _) (List.mem_cons_of_mem _ kP_10) dP_putAt_10 rfl ?_
    refine x_iload_n (nx := 14) (i := 1) h dP_putAt_13 rfl 1 rfl rfl ?_
    refine x_cVi (nx := 17) (rest := [.ref (ad 1)]) (As := [.int a1]) h (m_G_pair N a1 S) (x_wV h goA y_G_pair kP_151 ⟨by decide, by decide⟩ rfl rfl) (oC_5 ad ca) rfl rfl (Nat.le_of_ble_eq_true rfl) dP_putAt_14 rfl (fun v10 S11 => ?_)
    refine x_aload_n (nx := 18) (i := 0) h dP_putAt_17 rfl 0 rfl rfl ?_
    refine x_get (nx := 21) h (gC_2_2 ad ca _) (List.mem_cons_of_mem _ kP_20) dP_putAt_18 rfl ?_
    refine x_iconst (nx := 22) (v := (0 : Int32)) h dP_putAt_21 (by decide) rfl ?_
    refine x_iald (nx := 23) h (aC_10 ad ca) dP_putAt_22 rfl (fun v12 => ?_)
    refine x_cVv (nx := 26) (rest := []) (As := [.int v10, .int v12]) h (m_B_write N v10 v12 S11) (x_wV h goA y_B_write kP_122 ⟨by decide, by decide⟩ rfl rfl) (oC_1 ad ca) rfl rfl (Nat.le_of_ble_eq_true rfl) dP_putAt_23 rfl (fun v13 S14 => ?_)
    exact x_vret h dP_putAt_26
set_option maxHeartbeats 4000000 in
set_option maxRecDepth 100000 in
theorem m_A_plus {l : Launch} {D : va_G} {ad : Nat → Nat} {ca : Nat → ClassId} (N : Nat) (a0 a1 a2 : Int32) (S : xSt) : xM l D clA (tysC ca) (cellsC ad ca) nW yA_plus (Cond.code yA_plus cA_plus 6 (some .int) :: wA) rm_A_plus true [.int a0, .int a1, .int a2] S (f_A_plus N a0 a1 a2 S) := by
  refine x_met (cc := cA_plus) (maxL := 6) (ret := (some .int)) (by decide) rfl [.int a0, .int a1, .int a2] (lv0 := [(0, .int a0), (1, .int a1), (2, .int a2)]) (Nat.le_of_ble_eq_true rfl) rfl ?_
  intro p e s m args below meth c A h
  unfold f_A_plus
  refine x_iload_n (nx := 1) (i := 0) h dA_plus_0 rfl 0 rfl rfl ?_
  refine x_iload_n (nx := 2) (i := 1) h dA_plus_1 rfl 1 rfl rfl ?_
  refine x_iadd (nx := 3) h dA_plus_2 rfl ?_
  refine x_iload_n (nx := 4) (i := 2) h dA_plus_3 rfl 2 rfl rfl ?_
  refine x_iadd (nx := 5) h dA_plus_4 rfl ?_
  refine x_val (fun b1 => ?_)
  refine x_istore_n (nx := 6) (i := 3) (lv' := [(3, .int b1), (0, .int a0), (1, .int a1), (2, .int a2)]) h dA_plus_5 rfl (by decide) rfl rfl ?_
  refine x_iload_n (nx := 7) (i := 0) h dA_plus_6 rfl 1 rfl rfl ?_
  refine x_iload_n (nx := 8) (i := 3) h dA_plus_7 rfl 0 rfl rfl ?_
  refine x_ixor (nx := 9) h dA_plus_8 rfl ?_
  refine x_iload_n (nx := 10) (i := 1) h dA_plus_9 rfl 2 rfl rfl ?_
  refine x_iload_n (nx := 11) (i := 3) h dA_plus_10 rfl 0 rfl rfl ?_
  refine x_ixor (nx := 12) h dA_plus_11 rfl ?_
  refine x_iand (nx := 13) h dA_plus_12 rfl ?_
  refine x_sipush (nx := 16) (v := (128 : Int32)) h dA_plus_13 (by decide) rfl ?_
  refine x_iand (nx := 17) h dA_plus_16 rfl ?_
  refine x_val (fun b2 => ?_)
  refine x_istore (nx := 19) (i := 4) (lv' := [(4, .int b2), (3, .int b1), (0, .int a0), (1, .int a1), (2, .int a2)]) h dA_plus_17 (by decide) rfl rfl ?_
  refine x_iload_n (nx := 20) (i := 3) h dA_plus_19 rfl 1 rfl rfl ?_
  refine x_sipush (nx := 23) (v := (255 : Int32)) h dA_plus_20 (by decide) rfl ?_
  refine x_iand (nx := 24) h dA_plus_23 rfl ?_
  refine x_cSi (nx := 27) (rest := []) (As := [.int (b1 &&& (255 : Int32))]) h (m_A_by N (b1 &&& (255 : Int32)) S) (x_wS h goA y_A_by kA_9 ⟨by decide, by decide⟩ rfl rfl) rfl rfl (Nat.le_of_ble_eq_true rfl) dA_plus_24 rfl (fun v3 S4 => ?_)
  refine x_iload_n (nx := 28) (i := 0) h dA_plus_27 rfl 2 rfl rfl ?_
  refine x_iload_n (nx := 29) (i := 1) h dA_plus_28 rfl 3 rfl rfl ?_
  refine x_ixor (nx := 30) h dA_plus_29 rfl ?_
  refine x_iload_n (nx := 31) (i := 3) h dA_plus_30 rfl 1 rfl rfl ?_
  refine x_ixor (nx := 32) h dA_plus_31 rfl ?_
  refine x_bipush (nx := 34) (v := (16 : Int32)) h dA_plus_32 (by decide) rfl ?_
  refine x_iand (nx := 35) h dA_plus_34 rfl ?_
  refine x_ior (nx := 36) h dA_plus_35 rfl ?_
  refine x_iload (nx := 38) (i := 4) h dA_plus_36 0 rfl rfl ?_
  refine x_iconst (nx := 39) (v := (5 : Int32)) h dA_plus_38 (by decide) rfl ?_
  refine x_ishr (nx := 40) h dA_plus_39 rfl ?_
  refine x_ior (nx := 41) h dA_plus_40 rfl ?_
  refine x_iload_n (nx := 42) (i := 3) h dA_plus_41 rfl 1 rfl rfl ?_
  refine x_bipush (nx := 44) (v := (8 : Int32)) h dA_plus_42 (by decide) rfl ?_
  refine x_ishr (nx := 45) h dA_plus_44 rfl ?_
  refine x_iconst (nx := 46) (v := (1 : Int32)) h dA_plus_45 (by decide) rfl ?_
  refine x_iand (nx := 47) h dA_plus_46 rfl ?_
  refine x_ior (nx := 48) h dA_plus_47 rfl ?_
  refine x_val (fun b5 => ?_)
  refine x_istore (nx := 50) (i := 5) (lv' := [(5, .int b5), (4, .int b2), (3, .int b1), (0, .int a0), (1, .int a1), (2, .int a2)]) h dA_plus_48 (by decide) rfl rfl ?_
  refine x_iload_n (nx := 51) (i := 3) h dA_plus_50 rfl 2 rfl rfl ?_
  refine x_sipush (nx := 54) (v := (255 : Int32)) h dA_plus_51 (by decide) rfl ?_
  refine x_iand (nx := 55) h dA_plus_54 rfl ?_
  refine x_bipush (nx := 57) (v := (8 : Int32)) h dA_plus_55 (by decide) rfl ?_
  refine x_ishl (nx := 58) h dA_plus_57 rfl ?_
  refine x_iload (nx := 60) (i := 5) h dA_plus_58 0 rfl rfl ?_
  refine x_ior (nx := 61) h dA_plus_60 rfl ?_
  exact x_iret h dA_plus_61
set_option maxHeartbeats 4000000 in
set_option maxRecDepth 100000 in
theorem j_P_count_25 {l : Launch} {D : va_G} {ad : Nat → Nat} {ca : Nat → ClassId} {p : Program} {e : Env} {s : State} {m : MethodId} {args : Array Value} {below : List Frame} {meth : Method} {c : Code} {A : Nat → Prop} (h : xC p s m args meth c cP_count 5 (Cond.code yP_count cP_count 5 none :: wA) nW yP_count.cls none D clA (tysC ca) A) (N : Nat) (a1 w0 : Int32) (S : xSt) : xJ p l e rm_P_count s m args below meth c D clA (tysC ca) (cellsC ad ca) A false 5 25 [(0, .ref (ad 2)), (1, .int a1)] [.int w0] S (f_P_count_25 N a1 w0 S) := by
  unfold f_P_count_25
  refine x_istore (nx := 27) (i := 4) (lv' := [(4, .int w0), (0, .ref (ad 2)), (1, .int a1)]) h dP_count_25 (by decide) rfl rfl ?_
  refine x_aload_n (nx := 28) (i := 0) h dP_count_27 rfl 1 rfl rfl ?_
  refine x_iconst (nx := 29) (v := (1 : Int32)) h dP_count_28 (by decide) rfl ?_
  refine x_iload (nx := 31) (i := 4) h dP_count_29 0 rfl rfl ?_
  refine x_sipush (nx := 34) (v := (255 : Int32)) h dP_count_31 (by decide) rfl ?_
  refine x_iand (nx := 35) h dP_count_34 rfl ?_
  refine x_bipush (nx := 37) (v := (-2 : Int32)) h dP_count_35 (by decide) rfl ?_
  refine x_iand (nx := 38) h dP_count_37 rfl ?_
  refine x_cVv (nx := 41) (rest := []) (As := [.int (1 : Int32), .int ((w0 &&& (255 : Int32)) &&& (-2 : Int32))]) h (m_P_setFlags N (1 : Int32) ((w0 &&& (255 : Int32)) &&& (-2 : Int32)) S) (x_wV h goA y_P_setFlags kP_174 ⟨by decide, by decide⟩ rfl rfl) (oC_2 ad ca) rfl rfl (Nat.le_of_ble_eq_true rfl) dP_count_38 rfl (fun v1 S2 => ?_)
  refine x_aload_n (nx := 42) (i := 0) h dP_count_41 rfl 1 rfl rfl ?_
  refine x_iload_n (nx := 43) (i := 1) h dP_count_42 rfl 2 rfl rfl ?_
  refine x_iload (nx := 45) (i := 4) h dP_count_43 0 rfl rfl ?_
  refine x_bipush (nx := 47) (v := (8 : Int32)) h dP_count_45 (by decide) rfl ?_
  refine x_ishr (nx := 48) h dP_count_47 rfl ?_
  refine x_cVv (nx := 51) (rest := []) (As := [.int a1, .int (w0 >>> ((8 : Int32) &&& 31))]) h (m_P_setOperand N a1 (w0 >>> ((8 : Int32) &&& 31)) S2) (x_wV h goA y_P_setOperand kP_79 ⟨by decide, by decide⟩ rfl rfl) (oC_2 ad ca) rfl rfl (Nat.le_of_ble_eq_true rfl) dP_count_48 rfl (fun v3 S4 => ?_)
  exact x_vret h dP_count_51
set_option maxHeartbeats 4000000 in
set_option maxRecDepth 100000 in
theorem m_P_count {l : Launch} {D : va_G} {ad : Nat → Nat} {ca : Nat → ClassId} (N : Nat) (a1 a2 : Int32) (S : xSt) : xM l D clA (tysC ca) (cellsC ad ca) nW yP_count (Cond.code yP_count cP_count 5 none :: wA) rm_P_count false [.ref (ad 2), .int a1, .int a2] S (f_P_count N a1 a2 S) := by
  refine x_met (cc := cP_count) (maxL := 5) (ret := none) (by decide) rfl [.ref (ad 2), .int a1, .int a2] (lv0 := [(0, .ref (ad 2)), (1, .int a1), (2, .int a2)]) (Nat.le_of_ble_eq_true rfl) rfl ?_
  intro p e s m args below meth c A h
  unfold f_P_count
  refine x_aload_n (nx := 1) (i := 0) h dP_count_0 rfl 0 rfl rfl ?_
  refine x_iload_n (nx := 2) (i := 1) h dP_count_1 rfl 1 rfl rfl ?_
  refine x_cVi (nx := 5) (rest := []) (As := [.int a1]) h (m_P_operand N a1 S) (x_wV h goA y_P_operand kP_76 ⟨by decide, by decide⟩ rfl rfl) (oC_2 ad ca) rfl rfl (Nat.le_of_ble_eq_true rfl) dP_count_2 rfl (fun v1 S2 => ?_)
  refine x_istore_n (nx := 6) (i := 3) (lv' := [(3, .int v1), (0, .ref (ad 2)), (1, .int a1), (2, .int a2)]) h dP_count_5 rfl (by decide) rfl rfl ?_
  refine x_iload_n (nx := 7) (i := 2) h dP_count_6 rfl 3 rfl rfl ?_
  refine x_if_eq (nx := 10) (tgt := 19) h dP_count_7 (by decide) rfl ?_ ?_
  · refine x_iload_n (nx := 20) (i := 3) h dP_count_19 rfl 0 rfl rfl ?_
    refine x_iconst (nx := 21) (v := (1 : Int32)) h dP_count_20 (by decide) rfl ?_
    refine x_iconst (nx := 22) (v := (0 : Int32)) h dP_count_21 (by decide) rfl ?_
    refine x_cSi (nx := 25) (rest := []) (As := [.int v1, .int (1 : Int32), .int (0 : Int32)]) h (m_A_plus N v1 (1 : Int32) (0 : Int32) S2) (x_wS h goA y_A_plus kP_183 ⟨by decide, by decide⟩ rfl rfl) rfl rfl (Nat.le_of_ble_eq_true rfl) dP_count_22 rfl (fun v3 S4 => ?_)
    exact x_sub [1, 2] rfl (j_P_count_25 h N a1 v3 S4)
  · refine x_iload_n (nx := 11) (i := 3) h dP_count_10 rfl 0 rfl rfl ?_
    refine x_iconst (nx := 12) (v := (1 : Int32)) h dP_count_11 (by decide) rfl ?_
    refine x_iconst (nx := 13) (v := (0 : Int32)) h dP_count_12 (by decide) rfl ?_
    refine x_cSi (nx := 16) (rest := []) (As := [.int v1, .int (1 : Int32), .int (0 : Int32)]) h (m_A_minus N v1 (1 : Int32) (0 : Int32) S2) (x_wS h goA y_A_minus kP_180 ⟨by decide, by decide⟩ rfl rfl) rfl rfl (Nat.le_of_ble_eq_true rfl) dP_count_13 rfl (fun v5 S6 => ?_)
    refine x_goto (tgt := 25) h dP_count_16 (by decide) ?_
    exact x_sub [1, 2] rfl (j_P_count_25 h N a1 v5 S6)
set_option maxHeartbeats 4000000 in
set_option maxRecDepth 100000 in
theorem j_A_adjusted_64 {l : Launch} {D : va_G} {ad : Nat → Nat} {ca : Nat → ClassId} {p : Program} {e : Env} {s : State} {m : MethodId} {args : Array Value} {below : List Frame} {meth : Method} {c : Code} {A : Nat → Prop} (h : xC p s m args meth c cA_adjusted 5 (Cond.code yA_adjusted cA_adjusted 5 (some .int) :: wA) nW yA_adjusted.cls (some .int) D clA (tysC ca) A) (N : Nat) (a0 a1 a3 w0 : Int32) (S : xSt) : xJ p l e rm_A_adjusted s m args below meth c D clA (tysC ca) (cellsC ad ca) A true 5 64 [(0, .int a0), (1, .int a1), (3, .int a3)] [.int w0] S (f_A_adjusted_64 N a0 a1 a3 w0 S) := by
  unfold f_A_adjusted_64
  refine x_sipush (nx := 67) (v := (255 : Int32)) h dA_adjusted_64 (by decide) rfl ?_
  refine x_iand (nx := 68) h dA_adjusted_67 rfl ?_
  refine x_val (fun b1 => ?_)
  refine x_istore (nx := 70) (i := 4) (lv' := [(4, .int b1), (0, .int a0), (1, .int a1), (3, .int a3)]) h dA_adjusted_68 (by decide) rfl rfl ?_
  refine x_iload (nx := 72) (i := 4) h dA_adjusted_70 0 rfl rfl ?_
  refine x_bipush (nx := 74) (v := (8 : Int32)) h dA_adjusted_72 (by decide) rfl ?_
  refine x_ishl (nx := 75) h dA_adjusted_74 rfl ?_
  refine x_iload (nx := 77) (i := 4) h dA_adjusted_75 0 rfl rfl ?_
  refine x_cSi (nx := 80) (rest := [.int (b1 <<< ((8 : Int32) &&& 31))]) (As := [.int b1]) h (m_A_byWithParity N b1 S) (x_wS h goA y_A_byWithParity kA_22 ⟨by decide, by decide⟩ rfl rfl) rfl rfl (Nat.le_of_ble_eq_true rfl) dA_adjusted_77 rfl (fun v2 S3 => ?_)
  refine x_ior (nx := 81) h dA_adjusted_80 rfl ?_
  refine x_iload_n (nx := 82) (i := 0) h dA_adjusted_81 rfl 1 rfl rfl ?_
  refine x_iload (nx := 84) (i := 4) h dA_adjusted_82 0 rfl rfl ?_
  refine x_ixor (nx := 85) h dA_adjusted_84 rfl ?_
  refine x_bipush (nx := 87) (v := (16 : Int32)) h dA_adjusted_85 (by decide) rfl ?_
  refine x_iand (nx := 88) h dA_adjusted_87 rfl ?_
  refine x_ior (nx := 89) h dA_adjusted_88 rfl ?_
  refine x_iload_n (nx := 90) (i := 1) h dA_adjusted_89 rfl 2 rfl rfl ?_
  refine x_iconst (nx := 91) (v := (2 : Int32)) h dA_adjusted_90 (by decide) rfl ?_
  refine x_iand (nx := 92) h dA_adjusted_91 rfl ?_
  refine x_ior (nx := 93) h dA_adjusted_92 rfl ?_
  refine x_iload_n (nx := 94) (i := 3) h dA_adjusted_93 rfl 3 rfl rfl ?_
  refine x_ior (nx := 95) h dA_adjusted_94 rfl ?_
  exact x_iret h dA_adjusted_95
set_option maxHeartbeats 4000000 in
set_option maxRecDepth 100000 in
theorem j_A_adjusted_41 {l : Launch} {D : va_G} {ad : Nat → Nat} {ca : Nat → ClassId} {p : Program} {e : Env} {s : State} {m : MethodId} {args : Array Value} {below : List Frame} {meth : Method} {c : Code} {A : Nat → Prop} (h : xC p s m args meth c cA_adjusted 5 (Cond.code yA_adjusted cA_adjusted 5 (some .int) :: wA) nW yA_adjusted.cls (some .int) D clA (tysC ca) A) (N : Nat) (a0 a1 a2 w0 : Int32) (S : xSt) : xJ p l e rm_A_adjusted s m args below meth c D clA (tysC ca) (cellsC ad ca) A true 5 41 [(0, .int a0), (1, .int a1), (2, .int a2)] [.int w0] S (f_A_adjusted_41 N a0 a1 a2 w0 S) := by
  unfold f_A_adjusted_41
  refine x_istore_n (nx := 42) (i := 3) (lv' := [(3, .int w0), (0, .int a0), (1, .int a1), (2, .int a2)]) h dA_adjusted_41 rfl (by decide) rfl rfl ?_
  refine x_iload_n (nx := 43) (i := 2) h dA_adjusted_42 rfl 3 rfl rfl ?_
  refine x_bipush (nx := 45) (v := (96 : Int32)) h dA_adjusted_43 (by decide) rfl ?_
  refine x_iload_n (nx := 46) (i := 3) h dA_adjusted_45 rfl 0 rfl rfl ?_
  refine x_imul (nx := 47) h dA_adjusted_46 rfl ?_
  refine x_iadd (nx := 48) h dA_adjusted_47 rfl ?_
  refine x_val (fun b1 => ?_)
  refine x_istore_n (nx := 49) (i := 2) (lv' := [(2, .int b1), (3, .int w0), (0, .int a0), (1, .int a1)]) h dA_adjusted_48 rfl (by decide) rfl rfl ?_
  refine x_iload_n (nx := 50) (i := 1) h dA_adjusted_49 rfl 3 rfl rfl ?_
  refine x_iconst (nx := 51) (v := (2 : Int32)) h dA_adjusted_50 (by decide) rfl ?_
  refine x_iand (nx := 52) h dA_adjusted_51 rfl ?_
  refine x_if_eq (nx := 55) (tgt := 61) h dA_adjusted_52 (by decide) rfl ?_ ?_
  · refine x_iload_n (nx := 62) (i := 0) h dA_adjusted_61 rfl 2 rfl rfl ?_
    refine x_iload_n (nx := 63) (i := 2) h dA_adjusted_62 rfl 0 rfl rfl ?_
    refine x_iadd (nx := 64) h dA_adjusted_63 rfl ?_
    exact x_sub [2, 3, 1] rfl (j_A_adjusted_64 h N a0 a1 w0 (a0 + b1) S)
  · refine x_iload_n (nx := 56) (i := 0) h dA_adjusted_55 rfl 2 rfl rfl ?_
    refine x_iload_n (nx := 57) (i := 2) h dA_adjusted_56 rfl 0 rfl rfl ?_
    refine x_isub (nx := 58) h dA_adjusted_57 rfl ?_
    refine x_goto (tgt := 64) h dA_adjusted_58 (by decide) ?_
    exact x_sub [2, 3, 1] rfl (j_A_adjusted_64 h N a0 a1 w0 (a0 - b1) S)
set_option maxHeartbeats 4000000 in
set_option maxRecDepth 100000 in
theorem j_A_adjusted_36 {l : Launch} {D : va_G} {ad : Nat → Nat} {ca : Nat → ClassId} {p : Program} {e : Env} {s : State} {m : MethodId} {args : Array Value} {below : List Frame} {meth : Method} {c : Code} {A : Nat → Prop} (h : xC p s m args meth c cA_adjusted 5 (Cond.code yA_adjusted cA_adjusted 5 (some .int) :: wA) nW yA_adjusted.cls (some .int) D clA (tysC ca) A) (N : Nat) (a0 a1 a2 : Int32) (S : xSt) : xJ p l e rm_A_adjusted s m args below meth c D clA (tysC ca) (cellsC ad ca) A true 5 36 [(0, .int a0), (1, .int a1), (2, .int a2)] [] S (f_A_adjusted_36 N a0 a1 a2 S) := by
  unfold f_A_adjusted_36
  refine x_iconst (nx := 37) (v := (1 : Int32)) h dA_adjusted_36 (by decide) rfl ?_
  refine x_goto (tgt := 41) h dA_adjusted_37 (by decide) ?_
  exact x_sub [0, 1, 2] rfl (j_A_adjusted_41 h N a0 a1 a2 (1 : Int32) S)
set_option maxHeartbeats 4000000 in
set_option maxRecDepth 100000 in
theorem j_A_adjusted_22 {l : Launch} {D : va_G} {ad : Nat → Nat} {ca : Nat → ClassId} {p : Program} {e : Env} {s : State} {m : MethodId} {args : Array Value} {below : List Frame} {meth : Method} {c : Code} {A : Nat → Prop} (h : xC p s m args meth c cA_adjusted 5 (Cond.code yA_adjusted cA_adjusted 5 (some .int) :: wA) nW yA_adjusted.cls (some .int) D clA (tysC ca) A) (N : Nat) (a0 a1 w0 : Int32) (S : xSt) : xJ p l e rm_A_adjusted s m args below meth c D clA (tysC ca) (cellsC ad ca) A true 5 22 [(0, .int a0), (1, .int a1)] [.int w0] S (f_A_adjusted_22 N a0 a1 w0 S) := by
  unfold f_A_adjusted_22
  refine x_istore_n (nx := 23) (i := 2) (lv' := [(2, .int w0), (0, .int a0), (1, .int a1)]) h dA_adjusted_22 rfl (by decide) rfl rfl ?_
  refine x_iload_n (nx := 24) (i := 1) h dA_adjusted_23 rfl 2 rfl rfl ?_
  refine x_iconst (nx := 25) (v := (1 : Int32)) h dA_adjusted_24 (by decide) rfl ?_
  refine x_iand (nx := 26) h dA_adjusted_25 rfl ?_
  refine x_if_ne (nx := 29) (tgt := 36) h dA_adjusted_26 (by decide) rfl ?_ ?_
  · exact x_sub [1, 2, 0] rfl (j_A_adjusted_36 h N a0 a1 w0 S)
  · refine x_iload_n (nx := 30) (i := 0) h dA_adjusted_29 rfl 1 rfl rfl ?_
    refine x_sipush (nx := 33) (v := (153 : Int32)) h dA_adjusted_30 (by decide) rfl ?_
    refine x_icmp_le (nx := 36) (tgt := 40) h dA_adjusted_33 (by decide) rfl ?_ ?_
    · refine x_iconst (nx := 41) (v := (0 : Int32)) h dA_adjusted_40 (by decide) rfl ?_
      exact x_sub [1, 2, 0] rfl (j_A_adjusted_41 h N a0 a1 w0 (0 : Int32) S)
    · exact x_sub [1, 2, 0] rfl (j_A_adjusted_36 h N a0 a1 w0 S)
set_option maxHeartbeats 4000000 in
set_option maxRecDepth 100000 in
theorem j_A_adjusted_16 {l : Launch} {D : va_G} {ad : Nat → Nat} {ca : Nat → ClassId} {p : Program} {e : Env} {s : State} {m : MethodId} {args : Array Value} {below : List Frame} {meth : Method} {c : Code} {A : Nat → Prop} (h : xC p s m args meth c cA_adjusted 5 (Cond.code yA_adjusted cA_adjusted 5 (some .int) :: wA) nW yA_adjusted.cls (some .int) D clA (tysC ca) A) (N : Nat) (a0 a1 : Int32) (S : xSt) : xJ p l e rm_A_adjusted s m args below meth c D clA (tysC ca) (cellsC ad ca) A true 5 16 [(0, .int a0), (1, .int a1)] [] S (f_A_adjusted_16 N a0 a1 S) := by
  unfold f_A_adjusted_16
  refine x_bipush (nx := 18) (v := (6 : Int32)) h dA_adjusted_16 (by decide) rfl ?_
  refine x_goto (tgt := 22) h dA_adjusted_18 (by decide) ?_
  exact x_sub [0, 1] rfl (j_A_adjusted_22 h N a0 a1 (6 : Int32) S)
set_option maxHeartbeats 4000000 in
set_option maxRecDepth 100000 in
theorem m_A_adjusted {l : Launch} {D : va_G} {ad : Nat → Nat} {ca : Nat → ClassId} (N : Nat) (a0 a1 : Int32) (S : xSt) : xM l D clA (tysC ca) (cellsC ad ca) nW yA_adjusted (Cond.code yA_adjusted cA_adjusted 5 (some .int) :: wA) rm_A_adjusted true [.int a0, .int a1] S (f_A_adjusted N a0 a1 S) := by
  refine x_met (cc := cA_adjusted) (maxL := 5) (ret := (some .int)) (by decide) rfl [.int a0, .int a1] (lv0 := [(0, .int a0), (1, .int a1)]) (Nat.le_of_ble_eq_true rfl) rfl ?_
  intro p e s m args below meth c A h
  unfold f_A_adjusted
  refine x_iload_n (nx := 1) (i := 1) h dA_adjusted_0 rfl 1 rfl rfl ?_
  refine x_bipush (nx := 3) (v := (16 : Int32)) h dA_adjusted_1 (by decide) rfl ?_
  refine x_iand (nx := 4) h dA_adjusted_3 rfl ?_
  refine x_if_ne (nx := 7) (tgt := 16) h dA_adjusted_4 (by decide) rfl ?_ ?_
  · exact x_sub [0, 1] rfl (j_A_adjusted_16 h N a0 a1 S)
  · refine x_iload_n (nx := 8) (i := 0) h dA_adjusted_7 rfl 0 rfl rfl ?_
    refine x_bipush (nx := 10) (v := (15 : Int32)) h dA_adjusted_8 (by decide) rfl ?_
    refine x_iand (nx := 11) h dA_adjusted_10 rfl ?_
    refine x_bipush (nx := 13) (v := (9 : Int32)) h dA_adjusted_11 (by decide) rfl ?_
    refine x_icmp_le (nx := 16) (tgt := 21) h dA_adjusted_13 (by decide) rfl ?_ ?_
    · refine x_iconst (nx := 22) (v := (0 : Int32)) h dA_adjusted_21 (by decide) rfl ?_
      exact x_sub [0, 1] rfl (j_A_adjusted_22 h N a0 a1 (0 : Int32) S)
    · exact x_sub [0, 1] rfl (j_A_adjusted_16 h N a0 a1 S)
set_option maxHeartbeats 4000000 in
set_option maxRecDepth 100000 in
theorem j_P_changeA_177 {l : Launch} {D : va_G} {ad : Nat → Nat} {ca : Nat → ClassId} {p : Program} {e : Env} {s : State} {m : MethodId} {args : Array Value} {below : List Frame} {meth : Method} {c : Code} {A : Nat → Prop} (h : xC p s m args meth c cP_changeA 5 (Cond.code yP_changeA cP_changeA 5 none :: wA) nW yP_changeA.cls none D clA (tysC ca) A) (N : Nat) (S : xSt) : xJ p l e rm_P_changeA s m args below meth c D clA (tysC ca) (cellsC ad ca) A false 5 177 [] [] S (f_P_changeA_177 N S) := by
  unfold f_P_changeA_177
  exact x_vret h dP_changeA_177
set_option maxHeartbeats 4000000 in
set_option maxRecDepth 100000 in
theorem j_P_changeA_133 {l : Launch} {D : va_G} {ad : Nat → Nat} {ca : Nat → ClassId} {p : Program} {e : Env} {s : State} {m : MethodId} {args : Array Value} {below : List Frame} {meth : Method} {c : Code} {A : Nat → Prop} (h : xC p s m args meth c cP_changeA 5 (Cond.code yP_changeA cP_changeA 5 none :: wA) nW yP_changeA.cls none D clA (tysC ca) A) (N : Nat) (w1 w2 w3 : Int32) (S : xSt) : xJ p l e rm_P_changeA s m args below meth c D clA (tysC ca) (cellsC ad ca) A false 5 133 [] [.int w3, .int w2, .int w1, .ref (ad 2)] S (f_P_changeA_133 N w1 w2 w3 S) := by
  unfold f_P_changeA_133
  refine x_ior (nx := 134) h dP_changeA_133 rfl ?_
  refine x_cVv (nx := 137) (rest := []) (As := [.int w1, .int (w2 ||| w3)]) h (m_P_setFlags N w1 (w2 ||| w3) S) (x_wV h goA y_P_setFlags kP_174 ⟨by decide, by decide⟩ rfl rfl) (oC_2 ad ca) rfl rfl (Nat.le_of_ble_eq_true rfl) dP_changeA_134 rfl (fun v1 S2 => ?_)
  refine x_goto (tgt := 177) h dP_changeA_137 (by decide) ?_
  exact x_sub [] rfl (j_P_changeA_177 h N S2)
set_option maxHeartbeats 4000000 in
set_option maxRecDepth 100000 in
theorem m_P_changeA {l : Launch} {D : va_G} {ad : Nat → Nat} {ca : Nat → ClassId} (N : Nat) (a1 : Int32) (S : xSt) : xM l D clA (tysC ca) (cellsC ad ca) nW yP_changeA (Cond.code yP_changeA cP_changeA 5 none :: wA) rm_P_changeA false [.ref (ad 2), .int a1] S (f_P_changeA N a1 S) := by
  refine x_met (cc := cP_changeA) (maxL := 5) (ret := none) (by decide) rfl [.ref (ad 2), .int a1] (lv0 := [(0, .ref (ad 2)), (1, .int a1)]) (Nat.le_of_ble_eq_true rfl) rfl ?_
  intro p e s m args below meth c A h
  unfold f_P_changeA
  refine x_aload_n (nx := 1) (i := 0) h dP_changeA_0 rfl 0 rfl rfl ?_
  refine x_get (nx := 4) h (gC_2_2 ad ca _) (List.mem_cons_of_mem _ kP_20) dP_changeA_1 rfl ?_
  refine x_iconst (nx := 5) (v := (0 : Int32)) h dP_changeA_4 (by decide) rfl ?_
  refine x_iald (nx := 6) h (aC_10 ad ca) dP_changeA_5 rfl (fun v1 => ?_)
  refine x_istore_n (nx := 7) (i := 2) (lv' := [(2, .int v1), (0, .ref (ad 2)), (1, .int a1)]) h dP_changeA_6 rfl (by decide) rfl rfl ?_
  refine x_sipush (nx := 10) (v := (196 : Int32)) h dP_changeA_7 (by decide) rfl ?_
  refine x_istore_n (nx := 11) (i := 3) (lv' := [(3, .int (196 : Int32)), (2, .int v1), (0, .ref (ad 2)), (1, .int a1)]) h dP_changeA_10 rfl (by decide) rfl rfl ?_
  refine x_iload_n (nx := 12) (i := 1) h dP_changeA_11 rfl 3 rfl rfl ?_
  refine x_ite (fun hq2 => ?_) (fun hq2 => ?_)
  · refine x_set hq2 ?_
    refine x_tabIn (off := 32) (tgt := 44) h dP_changeA_12 (by decide +kernel) (by decide +kernel) (by decide +kernel) (by decide) ?_
    refine x_aload_n (nx := 45) (i := 0) h dP_changeA_44 rfl 2 rfl rfl ?_
    refine x_get (nx := 48) h (gC_2_1 ad ca _) (List.mem_cons_of_mem _ kP_10) dP_changeA_45 rfl ?_
    refine x_iconst (nx := 49) (v := (0 : Int32)) h dP_changeA_48 (by decide) rfl ?_
    refine x_iload_n (nx := 50) (i := 2) h dP_changeA_49 rfl 1 rfl rfl ?_
    refine x_aload_n (nx := 51) (i := 0) h dP_changeA_50 rfl 2 rfl rfl ?_
    refine x_get (nx := 54) h (gC_2_2 ad ca _) (List.mem_cons_of_mem _ kP_20) dP_changeA_51 rfl ?_
    refine x_iconst (nx := 55) (v := (1 : Int32)) h dP_changeA_54 (by decide) rfl ?_
    refine x_iald (nx := 56) h (aC_10 ad ca) dP_changeA_55 rfl (fun v3 => ?_)
    refine x_cSi (nx := 59) (rest := [.int (0 : Int32), .ref (ad 5)]) (As := [.int v1, .int v3]) h (m_A_adjusted N v1 v3 S) (x_wS h goA y_A_adjusted kP_186 ⟨by decide, by decide⟩ rfl rfl) rfl rfl (Nat.le_of_ble_eq_true rfl) dP_changeA_56 rfl (fun v4 S5 => ?_)
    refine x_cVv (nx := 62) (rest := []) (As := [.int (0 : Int32), .int v4]) h (m_G_split N (0 : Int32) v4 S5) (x_wV h goA y_G_split kP_190 ⟨by decide, by decide⟩ rfl rfl) (oC_5 ad ca) rfl rfl (Nat.le_of_ble_eq_true rfl) dP_changeA_59 rfl (fun v6 S7 => ?_)
    refine x_goto (tgt := 177) h dP_changeA_62 (by decide) ?_
    exact x_sub [] rfl (j_P_changeA_177 h N S7)
  refine x_ite (fun hq8 => ?_) (fun hq8 => ?_)
  · refine x_set hq8 ?_
    refine x_tabIn (off := 53) (tgt := 65) h dP_changeA_12 (by decide +kernel) (by decide +kernel) (by decide +kernel) (by decide) ?_
    refine x_aload_n (nx := 66) (i := 0) h dP_changeA_65 rfl 2 rfl rfl ?_
    refine x_get (nx := 69) h (gC_2_2 ad ca _) (List.mem_cons_of_mem _ kP_20) dP_changeA_66 rfl ?_
    refine x_iconst (nx := 70) (v := (0 : Int32)) h dP_changeA_69 (by decide) rfl ?_
    refine x_iload_n (nx := 71) (i := 2) h dP_changeA_70 rfl 1 rfl rfl ?_
    refine x_sipush (nx := 74) (v := (255 : Int32)) h dP_changeA_71 (by decide) rfl ?_
    refine x_ixor (nx := 75) h dP_changeA_74 rfl ?_
    refine x_iast (nx := 76) h (aC_10 ad ca) dP_changeA_75 rfl (fun S9 => ?_)
    refine x_aload_n (nx := 77) (i := 0) h dP_changeA_76 rfl 2 rfl rfl ?_
    refine x_iload_n (nx := 78) (i := 3) h dP_changeA_77 rfl 0 rfl rfl ?_
    refine x_iconst (nx := 79) (v := (1 : Int32)) h dP_changeA_78 (by decide) rfl ?_
    refine x_ior (nx := 80) h dP_changeA_79 rfl ?_
    refine x_iload_n (nx := 81) (i := 2) h dP_changeA_80 rfl 1 rfl rfl ?_
    refine x_sipush (nx := 84) (v := (255 : Int32)) h dP_changeA_81 (by decide) rfl ?_
    refine x_ixor (nx := 85) h dP_changeA_84 rfl ?_
    refine x_bipush (nx := 87) (v := (40 : Int32)) h dP_changeA_85 (by decide) rfl ?_
    refine x_iand (nx := 88) h dP_changeA_87 rfl ?_
    refine x_bipush (nx := 90) (v := (16 : Int32)) h dP_changeA_88 (by decide) rfl ?_
    refine x_ior (nx := 91) h dP_changeA_90 rfl ?_
    refine x_iconst (nx := 92) (v := (2 : Int32)) h dP_changeA_91 (by decide) rfl ?_
    refine x_ior (nx := 93) h dP_changeA_92 rfl ?_
    refine x_cVv (nx := 96) (rest := []) (As := [.int ((196 : Int32) ||| (1 : Int32)), .int ((((v1 ^^^ (255 : Int32)) &&& (40 : Int32)) ||| (16 : Int32)) ||| (2 : Int32))]) h (m_P_setFlags N ((196 : Int32) ||| (1 : Int32)) ((((v1 ^^^ (255 : Int32)) &&& (40 : Int32)) ||| (16 : Int32)) ||| (2 : Int32)) S9) (x_wV h goA y_P_setFlags kP_174 ⟨by decide, by decide⟩ rfl rfl) (oC_2 ad ca) rfl rfl (Nat.le_of_ble_eq_true rfl) dP_changeA_93 rfl (fun v10 S11 => ?_)
    refine x_goto (tgt := 177) h dP_changeA_96 (by decide) ?_
    exact x_sub [] rfl (j_P_changeA_177 h N S11)
  refine x_ite (fun hq12 => ?_) (fun hq12 => ?_)
  · refine x_set hq12 ?_
    refine x_tabIn (off := 87) (tgt := 99) h dP_changeA_12 (by decide +kernel) (by decide +kernel) (by decide +kernel) (by decide) ?_
    refine x_aload_n (nx := 100) (i := 0) h dP_changeA_99 rfl 2 rfl rfl ?_
    refine x_iload_n (nx := 101) (i := 3) h dP_changeA_100 rfl 0 rfl rfl ?_
    refine x_iload_n (nx := 102) (i := 2) h dP_changeA_101 rfl 1 rfl rfl ?_
    refine x_bipush (nx := 104) (v := (40 : Int32)) h dP_changeA_102 (by decide) rfl ?_
    refine x_iand (nx := 105) h dP_changeA_104 rfl ?_
    refine x_iconst (nx := 106) (v := (1 : Int32)) h dP_changeA_105 (by decide) rfl ?_
    refine x_ior (nx := 107) h dP_changeA_106 rfl ?_
    refine x_cVv (nx := 110) (rest := []) (As := [.int (196 : Int32), .int ((v1 &&& (40 : Int32)) ||| (1 : Int32))]) h (m_P_setFlags N (196 : Int32) ((v1 &&& (40 : Int32)) ||| (1 : Int32)) S) (x_wV h goA y_P_setFlags kP_174 ⟨by decide, by decide⟩ rfl rfl) (oC_2 ad ca) rfl rfl (Nat.le_of_ble_eq_true rfl) dP_changeA_107 rfl (fun v13 S14 => ?_)
    refine x_goto (tgt := 177) h dP_changeA_110 (by decide) ?_
    exact x_sub [] rfl (j_P_changeA_177 h N S14)
  refine x_ite (fun hq15 => ?_) (fun hq15 => ?_)
  · refine x_set hq15 ?_
    refine x_tabIn (off := 101) (tgt := 113) h dP_changeA_12 (by decide +kernel) (by decide +kernel) (by decide +kernel) (by decide) ?_
    refine x_aload_n (nx := 114) (i := 0) h dP_changeA_113 rfl 2 rfl rfl ?_
    refine x_iload_n (nx := 115) (i := 3) h dP_changeA_114 rfl 0 rfl rfl ?_
    refine x_iload_n (nx := 116) (i := 2) h dP_changeA_115 rfl 1 rfl rfl ?_
    refine x_bipush (nx := 118) (v := (40 : Int32)) h dP_changeA_116 (by decide) rfl ?_
    refine x_iand (nx := 119) h dP_changeA_118 rfl ?_
    refine x_aload_n (nx := 120) (i := 0) h dP_changeA_119 rfl 2 rfl rfl ?_
    refine x_cVi (nx := 123) (rest := [.int (v1 &&& (40 : Int32)), .int (196 : Int32), .ref (ad 2)]) (As := []) h (m_P_carry N S) (x_wV h goA y_P_carry kP_193 ⟨by decide, by decide⟩ rfl rfl) (oC_2 ad ca) rfl rfl (Nat.le_of_ble_eq_true rfl) dP_changeA_120 rfl (fun v16 S17 => ?_)
    refine x_iconst (nx := 124) (v := (1 : Int32)) h dP_changeA_123 (by decide) rfl ?_
    refine x_icmp_ne (nx := 127) (tgt := 132) h dP_changeA_124 (by decide) rfl ?_ ?_
    · refine x_iconst (nx := 133) (v := (1 : Int32)) h dP_changeA_132 (by decide) rfl ?_
      exact x_sub [] rfl (j_P_changeA_133 h N (196 : Int32) (v1 &&& (40 : Int32)) (1 : Int32) S17)
    · refine x_bipush (nx := 129) (v := (16 : Int32)) h dP_changeA_127 (by decide) rfl ?_
      refine x_goto (tgt := 133) h dP_changeA_129 (by decide) ?_
      exact x_sub [] rfl (j_P_changeA_133 h N (196 : Int32) (v1 &&& (40 : Int32)) (16 : Int32) S17)
  refine x_tabOut (tgt := 140) h dP_changeA_12 (by have z0 := lv_neT (a := 4) hq2 (by decide +kernel); have z1 := lv_neT (a := 5) hq8 (by decide +kernel); have z2 := lv_neT (a := 6) hq12 (by decide +kernel); have z3 := lv_neT (a := 7) hq15 (by decide +kernel); omega) (by decide) ?_
  refine x_iload_n (nx := 141) (i := 1) h dP_changeA_140 rfl 3 rfl rfl ?_
  refine x_iload_n (nx := 142) (i := 2) h dP_changeA_141 rfl 1 rfl rfl ?_
  refine x_aload_n (nx := 143) (i := 0) h dP_changeA_142 rfl 2 rfl rfl ?_
  refine x_cVi (nx := 146) (rest := [.int v1, .int a1]) (As := []) h (m_P_carry N S) (x_wV h goA y_P_carry kP_193 ⟨by decide, by decide⟩ rfl rfl) (oC_2 ad ca) rfl rfl (Nat.le_of_ble_eq_true rfl) dP_changeA_143 rfl (fun v18 S19 => ?_)
  refine x_cSi (nx := 149) (rest := []) (As := [.int a1, .int v1, .int v18]) h (m_A_turned N a1 v1 v18 S19) (x_wS h goA y_A_turned kP_196 ⟨by decide, by decide⟩ rfl rfl) rfl rfl (Nat.le_of_ble_eq_true rfl) dP_changeA_146 rfl (fun v20 S21 => ?_)
  refine x_istore (nx := 151) (i := 4) (lv' := [(4, .int v20), (3, .int (196 : Int32)), (2, .int v1), (0, .ref (ad 2)), (1, .int a1)]) h dP_changeA_149 (by decide) rfl rfl ?_
  refine x_aload_n (nx := 152) (i := 0) h dP_changeA_151 rfl 3 rfl rfl ?_
  refine x_get (nx := 155) h (gC_2_2 ad ca _) (List.mem_cons_of_mem _ kP_20) dP_changeA_152 rfl ?_
  refine x_iconst (nx := 156) (v := (0 : Int32)) h dP_changeA_155 (by decide) rfl ?_
  refine x_iload (nx := 158) (i := 4) h dP_changeA_156 0 rfl rfl ?_
  refine x_bipush (nx := 160) (v := (8 : Int32)) h dP_changeA_158 (by decide) rfl ?_
  refine x_ishr (nx := 161) h dP_changeA_160 rfl ?_
  refine x_iast (nx := 162) h (aC_10 ad ca) dP_changeA_161 rfl (fun S22 => ?_)
  refine x_aload_n (nx := 163) (i := 0) h dP_changeA_162 rfl 3 rfl rfl ?_
  refine x_iload_n (nx := 164) (i := 3) h dP_changeA_163 rfl 1 rfl rfl ?_
  refine x_iload (nx := 166) (i := 4) h dP_changeA_164 0 rfl rfl ?_
  refine x_sipush (nx := 169) (v := (255 : Int32)) h dP_changeA_166 (by decide) rfl ?_
  refine x_iand (nx := 170) h dP_changeA_169 rfl ?_
  refine x_iload_n (nx := 171) (i := 3) h dP_changeA_170 rfl 1 rfl rfl ?_
  refine x_iconst (nx := 172) (v := (-1 : Int32)) h dP_changeA_171 (by decide) rfl ?_
  refine x_ixor (nx := 173) h dP_changeA_172 rfl ?_
  refine x_iand (nx := 174) h dP_changeA_173 rfl ?_
  refine x_cVv (nx := 177) (rest := []) (As := [.int (196 : Int32), .int ((v20 &&& (255 : Int32)) &&& ((196 : Int32) ^^^ (-1 : Int32)))]) h (m_P_setFlags N (196 : Int32) ((v20 &&& (255 : Int32)) &&& ((196 : Int32) ^^^ (-1 : Int32))) S22) (x_wV h goA y_P_setFlags kP_174 ⟨by decide, by decide⟩ rfl rfl) (oC_2 ad ca) rfl rfl (Nat.le_of_ble_eq_true rfl) dP_changeA_174 rfl (fun v23 S24 => ?_)
  exact x_sub [] rfl (j_P_changeA_177 h N S24)
