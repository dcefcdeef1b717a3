set_option maxHeartbeats 4000000 in
set_option maxRecDepth 100000 in
theorem m_A_minus {l : Launch} {D : va_G} {ad : Nat → Nat} {ca : Nat → ClassId} (N : Nat) (a0 a1 a2 : Int32) (S : xSt) : xM l D clA (tysC ca) (cellsC ad ca) nW yA_minus (Cond.code yA_minus cA_minus 6 (some .int) :: wA) rm_A_minus true [.int a0, .int a1, .int a2] S (f_A_minus N a0 a1 a2 S) := by
  refine x_met (cc := cA_minus) (maxL := 6) (ret := (some .int)) (by decide) rfl [.int a0, .int a1, .int a2] (lv0 := [(0, .int a0), (1, .int a1), (2, .int a2)]) (Nat.le_of_ble_eq_true rfl) rfl ?_
  intro p e s m args below meth c A h
  unfold f_A_minus
  refine x_iload_n (nx := 1) (i := 0) h dA_minus_0 rfl 0 rfl rfl ?_
  refine x_iload_n (nx := 2) (i := 1) h dA_minus_1 rfl 1 rfl rfl ?_
  refine x_isub (nx := 3) h dA_minus_2 rfl ?_
  refine x_iload_n (nx := 4) (i := 2) h dA_minus_3 rfl 2 rfl rfl ?_
  refine x_isub (nx := 5) h dA_minus_4 rfl ?_
  refine x_val (fun b1 => ?_)
  refine x_istore_n (nx := 6) (i := 3) (lv' := [(3, .int b1), (0, .int a0), (1, .int a1), (2, .int a2)]) h dA_minus_5 rfl (by decide) rfl rfl ?_
  refine x_iload_n (nx := 7) (i := 0) h dA_minus_6 rfl 1 rfl rfl ?_
  refine x_iload_n (nx := 8) (i := 1) h dA_minus_7 rfl 2 rfl rfl ?_
  refine x_ixor (nx := 9) h dA_minus_8 rfl ?_
  refine x_iload_n (nx := 10) (i := 0) h dA_minus_9 rfl 1 rfl rfl ?_
  refine x_iload_n (nx := 11) (i := 3) h dA_minus_10 rfl 0 rfl rfl ?_
  refine x_ixor (nx := 12) h dA_minus_11 rfl ?_
  refine x_iand (nx := 13) h dA_minus_12 rfl ?_
  refine x_sipush (nx := 16) (v := (128 : Int32)) h dA_minus_13 (by decide) rfl ?_
  refine x_iand (nx := 17) h dA_minus_16 rfl ?_
  refine x_val (fun b2 => ?_)
  refine x_istore (nx := 19) (i := 4) (lv' := [(4, .int b2), (3, .int b1), (0, .int a0), (1, .int a1), (2, .int a2)]) h dA_minus_17 (by decide) rfl rfl ?_
  refine x_iload_n (nx := 20) (i := 3) h dA_minus_19 rfl 1 rfl rfl ?_
  refine x_sipush (nx := 23) (v := (255 : Int32)) h dA_minus_20 (by decide) rfl ?_
  refine x_iand (nx := 24) h dA_minus_23 rfl ?_
  refine x_cSi (nx := 27) (rest := []) (As := [.int (b1 &&& (255 : Int32))]) h (m_A_by N (b1 &&& (255 : Int32)) S) (x_wS h goA y_A_by kA_9 ⟨by decide, by decide⟩ rfl rfl) rfl rfl (Nat.le_of_ble_eq_true rfl) dA_minus_24 rfl (fun v3 S4 => ?_)
  refine x_iload_n (nx := 28) (i := 0) h dA_minus_27 rfl 2 rfl rfl ?_
  refine x_iload_n (nx := 29) (i := 1) h dA_minus_28 rfl 3 rfl rfl ?_
  refine x_ixor (nx := 30) h dA_minus_29 rfl ?_
  refine x_iload_n (nx := 31) (i := 3) h dA_minus_30 rfl 1 rfl rfl ?_
  refine x_ixor (nx := 32) h dA_minus_31 rfl ?_
  refine x_bipush (nx := 34) (v := (16 : Int32)) h dA_minus_32 (by decide) rfl ?_
  refine x_iand (nx := 35) h dA_minus_34 rfl ?_
  refine x_ior (nx := 36) h dA_minus_35 rfl ?_
  refine x_iload (nx := 38) (i := 4) h dA_minus_36 0 rfl rfl ?_
  refine x_iconst (nx := 39) (v := (5 : Int32)) h dA_minus_38 (by decide) rfl ?_
  refine x_ishr (nx := 40) h dA_minus_39 rfl ?_
  refine x_ior (nx := 41) h dA_minus_40 rfl ?_
  refine x_iconst (nx := 42) (v := (2 : Int32)) h dA_minus_41 (by decide) rfl ?_
  refine x_ior (nx := 43) h dA_minus_42 rfl ?_
  refine x_iload_n (nx := 44) (i := 3) h dA_minus_43 rfl 1 rfl rfl ?_
  refine x_bipush (nx := 46) (v := (8 : Int32)) h dA_minus_44 (by decide) rfl ?_
  refine x_ishr (nx := 47) h dA_minus_46 rfl ?_
  refine x_iconst (nx := 48) (v := (1 : Int32)) h dA_minus_47 (by decide) rfl ?_
  refine x_iand (nx := 49) h dA_minus_48 rfl ?_
  refine x_ior (nx := 50) h dA_minus_49 rfl ?_
  refine x_val (fun b5 => ?_)
  refine x_istore (nx := 52) (i := 5) (lv' := [(5, .int b5), (4, .int b2), (3, .int b1), (0, .int a0), (1, .int a1), (2, .int a2)]) h dA_minus_50 (by decide) rfl rfl ?_
  refine x_iload_n (nx := 53) (i := 3) h dA_minus_52 rfl 2 rfl rfl ?_
  refine x_sipush (nx := 56) (v := (255 : Int32)) h dA_minus_53 (by decide) rfl ?_
  refine x_iand (nx := 57) h dA_minus_56 rfl ?_
  refine x_bipush (nx := 59) (v := (8 : Int32)) h dA_minus_57 (by decide) rfl ?_
  refine x_ishl (nx := 60) h dA_minus_59 rfl ?_
  refine x_iload (nx := 62) (i := 5) h dA_minus_60 0 rfl rfl ?_
  refine x_ior (nx := 63) h dA_minus_62 rfl ?_
  exact x_iret h dA_minus_63
set_option maxHeartbeats 4000000 in
set_option maxRecDepth 100000 in
theorem j_P_lookAtByte_104 {l : Launch} {D : va_G} {ad : Nat → Nat} {ca : Nat → ClassId} {p : Program} {e : Env} {s : State} {m : MethodId} {args : Array Value} {below : List Frame} {meth : Method} {c : Code} {A : Nat → Prop} (h : xC p s m args meth c cP_lookAtByte 6 (Cond.code yP_lookAtByte cP_lookAtByte 6 none :: wA) nW yP_lookAtByte.cls none D clA (tysC ca) A) (N : Nat) (S : xSt) : xJ p l e rm_P_lookAtByte s m args below meth c D clA (tysC ca) (cellsC ad ca) A false 6 104 [] [] S (f_P_lookAtByte_104 N S) := by
  unfold f_P_lookAtByte_104
  exact x_vret h dP_lookAtByte_104
set_option maxHeartbeats 4000000 in
set_option maxRecDepth 100000 in
theorem j_P_lookAtByte_53 {l : Launch} {D : va_G} {ad : Nat → Nat} {ca : Nat → ClassId} {p : Program} {e : Env} {s : State} {m : MethodId} {args : Array Value} {below : List Frame} {meth : Method} {c : Code} {A : Nat → Prop} (h : xC p s m args meth c cP_lookAtByte 6 (Cond.code yP_lookAtByte cP_lookAtByte 6 none :: wA) nW yP_lookAtByte.cls none D clA (tysC ca) A) (N : Nat) (a1 a3 a4 w1 : Int32) (S : xSt) : xJ p l e rm_P_lookAtByte s m args below meth c D clA (tysC ca) (cellsC ad ca) A false 6 53 [(0, .ref (ad 2)), (1, .int a1), (3, .int a3), (4, .int a4)] [.int w1, .ref (ad 2)] S (f_P_lookAtByte_53 N a1 a3 a4 w1 S) := by
  unfold f_P_lookAtByte_53
  refine x_iload_n (nx := 54) (i := 3) h dP_lookAtByte_53 rfl 2 rfl rfl ?_
  refine x_bipush (nx := 56) (v := (8 : Int32)) h dP_lookAtByte_54 (by decide) rfl ?_
  refine x_ishr (nx := 57) h dP_lookAtByte_56 rfl ?_
  refine x_iload (nx := 59) (i := 4) h dP_lookAtByte_57 3 rfl rfl ?_
  refine x_isub (nx := 60) h dP_lookAtByte_59 rfl ?_
  refine x_cVi (nx := 63) (rest := []) (As := [.int w1, .int ((a3 >>> ((8 : Int32) &&& 31)) - a4)]) h (m_P_advance N w1 ((a3 >>> ((8 : Int32) &&& 31)) - a4) S) (x_wV h goA y_P_advance kP_265 ⟨by decide, by decide⟩ rfl rfl) (oC_2 ad ca) rfl rfl (Nat.le_of_ble_eq_true rfl) dP_lookAtByte_60 rfl (fun v1 S2 => ?_)
  refine x_istore (nx := 65) (i := 5) (lv' := [(5, .int v1), (0, .ref (ad 2)), (1, .int a1), (3, .int a3), (4, .int a4)]) h dP_lookAtByte_63 (by decide) rfl rfl ?_
  refine x_aload_n (nx := 66) (i := 0) h dP_lookAtByte_65 rfl 1 rfl rfl ?_
  refine x_iconst (nx := 67) (v := (1 : Int32)) h dP_lookAtByte_66 (by decide) rfl ?_
  refine x_iload (nx := 69) (i := 5) h dP_lookAtByte_67 0 rfl rfl ?_
  refine x_iload_n (nx := 70) (i := 3) h dP_lookAtByte_69 rfl 3 rfl rfl ?_
  refine x_sipush (nx := 73) (v := (210 : Int32)) h dP_lookAtByte_70 (by decide) rfl ?_
  refine x_iand (nx := 74) h dP_lookAtByte_73 rfl ?_
  refine x_ior (nx := 75) h dP_lookAtByte_74 rfl ?_
  refine x_cVv (nx := 78) (rest := []) (As := [.int (1 : Int32), .int (v1 ||| (a3 &&& (210 : Int32)))]) h (m_P_setFlags N (1 : Int32) (v1 ||| (a3 &&& (210 : Int32))) S2) (x_wV h goA y_P_setFlags kP_174 ⟨by decide, by decide⟩ rfl rfl) (oC_2 ad ca) rfl rfl (Nat.le_of_ble_eq_true rfl) dP_lookAtByte_75 rfl (fun v3 S4 => ?_)
  refine x_iload_n (nx := 79) (i := 1) h dP_lookAtByte_78 rfl 2 rfl rfl ?_
  refine x_bipush (nx := 81) (v := (6 : Int32)) h dP_lookAtByte_79 (by decide) rfl ?_
  refine x_icmp_lt (nx := 84) (tgt := 104) h dP_lookAtByte_81 (by decide) rfl ?_ ?_
  · exact x_sub [] rfl (j_P_lookAtByte_104 h N S4)
  · refine x_iload (nx := 86) (i := 5) h dP_lookAtByte_84 0 rfl rfl ?_
    refine x_iconst (nx := 87) (v := (4 : Int32)) h dP_lookAtByte_86 (by decide) rfl ?_
    refine x_iand (nx := 88) h dP_lookAtByte_87 rfl ?_
    refine x_if_eq (nx := 91) (tgt := 104) h dP_lookAtByte_88 (by decide) rfl ?_ ?_
    · exact x_sub [] rfl (j_P_lookAtByte_104 h N S4)
    · refine x_iload_n (nx := 92) (i := 3) h dP_lookAtByte_91 rfl 3 rfl rfl ?_
      refine x_bipush (nx := 94) (v := (8 : Int32)) h dP_lookAtByte_92 (by decide) rfl ?_
      refine x_ishr (nx := 95) h dP_lookAtByte_94 rfl ?_
      refine x_if_eq (nx := 98) (tgt := 104) h dP_lookAtByte_95 (by decide) rfl ?_ ?_
      · exact x_sub [] rfl (j_P_lookAtByte_104 h N S4)
      · refine x_aload_n (nx := 99) (i := 0) h dP_lookAtByte_98 rfl 1 rfl rfl ?_
        refine x_bipush (nx := 101) (v := (-2 : Int32)) h dP_lookAtByte_99 (by decide) rfl ?_
        refine x_cVv (nx := 104) (rest := []) (As := [.int (-2 : Int32)]) h (m_P_movePc N (-2 : Int32) S4) (x_wV h goA y_P_movePc kP_106 ⟨by decide, by decide⟩ rfl rfl) (oC_2 ad ca) rfl rfl (Nat.le_of_ble_eq_true rfl) dP_lookAtByte_101 rfl (fun v5 S6 => ?_)
        exact x_sub [] rfl (j_P_lookAtByte_104 h N S6)
set_option maxHeartbeats 4000000 in
set_option maxRecDepth 100000 in
theorem j_P_lookAtByte_39 {l : Launch} {D : va_G} {ad : Nat → Nat} {ca : Nat → ClassId} {p : Program} {e : Env} {s : State} {m : MethodId} {args : Array Value} {below : List Frame} {meth : Method} {c : Code} {A : Nat → Prop} (h : xC p s m args meth c cP_lookAtByte 6 (Cond.code yP_lookAtByte cP_lookAtByte 6 none :: wA) nW yP_lookAtByte.cls none D clA (tysC ca) A) (N : Nat) (a1 a3 w0 : Int32) (S : xSt) : xJ p l e rm_P_lookAtByte s m args below meth c D clA (tysC ca) (cellsC ad ca) A false 6 39 [(0, .ref (ad 2)), (1, .int a1), (3, .int a3)] [.int w0] S (f_P_lookAtByte_39 N a1 a3 w0 S) := by
  unfold f_P_lookAtByte_39
  refine x_istore (nx := 41) (i := 4) (lv' := [(4, .int w0), (0, .ref (ad 2)), (1, .int a1), (3, .int a3)]) h dP_lookAtByte_39 (by decide) rfl rfl ?_
  refine x_aload_n (nx := 42) (i := 0) h dP_lookAtByte_41 rfl 1 rfl rfl ?_
  refine x_iload_n (nx := 43) (i := 1) h dP_lookAtByte_42 rfl 2 rfl rfl ?_
  refine x_iconst (nx := 44) (v := (1 : Int32)) h dP_lookAtByte_43 (by decide) rfl ?_
  refine x_iand (nx := 45) h dP_lookAtByte_44 rfl ?_
  refine x_if_ne (nx := 48) (tgt := 52) h dP_lookAtByte_45 (by decide) rfl ?_ ?_
  · refine x_iconst (nx := 53) (v := (-1 : Int32)) h dP_lookAtByte_52 (by decide) rfl ?_
    exact x_sub [1, 2, 3, 0] rfl (j_P_lookAtByte_53 h N a1 a3 w0 (-1 : Int32) S)
  · refine x_iconst (nx := 49) (v := (1 : Int32)) h dP_lookAtByte_48 (by decide) rfl ?_
    refine x_goto (tgt := 53) h dP_lookAtByte_49 (by decide) ?_
    exact x_sub [1, 2, 3, 0] rfl (j_P_lookAtByte_53 h N a1 a3 w0 (1 : Int32) S)
set_option maxHeartbeats 4000000 in
set_option maxRecDepth 100000 in
theorem m_P_lookAtByte {l : Launch} {D : va_G} {ad : Nat → Nat} {ca : Nat → ClassId} (N : Nat) (a1 : Int32) (S : xSt) : xM l D clA (tysC ca) (cellsC ad ca) nW yP_lookAtByte (Cond.code yP_lookAtByte cP_lookAtByte 6 none :: wA) rm_P_lookAtByte false [.ref (ad 2), .int a1] S (f_P_lookAtByte N a1 S) := by
  refine x_met (cc := cP_lookAtByte) (maxL := 6) (ret := none) (by decide) rfl [.ref (ad 2), .int a1] (lv0 := [(0, .ref (ad 2)), (1, .int a1)]) (Nat.le_of_ble_eq_true rfl) rfl ?_
  intro p e s m args below meth c A h
  unfold f_P_lookAtByte
  refine x_aload_n (nx := 1) (i := 0) h dP_lookAtByte_0 rfl 0 rfl rfl ?_
  refine x_get (nx := 4) h (gC_2_0 ad ca _) (List.mem_cons_of_mem _ kP_21) dP_lookAtByte_1 rfl ?_
  refine x_aload_n (nx := 5) (i := 0) h dP_lookAtByte_4 rfl 0 rfl rfl ?_
  refine x_get (nx := 8) h (gC_2_1 ad ca _) (List.mem_cons_of_mem _ kP_10) dP_lookAtByte_5 rfl ?_
  refine x_cVi (nx := 11) (rest := [.ref (ad 1)]) (As := []) h (m_G_hl N S) (x_wV h goA y_G_hl kP_109 ⟨by decide, by decide⟩ rfl rfl) (oC_5 ad ca) rfl rfl (Nat.le_of_ble_eq_true rfl) dP_lookAtByte_8 rfl (fun v1 S2 => ?_)
  refine x_cVi (nx := 14) (rest := []) (As := [.int v1]) h (m_B_read N v1 S2) (x_wV h goA y_B_read kP_119 ⟨by decide, by decide⟩ rfl rfl) (oC_1 ad ca) rfl rfl (Nat.le_of_ble_eq_true rfl) dP_lookAtByte_11 rfl (fun v3 S4 => ?_)
  refine x_istore_n (nx := 15) (i := 2) (lv' := [(2, .int v3), (0, .ref (ad 2)), (1, .int a1)]) h dP_lookAtByte_14 rfl (by decide) rfl rfl ?_
  refine x_aload_n (nx := 16) (i := 0) h dP_lookAtByte_15 rfl 1 rfl rfl ?_
  refine x_get (nx := 19) h (gC_2_2 ad ca _) (List.mem_cons_of_mem _ kP_20) dP_lookAtByte_16 rfl ?_
  refine x_iconst (nx := 20) (v := (0 : Int32)) h dP_lookAtByte_19 (by decide) rfl ?_
  refine x_iald (nx := 21) h (aC_10 ad ca) dP_lookAtByte_20 rfl (fun v5 => ?_)
  refine x_iload_n (nx := 22) (i := 2) h dP_lookAtByte_21 rfl 0 rfl rfl ?_
  refine x_iconst (nx := 23) (v := (0 : Int32)) h dP_lookAtByte_22 (by decide) rfl ?_
  refine x_cSi (nx := 26) (rest := []) (As := [.int v5, .int v3, .int (0 : Int32)]) h (m_A_minus N v5 v3 (0 : Int32) S4) (x_wS h goA y_A_minus kP_180 ⟨by decide, by decide⟩ rfl rfl) rfl rfl (Nat.le_of_ble_eq_true rfl) dP_lookAtByte_23 rfl (fun v6 S7 => ?_)
  refine x_istore_n (nx := 27) (i := 3) (lv' := [(3, .int v6), (2, .int v3), (0, .ref (ad 2)), (1, .int a1)]) h dP_lookAtByte_26 rfl (by decide) rfl rfl ?_
  refine x_iload_n (nx := 28) (i := 3) h dP_lookAtByte_27 rfl 0 rfl rfl ?_
  refine x_bipush (nx := 30) (v := (16 : Int32)) h dP_lookAtByte_28 (by decide) rfl ?_
  refine x_iand (nx := 31) h dP_lookAtByte_30 rfl ?_
  refine x_if_eq (nx := 34) (tgt := 38) h dP_lookAtByte_31 (by decide) rfl ?_ ?_
  · refine x_iconst (nx := 39) (v := (0 : Int32)) h dP_lookAtByte_38 (by decide) rfl ?_
    exact x_sub [2, 3, 0] rfl (j_P_lookAtByte_39 h N a1 v6 (0 : Int32) S7)
  · refine x_iconst (nx := 35) (v := (1 : Int32)) h dP_lookAtByte_34 (by decide) rfl ?_
    refine x_goto (tgt := 39) h dP_lookAtByte_35 (by decide) ?_
    exact x_sub [2, 3, 0] rfl (j_P_lookAtByte_39 h N a1 v6 (1 : Int32) S7)
set_option maxHeartbeats 4000000 in
set_option maxRecDepth 100000 in
theorem m_T_level {l : Launch} {D : va_G} {ad : Nat → Nat} {ca : Nat → ClassId} (N : Nat) (S : xSt) : xM l D clA (tysC ca) (cellsC ad ca) nW yT_level (Cond.code yT_level cT_level 1 (some .int) :: wA) rm_T_level true [.ref (ad 4)] S (f_T_level N S) := by
  refine x_met (cc := cT_level) (maxL := 1) (ret := (some .int)) (by decide) rfl [.ref (ad 4)] (lv0 := [(0, .ref (ad 4))]) (Nat.le_of_ble_eq_true rfl) rfl ?_
  intro p e s m args below meth c A h
  unfold f_T_level
  refine x_aload_n (nx := 1) (i := 0) h dT_level_0 rfl 0 rfl rfl ?_
  refine x_get (nx := 4) h (gC_4_3 ad ca _) (List.mem_cons_of_mem _ kT_21) dT_level_1 rfl ?_
  refine x_iconst (nx := 5) (v := (1 : Int32)) h dT_level_4 (by decide) rfl ?_
  refine x_iand (nx := 6) h dT_level_5 rfl ?_
  exact x_iret h dT_level_6
set_option maxHeartbeats 4000000 in
set_option maxRecDepth 100000 in
theorem j_K_upIn_29 {l : Launch} {D : va_G} {ad : Nat → Nat} {ca : Nat → ClassId} {p : Program} {e : Env} {s : State} {m : MethodId} {args : Array Value} {below : List Frame} {meth : Method} {c : Code} {A : Nat → Prop} (h : xC p s m args meth c cK_upIn 4 (Cond.code yK_upIn cK_upIn 4 (some .int) :: wA) nW yK_upIn.cls (some .int) D clA (tysC ca) A) (N : Nat) (k4 : Int32 → Int32 → Int32 → xSt → xR) (hk4 : ∀ (a1 a2 a3 : Int32) (S : xSt), xJ p l e rm_K_upIn s m args below meth c D clA (tysC ca) (cellsC ad ca) A true 4 4 [(0, .ref (ad 3)), (1, .int a1), (2, .int a2), (3, .int a3)] [] S (k4 a1 a2 a3 S)) (a1 a2 a3 : Int32) (S : xSt) : xJ p l e rm_K_upIn s m args below meth c D clA (tysC ca) (cellsC ad ca) A true 4 29 [(0, .ref (ad 3)), (1, .int a1), (2, .int a2), (3, .int a3)] [] S (f_K_upIn_29 N k4 a1 a2 a3 S) := by
  unfold f_K_upIn_29
  refine x_iinc (nx := 32) (i := 3) (v := (a3 + (1 : Int32))) (lv' := [(3, .int (a3 + (1 : Int32))), (0, .ref (ad 3)), (1, .int a1), (2, .int a2)]) h dK_upIn_29 3 rfl (by rw [show Int32.ofInt 1 = (1 : Int32) by decide]) (by decide) rfl rfl ?_
  refine x_goto (tgt := 4) h dK_upIn_32 (by decide) ?_
  exact x_sub [1, 2, 3, 0] rfl (hk4 a1 a2 (a3 + (1 : Int32)) S)
set_option maxHeartbeats 4000000 in
set_option maxRecDepth 100000 in
theorem j_K_upIn_4 {l : Launch} {D : va_G} {ad : Nat → Nat} {ca : Nat → ClassId} {p : Program} {e : Env} {s : State} {m : MethodId} {args : Array Value} {below : List Frame} {meth : Method} {c : Code} {A : Nat → Prop} (h : xC p s m args meth c cK_upIn 4 (Cond.code yK_upIn cK_upIn 4 (some .int) :: wA) nW yK_upIn.cls (some .int) D clA (tysC ca) A) (N : Nat) : ∀ (n : Nat) (a1 a2 a3 : Int32) (S : xSt), xJ p l e rm_K_upIn s m args below meth c D clA (tysC ca) (cellsC ad ca) A true 4 4 [(0, .ref (ad 3)), (1, .int a1), (2, .int a2), (3, .int a3)] [] S (f_K_upIn_4 N n a1 a2 a3 S) := by
  intro n
  induction n with
  | zero =>
    intro a1 a2 a3 S
    rw [f_K_upIn_4]
    exact x_none
  | succ n ih =>
    intro a1 a2 a3 S
    rw [f_K_upIn_4]
    refine x_iload_n (nx := 5) (i := 3) h dK_upIn_4 rfl 3 rfl rfl ?_
    refine x_bipush (nx := 7) (v := (8 : Int32)) h dK_upIn_5 (by decide) rfl ?_
    refine x_icmp_ge (nx := 10) (tgt := 35) h dK_upIn_7 (by decide) rfl ?_ ?_
    · refine x_bipush (nx := 37) (v := (31 : Int32)) h dK_upIn_35 (by decide) rfl ?_
      refine x_iload_n (nx := 38) (i := 2) h dK_upIn_37 rfl 2 rfl rfl ?_
      refine x_iconst (nx := 39) (v := (-1 : Int32)) h dK_upIn_38 (by decide) rfl ?_
      refine x_ixor (nx := 40) h dK_upIn_39 rfl ?_
      refine x_iand (nx := 41) h dK_upIn_40 rfl ?_
      exact x_iret h dK_upIn_41
    · refine x_iload_n (nx := 11) (i := 1) h dK_upIn_10 rfl 1 rfl rfl ?_
      refine x_sipush (nx := 14) (v := (256 : Int32)) h dK_upIn_11 (by decide) rfl ?_
      refine x_iload_n (nx := 15) (i := 3) h dK_upIn_14 rfl 3 rfl rfl ?_
      refine x_ishl (nx := 16) h dK_upIn_15 rfl ?_
      refine x_iand (nx := 17) h dK_upIn_16 rfl ?_
      refine x_if_ne (nx := 20) (tgt := 29) h dK_upIn_17 (by decide) rfl ?_ ?_
      · exact x_sub [0, 1, 2, 3] rfl (j_K_upIn_29 h N (f_K_upIn_4 N n) ih a1 a2 a3 S)
      · refine x_iload_n (nx := 21) (i := 2) h dK_upIn_20 rfl 2 rfl rfl ?_
        refine x_aload_n (nx := 22) (i := 0) h dK_upIn_21 rfl 0 rfl rfl ?_
        refine x_get (nx := 25) h (gC_3_0 ad ca _) (List.mem_cons_of_mem _ kK_9) dK_upIn_22 rfl ?_
        refine x_iload_n (nx := 26) (i := 3) h dK_upIn_25 rfl 3 rfl rfl ?_
        refine x_iald (nx := 27) h (aC_8 ad ca) dK_upIn_26 rfl (fun v1 => ?_)
        refine x_ior (nx := 28) h dK_upIn_27 rfl ?_
        refine x_val (fun b2 => ?_)
        refine x_istore_n (nx := 29) (i := 2) (lv' := [(2, .int b2), (0, .ref (ad 3)), (1, .int a1), (3, .int a3)]) h dK_upIn_28 rfl (by decide) rfl rfl ?_
        exact x_sub [1, 2, 0, 3] rfl (j_K_upIn_29 h N (f_K_upIn_4 N n) ih a1 b2 a3 S)
set_option maxHeartbeats 4000000 in
set_option maxRecDepth 100000 in
theorem m_K_upIn {l : Launch} {D : va_G} {ad : Nat → Nat} {ca : Nat → ClassId} (N : Nat) (a1 : Int32) (S : xSt) : xM l D clA (tysC ca) (cellsC ad ca) nW yK_upIn (Cond.code yK_upIn cK_upIn 4 (some .int) :: wA) rm_K_upIn true [.ref (ad 3), .int a1] S (f_K_upIn N a1 S) := by
  refine x_met (cc := cK_upIn) (maxL := 4) (ret := (some .int)) (by decide) rfl [.ref (ad 3), .int a1] (lv0 := [(0, .ref (ad 3)), (1, .int a1)]) (Nat.le_of_ble_eq_true rfl) rfl ?_
  intro p e s m args below meth c A h
  unfold f_K_upIn
  refine x_iconst (nx := 1) (v := (0 : Int32)) h dK_upIn_0 (by decide) rfl ?_
  refine x_istore_n (nx := 2) (i := 2) (lv' := [(2, .int (0 : Int32)), (0, .ref (ad 3)), (1, .int a1)]) h dK_upIn_1 rfl (by decide) rfl rfl ?_
  refine x_iconst (nx := 3) (v := (0 : Int32)) h dK_upIn_2 (by decide) rfl ?_
  refine x_istore_n (nx := 4) (i := 3) (lv' := [(3, .int (0 : Int32)), (2, .int (0 : Int32)), (0, .ref (ad 3)), (1, .int a1)]) h dK_upIn_3 rfl (by decide) rfl rfl ?_
  exact x_sub [2, 3, 1, 0] rfl (j_K_upIn_4 h N N a1 (0 : Int32) (0 : Int32) S)
set_option maxHeartbeats 4000000 in
set_option maxRecDepth 100000 in
theorem m_B_readPort {l : Launch} {D : va_G} {ad : Nat → Nat} {ca : Nat → ClassId} (N : Nat) (a1 : Int32) (S : xSt) : xM l D clA (tysC ca) (cellsC ad ca) nW yB_readPort (Cond.code yB_readPort cB_readPort 3 (some .int) :: wA) rm_B_readPort true [.ref (ad 1), .int a1] S (f_B_readPort N a1 S) := by
  refine x_met (cc := cB_readPort) (maxL := 3) (ret := (some .int)) (by decide) rfl [.ref (ad 1), .int a1] (lv0 := [(0, .ref (ad 1)), (1, .int a1)]) (Nat.le_of_ble_eq_true rfl) rfl ?_
  intro p e s m args below meth c A h
  unfold f_B_readPort
  refine x_iload_n (nx := 1) (i := 1) h dB_readPort_0 rfl 1 rfl rfl ?_
  refine x_iconst (nx := 2) (v := (1 : Int32)) h dB_readPort_1 (by decide) rfl ?_
  refine x_iand (nx := 3) h dB_readPort_2 rfl ?_
  refine x_iconst (nx := 4) (v := (1 : Int32)) h dB_readPort_3 (by decide) rfl ?_
  refine x_icmp_ne (nx := 7) (tgt := 16) h dB_readPort_4 (by decide) rfl ?_ ?_
  · refine x_aload_n (nx := 17) (i := 0) h dB_readPort_16 rfl 0 rfl rfl ?_
    refine x_aload_n (nx := 18) (i := 0) h dB_readPort_17 rfl 0 rfl rfl ?_
    refine x_iconst (nx := 19) (v := (1 : Int32)) h dB_readPort_18 (by decide) rfl ?_
    refine x_cVi (nx := 22) (rest := [.ref (ad 1)]) (As := [.int (1 : Int32)]) h (m_B_delay N (1 : Int32) S) (x_wV h goA y_B_delay kB_41 ⟨by decide, by decide⟩ rfl rfl) (oC_1 ad ca) rfl rfl (Nat.le_of_ble_eq_true rfl) dB_readPort_19 rfl (fun v1 S2 => ?_)
    refine x_cVv (nx := 25) (rest := []) (As := [.int v1]) h (m_B_pass N v1 S2) (x_wV h goA y_B_pass kB_45 ⟨by decide, by decide⟩ rfl rfl) (oC_1 ad ca) rfl rfl (Nat.le_of_ble_eq_true rfl) dB_readPort_22 rfl (fun v3 S4 => ?_)
    refine x_aload_n (nx := 26) (i := 0) h dB_readPort_25 rfl 0 rfl rfl ?_
    refine x_get (nx := 29) h (gC_1_3 ad ca _) (List.mem_cons_of_mem _ kB_26) dB_readPort_26 rfl ?_
    refine x_aload_n (nx := 30) (i := 0) h dB_readPort_29 rfl 0 rfl rfl ?_
    refine x_get (nx := 33) h (gC_1_4 ad ca _) (List.mem_cons_of_mem _ kB_30) dB_readPort_30 rfl ?_
    refine x_cVv (nx := 36) (rest := []) (As := [.int (S4 1 4)]) h (m_T_follow N (S4 1 4) S4) (x_wV h goA y_T_follow kB_57 ⟨by decide, by decide⟩ rfl rfl) (oC_4 ad ca) rfl rfl (Nat.le_of_ble_eq_true rfl) dB_readPort_33 rfl (fun v5 S6 => ?_)
    refine x_sipush (nx := 39) (v := (160 : Int32)) h dB_readPort_36 (by decide) rfl ?_
    refine x_aload_n (nx := 40) (i := 0) h dB_readPort_39 rfl 0 rfl rfl ?_
    refine x_get (nx := 43) h (gC_1_3 ad ca _) (List.mem_cons_of_mem _ kB_26) dB_readPort_40 rfl ?_
    refine x_cVi (nx := 46) (rest := [.int (160 : Int32)]) (As := []) h (m_T_level N S6) (x_wV h goA y_T_level kB_60 ⟨by decide, by decide⟩ rfl rfl) (oC_4 ad ca) rfl rfl (Nat.le_of_ble_eq_true rfl) dB_readPort_43 rfl (fun v7 S8 => ?_)
    refine x_bipush (nx := 48) (v := (6 : Int32)) h dB_readPort_46 (by decide) rfl ?_
    refine x_ishl (nx := 49) h dB_readPort_48 rfl ?_
    refine x_ior (nx := 50) h dB_readPort_49 rfl ?_
    refine x_aload_n (nx := 51) (i := 0) h dB_readPort_50 rfl 0 rfl rfl ?_
    refine x_get (nx := 54) h (gC_1_2 ad ca _) (List.mem_cons_of_mem _ kB_19) dB_readPort_51 rfl ?_
    refine x_iload_n (nx := 55) (i := 1) h dB_readPort_54 rfl 1 rfl rfl ?_
    refine x_cVi (nx := 58) (rest := [.int ((160 : Int32) ||| (v7 <<< ((6 : Int32) &&& 31)))]) (As := [.int a1]) h (m_K_upIn N a1 S8) (x_wV h goA y_K_upIn kB_64 ⟨by decide, by decide⟩ rfl rfl) (oC_3 ad ca) rfl rfl (Nat.le_of_ble_eq_true rfl) dB_readPort_55 rfl (fun v9 S10 => ?_)
    refine x_ior (nx := 59) h dB_readPort_58 rfl ?_
    refine x_val (fun b11 => ?_)
    refine x_istore_n (nx := 60) (i := 2) (lv' := [(2, .int b11), (0, .ref (ad 1)), (1, .int a1)]) h dB_readPort_59 rfl (by decide) rfl rfl ?_
    refine x_aload_n (nx := 61) (i := 0) h dB_readPort_60 rfl 1 rfl rfl ?_
    refine x_iconst (nx := 62) (v := (4 : Int32)) h dB_readPort_61 (by decide) rfl ?_
    refine x_cVv (nx := 65) (rest := []) (As := [.int (4 : Int32)]) h (m_B_pass N (4 : Int32) S10) (x_wV h goA y_B_pass kB_45 ⟨by decide, by decide⟩ rfl rfl) (oC_1 ad ca) rfl rfl (Nat.le_of_ble_eq_true rfl) dB_readPort_62 rfl (fun v12 S13 => ?_)
    refine x_iload_n (nx := 66) (i := 2) h dB_readPort_65 rfl 0 rfl rfl ?_
    exact x_iret h dB_readPort_66
  · refine x_aload_n (nx := 8) (i := 0) h dB_readPort_7 rfl 0 rfl rfl ?_
    refine x_iconst (nx := 9) (v := (4 : Int32)) h dB_readPort_8 (by decide) rfl ?_
    refine x_cVv (nx := 12) (rest := []) (As := [.int (4 : Int32)]) h (m_B_pass N (4 : Int32) S) (x_wV h goA y_B_pass kB_45 ⟨by decide, by decide⟩ rfl rfl) (oC_1 ad ca) rfl rfl (Nat.le_of_ble_eq_true rfl) dB_readPort_9 rfl (fun v14 S15 => ?_)
    refine x_sipush (nx := 15) (v := (255 : Int32)) h dB_readPort_12 (by decide) rfl ?_
    exact x_iret h dB_readPort_15
set_option maxHeartbeats 4000000 in
set_option maxRecDepth 100000 in
theorem j_P_takeFromPort_40 {l : Launch} {D : va_G} {ad : Nat → Nat} {ca : Nat → ClassId} {p : Program} {e : Env} {s : State} {m : MethodId} {args : Array Value} {below : List Frame} {meth : Method} {c : Code} {A : Nat → Prop} (h : xC p s m args meth c cP_takeFromPort 3 (Cond.code yP_takeFromPort cP_takeFromPort 3 none :: wA) nW yP_takeFromPort.cls none D clA (tysC ca) A) (N : Nat) (S : xSt) : xJ p l e rm_P_takeFromPort s m args below meth c D clA (tysC ca) (cellsC ad ca) A false 3 40 [] [] S (f_P_takeFromPort_40 N S) := by
  unfold f_P_takeFromPort_40
  exact x_vret h dP_takeFromPort_40
set_option maxHeartbeats 4000000 in
set_option maxRecDepth 100000 in
theorem m_P_takeFromPort {l : Launch} {D : va_G} {ad : Nat → Nat} {ca : Nat → ClassId} (N : Nat) (a1 : Int32) (S : xSt) : xM l D clA (tysC ca) (cellsC ad ca) nW yP_takeFromPort (Cond.code yP_takeFromPort cP_takeFromPort 3 none :: wA) rm_P_takeFromPort false [.ref (ad 2), .int a1] S (f_P_takeFromPort N a1 S) := by
  refine x_met (cc := cP_takeFromPort) (maxL := 3) (ret := none) (by decide) rfl [.ref (ad 2), .int a1] (lv0 := [(0, .ref (ad 2)), (1, .int a1)]) (Nat.le_of_ble_eq_true rfl) rfl ?_
  intro p e s m args below meth c A h
  unfold f_P_takeFromPort
  refine x_aload_n (nx := 1) (i := 0) h dP_takeFromPort_0 rfl 0 rfl rfl ?_
  refine x_get (nx := 4) h (gC_2_0 ad ca _) (List.mem_cons_of_mem _ kP_21) dP_takeFromPort_1 rfl ?_
  refine x_aload_n (nx := 5) (i := 0) h dP_takeFromPort_4 rfl 0 rfl rfl ?_
  refine x_get (nx := 8) h (gC_2_1 ad ca _) (List.mem_cons_of_mem _ kP_10) dP_takeFromPort_5 rfl ?_
  refine x_iconst (nx := 9) (v := (2 : Int32)) h dP_takeFromPort_8 (by decide) rfl ?_
  refine x_cVi (nx := 12) (rest := [.ref (ad 1)]) (As := [.int (2 : Int32)]) h (m_G_joined N (2 : Int32) S) (x_wV h goA y_G_joined kP_211 ⟨by decide, by decide⟩ rfl rfl) (oC_5 ad ca) rfl rfl (Nat.le_of_ble_eq_true rfl) dP_takeFromPort_9 rfl (fun v1 S2 => ?_)
  refine x_cVi (nx := 15) (rest := []) (As := [.int v1]) h (m_B_readPort N v1 S2) (x_wV h goA y_B_readPort kP_217 ⟨by decide, by decide⟩ rfl rfl) (oC_1 ad ca) rfl rfl (Nat.le_of_ble_eq_true rfl) dP_takeFromPort_12 rfl (fun v3 S4 => ?_)
  refine x_istore_n (nx := 16) (i := 2) (lv' := [(2, .int v3), (0, .ref (ad 2)), (1, .int a1)]) h dP_takeFromPort_15 rfl (by decide) rfl rfl ?_
  refine x_aload_n (nx := 17) (i := 0) h dP_takeFromPort_16 rfl 1 rfl rfl ?_
  refine x_iconst (nx := 18) (v := (1 : Int32)) h dP_takeFromPort_17 (by decide) rfl ?_
  refine x_iload_n (nx := 19) (i := 2) h dP_takeFromPort_18 rfl 0 rfl rfl ?_
  refine x_cSi (nx := 22) (rest := [.int (1 : Int32), .ref (ad 2)]) (As := [.int v3]) h (m_A_byWithParity N v3 S4) (x_wS h goA y_A_byWithParity kP_252 ⟨by decide, by decide⟩ rfl rfl) rfl rfl (Nat.le_of_ble_eq_true rfl) dP_takeFromPort_19 rfl (fun v5 S6 => ?_)
  refine x_cVv (nx := 25) (rest := []) (As := [.int (1 : Int32), .int v5]) h (m_P_setFlags N (1 : Int32) v5 S6) (x_wV h goA y_P_setFlags kP_174 ⟨by decide, by decide⟩ rfl rfl) (oC_2 ad ca) rfl rfl (Nat.le_of_ble_eq_true rfl) dP_takeFromPort_22 rfl (fun v7 S8 => ?_)
  refine x_iload_n (nx := 26) (i := 1) h dP_takeFromPort_25 rfl 2 rfl rfl ?_
  refine x_bipush (nx := 28) (v := (6 : Int32)) h dP_takeFromPort_26 (by decide) rfl ?_
  refine x_icmp_eq (nx := 31) (tgt := 40) h dP_takeFromPort_28 (by decide) rfl ?_ ?_
  · exact x_sub [] rfl (j_P_takeFromPort_40 h N S8)
  · refine x_aload_n (nx := 32) (i := 0) h dP_takeFromPort_31 rfl 1 rfl rfl ?_
    refine x_get (nx := 35) h (gC_2_1 ad ca _) (List.mem_cons_of_mem _ kP_10) dP_takeFromPort_32 rfl ?_
    refine x_iload_n (nx := 36) (i := 1) h dP_takeFromPort_35 rfl 2 rfl rfl ?_
    refine x_iload_n (nx := 37) (i := 2) h dP_takeFromPort_36 rfl 0 rfl rfl ?_
    refine x_cVv (nx := 40) (rest := []) (As := [.int a1, .int v3]) h (m_G_setSingle N a1 v3 S8) (x_wV h goA y_G_setSingle kP_128 ⟨by decide, by decide⟩ rfl rfl) (oC_5 ad ca) rfl rfl (Nat.le_of_ble_eq_true rfl) dP_takeFromPort_37 rfl (fun v9 S10 => ?_)
    exact x_sub [] rfl (j_P_takeFromPort_40 h N S10)
set_option maxHeartbeats 4000000 in
set_option maxRecDepth 100000 in
theorem j_B_writePort_58 {l : Launch} {D : va_G} {ad : Nat → Nat} {ca : Nat → ClassId} {p : Program} {e : Env} {s : State} {m : MethodId} {args : Array Value} {below : List Frame} {meth : Method} {c : Code} {A : Nat → Prop} (h : xC p s m args meth c cB_writePort 4 (Cond.code yB_writePort cB_writePort 4 none :: wA) nW yB_writePort.cls none D clA (tysC ca) A) (N : Nat) (a3 : Int32) (S : xSt) : xJ p l e rm_B_writePort s m args below meth c D clA (tysC ca) (cellsC ad ca) A false 4 58 [(0, .ref (ad 1)), (3, .int a3)] [] S (f_B_writePort_58 N a3 S) := by
  unfold f_B_writePort_58
  refine x_aload_n (nx := 59) (i := 0) h dB_writePort_58 rfl 0 rfl rfl ?_
  refine x_iload_n (nx := 60) (i := 3) h dB_writePort_59 rfl 1 rfl rfl ?_
  refine x_put (nx := 63) h (pC_1_6 ad ca _) (List.mem_cons_of_mem _ kB_67) dB_writePort_60 rfl (fun S1 => ?_)
  refine x_aload_n (nx := 64) (i := 0) h dB_writePort_63 rfl 0 rfl rfl ?_
  refine x_iconst (nx := 65) (v := (1 : Int32)) h dB_writePort_64 (by decide) rfl ?_
  refine x_cVv (nx := 68) (rest := []) (As := [.int (1 : Int32)]) h (m_B_pass N (1 : Int32) S1) (x_wV h goA y_B_pass kB_45 ⟨by decide, by decide⟩ rfl rfl) (oC_1 ad ca) rfl rfl (Nat.le_of_ble_eq_true rfl) dB_writePort_65 rfl (fun v2 S3 => ?_)
  exact x_vret h dB_writePort_68
set_option maxHeartbeats 4000000 in
set_option maxRecDepth 100000 in
theorem m_B_writePort {l : Launch} {D : va_G} {ad : Nat → Nat} {ca : Nat → ClassId} (N : Nat) (a1 a2 : Int32) (S : xSt) : xM l D clA (tysC ca) (cellsC ad ca) nW yB_writePort (Cond.code yB_writePort cB_writePort 4 none :: wA) rm_B_writePort false [.ref (ad 1), .int a1, .int a2] S (f_B_writePort N a1 a2 S) := by
  refine x_met (cc := cB_writePort) (maxL := 4) (ret := none) (by decide) rfl [.ref (ad 1), .int a1, .int a2] (lv0 := [(0, .ref (ad 1)), (1, .int a1), (2, .int a2)]) (Nat.le_of_ble_eq_true rfl) rfl ?_
  intro p e s m args below meth c A h
  unfold f_B_writePort
  refine x_iload_n (nx := 1) (i := 1) h dB_writePort_0 rfl 1 rfl rfl ?_
  refine x_iconst (nx := 2) (v := (1 : Int32)) h dB_writePort_1 (by decide) rfl ?_
  refine x_iand (nx := 3) h dB_writePort_2 rfl ?_
  refine x_iconst (nx := 4) (v := (1 : Int32)) h dB_writePort_3 (by decide) rfl ?_
  refine x_icmp_ne (nx := 7) (tgt := 13) h dB_writePort_4 (by decide) rfl ?_ ?_
  · refine x_aload_n (nx := 14) (i := 0) h dB_writePort_13 rfl 0 rfl rfl ?_
    refine x_aload_n (nx := 15) (i := 0) h dB_writePort_14 rfl 0 rfl rfl ?_
    refine x_iconst (nx := 16) (v := (1 : Int32)) h dB_writePort_15 (by decide) rfl ?_
    refine x_cVi (nx := 19) (rest := [.ref (ad 1)]) (As := [.int (1 : Int32)]) h (m_B_delay N (1 : Int32) S) (x_wV h goA y_B_delay kB_41 ⟨by decide, by decide⟩ rfl rfl) (oC_1 ad ca) rfl rfl (Nat.le_of_ble_eq_true rfl) dB_writePort_16 rfl (fun v1 S2 => ?_)
    refine x_iconst (nx := 20) (v := (4 : Int32)) h dB_writePort_19 (by decide) rfl ?_
    refine x_iadd (nx := 21) h dB_writePort_20 rfl ?_
    refine x_iconst (nx := 22) (v := (1 : Int32)) h dB_writePort_21 (by decide) rfl ?_
    refine x_isub (nx := 23) h dB_writePort_22 rfl ?_
    refine x_cVv (nx := 26) (rest := []) (As := [.int ((v1 + (4 : Int32)) - (1 : Int32))]) h (m_B_pass N ((v1 + (4 : Int32)) - (1 : Int32)) S2) (x_wV h goA y_B_pass kB_45 ⟨by decide, by decide⟩ rfl rfl) (oC_1 ad ca) rfl rfl (Nat.le_of_ble_eq_true rfl) dB_writePort_23 rfl (fun v3 S4 => ?_)
    refine x_aload_n (nx := 27) (i := 0) h dB_writePort_26 rfl 0 rfl rfl ?_
    refine x_iload_n (nx := 28) (i := 2) h dB_writePort_27 rfl 2 rfl rfl ?_
    refine x_bipush (nx := 30) (v := (7 : Int32)) h dB_writePort_28 (by decide) rfl ?_
    refine x_iand (nx := 31) h dB_writePort_30 rfl ?_
    refine x_put (nx := 34) h (pC_1_5 ad ca _) (List.mem_cons_of_mem _ kB_34) dB_writePort_31 rfl (fun S5 => ?_)
    refine x_iload_n (nx := 35) (i := 2) h dB_writePort_34 rfl 2 rfl rfl ?_
    refine x_iconst (nx := 36) (v := (4 : Int32)) h dB_writePort_35 (by decide) rfl ?_
    refine x_ishr (nx := 37) h dB_writePort_36 rfl ?_
    refine x_iconst (nx := 38) (v := (1 : Int32)) h dB_writePort_37 (by decide) rfl ?_
    refine x_iand (nx := 39) h dB_writePort_38 rfl ?_
    refine x_val (fun b6 => ?_)
    refine x_istore_n (nx := 40) (i := 3) (lv' := [(3, .int b6), (0, .ref (ad 1)), (1, .int a1), (2, .int a2)]) h dB_writePort_39 rfl (by decide) rfl rfl ?_
    refine x_iload_n (nx := 41) (i := 3) h dB_writePort_40 rfl 0 rfl rfl ?_
    refine x_aload_n (nx := 42) (i := 0) h dB_writePort_41 rfl 1 rfl rfl ?_
    refine x_get (nx := 45) h (gC_1_6 ad ca _) (List.mem_cons_of_mem _ kB_67) dB_writePort_42 rfl ?_
    refine x_icmp_eq (nx := 48) (tgt := 58) h dB_writePort_45 (by decide) rfl ?_ ?_
    · exact x_sub [1, 0] rfl (j_B_writePort_58 h N b6 S5)
    · refine x_aload_n (nx := 49) (i := 0) h dB_writePort_48 rfl 1 rfl rfl ?_
      refine x_dup (nx := 50) h dB_writePort_49 rfl rfl ?_
      refine x_get (nx := 53) h (gC_1_7 ad ca _) (List.mem_cons_of_mem _ kB_70) dB_writePort_50 rfl ?_
      refine x_iconst (nx := 54) (v := (1 : Int32)) h dB_writePort_53 (by decide) rfl ?_
      refine x_iadd (nx := 55) h dB_writePort_54 rfl ?_
      refine x_put (nx := 58) h (pC_1_7 ad ca _) (List.mem_cons_of_mem _ kB_70) dB_writePort_55 rfl (fun S7 => ?_)
      exact x_sub [1, 0] rfl (j_B_writePort_58 h N b6 S7)
  · refine x_aload_n (nx := 8) (i := 0) h dB_writePort_7 rfl 0 rfl rfl ?_
    refine x_iconst (nx := 9) (v := (4 : Int32)) h dB_writePort_8 (by decide) rfl ?_
    refine x_cVv (nx := 12) (rest := []) (As := [.int (4 : Int32)]) h (m_B_pass N (4 : Int32) S) (x_wV h goA y_B_pass kB_45 ⟨by decide, by decide⟩ rfl rfl) (oC_1 ad ca) rfl rfl (Nat.le_of_ble_eq_true rfl) dB_writePort_9 rfl (fun v8 S9 => ?_)
    exact x_vret h dB_writePort_12
set_option maxHeartbeats 4000000 in
set_option maxRecDepth 100000 in
theorem j_G_pair_34 {l : Launch} {D : va_G} {ad : Nat → Nat} {ca : Nat → ClassId} {p : Program} {e : Env} {s : State} {m : MethodId} {args : Array Value} {below : List Frame} {meth : Method} {c : Code} {A : Nat → Prop} (h : xC p s m args meth c cG_pair 2 (Cond.code yG_pair cG_pair 2 (some .int) :: wA) nW yG_pair.cls (some .int) D clA (tysC ca) A) (N : Nat) (w0 : Int32) (S : xSt) : xJ p l e rm_G_pair s m args below meth c D clA (tysC ca) (cellsC ad ca) A true 2 34 [] [.int w0] S (f_G_pair_34 N w0 S) := by
  unfold f_G_pair_34
  exact x_iret h dG_pair_34
set_option maxHeartbeats 4000000 in
set_option maxRecDepth 100000 in
theorem m_G_pair {l : Launch} {D : va_G} {ad : Nat → Nat} {ca : Nat → ClassId} (N : Nat) (a1 : Int32) (S : xSt) : xM l D clA (tysC ca) (cellsC ad ca) nW yG_pair (Cond.code yG_pair cG_pair 2 (some .int) :: wA) rm_G_pair true [.ref (ad 5), .int a1] S (f_G_pair N a1 S) := by
  refine x_met (cc := cG_pair) (maxL := 2) (ret := (some .int)) (by decide) rfl [.ref (ad 5), .int a1] (lv0 := [(0, .ref (ad 5)), (1, .int a1)]) (Nat.le_of_ble_eq_true rfl) rfl ?_
  intro p e s m args below meth c A h
  unfold f_G_pair
  refine x_iload_n (nx := 1) (i := 1) h dG_pair_0 rfl 1 rfl rfl ?_
  refine x_iconst (nx := 2) (v := (3 : Int32)) h dG_pair_1 (by decide) rfl ?_
  refine x_icmp_ne (nx := 5) (tgt := 13) h dG_pair_2 (by decide) rfl ?_ ?_
  · refine x_iload_n (nx := 14) (i := 1) h dG_pair_13 rfl 1 rfl rfl ?_
    refine x_iconst (nx := 15) (v := (2 : Int32)) h dG_pair_14 (by decide) rfl ?_
    refine x_icmp_ne (nx := 18) (tgt := 25) h dG_pair_15 (by decide) rfl ?_ ?_
    · refine x_aload_n (nx := 26) (i := 0) h dG_pair_25 rfl 0 rfl rfl ?_
      refine x_iconst (nx := 27) (v := (2 : Int32)) h dG_pair_26 (by decide) rfl ?_
      refine x_iconst (nx := 28) (v := (2 : Int32)) h dG_pair_27 (by decide) rfl ?_
      refine x_iload_n (nx := 29) (i := 1) h dG_pair_28 rfl 1 rfl rfl ?_
      refine x_imul (nx := 30) h dG_pair_29 rfl ?_
      refine x_iadd (nx := 31) h dG_pair_30 rfl ?_
      refine x_cVi (nx := 34) (rest := []) (As := [.int ((2 : Int32) + ((2 : Int32) * a1))]) h (m_G_joined N ((2 : Int32) + ((2 : Int32) * a1)) S) (x_wV h goA y_G_joined kG_22 ⟨by decide, by decide⟩ rfl rfl) (oC_5 ad ca) rfl rfl (Nat.le_of_ble_eq_true rfl) dG_pair_31 rfl (fun v1 S2 => ?_)
      exact x_sub [] rfl (j_G_pair_34 h N v1 S2)
    · refine x_aload_n (nx := 19) (i := 0) h dG_pair_18 rfl 0 rfl rfl ?_
      refine x_cVi (nx := 22) (rest := []) (As := []) h (m_G_hl N S) (x_wV h goA y_G_hl kG_29 ⟨by decide, by decide⟩ rfl rfl) (oC_5 ad ca) rfl rfl (Nat.le_of_ble_eq_true rfl) dG_pair_19 rfl (fun v3 S4 => ?_)
      refine x_goto (tgt := 34) h dG_pair_22 (by decide) ?_
      exact x_sub [] rfl (j_G_pair_34 h N v3 S4)
  · refine x_aload_n (nx := 6) (i := 0) h dG_pair_5 rfl 0 rfl rfl ?_
    refine x_get (nx := 9) h (gC_5_0 ad ca _) (List.mem_cons_of_mem _ kG_9) dG_pair_6 rfl ?_
    refine x_bipush (nx := 11) (v := (20 : Int32)) h dG_pair_9 (by decide) rfl ?_
    refine x_iald (nx := 12) h (aC_10 ad ca) dG_pair_11 rfl (fun v5 => ?_)
    exact x_iret h dG_pair_12
set_option maxHeartbeats 4000000 in
set_option maxRecDepth 100000 in
theorem j_A_byWide_21 {l : Launch} {D : va_G} {ad : Nat → Nat} {ca : Nat → ClassId} {p : Program} {e : Env} {s : State} {m : MethodId} {args : Array Value} {below : List Frame} {meth : Method} {c : Code} {A : Nat → Prop} (h : xC p s m args meth c cA_byWide 1 (Cond.code yA_byWide cA_byWide 1 (some .int) :: wA) nW yA_byWide.cls (some .int) D clA (tysC ca) A) (N : Nat) (w0 w1 : Int32) (S : xSt) : xJ p l e rm_A_byWide s m args below meth c D clA (tysC ca) (cellsC ad ca) A true 1 21 [] [.int w1, .int w0] S (f_A_byWide_21 N w0 w1 S) := by
  unfold f_A_byWide_21
  refine x_ior (nx := 22) h dA_byWide_21 rfl ?_
  exact x_iret h dA_byWide_22
set_option maxHeartbeats 4000000 in
set_option maxRecDepth 100000 in
theorem m_A_byWide {l : Launch} {D : va_G} {ad : Nat → Nat} {ca : Nat → ClassId} (N : Nat) (a0 : Int32) (S : xSt) : xM l D clA (tysC ca) (cellsC ad ca) nW yA_byWide (Cond.code yA_byWide cA_byWide 1 (some .int) :: wA) rm_A_byWide true [.int a0] S (f_A_byWide N a0 S) := by
  refine x_met (cc := cA_byWide) (maxL := 1) (ret := (some .int)) (by decide) rfl [.int a0] (lv0 := [(0, .int a0)]) (Nat.le_of_ble_eq_true rfl) rfl ?_
  intro p e s m args below meth c A h
  unfold f_A_byWide
  refine x_iload_n (nx := 1) (i := 0) h dA_byWide_0 rfl 0 rfl rfl ?_
  refine x_bipush (nx := 3) (v := (8 : Int32)) h dA_byWide_1 (by decide) rfl ?_
  refine x_ishr (nx := 4) h dA_byWide_3 rfl ?_
  refine x_sipush (nx := 7) (v := (168 : Int32)) h dA_byWide_4 (by decide) rfl ?_
  refine x_iand (nx := 8) h dA_byWide_7 rfl ?_
  refine x_iload_n (nx := 9) (i := 0) h dA_byWide_8 rfl 0 rfl rfl ?_
  refine x_ldc (nx := 11) (v := (65535 : Int32)) h (List.mem_cons_of_mem _ kA_29) dA_byWide_9 rfl ?_
  refine x_iand (nx := 12) h dA_byWide_11 rfl ?_
  refine x_if_ne (nx := 15) (tgt := 20) h dA_byWide_12 (by decide) rfl ?_ ?_
  · refine x_iconst (nx := 21) (v := (0 : Int32)) h dA_byWide_20 (by decide) rfl ?_
    exact x_sub [] rfl (j_A_byWide_21 h N ((a0 >>> ((8 : Int32) &&& 31)) &&& (168 : Int32)) (0 : Int32) S)
  · refine x_bipush (nx := 17) (v := (64 : Int32)) h dA_byWide_15 (by decide) rfl ?_
    refine x_goto (tgt := 21) h dA_byWide_17 (by decide) ?_
    exact x_sub [] rfl (j_A_byWide_21 h N ((a0 >>> ((8 : Int32) &&& 31)) &&& (168 : Int32)) (64 : Int32) S)
set_option maxHeartbeats 4000000 in
set_option maxRecDepth 100000 in
theorem m_A_plusWide {l : Launch} {D : va_G} {ad : Nat → Nat} {ca : Nat → ClassId} (N : Nat) (a0 a1 a2 : Int32) (S : xSt) : xM l D clA (tysC ca) (cellsC ad ca) nW yA_plusWide (Cond.code yA_plusWide cA_plusWide 6 (some .int) :: wA) rm_A_plusWide true [.int a0, .int a1, .int a2] S (f_A_plusWide N a0 a1 a2 S) := by
  refine x_met (cc := cA_plusWide) (maxL := 6) (ret := (some .int)) (by decide) rfl [.int a0, .int a1, .int a2] (lv0 := [(0, .int a0), (1, .int a1), (2, .int a2)]) (Nat.le_of_ble_eq_true rfl) rfl ?_
  intro p e s m args below meth c A h
  unfold f_A_plusWide
  refine x_iload_n (nx := 1) (i := 0) h dA_plusWide_0 rfl 0 rfl rfl ?_
  refine x_iload_n (nx := 2) (i := 1) h dA_plusWide_1 rfl 1 rfl rfl ?_
  refine x_iadd (nx := 3) h dA_plusWide_2 rfl ?_
  refine x_iload_n (nx := 4) (i := 2) h dA_plusWide_3 rfl 2 rfl rfl ?_
  refine x_iadd (nx := 5) h dA_plusWide_4 rfl ?_
  refine x_val (fun b1 => ?_)
  refine x_istore_n (nx := 6) (i := 3) (lv' := [(3, .int b1), (0, .int a0), (1, .int a1), (2, .int a2)]) h dA_plusWide_5 rfl (by decide) rfl rfl ?_
  refine x_iload_n (nx := 7) (i := 0) h dA_plusWide_6 rfl 1 rfl rfl ?_
  refine x_iload_n (nx := 8) (i := 3) h dA_plusWide_7 rfl 0 rfl rfl ?_
  refine x_ixor (nx := 9) h dA_plusWide_8 rfl ?_
  refine x_iload_n (nx := 10) (i := 1) h dA_plusWide_9 rfl 2 rfl rfl ?_
  refine x_iload_n (nx := 11) (i := 3) h dA_plusWide_10 rfl 0 rfl rfl ?_
  refine x_ixor (nx := 12) h dA_plusWide_11 rfl ?_
  refine x_iand (nx := 13) h dA_plusWide_12 rfl ?_
  refine x_ldc (nx := 15) (v := (32768 : Int32)) h (List.mem_cons_of_mem _ kA_25) dA_plusWide_13 rfl ?_
  refine x_iand (nx := 16) h dA_plusWide_15 rfl ?_
  refine x_val (fun b2 => ?_)
  refine x_istore (nx := 18) (i := 4) (lv' := [(4, .int b2), (3, .int b1), (0, .int a0), (1, .int a1), (2, .int a2)]) h dA_plusWide_16 (by decide) rfl rfl ?_
  refine x_iload_n (nx := 19) (i := 3) h dA_plusWide_18 rfl 1 rfl rfl ?_
  refine x_cSi (nx := 22) (rest := []) (As := [.int b1]) h (m_A_byWide N b1 S) (x_wS h goA y_A_byWide kA_26 ⟨by decide, by decide⟩ rfl rfl) rfl rfl (Nat.le_of_ble_eq_true rfl) dA_plusWide_19 rfl (fun v3 S4 => ?_)
  refine x_iload_n (nx := 23) (i := 0) h dA_plusWide_22 rfl 2 rfl rfl ?_
  refine x_iload_n (nx := 24) (i := 1) h dA_plusWide_23 rfl 3 rfl rfl ?_
  refine x_ixor (nx := 25) h dA_plusWide_24 rfl ?_
  refine x_iload_n (nx := 26) (i := 3) h dA_plusWide_25 rfl 1 rfl rfl ?_
  refine x_ixor (nx := 27) h dA_plusWide_26 rfl ?_
  refine x_bipush (nx := 29) (v := (8 : Int32)) h dA_plusWide_27 (by decide) rfl ?_
  refine x_ishr (nx := 30) h dA_plusWide_29 rfl ?_
  refine x_bipush (nx := 32) (v := (16 : Int32)) h dA_plusWide_30 (by decide) rfl ?_
  refine x_iand (nx := 33) h dA_plusWide_32 rfl ?_
  refine x_ior (nx := 34) h dA_plusWide_33 rfl ?_
  refine x_iload (nx := 36) (i := 4) h dA_plusWide_34 0 rfl rfl ?_
  refine x_bipush (nx := 38) (v := (13 : Int32)) h dA_plusWide_36 (by decide) rfl ?_
  refine x_ishr (nx := 39) h dA_plusWide_38 rfl ?_
  refine x_ior (nx := 40) h dA_plusWide_39 rfl ?_
  refine x_iload_n (nx := 41) (i := 3) h dA_plusWide_40 rfl 1 rfl rfl ?_
  refine x_bipush (nx := 43) (v := (16 : Int32)) h dA_plusWide_41 (by decide) rfl ?_
  refine x_ishr (nx := 44) h dA_plusWide_43 rfl ?_
  refine x_iconst (nx := 45) (v := (1 : Int32)) h dA_plusWide_44 (by decide) rfl ?_
  refine x_iand (nx := 46) h dA_plusWide_45 rfl ?_
  refine x_ior (nx := 47) h dA_plusWide_46 rfl ?_
  refine x_val (fun b5 => ?_)
  refine x_istore (nx := 49) (i := 5) (lv' := [(5, .int b5), (4, .int b2), (3, .int b1), (0, .int a0), (1, .int a1), (2, .int a2)]) h dA_plusWide_47 (by decide) rfl rfl ?_
  refine x_iload_n (nx := 50) (i := 3) h dA_plusWide_49 rfl 2 rfl rfl ?_
  refine x_ldc (nx := 52) (v := (65535 : Int32)) h (List.mem_cons_of_mem _ kA_29) dA_plusWide_50 rfl ?_
  refine x_iand (nx := 53) h dA_plusWide_52 rfl ?_
  refine x_bipush (nx := 55) (v := (8 : Int32)) h dA_plusWide_53 (by decide) rfl ?_
  refine x_ishl (nx := 56) h dA_plusWide_55 rfl ?_
  refine x_iload (nx := 58) (i := 5) h dA_plusWide_56 0 rfl rfl ?_
  refine x_ior (nx := 59) h dA_plusWide_58 rfl ?_
  exact x_iret h dA_plusWide_59
set_option maxHeartbeats 4000000 in
set_option maxRecDepth 100000 in
theorem m_A_minusWide {l : Launch} {D : va_G} {ad : Nat → Nat} {ca : Nat → ClassId} (N : Nat) (a0 a1 a2 : Int32) (S : xSt) : xM l D clA (tysC ca) (cellsC ad ca) nW yA_minusWide (Cond.code yA_minusWide cA_minusWide 6 (some .int) :: wA) rm_A_minusWide true [.int a0, .int a1, .int a2] S (f_A_minusWide N a0 a1 a2 S) := by
  refine x_met (cc := cA_minusWide) (maxL := 6) (ret := (some .int)) (by decide) rfl [.int a0, .int a1, .int a2] (lv0 := [(0, .int a0), (1, .int a1), (2, .int a2)]) (Nat.le_of_ble_eq_true rfl) rfl ?_
  intro p e s m args below meth c A h
  unfold f_A_minusWide
  refine x_iload_n (nx := 1) (i := 0) h dA_minusWide_0 rfl 0 rfl rfl ?_
  refine x_iload_n (nx := 2) (i := 1) h dA_minusWide_1 rfl 1 rfl rfl ?_
  refine x_isub (nx := 3) h dA_minusWide_2 rfl ?_
  refine x_iload_n (nx := 4) (i := 2) h dA_minusWide_3 rfl 2 rfl rfl ?_
  refine x_isub (nx := 5) h dA_minusWide_4 rfl ?_
  refine x_val (fun b1 => ?_)
  refine x_istore_n (nx := 6) (i := 3) (lv' := [(3, .int b1), (0, .int a0), (1, .int a1), (2, .int a2)]) h dA_minusWide_5 rfl (by decide) rfl rfl ?_
  refine x_iload_n (nx := 7) (i := 0) h dA_minusWide_6 rfl 1 rfl rfl ?_
  refine x_iload_n (nx := 8) (i := 1) h dA_minusWide_7 rfl 2 rfl rfl ?_
  refine x_ixor (nx := 9) h dA_minusWide_8 rfl ?_
  refine x_iload_n (nx := 10) (i := 0) h dA_minusWide_9 rfl 1 rfl rfl ?_
  refine x_iload_n (nx := 11) (i := 3) h dA_minusWide_10 rfl 0 rfl rfl ?_
  refine x_ixor (nx := 12) h dA_minusWide_11 rfl ?_
  refine x_iand (nx := 13) h dA_minusWide_12 rfl ?_
  refine x_ldc (nx := 15) (v := (32768 : Int32)) h (List.mem_cons_of_mem _ kA_25) dA_minusWide_13 rfl ?_
  refine x_iand (nx := 16) h dA_minusWide_15 rfl ?_
  refine x_val (fun b2 => ?_)
  refine x_istore (nx := 18) (i := 4) (lv' := [(4, .int b2), (3, .int b1), (0, .int a0), (1, .int a1), (2, .int a2)]) h dA_minusWide_16 (by decide) rfl rfl ?_
  refine x_iload_n (nx := 19) (i := 3) h dA_minusWide_18 rfl 1 rfl rfl ?_
  refine x_cSi (nx := 22) (rest := []) (As := [.int b1]) h (m_A_byWide N b1 S) (x_wS h goA y_A_byWide kA_26 ⟨by decide, by decide⟩ rfl rfl) rfl rfl (Nat.le_of_ble_eq_true rfl) dA_minusWide_19 rfl (fun v3 S4 => ?_)
  refine x_iload_n (nx := 23) (i := 0) h dA_minusWide_22 rfl 2 rfl rfl ?_
  refine x_iload_n (nx := 24) (i := 1) h dA_minusWide_23 rfl 3 rfl rfl ?_
  refine x_ixor (nx := 25) h dA_minusWide_24 rfl ?_
  refine x_iload_n (nx := 26) (i := 3) h dA_minusWide_25 rfl 1 rfl rfl ?_
  refine x_ixor (nx := 27) h dA_minusWide_26 rfl ?_
  refine x_bipush (nx := 29) (v := (8 : Int32)) h dA_minusWide_27 (by decide) rfl ?_
  refine x_ishr (nx := 30) h dA_minusWide_29 rfl ?_
  refine x_bipush (nx := 32) (v := (16 : Int32)) h dA_minusWide_30 (by decide) rfl ?_
  refine x_iand (nx := 33) h dA_minusWide_32 rfl ?_
  refine x_ior (nx := 34) h dA_minusWide_33 rfl ?_
  refine x_iload (nx := 36) (i := 4) h dA_minusWide_34 0 rfl rfl ?_
  refine x_bipush (nx := 38) (v := (13 : Int32)) h dA_minusWide_36 (by decide) rfl ?_
  refine x_ishr (nx := 39) h dA_minusWide_38 rfl ?_
  refine x_ior (nx := 40) h dA_minusWide_39 rfl ?_
  refine x_iconst (nx := 41) (v := (2 : Int32)) h dA_minusWide_40 (by decide) rfl ?_
  refine x_ior (nx := 42) h dA_minusWide_41 rfl ?_
  refine x_iload_n (nx := 43) (i := 3) h dA_minusWide_42 rfl 1 rfl rfl ?_
  refine x_bipush (nx := 45) (v := (16 : Int32)) h dA_minusWide_43 (by decide) rfl ?_
  refine x_ishr (nx := 46) h dA_minusWide_45 rfl ?_
  refine x_iconst (nx := 47) (v := (1 : Int32)) h dA_minusWide_46 (by decide) rfl ?_
  refine x_iand (nx := 48) h dA_minusWide_47 rfl ?_
  refine x_ior (nx := 49) h dA_minusWide_48 rfl ?_
  refine x_val (fun b5 => ?_)
  refine x_istore (nx := 51) (i := 5) (lv' := [(5, .int b5), (4, .int b2), (3, .int b1), (0, .int a0), (1, .int a1), (2, .int a2)]) h dA_minusWide_49 (by decide) rfl rfl ?_
  refine x_iload_n (nx := 52) (i := 3) h dA_minusWide_51 rfl 2 rfl rfl ?_
  refine x_ldc (nx := 54) (v := (65535 : Int32)) h (List.mem_cons_of_mem _ kA_29) dA_minusWide_52 rfl ?_
  refine x_iand (nx := 55) h dA_minusWide_54 rfl ?_
  refine x_bipush (nx := 57) (v := (8 : Int32)) h dA_minusWide_55 (by decide) rfl ?_
  refine x_ishl (nx := 58) h dA_minusWide_57 rfl ?_
  refine x_iload (nx := 60) (i := 5) h dA_minusWide_58 0 rfl rfl ?_
  refine x_ior (nx := 61) h dA_minusWide_60 rfl ?_
  exact x_iret h dA_minusWide_61
set_option maxHeartbeats 4000000 in
set_option maxRecDepth 100000 in
theorem j_P_sumWithCarry_51 {l : Launch} {D : va_G} {ad : Nat → Nat} {ca : Nat → ClassId} {p : Program} {e : Env} {s : State} {m : MethodId} {args : Array Value} {below : List Frame} {meth : Method} {c : Code} {A : Nat → Prop} (h : xC p s m args meth c cP_sumWithCarry 4 (Cond.code yP_sumWithCarry cP_sumWithCarry 4 none :: wA) nW yP_sumWithCarry.cls none D clA (tysC ca) A) (N : Nat) (w0 : Int32) (S : xSt) : xJ p l e rm_P_sumWithCarry s m args below meth c D clA (tysC ca) (cellsC ad ca) A false 4 51 [(0, .ref (ad 2))] [.int w0] S (f_P_sumWithCarry_51 N w0 S) := by
  unfold f_P_sumWithCarry_51
  refine x_istore_n (nx := 52) (i := 3) (lv' := [(3, .int w0), (0, .ref (ad 2))]) h dP_sumWithCarry_51 rfl (by decide) rfl rfl ?_
  refine x_aload_n (nx := 53) (i := 0) h dP_sumWithCarry_52 rfl 1 rfl rfl ?_
  refine x_get (nx := 56) h (gC_2_2 ad ca _) (List.mem_cons_of_mem _ kP_20) dP_sumWithCarry_53 rfl ?_
  refine x_iconst (nx := 57) (v := (1 : Int32)) h dP_sumWithCarry_56 (by decide) rfl ?_
  refine x_iload_n (nx := 58) (i := 3) h dP_sumWithCarry_57 rfl 0 rfl rfl ?_
  refine x_sipush (nx := 61) (v := (255 : Int32)) h dP_sumWithCarry_58 (by decide) rfl ?_
  refine x_iand (nx := 62) h dP_sumWithCarry_61 rfl ?_
  refine x_iast (nx := 63) h (aC_10 ad ca) dP_sumWithCarry_62 rfl (fun S1 => ?_)
  refine x_aload_n (nx := 64) (i := 0) h dP_sumWithCarry_63 rfl 1 rfl rfl ?_
  refine x_get (nx := 67) h (gC_2_1 ad ca _) (List.mem_cons_of_mem _ kP_10) dP_sumWithCarry_64 rfl ?_
  refine x_iload_n (nx := 68) (i := 3) h dP_sumWithCarry_67 rfl 0 rfl rfl ?_
  refine x_bipush (nx := 70) (v := (8 : Int32)) h dP_sumWithCarry_68 (by decide) rfl ?_
  refine x_ishr (nx := 71) h dP_sumWithCarry_70 rfl ?_
  refine x_cVv (nx := 74) (rest := []) (As := [.int (w0 >>> ((8 : Int32) &&& 31))]) h (m_G_setHl N (w0 >>> ((8 : Int32) &&& 31)) S1) (x_wV h goA y_G_setHl kP_171 ⟨by decide, by decide⟩ rfl rfl) (oC_5 ad ca) rfl rfl (Nat.le_of_ble_eq_true rfl) dP_sumWithCarry_71 rfl (fun v2 S3 => ?_)
  exact x_vret h dP_sumWithCarry_74
set_option maxHeartbeats 4000000 in
set_option maxRecDepth 100000 in
theorem m_P_sumWithCarry {l : Launch} {D : va_G} {ad : Nat → Nat} {ca : Nat → ClassId} (N : Nat) (a1 : Int32) (S : xSt) : xM l D clA (tysC ca) (cellsC ad ca) nW yP_sumWithCarry (Cond.code yP_sumWithCarry cP_sumWithCarry 4 none :: wA) rm_P_sumWithCarry false [.ref (ad 2), .int a1] S (f_P_sumWithCarry N a1 S) := by
  refine x_met (cc := cP_sumWithCarry) (maxL := 4) (ret := none) (by decide) rfl [.ref (ad 2), .int a1] (lv0 := [(0, .ref (ad 2)), (1, .int a1)]) (Nat.le_of_ble_eq_true rfl) rfl ?_
  intro p e s m args below meth c A h
  unfold f_P_sumWithCarry
  refine x_aload_n (nx := 1) (i := 0) h dP_sumWithCarry_0 rfl 0 rfl rfl ?_
  refine x_get (nx := 4) h (gC_2_1 ad ca _) (List.mem_cons_of_mem _ kP_10) dP_sumWithCarry_1 rfl ?_
  refine x_iload_n (nx := 5) (i := 1) h dP_sumWithCarry_4 rfl 1 rfl rfl ?_
  refine x_iconst (nx := 6) (v := (1 : Int32)) h dP_sumWithCarry_5 (by decide) rfl ?_
  refine x_ishr (nx := 7) h dP_sumWithCarry_6 rfl ?_
  refine x_cVi (nx := 10) (rest := []) (As := [.int (a1 >>> ((1 : Int32) &&& 31))]) h (m_G_pair N (a1 >>> ((1 : Int32) &&& 31)) S) (x_wV h goA y_G_pair kP_151 ⟨by decide, by decide⟩ rfl rfl) (oC_5 ad ca) rfl rfl (Nat.le_of_ble_eq_true rfl) dP_sumWithCarry_7 rfl (fun v1 S2 => ?_)
  refine x_istore_n (nx := 11) (i := 2) (lv' := [(2, .int v1), (0, .ref (ad 2)), (1, .int a1)]) h dP_sumWithCarry_10 rfl (by decide) rfl rfl ?_
  refine x_iload_n (nx := 12) (i := 1) h dP_sumWithCarry_11 rfl 2 rfl rfl ?_
  refine x_iconst (nx := 13) (v := (1 : Int32)) h dP_sumWithCarry_12 (by decide) rfl ?_
  refine x_iand (nx := 14) h dP_sumWithCarry_13 rfl ?_
  refine x_iconst (nx := 15) (v := (1 : Int32)) h dP_sumWithCarry_14 (by decide) rfl ?_
  refine x_icmp_ne (nx := 18) (tgt := 36) h dP_sumWithCarry_15 (by decide) rfl ?_ ?_
  · refine x_aload_n (nx := 37) (i := 0) h dP_sumWithCarry_36 rfl 1 rfl rfl ?_
    refine x_get (nx := 40) h (gC_2_1 ad ca _) (List.mem_cons_of_mem _ kP_10) dP_sumWithCarry_37 rfl ?_
    refine x_cVi (nx := 43) (rest := []) (As := []) h (m_G_hl N S2) (x_wV h goA y_G_hl kP_109 ⟨by decide, by decide⟩ rfl rfl) (oC_5 ad ca) rfl rfl (Nat.le_of_ble_eq_true rfl) dP_sumWithCarry_40 rfl (fun v3 S4 => ?_)
    refine x_iload_n (nx := 44) (i := 2) h dP_sumWithCarry_43 rfl 0 rfl rfl ?_
    refine x_aload_n (nx := 45) (i := 0) h dP_sumWithCarry_44 rfl 1 rfl rfl ?_
    refine x_cVi (nx := 48) (rest := [.int v1, .int v3]) (As := []) h (m_P_carry N S4) (x_wV h goA y_P_carry kP_193 ⟨by decide, by decide⟩ rfl rfl) (oC_2 ad ca) rfl rfl (Nat.le_of_ble_eq_true rfl) dP_sumWithCarry_45 rfl (fun v5 S6 => ?_)
    refine x_cSi (nx := 51) (rest := []) (As := [.int v3, .int v1, .int v5]) h (m_A_minusWide N v3 v1 v5 S6) (x_wS h goA y_A_minusWide kP_255 ⟨by decide, by decide⟩ rfl rfl) rfl rfl (Nat.le_of_ble_eq_true rfl) dP_sumWithCarry_48 rfl (fun v7 S8 => ?_)
    exact x_sub [1] rfl (j_P_sumWithCarry_51 h N v7 S8)
  · refine x_aload_n (nx := 19) (i := 0) h dP_sumWithCarry_18 rfl 1 rfl rfl ?_
    refine x_get (nx := 22) h (gC_2_1 ad ca _) (List.mem_cons_of_mem _ kP_10) dP_sumWithCarry_19 rfl ?_
    refine x_cVi (nx := 25) (rest := []) (As := []) h (m_G_hl N S2) (x_wV h goA y_G_hl kP_109 ⟨by decide, by decide⟩ rfl rfl) (oC_5 ad ca) rfl rfl (Nat.le_of_ble_eq_true rfl) dP_sumWithCarry_22 rfl (fun v9 S10 => ?_)
    refine x_iload_n (nx := 26) (i := 2) h dP_sumWithCarry_25 rfl 0 rfl rfl ?_
    refine x_aload_n (nx := 27) (i := 0) h dP_sumWithCarry_26 rfl 1 rfl rfl ?_
    refine x_cVi (nx := 30) (rest := [.int v1, .int v9]) (As := []) h (m_P_carry N S10) (x_wV h goA y_P_carry kP_193 ⟨by decide, by decide⟩ rfl rfl) (oC_2 ad ca) rfl rfl (Nat.le_of_ble_eq_true rfl) dP_sumWithCarry_27 rfl (fun v11 S12 => ?_)
    refine x_cSi (nx := 33) (rest := []) (As := [.int v9, .int v1, .int v11]) h (m_A_plusWide N v9 v1 v11 S12) (x_wS h goA y_A_plusWide kP_167 ⟨by decide, by decide⟩ rfl rfl) rfl rfl (Nat.le_of_ble_eq_true rfl) dP_sumWithCarry_30 rfl (fun v13 S14 => ?_)
    refine x_goto (tgt := 51) h dP_sumWithCarry_33 (by decide) ?_
    exact x_sub [1] rfl (j_P_sumWithCarry_51 h N v13 S14)
set_option maxHeartbeats 4000000 in
set_option maxRecDepth 100000 in
theorem m_P_nextWord {l : Launch} {D : va_G} {ad : Nat → Nat} {ca : Nat → ClassId} (N : Nat) (S : xSt) : xM l D clA (tysC ca) (cellsC ad ca) nW yP_nextWord (Cond.code yP_nextWord cP_nextWord 3 (some .int) :: wA) rm_P_nextWord true [.ref (ad 2)] S (f_P_nextWord N S) := by
  refine x_met (cc := cP_nextWord) (maxL := 3) (ret := (some .int)) (by decide) rfl [.ref (ad 2)] (lv0 := [(0, .ref (ad 2))]) (Nat.le_of_ble_eq_true rfl) rfl ?_
  intro p e s m args below meth c A h
  unfold f_P_nextWord
  refine x_aload_n (nx := 1) (i := 0) h dP_nextWord_0 rfl 0 rfl rfl ?_
  refine x_get (nx := 4) h (gC_2_0 ad ca _) (List.mem_cons_of_mem _ kP_21) dP_nextWord_1 rfl ?_
  refine x_aload_n (nx := 5) (i := 0) h dP_nextWord_4 rfl 0 rfl rfl ?_
  refine x_get (nx := 8) h (gC_2_2 ad ca _) (List.mem_cons_of_mem _ kP_20) dP_nextWord_5 rfl ?_
  refine x_bipush (nx := 10) (v := (21 : Int32)) h dP_nextWord_8 (by decide) rfl ?_
  refine x_iald (nx := 11) h (aC_10 ad ca) dP_nextWord_10 rfl (fun v1 => ?_)
  refine x_cVi (nx := 14) (rest := []) (As := [.int v1]) h (m_B_read N v1 S) (x_wV h goA y_B_read kP_119 ⟨by decide, by decide⟩ rfl rfl) (oC_1 ad ca) rfl rfl (Nat.le_of_ble_eq_true rfl) dP_nextWord_11 rfl (fun v2 S3 => ?_)
  refine x_istore_n (nx := 15) (i := 1) (lv' := [(1, .int v2), (0, .ref (ad 2))]) h dP_nextWord_14 rfl (by decide) rfl rfl ?_
  refine x_aload_n (nx := 16) (i := 0) h dP_nextWord_15 rfl 1 rfl rfl ?_
  refine x_get (nx := 19) h (gC_2_0 ad ca _) (List.mem_cons_of_mem _ kP_21) dP_nextWord_16 rfl ?_
  refine x_aload_n (nx := 20) (i := 0) h dP_nextWord_19 rfl 1 rfl rfl ?_
  refine x_get (nx := 23) h (gC_2_2 ad ca _) (List.mem_cons_of_mem _ kP_20) dP_nextWord_20 rfl ?_
  refine x_bipush (nx := 25) (v := (21 : Int32)) h dP_nextWord_23 (by decide) rfl ?_
  refine x_iald (nx := 26) h (aC_10 ad ca) dP_nextWord_25 rfl (fun v4 => ?_)
  refine x_iconst (nx := 27) (v := (1 : Int32)) h dP_nextWord_26 (by decide) rfl ?_
  refine x_iadd (nx := 28) h dP_nextWord_27 rfl ?_
  refine x_cVi (nx := 31) (rest := []) (As := [.int (v4 + (1 : Int32))]) h (m_B_read N (v4 + (1 : Int32)) S3) (x_wV h goA y_B_read kP_119 ⟨by decide, by decide⟩ rfl rfl) (oC_1 ad ca) rfl rfl (Nat.le_of_ble_eq_true rfl) dP_nextWord_28 rfl (fun v5 S6 => ?_)
  refine x_istore_n (nx := 32) (i := 2) (lv' := [(2, .int v5), (1, .int v2), (0, .ref (ad 2))]) h dP_nextWord_31 rfl (by decide) rfl rfl ?_
  refine x_aload_n (nx := 33) (i := 0) h dP_nextWord_32 rfl 2 rfl rfl ?_
  refine x_iconst (nx := 34) (v := (2 : Int32)) h dP_nextWord_33 (by decide) rfl ?_
  refine x_cVv (nx := 37) (rest := []) (As := [.int (2 : Int32)]) h (m_P_movePc N (2 : Int32) S6) (x_wV h goA y_P_movePc kP_106 ⟨by decide, by decide⟩ rfl rfl) (oC_2 ad ca) rfl rfl (Nat.le_of_ble_eq_true rfl) dP_nextWord_34 rfl (fun v7 S8 => ?_)
  refine x_iload_n (nx := 38) (i := 2) h dP_nextWord_37 rfl 0 rfl rfl ?_
  refine x_bipush (nx := 40) (v := (8 : Int32)) h dP_nextWord_38 (by decide) rfl ?_
  refine x_ishl (nx := 41) h dP_nextWord_40 rfl ?_
  refine x_iload_n (nx := 42) (i := 1) h dP_nextWord_41 rfl 1 rfl rfl ?_
  refine x_ior (nx := 43) h dP_nextWord_42 rfl ?_
  exact x_iret h dP_nextWord_43
