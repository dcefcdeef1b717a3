set_option maxHeartbeats 4000000 in
set_option maxRecDepth 100000 in
theorem j_G_setPair_42 {l : Launch} {D : va_G} {ad : Nat → Nat} {ca : Nat → ClassId} {p : Program} {e : Env} {s : State} {m : MethodId} {args : Array Value} {below : List Frame} {meth : Method} {c : Code} {A : Nat → Prop} (h : xC p s m args meth c cG_setPair 3 (Cond.code yG_setPair cG_setPair 3 none :: wA) nW yG_setPair.cls none D clA (tysC ca) A) (N : Nat) (S : xSt) : xJ p l e rm_G_setPair s m args below meth c D clA (tysC ca) (cellsC ad ca) A false 3 42 [] [] S (f_G_setPair_42 N S) := by
  unfold f_G_setPair_42
  exact x_vret h dG_setPair_42
set_option maxHeartbeats 4000000 in
set_option maxRecDepth 100000 in
theorem m_G_setPair {l : Launch} {D : va_G} {ad : Nat → Nat} {ca : Nat → ClassId} (N : Nat) (a1 a2 : Int32) (S : xSt) : xM l D clA (tysC ca) (cellsC ad ca) nW yG_setPair (Cond.code yG_setPair cG_setPair 3 none :: wA) rm_G_setPair false [.ref (ad 5), .int a1, .int a2] S (f_G_setPair N a1 a2 S) := by
  refine x_met (cc := cG_setPair) (maxL := 3) (ret := none) (by decide) rfl [.ref (ad 5), .int a1, .int a2] (lv0 := [(0, .ref (ad 5)), (1, .int a1), (2, .int a2)]) (Nat.le_of_ble_eq_true rfl) rfl ?_
  intro p e s m args below meth c A h
  unfold f_G_setPair
  refine x_iload_n (nx := 1) (i := 1) h dG_setPair_0 rfl 1 rfl rfl ?_
  refine x_iconst (nx := 2) (v := (3 : Int32)) h dG_setPair_1 (by decide) rfl ?_
  refine x_icmp_ne (nx := 5) (tgt := 19) h dG_setPair_2 (by decide) rfl ?_ ?_
  · refine x_iload_n (nx := 20) (i := 1) h dG_setPair_19 rfl 1 rfl rfl ?_
    refine x_iconst (nx := 21) (v := (2 : Int32)) h dG_setPair_20 (by decide) rfl ?_
    refine x_icmp_ne (nx := 24) (tgt := 32) h dG_setPair_21 (by decide) rfl ?_ ?_
    · refine x_aload_n (nx := 33) (i := 0) h dG_setPair_32 rfl 0 rfl rfl ?_
      refine x_iconst (nx := 34) (v := (2 : Int32)) h dG_setPair_33 (by decide) rfl ?_
      refine x_iconst (nx := 35) (v := (2 : Int32)) h dG_setPair_34 (by decide) rfl ?_
      refine x_iload_n (nx := 36) (i := 1) h dG_setPair_35 rfl 1 rfl rfl ?_
      refine x_imul (nx := 37) h dG_setPair_36 rfl ?_
      refine x_iadd (nx := 38) h dG_setPair_37 rfl ?_
      refine x_iload_n (nx := 39) (i := 2) h dG_setPair_38 rfl 2 rfl rfl ?_
      refine x_cVv (nx := 42) (rest := []) (As := [.int ((2 : Int32) + ((2 : Int32) * a1)), .int a2]) h (m_G_split N ((2 : Int32) + ((2 : Int32) * a1)) a2 S) (x_wV h goA y_G_split kG_25 ⟨by decide, by decide⟩ rfl rfl) (oC_5 ad ca) rfl rfl (Nat.le_of_ble_eq_true rfl) dG_setPair_39 rfl (fun v1 S2 => ?_)
      exact x_sub [] rfl (j_G_setPair_42 h N S2)
    · refine x_aload_n (nx := 25) (i := 0) h dG_setPair_24 rfl 0 rfl rfl ?_
      refine x_iload_n (nx := 26) (i := 2) h dG_setPair_25 rfl 2 rfl rfl ?_
      refine x_cVv (nx := 29) (rest := []) (As := [.int a2]) h (m_G_setHl N a2 S) (x_wV h goA y_G_setHl kG_33 ⟨by decide, by decide⟩ rfl rfl) (oC_5 ad ca) rfl rfl (Nat.le_of_ble_eq_true rfl) dG_setPair_26 rfl (fun v3 S4 => ?_)
      refine x_goto (tgt := 42) h dG_setPair_29 (by decide) ?_
      exact x_sub [] rfl (j_G_setPair_42 h N S4)
  · refine x_aload_n (nx := 6) (i := 0) h dG_setPair_5 rfl 0 rfl rfl ?_
    refine x_get (nx := 9) h (gC_5_0 ad ca _) (List.mem_cons_of_mem _ kG_9) dG_setPair_6 rfl ?_
    refine x_bipush (nx := 11) (v := (20 : Int32)) h dG_setPair_9 (by decide) rfl ?_
    refine x_iload_n (nx := 12) (i := 2) h dG_setPair_11 rfl 2 rfl rfl ?_
    refine x_ldc (nx := 14) (v := (65535 : Int32)) h (List.mem_cons_of_mem _ kG_21) dG_setPair_12 rfl ?_
    refine x_iand (nx := 15) h dG_setPair_14 rfl ?_
    refine x_iast (nx := 16) h (aC_10 ad ca) dG_setPair_15 rfl (fun S5 => ?_)
    refine x_goto (tgt := 42) h dG_setPair_16 (by decide) ?_
    exact x_sub [] rfl (j_G_setPair_42 h N S5)
set_option maxHeartbeats 4000000 in
set_option maxRecDepth 100000 in
theorem m_P_writeWord {l : Launch} {D : va_G} {ad : Nat → Nat} {ca : Nat → ClassId} (N : Nat) (a1 a2 : Int32) (S : xSt) : xM l D clA (tysC ca) (cellsC ad ca) nW yP_writeWord (Cond.code yP_writeWord cP_writeWord 3 none :: wA) rm_P_writeWord false [.ref (ad 2), .int a1, .int a2] S (f_P_writeWord N a1 a2 S) := by
  refine x_met (cc := cP_writeWord) (maxL := 3) (ret := none) (by decide) rfl [.ref (ad 2), .int a1, .int a2] (lv0 := [(0, .ref (ad 2)), (1, .int a1), (2, .int a2)]) (Nat.le_of_ble_eq_true rfl) rfl ?_
  intro p e s m args below meth c A h
  unfold f_P_writeWord
  refine x_aload_n (nx := 1) (i := 0) h dP_writeWord_0 rfl 0 rfl rfl ?_
  refine x_get (nx := 4) h (gC_2_0 ad ca _) (List.mem_cons_of_mem _ kP_21) dP_writeWord_1 rfl ?_
  refine x_iload_n (nx := 5) (i := 1) h dP_writeWord_4 rfl 1 rfl rfl ?_
  refine x_iload_n (nx := 6) (i := 2) h dP_writeWord_5 rfl 2 rfl rfl ?_
  refine x_cVv (nx := 9) (rest := []) (As := [.int a1, .int a2]) h (m_B_write N a1 a2 S) (x_wV h goA y_B_write kP_122 ⟨by decide, by decide⟩ rfl rfl) (oC_1 ad ca) rfl rfl (Nat.le_of_ble_eq_true rfl) dP_writeWord_6 rfl (fun v1 S2 => ?_)
  refine x_aload_n (nx := 10) (i := 0) h dP_writeWord_9 rfl 0 rfl rfl ?_
  refine x_get (nx := 13) h (gC_2_0 ad ca _) (List.mem_cons_of_mem _ kP_21) dP_writeWord_10 rfl ?_
  refine x_iload_n (nx := 14) (i := 1) h dP_writeWord_13 rfl 1 rfl rfl ?_
  refine x_iconst (nx := 15) (v := (1 : Int32)) h dP_writeWord_14 (by decide) rfl ?_
  refine x_iadd (nx := 16) h dP_writeWord_15 rfl ?_
  refine x_iload_n (nx := 17) (i := 2) h dP_writeWord_16 rfl 2 rfl rfl ?_
  refine x_bipush (nx := 19) (v := (8 : Int32)) h dP_writeWord_17 (by decide) rfl ?_
  refine x_ishr (nx := 20) h dP_writeWord_19 rfl ?_
  refine x_cVv (nx := 23) (rest := []) (As := [.int (a1 + (1 : Int32)), .int (a2 >>> ((8 : Int32) &&& 31))]) h (m_B_write N (a1 + (1 : Int32)) (a2 >>> ((8 : Int32) &&& 31)) S2) (x_wV h goA y_B_write kP_122 ⟨by decide, by decide⟩ rfl rfl) (oC_1 ad ca) rfl rfl (Nat.le_of_ble_eq_true rfl) dP_writeWord_20 rfl (fun v3 S4 => ?_)
  exact x_vret h dP_writeWord_23
set_option maxHeartbeats 4000000 in
set_option maxRecDepth 100000 in
theorem j_P_passPair_45 {l : Launch} {D : va_G} {ad : Nat → Nat} {ca : Nat → ClassId} {p : Program} {e : Env} {s : State} {m : MethodId} {args : Array Value} {below : List Frame} {meth : Method} {c : Code} {A : Nat → Prop} (h : xC p s m args meth c cP_passPair 3 (Cond.code yP_passPair cP_passPair 3 none :: wA) nW yP_passPair.cls none D clA (tysC ca) A) (N : Nat) (S : xSt) : xJ p l e rm_P_passPair s m args below meth c D clA (tysC ca) (cellsC ad ca) A false 3 45 [] [] S (f_P_passPair_45 N S) := by
  unfold f_P_passPair_45
  exact x_vret h dP_passPair_45
set_option maxHeartbeats 4000000 in
set_option maxRecDepth 100000 in
theorem m_P_passPair {l : Launch} {D : va_G} {ad : Nat → Nat} {ca : Nat → ClassId} (N : Nat) (a1 : Int32) (S : xSt) : xM l D clA (tysC ca) (cellsC ad ca) nW yP_passPair (Cond.code yP_passPair cP_passPair 3 none :: wA) rm_P_passPair false [.ref (ad 2), .int a1] S (f_P_passPair N a1 S) := by
  refine x_met (cc := cP_passPair) (maxL := 3) (ret := none) (by decide) rfl [.ref (ad 2), .int a1] (lv0 := [(0, .ref (ad 2)), (1, .int a1)]) (Nat.le_of_ble_eq_true rfl) rfl ?_
  intro p e s m args below meth c A h
  unfold f_P_passPair
  refine x_aload_n (nx := 1) (i := 0) h dP_passPair_0 rfl 0 rfl rfl ?_
  refine x_cVi (nx := 4) (rest := []) (As := []) h (m_P_nextWord N S) (x_wV h goA y_P_nextWord kP_139 ⟨by decide, by decide⟩ rfl rfl) (oC_2 ad ca) rfl rfl (Nat.le_of_ble_eq_true rfl) dP_passPair_1 rfl (fun v1 S2 => ?_)
  refine x_istore_n (nx := 5) (i := 2) (lv' := [(2, .int v1), (0, .ref (ad 2)), (1, .int a1)]) h dP_passPair_4 rfl (by decide) rfl rfl ?_
  refine x_iload_n (nx := 6) (i := 1) h dP_passPair_5 rfl 2 rfl rfl ?_
  refine x_iconst (nx := 7) (v := (1 : Int32)) h dP_passPair_6 (by decide) rfl ?_
  refine x_iand (nx := 8) h dP_passPair_7 rfl ?_
  refine x_iconst (nx := 9) (v := (1 : Int32)) h dP_passPair_8 (by decide) rfl ?_
  refine x_icmp_ne (nx := 12) (tgt := 30) h dP_passPair_9 (by decide) rfl ?_ ?_
  · refine x_aload_n (nx := 31) (i := 0) h dP_passPair_30 rfl 1 rfl rfl ?_
    refine x_iload_n (nx := 32) (i := 2) h dP_passPair_31 rfl 0 rfl rfl ?_
    refine x_aload_n (nx := 33) (i := 0) h dP_passPair_32 rfl 1 rfl rfl ?_
    refine x_get (nx := 36) h (gC_2_1 ad ca _) (List.mem_cons_of_mem _ kP_10) dP_passPair_33 rfl ?_
    refine x_iload_n (nx := 37) (i := 1) h dP_passPair_36 rfl 2 rfl rfl ?_
    refine x_iconst (nx := 38) (v := (1 : Int32)) h dP_passPair_37 (by decide) rfl ?_
    refine x_ishr (nx := 39) h dP_passPair_38 rfl ?_
    refine x_cVi (nx := 42) (rest := [.int v1, .ref (ad 2)]) (As := [.int (a1 >>> ((1 : Int32) &&& 31))]) h (m_G_pair N (a1 >>> ((1 : Int32) &&& 31)) S2) (x_wV h goA y_G_pair kP_151 ⟨by decide, by decide⟩ rfl rfl) (oC_5 ad ca) rfl rfl (Nat.le_of_ble_eq_true rfl) dP_passPair_39 rfl (fun v3 S4 => ?_)
    refine x_cVv (nx := 45) (rest := []) (As := [.int v1, .int v3]) h (m_P_writeWord N v1 v3 S4) (x_wV h goA y_P_writeWord kP_177 ⟨by decide, by decide⟩ rfl rfl) (oC_2 ad ca) rfl rfl (Nat.le_of_ble_eq_true rfl) dP_passPair_42 rfl (fun v5 S6 => ?_)
    exact x_sub [] rfl (j_P_passPair_45 h N S6)
  · refine x_aload_n (nx := 13) (i := 0) h dP_passPair_12 rfl 1 rfl rfl ?_
    refine x_get (nx := 16) h (gC_2_1 ad ca _) (List.mem_cons_of_mem _ kP_10) dP_passPair_13 rfl ?_
    refine x_iload_n (nx := 17) (i := 1) h dP_passPair_16 rfl 2 rfl rfl ?_
    refine x_iconst (nx := 18) (v := (1 : Int32)) h dP_passPair_17 (by decide) rfl ?_
    refine x_ishr (nx := 19) h dP_passPair_18 rfl ?_
    refine x_aload_n (nx := 20) (i := 0) h dP_passPair_19 rfl 1 rfl rfl ?_
    refine x_iload_n (nx := 21) (i := 2) h dP_passPair_20 rfl 0 rfl rfl ?_
    refine x_cVi (nx := 24) (rest := [.int (a1 >>> ((1 : Int32) &&& 31)), .ref (ad 5)]) (As := [.int v1]) h (m_P_readWord N v1 S2) (x_wV h goA y_P_readWord kP_103 ⟨by decide, by decide⟩ rfl rfl) (oC_2 ad ca) rfl rfl (Nat.le_of_ble_eq_true rfl) dP_passPair_21 rfl (fun v7 S8 => ?_)
    refine x_cVv (nx := 27) (rest := []) (As := [.int (a1 >>> ((1 : Int32) &&& 31)), .int v7]) h (m_G_setPair N (a1 >>> ((1 : Int32) &&& 31)) v7 S8) (x_wV h goA y_G_setPair kP_142 ⟨by decide, by decide⟩ rfl rfl) (oC_5 ad ca) rfl rfl (Nat.le_of_ble_eq_true rfl) dP_passPair_24 rfl (fun v9 S10 => ?_)
    refine x_goto (tgt := 45) h dP_passPair_27 (by decide) ?_
    exact x_sub [] rfl (j_P_passPair_45 h N S10)
set_option maxHeartbeats 4000000 in
set_option maxRecDepth 100000 in
theorem m_P_pop {l : Launch} {D : va_G} {ad : Nat → Nat} {ca : Nat → ClassId} (N : Nat) (S : xSt) : xM l D clA (tysC ca) (cellsC ad ca) nW yP_pop (Cond.code yP_pop cP_pop 2 (some .int) :: wA) rm_P_pop true [.ref (ad 2)] S (f_P_pop N S) := by
  refine x_met (cc := cP_pop) (maxL := 2) (ret := (some .int)) (by decide) rfl [.ref (ad 2)] (lv0 := [(0, .ref (ad 2))]) (Nat.le_of_ble_eq_true rfl) rfl ?_
  intro p e s m args below meth c A h
  unfold f_P_pop
  refine x_aload_n (nx := 1) (i := 0) h dP_pop_0 rfl 0 rfl rfl ?_
  refine x_aload_n (nx := 2) (i := 0) h dP_pop_1 rfl 0 rfl rfl ?_
  refine x_get (nx := 5) h (gC_2_2 ad ca _) (List.mem_cons_of_mem _ kP_20) dP_pop_2 rfl ?_
  refine x_bipush (nx := 7) (v := (20 : Int32)) h dP_pop_5 (by decide) rfl ?_
  refine x_iald (nx := 8) h (aC_10 ad ca) dP_pop_7 rfl (fun v1 => ?_)
  refine x_cVi (nx := 11) (rest := []) (As := [.int v1]) h (m_P_readWord N v1 S) (x_wV h goA y_P_readWord kP_103 ⟨by decide, by decide⟩ rfl rfl) (oC_2 ad ca) rfl rfl (Nat.le_of_ble_eq_true rfl) dP_pop_8 rfl (fun v2 S3 => ?_)
  refine x_istore_n (nx := 12) (i := 1) (lv' := [(1, .int v2), (0, .ref (ad 2))]) h dP_pop_11 rfl (by decide) rfl rfl ?_
  refine x_aload_n (nx := 13) (i := 0) h dP_pop_12 rfl 1 rfl rfl ?_
  refine x_get (nx := 16) h (gC_2_2 ad ca _) (List.mem_cons_of_mem _ kP_20) dP_pop_13 rfl ?_
  refine x_bipush (nx := 18) (v := (20 : Int32)) h dP_pop_16 (by decide) rfl ?_
  refine x_aload_n (nx := 19) (i := 0) h dP_pop_18 rfl 1 rfl rfl ?_
  refine x_get (nx := 22) h (gC_2_2 ad ca _) (List.mem_cons_of_mem _ kP_20) dP_pop_19 rfl ?_
  refine x_bipush (nx := 24) (v := (20 : Int32)) h dP_pop_22 (by decide) rfl ?_
  refine x_iald (nx := 25) h (aC_10 ad ca) dP_pop_24 rfl (fun v4 => ?_)
  refine x_iconst (nx := 26) (v := (2 : Int32)) h dP_pop_25 (by decide) rfl ?_
  refine x_iadd (nx := 27) h dP_pop_26 rfl ?_
  refine x_ldc (nx := 29) (v := (65535 : Int32)) h (List.mem_cons_of_mem _ kP_118) dP_pop_27 rfl ?_
  refine x_iand (nx := 30) h dP_pop_29 rfl ?_
  refine x_iast (nx := 31) h (aC_10 ad ca) dP_pop_30 rfl (fun S5 => ?_)
  refine x_iload_n (nx := 32) (i := 1) h dP_pop_31 rfl 0 rfl rfl ?_
  exact x_iret h dP_pop_32
set_option maxHeartbeats 4000000 in
set_option maxRecDepth 100000 in
theorem j_P_turnTwelveBits_82 {l : Launch} {D : va_G} {ad : Nat → Nat} {ca : Nat → ClassId} {p : Program} {e : Env} {s : State} {m : MethodId} {args : Array Value} {below : List Frame} {meth : Method} {c : Code} {A : Nat → Prop} (h : xC p s m args meth c cP_turnTwelveBits 5 (Cond.code yP_turnTwelveBits cP_turnTwelveBits 5 none :: wA) nW yP_turnTwelveBits.cls none D clA (tysC ca) A) (N : Nat) (w0 w1 : Int32) (S : xSt) : xJ p l e rm_P_turnTwelveBits s m args below meth c D clA (tysC ca) (cellsC ad ca) A false 5 82 [(0, .ref (ad 2))] [.int w1, .int w0] S (f_P_turnTwelveBits_82 N w0 w1 S) := by
  unfold f_P_turnTwelveBits_82
  refine x_ior (nx := 83) h dP_turnTwelveBits_82 rfl ?_
  refine x_val (fun b1 => ?_)
  refine x_istore (nx := 85) (i := 4) (lv' := [(4, .int b1), (0, .ref (ad 2))]) h dP_turnTwelveBits_83 (by decide) rfl rfl ?_
  refine x_aload_n (nx := 86) (i := 0) h dP_turnTwelveBits_85 rfl 1 rfl rfl ?_
  refine x_get (nx := 89) h (gC_2_2 ad ca _) (List.mem_cons_of_mem _ kP_20) dP_turnTwelveBits_86 rfl ?_
  refine x_iconst (nx := 90) (v := (0 : Int32)) h dP_turnTwelveBits_89 (by decide) rfl ?_
  refine x_iload (nx := 92) (i := 4) h dP_turnTwelveBits_90 0 rfl rfl ?_
  refine x_iast (nx := 93) h (aC_10 ad ca) dP_turnTwelveBits_92 rfl (fun S2 => ?_)
  refine x_aload_n (nx := 94) (i := 0) h dP_turnTwelveBits_93 rfl 1 rfl rfl ?_
  refine x_iconst (nx := 95) (v := (1 : Int32)) h dP_turnTwelveBits_94 (by decide) rfl ?_
  refine x_iload (nx := 97) (i := 4) h dP_turnTwelveBits_95 0 rfl rfl ?_
  refine x_cSi (nx := 100) (rest := [.int (1 : Int32), .ref (ad 2)]) (As := [.int b1]) h (m_A_byWithParity N b1 S2) (x_wS h goA y_A_byWithParity kP_252 ⟨by decide, by decide⟩ rfl rfl) rfl rfl (Nat.le_of_ble_eq_true rfl) dP_turnTwelveBits_97 rfl (fun v3 S4 => ?_)
  refine x_cVv (nx := 103) (rest := []) (As := [.int (1 : Int32), .int v3]) h (m_P_setFlags N (1 : Int32) v3 S4) (x_wV h goA y_P_setFlags kP_174 ⟨by decide, by decide⟩ rfl rfl) (oC_2 ad ca) rfl rfl (Nat.le_of_ble_eq_true rfl) dP_turnTwelveBits_100 rfl (fun v5 S6 => ?_)
  exact x_vret h dP_turnTwelveBits_103
set_option maxHeartbeats 4000000 in
set_option maxRecDepth 100000 in
theorem j_P_turnTwelveBits_55 {l : Launch} {D : va_G} {ad : Nat → Nat} {ca : Nat → ClassId} {p : Program} {e : Env} {s : State} {m : MethodId} {args : Array Value} {below : List Frame} {meth : Method} {c : Code} {A : Nat → Prop} (h : xC p s m args meth c cP_turnTwelveBits 5 (Cond.code yP_turnTwelveBits cP_turnTwelveBits 5 none :: wA) nW yP_turnTwelveBits.cls none D clA (tysC ca) A) (N : Nat) (a1 a2 w1 w2 : Int32) (S : xSt) : xJ p l e rm_P_turnTwelveBits s m args below meth c D clA (tysC ca) (cellsC ad ca) A false 5 55 [(0, .ref (ad 2)), (1, .int a1), (2, .int a2)] [.int w2, .int w1, .ref (ad 1)] S (f_P_turnTwelveBits_55 N a1 a2 w1 w2 S) := by
  unfold f_P_turnTwelveBits_55
  refine x_cVv (nx := 58) (rest := []) (As := [.int w1, .int w2]) h (m_B_write N w1 w2 S) (x_wV h goA y_B_write kP_122 ⟨by decide, by decide⟩ rfl rfl) (oC_1 ad ca) rfl rfl (Nat.le_of_ble_eq_true rfl) dP_turnTwelveBits_55 rfl (fun v1 S2 => ?_)
  refine x_aload_n (nx := 59) (i := 0) h dP_turnTwelveBits_58 rfl 0 rfl rfl ?_
  refine x_get (nx := 62) h (gC_2_2 ad ca _) (List.mem_cons_of_mem _ kP_20) dP_turnTwelveBits_59 rfl ?_
  refine x_iconst (nx := 63) (v := (0 : Int32)) h dP_turnTwelveBits_62 (by decide) rfl ?_
  refine x_iald (nx := 64) h (aC_10 ad ca) dP_turnTwelveBits_63 rfl (fun v3 => ?_)
  refine x_sipush (nx := 67) (v := (240 : Int32)) h dP_turnTwelveBits_64 (by decide) rfl ?_
  refine x_iand (nx := 68) h dP_turnTwelveBits_67 rfl ?_
  refine x_iload_n (nx := 69) (i := 1) h dP_turnTwelveBits_68 rfl 1 rfl rfl ?_
  refine x_if_eq (nx := 72) (tgt := 78) h dP_turnTwelveBits_69 (by decide) rfl ?_ ?_
  · refine x_iload_n (nx := 79) (i := 2) h dP_turnTwelveBits_78 rfl 2 rfl rfl ?_
    refine x_bipush (nx := 81) (v := (15 : Int32)) h dP_turnTwelveBits_79 (by decide) rfl ?_
    refine x_iand (nx := 82) h dP_turnTwelveBits_81 rfl ?_
    exact x_sub [0] rfl (j_P_turnTwelveBits_82 h N (v3 &&& (240 : Int32)) (a2 &&& (15 : Int32)) S2)
  · refine x_iload_n (nx := 73) (i := 2) h dP_turnTwelveBits_72 rfl 2 rfl rfl ?_
    refine x_iconst (nx := 74) (v := (4 : Int32)) h dP_turnTwelveBits_73 (by decide) rfl ?_
    refine x_ishr (nx := 75) h dP_turnTwelveBits_74 rfl ?_
    refine x_goto (tgt := 82) h dP_turnTwelveBits_75 (by decide) ?_
    exact x_sub [0] rfl (j_P_turnTwelveBits_82 h N (v3 &&& (240 : Int32)) (a2 >>> ((4 : Int32) &&& 31)) S2)
set_option maxHeartbeats 4000000 in
set_option maxRecDepth 100000 in
theorem m_P_turnTwelveBits {l : Launch} {D : va_G} {ad : Nat → Nat} {ca : Nat → ClassId} (N : Nat) (a1 : Int32) (S : xSt) : xM l D clA (tysC ca) (cellsC ad ca) nW yP_turnTwelveBits (Cond.code yP_turnTwelveBits cP_turnTwelveBits 5 none :: wA) rm_P_turnTwelveBits false [.ref (ad 2), .int a1] S (f_P_turnTwelveBits N a1 S) := by
  refine x_met (cc := cP_turnTwelveBits) (maxL := 5) (ret := none) (by decide) rfl [.ref (ad 2), .int a1] (lv0 := [(0, .ref (ad 2)), (1, .int a1)]) (Nat.le_of_ble_eq_true rfl) rfl ?_
  intro p e s m args below meth c A h
  unfold f_P_turnTwelveBits
  refine x_aload_n (nx := 1) (i := 0) h dP_turnTwelveBits_0 rfl 0 rfl rfl ?_
  refine x_get (nx := 4) h (gC_2_0 ad ca _) (List.mem_cons_of_mem _ kP_21) dP_turnTwelveBits_1 rfl ?_
  refine x_aload_n (nx := 5) (i := 0) h dP_turnTwelveBits_4 rfl 0 rfl rfl ?_
  refine x_get (nx := 8) h (gC_2_1 ad ca _) (List.mem_cons_of_mem _ kP_10) dP_turnTwelveBits_5 rfl ?_
  refine x_cVi (nx := 11) (rest := [.ref (ad 1)]) (As := []) h (m_G_hl N S) (x_wV h goA y_G_hl kP_109 ⟨by decide, by decide⟩ rfl rfl) (oC_5 ad ca) rfl rfl (Nat.le_of_ble_eq_true rfl) dP_turnTwelveBits_8 rfl (fun v1 S2 => ?_)
  refine x_cVi (nx := 14) (rest := []) (As := [.int v1]) h (m_B_read N v1 S2) (x_wV h goA y_B_read kP_119 ⟨by decide, by decide⟩ rfl rfl) (oC_1 ad ca) rfl rfl (Nat.le_of_ble_eq_true rfl) dP_turnTwelveBits_11 rfl (fun v3 S4 => ?_)
  refine x_istore_n (nx := 15) (i := 2) (lv' := [(2, .int v3), (0, .ref (ad 2)), (1, .int a1)]) h dP_turnTwelveBits_14 rfl (by decide) rfl rfl ?_
  refine x_aload_n (nx := 16) (i := 0) h dP_turnTwelveBits_15 rfl 1 rfl rfl ?_
  refine x_get (nx := 19) h (gC_2_2 ad ca _) (List.mem_cons_of_mem _ kP_20) dP_turnTwelveBits_16 rfl ?_
  refine x_iconst (nx := 20) (v := (0 : Int32)) h dP_turnTwelveBits_19 (by decide) rfl ?_
  refine x_iald (nx := 21) h (aC_10 ad ca) dP_turnTwelveBits_20 rfl (fun v5 => ?_)
  refine x_bipush (nx := 23) (v := (15 : Int32)) h dP_turnTwelveBits_21 (by decide) rfl ?_
  refine x_iand (nx := 24) h dP_turnTwelveBits_23 rfl ?_
  refine x_val (fun b6 => ?_)
  refine x_istore_n (nx := 25) (i := 3) (lv' := [(3, .int b6), (2, .int v3), (0, .ref (ad 2)), (1, .int a1)]) h dP_turnTwelveBits_24 rfl (by decide) rfl rfl ?_
  refine x_aload_n (nx := 26) (i := 0) h dP_turnTwelveBits_25 rfl 2 rfl rfl ?_
  refine x_get (nx := 29) h (gC_2_0 ad ca _) (List.mem_cons_of_mem _ kP_21) dP_turnTwelveBits_26 rfl ?_
  refine x_aload_n (nx := 30) (i := 0) h dP_turnTwelveBits_29 rfl 2 rfl rfl ?_
  refine x_get (nx := 33) h (gC_2_1 ad ca _) (List.mem_cons_of_mem _ kP_10) dP_turnTwelveBits_30 rfl ?_
  refine x_cVi (nx := 36) (rest := [.ref (ad 1)]) (As := []) h (m_G_hl N S4) (x_wV h goA y_G_hl kP_109 ⟨by decide, by decide⟩ rfl rfl) (oC_5 ad ca) rfl rfl (Nat.le_of_ble_eq_true rfl) dP_turnTwelveBits_33 rfl (fun v7 S8 => ?_)
  refine x_iload_n (nx := 37) (i := 1) h dP_turnTwelveBits_36 rfl 3 rfl rfl ?_
  refine x_if_eq (nx := 40) (tgt := 48) h dP_turnTwelveBits_37 (by decide) rfl ?_ ?_
  · refine x_iload_n (nx := 49) (i := 3) h dP_turnTwelveBits_48 rfl 0 rfl rfl ?_
    refine x_iconst (nx := 50) (v := (4 : Int32)) h dP_turnTwelveBits_49 (by decide) rfl ?_
    refine x_ishl (nx := 51) h dP_turnTwelveBits_50 rfl ?_
    refine x_iload_n (nx := 52) (i := 2) h dP_turnTwelveBits_51 rfl 1 rfl rfl ?_
    refine x_iconst (nx := 53) (v := (4 : Int32)) h dP_turnTwelveBits_52 (by decide) rfl ?_
    refine x_ishr (nx := 54) h dP_turnTwelveBits_53 rfl ?_
    refine x_ior (nx := 55) h dP_turnTwelveBits_54 rfl ?_
    exact x_sub [2, 3, 1] rfl (j_P_turnTwelveBits_55 h N a1 v3 v7 ((b6 <<< ((4 : Int32) &&& 31)) ||| (v3 >>> ((4 : Int32) &&& 31))) S8)
  · refine x_iload_n (nx := 41) (i := 2) h dP_turnTwelveBits_40 rfl 1 rfl rfl ?_
    refine x_iconst (nx := 42) (v := (4 : Int32)) h dP_turnTwelveBits_41 (by decide) rfl ?_
    refine x_ishl (nx := 43) h dP_turnTwelveBits_42 rfl ?_
    refine x_iload_n (nx := 44) (i := 3) h dP_turnTwelveBits_43 rfl 0 rfl rfl ?_
    refine x_ior (nx := 45) h dP_turnTwelveBits_44 rfl ?_
    refine x_goto (tgt := 55) h dP_turnTwelveBits_45 (by decide) ?_
    exact x_sub [2, 3, 1] rfl (j_P_turnTwelveBits_55 h N a1 v3 v7 ((v3 <<< ((4 : Int32) &&& 31)) ||| b6) S8)
set_option maxHeartbeats 4000000 in
set_option maxRecDepth 100000 in
theorem j_P_doSpecial_136 {l : Launch} {D : va_G} {ad : Nat → Nat} {ca : Nat → ClassId} {p : Program} {e : Env} {s : State} {m : MethodId} {args : Array Value} {below : List Frame} {meth : Method} {c : Code} {A : Nat → Prop} (h : xC p s m args meth c cP_doSpecial 3 (Cond.code yP_doSpecial cP_doSpecial 3 none :: wA) nW yP_doSpecial.cls none D clA (tysC ca) A) (N : Nat) (S : xSt) : xJ p l e rm_P_doSpecial s m args below meth c D clA (tysC ca) (cellsC ad ca) A false 3 136 [] [] S (f_P_doSpecial_136 N S) := by
  unfold f_P_doSpecial_136
  exact x_vret h dP_doSpecial_136
set_option maxHeartbeats 4000000 in
set_option maxRecDepth 100000 in
theorem j_P_doSpecial_88 {l : Launch} {D : va_G} {ad : Nat → Nat} {ca : Nat → ClassId} {p : Program} {e : Env} {s : State} {m : MethodId} {args : Array Value} {below : List Frame} {meth : Method} {c : Code} {A : Nat → Prop} (h : xC p s m args meth c cP_doSpecial 3 (Cond.code yP_doSpecial cP_doSpecial 3 none :: wA) nW yP_doSpecial.cls none D clA (tysC ca) A) (N : Nat) (w1 : Int32) (S : xSt) : xJ p l e rm_P_doSpecial s m args below meth c D clA (tysC ca) (cellsC ad ca) A false 3 88 [(0, .ref (ad 2))] [.int w1, .ref (ad 10)] S (f_P_doSpecial_88 N w1 S) := by
  unfold f_P_doSpecial_88
  refine x_iald (nx := 89) h (aC_10 ad ca) dP_doSpecial_88 rfl (fun v1 => ?_)
  refine x_istore_n (nx := 90) (i := 2) (lv' := [(2, .int v1), (0, .ref (ad 2))]) h dP_doSpecial_89 rfl (by decide) rfl rfl ?_
  refine x_aload_n (nx := 91) (i := 0) h dP_doSpecial_90 rfl 1 rfl rfl ?_
  refine x_get (nx := 94) h (gC_2_2 ad ca _) (List.mem_cons_of_mem _ kP_20) dP_doSpecial_91 rfl ?_
  refine x_iconst (nx := 95) (v := (0 : Int32)) h dP_doSpecial_94 (by decide) rfl ?_
  refine x_iload_n (nx := 96) (i := 2) h dP_doSpecial_95 rfl 0 rfl rfl ?_
  refine x_iast (nx := 97) h (aC_10 ad ca) dP_doSpecial_96 rfl (fun S2 => ?_)
  refine x_aload_n (nx := 98) (i := 0) h dP_doSpecial_97 rfl 1 rfl rfl ?_
  refine x_iconst (nx := 99) (v := (1 : Int32)) h dP_doSpecial_98 (by decide) rfl ?_
  refine x_iload_n (nx := 100) (i := 2) h dP_doSpecial_99 rfl 0 rfl rfl ?_
  refine x_cSi (nx := 103) (rest := [.int (1 : Int32), .ref (ad 2)]) (As := [.int v1]) h (m_A_by N v1 S2) (x_wS h goA y_A_by kP_258 ⟨by decide, by decide⟩ rfl rfl) rfl rfl (Nat.le_of_ble_eq_true rfl) dP_doSpecial_100 rfl (fun v3 S4 => ?_)
  refine x_aload_n (nx := 104) (i := 0) h dP_doSpecial_103 rfl 1 rfl rfl ?_
  refine x_get (nx := 107) h (gC_2_2 ad ca _) (List.mem_cons_of_mem _ kP_20) dP_doSpecial_104 rfl ?_
  refine x_bipush (nx := 109) (v := (23 : Int32)) h dP_doSpecial_107 (by decide) rfl ?_
  refine x_iald (nx := 110) h (aC_10 ad ca) dP_doSpecial_109 rfl (fun v5 => ?_)
  refine x_iconst (nx := 111) (v := (4 : Int32)) h dP_doSpecial_110 (by decide) rfl ?_
  refine x_imul (nx := 112) h dP_doSpecial_111 rfl ?_
  refine x_ior (nx := 113) h dP_doSpecial_112 rfl ?_
  refine x_cVv (nx := 116) (rest := []) (As := [.int (1 : Int32), .int (v3 ||| (v5 * (4 : Int32)))]) h (m_P_setFlags N (1 : Int32) (v3 ||| (v5 * (4 : Int32))) S4) (x_wV h goA y_P_setFlags kP_174 ⟨by decide, by decide⟩ rfl rfl) (oC_2 ad ca) rfl rfl (Nat.le_of_ble_eq_true rfl) dP_doSpecial_113 rfl (fun v6 S7 => ?_)
  refine x_goto (tgt := 136) h dP_doSpecial_116 (by decide) ?_
  exact x_sub [] rfl (j_P_doSpecial_136 h N S7)
set_option maxHeartbeats 4000000 in
set_option maxRecDepth 100000 in
theorem j_P_doSpecial_72 {l : Launch} {D : va_G} {ad : Nat → Nat} {ca : Nat → ClassId} {p : Program} {e : Env} {s : State} {m : MethodId} {args : Array Value} {below : List Frame} {meth : Method} {c : Code} {A : Nat → Prop} (h : xC p s m args meth c cP_doSpecial 3 (Cond.code yP_doSpecial cP_doSpecial 3 none :: wA) nW yP_doSpecial.cls none D clA (tysC ca) A) (N : Nat) (a1 : Int32) (S : xSt) : xJ p l e rm_P_doSpecial s m args below meth c D clA (tysC ca) (cellsC ad ca) A false 3 72 [(0, .ref (ad 2)), (1, .int a1)] [] S (f_P_doSpecial_72 N a1 S) := by
  unfold f_P_doSpecial_72
  refine x_aload_n (nx := 73) (i := 0) h dP_doSpecial_72 rfl 0 rfl rfl ?_
  refine x_get (nx := 76) h (gC_2_2 ad ca _) (List.mem_cons_of_mem _ kP_20) dP_doSpecial_73 rfl ?_
  refine x_iload_n (nx := 77) (i := 1) h dP_doSpecial_76 rfl 1 rfl rfl ?_
  refine x_iconst (nx := 78) (v := (2 : Int32)) h dP_doSpecial_77 (by decide) rfl ?_
  refine x_icmp_ne (nx := 81) (tgt := 86) h dP_doSpecial_78 (by decide) rfl ?_ ?_
  · refine x_bipush (nx := 88) (v := (17 : Int32)) h dP_doSpecial_86 (by decide) rfl ?_
    exact x_sub [0] rfl (j_P_doSpecial_88 h N (17 : Int32) S)
  · refine x_bipush (nx := 83) (v := (16 : Int32)) h dP_doSpecial_81 (by decide) rfl ?_
    refine x_goto (tgt := 88) h dP_doSpecial_83 (by decide) ?_
    exact x_sub [0] rfl (j_P_doSpecial_88 h N (16 : Int32) S)
set_option maxHeartbeats 4000000 in
set_option maxRecDepth 100000 in
theorem j_P_doSpecial_130 {l : Launch} {D : va_G} {ad : Nat → Nat} {ca : Nat → ClassId} {p : Program} {e : Env} {s : State} {m : MethodId} {args : Array Value} {below : List Frame} {meth : Method} {c : Code} {A : Nat → Prop} (h : xC p s m args meth c cP_doSpecial 3 (Cond.code yP_doSpecial cP_doSpecial 3 none :: wA) nW yP_doSpecial.cls none D clA (tysC ca) A) (N : Nat) (w1 : Int32) (S : xSt) : xJ p l e rm_P_doSpecial s m args below meth c D clA (tysC ca) (cellsC ad ca) A false 3 130 [] [.int w1, .ref (ad 2)] S (f_P_doSpecial_130 N w1 S) := by
  unfold f_P_doSpecial_130
  refine x_cVv (nx := 133) (rest := []) (As := [.int w1]) h (m_P_turnTwelveBits N w1 S) (x_wV h goA y_P_turnTwelveBits kP_261 ⟨by decide, by decide⟩ rfl rfl) (oC_2 ad ca) rfl rfl (Nat.le_of_ble_eq_true rfl) dP_doSpecial_130 rfl (fun v1 S2 => ?_)
  refine x_goto (tgt := 136) h dP_doSpecial_133 (by decide) ?_
  exact x_sub [] rfl (j_P_doSpecial_136 h N S2)
set_option maxHeartbeats 4000000 in
set_option maxRecDepth 100000 in
theorem j_P_doSpecial_119 {l : Launch} {D : va_G} {ad : Nat → Nat} {ca : Nat → ClassId} {p : Program} {e : Env} {s : State} {m : MethodId} {args : Array Value} {below : List Frame} {meth : Method} {c : Code} {A : Nat → Prop} (h : xC p s m args meth c cP_doSpecial 3 (Cond.code yP_doSpecial cP_doSpecial 3 none :: wA) nW yP_doSpecial.cls none D clA (tysC ca) A) (N : Nat) (a1 : Int32) (S : xSt) : xJ p l e rm_P_doSpecial s m args below meth c D clA (tysC ca) (cellsC ad ca) A false 3 119 [(0, .ref (ad 2)), (1, .int a1)] [] S (f_P_doSpecial_119 N a1 S) := by
  unfold f_P_doSpecial_119
  refine x_aload_n (nx := 120) (i := 0) h dP_doSpecial_119 rfl 0 rfl rfl ?_
  refine x_iload_n (nx := 121) (i := 1) h dP_doSpecial_120 rfl 1 rfl rfl ?_
  refine x_iconst (nx := 122) (v := (5 : Int32)) h dP_doSpecial_121 (by decide) rfl ?_
  refine x_icmp_ne (nx := 125) (tgt := 129) h dP_doSpecial_122 (by decide) rfl ?_ ?_
  · refine x_iconst (nx := 130) (v := (0 : Int32)) h dP_doSpecial_129 (by decide) rfl ?_
    exact x_sub [] rfl (j_P_doSpecial_130 h N (0 : Int32) S)
  · refine x_iconst (nx := 126) (v := (1 : Int32)) h dP_doSpecial_125 (by decide) rfl ?_
    refine x_goto (tgt := 130) h dP_doSpecial_126 (by decide) ?_
    exact x_sub [] rfl (j_P_doSpecial_130 h N (1 : Int32) S)
set_option maxHeartbeats 4000000 in
set_option maxRecDepth 100000 in
theorem m_P_doSpecial {l : Launch} {D : va_G} {ad : Nat → Nat} {ca : Nat → ClassId} (N : Nat) (a1 : Int32) (S : xSt) : xM l D clA (tysC ca) (cellsC ad ca) nW yP_doSpecial (Cond.code yP_doSpecial cP_doSpecial 3 none :: wA) rm_P_doSpecial false [.ref (ad 2), .int a1] S (f_P_doSpecial N a1 S) := by
  refine x_met (cc := cP_doSpecial) (maxL := 3) (ret := none) (by decide) rfl [.ref (ad 2), .int a1] (lv0 := [(0, .ref (ad 2)), (1, .int a1)]) (Nat.le_of_ble_eq_true rfl) rfl ?_
  intro p e s m args below meth c A h
  unfold f_P_doSpecial
  refine x_iload_n (nx := 1) (i := 1) h dP_doSpecial_0 rfl 1 rfl rfl ?_
  refine x_ite (fun hq1 => ?_) (fun hq1 => ?_)
  · refine x_set hq1 ?_
    refine x_tabIn (off := 39) (tgt := 40) h dP_doSpecial_1 (by decide +kernel) (by decide +kernel) (by decide +kernel) (by decide) ?_
    refine x_aload_n (nx := 41) (i := 0) h dP_doSpecial_40 rfl 0 rfl rfl ?_
    refine x_get (nx := 44) h (gC_2_2 ad ca _) (List.mem_cons_of_mem _ kP_20) dP_doSpecial_41 rfl ?_
    refine x_bipush (nx := 46) (v := (16 : Int32)) h dP_doSpecial_44 (by decide) rfl ?_
    refine x_aload_n (nx := 47) (i := 0) h dP_doSpecial_46 rfl 0 rfl rfl ?_
    refine x_get (nx := 50) h (gC_2_2 ad ca _) (List.mem_cons_of_mem _ kP_20) dP_doSpecial_47 rfl ?_
    refine x_iconst (nx := 51) (v := (0 : Int32)) h dP_doSpecial_50 (by decide) rfl ?_
    refine x_iald (nx := 52) h (aC_10 ad ca) dP_doSpecial_51 rfl (fun v2 => ?_)
    refine x_iast (nx := 53) h (aC_10 ad ca) dP_doSpecial_52 rfl (fun S3 => ?_)
    refine x_goto (tgt := 136) h dP_doSpecial_53 (by decide) ?_
    exact x_sub [] rfl (j_P_doSpecial_136 h N S3)
  refine x_ite (fun hq4 => ?_) (fun hq4 => ?_)
  · refine x_set hq4 ?_
    refine x_tabIn (off := 55) (tgt := 56) h dP_doSpecial_1 (by decide +kernel) (by decide +kernel) (by decide +kernel) (by decide) ?_
    refine x_aload_n (nx := 57) (i := 0) h dP_doSpecial_56 rfl 0 rfl rfl ?_
    refine x_get (nx := 60) h (gC_2_2 ad ca _) (List.mem_cons_of_mem _ kP_20) dP_doSpecial_57 rfl ?_
    refine x_bipush (nx := 62) (v := (17 : Int32)) h dP_doSpecial_60 (by decide) rfl ?_
    refine x_aload_n (nx := 63) (i := 0) h dP_doSpecial_62 rfl 0 rfl rfl ?_
    refine x_get (nx := 66) h (gC_2_2 ad ca _) (List.mem_cons_of_mem _ kP_20) dP_doSpecial_63 rfl ?_
    refine x_iconst (nx := 67) (v := (0 : Int32)) h dP_doSpecial_66 (by decide) rfl ?_
    refine x_iald (nx := 68) h (aC_10 ad ca) dP_doSpecial_67 rfl (fun v5 => ?_)
    refine x_iast (nx := 69) h (aC_10 ad ca) dP_doSpecial_68 rfl (fun S6 => ?_)
    refine x_goto (tgt := 136) h dP_doSpecial_69 (by decide) ?_
    exact x_sub [] rfl (j_P_doSpecial_136 h N S6)
  refine x_ite (fun hq7 => ?_) (fun hq7 => ?_)
  · refine x_set hq7 ?_
    refine x_tabIn (off := 71) (tgt := 72) h dP_doSpecial_1 (by decide +kernel) (by decide +kernel) (by decide +kernel) (by decide) ?_
    exact x_sub [0, 1] rfl (j_P_doSpecial_72 h N a1 S)
  refine x_ite (fun hq8 => ?_) (fun hq8 => ?_)
  · refine x_set hq8 ?_
    refine x_tabIn (off := 71) (tgt := 72) h dP_doSpecial_1 (by decide +kernel) (by decide +kernel) (by decide +kernel) (by decide) ?_
    exact x_sub [0, 1] rfl (j_P_doSpecial_72 h N a1 S)
  refine x_ite (fun hq9 => ?_) (fun hq9 => ?_)
  · refine x_set hq9 ?_
    refine x_tabIn (off := 118) (tgt := 119) h dP_doSpecial_1 (by decide +kernel) (by decide +kernel) (by decide +kernel) (by decide) ?_
    exact x_sub [0, 1] rfl (j_P_doSpecial_119 h N a1 S)
  refine x_ite (fun hq10 => ?_) (fun hq10 => ?_)
  · refine x_set hq10 ?_
    refine x_tabIn (off := 118) (tgt := 119) h dP_doSpecial_1 (by decide +kernel) (by decide +kernel) (by decide +kernel) (by decide) ?_
    exact x_sub [0, 1] rfl (j_P_doSpecial_119 h N a1 S)
  refine x_tabOut (tgt := 136) h dP_doSpecial_1 (by have z0 := lv_neT (a := 0) hq1 (by decide +kernel); have z1 := lv_neT (a := 1) hq4 (by decide +kernel); have z2 := lv_neT (a := 2) hq7 (by decide +kernel); have z3 := lv_neT (a := 3) hq8 (by decide +kernel); have z4 := lv_neT (a := 4) hq9 (by decide +kernel); have z5 := lv_neT (a := 5) hq10 (by decide +kernel); omega) (by decide) ?_
  exact x_sub [] rfl (j_P_doSpecial_136 h N S)
set_option maxHeartbeats 4000000 in
set_option maxRecDepth 100000 in
theorem j_P_more_234 {l : Launch} {D : va_G} {ad : Nat → Nat} {ca : Nat → ClassId} {p : Program} {e : Env} {s : State} {m : MethodId} {args : Array Value} {below : List Frame} {meth : Method} {c : Code} {A : Nat → Prop} (h : xC p s m args meth c cP_more 4 (Cond.code yP_more cP_more 4 none :: wA) nW yP_more.cls none D clA (tysC ca) A) (N : Nat) (S : xSt) : xJ p l e rm_P_more s m args below meth c D clA (tysC ca) (cellsC ad ca) A false 4 234 [] [] S (f_P_more_234 N S) := by
  unfold f_P_more_234
  exact x_vret h dP_more_234
set_option maxHeartbeats 4000000 in
set_option maxRecDepth 100000 in
theorem j_P_more_138 {l : Launch} {D : va_G} {ad : Nat → Nat} {ca : Nat → ClassId} {p : Program} {e : Env} {s : State} {m : MethodId} {args : Array Value} {below : List Frame} {meth : Method} {c : Code} {A : Nat → Prop} (h : xC p s m args meth c cP_more 4 (Cond.code yP_more cP_more 4 none :: wA) nW yP_more.cls none D clA (tysC ca) A) (N : Nat) (w1 w2 : Int32) (S : xSt) : xJ p l e rm_P_more s m args below meth c D clA (tysC ca) (cellsC ad ca) A false 4 138 [] [.int w2, .int w1, .ref (ad 1)] S (f_P_more_138 N w1 w2 S) := by
  unfold f_P_more_138
  refine x_cVv (nx := 141) (rest := []) (As := [.int w1, .int w2]) h (m_B_writePort N w1 w2 S) (x_wV h goA y_B_writePort kP_214 ⟨by decide, by decide⟩ rfl rfl) (oC_1 ad ca) rfl rfl (Nat.le_of_ble_eq_true rfl) dP_more_138 rfl (fun v1 S2 => ?_)
  refine x_goto (tgt := 234) h dP_more_141 (by decide) ?_
  exact x_sub [] rfl (j_P_more_234 h N S2)
set_option maxHeartbeats 4000000 in
set_option maxRecDepth 100000 in
theorem j_P_more_47 {l : Launch} {D : va_G} {ad : Nat → Nat} {ca : Nat → ClassId} {p : Program} {e : Env} {s : State} {m : MethodId} {args : Array Value} {below : List Frame} {meth : Method} {c : Code} {A : Nat → Prop} (h : xC p s m args meth c cP_more 4 (Cond.code yP_more cP_more 4 none :: wA) nW yP_more.cls none D clA (tysC ca) A) (N : Nat) (a1 a2 a3 : Int32) (S : xSt) : xJ p l e rm_P_more s m args below meth c D clA (tysC ca) (cellsC ad ca) A false 4 47 [(0, .ref (ad 2)), (1, .int a1), (2, .int a2), (3, .int a3)] [] S (f_P_more_47 N a1 a2 a3 S) := by
  unfold f_P_more_47
  refine x_iload_n (nx := 48) (i := 1) h dP_more_47 rfl 1 rfl rfl ?_
  refine x_bipush (nx := 50) (v := (6 : Int32)) h dP_more_48 (by decide) rfl ?_
  refine x_ishr (nx := 51) h dP_more_50 rfl ?_
  refine x_iconst (nx := 52) (v := (1 : Int32)) h dP_more_51 (by decide) rfl ?_
  refine x_icmp_eq (nx := 55) (tgt := 56) h dP_more_52 (by decide) rfl ?_ ?_
  · refine x_iload_n (nx := 57) (i := 3) h dP_more_56 rfl 3 rfl rfl ?_
    refine x_ite (fun hq1 => ?_) (fun hq1 => ?_)
    · refine x_set hq1 ?_
      refine x_tabIn (off := 43) (tgt := 100) h dP_more_57 (by decide +kernel) (by decide +kernel) (by decide +kernel) (by decide) ?_
      refine x_aload_n (nx := 101) (i := 0) h dP_more_100 rfl 0 rfl rfl ?_
      refine x_iload_n (nx := 102) (i := 2) h dP_more_101 rfl 2 rfl rfl ?_
      refine x_cVv (nx := 105) (rest := []) (As := [.int a2]) h (m_P_takeFromPort N a2 S) (x_wV h goA y_P_takeFromPort kP_235 ⟨by decide, by decide⟩ rfl rfl) (oC_2 ad ca) rfl rfl (Nat.le_of_ble_eq_true rfl) dP_more_102 rfl (fun v2 S3 => ?_)
      refine x_goto (tgt := 234) h dP_more_105 (by decide) ?_
      exact x_sub [] rfl (j_P_more_234 h N S3)
    refine x_ite (fun hq4 => ?_) (fun hq4 => ?_)
    · refine x_set hq4 ?_
      refine x_tabIn (off := 51) (tgt := 108) h dP_more_57 (by decide +kernel) (by decide +kernel) (by decide +kernel) (by decide) ?_
      refine x_aload_n (nx := 109) (i := 0) h dP_more_108 rfl 0 rfl rfl ?_
      refine x_get (nx := 112) h (gC_2_0 ad ca _) (List.mem_cons_of_mem _ kP_21) dP_more_109 rfl ?_
      refine x_aload_n (nx := 113) (i := 0) h dP_more_112 rfl 0 rfl rfl ?_
      refine x_get (nx := 116) h (gC_2_1 ad ca _) (List.mem_cons_of_mem _ kP_10) dP_more_113 rfl ?_
      refine x_iconst (nx := 117) (v := (2 : Int32)) h dP_more_116 (by decide) rfl ?_
      refine x_cVi (nx := 120) (rest := [.ref (ad 1)]) (As := [.int (2 : Int32)]) h (m_G_joined N (2 : Int32) S) (x_wV h goA y_G_joined kP_211 ⟨by decide, by decide⟩ rfl rfl) (oC_5 ad ca) rfl rfl (Nat.le_of_ble_eq_true rfl) dP_more_117 rfl (fun v5 S6 => ?_)
      refine x_iload_n (nx := 121) (i := 2) h dP_more_120 rfl 2 rfl rfl ?_
      refine x_bipush (nx := 123) (v := (6 : Int32)) h dP_more_121 (by decide) rfl ?_
      refine x_icmp_ne (nx := 126) (tgt := 130) h dP_more_123 (by decide) rfl ?_ ?_
      · refine x_aload_n (nx := 131) (i := 0) h dP_more_130 rfl 0 rfl rfl ?_
        refine x_get (nx := 134) h (gC_2_1 ad ca _) (List.mem_cons_of_mem _ kP_10) dP_more_131 rfl ?_
        refine x_iload_n (nx := 135) (i := 2) h dP_more_134 rfl 2 rfl rfl ?_
        refine x_cVi (nx := 138) (rest := [.int v5, .ref (ad 1)]) (As := [.int a2]) h (m_G_single N a2 S6) (x_wV h goA y_G_single kP_125 ⟨by decide, by decide⟩ rfl rfl) (oC_5 ad ca) rfl rfl (Nat.le_of_ble_eq_true rfl) dP_more_135 rfl (fun v7 S8 => ?_)
        exact x_sub [] rfl (j_P_more_138 h N v5 v7 S8)
      · refine x_iconst (nx := 127) (v := (0 : Int32)) h dP_more_126 (by decide) rfl ?_
        refine x_goto (tgt := 138) h dP_more_127 (by decide) ?_
        exact x_sub [] rfl (j_P_more_138 h N v5 (0 : Int32) S6)
    refine x_ite (fun hq9 => ?_) (fun hq9 => ?_)
    · refine x_set hq9 ?_
      refine x_tabIn (off := 87) (tgt := 144) h dP_more_57 (by decide +kernel) (by decide +kernel) (by decide +kernel) (by decide) ?_
      refine x_aload_n (nx := 145) (i := 0) h dP_more_144 rfl 0 rfl rfl ?_
      refine x_iload_n (nx := 146) (i := 2) h dP_more_145 rfl 2 rfl rfl ?_
      refine x_cVv (nx := 149) (rest := []) (As := [.int a2]) h (m_P_sumWithCarry N a2 S) (x_wV h goA y_P_sumWithCarry kP_238 ⟨by decide, by decide⟩ rfl rfl) (oC_2 ad ca) rfl rfl (Nat.le_of_ble_eq_true rfl) dP_more_146 rfl (fun v10 S11 => ?_)
      refine x_goto (tgt := 234) h dP_more_149 (by decide) ?_
      exact x_sub [] rfl (j_P_more_234 h N S11)
    refine x_ite (fun hq12 => ?_) (fun hq12 => ?_)
    · refine x_set hq12 ?_
      refine x_tabIn (off := 95) (tgt := 152) h dP_more_57 (by decide +kernel) (by decide +kernel) (by decide +kernel) (by decide) ?_
      refine x_aload_n (nx := 153) (i := 0) h dP_more_152 rfl 0 rfl rfl ?_
      refine x_iload_n (nx := 154) (i := 2) h dP_more_153 rfl 2 rfl rfl ?_
      refine x_cVv (nx := 157) (rest := []) (As := [.int a2]) h (m_P_passPair N a2 S) (x_wV h goA y_P_passPair kP_241 ⟨by decide, by decide⟩ rfl rfl) (oC_2 ad ca) rfl rfl (Nat.le_of_ble_eq_true rfl) dP_more_154 rfl (fun v13 S14 => ?_)
      refine x_goto (tgt := 234) h dP_more_157 (by decide) ?_
      exact x_sub [] rfl (j_P_more_234 h N S14)
    refine x_ite (fun hq15 => ?_) (fun hq15 => ?_)
    · refine x_set hq15 ?_
      refine x_tabIn (off := 103) (tgt := 160) h dP_more_57 (by decide +kernel) (by decide +kernel) (by decide +kernel) (by decide) ?_
      refine x_aload_n (nx := 161) (i := 0) h dP_more_160 rfl 0 rfl rfl ?_
      refine x_get (nx := 164) h (gC_2_1 ad ca _) (List.mem_cons_of_mem _ kP_10) dP_more_161 rfl ?_
      refine x_iconst (nx := 165) (v := (0 : Int32)) h dP_more_164 (by decide) rfl ?_
      refine x_iconst (nx := 166) (v := (0 : Int32)) h dP_more_165 (by decide) rfl ?_
      refine x_aload_n (nx := 167) (i := 0) h dP_more_166 rfl 0 rfl rfl ?_
      refine x_get (nx := 170) h (gC_2_2 ad ca _) (List.mem_cons_of_mem _ kP_20) dP_more_167 rfl ?_
      refine x_iconst (nx := 171) (v := (0 : Int32)) h dP_more_170 (by decide) rfl ?_
      refine x_iald (nx := 172) h (aC_10 ad ca) dP_more_171 rfl (fun v16 => ?_)
      refine x_iconst (nx := 173) (v := (0 : Int32)) h dP_more_172 (by decide) rfl ?_
      refine x_cSi (nx := 176) (rest := [.int (0 : Int32), .ref (ad 5)]) (As := [.int (0 : Int32), .int v16, .int (0 : Int32)]) h (m_A_minus N (0 : Int32) v16 (0 : Int32) S) (x_wS h goA y_A_minus kP_180 ⟨by decide, by decide⟩ rfl rfl) rfl rfl (Nat.le_of_ble_eq_true rfl) dP_more_173 rfl (fun v17 S18 => ?_)
      refine x_cVv (nx := 179) (rest := []) (As := [.int (0 : Int32), .int v17]) h (m_G_split N (0 : Int32) v17 S18) (x_wV h goA y_G_split kP_190 ⟨by decide, by decide⟩ rfl rfl) (oC_5 ad ca) rfl rfl (Nat.le_of_ble_eq_true rfl) dP_more_176 rfl (fun v19 S20 => ?_)
      refine x_goto (tgt := 234) h dP_more_179 (by decide) ?_
      exact x_sub [] rfl (j_P_more_234 h N S20)
    refine x_ite (fun hq21 => ?_) (fun hq21 => ?_)
    · refine x_set hq21 ?_
      refine x_tabIn (off := 125) (tgt := 182) h dP_more_57 (by decide +kernel) (by decide +kernel) (by decide +kernel) (by decide) ?_
      refine x_aload_n (nx := 183) (i := 0) h dP_more_182 rfl 0 rfl rfl ?_
      refine x_get (nx := 186) h (gC_2_2 ad ca _) (List.mem_cons_of_mem _ kP_20) dP_more_183 rfl ?_
      refine x_bipush (nx := 188) (v := (21 : Int32)) h dP_more_186 (by decide) rfl ?_
      refine x_aload_n (nx := 189) (i := 0) h dP_more_188 rfl 0 rfl rfl ?_
      refine x_cVi (nx := 192) (rest := [.int (21 : Int32), .ref (ad 10)]) (As := []) h (m_P_pop N S) (x_wV h goA y_P_pop kP_205 ⟨by decide, by decide⟩ rfl rfl) (oC_2 ad ca) rfl rfl (Nat.le_of_ble_eq_true rfl) dP_more_189 rfl (fun v22 S23 => ?_)
      refine x_iast (nx := 193) h (aC_10 ad ca) dP_more_192 rfl (fun S24 => ?_)
      refine x_aload_n (nx := 194) (i := 0) h dP_more_193 rfl 0 rfl rfl ?_
      refine x_get (nx := 197) h (gC_2_2 ad ca _) (List.mem_cons_of_mem _ kP_20) dP_more_194 rfl ?_
      refine x_bipush (nx := 199) (v := (22 : Int32)) h dP_more_197 (by decide) rfl ?_
      refine x_aload_n (nx := 200) (i := 0) h dP_more_199 rfl 0 rfl rfl ?_
      refine x_get (nx := 203) h (gC_2_2 ad ca _) (List.mem_cons_of_mem _ kP_20) dP_more_200 rfl ?_
      refine x_bipush (nx := 205) (v := (23 : Int32)) h dP_more_203 (by decide) rfl ?_
      refine x_iald (nx := 206) h (aC_10 ad ca) dP_more_205 rfl (fun v25 => ?_)
      refine x_iast (nx := 207) h (aC_10 ad ca) dP_more_206 rfl (fun S26 => ?_)
      refine x_goto (tgt := 234) h dP_more_207 (by decide) ?_
      exact x_sub [] rfl (j_P_more_234 h N S26)
    refine x_ite (fun hq27 => ?_) (fun hq27 => ?_)
    · refine x_set hq27 ?_
      refine x_tabIn (off := 153) (tgt := 210) h dP_more_57 (by decide +kernel) (by decide +kernel) (by decide +kernel) (by decide) ?_
      refine x_aload_n (nx := 211) (i := 0) h dP_more_210 rfl 0 rfl rfl ?_
      refine x_get (nx := 214) h (gC_2_2 ad ca _) (List.mem_cons_of_mem _ kP_20) dP_more_211 rfl ?_
      refine x_bipush (nx := 216) (v := (24 : Int32)) h dP_more_214 (by decide) rfl ?_
      refine x_iconst (nx := 217) (v := (0 : Int32)) h dP_more_216 (by decide) rfl ?_
      refine x_iload_n (nx := 218) (i := 2) h dP_more_217 rfl 2 rfl rfl ?_
      refine x_iconst (nx := 219) (v := (3 : Int32)) h dP_more_218 (by decide) rfl ?_
      refine x_iand (nx := 220) h dP_more_219 rfl ?_
      refine x_iconst (nx := 221) (v := (1 : Int32)) h dP_more_220 (by decide) rfl ?_
      refine x_isub (nx := 222) h dP_more_221 rfl ?_
      refine x_mmax (nx := 225) h (List.mem_cons_of_mem _ kP_244) (List.mem_cons_of_mem _ kx_static) (List.mem_cons_of_mem _ ki_X) (List.mem_cons_of_mem _ kx_code) (by decide) (Nat.le_of_ble_eq_true rfl) dP_more_222 rfl ?_
      refine x_iast (nx := 226) h (aC_10 ad ca) dP_more_225 rfl (fun S28 => ?_)
      refine x_goto (tgt := 234) h dP_more_226 (by decide) ?_
      exact x_sub [] rfl (j_P_more_234 h N S28)
    refine x_tabOut (tgt := 229) h dP_more_57 (by have z0 := lv_neT (a := 0) hq1 (by decide +kernel); have z1 := lv_neT (a := 1) hq4 (by decide +kernel); have z2 := lv_neT (a := 2) hq9 (by decide +kernel); have z3 := lv_neT (a := 3) hq12 (by decide +kernel); have z4 := lv_neT (a := 4) hq15 (by decide +kernel); have z5 := lv_neT (a := 5) hq21 (by decide +kernel); have z6 := lv_neT (a := 6) hq27 (by decide +kernel); omega) (by decide) ?_
    refine x_aload_n (nx := 230) (i := 0) h dP_more_229 rfl 0 rfl rfl ?_
    refine x_iload_n (nx := 231) (i := 2) h dP_more_230 rfl 2 rfl rfl ?_
    refine x_cVv (nx := 234) (rest := []) (As := [.int a2]) h (m_P_doSpecial N a2 S) (x_wV h goA y_P_doSpecial kP_249 ⟨by decide, by decide⟩ rfl rfl) (oC_2 ad ca) rfl rfl (Nat.le_of_ble_eq_true rfl) dP_more_231 rfl (fun v29 S30 => ?_)
    exact x_sub [] rfl (j_P_more_234 h N S30)
  · exact x_vret h dP_more_55
set_option maxHeartbeats 4000000 in
set_option maxRecDepth 100000 in
theorem m_P_more {l : Launch} {D : va_G} {ad : Nat → Nat} {ca : Nat → ClassId} (N : Nat) (a1 : Int32) (S : xSt) : xM l D clA (tysC ca) (cellsC ad ca) nW yP_more (Cond.code yP_more cP_more 4 none :: wA) rm_P_more false [.ref (ad 2), .int a1] S (f_P_more N a1 S) := by
  refine x_met (cc := cP_more) (maxL := 4) (ret := none) (by decide) rfl [.ref (ad 2), .int a1] (lv0 := [(0, .ref (ad 2)), (1, .int a1)]) (Nat.le_of_ble_eq_true rfl) rfl ?_
  intro p e s m args below meth c A h
  unfold f_P_more
  refine x_iload_n (nx := 1) (i := 1) h dP_more_0 rfl 1 rfl rfl ?_
  refine x_iconst (nx := 2) (v := (3 : Int32)) h dP_more_1 (by decide) rfl ?_
  refine x_ishr (nx := 3) h dP_more_2 rfl ?_
  refine x_bipush (nx := 5) (v := (7 : Int32)) h dP_more_3 (by decide) rfl ?_
  refine x_iand (nx := 6) h dP_more_5 rfl ?_
  refine x_val (fun b1 => ?_)
  refine x_istore_n (nx := 7) (i := 2) (lv' := [(2, .int b1), (0, .ref (ad 2)), (1, .int a1)]) h dP_more_6 rfl (by decide) rfl rfl ?_
  refine x_iload_n (nx := 8) (i := 1) h dP_more_7 rfl 2 rfl rfl ?_
  refine x_bipush (nx := 10) (v := (7 : Int32)) h dP_more_8 (by decide) rfl ?_
  refine x_iand (nx := 11) h dP_more_10 rfl ?_
  refine x_val (fun b2 => ?_)
  refine x_istore_n (nx := 12) (i := 3) (lv' := [(3, .int b2), (2, .int b1), (0, .ref (ad 2)), (1, .int a1)]) h dP_more_11 rfl (by decide) rfl rfl ?_
  refine x_iload_n (nx := 13) (i := 1) h dP_more_12 rfl 3 rfl rfl ?_
  refine x_bipush (nx := 15) (v := (6 : Int32)) h dP_more_13 (by decide) rfl ?_
  refine x_ishr (nx := 16) h dP_more_15 rfl ?_
  refine x_iconst (nx := 17) (v := (2 : Int32)) h dP_more_16 (by decide) rfl ?_
  refine x_icmp_ne (nx := 20) (tgt := 47) h dP_more_17 (by decide) rfl ?_ ?_
  · exact x_sub [2, 3, 1, 0] rfl (j_P_more_47 h N a1 b1 b2 S)
  · refine x_iload_n (nx := 21) (i := 2) h dP_more_20 rfl 1 rfl rfl ?_
    refine x_iconst (nx := 22) (v := (4 : Int32)) h dP_more_21 (by decide) rfl ?_
    refine x_icmp_lt (nx := 25) (tgt := 47) h dP_more_22 (by decide) rfl ?_ ?_
    · exact x_sub [2, 3, 1, 0] rfl (j_P_more_47 h N a1 b1 b2 S)
    · refine x_iload_n (nx := 26) (i := 3) h dP_more_25 rfl 0 rfl rfl ?_
      refine x_iconst (nx := 27) (v := (2 : Int32)) h dP_more_26 (by decide) rfl ?_
      refine x_icmp_ge (nx := 30) (tgt := 47) h dP_more_27 (by decide) rfl ?_ ?_
      · exact x_sub [2, 3, 1, 0] rfl (j_P_more_47 h N a1 b1 b2 S)
      · refine x_iload_n (nx := 31) (i := 3) h dP_more_30 rfl 0 rfl rfl ?_
        refine x_if_ne (nx := 34) (tgt := 42) h dP_more_31 (by decide) rfl ?_ ?_
        · refine x_aload_n (nx := 43) (i := 0) h dP_more_42 rfl 2 rfl rfl ?_
          refine x_iload_n (nx := 44) (i := 2) h dP_more_43 rfl 1 rfl rfl ?_
          refine x_cVv (nx := 47) (rest := []) (As := [.int b1]) h (m_P_lookAtByte N b1 S) (x_wV h goA y_P_lookAtByte kP_232 ⟨by decide, by decide⟩ rfl rfl) (oC_2 ad ca) rfl rfl (Nat.le_of_ble_eq_true rfl) dP_more_44 rfl (fun v3 S4 => ?_)
          exact x_sub [2, 3, 1, 0] rfl (j_P_more_47 h N a1 b1 b2 S4)
        · refine x_aload_n (nx := 35) (i := 0) h dP_more_34 rfl 2 rfl rfl ?_
          refine x_iload_n (nx := 36) (i := 2) h dP_more_35 rfl 1 rfl rfl ?_
          refine x_cVv (nx := 39) (rest := []) (As := [.int b1]) h (m_P_moveByte N b1 S) (x_wV h goA y_P_moveByte kP_229 ⟨by decide, by decide⟩ rfl rfl) (oC_2 ad ca) rfl rfl (Nat.le_of_ble_eq_true rfl) dP_more_36 rfl (fun v5 S6 => ?_)
          refine x_goto (tgt := 47) h dP_more_39 (by decide) ?_
          exact x_sub [2, 3, 1, 0] rfl (j_P_more_47 h N a1 b1 b2 S6)
set_option maxHeartbeats 4000000 in
set_option maxRecDepth 100000 in
theorem m_G_swap {l : Launch} {D : va_G} {ad : Nat → Nat} {ca : Nat → ClassId} (N : Nat) (a1 a2 : Int32) (S : xSt) : xM l D clA (tysC ca) (cellsC ad ca) nW yG_swap (Cond.code yG_swap cG_swap 4 none :: wA) rm_G_swap false [.ref (ad 5), .int a1, .int a2] S (f_G_swap N a1 a2 S) := by
  refine x_met (cc := cG_swap) (maxL := 4) (ret := none) (by decide) rfl [.ref (ad 5), .int a1, .int a2] (lv0 := [(0, .ref (ad 5)), (1, .int a1), (2, .int a2)]) (Nat.le_of_ble_eq_true rfl) rfl ?_
  intro p e s m args below meth c A h
  unfold f_G_swap
  refine x_aload_n (nx := 1) (i := 0) h dG_swap_0 rfl 0 rfl rfl ?_
  refine x_get (nx := 4) h (gC_5_0 ad ca _) (List.mem_cons_of_mem _ kG_9) dG_swap_1 rfl ?_
  refine x_iload_n (nx := 5) (i := 1) h dG_swap_4 rfl 1 rfl rfl ?_
  refine x_iald (nx := 6) h (aC_10 ad ca) dG_swap_5 rfl (fun v1 => ?_)
  refine x_istore_n (nx := 7) (i := 3) (lv' := [(3, .int v1), (0, .ref (ad 5)), (1, .int a1), (2, .int a2)]) h dG_swap_6 rfl (by decide) rfl rfl ?_
  refine x_aload_n (nx := 8) (i := 0) h dG_swap_7 rfl 1 rfl rfl ?_
  refine x_get (nx := 11) h (gC_5_0 ad ca _) (List.mem_cons_of_mem _ kG_9) dG_swap_8 rfl ?_
  refine x_iload_n (nx := 12) (i := 1) h dG_swap_11 rfl 2 rfl rfl ?_
  refine x_aload_n (nx := 13) (i := 0) h dG_swap_12 rfl 1 rfl rfl ?_
  refine x_get (nx := 16) h (gC_5_0 ad ca _) (List.mem_cons_of_mem _ kG_9) dG_swap_13 rfl ?_
  refine x_iload_n (nx := 17) (i := 2) h dG_swap_16 rfl 3 rfl rfl ?_
  refine x_iald (nx := 18) h (aC_10 ad ca) dG_swap_17 rfl (fun v2 => ?_)
  refine x_iast (nx := 19) h (aC_10 ad ca) dG_swap_18 rfl (fun S3 => ?_)
  refine x_aload_n (nx := 20) (i := 0) h dG_swap_19 rfl 1 rfl rfl ?_
  refine x_get (nx := 23) h (gC_5_0 ad ca _) (List.mem_cons_of_mem _ kG_9) dG_swap_20 rfl ?_
  refine x_iload_n (nx := 24) (i := 2) h dG_swap_23 rfl 3 rfl rfl ?_
  refine x_iload_n (nx := 25) (i := 3) h dG_swap_24 rfl 0 rfl rfl ?_
  refine x_iast (nx := 26) h (aC_10 ad ca) dG_swap_25 rfl (fun S4 => ?_)
  exact x_vret h dG_swap_26
set_option maxHeartbeats 4000000 in
set_option maxRecDepth 100000 in
theorem j_G_swapWithSecond_28 {l : Launch} {D : va_G} {ad : Nat → Nat} {ca : Nat → ClassId} {p : Program} {e : Env} {s : State} {m : MethodId} {args : Array Value} {below : List Frame} {meth : Method} {c : Code} {A : Nat → Prop} (h : xC p s m args meth c cG_swapWithSecond 4 (Cond.code yG_swapWithSecond cG_swapWithSecond 4 none :: wA) nW yG_swapWithSecond.cls none D clA (tysC ca) A) (N : Nat) (S : xSt) : xJ p l e rm_G_swapWithSecond s m args below meth c D clA (tysC ca) (cellsC ad ca) A false 4 28 [] [] S (f_G_swapWithSecond_28 N S) := by
  unfold f_G_swapWithSecond_28
  exact x_vret h dG_swapWithSecond_28
set_option maxHeartbeats 4000000 in
set_option maxRecDepth 100000 in
theorem j_G_swapWithSecond_2 {l : Launch} {D : va_G} {ad : Nat → Nat} {ca : Nat → ClassId} {p : Program} {e : Env} {s : State} {m : MethodId} {args : Array Value} {below : List Frame} {meth : Method} {c : Code} {A : Nat → Prop} (h : xC p s m args meth c cG_swapWithSecond 4 (Cond.code yG_swapWithSecond cG_swapWithSecond 4 none :: wA) nW yG_swapWithSecond.cls none D clA (tysC ca) A) (N : Nat) : ∀ (n : Nat) (a2 a3 : Int32) (S : xSt), xJ p l e rm_G_swapWithSecond s m args below meth c D clA (tysC ca) (cellsC ad ca) A false 4 2 [(0, .ref (ad 5)), (2, .int a2), (3, .int a3)] [] S (f_G_swapWithSecond_2 N n a2 a3 S) := by
  intro n
  induction n with
  | zero =>
    intro a2 a3 S
    rw [f_G_swapWithSecond_2]
    exact x_none
  | succ n ih =>
    intro a2 a3 S
    rw [f_G_swapWithSecond_2]
    refine x_iload_n (nx := 3) (i := 3) h dG_swapWithSecond_2 rfl 2 rfl rfl ?_
    refine x_iload_n (nx := 4) (i := 2) h dG_swapWithSecond_3 rfl 1 rfl rfl ?_
    refine x_icmp_gt (nx := 7) (tgt := 28) h dG_swapWithSecond_4 (by decide) rfl ?_ ?_
    · exact x_sub [] rfl (j_G_swapWithSecond_28 h N S)
    · refine x_iload_n (nx := 8) (i := 3) h dG_swapWithSecond_7 rfl 2 rfl rfl ?_
      refine x_bipush (nx := 10) (v := (8 : Int32)) h dG_swapWithSecond_8 (by decide) rfl ?_
      refine x_icmp_ge (nx := 13) (tgt := 28) h dG_swapWithSecond_10 (by decide) rfl ?_ ?_
      · exact x_sub [] rfl (j_G_swapWithSecond_28 h N S)
      · refine x_aload_n (nx := 14) (i := 0) h dG_swapWithSecond_13 rfl 0 rfl rfl ?_
        refine x_iload_n (nx := 15) (i := 3) h dG_swapWithSecond_14 rfl 2 rfl rfl ?_
        refine x_iload_n (nx := 16) (i := 3) h dG_swapWithSecond_15 rfl 2 rfl rfl ?_
        refine x_bipush (nx := 18) (v := (8 : Int32)) h dG_swapWithSecond_16 (by decide) rfl ?_
        refine x_iadd (nx := 19) h dG_swapWithSecond_18 rfl ?_
        refine x_cVv (nx := 22) (rest := []) (As := [.int a3, .int (a3 + (8 : Int32))]) h (m_G_swap N a3 (a3 + (8 : Int32)) S) (x_wV h goA y_G_swap kG_38 ⟨by decide, by decide⟩ rfl rfl) (oC_5 ad ca) rfl rfl (Nat.le_of_ble_eq_true rfl) dG_swapWithSecond_19 rfl (fun v1 S2 => ?_)
        refine x_iinc (nx := 25) (i := 3) (v := (a3 + (1 : Int32))) (lv' := [(3, .int (a3 + (1 : Int32))), (0, .ref (ad 5)), (2, .int a2)]) h dG_swapWithSecond_22 2 rfl (by rw [show Int32.ofInt 1 = (1 : Int32) by decide]) (by decide) rfl rfl ?_
        refine x_goto (tgt := 2) h dG_swapWithSecond_25 (by decide) ?_
        exact x_sub [1, 2, 0] rfl (ih a2 (a3 + (1 : Int32)) S2)
set_option maxHeartbeats 4000000 in
set_option maxRecDepth 100000 in
theorem m_G_swapWithSecond {l : Launch} {D : va_G} {ad : Nat → Nat} {ca : Nat → ClassId} (N : Nat) (a1 a2 : Int32) (S : xSt) : xM l D clA (tysC ca) (cellsC ad ca) nW yG_swapWithSecond (Cond.code yG_swapWithSecond cG_swapWithSecond 4 none :: wA) rm_G_swapWithSecond false [.ref (ad 5), .int a1, .int a2] S (f_G_swapWithSecond N a1 a2 S) := by
  refine x_met (cc := cG_swapWithSecond) (maxL := 4) (ret := none) (by decide) rfl [.ref (ad 5), .int a1, .int a2] (lv0 := [(0, .ref (ad 5)), (1, .int a1), (2, .int a2)]) (Nat.le_of_ble_eq_true rfl) rfl ?_
  intro p e s m args below meth c A h
  unfold f_G_swapWithSecond
  refine x_iload_n (nx := 1) (i := 1) h dG_swapWithSecond_0 rfl 1 rfl rfl ?_
  refine x_istore_n (nx := 2) (i := 3) (lv' := [(3, .int a1), (0, .ref (ad 5)), (1, .int a1), (2, .int a2)]) h dG_swapWithSecond_1 rfl (by decide) rfl rfl ?_
  exact x_sub [1, 3, 0] rfl (j_G_swapWithSecond_2 h N N a2 a1 S)
set_option maxHeartbeats 4000000 in
set_option maxRecDepth 100000 in
theorem j_P_condition_84 {l : Launch} {D : va_G} {ad : Nat → Nat} {ca : Nat → ClassId} {p : Program} {e : Env} {s : State} {m : MethodId} {args : Array Value} {below : List Frame} {meth : Method} {c : Code} {A : Nat → Prop} (h : xC p s m args meth c cP_condition 3 (Cond.code yP_condition cP_condition 3 (some .boolean) :: wA) nW yP_condition.cls (some .boolean) D clA (tysC ca) A) (N : Nat) (w0 : Int32) (S : xSt) : xJ p l e rm_P_condition s m args below meth c D clA (tysC ca) (cellsC ad ca) A true 3 84 [] [.int w0] S (f_P_condition_84 N w0 S) := by
  unfold f_P_condition_84
  exact x_zret h dP_condition_84
set_option maxHeartbeats 4000000 in
set_option maxRecDepth 100000 in
theorem j_P_condition_76 {l : Launch} {D : va_G} {ad : Nat → Nat} {ca : Nat → ClassId} {p : Program} {e : Env} {s : State} {m : MethodId} {args : Array Value} {below : List Frame} {meth : Method} {c : Code} {A : Nat → Prop} (h : xC p s m args meth c cP_condition 3 (Cond.code yP_condition cP_condition 3 (some .boolean) :: wA) nW yP_condition.cls (some .boolean) D clA (tysC ca) A) (N : Nat) (w0 w1 : Int32) (S : xSt) : xJ p l e rm_P_condition s m args below meth c D clA (tysC ca) (cellsC ad ca) A true 3 76 [] [.int w1, .int w0] S (f_P_condition_76 N w0 w1 S) := by
  unfold f_P_condition_76
  refine x_icmp_ne (nx := 79) (tgt := 83) h dP_condition_76 (by decide) rfl ?_ ?_
  · refine x_iconst (nx := 84) (v := (0 : Int32)) h dP_condition_83 (by decide) rfl ?_
    exact x_sub [] rfl (j_P_condition_84 h N (0 : Int32) S)
  · refine x_iconst (nx := 80) (v := (1 : Int32)) h dP_condition_79 (by decide) rfl ?_
    refine x_goto (tgt := 84) h dP_condition_80 (by decide) ?_
    exact x_sub [] rfl (j_P_condition_84 h N (1 : Int32) S)
set_option maxHeartbeats 4000000 in
set_option maxRecDepth 100000 in
theorem j_P_condition_64 {l : Launch} {D : va_G} {ad : Nat → Nat} {ca : Nat → ClassId} {p : Program} {e : Env} {s : State} {m : MethodId} {args : Array Value} {below : List Frame} {meth : Method} {c : Code} {A : Nat → Prop} (h : xC p s m args meth c cP_condition 3 (Cond.code yP_condition cP_condition 3 (some .boolean) :: wA) nW yP_condition.cls (some .boolean) D clA (tysC ca) A) (N : Nat) (a1 w0 : Int32) (S : xSt) : xJ p l e rm_P_condition s m args below meth c D clA (tysC ca) (cellsC ad ca) A true 3 64 [(1, .int a1)] [.int w0] S (f_P_condition_64 N a1 w0 S) := by
  unfold f_P_condition_64
  refine x_iload_n (nx := 65) (i := 1) h dP_condition_64 rfl 0 rfl rfl ?_
  refine x_iconst (nx := 66) (v := (1 : Int32)) h dP_condition_65 (by decide) rfl ?_
  refine x_iand (nx := 67) h dP_condition_66 rfl ?_
  refine x_iconst (nx := 68) (v := (1 : Int32)) h dP_condition_67 (by decide) rfl ?_
  refine x_icmp_ne (nx := 71) (tgt := 75) h dP_condition_68 (by decide) rfl ?_ ?_
  · refine x_iconst (nx := 76) (v := (0 : Int32)) h dP_condition_75 (by decide) rfl ?_
    exact x_sub [] rfl (j_P_condition_76 h N w0 (0 : Int32) S)
  · refine x_iconst (nx := 72) (v := (1 : Int32)) h dP_condition_71 (by decide) rfl ?_
    refine x_goto (tgt := 76) h dP_condition_72 (by decide) ?_
    exact x_sub [] rfl (j_P_condition_76 h N w0 (1 : Int32) S)
set_option maxHeartbeats 4000000 in
set_option maxRecDepth 100000 in
theorem j_P_condition_48 {l : Launch} {D : va_G} {ad : Nat → Nat} {ca : Nat → ClassId} {p : Program} {e : Env} {s : State} {m : MethodId} {args : Array Value} {below : List Frame} {meth : Method} {c : Code} {A : Nat → Prop} (h : xC p s m args meth c cP_condition 3 (Cond.code yP_condition cP_condition 3 (some .boolean) :: wA) nW yP_condition.cls (some .boolean) D clA (tysC ca) A) (N : Nat) (a1 a2 : Int32) (S : xSt) : xJ p l e rm_P_condition s m args below meth c D clA (tysC ca) (cellsC ad ca) A true 3 48 [(0, .ref (ad 2)), (1, .int a1), (2, .int a2)] [] S (f_P_condition_48 N a1 a2 S) := by
  unfold f_P_condition_48
  refine x_aload_n (nx := 49) (i := 0) h dP_condition_48 rfl 0 rfl rfl ?_
  refine x_get (nx := 52) h (gC_2_2 ad ca _) (List.mem_cons_of_mem _ kP_20) dP_condition_49 rfl ?_
  refine x_iconst (nx := 53) (v := (1 : Int32)) h dP_condition_52 (by decide) rfl ?_
  refine x_iald (nx := 54) h (aC_10 ad ca) dP_condition_53 rfl (fun v1 => ?_)
  refine x_iload_n (nx := 55) (i := 2) h dP_condition_54 rfl 2 rfl rfl ?_
  refine x_iand (nx := 56) h dP_condition_55 rfl ?_
  refine x_if_eq (nx := 59) (tgt := 63) h dP_condition_56 (by decide) rfl ?_ ?_
  · refine x_iconst (nx := 64) (v := (0 : Int32)) h dP_condition_63 (by decide) rfl ?_
    exact x_sub [1] rfl (j_P_condition_64 h N a1 (0 : Int32) S)
  · refine x_iconst (nx := 60) (v := (1 : Int32)) h dP_condition_59 (by decide) rfl ?_
    refine x_goto (tgt := 64) h dP_condition_60 (by decide) ?_
    exact x_sub [1] rfl (j_P_condition_64 h N a1 (1 : Int32) S)
set_option maxHeartbeats 4000000 in
set_option maxRecDepth 100000 in
theorem m_P_condition {l : Launch} {D : va_G} {ad : Nat → Nat} {ca : Nat → ClassId} (N : Nat) (a1 : Int32) (S : xSt) : xM l D clA (tysC ca) (cellsC ad ca) nW yP_condition (Cond.code yP_condition cP_condition 3 (some .boolean) :: wA) rm_P_condition true [.ref (ad 2), .int a1] S (f_P_condition N a1 S) := by
  refine x_met (cc := cP_condition) (maxL := 3) (ret := (some .boolean)) (by decide) rfl [.ref (ad 2), .int a1] (lv0 := [(0, .ref (ad 2)), (1, .int a1)]) (Nat.le_of_ble_eq_true rfl) rfl ?_
  intro p e s m args below meth c A h
  unfold f_P_condition
  refine x_iload_n (nx := 1) (i := 1) h dP_condition_0 rfl 1 rfl rfl ?_
  refine x_iconst (nx := 2) (v := (1 : Int32)) h dP_condition_1 (by decide) rfl ?_
  refine x_ishr (nx := 3) h dP_condition_2 rfl ?_
  refine x_ite (fun hq1 => ?_) (fun hq1 => ?_)
  · refine x_set hq1 ?_
    refine x_tabIn (off := 25) (tgt := 28) h dP_condition_3 (by decide +kernel) (by decide +kernel) (by decide +kernel) (by decide) ?_
    refine x_bipush (nx := 30) (v := (64 : Int32)) h dP_condition_28 (by decide) rfl ?_
    refine x_istore_n (nx := 31) (i := 2) (lv' := [(2, .int (64 : Int32)), (0, .ref (ad 2)), (1, .int a1)]) h dP_condition_30 rfl (by decide) rfl rfl ?_
    refine x_goto (tgt := 48) h dP_condition_31 (by decide) ?_
    exact x_sub [1, 2, 0] rfl (j_P_condition_48 h N a1 (64 : Int32) S)
  refine x_ite (fun hq2 => ?_) (fun hq2 => ?_)
  · refine x_set hq2 ?_
    refine x_tabIn (off := 31) (tgt := 34) h dP_condition_3 (by decide +kernel) (by decide +kernel) (by decide +kernel) (by decide) ?_
    refine x_iconst (nx := 35) (v := (1 : Int32)) h dP_condition_34 (by decide) rfl ?_
    refine x_istore_n (nx := 36) (i := 2) (lv' := [(2, .int (1 : Int32)), (0, .ref (ad 2)), (1, .int a1)]) h dP_condition_35 rfl (by decide) rfl rfl ?_
    refine x_goto (tgt := 48) h dP_condition_36 (by decide) ?_
    exact x_sub [1, 2, 0] rfl (j_P_condition_48 h N a1 (1 : Int32) S)
  refine x_ite (fun hq3 => ?_) (fun hq3 => ?_)
  · refine x_set hq3 ?_
    refine x_tabIn (off := 36) (tgt := 39) h dP_condition_3 (by decide +kernel) (by decide +kernel) (by decide +kernel) (by decide) ?_
    refine x_iconst (nx := 40) (v := (4 : Int32)) h dP_condition_39 (by decide) rfl ?_
    refine x_istore_n (nx := 41) (i := 2) (lv' := [(2, .int (4 : Int32)), (0, .ref (ad 2)), (1, .int a1)]) h dP_condition_40 rfl (by decide) rfl rfl ?_
    refine x_goto (tgt := 48) h dP_condition_41 (by decide) ?_
    exact x_sub [1, 2, 0] rfl (j_P_condition_48 h N a1 (4 : Int32) S)
  refine x_tabOut (tgt := 44) h dP_condition_3 (by have z0 := lv_neT (a := 0) hq1 (by decide +kernel); have z1 := lv_neT (a := 1) hq2 (by decide +kernel); have z2 := lv_neT (a := 2) hq3 (by decide +kernel); omega) (by decide) ?_
  refine x_sipush (nx := 47) (v := (128 : Int32)) h dP_condition_44 (by decide) rfl ?_
  refine x_istore_n (nx := 48) (i := 2) (lv' := [(2, .int (128 : Int32)), (0, .ref (ad 2)), (1, .int a1)]) h dP_condition_47 rfl (by decide) rfl rfl ?_
  exact x_sub [1, 2, 0] rfl (j_P_condition_48 h N a1 (128 : Int32) S)
