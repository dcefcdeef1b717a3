set_option maxHeartbeats 4000000 in
set_option maxRecDepth 100000 in
theorem j_M_put_114 {l : Launch} {D : va_G} {ad : Nat → Nat} {ca : Nat → ClassId} {p : Program} {e : Env} {s : State} {m : MethodId} {args : Array Value} {below : List Frame} {meth : Method} {c : Code} {A : Nat → Prop} (h : xC p s m args meth c cM_put 3 (Cond.code yM_put cM_put 3 none :: wA) nW yM_put.cls none D clA (tysM ca) A) (N : Nat) (S : xSt) : xJ p l e rm_M_put s m args below meth c D clA (tysM ca) (cellsM ad ca) A false 3 114 [] [] S (f_M_put_114 N S) := by
  unfold f_M_put_114
  exact x_vret h dM_put_114
set_option maxHeartbeats 4000000 in
set_option maxRecDepth 100000 in
theorem j_M_put_112 {l : Launch} {D : va_G} {ad : Nat → Nat} {ca : Nat → ClassId} {p : Program} {e : Env} {s : State} {m : MethodId} {args : Array Value} {below : List Frame} {meth : Method} {c : Code} {A : Nat → Prop} (h : xC p s m args meth c cM_put 3 (Cond.code yM_put cM_put 3 none :: wA) nW yM_put.cls none D clA (tysM ca) A) (N : Nat) (a2 w1 : Int32) (S : xSt) : xJ p l e rm_M_put s m args below meth c D clA (tysM ca) (cellsM ad ca) A false 3 112 [(2, .int a2)] [.int w1, .ref (ad 2)] S (f_M_put_112 N a2 w1 S) := by
  unfold f_M_put_112
  refine x_iload_n (nx := 113) (i := 2) h dM_put_112 rfl 0 rfl rfl ?_
  refine x_iast (nx := 114) h (aM_2 ad ca) dM_put_113 rfl (fun S1 => ?_)
  exact x_sub [] rfl (j_M_put_114 h N S1)
set_option maxHeartbeats 4000000 in
set_option maxRecDepth 100000 in
theorem j_M_put_95 {l : Launch} {D : va_G} {ad : Nat → Nat} {ca : Nat → ClassId} {p : Program} {e : Env} {s : State} {m : MethodId} {args : Array Value} {below : List Frame} {meth : Method} {c : Code} {A : Nat → Prop} (h : xC p s m args meth c cM_put 3 (Cond.code yM_put cM_put 3 none :: wA) nW yM_put.cls none D clA (tysM ca) A) (N : Nat) (a1 a2 : Int32) (S : xSt) : xJ p l e rm_M_put s m args below meth c D clA (tysM ca) (cellsM ad ca) A false 3 95 [(0, .ref (ad 0)), (1, .int a1), (2, .int a2)] [] S (f_M_put_95 N a1 a2 S) := by
  unfold f_M_put_95
  refine x_aload_n (nx := 96) (i := 0) h dM_put_95 rfl 0 rfl rfl ?_
  refine x_get (nx := 99) h (gM_0_1 ad ca _) (List.mem_cons_of_mem _ kM_13) dM_put_96 rfl ?_
  refine x_iload_n (nx := 100) (i := 1) h dM_put_99 rfl 1 rfl rfl ?_
  refine x_bipush (nx := 102) (v := (7 : Int32)) h dM_put_100 (by decide) rfl ?_
  refine x_icmp_ne (nx := 105) (tgt := 109) h dM_put_102 (by decide) rfl ?_ ?_
  · refine x_iload_n (nx := 110) (i := 1) h dM_put_109 rfl 1 rfl rfl ?_
    refine x_iconst (nx := 111) (v := (2 : Int32)) h dM_put_110 (by decide) rfl ?_
    refine x_iadd (nx := 112) h dM_put_111 rfl ?_
    exact x_sub [2] rfl (j_M_put_112 h N a2 (a1 + (2 : Int32)) S)
  · refine x_iconst (nx := 106) (v := (0 : Int32)) h dM_put_105 (by decide) rfl ?_
    refine x_goto (tgt := 112) h dM_put_106 (by decide) ?_
    exact x_sub [2] rfl (j_M_put_112 h N a2 (0 : Int32) S)
set_option maxHeartbeats 4000000 in
set_option maxRecDepth 100000 in
theorem j_M_put_91 {l : Launch} {D : va_G} {ad : Nat → Nat} {ca : Nat → ClassId} {p : Program} {e : Env} {s : State} {m : MethodId} {args : Array Value} {below : List Frame} {meth : Method} {c : Code} {A : Nat → Prop} (h : xC p s m args meth c cM_put 3 (Cond.code yM_put cM_put 3 none :: wA) nW yM_put.cls none D clA (tysM ca) A) (N : Nat) (w1 w2 : Int32) (S : xSt) : xJ p l e rm_M_put s m args below meth c D clA (tysM ca) (cellsM ad ca) A false 3 91 [] [.int w2, .int w1, .ref (ad 2)] S (f_M_put_91 N w1 w2 S) := by
  unfold f_M_put_91
  refine x_iast (nx := 92) h (aM_2 ad ca) dM_put_91 rfl (fun S1 => ?_)
  refine x_goto (tgt := 114) h dM_put_92 (by decide) ?_
  exact x_sub [] rfl (j_M_put_114 h N S1)
set_option maxHeartbeats 4000000 in
set_option maxRecDepth 100000 in
theorem j_M_put_28 {l : Launch} {D : va_G} {ad : Nat → Nat} {ca : Nat → ClassId} {p : Program} {e : Env} {s : State} {m : MethodId} {args : Array Value} {below : List Frame} {meth : Method} {c : Code} {A : Nat → Prop} (h : xC p s m args meth c cM_put 3 (Cond.code yM_put cM_put 3 none :: wA) nW yM_put.cls none D clA (tysM ca) A) (N : Nat) (a1 a2 : Int32) (S : xSt) : xJ p l e rm_M_put s m args below meth c D clA (tysM ca) (cellsM ad ca) A false 3 28 [(0, .ref (ad 0)), (1, .int a1), (2, .int a2)] [] S (f_M_put_28 N a1 a2 S) := by
  unfold f_M_put_28
  refine x_aload_n (nx := 29) (i := 0) h dM_put_28 rfl 0 rfl rfl ?_
  refine x_get (nx := 32) h (gM_0_4 ad ca _) (List.mem_cons_of_mem _ kM_59) dM_put_29 rfl ?_
  refine x_if_eq (nx := 35) (tgt := 95) h dM_put_32 (by decide) rfl ?_ ?_
  · exact x_sub [0, 1, 2] rfl (j_M_put_95 h N a1 a2 S)
  · refine x_aload_n (nx := 36) (i := 0) h dM_put_35 rfl 0 rfl rfl ?_
    refine x_get (nx := 39) h (gM_0_5 ad ca _) (List.mem_cons_of_mem _ kM_80) dM_put_36 rfl ?_
    refine x_if_ne (nx := 42) (tgt := 95) h dM_put_39 (by decide) rfl ?_ ?_
    · exact x_sub [0, 1, 2] rfl (j_M_put_95 h N a1 a2 S)
    · refine x_aload_n (nx := 43) (i := 0) h dM_put_42 rfl 0 rfl rfl ?_
      refine x_get (nx := 46) h (gM_0_1 ad ca _) (List.mem_cons_of_mem _ kM_13) dM_put_43 rfl ?_
      refine x_aload_n (nx := 47) (i := 0) h dM_put_46 rfl 0 rfl rfl ?_
      refine x_get (nx := 50) h (gM_0_4 ad ca _) (List.mem_cons_of_mem _ kM_59) dM_put_47 rfl ?_
      refine x_iload_n (nx := 51) (i := 1) h dM_put_50 rfl 1 rfl rfl ?_
      refine x_iconst (nx := 52) (v := (4 : Int32)) h dM_put_51 (by decide) rfl ?_
      refine x_icmp_ne (nx := 55) (tgt := 77) h dM_put_52 (by decide) rfl ?_ ?_
      · refine x_aload_n (nx := 78) (i := 0) h dM_put_77 rfl 0 rfl rfl ?_
        refine x_get (nx := 81) h (gM_0_1 ad ca _) (List.mem_cons_of_mem _ kM_13) dM_put_78 rfl ?_
        refine x_aload_n (nx := 82) (i := 0) h dM_put_81 rfl 0 rfl rfl ?_
        refine x_get (nx := 85) h (gM_0_4 ad ca _) (List.mem_cons_of_mem _ kM_59) dM_put_82 rfl ?_
        refine x_iald (nx := 86) h (aM_2 ad ca) dM_put_85 rfl (fun v1 => ?_)
        refine x_ldc (nx := 88) (v := (65280 : Int32)) h (List.mem_cons_of_mem _ kM_84) dM_put_86 rfl ?_
        refine x_iand (nx := 89) h dM_put_88 rfl ?_
        refine x_iload_n (nx := 90) (i := 2) h dM_put_89 rfl 2 rfl rfl ?_
        refine x_iadd (nx := 91) h dM_put_90 rfl ?_
        exact x_sub [] rfl (j_M_put_91 h N (S 0 4) ((v1 &&& (65280 : Int32)) + a2) S)
      · refine x_sipush (nx := 58) (v := (256 : Int32)) h dM_put_55 (by decide) rfl ?_
        refine x_iload_n (nx := 59) (i := 2) h dM_put_58 rfl 2 rfl rfl ?_
        refine x_imul (nx := 60) h dM_put_59 rfl ?_
        refine x_aload_n (nx := 61) (i := 0) h dM_put_60 rfl 0 rfl rfl ?_
        refine x_get (nx := 64) h (gM_0_1 ad ca _) (List.mem_cons_of_mem _ kM_13) dM_put_61 rfl ?_
        refine x_aload_n (nx := 65) (i := 0) h dM_put_64 rfl 0 rfl rfl ?_
        refine x_get (nx := 68) h (gM_0_4 ad ca _) (List.mem_cons_of_mem _ kM_59) dM_put_65 rfl ?_
        refine x_iald (nx := 69) h (aM_2 ad ca) dM_put_68 rfl (fun v2 => ?_)
        refine x_sipush (nx := 72) (v := (255 : Int32)) h dM_put_69 (by decide) rfl ?_
        refine x_iand (nx := 73) h dM_put_72 rfl ?_
        refine x_iadd (nx := 74) h dM_put_73 rfl ?_
        refine x_goto (tgt := 91) h dM_put_74 (by decide) ?_
        exact x_sub [] rfl (j_M_put_91 h N (S 0 4) (((256 : Int32) * a2) + (v2 &&& (255 : Int32))) S)
set_option maxHeartbeats 4000000 in
set_option maxRecDepth 100000 in
theorem m_M_put {l : Launch} {D : va_G} {ad : Nat → Nat} {ca : Nat → ClassId} (N : Nat) (a1 a2 : Int32) (S : xSt) : xM l D clA (tysM ca) (cellsM ad ca) nW yM_put (Cond.code yM_put cM_put 3 none :: wA) rm_M_put false [.ref (ad 0), .int a1, .int a2] S (f_M_put N a1 a2 S) := by
  refine x_met (cc := cM_put) (maxL := 3) (ret := none) (by decide) rfl [.ref (ad 0), .int a1, .int a2] (lv0 := [(0, .ref (ad 0)), (1, .int a1), (2, .int a2)]) (Nat.le_of_ble_eq_true rfl) rfl ?_
  intro p e s m args below meth c A h
  unfold f_M_put
  refine x_iload_n (nx := 1) (i := 1) h dM_put_0 rfl 1 rfl rfl ?_
  refine x_bipush (nx := 3) (v := (6 : Int32)) h dM_put_1 (by decide) rfl ?_
  refine x_icmp_ne (nx := 6) (tgt := 18) h dM_put_3 (by decide) rfl ?_ ?_
  · refine x_iload_n (nx := 19) (i := 1) h dM_put_18 rfl 1 rfl rfl ?_
    refine x_iconst (nx := 20) (v := (4 : Int32)) h dM_put_19 (by decide) rfl ?_
    refine x_icmp_eq (nx := 23) (tgt := 28) h dM_put_20 (by decide) rfl ?_ ?_
    · exact x_sub [0, 1, 2] rfl (j_M_put_28 h N a1 a2 S)
    · refine x_iload_n (nx := 24) (i := 1) h dM_put_23 rfl 1 rfl rfl ?_
      refine x_iconst (nx := 25) (v := (5 : Int32)) h dM_put_24 (by decide) rfl ?_
      refine x_icmp_ne (nx := 28) (tgt := 95) h dM_put_25 (by decide) rfl ?_ ?_
      · exact x_sub [0, 1, 2] rfl (j_M_put_95 h N a1 a2 S)
      · exact x_sub [0, 1, 2] rfl (j_M_put_28 h N a1 a2 S)
  · refine x_aload_n (nx := 7) (i := 0) h dM_put_6 rfl 0 rfl rfl ?_
    refine x_aload_n (nx := 8) (i := 0) h dM_put_7 rfl 0 rfl rfl ?_
    refine x_get (nx := 11) h (gM_0_6 ad ca _) (List.mem_cons_of_mem _ kM_77) dM_put_8 rfl ?_
    refine x_iload_n (nx := 12) (i := 2) h dM_put_11 rfl 2 rfl rfl ?_
    refine x_cVv (nx := 15) (rest := []) (As := [.int (S 0 6), .int a2]) h (m_M_write N (S 0 6) a2 S) (x_wV h goA y_M_write kM_56 ⟨by decide, by decide⟩ rfl rfl) (oM_0 ad ca) rfl rfl (Nat.le_of_ble_eq_true rfl) dM_put_12 rfl (fun v1 S2 => ?_)
    refine x_goto (tgt := 114) h dM_put_15 (by decide) ?_
    exact x_sub [] rfl (j_M_put_114 h N S2)
set_option maxHeartbeats 4000000 in
set_option maxRecDepth 100000 in
theorem m_M_push {l : Launch} {D : va_G} {ad : Nat → Nat} {ca : Nat → ClassId} (N : Nat) (a1 : Int32) (S : xSt) : xM l D clA (tysM ca) (cellsM ad ca) nW yM_push (Cond.code yM_push cM_push 2 none :: wA) rm_M_push false [.ref (ad 0), .int a1] S (f_M_push N a1 S) := by
  refine x_met (cc := cM_push) (maxL := 2) (ret := none) (by decide) rfl [.ref (ad 0), .int a1] (lv0 := [(0, .ref (ad 0)), (1, .int a1)]) (Nat.le_of_ble_eq_true rfl) rfl ?_
  intro p e s m args below meth c A h
  unfold f_M_push
  refine x_aload_n (nx := 1) (i := 0) h dM_push_0 rfl 0 rfl rfl ?_
  refine x_get (nx := 4) h (gM_0_1 ad ca _) (List.mem_cons_of_mem _ kM_13) dM_push_1 rfl ?_
  refine x_bipush (nx := 6) (v := (20 : Int32)) h dM_push_4 (by decide) rfl ?_
  refine x_aload_n (nx := 7) (i := 0) h dM_push_6 rfl 0 rfl rfl ?_
  refine x_get (nx := 10) h (gM_0_1 ad ca _) (List.mem_cons_of_mem _ kM_13) dM_push_7 rfl ?_
  refine x_bipush (nx := 12) (v := (20 : Int32)) h dM_push_10 (by decide) rfl ?_
  refine x_iald (nx := 13) h (aM_2 ad ca) dM_push_12 rfl (fun v1 => ?_)
  refine x_iconst (nx := 14) (v := (1 : Int32)) h dM_push_13 (by decide) rfl ?_
  refine x_isub (nx := 15) h dM_push_14 rfl ?_
  refine x_ldc (nx := 17) (v := (65535 : Int32)) h (List.mem_cons_of_mem _ kM_44) dM_push_15 rfl ?_
  refine x_iand (nx := 18) h dM_push_17 rfl ?_
  refine x_iast (nx := 19) h (aM_2 ad ca) dM_push_18 rfl (fun S2 => ?_)
  refine x_aload_n (nx := 20) (i := 0) h dM_push_19 rfl 0 rfl rfl ?_
  refine x_aload_n (nx := 21) (i := 0) h dM_push_20 rfl 0 rfl rfl ?_
  refine x_get (nx := 24) h (gM_0_1 ad ca _) (List.mem_cons_of_mem _ kM_13) dM_push_21 rfl ?_
  refine x_bipush (nx := 26) (v := (20 : Int32)) h dM_push_24 (by decide) rfl ?_
  refine x_iald (nx := 27) h (aM_2 ad ca) dM_push_26 rfl (fun v3 => ?_)
  refine x_iload_n (nx := 28) (i := 1) h dM_push_27 rfl 1 rfl rfl ?_
  refine x_bipush (nx := 30) (v := (8 : Int32)) h dM_push_28 (by decide) rfl ?_
  refine x_ishr (nx := 31) h dM_push_30 rfl ?_
  refine x_cVv (nx := 34) (rest := []) (As := [.int v3, .int (a1 >>> ((8 : Int32) &&& 31))]) h (m_M_write N v3 (a1 >>> ((8 : Int32) &&& 31)) S2) (x_wV h goA y_M_write kM_56 ⟨by decide, by decide⟩ rfl rfl) (oM_0 ad ca) rfl rfl (Nat.le_of_ble_eq_true rfl) dM_push_31 rfl (fun v4 S5 => ?_)
  refine x_aload_n (nx := 35) (i := 0) h dM_push_34 rfl 0 rfl rfl ?_
  refine x_get (nx := 38) h (gM_0_1 ad ca _) (List.mem_cons_of_mem _ kM_13) dM_push_35 rfl ?_
  refine x_bipush (nx := 40) (v := (20 : Int32)) h dM_push_38 (by decide) rfl ?_
  refine x_aload_n (nx := 41) (i := 0) h dM_push_40 rfl 0 rfl rfl ?_
  refine x_get (nx := 44) h (gM_0_1 ad ca _) (List.mem_cons_of_mem _ kM_13) dM_push_41 rfl ?_
  refine x_bipush (nx := 46) (v := (20 : Int32)) h dM_push_44 (by decide) rfl ?_
  refine x_iald (nx := 47) h (aM_2 ad ca) dM_push_46 rfl (fun v6 => ?_)
  refine x_iconst (nx := 48) (v := (1 : Int32)) h dM_push_47 (by decide) rfl ?_
  refine x_isub (nx := 49) h dM_push_48 rfl ?_
  refine x_ldc (nx := 51) (v := (65535 : Int32)) h (List.mem_cons_of_mem _ kM_44) dM_push_49 rfl ?_
  refine x_iand (nx := 52) h dM_push_51 rfl ?_
  refine x_iast (nx := 53) h (aM_2 ad ca) dM_push_52 rfl (fun S7 => ?_)
  refine x_aload_n (nx := 54) (i := 0) h dM_push_53 rfl 0 rfl rfl ?_
  refine x_aload_n (nx := 55) (i := 0) h dM_push_54 rfl 0 rfl rfl ?_
  refine x_get (nx := 58) h (gM_0_1 ad ca _) (List.mem_cons_of_mem _ kM_13) dM_push_55 rfl ?_
  refine x_bipush (nx := 60) (v := (20 : Int32)) h dM_push_58 (by decide) rfl ?_
  refine x_iald (nx := 61) h (aM_2 ad ca) dM_push_60 rfl (fun v8 => ?_)
  refine x_iload_n (nx := 62) (i := 1) h dM_push_61 rfl 1 rfl rfl ?_
  refine x_cVv (nx := 65) (rest := []) (As := [.int v8, .int a1]) h (m_M_write N v8 a1 S7) (x_wV h goA y_M_write kM_56 ⟨by decide, by decide⟩ rfl rfl) (oM_0 ad ca) rfl rfl (Nat.le_of_ble_eq_true rfl) dM_push_62 rfl (fun v9 S10 => ?_)
  exact x_vret h dM_push_65
set_option maxHeartbeats 4000000 in
set_option maxRecDepth 100000 in
theorem m_M_pop {l : Launch} {D : va_G} {ad : Nat → Nat} {ca : Nat → ClassId} (N : Nat) (S : xSt) : xM l D clA (tysM ca) (cellsM ad ca) nW yM_pop (Cond.code yM_pop cM_pop 3 (some .int) :: wA) rm_M_pop true [.ref (ad 0)] S (f_M_pop N S) := by
  refine x_met (cc := cM_pop) (maxL := 3) (ret := (some .int)) (by decide) rfl [.ref (ad 0)] (lv0 := [(0, .ref (ad 0))]) (Nat.le_of_ble_eq_true rfl) rfl ?_
  intro p e s m args below meth c A h
  unfold f_M_pop
  refine x_aload_n (nx := 1) (i := 0) h dM_pop_0 rfl 0 rfl rfl ?_
  refine x_aload_n (nx := 2) (i := 0) h dM_pop_1 rfl 0 rfl rfl ?_
  refine x_get (nx := 5) h (gM_0_1 ad ca _) (List.mem_cons_of_mem _ kM_13) dM_pop_2 rfl ?_
  refine x_bipush (nx := 7) (v := (20 : Int32)) h dM_pop_5 (by decide) rfl ?_
  refine x_iald (nx := 8) h (aM_2 ad ca) dM_pop_7 rfl (fun v1 => ?_)
  refine x_cVi (nx := 11) (rest := []) (As := [.int v1]) h (m_M_read N v1 S) (x_wV h goA y_M_read kM_48 ⟨by decide, by decide⟩ rfl rfl) (oM_0 ad ca) rfl rfl (Nat.le_of_ble_eq_true rfl) dM_pop_8 rfl (fun v2 S3 => ?_)
  refine x_istore_n (nx := 12) (i := 1) (lv' := [(1, .int v2), (0, .ref (ad 0))]) h dM_pop_11 rfl (by decide) rfl rfl ?_
  refine x_aload_n (nx := 13) (i := 0) h dM_pop_12 rfl 1 rfl rfl ?_
  refine x_get (nx := 16) h (gM_0_1 ad ca _) (List.mem_cons_of_mem _ kM_13) dM_pop_13 rfl ?_
  refine x_bipush (nx := 18) (v := (20 : Int32)) h dM_pop_16 (by decide) rfl ?_
  refine x_aload_n (nx := 19) (i := 0) h dM_pop_18 rfl 1 rfl rfl ?_
  refine x_get (nx := 22) h (gM_0_1 ad ca _) (List.mem_cons_of_mem _ kM_13) dM_pop_19 rfl ?_
  refine x_bipush (nx := 24) (v := (20 : Int32)) h dM_pop_22 (by decide) rfl ?_
  refine x_iald (nx := 25) h (aM_2 ad ca) dM_pop_24 rfl (fun v4 => ?_)
  refine x_iconst (nx := 26) (v := (1 : Int32)) h dM_pop_25 (by decide) rfl ?_
  refine x_iadd (nx := 27) h dM_pop_26 rfl ?_
  refine x_ldc (nx := 29) (v := (65535 : Int32)) h (List.mem_cons_of_mem _ kM_44) dM_pop_27 rfl ?_
  refine x_iand (nx := 30) h dM_pop_29 rfl ?_
  refine x_iast (nx := 31) h (aM_2 ad ca) dM_pop_30 rfl (fun S5 => ?_)
  refine x_aload_n (nx := 32) (i := 0) h dM_pop_31 rfl 1 rfl rfl ?_
  refine x_aload_n (nx := 33) (i := 0) h dM_pop_32 rfl 1 rfl rfl ?_
  refine x_get (nx := 36) h (gM_0_1 ad ca _) (List.mem_cons_of_mem _ kM_13) dM_pop_33 rfl ?_
  refine x_bipush (nx := 38) (v := (20 : Int32)) h dM_pop_36 (by decide) rfl ?_
  refine x_iald (nx := 39) h (aM_2 ad ca) dM_pop_38 rfl (fun v6 => ?_)
  refine x_cVi (nx := 42) (rest := []) (As := [.int v6]) h (m_M_read N v6 S5) (x_wV h goA y_M_read kM_48 ⟨by decide, by decide⟩ rfl rfl) (oM_0 ad ca) rfl rfl (Nat.le_of_ble_eq_true rfl) dM_pop_39 rfl (fun v7 S8 => ?_)
  refine x_istore_n (nx := 43) (i := 2) (lv' := [(2, .int v7), (1, .int v2), (0, .ref (ad 0))]) h dM_pop_42 rfl (by decide) rfl rfl ?_
  refine x_aload_n (nx := 44) (i := 0) h dM_pop_43 rfl 2 rfl rfl ?_
  refine x_get (nx := 47) h (gM_0_1 ad ca _) (List.mem_cons_of_mem _ kM_13) dM_pop_44 rfl ?_
  refine x_bipush (nx := 49) (v := (20 : Int32)) h dM_pop_47 (by decide) rfl ?_
  refine x_aload_n (nx := 50) (i := 0) h dM_pop_49 rfl 2 rfl rfl ?_
  refine x_get (nx := 53) h (gM_0_1 ad ca _) (List.mem_cons_of_mem _ kM_13) dM_pop_50 rfl ?_
  refine x_bipush (nx := 55) (v := (20 : Int32)) h dM_pop_53 (by decide) rfl ?_
  refine x_iald (nx := 56) h (aM_2 ad ca) dM_pop_55 rfl (fun v9 => ?_)
  refine x_iconst (nx := 57) (v := (1 : Int32)) h dM_pop_56 (by decide) rfl ?_
  refine x_iadd (nx := 58) h dM_pop_57 rfl ?_
  refine x_ldc (nx := 60) (v := (65535 : Int32)) h (List.mem_cons_of_mem _ kM_44) dM_pop_58 rfl ?_
  refine x_iand (nx := 61) h dM_pop_60 rfl ?_
  refine x_iast (nx := 62) h (aM_2 ad ca) dM_pop_61 rfl (fun S10 => ?_)
  refine x_sipush (nx := 65) (v := (256 : Int32)) h dM_pop_62 (by decide) rfl ?_
  refine x_iload_n (nx := 66) (i := 2) h dM_pop_65 rfl 0 rfl rfl ?_
  refine x_imul (nx := 67) h dM_pop_66 rfl ?_
  refine x_iload_n (nx := 68) (i := 1) h dM_pop_67 rfl 1 rfl rfl ?_
  refine x_iadd (nx := 69) h dM_pop_68 rfl ?_
  exact x_iret h dM_pop_69
set_option maxHeartbeats 4000000 in
set_option maxRecDepth 100000 in
theorem j_M_cond_69 {l : Launch} {D : va_G} {ad : Nat → Nat} {ca : Nat → ClassId} {p : Program} {e : Env} {s : State} {m : MethodId} {args : Array Value} {below : List Frame} {meth : Method} {c : Code} {A : Nat → Prop} (h : xC p s m args meth c cM_cond 3 (Cond.code yM_cond cM_cond 3 (some .boolean) :: wA) nW yM_cond.cls (some .boolean) D clA (tysM ca) A) (N : Nat) (w0 : Int32) (S : xSt) : xJ p l e rm_M_cond s m args below meth c D clA (tysM ca) (cellsM ad ca) A true 3 69 [] [.int w0] S (f_M_cond_69 N w0 S) := by
  unfold f_M_cond_69
  exact x_zret h dM_cond_69
set_option maxHeartbeats 4000000 in
set_option maxRecDepth 100000 in
theorem j_M_cond_61 {l : Launch} {D : va_G} {ad : Nat → Nat} {ca : Nat → ClassId} {p : Program} {e : Env} {s : State} {m : MethodId} {args : Array Value} {below : List Frame} {meth : Method} {c : Code} {A : Nat → Prop} (h : xC p s m args meth c cM_cond 3 (Cond.code yM_cond cM_cond 3 (some .boolean) :: wA) nW yM_cond.cls (some .boolean) D clA (tysM ca) A) (N : Nat) (w0 w1 : Int32) (S : xSt) : xJ p l e rm_M_cond s m args below meth c D clA (tysM ca) (cellsM ad ca) A true 3 61 [] [.int w1, .int w0] S (f_M_cond_61 N w0 w1 S) := by
  unfold f_M_cond_61
  refine x_icmp_ne (nx := 64) (tgt := 68) h dM_cond_61 (by decide) rfl ?_ ?_
  · refine x_iconst (nx := 69) (v := (0 : Int32)) h dM_cond_68 (by decide) rfl ?_
    exact x_sub [] rfl (j_M_cond_69 h N (0 : Int32) S)
  · refine x_iconst (nx := 65) (v := (1 : Int32)) h dM_cond_64 (by decide) rfl ?_
    refine x_goto (tgt := 69) h dM_cond_65 (by decide) ?_
    exact x_sub [] rfl (j_M_cond_69 h N (1 : Int32) S)
set_option maxHeartbeats 4000000 in
set_option maxRecDepth 100000 in
theorem j_M_cond_49 {l : Launch} {D : va_G} {ad : Nat → Nat} {ca : Nat → ClassId} {p : Program} {e : Env} {s : State} {m : MethodId} {args : Array Value} {below : List Frame} {meth : Method} {c : Code} {A : Nat → Prop} (h : xC p s m args meth c cM_cond 3 (Cond.code yM_cond cM_cond 3 (some .boolean) :: wA) nW yM_cond.cls (some .boolean) D clA (tysM ca) A) (N : Nat) (a1 w0 : Int32) (S : xSt) : xJ p l e rm_M_cond s m args below meth c D clA (tysM ca) (cellsM ad ca) A true 3 49 [(1, .int a1)] [.int w0] S (f_M_cond_49 N a1 w0 S) := by
  unfold f_M_cond_49
  refine x_iload_n (nx := 50) (i := 1) h dM_cond_49 rfl 0 rfl rfl ?_
  refine x_iconst (nx := 51) (v := (2 : Int32)) h dM_cond_50 (by decide) rfl ?_
  refine x_irem (nx := 52) h dM_cond_51 (by decide) rfl ?_
  refine x_iconst (nx := 53) (v := (1 : Int32)) h dM_cond_52 (by decide) rfl ?_
  refine x_icmp_ne (nx := 56) (tgt := 60) h dM_cond_53 (by decide) rfl ?_ ?_
  · refine x_iconst (nx := 61) (v := (0 : Int32)) h dM_cond_60 (by decide) rfl ?_
    exact x_sub [] rfl (j_M_cond_61 h N w0 (0 : Int32) S)
  · refine x_iconst (nx := 57) (v := (1 : Int32)) h dM_cond_56 (by decide) rfl ?_
    refine x_goto (tgt := 61) h dM_cond_57 (by decide) ?_
    exact x_sub [] rfl (j_M_cond_61 h N w0 (1 : Int32) S)
set_option maxHeartbeats 4000000 in
set_option maxRecDepth 100000 in
theorem j_M_cond_32 {l : Launch} {D : va_G} {ad : Nat → Nat} {ca : Nat → ClassId} {p : Program} {e : Env} {s : State} {m : MethodId} {args : Array Value} {below : List Frame} {meth : Method} {c : Code} {A : Nat → Prop} (h : xC p s m args meth c cM_cond 3 (Cond.code yM_cond cM_cond 3 (some .boolean) :: wA) nW yM_cond.cls (some .boolean) D clA (tysM ca) A) (N : Nat) (a1 w0 : Int32) (S : xSt) : xJ p l e rm_M_cond s m args below meth c D clA (tysM ca) (cellsM ad ca) A true 3 32 [(0, .ref (ad 0)), (1, .int a1)] [.int w0] S (f_M_cond_32 N a1 w0 S) := by
  unfold f_M_cond_32
  refine x_istore_n (nx := 33) (i := 2) (lv' := [(2, .int w0), (0, .ref (ad 0)), (1, .int a1)]) h dM_cond_32 rfl (by decide) rfl rfl ?_
  refine x_aload_n (nx := 34) (i := 0) h dM_cond_33 rfl 1 rfl rfl ?_
  refine x_get (nx := 37) h (gM_0_1 ad ca _) (List.mem_cons_of_mem _ kM_13) dM_cond_34 rfl ?_
  refine x_iconst (nx := 38) (v := (1 : Int32)) h dM_cond_37 (by decide) rfl ?_
  refine x_iald (nx := 39) h (aM_2 ad ca) dM_cond_38 rfl (fun v1 => ?_)
  refine x_iload_n (nx := 40) (i := 2) h dM_cond_39 rfl 0 rfl rfl ?_
  refine x_iand (nx := 41) h dM_cond_40 rfl ?_
  refine x_if_eq (nx := 44) (tgt := 48) h dM_cond_41 (by decide) rfl ?_ ?_
  · refine x_iconst (nx := 49) (v := (0 : Int32)) h dM_cond_48 (by decide) rfl ?_
    exact x_sub [2] rfl (j_M_cond_49 h N a1 (0 : Int32) S)
  · refine x_iconst (nx := 45) (v := (1 : Int32)) h dM_cond_44 (by decide) rfl ?_
    refine x_goto (tgt := 49) h dM_cond_45 (by decide) ?_
    exact x_sub [2] rfl (j_M_cond_49 h N a1 (1 : Int32) S)
set_option maxHeartbeats 4000000 in
set_option maxRecDepth 100000 in
theorem m_M_cond {l : Launch} {D : va_G} {ad : Nat → Nat} {ca : Nat → ClassId} (N : Nat) (a1 : Int32) (S : xSt) : xM l D clA (tysM ca) (cellsM ad ca) nW yM_cond (Cond.code yM_cond cM_cond 3 (some .boolean) :: wA) rm_M_cond true [.ref (ad 0), .int a1] S (f_M_cond N a1 S) := by
  refine x_met (cc := cM_cond) (maxL := 3) (ret := (some .boolean)) (by decide) rfl [.ref (ad 0), .int a1] (lv0 := [(0, .ref (ad 0)), (1, .int a1)]) (Nat.le_of_ble_eq_true rfl) rfl ?_
  intro p e s m args below meth c A h
  unfold f_M_cond
  refine x_iload_n (nx := 1) (i := 1) h dM_cond_0 rfl 1 rfl rfl ?_
  refine x_iconst (nx := 2) (v := (2 : Int32)) h dM_cond_1 (by decide) rfl ?_
  refine x_icmp_ge (nx := 5) (tgt := 10) h dM_cond_2 (by decide) rfl ?_ ?_
  · refine x_iload_n (nx := 11) (i := 1) h dM_cond_10 rfl 1 rfl rfl ?_
    refine x_iconst (nx := 12) (v := (4 : Int32)) h dM_cond_11 (by decide) rfl ?_
    refine x_icmp_ge (nx := 15) (tgt := 19) h dM_cond_12 (by decide) rfl ?_ ?_
    · refine x_iload_n (nx := 20) (i := 1) h dM_cond_19 rfl 1 rfl rfl ?_
      refine x_bipush (nx := 22) (v := (6 : Int32)) h dM_cond_20 (by decide) rfl ?_
      refine x_icmp_ge (nx := 25) (tgt := 29) h dM_cond_22 (by decide) rfl ?_ ?_
      · refine x_sipush (nx := 32) (v := (128 : Int32)) h dM_cond_29 (by decide) rfl ?_
        exact x_sub [0, 1] rfl (j_M_cond_32 h N a1 (128 : Int32) S)
      · refine x_iconst (nx := 26) (v := (4 : Int32)) h dM_cond_25 (by decide) rfl ?_
        refine x_goto (tgt := 32) h dM_cond_26 (by decide) ?_
        exact x_sub [0, 1] rfl (j_M_cond_32 h N a1 (4 : Int32) S)
    · refine x_iconst (nx := 16) (v := (1 : Int32)) h dM_cond_15 (by decide) rfl ?_
      refine x_goto (tgt := 32) h dM_cond_16 (by decide) ?_
      exact x_sub [0, 1] rfl (j_M_cond_32 h N a1 (1 : Int32) S)
  · refine x_bipush (nx := 7) (v := (64 : Int32)) h dM_cond_5 (by decide) rfl ?_
    refine x_goto (tgt := 32) h dM_cond_7 (by decide) ?_
    exact x_sub [0, 1] rfl (j_M_cond_32 h N a1 (64 : Int32) S)
set_option maxHeartbeats 4000000 in
set_option maxRecDepth 100000 in
theorem m_M_change {l : Launch} {D : va_G} {ad : Nat → Nat} {ca : Nat → ClassId} (N : Nat) (a1 a2 : Int32) (S : xSt) : xM l D clA (tysM ca) (cellsM ad ca) nW yM_change (Cond.code yM_change cM_change 4 none :: wA) rm_M_change false [.ref (ad 0), .int a1, .int a2] S (f_M_change N a1 a2 S) := by
  refine x_met (cc := cM_change) (maxL := 4) (ret := none) (by decide) rfl [.ref (ad 0), .int a1, .int a2] (lv0 := [(0, .ref (ad 0)), (1, .int a1), (2, .int a2)]) (Nat.le_of_ble_eq_true rfl) rfl ?_
  intro p e s m args below meth c A h
  unfold f_M_change
  refine x_aload_n (nx := 1) (i := 0) h dM_change_0 rfl 0 rfl rfl ?_
  refine x_get (nx := 4) h (gM_0_1 ad ca _) (List.mem_cons_of_mem _ kM_13) dM_change_1 rfl ?_
  refine x_iload_n (nx := 5) (i := 1) h dM_change_4 rfl 1 rfl rfl ?_
  refine x_iald (nx := 6) h (aM_2 ad ca) dM_change_5 rfl (fun v1 => ?_)
  refine x_istore_n (nx := 7) (i := 3) (lv' := [(3, .int v1), (0, .ref (ad 0)), (1, .int a1), (2, .int a2)]) h dM_change_6 rfl (by decide) rfl rfl ?_
  refine x_aload_n (nx := 8) (i := 0) h dM_change_7 rfl 1 rfl rfl ?_
  refine x_get (nx := 11) h (gM_0_1 ad ca _) (List.mem_cons_of_mem _ kM_13) dM_change_8 rfl ?_
  refine x_iload_n (nx := 12) (i := 1) h dM_change_11 rfl 2 rfl rfl ?_
  refine x_aload_n (nx := 13) (i := 0) h dM_change_12 rfl 1 rfl rfl ?_
  refine x_get (nx := 16) h (gM_0_1 ad ca _) (List.mem_cons_of_mem _ kM_13) dM_change_13 rfl ?_
  refine x_iload_n (nx := 17) (i := 2) h dM_change_16 rfl 3 rfl rfl ?_
  refine x_iald (nx := 18) h (aM_2 ad ca) dM_change_17 rfl (fun v2 => ?_)
  refine x_iast (nx := 19) h (aM_2 ad ca) dM_change_18 rfl (fun S3 => ?_)
  refine x_aload_n (nx := 20) (i := 0) h dM_change_19 rfl 1 rfl rfl ?_
  refine x_get (nx := 23) h (gM_0_1 ad ca _) (List.mem_cons_of_mem _ kM_13) dM_change_20 rfl ?_
  refine x_iload_n (nx := 24) (i := 2) h dM_change_23 rfl 3 rfl rfl ?_
  refine x_iload_n (nx := 25) (i := 3) h dM_change_24 rfl 0 rfl rfl ?_
  refine x_iast (nx := 26) h (aM_2 ad ca) dM_change_25 rfl (fun S4 => ?_)
  exact x_vret h dM_change_26
set_option maxHeartbeats 4000000 in
set_option maxRecDepth 100000 in
theorem j_M_sum_108 {l : Launch} {D : va_G} {ad : Nat → Nat} {ca : Nat → ClassId} {p : Program} {e : Env} {s : State} {m : MethodId} {args : Array Value} {below : List Frame} {meth : Method} {c : Code} {A : Nat → Prop} (h : xC p s m args meth c cM_sum 9 (Cond.code yM_sum cM_sum 9 (some .int) :: wA) nW yM_sum.cls (some .int) D clA (tysM ca) A) (N : Nat) (k14 : Int32 → Int32 → Int32 → Int32 → Int32 → Int32 → xSt → xR) (hk14 : ∀ (a1 a2 a4 a5 a6 a7 : Int32) (S : xSt), xJ p l e rm_M_sum s m args below meth c D clA (tysM ca) (cellsM ad ca) A true 9 14 [(0, .ref (ad 0)), (1, .int a1), (2, .int a2), (4, .int a4), (5, .int a5), (6, .int a6), (7, .int a7)] [] S (k14 a1 a2 a4 a5 a6 a7 S)) (a1 a2 a4 a5 a6 a7 : Int32) (S : xSt) : xJ p l e rm_M_sum s m args below meth c D clA (tysM ca) (cellsM ad ca) A true 9 108 [(0, .ref (ad 0)), (1, .int a1), (2, .int a2), (4, .int a4), (5, .int a5), (6, .int a6), (7, .int a7)] [] S (f_M_sum_108 N k14 a1 a2 a4 a5 a6 a7 S) := by
  unfold f_M_sum_108
  refine x_iinc (nx := 111) (i := 7) (v := (a7 + (1 : Int32))) (lv' := [(7, .int (a7 + (1 : Int32))), (0, .ref (ad 0)), (1, .int a1), (2, .int a2), (4, .int a4), (5, .int a5), (6, .int a6)]) h dM_sum_108 6 rfl (by rw [show Int32.ofInt 1 = (1 : Int32) by decide]) (by decide) rfl rfl ?_
  refine x_goto (tgt := 14) h dM_sum_111 (by decide) ?_
  exact x_sub [1, 2, 3, 4, 5, 6, 0] rfl (hk14 a1 a2 a4 a5 a6 (a7 + (1 : Int32)) S)
set_option maxHeartbeats 4000000 in
set_option maxRecDepth 100000 in
theorem j_M_sum_105 {l : Launch} {D : va_G} {ad : Nat → Nat} {ca : Nat → ClassId} {p : Program} {e : Env} {s : State} {m : MethodId} {args : Array Value} {below : List Frame} {meth : Method} {c : Code} {A : Nat → Prop} (h : xC p s m args meth c cM_sum 9 (Cond.code yM_sum cM_sum 9 (some .int) :: wA) nW yM_sum.cls (some .int) D clA (tysM ca) A) (N : Nat) (k14 : Int32 → Int32 → Int32 → Int32 → Int32 → Int32 → xSt → xR) (hk14 : ∀ (a1 a2 a4 a5 a6 a7 : Int32) (S : xSt), xJ p l e rm_M_sum s m args below meth c D clA (tysM ca) (cellsM ad ca) A true 9 14 [(0, .ref (ad 0)), (1, .int a1), (2, .int a2), (4, .int a4), (5, .int a5), (6, .int a6), (7, .int a7)] [] S (k14 a1 a2 a4 a5 a6 a7 S)) (a1 a2 a4 a5 a6 a7 w1 : Int32) (S : xSt) : xJ p l e rm_M_sum s m args below meth c D clA (tysM ca) (cellsM ad ca) A true 9 105 [(0, .ref (ad 0)), (1, .int a1), (2, .int a2), (4, .int a4), (5, .int a5), (6, .int a6), (7, .int a7)] [.int w1, .ref (ad 0)] S (f_M_sum_105 N k14 a1 a2 a4 a5 a6 a7 w1 S) := by
  unfold f_M_sum_105
  refine x_putZ (nx := 108) h (pM_0_7 ad ca _) (List.mem_cons_of_mem _ kM_88) dM_sum_105 rfl (fun S1 => ?_)
  exact x_sub [0, 1, 2, 3, 4, 5, 6] rfl (j_M_sum_108 h N k14 hk14 a1 a2 a4 a5 a6 a7 S1)
set_option maxHeartbeats 4000000 in
set_option maxRecDepth 100000 in
theorem j_M_sum_75 {l : Launch} {D : va_G} {ad : Nat → Nat} {ca : Nat → ClassId} {p : Program} {e : Env} {s : State} {m : MethodId} {args : Array Value} {below : List Frame} {meth : Method} {c : Code} {A : Nat → Prop} (h : xC p s m args meth c cM_sum 9 (Cond.code yM_sum cM_sum 9 (some .int) :: wA) nW yM_sum.cls (some .int) D clA (tysM ca) A) (N : Nat) (k14 : Int32 → Int32 → Int32 → Int32 → Int32 → Int32 → xSt → xR) (hk14 : ∀ (a1 a2 a4 a5 a6 a7 : Int32) (S : xSt), xJ p l e rm_M_sum s m args below meth c D clA (tysM ca) (cellsM ad ca) A true 9 14 [(0, .ref (ad 0)), (1, .int a1), (2, .int a2), (4, .int a4), (5, .int a5), (6, .int a6), (7, .int a7)] [] S (k14 a1 a2 a4 a5 a6 a7 S)) (a1 a2 a4 a6 a7 a8 w1 : Int32) (S : xSt) : xJ p l e rm_M_sum s m args below meth c D clA (tysM ca) (cellsM ad ca) A true 9 75 [(0, .ref (ad 0)), (1, .int a1), (2, .int a2), (4, .int a4), (6, .int a6), (7, .int a7), (8, .int a8)] [.int w1, .ref (ad 0)] S (f_M_sum_75 N k14 a1 a2 a4 a6 a7 a8 w1 S) := by
  unfold f_M_sum_75
  refine x_putZ (nx := 78) h (pM_0_9 ad ca _) (List.mem_cons_of_mem _ kM_85) dM_sum_75 rfl (fun S1 => ?_)
  refine x_iload (nx := 80) (i := 8) h dM_sum_78 6 rfl rfl ?_
  refine x_iconst (nx := 81) (v := (1 : Int32)) h dM_sum_80 (by decide) rfl ?_
  refine x_ishr (nx := 82) h dM_sum_81 rfl ?_
  refine x_val (fun b2 => ?_)
  refine x_istore (nx := 84) (i := 5) (lv' := [(5, .int b2), (0, .ref (ad 0)), (1, .int a1), (2, .int a2), (4, .int a4), (6, .int a6), (7, .int a7), (8, .int a8)]) h dM_sum_82 (by decide) rfl rfl ?_
  refine x_iload (nx := 86) (i := 7) h dM_sum_84 6 rfl rfl ?_
  refine x_iload (nx := 88) (i := 4) h dM_sum_86 4 rfl rfl ?_
  refine x_iconst (nx := 89) (v := (5 : Int32)) h dM_sum_88 (by decide) rfl ?_
  refine x_isub (nx := 90) h dM_sum_89 rfl ?_
  refine x_icmp_ne (nx := 93) (tgt := 108) h dM_sum_90 (by decide) rfl ?_ ?_
  · exact x_sub [1, 2, 3, 4, 0, 5, 6] rfl (j_M_sum_108 h N k14 hk14 a1 a2 a4 b2 a6 a7 S1)
  · refine x_aload_n (nx := 94) (i := 0) h dM_sum_93 rfl 1 rfl rfl ?_
    refine x_iload (nx := 96) (i := 5) h dM_sum_94 0 rfl rfl ?_
    refine x_iconst (nx := 97) (v := (1 : Int32)) h dM_sum_96 (by decide) rfl ?_
    refine x_icmp_ne (nx := 100) (tgt := 104) h dM_sum_97 (by decide) rfl ?_ ?_
    · refine x_iconst (nx := 105) (v := (0 : Int32)) h dM_sum_104 (by decide) rfl ?_
      exact x_sub [1, 2, 3, 4, 0, 5, 6] rfl (j_M_sum_105 h N k14 hk14 a1 a2 a4 b2 a6 a7 (0 : Int32) S1)
    · refine x_iconst (nx := 101) (v := (1 : Int32)) h dM_sum_100 (by decide) rfl ?_
      refine x_goto (tgt := 105) h dM_sum_101 (by decide) ?_
      exact x_sub [1, 2, 3, 4, 0, 5, 6] rfl (j_M_sum_105 h N k14 hk14 a1 a2 a4 b2 a6 a7 (1 : Int32) S1)
set_option maxHeartbeats 4000000 in
set_option maxRecDepth 100000 in
theorem j_M_sum_74 {l : Launch} {D : va_G} {ad : Nat → Nat} {ca : Nat → ClassId} {p : Program} {e : Env} {s : State} {m : MethodId} {args : Array Value} {below : List Frame} {meth : Method} {c : Code} {A : Nat → Prop} (h : xC p s m args meth c cM_sum 9 (Cond.code yM_sum cM_sum 9 (some .int) :: wA) nW yM_sum.cls (some .int) D clA (tysM ca) A) (N : Nat) (k14 : Int32 → Int32 → Int32 → Int32 → Int32 → Int32 → xSt → xR) (hk14 : ∀ (a1 a2 a4 a5 a6 a7 : Int32) (S : xSt), xJ p l e rm_M_sum s m args below meth c D clA (tysM ca) (cellsM ad ca) A true 9 14 [(0, .ref (ad 0)), (1, .int a1), (2, .int a2), (4, .int a4), (5, .int a5), (6, .int a6), (7, .int a7)] [] S (k14 a1 a2 a4 a5 a6 a7 S)) (a1 a2 a4 a6 a7 a8 : Int32) (S : xSt) : xJ p l e rm_M_sum s m args below meth c D clA (tysM ca) (cellsM ad ca) A true 9 74 [(0, .ref (ad 0)), (1, .int a1), (2, .int a2), (4, .int a4), (6, .int a6), (7, .int a7), (8, .int a8)] [.ref (ad 0)] S (f_M_sum_74 N k14 a1 a2 a4 a6 a7 a8 S) := by
  unfold f_M_sum_74
  refine x_iconst (nx := 75) (v := (0 : Int32)) h dM_sum_74 (by decide) rfl ?_
  exact x_sub [0, 1, 2, 3, 4, 5, 6] rfl (j_M_sum_75 h N k14 hk14 a1 a2 a4 a6 a7 a8 (0 : Int32) S)
set_option maxHeartbeats 4000000 in
set_option maxRecDepth 100000 in
theorem j_M_sum_126 {l : Launch} {D : va_G} {ad : Nat → Nat} {ca : Nat → ClassId} {p : Program} {e : Env} {s : State} {m : MethodId} {args : Array Value} {below : List Frame} {meth : Method} {c : Code} {A : Nat → Prop} (h : xC p s m args meth c cM_sum 9 (Cond.code yM_sum cM_sum 9 (some .int) :: wA) nW yM_sum.cls (some .int) D clA (tysM ca) A) (N : Nat) (a6 w1 : Int32) (S : xSt) : xJ p l e rm_M_sum s m args below meth c D clA (tysM ca) (cellsM ad ca) A true 9 126 [(6, .int a6)] [.int w1, .ref (ad 0)] S (f_M_sum_126 N a6 w1 S) := by
  unfold f_M_sum_126
  refine x_putZ (nx := 129) h (pM_0_8 ad ca _) (List.mem_cons_of_mem _ kM_91) dM_sum_126 rfl (fun S1 => ?_)
  refine x_iload (nx := 131) (i := 6) h dM_sum_129 0 rfl rfl ?_
  exact x_iret h dM_sum_131
set_option maxHeartbeats 4000000 in
set_option maxRecDepth 100000 in
theorem j_M_sum_14 {l : Launch} {D : va_G} {ad : Nat → Nat} {ca : Nat → ClassId} {p : Program} {e : Env} {s : State} {m : MethodId} {args : Array Value} {below : List Frame} {meth : Method} {c : Code} {A : Nat → Prop} (h : xC p s m args meth c cM_sum 9 (Cond.code yM_sum cM_sum 9 (some .int) :: wA) nW yM_sum.cls (some .int) D clA (tysM ca) A) (N : Nat) : ∀ (n : Nat) (a1 a2 a4 a5 a6 a7 : Int32) (S : xSt), xJ p l e rm_M_sum s m args below meth c D clA (tysM ca) (cellsM ad ca) A true 9 14 [(0, .ref (ad 0)), (1, .int a1), (2, .int a2), (4, .int a4), (5, .int a5), (6, .int a6), (7, .int a7)] [] S (f_M_sum_14 N n a1 a2 a4 a5 a6 a7 S) := by
  intro n
  induction n with
  | zero =>
    intro a1 a2 a4 a5 a6 a7 S
    rw [f_M_sum_14]
    exact x_none
  | succ n ih =>
    intro a1 a2 a4 a5 a6 a7 S
    rw [f_M_sum_14]
    refine x_iload (nx := 16) (i := 7) h dM_sum_14 6 rfl rfl ?_
    refine x_iload (nx := 18) (i := 4) h dM_sum_16 3 rfl rfl ?_
    refine x_icmp_ge (nx := 21) (tgt := 114) h dM_sum_18 (by decide) rfl ?_ ?_
    · refine x_aload_n (nx := 115) (i := 0) h dM_sum_114 rfl 0 rfl rfl ?_
      refine x_iload (nx := 117) (i := 5) h dM_sum_115 4 rfl rfl ?_
      refine x_iconst (nx := 118) (v := (1 : Int32)) h dM_sum_117 (by decide) rfl ?_
      refine x_icmp_ne (nx := 121) (tgt := 125) h dM_sum_118 (by decide) rfl ?_ ?_
      · refine x_iconst (nx := 126) (v := (0 : Int32)) h dM_sum_125 (by decide) rfl ?_
        exact x_sub [5] rfl (j_M_sum_126 h N a6 (0 : Int32) S)
      · refine x_iconst (nx := 122) (v := (1 : Int32)) h dM_sum_121 (by decide) rfl ?_
        refine x_goto (tgt := 126) h dM_sum_122 (by decide) ?_
        exact x_sub [5] rfl (j_M_sum_126 h N a6 (1 : Int32) S)
    · refine x_iload_n (nx := 22) (i := 1) h dM_sum_21 rfl 1 rfl rfl ?_
      refine x_iload (nx := 24) (i := 7) h dM_sum_22 6 rfl rfl ?_
      refine x_ishr (nx := 25) h dM_sum_24 rfl ?_
      refine x_iconst (nx := 26) (v := (1 : Int32)) h dM_sum_25 (by decide) rfl ?_
      refine x_iand (nx := 27) h dM_sum_26 rfl ?_
      refine x_iload_n (nx := 28) (i := 2) h dM_sum_27 rfl 2 rfl rfl ?_
      refine x_iload (nx := 30) (i := 7) h dM_sum_28 6 rfl rfl ?_
      refine x_ishr (nx := 31) h dM_sum_30 rfl ?_
      refine x_iconst (nx := 32) (v := (1 : Int32)) h dM_sum_31 (by decide) rfl ?_
      refine x_iand (nx := 33) h dM_sum_32 rfl ?_
      refine x_iadd (nx := 34) h dM_sum_33 rfl ?_
      refine x_iload (nx := 36) (i := 5) h dM_sum_34 4 rfl rfl ?_
      refine x_iadd (nx := 37) h dM_sum_36 rfl ?_
      refine x_val (fun b1 => ?_)
      refine x_istore (nx := 39) (i := 8) (lv' := [(8, .int b1), (0, .ref (ad 0)), (1, .int a1), (2, .int a2), (4, .int a4), (5, .int a5), (6, .int a6), (7, .int a7)]) h dM_sum_37 (by decide) rfl rfl ?_
      refine x_iload (nx := 41) (i := 6) h dM_sum_39 6 rfl rfl ?_
      refine x_iload (nx := 43) (i := 8) h dM_sum_41 0 rfl rfl ?_
      refine x_iconst (nx := 44) (v := (1 : Int32)) h dM_sum_43 (by decide) rfl ?_
      refine x_iand (nx := 45) h dM_sum_44 rfl ?_
      refine x_iload (nx := 47) (i := 7) h dM_sum_45 7 rfl rfl ?_
      refine x_ishl (nx := 48) h dM_sum_47 rfl ?_
      refine x_ior (nx := 49) h dM_sum_48 rfl ?_
      refine x_val (fun b2 => ?_)
      refine x_istore (nx := 51) (i := 6) (lv' := [(6, .int b2), (8, .int b1), (0, .ref (ad 0)), (1, .int a1), (2, .int a2), (4, .int a4), (5, .int a5), (7, .int a7)]) h dM_sum_49 (by decide) rfl rfl ?_
      refine x_aload_n (nx := 52) (i := 0) h dM_sum_51 rfl 2 rfl rfl ?_
      refine x_iload (nx := 54) (i := 7) h dM_sum_52 7 rfl rfl ?_
      refine x_iload (nx := 56) (i := 4) h dM_sum_54 5 rfl rfl ?_
      refine x_iconst (nx := 57) (v := (1 : Int32)) h dM_sum_56 (by decide) rfl ?_
      refine x_isub (nx := 58) h dM_sum_57 rfl ?_
      refine x_icmp_ne (nx := 61) (tgt := 74) h dM_sum_58 (by decide) rfl ?_ ?_
      · exact x_sub [2, 3, 4, 5, 0, 7, 1] rfl (j_M_sum_74 h N (f_M_sum_14 N n) ih a1 a2 a4 b2 a7 b1 S)
      · refine x_iload (nx := 63) (i := 5) h dM_sum_61 6 rfl rfl ?_
        refine x_iload (nx := 65) (i := 8) h dM_sum_63 1 rfl rfl ?_
        refine x_iconst (nx := 66) (v := (1 : Int32)) h dM_sum_65 (by decide) rfl ?_
        refine x_ishr (nx := 67) h dM_sum_66 rfl ?_
        refine x_icmp_eq (nx := 70) (tgt := 74) h dM_sum_67 (by decide) rfl ?_ ?_
        · exact x_sub [2, 3, 4, 5, 0, 7, 1] rfl (j_M_sum_74 h N (f_M_sum_14 N n) ih a1 a2 a4 b2 a7 b1 S)
        · refine x_iconst (nx := 71) (v := (1 : Int32)) h dM_sum_70 (by decide) rfl ?_
          refine x_goto (tgt := 75) h dM_sum_71 (by decide) ?_
          exact x_sub [2, 3, 4, 5, 0, 7, 1] rfl (j_M_sum_75 h N (f_M_sum_14 N n) ih a1 a2 a4 b2 a7 b1 (1 : Int32) S)
set_option maxHeartbeats 4000000 in
set_option maxRecDepth 100000 in
theorem m_M_sum {l : Launch} {D : va_G} {ad : Nat → Nat} {ca : Nat → ClassId} (N : Nat) (a1 a2 a3 a4 : Int32) (S : xSt) : xM l D clA (tysM ca) (cellsM ad ca) nW yM_sum (Cond.code yM_sum cM_sum 9 (some .int) :: wA) rm_M_sum true [.ref (ad 0), .int a1, .int a2, .int a3, .int a4] S (f_M_sum N a1 a2 a3 a4 S) := by
  refine x_met (cc := cM_sum) (maxL := 9) (ret := (some .int)) (by decide) rfl [.ref (ad 0), .int a1, .int a2, .int a3, .int a4] (lv0 := [(0, .ref (ad 0)), (1, .int a1), (2, .int a2), (3, .int a3), (4, .int a4)]) (Nat.le_of_ble_eq_true rfl) rfl ?_
  intro p e s m args below meth c A h
  unfold f_M_sum
  refine x_iload_n (nx := 1) (i := 3) h dM_sum_0 rfl 3 rfl rfl ?_
  refine x_istore (nx := 3) (i := 5) (lv' := [(5, .int a3), (0, .ref (ad 0)), (1, .int a1), (2, .int a2), (3, .int a3), (4, .int a4)]) h dM_sum_1 (by decide) rfl rfl ?_
  refine x_iconst (nx := 4) (v := (0 : Int32)) h dM_sum_3 (by decide) rfl ?_
  refine x_istore (nx := 6) (i := 6) (lv' := [(6, .int (0 : Int32)), (5, .int a3), (0, .ref (ad 0)), (1, .int a1), (2, .int a2), (3, .int a3), (4, .int a4)]) h dM_sum_4 (by decide) rfl rfl ?_
  refine x_aload_n (nx := 7) (i := 0) h dM_sum_6 rfl 2 rfl rfl ?_
  refine x_iconst (nx := 8) (v := (0 : Int32)) h dM_sum_7 (by decide) rfl ?_
  refine x_putZ (nx := 11) h (pM_0_9 ad ca _) (List.mem_cons_of_mem _ kM_85) dM_sum_8 rfl (fun S1 => ?_)
  refine x_iconst (nx := 12) (v := (0 : Int32)) h dM_sum_11 (by decide) rfl ?_
  refine x_istore (nx := 14) (i := 7) (lv' := [(7, .int (0 : Int32)), (6, .int (0 : Int32)), (5, .int a3), (0, .ref (ad 0)), (1, .int a1), (2, .int a2), (3, .int a3), (4, .int a4)]) h dM_sum_12 (by decide) rfl rfl ?_
  exact x_sub [3, 4, 5, 7, 2, 1, 0] rfl (j_M_sum_14 h N N a1 a2 a4 a3 (0 : Int32) (0 : Int32) S1)
set_option maxHeartbeats 4000000 in
set_option maxRecDepth 100000 in
theorem j_M_difference_44 {l : Launch} {D : va_G} {ad : Nat → Nat} {ca : Nat → ClassId} {p : Program} {e : Env} {s : State} {m : MethodId} {args : Array Value} {below : List Frame} {meth : Method} {c : Code} {A : Nat → Prop} (h : xC p s m args meth c cM_difference 6 (Cond.code yM_difference cM_difference 6 (some .int) :: wA) nW yM_difference.cls (some .int) D clA (tysM ca) A) (N : Nat) (a5 w1 : Int32) (S : xSt) : xJ p l e rm_M_difference s m args below meth c D clA (tysM ca) (cellsM ad ca) A true 6 44 [(5, .int a5)] [.int w1, .ref (ad 0)] S (f_M_difference_44 N a5 w1 S) := by
  unfold f_M_difference_44
  refine x_putZ (nx := 47) h (pM_0_8 ad ca _) (List.mem_cons_of_mem _ kM_91) dM_difference_44 rfl (fun S1 => ?_)
  refine x_iload (nx := 49) (i := 5) h dM_difference_47 0 rfl rfl ?_
  exact x_iret h dM_difference_49
set_option maxHeartbeats 4000000 in
set_option maxRecDepth 100000 in
theorem j_M_difference_28 {l : Launch} {D : va_G} {ad : Nat → Nat} {ca : Nat → ClassId} {p : Program} {e : Env} {s : State} {m : MethodId} {args : Array Value} {below : List Frame} {meth : Method} {c : Code} {A : Nat → Prop} (h : xC p s m args meth c cM_difference 6 (Cond.code yM_difference cM_difference 6 (some .int) :: wA) nW yM_difference.cls (some .int) D clA (tysM ca) A) (N : Nat) (a5 w1 : Int32) (S : xSt) : xJ p l e rm_M_difference s m args below meth c D clA (tysM ca) (cellsM ad ca) A true 6 28 [(0, .ref (ad 0)), (5, .int a5)] [.int w1, .ref (ad 0)] S (f_M_difference_28 N a5 w1 S) := by
  unfold f_M_difference_28
  refine x_putZ (nx := 31) h (pM_0_7 ad ca _) (List.mem_cons_of_mem _ kM_88) dM_difference_28 rfl (fun S1 => ?_)
  refine x_aload_n (nx := 32) (i := 0) h dM_difference_31 rfl 0 rfl rfl ?_
  refine x_aload_n (nx := 33) (i := 0) h dM_difference_32 rfl 0 rfl rfl ?_
  refine x_get (nx := 36) h (gM_0_8 ad ca _) (List.mem_cons_of_mem _ kM_91) dM_difference_33 rfl ?_
  refine x_if_ne (nx := 39) (tgt := 43) h dM_difference_36 (by decide) rfl ?_ ?_
  · refine x_iconst (nx := 44) (v := (0 : Int32)) h dM_difference_43 (by decide) rfl ?_
    exact x_sub [1] rfl (j_M_difference_44 h N a5 (0 : Int32) S1)
  · refine x_iconst (nx := 40) (v := (1 : Int32)) h dM_difference_39 (by decide) rfl ?_
    refine x_goto (tgt := 44) h dM_difference_40 (by decide) ?_
    exact x_sub [1] rfl (j_M_difference_44 h N a5 (1 : Int32) S1)
set_option maxHeartbeats 4000000 in
set_option maxRecDepth 100000 in
theorem m_M_difference {l : Launch} {D : va_G} {ad : Nat → Nat} {ca : Nat → ClassId} (N : Nat) (a1 a2 a3 a4 : Int32) (S : xSt) : xM l D clA (tysM ca) (cellsM ad ca) nW yM_difference (Cond.code yM_difference cM_difference 6 (some .int) :: wA) rm_M_difference true [.ref (ad 0), .int a1, .int a2, .int a3, .int a4] S (f_M_difference N a1 a2 a3 a4 S) := by
  refine x_met (cc := cM_difference) (maxL := 6) (ret := (some .int)) (by decide) rfl [.ref (ad 0), .int a1, .int a2, .int a3, .int a4] (lv0 := [(0, .ref (ad 0)), (1, .int a1), (2, .int a2), (3, .int a3), (4, .int a4)]) (Nat.le_of_ble_eq_true rfl) rfl ?_
  intro p e s m args below meth c A h
  unfold f_M_difference
  refine x_aload_n (nx := 1) (i := 0) h dM_difference_0 rfl 0 rfl rfl ?_
  refine x_iload_n (nx := 2) (i := 1) h dM_difference_1 rfl 1 rfl rfl ?_
  refine x_iload_n (nx := 3) (i := 2) h dM_difference_2 rfl 2 rfl rfl ?_
  refine x_iconst (nx := 4) (v := (-1 : Int32)) h dM_difference_3 (by decide) rfl ?_
  refine x_ixor (nx := 5) h dM_difference_4 rfl ?_
  refine x_iconst (nx := 6) (v := (1 : Int32)) h dM_difference_5 (by decide) rfl ?_
  refine x_iload_n (nx := 7) (i := 3) h dM_difference_6 rfl 3 rfl rfl ?_
  refine x_isub (nx := 8) h dM_difference_7 rfl ?_
  refine x_iload (nx := 10) (i := 4) h dM_difference_8 4 rfl rfl ?_
  refine x_cVi (nx := 13) (rest := []) (As := [.int a1, .int (a2 ^^^ (-1 : Int32)), .int ((1 : Int32) - a3), .int a4]) h (m_M_sum N a1 (a2 ^^^ (-1 : Int32)) ((1 : Int32) - a3) a4 S) (x_wV h goA y_M_sum kM_94 ⟨by decide, by decide⟩ rfl rfl) (oM_0 ad ca) rfl rfl (Nat.le_of_ble_eq_true rfl) dM_difference_10 rfl (fun v1 S2 => ?_)
  refine x_istore (nx := 15) (i := 5) (lv' := [(5, .int v1), (0, .ref (ad 0)), (1, .int a1), (2, .int a2), (3, .int a3), (4, .int a4)]) h dM_difference_13 (by decide) rfl rfl ?_
  refine x_aload_n (nx := 16) (i := 0) h dM_difference_15 rfl 1 rfl rfl ?_
  refine x_aload_n (nx := 17) (i := 0) h dM_difference_16 rfl 1 rfl rfl ?_
  refine x_get (nx := 20) h (gM_0_7 ad ca _) (List.mem_cons_of_mem _ kM_88) dM_difference_17 rfl ?_
  refine x_if_ne (nx := 23) (tgt := 27) h dM_difference_20 (by decide) rfl ?_ ?_
  · refine x_iconst (nx := 28) (v := (0 : Int32)) h dM_difference_27 (by decide) rfl ?_
    exact x_sub [1, 0] rfl (j_M_difference_28 h N v1 (0 : Int32) S2)
  · refine x_iconst (nx := 24) (v := (1 : Int32)) h dM_difference_23 (by decide) rfl ?_
    refine x_goto (tgt := 28) h dM_difference_24 (by decide) ?_
    exact x_sub [1, 0] rfl (j_M_difference_28 h N v1 (1 : Int32) S2)
set_option maxHeartbeats 4000000 in
set_option maxRecDepth 100000 in
theorem j_M_parity_35 {l : Launch} {D : va_G} {ad : Nat → Nat} {ca : Nat → ClassId} {p : Program} {e : Env} {s : State} {m : MethodId} {args : Array Value} {below : List Frame} {meth : Method} {c : Code} {A : Nat → Prop} (h : xC p s m args meth c cM_parity 3 (Cond.code yM_parity cM_parity 3 (some .int) :: wA) nW yM_parity.cls (some .int) D clA (tysM ca) A) (N : Nat) (w0 : Int32) (S : xSt) : xJ p l e rm_M_parity s m args below meth c D clA (tysM ca) (cellsM ad ca) A true 3 35 [] [.int w0] S (f_M_parity_35 N w0 S) := by
  unfold f_M_parity_35
  exact x_iret h dM_parity_35
set_option maxHeartbeats 4000000 in
set_option maxRecDepth 100000 in
theorem j_M_parity_4 {l : Launch} {D : va_G} {ad : Nat → Nat} {ca : Nat → ClassId} {p : Program} {e : Env} {s : State} {m : MethodId} {args : Array Value} {below : List Frame} {meth : Method} {c : Code} {A : Nat → Prop} (h : xC p s m args meth c cM_parity 3 (Cond.code yM_parity cM_parity 3 (some .int) :: wA) nW yM_parity.cls (some .int) D clA (tysM ca) A) (N : Nat) : ∀ (n : Nat) (a0 a1 a2 : Int32) (S : xSt), xJ p l e rm_M_parity s m args below meth c D clA (tysM ca) (cellsM ad ca) A true 3 4 [(0, .int a0), (1, .int a1), (2, .int a2)] [] S (f_M_parity_4 N n a0 a1 a2 S) := by
  intro n
  induction n with
  | zero =>
    intro a0 a1 a2 S
    rw [f_M_parity_4]
    exact x_none
  | succ n ih =>
    intro a0 a1 a2 S
    rw [f_M_parity_4]
    refine x_iload_n (nx := 5) (i := 2) h dM_parity_4 rfl 2 rfl rfl ?_
    refine x_bipush (nx := 7) (v := (8 : Int32)) h dM_parity_5 (by decide) rfl ?_
    refine x_icmp_ge (nx := 10) (tgt := 24) h dM_parity_7 (by decide) rfl ?_ ?_
    · refine x_iload_n (nx := 25) (i := 1) h dM_parity_24 rfl 1 rfl rfl ?_
      refine x_iconst (nx := 26) (v := (2 : Int32)) h dM_parity_25 (by decide) rfl ?_
      refine x_irem (nx := 27) h dM_parity_26 (by decide) rfl ?_
      refine x_if_ne (nx := 30) (tgt := 34) h dM_parity_27 (by decide) rfl ?_ ?_
      · refine x_iconst (nx := 35) (v := (0 : Int32)) h dM_parity_34 (by decide) rfl ?_
        exact x_sub [] rfl (j_M_parity_35 h N (0 : Int32) S)
      · refine x_iconst (nx := 31) (v := (4 : Int32)) h dM_parity_30 (by decide) rfl ?_
        refine x_goto (tgt := 35) h dM_parity_31 (by decide) ?_
        exact x_sub [] rfl (j_M_parity_35 h N (4 : Int32) S)
    · refine x_iload_n (nx := 11) (i := 1) h dM_parity_10 rfl 1 rfl rfl ?_
      refine x_iload_n (nx := 12) (i := 0) h dM_parity_11 rfl 0 rfl rfl ?_
      refine x_iload_n (nx := 13) (i := 2) h dM_parity_12 rfl 2 rfl rfl ?_
      refine x_ishr (nx := 14) h dM_parity_13 rfl ?_
      refine x_iconst (nx := 15) (v := (1 : Int32)) h dM_parity_14 (by decide) rfl ?_
      refine x_iand (nx := 16) h dM_parity_15 rfl ?_
      refine x_iadd (nx := 17) h dM_parity_16 rfl ?_
      refine x_val (fun b1 => ?_)
      refine x_istore_n (nx := 18) (i := 1) (lv' := [(1, .int b1), (0, .int a0), (2, .int a2)]) h dM_parity_17 rfl (by decide) rfl rfl ?_
      refine x_iinc (nx := 21) (i := 2) (v := (a2 + (1 : Int32))) (lv' := [(2, .int (a2 + (1 : Int32))), (1, .int b1), (0, .int a0)]) h dM_parity_18 2 rfl (by rw [show Int32.ofInt 1 = (1 : Int32) by decide]) (by decide) rfl rfl ?_
      refine x_goto (tgt := 4) h dM_parity_21 (by decide) ?_
      exact x_sub [2, 1, 0] rfl (ih a0 b1 (a2 + (1 : Int32)) S)
set_option maxHeartbeats 4000000 in
set_option maxRecDepth 100000 in
theorem m_M_parity {l : Launch} {D : va_G} {ad : Nat → Nat} {ca : Nat → ClassId} (N : Nat) (a0 : Int32) (S : xSt) : xM l D clA (tysM ca) (cellsM ad ca) nW yM_parity (Cond.code yM_parity cM_parity 3 (some .int) :: wA) rm_M_parity true [.int a0] S (f_M_parity N a0 S) := by
  refine x_met (cc := cM_parity) (maxL := 3) (ret := (some .int)) (by decide) rfl [.int a0] (lv0 := [(0, .int a0)]) (Nat.le_of_ble_eq_true rfl) rfl ?_
  intro p e s m args below meth c A h
  unfold f_M_parity
  refine x_iconst (nx := 1) (v := (0 : Int32)) h dM_parity_0 (by decide) rfl ?_
  refine x_istore_n (nx := 2) (i := 1) (lv' := [(1, .int (0 : Int32)), (0, .int a0)]) h dM_parity_1 rfl (by decide) rfl rfl ?_
  refine x_iconst (nx := 3) (v := (0 : Int32)) h dM_parity_2 (by decide) rfl ?_
  refine x_istore_n (nx := 4) (i := 2) (lv' := [(2, .int (0 : Int32)), (1, .int (0 : Int32)), (0, .int a0)]) h dM_parity_3 rfl (by decide) rfl rfl ?_
  exact x_sub [2, 1, 0] rfl (j_M_parity_4 h N N a0 (0 : Int32) (0 : Int32) S)
set_option maxHeartbeats 4000000 in
set_option maxRecDepth 100000 in
theorem j_M_by_15 {l : Launch} {D : va_G} {ad : Nat → Nat} {ca : Nat → ClassId} {p : Program} {e : Env} {s : State} {m : MethodId} {args : Array Value} {below : List Frame} {meth : Method} {c : Code} {A : Nat → Prop} (h : xC p s m args meth c cM_by 1 (Cond.code yM_by cM_by 1 (some .int) :: wA) nW yM_by.cls (some .int) D clA (tysM ca) A) (N : Nat) (w0 w1 : Int32) (S : xSt) : xJ p l e rm_M_by s m args below meth c D clA (tysM ca) (cellsM ad ca) A true 1 15 [] [.int w1, .int w0] S (f_M_by_15 N w0 w1 S) := by
  unfold f_M_by_15
  refine x_ior (nx := 16) h dM_by_15 rfl ?_
  exact x_iret h dM_by_16
set_option maxHeartbeats 4000000 in
set_option maxRecDepth 100000 in
theorem m_M_by {l : Launch} {D : va_G} {ad : Nat → Nat} {ca : Nat → ClassId} (N : Nat) (a0 : Int32) (S : xSt) : xM l D clA (tysM ca) (cellsM ad ca) nW yM_by (Cond.code yM_by cM_by 1 (some .int) :: wA) rm_M_by true [.int a0] S (f_M_by N a0 S) := by
  refine x_met (cc := cM_by) (maxL := 1) (ret := (some .int)) (by decide) rfl [.int a0] (lv0 := [(0, .int a0)]) (Nat.le_of_ble_eq_true rfl) rfl ?_
  intro p e s m args below meth c A h
  unfold f_M_by
  refine x_iload_n (nx := 1) (i := 0) h dM_by_0 rfl 0 rfl rfl ?_
  refine x_sipush (nx := 4) (v := (168 : Int32)) h dM_by_1 (by decide) rfl ?_
  refine x_iand (nx := 5) h dM_by_4 rfl ?_
  refine x_iload_n (nx := 6) (i := 0) h dM_by_5 rfl 0 rfl rfl ?_
  refine x_if_ne (nx := 9) (tgt := 14) h dM_by_6 (by decide) rfl ?_ ?_
  · refine x_iconst (nx := 15) (v := (0 : Int32)) h dM_by_14 (by decide) rfl ?_
    exact x_sub [] rfl (j_M_by_15 h N (a0 &&& (168 : Int32)) (0 : Int32) S)
  · refine x_bipush (nx := 11) (v := (64 : Int32)) h dM_by_9 (by decide) rfl ?_
    refine x_goto (tgt := 15) h dM_by_11 (by decide) ?_
    exact x_sub [] rfl (j_M_by_15 h N (a0 &&& (168 : Int32)) (64 : Int32) S)
set_option maxHeartbeats 4000000 in
set_option maxRecDepth 100000 in
theorem j_M_rest_38 {l : Launch} {D : va_G} {ad : Nat → Nat} {ca : Nat → ClassId} {p : Program} {e : Env} {s : State} {m : MethodId} {args : Array Value} {below : List Frame} {meth : Method} {c : Code} {A : Nat → Prop} (h : xC p s m args meth c cM_rest 2 (Cond.code yM_rest cM_rest 2 (some .int) :: wA) nW yM_rest.cls (some .int) D clA (tysM ca) A) (N : Nat) (a1 w0 w1 : Int32) (S : xSt) : xJ p l e rm_M_rest s m args below meth c D clA (tysM ca) (cellsM ad ca) A true 2 38 [(1, .int a1)] [.int w1, .int w0] S (f_M_rest_38 N a1 w0 w1 S) := by
  unfold f_M_rest_38
  refine x_ior (nx := 39) h dM_rest_38 rfl ?_
  refine x_iload_n (nx := 40) (i := 1) h dM_rest_39 rfl 0 rfl rfl ?_
  refine x_ior (nx := 41) h dM_rest_40 rfl ?_
  exact x_iret h dM_rest_41
set_option maxHeartbeats 4000000 in
set_option maxRecDepth 100000 in
theorem j_M_rest_25 {l : Launch} {D : va_G} {ad : Nat → Nat} {ca : Nat → ClassId} {p : Program} {e : Env} {s : State} {m : MethodId} {args : Array Value} {below : List Frame} {meth : Method} {c : Code} {A : Nat → Prop} (h : xC p s m args meth c cM_rest 2 (Cond.code yM_rest cM_rest 2 (some .int) :: wA) nW yM_rest.cls (some .int) D clA (tysM ca) A) (N : Nat) (a1 w0 w1 : Int32) (S : xSt) : xJ p l e rm_M_rest s m args below meth c D clA (tysM ca) (cellsM ad ca) A true 2 25 [(0, .ref (ad 0)), (1, .int a1)] [.int w1, .int w0] S (f_M_rest_25 N a1 w0 w1 S) := by
  unfold f_M_rest_25
  refine x_ior (nx := 26) h dM_rest_25 rfl ?_
  refine x_aload_n (nx := 27) (i := 0) h dM_rest_26 rfl 0 rfl rfl ?_
  refine x_get (nx := 30) h (gM_0_8 ad ca _) (List.mem_cons_of_mem _ kM_91) dM_rest_27 rfl ?_
  refine x_if_eq (nx := 33) (tgt := 37) h dM_rest_30 (by decide) rfl ?_ ?_
  · refine x_iconst (nx := 38) (v := (0 : Int32)) h dM_rest_37 (by decide) rfl ?_
    exact x_sub [1] rfl (j_M_rest_38 h N a1 (w0 ||| w1) (0 : Int32) S)
  · refine x_iconst (nx := 34) (v := (1 : Int32)) h dM_rest_33 (by decide) rfl ?_
    refine x_goto (tgt := 38) h dM_rest_34 (by decide) ?_
    exact x_sub [1] rfl (j_M_rest_38 h N a1 (w0 ||| w1) (1 : Int32) S)
set_option maxHeartbeats 4000000 in
set_option maxRecDepth 100000 in
theorem j_M_rest_13 {l : Launch} {D : va_G} {ad : Nat → Nat} {ca : Nat → ClassId} {p : Program} {e : Env} {s : State} {m : MethodId} {args : Array Value} {below : List Frame} {meth : Method} {c : Code} {A : Nat → Prop} (h : xC p s m args meth c cM_rest 2 (Cond.code yM_rest cM_rest 2 (some .int) :: wA) nW yM_rest.cls (some .int) D clA (tysM ca) A) (N : Nat) (a1 w0 : Int32) (S : xSt) : xJ p l e rm_M_rest s m args below meth c D clA (tysM ca) (cellsM ad ca) A true 2 13 [(0, .ref (ad 0)), (1, .int a1)] [.int w0] S (f_M_rest_13 N a1 w0 S) := by
  unfold f_M_rest_13
  refine x_aload_n (nx := 14) (i := 0) h dM_rest_13 rfl 0 rfl rfl ?_
  refine x_get (nx := 17) h (gM_0_9 ad ca _) (List.mem_cons_of_mem _ kM_85) dM_rest_14 rfl ?_
  refine x_if_eq (nx := 20) (tgt := 24) h dM_rest_17 (by decide) rfl ?_ ?_
  · refine x_iconst (nx := 25) (v := (0 : Int32)) h dM_rest_24 (by decide) rfl ?_
    exact x_sub [0, 1] rfl (j_M_rest_25 h N a1 w0 (0 : Int32) S)
  · refine x_iconst (nx := 21) (v := (4 : Int32)) h dM_rest_20 (by decide) rfl ?_
    refine x_goto (tgt := 25) h dM_rest_21 (by decide) ?_
    exact x_sub [0, 1] rfl (j_M_rest_25 h N a1 w0 (4 : Int32) S)
set_option maxHeartbeats 4000000 in
set_option maxRecDepth 100000 in
theorem m_M_rest {l : Launch} {D : va_G} {ad : Nat → Nat} {ca : Nat → ClassId} (N : Nat) (a1 : Int32) (S : xSt) : xM l D clA (tysM ca) (cellsM ad ca) nW yM_rest (Cond.code yM_rest cM_rest 2 (some .int) :: wA) rm_M_rest true [.ref (ad 0), .int a1] S (f_M_rest N a1 S) := by
  refine x_met (cc := cM_rest) (maxL := 2) (ret := (some .int)) (by decide) rfl [.ref (ad 0), .int a1] (lv0 := [(0, .ref (ad 0)), (1, .int a1)]) (Nat.le_of_ble_eq_true rfl) rfl ?_
  intro p e s m args below meth c A h
  unfold f_M_rest
  refine x_aload_n (nx := 1) (i := 0) h dM_rest_0 rfl 0 rfl rfl ?_
  refine x_get (nx := 4) h (gM_0_7 ad ca _) (List.mem_cons_of_mem _ kM_88) dM_rest_1 rfl ?_
  refine x_if_eq (nx := 7) (tgt := 12) h dM_rest_4 (by decide) rfl ?_ ?_
  · refine x_iconst (nx := 13) (v := (0 : Int32)) h dM_rest_12 (by decide) rfl ?_
    exact x_sub [0, 1] rfl (j_M_rest_13 h N a1 (0 : Int32) S)
  · refine x_bipush (nx := 9) (v := (16 : Int32)) h dM_rest_7 (by decide) rfl ?_
    refine x_goto (tgt := 13) h dM_rest_9 (by decide) ?_
    exact x_sub [0, 1] rfl (j_M_rest_13 h N a1 (16 : Int32) S)
