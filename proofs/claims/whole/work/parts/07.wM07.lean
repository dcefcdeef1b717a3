set_option maxHeartbeats 4000000 in
set_option maxRecDepth 100000 in
theorem j_M_store_50 {l : Launch} {D : va_G} {ad : Nat → Nat} {ca : Nat → ClassId} {p : Program} {e : Env} {s : State} {m : MethodId} {args : Array Value} {below : List Frame} {meth : Method} {c : Code} {A : Nat → Prop} (h : xC p s m args meth c cM_store 4 (Cond.code yM_store cM_store 4 none :: wA) nW yM_store.cls none D clA (tysM ca) A) (N : Nat) (S : xSt) : xJ p l e rm_M_store s m args below meth c D clA (tysM ca) (cellsM ad ca) A false 4 50 [] [] S (f_M_store_50 N S) := by
  unfold f_M_store_50
  exact x_vret h dM_store_50
set_option maxHeartbeats 4000000 in
set_option maxRecDepth 100000 in
theorem j_M_store_123 {l : Launch} {D : va_G} {ad : Nat → Nat} {ca : Nat → ClassId} {p : Program} {e : Env} {s : State} {m : MethodId} {args : Array Value} {below : List Frame} {meth : Method} {c : Code} {A : Nat → Prop} (h : xC p s m args meth c cM_store 4 (Cond.code yM_store cM_store 4 none :: wA) nW yM_store.cls none D clA (tysM ca) A) (N : Nat) (S : xSt) : xJ p l e rm_M_store s m args below meth c D clA (tysM ca) (cellsM ad ca) A false 4 123 [] [] S (f_M_store_123 N S) := by
  unfold f_M_store_123
  exact x_vret h dM_store_123
set_option maxHeartbeats 4000000 in
set_option maxRecDepth 100000 in
theorem j_M_store_77 {l : Launch} {D : va_G} {ad : Nat → Nat} {ca : Nat → ClassId} {p : Program} {e : Env} {s : State} {m : MethodId} {args : Array Value} {below : List Frame} {meth : Method} {c : Code} {A : Nat → Prop} (h : xC p s m args meth c cM_store 4 (Cond.code yM_store cM_store 4 none :: wA) nW yM_store.cls none D clA (tysM ca) A) (N : Nat) (a1 a2 a3 : Int32) (S : xSt) : xJ p l e rm_M_store s m args below meth c D clA (tysM ca) (cellsM ad ca) A false 4 77 [(0, .ref (ad 0)), (1, .int a1), (2, .int a2), (3, .int a3)] [] S (f_M_store_77 N a1 a2 a3 S) := by
  unfold f_M_store_77
  refine x_iload_n (nx := 78) (i := 1) h dM_store_77 rfl 1 rfl rfl ?_
  refine x_iconst (nx := 79) (v := (2 : Int32)) h dM_store_78 (by decide) rfl ?_
  refine x_icmp_ne (nx := 82) (tgt := 94) h dM_store_79 (by decide) rfl ?_ ?_
  · refine x_iload_n (nx := 95) (i := 2) h dM_store_94 rfl 2 rfl rfl ?_
    refine x_if_eq (nx := 98) (tgt := 112) h dM_store_95 (by decide) rfl ?_ ?_
    · refine x_aload_n (nx := 113) (i := 0) h dM_store_112 rfl 0 rfl rfl ?_
      refine x_iload_n (nx := 114) (i := 3) h dM_store_113 rfl 3 rfl rfl ?_
      refine x_aload_n (nx := 115) (i := 0) h dM_store_114 rfl 0 rfl rfl ?_
      refine x_get (nx := 118) h (gM_0_1 ad ca _) (List.mem_cons_of_mem _ kM_13) dM_store_115 rfl ?_
      refine x_iconst (nx := 119) (v := (0 : Int32)) h dM_store_118 (by decide) rfl ?_
      refine x_iald (nx := 120) h (aM_2 ad ca) dM_store_119 rfl (fun v1 => ?_)
      refine x_cVv (nx := 123) (rest := []) (As := [.int a3, .int v1]) h (m_M_write N a3 v1 S) (x_wV h goA y_M_write kM_56 ⟨by decide, by decide⟩ rfl rfl) (oM_0 ad ca) rfl rfl (Nat.le_of_ble_eq_true rfl) dM_store_120 rfl (fun v2 S3 => ?_)
      exact x_sub [] rfl (j_M_store_123 h N S3)
    · refine x_aload_n (nx := 99) (i := 0) h dM_store_98 rfl 0 rfl rfl ?_
      refine x_get (nx := 102) h (gM_0_1 ad ca _) (List.mem_cons_of_mem _ kM_13) dM_store_99 rfl ?_
      refine x_iconst (nx := 103) (v := (0 : Int32)) h dM_store_102 (by decide) rfl ?_
      refine x_aload_n (nx := 104) (i := 0) h dM_store_103 rfl 0 rfl rfl ?_
      refine x_iload_n (nx := 105) (i := 3) h dM_store_104 rfl 3 rfl rfl ?_
      refine x_cVi (nx := 108) (rest := [.int (0 : Int32), .ref (ad 2)]) (As := [.int a3]) h (m_M_read N a3 S) (x_wV h goA y_M_read kM_48 ⟨by decide, by decide⟩ rfl rfl) (oM_0 ad ca) rfl rfl (Nat.le_of_ble_eq_true rfl) dM_store_105 rfl (fun v4 S5 => ?_)
      refine x_iast (nx := 109) h (aM_2 ad ca) dM_store_108 rfl (fun S6 => ?_)
      refine x_goto (tgt := 123) h dM_store_109 (by decide) ?_
      exact x_sub [] rfl (j_M_store_123 h N S6)
  · refine x_aload_n (nx := 83) (i := 0) h dM_store_82 rfl 0 rfl rfl ?_
    refine x_iload_n (nx := 84) (i := 3) h dM_store_83 rfl 3 rfl rfl ?_
    refine x_aload_n (nx := 85) (i := 0) h dM_store_84 rfl 0 rfl rfl ?_
    refine x_cVi (nx := 88) (rest := [.int a3, .ref (ad 0)]) (As := []) h (m_M_main N S) (x_wV h goA y_M_main kM_68 ⟨by decide, by decide⟩ rfl rfl) (oM_0 ad ca) rfl rfl (Nat.le_of_ble_eq_true rfl) dM_store_85 rfl (fun v7 S8 => ?_)
    refine x_cVv (nx := 91) (rest := []) (As := [.int a3, .int v7]) h (m_M_setTwo N a3 v7 S8) (x_wV h goA y_M_setTwo kM_221 ⟨by decide, by decide⟩ rfl rfl) (oM_0 ad ca) rfl rfl (Nat.le_of_ble_eq_true rfl) dM_store_88 rfl (fun v9 S10 => ?_)
    refine x_goto (tgt := 123) h dM_store_91 (by decide) ?_
    exact x_sub [] rfl (j_M_store_123 h N S10)
set_option maxHeartbeats 4000000 in
set_option maxRecDepth 100000 in
theorem m_M_store {l : Launch} {D : va_G} {ad : Nat → Nat} {ca : Nat → ClassId} (N : Nat) (a1 a2 : Int32) (S : xSt) : xM l D clA (tysM ca) (cellsM ad ca) nW yM_store (Cond.code yM_store cM_store 4 none :: wA) rm_M_store false [.ref (ad 0), .int a1, .int a2] S (f_M_store N a1 a2 S) := by
  refine x_met (cc := cM_store) (maxL := 4) (ret := none) (by decide) rfl [.ref (ad 0), .int a1, .int a2] (lv0 := [(0, .ref (ad 0)), (1, .int a1), (2, .int a2)]) (Nat.le_of_ble_eq_true rfl) rfl ?_
  intro p e s m args below meth c A h
  unfold f_M_store
  refine x_iload_n (nx := 1) (i := 1) h dM_store_0 rfl 1 rfl rfl ?_
  refine x_iconst (nx := 2) (v := (2 : Int32)) h dM_store_1 (by decide) rfl ?_
  refine x_icmp_ge (nx := 5) (tgt := 51) h dM_store_2 (by decide) rfl ?_ ?_
  · refine x_aload_n (nx := 52) (i := 0) h dM_store_51 rfl 0 rfl rfl ?_
    refine x_cVi (nx := 55) (rest := []) (As := []) h (m_M_twoNext N S) (x_wV h goA y_M_twoNext kM_197 ⟨by decide, by decide⟩ rfl rfl) (oM_0 ad ca) rfl rfl (Nat.le_of_ble_eq_true rfl) dM_store_52 rfl (fun v1 S2 => ?_)
    refine x_istore_n (nx := 56) (i := 3) (lv' := [(3, .int v1), (0, .ref (ad 0)), (1, .int a1), (2, .int a2)]) h dM_store_55 rfl (by decide) rfl rfl ?_
    refine x_iload_n (nx := 57) (i := 1) h dM_store_56 rfl 2 rfl rfl ?_
    refine x_iconst (nx := 58) (v := (2 : Int32)) h dM_store_57 (by decide) rfl ?_
    refine x_icmp_ne (nx := 61) (tgt := 77) h dM_store_58 (by decide) rfl ?_ ?_
    · exact x_sub [1, 2, 3, 0] rfl (j_M_store_77 h N a1 a2 v1 S2)
    · refine x_iload_n (nx := 62) (i := 2) h dM_store_61 rfl 3 rfl rfl ?_
      refine x_if_eq (nx := 65) (tgt := 77) h dM_store_62 (by decide) rfl ?_ ?_
      · exact x_sub [1, 2, 3, 0] rfl (j_M_store_77 h N a1 a2 v1 S2)
      · refine x_aload_n (nx := 66) (i := 0) h dM_store_65 rfl 1 rfl rfl ?_
        refine x_aload_n (nx := 67) (i := 0) h dM_store_66 rfl 1 rfl rfl ?_
        refine x_iload_n (nx := 68) (i := 3) h dM_store_67 rfl 0 rfl rfl ?_
        refine x_cVi (nx := 71) (rest := [.ref (ad 0)]) (As := [.int v1]) h (m_M_two N v1 S2) (x_wV h goA y_M_two kM_164 ⟨by decide, by decide⟩ rfl rfl) (oM_0 ad ca) rfl rfl (Nat.le_of_ble_eq_true rfl) dM_store_68 rfl (fun v3 S4 => ?_)
        refine x_cVv (nx := 74) (rest := []) (As := [.int v3]) h (m_M_setMain N v3 S4) (x_wV h goA y_M_setMain kM_71 ⟨by decide, by decide⟩ rfl rfl) (oM_0 ad ca) rfl rfl (Nat.le_of_ble_eq_true rfl) dM_store_71 rfl (fun v5 S6 => ?_)
        refine x_goto (tgt := 123) h dM_store_74 (by decide) ?_
        exact x_sub [] rfl (j_M_store_123 h N S6)
  · refine x_iload_n (nx := 6) (i := 2) h dM_store_5 rfl 2 rfl rfl ?_
    refine x_if_eq (nx := 9) (tgt := 31) h dM_store_6 (by decide) rfl ?_ ?_
    · refine x_aload_n (nx := 32) (i := 0) h dM_store_31 rfl 0 rfl rfl ?_
      refine x_aload_n (nx := 33) (i := 0) h dM_store_32 rfl 0 rfl rfl ?_
      refine x_iconst (nx := 34) (v := (2 : Int32)) h dM_store_33 (by decide) rfl ?_
      refine x_iconst (nx := 35) (v := (2 : Int32)) h dM_store_34 (by decide) rfl ?_
      refine x_iload_n (nx := 36) (i := 1) h dM_store_35 rfl 1 rfl rfl ?_
      refine x_imul (nx := 37) h dM_store_36 rfl ?_
      refine x_iadd (nx := 38) h dM_store_37 rfl ?_
      refine x_cVi (nx := 41) (rest := [.ref (ad 0)]) (As := [.int ((2 : Int32) + ((2 : Int32) * a1))]) h (m_M_pair N ((2 : Int32) + ((2 : Int32) * a1)) S) (x_wV h goA y_M_pair kM_62 ⟨by decide, by decide⟩ rfl rfl) (oM_0 ad ca) rfl rfl (Nat.le_of_ble_eq_true rfl) dM_store_38 rfl (fun v7 S8 => ?_)
      refine x_aload_n (nx := 42) (i := 0) h dM_store_41 rfl 0 rfl rfl ?_
      refine x_get (nx := 45) h (gM_0_1 ad ca _) (List.mem_cons_of_mem _ kM_13) dM_store_42 rfl ?_
      refine x_iconst (nx := 46) (v := (0 : Int32)) h dM_store_45 (by decide) rfl ?_
      refine x_iald (nx := 47) h (aM_2 ad ca) dM_store_46 rfl (fun v9 => ?_)
      refine x_cVv (nx := 50) (rest := []) (As := [.int v7, .int v9]) h (m_M_write N v7 v9 S8) (x_wV h goA y_M_write kM_56 ⟨by decide, by decide⟩ rfl rfl) (oM_0 ad ca) rfl rfl (Nat.le_of_ble_eq_true rfl) dM_store_47 rfl (fun v10 S11 => ?_)
      exact x_sub [] rfl (j_M_store_50 h N S11)
    · refine x_aload_n (nx := 10) (i := 0) h dM_store_9 rfl 0 rfl rfl ?_
      refine x_get (nx := 13) h (gM_0_1 ad ca _) (List.mem_cons_of_mem _ kM_13) dM_store_10 rfl ?_
      refine x_iconst (nx := 14) (v := (0 : Int32)) h dM_store_13 (by decide) rfl ?_
      refine x_aload_n (nx := 15) (i := 0) h dM_store_14 rfl 0 rfl rfl ?_
      refine x_aload_n (nx := 16) (i := 0) h dM_store_15 rfl 0 rfl rfl ?_
      refine x_iconst (nx := 17) (v := (2 : Int32)) h dM_store_16 (by decide) rfl ?_
      refine x_iconst (nx := 18) (v := (2 : Int32)) h dM_store_17 (by decide) rfl ?_
      refine x_iload_n (nx := 19) (i := 1) h dM_store_18 rfl 1 rfl rfl ?_
      refine x_imul (nx := 20) h dM_store_19 rfl ?_
      refine x_iadd (nx := 21) h dM_store_20 rfl ?_
      refine x_cVi (nx := 24) (rest := [.ref (ad 0), .int (0 : Int32), .ref (ad 2)]) (As := [.int ((2 : Int32) + ((2 : Int32) * a1))]) h (m_M_pair N ((2 : Int32) + ((2 : Int32) * a1)) S) (x_wV h goA y_M_pair kM_62 ⟨by decide, by decide⟩ rfl rfl) (oM_0 ad ca) rfl rfl (Nat.le_of_ble_eq_true rfl) dM_store_21 rfl (fun v12 S13 => ?_)
      refine x_cVi (nx := 27) (rest := [.int (0 : Int32), .ref (ad 2)]) (As := [.int v12]) h (m_M_read N v12 S13) (x_wV h goA y_M_read kM_48 ⟨by decide, by decide⟩ rfl rfl) (oM_0 ad ca) rfl rfl (Nat.le_of_ble_eq_true rfl) dM_store_24 rfl (fun v14 S15 => ?_)
      refine x_iast (nx := 28) h (aM_2 ad ca) dM_store_27 rfl (fun S16 => ?_)
      refine x_goto (tgt := 50) h dM_store_28 (by decide) ?_
      exact x_sub [] rfl (j_M_store_50 h N S16)
set_option maxHeartbeats 4000000 in
set_option maxRecDepth 100000 in
theorem j_M_first_175 {l : Launch} {D : va_G} {ad : Nat → Nat} {ca : Nat → ClassId} {p : Program} {e : Env} {s : State} {m : MethodId} {args : Array Value} {below : List Frame} {meth : Method} {c : Code} {A : Nat → Prop} (h : xC p s m args meth c cM_first 5 (Cond.code yM_first cM_first 5 none :: wA) nW yM_first.cls none D clA (tysM ca) A) (N : Nat) (S : xSt) : xJ p l e rm_M_first s m args below meth c D clA (tysM ca) (cellsM ad ca) A false 5 175 [] [] S (f_M_first_175 N S) := by
  unfold f_M_first_175
  exact x_vret h dM_first_175
set_option maxHeartbeats 4000000 in
set_option maxRecDepth 100000 in
theorem j_M_first_108 {l : Launch} {D : va_G} {ad : Nat → Nat} {ca : Nat → ClassId} {p : Program} {e : Env} {s : State} {m : MethodId} {args : Array Value} {below : List Frame} {meth : Method} {c : Code} {A : Nat → Prop} (h : xC p s m args meth c cM_first 5 (Cond.code yM_first cM_first 5 none :: wA) nW yM_first.cls none D clA (tysM ca) A) (N : Nat) (w1 w2 : Int32) (S : xSt) : xJ p l e rm_M_first s m args below meth c D clA (tysM ca) (cellsM ad ca) A false 5 108 [] [.int w2, .int w1, .ref (ad 0)] S (f_M_first_108 N w1 w2 S) := by
  unfold f_M_first_108
  refine x_cVv (nx := 111) (rest := []) (As := [.int w1, .int w2]) h (m_M_setW N w1 w2 S) (x_wV h goA y_M_setW kM_200 ⟨by decide, by decide⟩ rfl rfl) (oM_0 ad ca) rfl rfl (Nat.le_of_ble_eq_true rfl) dM_first_108 rfl (fun v1 S2 => ?_)
  refine x_goto (tgt := 175) h dM_first_111 (by decide) ?_
  exact x_sub [] rfl (j_M_first_175 h N S2)
set_option maxHeartbeats 4000000 in
set_option maxRecDepth 100000 in
theorem j_M_first_172 {l : Launch} {D : va_G} {ad : Nat → Nat} {ca : Nat → ClassId} {p : Program} {e : Env} {s : State} {m : MethodId} {args : Array Value} {below : List Frame} {meth : Method} {c : Code} {A : Nat → Prop} (h : xC p s m args meth c cM_first 5 (Cond.code yM_first cM_first 5 none :: wA) nW yM_first.cls none D clA (tysM ca) A) (N : Nat) (w1 w2 : Int32) (S : xSt) : xJ p l e rm_M_first s m args below meth c D clA (tysM ca) (cellsM ad ca) A false 5 172 [] [.int w2, .int w1, .ref (ad 0)] S (f_M_first_172 N w1 w2 S) := by
  unfold f_M_first_172
  refine x_cVv (nx := 175) (rest := []) (As := [.int w1, .int w2]) h (m_M_put N w1 w2 S) (x_wV h goA y_M_put kM_176 ⟨by decide, by decide⟩ rfl rfl) (oM_0 ad ca) rfl rfl (Nat.le_of_ble_eq_true rfl) dM_first_172 rfl (fun v1 S2 => ?_)
  exact x_sub [] rfl (j_M_first_175 h N S2)
set_option maxHeartbeats 4000000 in
set_option maxRecDepth 100000 in
theorem j_M_first_169 {l : Launch} {D : va_G} {ad : Nat → Nat} {ca : Nat → ClassId} {p : Program} {e : Env} {s : State} {m : MethodId} {args : Array Value} {below : List Frame} {meth : Method} {c : Code} {A : Nat → Prop} (h : xC p s m args meth c cM_first 5 (Cond.code yM_first cM_first 5 none :: wA) nW yM_first.cls none D clA (tysM ca) A) (N : Nat) (w1 w3 w4 : Int32) (S : xSt) : xJ p l e rm_M_first s m args below meth c D clA (tysM ca) (cellsM ad ca) A false 5 169 [] [.int w4, .int w3, .ref (ad 0), .int w1, .ref (ad 0)] S (f_M_first_169 N w1 w3 w4 S) := by
  unfold f_M_first_169
  refine x_cVi (nx := 172) (rest := [.int w1, .ref (ad 0)]) (As := [.int w3, .int w4]) h (m_M_step1 N w3 w4 S) (x_wV h goA y_M_step1 kM_210 ⟨by decide, by decide⟩ rfl rfl) (oM_0 ad ca) rfl rfl (Nat.le_of_ble_eq_true rfl) dM_first_169 rfl (fun v1 S2 => ?_)
  exact x_sub [] rfl (j_M_first_172 h N w1 v1 S2)
set_option maxHeartbeats 4000000 in
set_option maxRecDepth 100000 in
theorem j_M_first_138 {l : Launch} {D : va_G} {ad : Nat → Nat} {ca : Nat → ClassId} {p : Program} {e : Env} {s : State} {m : MethodId} {args : Array Value} {below : List Frame} {meth : Method} {c : Code} {A : Nat → Prop} (h : xC p s m args meth c cM_first 5 (Cond.code yM_first cM_first 5 none :: wA) nW yM_first.cls none D clA (tysM ca) A) (N : Nat) (a1 a2 : Int32) (S : xSt) : xJ p l e rm_M_first s m args below meth c D clA (tysM ca) (cellsM ad ca) A false 5 138 [(0, .ref (ad 0)), (1, .int a1), (2, .int a2)] [] S (f_M_first_138 N a1 a2 S) := by
  unfold f_M_first_138
  refine x_aload_n (nx := 139) (i := 0) h dM_first_138 rfl 0 rfl rfl ?_
  refine x_iload_n (nx := 140) (i := 1) h dM_first_139 rfl 1 rfl rfl ?_
  refine x_iload_n (nx := 141) (i := 2) h dM_first_140 rfl 2 rfl rfl ?_
  refine x_bipush (nx := 143) (v := (6 : Int32)) h dM_first_141 (by decide) rfl ?_
  refine x_icmp_ne (nx := 146) (tgt := 153) h dM_first_143 (by decide) rfl ?_ ?_
  · refine x_aload_n (nx := 154) (i := 0) h dM_first_153 rfl 0 rfl rfl ?_
    refine x_aload_n (nx := 155) (i := 0) h dM_first_154 rfl 0 rfl rfl ?_
    refine x_iload_n (nx := 156) (i := 1) h dM_first_155 rfl 1 rfl rfl ?_
    refine x_cVi (nx := 159) (rest := [.ref (ad 0), .int a1, .ref (ad 0)]) (As := [.int a1]) h (m_M_get N a1 S) (x_wV h goA y_M_get kM_173 ⟨by decide, by decide⟩ rfl rfl) (oM_0 ad ca) rfl rfl (Nat.le_of_ble_eq_true rfl) dM_first_156 rfl (fun v1 S2 => ?_)
    refine x_iload_n (nx := 160) (i := 2) h dM_first_159 rfl 2 rfl rfl ?_
    refine x_iconst (nx := 161) (v := (4 : Int32)) h dM_first_160 (by decide) rfl ?_
    refine x_icmp_ne (nx := 164) (tgt := 168) h dM_first_161 (by decide) rfl ?_ ?_
    · refine x_iconst (nx := 169) (v := (0 : Int32)) h dM_first_168 (by decide) rfl ?_
      exact x_sub [] rfl (j_M_first_169 h N a1 v1 (0 : Int32) S2)
    · refine x_iconst (nx := 165) (v := (1 : Int32)) h dM_first_164 (by decide) rfl ?_
      refine x_goto (tgt := 169) h dM_first_165 (by decide) ?_
      exact x_sub [] rfl (j_M_first_169 h N a1 v1 (1 : Int32) S2)
  · refine x_aload_n (nx := 147) (i := 0) h dM_first_146 rfl 0 rfl rfl ?_
    refine x_cVi (nx := 150) (rest := [.int a1, .ref (ad 0)]) (As := []) h (m_M_next N S) (x_wV h goA y_M_next kM_52 ⟨by decide, by decide⟩ rfl rfl) (oM_0 ad ca) rfl rfl (Nat.le_of_ble_eq_true rfl) dM_first_147 rfl (fun v3 S4 => ?_)
    refine x_goto (tgt := 172) h dM_first_150 (by decide) ?_
    exact x_sub [] rfl (j_M_first_172 h N a1 v3 S4)
set_option maxHeartbeats 4000000 in
set_option maxRecDepth 100000 in
theorem j_M_first_16 {l : Launch} {D : va_G} {ad : Nat → Nat} {ca : Nat → ClassId} {p : Program} {e : Env} {s : State} {m : MethodId} {args : Array Value} {below : List Frame} {meth : Method} {c : Code} {A : Nat → Prop} (h : xC p s m args meth c cM_first 5 (Cond.code yM_first cM_first 5 none :: wA) nW yM_first.cls none D clA (tysM ca) A) (N : Nat) (a1 a2 a3 w0 : Int32) (S : xSt) : xJ p l e rm_M_first s m args below meth c D clA (tysM ca) (cellsM ad ca) A false 5 16 [(0, .ref (ad 0)), (1, .int a1), (2, .int a2), (3, .int a3)] [.int w0] S (f_M_first_16 N a1 a2 a3 w0 S) := by
  unfold f_M_first_16
  refine x_istore (nx := 18) (i := 4) (lv' := [(4, .int w0), (0, .ref (ad 0)), (1, .int a1), (2, .int a2), (3, .int a3)]) h dM_first_16 (by decide) rfl rfl ?_
  refine x_iload_n (nx := 19) (i := 2) h dM_first_18 rfl 3 rfl rfl ?_
  refine x_if_ne (nx := 22) (tgt := 30) h dM_first_19 (by decide) rfl ?_ ?_
  · refine x_iload_n (nx := 31) (i := 2) h dM_first_30 rfl 3 rfl rfl ?_
    refine x_iconst (nx := 32) (v := (1 : Int32)) h dM_first_31 (by decide) rfl ?_
    refine x_icmp_ne (nx := 35) (tgt := 64) h dM_first_32 (by decide) rfl ?_ ?_
    · refine x_iload_n (nx := 65) (i := 2) h dM_first_64 rfl 3 rfl rfl ?_
      refine x_iconst (nx := 66) (v := (2 : Int32)) h dM_first_65 (by decide) rfl ?_
      refine x_icmp_ne (nx := 69) (tgt := 79) h dM_first_66 (by decide) rfl ?_ ?_
      · refine x_iload_n (nx := 80) (i := 2) h dM_first_79 rfl 3 rfl rfl ?_
        refine x_iconst (nx := 81) (v := (3 : Int32)) h dM_first_80 (by decide) rfl ?_
        refine x_icmp_ne (nx := 84) (tgt := 114) h dM_first_81 (by decide) rfl ?_ ?_
        · refine x_iload_n (nx := 115) (i := 2) h dM_first_114 rfl 3 rfl rfl ?_
          refine x_bipush (nx := 117) (v := (7 : Int32)) h dM_first_115 (by decide) rfl ?_
          refine x_icmp_ne (nx := 120) (tgt := 128) h dM_first_117 (by decide) rfl ?_ ?_
          · refine x_iload_n (nx := 129) (i := 1) h dM_first_128 rfl 2 rfl rfl ?_
            refine x_bipush (nx := 131) (v := (6 : Int32)) h dM_first_129 (by decide) rfl ?_
            refine x_icmp_ne (nx := 134) (tgt := 138) h dM_first_131 (by decide) rfl ?_ ?_
            · exact x_sub [1, 2, 3] rfl (j_M_first_138 h N a1 a2 S)
            · refine x_aload_n (nx := 135) (i := 0) h dM_first_134 rfl 1 rfl rfl ?_
              refine x_cVv (nx := 138) (rest := []) (As := []) h (m_M_aim N S) (x_wV h goA y_M_aim kM_170 ⟨by decide, by decide⟩ rfl rfl) (oM_0 ad ca) rfl rfl (Nat.le_of_ble_eq_true rfl) dM_first_135 rfl (fun v1 S2 => ?_)
              exact x_sub [1, 2, 3] rfl (j_M_first_138 h N a1 a2 S2)
          · refine x_aload_n (nx := 121) (i := 0) h dM_first_120 rfl 1 rfl rfl ?_
            refine x_iload_n (nx := 122) (i := 1) h dM_first_121 rfl 2 rfl rfl ?_
            refine x_cVv (nx := 125) (rest := []) (As := [.int a1]) h (m_M_single N a1 S) (x_wV h goA y_M_single kM_207 ⟨by decide, by decide⟩ rfl rfl) (oM_0 ad ca) rfl rfl (Nat.le_of_ble_eq_true rfl) dM_first_122 rfl (fun v3 S4 => ?_)
            refine x_goto (tgt := 175) h dM_first_125 (by decide) ?_
            exact x_sub [] rfl (j_M_first_175 h N S4)
        · refine x_aload_n (nx := 85) (i := 0) h dM_first_84 rfl 1 rfl rfl ?_
          refine x_iload_n (nx := 86) (i := 3) h dM_first_85 rfl 4 rfl rfl ?_
          refine x_iload (nx := 88) (i := 4) h dM_first_86 0 rfl rfl ?_
          refine x_if_eq (nx := 91) (tgt := 101) h dM_first_88 (by decide) rfl ?_ ?_
          · refine x_aload_n (nx := 102) (i := 0) h dM_first_101 rfl 1 rfl rfl ?_
            refine x_iload_n (nx := 103) (i := 3) h dM_first_102 rfl 4 rfl rfl ?_
            refine x_cVi (nx := 106) (rest := [.int a3, .ref (ad 0)]) (As := [.int a3]) h (m_M_w N a3 S) (x_wV h goA y_M_w kM_191 ⟨by decide, by decide⟩ rfl rfl) (oM_0 ad ca) rfl rfl (Nat.le_of_ble_eq_true rfl) dM_first_103 rfl (fun v5 S6 => ?_)
            refine x_iconst (nx := 107) (v := (1 : Int32)) h dM_first_106 (by decide) rfl ?_
            refine x_iadd (nx := 108) h dM_first_107 rfl ?_
            exact x_sub [] rfl (j_M_first_108 h N a3 (v5 + (1 : Int32)) S6)
          · refine x_aload_n (nx := 92) (i := 0) h dM_first_91 rfl 1 rfl rfl ?_
            refine x_iload_n (nx := 93) (i := 3) h dM_first_92 rfl 4 rfl rfl ?_
            refine x_cVi (nx := 96) (rest := [.int a3, .ref (ad 0)]) (As := [.int a3]) h (m_M_w N a3 S) (x_wV h goA y_M_w kM_191 ⟨by decide, by decide⟩ rfl rfl) (oM_0 ad ca) rfl rfl (Nat.le_of_ble_eq_true rfl) dM_first_93 rfl (fun v7 S8 => ?_)
            refine x_iconst (nx := 97) (v := (1 : Int32)) h dM_first_96 (by decide) rfl ?_
            refine x_isub (nx := 98) h dM_first_97 rfl ?_
            refine x_goto (tgt := 108) h dM_first_98 (by decide) ?_
            exact x_sub [] rfl (j_M_first_108 h N a3 (v7 - (1 : Int32)) S8)
      · refine x_aload_n (nx := 70) (i := 0) h dM_first_69 rfl 1 rfl rfl ?_
        refine x_iload_n (nx := 71) (i := 3) h dM_first_70 rfl 4 rfl rfl ?_
        refine x_iload (nx := 73) (i := 4) h dM_first_71 0 rfl rfl ?_
        refine x_cVv (nx := 76) (rest := []) (As := [.int a3, .int w0]) h (m_M_store N a3 w0 S) (x_wV h goA y_M_store kM_203 ⟨by decide, by decide⟩ rfl rfl) (oM_0 ad ca) rfl rfl (Nat.le_of_ble_eq_true rfl) dM_first_73 rfl (fun v9 S10 => ?_)
        refine x_goto (tgt := 175) h dM_first_76 (by decide) ?_
        exact x_sub [] rfl (j_M_first_175 h N S10)
    · refine x_iload (nx := 37) (i := 4) h dM_first_35 0 rfl rfl ?_
      refine x_if_eq (nx := 40) (tgt := 52) h dM_first_37 (by decide) rfl ?_ ?_
      · refine x_aload_n (nx := 53) (i := 0) h dM_first_52 rfl 1 rfl rfl ?_
        refine x_iload_n (nx := 54) (i := 3) h dM_first_53 rfl 4 rfl rfl ?_
        refine x_aload_n (nx := 55) (i := 0) h dM_first_54 rfl 1 rfl rfl ?_
        refine x_cVi (nx := 58) (rest := [.int a3, .ref (ad 0)]) (As := []) h (m_M_twoNext N S) (x_wV h goA y_M_twoNext kM_197 ⟨by decide, by decide⟩ rfl rfl) (oM_0 ad ca) rfl rfl (Nat.le_of_ble_eq_true rfl) dM_first_55 rfl (fun v11 S12 => ?_)
        refine x_cVv (nx := 61) (rest := []) (As := [.int a3, .int v11]) h (m_M_setW N a3 v11 S12) (x_wV h goA y_M_setW kM_200 ⟨by decide, by decide⟩ rfl rfl) (oM_0 ad ca) rfl rfl (Nat.le_of_ble_eq_true rfl) dM_first_58 rfl (fun v13 S14 => ?_)
        refine x_goto (tgt := 175) h dM_first_61 (by decide) ?_
        exact x_sub [] rfl (j_M_first_175 h N S14)
      · refine x_aload_n (nx := 41) (i := 0) h dM_first_40 rfl 1 rfl rfl ?_
        refine x_aload_n (nx := 42) (i := 0) h dM_first_41 rfl 1 rfl rfl ?_
        refine x_iload_n (nx := 43) (i := 3) h dM_first_42 rfl 4 rfl rfl ?_
        refine x_cVi (nx := 46) (rest := [.ref (ad 0)]) (As := [.int a3]) h (m_M_w N a3 S) (x_wV h goA y_M_w kM_191 ⟨by decide, by decide⟩ rfl rfl) (oM_0 ad ca) rfl rfl (Nat.le_of_ble_eq_true rfl) dM_first_43 rfl (fun v15 S16 => ?_)
        refine x_cVv (nx := 49) (rest := []) (As := [.int v15]) h (m_M_add N v15 S16) (x_wV h goA y_M_add kM_194 ⟨by decide, by decide⟩ rfl rfl) (oM_0 ad ca) rfl rfl (Nat.le_of_ble_eq_true rfl) dM_first_46 rfl (fun v17 S18 => ?_)
        refine x_goto (tgt := 175) h dM_first_49 (by decide) ?_
        exact x_sub [] rfl (j_M_first_175 h N S18)
  · refine x_aload_n (nx := 23) (i := 0) h dM_first_22 rfl 1 rfl rfl ?_
    refine x_iload_n (nx := 24) (i := 1) h dM_first_23 rfl 2 rfl rfl ?_
    refine x_cVv (nx := 27) (rest := []) (As := [.int a1]) h (m_M_jump N a1 S) (x_wV h goA y_M_jump kM_188 ⟨by decide, by decide⟩ rfl rfl) (oM_0 ad ca) rfl rfl (Nat.le_of_ble_eq_true rfl) dM_first_24 rfl (fun v19 S20 => ?_)
    refine x_goto (tgt := 175) h dM_first_27 (by decide) ?_
    exact x_sub [] rfl (j_M_first_175 h N S20)
set_option maxHeartbeats 4000000 in
set_option maxRecDepth 100000 in
theorem m_M_first {l : Launch} {D : va_G} {ad : Nat → Nat} {ca : Nat → ClassId} (N : Nat) (a1 a2 : Int32) (S : xSt) : xM l D clA (tysM ca) (cellsM ad ca) nW yM_first (Cond.code yM_first cM_first 5 none :: wA) rm_M_first false [.ref (ad 0), .int a1, .int a2] S (f_M_first N a1 a2 S) := by
  refine x_met (cc := cM_first) (maxL := 5) (ret := none) (by decide) rfl [.ref (ad 0), .int a1, .int a2] (lv0 := [(0, .ref (ad 0)), (1, .int a1), (2, .int a2)]) (Nat.le_of_ble_eq_true rfl) rfl ?_
  intro p e s m args below meth c A h
  unfold f_M_first
  refine x_iload_n (nx := 1) (i := 1) h dM_first_0 rfl 1 rfl rfl ?_
  refine x_iconst (nx := 2) (v := (1 : Int32)) h dM_first_1 (by decide) rfl ?_
  refine x_ishr (nx := 3) h dM_first_2 rfl ?_
  refine x_val (fun b1 => ?_)
  refine x_istore_n (nx := 4) (i := 3) (lv' := [(3, .int b1), (0, .ref (ad 0)), (1, .int a1), (2, .int a2)]) h dM_first_3 rfl (by decide) rfl rfl ?_
  refine x_iload_n (nx := 5) (i := 1) h dM_first_4 rfl 2 rfl rfl ?_
  refine x_iconst (nx := 6) (v := (2 : Int32)) h dM_first_5 (by decide) rfl ?_
  refine x_irem (nx := 7) h dM_first_6 (by decide) rfl ?_
  refine x_iconst (nx := 8) (v := (1 : Int32)) h dM_first_7 (by decide) rfl ?_
  refine x_icmp_ne (nx := 11) (tgt := 15) h dM_first_8 (by decide) rfl ?_ ?_
  · refine x_iconst (nx := 16) (v := (0 : Int32)) h dM_first_15 (by decide) rfl ?_
    exact x_sub [1, 2, 3, 0] rfl (j_M_first_16 h N a1 a2 b1 (0 : Int32) S)
  · refine x_iconst (nx := 12) (v := (1 : Int32)) h dM_first_11 (by decide) rfl ?_
    refine x_goto (tgt := 16) h dM_first_12 (by decide) ?_
    exact x_sub [1, 2, 3, 0] rfl (j_M_first_16 h N a1 a2 b1 (1 : Int32) S)
set_option maxHeartbeats 4000000 in
set_option maxRecDepth 100000 in
theorem j_M_third_176 {l : Launch} {D : va_G} {ad : Nat → Nat} {ca : Nat → ClassId} {p : Program} {e : Env} {s : State} {m : MethodId} {args : Array Value} {below : List Frame} {meth : Method} {c : Code} {A : Nat → Prop} (h : xC p s m args meth c cM_third 3 (Cond.code yM_third cM_third 3 none :: wA) nW yM_third.cls none D clA (tysM ca) A) (N : Nat) (S : xSt) : xJ p l e rm_M_third s m args below meth c D clA (tysM ca) (cellsM ad ca) A false 3 176 [] [] S (f_M_third_176 N S) := by
  unfold f_M_third_176
  exact x_vret h dM_third_176
set_option maxHeartbeats 4000000 in
set_option maxRecDepth 100000 in
theorem j_M_third_74 {l : Launch} {D : va_G} {ad : Nat → Nat} {ca : Nat → ClassId} {p : Program} {e : Env} {s : State} {m : MethodId} {args : Array Value} {below : List Frame} {meth : Method} {c : Code} {A : Nat → Prop} (h : xC p s m args meth c cM_third 3 (Cond.code yM_third cM_third 3 none :: wA) nW yM_third.cls none D clA (tysM ca) A) (N : Nat) (S : xSt) : xJ p l e rm_M_third s m args below meth c D clA (tysM ca) (cellsM ad ca) A false 3 74 [] [] S (f_M_third_74 N S) := by
  unfold f_M_third_74
  refine x_goto (tgt := 176) h dM_third_74 (by decide) ?_
  exact x_sub [] rfl (j_M_third_176 h N S)
set_option maxHeartbeats 4000000 in
set_option maxRecDepth 100000 in
theorem j_M_third_28 {l : Launch} {D : va_G} {ad : Nat → Nat} {ca : Nat → ClassId} {p : Program} {e : Env} {s : State} {m : MethodId} {args : Array Value} {below : List Frame} {meth : Method} {c : Code} {A : Nat → Prop} (h : xC p s m args meth c cM_third 3 (Cond.code yM_third cM_third 3 none :: wA) nW yM_third.cls none D clA (tysM ca) A) (N : Nat) (a1 : Int32) (S : xSt) : xJ p l e rm_M_third s m args below meth c D clA (tysM ca) (cellsM ad ca) A false 3 28 [(0, .ref (ad 0)), (1, .int a1)] [] S (f_M_third_28 N a1 S) := by
  unfold f_M_third_28
  refine x_sipush (nx := 31) (v := (256 : Int32)) h dM_third_28 (by decide) rfl ?_
  refine x_aload_n (nx := 32) (i := 0) h dM_third_31 rfl 0 rfl rfl ?_
  refine x_get (nx := 35) h (gM_0_1 ad ca _) (List.mem_cons_of_mem _ kM_13) dM_third_32 rfl ?_
  refine x_iconst (nx := 36) (v := (0 : Int32)) h dM_third_35 (by decide) rfl ?_
  refine x_iald (nx := 37) h (aM_2 ad ca) dM_third_36 rfl (fun v1 => ?_)
  refine x_imul (nx := 38) h dM_third_37 rfl ?_
  refine x_aload_n (nx := 39) (i := 0) h dM_third_38 rfl 0 rfl rfl ?_
  refine x_cVi (nx := 42) (rest := [.int ((256 : Int32) * v1)]) (As := []) h (m_M_next N S) (x_wV h goA y_M_next kM_52 ⟨by decide, by decide⟩ rfl rfl) (oM_0 ad ca) rfl rfl (Nat.le_of_ble_eq_true rfl) dM_third_39 rfl (fun v2 S3 => ?_)
  refine x_iadd (nx := 43) h dM_third_42 rfl ?_
  refine x_val (fun b4 => ?_)
  refine x_istore_n (nx := 44) (i := 2) (lv' := [(2, .int b4), (0, .ref (ad 0)), (1, .int a1)]) h dM_third_43 rfl (by decide) rfl rfl ?_
  refine x_iload_n (nx := 45) (i := 1) h dM_third_44 rfl 2 rfl rfl ?_
  refine x_iconst (nx := 46) (v := (2 : Int32)) h dM_third_45 (by decide) rfl ?_
  refine x_icmp_ne (nx := 49) (tgt := 63) h dM_third_46 (by decide) rfl ?_ ?_
  · refine x_aload_n (nx := 64) (i := 0) h dM_third_63 rfl 1 rfl rfl ?_
    refine x_get (nx := 67) h (gM_0_1 ad ca _) (List.mem_cons_of_mem _ kM_13) dM_third_64 rfl ?_
    refine x_iconst (nx := 68) (v := (0 : Int32)) h dM_third_67 (by decide) rfl ?_
    refine x_aload_n (nx := 69) (i := 0) h dM_third_68 rfl 1 rfl rfl ?_
    refine x_iload_n (nx := 70) (i := 2) h dM_third_69 rfl 0 rfl rfl ?_
    refine x_cVi (nx := 73) (rest := [.int (0 : Int32), .ref (ad 2)]) (As := [.int b4]) h (m_M_input N b4 S3) (x_wV h goA y_M_input kM_227 ⟨by decide, by decide⟩ rfl rfl) (oM_0 ad ca) rfl rfl (Nat.le_of_ble_eq_true rfl) dM_third_70 rfl (fun v5 S6 => ?_)
    refine x_iast (nx := 74) h (aM_2 ad ca) dM_third_73 rfl (fun S7 => ?_)
    exact x_sub [] rfl (j_M_third_74 h N S7)
  · refine x_aload_n (nx := 50) (i := 0) h dM_third_49 rfl 1 rfl rfl ?_
    refine x_iload_n (nx := 51) (i := 2) h dM_third_50 rfl 0 rfl rfl ?_
    refine x_aload_n (nx := 52) (i := 0) h dM_third_51 rfl 1 rfl rfl ?_
    refine x_get (nx := 55) h (gM_0_1 ad ca _) (List.mem_cons_of_mem _ kM_13) dM_third_52 rfl ?_
    refine x_iconst (nx := 56) (v := (0 : Int32)) h dM_third_55 (by decide) rfl ?_
    refine x_iald (nx := 57) h (aM_2 ad ca) dM_third_56 rfl (fun v8 => ?_)
    refine x_cVv (nx := 60) (rest := []) (As := [.int b4, .int v8]) h (m_M_output N b4 v8 S3) (x_wV h goA y_M_output kM_224 ⟨by decide, by decide⟩ rfl rfl) (oM_0 ad ca) rfl rfl (Nat.le_of_ble_eq_true rfl) dM_third_57 rfl (fun v9 S10 => ?_)
    refine x_goto (tgt := 74) h dM_third_60 (by decide) ?_
    exact x_sub [] rfl (j_M_third_74 h N S10)
set_option maxHeartbeats 4000000 in
set_option maxRecDepth 100000 in
theorem j_M_third_173 {l : Launch} {D : va_G} {ad : Nat → Nat} {ca : Nat → ClassId} {p : Program} {e : Env} {s : State} {m : MethodId} {args : Array Value} {below : List Frame} {meth : Method} {c : Code} {A : Nat → Prop} (h : xC p s m args meth c cM_third 3 (Cond.code yM_third cM_third 3 none :: wA) nW yM_third.cls none D clA (tysM ca) A) (N : Nat) (w1 : Int32) (S : xSt) : xJ p l e rm_M_third s m args below meth c D clA (tysM ca) (cellsM ad ca) A false 3 173 [] [.int w1, .ref (ad 0)] S (f_M_third_173 N w1 S) := by
  unfold f_M_third_173
  refine x_putZ (nx := 176) h (pM_0_3 ad ca _) (List.mem_cons_of_mem _ kM_143) dM_third_173 rfl (fun S1 => ?_)
  exact x_sub [] rfl (j_M_third_176 h N S1)
set_option maxHeartbeats 4000000 in
set_option maxRecDepth 100000 in
theorem m_M_third {l : Launch} {D : va_G} {ad : Nat → Nat} {ca : Nat → ClassId} (N : Nat) (a1 : Int32) (S : xSt) : xM l D clA (tysM ca) (cellsM ad ca) nW yM_third (Cond.code yM_third cM_third 3 none :: wA) rm_M_third false [.ref (ad 0), .int a1] S (f_M_third N a1 S) := by
  refine x_met (cc := cM_third) (maxL := 3) (ret := none) (by decide) rfl [.ref (ad 0), .int a1] (lv0 := [(0, .ref (ad 0)), (1, .int a1)]) (Nat.le_of_ble_eq_true rfl) rfl ?_
  intro p e s m args below meth c A h
  unfold f_M_third
  refine x_iload_n (nx := 1) (i := 1) h dM_third_0 rfl 1 rfl rfl ?_
  refine x_if_ne (nx := 4) (tgt := 18) h dM_third_1 (by decide) rfl ?_ ?_
  · refine x_iload_n (nx := 19) (i := 1) h dM_third_18 rfl 1 rfl rfl ?_
    refine x_iconst (nx := 20) (v := (2 : Int32)) h dM_third_19 (by decide) rfl ?_
    refine x_icmp_eq (nx := 23) (tgt := 28) h dM_third_20 (by decide) rfl ?_ ?_
    · exact x_sub [0, 1] rfl (j_M_third_28 h N a1 S)
    · refine x_iload_n (nx := 24) (i := 1) h dM_third_23 rfl 1 rfl rfl ?_
      refine x_iconst (nx := 25) (v := (3 : Int32)) h dM_third_24 (by decide) rfl ?_
      refine x_icmp_ne (nx := 28) (tgt := 77) h dM_third_25 (by decide) rfl ?_ ?_
      · refine x_iload_n (nx := 78) (i := 1) h dM_third_77 rfl 1 rfl rfl ?_
        refine x_iconst (nx := 79) (v := (4 : Int32)) h dM_third_78 (by decide) rfl ?_
        refine x_icmp_ne (nx := 82) (tgt := 117) h dM_third_79 (by decide) rfl ?_ ?_
        · refine x_iload_n (nx := 118) (i := 1) h dM_third_117 rfl 1 rfl rfl ?_
          refine x_iconst (nx := 119) (v := (5 : Int32)) h dM_third_118 (by decide) rfl ?_
          refine x_icmp_ne (nx := 122) (tgt := 139) h dM_third_119 (by decide) rfl ?_ ?_
          · refine x_aload_n (nx := 140) (i := 0) h dM_third_139 rfl 0 rfl rfl ?_
            refine x_get (nx := 143) h (gM_0_1 ad ca _) (List.mem_cons_of_mem _ kM_13) dM_third_140 rfl ?_
            refine x_bipush (nx := 145) (v := (22 : Int32)) h dM_third_143 (by decide) rfl ?_
            refine x_iload_n (nx := 146) (i := 1) h dM_third_145 rfl 1 rfl rfl ?_
            refine x_bipush (nx := 148) (v := (6 : Int32)) h dM_third_146 (by decide) rfl ?_
            refine x_isub (nx := 149) h dM_third_148 rfl ?_
            refine x_iast (nx := 150) h (aM_2 ad ca) dM_third_149 rfl (fun S1 => ?_)
            refine x_aload_n (nx := 151) (i := 0) h dM_third_150 rfl 0 rfl rfl ?_
            refine x_get (nx := 154) h (gM_0_1 ad ca _) (List.mem_cons_of_mem _ kM_13) dM_third_151 rfl ?_
            refine x_bipush (nx := 156) (v := (23 : Int32)) h dM_third_154 (by decide) rfl ?_
            refine x_iload_n (nx := 157) (i := 1) h dM_third_156 rfl 1 rfl rfl ?_
            refine x_bipush (nx := 159) (v := (6 : Int32)) h dM_third_157 (by decide) rfl ?_
            refine x_isub (nx := 160) h dM_third_159 rfl ?_
            refine x_iast (nx := 161) h (aM_2 ad ca) dM_third_160 rfl (fun S2 => ?_)
            refine x_aload_n (nx := 162) (i := 0) h dM_third_161 rfl 0 rfl rfl ?_
            refine x_iload_n (nx := 163) (i := 1) h dM_third_162 rfl 1 rfl rfl ?_
            refine x_bipush (nx := 165) (v := (7 : Int32)) h dM_third_163 (by decide) rfl ?_
            refine x_icmp_ne (nx := 168) (tgt := 172) h dM_third_165 (by decide) rfl ?_ ?_
            · refine x_iconst (nx := 173) (v := (0 : Int32)) h dM_third_172 (by decide) rfl ?_
              exact x_sub [] rfl (j_M_third_173 h N (0 : Int32) S2)
            · refine x_iconst (nx := 169) (v := (1 : Int32)) h dM_third_168 (by decide) rfl ?_
              refine x_goto (tgt := 173) h dM_third_169 (by decide) ?_
              exact x_sub [] rfl (j_M_third_173 h N (1 : Int32) S2)
          · refine x_aload_n (nx := 123) (i := 0) h dM_third_122 rfl 0 rfl rfl ?_
            refine x_iconst (nx := 124) (v := (4 : Int32)) h dM_third_123 (by decide) rfl ?_
            refine x_bipush (nx := 126) (v := (6 : Int32)) h dM_third_124 (by decide) rfl ?_
            refine x_cVv (nx := 129) (rest := []) (As := [.int (4 : Int32), .int (6 : Int32)]) h (m_M_change N (4 : Int32) (6 : Int32) S) (x_wV h goA y_M_change kM_214 ⟨by decide, by decide⟩ rfl rfl) (oM_0 ad ca) rfl rfl (Nat.le_of_ble_eq_true rfl) dM_third_126 rfl (fun v3 S4 => ?_)
            refine x_aload_n (nx := 130) (i := 0) h dM_third_129 rfl 0 rfl rfl ?_
            refine x_iconst (nx := 131) (v := (5 : Int32)) h dM_third_130 (by decide) rfl ?_
            refine x_bipush (nx := 133) (v := (7 : Int32)) h dM_third_131 (by decide) rfl ?_
            refine x_cVv (nx := 136) (rest := []) (As := [.int (5 : Int32), .int (7 : Int32)]) h (m_M_change N (5 : Int32) (7 : Int32) S4) (x_wV h goA y_M_change kM_214 ⟨by decide, by decide⟩ rfl rfl) (oM_0 ad ca) rfl rfl (Nat.le_of_ble_eq_true rfl) dM_third_133 rfl (fun v5 S6 => ?_)
            refine x_goto (tgt := 176) h dM_third_136 (by decide) ?_
            exact x_sub [] rfl (j_M_third_176 h N S6)
        · refine x_aload_n (nx := 83) (i := 0) h dM_third_82 rfl 0 rfl rfl ?_
          refine x_aload_n (nx := 84) (i := 0) h dM_third_83 rfl 0 rfl rfl ?_
          refine x_get (nx := 87) h (gM_0_1 ad ca _) (List.mem_cons_of_mem _ kM_13) dM_third_84 rfl ?_
          refine x_bipush (nx := 89) (v := (20 : Int32)) h dM_third_87 (by decide) rfl ?_
          refine x_iald (nx := 90) h (aM_2 ad ca) dM_third_89 rfl (fun v7 => ?_)
          refine x_cVi (nx := 93) (rest := []) (As := [.int v7]) h (m_M_two N v7 S) (x_wV h goA y_M_two kM_164 ⟨by decide, by decide⟩ rfl rfl) (oM_0 ad ca) rfl rfl (Nat.le_of_ble_eq_true rfl) dM_third_90 rfl (fun v8 S9 => ?_)
          refine x_istore_n (nx := 94) (i := 2) (lv' := [(2, .int v8), (0, .ref (ad 0)), (1, .int a1)]) h dM_third_93 rfl (by decide) rfl rfl ?_
          refine x_aload_n (nx := 95) (i := 0) h dM_third_94 rfl 1 rfl rfl ?_
          refine x_aload_n (nx := 96) (i := 0) h dM_third_95 rfl 1 rfl rfl ?_
          refine x_get (nx := 99) h (gM_0_1 ad ca _) (List.mem_cons_of_mem _ kM_13) dM_third_96 rfl ?_
          refine x_bipush (nx := 101) (v := (20 : Int32)) h dM_third_99 (by decide) rfl ?_
          refine x_iald (nx := 102) h (aM_2 ad ca) dM_third_101 rfl (fun v10 => ?_)
          refine x_aload_n (nx := 103) (i := 0) h dM_third_102 rfl 1 rfl rfl ?_
          refine x_cVi (nx := 106) (rest := [.int v10, .ref (ad 0)]) (As := []) h (m_M_main N S9) (x_wV h goA y_M_main kM_68 ⟨by decide, by decide⟩ rfl rfl) (oM_0 ad ca) rfl rfl (Nat.le_of_ble_eq_true rfl) dM_third_103 rfl (fun v11 S12 => ?_)
          refine x_cVv (nx := 109) (rest := []) (As := [.int v10, .int v11]) h (m_M_setTwo N v10 v11 S12) (x_wV h goA y_M_setTwo kM_221 ⟨by decide, by decide⟩ rfl rfl) (oM_0 ad ca) rfl rfl (Nat.le_of_ble_eq_true rfl) dM_third_106 rfl (fun v13 S14 => ?_)
          refine x_aload_n (nx := 110) (i := 0) h dM_third_109 rfl 1 rfl rfl ?_
          refine x_iload_n (nx := 111) (i := 2) h dM_third_110 rfl 0 rfl rfl ?_
          refine x_cVv (nx := 114) (rest := []) (As := [.int v8]) h (m_M_setMain N v8 S14) (x_wV h goA y_M_setMain kM_71 ⟨by decide, by decide⟩ rfl rfl) (oM_0 ad ca) rfl rfl (Nat.le_of_ble_eq_true rfl) dM_third_111 rfl (fun v15 S16 => ?_)
          refine x_goto (tgt := 176) h dM_third_114 (by decide) ?_
          exact x_sub [] rfl (j_M_third_176 h N S16)
      · exact x_sub [0, 1] rfl (j_M_third_28 h N a1 S)
  · refine x_aload_n (nx := 5) (i := 0) h dM_third_4 rfl 0 rfl rfl ?_
    refine x_get (nx := 8) h (gM_0_1 ad ca _) (List.mem_cons_of_mem _ kM_13) dM_third_5 rfl ?_
    refine x_bipush (nx := 10) (v := (21 : Int32)) h dM_third_8 (by decide) rfl ?_
    refine x_aload_n (nx := 11) (i := 0) h dM_third_10 rfl 0 rfl rfl ?_
    refine x_cVi (nx := 14) (rest := [.int (21 : Int32), .ref (ad 2)]) (As := []) h (m_M_twoNext N S) (x_wV h goA y_M_twoNext kM_197 ⟨by decide, by decide⟩ rfl rfl) (oM_0 ad ca) rfl rfl (Nat.le_of_ble_eq_true rfl) dM_third_11 rfl (fun v17 S18 => ?_)
    refine x_iast (nx := 15) h (aM_2 ad ca) dM_third_14 rfl (fun S19 => ?_)
    refine x_goto (tgt := 176) h dM_third_15 (by decide) ?_
    exact x_sub [] rfl (j_M_third_176 h N S19)
set_option maxHeartbeats 4000000 in
set_option maxRecDepth 100000 in
theorem j_M_odd_79 {l : Launch} {D : va_G} {ad : Nat → Nat} {ca : Nat → ClassId} {p : Program} {e : Env} {s : State} {m : MethodId} {args : Array Value} {below : List Frame} {meth : Method} {c : Code} {A : Nat → Prop} (h : xC p s m args meth c cM_odd 3 (Cond.code yM_odd cM_odd 3 none :: wA) nW yM_odd.cls none D clA (tysM ca) A) (N : Nat) (S : xSt) : xJ p l e rm_M_odd s m args below meth c D clA (tysM ca) (cellsM ad ca) A false 3 79 [] [] S (f_M_odd_79 N S) := by
  unfold f_M_odd_79
  exact x_vret h dM_odd_79
set_option maxHeartbeats 4000000 in
set_option maxRecDepth 100000 in
theorem j_M_odd_25 {l : Launch} {D : va_G} {ad : Nat → Nat} {ca : Nat → ClassId} {p : Program} {e : Env} {s : State} {m : MethodId} {args : Array Value} {below : List Frame} {meth : Method} {c : Code} {A : Nat → Prop} (h : xC p s m args meth c cM_odd 3 (Cond.code yM_odd cM_odd 3 none :: wA) nW yM_odd.cls none D clA (tysM ca) A) (N : Nat) : ∀ (n : Nat) (a2 : Int32) (S : xSt), xJ p l e rm_M_odd s m args below meth c D clA (tysM ca) (cellsM ad ca) A false 3 25 [(0, .ref (ad 0)), (2, .int a2)] [] S (f_M_odd_25 N n a2 S) := by
  intro n
  induction n with
  | zero =>
    intro a2 S
    rw [f_M_odd_25]
    exact x_none
  | succ n ih =>
    intro a2 S
    rw [f_M_odd_25]
    refine x_iload_n (nx := 26) (i := 2) h dM_odd_25 rfl 1 rfl rfl ?_
    refine x_bipush (nx := 28) (v := (8 : Int32)) h dM_odd_26 (by decide) rfl ?_
    refine x_icmp_ge (nx := 31) (tgt := 46) h dM_odd_28 (by decide) rfl ?_ ?_
    · refine x_goto (tgt := 79) h dM_odd_46 (by decide) ?_
      exact x_sub [] rfl (j_M_odd_79 h N S)
    · refine x_aload_n (nx := 32) (i := 0) h dM_odd_31 rfl 0 rfl rfl ?_
      refine x_iload_n (nx := 33) (i := 2) h dM_odd_32 rfl 1 rfl rfl ?_
      refine x_iload_n (nx := 34) (i := 2) h dM_odd_33 rfl 1 rfl rfl ?_
      refine x_bipush (nx := 36) (v := (8 : Int32)) h dM_odd_34 (by decide) rfl ?_
      refine x_iadd (nx := 37) h dM_odd_36 rfl ?_
      refine x_cVv (nx := 40) (rest := []) (As := [.int a2, .int (a2 + (8 : Int32))]) h (m_M_change N a2 (a2 + (8 : Int32)) S) (x_wV h goA y_M_change kM_214 ⟨by decide, by decide⟩ rfl rfl) (oM_0 ad ca) rfl rfl (Nat.le_of_ble_eq_true rfl) dM_odd_37 rfl (fun v1 S2 => ?_)
      refine x_iinc (nx := 43) (i := 2) (v := (a2 + (1 : Int32))) (lv' := [(2, .int (a2 + (1 : Int32))), (0, .ref (ad 0))]) h dM_odd_40 1 rfl (by rw [show Int32.ofInt 1 = (1 : Int32) by decide]) (by decide) rfl rfl ?_
      refine x_goto (tgt := 25) h dM_odd_43 (by decide) ?_
      exact x_sub [1, 0] rfl (ih (a2 + (1 : Int32)) S2)
set_option maxHeartbeats 4000000 in
set_option maxRecDepth 100000 in
theorem m_M_odd {l : Launch} {D : va_G} {ad : Nat → Nat} {ca : Nat → ClassId} (N : Nat) (a1 : Int32) (S : xSt) : xM l D clA (tysM ca) (cellsM ad ca) nW yM_odd (Cond.code yM_odd cM_odd 3 none :: wA) rm_M_odd false [.ref (ad 0), .int a1] S (f_M_odd N a1 S) := by
  refine x_met (cc := cM_odd) (maxL := 3) (ret := none) (by decide) rfl [.ref (ad 0), .int a1] (lv0 := [(0, .ref (ad 0)), (1, .int a1)]) (Nat.le_of_ble_eq_true rfl) rfl ?_
  intro p e s m args below meth c A h
  unfold f_M_odd
  refine x_iload_n (nx := 1) (i := 1) h dM_odd_0 rfl 1 rfl rfl ?_
  refine x_if_ne (nx := 4) (tgt := 18) h dM_odd_1 (by decide) rfl ?_ ?_
  · refine x_iload_n (nx := 19) (i := 1) h dM_odd_18 rfl 1 rfl rfl ?_
    refine x_iconst (nx := 20) (v := (1 : Int32)) h dM_odd_19 (by decide) rfl ?_
    refine x_icmp_ne (nx := 23) (tgt := 49) h dM_odd_20 (by decide) rfl ?_ ?_
    · refine x_iload_n (nx := 50) (i := 1) h dM_odd_49 rfl 1 rfl rfl ?_
      refine x_iconst (nx := 51) (v := (2 : Int32)) h dM_odd_50 (by decide) rfl ?_
      refine x_icmp_ne (nx := 54) (tgt := 68) h dM_odd_51 (by decide) rfl ?_ ?_
      · refine x_aload_n (nx := 69) (i := 0) h dM_odd_68 rfl 0 rfl rfl ?_
        refine x_get (nx := 72) h (gM_0_1 ad ca _) (List.mem_cons_of_mem _ kM_13) dM_odd_69 rfl ?_
        refine x_bipush (nx := 74) (v := (20 : Int32)) h dM_odd_72 (by decide) rfl ?_
        refine x_aload_n (nx := 75) (i := 0) h dM_odd_74 rfl 0 rfl rfl ?_
        refine x_cVi (nx := 78) (rest := [.int (20 : Int32), .ref (ad 2)]) (As := []) h (m_M_main N S) (x_wV h goA y_M_main kM_68 ⟨by decide, by decide⟩ rfl rfl) (oM_0 ad ca) rfl rfl (Nat.le_of_ble_eq_true rfl) dM_odd_75 rfl (fun v1 S2 => ?_)
        refine x_iast (nx := 79) h (aM_2 ad ca) dM_odd_78 rfl (fun S3 => ?_)
        exact x_sub [] rfl (j_M_odd_79 h N S3)
      · refine x_aload_n (nx := 55) (i := 0) h dM_odd_54 rfl 0 rfl rfl ?_
        refine x_get (nx := 58) h (gM_0_1 ad ca _) (List.mem_cons_of_mem _ kM_13) dM_odd_55 rfl ?_
        refine x_bipush (nx := 60) (v := (21 : Int32)) h dM_odd_58 (by decide) rfl ?_
        refine x_aload_n (nx := 61) (i := 0) h dM_odd_60 rfl 0 rfl rfl ?_
        refine x_cVi (nx := 64) (rest := [.int (21 : Int32), .ref (ad 2)]) (As := []) h (m_M_main N S) (x_wV h goA y_M_main kM_68 ⟨by decide, by decide⟩ rfl rfl) (oM_0 ad ca) rfl rfl (Nat.le_of_ble_eq_true rfl) dM_odd_61 rfl (fun v4 S5 => ?_)
        refine x_iast (nx := 65) h (aM_2 ad ca) dM_odd_64 rfl (fun S6 => ?_)
        refine x_goto (tgt := 79) h dM_odd_65 (by decide) ?_
        exact x_sub [] rfl (j_M_odd_79 h N S6)
    · refine x_iconst (nx := 24) (v := (2 : Int32)) h dM_odd_23 (by decide) rfl ?_
      refine x_istore_n (nx := 25) (i := 2) (lv' := [(2, .int (2 : Int32)), (0, .ref (ad 0)), (1, .int a1)]) h dM_odd_24 rfl (by decide) rfl rfl ?_
      exact x_sub [1, 0] rfl (j_M_odd_25 h N N (2 : Int32) S)
  · refine x_aload_n (nx := 5) (i := 0) h dM_odd_4 rfl 0 rfl rfl ?_
    refine x_get (nx := 8) h (gM_0_1 ad ca _) (List.mem_cons_of_mem _ kM_13) dM_odd_5 rfl ?_
    refine x_bipush (nx := 10) (v := (21 : Int32)) h dM_odd_8 (by decide) rfl ?_
    refine x_aload_n (nx := 11) (i := 0) h dM_odd_10 rfl 0 rfl rfl ?_
    refine x_cVi (nx := 14) (rest := [.int (21 : Int32), .ref (ad 2)]) (As := []) h (m_M_pop N S) (x_wV h goA y_M_pop kM_230 ⟨by decide, by decide⟩ rfl rfl) (oM_0 ad ca) rfl rfl (Nat.le_of_ble_eq_true rfl) dM_odd_11 rfl (fun v7 S8 => ?_)
    refine x_iast (nx := 15) h (aM_2 ad ca) dM_odd_14 rfl (fun S9 => ?_)
    refine x_goto (tgt := 79) h dM_odd_15 (by decide) ?_
    exact x_sub [] rfl (j_M_odd_79 h N S9)
