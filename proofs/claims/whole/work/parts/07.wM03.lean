set_option maxHeartbeats 4000000 in
set_option maxRecDepth 100000 in
theorem j_M_work_233 {l : Launch} {D : va_G} {ad : Nat → Nat} {ca : Nat → ClassId} {p : Program} {e : Env} {s : State} {m : MethodId} {args : Array Value} {below : List Frame} {meth : Method} {c : Code} {A : Nat → Prop} (h : xC p s m args meth c cM_work 6 (Cond.code yM_work cM_work 6 none :: wA) nW yM_work.cls none D clA (tysM ca) A) (N : Nat) (S : xSt) : xJ p l e rm_M_work s m args below meth c D clA (tysM ca) (cellsM ad ca) A false 6 233 [] [] S (f_M_work_233 N S) := by
  unfold f_M_work_233
  exact x_vret h dM_work_233
set_option maxHeartbeats 4000000 in
set_option maxRecDepth 100000 in
theorem j_M_work_41 {l : Launch} {D : va_G} {ad : Nat → Nat} {ca : Nat → ClassId} {p : Program} {e : Env} {s : State} {m : MethodId} {args : Array Value} {below : List Frame} {meth : Method} {c : Code} {A : Nat → Prop} (h : xC p s m args meth c cM_work 6 (Cond.code yM_work cM_work 6 none :: wA) nW yM_work.cls none D clA (tysM ca) A) (N : Nat) (w1 w3 w4 w5 : Int32) (S : xSt) : xJ p l e rm_M_work s m args below meth c D clA (tysM ca) (cellsM ad ca) A false 6 41 [(0, .ref (ad 0))] [.int w5, .int w4, .int w3, .ref (ad 0), .int w1, .ref (ad 2)] S (f_M_work_41 N w1 w3 w4 w5 S) := by
  unfold f_M_work_41
  refine x_bipush (nx := 43) (v := (8 : Int32)) h dM_work_41 (by decide) rfl ?_
  refine x_cVi (nx := 46) (rest := [.int w1, .ref (ad 2)]) (As := [.int w3, .int w4, .int w5, .int (8 : Int32)]) h (m_M_sum N w3 w4 w5 (8 : Int32) S) (x_wV h goA y_M_sum kM_94 ⟨by decide, by decide⟩ rfl rfl) (oM_0 ad ca) rfl rfl (Nat.le_of_ble_eq_true rfl) dM_work_43 rfl (fun v1 S2 => ?_)
  refine x_iast (nx := 47) h (aM_2 ad ca) dM_work_46 rfl (fun S3 => ?_)
  refine x_aload_n (nx := 48) (i := 0) h dM_work_47 rfl 0 rfl rfl ?_
  refine x_get (nx := 51) h (gM_0_1 ad ca _) (List.mem_cons_of_mem _ kM_13) dM_work_48 rfl ?_
  refine x_iconst (nx := 52) (v := (1 : Int32)) h dM_work_51 (by decide) rfl ?_
  refine x_aload_n (nx := 53) (i := 0) h dM_work_52 rfl 0 rfl rfl ?_
  refine x_get (nx := 56) h (gM_0_1 ad ca _) (List.mem_cons_of_mem _ kM_13) dM_work_53 rfl ?_
  refine x_iconst (nx := 57) (v := (0 : Int32)) h dM_work_56 (by decide) rfl ?_
  refine x_iald (nx := 58) h (aM_2 ad ca) dM_work_57 rfl (fun v4 => ?_)
  refine x_cSi (nx := 61) (rest := [.int (1 : Int32), .ref (ad 2)]) (As := [.int v4]) h (m_M_by N v4 S3) (x_wS h goA y_M_by kM_98 ⟨by decide, by decide⟩ rfl rfl) rfl rfl (Nat.le_of_ble_eq_true rfl) dM_work_58 rfl (fun v5 S6 => ?_)
  refine x_aload_n (nx := 62) (i := 0) h dM_work_61 rfl 0 rfl rfl ?_
  refine x_iconst (nx := 63) (v := (0 : Int32)) h dM_work_62 (by decide) rfl ?_
  refine x_cVi (nx := 66) (rest := [.int v5, .int (1 : Int32), .ref (ad 2)]) (As := [.int (0 : Int32)]) h (m_M_rest N (0 : Int32) S6) (x_wV h goA y_M_rest kM_101 ⟨by decide, by decide⟩ rfl rfl) (oM_0 ad ca) rfl rfl (Nat.le_of_ble_eq_true rfl) dM_work_63 rfl (fun v7 S8 => ?_)
  refine x_ior (nx := 67) h dM_work_66 rfl ?_
  refine x_iast (nx := 68) h (aM_2 ad ca) dM_work_67 rfl (fun S9 => ?_)
  refine x_goto (tgt := 233) h dM_work_68 (by decide) ?_
  exact x_sub [] rfl (j_M_work_233 h N S9)
set_option maxHeartbeats 4000000 in
set_option maxRecDepth 100000 in
theorem j_M_work_161 {l : Launch} {D : va_G} {ad : Nat → Nat} {ca : Nat → ClassId} {p : Program} {e : Env} {s : State} {m : MethodId} {args : Array Value} {below : List Frame} {meth : Method} {c : Code} {A : Nat → Prop} (h : xC p s m args meth c cM_work 6 (Cond.code yM_work cM_work 6 none :: wA) nW yM_work.cls none D clA (tysM ca) A) (N : Nat) (w1 w2 : Int32) (S : xSt) : xJ p l e rm_M_work s m args below meth c D clA (tysM ca) (cellsM ad ca) A false 6 161 [] [.int w2, .int w1, .ref (ad 2)] S (f_M_work_161 N w1 w2 S) := by
  unfold f_M_work_161
  refine x_iast (nx := 162) h (aM_2 ad ca) dM_work_161 rfl (fun S1 => ?_)
  refine x_goto (tgt := 233) h dM_work_162 (by decide) ?_
  exact x_sub [] rfl (j_M_work_233 h N S1)
set_option maxHeartbeats 4000000 in
set_option maxRecDepth 100000 in
theorem j_M_work_133 {l : Launch} {D : va_G} {ad : Nat → Nat} {ca : Nat → ClassId} {p : Program} {e : Env} {s : State} {m : MethodId} {args : Array Value} {below : List Frame} {meth : Method} {c : Code} {A : Nat → Prop} (h : xC p s m args meth c cM_work 6 (Cond.code yM_work cM_work 6 none :: wA) nW yM_work.cls none D clA (tysM ca) A) (N : Nat) (a1 a3 a5 w1 w2 w3 : Int32) (S : xSt) : xJ p l e rm_M_work s m args below meth c D clA (tysM ca) (cellsM ad ca) A false 6 133 [(0, .ref (ad 0)), (1, .int a1), (3, .int a3), (5, .int a5)] [.int w3, .int w2, .int w1, .ref (ad 2)] S (f_M_work_133 N a1 a3 a5 w1 w2 w3 S) := by
  unfold f_M_work_133
  refine x_bipush (nx := 135) (v := (40 : Int32)) h dM_work_133 (by decide) rfl ?_
  refine x_iand (nx := 136) h dM_work_135 rfl ?_
  refine x_ior (nx := 137) h dM_work_136 rfl ?_
  refine x_aload_n (nx := 138) (i := 0) h dM_work_137 rfl 0 rfl rfl ?_
  refine x_iconst (nx := 139) (v := (2 : Int32)) h dM_work_138 (by decide) rfl ?_
  refine x_cVi (nx := 142) (rest := [.int (w2 ||| (w3 &&& (40 : Int32))), .int w1, .ref (ad 2)]) (As := [.int (2 : Int32)]) h (m_M_rest N (2 : Int32) S) (x_wV h goA y_M_rest kM_101 ⟨by decide, by decide⟩ rfl rfl) (oM_0 ad ca) rfl rfl (Nat.le_of_ble_eq_true rfl) dM_work_139 rfl (fun v1 S2 => ?_)
  refine x_ior (nx := 143) h dM_work_142 rfl ?_
  refine x_iast (nx := 144) h (aM_2 ad ca) dM_work_143 rfl (fun S3 => ?_)
  refine x_aload_n (nx := 145) (i := 0) h dM_work_144 rfl 0 rfl rfl ?_
  refine x_get (nx := 148) h (gM_0_1 ad ca _) (List.mem_cons_of_mem _ kM_13) dM_work_145 rfl ?_
  refine x_iconst (nx := 149) (v := (0 : Int32)) h dM_work_148 (by decide) rfl ?_
  refine x_iload_n (nx := 150) (i := 1) h dM_work_149 rfl 1 rfl rfl ?_
  refine x_bipush (nx := 152) (v := (7 : Int32)) h dM_work_150 (by decide) rfl ?_
  refine x_icmp_ne (nx := 155) (tgt := 159) h dM_work_152 (by decide) rfl ?_ ?_
  · refine x_iload (nx := 161) (i := 5) h dM_work_159 3 rfl rfl ?_
    exact x_sub [] rfl (j_M_work_161 h N (0 : Int32) a5 S3)
  · refine x_iload_n (nx := 156) (i := 3) h dM_work_155 rfl 2 rfl rfl ?_
    refine x_goto (tgt := 161) h dM_work_156 (by decide) ?_
    exact x_sub [] rfl (j_M_work_161 h N (0 : Int32) a3 S3)
set_option maxHeartbeats 4000000 in
set_option maxRecDepth 100000 in
theorem j_M_work_101 {l : Launch} {D : va_G} {ad : Nat → Nat} {ca : Nat → ClassId} {p : Program} {e : Env} {s : State} {m : MethodId} {args : Array Value} {below : List Frame} {meth : Method} {c : Code} {A : Nat → Prop} (h : xC p s m args meth c cM_work 6 (Cond.code yM_work cM_work 6 none :: wA) nW yM_work.cls none D clA (tysM ca) A) (N : Nat) (a1 a2 a3 w1 w2 w3 : Int32) (S : xSt) : xJ p l e rm_M_work s m args below meth c D clA (tysM ca) (cellsM ad ca) A false 6 101 [(0, .ref (ad 0)), (1, .int a1), (2, .int a2), (3, .int a3)] [.int w3, .int w2, .int w1, .ref (ad 0)] S (f_M_work_101 N a1 a2 a3 w1 w2 w3 S) := by
  unfold f_M_work_101
  refine x_bipush (nx := 103) (v := (8 : Int32)) h dM_work_101 (by decide) rfl ?_
  refine x_cVi (nx := 106) (rest := []) (As := [.int w1, .int w2, .int w3, .int (8 : Int32)]) h (m_M_difference N w1 w2 w3 (8 : Int32) S) (x_wV h goA y_M_difference kM_104 ⟨by decide, by decide⟩ rfl rfl) (oM_0 ad ca) rfl rfl (Nat.le_of_ble_eq_true rfl) dM_work_103 rfl (fun v1 S2 => ?_)
  refine x_istore (nx := 108) (i := 5) (lv' := [(5, .int v1), (0, .ref (ad 0)), (1, .int a1), (2, .int a2), (3, .int a3)]) h dM_work_106 (by decide) rfl rfl ?_
  refine x_aload_n (nx := 109) (i := 0) h dM_work_108 rfl 1 rfl rfl ?_
  refine x_get (nx := 112) h (gM_0_1 ad ca _) (List.mem_cons_of_mem _ kM_13) dM_work_109 rfl ?_
  refine x_iconst (nx := 113) (v := (1 : Int32)) h dM_work_112 (by decide) rfl ?_
  refine x_iload (nx := 115) (i := 5) h dM_work_113 0 rfl rfl ?_
  refine x_cSi (nx := 118) (rest := [.int (1 : Int32), .ref (ad 2)]) (As := [.int v1]) h (m_M_by N v1 S2) (x_wS h goA y_M_by kM_98 ⟨by decide, by decide⟩ rfl rfl) rfl rfl (Nat.le_of_ble_eq_true rfl) dM_work_115 rfl (fun v3 S4 => ?_)
  refine x_bipush (nx := 120) (v := (-41 : Int32)) h dM_work_118 (by decide) rfl ?_
  refine x_iand (nx := 121) h dM_work_120 rfl ?_
  refine x_iload_n (nx := 122) (i := 1) h dM_work_121 rfl 2 rfl rfl ?_
  refine x_bipush (nx := 124) (v := (7 : Int32)) h dM_work_122 (by decide) rfl ?_
  refine x_icmp_ne (nx := 127) (tgt := 131) h dM_work_124 (by decide) rfl ?_ ?_
  · refine x_iload (nx := 133) (i := 5) h dM_work_131 0 rfl rfl ?_
    exact x_sub [1, 2, 4, 0] rfl (j_M_work_133 h N a1 a3 v1 (1 : Int32) (v3 &&& (-41 : Int32)) v1 S4)
  · refine x_iload_n (nx := 128) (i := 2) h dM_work_127 rfl 3 rfl rfl ?_
    refine x_goto (tgt := 133) h dM_work_128 (by decide) ?_
    exact x_sub [1, 2, 4, 0] rfl (j_M_work_133 h N a1 a3 v1 (1 : Int32) (v3 &&& (-41 : Int32)) a2 S4)
set_option maxHeartbeats 4000000 in
set_option maxRecDepth 100000 in
theorem j_M_work_87 {l : Launch} {D : va_G} {ad : Nat → Nat} {ca : Nat → ClassId} {p : Program} {e : Env} {s : State} {m : MethodId} {args : Array Value} {below : List Frame} {meth : Method} {c : Code} {A : Nat → Prop} (h : xC p s m args meth c cM_work 6 (Cond.code yM_work cM_work 6 none :: wA) nW yM_work.cls none D clA (tysM ca) A) (N : Nat) (a1 a2 a3 a4 : Int32) (S : xSt) : xJ p l e rm_M_work s m args below meth c D clA (tysM ca) (cellsM ad ca) A false 6 87 [(0, .ref (ad 0)), (1, .int a1), (2, .int a2), (3, .int a3), (4, .int a4)] [] S (f_M_work_87 N a1 a2 a3 a4 S) := by
  unfold f_M_work_87
  refine x_aload_n (nx := 88) (i := 0) h dM_work_87 rfl 0 rfl rfl ?_
  refine x_iload_n (nx := 89) (i := 3) h dM_work_88 rfl 3 rfl rfl ?_
  refine x_iload_n (nx := 90) (i := 2) h dM_work_89 rfl 2 rfl rfl ?_
  refine x_iload_n (nx := 91) (i := 1) h dM_work_90 rfl 1 rfl rfl ?_
  refine x_iconst (nx := 92) (v := (3 : Int32)) h dM_work_91 (by decide) rfl ?_
  refine x_icmp_ne (nx := 95) (tgt := 100) h dM_work_92 (by decide) rfl ?_ ?_
  · refine x_iconst (nx := 101) (v := (0 : Int32)) h dM_work_100 (by decide) rfl ?_
    exact x_sub [0, 1, 2, 3] rfl (j_M_work_101 h N a1 a2 a3 a3 a2 (0 : Int32) S)
  · refine x_iload (nx := 97) (i := 4) h dM_work_95 4 rfl rfl ?_
    refine x_goto (tgt := 101) h dM_work_97 (by decide) ?_
    exact x_sub [0, 1, 2, 3] rfl (j_M_work_101 h N a1 a2 a3 a3 a2 a4 S)
set_option maxHeartbeats 4000000 in
set_option maxRecDepth 100000 in
theorem j_M_work_231 {l : Launch} {D : va_G} {ad : Nat → Nat} {ca : Nat → ClassId} {p : Program} {e : Env} {s : State} {m : MethodId} {args : Array Value} {below : List Frame} {meth : Method} {c : Code} {A : Nat → Prop} (h : xC p s m args meth c cM_work 6 (Cond.code yM_work cM_work 6 none :: wA) nW yM_work.cls none D clA (tysM ca) A) (N : Nat) (w1 w2 w3 : Int32) (S : xSt) : xJ p l e rm_M_work s m args below meth c D clA (tysM ca) (cellsM ad ca) A false 6 231 [] [.int w3, .int w2, .int w1, .ref (ad 2)] S (f_M_work_231 N w1 w2 w3 S) := by
  unfold f_M_work_231
  refine x_ior (nx := 232) h dM_work_231 rfl ?_
  refine x_iast (nx := 233) h (aM_2 ad ca) dM_work_232 rfl (fun S1 => ?_)
  exact x_sub [] rfl (j_M_work_233 h N S1)
set_option maxHeartbeats 4000000 in
set_option maxRecDepth 100000 in
theorem j_M_work_195 {l : Launch} {D : va_G} {ad : Nat → Nat} {ca : Nat → ClassId} {p : Program} {e : Env} {s : State} {m : MethodId} {args : Array Value} {below : List Frame} {meth : Method} {c : Code} {A : Nat → Prop} (h : xC p s m args meth c cM_work 6 (Cond.code yM_work cM_work 6 none :: wA) nW yM_work.cls none D clA (tysM ca) A) (N : Nat) (a1 w1 w2 : Int32) (S : xSt) : xJ p l e rm_M_work s m args below meth c D clA (tysM ca) (cellsM ad ca) A false 6 195 [(0, .ref (ad 0)), (1, .int a1)] [.int w2, .int w1, .ref (ad 2)] S (f_M_work_195 N a1 w1 w2 S) := by
  unfold f_M_work_195
  refine x_iast (nx := 196) h (aM_2 ad ca) dM_work_195 rfl (fun S1 => ?_)
  refine x_aload_n (nx := 197) (i := 0) h dM_work_196 rfl 0 rfl rfl ?_
  refine x_get (nx := 200) h (gM_0_1 ad ca _) (List.mem_cons_of_mem _ kM_13) dM_work_197 rfl ?_
  refine x_iconst (nx := 201) (v := (1 : Int32)) h dM_work_200 (by decide) rfl ?_
  refine x_aload_n (nx := 202) (i := 0) h dM_work_201 rfl 0 rfl rfl ?_
  refine x_get (nx := 205) h (gM_0_1 ad ca _) (List.mem_cons_of_mem _ kM_13) dM_work_202 rfl ?_
  refine x_iconst (nx := 206) (v := (0 : Int32)) h dM_work_205 (by decide) rfl ?_
  refine x_iald (nx := 207) h (aM_2 ad ca) dM_work_206 rfl (fun v2 => ?_)
  refine x_cSi (nx := 210) (rest := [.int (1 : Int32), .ref (ad 2)]) (As := [.int v2]) h (m_M_by N v2 S1) (x_wS h goA y_M_by kM_98 ⟨by decide, by decide⟩ rfl rfl) rfl rfl (Nat.le_of_ble_eq_true rfl) dM_work_207 rfl (fun v3 S4 => ?_)
  refine x_aload_n (nx := 211) (i := 0) h dM_work_210 rfl 0 rfl rfl ?_
  refine x_get (nx := 214) h (gM_0_1 ad ca _) (List.mem_cons_of_mem _ kM_13) dM_work_211 rfl ?_
  refine x_iconst (nx := 215) (v := (0 : Int32)) h dM_work_214 (by decide) rfl ?_
  refine x_iald (nx := 216) h (aM_2 ad ca) dM_work_215 rfl (fun v5 => ?_)
  refine x_cSi (nx := 219) (rest := [.int v3, .int (1 : Int32), .ref (ad 2)]) (As := [.int v5]) h (m_M_parity N v5 S4) (x_wS h goA y_M_parity kM_107 ⟨by decide, by decide⟩ rfl rfl) rfl rfl (Nat.le_of_ble_eq_true rfl) dM_work_216 rfl (fun v6 S7 => ?_)
  refine x_ior (nx := 220) h dM_work_219 rfl ?_
  refine x_iload_n (nx := 221) (i := 1) h dM_work_220 rfl 1 rfl rfl ?_
  refine x_iconst (nx := 222) (v := (4 : Int32)) h dM_work_221 (by decide) rfl ?_
  refine x_icmp_ne (nx := 225) (tgt := 230) h dM_work_222 (by decide) rfl ?_ ?_
  · refine x_iconst (nx := 231) (v := (0 : Int32)) h dM_work_230 (by decide) rfl ?_
    exact x_sub [] rfl (j_M_work_231 h N (1 : Int32) (v3 ||| v6) (0 : Int32) S7)
  · refine x_bipush (nx := 227) (v := (16 : Int32)) h dM_work_225 (by decide) rfl ?_
    refine x_goto (tgt := 231) h dM_work_227 (by decide) ?_
    exact x_sub [] rfl (j_M_work_231 h N (1 : Int32) (v3 ||| v6) (16 : Int32) S7)
set_option maxHeartbeats 4000000 in
set_option maxRecDepth 100000 in
theorem m_M_work {l : Launch} {D : va_G} {ad : Nat → Nat} {ca : Nat → ClassId} (N : Nat) (a1 a2 : Int32) (S : xSt) : xM l D clA (tysM ca) (cellsM ad ca) nW yM_work (Cond.code yM_work cM_work 6 none :: wA) rm_M_work false [.ref (ad 0), .int a1, .int a2] S (f_M_work N a1 a2 S) := by
  refine x_met (cc := cM_work) (maxL := 6) (ret := none) (by decide) rfl [.ref (ad 0), .int a1, .int a2] (lv0 := [(0, .ref (ad 0)), (1, .int a1), (2, .int a2)]) (Nat.le_of_ble_eq_true rfl) rfl ?_
  intro p e s m args below meth c A h
  unfold f_M_work
  refine x_aload_n (nx := 1) (i := 0) h dM_work_0 rfl 0 rfl rfl ?_
  refine x_get (nx := 4) h (gM_0_1 ad ca _) (List.mem_cons_of_mem _ kM_13) dM_work_1 rfl ?_
  refine x_iconst (nx := 5) (v := (0 : Int32)) h dM_work_4 (by decide) rfl ?_
  refine x_iald (nx := 6) h (aM_2 ad ca) dM_work_5 rfl (fun v1 => ?_)
  refine x_istore_n (nx := 7) (i := 3) (lv' := [(3, .int v1), (0, .ref (ad 0)), (1, .int a1), (2, .int a2)]) h dM_work_6 rfl (by decide) rfl rfl ?_
  refine x_aload_n (nx := 8) (i := 0) h dM_work_7 rfl 1 rfl rfl ?_
  refine x_get (nx := 11) h (gM_0_1 ad ca _) (List.mem_cons_of_mem _ kM_13) dM_work_8 rfl ?_
  refine x_iconst (nx := 12) (v := (1 : Int32)) h dM_work_11 (by decide) rfl ?_
  refine x_iald (nx := 13) h (aM_2 ad ca) dM_work_12 rfl (fun v2 => ?_)
  refine x_iconst (nx := 14) (v := (1 : Int32)) h dM_work_13 (by decide) rfl ?_
  refine x_iand (nx := 15) h dM_work_14 rfl ?_
  refine x_val (fun b3 => ?_)
  refine x_istore (nx := 17) (i := 4) (lv' := [(4, .int b3), (3, .int v1), (0, .ref (ad 0)), (1, .int a1), (2, .int a2)]) h dM_work_15 (by decide) rfl rfl ?_
  refine x_iload_n (nx := 18) (i := 1) h dM_work_17 rfl 3 rfl rfl ?_
  refine x_iconst (nx := 19) (v := (2 : Int32)) h dM_work_18 (by decide) rfl ?_
  refine x_icmp_ge (nx := 22) (tgt := 71) h dM_work_19 (by decide) rfl ?_ ?_
  · refine x_iload_n (nx := 72) (i := 1) h dM_work_71 rfl 3 rfl rfl ?_
    refine x_iconst (nx := 73) (v := (2 : Int32)) h dM_work_72 (by decide) rfl ?_
    refine x_icmp_eq (nx := 76) (tgt := 87) h dM_work_73 (by decide) rfl ?_ ?_
    · exact x_sub [2, 3, 4, 1, 0] rfl (j_M_work_87 h N a1 a2 v1 b3 S)
    · refine x_iload_n (nx := 77) (i := 1) h dM_work_76 rfl 3 rfl rfl ?_
      refine x_iconst (nx := 78) (v := (3 : Int32)) h dM_work_77 (by decide) rfl ?_
      refine x_icmp_eq (nx := 81) (tgt := 87) h dM_work_78 (by decide) rfl ?_ ?_
      · exact x_sub [2, 3, 4, 1, 0] rfl (j_M_work_87 h N a1 a2 v1 b3 S)
      · refine x_iload_n (nx := 82) (i := 1) h dM_work_81 rfl 3 rfl rfl ?_
        refine x_bipush (nx := 84) (v := (7 : Int32)) h dM_work_82 (by decide) rfl ?_
        refine x_icmp_ne (nx := 87) (tgt := 165) h dM_work_84 (by decide) rfl ?_ ?_
        · refine x_aload_n (nx := 166) (i := 0) h dM_work_165 rfl 2 rfl rfl ?_
          refine x_get (nx := 169) h (gM_0_1 ad ca _) (List.mem_cons_of_mem _ kM_13) dM_work_166 rfl ?_
          refine x_iconst (nx := 170) (v := (0 : Int32)) h dM_work_169 (by decide) rfl ?_
          refine x_iload_n (nx := 171) (i := 1) h dM_work_170 rfl 3 rfl rfl ?_
          refine x_iconst (nx := 172) (v := (4 : Int32)) h dM_work_171 (by decide) rfl ?_
          refine x_icmp_ne (nx := 175) (tgt := 181) h dM_work_172 (by decide) rfl ?_ ?_
          · refine x_iload_n (nx := 182) (i := 1) h dM_work_181 rfl 3 rfl rfl ?_
            refine x_iconst (nx := 183) (v := (5 : Int32)) h dM_work_182 (by decide) rfl ?_
            refine x_icmp_ne (nx := 186) (tgt := 192) h dM_work_183 (by decide) rfl ?_ ?_
            · refine x_iload_n (nx := 193) (i := 3) h dM_work_192 rfl 1 rfl rfl ?_
              refine x_iload_n (nx := 194) (i := 2) h dM_work_193 rfl 4 rfl rfl ?_
              refine x_ior (nx := 195) h dM_work_194 rfl ?_
              exact x_sub [2, 3] rfl (j_M_work_195 h N a1 (0 : Int32) (v1 ||| a2) S)
            · refine x_iload_n (nx := 187) (i := 3) h dM_work_186 rfl 1 rfl rfl ?_
              refine x_iload_n (nx := 188) (i := 2) h dM_work_187 rfl 4 rfl rfl ?_
              refine x_ixor (nx := 189) h dM_work_188 rfl ?_
              refine x_goto (tgt := 195) h dM_work_189 (by decide) ?_
              exact x_sub [2, 3] rfl (j_M_work_195 h N a1 (0 : Int32) (v1 ^^^ a2) S)
          · refine x_iload_n (nx := 176) (i := 3) h dM_work_175 rfl 1 rfl rfl ?_
            refine x_iload_n (nx := 177) (i := 2) h dM_work_176 rfl 4 rfl rfl ?_
            refine x_iand (nx := 178) h dM_work_177 rfl ?_
            refine x_goto (tgt := 195) h dM_work_178 (by decide) ?_
            exact x_sub [2, 3] rfl (j_M_work_195 h N a1 (0 : Int32) (v1 &&& a2) S)
        · exact x_sub [2, 3, 4, 1, 0] rfl (j_M_work_87 h N a1 a2 v1 b3 S)
  · refine x_aload_n (nx := 23) (i := 0) h dM_work_22 rfl 2 rfl rfl ?_
    refine x_get (nx := 26) h (gM_0_1 ad ca _) (List.mem_cons_of_mem _ kM_13) dM_work_23 rfl ?_
    refine x_iconst (nx := 27) (v := (0 : Int32)) h dM_work_26 (by decide) rfl ?_
    refine x_aload_n (nx := 28) (i := 0) h dM_work_27 rfl 2 rfl rfl ?_
    refine x_iload_n (nx := 29) (i := 3) h dM_work_28 rfl 1 rfl rfl ?_
    refine x_iload_n (nx := 30) (i := 2) h dM_work_29 rfl 4 rfl rfl ?_
    refine x_iload_n (nx := 31) (i := 1) h dM_work_30 rfl 3 rfl rfl ?_
    refine x_iconst (nx := 32) (v := (1 : Int32)) h dM_work_31 (by decide) rfl ?_
    refine x_icmp_ne (nx := 35) (tgt := 40) h dM_work_32 (by decide) rfl ?_ ?_
    · refine x_iconst (nx := 41) (v := (0 : Int32)) h dM_work_40 (by decide) rfl ?_
      exact x_sub [2] rfl (j_M_work_41 h N (0 : Int32) v1 a2 (0 : Int32) S)
    · refine x_iload (nx := 37) (i := 4) h dM_work_35 0 rfl rfl ?_
      refine x_goto (tgt := 41) h dM_work_37 (by decide) ?_
      exact x_sub [2] rfl (j_M_work_41 h N (0 : Int32) v1 a2 b3 S)
set_option maxHeartbeats 4000000 in
set_option maxRecDepth 100000 in
theorem j_M_step1_56 {l : Launch} {D : va_G} {ad : Nat → Nat} {ca : Nat → ClassId} {p : Program} {e : Env} {s : State} {m : MethodId} {args : Array Value} {below : List Frame} {meth : Method} {c : Code} {A : Nat → Prop} (h : xC p s m args meth c cM_step1 5 (Cond.code yM_step1 cM_step1 5 (some .int) :: wA) nW yM_step1.cls (some .int) D clA (tysM ca) A) (N : Nat) (a3 a4 w1 w2 w4 : Int32) (S : xSt) : xJ p l e rm_M_step1 s m args below meth c D clA (tysM ca) (cellsM ad ca) A true 5 56 [(3, .int a3), (4, .int a4)] [.int w4, .ref (ad 0), .int w2, .int w1, .ref (ad 2)] S (f_M_step1_56 N a3 a4 w1 w2 w4 S) := by
  unfold f_M_step1_56
  refine x_cVi (nx := 59) (rest := [.int w2, .int w1, .ref (ad 2)]) (As := [.int w4]) h (m_M_rest N w4 S) (x_wV h goA y_M_rest kM_101 ⟨by decide, by decide⟩ rfl rfl) (oM_0 ad ca) rfl rfl (Nat.le_of_ble_eq_true rfl) dM_step1_56 rfl (fun v1 S2 => ?_)
  refine x_bipush (nx := 61) (v := (-2 : Int32)) h dM_step1_59 (by decide) rfl ?_
  refine x_iand (nx := 62) h dM_step1_61 rfl ?_
  refine x_ior (nx := 63) h dM_step1_62 rfl ?_
  refine x_iload_n (nx := 64) (i := 3) h dM_step1_63 rfl 0 rfl rfl ?_
  refine x_ior (nx := 65) h dM_step1_64 rfl ?_
  refine x_iast (nx := 66) h (aM_2 ad ca) dM_step1_65 rfl (fun S3 => ?_)
  refine x_iload (nx := 68) (i := 4) h dM_step1_66 1 rfl rfl ?_
  exact x_iret h dM_step1_68
set_option maxHeartbeats 4000000 in
set_option maxRecDepth 100000 in
theorem j_M_step1_34 {l : Launch} {D : va_G} {ad : Nat → Nat} {ca : Nat → ClassId} {p : Program} {e : Env} {s : State} {m : MethodId} {args : Array Value} {below : List Frame} {meth : Method} {c : Code} {A : Nat → Prop} (h : xC p s m args meth c cM_step1 5 (Cond.code yM_step1 cM_step1 5 (some .int) :: wA) nW yM_step1.cls (some .int) D clA (tysM ca) A) (N : Nat) (a2 a3 w0 : Int32) (S : xSt) : xJ p l e rm_M_step1 s m args below meth c D clA (tysM ca) (cellsM ad ca) A true 5 34 [(0, .ref (ad 0)), (2, .int a2), (3, .int a3)] [.int w0] S (f_M_step1_34 N a2 a3 w0 S) := by
  unfold f_M_step1_34
  refine x_istore (nx := 36) (i := 4) (lv' := [(4, .int w0), (0, .ref (ad 0)), (2, .int a2), (3, .int a3)]) h dM_step1_34 (by decide) rfl rfl ?_
  refine x_aload_n (nx := 37) (i := 0) h dM_step1_36 rfl 1 rfl rfl ?_
  refine x_get (nx := 40) h (gM_0_1 ad ca _) (List.mem_cons_of_mem _ kM_13) dM_step1_37 rfl ?_
  refine x_iconst (nx := 41) (v := (1 : Int32)) h dM_step1_40 (by decide) rfl ?_
  refine x_iload (nx := 43) (i := 4) h dM_step1_41 0 rfl rfl ?_
  refine x_cSi (nx := 46) (rest := [.int (1 : Int32), .ref (ad 2)]) (As := [.int w0]) h (m_M_by N w0 S) (x_wS h goA y_M_by kM_98 ⟨by decide, by decide⟩ rfl rfl) rfl rfl (Nat.le_of_ble_eq_true rfl) dM_step1_43 rfl (fun v1 S2 => ?_)
  refine x_aload_n (nx := 47) (i := 0) h dM_step1_46 rfl 1 rfl rfl ?_
  refine x_iload_n (nx := 48) (i := 2) h dM_step1_47 rfl 2 rfl rfl ?_
  refine x_if_eq (nx := 51) (tgt := 55) h dM_step1_48 (by decide) rfl ?_ ?_
  · refine x_iconst (nx := 56) (v := (2 : Int32)) h dM_step1_55 (by decide) rfl ?_
    exact x_sub [3, 0] rfl (j_M_step1_56 h N a3 w0 (1 : Int32) v1 (2 : Int32) S2)
  · refine x_iconst (nx := 52) (v := (0 : Int32)) h dM_step1_51 (by decide) rfl ?_
    refine x_goto (tgt := 56) h dM_step1_52 (by decide) ?_
    exact x_sub [3, 0] rfl (j_M_step1_56 h N a3 w0 (1 : Int32) v1 (0 : Int32) S2)
set_option maxHeartbeats 4000000 in
set_option maxRecDepth 100000 in
theorem m_M_step1 {l : Launch} {D : va_G} {ad : Nat → Nat} {ca : Nat → ClassId} (N : Nat) (a1 a2 : Int32) (S : xSt) : xM l D clA (tysM ca) (cellsM ad ca) nW yM_step1 (Cond.code yM_step1 cM_step1 5 (some .int) :: wA) rm_M_step1 true [.ref (ad 0), .int a1, .int a2] S (f_M_step1 N a1 a2 S) := by
  refine x_met (cc := cM_step1) (maxL := 5) (ret := (some .int)) (by decide) rfl [.ref (ad 0), .int a1, .int a2] (lv0 := [(0, .ref (ad 0)), (1, .int a1), (2, .int a2)]) (Nat.le_of_ble_eq_true rfl) rfl ?_
  intro p e s m args below meth c A h
  unfold f_M_step1
  refine x_aload_n (nx := 1) (i := 0) h dM_step1_0 rfl 0 rfl rfl ?_
  refine x_get (nx := 4) h (gM_0_1 ad ca _) (List.mem_cons_of_mem _ kM_13) dM_step1_1 rfl ?_
  refine x_iconst (nx := 5) (v := (1 : Int32)) h dM_step1_4 (by decide) rfl ?_
  refine x_iald (nx := 6) h (aM_2 ad ca) dM_step1_5 rfl (fun v1 => ?_)
  refine x_iconst (nx := 7) (v := (1 : Int32)) h dM_step1_6 (by decide) rfl ?_
  refine x_iand (nx := 8) h dM_step1_7 rfl ?_
  refine x_val (fun b2 => ?_)
  refine x_istore_n (nx := 9) (i := 3) (lv' := [(3, .int b2), (0, .ref (ad 0)), (1, .int a1), (2, .int a2)]) h dM_step1_8 rfl (by decide) rfl rfl ?_
  refine x_iload_n (nx := 10) (i := 2) h dM_step1_9 rfl 3 rfl rfl ?_
  refine x_if_eq (nx := 13) (tgt := 25) h dM_step1_10 (by decide) rfl ?_ ?_
  · refine x_aload_n (nx := 26) (i := 0) h dM_step1_25 rfl 1 rfl rfl ?_
    refine x_iload_n (nx := 27) (i := 1) h dM_step1_26 rfl 2 rfl rfl ?_
    refine x_iconst (nx := 28) (v := (1 : Int32)) h dM_step1_27 (by decide) rfl ?_
    refine x_iconst (nx := 29) (v := (0 : Int32)) h dM_step1_28 (by decide) rfl ?_
    refine x_bipush (nx := 31) (v := (8 : Int32)) h dM_step1_29 (by decide) rfl ?_
    refine x_cVi (nx := 34) (rest := []) (As := [.int a1, .int (1 : Int32), .int (0 : Int32), .int (8 : Int32)]) h (m_M_difference N a1 (1 : Int32) (0 : Int32) (8 : Int32) S) (x_wV h goA y_M_difference kM_104 ⟨by decide, by decide⟩ rfl rfl) (oM_0 ad ca) rfl rfl (Nat.le_of_ble_eq_true rfl) dM_step1_31 rfl (fun v3 S4 => ?_)
    exact x_sub [1, 3, 0] rfl (j_M_step1_34 h N a2 b2 v3 S4)
  · refine x_aload_n (nx := 14) (i := 0) h dM_step1_13 rfl 1 rfl rfl ?_
    refine x_iload_n (nx := 15) (i := 1) h dM_step1_14 rfl 2 rfl rfl ?_
    refine x_iconst (nx := 16) (v := (1 : Int32)) h dM_step1_15 (by decide) rfl ?_
    refine x_iconst (nx := 17) (v := (0 : Int32)) h dM_step1_16 (by decide) rfl ?_
    refine x_bipush (nx := 19) (v := (8 : Int32)) h dM_step1_17 (by decide) rfl ?_
    refine x_cVi (nx := 22) (rest := []) (As := [.int a1, .int (1 : Int32), .int (0 : Int32), .int (8 : Int32)]) h (m_M_sum N a1 (1 : Int32) (0 : Int32) (8 : Int32) S) (x_wV h goA y_M_sum kM_94 ⟨by decide, by decide⟩ rfl rfl) (oM_0 ad ca) rfl rfl (Nat.le_of_ble_eq_true rfl) dM_step1_19 rfl (fun v5 S6 => ?_)
    refine x_goto (tgt := 34) h dM_step1_22 (by decide) ?_
    exact x_sub [1, 3, 0] rfl (j_M_step1_34 h N a2 b2 v5 S6)
set_option maxHeartbeats 4000000 in
set_option maxRecDepth 100000 in
theorem j_M_turn_97 {l : Launch} {D : va_G} {ad : Nat → Nat} {ca : Nat → ClassId} {p : Program} {e : Env} {s : State} {m : MethodId} {args : Array Value} {below : List Frame} {meth : Method} {c : Code} {A : Nat → Prop} (h : xC p s m args meth c cM_turn 5 (Cond.code yM_turn cM_turn 5 (some .int) :: wA) nW yM_turn.cls (some .int) D clA (tysM ca) A) (N : Nat) (w0 w1 : Int32) (S : xSt) : xJ p l e rm_M_turn s m args below meth c D clA (tysM ca) (cellsM ad ca) A true 5 97 [] [.int w1, .int w0] S (f_M_turn_97 N w0 w1 S) := by
  unfold f_M_turn_97
  refine x_ior (nx := 98) h dM_turn_97 rfl ?_
  exact x_iret h dM_turn_98
set_option maxHeartbeats 4000000 in
set_option maxRecDepth 100000 in
theorem j_M_turn_137 {l : Launch} {D : va_G} {ad : Nat → Nat} {ca : Nat → ClassId} {p : Program} {e : Env} {s : State} {m : MethodId} {args : Array Value} {below : List Frame} {meth : Method} {c : Code} {A : Nat → Prop} (h : xC p s m args meth c cM_turn 5 (Cond.code yM_turn cM_turn 5 (some .int) :: wA) nW yM_turn.cls (some .int) D clA (tysM ca) A) (N : Nat) (w0 w1 : Int32) (S : xSt) : xJ p l e rm_M_turn s m args below meth c D clA (tysM ca) (cellsM ad ca) A true 5 137 [] [.int w1, .int w0] S (f_M_turn_137 N w0 w1 S) := by
  unfold f_M_turn_137
  refine x_bipush (nx := 139) (v := (7 : Int32)) h dM_turn_137 (by decide) rfl ?_
  refine x_ishl (nx := 140) h dM_turn_139 rfl ?_
  refine x_ior (nx := 141) h dM_turn_140 rfl ?_
  exact x_iret h dM_turn_141
set_option maxHeartbeats 4000000 in
set_option maxRecDepth 100000 in
theorem j_M_turn_51 {l : Launch} {D : va_G} {ad : Nat → Nat} {ca : Nat → ClassId} {p : Program} {e : Env} {s : State} {m : MethodId} {args : Array Value} {below : List Frame} {meth : Method} {c : Code} {A : Nat → Prop} (h : xC p s m args meth c cM_turn 5 (Cond.code yM_turn cM_turn 5 (some .int) :: wA) nW yM_turn.cls (some .int) D clA (tysM ca) A) (N : Nat) (a1 a2 a3 a4 w1 : Int32) (S : xSt) : xJ p l e rm_M_turn s m args below meth c D clA (tysM ca) (cellsM ad ca) A true 5 51 [(0, .ref (ad 0)), (1, .int a1), (2, .int a2), (3, .int a3), (4, .int a4)] [.int w1, .ref (ad 0)] S (f_M_turn_51 N a1 a2 a3 a4 w1 S) := by
  unfold f_M_turn_51
  refine x_put (nx := 54) h (pM_0_10 ad ca _) (List.mem_cons_of_mem _ kM_110) dM_turn_51 rfl (fun S1 => ?_)
  refine x_iload_n (nx := 55) (i := 3) h dM_turn_54 rfl 3 rfl rfl ?_
  refine x_if_eq (nx := 58) (tgt := 99) h dM_turn_55 (by decide) rfl ?_ ?_
  · refine x_iload_n (nx := 100) (i := 2) h dM_turn_99 rfl 2 rfl rfl ?_
    refine x_iconst (nx := 101) (v := (1 : Int32)) h dM_turn_100 (by decide) rfl ?_
    refine x_ishr (nx := 102) h dM_turn_101 rfl ?_
    refine x_iload_n (nx := 103) (i := 1) h dM_turn_102 rfl 1 rfl rfl ?_
    refine x_iconst (nx := 104) (v := (1 : Int32)) h dM_turn_103 (by decide) rfl ?_
    refine x_icmp_ne (nx := 107) (tgt := 114) h dM_turn_104 (by decide) rfl ?_ ?_
    · refine x_iload_n (nx := 115) (i := 1) h dM_turn_114 rfl 1 rfl rfl ?_
      refine x_iconst (nx := 116) (v := (3 : Int32)) h dM_turn_115 (by decide) rfl ?_
      refine x_icmp_ne (nx := 119) (tgt := 124) h dM_turn_116 (by decide) rfl ?_ ?_
      · refine x_iload_n (nx := 125) (i := 1) h dM_turn_124 rfl 1 rfl rfl ?_
        refine x_iconst (nx := 126) (v := (5 : Int32)) h dM_turn_125 (by decide) rfl ?_
        refine x_icmp_ne (nx := 129) (tgt := 136) h dM_turn_126 (by decide) rfl ?_ ?_
        · refine x_iconst (nx := 137) (v := (0 : Int32)) h dM_turn_136 (by decide) rfl ?_
          exact x_sub [] rfl (j_M_turn_137 h N (a2 >>> ((1 : Int32) &&& 31)) (0 : Int32) S1)
        · refine x_iload_n (nx := 130) (i := 2) h dM_turn_129 rfl 2 rfl rfl ?_
          refine x_bipush (nx := 132) (v := (7 : Int32)) h dM_turn_130 (by decide) rfl ?_
          refine x_ishr (nx := 133) h dM_turn_132 rfl ?_
          refine x_goto (tgt := 137) h dM_turn_133 (by decide) ?_
          exact x_sub [] rfl (j_M_turn_137 h N (a2 >>> ((1 : Int32) &&& 31)) (a2 >>> ((7 : Int32) &&& 31)) S1)
      · refine x_iload (nx := 121) (i := 4) h dM_turn_119 4 rfl rfl ?_
        refine x_goto (tgt := 137) h dM_turn_121 (by decide) ?_
        exact x_sub [] rfl (j_M_turn_137 h N (a2 >>> ((1 : Int32) &&& 31)) a4 S1)
    · refine x_aload_n (nx := 108) (i := 0) h dM_turn_107 rfl 0 rfl rfl ?_
      refine x_get (nx := 111) h (gM_0_10 ad ca _) (List.mem_cons_of_mem _ kM_110) dM_turn_108 rfl ?_
      refine x_goto (tgt := 137) h dM_turn_111 (by decide) ?_
      exact x_sub [] rfl (j_M_turn_137 h N (a2 >>> ((1 : Int32) &&& 31)) (S1 0 10) S1)
  · refine x_iload_n (nx := 59) (i := 2) h dM_turn_58 rfl 2 rfl rfl ?_
    refine x_iconst (nx := 60) (v := (1 : Int32)) h dM_turn_59 (by decide) rfl ?_
    refine x_ishl (nx := 61) h dM_turn_60 rfl ?_
    refine x_sipush (nx := 64) (v := (255 : Int32)) h dM_turn_61 (by decide) rfl ?_
    refine x_iand (nx := 65) h dM_turn_64 rfl ?_
    refine x_iload_n (nx := 66) (i := 1) h dM_turn_65 rfl 1 rfl rfl ?_
    refine x_if_ne (nx := 69) (tgt := 76) h dM_turn_66 (by decide) rfl ?_ ?_
    · refine x_iload_n (nx := 77) (i := 1) h dM_turn_76 rfl 1 rfl rfl ?_
      refine x_iconst (nx := 78) (v := (2 : Int32)) h dM_turn_77 (by decide) rfl ?_
      refine x_icmp_ne (nx := 81) (tgt := 86) h dM_turn_78 (by decide) rfl ?_ ?_
      · refine x_iload_n (nx := 87) (i := 1) h dM_turn_86 rfl 1 rfl rfl ?_
        refine x_bipush (nx := 89) (v := (6 : Int32)) h dM_turn_87 (by decide) rfl ?_
        refine x_icmp_ne (nx := 92) (tgt := 96) h dM_turn_89 (by decide) rfl ?_ ?_
        · refine x_iconst (nx := 97) (v := (0 : Int32)) h dM_turn_96 (by decide) rfl ?_
          exact x_sub [] rfl (j_M_turn_97 h N ((a2 <<< ((1 : Int32) &&& 31)) &&& (255 : Int32)) (0 : Int32) S1)
        · refine x_iconst (nx := 93) (v := (1 : Int32)) h dM_turn_92 (by decide) rfl ?_
          refine x_goto (tgt := 97) h dM_turn_93 (by decide) ?_
          exact x_sub [] rfl (j_M_turn_97 h N ((a2 <<< ((1 : Int32) &&& 31)) &&& (255 : Int32)) (1 : Int32) S1)
      · refine x_iload (nx := 83) (i := 4) h dM_turn_81 4 rfl rfl ?_
        refine x_goto (tgt := 97) h dM_turn_83 (by decide) ?_
        exact x_sub [] rfl (j_M_turn_97 h N ((a2 <<< ((1 : Int32) &&& 31)) &&& (255 : Int32)) a4 S1)
    · refine x_aload_n (nx := 70) (i := 0) h dM_turn_69 rfl 0 rfl rfl ?_
      refine x_get (nx := 73) h (gM_0_10 ad ca _) (List.mem_cons_of_mem _ kM_110) dM_turn_70 rfl ?_
      refine x_goto (tgt := 97) h dM_turn_73 (by decide) ?_
      exact x_sub [] rfl (j_M_turn_97 h N ((a2 <<< ((1 : Int32) &&& 31)) &&& (255 : Int32)) (S1 0 10) S1)
set_option maxHeartbeats 4000000 in
set_option maxRecDepth 100000 in
theorem j_M_turn_25 {l : Launch} {D : va_G} {ad : Nat → Nat} {ca : Nat → ClassId} {p : Program} {e : Env} {s : State} {m : MethodId} {args : Array Value} {below : List Frame} {meth : Method} {c : Code} {A : Nat → Prop} (h : xC p s m args meth c cM_turn 5 (Cond.code yM_turn cM_turn 5 (some .int) :: wA) nW yM_turn.cls (some .int) D clA (tysM ca) A) (N : Nat) (a1 a2 w0 : Int32) (S : xSt) : xJ p l e rm_M_turn s m args below meth c D clA (tysM ca) (cellsM ad ca) A true 5 25 [(0, .ref (ad 0)), (1, .int a1), (2, .int a2)] [.int w0] S (f_M_turn_25 N a1 a2 w0 S) := by
  unfold f_M_turn_25
  refine x_istore_n (nx := 26) (i := 3) (lv' := [(3, .int w0), (0, .ref (ad 0)), (1, .int a1), (2, .int a2)]) h dM_turn_25 rfl (by decide) rfl rfl ?_
  refine x_aload_n (nx := 27) (i := 0) h dM_turn_26 rfl 1 rfl rfl ?_
  refine x_get (nx := 30) h (gM_0_1 ad ca _) (List.mem_cons_of_mem _ kM_13) dM_turn_27 rfl ?_
  refine x_iconst (nx := 31) (v := (1 : Int32)) h dM_turn_30 (by decide) rfl ?_
  refine x_iald (nx := 32) h (aM_2 ad ca) dM_turn_31 rfl (fun v1 => ?_)
  refine x_iconst (nx := 33) (v := (1 : Int32)) h dM_turn_32 (by decide) rfl ?_
  refine x_iand (nx := 34) h dM_turn_33 rfl ?_
  refine x_val (fun b2 => ?_)
  refine x_istore (nx := 36) (i := 4) (lv' := [(4, .int b2), (3, .int w0), (0, .ref (ad 0)), (1, .int a1), (2, .int a2)]) h dM_turn_34 (by decide) rfl rfl ?_
  refine x_aload_n (nx := 37) (i := 0) h dM_turn_36 rfl 2 rfl rfl ?_
  refine x_iload_n (nx := 38) (i := 3) h dM_turn_37 rfl 1 rfl rfl ?_
  refine x_if_eq (nx := 41) (tgt := 48) h dM_turn_38 (by decide) rfl ?_ ?_
  · refine x_iload_n (nx := 49) (i := 2) h dM_turn_48 rfl 4 rfl rfl ?_
    refine x_iconst (nx := 50) (v := (1 : Int32)) h dM_turn_49 (by decide) rfl ?_
    refine x_iand (nx := 51) h dM_turn_50 rfl ?_
    exact x_sub [2, 3, 4, 1, 0] rfl (j_M_turn_51 h N a1 a2 w0 b2 (a2 &&& (1 : Int32)) S)
  · refine x_iload_n (nx := 42) (i := 2) h dM_turn_41 rfl 4 rfl rfl ?_
    refine x_bipush (nx := 44) (v := (7 : Int32)) h dM_turn_42 (by decide) rfl ?_
    refine x_ishr (nx := 45) h dM_turn_44 rfl ?_
    refine x_goto (tgt := 51) h dM_turn_45 (by decide) ?_
    exact x_sub [2, 3, 4, 1, 0] rfl (j_M_turn_51 h N a1 a2 w0 b2 (a2 >>> ((7 : Int32) &&& 31)) S)
set_option maxHeartbeats 4000000 in
set_option maxRecDepth 100000 in
theorem j_M_turn_20 {l : Launch} {D : va_G} {ad : Nat → Nat} {ca : Nat → ClassId} {p : Program} {e : Env} {s : State} {m : MethodId} {args : Array Value} {below : List Frame} {meth : Method} {c : Code} {A : Nat → Prop} (h : xC p s m args meth c cM_turn 5 (Cond.code yM_turn cM_turn 5 (some .int) :: wA) nW yM_turn.cls (some .int) D clA (tysM ca) A) (N : Nat) (a1 a2 : Int32) (S : xSt) : xJ p l e rm_M_turn s m args below meth c D clA (tysM ca) (cellsM ad ca) A true 5 20 [(0, .ref (ad 0)), (1, .int a1), (2, .int a2)] [] S (f_M_turn_20 N a1 a2 S) := by
  unfold f_M_turn_20
  refine x_iconst (nx := 21) (v := (1 : Int32)) h dM_turn_20 (by decide) rfl ?_
  refine x_goto (tgt := 25) h dM_turn_21 (by decide) ?_
  exact x_sub [0, 1, 2] rfl (j_M_turn_25 h N a1 a2 (1 : Int32) S)
set_option maxHeartbeats 4000000 in
set_option maxRecDepth 100000 in
theorem m_M_turn {l : Launch} {D : va_G} {ad : Nat → Nat} {ca : Nat → ClassId} (N : Nat) (a1 a2 : Int32) (S : xSt) : xM l D clA (tysM ca) (cellsM ad ca) nW yM_turn (Cond.code yM_turn cM_turn 5 (some .int) :: wA) rm_M_turn true [.ref (ad 0), .int a1, .int a2] S (f_M_turn N a1 a2 S) := by
  refine x_met (cc := cM_turn) (maxL := 5) (ret := (some .int)) (by decide) rfl [.ref (ad 0), .int a1, .int a2] (lv0 := [(0, .ref (ad 0)), (1, .int a1), (2, .int a2)]) (Nat.le_of_ble_eq_true rfl) rfl ?_
  intro p e s m args below meth c A h
  unfold f_M_turn
  refine x_iload_n (nx := 1) (i := 1) h dM_turn_0 rfl 1 rfl rfl ?_
  refine x_if_eq (nx := 4) (tgt := 20) h dM_turn_1 (by decide) rfl ?_ ?_
  · exact x_sub [0, 1, 2] rfl (j_M_turn_20 h N a1 a2 S)
  · refine x_iload_n (nx := 5) (i := 1) h dM_turn_4 rfl 1 rfl rfl ?_
    refine x_iconst (nx := 6) (v := (2 : Int32)) h dM_turn_5 (by decide) rfl ?_
    refine x_icmp_eq (nx := 9) (tgt := 20) h dM_turn_6 (by decide) rfl ?_ ?_
    · exact x_sub [0, 1, 2] rfl (j_M_turn_20 h N a1 a2 S)
    · refine x_iload_n (nx := 10) (i := 1) h dM_turn_9 rfl 1 rfl rfl ?_
      refine x_iconst (nx := 11) (v := (4 : Int32)) h dM_turn_10 (by decide) rfl ?_
      refine x_icmp_eq (nx := 14) (tgt := 20) h dM_turn_11 (by decide) rfl ?_ ?_
      · exact x_sub [0, 1, 2] rfl (j_M_turn_20 h N a1 a2 S)
      · refine x_iload_n (nx := 15) (i := 1) h dM_turn_14 rfl 1 rfl rfl ?_
        refine x_bipush (nx := 17) (v := (6 : Int32)) h dM_turn_15 (by decide) rfl ?_
        refine x_icmp_ne (nx := 20) (tgt := 24) h dM_turn_17 (by decide) rfl ?_ ?_
        · refine x_iconst (nx := 25) (v := (0 : Int32)) h dM_turn_24 (by decide) rfl ?_
          exact x_sub [0, 1, 2] rfl (j_M_turn_25 h N a1 a2 (0 : Int32) S)
        · exact x_sub [0, 1, 2] rfl (j_M_turn_20 h N a1 a2 S)
set_option maxHeartbeats 4000000 in
set_option maxRecDepth 100000 in
theorem m_M_turned {l : Launch} {D : va_G} {ad : Nat → Nat} {ca : Nat → ClassId} (N : Nat) (a1 a2 : Int32) (S : xSt) : xM l D clA (tysM ca) (cellsM ad ca) nW yM_turned (Cond.code yM_turned cM_turned 4 (some .int) :: wA) rm_M_turned true [.ref (ad 0), .int a1, .int a2] S (f_M_turned N a1 a2 S) := by
  refine x_met (cc := cM_turned) (maxL := 4) (ret := (some .int)) (by decide) rfl [.ref (ad 0), .int a1, .int a2] (lv0 := [(0, .ref (ad 0)), (1, .int a1), (2, .int a2)]) (Nat.le_of_ble_eq_true rfl) rfl ?_
  intro p e s m args below meth c A h
  unfold f_M_turned
  refine x_aload_n (nx := 1) (i := 0) h dM_turned_0 rfl 0 rfl rfl ?_
  refine x_iload_n (nx := 2) (i := 1) h dM_turned_1 rfl 1 rfl rfl ?_
  refine x_iload_n (nx := 3) (i := 2) h dM_turned_2 rfl 2 rfl rfl ?_
  refine x_cVi (nx := 6) (rest := []) (As := [.int a1, .int a2]) h (m_M_turn N a1 a2 S) (x_wV h goA y_M_turn kM_113 ⟨by decide, by decide⟩ rfl rfl) (oM_0 ad ca) rfl rfl (Nat.le_of_ble_eq_true rfl) dM_turned_3 rfl (fun v1 S2 => ?_)
  refine x_istore_n (nx := 7) (i := 3) (lv' := [(3, .int v1), (0, .ref (ad 0)), (1, .int a1), (2, .int a2)]) h dM_turned_6 rfl (by decide) rfl rfl ?_
  refine x_aload_n (nx := 8) (i := 0) h dM_turned_7 rfl 1 rfl rfl ?_
  refine x_get (nx := 11) h (gM_0_1 ad ca _) (List.mem_cons_of_mem _ kM_13) dM_turned_8 rfl ?_
  refine x_iconst (nx := 12) (v := (1 : Int32)) h dM_turned_11 (by decide) rfl ?_
  refine x_iload_n (nx := 13) (i := 3) h dM_turned_12 rfl 0 rfl rfl ?_
  refine x_cSi (nx := 16) (rest := [.int (1 : Int32), .ref (ad 2)]) (As := [.int v1]) h (m_M_by N v1 S2) (x_wS h goA y_M_by kM_98 ⟨by decide, by decide⟩ rfl rfl) rfl rfl (Nat.le_of_ble_eq_true rfl) dM_turned_13 rfl (fun v3 S4 => ?_)
  refine x_iload_n (nx := 17) (i := 3) h dM_turned_16 rfl 0 rfl rfl ?_
  refine x_cSi (nx := 20) (rest := [.int v3, .int (1 : Int32), .ref (ad 2)]) (As := [.int v1]) h (m_M_parity N v1 S4) (x_wS h goA y_M_parity kM_107 ⟨by decide, by decide⟩ rfl rfl) rfl rfl (Nat.le_of_ble_eq_true rfl) dM_turned_17 rfl (fun v5 S6 => ?_)
  refine x_ior (nx := 21) h dM_turned_20 rfl ?_
  refine x_aload_n (nx := 22) (i := 0) h dM_turned_21 rfl 1 rfl rfl ?_
  refine x_get (nx := 25) h (gM_0_10 ad ca _) (List.mem_cons_of_mem _ kM_110) dM_turned_22 rfl ?_
  refine x_ior (nx := 26) h dM_turned_25 rfl ?_
  refine x_iast (nx := 27) h (aM_2 ad ca) dM_turned_26 rfl (fun S7 => ?_)
  refine x_iload_n (nx := 28) (i := 3) h dM_turned_27 rfl 0 rfl rfl ?_
  exact x_iret h dM_turned_28
set_option maxHeartbeats 4000000 in
set_option maxRecDepth 100000 in
theorem j_M_bit_64 {l : Launch} {D : va_G} {ad : Nat → Nat} {ca : Nat → ClassId} {p : Program} {e : Env} {s : State} {m : MethodId} {args : Array Value} {below : List Frame} {meth : Method} {c : Code} {A : Nat → Prop} (h : xC p s m args meth c cM_bit 4 (Cond.code yM_bit cM_bit 4 none :: wA) nW yM_bit.cls none D clA (tysM ca) A) (N : Nat) (w1 w2 w3 : Int32) (S : xSt) : xJ p l e rm_M_bit s m args below meth c D clA (tysM ca) (cellsM ad ca) A false 4 64 [] [.int w3, .int w2, .int w1, .ref (ad 2)] S (f_M_bit_64 N w1 w2 w3 S) := by
  unfold f_M_bit_64
  refine x_ior (nx := 65) h dM_bit_64 rfl ?_
  refine x_iast (nx := 66) h (aM_2 ad ca) dM_bit_65 rfl (fun S1 => ?_)
  exact x_vret h dM_bit_66
set_option maxHeartbeats 4000000 in
set_option maxRecDepth 100000 in
theorem j_M_bit_63 {l : Launch} {D : va_G} {ad : Nat → Nat} {ca : Nat → ClassId} {p : Program} {e : Env} {s : State} {m : MethodId} {args : Array Value} {below : List Frame} {meth : Method} {c : Code} {A : Nat → Prop} (h : xC p s m args meth c cM_bit 4 (Cond.code yM_bit cM_bit 4 none :: wA) nW yM_bit.cls none D clA (tysM ca) A) (N : Nat) (w1 w2 : Int32) (S : xSt) : xJ p l e rm_M_bit s m args below meth c D clA (tysM ca) (cellsM ad ca) A false 4 63 [] [.int w2, .int w1, .ref (ad 2)] S (f_M_bit_63 N w1 w2 S) := by
  unfold f_M_bit_63
  refine x_iconst (nx := 64) (v := (0 : Int32)) h dM_bit_63 (by decide) rfl ?_
  exact x_sub [] rfl (j_M_bit_64 h N w1 w2 (0 : Int32) S)
set_option maxHeartbeats 4000000 in
set_option maxRecDepth 100000 in
theorem j_M_bit_46 {l : Launch} {D : va_G} {ad : Nat → Nat} {ca : Nat → ClassId} {p : Program} {e : Env} {s : State} {m : MethodId} {args : Array Value} {below : List Frame} {meth : Method} {c : Code} {A : Nat → Prop} (h : xC p s m args meth c cM_bit 4 (Cond.code yM_bit cM_bit 4 none :: wA) nW yM_bit.cls none D clA (tysM ca) A) (N : Nat) (a1 a3 w1 w2 w3 : Int32) (S : xSt) : xJ p l e rm_M_bit s m args below meth c D clA (tysM ca) (cellsM ad ca) A false 4 46 [(1, .int a1), (3, .int a3)] [.int w3, .int w2, .int w1, .ref (ad 2)] S (f_M_bit_46 N a1 a3 w1 w2 w3 S) := by
  unfold f_M_bit_46
  refine x_ior (nx := 47) h dM_bit_46 rfl ?_
  refine x_iload_n (nx := 48) (i := 3) h dM_bit_47 rfl 1 rfl rfl ?_
  refine x_if_eq (nx := 51) (tgt := 63) h dM_bit_48 (by decide) rfl ?_ ?_
  · exact x_sub [] rfl (j_M_bit_63 h N w1 (w2 ||| w3) S)
  · refine x_iload_n (nx := 52) (i := 1) h dM_bit_51 rfl 0 rfl rfl ?_
    refine x_bipush (nx := 54) (v := (7 : Int32)) h dM_bit_52 (by decide) rfl ?_
    refine x_icmp_ne (nx := 57) (tgt := 63) h dM_bit_54 (by decide) rfl ?_ ?_
    · exact x_sub [] rfl (j_M_bit_63 h N w1 (w2 ||| w3) S)
    · refine x_sipush (nx := 60) (v := (128 : Int32)) h dM_bit_57 (by decide) rfl ?_
      refine x_goto (tgt := 64) h dM_bit_60 (by decide) ?_
      exact x_sub [] rfl (j_M_bit_64 h N w1 (w2 ||| w3) (128 : Int32) S)
set_option maxHeartbeats 4000000 in
set_option maxRecDepth 100000 in
theorem j_M_bit_14 {l : Launch} {D : va_G} {ad : Nat → Nat} {ca : Nat → ClassId} {p : Program} {e : Env} {s : State} {m : MethodId} {args : Array Value} {below : List Frame} {meth : Method} {c : Code} {A : Nat → Prop} (h : xC p s m args meth c cM_bit 4 (Cond.code yM_bit cM_bit 4 none :: wA) nW yM_bit.cls none D clA (tysM ca) A) (N : Nat) (a1 a2 w0 : Int32) (S : xSt) : xJ p l e rm_M_bit s m args below meth c D clA (tysM ca) (cellsM ad ca) A false 4 14 [(0, .ref (ad 0)), (1, .int a1), (2, .int a2)] [.int w0] S (f_M_bit_14 N a1 a2 w0 S) := by
  unfold f_M_bit_14
  refine x_istore_n (nx := 15) (i := 3) (lv' := [(3, .int w0), (0, .ref (ad 0)), (1, .int a1), (2, .int a2)]) h dM_bit_14 rfl (by decide) rfl rfl ?_
  refine x_aload_n (nx := 16) (i := 0) h dM_bit_15 rfl 1 rfl rfl ?_
  refine x_get (nx := 19) h (gM_0_1 ad ca _) (List.mem_cons_of_mem _ kM_13) dM_bit_16 rfl ?_
  refine x_iconst (nx := 20) (v := (1 : Int32)) h dM_bit_19 (by decide) rfl ?_
  refine x_aload_n (nx := 21) (i := 0) h dM_bit_20 rfl 1 rfl rfl ?_
  refine x_get (nx := 24) h (gM_0_1 ad ca _) (List.mem_cons_of_mem _ kM_13) dM_bit_21 rfl ?_
  refine x_iconst (nx := 25) (v := (1 : Int32)) h dM_bit_24 (by decide) rfl ?_
  refine x_iald (nx := 26) h (aM_2 ad ca) dM_bit_25 rfl (fun v1 => ?_)
  refine x_iconst (nx := 27) (v := (1 : Int32)) h dM_bit_26 (by decide) rfl ?_
  refine x_iand (nx := 28) h dM_bit_27 rfl ?_
  refine x_bipush (nx := 30) (v := (16 : Int32)) h dM_bit_28 (by decide) rfl ?_
  refine x_ior (nx := 31) h dM_bit_30 rfl ?_
  refine x_iload_n (nx := 32) (i := 2) h dM_bit_31 rfl 3 rfl rfl ?_
  refine x_bipush (nx := 34) (v := (40 : Int32)) h dM_bit_32 (by decide) rfl ?_
  refine x_iand (nx := 35) h dM_bit_34 rfl ?_
  refine x_ior (nx := 36) h dM_bit_35 rfl ?_
  refine x_iload_n (nx := 37) (i := 3) h dM_bit_36 rfl 0 rfl rfl ?_
  refine x_if_eq (nx := 40) (tgt := 44) h dM_bit_37 (by decide) rfl ?_ ?_
  · refine x_bipush (nx := 46) (v := (68 : Int32)) h dM_bit_44 (by decide) rfl ?_
    exact x_sub [2, 0] rfl (j_M_bit_46 h N a1 w0 (1 : Int32) (((v1 &&& (1 : Int32)) ||| (16 : Int32)) ||| (a2 &&& (40 : Int32))) (68 : Int32) S)
  · refine x_iconst (nx := 41) (v := (0 : Int32)) h dM_bit_40 (by decide) rfl ?_
    refine x_goto (tgt := 46) h dM_bit_41 (by decide) ?_
    exact x_sub [2, 0] rfl (j_M_bit_46 h N a1 w0 (1 : Int32) (((v1 &&& (1 : Int32)) ||| (16 : Int32)) ||| (a2 &&& (40 : Int32))) (0 : Int32) S)
set_option maxHeartbeats 4000000 in
set_option maxRecDepth 100000 in
theorem m_M_bit {l : Launch} {D : va_G} {ad : Nat → Nat} {ca : Nat → ClassId} (N : Nat) (a1 a2 : Int32) (S : xSt) : xM l D clA (tysM ca) (cellsM ad ca) nW yM_bit (Cond.code yM_bit cM_bit 4 none :: wA) rm_M_bit false [.ref (ad 0), .int a1, .int a2] S (f_M_bit N a1 a2 S) := by
  refine x_met (cc := cM_bit) (maxL := 4) (ret := none) (by decide) rfl [.ref (ad 0), .int a1, .int a2] (lv0 := [(0, .ref (ad 0)), (1, .int a1), (2, .int a2)]) (Nat.le_of_ble_eq_true rfl) rfl ?_
  intro p e s m args below meth c A h
  unfold f_M_bit
  refine x_iload_n (nx := 1) (i := 2) h dM_bit_0 rfl 2 rfl rfl ?_
  refine x_iload_n (nx := 2) (i := 1) h dM_bit_1 rfl 1 rfl rfl ?_
  refine x_ishr (nx := 3) h dM_bit_2 rfl ?_
  refine x_iconst (nx := 4) (v := (1 : Int32)) h dM_bit_3 (by decide) rfl ?_
  refine x_iand (nx := 5) h dM_bit_4 rfl ?_
  refine x_iconst (nx := 6) (v := (1 : Int32)) h dM_bit_5 (by decide) rfl ?_
  refine x_icmp_ne (nx := 9) (tgt := 13) h dM_bit_6 (by decide) rfl ?_ ?_
  · refine x_iconst (nx := 14) (v := (0 : Int32)) h dM_bit_13 (by decide) rfl ?_
    exact x_sub [0, 1, 2] rfl (j_M_bit_14 h N a1 a2 (0 : Int32) S)
  · refine x_iconst (nx := 10) (v := (1 : Int32)) h dM_bit_9 (by decide) rfl ?_
    refine x_goto (tgt := 14) h dM_bit_10 (by decide) ?_
    exact x_sub [0, 1, 2] rfl (j_M_bit_14 h N a1 a2 (1 : Int32) S)
set_option maxHeartbeats 4000000 in
set_option maxRecDepth 100000 in
theorem j_M_adjust_146 {l : Launch} {D : va_G} {ad : Nat → Nat} {ca : Nat → ClassId} {p : Program} {e : Env} {s : State} {m : MethodId} {args : Array Value} {below : List Frame} {meth : Method} {c : Code} {A : Nat → Prop} (h : xC p s m args meth c cM_adjust 5 (Cond.code yM_adjust cM_adjust 5 none :: wA) nW yM_adjust.cls none D clA (tysM ca) A) (N : Nat) (w1 w2 w3 : Int32) (S : xSt) : xJ p l e rm_M_adjust s m args below meth c D clA (tysM ca) (cellsM ad ca) A false 5 146 [] [.int w3, .int w2, .int w1, .ref (ad 2)] S (f_M_adjust_146 N w1 w2 w3 S) := by
  unfold f_M_adjust_146
  refine x_ior (nx := 147) h dM_adjust_146 rfl ?_
  refine x_iast (nx := 148) h (aM_2 ad ca) dM_adjust_147 rfl (fun S1 => ?_)
  exact x_vret h dM_adjust_148
set_option maxHeartbeats 4000000 in
set_option maxRecDepth 100000 in
theorem j_M_adjust_91 {l : Launch} {D : va_G} {ad : Nat → Nat} {ca : Nat → ClassId} {p : Program} {e : Env} {s : State} {m : MethodId} {args : Array Value} {below : List Frame} {meth : Method} {c : Code} {A : Nat → Prop} (h : xC p s m args meth c cM_adjust 5 (Cond.code yM_adjust cM_adjust 5 none :: wA) nW yM_adjust.cls none D clA (tysM ca) A) (N : Nat) (a1 a2 a4 w1 w2 : Int32) (S : xSt) : xJ p l e rm_M_adjust s m args below meth c D clA (tysM ca) (cellsM ad ca) A false 5 91 [(0, .ref (ad 0)), (1, .int a1), (2, .int a2), (4, .int a4)] [.int w2, .int w1, .ref (ad 2)] S (f_M_adjust_91 N a1 a2 a4 w1 w2 S) := by
  unfold f_M_adjust_91
  refine x_sipush (nx := 94) (v := (255 : Int32)) h dM_adjust_91 (by decide) rfl ?_
  refine x_iand (nx := 95) h dM_adjust_94 rfl ?_
  refine x_iast (nx := 96) h (aM_2 ad ca) dM_adjust_95 rfl (fun S1 => ?_)
  refine x_aload_n (nx := 97) (i := 0) h dM_adjust_96 rfl 0 rfl rfl ?_
  refine x_get (nx := 100) h (gM_0_1 ad ca _) (List.mem_cons_of_mem _ kM_13) dM_adjust_97 rfl ?_
  refine x_iconst (nx := 101) (v := (1 : Int32)) h dM_adjust_100 (by decide) rfl ?_
  refine x_aload_n (nx := 102) (i := 0) h dM_adjust_101 rfl 0 rfl rfl ?_
  refine x_get (nx := 105) h (gM_0_1 ad ca _) (List.mem_cons_of_mem _ kM_13) dM_adjust_102 rfl ?_
  refine x_iconst (nx := 106) (v := (0 : Int32)) h dM_adjust_105 (by decide) rfl ?_
  refine x_iald (nx := 107) h (aM_2 ad ca) dM_adjust_106 rfl (fun v2 => ?_)
  refine x_cSi (nx := 110) (rest := [.int (1 : Int32), .ref (ad 2)]) (As := [.int v2]) h (m_M_by N v2 S1) (x_wS h goA y_M_by kM_98 ⟨by decide, by decide⟩ rfl rfl) rfl rfl (Nat.le_of_ble_eq_true rfl) dM_adjust_107 rfl (fun v3 S4 => ?_)
  refine x_aload_n (nx := 111) (i := 0) h dM_adjust_110 rfl 0 rfl rfl ?_
  refine x_get (nx := 114) h (gM_0_1 ad ca _) (List.mem_cons_of_mem _ kM_13) dM_adjust_111 rfl ?_
  refine x_iconst (nx := 115) (v := (0 : Int32)) h dM_adjust_114 (by decide) rfl ?_
  refine x_iald (nx := 116) h (aM_2 ad ca) dM_adjust_115 rfl (fun v5 => ?_)
  refine x_cSi (nx := 119) (rest := [.int v3, .int (1 : Int32), .ref (ad 2)]) (As := [.int v5]) h (m_M_parity N v5 S4) (x_wS h goA y_M_parity kM_107 ⟨by decide, by decide⟩ rfl rfl) rfl rfl (Nat.le_of_ble_eq_true rfl) dM_adjust_116 rfl (fun v6 S7 => ?_)
  refine x_ior (nx := 120) h dM_adjust_119 rfl ?_
  refine x_iload_n (nx := 121) (i := 1) h dM_adjust_120 rfl 1 rfl rfl ?_
  refine x_aload_n (nx := 122) (i := 0) h dM_adjust_121 rfl 0 rfl rfl ?_
  refine x_get (nx := 125) h (gM_0_1 ad ca _) (List.mem_cons_of_mem _ kM_13) dM_adjust_122 rfl ?_
  refine x_iconst (nx := 126) (v := (0 : Int32)) h dM_adjust_125 (by decide) rfl ?_
  refine x_iald (nx := 127) h (aM_2 ad ca) dM_adjust_126 rfl (fun v8 => ?_)
  refine x_ixor (nx := 128) h dM_adjust_127 rfl ?_
  refine x_bipush (nx := 130) (v := (16 : Int32)) h dM_adjust_128 (by decide) rfl ?_
  refine x_iand (nx := 131) h dM_adjust_130 rfl ?_
  refine x_ior (nx := 132) h dM_adjust_131 rfl ?_
  refine x_iload_n (nx := 133) (i := 2) h dM_adjust_132 rfl 2 rfl rfl ?_
  refine x_iconst (nx := 134) (v := (2 : Int32)) h dM_adjust_133 (by decide) rfl ?_
  refine x_iand (nx := 135) h dM_adjust_134 rfl ?_
  refine x_ior (nx := 136) h dM_adjust_135 rfl ?_
  refine x_iload (nx := 138) (i := 4) h dM_adjust_136 3 rfl rfl ?_
  refine x_if_eq (nx := 141) (tgt := 145) h dM_adjust_138 (by decide) rfl ?_ ?_
  · refine x_iconst (nx := 146) (v := (0 : Int32)) h dM_adjust_145 (by decide) rfl ?_
    exact x_sub [] rfl (j_M_adjust_146 h N (1 : Int32) (((v3 ||| v6) ||| ((a1 ^^^ v8) &&& (16 : Int32))) ||| (a2 &&& (2 : Int32))) (0 : Int32) S7)
  · refine x_iconst (nx := 142) (v := (1 : Int32)) h dM_adjust_141 (by decide) rfl ?_
    refine x_goto (tgt := 146) h dM_adjust_142 (by decide) ?_
    exact x_sub [] rfl (j_M_adjust_146 h N (1 : Int32) (((v3 ||| v6) ||| ((a1 ^^^ v8) &&& (16 : Int32))) ||| (a2 &&& (2 : Int32))) (1 : Int32) S7)
set_option maxHeartbeats 4000000 in
set_option maxRecDepth 100000 in
theorem j_M_adjust_70 {l : Launch} {D : va_G} {ad : Nat → Nat} {ca : Nat → ClassId} {p : Program} {e : Env} {s : State} {m : MethodId} {args : Array Value} {below : List Frame} {meth : Method} {c : Code} {A : Nat → Prop} (h : xC p s m args meth c cM_adjust 5 (Cond.code yM_adjust cM_adjust 5 none :: wA) nW yM_adjust.cls none D clA (tysM ca) A) (N : Nat) (a1 a2 a4 w0 : Int32) (S : xSt) : xJ p l e rm_M_adjust s m args below meth c D clA (tysM ca) (cellsM ad ca) A false 5 70 [(0, .ref (ad 0)), (1, .int a1), (2, .int a2), (4, .int a4)] [.int w0] S (f_M_adjust_70 N a1 a2 a4 w0 S) := by
  unfold f_M_adjust_70
  refine x_istore_n (nx := 71) (i := 3) (lv' := [(3, .int w0), (0, .ref (ad 0)), (1, .int a1), (2, .int a2), (4, .int a4)]) h dM_adjust_70 rfl (by decide) rfl rfl ?_
  refine x_aload_n (nx := 72) (i := 0) h dM_adjust_71 rfl 1 rfl rfl ?_
  refine x_get (nx := 75) h (gM_0_1 ad ca _) (List.mem_cons_of_mem _ kM_13) dM_adjust_72 rfl ?_
  refine x_iconst (nx := 76) (v := (0 : Int32)) h dM_adjust_75 (by decide) rfl ?_
  refine x_iload_n (nx := 77) (i := 2) h dM_adjust_76 rfl 3 rfl rfl ?_
  refine x_iconst (nx := 78) (v := (2 : Int32)) h dM_adjust_77 (by decide) rfl ?_
  refine x_iand (nx := 79) h dM_adjust_78 rfl ?_
  refine x_if_eq (nx := 82) (tgt := 88) h dM_adjust_79 (by decide) rfl ?_ ?_
  · refine x_iload_n (nx := 89) (i := 1) h dM_adjust_88 rfl 2 rfl rfl ?_
    refine x_iload_n (nx := 90) (i := 3) h dM_adjust_89 rfl 0 rfl rfl ?_
    refine x_iadd (nx := 91) h dM_adjust_90 rfl ?_
    exact x_sub [1, 2, 3, 4] rfl (j_M_adjust_91 h N a1 a2 a4 (0 : Int32) (a1 + w0) S)
  · refine x_iload_n (nx := 83) (i := 1) h dM_adjust_82 rfl 2 rfl rfl ?_
    refine x_iload_n (nx := 84) (i := 3) h dM_adjust_83 rfl 0 rfl rfl ?_
    refine x_isub (nx := 85) h dM_adjust_84 rfl ?_
    refine x_goto (tgt := 91) h dM_adjust_85 (by decide) ?_
    exact x_sub [1, 2, 3, 4] rfl (j_M_adjust_91 h N a1 a2 a4 (0 : Int32) (a1 - w0) S)
set_option maxHeartbeats 4000000 in
set_option maxRecDepth 100000 in
theorem j_M_adjust_55 {l : Launch} {D : va_G} {ad : Nat → Nat} {ca : Nat → ClassId} {p : Program} {e : Env} {s : State} {m : MethodId} {args : Array Value} {below : List Frame} {meth : Method} {c : Code} {A : Nat → Prop} (h : xC p s m args meth c cM_adjust 5 (Cond.code yM_adjust cM_adjust 5 none :: wA) nW yM_adjust.cls none D clA (tysM ca) A) (N : Nat) (a1 a2 a3 w0 : Int32) (S : xSt) : xJ p l e rm_M_adjust s m args below meth c D clA (tysM ca) (cellsM ad ca) A false 5 55 [(0, .ref (ad 0)), (1, .int a1), (2, .int a2), (3, .int a3)] [.int w0] S (f_M_adjust_55 N a1 a2 a3 w0 S) := by
  unfold f_M_adjust_55
  refine x_istore (nx := 57) (i := 4) (lv' := [(4, .int w0), (0, .ref (ad 0)), (1, .int a1), (2, .int a2), (3, .int a3)]) h dM_adjust_55 (by decide) rfl rfl ?_
  refine x_iload (nx := 59) (i := 4) h dM_adjust_57 0 rfl rfl ?_
  refine x_if_eq (nx := 62) (tgt := 69) h dM_adjust_59 (by decide) rfl ?_ ?_
  · refine x_iload_n (nx := 70) (i := 3) h dM_adjust_69 rfl 4 rfl rfl ?_
    exact x_sub [1, 2, 3, 0] rfl (j_M_adjust_70 h N a1 a2 w0 a3 S)
  · refine x_iload_n (nx := 63) (i := 3) h dM_adjust_62 rfl 4 rfl rfl ?_
    refine x_bipush (nx := 65) (v := (96 : Int32)) h dM_adjust_63 (by decide) rfl ?_
    refine x_iadd (nx := 66) h dM_adjust_65 rfl ?_
    refine x_goto (tgt := 70) h dM_adjust_66 (by decide) ?_
    exact x_sub [1, 2, 3, 0] rfl (j_M_adjust_70 h N a1 a2 w0 (a3 + (96 : Int32)) S)
set_option maxHeartbeats 4000000 in
set_option maxRecDepth 100000 in
theorem j_M_adjust_50 {l : Launch} {D : va_G} {ad : Nat → Nat} {ca : Nat → ClassId} {p : Program} {e : Env} {s : State} {m : MethodId} {args : Array Value} {below : List Frame} {meth : Method} {c : Code} {A : Nat → Prop} (h : xC p s m args meth c cM_adjust 5 (Cond.code yM_adjust cM_adjust 5 none :: wA) nW yM_adjust.cls none D clA (tysM ca) A) (N : Nat) (a1 a2 a3 : Int32) (S : xSt) : xJ p l e rm_M_adjust s m args below meth c D clA (tysM ca) (cellsM ad ca) A false 5 50 [(0, .ref (ad 0)), (1, .int a1), (2, .int a2), (3, .int a3)] [] S (f_M_adjust_50 N a1 a2 a3 S) := by
  unfold f_M_adjust_50
  refine x_iconst (nx := 51) (v := (1 : Int32)) h dM_adjust_50 (by decide) rfl ?_
  refine x_goto (tgt := 55) h dM_adjust_51 (by decide) ?_
  exact x_sub [0, 1, 2, 3] rfl (j_M_adjust_55 h N a1 a2 a3 (1 : Int32) S)
set_option maxHeartbeats 4000000 in
set_option maxRecDepth 100000 in
theorem j_M_adjust_36 {l : Launch} {D : va_G} {ad : Nat → Nat} {ca : Nat → ClassId} {p : Program} {e : Env} {s : State} {m : MethodId} {args : Array Value} {below : List Frame} {meth : Method} {c : Code} {A : Nat → Prop} (h : xC p s m args meth c cM_adjust 5 (Cond.code yM_adjust cM_adjust 5 none :: wA) nW yM_adjust.cls none D clA (tysM ca) A) (N : Nat) (a1 a2 w0 : Int32) (S : xSt) : xJ p l e rm_M_adjust s m args below meth c D clA (tysM ca) (cellsM ad ca) A false 5 36 [(0, .ref (ad 0)), (1, .int a1), (2, .int a2)] [.int w0] S (f_M_adjust_36 N a1 a2 w0 S) := by
  unfold f_M_adjust_36
  refine x_istore_n (nx := 37) (i := 3) (lv' := [(3, .int w0), (0, .ref (ad 0)), (1, .int a1), (2, .int a2)]) h dM_adjust_36 rfl (by decide) rfl rfl ?_
  refine x_iload_n (nx := 38) (i := 2) h dM_adjust_37 rfl 3 rfl rfl ?_
  refine x_iconst (nx := 39) (v := (1 : Int32)) h dM_adjust_38 (by decide) rfl ?_
  refine x_iand (nx := 40) h dM_adjust_39 rfl ?_
  refine x_if_ne (nx := 43) (tgt := 50) h dM_adjust_40 (by decide) rfl ?_ ?_
  · exact x_sub [1, 2, 3, 0] rfl (j_M_adjust_50 h N a1 a2 w0 S)
  · refine x_iload_n (nx := 44) (i := 1) h dM_adjust_43 rfl 2 rfl rfl ?_
    refine x_sipush (nx := 47) (v := (153 : Int32)) h dM_adjust_44 (by decide) rfl ?_
    refine x_icmp_le (nx := 50) (tgt := 54) h dM_adjust_47 (by decide) rfl ?_ ?_
    · refine x_iconst (nx := 55) (v := (0 : Int32)) h dM_adjust_54 (by decide) rfl ?_
      exact x_sub [1, 2, 3, 0] rfl (j_M_adjust_55 h N a1 a2 w0 (0 : Int32) S)
    · exact x_sub [1, 2, 3, 0] rfl (j_M_adjust_50 h N a1 a2 w0 S)
set_option maxHeartbeats 4000000 in
set_option maxRecDepth 100000 in
theorem j_M_adjust_30 {l : Launch} {D : va_G} {ad : Nat → Nat} {ca : Nat → ClassId} {p : Program} {e : Env} {s : State} {m : MethodId} {args : Array Value} {below : List Frame} {meth : Method} {c : Code} {A : Nat → Prop} (h : xC p s m args meth c cM_adjust 5 (Cond.code yM_adjust cM_adjust 5 none :: wA) nW yM_adjust.cls none D clA (tysM ca) A) (N : Nat) (a1 a2 : Int32) (S : xSt) : xJ p l e rm_M_adjust s m args below meth c D clA (tysM ca) (cellsM ad ca) A false 5 30 [(0, .ref (ad 0)), (1, .int a1), (2, .int a2)] [] S (f_M_adjust_30 N a1 a2 S) := by
  unfold f_M_adjust_30
  refine x_bipush (nx := 32) (v := (6 : Int32)) h dM_adjust_30 (by decide) rfl ?_
  refine x_goto (tgt := 36) h dM_adjust_32 (by decide) ?_
  exact x_sub [0, 1, 2] rfl (j_M_adjust_36 h N a1 a2 (6 : Int32) S)
set_option maxHeartbeats 4000000 in
set_option maxRecDepth 100000 in
theorem m_M_adjust {l : Launch} {D : va_G} {ad : Nat → Nat} {ca : Nat → ClassId} (N : Nat) (S : xSt) : xM l D clA (tysM ca) (cellsM ad ca) nW yM_adjust (Cond.code yM_adjust cM_adjust 5 none :: wA) rm_M_adjust false [.ref (ad 0)] S (f_M_adjust N S) := by
  refine x_met (cc := cM_adjust) (maxL := 5) (ret := none) (by decide) rfl [.ref (ad 0)] (lv0 := [(0, .ref (ad 0))]) (Nat.le_of_ble_eq_true rfl) rfl ?_
  intro p e s m args below meth c A h
  unfold f_M_adjust
  refine x_aload_n (nx := 1) (i := 0) h dM_adjust_0 rfl 0 rfl rfl ?_
  refine x_get (nx := 4) h (gM_0_1 ad ca _) (List.mem_cons_of_mem _ kM_13) dM_adjust_1 rfl ?_
  refine x_iconst (nx := 5) (v := (0 : Int32)) h dM_adjust_4 (by decide) rfl ?_
  refine x_iald (nx := 6) h (aM_2 ad ca) dM_adjust_5 rfl (fun v1 => ?_)
  refine x_istore_n (nx := 7) (i := 1) (lv' := [(1, .int v1), (0, .ref (ad 0))]) h dM_adjust_6 rfl (by decide) rfl rfl ?_
  refine x_aload_n (nx := 8) (i := 0) h dM_adjust_7 rfl 1 rfl rfl ?_
  refine x_get (nx := 11) h (gM_0_1 ad ca _) (List.mem_cons_of_mem _ kM_13) dM_adjust_8 rfl ?_
  refine x_iconst (nx := 12) (v := (1 : Int32)) h dM_adjust_11 (by decide) rfl ?_
  refine x_iald (nx := 13) h (aM_2 ad ca) dM_adjust_12 rfl (fun v2 => ?_)
  refine x_istore_n (nx := 14) (i := 2) (lv' := [(2, .int v2), (1, .int v1), (0, .ref (ad 0))]) h dM_adjust_13 rfl (by decide) rfl rfl ?_
  refine x_iload_n (nx := 15) (i := 2) h dM_adjust_14 rfl 0 rfl rfl ?_
  refine x_bipush (nx := 17) (v := (16 : Int32)) h dM_adjust_15 (by decide) rfl ?_
  refine x_iand (nx := 18) h dM_adjust_17 rfl ?_
  refine x_if_ne (nx := 21) (tgt := 30) h dM_adjust_18 (by decide) rfl ?_ ?_
  · exact x_sub [2, 1, 0] rfl (j_M_adjust_30 h N v1 v2 S)
  · refine x_iload_n (nx := 22) (i := 1) h dM_adjust_21 rfl 1 rfl rfl ?_
    refine x_bipush (nx := 24) (v := (15 : Int32)) h dM_adjust_22 (by decide) rfl ?_
    refine x_iand (nx := 25) h dM_adjust_24 rfl ?_
    refine x_bipush (nx := 27) (v := (9 : Int32)) h dM_adjust_25 (by decide) rfl ?_
    refine x_icmp_le (nx := 30) (tgt := 35) h dM_adjust_27 (by decide) rfl ?_ ?_
    · refine x_iconst (nx := 36) (v := (0 : Int32)) h dM_adjust_35 (by decide) rfl ?_
      exact x_sub [2, 1, 0] rfl (j_M_adjust_36 h N v1 v2 (0 : Int32) S)
    · exact x_sub [2, 1, 0] rfl (j_M_adjust_30 h N v1 v2 S)
