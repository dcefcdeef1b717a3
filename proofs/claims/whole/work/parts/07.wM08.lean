set_option maxHeartbeats 4000000 in
set_option maxRecDepth 100000 in
theorem j_M_last_258 {l : Launch} {D : va_G} {ad : Nat → Nat} {ca : Nat → ClassId} {p : Program} {e : Env} {s : State} {m : MethodId} {args : Array Value} {below : List Frame} {meth : Method} {c : Code} {A : Nat → Prop} (h : xC p s m args meth c cM_last 7 (Cond.code yM_last cM_last 7 none :: wA) nW yM_last.cls none D clA (tysM ca) A) (N : Nat) (S : xSt) : xJ p l e rm_M_last s m args below meth c D clA (tysM ca) (cellsM ad ca) A false 7 258 [] [] S (f_M_last_258 N S) := by
  unfold f_M_last_258
  exact x_vret h dM_last_258
set_option maxHeartbeats 4000000 in
set_option maxRecDepth 100000 in
theorem j_M_last_134 {l : Launch} {D : va_G} {ad : Nat → Nat} {ca : Nat → ClassId} {p : Program} {e : Env} {s : State} {m : MethodId} {args : Array Value} {below : List Frame} {meth : Method} {c : Code} {A : Nat → Prop} (h : xC p s m args meth c cM_last 7 (Cond.code yM_last cM_last 7 none :: wA) nW yM_last.cls none D clA (tysM ca) A) (N : Nat) (w1 w2 : Int32) (S : xSt) : xJ p l e rm_M_last s m args below meth c D clA (tysM ca) (cellsM ad ca) A false 7 134 [] [.int w2, .int w1, .ref (ad 2)] S (f_M_last_134 N w1 w2 S) := by
  unfold f_M_last_134
  refine x_iast (nx := 135) h (aM_2 ad ca) dM_last_134 rfl (fun S1 => ?_)
  refine x_goto (tgt := 258) h dM_last_135 (by decide) ?_
  exact x_sub [] rfl (j_M_last_258 h N S1)
set_option maxHeartbeats 4000000 in
set_option maxRecDepth 100000 in
theorem j_M_last_111 {l : Launch} {D : va_G} {ad : Nat → Nat} {ca : Nat → ClassId} {p : Program} {e : Env} {s : State} {m : MethodId} {args : Array Value} {below : List Frame} {meth : Method} {c : Code} {A : Nat → Prop} (h : xC p s m args meth c cM_last 7 (Cond.code yM_last cM_last 7 none :: wA) nW yM_last.cls none D clA (tysM ca) A) (N : Nat) (a5 a6 : Int32) (S : xSt) : xJ p l e rm_M_last s m args below meth c D clA (tysM ca) (cellsM ad ca) A false 7 111 [(0, .ref (ad 0)), (5, .int a5), (6, .int a6)] [] S (f_M_last_111 N a5 a6 S) := by
  unfold f_M_last_111
  refine x_aload_n (nx := 112) (i := 0) h dM_last_111 rfl 0 rfl rfl ?_
  refine x_get (nx := 115) h (gM_0_1 ad ca _) (List.mem_cons_of_mem _ kM_13) dM_last_112 rfl ?_
  refine x_bipush (nx := 117) (v := (21 : Int32)) h dM_last_115 (by decide) rfl ?_
  refine x_iload (nx := 119) (i := 6) h dM_last_117 2 rfl rfl ?_
  refine x_if_eq (nx := 122) (tgt := 127) h dM_last_119 (by decide) rfl ?_ ?_
  · refine x_aload_n (nx := 128) (i := 0) h dM_last_127 rfl 0 rfl rfl ?_
    refine x_get (nx := 131) h (gM_0_1 ad ca _) (List.mem_cons_of_mem _ kM_13) dM_last_128 rfl ?_
    refine x_bipush (nx := 133) (v := (21 : Int32)) h dM_last_131 (by decide) rfl ?_
    refine x_iald (nx := 134) h (aM_2 ad ca) dM_last_133 rfl (fun v1 => ?_)
    exact x_sub [] rfl (j_M_last_134 h N (21 : Int32) v1 S)
  · refine x_iload (nx := 124) (i := 5) h dM_last_122 1 rfl rfl ?_
    refine x_goto (tgt := 134) h dM_last_124 (by decide) ?_
    exact x_sub [] rfl (j_M_last_134 h N (21 : Int32) a5 S)
set_option maxHeartbeats 4000000 in
set_option maxRecDepth 100000 in
theorem j_M_last_88 {l : Launch} {D : va_G} {ad : Nat → Nat} {ca : Nat → ClassId} {p : Program} {e : Env} {s : State} {m : MethodId} {args : Array Value} {below : List Frame} {meth : Method} {c : Code} {A : Nat → Prop} (h : xC p s m args meth c cM_last 7 (Cond.code yM_last cM_last 7 none :: wA) nW yM_last.cls none D clA (tysM ca) A) (N : Nat) (a2 a5 w0 : Int32) (S : xSt) : xJ p l e rm_M_last s m args below meth c D clA (tysM ca) (cellsM ad ca) A false 7 88 [(0, .ref (ad 0)), (2, .int a2), (5, .int a5)] [.int w0] S (f_M_last_88 N a2 a5 w0 S) := by
  unfold f_M_last_88
  refine x_istore (nx := 90) (i := 6) (lv' := [(6, .int w0), (0, .ref (ad 0)), (2, .int a2), (5, .int a5)]) h dM_last_88 (by decide) rfl rfl ?_
  refine x_iload (nx := 92) (i := 6) h dM_last_90 0 rfl rfl ?_
  refine x_if_eq (nx := 95) (tgt := 111) h dM_last_92 (by decide) rfl ?_ ?_
  · exact x_sub [1, 3, 0] rfl (j_M_last_111 h N a5 w0 S)
  · refine x_iload_n (nx := 96) (i := 2) h dM_last_95 rfl 2 rfl rfl ?_
    refine x_iconst (nx := 97) (v := (2 : Int32)) h dM_last_96 (by decide) rfl ?_
    refine x_icmp_eq (nx := 100) (tgt := 111) h dM_last_97 (by decide) rfl ?_ ?_
    · exact x_sub [1, 3, 0] rfl (j_M_last_111 h N a5 w0 S)
    · refine x_aload_n (nx := 101) (i := 0) h dM_last_100 rfl 1 rfl rfl ?_
      refine x_aload_n (nx := 102) (i := 0) h dM_last_101 rfl 1 rfl rfl ?_
      refine x_get (nx := 105) h (gM_0_1 ad ca _) (List.mem_cons_of_mem _ kM_13) dM_last_102 rfl ?_
      refine x_bipush (nx := 107) (v := (21 : Int32)) h dM_last_105 (by decide) rfl ?_
      refine x_iald (nx := 108) h (aM_2 ad ca) dM_last_107 rfl (fun v1 => ?_)
      refine x_cVv (nx := 111) (rest := []) (As := [.int v1]) h (m_M_push N v1 S) (x_wV h goA y_M_push kM_161 ⟨by decide, by decide⟩ rfl rfl) (oM_0 ad ca) rfl rfl (Nat.le_of_ble_eq_true rfl) dM_last_108 rfl (fun v2 S3 => ?_)
      exact x_sub [1, 3, 0] rfl (j_M_last_111 h N a5 w0 S3)
set_option maxHeartbeats 4000000 in
set_option maxRecDepth 100000 in
theorem j_M_last_83 {l : Launch} {D : va_G} {ad : Nat → Nat} {ca : Nat → ClassId} {p : Program} {e : Env} {s : State} {m : MethodId} {args : Array Value} {below : List Frame} {meth : Method} {c : Code} {A : Nat → Prop} (h : xC p s m args meth c cM_last 7 (Cond.code yM_last cM_last 7 none :: wA) nW yM_last.cls none D clA (tysM ca) A) (N : Nat) (a2 a5 : Int32) (S : xSt) : xJ p l e rm_M_last s m args below meth c D clA (tysM ca) (cellsM ad ca) A false 7 83 [(0, .ref (ad 0)), (2, .int a2), (5, .int a5)] [] S (f_M_last_83 N a2 a5 S) := by
  unfold f_M_last_83
  refine x_iconst (nx := 84) (v := (1 : Int32)) h dM_last_83 (by decide) rfl ?_
  refine x_goto (tgt := 88) h dM_last_84 (by decide) ?_
  exact x_sub [0, 1, 2] rfl (j_M_last_88 h N a2 a5 (1 : Int32) S)
set_option maxHeartbeats 4000000 in
set_option maxRecDepth 100000 in
theorem j_M_last_64 {l : Launch} {D : va_G} {ad : Nat → Nat} {ca : Nat → ClassId} {p : Program} {e : Env} {s : State} {m : MethodId} {args : Array Value} {below : List Frame} {meth : Method} {c : Code} {A : Nat → Prop} (h : xC p s m args meth c cM_last 7 (Cond.code yM_last cM_last 7 none :: wA) nW yM_last.cls none D clA (tysM ca) A) (N : Nat) (a1 a2 : Int32) (S : xSt) : xJ p l e rm_M_last s m args below meth c D clA (tysM ca) (cellsM ad ca) A false 7 64 [(0, .ref (ad 0)), (1, .int a1), (2, .int a2)] [] S (f_M_last_64 N a1 a2 S) := by
  unfold f_M_last_64
  refine x_aload_n (nx := 65) (i := 0) h dM_last_64 rfl 0 rfl rfl ?_
  refine x_cVi (nx := 68) (rest := []) (As := []) h (m_M_twoNext N S) (x_wV h goA y_M_twoNext kM_197 ⟨by decide, by decide⟩ rfl rfl) (oM_0 ad ca) rfl rfl (Nat.le_of_ble_eq_true rfl) dM_last_65 rfl (fun v1 S2 => ?_)
  refine x_istore (nx := 70) (i := 5) (lv' := [(5, .int v1), (0, .ref (ad 0)), (1, .int a1), (2, .int a2)]) h dM_last_68 (by decide) rfl rfl ?_
  refine x_iload_n (nx := 71) (i := 2) h dM_last_70 rfl 3 rfl rfl ?_
  refine x_iconst (nx := 72) (v := (5 : Int32)) h dM_last_71 (by decide) rfl ?_
  refine x_icmp_eq (nx := 75) (tgt := 83) h dM_last_72 (by decide) rfl ?_ ?_
  · exact x_sub [1, 3, 0] rfl (j_M_last_83 h N a2 v1 S2)
  · refine x_aload_n (nx := 76) (i := 0) h dM_last_75 rfl 1 rfl rfl ?_
    refine x_iload_n (nx := 77) (i := 1) h dM_last_76 rfl 2 rfl rfl ?_
    refine x_cVi (nx := 80) (rest := []) (As := [.int a1]) h (m_M_cond N a1 S2) (x_wV h goA y_M_cond kM_217 ⟨by decide, by decide⟩ rfl rfl) (oM_0 ad ca) rfl rfl (Nat.le_of_ble_eq_true rfl) dM_last_77 rfl (fun v3 S4 => ?_)
    refine x_if_eq (nx := 83) (tgt := 87) h dM_last_80 (by decide) rfl ?_ ?_
    · refine x_iconst (nx := 88) (v := (0 : Int32)) h dM_last_87 (by decide) rfl ?_
      exact x_sub [1, 3, 0] rfl (j_M_last_88 h N a2 v1 (0 : Int32) S4)
    · exact x_sub [1, 3, 0] rfl (j_M_last_83 h N a2 v1 S4)
set_option maxHeartbeats 4000000 in
set_option maxRecDepth 100000 in
theorem j_M_last_211 {l : Launch} {D : va_G} {ad : Nat → Nat} {ca : Nat → ClassId} {p : Program} {e : Env} {s : State} {m : MethodId} {args : Array Value} {below : List Frame} {meth : Method} {c : Code} {A : Nat → Prop} (h : xC p s m args meth c cM_last 7 (Cond.code yM_last cM_last 7 none :: wA) nW yM_last.cls none D clA (tysM ca) A) (N : Nat) (w1 : Int32) (S : xSt) : xJ p l e rm_M_last s m args below meth c D clA (tysM ca) (cellsM ad ca) A false 7 211 [] [.int w1, .ref (ad 0)] S (f_M_last_211 N w1 S) := by
  unfold f_M_last_211
  refine x_cVv (nx := 214) (rest := []) (As := [.int w1]) h (m_M_push N w1 S) (x_wV h goA y_M_push kM_161 ⟨by decide, by decide⟩ rfl rfl) (oM_0 ad ca) rfl rfl (Nat.le_of_ble_eq_true rfl) dM_last_211 rfl (fun v1 S2 => ?_)
  refine x_goto (tgt := 258) h dM_last_214 (by decide) ?_
  exact x_sub [] rfl (j_M_last_258 h N S2)
set_option maxHeartbeats 4000000 in
set_option maxRecDepth 100000 in
theorem j_M_last_250 {l : Launch} {D : va_G} {ad : Nat → Nat} {ca : Nat → ClassId} {p : Program} {e : Env} {s : State} {m : MethodId} {args : Array Value} {below : List Frame} {meth : Method} {c : Code} {A : Nat → Prop} (h : xC p s m args meth c cM_last 7 (Cond.code yM_last cM_last 7 none :: wA) nW yM_last.cls none D clA (tysM ca) A) (N : Nat) (S : xSt) : xJ p l e rm_M_last s m args below meth c D clA (tysM ca) (cellsM ad ca) A false 7 250 [] [] S (f_M_last_250 N S) := by
  unfold f_M_last_250
  refine x_goto (tgt := 258) h dM_last_250 (by decide) ?_
  exact x_sub [] rfl (j_M_last_258 h N S)
set_option maxHeartbeats 4000000 in
set_option maxRecDepth 100000 in
theorem j_M_last_138 {l : Launch} {D : va_G} {ad : Nat → Nat} {ca : Nat → ClassId} {p : Program} {e : Env} {s : State} {m : MethodId} {args : Array Value} {below : List Frame} {meth : Method} {c : Code} {A : Nat → Prop} (h : xC p s m args meth c cM_last 7 (Cond.code yM_last cM_last 7 none :: wA) nW yM_last.cls none D clA (tysM ca) A) (N : Nat) (a1 a2 a3 a4 : Int32) (S : xSt) : xJ p l e rm_M_last s m args below meth c D clA (tysM ca) (cellsM ad ca) A false 7 138 [(0, .ref (ad 0)), (1, .int a1), (2, .int a2), (3, .int a3), (4, .int a4)] [] S (f_M_last_138 N a1 a2 a3 a4 S) := by
  unfold f_M_last_138
  refine x_iload_n (nx := 139) (i := 2) h dM_last_138 rfl 2 rfl rfl ?_
  refine x_bipush (nx := 141) (v := (6 : Int32)) h dM_last_139 (by decide) rfl ?_
  refine x_icmp_ne (nx := 144) (tgt := 156) h dM_last_141 (by decide) rfl ?_ ?_
  · refine x_iload_n (nx := 157) (i := 2) h dM_last_156 rfl 2 rfl rfl ?_
    refine x_bipush (nx := 159) (v := (7 : Int32)) h dM_last_157 (by decide) rfl ?_
    refine x_icmp_ne (nx := 162) (tgt := 187) h dM_last_159 (by decide) rfl ?_ ?_
    · refine x_iload_n (nx := 188) (i := 2) h dM_last_187 rfl 2 rfl rfl ?_
      refine x_iconst (nx := 189) (v := (5 : Int32)) h dM_last_188 (by decide) rfl ?_
      refine x_icmp_ne (nx := 192) (tgt := 217) h dM_last_189 (by decide) rfl ?_ ?_
      · refine x_iload (nx := 219) (i := 4) h dM_last_217 4 rfl rfl ?_
        refine x_if_ne (nx := 222) (tgt := 253) h dM_last_219 (by decide) rfl ?_ ?_
        · refine x_aload_n (nx := 254) (i := 0) h dM_last_253 rfl 0 rfl rfl ?_
          refine x_iload_n (nx := 255) (i := 3) h dM_last_254 rfl 3 rfl rfl ?_
          refine x_cVv (nx := 258) (rest := []) (As := [.int a3]) h (m_M_odd N a3 S) (x_wV h goA y_M_odd kM_233 ⟨by decide, by decide⟩ rfl rfl) (oM_0 ad ca) rfl rfl (Nat.le_of_ble_eq_true rfl) dM_last_255 rfl (fun v1 S2 => ?_)
          exact x_sub [] rfl (j_M_last_258 h N S2)
        · refine x_aload_n (nx := 223) (i := 0) h dM_last_222 rfl 0 rfl rfl ?_
          refine x_cVi (nx := 226) (rest := []) (As := []) h (m_M_pop N S) (x_wV h goA y_M_pop kM_230 ⟨by decide, by decide⟩ rfl rfl) (oM_0 ad ca) rfl rfl (Nat.le_of_ble_eq_true rfl) dM_last_223 rfl (fun v3 S4 => ?_)
          refine x_istore (nx := 228) (i := 5) (lv' := [(5, .int v3), (0, .ref (ad 0)), (1, .int a1), (2, .int a2), (3, .int a3), (4, .int a4)]) h dM_last_226 (by decide) rfl rfl ?_
          refine x_iload_n (nx := 229) (i := 3) h dM_last_228 rfl 4 rfl rfl ?_
          refine x_iconst (nx := 230) (v := (3 : Int32)) h dM_last_229 (by decide) rfl ?_
          refine x_icmp_ne (nx := 233) (tgt := 243) h dM_last_230 (by decide) rfl ?_ ?_
          · refine x_aload_n (nx := 244) (i := 0) h dM_last_243 rfl 1 rfl rfl ?_
            refine x_iload_n (nx := 245) (i := 3) h dM_last_244 rfl 4 rfl rfl ?_
            refine x_iload (nx := 247) (i := 5) h dM_last_245 0 rfl rfl ?_
            refine x_cVv (nx := 250) (rest := []) (As := [.int a3, .int v3]) h (m_M_setW N a3 v3 S4) (x_wV h goA y_M_setW kM_200 ⟨by decide, by decide⟩ rfl rfl) (oM_0 ad ca) rfl rfl (Nat.le_of_ble_eq_true rfl) dM_last_247 rfl (fun v5 S6 => ?_)
            exact x_sub [] rfl (j_M_last_250 h N S6)
          · refine x_aload_n (nx := 234) (i := 0) h dM_last_233 rfl 1 rfl rfl ?_
            refine x_iconst (nx := 235) (v := (0 : Int32)) h dM_last_234 (by decide) rfl ?_
            refine x_iload (nx := 237) (i := 5) h dM_last_235 0 rfl rfl ?_
            refine x_cVv (nx := 240) (rest := []) (As := [.int (0 : Int32), .int v3]) h (m_M_setPair N (0 : Int32) v3 S4) (x_wV h goA y_M_setPair kM_65 ⟨by decide, by decide⟩ rfl rfl) (oM_0 ad ca) rfl rfl (Nat.le_of_ble_eq_true rfl) dM_last_237 rfl (fun v7 S8 => ?_)
            refine x_goto (tgt := 250) h dM_last_240 (by decide) ?_
            exact x_sub [] rfl (j_M_last_250 h N S8)
      · refine x_aload_n (nx := 193) (i := 0) h dM_last_192 rfl 0 rfl rfl ?_
        refine x_iload_n (nx := 194) (i := 3) h dM_last_193 rfl 3 rfl rfl ?_
        refine x_iconst (nx := 195) (v := (3 : Int32)) h dM_last_194 (by decide) rfl ?_
        refine x_icmp_ne (nx := 198) (tgt := 206) h dM_last_195 (by decide) rfl ?_ ?_
        · refine x_aload_n (nx := 207) (i := 0) h dM_last_206 rfl 0 rfl rfl ?_
          refine x_iload_n (nx := 208) (i := 3) h dM_last_207 rfl 3 rfl rfl ?_
          refine x_cVi (nx := 211) (rest := [.ref (ad 0)]) (As := [.int a3]) h (m_M_w N a3 S) (x_wV h goA y_M_w kM_191 ⟨by decide, by decide⟩ rfl rfl) (oM_0 ad ca) rfl rfl (Nat.le_of_ble_eq_true rfl) dM_last_208 rfl (fun v9 S10 => ?_)
          exact x_sub [] rfl (j_M_last_211 h N v9 S10)
        · refine x_aload_n (nx := 199) (i := 0) h dM_last_198 rfl 0 rfl rfl ?_
          refine x_iconst (nx := 200) (v := (0 : Int32)) h dM_last_199 (by decide) rfl ?_
          refine x_cVi (nx := 203) (rest := [.ref (ad 0)]) (As := [.int (0 : Int32)]) h (m_M_pair N (0 : Int32) S) (x_wV h goA y_M_pair kM_62 ⟨by decide, by decide⟩ rfl rfl) (oM_0 ad ca) rfl rfl (Nat.le_of_ble_eq_true rfl) dM_last_200 rfl (fun v11 S12 => ?_)
          refine x_goto (tgt := 211) h dM_last_203 (by decide) ?_
          exact x_sub [] rfl (j_M_last_211 h N v11 S12)
    · refine x_aload_n (nx := 163) (i := 0) h dM_last_162 rfl 0 rfl rfl ?_
      refine x_aload_n (nx := 164) (i := 0) h dM_last_163 rfl 0 rfl rfl ?_
      refine x_get (nx := 167) h (gM_0_1 ad ca _) (List.mem_cons_of_mem _ kM_13) dM_last_164 rfl ?_
      refine x_bipush (nx := 169) (v := (21 : Int32)) h dM_last_167 (by decide) rfl ?_
      refine x_iald (nx := 170) h (aM_2 ad ca) dM_last_169 rfl (fun v13 => ?_)
      refine x_cVv (nx := 173) (rest := []) (As := [.int v13]) h (m_M_push N v13 S) (x_wV h goA y_M_push kM_161 ⟨by decide, by decide⟩ rfl rfl) (oM_0 ad ca) rfl rfl (Nat.le_of_ble_eq_true rfl) dM_last_170 rfl (fun v14 S15 => ?_)
      refine x_aload_n (nx := 174) (i := 0) h dM_last_173 rfl 0 rfl rfl ?_
      refine x_get (nx := 177) h (gM_0_1 ad ca _) (List.mem_cons_of_mem _ kM_13) dM_last_174 rfl ?_
      refine x_bipush (nx := 179) (v := (21 : Int32)) h dM_last_177 (by decide) rfl ?_
      refine x_bipush (nx := 181) (v := (8 : Int32)) h dM_last_179 (by decide) rfl ?_
      refine x_iload_n (nx := 182) (i := 1) h dM_last_181 rfl 1 rfl rfl ?_
      refine x_imul (nx := 183) h dM_last_182 rfl ?_
      refine x_iast (nx := 184) h (aM_2 ad ca) dM_last_183 rfl (fun S16 => ?_)
      refine x_goto (tgt := 258) h dM_last_184 (by decide) ?_
      exact x_sub [] rfl (j_M_last_258 h N S16)
  · refine x_aload_n (nx := 145) (i := 0) h dM_last_144 rfl 0 rfl rfl ?_
    refine x_iload_n (nx := 146) (i := 1) h dM_last_145 rfl 1 rfl rfl ?_
    refine x_aload_n (nx := 147) (i := 0) h dM_last_146 rfl 0 rfl rfl ?_
    refine x_cVi (nx := 150) (rest := [.int a1, .ref (ad 0)]) (As := []) h (m_M_next N S) (x_wV h goA y_M_next kM_52 ⟨by decide, by decide⟩ rfl rfl) (oM_0 ad ca) rfl rfl (Nat.le_of_ble_eq_true rfl) dM_last_147 rfl (fun v17 S18 => ?_)
    refine x_cVv (nx := 153) (rest := []) (As := [.int a1, .int v17]) h (m_M_work N a1 v17 S18) (x_wV h goA y_M_work kM_179 ⟨by decide, by decide⟩ rfl rfl) (oM_0 ad ca) rfl rfl (Nat.le_of_ble_eq_true rfl) dM_last_150 rfl (fun v19 S20 => ?_)
    refine x_goto (tgt := 258) h dM_last_153 (by decide) ?_
    exact x_sub [] rfl (j_M_last_258 h N S20)
set_option maxHeartbeats 4000000 in
set_option maxRecDepth 100000 in
theorem j_M_last_16 {l : Launch} {D : va_G} {ad : Nat → Nat} {ca : Nat → ClassId} {p : Program} {e : Env} {s : State} {m : MethodId} {args : Array Value} {below : List Frame} {meth : Method} {c : Code} {A : Nat → Prop} (h : xC p s m args meth c cM_last 7 (Cond.code yM_last cM_last 7 none :: wA) nW yM_last.cls none D clA (tysM ca) A) (N : Nat) (a1 a2 a3 w0 : Int32) (S : xSt) : xJ p l e rm_M_last s m args below meth c D clA (tysM ca) (cellsM ad ca) A false 7 16 [(0, .ref (ad 0)), (1, .int a1), (2, .int a2), (3, .int a3)] [.int w0] S (f_M_last_16 N a1 a2 a3 w0 S) := by
  unfold f_M_last_16
  refine x_istore (nx := 18) (i := 4) (lv' := [(4, .int w0), (0, .ref (ad 0)), (1, .int a1), (2, .int a2), (3, .int a3)]) h dM_last_16 (by decide) rfl rfl ?_
  refine x_iload_n (nx := 19) (i := 2) h dM_last_18 rfl 3 rfl rfl ?_
  refine x_if_ne (nx := 22) (tgt := 44) h dM_last_19 (by decide) rfl ?_ ?_
  · refine x_iload_n (nx := 45) (i := 2) h dM_last_44 rfl 3 rfl rfl ?_
    refine x_iconst (nx := 46) (v := (2 : Int32)) h dM_last_45 (by decide) rfl ?_
    refine x_icmp_eq (nx := 49) (tgt := 64) h dM_last_46 (by decide) rfl ?_ ?_
    · exact x_sub [1, 2, 3] rfl (j_M_last_64 h N a1 a2 S)
    · refine x_iload_n (nx := 50) (i := 2) h dM_last_49 rfl 3 rfl rfl ?_
      refine x_iconst (nx := 51) (v := (4 : Int32)) h dM_last_50 (by decide) rfl ?_
      refine x_icmp_eq (nx := 54) (tgt := 64) h dM_last_51 (by decide) rfl ?_ ?_
      · exact x_sub [1, 2, 3] rfl (j_M_last_64 h N a1 a2 S)
      · refine x_iload_n (nx := 55) (i := 2) h dM_last_54 rfl 3 rfl rfl ?_
        refine x_iconst (nx := 56) (v := (5 : Int32)) h dM_last_55 (by decide) rfl ?_
        refine x_icmp_ne (nx := 59) (tgt := 138) h dM_last_56 (by decide) rfl ?_ ?_
        · exact x_sub [1, 2, 3, 4, 0] rfl (j_M_last_138 h N a1 a2 a3 w0 S)
        · refine x_iload (nx := 61) (i := 4) h dM_last_59 0 rfl rfl ?_
          refine x_if_eq (nx := 64) (tgt := 138) h dM_last_61 (by decide) rfl ?_ ?_
          · exact x_sub [1, 2, 3, 4, 0] rfl (j_M_last_138 h N a1 a2 a3 w0 S)
          · exact x_sub [1, 2, 3] rfl (j_M_last_64 h N a1 a2 S)
  · refine x_aload_n (nx := 23) (i := 0) h dM_last_22 rfl 1 rfl rfl ?_
    refine x_iload_n (nx := 24) (i := 1) h dM_last_23 rfl 2 rfl rfl ?_
    refine x_cVi (nx := 27) (rest := []) (As := [.int a1]) h (m_M_cond N a1 S) (x_wV h goA y_M_cond kM_217 ⟨by decide, by decide⟩ rfl rfl) (oM_0 ad ca) rfl rfl (Nat.le_of_ble_eq_true rfl) dM_last_24 rfl (fun v1 S2 => ?_)
    refine x_if_eq (nx := 30) (tgt := 258) h dM_last_27 (by decide) rfl ?_ ?_
    · exact x_sub [] rfl (j_M_last_258 h N S2)
    · refine x_aload_n (nx := 31) (i := 0) h dM_last_30 rfl 1 rfl rfl ?_
      refine x_get (nx := 34) h (gM_0_1 ad ca _) (List.mem_cons_of_mem _ kM_13) dM_last_31 rfl ?_
      refine x_bipush (nx := 36) (v := (21 : Int32)) h dM_last_34 (by decide) rfl ?_
      refine x_aload_n (nx := 37) (i := 0) h dM_last_36 rfl 1 rfl rfl ?_
      refine x_cVi (nx := 40) (rest := [.int (21 : Int32), .ref (ad 2)]) (As := []) h (m_M_pop N S2) (x_wV h goA y_M_pop kM_230 ⟨by decide, by decide⟩ rfl rfl) (oM_0 ad ca) rfl rfl (Nat.le_of_ble_eq_true rfl) dM_last_37 rfl (fun v3 S4 => ?_)
      refine x_iast (nx := 41) h (aM_2 ad ca) dM_last_40 rfl (fun S5 => ?_)
      refine x_goto (tgt := 258) h dM_last_41 (by decide) ?_
      exact x_sub [] rfl (j_M_last_258 h N S5)
set_option maxHeartbeats 4000000 in
set_option maxRecDepth 100000 in
theorem m_M_last {l : Launch} {D : va_G} {ad : Nat → Nat} {ca : Nat → ClassId} (N : Nat) (a1 a2 : Int32) (S : xSt) : xM l D clA (tysM ca) (cellsM ad ca) nW yM_last (Cond.code yM_last cM_last 7 none :: wA) rm_M_last false [.ref (ad 0), .int a1, .int a2] S (f_M_last N a1 a2 S) := by
  refine x_met (cc := cM_last) (maxL := 7) (ret := none) (by decide) rfl [.ref (ad 0), .int a1, .int a2] (lv0 := [(0, .ref (ad 0)), (1, .int a1), (2, .int a2)]) (Nat.le_of_ble_eq_true rfl) rfl ?_
  intro p e s m args below meth c A h
  unfold f_M_last
  refine x_iload_n (nx := 1) (i := 1) h dM_last_0 rfl 1 rfl rfl ?_
  refine x_iconst (nx := 2) (v := (1 : Int32)) h dM_last_1 (by decide) rfl ?_
  refine x_ishr (nx := 3) h dM_last_2 rfl ?_
  refine x_val (fun b1 => ?_)
  refine x_istore_n (nx := 4) (i := 3) (lv' := [(3, .int b1), (0, .ref (ad 0)), (1, .int a1), (2, .int a2)]) h dM_last_3 rfl (by decide) rfl rfl ?_
  refine x_iload_n (nx := 5) (i := 1) h dM_last_4 rfl 2 rfl rfl ?_
  refine x_iconst (nx := 6) (v := (2 : Int32)) h dM_last_5 (by decide) rfl ?_
  refine x_irem (nx := 7) h dM_last_6 (by decide) rfl ?_
  refine x_iconst (nx := 8) (v := (1 : Int32)) h dM_last_7 (by decide) rfl ?_
  refine x_icmp_ne (nx := 11) (tgt := 15) h dM_last_8 (by decide) rfl ?_ ?_
  · refine x_iconst (nx := 16) (v := (0 : Int32)) h dM_last_15 (by decide) rfl ?_
    exact x_sub [1, 2, 3, 0] rfl (j_M_last_16 h N a1 a2 b1 (0 : Int32) S)
  · refine x_iconst (nx := 12) (v := (1 : Int32)) h dM_last_11 (by decide) rfl ?_
    refine x_goto (tgt := 16) h dM_last_12 (by decide) ?_
    exact x_sub [1, 2, 3, 0] rfl (j_M_last_16 h N a1 a2 b1 (1 : Int32) S)
set_option maxHeartbeats 4000000 in
set_option maxRecDepth 100000 in
theorem j_M_perform_134 {l : Launch} {D : va_G} {ad : Nat → Nat} {ca : Nat → ClassId} {p : Program} {e : Env} {s : State} {m : MethodId} {args : Array Value} {below : List Frame} {meth : Method} {c : Code} {A : Nat → Prop} (h : xC p s m args meth c cM_perform 5 (Cond.code yM_perform cM_perform 5 none :: wA) nW yM_perform.cls none D clA (tysM ca) A) (N : Nat) (S : xSt) : xJ p l e rm_M_perform s m args below meth c D clA (tysM ca) (cellsM ad ca) A false 5 134 [] [] S (f_M_perform_134 N S) := by
  unfold f_M_perform_134
  exact x_vret h dM_perform_134
set_option maxHeartbeats 4000000 in
set_option maxRecDepth 100000 in
theorem j_M_perform_69 {l : Launch} {D : va_G} {ad : Nat → Nat} {ca : Nat → ClassId} {p : Program} {e : Env} {s : State} {m : MethodId} {args : Array Value} {below : List Frame} {meth : Method} {c : Code} {A : Nat → Prop} (h : xC p s m args meth c cM_perform 5 (Cond.code yM_perform cM_perform 5 none :: wA) nW yM_perform.cls none D clA (tysM ca) A) (N : Nat) (a3 a4 : Int32) (S : xSt) : xJ p l e rm_M_perform s m args below meth c D clA (tysM ca) (cellsM ad ca) A false 5 69 [(0, .ref (ad 0)), (3, .int a3), (4, .int a4)] [] S (f_M_perform_69 N a3 a4 S) := by
  unfold f_M_perform_69
  refine x_aload_n (nx := 70) (i := 0) h dM_perform_69 rfl 0 rfl rfl ?_
  refine x_iload_n (nx := 71) (i := 3) h dM_perform_70 rfl 1 rfl rfl ?_
  refine x_aload_n (nx := 72) (i := 0) h dM_perform_71 rfl 0 rfl rfl ?_
  refine x_iload (nx := 74) (i := 4) h dM_perform_72 2 rfl rfl ?_
  refine x_cVi (nx := 77) (rest := [.int a3, .ref (ad 0)]) (As := [.int a4]) h (m_M_get N a4 S) (x_wV h goA y_M_get kM_173 ⟨by decide, by decide⟩ rfl rfl) (oM_0 ad ca) rfl rfl (Nat.le_of_ble_eq_true rfl) dM_perform_74 rfl (fun v1 S2 => ?_)
  refine x_cVv (nx := 80) (rest := []) (As := [.int a3, .int v1]) h (m_M_put N a3 v1 S2) (x_wV h goA y_M_put kM_176 ⟨by decide, by decide⟩ rfl rfl) (oM_0 ad ca) rfl rfl (Nat.le_of_ble_eq_true rfl) dM_perform_77 rfl (fun v3 S4 => ?_)
  refine x_goto (tgt := 134) h dM_perform_80 (by decide) ?_
  exact x_sub [] rfl (j_M_perform_134 h N S4)
set_option maxHeartbeats 4000000 in
set_option maxRecDepth 100000 in
theorem j_M_perform_65 {l : Launch} {D : va_G} {ad : Nat → Nat} {ca : Nat → ClassId} {p : Program} {e : Env} {s : State} {m : MethodId} {args : Array Value} {below : List Frame} {meth : Method} {c : Code} {A : Nat → Prop} (h : xC p s m args meth c cM_perform 5 (Cond.code yM_perform cM_perform 5 none :: wA) nW yM_perform.cls none D clA (tysM ca) A) (N : Nat) (a3 a4 : Int32) (S : xSt) : xJ p l e rm_M_perform s m args below meth c D clA (tysM ca) (cellsM ad ca) A false 5 65 [(0, .ref (ad 0)), (3, .int a3), (4, .int a4)] [] S (f_M_perform_65 N a3 a4 S) := by
  unfold f_M_perform_65
  refine x_aload_n (nx := 66) (i := 0) h dM_perform_65 rfl 0 rfl rfl ?_
  refine x_cVv (nx := 69) (rest := []) (As := []) h (m_M_aim N S) (x_wV h goA y_M_aim kM_170 ⟨by decide, by decide⟩ rfl rfl) (oM_0 ad ca) rfl rfl (Nat.le_of_ble_eq_true rfl) dM_perform_66 rfl (fun v1 S2 => ?_)
  exact x_sub [0, 1, 2] rfl (j_M_perform_69 h N a3 a4 S2)
set_option maxHeartbeats 4000000 in
set_option maxRecDepth 100000 in
theorem j_M_perform_99 {l : Launch} {D : va_G} {ad : Nat → Nat} {ca : Nat → ClassId} {p : Program} {e : Env} {s : State} {m : MethodId} {args : Array Value} {below : List Frame} {meth : Method} {c : Code} {A : Nat → Prop} (h : xC p s m args meth c cM_perform 5 (Cond.code yM_perform cM_perform 5 none :: wA) nW yM_perform.cls none D clA (tysM ca) A) (N : Nat) (a3 a4 : Int32) (S : xSt) : xJ p l e rm_M_perform s m args below meth c D clA (tysM ca) (cellsM ad ca) A false 5 99 [(0, .ref (ad 0)), (3, .int a3), (4, .int a4)] [] S (f_M_perform_99 N a3 a4 S) := by
  unfold f_M_perform_99
  refine x_aload_n (nx := 100) (i := 0) h dM_perform_99 rfl 0 rfl rfl ?_
  refine x_iload_n (nx := 101) (i := 3) h dM_perform_100 rfl 1 rfl rfl ?_
  refine x_aload_n (nx := 102) (i := 0) h dM_perform_101 rfl 0 rfl rfl ?_
  refine x_iload (nx := 104) (i := 4) h dM_perform_102 2 rfl rfl ?_
  refine x_cVi (nx := 107) (rest := [.int a3, .ref (ad 0)]) (As := [.int a4]) h (m_M_get N a4 S) (x_wV h goA y_M_get kM_173 ⟨by decide, by decide⟩ rfl rfl) (oM_0 ad ca) rfl rfl (Nat.le_of_ble_eq_true rfl) dM_perform_104 rfl (fun v1 S2 => ?_)
  refine x_cVv (nx := 110) (rest := []) (As := [.int a3, .int v1]) h (m_M_work N a3 v1 S2) (x_wV h goA y_M_work kM_179 ⟨by decide, by decide⟩ rfl rfl) (oM_0 ad ca) rfl rfl (Nat.le_of_ble_eq_true rfl) dM_perform_107 rfl (fun v3 S4 => ?_)
  refine x_goto (tgt := 134) h dM_perform_110 (by decide) ?_
  exact x_sub [] rfl (j_M_perform_134 h N S4)
set_option maxHeartbeats 4000000 in
set_option maxRecDepth 100000 in
theorem m_M_perform {l : Launch} {D : va_G} {ad : Nat → Nat} {ca : Nat → ClassId} (N : Nat) (a1 : Int32) (S : xSt) : xM l D clA (tysM ca) (cellsM ad ca) nW yM_perform (Cond.code yM_perform cM_perform 5 none :: wA) rm_M_perform false [.ref (ad 0), .int a1] S (f_M_perform N a1 S) := by
  refine x_met (cc := cM_perform) (maxL := 5) (ret := none) (by decide) rfl [.ref (ad 0), .int a1] (lv0 := [(0, .ref (ad 0)), (1, .int a1)]) (Nat.le_of_ble_eq_true rfl) rfl ?_
  intro p e s m args below meth c A h
  unfold f_M_perform
  refine x_iload_n (nx := 1) (i := 1) h dM_perform_0 rfl 1 rfl rfl ?_
  refine x_bipush (nx := 3) (v := (6 : Int32)) h dM_perform_1 (by decide) rfl ?_
  refine x_ishr (nx := 4) h dM_perform_3 rfl ?_
  refine x_val (fun b1 => ?_)
  refine x_istore_n (nx := 5) (i := 2) (lv' := [(2, .int b1), (0, .ref (ad 0)), (1, .int a1)]) h dM_perform_4 rfl (by decide) rfl rfl ?_
  refine x_iload_n (nx := 6) (i := 1) h dM_perform_5 rfl 2 rfl rfl ?_
  refine x_iconst (nx := 7) (v := (3 : Int32)) h dM_perform_6 (by decide) rfl ?_
  refine x_ishr (nx := 8) h dM_perform_7 rfl ?_
  refine x_bipush (nx := 10) (v := (7 : Int32)) h dM_perform_8 (by decide) rfl ?_
  refine x_iand (nx := 11) h dM_perform_10 rfl ?_
  refine x_val (fun b2 => ?_)
  refine x_istore_n (nx := 12) (i := 3) (lv' := [(3, .int b2), (2, .int b1), (0, .ref (ad 0)), (1, .int a1)]) h dM_perform_11 rfl (by decide) rfl rfl ?_
  refine x_iload_n (nx := 13) (i := 1) h dM_perform_12 rfl 3 rfl rfl ?_
  refine x_bipush (nx := 15) (v := (7 : Int32)) h dM_perform_13 (by decide) rfl ?_
  refine x_iand (nx := 16) h dM_perform_15 rfl ?_
  refine x_val (fun b3 => ?_)
  refine x_istore (nx := 18) (i := 4) (lv' := [(4, .int b3), (3, .int b2), (2, .int b1), (0, .ref (ad 0)), (1, .int a1)]) h dM_perform_16 (by decide) rfl rfl ?_
  refine x_iload_n (nx := 19) (i := 2) h dM_perform_18 rfl 2 rfl rfl ?_
  refine x_if_ne (nx := 22) (tgt := 32) h dM_perform_19 (by decide) rfl ?_ ?_
  · refine x_iload_n (nx := 33) (i := 2) h dM_perform_32 rfl 2 rfl rfl ?_
    refine x_iconst (nx := 34) (v := (1 : Int32)) h dM_perform_33 (by decide) rfl ?_
    refine x_icmp_ne (nx := 37) (tgt := 83) h dM_perform_34 (by decide) rfl ?_ ?_
    · refine x_iload_n (nx := 84) (i := 2) h dM_perform_83 rfl 2 rfl rfl ?_
      refine x_iconst (nx := 85) (v := (2 : Int32)) h dM_perform_84 (by decide) rfl ?_
      refine x_icmp_ne (nx := 88) (tgt := 113) h dM_perform_85 (by decide) rfl ?_ ?_
      · refine x_iload (nx := 115) (i := 4) h dM_perform_113 0 rfl rfl ?_
        refine x_iconst (nx := 116) (v := (3 : Int32)) h dM_perform_115 (by decide) rfl ?_
        refine x_icmp_ne (nx := 119) (tgt := 127) h dM_perform_116 (by decide) rfl ?_ ?_
        · refine x_aload_n (nx := 128) (i := 0) h dM_perform_127 rfl 3 rfl rfl ?_
          refine x_iload_n (nx := 129) (i := 3) h dM_perform_128 rfl 1 rfl rfl ?_
          refine x_iload (nx := 131) (i := 4) h dM_perform_129 0 rfl rfl ?_
          refine x_cVv (nx := 134) (rest := []) (As := [.int b2, .int b3]) h (m_M_last N b2 b3 S) (x_wV h goA y_M_last kM_185 ⟨by decide, by decide⟩ rfl rfl) (oM_0 ad ca) rfl rfl (Nat.le_of_ble_eq_true rfl) dM_perform_131 rfl (fun v4 S5 => ?_)
          exact x_sub [] rfl (j_M_perform_134 h N S5)
        · refine x_aload_n (nx := 120) (i := 0) h dM_perform_119 rfl 3 rfl rfl ?_
          refine x_iload_n (nx := 121) (i := 3) h dM_perform_120 rfl 1 rfl rfl ?_
          refine x_cVv (nx := 124) (rest := []) (As := [.int b2]) h (m_M_third N b2 S) (x_wV h goA y_M_third kM_182 ⟨by decide, by decide⟩ rfl rfl) (oM_0 ad ca) rfl rfl (Nat.le_of_ble_eq_true rfl) dM_perform_121 rfl (fun v6 S7 => ?_)
          refine x_goto (tgt := 134) h dM_perform_124 (by decide) ?_
          exact x_sub [] rfl (j_M_perform_134 h N S7)
      · refine x_iload (nx := 90) (i := 4) h dM_perform_88 0 rfl rfl ?_
        refine x_bipush (nx := 92) (v := (6 : Int32)) h dM_perform_90 (by decide) rfl ?_
        refine x_icmp_ne (nx := 95) (tgt := 99) h dM_perform_92 (by decide) rfl ?_ ?_
        · exact x_sub [3, 1, 0] rfl (j_M_perform_99 h N b2 b3 S)
        · refine x_aload_n (nx := 96) (i := 0) h dM_perform_95 rfl 3 rfl rfl ?_
          refine x_cVv (nx := 99) (rest := []) (As := []) h (m_M_aim N S) (x_wV h goA y_M_aim kM_170 ⟨by decide, by decide⟩ rfl rfl) (oM_0 ad ca) rfl rfl (Nat.le_of_ble_eq_true rfl) dM_perform_96 rfl (fun v8 S9 => ?_)
          exact x_sub [3, 1, 0] rfl (j_M_perform_99 h N b2 b3 S9)
    · refine x_iload_n (nx := 38) (i := 1) h dM_perform_37 rfl 4 rfl rfl ?_
      refine x_bipush (nx := 40) (v := (118 : Int32)) h dM_perform_38 (by decide) rfl ?_
      refine x_icmp_ne (nx := 43) (tgt := 52) h dM_perform_40 (by decide) rfl ?_ ?_
      · refine x_iload_n (nx := 53) (i := 3) h dM_perform_52 rfl 1 rfl rfl ?_
        refine x_bipush (nx := 55) (v := (6 : Int32)) h dM_perform_53 (by decide) rfl ?_
        refine x_icmp_eq (nx := 58) (tgt := 65) h dM_perform_55 (by decide) rfl ?_ ?_
        · exact x_sub [3, 1, 0] rfl (j_M_perform_65 h N b2 b3 S)
        · refine x_iload (nx := 60) (i := 4) h dM_perform_58 0 rfl rfl ?_
          refine x_bipush (nx := 62) (v := (6 : Int32)) h dM_perform_60 (by decide) rfl ?_
          refine x_icmp_ne (nx := 65) (tgt := 69) h dM_perform_62 (by decide) rfl ?_ ?_
          · exact x_sub [3, 1, 0] rfl (j_M_perform_69 h N b2 b3 S)
          · exact x_sub [3, 1, 0] rfl (j_M_perform_65 h N b2 b3 S)
      · refine x_aload_n (nx := 44) (i := 0) h dM_perform_43 rfl 3 rfl rfl ?_
        refine x_get (nx := 47) h (gM_0_1 ad ca _) (List.mem_cons_of_mem _ kM_13) dM_perform_44 rfl ?_
        refine x_bipush (nx := 49) (v := (25 : Int32)) h dM_perform_47 (by decide) rfl ?_
        refine x_iconst (nx := 50) (v := (1 : Int32)) h dM_perform_49 (by decide) rfl ?_
        refine x_iast (nx := 51) h (aM_2 ad ca) dM_perform_50 rfl (fun S10 => ?_)
        exact x_vret h dM_perform_51
  · refine x_aload_n (nx := 23) (i := 0) h dM_perform_22 rfl 3 rfl rfl ?_
    refine x_iload_n (nx := 24) (i := 3) h dM_perform_23 rfl 1 rfl rfl ?_
    refine x_iload (nx := 26) (i := 4) h dM_perform_24 0 rfl rfl ?_
    refine x_cVv (nx := 29) (rest := []) (As := [.int b2, .int b3]) h (m_M_first N b2 b3 S) (x_wV h goA y_M_first kM_167 ⟨by decide, by decide⟩ rfl rfl) (oM_0 ad ca) rfl rfl (Nat.le_of_ble_eq_true rfl) dM_perform_26 rfl (fun v11 S12 => ?_)
    refine x_goto (tgt := 134) h dM_perform_29 (by decide) ?_
    exact x_sub [] rfl (j_M_perform_134 h N S12)
set_option maxHeartbeats 4000000 in
set_option maxRecDepth 100000 in
theorem j_M_one_124 {l : Launch} {D : va_G} {ad : Nat → Nat} {ca : Nat → ClassId} {p : Program} {e : Env} {s : State} {m : MethodId} {args : Array Value} {below : List Frame} {meth : Method} {c : Code} {A : Nat → Prop} (h : xC p s m args meth c cM_one 3 (Cond.code yM_one cM_one 3 none :: wA) nW yM_one.cls none D clA (tysM ca) A) (N : Nat) (k86 : Int32 → Int32 → xSt → xR) (hk86 : ∀ (a1 a2 : Int32) (S : xSt), xJ p l e rm_M_one s m args below meth c D clA (tysM ca) (cellsM ad ca) A false 3 86 [(0, .ref (ad 0)), (1, .int a1), (2, .int a2)] [] S (k86 a1 a2 S)) (a2 w1 : Int32) (S : xSt) : xJ p l e rm_M_one s m args below meth c D clA (tysM ca) (cellsM ad ca) A false 3 124 [(0, .ref (ad 0)), (2, .int a2)] [.int w1, .ref (ad 0)] S (f_M_one_124 N k86 a2 w1 S) := by
  unfold f_M_one_124
  refine x_put (nx := 127) h (pM_0_4 ad ca _) (List.mem_cons_of_mem _ kM_59) dM_one_124 rfl (fun S1 => ?_)
  refine x_aload_n (nx := 128) (i := 0) h dM_one_127 rfl 0 rfl rfl ?_
  refine x_cVi (nx := 131) (rest := []) (As := []) h (m_M_fetch N S1) (x_wV h goA y_M_fetch kM_149 ⟨by decide, by decide⟩ rfl rfl) (oM_0 ad ca) rfl rfl (Nat.le_of_ble_eq_true rfl) dM_one_128 rfl (fun v2 S3 => ?_)
  refine x_istore_n (nx := 132) (i := 1) (lv' := [(1, .int v2), (0, .ref (ad 0)), (2, .int a2)]) h dM_one_131 rfl (by decide) rfl rfl ?_
  refine x_goto (tgt := 86) h dM_one_132 (by decide) ?_
  exact x_sub [1, 0, 2] rfl (hk86 v2 a2 S3)
set_option maxHeartbeats 4000000 in
set_option maxRecDepth 100000 in
theorem j_M_one_100 {l : Launch} {D : va_G} {ad : Nat → Nat} {ca : Nat → ClassId} {p : Program} {e : Env} {s : State} {m : MethodId} {args : Array Value} {below : List Frame} {meth : Method} {c : Code} {A : Nat → Prop} (h : xC p s m args meth c cM_one 3 (Cond.code yM_one cM_one 3 none :: wA) nW yM_one.cls none D clA (tysM ca) A) (N : Nat) (k86 : Int32 → Int32 → xSt → xR) (hk86 : ∀ (a1 a2 : Int32) (S : xSt), xJ p l e rm_M_one s m args below meth c D clA (tysM ca) (cellsM ad ca) A false 3 86 [(0, .ref (ad 0)), (1, .int a1), (2, .int a2)] [] S (k86 a1 a2 S)) (a1 a2 : Int32) (S : xSt) : xJ p l e rm_M_one s m args below meth c D clA (tysM ca) (cellsM ad ca) A false 3 100 [(0, .ref (ad 0)), (1, .int a1), (2, .int a2)] [] S (f_M_one_100 N k86 a1 a2 S) := by
  unfold f_M_one_100
  refine x_iinc (nx := 103) (i := 2) (v := (a2 + (1 : Int32))) (lv' := [(2, .int (a2 + (1 : Int32))), (0, .ref (ad 0)), (1, .int a1)]) h dM_one_100 2 rfl (by rw [show Int32.ofInt 1 = (1 : Int32) by decide]) (by decide) rfl rfl ?_
  refine x_iload_n (nx := 104) (i := 2) h dM_one_103 rfl 0 rfl rfl ?_
  refine x_iconst (nx := 105) (v := (4 : Int32)) h dM_one_104 (by decide) rfl ?_
  refine x_icmp_ne (nx := 108) (tgt := 109) h dM_one_105 (by decide) rfl ?_ ?_
  · refine x_aload_n (nx := 110) (i := 0) h dM_one_109 rfl 1 rfl rfl ?_
    refine x_iload_n (nx := 111) (i := 1) h dM_one_110 rfl 2 rfl rfl ?_
    refine x_sipush (nx := 114) (v := (221 : Int32)) h dM_one_111 (by decide) rfl ?_
    refine x_icmp_ne (nx := 117) (tgt := 122) h dM_one_114 (by decide) rfl ?_ ?_
    · refine x_bipush (nx := 124) (v := (19 : Int32)) h dM_one_122 (by decide) rfl ?_
      exact x_sub [1, 0] rfl (j_M_one_124 h N k86 hk86 (a2 + (1 : Int32)) (19 : Int32) S)
    · refine x_bipush (nx := 119) (v := (18 : Int32)) h dM_one_117 (by decide) rfl ?_
      refine x_goto (tgt := 124) h dM_one_119 (by decide) ?_
      exact x_sub [1, 0] rfl (j_M_one_124 h N k86 hk86 (a2 + (1 : Int32)) (18 : Int32) S)
  · exact x_vret h dM_one_108
set_option maxHeartbeats 4000000 in
set_option maxRecDepth 100000 in
theorem j_M_one_177 {l : Launch} {D : va_G} {ad : Nat → Nat} {ca : Nat → ClassId} {p : Program} {e : Env} {s : State} {m : MethodId} {args : Array Value} {below : List Frame} {meth : Method} {c : Code} {A : Nat → Prop} (h : xC p s m args meth c cM_one 3 (Cond.code yM_one cM_one 3 none :: wA) nW yM_one.cls none D clA (tysM ca) A) (N : Nat) (S : xSt) : xJ p l e rm_M_one s m args below meth c D clA (tysM ca) (cellsM ad ca) A false 3 177 [] [] S (f_M_one_177 N S) := by
  unfold f_M_one_177
  exact x_vret h dM_one_177
set_option maxHeartbeats 4000000 in
set_option maxRecDepth 100000 in
theorem j_M_one_86 {l : Launch} {D : va_G} {ad : Nat → Nat} {ca : Nat → ClassId} {p : Program} {e : Env} {s : State} {m : MethodId} {args : Array Value} {below : List Frame} {meth : Method} {c : Code} {A : Nat → Prop} (h : xC p s m args meth c cM_one 3 (Cond.code yM_one cM_one 3 none :: wA) nW yM_one.cls none D clA (tysM ca) A) (N : Nat) : ∀ (n : Nat) (a1 a2 : Int32) (S : xSt), xJ p l e rm_M_one s m args below meth c D clA (tysM ca) (cellsM ad ca) A false 3 86 [(0, .ref (ad 0)), (1, .int a1), (2, .int a2)] [] S (f_M_one_86 N n a1 a2 S) := by
  intro n
  induction n with
  | zero =>
    intro a1 a2 S
    rw [f_M_one_86]
    exact x_none
  | succ n ih =>
    intro a1 a2 S
    rw [f_M_one_86]
    refine x_iload_n (nx := 87) (i := 1) h dM_one_86 rfl 1 rfl rfl ?_
    refine x_sipush (nx := 90) (v := (221 : Int32)) h dM_one_87 (by decide) rfl ?_
    refine x_icmp_eq (nx := 93) (tgt := 100) h dM_one_90 (by decide) rfl ?_ ?_
    · exact x_sub [0, 1, 2] rfl (j_M_one_100 h N (f_M_one_86 N n) ih a1 a2 S)
    · refine x_iload_n (nx := 94) (i := 1) h dM_one_93 rfl 1 rfl rfl ?_
      refine x_sipush (nx := 97) (v := (253 : Int32)) h dM_one_94 (by decide) rfl ?_
      refine x_icmp_ne (nx := 100) (tgt := 135) h dM_one_97 (by decide) rfl ?_ ?_
      · refine x_iload_n (nx := 136) (i := 1) h dM_one_135 rfl 1 rfl rfl ?_
        refine x_sipush (nx := 139) (v := (237 : Int32)) h dM_one_136 (by decide) rfl ?_
        refine x_icmp_ne (nx := 142) (tgt := 158) h dM_one_139 (by decide) rfl ?_ ?_
        · refine x_iload_n (nx := 159) (i := 1) h dM_one_158 rfl 1 rfl rfl ?_
          refine x_sipush (nx := 162) (v := (203 : Int32)) h dM_one_159 (by decide) rfl ?_
          refine x_icmp_ne (nx := 165) (tgt := 172) h dM_one_162 (by decide) rfl ?_ ?_
          · refine x_aload_n (nx := 173) (i := 0) h dM_one_172 rfl 0 rfl rfl ?_
            refine x_iload_n (nx := 174) (i := 1) h dM_one_173 rfl 1 rfl rfl ?_
            refine x_cVv (nx := 177) (rest := []) (As := [.int a1]) h (m_M_perform N a1 S) (x_wV h goA y_M_perform kM_158 ⟨by decide, by decide⟩ rfl rfl) (oM_0 ad ca) rfl rfl (Nat.le_of_ble_eq_true rfl) dM_one_174 rfl (fun v1 S2 => ?_)
            exact x_sub [] rfl (j_M_one_177 h N S2)
          · refine x_aload_n (nx := 166) (i := 0) h dM_one_165 rfl 0 rfl rfl ?_
            refine x_cVv (nx := 169) (rest := []) (As := []) h (m_M_rotation N S) (x_wV h goA y_M_rotation kM_155 ⟨by decide, by decide⟩ rfl rfl) (oM_0 ad ca) rfl rfl (Nat.le_of_ble_eq_true rfl) dM_one_166 rfl (fun v3 S4 => ?_)
            refine x_goto (tgt := 177) h dM_one_169 (by decide) ?_
            exact x_sub [] rfl (j_M_one_177 h N S4)
        · refine x_aload_n (nx := 143) (i := 0) h dM_one_142 rfl 0 rfl rfl ?_
          refine x_iconst (nx := 144) (v := (0 : Int32)) h dM_one_143 (by decide) rfl ?_
          refine x_put (nx := 147) h (pM_0_4 ad ca _) (List.mem_cons_of_mem _ kM_59) dM_one_144 rfl (fun S5 => ?_)
          refine x_aload_n (nx := 148) (i := 0) h dM_one_147 rfl 0 rfl rfl ?_
          refine x_aload_n (nx := 149) (i := 0) h dM_one_148 rfl 0 rfl rfl ?_
          refine x_cVi (nx := 152) (rest := [.ref (ad 0)]) (As := []) h (m_M_fetch N S5) (x_wV h goA y_M_fetch kM_149 ⟨by decide, by decide⟩ rfl rfl) (oM_0 ad ca) rfl rfl (Nat.le_of_ble_eq_true rfl) dM_one_149 rfl (fun v6 S7 => ?_)
          refine x_cVv (nx := 155) (rest := []) (As := [.int v6]) h (m_M_more N v6 S7) (x_wV h goA y_M_more kM_152 ⟨by decide, by decide⟩ rfl rfl) (oM_0 ad ca) rfl rfl (Nat.le_of_ble_eq_true rfl) dM_one_152 rfl (fun v8 S9 => ?_)
          refine x_goto (tgt := 177) h dM_one_155 (by decide) ?_
          exact x_sub [] rfl (j_M_one_177 h N S9)
      · exact x_sub [0, 1, 2] rfl (j_M_one_100 h N (f_M_one_86 N n) ih a1 a2 S)
set_option maxHeartbeats 4000000 in
set_option maxRecDepth 100000 in
theorem j_M_one_46 {l : Launch} {D : va_G} {ad : Nat → Nat} {ca : Nat → ClassId} {p : Program} {e : Env} {s : State} {m : MethodId} {args : Array Value} {below : List Frame} {meth : Method} {c : Code} {A : Nat → Prop} (h : xC p s m args meth c cM_one 3 (Cond.code yM_one cM_one 3 none :: wA) nW yM_one.cls none D clA (tysM ca) A) (N : Nat) (S : xSt) : xJ p l e rm_M_one s m args below meth c D clA (tysM ca) (cellsM ad ca) A false 3 46 [(0, .ref (ad 0))] [] S (f_M_one_46 N S) := by
  unfold f_M_one_46
  refine x_aload_n (nx := 47) (i := 0) h dM_one_46 rfl 0 rfl rfl ?_
  refine x_iconst (nx := 48) (v := (0 : Int32)) h dM_one_47 (by decide) rfl ?_
  refine x_putZ (nx := 51) h (pM_0_3 ad ca _) (List.mem_cons_of_mem _ kM_143) dM_one_48 rfl (fun S1 => ?_)
  refine x_aload_n (nx := 52) (i := 0) h dM_one_51 rfl 0 rfl rfl ?_
  refine x_get (nx := 55) h (gM_0_1 ad ca _) (List.mem_cons_of_mem _ kM_13) dM_one_52 rfl ?_
  refine x_bipush (nx := 57) (v := (25 : Int32)) h dM_one_55 (by decide) rfl ?_
  refine x_iald (nx := 58) h (aM_2 ad ca) dM_one_57 rfl (fun v2 => ?_)
  refine x_iconst (nx := 59) (v := (1 : Int32)) h dM_one_58 (by decide) rfl ?_
  refine x_icmp_ne (nx := 62) (tgt := 79) h dM_one_59 (by decide) rfl ?_ ?_
  · refine x_aload_n (nx := 80) (i := 0) h dM_one_79 rfl 0 rfl rfl ?_
    refine x_cVi (nx := 83) (rest := []) (As := []) h (m_M_fetch N S1) (x_wV h goA y_M_fetch kM_149 ⟨by decide, by decide⟩ rfl rfl) (oM_0 ad ca) rfl rfl (Nat.le_of_ble_eq_true rfl) dM_one_80 rfl (fun v3 S4 => ?_)
    refine x_istore_n (nx := 84) (i := 1) (lv' := [(1, .int v3), (0, .ref (ad 0))]) h dM_one_83 rfl (by decide) rfl rfl ?_
    refine x_iconst (nx := 85) (v := (0 : Int32)) h dM_one_84 (by decide) rfl ?_
    refine x_istore_n (nx := 86) (i := 2) (lv' := [(2, .int (0 : Int32)), (1, .int v3), (0, .ref (ad 0))]) h dM_one_85 rfl (by decide) rfl rfl ?_
    exact x_sub [2, 1, 0] rfl (j_M_one_86 h N N v3 (0 : Int32) S4)
  · refine x_aload_n (nx := 63) (i := 0) h dM_one_62 rfl 0 rfl rfl ?_
    refine x_aload_n (nx := 64) (i := 0) h dM_one_63 rfl 0 rfl rfl ?_
    refine x_get (nx := 67) h (gM_0_1 ad ca _) (List.mem_cons_of_mem _ kM_13) dM_one_64 rfl ?_
    refine x_bipush (nx := 69) (v := (21 : Int32)) h dM_one_67 (by decide) rfl ?_
    refine x_iald (nx := 70) h (aM_2 ad ca) dM_one_69 rfl (fun v5 => ?_)
    refine x_iconst (nx := 71) (v := (4 : Int32)) h dM_one_70 (by decide) rfl ?_
    refine x_cVv (nx := 74) (rest := []) (As := [.int v5, .int (4 : Int32)]) h (m_M_reach N v5 (4 : Int32) S1) (x_wV h goA y_M_reach kM_40 ⟨by decide, by decide⟩ rfl rfl) (oM_0 ad ca) rfl rfl (Nat.le_of_ble_eq_true rfl) dM_one_71 rfl (fun v6 S7 => ?_)
    refine x_aload_n (nx := 75) (i := 0) h dM_one_74 rfl 0 rfl rfl ?_
    refine x_cVv (nx := 78) (rest := []) (As := []) h (m_M_refresh N S7) (x_wV h goA y_M_refresh kM_45 ⟨by decide, by decide⟩ rfl rfl) (oM_0 ad ca) rfl rfl (Nat.le_of_ble_eq_true rfl) dM_one_75 rfl (fun v8 S9 => ?_)
    exact x_vret h dM_one_78
set_option maxHeartbeats 4000000 in
set_option maxRecDepth 100000 in
theorem m_M_one {l : Launch} {D : va_G} {ad : Nat → Nat} {ca : Nat → ClassId} (N : Nat) (S : xSt) : xM l D clA (tysM ca) (cellsM ad ca) nW yM_one (Cond.code yM_one cM_one 3 none :: wA) rm_M_one false [.ref (ad 0)] S (f_M_one N S) := by
  refine x_met (cc := cM_one) (maxL := 3) (ret := none) (by decide) rfl [.ref (ad 0)] (lv0 := [(0, .ref (ad 0))]) (Nat.le_of_ble_eq_true rfl) rfl ?_
  intro p e s m args below meth c A h
  unfold f_M_one
  refine x_aload_n (nx := 1) (i := 0) h dM_one_0 rfl 0 rfl rfl ?_
  refine x_iconst (nx := 2) (v := (0 : Int32)) h dM_one_1 (by decide) rfl ?_
  refine x_put (nx := 5) h (pM_0_4 ad ca _) (List.mem_cons_of_mem _ kM_59) dM_one_2 rfl (fun S1 => ?_)
  refine x_aload_n (nx := 6) (i := 0) h dM_one_5 rfl 0 rfl rfl ?_
  refine x_iconst (nx := 7) (v := (0 : Int32)) h dM_one_6 (by decide) rfl ?_
  refine x_putZ (nx := 10) h (pM_0_5 ad ca _) (List.mem_cons_of_mem _ kM_80) dM_one_7 rfl (fun S2 => ?_)
  refine x_aload_n (nx := 11) (i := 0) h dM_one_10 rfl 0 rfl rfl ?_
  refine x_get (nx := 14) h (gM_0_1 ad ca _) (List.mem_cons_of_mem _ kM_13) dM_one_11 rfl ?_
  refine x_bipush (nx := 16) (v := (22 : Int32)) h dM_one_14 (by decide) rfl ?_
  refine x_iald (nx := 17) h (aM_2 ad ca) dM_one_16 rfl (fun v3 => ?_)
  refine x_iconst (nx := 18) (v := (1 : Int32)) h dM_one_17 (by decide) rfl ?_
  refine x_icmp_ne (nx := 21) (tgt := 46) h dM_one_18 (by decide) rfl ?_ ?_
  · exact x_sub [0] rfl (j_M_one_46 h N S2)
  · refine x_aload_n (nx := 22) (i := 0) h dM_one_21 rfl 0 rfl rfl ?_
    refine x_get (nx := 25) h (gM_0_2 ad ca _) (List.mem_cons_of_mem _ kM_26) dM_one_22 rfl ?_
    refine x_sipush (nx := 28) (v := (4096 : Int32)) h dM_one_25 (by decide) rfl ?_
    refine x_irem (nx := 29) h dM_one_28 (by decide) rfl ?_
    refine x_bipush (nx := 31) (v := (32 : Int32)) h dM_one_29 (by decide) rfl ?_
    refine x_icmp_ge (nx := 34) (tgt := 46) h dM_one_31 (by decide) rfl ?_ ?_
    · exact x_sub [0] rfl (j_M_one_46 h N S2)
    · refine x_aload_n (nx := 35) (i := 0) h dM_one_34 rfl 0 rfl rfl ?_
      refine x_get (nx := 38) h (gM_0_3 ad ca _) (List.mem_cons_of_mem _ kM_143) dM_one_35 rfl ?_
      refine x_if_ne (nx := 41) (tgt := 46) h dM_one_38 (by decide) rfl ?_ ?_
      · exact x_sub [0] rfl (j_M_one_46 h N S2)
      · refine x_aload_n (nx := 42) (i := 0) h dM_one_41 rfl 0 rfl rfl ?_
        refine x_cVv (nx := 45) (rest := []) (As := []) h (m_M_interrupt N S2) (x_wV h goA y_M_interrupt kM_146 ⟨by decide, by decide⟩ rfl rfl) (oM_0 ad ca) rfl rfl (Nat.le_of_ble_eq_true rfl) dM_one_42 rfl (fun v4 S5 => ?_)
        exact x_vret h dM_one_45
set_option maxHeartbeats 4000000 in
set_option maxRecDepth 100000 in
theorem m_M_poke {l : Launch} {D : va_G} {ad : Nat → Nat} {ca : Nat → ClassId} (N : Nat) (a1 a2 : Int32) (S : xSt) : xM l D clA (tysM ca) (cellsM ad ca) nW yM_poke (Cond.code yM_poke cM_poke 3 none :: wA) rm_M_poke false [.ref (ad 0), .int a1, .int a2] S (f_M_poke N a1 a2 S) := by
  refine x_met (cc := cM_poke) (maxL := 3) (ret := none) (by decide) rfl [.ref (ad 0), .int a1, .int a2] (lv0 := [(0, .ref (ad 0)), (1, .int a1), (2, .int a2)]) (Nat.le_of_ble_eq_true rfl) rfl ?_
  intro p e s m args below meth c A h
  unfold f_M_poke
  refine x_aload_n (nx := 1) (i := 0) h dM_poke_0 rfl 0 rfl rfl ?_
  refine x_get (nx := 4) h (gM_0_0 ad ca _) (List.mem_cons_of_mem _ kM_7) dM_poke_1 rfl ?_
  refine x_iload_n (nx := 5) (i := 1) h dM_poke_4 rfl 1 rfl rfl ?_
  refine x_sipush (nx := 8) (v := (4095 : Int32)) h dM_poke_5 (by decide) rfl ?_
  refine x_iand (nx := 9) h dM_poke_8 rfl ?_
  refine x_iload_n (nx := 10) (i := 2) h dM_poke_9 rfl 2 rfl rfl ?_
  refine x_sipush (nx := 13) (v := (255 : Int32)) h dM_poke_10 (by decide) rfl ?_
  refine x_iand (nx := 14) h dM_poke_13 rfl ?_
  refine x_iast (nx := 15) h (aM_1 ad ca) dM_poke_14 rfl (fun S1 => ?_)
  exact x_vret h dM_poke_15
set_option maxHeartbeats 4000000 in
set_option maxRecDepth 100000 in
theorem j_M_load_10 {l : Launch} {D : va_G} {ad : Nat → Nat} {ca : Nat → ClassId} {p : Program} {e : Env} {s : State} {m : MethodId} {args : Array Value} {below : List Frame} {meth : Method} {c : Code} {A : Nat → Prop} (h : xC p s m args meth c cM_load 5 (Cond.code yM_load cM_load 5 (some .boolean) :: wA) nW yM_load.cls (some .boolean) D clA (tysM ca) A) (N : Nat) (S : xSt) : xJ p l e rm_M_load s m args below meth c D clA (tysM ca) (cellsM ad ca) A true 5 10 [] [] S (f_M_load_10 N S) := by
  unfold f_M_load_10
  refine x_iconst (nx := 11) (v := (0 : Int32)) h dM_load_10 (by decide) rfl ?_
  exact x_zret h dM_load_11
set_option maxHeartbeats 4000000 in
set_option maxRecDepth 100000 in
theorem j_M_load_15 {l : Launch} {D : va_G} {ad : Nat → Nat} {ca : Nat → ClassId} {p : Program} {e : Env} {s : State} {m : MethodId} {args : Array Value} {below : List Frame} {meth : Method} {c : Code} {A : Nat → Prop} (h : xC p s m args meth c cM_load 5 (Cond.code yM_load cM_load 5 (some .boolean) :: wA) nW yM_load.cls (some .boolean) D clA (tysM ca) A) (N : Nat) : ∀ (n : Nat) (a1 a2 a3 a4 : Int32) (S : xSt), xJ p l e rm_M_load s m args below meth c D clA (tysM ca) (cellsM ad ca) A true 5 15 [(0, .ref (ad 0)), (1, .int a1), (2, .int a2), (3, .int a3), (4, .int a4)] [] S (f_M_load_15 N n a1 a2 a3 a4 S) := by
  intro n
  induction n with
  | zero =>
    intro a1 a2 a3 a4 S
    rw [f_M_load_15]
    exact x_none
  | succ n ih =>
    intro a1 a2 a3 a4 S
    rw [f_M_load_15]
    refine x_iload (nx := 17) (i := 4) h dM_load_15 4 rfl rfl ?_
    refine x_iload_n (nx := 18) (i := 3) h dM_load_17 rfl 3 rfl rfl ?_
    refine x_icmp_ge (nx := 21) (tgt := 54) h dM_load_18 (by decide) rfl ?_ ?_
    · refine x_iconst (nx := 55) (v := (1 : Int32)) h dM_load_54 (by decide) rfl ?_
      exact x_zret h dM_load_55
    · refine x_aload_n (nx := 22) (i := 0) h dM_load_21 rfl 0 rfl rfl ?_
      refine x_get (nx := 25) h (gM_0_0 ad ca _) (List.mem_cons_of_mem _ kM_7) dM_load_22 rfl ?_
      refine x_iload_n (nx := 26) (i := 1) h dM_load_25 rfl 1 rfl rfl ?_
      refine x_iload (nx := 28) (i := 4) h dM_load_26 4 rfl rfl ?_
      refine x_iadd (nx := 29) h dM_load_28 rfl ?_
      refine x_sipush (nx := 32) (v := (4095 : Int32)) h dM_load_29 (by decide) rfl ?_
      refine x_iand (nx := 33) h dM_load_32 rfl ?_
      refine x_iload_n (nx := 34) (i := 2) h dM_load_33 rfl 2 rfl rfl ?_
      refine x_bipush (nx := 36) (v := (24 : Int32)) h dM_load_34 (by decide) rfl ?_
      refine x_bipush (nx := 38) (v := (8 : Int32)) h dM_load_36 (by decide) rfl ?_
      refine x_iload (nx := 40) (i := 4) h dM_load_38 4 rfl rfl ?_
      refine x_imul (nx := 41) h dM_load_40 rfl ?_
      refine x_isub (nx := 42) h dM_load_41 rfl ?_
      refine x_ishr (nx := 43) h dM_load_42 rfl ?_
      refine x_sipush (nx := 46) (v := (255 : Int32)) h dM_load_43 (by decide) rfl ?_
      refine x_iand (nx := 47) h dM_load_46 rfl ?_
      refine x_iast (nx := 48) h (aM_1 ad ca) dM_load_47 rfl (fun S1 => ?_)
      refine x_iinc (nx := 51) (i := 4) (v := (a4 + (1 : Int32))) (lv' := [(4, .int (a4 + (1 : Int32))), (0, .ref (ad 0)), (1, .int a1), (2, .int a2), (3, .int a3)]) h dM_load_48 4 rfl (by rw [show Int32.ofInt 1 = (1 : Int32) by decide]) (by decide) rfl rfl ?_
      refine x_goto (tgt := 15) h dM_load_51 (by decide) ?_
      exact x_sub [1, 2, 3, 4, 0] rfl (ih a1 a2 a3 (a4 + (1 : Int32)) S1)
set_option maxHeartbeats 4000000 in
set_option maxRecDepth 100000 in
theorem m_M_load {l : Launch} {D : va_G} {ad : Nat → Nat} {ca : Nat → ClassId} (N : Nat) (a1 a2 a3 : Int32) (S : xSt) : xM l D clA (tysM ca) (cellsM ad ca) nW yM_load (Cond.code yM_load cM_load 5 (some .boolean) :: wA) rm_M_load true [.ref (ad 0), .int a1, .int a2, .int a3] S (f_M_load N a1 a2 a3 S) := by
  refine x_met (cc := cM_load) (maxL := 5) (ret := (some .boolean)) (by decide) rfl [.ref (ad 0), .int a1, .int a2, .int a3] (lv0 := [(0, .ref (ad 0)), (1, .int a1), (2, .int a2), (3, .int a3)]) (Nat.le_of_ble_eq_true rfl) rfl ?_
  intro p e s m args below meth c A h
  unfold f_M_load
  refine x_iload_n (nx := 1) (i := 3) h dM_load_0 rfl 3 rfl rfl ?_
  refine x_iconst (nx := 2) (v := (1 : Int32)) h dM_load_1 (by decide) rfl ?_
  refine x_icmp_lt (nx := 5) (tgt := 10) h dM_load_2 (by decide) rfl ?_ ?_
  · exact x_sub [] rfl (j_M_load_10 h N S)
  · refine x_iload_n (nx := 6) (i := 3) h dM_load_5 rfl 3 rfl rfl ?_
    refine x_iconst (nx := 7) (v := (4 : Int32)) h dM_load_6 (by decide) rfl ?_
    refine x_icmp_le (nx := 10) (tgt := 12) h dM_load_7 (by decide) rfl ?_ ?_
    · refine x_iconst (nx := 13) (v := (0 : Int32)) h dM_load_12 (by decide) rfl ?_
      refine x_istore (nx := 15) (i := 4) (lv' := [(4, .int (0 : Int32)), (0, .ref (ad 0)), (1, .int a1), (2, .int a2), (3, .int a3)]) h dM_load_13 (by decide) rfl rfl ?_
      exact x_sub [1, 2, 3, 4, 0] rfl (j_M_load_15 h N N a1 a2 a3 (0 : Int32) S)
    · exact x_sub [] rfl (j_M_load_10 h N S)
set_option maxHeartbeats 4000000 in
set_option maxRecDepth 100000 in
theorem m_M_peek {l : Launch} {D : va_G} {ad : Nat → Nat} {ca : Nat → ClassId} (N : Nat) (a1 : Int32) (S : xSt) : xM l D clA (tysM ca) (cellsM ad ca) nW yM_peek (Cond.code yM_peek cM_peek 2 (some .int) :: wA) rm_M_peek true [.ref (ad 0), .int a1] S (f_M_peek N a1 S) := by
  refine x_met (cc := cM_peek) (maxL := 2) (ret := (some .int)) (by decide) rfl [.ref (ad 0), .int a1] (lv0 := [(0, .ref (ad 0)), (1, .int a1)]) (Nat.le_of_ble_eq_true rfl) rfl ?_
  intro p e s m args below meth c A h
  unfold f_M_peek
  refine x_aload_n (nx := 1) (i := 0) h dM_peek_0 rfl 0 rfl rfl ?_
  refine x_get (nx := 4) h (gM_0_0 ad ca _) (List.mem_cons_of_mem _ kM_7) dM_peek_1 rfl ?_
  refine x_iload_n (nx := 5) (i := 1) h dM_peek_4 rfl 1 rfl rfl ?_
  refine x_sipush (nx := 8) (v := (4095 : Int32)) h dM_peek_5 (by decide) rfl ?_
  refine x_iand (nx := 9) h dM_peek_8 rfl ?_
  refine x_iald (nx := 10) h (aM_1 ad ca) dM_peek_9 rfl (fun v1 => ?_)
  exact x_iret h dM_peek_10
set_option maxHeartbeats 4000000 in
set_option maxRecDepth 100000 in
theorem j_M_set_25 {l : Launch} {D : va_G} {ad : Nat → Nat} {ca : Nat → ClassId} {p : Program} {e : Env} {s : State} {m : MethodId} {args : Array Value} {below : List Frame} {meth : Method} {c : Code} {A : Nat → Prop} (h : xC p s m args meth c cM_set 3 (Cond.code yM_set cM_set 3 (some .boolean) :: wA) nW yM_set.cls (some .boolean) D clA (tysM ca) A) (N : Nat) (S : xSt) : xJ p l e rm_M_set s m args below meth c D clA (tysM ca) (cellsM ad ca) A true 3 25 [] [] S (f_M_set_25 N S) := by
  unfold f_M_set_25
  refine x_iconst (nx := 26) (v := (0 : Int32)) h dM_set_25 (by decide) rfl ?_
  exact x_zret h dM_set_26
set_option maxHeartbeats 4000000 in
set_option maxRecDepth 100000 in
theorem j_M_set_72 {l : Launch} {D : va_G} {ad : Nat → Nat} {ca : Nat → ClassId} {p : Program} {e : Env} {s : State} {m : MethodId} {args : Array Value} {below : List Frame} {meth : Method} {c : Code} {A : Nat → Prop} (h : xC p s m args meth c cM_set 3 (Cond.code yM_set cM_set 3 (some .boolean) :: wA) nW yM_set.cls (some .boolean) D clA (tysM ca) A) (N : Nat) (w1 w2 : Int32) (S : xSt) : xJ p l e rm_M_set s m args below meth c D clA (tysM ca) (cellsM ad ca) A true 3 72 [] [.int w2, .int w1, .ref (ad 2)] S (f_M_set_72 N w1 w2 S) := by
  unfold f_M_set_72
  refine x_iast (nx := 73) h (aM_2 ad ca) dM_set_72 rfl (fun S1 => ?_)
  refine x_iconst (nx := 74) (v := (1 : Int32)) h dM_set_73 (by decide) rfl ?_
  exact x_zret h dM_set_74
set_option maxHeartbeats 4000000 in
set_option maxRecDepth 100000 in
theorem j_M_set_27 {l : Launch} {D : va_G} {ad : Nat → Nat} {ca : Nat → ClassId} {p : Program} {e : Env} {s : State} {m : MethodId} {args : Array Value} {below : List Frame} {meth : Method} {c : Code} {A : Nat → Prop} (h : xC p s m args meth c cM_set 3 (Cond.code yM_set cM_set 3 (some .boolean) :: wA) nW yM_set.cls (some .boolean) D clA (tysM ca) A) (N : Nat) (a1 a2 : Int32) (S : xSt) : xJ p l e rm_M_set s m args below meth c D clA (tysM ca) (cellsM ad ca) A true 3 27 [(0, .ref (ad 0)), (1, .int a1), (2, .int a2)] [] S (f_M_set_27 N a1 a2 S) := by
  unfold f_M_set_27
  refine x_aload_n (nx := 28) (i := 0) h dM_set_27 rfl 0 rfl rfl ?_
  refine x_get (nx := 31) h (gM_0_1 ad ca _) (List.mem_cons_of_mem _ kM_13) dM_set_28 rfl ?_
  refine x_iload_n (nx := 32) (i := 1) h dM_set_31 rfl 1 rfl rfl ?_
  refine x_iload_n (nx := 33) (i := 1) h dM_set_32 rfl 1 rfl rfl ?_
  refine x_bipush (nx := 35) (v := (18 : Int32)) h dM_set_33 (by decide) rfl ?_
  refine x_icmp_ge (nx := 38) (tgt := 46) h dM_set_35 (by decide) rfl ?_ ?_
  · refine x_iload_n (nx := 47) (i := 1) h dM_set_46 rfl 1 rfl rfl ?_
    refine x_bipush (nx := 49) (v := (22 : Int32)) h dM_set_47 (by decide) rfl ?_
    refine x_icmp_ge (nx := 52) (tgt := 59) h dM_set_49 (by decide) rfl ?_ ?_
    · refine x_iload_n (nx := 60) (i := 1) h dM_set_59 rfl 1 rfl rfl ?_
      refine x_bipush (nx := 62) (v := (24 : Int32)) h dM_set_60 (by decide) rfl ?_
      refine x_icmp_ge (nx := 65) (tgt := 71) h dM_set_62 (by decide) rfl ?_ ?_
      · refine x_iload_n (nx := 72) (i := 2) h dM_set_71 rfl 2 rfl rfl ?_
        exact x_sub [] rfl (j_M_set_72 h N a1 a2 S)
      · refine x_iload_n (nx := 66) (i := 2) h dM_set_65 rfl 2 rfl rfl ?_
        refine x_iconst (nx := 67) (v := (1 : Int32)) h dM_set_66 (by decide) rfl ?_
        refine x_iand (nx := 68) h dM_set_67 rfl ?_
        refine x_goto (tgt := 72) h dM_set_68 (by decide) ?_
        exact x_sub [] rfl (j_M_set_72 h N a1 (a2 &&& (1 : Int32)) S)
    · refine x_iload_n (nx := 53) (i := 2) h dM_set_52 rfl 2 rfl rfl ?_
      refine x_ldc (nx := 55) (v := (65535 : Int32)) h (List.mem_cons_of_mem _ kM_44) dM_set_53 rfl ?_
      refine x_iand (nx := 56) h dM_set_55 rfl ?_
      refine x_goto (tgt := 72) h dM_set_56 (by decide) ?_
      exact x_sub [] rfl (j_M_set_72 h N a1 (a2 &&& (65535 : Int32)) S)
  · refine x_iload_n (nx := 39) (i := 2) h dM_set_38 rfl 2 rfl rfl ?_
    refine x_sipush (nx := 42) (v := (255 : Int32)) h dM_set_39 (by decide) rfl ?_
    refine x_iand (nx := 43) h dM_set_42 rfl ?_
    refine x_goto (tgt := 72) h dM_set_43 (by decide) ?_
    exact x_sub [] rfl (j_M_set_72 h N a1 (a2 &&& (255 : Int32)) S)
set_option maxHeartbeats 4000000 in
set_option maxRecDepth 100000 in
theorem m_M_set {l : Launch} {D : va_G} {ad : Nat → Nat} {ca : Nat → ClassId} (N : Nat) (a1 a2 : Int32) (S : xSt) : xM l D clA (tysM ca) (cellsM ad ca) nW yM_set (Cond.code yM_set cM_set 3 (some .boolean) :: wA) rm_M_set true [.ref (ad 0), .int a1, .int a2] S (f_M_set N a1 a2 S) := by
  refine x_met (cc := cM_set) (maxL := 3) (ret := (some .boolean)) (by decide) rfl [.ref (ad 0), .int a1, .int a2] (lv0 := [(0, .ref (ad 0)), (1, .int a1), (2, .int a2)]) (Nat.le_of_ble_eq_true rfl) rfl ?_
  intro p e s m args below meth c A h
  unfold f_M_set
  refine x_iload_n (nx := 1) (i := 1) h dM_set_0 rfl 1 rfl rfl ?_
  refine x_if_lt (nx := 4) (tgt := 25) h dM_set_1 (by decide) rfl ?_ ?_
  · exact x_sub [] rfl (j_M_set_25 h N S)
  · refine x_iload_n (nx := 5) (i := 1) h dM_set_4 rfl 1 rfl rfl ?_
    refine x_bipush (nx := 7) (v := (24 : Int32)) h dM_set_5 (by decide) rfl ?_
    refine x_icmp_gt (nx := 10) (tgt := 25) h dM_set_7 (by decide) rfl ?_ ?_
    · exact x_sub [] rfl (j_M_set_25 h N S)
    · refine x_iload_n (nx := 11) (i := 1) h dM_set_10 rfl 1 rfl rfl ?_
      refine x_bipush (nx := 13) (v := (24 : Int32)) h dM_set_11 (by decide) rfl ?_
      refine x_icmp_ne (nx := 16) (tgt := 27) h dM_set_13 (by decide) rfl ?_ ?_
      · exact x_sub [0, 1, 2] rfl (j_M_set_27 h N a1 a2 S)
      · refine x_iload_n (nx := 17) (i := 2) h dM_set_16 rfl 2 rfl rfl ?_
        refine x_if_lt (nx := 20) (tgt := 25) h dM_set_17 (by decide) rfl ?_ ?_
        · exact x_sub [] rfl (j_M_set_25 h N S)
        · refine x_iload_n (nx := 21) (i := 2) h dM_set_20 rfl 2 rfl rfl ?_
          refine x_iconst (nx := 22) (v := (2 : Int32)) h dM_set_21 (by decide) rfl ?_
          refine x_icmp_le (nx := 25) (tgt := 27) h dM_set_22 (by decide) rfl ?_ ?_
          · exact x_sub [0, 1, 2] rfl (j_M_set_27 h N a1 a2 S)
          · exact x_sub [] rfl (j_M_set_25 h N S)
set_option maxHeartbeats 4000000 in
set_option maxRecDepth 100000 in
theorem j_M_register_20 {l : Launch} {D : va_G} {ad : Nat → Nat} {ca : Nat → ClassId} {p : Program} {e : Env} {s : State} {m : MethodId} {args : Array Value} {below : List Frame} {meth : Method} {c : Code} {A : Nat → Prop} (h : xC p s m args meth c cM_register 2 (Cond.code yM_register cM_register 2 (some .int) :: wA) nW yM_register.cls (some .int) D clA (tysM ca) A) (N : Nat) (w0 : Int32) (S : xSt) : xJ p l e rm_M_register s m args below meth c D clA (tysM ca) (cellsM ad ca) A true 2 20 [] [.int w0] S (f_M_register_20 N w0 S) := by
  unfold f_M_register_20
  exact x_iret h dM_register_20
set_option maxHeartbeats 4000000 in
set_option maxRecDepth 100000 in
theorem j_M_register_10 {l : Launch} {D : va_G} {ad : Nat → Nat} {ca : Nat → ClassId} {p : Program} {e : Env} {s : State} {m : MethodId} {args : Array Value} {below : List Frame} {meth : Method} {c : Code} {A : Nat → Prop} (h : xC p s m args meth c cM_register 2 (Cond.code yM_register cM_register 2 (some .int) :: wA) nW yM_register.cls (some .int) D clA (tysM ca) A) (N : Nat) (S : xSt) : xJ p l e rm_M_register s m args below meth c D clA (tysM ca) (cellsM ad ca) A true 2 10 [] [] S (f_M_register_10 N S) := by
  unfold f_M_register_10
  refine x_iconst (nx := 11) (v := (-1 : Int32)) h dM_register_10 (by decide) rfl ?_
  refine x_goto (tgt := 20) h dM_register_11 (by decide) ?_
  exact x_sub [] rfl (j_M_register_20 h N (-1 : Int32) S)
set_option maxHeartbeats 4000000 in
set_option maxRecDepth 100000 in
theorem m_M_register {l : Launch} {D : va_G} {ad : Nat → Nat} {ca : Nat → ClassId} (N : Nat) (a1 : Int32) (S : xSt) : xM l D clA (tysM ca) (cellsM ad ca) nW yM_register (Cond.code yM_register cM_register 2 (some .int) :: wA) rm_M_register true [.ref (ad 0), .int a1] S (f_M_register N a1 S) := by
  refine x_met (cc := cM_register) (maxL := 2) (ret := (some .int)) (by decide) rfl [.ref (ad 0), .int a1] (lv0 := [(0, .ref (ad 0)), (1, .int a1)]) (Nat.le_of_ble_eq_true rfl) rfl ?_
  intro p e s m args below meth c A h
  unfold f_M_register
  refine x_iload_n (nx := 1) (i := 1) h dM_register_0 rfl 1 rfl rfl ?_
  refine x_if_lt (nx := 4) (tgt := 10) h dM_register_1 (by decide) rfl ?_ ?_
  · exact x_sub [] rfl (j_M_register_10 h N S)
  · refine x_iload_n (nx := 5) (i := 1) h dM_register_4 rfl 1 rfl rfl ?_
    refine x_bipush (nx := 7) (v := (25 : Int32)) h dM_register_5 (by decide) rfl ?_
    refine x_icmp_le (nx := 10) (tgt := 14) h dM_register_7 (by decide) rfl ?_ ?_
    · refine x_aload_n (nx := 15) (i := 0) h dM_register_14 rfl 0 rfl rfl ?_
      refine x_get (nx := 18) h (gM_0_1 ad ca _) (List.mem_cons_of_mem _ kM_13) dM_register_15 rfl ?_
      refine x_iload_n (nx := 19) (i := 1) h dM_register_18 rfl 1 rfl rfl ?_
      refine x_iald (nx := 20) h (aM_2 ad ca) dM_register_19 rfl (fun v1 => ?_)
      exact x_sub [] rfl (j_M_register_20 h N v1 S)
    · exact x_sub [] rfl (j_M_register_10 h N S)
set_option maxHeartbeats 4000000 in
set_option maxRecDepth 100000 in
theorem j_M_key_19 {l : Launch} {D : va_G} {ad : Nat → Nat} {ca : Nat → ClassId} {p : Program} {e : Env} {s : State} {m : MethodId} {args : Array Value} {below : List Frame} {meth : Method} {c : Code} {A : Nat → Prop} (h : xC p s m args meth c cM_key 4 (Cond.code yM_key cM_key 4 (some .boolean) :: wA) nW yM_key.cls (some .boolean) D clA (tysM ca) A) (N : Nat) (S : xSt) : xJ p l e rm_M_key s m args below meth c D clA (tysM ca) (cellsM ad ca) A true 4 19 [] [] S (f_M_key_19 N S) := by
  unfold f_M_key_19
  refine x_iconst (nx := 20) (v := (0 : Int32)) h dM_key_19 (by decide) rfl ?_
  exact x_zret h dM_key_20
set_option maxHeartbeats 4000000 in
set_option maxRecDepth 100000 in
theorem m_M_key {l : Launch} {D : va_G} {ad : Nat → Nat} {ca : Nat → ClassId} (N : Nat) (a1 a2 a3 : Int32) (S : xSt) : xM l D clA (tysM ca) (cellsM ad ca) nW yM_key (Cond.code yM_key cM_key 4 (some .boolean) :: wA) rm_M_key true [.ref (ad 0), .int a1, .int a2, .int a3] S (f_M_key N a1 a2 a3 S) := by
  refine x_met (cc := cM_key) (maxL := 4) (ret := (some .boolean)) (by decide) rfl [.ref (ad 0), .int a1, .int a2, .int a3] (lv0 := [(0, .ref (ad 0)), (1, .int a1), (2, .int a2), (3, .int a3)]) (Nat.le_of_ble_eq_true rfl) rfl ?_
  intro p e s m args below meth c A h
  unfold f_M_key
  refine x_iload_n (nx := 1) (i := 1) h dM_key_0 rfl 1 rfl rfl ?_
  refine x_if_lt (nx := 4) (tgt := 19) h dM_key_1 (by decide) rfl ?_ ?_
  · exact x_sub [] rfl (j_M_key_19 h N S)
  · refine x_iload_n (nx := 5) (i := 1) h dM_key_4 rfl 1 rfl rfl ?_
    refine x_bipush (nx := 7) (v := (7 : Int32)) h dM_key_5 (by decide) rfl ?_
    refine x_icmp_gt (nx := 10) (tgt := 19) h dM_key_7 (by decide) rfl ?_ ?_
    · exact x_sub [] rfl (j_M_key_19 h N S)
    · refine x_iload_n (nx := 11) (i := 2) h dM_key_10 rfl 2 rfl rfl ?_
      refine x_if_lt (nx := 14) (tgt := 19) h dM_key_11 (by decide) rfl ?_ ?_
      · exact x_sub [] rfl (j_M_key_19 h N S)
      · refine x_iload_n (nx := 15) (i := 2) h dM_key_14 rfl 2 rfl rfl ?_
        refine x_iconst (nx := 16) (v := (4 : Int32)) h dM_key_15 (by decide) rfl ?_
        refine x_icmp_le (nx := 19) (tgt := 21) h dM_key_16 (by decide) rfl ?_ ?_
        · refine x_aload_n (nx := 22) (i := 0) h dM_key_21 rfl 0 rfl rfl ?_
          refine x_get (nx := 25) h (gM_0_11 ad ca _) (List.mem_cons_of_mem _ kM_16) dM_key_22 rfl ?_
          refine x_iconst (nx := 26) (v := (5 : Int32)) h dM_key_25 (by decide) rfl ?_
          refine x_iload_n (nx := 27) (i := 1) h dM_key_26 rfl 1 rfl rfl ?_
          refine x_imul (nx := 28) h dM_key_27 rfl ?_
          refine x_iload_n (nx := 29) (i := 2) h dM_key_28 rfl 2 rfl rfl ?_
          refine x_iadd (nx := 30) h dM_key_29 rfl ?_
          refine x_iload_n (nx := 31) (i := 3) h dM_key_30 rfl 3 rfl rfl ?_
          refine x_zast (nx := 32) h (aM_3 ad ca) dM_key_31 rfl (fun S1 => ?_)
          refine x_iconst (nx := 33) (v := (1 : Int32)) h dM_key_32 (by decide) rfl ?_
          exact x_zret h dM_key_33
        · exact x_sub [] rfl (j_M_key_19 h N S)
