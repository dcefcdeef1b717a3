set_option maxHeartbeats 4000000 in
set_option maxRecDepth 100000 in
theorem j_M_move_293 {l : Launch} {D : va_G} {ad : Nat → Nat} {ca : Nat → ClassId} {p : Program} {e : Env} {s : State} {m : MethodId} {args : Array Value} {below : List Frame} {meth : Method} {c : Code} {A : Nat → Prop} (h : xC p s m args meth c cM_move 9 (Cond.code yM_move cM_move 9 none :: wA) nW yM_move.cls none D clA (tysM ca) A) (N : Nat) (S : xSt) : xJ p l e rm_M_move s m args below meth c D clA (tysM ca) (cellsM ad ca) A false 9 293 [] [] S (f_M_move_293 N S) := by
  unfold f_M_move_293
  exact x_vret h dM_move_293
set_option maxHeartbeats 4000000 in
set_option maxRecDepth 100000 in
theorem j_M_move_251 {l : Launch} {D : va_G} {ad : Nat → Nat} {ca : Nat → ClassId} {p : Program} {e : Env} {s : State} {m : MethodId} {args : Array Value} {below : List Frame} {meth : Method} {c : Code} {A : Nat → Prop} (h : xC p s m args meth c cM_move 9 (Cond.code yM_move cM_move 9 none :: wA) nW yM_move.cls none D clA (tysM ca) A) (N : Nat) (a1 a6 a7 a8 w1 w2 w3 : Int32) (S : xSt) : xJ p l e rm_M_move s m args below meth c D clA (tysM ca) (cellsM ad ca) A false 9 251 [(0, .ref (ad 0)), (1, .int a1), (6, .int a6), (7, .int a7), (8, .int a8)] [.int w3, .int w2, .int w1, .ref (ad 2)] S (f_M_move_251 N a1 a6 a7 a8 w1 w2 w3 S) := by
  unfold f_M_move_251
  refine x_ior (nx := 252) h dM_move_251 rfl ?_
  refine x_iload (nx := 254) (i := 6) h dM_move_252 2 rfl rfl ?_
  refine x_bipush (nx := 256) (v := (8 : Int32)) h dM_move_254 (by decide) rfl ?_
  refine x_iand (nx := 257) h dM_move_256 rfl ?_
  refine x_ior (nx := 258) h dM_move_257 rfl ?_
  refine x_iast (nx := 259) h (aM_2 ad ca) dM_move_258 rfl (fun S1 => ?_)
  refine x_iload_n (nx := 260) (i := 1) h dM_move_259 rfl 1 rfl rfl ?_
  refine x_iconst (nx := 261) (v := (5 : Int32)) h dM_move_260 (by decide) rfl ?_
  refine x_icmp_le (nx := 264) (tgt := 293) h dM_move_261 (by decide) rfl ?_ ?_
  · exact x_sub [] rfl (j_M_move_293 h N S1)
  · refine x_iload (nx := 266) (i := 8) h dM_move_264 4 rfl rfl ?_
    refine x_if_eq (nx := 269) (tgt := 293) h dM_move_266 (by decide) rfl ?_ ?_
    · exact x_sub [] rfl (j_M_move_293 h N S1)
    · refine x_iload (nx := 271) (i := 7) h dM_move_269 3 rfl rfl ?_
      refine x_if_ne (nx := 274) (tgt := 293) h dM_move_271 (by decide) rfl ?_ ?_
      · exact x_sub [] rfl (j_M_move_293 h N S1)
      · refine x_aload_n (nx := 275) (i := 0) h dM_move_274 rfl 0 rfl rfl ?_
        refine x_get (nx := 278) h (gM_0_1 ad ca _) (List.mem_cons_of_mem _ kM_13) dM_move_275 rfl ?_
        refine x_bipush (nx := 280) (v := (21 : Int32)) h dM_move_278 (by decide) rfl ?_
        refine x_aload_n (nx := 281) (i := 0) h dM_move_280 rfl 0 rfl rfl ?_
        refine x_get (nx := 284) h (gM_0_1 ad ca _) (List.mem_cons_of_mem _ kM_13) dM_move_281 rfl ?_
        refine x_bipush (nx := 286) (v := (21 : Int32)) h dM_move_284 (by decide) rfl ?_
        refine x_iald (nx := 287) h (aM_2 ad ca) dM_move_286 rfl (fun v2 => ?_)
        refine x_iconst (nx := 288) (v := (2 : Int32)) h dM_move_287 (by decide) rfl ?_
        refine x_isub (nx := 289) h dM_move_288 rfl ?_
        refine x_ldc (nx := 291) (v := (65535 : Int32)) h (List.mem_cons_of_mem _ kM_44) dM_move_289 rfl ?_
        refine x_iand (nx := 292) h dM_move_291 rfl ?_
        refine x_iast (nx := 293) h (aM_2 ad ca) dM_move_292 rfl (fun S3 => ?_)
        exact x_sub [] rfl (j_M_move_293 h N S3)
set_option maxHeartbeats 4000000 in
set_option maxRecDepth 100000 in
theorem j_M_move_237 {l : Launch} {D : va_G} {ad : Nat → Nat} {ca : Nat → ClassId} {p : Program} {e : Env} {s : State} {m : MethodId} {args : Array Value} {below : List Frame} {meth : Method} {c : Code} {A : Nat → Prop} (h : xC p s m args meth c cM_move 9 (Cond.code yM_move cM_move 9 none :: wA) nW yM_move.cls none D clA (tysM ca) A) (N : Nat) (a1 a6 a7 a8 w1 w2 w3 : Int32) (S : xSt) : xJ p l e rm_M_move s m args below meth c D clA (tysM ca) (cellsM ad ca) A false 9 237 [(0, .ref (ad 0)), (1, .int a1), (6, .int a6), (7, .int a7), (8, .int a8)] [.int w3, .int w2, .int w1, .ref (ad 2)] S (f_M_move_237 N a1 a6 a7 a8 w1 w2 w3 S) := by
  unfold f_M_move_237
  refine x_ior (nx := 238) h dM_move_237 rfl ?_
  refine x_iload (nx := 240) (i := 6) h dM_move_238 2 rfl rfl ?_
  refine x_iconst (nx := 241) (v := (2 : Int32)) h dM_move_240 (by decide) rfl ?_
  refine x_iand (nx := 242) h dM_move_241 rfl ?_
  refine x_if_eq (nx := 245) (tgt := 250) h dM_move_242 (by decide) rfl ?_ ?_
  · refine x_iconst (nx := 251) (v := (0 : Int32)) h dM_move_250 (by decide) rfl ?_
    exact x_sub [0, 1, 2, 3, 4] rfl (j_M_move_251 h N a1 a6 a7 a8 w1 (w2 ||| w3) (0 : Int32) S)
  · refine x_bipush (nx := 247) (v := (32 : Int32)) h dM_move_245 (by decide) rfl ?_
    refine x_goto (tgt := 251) h dM_move_247 (by decide) ?_
    exact x_sub [0, 1, 2, 3, 4] rfl (j_M_move_251 h N a1 a6 a7 a8 w1 (w2 ||| w3) (32 : Int32) S)
set_option maxHeartbeats 4000000 in
set_option maxRecDepth 100000 in
theorem j_M_move_218 {l : Launch} {D : va_G} {ad : Nat → Nat} {ca : Nat → ClassId} {p : Program} {e : Env} {s : State} {m : MethodId} {args : Array Value} {below : List Frame} {meth : Method} {c : Code} {A : Nat → Prop} (h : xC p s m args meth c cM_move 9 (Cond.code yM_move cM_move 9 none :: wA) nW yM_move.cls none D clA (tysM ca) A) (N : Nat) (a1 a5 a6 a7 w0 : Int32) (S : xSt) : xJ p l e rm_M_move s m args below meth c D clA (tysM ca) (cellsM ad ca) A false 9 218 [(0, .ref (ad 0)), (1, .int a1), (5, .int a5), (6, .int a6), (7, .int a7)] [.int w0] S (f_M_move_218 N a1 a5 a6 a7 w0 S) := by
  unfold f_M_move_218
  refine x_istore (nx := 220) (i := 8) (lv' := [(8, .int w0), (0, .ref (ad 0)), (1, .int a1), (5, .int a5), (6, .int a6), (7, .int a7)]) h dM_move_218 (by decide) rfl rfl ?_
  refine x_aload_n (nx := 221) (i := 0) h dM_move_220 rfl 1 rfl rfl ?_
  refine x_get (nx := 224) h (gM_0_1 ad ca _) (List.mem_cons_of_mem _ kM_13) dM_move_221 rfl ?_
  refine x_iconst (nx := 225) (v := (1 : Int32)) h dM_move_224 (by decide) rfl ?_
  refine x_iload (nx := 227) (i := 5) h dM_move_225 3 rfl rfl ?_
  refine x_iload (nx := 229) (i := 8) h dM_move_227 0 rfl rfl ?_
  refine x_if_eq (nx := 232) (tgt := 236) h dM_move_229 (by decide) rfl ?_ ?_
  · refine x_iconst (nx := 237) (v := (0 : Int32)) h dM_move_236 (by decide) rfl ?_
    exact x_sub [1, 2, 4, 5, 0] rfl (j_M_move_237 h N a1 a6 a7 w0 (1 : Int32) a5 (0 : Int32) S)
  · refine x_iconst (nx := 233) (v := (4 : Int32)) h dM_move_232 (by decide) rfl ?_
    refine x_goto (tgt := 237) h dM_move_233 (by decide) ?_
    exact x_sub [1, 2, 4, 5, 0] rfl (j_M_move_237 h N a1 a6 a7 w0 (1 : Int32) a5 (4 : Int32) S)
set_option maxHeartbeats 4000000 in
set_option maxRecDepth 100000 in
theorem j_M_move_179 {l : Launch} {D : va_G} {ad : Nat → Nat} {ca : Nat → ClassId} {p : Program} {e : Env} {s : State} {m : MethodId} {args : Array Value} {below : List Frame} {meth : Method} {c : Code} {A : Nat → Prop} (h : xC p s m args meth c cM_move 9 (Cond.code yM_move cM_move 9 none :: wA) nW yM_move.cls none D clA (tysM ca) A) (N : Nat) (a1 a3 a5 a6 a7 : Int32) (S : xSt) : xJ p l e rm_M_move s m args below meth c D clA (tysM ca) (cellsM ad ca) A false 9 179 [(0, .ref (ad 0)), (1, .int a1), (3, .int a3), (5, .int a5), (6, .int a6), (7, .int a7)] [] S (f_M_move_179 N a1 a3 a5 a6 a7 S) := by
  unfold f_M_move_179
  refine x_aload_n (nx := 180) (i := 0) h dM_move_179 rfl 0 rfl rfl ?_
  refine x_bipush (nx := 182) (v := (6 : Int32)) h dM_move_180 (by decide) rfl ?_
  refine x_aload_n (nx := 183) (i := 0) h dM_move_182 rfl 0 rfl rfl ?_
  refine x_bipush (nx := 185) (v := (6 : Int32)) h dM_move_183 (by decide) rfl ?_
  refine x_cVi (nx := 188) (rest := [.int (6 : Int32), .ref (ad 0)]) (As := [.int (6 : Int32)]) h (m_M_pair N (6 : Int32) S) (x_wV h goA y_M_pair kM_62 ⟨by decide, by decide⟩ rfl rfl) (oM_0 ad ca) rfl rfl (Nat.le_of_ble_eq_true rfl) dM_move_185 rfl (fun v1 S2 => ?_)
  refine x_iload_n (nx := 189) (i := 3) h dM_move_188 rfl 2 rfl rfl ?_
  refine x_iadd (nx := 190) h dM_move_189 rfl ?_
  refine x_cVv (nx := 193) (rest := []) (As := [.int (6 : Int32), .int (v1 + a3)]) h (m_M_setPair N (6 : Int32) (v1 + a3) S2) (x_wV h goA y_M_setPair kM_65 ⟨by decide, by decide⟩ rfl rfl) (oM_0 ad ca) rfl rfl (Nat.le_of_ble_eq_true rfl) dM_move_190 rfl (fun v3 S4 => ?_)
  refine x_aload_n (nx := 194) (i := 0) h dM_move_193 rfl 0 rfl rfl ?_
  refine x_iconst (nx := 195) (v := (2 : Int32)) h dM_move_194 (by decide) rfl ?_
  refine x_aload_n (nx := 196) (i := 0) h dM_move_195 rfl 0 rfl rfl ?_
  refine x_iconst (nx := 197) (v := (2 : Int32)) h dM_move_196 (by decide) rfl ?_
  refine x_cVi (nx := 200) (rest := [.int (2 : Int32), .ref (ad 0)]) (As := [.int (2 : Int32)]) h (m_M_pair N (2 : Int32) S4) (x_wV h goA y_M_pair kM_62 ⟨by decide, by decide⟩ rfl rfl) (oM_0 ad ca) rfl rfl (Nat.le_of_ble_eq_true rfl) dM_move_197 rfl (fun v5 S6 => ?_)
  refine x_iconst (nx := 201) (v := (1 : Int32)) h dM_move_200 (by decide) rfl ?_
  refine x_isub (nx := 202) h dM_move_201 rfl ?_
  refine x_cVv (nx := 205) (rest := []) (As := [.int (2 : Int32), .int (v5 - (1 : Int32))]) h (m_M_setPair N (2 : Int32) (v5 - (1 : Int32)) S6) (x_wV h goA y_M_setPair kM_65 ⟨by decide, by decide⟩ rfl rfl) (oM_0 ad ca) rfl rfl (Nat.le_of_ble_eq_true rfl) dM_move_202 rfl (fun v7 S8 => ?_)
  refine x_aload_n (nx := 206) (i := 0) h dM_move_205 rfl 0 rfl rfl ?_
  refine x_iconst (nx := 207) (v := (2 : Int32)) h dM_move_206 (by decide) rfl ?_
  refine x_cVi (nx := 210) (rest := []) (As := [.int (2 : Int32)]) h (m_M_pair N (2 : Int32) S8) (x_wV h goA y_M_pair kM_62 ⟨by decide, by decide⟩ rfl rfl) (oM_0 ad ca) rfl rfl (Nat.le_of_ble_eq_true rfl) dM_move_207 rfl (fun v9 S10 => ?_)
  refine x_if_eq (nx := 213) (tgt := 217) h dM_move_210 (by decide) rfl ?_ ?_
  · refine x_iconst (nx := 218) (v := (0 : Int32)) h dM_move_217 (by decide) rfl ?_
    exact x_sub [0, 1, 3, 4, 5] rfl (j_M_move_218 h N a1 a5 a6 a7 (0 : Int32) S10)
  · refine x_iconst (nx := 214) (v := (1 : Int32)) h dM_move_213 (by decide) rfl ?_
    refine x_goto (tgt := 218) h dM_move_214 (by decide) ?_
    exact x_sub [0, 1, 3, 4, 5] rfl (j_M_move_218 h N a1 a5 a6 a7 (1 : Int32) S10)
set_option maxHeartbeats 4000000 in
set_option maxRecDepth 100000 in
theorem j_M_move_136 {l : Launch} {D : va_G} {ad : Nat → Nat} {ca : Nat → ClassId} {p : Program} {e : Env} {s : State} {m : MethodId} {args : Array Value} {below : List Frame} {meth : Method} {c : Code} {A : Nat → Prop} (h : xC p s m args meth c cM_move 9 (Cond.code yM_move cM_move 9 none :: wA) nW yM_move.cls none D clA (tysM ca) A) (N : Nat) (a1 a3 a5 a7 w0 : Int32) (S : xSt) : xJ p l e rm_M_move s m args below meth c D clA (tysM ca) (cellsM ad ca) A false 9 136 [(0, .ref (ad 0)), (1, .int a1), (3, .int a3), (5, .int a5), (7, .int a7)] [.int w0] S (f_M_move_136 N a1 a3 a5 a7 w0 S) := by
  unfold f_M_move_136
  refine x_istore (nx := 138) (i := 6) (lv' := [(6, .int w0), (0, .ref (ad 0)), (1, .int a1), (3, .int a3), (5, .int a5), (7, .int a7)]) h dM_move_136 (by decide) rfl rfl ?_
  refine x_goto (tgt := 179) h dM_move_138 (by decide) ?_
  exact x_sub [1, 2, 3, 4, 0, 5] rfl (j_M_move_179 h N a1 a3 a5 w0 a7 S)
set_option maxHeartbeats 4000000 in
set_option maxRecDepth 100000 in
theorem j_M_move_116 {l : Launch} {D : va_G} {ad : Nat → Nat} {ca : Nat → ClassId} {p : Program} {e : Env} {s : State} {m : MethodId} {args : Array Value} {below : List Frame} {meth : Method} {c : Code} {A : Nat → Prop} (h : xC p s m args meth c cM_move 9 (Cond.code yM_move cM_move 9 none :: wA) nW yM_move.cls none D clA (tysM ca) A) (N : Nat) (a1 a3 a6 a7 w0 w1 w2 : Int32) (S : xSt) : xJ p l e rm_M_move s m args below meth c D clA (tysM ca) (cellsM ad ca) A false 9 116 [(0, .ref (ad 0)), (1, .int a1), (3, .int a3), (6, .int a6), (7, .int a7)] [.int w2, .int w1, .int w0] S (f_M_move_116 N a1 a3 a6 a7 w0 w1 w2 S) := by
  unfold f_M_move_116
  refine x_ior (nx := 117) h dM_move_116 rfl ?_
  refine x_ior (nx := 118) h dM_move_117 rfl ?_
  refine x_val (fun b1 => ?_)
  refine x_istore (nx := 120) (i := 5) (lv' := [(5, .int b1), (0, .ref (ad 0)), (1, .int a1), (3, .int a3), (6, .int a6), (7, .int a7)]) h dM_move_118 (by decide) rfl rfl ?_
  refine x_aload_n (nx := 121) (i := 0) h dM_move_120 rfl 1 rfl rfl ?_
  refine x_get (nx := 124) h (gM_0_7 ad ca _) (List.mem_cons_of_mem _ kM_88) dM_move_121 rfl ?_
  refine x_if_eq (nx := 127) (tgt := 134) h dM_move_124 (by decide) rfl ?_ ?_
  · refine x_iload (nx := 136) (i := 6) h dM_move_134 4 rfl rfl ?_
    exact x_sub [1, 2, 3, 0, 5] rfl (j_M_move_136 h N a1 a3 b1 a7 a6 S)
  · refine x_iload (nx := 129) (i := 6) h dM_move_127 4 rfl rfl ?_
    refine x_iconst (nx := 130) (v := (1 : Int32)) h dM_move_129 (by decide) rfl ?_
    refine x_isub (nx := 131) h dM_move_130 rfl ?_
    refine x_goto (tgt := 136) h dM_move_131 (by decide) ?_
    exact x_sub [1, 2, 3, 0, 5] rfl (j_M_move_136 h N a1 a3 b1 a7 (a6 - (1 : Int32)) S)
set_option maxHeartbeats 4000000 in
set_option maxRecDepth 100000 in
theorem j_M_move_100 {l : Launch} {D : va_G} {ad : Nat → Nat} {ca : Nat → ClassId} {p : Program} {e : Env} {s : State} {m : MethodId} {args : Array Value} {below : List Frame} {meth : Method} {c : Code} {A : Nat → Prop} (h : xC p s m args meth c cM_move 9 (Cond.code yM_move cM_move 9 none :: wA) nW yM_move.cls none D clA (tysM ca) A) (N : Nat) (a1 a3 a6 a7 w0 w1 w2 : Int32) (S : xSt) : xJ p l e rm_M_move s m args below meth c D clA (tysM ca) (cellsM ad ca) A false 9 100 [(0, .ref (ad 0)), (1, .int a1), (3, .int a3), (6, .int a6), (7, .int a7)] [.int w2, .int w1, .int w0] S (f_M_move_100 N a1 a3 a6 a7 w0 w1 w2 S) := by
  unfold f_M_move_100
  refine x_ior (nx := 101) h dM_move_100 rfl ?_
  refine x_iconst (nx := 102) (v := (2 : Int32)) h dM_move_101 (by decide) rfl ?_
  refine x_ior (nx := 103) h dM_move_102 rfl ?_
  refine x_aload_n (nx := 104) (i := 0) h dM_move_103 rfl 0 rfl rfl ?_
  refine x_get (nx := 107) h (gM_0_7 ad ca _) (List.mem_cons_of_mem _ kM_88) dM_move_104 rfl ?_
  refine x_if_eq (nx := 110) (tgt := 115) h dM_move_107 (by decide) rfl ?_ ?_
  · refine x_iconst (nx := 116) (v := (0 : Int32)) h dM_move_115 (by decide) rfl ?_
    exact x_sub [0, 1, 2, 3, 4] rfl (j_M_move_116 h N a1 a3 a6 a7 w0 ((w1 ||| w2) ||| (2 : Int32)) (0 : Int32) S)
  · refine x_bipush (nx := 112) (v := (16 : Int32)) h dM_move_110 (by decide) rfl ?_
    refine x_goto (tgt := 116) h dM_move_112 (by decide) ?_
    exact x_sub [0, 1, 2, 3, 4] rfl (j_M_move_116 h N a1 a3 a6 a7 w0 ((w1 ||| w2) ||| (2 : Int32)) (16 : Int32) S)
set_option maxHeartbeats 4000000 in
set_option maxRecDepth 100000 in
theorem j_M_move_79 {l : Launch} {D : va_G} {ad : Nat → Nat} {ca : Nat → ClassId} {p : Program} {e : Env} {s : State} {m : MethodId} {args : Array Value} {below : List Frame} {meth : Method} {c : Code} {A : Nat → Prop} (h : xC p s m args meth c cM_move 9 (Cond.code yM_move cM_move 9 none :: wA) nW yM_move.cls none D clA (tysM ca) A) (N : Nat) (a1 a3 a5 a6 w0 : Int32) (S : xSt) : xJ p l e rm_M_move s m args below meth c D clA (tysM ca) (cellsM ad ca) A false 9 79 [(0, .ref (ad 0)), (1, .int a1), (3, .int a3), (5, .int a5), (6, .int a6)] [.int w0] S (f_M_move_79 N a1 a3 a5 a6 w0 S) := by
  unfold f_M_move_79
  refine x_istore (nx := 81) (i := 7) (lv' := [(7, .int w0), (0, .ref (ad 0)), (1, .int a1), (3, .int a3), (5, .int a5), (6, .int a6)]) h dM_move_79 (by decide) rfl rfl ?_
  refine x_iload (nx := 83) (i := 5) h dM_move_81 4 rfl rfl ?_
  refine x_iload (nx := 85) (i := 6) h dM_move_83 5 rfl rfl ?_
  refine x_sipush (nx := 88) (v := (128 : Int32)) h dM_move_85 (by decide) rfl ?_
  refine x_iand (nx := 89) h dM_move_88 rfl ?_
  refine x_iload (nx := 91) (i := 7) h dM_move_89 0 rfl rfl ?_
  refine x_if_eq (nx := 94) (tgt := 99) h dM_move_91 (by decide) rfl ?_ ?_
  · refine x_iconst (nx := 100) (v := (0 : Int32)) h dM_move_99 (by decide) rfl ?_
    exact x_sub [1, 2, 3, 5, 0] rfl (j_M_move_100 h N a1 a3 a6 w0 a5 (a6 &&& (128 : Int32)) (0 : Int32) S)
  · refine x_bipush (nx := 96) (v := (64 : Int32)) h dM_move_94 (by decide) rfl ?_
    refine x_goto (tgt := 100) h dM_move_96 (by decide) ?_
    exact x_sub [1, 2, 3, 5, 0] rfl (j_M_move_100 h N a1 a3 a6 w0 a5 (a6 &&& (128 : Int32)) (64 : Int32) S)
set_option maxHeartbeats 4000000 in
set_option maxRecDepth 100000 in
theorem j_M_move_11 {l : Launch} {D : va_G} {ad : Nat → Nat} {ca : Nat → ClassId} {p : Program} {e : Env} {s : State} {m : MethodId} {args : Array Value} {below : List Frame} {meth : Method} {c : Code} {A : Nat → Prop} (h : xC p s m args meth c cM_move 9 (Cond.code yM_move cM_move 9 none :: wA) nW yM_move.cls none D clA (tysM ca) A) (N : Nat) (a1 a2 w0 : Int32) (S : xSt) : xJ p l e rm_M_move s m args below meth c D clA (tysM ca) (cellsM ad ca) A false 9 11 [(0, .ref (ad 0)), (1, .int a1), (2, .int a2)] [.int w0] S (f_M_move_11 N a1 a2 w0 S) := by
  unfold f_M_move_11
  refine x_istore_n (nx := 12) (i := 3) (lv' := [(3, .int w0), (0, .ref (ad 0)), (1, .int a1), (2, .int a2)]) h dM_move_11 rfl (by decide) rfl rfl ?_
  refine x_aload_n (nx := 13) (i := 0) h dM_move_12 rfl 1 rfl rfl ?_
  refine x_aload_n (nx := 14) (i := 0) h dM_move_13 rfl 1 rfl rfl ?_
  refine x_bipush (nx := 16) (v := (6 : Int32)) h dM_move_14 (by decide) rfl ?_
  refine x_cVi (nx := 19) (rest := [.ref (ad 0)]) (As := [.int (6 : Int32)]) h (m_M_pair N (6 : Int32) S) (x_wV h goA y_M_pair kM_62 ⟨by decide, by decide⟩ rfl rfl) (oM_0 ad ca) rfl rfl (Nat.le_of_ble_eq_true rfl) dM_move_16 rfl (fun v1 S2 => ?_)
  refine x_cVi (nx := 22) (rest := []) (As := [.int v1]) h (m_M_read N v1 S2) (x_wV h goA y_M_read kM_48 ⟨by decide, by decide⟩ rfl rfl) (oM_0 ad ca) rfl rfl (Nat.le_of_ble_eq_true rfl) dM_move_19 rfl (fun v3 S4 => ?_)
  refine x_istore (nx := 24) (i := 4) (lv' := [(4, .int v3), (3, .int w0), (0, .ref (ad 0)), (1, .int a1), (2, .int a2)]) h dM_move_22 (by decide) rfl rfl ?_
  refine x_aload_n (nx := 25) (i := 0) h dM_move_24 rfl 2 rfl rfl ?_
  refine x_get (nx := 28) h (gM_0_1 ad ca _) (List.mem_cons_of_mem _ kM_13) dM_move_25 rfl ?_
  refine x_iconst (nx := 29) (v := (1 : Int32)) h dM_move_28 (by decide) rfl ?_
  refine x_iald (nx := 30) h (aM_2 ad ca) dM_move_29 rfl (fun v5 => ?_)
  refine x_iconst (nx := 31) (v := (1 : Int32)) h dM_move_30 (by decide) rfl ?_
  refine x_iand (nx := 32) h dM_move_31 rfl ?_
  refine x_val (fun b6 => ?_)
  refine x_istore (nx := 34) (i := 5) (lv' := [(5, .int b6), (4, .int v3), (3, .int w0), (0, .ref (ad 0)), (1, .int a1), (2, .int a2)]) h dM_move_32 (by decide) rfl rfl ?_
  refine x_aload_n (nx := 35) (i := 0) h dM_move_34 rfl 3 rfl rfl ?_
  refine x_get (nx := 38) h (gM_0_1 ad ca _) (List.mem_cons_of_mem _ kM_13) dM_move_35 rfl ?_
  refine x_iconst (nx := 39) (v := (0 : Int32)) h dM_move_38 (by decide) rfl ?_
  refine x_iald (nx := 40) h (aM_2 ad ca) dM_move_39 rfl (fun v7 => ?_)
  refine x_iload (nx := 42) (i := 4) h dM_move_40 1 rfl rfl ?_
  refine x_iadd (nx := 43) h dM_move_42 rfl ?_
  refine x_val (fun b8 => ?_)
  refine x_istore (nx := 45) (i := 6) (lv' := [(6, .int b8), (5, .int b6), (4, .int v3), (3, .int w0), (0, .ref (ad 0)), (1, .int a1), (2, .int a2)]) h dM_move_43 (by decide) rfl rfl ?_
  refine x_iconst (nx := 46) (v := (0 : Int32)) h dM_move_45 (by decide) rfl ?_
  refine x_istore (nx := 48) (i := 7) (lv' := [(7, .int (0 : Int32)), (6, .int b8), (5, .int b6), (4, .int v3), (3, .int w0), (0, .ref (ad 0)), (1, .int a1), (2, .int a2)]) h dM_move_46 (by decide) rfl rfl ?_
  refine x_iload_n (nx := 49) (i := 2) h dM_move_48 rfl 7 rfl rfl ?_
  refine x_if_eq (nx := 52) (tgt := 141) h dM_move_49 (by decide) rfl ?_ ?_
  · refine x_aload_n (nx := 142) (i := 0) h dM_move_141 rfl 5 rfl rfl ?_
    refine x_aload_n (nx := 143) (i := 0) h dM_move_142 rfl 5 rfl rfl ?_
    refine x_iconst (nx := 144) (v := (4 : Int32)) h dM_move_143 (by decide) rfl ?_
    refine x_cVi (nx := 147) (rest := [.ref (ad 0)]) (As := [.int (4 : Int32)]) h (m_M_pair N (4 : Int32) S4) (x_wV h goA y_M_pair kM_62 ⟨by decide, by decide⟩ rfl rfl) (oM_0 ad ca) rfl rfl (Nat.le_of_ble_eq_true rfl) dM_move_144 rfl (fun v9 S10 => ?_)
    refine x_iload (nx := 149) (i := 4) h dM_move_147 3 rfl rfl ?_
    refine x_cVv (nx := 152) (rest := []) (As := [.int v9, .int v3]) h (m_M_write N v9 v3 S10) (x_wV h goA y_M_write kM_56 ⟨by decide, by decide⟩ rfl rfl) (oM_0 ad ca) rfl rfl (Nat.le_of_ble_eq_true rfl) dM_move_149 rfl (fun v11 S12 => ?_)
    refine x_aload_n (nx := 153) (i := 0) h dM_move_152 rfl 5 rfl rfl ?_
    refine x_iconst (nx := 154) (v := (4 : Int32)) h dM_move_153 (by decide) rfl ?_
    refine x_aload_n (nx := 155) (i := 0) h dM_move_154 rfl 5 rfl rfl ?_
    refine x_iconst (nx := 156) (v := (4 : Int32)) h dM_move_155 (by decide) rfl ?_
    refine x_cVi (nx := 159) (rest := [.int (4 : Int32), .ref (ad 0)]) (As := [.int (4 : Int32)]) h (m_M_pair N (4 : Int32) S12) (x_wV h goA y_M_pair kM_62 ⟨by decide, by decide⟩ rfl rfl) (oM_0 ad ca) rfl rfl (Nat.le_of_ble_eq_true rfl) dM_move_156 rfl (fun v13 S14 => ?_)
    refine x_iload_n (nx := 160) (i := 3) h dM_move_159 rfl 4 rfl rfl ?_
    refine x_iadd (nx := 161) h dM_move_160 rfl ?_
    refine x_cVv (nx := 164) (rest := []) (As := [.int (4 : Int32), .int (v13 + w0)]) h (m_M_setPair N (4 : Int32) (v13 + w0) S14) (x_wV h goA y_M_setPair kM_65 ⟨by decide, by decide⟩ rfl rfl) (oM_0 ad ca) rfl rfl (Nat.le_of_ble_eq_true rfl) dM_move_161 rfl (fun v15 S16 => ?_)
    refine x_iload (nx := 166) (i := 5) h dM_move_164 2 rfl rfl ?_
    refine x_aload_n (nx := 167) (i := 0) h dM_move_166 rfl 5 rfl rfl ?_
    refine x_get (nx := 170) h (gM_0_1 ad ca _) (List.mem_cons_of_mem _ kM_13) dM_move_167 rfl ?_
    refine x_iconst (nx := 171) (v := (1 : Int32)) h dM_move_170 (by decide) rfl ?_
    refine x_iald (nx := 172) h (aM_2 ad ca) dM_move_171 rfl (fun v17 => ?_)
    refine x_sipush (nx := 175) (v := (192 : Int32)) h dM_move_172 (by decide) rfl ?_
    refine x_iand (nx := 176) h dM_move_175 rfl ?_
    refine x_ior (nx := 177) h dM_move_176 rfl ?_
    refine x_val (fun b18 => ?_)
    refine x_istore (nx := 179) (i := 5) (lv' := [(5, .int b18), (7, .int (0 : Int32)), (6, .int b8), (4, .int v3), (3, .int w0), (0, .ref (ad 0)), (1, .int a1), (2, .int a2)]) h dM_move_177 (by decide) rfl rfl ?_
    exact x_sub [5, 6, 4, 0, 2, 1] rfl (j_M_move_179 h N a1 w0 b18 b8 (0 : Int32) S16)
  · refine x_aload_n (nx := 53) (i := 0) h dM_move_52 rfl 5 rfl rfl ?_
    refine x_aload_n (nx := 54) (i := 0) h dM_move_53 rfl 5 rfl rfl ?_
    refine x_get (nx := 57) h (gM_0_1 ad ca _) (List.mem_cons_of_mem _ kM_13) dM_move_54 rfl ?_
    refine x_iconst (nx := 58) (v := (0 : Int32)) h dM_move_57 (by decide) rfl ?_
    refine x_iald (nx := 59) h (aM_2 ad ca) dM_move_58 rfl (fun v19 => ?_)
    refine x_iload (nx := 61) (i := 4) h dM_move_59 3 rfl rfl ?_
    refine x_iconst (nx := 62) (v := (0 : Int32)) h dM_move_61 (by decide) rfl ?_
    refine x_bipush (nx := 64) (v := (8 : Int32)) h dM_move_62 (by decide) rfl ?_
    refine x_cVi (nx := 67) (rest := []) (As := [.int v19, .int v3, .int (0 : Int32), .int (8 : Int32)]) h (m_M_difference N v19 v3 (0 : Int32) (8 : Int32) S4) (x_wV h goA y_M_difference kM_104 ⟨by decide, by decide⟩ rfl rfl) (oM_0 ad ca) rfl rfl (Nat.le_of_ble_eq_true rfl) dM_move_64 rfl (fun v20 S21 => ?_)
    refine x_istore (nx := 69) (i := 6) (lv' := [(6, .int v20), (7, .int (0 : Int32)), (5, .int b6), (4, .int v3), (3, .int w0), (0, .ref (ad 0)), (1, .int a1), (2, .int a2)]) h dM_move_67 (by decide) rfl rfl ?_
    refine x_iload (nx := 71) (i := 6) h dM_move_69 0 rfl rfl ?_
    refine x_if_ne (nx := 74) (tgt := 78) h dM_move_71 (by decide) rfl ?_ ?_
    · refine x_iconst (nx := 79) (v := (0 : Int32)) h dM_move_78 (by decide) rfl ?_
      exact x_sub [5, 6, 4, 2, 0] rfl (j_M_move_79 h N a1 w0 b6 v20 (0 : Int32) S21)
    · refine x_iconst (nx := 75) (v := (1 : Int32)) h dM_move_74 (by decide) rfl ?_
      refine x_goto (tgt := 79) h dM_move_75 (by decide) ?_
      exact x_sub [5, 6, 4, 2, 0] rfl (j_M_move_79 h N a1 w0 b6 v20 (1 : Int32) S21)
set_option maxHeartbeats 4000000 in
set_option maxRecDepth 100000 in
theorem m_M_move {l : Launch} {D : va_G} {ad : Nat → Nat} {ca : Nat → ClassId} (N : Nat) (a1 a2 : Int32) (S : xSt) : xM l D clA (tysM ca) (cellsM ad ca) nW yM_move (Cond.code yM_move cM_move 9 none :: wA) rm_M_move false [.ref (ad 0), .int a1, .int a2] S (f_M_move N a1 a2 S) := by
  refine x_met (cc := cM_move) (maxL := 9) (ret := none) (by decide) rfl [.ref (ad 0), .int a1, .int a2] (lv0 := [(0, .ref (ad 0)), (1, .int a1), (2, .int a2)]) (Nat.le_of_ble_eq_true rfl) rfl ?_
  intro p e s m args below meth c A h
  unfold f_M_move
  refine x_iload_n (nx := 1) (i := 1) h dM_move_0 rfl 1 rfl rfl ?_
  refine x_iconst (nx := 2) (v := (2 : Int32)) h dM_move_1 (by decide) rfl ?_
  refine x_irem (nx := 3) h dM_move_2 (by decide) rfl ?_
  refine x_if_ne (nx := 6) (tgt := 10) h dM_move_3 (by decide) rfl ?_ ?_
  · refine x_iconst (nx := 11) (v := (-1 : Int32)) h dM_move_10 (by decide) rfl ?_
    exact x_sub [0, 1, 2] rfl (j_M_move_11 h N a1 a2 (-1 : Int32) S)
  · refine x_iconst (nx := 7) (v := (1 : Int32)) h dM_move_6 (by decide) rfl ?_
    refine x_goto (tgt := 11) h dM_move_7 (by decide) ?_
    exact x_sub [0, 1, 2] rfl (j_M_move_11 h N a1 a2 (1 : Int32) S)
set_option maxHeartbeats 4000000 in
set_option maxRecDepth 100000 in
theorem j_M_special_213 {l : Launch} {D : va_G} {ad : Nat → Nat} {ca : Nat → ClassId} {p : Program} {e : Env} {s : State} {m : MethodId} {args : Array Value} {below : List Frame} {meth : Method} {c : Code} {A : Nat → Prop} (h : xC p s m args meth c cM_special 4 (Cond.code yM_special cM_special 4 none :: wA) nW yM_special.cls none D clA (tysM ca) A) (N : Nat) (S : xSt) : xJ p l e rm_M_special s m args below meth c D clA (tysM ca) (cellsM ad ca) A false 4 213 [] [] S (f_M_special_213 N S) := by
  unfold f_M_special_213
  exact x_vret h dM_special_213
set_option maxHeartbeats 4000000 in
set_option maxRecDepth 100000 in
theorem j_M_special_82 {l : Launch} {D : va_G} {ad : Nat → Nat} {ca : Nat → ClassId} {p : Program} {e : Env} {s : State} {m : MethodId} {args : Array Value} {below : List Frame} {meth : Method} {c : Code} {A : Nat → Prop} (h : xC p s m args meth c cM_special 4 (Cond.code yM_special cM_special 4 none :: wA) nW yM_special.cls none D clA (tysM ca) A) (N : Nat) (w1 w2 w3 : Int32) (S : xSt) : xJ p l e rm_M_special s m args below meth c D clA (tysM ca) (cellsM ad ca) A false 4 82 [] [.int w3, .int w2, .int w1, .ref (ad 2)] S (f_M_special_82 N w1 w2 w3 S) := by
  unfold f_M_special_82
  refine x_ior (nx := 83) h dM_special_82 rfl ?_
  refine x_iast (nx := 84) h (aM_2 ad ca) dM_special_83 rfl (fun S1 => ?_)
  refine x_goto (tgt := 213) h dM_special_84 (by decide) ?_
  exact x_sub [] rfl (j_M_special_213 h N S1)
set_option maxHeartbeats 4000000 in
set_option maxRecDepth 100000 in
theorem j_M_special_177 {l : Launch} {D : va_G} {ad : Nat → Nat} {ca : Nat → ClassId} {p : Program} {e : Env} {s : State} {m : MethodId} {args : Array Value} {below : List Frame} {meth : Method} {c : Code} {A : Nat → Prop} (h : xC p s m args meth c cM_special 4 (Cond.code yM_special cM_special 4 none :: wA) nW yM_special.cls none D clA (tysM ca) A) (N : Nat) (w1 w2 w3 : Int32) (S : xSt) : xJ p l e rm_M_special s m args below meth c D clA (tysM ca) (cellsM ad ca) A false 4 177 [(0, .ref (ad 0))] [.int w3, .int w2, .int w1, .ref (ad 2)] S (f_M_special_177 N w1 w2 w3 S) := by
  unfold f_M_special_177
  refine x_ior (nx := 178) h dM_special_177 rfl ?_
  refine x_iast (nx := 179) h (aM_2 ad ca) dM_special_178 rfl (fun S1 => ?_)
  refine x_aload_n (nx := 180) (i := 0) h dM_special_179 rfl 0 rfl rfl ?_
  refine x_get (nx := 183) h (gM_0_1 ad ca _) (List.mem_cons_of_mem _ kM_13) dM_special_180 rfl ?_
  refine x_iconst (nx := 184) (v := (1 : Int32)) h dM_special_183 (by decide) rfl ?_
  refine x_aload_n (nx := 185) (i := 0) h dM_special_184 rfl 0 rfl rfl ?_
  refine x_get (nx := 188) h (gM_0_1 ad ca _) (List.mem_cons_of_mem _ kM_13) dM_special_185 rfl ?_
  refine x_iconst (nx := 189) (v := (1 : Int32)) h dM_special_188 (by decide) rfl ?_
  refine x_iald (nx := 190) h (aM_2 ad ca) dM_special_189 rfl (fun v2 => ?_)
  refine x_iconst (nx := 191) (v := (1 : Int32)) h dM_special_190 (by decide) rfl ?_
  refine x_iand (nx := 192) h dM_special_191 rfl ?_
  refine x_aload_n (nx := 193) (i := 0) h dM_special_192 rfl 0 rfl rfl ?_
  refine x_get (nx := 196) h (gM_0_1 ad ca _) (List.mem_cons_of_mem _ kM_13) dM_special_193 rfl ?_
  refine x_iconst (nx := 197) (v := (0 : Int32)) h dM_special_196 (by decide) rfl ?_
  refine x_iald (nx := 198) h (aM_2 ad ca) dM_special_197 rfl (fun v3 => ?_)
  refine x_cSi (nx := 201) (rest := [.int (v2 &&& (1 : Int32)), .int (1 : Int32), .ref (ad 2)]) (As := [.int v3]) h (m_M_by N v3 S1) (x_wS h goA y_M_by kM_98 ⟨by decide, by decide⟩ rfl rfl) rfl rfl (Nat.le_of_ble_eq_true rfl) dM_special_198 rfl (fun v4 S5 => ?_)
  refine x_ior (nx := 202) h dM_special_201 rfl ?_
  refine x_aload_n (nx := 203) (i := 0) h dM_special_202 rfl 0 rfl rfl ?_
  refine x_get (nx := 206) h (gM_0_1 ad ca _) (List.mem_cons_of_mem _ kM_13) dM_special_203 rfl ?_
  refine x_iconst (nx := 207) (v := (0 : Int32)) h dM_special_206 (by decide) rfl ?_
  refine x_iald (nx := 208) h (aM_2 ad ca) dM_special_207 rfl (fun v6 => ?_)
  refine x_cSi (nx := 211) (rest := [.int ((v2 &&& (1 : Int32)) ||| v4), .int (1 : Int32), .ref (ad 2)]) (As := [.int v6]) h (m_M_parity N v6 S5) (x_wS h goA y_M_parity kM_107 ⟨by decide, by decide⟩ rfl rfl) rfl rfl (Nat.le_of_ble_eq_true rfl) dM_special_208 rfl (fun v7 S8 => ?_)
  refine x_ior (nx := 212) h dM_special_211 rfl ?_
  refine x_iast (nx := 213) h (aM_2 ad ca) dM_special_212 rfl (fun S9 => ?_)
  exact x_sub [] rfl (j_M_special_213 h N S9)
set_option maxHeartbeats 4000000 in
set_option maxRecDepth 100000 in
theorem j_M_special_149 {l : Launch} {D : va_G} {ad : Nat → Nat} {ca : Nat → ClassId} {p : Program} {e : Env} {s : State} {m : MethodId} {args : Array Value} {below : List Frame} {meth : Method} {c : Code} {A : Nat → Prop} (h : xC p s m args meth c cM_special 4 (Cond.code yM_special cM_special 4 none :: wA) nW yM_special.cls none D clA (tysM ca) A) (N : Nat) (a1 a2 a3 w1 w2 : Int32) (S : xSt) : xJ p l e rm_M_special s m args below meth c D clA (tysM ca) (cellsM ad ca) A false 4 149 [(0, .ref (ad 0)), (1, .int a1), (2, .int a2), (3, .int a3)] [.int w2, .int w1, .ref (ad 0)] S (f_M_special_149 N a1 a2 a3 w1 w2 S) := by
  unfold f_M_special_149
  refine x_cVv (nx := 152) (rest := []) (As := [.int w1, .int w2]) h (m_M_write N w1 w2 S) (x_wV h goA y_M_write kM_56 ⟨by decide, by decide⟩ rfl rfl) (oM_0 ad ca) rfl rfl (Nat.le_of_ble_eq_true rfl) dM_special_149 rfl (fun v1 S2 => ?_)
  refine x_aload_n (nx := 153) (i := 0) h dM_special_152 rfl 0 rfl rfl ?_
  refine x_get (nx := 156) h (gM_0_1 ad ca _) (List.mem_cons_of_mem _ kM_13) dM_special_153 rfl ?_
  refine x_iconst (nx := 157) (v := (0 : Int32)) h dM_special_156 (by decide) rfl ?_
  refine x_iload_n (nx := 158) (i := 2) h dM_special_157 rfl 2 rfl rfl ?_
  refine x_sipush (nx := 161) (v := (240 : Int32)) h dM_special_158 (by decide) rfl ?_
  refine x_iand (nx := 162) h dM_special_161 rfl ?_
  refine x_iload_n (nx := 163) (i := 1) h dM_special_162 rfl 1 rfl rfl ?_
  refine x_iconst (nx := 164) (v := (4 : Int32)) h dM_special_163 (by decide) rfl ?_
  refine x_icmp_ne (nx := 167) (tgt := 174) h dM_special_164 (by decide) rfl ?_ ?_
  · refine x_iload_n (nx := 175) (i := 3) h dM_special_174 rfl 3 rfl rfl ?_
    refine x_iconst (nx := 176) (v := (4 : Int32)) h dM_special_175 (by decide) rfl ?_
    refine x_ishr (nx := 177) h dM_special_176 rfl ?_
    exact x_sub [0] rfl (j_M_special_177 h N (0 : Int32) (a2 &&& (240 : Int32)) (a3 >>> ((4 : Int32) &&& 31)) S2)
  · refine x_iload_n (nx := 168) (i := 3) h dM_special_167 rfl 3 rfl rfl ?_
    refine x_bipush (nx := 170) (v := (15 : Int32)) h dM_special_168 (by decide) rfl ?_
    refine x_iand (nx := 171) h dM_special_170 rfl ?_
    refine x_goto (tgt := 177) h dM_special_171 (by decide) ?_
    exact x_sub [0] rfl (j_M_special_177 h N (0 : Int32) (a2 &&& (240 : Int32)) (a3 &&& (15 : Int32)) S2)
set_option maxHeartbeats 4000000 in
set_option maxRecDepth 100000 in
theorem m_M_special {l : Launch} {D : va_G} {ad : Nat → Nat} {ca : Nat → ClassId} (N : Nat) (a1 : Int32) (S : xSt) : xM l D clA (tysM ca) (cellsM ad ca) nW yM_special (Cond.code yM_special cM_special 4 none :: wA) rm_M_special false [.ref (ad 0), .int a1] S (f_M_special N a1 S) := by
  refine x_met (cc := cM_special) (maxL := 4) (ret := none) (by decide) rfl [.ref (ad 0), .int a1] (lv0 := [(0, .ref (ad 0)), (1, .int a1)]) (Nat.le_of_ble_eq_true rfl) rfl ?_
  intro p e s m args below meth c A h
  unfold f_M_special
  refine x_iload_n (nx := 1) (i := 1) h dM_special_0 rfl 1 rfl rfl ?_
  refine x_iconst (nx := 2) (v := (2 : Int32)) h dM_special_1 (by decide) rfl ?_
  refine x_icmp_ge (nx := 5) (tgt := 23) h dM_special_2 (by decide) rfl ?_ ?_
  · refine x_iload_n (nx := 24) (i := 1) h dM_special_23 rfl 1 rfl rfl ?_
    refine x_iconst (nx := 25) (v := (4 : Int32)) h dM_special_24 (by decide) rfl ?_
    refine x_icmp_ge (nx := 28) (tgt := 87) h dM_special_25 (by decide) rfl ?_ ?_
    · refine x_iload_n (nx := 88) (i := 1) h dM_special_87 rfl 1 rfl rfl ?_
      refine x_bipush (nx := 90) (v := (6 : Int32)) h dM_special_88 (by decide) rfl ?_
      refine x_icmp_ge (nx := 93) (tgt := 213) h dM_special_90 (by decide) rfl ?_ ?_
      · exact x_sub [] rfl (j_M_special_213 h N S)
      · refine x_aload_n (nx := 94) (i := 0) h dM_special_93 rfl 0 rfl rfl ?_
        refine x_get (nx := 97) h (gM_0_1 ad ca _) (List.mem_cons_of_mem _ kM_13) dM_special_94 rfl ?_
        refine x_iconst (nx := 98) (v := (0 : Int32)) h dM_special_97 (by decide) rfl ?_
        refine x_iald (nx := 99) h (aM_2 ad ca) dM_special_98 rfl (fun v1 => ?_)
        refine x_istore_n (nx := 100) (i := 2) (lv' := [(2, .int v1), (0, .ref (ad 0)), (1, .int a1)]) h dM_special_99 rfl (by decide) rfl rfl ?_
        refine x_aload_n (nx := 101) (i := 0) h dM_special_100 rfl 1 rfl rfl ?_
        refine x_aload_n (nx := 102) (i := 0) h dM_special_101 rfl 1 rfl rfl ?_
        refine x_bipush (nx := 104) (v := (6 : Int32)) h dM_special_102 (by decide) rfl ?_
        refine x_cVi (nx := 107) (rest := [.ref (ad 0)]) (As := [.int (6 : Int32)]) h (m_M_pair N (6 : Int32) S) (x_wV h goA y_M_pair kM_62 ⟨by decide, by decide⟩ rfl rfl) (oM_0 ad ca) rfl rfl (Nat.le_of_ble_eq_true rfl) dM_special_104 rfl (fun v2 S3 => ?_)
        refine x_cVi (nx := 110) (rest := []) (As := [.int v2]) h (m_M_read N v2 S3) (x_wV h goA y_M_read kM_48 ⟨by decide, by decide⟩ rfl rfl) (oM_0 ad ca) rfl rfl (Nat.le_of_ble_eq_true rfl) dM_special_107 rfl (fun v4 S5 => ?_)
        refine x_istore_n (nx := 111) (i := 3) (lv' := [(3, .int v4), (2, .int v1), (0, .ref (ad 0)), (1, .int a1)]) h dM_special_110 rfl (by decide) rfl rfl ?_
        refine x_aload_n (nx := 112) (i := 0) h dM_special_111 rfl 2 rfl rfl ?_
        refine x_aload_n (nx := 113) (i := 0) h dM_special_112 rfl 2 rfl rfl ?_
        refine x_bipush (nx := 115) (v := (6 : Int32)) h dM_special_113 (by decide) rfl ?_
        refine x_cVi (nx := 118) (rest := [.ref (ad 0)]) (As := [.int (6 : Int32)]) h (m_M_pair N (6 : Int32) S5) (x_wV h goA y_M_pair kM_62 ⟨by decide, by decide⟩ rfl rfl) (oM_0 ad ca) rfl rfl (Nat.le_of_ble_eq_true rfl) dM_special_115 rfl (fun v6 S7 => ?_)
        refine x_iload_n (nx := 119) (i := 1) h dM_special_118 rfl 3 rfl rfl ?_
        refine x_iconst (nx := 120) (v := (4 : Int32)) h dM_special_119 (by decide) rfl ?_
        refine x_icmp_ne (nx := 123) (tgt := 137) h dM_special_120 (by decide) rfl ?_ ?_
        · refine x_bipush (nx := 139) (v := (16 : Int32)) h dM_special_137 (by decide) rfl ?_
          refine x_iload_n (nx := 140) (i := 3) h dM_special_139 rfl 0 rfl rfl ?_
          refine x_bipush (nx := 142) (v := (15 : Int32)) h dM_special_140 (by decide) rfl ?_
          refine x_iand (nx := 143) h dM_special_142 rfl ?_
          refine x_imul (nx := 144) h dM_special_143 rfl ?_
          refine x_iload_n (nx := 145) (i := 2) h dM_special_144 rfl 1 rfl rfl ?_
          refine x_bipush (nx := 147) (v := (15 : Int32)) h dM_special_145 (by decide) rfl ?_
          refine x_iand (nx := 148) h dM_special_147 rfl ?_
          refine x_iadd (nx := 149) h dM_special_148 rfl ?_
          exact x_sub [2, 3, 1, 0] rfl (j_M_special_149 h N a1 v1 v4 v6 (((16 : Int32) * (v4 &&& (15 : Int32))) + (v1 &&& (15 : Int32))) S7)
        · refine x_bipush (nx := 125) (v := (16 : Int32)) h dM_special_123 (by decide) rfl ?_
          refine x_iload_n (nx := 126) (i := 2) h dM_special_125 rfl 1 rfl rfl ?_
          refine x_bipush (nx := 128) (v := (15 : Int32)) h dM_special_126 (by decide) rfl ?_
          refine x_iand (nx := 129) h dM_special_128 rfl ?_
          refine x_imul (nx := 130) h dM_special_129 rfl ?_
          refine x_iload_n (nx := 131) (i := 3) h dM_special_130 rfl 0 rfl rfl ?_
          refine x_iconst (nx := 132) (v := (4 : Int32)) h dM_special_131 (by decide) rfl ?_
          refine x_ishr (nx := 133) h dM_special_132 rfl ?_
          refine x_iadd (nx := 134) h dM_special_133 rfl ?_
          refine x_goto (tgt := 149) h dM_special_134 (by decide) ?_
          exact x_sub [2, 3, 1, 0] rfl (j_M_special_149 h N a1 v1 v4 v6 (((16 : Int32) * (v1 &&& (15 : Int32))) + (v4 >>> ((4 : Int32) &&& 31))) S7)
    · refine x_aload_n (nx := 29) (i := 0) h dM_special_28 rfl 0 rfl rfl ?_
      refine x_get (nx := 32) h (gM_0_1 ad ca _) (List.mem_cons_of_mem _ kM_13) dM_special_29 rfl ?_
      refine x_iconst (nx := 33) (v := (0 : Int32)) h dM_special_32 (by decide) rfl ?_
      refine x_aload_n (nx := 34) (i := 0) h dM_special_33 rfl 0 rfl rfl ?_
      refine x_get (nx := 37) h (gM_0_1 ad ca _) (List.mem_cons_of_mem _ kM_13) dM_special_34 rfl ?_
      refine x_bipush (nx := 39) (v := (14 : Int32)) h dM_special_37 (by decide) rfl ?_
      refine x_iload_n (nx := 40) (i := 1) h dM_special_39 rfl 1 rfl rfl ?_
      refine x_iadd (nx := 41) h dM_special_40 rfl ?_
      refine x_iald (nx := 42) h (aM_2 ad ca) dM_special_41 rfl (fun v8 => ?_)
      refine x_iast (nx := 43) h (aM_2 ad ca) dM_special_42 rfl (fun S9 => ?_)
      refine x_aload_n (nx := 44) (i := 0) h dM_special_43 rfl 0 rfl rfl ?_
      refine x_get (nx := 47) h (gM_0_1 ad ca _) (List.mem_cons_of_mem _ kM_13) dM_special_44 rfl ?_
      refine x_iconst (nx := 48) (v := (1 : Int32)) h dM_special_47 (by decide) rfl ?_
      refine x_aload_n (nx := 49) (i := 0) h dM_special_48 rfl 0 rfl rfl ?_
      refine x_get (nx := 52) h (gM_0_1 ad ca _) (List.mem_cons_of_mem _ kM_13) dM_special_49 rfl ?_
      refine x_iconst (nx := 53) (v := (1 : Int32)) h dM_special_52 (by decide) rfl ?_
      refine x_iald (nx := 54) h (aM_2 ad ca) dM_special_53 rfl (fun v10 => ?_)
      refine x_iconst (nx := 55) (v := (1 : Int32)) h dM_special_54 (by decide) rfl ?_
      refine x_iand (nx := 56) h dM_special_55 rfl ?_
      refine x_aload_n (nx := 57) (i := 0) h dM_special_56 rfl 0 rfl rfl ?_
      refine x_get (nx := 60) h (gM_0_1 ad ca _) (List.mem_cons_of_mem _ kM_13) dM_special_57 rfl ?_
      refine x_iconst (nx := 61) (v := (0 : Int32)) h dM_special_60 (by decide) rfl ?_
      refine x_iald (nx := 62) h (aM_2 ad ca) dM_special_61 rfl (fun v11 => ?_)
      refine x_cSi (nx := 65) (rest := [.int (v10 &&& (1 : Int32)), .int (1 : Int32), .ref (ad 2)]) (As := [.int v11]) h (m_M_by N v11 S9) (x_wS h goA y_M_by kM_98 ⟨by decide, by decide⟩ rfl rfl) rfl rfl (Nat.le_of_ble_eq_true rfl) dM_special_62 rfl (fun v12 S13 => ?_)
      refine x_ior (nx := 66) h dM_special_65 rfl ?_
      refine x_aload_n (nx := 67) (i := 0) h dM_special_66 rfl 0 rfl rfl ?_
      refine x_get (nx := 70) h (gM_0_1 ad ca _) (List.mem_cons_of_mem _ kM_13) dM_special_67 rfl ?_
      refine x_bipush (nx := 72) (v := (23 : Int32)) h dM_special_70 (by decide) rfl ?_
      refine x_iald (nx := 73) h (aM_2 ad ca) dM_special_72 rfl (fun v14 => ?_)
      refine x_iconst (nx := 74) (v := (1 : Int32)) h dM_special_73 (by decide) rfl ?_
      refine x_icmp_ne (nx := 77) (tgt := 81) h dM_special_74 (by decide) rfl ?_ ?_
      · refine x_iconst (nx := 82) (v := (0 : Int32)) h dM_special_81 (by decide) rfl ?_
        exact x_sub [] rfl (j_M_special_82 h N (1 : Int32) ((v10 &&& (1 : Int32)) ||| v12) (0 : Int32) S13)
      · refine x_iconst (nx := 78) (v := (4 : Int32)) h dM_special_77 (by decide) rfl ?_
        refine x_goto (tgt := 82) h dM_special_78 (by decide) ?_
        exact x_sub [] rfl (j_M_special_82 h N (1 : Int32) ((v10 &&& (1 : Int32)) ||| v12) (4 : Int32) S13)
  · refine x_aload_n (nx := 6) (i := 0) h dM_special_5 rfl 0 rfl rfl ?_
    refine x_get (nx := 9) h (gM_0_1 ad ca _) (List.mem_cons_of_mem _ kM_13) dM_special_6 rfl ?_
    refine x_bipush (nx := 11) (v := (16 : Int32)) h dM_special_9 (by decide) rfl ?_
    refine x_iload_n (nx := 12) (i := 1) h dM_special_11 rfl 1 rfl rfl ?_
    refine x_iadd (nx := 13) h dM_special_12 rfl ?_
    refine x_aload_n (nx := 14) (i := 0) h dM_special_13 rfl 0 rfl rfl ?_
    refine x_get (nx := 17) h (gM_0_1 ad ca _) (List.mem_cons_of_mem _ kM_13) dM_special_14 rfl ?_
    refine x_iconst (nx := 18) (v := (0 : Int32)) h dM_special_17 (by decide) rfl ?_
    refine x_iald (nx := 19) h (aM_2 ad ca) dM_special_18 rfl (fun v15 => ?_)
    refine x_iast (nx := 20) h (aM_2 ad ca) dM_special_19 rfl (fun S16 => ?_)
    refine x_goto (tgt := 213) h dM_special_20 (by decide) ?_
    exact x_sub [] rfl (j_M_special_213 h N S16)
