set_option maxHeartbeats 4000000 in
set_option maxRecDepth 100000 in
theorem j_M_more_426 {l : Launch} {D : va_G} {ad : Nat → Nat} {ca : Nat → ClassId} {p : Program} {e : Env} {s : State} {m : MethodId} {args : Array Value} {below : List Frame} {meth : Method} {c : Code} {A : Nat → Prop} (h : xC p s m args meth c cM_more 8 (Cond.code yM_more cM_more 8 none :: wA) nW yM_more.cls none D clA (tysM ca) A) (N : Nat) (S : xSt) : xJ p l e rm_M_more s m args below meth c D clA (tysM ca) (cellsM ad ca) A false 8 426 [] [] S (f_M_more_426 N S) := by
  unfold f_M_more_426
  exact x_vret h dM_more_426
set_option maxHeartbeats 4000000 in
set_option maxRecDepth 100000 in
theorem j_M_more_101 {l : Launch} {D : va_G} {ad : Nat → Nat} {ca : Nat → ClassId} {p : Program} {e : Env} {s : State} {m : MethodId} {args : Array Value} {below : List Frame} {meth : Method} {c : Code} {A : Nat → Prop} (h : xC p s m args meth c cM_more 8 (Cond.code yM_more cM_more 8 none :: wA) nW yM_more.cls none D clA (tysM ca) A) (N : Nat) (a6 : Int32) (S : xSt) : xJ p l e rm_M_more s m args below meth c D clA (tysM ca) (cellsM ad ca) A false 8 101 [(0, .ref (ad 0)), (6, .int a6)] [] S (f_M_more_101 N a6 S) := by
  unfold f_M_more_101
  refine x_aload_n (nx := 102) (i := 0) h dM_more_101 rfl 0 rfl rfl ?_
  refine x_get (nx := 105) h (gM_0_1 ad ca _) (List.mem_cons_of_mem _ kM_13) dM_more_102 rfl ?_
  refine x_iconst (nx := 106) (v := (1 : Int32)) h dM_more_105 (by decide) rfl ?_
  refine x_aload_n (nx := 107) (i := 0) h dM_more_106 rfl 0 rfl rfl ?_
  refine x_get (nx := 110) h (gM_0_1 ad ca _) (List.mem_cons_of_mem _ kM_13) dM_more_107 rfl ?_
  refine x_iconst (nx := 111) (v := (1 : Int32)) h dM_more_110 (by decide) rfl ?_
  refine x_iald (nx := 112) h (aM_2 ad ca) dM_more_111 rfl (fun v1 => ?_)
  refine x_iconst (nx := 113) (v := (1 : Int32)) h dM_more_112 (by decide) rfl ?_
  refine x_iand (nx := 114) h dM_more_113 rfl ?_
  refine x_iload (nx := 116) (i := 6) h dM_more_114 1 rfl rfl ?_
  refine x_cSi (nx := 119) (rest := [.int (v1 &&& (1 : Int32)), .int (1 : Int32), .ref (ad 2)]) (As := [.int a6]) h (m_M_by N a6 S) (x_wS h goA y_M_by kM_98 ⟨by decide, by decide⟩ rfl rfl) rfl rfl (Nat.le_of_ble_eq_true rfl) dM_more_116 rfl (fun v2 S3 => ?_)
  refine x_ior (nx := 120) h dM_more_119 rfl ?_
  refine x_iload (nx := 122) (i := 6) h dM_more_120 1 rfl rfl ?_
  refine x_cSi (nx := 125) (rest := [.int ((v1 &&& (1 : Int32)) ||| v2), .int (1 : Int32), .ref (ad 2)]) (As := [.int a6]) h (m_M_parity N a6 S3) (x_wS h goA y_M_parity kM_107 ⟨by decide, by decide⟩ rfl rfl) rfl rfl (Nat.le_of_ble_eq_true rfl) dM_more_122 rfl (fun v4 S5 => ?_)
  refine x_ior (nx := 126) h dM_more_125 rfl ?_
  refine x_iast (nx := 127) h (aM_2 ad ca) dM_more_126 rfl (fun S6 => ?_)
  refine x_goto (tgt := 426) h dM_more_127 (by decide) ?_
  exact x_sub [] rfl (j_M_more_426 h N S6)
set_option maxHeartbeats 4000000 in
set_option maxRecDepth 100000 in
theorem j_M_more_156 {l : Launch} {D : va_G} {ad : Nat → Nat} {ca : Nat → ClassId} {p : Program} {e : Env} {s : State} {m : MethodId} {args : Array Value} {below : List Frame} {meth : Method} {c : Code} {A : Nat → Prop} (h : xC p s m args meth c cM_more 8 (Cond.code yM_more cM_more 8 none :: wA) nW yM_more.cls none D clA (tysM ca) A) (N : Nat) (w1 w2 : Int32) (S : xSt) : xJ p l e rm_M_more s m args below meth c D clA (tysM ca) (cellsM ad ca) A false 8 156 [] [.int w2, .int w1, .ref (ad 0)] S (f_M_more_156 N w1 w2 S) := by
  unfold f_M_more_156
  refine x_cVv (nx := 159) (rest := []) (As := [.int w1, .int w2]) h (m_M_output N w1 w2 S) (x_wV h goA y_M_output kM_224 ⟨by decide, by decide⟩ rfl rfl) (oM_0 ad ca) rfl rfl (Nat.le_of_ble_eq_true rfl) dM_more_156 rfl (fun v1 S2 => ?_)
  refine x_goto (tgt := 426) h dM_more_159 (by decide) ?_
  exact x_sub [] rfl (j_M_more_426 h N S2)
set_option maxHeartbeats 4000000 in
set_option maxRecDepth 100000 in
theorem j_M_more_272 {l : Launch} {D : va_G} {ad : Nat → Nat} {ca : Nat → ClassId} {p : Program} {e : Env} {s : State} {m : MethodId} {args : Array Value} {below : List Frame} {meth : Method} {c : Code} {A : Nat → Prop} (h : xC p s m args meth c cM_more 8 (Cond.code yM_more cM_more 8 none :: wA) nW yM_more.cls none D clA (tysM ca) A) (N : Nat) (w1 w2 w4 : Int32) (S : xSt) : xJ p l e rm_M_more s m args below meth c D clA (tysM ca) (cellsM ad ca) A false 8 272 [] [.int w4, .ref (ad 0), .int w2, .int w1, .ref (ad 2)] S (f_M_more_272 N w1 w2 w4 S) := by
  unfold f_M_more_272
  refine x_cVi (nx := 275) (rest := [.int w2, .int w1, .ref (ad 2)]) (As := [.int w4]) h (m_M_rest N w4 S) (x_wV h goA y_M_rest kM_101 ⟨by decide, by decide⟩ rfl rfl) (oM_0 ad ca) rfl rfl (Nat.le_of_ble_eq_true rfl) dM_more_272 rfl (fun v1 S2 => ?_)
  refine x_ior (nx := 276) h dM_more_275 rfl ?_
  refine x_iast (nx := 277) h (aM_2 ad ca) dM_more_276 rfl (fun S3 => ?_)
  refine x_goto (tgt := 426) h dM_more_277 (by decide) ?_
  exact x_sub [] rfl (j_M_more_426 h N S3)
set_option maxHeartbeats 4000000 in
set_option maxRecDepth 100000 in
theorem j_M_more_260 {l : Launch} {D : va_G} {ad : Nat → Nat} {ca : Nat → ClassId} {p : Program} {e : Env} {s : State} {m : MethodId} {args : Array Value} {below : List Frame} {meth : Method} {c : Code} {A : Nat → Prop} (h : xC p s m args meth c cM_more 8 (Cond.code yM_more cM_more 8 none :: wA) nW yM_more.cls none D clA (tysM ca) A) (N : Nat) (a5 w1 w2 w3 : Int32) (S : xSt) : xJ p l e rm_M_more s m args below meth c D clA (tysM ca) (cellsM ad ca) A false 8 260 [(0, .ref (ad 0)), (5, .int a5)] [.int w3, .int w2, .int w1, .ref (ad 2)] S (f_M_more_260 N a5 w1 w2 w3 S) := by
  unfold f_M_more_260
  refine x_ior (nx := 261) h dM_more_260 rfl ?_
  refine x_aload_n (nx := 262) (i := 0) h dM_more_261 rfl 0 rfl rfl ?_
  refine x_iload (nx := 264) (i := 5) h dM_more_262 1 rfl rfl ?_
  refine x_if_eq (nx := 267) (tgt := 271) h dM_more_264 (by decide) rfl ?_ ?_
  · refine x_iconst (nx := 272) (v := (2 : Int32)) h dM_more_271 (by decide) rfl ?_
    exact x_sub [] rfl (j_M_more_272 h N w1 (w2 ||| w3) (2 : Int32) S)
  · refine x_iconst (nx := 268) (v := (0 : Int32)) h dM_more_267 (by decide) rfl ?_
    refine x_goto (tgt := 272) h dM_more_268 (by decide) ?_
    exact x_sub [] rfl (j_M_more_272 h N w1 (w2 ||| w3) (0 : Int32) S)
set_option maxHeartbeats 4000000 in
set_option maxRecDepth 100000 in
theorem j_M_more_225 {l : Launch} {D : va_G} {ad : Nat → Nat} {ca : Nat → ClassId} {p : Program} {e : Env} {s : State} {m : MethodId} {args : Array Value} {below : List Frame} {meth : Method} {c : Code} {A : Nat → Prop} (h : xC p s m args meth c cM_more 8 (Cond.code yM_more cM_more 8 none :: wA) nW yM_more.cls none D clA (tysM ca) A) (N : Nat) (a5 w0 : Int32) (S : xSt) : xJ p l e rm_M_more s m args below meth c D clA (tysM ca) (cellsM ad ca) A false 8 225 [(0, .ref (ad 0)), (5, .int a5)] [.int w0] S (f_M_more_225 N a5 w0 S) := by
  unfold f_M_more_225
  refine x_istore (nx := 227) (i := 7) (lv' := [(7, .int w0), (0, .ref (ad 0)), (5, .int a5)]) h dM_more_225 (by decide) rfl rfl ?_
  refine x_aload_n (nx := 228) (i := 0) h dM_more_227 rfl 1 rfl rfl ?_
  refine x_bipush (nx := 230) (v := (6 : Int32)) h dM_more_228 (by decide) rfl ?_
  refine x_iload (nx := 232) (i := 7) h dM_more_230 0 rfl rfl ?_
  refine x_cVv (nx := 235) (rest := []) (As := [.int (6 : Int32), .int w0]) h (m_M_setPair N (6 : Int32) w0 S) (x_wV h goA y_M_setPair kM_65 ⟨by decide, by decide⟩ rfl rfl) (oM_0 ad ca) rfl rfl (Nat.le_of_ble_eq_true rfl) dM_more_232 rfl (fun v1 S2 => ?_)
  refine x_aload_n (nx := 236) (i := 0) h dM_more_235 rfl 1 rfl rfl ?_
  refine x_get (nx := 239) h (gM_0_1 ad ca _) (List.mem_cons_of_mem _ kM_13) dM_more_236 rfl ?_
  refine x_iconst (nx := 240) (v := (1 : Int32)) h dM_more_239 (by decide) rfl ?_
  refine x_iload (nx := 242) (i := 7) h dM_more_240 0 rfl rfl ?_
  refine x_bipush (nx := 244) (v := (8 : Int32)) h dM_more_242 (by decide) rfl ?_
  refine x_ishr (nx := 245) h dM_more_244 rfl ?_
  refine x_sipush (nx := 248) (v := (168 : Int32)) h dM_more_245 (by decide) rfl ?_
  refine x_iand (nx := 249) h dM_more_248 rfl ?_
  refine x_iload (nx := 251) (i := 7) h dM_more_249 0 rfl rfl ?_
  refine x_if_ne (nx := 254) (tgt := 259) h dM_more_251 (by decide) rfl ?_ ?_
  · refine x_iconst (nx := 260) (v := (0 : Int32)) h dM_more_259 (by decide) rfl ?_
    exact x_sub [1, 2] rfl (j_M_more_260 h N a5 (1 : Int32) ((w0 >>> ((8 : Int32) &&& 31)) &&& (168 : Int32)) (0 : Int32) S2)
  · refine x_bipush (nx := 256) (v := (64 : Int32)) h dM_more_254 (by decide) rfl ?_
    refine x_goto (tgt := 260) h dM_more_256 (by decide) ?_
    exact x_sub [1, 2] rfl (j_M_more_260 h N a5 (1 : Int32) ((w0 >>> ((8 : Int32) &&& 31)) &&& (168 : Int32)) (64 : Int32) S2)
set_option maxHeartbeats 4000000 in
set_option maxRecDepth 100000 in
theorem j_M_more_323 {l : Launch} {D : va_G} {ad : Nat → Nat} {ca : Nat → ClassId} {p : Program} {e : Env} {s : State} {m : MethodId} {args : Array Value} {below : List Frame} {meth : Method} {c : Code} {A : Nat → Prop} (h : xC p s m args meth c cM_more 8 (Cond.code yM_more cM_more 8 none :: wA) nW yM_more.cls none D clA (tysM ca) A) (N : Nat) (S : xSt) : xJ p l e rm_M_more s m args below meth c D clA (tysM ca) (cellsM ad ca) A false 8 323 [] [] S (f_M_more_323 N S) := by
  unfold f_M_more_323
  refine x_goto (tgt := 426) h dM_more_323 (by decide) ?_
  exact x_sub [] rfl (j_M_more_426 h N S)
set_option maxHeartbeats 4000000 in
set_option maxRecDepth 100000 in
theorem j_M_more_417 {l : Launch} {D : va_G} {ad : Nat → Nat} {ca : Nat → ClassId} {p : Program} {e : Env} {s : State} {m : MethodId} {args : Array Value} {below : List Frame} {meth : Method} {c : Code} {A : Nat → Prop} (h : xC p s m args meth c cM_more 8 (Cond.code yM_more cM_more 8 none :: wA) nW yM_more.cls none D clA (tysM ca) A) (N : Nat) (w1 w2 : Int32) (S : xSt) : xJ p l e rm_M_more s m args below meth c D clA (tysM ca) (cellsM ad ca) A false 8 417 [] [.int w2, .int w1, .ref (ad 2)] S (f_M_more_417 N w1 w2 S) := by
  unfold f_M_more_417
  refine x_iast (nx := 418) h (aM_2 ad ca) dM_more_417 rfl (fun S1 => ?_)
  refine x_goto (tgt := 426) h dM_more_418 (by decide) ?_
  exact x_sub [] rfl (j_M_more_426 h N S1)
set_option maxHeartbeats 4000000 in
set_option maxRecDepth 100000 in
theorem j_M_more_71 {l : Launch} {D : va_G} {ad : Nat → Nat} {ca : Nat → ClassId} {p : Program} {e : Env} {s : State} {m : MethodId} {args : Array Value} {below : List Frame} {meth : Method} {c : Code} {A : Nat → Prop} (h : xC p s m args meth c cM_more 8 (Cond.code yM_more cM_more 8 none :: wA) nW yM_more.cls none D clA (tysM ca) A) (N : Nat) (a2 a3 a4 w0 : Int32) (S : xSt) : xJ p l e rm_M_more s m args below meth c D clA (tysM ca) (cellsM ad ca) A false 8 71 [(0, .ref (ad 0)), (2, .int a2), (3, .int a3), (4, .int a4)] [.int w0] S (f_M_more_71 N a2 a3 a4 w0 S) := by
  unfold f_M_more_71
  refine x_istore (nx := 73) (i := 5) (lv' := [(5, .int w0), (0, .ref (ad 0)), (2, .int a2), (3, .int a3), (4, .int a4)]) h dM_more_71 (by decide) rfl rfl ?_
  refine x_iload_n (nx := 74) (i := 3) h dM_more_73 rfl 3 rfl rfl ?_
  refine x_if_ne (nx := 77) (tgt := 130) h dM_more_74 (by decide) rfl ?_ ?_
  · refine x_iload_n (nx := 131) (i := 3) h dM_more_130 rfl 3 rfl rfl ?_
    refine x_iconst (nx := 132) (v := (1 : Int32)) h dM_more_131 (by decide) rfl ?_
    refine x_icmp_ne (nx := 135) (tgt := 162) h dM_more_132 (by decide) rfl ?_ ?_
    · refine x_iload_n (nx := 163) (i := 3) h dM_more_162 rfl 3 rfl rfl ?_
      refine x_iconst (nx := 164) (v := (2 : Int32)) h dM_more_163 (by decide) rfl ?_
      refine x_icmp_ne (nx := 167) (tgt := 280) h dM_more_164 (by decide) rfl ?_ ?_
      · refine x_iload_n (nx := 281) (i := 3) h dM_more_280 rfl 3 rfl rfl ?_
        refine x_iconst (nx := 282) (v := (3 : Int32)) h dM_more_281 (by decide) rfl ?_
        refine x_icmp_ne (nx := 285) (tgt := 326) h dM_more_282 (by decide) rfl ?_ ?_
        · refine x_iload_n (nx := 327) (i := 3) h dM_more_326 rfl 3 rfl rfl ?_
          refine x_iconst (nx := 328) (v := (4 : Int32)) h dM_more_327 (by decide) rfl ?_
          refine x_icmp_ne (nx := 331) (tgt := 356) h dM_more_328 (by decide) rfl ?_ ?_
          · refine x_iload_n (nx := 357) (i := 3) h dM_more_356 rfl 3 rfl rfl ?_
            refine x_iconst (nx := 358) (v := (5 : Int32)) h dM_more_357 (by decide) rfl ?_
            refine x_icmp_ne (nx := 361) (tgt := 389) h dM_more_358 (by decide) rfl ?_ ?_
            · refine x_iload_n (nx := 390) (i := 3) h dM_more_389 rfl 3 rfl rfl ?_
              refine x_bipush (nx := 392) (v := (6 : Int32)) h dM_more_390 (by decide) rfl ?_
              refine x_icmp_ne (nx := 395) (tgt := 421) h dM_more_392 (by decide) rfl ?_ ?_
              · refine x_aload_n (nx := 422) (i := 0) h dM_more_421 rfl 1 rfl rfl ?_
                refine x_iload_n (nx := 423) (i := 2) h dM_more_422 rfl 2 rfl rfl ?_
                refine x_cVv (nx := 426) (rest := []) (As := [.int a2]) h (m_M_special N a2 S) (x_wV h goA y_M_special kM_245 ⟨by decide, by decide⟩ rfl rfl) (oM_0 ad ca) rfl rfl (Nat.le_of_ble_eq_true rfl) dM_more_423 rfl (fun v1 S2 => ?_)
                exact x_sub [] rfl (j_M_more_426 h N S2)
              · refine x_aload_n (nx := 396) (i := 0) h dM_more_395 rfl 1 rfl rfl ?_
                refine x_get (nx := 399) h (gM_0_1 ad ca _) (List.mem_cons_of_mem _ kM_13) dM_more_396 rfl ?_
                refine x_bipush (nx := 401) (v := (24 : Int32)) h dM_more_399 (by decide) rfl ?_
                refine x_iload_n (nx := 402) (i := 2) h dM_more_401 rfl 2 rfl rfl ?_
                refine x_iconst (nx := 403) (v := (3 : Int32)) h dM_more_402 (by decide) rfl ?_
                refine x_iand (nx := 404) h dM_more_403 rfl ?_
                refine x_iconst (nx := 405) (v := (2 : Int32)) h dM_more_404 (by decide) rfl ?_
                refine x_icmp_ge (nx := 408) (tgt := 412) h dM_more_405 (by decide) rfl ?_ ?_
                · refine x_iload_n (nx := 413) (i := 2) h dM_more_412 rfl 2 rfl rfl ?_
                  refine x_iconst (nx := 414) (v := (3 : Int32)) h dM_more_413 (by decide) rfl ?_
                  refine x_iand (nx := 415) h dM_more_414 rfl ?_
                  refine x_iconst (nx := 416) (v := (1 : Int32)) h dM_more_415 (by decide) rfl ?_
                  refine x_isub (nx := 417) h dM_more_416 rfl ?_
                  exact x_sub [] rfl (j_M_more_417 h N (24 : Int32) ((a2 &&& (3 : Int32)) - (1 : Int32)) S)
                · refine x_iconst (nx := 409) (v := (0 : Int32)) h dM_more_408 (by decide) rfl ?_
                  refine x_goto (tgt := 417) h dM_more_409 (by decide) ?_
                  exact x_sub [] rfl (j_M_more_417 h N (24 : Int32) (0 : Int32) S)
            · refine x_aload_n (nx := 362) (i := 0) h dM_more_361 rfl 1 rfl rfl ?_
              refine x_get (nx := 365) h (gM_0_1 ad ca _) (List.mem_cons_of_mem _ kM_13) dM_more_362 rfl ?_
              refine x_bipush (nx := 367) (v := (21 : Int32)) h dM_more_365 (by decide) rfl ?_
              refine x_aload_n (nx := 368) (i := 0) h dM_more_367 rfl 1 rfl rfl ?_
              refine x_cVi (nx := 371) (rest := [.int (21 : Int32), .ref (ad 2)]) (As := []) h (m_M_pop N S) (x_wV h goA y_M_pop kM_230 ⟨by decide, by decide⟩ rfl rfl) (oM_0 ad ca) rfl rfl (Nat.le_of_ble_eq_true rfl) dM_more_368 rfl (fun v3 S4 => ?_)
              refine x_iast (nx := 372) h (aM_2 ad ca) dM_more_371 rfl (fun S5 => ?_)
              refine x_aload_n (nx := 373) (i := 0) h dM_more_372 rfl 1 rfl rfl ?_
              refine x_get (nx := 376) h (gM_0_1 ad ca _) (List.mem_cons_of_mem _ kM_13) dM_more_373 rfl ?_
              refine x_bipush (nx := 378) (v := (22 : Int32)) h dM_more_376 (by decide) rfl ?_
              refine x_aload_n (nx := 379) (i := 0) h dM_more_378 rfl 1 rfl rfl ?_
              refine x_get (nx := 382) h (gM_0_1 ad ca _) (List.mem_cons_of_mem _ kM_13) dM_more_379 rfl ?_
              refine x_bipush (nx := 384) (v := (23 : Int32)) h dM_more_382 (by decide) rfl ?_
              refine x_iald (nx := 385) h (aM_2 ad ca) dM_more_384 rfl (fun v6 => ?_)
              refine x_iast (nx := 386) h (aM_2 ad ca) dM_more_385 rfl (fun S7 => ?_)
              refine x_goto (tgt := 426) h dM_more_386 (by decide) ?_
              exact x_sub [] rfl (j_M_more_426 h N S7)
          · refine x_aload_n (nx := 332) (i := 0) h dM_more_331 rfl 1 rfl rfl ?_
            refine x_get (nx := 335) h (gM_0_1 ad ca _) (List.mem_cons_of_mem _ kM_13) dM_more_332 rfl ?_
            refine x_iconst (nx := 336) (v := (0 : Int32)) h dM_more_335 (by decide) rfl ?_
            refine x_iald (nx := 337) h (aM_2 ad ca) dM_more_336 rfl (fun v8 => ?_)
            refine x_istore (nx := 339) (i := 6) (lv' := [(6, .int v8), (5, .int w0), (0, .ref (ad 0)), (2, .int a2), (3, .int a3), (4, .int a4)]) h dM_more_337 (by decide) rfl rfl ?_
            refine x_aload_n (nx := 340) (i := 0) h dM_more_339 rfl 2 rfl rfl ?_
            refine x_get (nx := 343) h (gM_0_1 ad ca _) (List.mem_cons_of_mem _ kM_13) dM_more_340 rfl ?_
            refine x_iconst (nx := 344) (v := (0 : Int32)) h dM_more_343 (by decide) rfl ?_
            refine x_iconst (nx := 345) (v := (0 : Int32)) h dM_more_344 (by decide) rfl ?_
            refine x_iast (nx := 346) h (aM_2 ad ca) dM_more_345 rfl (fun S9 => ?_)
            refine x_aload_n (nx := 347) (i := 0) h dM_more_346 rfl 2 rfl rfl ?_
            refine x_iconst (nx := 348) (v := (2 : Int32)) h dM_more_347 (by decide) rfl ?_
            refine x_iload (nx := 350) (i := 6) h dM_more_348 0 rfl rfl ?_
            refine x_cVv (nx := 353) (rest := []) (As := [.int (2 : Int32), .int v8]) h (m_M_work N (2 : Int32) v8 S9) (x_wV h goA y_M_work kM_179 ⟨by decide, by decide⟩ rfl rfl) (oM_0 ad ca) rfl rfl (Nat.le_of_ble_eq_true rfl) dM_more_350 rfl (fun v10 S11 => ?_)
            refine x_goto (tgt := 426) h dM_more_353 (by decide) ?_
            exact x_sub [] rfl (j_M_more_426 h N S11)
        · refine x_aload_n (nx := 286) (i := 0) h dM_more_285 rfl 1 rfl rfl ?_
          refine x_cVi (nx := 289) (rest := []) (As := []) h (m_M_twoNext N S) (x_wV h goA y_M_twoNext kM_197 ⟨by decide, by decide⟩ rfl rfl) (oM_0 ad ca) rfl rfl (Nat.le_of_ble_eq_true rfl) dM_more_286 rfl (fun v12 S13 => ?_)
          refine x_istore (nx := 291) (i := 6) (lv' := [(6, .int v12), (5, .int w0), (0, .ref (ad 0)), (2, .int a2), (3, .int a3), (4, .int a4)]) h dM_more_289 (by decide) rfl rfl ?_
          refine x_iload (nx := 293) (i := 5) h dM_more_291 1 rfl rfl ?_
          refine x_if_eq (nx := 296) (tgt := 311) h dM_more_293 (by decide) rfl ?_ ?_
          · refine x_aload_n (nx := 312) (i := 0) h dM_more_311 rfl 2 rfl rfl ?_
            refine x_iload (nx := 314) (i := 6) h dM_more_312 0 rfl rfl ?_
            refine x_aload_n (nx := 315) (i := 0) h dM_more_314 rfl 2 rfl rfl ?_
            refine x_iload (nx := 317) (i := 4) h dM_more_315 5 rfl rfl ?_
            refine x_cVi (nx := 320) (rest := [.int v12, .ref (ad 0)]) (As := [.int a4]) h (m_M_w N a4 S13) (x_wV h goA y_M_w kM_191 ⟨by decide, by decide⟩ rfl rfl) (oM_0 ad ca) rfl rfl (Nat.le_of_ble_eq_true rfl) dM_more_317 rfl (fun v14 S15 => ?_)
            refine x_cVv (nx := 323) (rest := []) (As := [.int v12, .int v14]) h (m_M_setTwo N v12 v14 S15) (x_wV h goA y_M_setTwo kM_221 ⟨by decide, by decide⟩ rfl rfl) (oM_0 ad ca) rfl rfl (Nat.le_of_ble_eq_true rfl) dM_more_320 rfl (fun v16 S17 => ?_)
            exact x_sub [] rfl (j_M_more_323 h N S17)
          · refine x_aload_n (nx := 297) (i := 0) h dM_more_296 rfl 2 rfl rfl ?_
            refine x_iload (nx := 299) (i := 4) h dM_more_297 5 rfl rfl ?_
            refine x_aload_n (nx := 300) (i := 0) h dM_more_299 rfl 2 rfl rfl ?_
            refine x_iload (nx := 302) (i := 6) h dM_more_300 0 rfl rfl ?_
            refine x_cVi (nx := 305) (rest := [.int a4, .ref (ad 0)]) (As := [.int v12]) h (m_M_two N v12 S13) (x_wV h goA y_M_two kM_164 ⟨by decide, by decide⟩ rfl rfl) (oM_0 ad ca) rfl rfl (Nat.le_of_ble_eq_true rfl) dM_more_302 rfl (fun v18 S19 => ?_)
            refine x_cVv (nx := 308) (rest := []) (As := [.int a4, .int v18]) h (m_M_setW N a4 v18 S19) (x_wV h goA y_M_setW kM_200 ⟨by decide, by decide⟩ rfl rfl) (oM_0 ad ca) rfl rfl (Nat.le_of_ble_eq_true rfl) dM_more_305 rfl (fun v20 S21 => ?_)
            refine x_goto (tgt := 323) h dM_more_308 (by decide) ?_
            exact x_sub [] rfl (j_M_more_323 h N S21)
      · refine x_aload_n (nx := 168) (i := 0) h dM_more_167 rfl 1 rfl rfl ?_
        refine x_get (nx := 171) h (gM_0_1 ad ca _) (List.mem_cons_of_mem _ kM_13) dM_more_168 rfl ?_
        refine x_iconst (nx := 172) (v := (1 : Int32)) h dM_more_171 (by decide) rfl ?_
        refine x_iald (nx := 173) h (aM_2 ad ca) dM_more_172 rfl (fun v22 => ?_)
        refine x_iconst (nx := 174) (v := (1 : Int32)) h dM_more_173 (by decide) rfl ?_
        refine x_iand (nx := 175) h dM_more_174 rfl ?_
        refine x_val (fun b23 => ?_)
        refine x_istore (nx := 177) (i := 6) (lv' := [(6, .int b23), (5, .int w0), (0, .ref (ad 0)), (2, .int a2), (3, .int a3), (4, .int a4)]) h dM_more_175 (by decide) rfl rfl ?_
        refine x_iload (nx := 179) (i := 5) h dM_more_177 1 rfl rfl ?_
        refine x_if_eq (nx := 182) (tgt := 205) h dM_more_179 (by decide) rfl ?_ ?_
        · refine x_aload_n (nx := 206) (i := 0) h dM_more_205 rfl 2 rfl rfl ?_
          refine x_aload_n (nx := 207) (i := 0) h dM_more_206 rfl 2 rfl rfl ?_
          refine x_bipush (nx := 209) (v := (6 : Int32)) h dM_more_207 (by decide) rfl ?_
          refine x_cVi (nx := 212) (rest := [.ref (ad 0)]) (As := [.int (6 : Int32)]) h (m_M_pair N (6 : Int32) S) (x_wV h goA y_M_pair kM_62 ⟨by decide, by decide⟩ rfl rfl) (oM_0 ad ca) rfl rfl (Nat.le_of_ble_eq_true rfl) dM_more_209 rfl (fun v24 S25 => ?_)
          refine x_aload_n (nx := 213) (i := 0) h dM_more_212 rfl 2 rfl rfl ?_
          refine x_iload (nx := 215) (i := 4) h dM_more_213 5 rfl rfl ?_
          refine x_cVi (nx := 218) (rest := [.int v24, .ref (ad 0)]) (As := [.int a4]) h (m_M_w N a4 S25) (x_wV h goA y_M_w kM_191 ⟨by decide, by decide⟩ rfl rfl) (oM_0 ad ca) rfl rfl (Nat.le_of_ble_eq_true rfl) dM_more_215 rfl (fun v26 S27 => ?_)
          refine x_iload (nx := 220) (i := 6) h dM_more_218 0 rfl rfl ?_
          refine x_bipush (nx := 222) (v := (16 : Int32)) h dM_more_220 (by decide) rfl ?_
          refine x_cVi (nx := 225) (rest := []) (As := [.int v24, .int v26, .int b23, .int (16 : Int32)]) h (m_M_difference N v24 v26 b23 (16 : Int32) S27) (x_wV h goA y_M_difference kM_104 ⟨by decide, by decide⟩ rfl rfl) (oM_0 ad ca) rfl rfl (Nat.le_of_ble_eq_true rfl) dM_more_222 rfl (fun v28 S29 => ?_)
          exact x_sub [2, 1] rfl (j_M_more_225 h N w0 v28 S29)
        · refine x_aload_n (nx := 183) (i := 0) h dM_more_182 rfl 2 rfl rfl ?_
          refine x_aload_n (nx := 184) (i := 0) h dM_more_183 rfl 2 rfl rfl ?_
          refine x_bipush (nx := 186) (v := (6 : Int32)) h dM_more_184 (by decide) rfl ?_
          refine x_cVi (nx := 189) (rest := [.ref (ad 0)]) (As := [.int (6 : Int32)]) h (m_M_pair N (6 : Int32) S) (x_wV h goA y_M_pair kM_62 ⟨by decide, by decide⟩ rfl rfl) (oM_0 ad ca) rfl rfl (Nat.le_of_ble_eq_true rfl) dM_more_186 rfl (fun v30 S31 => ?_)
          refine x_aload_n (nx := 190) (i := 0) h dM_more_189 rfl 2 rfl rfl ?_
          refine x_iload (nx := 192) (i := 4) h dM_more_190 5 rfl rfl ?_
          refine x_cVi (nx := 195) (rest := [.int v30, .ref (ad 0)]) (As := [.int a4]) h (m_M_w N a4 S31) (x_wV h goA y_M_w kM_191 ⟨by decide, by decide⟩ rfl rfl) (oM_0 ad ca) rfl rfl (Nat.le_of_ble_eq_true rfl) dM_more_192 rfl (fun v32 S33 => ?_)
          refine x_iload (nx := 197) (i := 6) h dM_more_195 0 rfl rfl ?_
          refine x_bipush (nx := 199) (v := (16 : Int32)) h dM_more_197 (by decide) rfl ?_
          refine x_cVi (nx := 202) (rest := []) (As := [.int v30, .int v32, .int b23, .int (16 : Int32)]) h (m_M_sum N v30 v32 b23 (16 : Int32) S33) (x_wV h goA y_M_sum kM_94 ⟨by decide, by decide⟩ rfl rfl) (oM_0 ad ca) rfl rfl (Nat.le_of_ble_eq_true rfl) dM_more_199 rfl (fun v34 S35 => ?_)
          refine x_goto (tgt := 225) h dM_more_202 (by decide) ?_
          exact x_sub [2, 1] rfl (j_M_more_225 h N w0 v34 S35)
    · refine x_aload_n (nx := 136) (i := 0) h dM_more_135 rfl 1 rfl rfl ?_
      refine x_aload_n (nx := 137) (i := 0) h dM_more_136 rfl 1 rfl rfl ?_
      refine x_iconst (nx := 138) (v := (2 : Int32)) h dM_more_137 (by decide) rfl ?_
      refine x_cVi (nx := 141) (rest := [.ref (ad 0)]) (As := [.int (2 : Int32)]) h (m_M_pair N (2 : Int32) S) (x_wV h goA y_M_pair kM_62 ⟨by decide, by decide⟩ rfl rfl) (oM_0 ad ca) rfl rfl (Nat.le_of_ble_eq_true rfl) dM_more_138 rfl (fun v36 S37 => ?_)
      refine x_iload_n (nx := 142) (i := 2) h dM_more_141 rfl 2 rfl rfl ?_
      refine x_bipush (nx := 144) (v := (6 : Int32)) h dM_more_142 (by decide) rfl ?_
      refine x_icmp_ne (nx := 147) (tgt := 151) h dM_more_144 (by decide) rfl ?_ ?_
      · refine x_aload_n (nx := 152) (i := 0) h dM_more_151 rfl 1 rfl rfl ?_
        refine x_iload_n (nx := 153) (i := 2) h dM_more_152 rfl 2 rfl rfl ?_
        refine x_cVi (nx := 156) (rest := [.int v36, .ref (ad 0)]) (As := [.int a2]) h (m_M_get N a2 S37) (x_wV h goA y_M_get kM_173 ⟨by decide, by decide⟩ rfl rfl) (oM_0 ad ca) rfl rfl (Nat.le_of_ble_eq_true rfl) dM_more_153 rfl (fun v38 S39 => ?_)
        exact x_sub [] rfl (j_M_more_156 h N v36 v38 S39)
      · refine x_iconst (nx := 148) (v := (0 : Int32)) h dM_more_147 (by decide) rfl ?_
        refine x_goto (tgt := 156) h dM_more_148 (by decide) ?_
        exact x_sub [] rfl (j_M_more_156 h N v36 (0 : Int32) S37)
  · refine x_aload_n (nx := 78) (i := 0) h dM_more_77 rfl 1 rfl rfl ?_
    refine x_aload_n (nx := 79) (i := 0) h dM_more_78 rfl 1 rfl rfl ?_
    refine x_iconst (nx := 80) (v := (2 : Int32)) h dM_more_79 (by decide) rfl ?_
    refine x_cVi (nx := 83) (rest := [.ref (ad 0)]) (As := [.int (2 : Int32)]) h (m_M_pair N (2 : Int32) S) (x_wV h goA y_M_pair kM_62 ⟨by decide, by decide⟩ rfl rfl) (oM_0 ad ca) rfl rfl (Nat.le_of_ble_eq_true rfl) dM_more_80 rfl (fun v40 S41 => ?_)
    refine x_cVi (nx := 86) (rest := []) (As := [.int v40]) h (m_M_input N v40 S41) (x_wV h goA y_M_input kM_227 ⟨by decide, by decide⟩ rfl rfl) (oM_0 ad ca) rfl rfl (Nat.le_of_ble_eq_true rfl) dM_more_83 rfl (fun v42 S43 => ?_)
    refine x_istore (nx := 88) (i := 6) (lv' := [(6, .int v42), (5, .int w0), (0, .ref (ad 0)), (2, .int a2), (3, .int a3), (4, .int a4)]) h dM_more_86 (by decide) rfl rfl ?_
    refine x_iload_n (nx := 89) (i := 2) h dM_more_88 rfl 3 rfl rfl ?_
    refine x_bipush (nx := 91) (v := (6 : Int32)) h dM_more_89 (by decide) rfl ?_
    refine x_icmp_eq (nx := 94) (tgt := 101) h dM_more_91 (by decide) rfl ?_ ?_
    · exact x_sub [2, 0] rfl (j_M_more_101 h N v42 S43)
    · refine x_aload_n (nx := 95) (i := 0) h dM_more_94 rfl 2 rfl rfl ?_
      refine x_iload_n (nx := 96) (i := 2) h dM_more_95 rfl 3 rfl rfl ?_
      refine x_iload (nx := 98) (i := 6) h dM_more_96 0 rfl rfl ?_
      refine x_cVv (nx := 101) (rest := []) (As := [.int a2, .int v42]) h (m_M_put N a2 v42 S43) (x_wV h goA y_M_put kM_176 ⟨by decide, by decide⟩ rfl rfl) (oM_0 ad ca) rfl rfl (Nat.le_of_ble_eq_true rfl) dM_more_98 rfl (fun v44 S45 => ?_)
      exact x_sub [2, 0] rfl (j_M_more_101 h N v42 S45)
set_option maxHeartbeats 4000000 in
set_option maxRecDepth 100000 in
theorem j_M_more_45 {l : Launch} {D : va_G} {ad : Nat → Nat} {ca : Nat → ClassId} {p : Program} {e : Env} {s : State} {m : MethodId} {args : Array Value} {below : List Frame} {meth : Method} {c : Code} {A : Nat → Prop} (h : xC p s m args meth c cM_more 8 (Cond.code yM_more cM_more 8 none :: wA) nW yM_more.cls none D clA (tysM ca) A) (N : Nat) (a1 a2 a3 : Int32) (S : xSt) : xJ p l e rm_M_more s m args below meth c D clA (tysM ca) (cellsM ad ca) A false 8 45 [(0, .ref (ad 0)), (1, .int a1), (2, .int a2), (3, .int a3)] [] S (f_M_more_45 N a1 a2 a3 S) := by
  unfold f_M_more_45
  refine x_iload_n (nx := 46) (i := 1) h dM_more_45 rfl 1 rfl rfl ?_
  refine x_bipush (nx := 48) (v := (6 : Int32)) h dM_more_46 (by decide) rfl ?_
  refine x_ishr (nx := 49) h dM_more_48 rfl ?_
  refine x_iconst (nx := 50) (v := (1 : Int32)) h dM_more_49 (by decide) rfl ?_
  refine x_icmp_eq (nx := 53) (tgt := 54) h dM_more_50 (by decide) rfl ?_ ?_
  · refine x_iload_n (nx := 55) (i := 2) h dM_more_54 rfl 2 rfl rfl ?_
    refine x_iconst (nx := 56) (v := (1 : Int32)) h dM_more_55 (by decide) rfl ?_
    refine x_ishr (nx := 57) h dM_more_56 rfl ?_
    refine x_val (fun b1 => ?_)
    refine x_istore (nx := 59) (i := 4) (lv' := [(4, .int b1), (0, .ref (ad 0)), (1, .int a1), (2, .int a2), (3, .int a3)]) h dM_more_57 (by decide) rfl rfl ?_
    refine x_iload_n (nx := 60) (i := 2) h dM_more_59 rfl 3 rfl rfl ?_
    refine x_iconst (nx := 61) (v := (2 : Int32)) h dM_more_60 (by decide) rfl ?_
    refine x_irem (nx := 62) h dM_more_61 (by decide) rfl ?_
    refine x_iconst (nx := 63) (v := (1 : Int32)) h dM_more_62 (by decide) rfl ?_
    refine x_icmp_ne (nx := 66) (tgt := 70) h dM_more_63 (by decide) rfl ?_ ?_
    · refine x_iconst (nx := 71) (v := (0 : Int32)) h dM_more_70 (by decide) rfl ?_
      exact x_sub [1, 3, 4, 0] rfl (j_M_more_71 h N a2 a3 b1 (0 : Int32) S)
    · refine x_iconst (nx := 67) (v := (1 : Int32)) h dM_more_66 (by decide) rfl ?_
      refine x_goto (tgt := 71) h dM_more_67 (by decide) ?_
      exact x_sub [1, 3, 4, 0] rfl (j_M_more_71 h N a2 a3 b1 (1 : Int32) S)
  · exact x_vret h dM_more_53
set_option maxHeartbeats 4000000 in
set_option maxRecDepth 100000 in
theorem j_M_more_42 {l : Launch} {D : va_G} {ad : Nat → Nat} {ca : Nat → ClassId} {p : Program} {e : Env} {s : State} {m : MethodId} {args : Array Value} {below : List Frame} {meth : Method} {c : Code} {A : Nat → Prop} (h : xC p s m args meth c cM_more 8 (Cond.code yM_more cM_more 8 none :: wA) nW yM_more.cls none D clA (tysM ca) A) (N : Nat) (a1 a2 a3 w1 w2 : Int32) (S : xSt) : xJ p l e rm_M_more s m args below meth c D clA (tysM ca) (cellsM ad ca) A false 8 42 [(0, .ref (ad 0)), (1, .int a1), (2, .int a2), (3, .int a3)] [.int w2, .int w1, .ref (ad 0)] S (f_M_more_42 N a1 a2 a3 w1 w2 S) := by
  unfold f_M_more_42
  refine x_cVv (nx := 45) (rest := []) (As := [.int w1, .int w2]) h (m_M_move N w1 w2 S) (x_wV h goA y_M_move kM_242 ⟨by decide, by decide⟩ rfl rfl) (oM_0 ad ca) rfl rfl (Nat.le_of_ble_eq_true rfl) dM_more_42 rfl (fun v1 S2 => ?_)
  exact x_sub [0, 1, 2, 3] rfl (j_M_more_45 h N a1 a2 a3 S2)
set_option maxHeartbeats 4000000 in
set_option maxRecDepth 100000 in
theorem m_M_more {l : Launch} {D : va_G} {ad : Nat → Nat} {ca : Nat → ClassId} (N : Nat) (a1 : Int32) (S : xSt) : xM l D clA (tysM ca) (cellsM ad ca) nW yM_more (Cond.code yM_more cM_more 8 none :: wA) rm_M_more false [.ref (ad 0), .int a1] S (f_M_more N a1 S) := by
  refine x_met (cc := cM_more) (maxL := 8) (ret := none) (by decide) rfl [.ref (ad 0), .int a1] (lv0 := [(0, .ref (ad 0)), (1, .int a1)]) (Nat.le_of_ble_eq_true rfl) rfl ?_
  intro p e s m args below meth c A h
  unfold f_M_more
  refine x_iload_n (nx := 1) (i := 1) h dM_more_0 rfl 1 rfl rfl ?_
  refine x_iconst (nx := 2) (v := (3 : Int32)) h dM_more_1 (by decide) rfl ?_
  refine x_ishr (nx := 3) h dM_more_2 rfl ?_
  refine x_bipush (nx := 5) (v := (7 : Int32)) h dM_more_3 (by decide) rfl ?_
  refine x_iand (nx := 6) h dM_more_5 rfl ?_
  refine x_val (fun b1 => ?_)
  refine x_istore_n (nx := 7) (i := 2) (lv' := [(2, .int b1), (0, .ref (ad 0)), (1, .int a1)]) h dM_more_6 rfl (by decide) rfl rfl ?_
  refine x_iload_n (nx := 8) (i := 1) h dM_more_7 rfl 2 rfl rfl ?_
  refine x_bipush (nx := 10) (v := (7 : Int32)) h dM_more_8 (by decide) rfl ?_
  refine x_iand (nx := 11) h dM_more_10 rfl ?_
  refine x_val (fun b2 => ?_)
  refine x_istore_n (nx := 12) (i := 3) (lv' := [(3, .int b2), (2, .int b1), (0, .ref (ad 0)), (1, .int a1)]) h dM_more_11 rfl (by decide) rfl rfl ?_
  refine x_iload_n (nx := 13) (i := 1) h dM_more_12 rfl 3 rfl rfl ?_
  refine x_bipush (nx := 15) (v := (6 : Int32)) h dM_more_13 (by decide) rfl ?_
  refine x_ishr (nx := 16) h dM_more_15 rfl ?_
  refine x_iconst (nx := 17) (v := (2 : Int32)) h dM_more_16 (by decide) rfl ?_
  refine x_icmp_ne (nx := 20) (tgt := 45) h dM_more_17 (by decide) rfl ?_ ?_
  · exact x_sub [2, 3, 1, 0] rfl (j_M_more_45 h N a1 b1 b2 S)
  · refine x_iload_n (nx := 21) (i := 2) h dM_more_20 rfl 1 rfl rfl ?_
    refine x_iconst (nx := 22) (v := (3 : Int32)) h dM_more_21 (by decide) rfl ?_
    refine x_icmp_le (nx := 25) (tgt := 45) h dM_more_22 (by decide) rfl ?_ ?_
    · exact x_sub [2, 3, 1, 0] rfl (j_M_more_45 h N a1 b1 b2 S)
    · refine x_iload_n (nx := 26) (i := 3) h dM_more_25 rfl 0 rfl rfl ?_
      refine x_iconst (nx := 27) (v := (2 : Int32)) h dM_more_26 (by decide) rfl ?_
      refine x_icmp_ge (nx := 30) (tgt := 45) h dM_more_27 (by decide) rfl ?_ ?_
      · exact x_sub [2, 3, 1, 0] rfl (j_M_more_45 h N a1 b1 b2 S)
      · refine x_aload_n (nx := 31) (i := 0) h dM_more_30 rfl 2 rfl rfl ?_
        refine x_iload_n (nx := 32) (i := 2) h dM_more_31 rfl 1 rfl rfl ?_
        refine x_iload_n (nx := 33) (i := 3) h dM_more_32 rfl 0 rfl rfl ?_
        refine x_iconst (nx := 34) (v := (1 : Int32)) h dM_more_33 (by decide) rfl ?_
        refine x_icmp_ne (nx := 37) (tgt := 41) h dM_more_34 (by decide) rfl ?_ ?_
        · refine x_iconst (nx := 42) (v := (0 : Int32)) h dM_more_41 (by decide) rfl ?_
          exact x_sub [2, 3, 1, 0] rfl (j_M_more_42 h N a1 b1 b2 b1 (0 : Int32) S)
        · refine x_iconst (nx := 38) (v := (1 : Int32)) h dM_more_37 (by decide) rfl ?_
          refine x_goto (tgt := 42) h dM_more_38 (by decide) ?_
          exact x_sub [2, 3, 1, 0] rfl (j_M_more_42 h N a1 b1 b2 b1 (1 : Int32) S)
set_option maxHeartbeats 4000000 in
set_option maxRecDepth 100000 in
theorem j_M_rotation_173 {l : Launch} {D : va_G} {ad : Nat → Nat} {ca : Nat → ClassId} {p : Program} {e : Env} {s : State} {m : MethodId} {args : Array Value} {below : List Frame} {meth : Method} {c : Code} {A : Nat → Prop} (h : xC p s m args meth c cM_rotation 7 (Cond.code yM_rotation cM_rotation 7 none :: wA) nW yM_rotation.cls none D clA (tysM ca) A) (N : Nat) (S : xSt) : xJ p l e rm_M_rotation s m args below meth c D clA (tysM ca) (cellsM ad ca) A false 7 173 [] [] S (f_M_rotation_173 N S) := by
  unfold f_M_rotation_173
  exact x_vret h dM_rotation_173
set_option maxHeartbeats 4000000 in
set_option maxRecDepth 100000 in
theorem j_M_rotation_165 {l : Launch} {D : va_G} {ad : Nat → Nat} {ca : Nat → ClassId} {p : Program} {e : Env} {s : State} {m : MethodId} {args : Array Value} {below : List Frame} {meth : Method} {c : Code} {A : Nat → Prop} (h : xC p s m args meth c cM_rotation 7 (Cond.code yM_rotation cM_rotation 7 none :: wA) nW yM_rotation.cls none D clA (tysM ca) A) (N : Nat) (a4 a6 : Int32) (S : xSt) : xJ p l e rm_M_rotation s m args below meth c D clA (tysM ca) (cellsM ad ca) A false 7 165 [(0, .ref (ad 0)), (4, .int a4), (6, .int a6)] [] S (f_M_rotation_165 N a4 a6 S) := by
  unfold f_M_rotation_165
  refine x_aload_n (nx := 166) (i := 0) h dM_rotation_165 rfl 0 rfl rfl ?_
  refine x_iload (nx := 168) (i := 4) h dM_rotation_166 1 rfl rfl ?_
  refine x_iload (nx := 170) (i := 6) h dM_rotation_168 2 rfl rfl ?_
  refine x_cVv (nx := 173) (rest := []) (As := [.int a4, .int a6]) h (m_M_put N a4 a6 S) (x_wV h goA y_M_put kM_176 ⟨by decide, by decide⟩ rfl rfl) (oM_0 ad ca) rfl rfl (Nat.le_of_ble_eq_true rfl) dM_rotation_170 rfl (fun v1 S2 => ?_)
  exact x_sub [] rfl (j_M_rotation_173 h N S2)
set_option maxHeartbeats 4000000 in
set_option maxRecDepth 100000 in
theorem j_M_rotation_151 {l : Launch} {D : va_G} {ad : Nat → Nat} {ca : Nat → ClassId} {p : Program} {e : Env} {s : State} {m : MethodId} {args : Array Value} {below : List Frame} {meth : Method} {c : Code} {A : Nat → Prop} (h : xC p s m args meth c cM_rotation 7 (Cond.code yM_rotation cM_rotation 7 none :: wA) nW yM_rotation.cls none D clA (tysM ca) A) (N : Nat) (a4 a6 : Int32) (S : xSt) : xJ p l e rm_M_rotation s m args below meth c D clA (tysM ca) (cellsM ad ca) A false 7 151 [(0, .ref (ad 0)), (4, .int a4), (6, .int a6)] [] S (f_M_rotation_151 N a4 a6 S) := by
  unfold f_M_rotation_151
  refine x_aload_n (nx := 152) (i := 0) h dM_rotation_151 rfl 0 rfl rfl ?_
  refine x_get (nx := 155) h (gM_0_4 ad ca _) (List.mem_cons_of_mem _ kM_59) dM_rotation_152 rfl ?_
  refine x_if_eq (nx := 158) (tgt := 165) h dM_rotation_155 (by decide) rfl ?_ ?_
  · exact x_sub [0, 1, 2] rfl (j_M_rotation_165 h N a4 a6 S)
  · refine x_iload (nx := 160) (i := 4) h dM_rotation_158 1 rfl rfl ?_
    refine x_bipush (nx := 162) (v := (6 : Int32)) h dM_rotation_160 (by decide) rfl ?_
    refine x_icmp_eq (nx := 165) (tgt := 173) h dM_rotation_162 (by decide) rfl ?_ ?_
    · exact x_sub [] rfl (j_M_rotation_173 h N S)
    · exact x_sub [0, 1, 2] rfl (j_M_rotation_165 h N a4 a6 S)
set_option maxHeartbeats 4000000 in
set_option maxRecDepth 100000 in
theorem j_M_rotation_134 {l : Launch} {D : va_G} {ad : Nat → Nat} {ca : Nat → ClassId} {p : Program} {e : Env} {s : State} {m : MethodId} {args : Array Value} {below : List Frame} {meth : Method} {c : Code} {A : Nat → Prop} (h : xC p s m args meth c cM_rotation 7 (Cond.code yM_rotation cM_rotation 7 none :: wA) nW yM_rotation.cls none D clA (tysM ca) A) (N : Nat) (a4 w0 : Int32) (S : xSt) : xJ p l e rm_M_rotation s m args below meth c D clA (tysM ca) (cellsM ad ca) A false 7 134 [(0, .ref (ad 0)), (4, .int a4)] [.int w0] S (f_M_rotation_134 N a4 w0 S) := by
  unfold f_M_rotation_134
  refine x_istore (nx := 136) (i := 6) (lv' := [(6, .int w0), (0, .ref (ad 0)), (4, .int a4)]) h dM_rotation_134 (by decide) rfl rfl ?_
  refine x_aload_n (nx := 137) (i := 0) h dM_rotation_136 rfl 1 rfl rfl ?_
  refine x_get (nx := 140) h (gM_0_4 ad ca _) (List.mem_cons_of_mem _ kM_59) dM_rotation_137 rfl ?_
  refine x_if_eq (nx := 143) (tgt := 151) h dM_rotation_140 (by decide) rfl ?_ ?_
  · exact x_sub [1, 2, 0] rfl (j_M_rotation_151 h N a4 w0 S)
  · refine x_aload_n (nx := 144) (i := 0) h dM_rotation_143 rfl 1 rfl rfl ?_
    refine x_bipush (nx := 146) (v := (6 : Int32)) h dM_rotation_144 (by decide) rfl ?_
    refine x_iload (nx := 148) (i := 6) h dM_rotation_146 0 rfl rfl ?_
    refine x_cVv (nx := 151) (rest := []) (As := [.int (6 : Int32), .int w0]) h (m_M_put N (6 : Int32) w0 S) (x_wV h goA y_M_put kM_176 ⟨by decide, by decide⟩ rfl rfl) (oM_0 ad ca) rfl rfl (Nat.le_of_ble_eq_true rfl) dM_rotation_148 rfl (fun v1 S2 => ?_)
    exact x_sub [1, 2, 0] rfl (j_M_rotation_151 h N a4 w0 S2)
set_option maxHeartbeats 4000000 in
set_option maxRecDepth 100000 in
theorem j_M_rotation_80 {l : Launch} {D : va_G} {ad : Nat → Nat} {ca : Nat → ClassId} {p : Program} {e : Env} {s : State} {m : MethodId} {args : Array Value} {below : List Frame} {meth : Method} {c : Code} {A : Nat → Prop} (h : xC p s m args meth c cM_rotation 7 (Cond.code yM_rotation cM_rotation 7 none :: wA) nW yM_rotation.cls none D clA (tysM ca) A) (N : Nat) (a2 a3 a4 w1 : Int32) (S : xSt) : xJ p l e rm_M_rotation s m args below meth c D clA (tysM ca) (cellsM ad ca) A false 7 80 [(0, .ref (ad 0)), (2, .int a2), (3, .int a3), (4, .int a4)] [.int w1, .ref (ad 0)] S (f_M_rotation_80 N a2 a3 a4 w1 S) := by
  unfold f_M_rotation_80
  refine x_cVi (nx := 83) (rest := []) (As := [.int w1]) h (m_M_get N w1 S) (x_wV h goA y_M_get kM_173 ⟨by decide, by decide⟩ rfl rfl) (oM_0 ad ca) rfl rfl (Nat.le_of_ble_eq_true rfl) dM_rotation_80 rfl (fun v1 S2 => ?_)
  refine x_istore (nx := 85) (i := 5) (lv' := [(5, .int v1), (0, .ref (ad 0)), (2, .int a2), (3, .int a3), (4, .int a4)]) h dM_rotation_83 (by decide) rfl rfl ?_
  refine x_iload_n (nx := 86) (i := 2) h dM_rotation_85 rfl 2 rfl rfl ?_
  refine x_iconst (nx := 87) (v := (1 : Int32)) h dM_rotation_86 (by decide) rfl ?_
  refine x_icmp_ne (nx := 90) (tgt := 98) h dM_rotation_87 (by decide) rfl ?_ ?_
  · refine x_iload_n (nx := 99) (i := 2) h dM_rotation_98 rfl 2 rfl rfl ?_
    refine x_if_ne (nx := 102) (tgt := 112) h dM_rotation_99 (by decide) rfl ?_ ?_
    · refine x_iload_n (nx := 113) (i := 2) h dM_rotation_112 rfl 2 rfl rfl ?_
      refine x_iconst (nx := 114) (v := (2 : Int32)) h dM_rotation_113 (by decide) rfl ?_
      refine x_icmp_ne (nx := 117) (tgt := 128) h dM_rotation_114 (by decide) rfl ?_ ?_
      · refine x_iload (nx := 130) (i := 5) h dM_rotation_128 0 rfl rfl ?_
        refine x_iconst (nx := 131) (v := (1 : Int32)) h dM_rotation_130 (by decide) rfl ?_
        refine x_iload_n (nx := 132) (i := 3) h dM_rotation_131 rfl 3 rfl rfl ?_
        refine x_ishl (nx := 133) h dM_rotation_132 rfl ?_
        refine x_ior (nx := 134) h dM_rotation_133 rfl ?_
        exact x_sub [1, 4] rfl (j_M_rotation_134 h N a4 (v1 ||| ((1 : Int32) <<< (a3 &&& 31))) S2)
      · refine x_iload (nx := 119) (i := 5) h dM_rotation_117 0 rfl rfl ?_
        refine x_iconst (nx := 120) (v := (1 : Int32)) h dM_rotation_119 (by decide) rfl ?_
        refine x_iload_n (nx := 121) (i := 3) h dM_rotation_120 rfl 3 rfl rfl ?_
        refine x_ishl (nx := 122) h dM_rotation_121 rfl ?_
        refine x_iconst (nx := 123) (v := (-1 : Int32)) h dM_rotation_122 (by decide) rfl ?_
        refine x_ixor (nx := 124) h dM_rotation_123 rfl ?_
        refine x_iand (nx := 125) h dM_rotation_124 rfl ?_
        refine x_goto (tgt := 134) h dM_rotation_125 (by decide) ?_
        exact x_sub [1, 4] rfl (j_M_rotation_134 h N a4 (v1 &&& (((1 : Int32) <<< (a3 &&& 31)) ^^^ (-1 : Int32))) S2)
    · refine x_aload_n (nx := 103) (i := 0) h dM_rotation_102 rfl 1 rfl rfl ?_
      refine x_iload_n (nx := 104) (i := 3) h dM_rotation_103 rfl 3 rfl rfl ?_
      refine x_iload (nx := 106) (i := 5) h dM_rotation_104 0 rfl rfl ?_
      refine x_cVi (nx := 109) (rest := []) (As := [.int a3, .int v1]) h (m_M_turned N a3 v1 S2) (x_wV h goA y_M_turned kM_239 ⟨by decide, by decide⟩ rfl rfl) (oM_0 ad ca) rfl rfl (Nat.le_of_ble_eq_true rfl) dM_rotation_106 rfl (fun v3 S4 => ?_)
      refine x_goto (tgt := 134) h dM_rotation_109 (by decide) ?_
      exact x_sub [1, 4] rfl (j_M_rotation_134 h N a4 v3 S4)
  · refine x_aload_n (nx := 91) (i := 0) h dM_rotation_90 rfl 1 rfl rfl ?_
    refine x_iload_n (nx := 92) (i := 3) h dM_rotation_91 rfl 3 rfl rfl ?_
    refine x_iload (nx := 94) (i := 5) h dM_rotation_92 0 rfl rfl ?_
    refine x_cVv (nx := 97) (rest := []) (As := [.int a3, .int v1]) h (m_M_bit N a3 v1 S2) (x_wV h goA y_M_bit kM_236 ⟨by decide, by decide⟩ rfl rfl) (oM_0 ad ca) rfl rfl (Nat.le_of_ble_eq_true rfl) dM_rotation_94 rfl (fun v5 S6 => ?_)
    exact x_vret h dM_rotation_97
set_option maxHeartbeats 4000000 in
set_option maxRecDepth 100000 in
theorem j_M_rotation_65 {l : Launch} {D : va_G} {ad : Nat → Nat} {ca : Nat → ClassId} {p : Program} {e : Env} {s : State} {m : MethodId} {args : Array Value} {below : List Frame} {meth : Method} {c : Code} {A : Nat → Prop} (h : xC p s m args meth c cM_rotation 7 (Cond.code yM_rotation cM_rotation 7 none :: wA) nW yM_rotation.cls none D clA (tysM ca) A) (N : Nat) (a2 a3 a4 : Int32) (S : xSt) : xJ p l e rm_M_rotation s m args below meth c D clA (tysM ca) (cellsM ad ca) A false 7 65 [(0, .ref (ad 0)), (2, .int a2), (3, .int a3), (4, .int a4)] [] S (f_M_rotation_65 N a2 a3 a4 S) := by
  unfold f_M_rotation_65
  refine x_aload_n (nx := 66) (i := 0) h dM_rotation_65 rfl 0 rfl rfl ?_
  refine x_aload_n (nx := 67) (i := 0) h dM_rotation_66 rfl 0 rfl rfl ?_
  refine x_get (nx := 70) h (gM_0_4 ad ca _) (List.mem_cons_of_mem _ kM_59) dM_rotation_67 rfl ?_
  refine x_if_eq (nx := 73) (tgt := 78) h dM_rotation_70 (by decide) rfl ?_ ?_
  · refine x_iload (nx := 80) (i := 4) h dM_rotation_78 3 rfl rfl ?_
    exact x_sub [0, 1, 2, 3] rfl (j_M_rotation_80 h N a2 a3 a4 a4 S)
  · refine x_bipush (nx := 75) (v := (6 : Int32)) h dM_rotation_73 (by decide) rfl ?_
    refine x_goto (tgt := 80) h dM_rotation_75 (by decide) ?_
    exact x_sub [0, 1, 2, 3] rfl (j_M_rotation_80 h N a2 a3 a4 (6 : Int32) S)
set_option maxHeartbeats 4000000 in
set_option maxRecDepth 100000 in
theorem j_M_rotation_29 {l : Launch} {D : va_G} {ad : Nat → Nat} {ca : Nat → ClassId} {p : Program} {e : Env} {s : State} {m : MethodId} {args : Array Value} {below : List Frame} {meth : Method} {c : Code} {A : Nat → Prop} (h : xC p s m args meth c cM_rotation 7 (Cond.code yM_rotation cM_rotation 7 none :: wA) nW yM_rotation.cls none D clA (tysM ca) A) (N : Nat) (w0 : Int32) (S : xSt) : xJ p l e rm_M_rotation s m args below meth c D clA (tysM ca) (cellsM ad ca) A false 7 29 [(0, .ref (ad 0))] [.int w0] S (f_M_rotation_29 N w0 S) := by
  unfold f_M_rotation_29
  refine x_istore_n (nx := 30) (i := 1) (lv' := [(1, .int w0), (0, .ref (ad 0))]) h dM_rotation_29 rfl (by decide) rfl rfl ?_
  refine x_iload_n (nx := 31) (i := 1) h dM_rotation_30 rfl 0 rfl rfl ?_
  refine x_bipush (nx := 33) (v := (6 : Int32)) h dM_rotation_31 (by decide) rfl ?_
  refine x_ishr (nx := 34) h dM_rotation_33 rfl ?_
  refine x_val (fun b1 => ?_)
  refine x_istore_n (nx := 35) (i := 2) (lv' := [(2, .int b1), (1, .int w0), (0, .ref (ad 0))]) h dM_rotation_34 rfl (by decide) rfl rfl ?_
  refine x_iload_n (nx := 36) (i := 1) h dM_rotation_35 rfl 1 rfl rfl ?_
  refine x_iconst (nx := 37) (v := (3 : Int32)) h dM_rotation_36 (by decide) rfl ?_
  refine x_ishr (nx := 38) h dM_rotation_37 rfl ?_
  refine x_bipush (nx := 40) (v := (7 : Int32)) h dM_rotation_38 (by decide) rfl ?_
  refine x_iand (nx := 41) h dM_rotation_40 rfl ?_
  refine x_val (fun b2 => ?_)
  refine x_istore_n (nx := 42) (i := 3) (lv' := [(3, .int b2), (2, .int b1), (1, .int w0), (0, .ref (ad 0))]) h dM_rotation_41 rfl (by decide) rfl rfl ?_
  refine x_iload_n (nx := 43) (i := 1) h dM_rotation_42 rfl 2 rfl rfl ?_
  refine x_bipush (nx := 45) (v := (7 : Int32)) h dM_rotation_43 (by decide) rfl ?_
  refine x_iand (nx := 46) h dM_rotation_45 rfl ?_
  refine x_val (fun b3 => ?_)
  refine x_istore (nx := 48) (i := 4) (lv' := [(4, .int b3), (3, .int b2), (2, .int b1), (1, .int w0), (0, .ref (ad 0))]) h dM_rotation_46 (by decide) rfl rfl ?_
  refine x_aload_n (nx := 49) (i := 0) h dM_rotation_48 rfl 4 rfl rfl ?_
  refine x_get (nx := 52) h (gM_0_4 ad ca _) (List.mem_cons_of_mem _ kM_59) dM_rotation_49 rfl ?_
  refine x_if_ne (nx := 55) (tgt := 65) h dM_rotation_52 (by decide) rfl ?_ ?_
  · exact x_sub [4, 2, 1, 0] rfl (j_M_rotation_65 h N b1 b2 b3 S)
  · refine x_aload_n (nx := 56) (i := 0) h dM_rotation_55 rfl 4 rfl rfl ?_
    refine x_aload_n (nx := 57) (i := 0) h dM_rotation_56 rfl 4 rfl rfl ?_
    refine x_bipush (nx := 59) (v := (6 : Int32)) h dM_rotation_57 (by decide) rfl ?_
    refine x_cVi (nx := 62) (rest := [.ref (ad 0)]) (As := [.int (6 : Int32)]) h (m_M_pair N (6 : Int32) S) (x_wV h goA y_M_pair kM_62 ⟨by decide, by decide⟩ rfl rfl) (oM_0 ad ca) rfl rfl (Nat.le_of_ble_eq_true rfl) dM_rotation_59 rfl (fun v4 S5 => ?_)
    refine x_put (nx := 65) h (pM_0_6 ad ca _) (List.mem_cons_of_mem _ kM_77) dM_rotation_62 rfl (fun S6 => ?_)
    exact x_sub [4, 2, 1, 0] rfl (j_M_rotation_65 h N b1 b2 b3 S6)
set_option maxHeartbeats 4000000 in
set_option maxRecDepth 100000 in
theorem j_M_rotation_11 {l : Launch} {D : va_G} {ad : Nat → Nat} {ca : Nat → ClassId} {p : Program} {e : Env} {s : State} {m : MethodId} {args : Array Value} {below : List Frame} {meth : Method} {c : Code} {A : Nat → Prop} (h : xC p s m args meth c cM_rotation 7 (Cond.code yM_rotation cM_rotation 7 none :: wA) nW yM_rotation.cls none D clA (tysM ca) A) (N : Nat) (S : xSt) : xJ p l e rm_M_rotation s m args below meth c D clA (tysM ca) (cellsM ad ca) A false 7 11 [(0, .ref (ad 0))] [] S (f_M_rotation_11 N S) := by
  unfold f_M_rotation_11
  refine x_aload_n (nx := 12) (i := 0) h dM_rotation_11 rfl 0 rfl rfl ?_
  refine x_get (nx := 15) h (gM_0_4 ad ca _) (List.mem_cons_of_mem _ kM_59) dM_rotation_12 rfl ?_
  refine x_if_eq (nx := 18) (tgt := 25) h dM_rotation_15 (by decide) rfl ?_ ?_
  · refine x_aload_n (nx := 26) (i := 0) h dM_rotation_25 rfl 0 rfl rfl ?_
    refine x_cVi (nx := 29) (rest := []) (As := []) h (m_M_fetch N S) (x_wV h goA y_M_fetch kM_149 ⟨by decide, by decide⟩ rfl rfl) (oM_0 ad ca) rfl rfl (Nat.le_of_ble_eq_true rfl) dM_rotation_26 rfl (fun v1 S2 => ?_)
    exact x_sub [0] rfl (j_M_rotation_29 h N v1 S2)
  · refine x_aload_n (nx := 19) (i := 0) h dM_rotation_18 rfl 0 rfl rfl ?_
    refine x_cVi (nx := 22) (rest := []) (As := []) h (m_M_next N S) (x_wV h goA y_M_next kM_52 ⟨by decide, by decide⟩ rfl rfl) (oM_0 ad ca) rfl rfl (Nat.le_of_ble_eq_true rfl) dM_rotation_19 rfl (fun v3 S4 => ?_)
    refine x_goto (tgt := 29) h dM_rotation_22 (by decide) ?_
    exact x_sub [0] rfl (j_M_rotation_29 h N v3 S4)
set_option maxHeartbeats 4000000 in
set_option maxRecDepth 100000 in
theorem m_M_rotation {l : Launch} {D : va_G} {ad : Nat → Nat} {ca : Nat → ClassId} (N : Nat) (S : xSt) : xM l D clA (tysM ca) (cellsM ad ca) nW yM_rotation (Cond.code yM_rotation cM_rotation 7 none :: wA) rm_M_rotation false [.ref (ad 0)] S (f_M_rotation N S) := by
  refine x_met (cc := cM_rotation) (maxL := 7) (ret := none) (by decide) rfl [.ref (ad 0)] (lv0 := [(0, .ref (ad 0))]) (Nat.le_of_ble_eq_true rfl) rfl ?_
  intro p e s m args below meth c A h
  unfold f_M_rotation
  refine x_aload_n (nx := 1) (i := 0) h dM_rotation_0 rfl 0 rfl rfl ?_
  refine x_get (nx := 4) h (gM_0_4 ad ca _) (List.mem_cons_of_mem _ kM_59) dM_rotation_1 rfl ?_
  refine x_if_eq (nx := 7) (tgt := 11) h dM_rotation_4 (by decide) rfl ?_ ?_
  · exact x_sub [0] rfl (j_M_rotation_11 h N S)
  · refine x_aload_n (nx := 8) (i := 0) h dM_rotation_7 rfl 0 rfl rfl ?_
    refine x_cVv (nx := 11) (rest := []) (As := []) h (m_M_aim N S) (x_wV h goA y_M_aim kM_170 ⟨by decide, by decide⟩ rfl rfl) (oM_0 ad ca) rfl rfl (Nat.le_of_ble_eq_true rfl) dM_rotation_8 rfl (fun v1 S2 => ?_)
    exact x_sub [0] rfl (j_M_rotation_11 h N S2)
set_option maxHeartbeats 4000000 in
set_option maxRecDepth 100000 in
theorem j_M_jump_107 {l : Launch} {D : va_G} {ad : Nat → Nat} {ca : Nat → ClassId} {p : Program} {e : Env} {s : State} {m : MethodId} {args : Array Value} {below : List Frame} {meth : Method} {c : Code} {A : Nat → Prop} (h : xC p s m args meth c cM_jump 3 (Cond.code yM_jump cM_jump 3 none :: wA) nW yM_jump.cls none D clA (tysM ca) A) (N : Nat) (S : xSt) : xJ p l e rm_M_jump s m args below meth c D clA (tysM ca) (cellsM ad ca) A false 3 107 [] [] S (f_M_jump_107 N S) := by
  unfold f_M_jump_107
  exact x_vret h dM_jump_107
set_option maxHeartbeats 4000000 in
set_option maxRecDepth 100000 in
theorem j_M_jump_88 {l : Launch} {D : va_G} {ad : Nat → Nat} {ca : Nat → ClassId} {p : Program} {e : Env} {s : State} {m : MethodId} {args : Array Value} {below : List Frame} {meth : Method} {c : Code} {A : Nat → Prop} (h : xC p s m args meth c cM_jump 3 (Cond.code yM_jump cM_jump 3 none :: wA) nW yM_jump.cls none D clA (tysM ca) A) (N : Nat) (a2 : Int32) (S : xSt) : xJ p l e rm_M_jump s m args below meth c D clA (tysM ca) (cellsM ad ca) A false 3 88 [(0, .ref (ad 0)), (2, .int a2)] [] S (f_M_jump_88 N a2 S) := by
  unfold f_M_jump_88
  refine x_aload_n (nx := 89) (i := 0) h dM_jump_88 rfl 0 rfl rfl ?_
  refine x_get (nx := 92) h (gM_0_1 ad ca _) (List.mem_cons_of_mem _ kM_13) dM_jump_89 rfl ?_
  refine x_bipush (nx := 94) (v := (21 : Int32)) h dM_jump_92 (by decide) rfl ?_
  refine x_aload_n (nx := 95) (i := 0) h dM_jump_94 rfl 0 rfl rfl ?_
  refine x_get (nx := 98) h (gM_0_1 ad ca _) (List.mem_cons_of_mem _ kM_13) dM_jump_95 rfl ?_
  refine x_bipush (nx := 100) (v := (21 : Int32)) h dM_jump_98 (by decide) rfl ?_
  refine x_iald (nx := 101) h (aM_2 ad ca) dM_jump_100 rfl (fun v1 => ?_)
  refine x_iload_n (nx := 102) (i := 2) h dM_jump_101 rfl 1 rfl rfl ?_
  refine x_iadd (nx := 103) h dM_jump_102 rfl ?_
  refine x_ldc (nx := 105) (v := (65535 : Int32)) h (List.mem_cons_of_mem _ kM_44) dM_jump_103 rfl ?_
  refine x_iand (nx := 106) h dM_jump_105 rfl ?_
  refine x_iast (nx := 107) h (aM_2 ad ca) dM_jump_106 rfl (fun S2 => ?_)
  exact x_sub [] rfl (j_M_jump_107 h N S2)
set_option maxHeartbeats 4000000 in
set_option maxRecDepth 100000 in
theorem j_M_jump_48 {l : Launch} {D : va_G} {ad : Nat → Nat} {ca : Nat → ClassId} {p : Program} {e : Env} {s : State} {m : MethodId} {args : Array Value} {below : List Frame} {meth : Method} {c : Code} {A : Nat → Prop} (h : xC p s m args meth c cM_jump 3 (Cond.code yM_jump cM_jump 3 none :: wA) nW yM_jump.cls none D clA (tysM ca) A) (N : Nat) (a1 : Int32) (S : xSt) : xJ p l e rm_M_jump s m args below meth c D clA (tysM ca) (cellsM ad ca) A false 3 48 [(0, .ref (ad 0)), (1, .int a1)] [] S (f_M_jump_48 N a1 S) := by
  unfold f_M_jump_48
  refine x_aload_n (nx := 49) (i := 0) h dM_jump_48 rfl 0 rfl rfl ?_
  refine x_cVi (nx := 52) (rest := []) (As := []) h (m_M_next N S) (x_wV h goA y_M_next kM_52 ⟨by decide, by decide⟩ rfl rfl) (oM_0 ad ca) rfl rfl (Nat.le_of_ble_eq_true rfl) dM_jump_49 rfl (fun v1 S2 => ?_)
  refine x_cSi (nx := 55) (rest := []) (As := [.int v1]) h (m_M_signed N v1 S2) (x_wS h goA y_M_signed kM_74 ⟨by decide, by decide⟩ rfl rfl) rfl rfl (Nat.le_of_ble_eq_true rfl) dM_jump_52 rfl (fun v3 S4 => ?_)
  refine x_istore_n (nx := 56) (i := 2) (lv' := [(2, .int v3), (0, .ref (ad 0)), (1, .int a1)]) h dM_jump_55 rfl (by decide) rfl rfl ?_
  refine x_iload_n (nx := 57) (i := 1) h dM_jump_56 rfl 2 rfl rfl ?_
  refine x_iconst (nx := 58) (v := (2 : Int32)) h dM_jump_57 (by decide) rfl ?_
  refine x_icmp_ne (nx := 61) (tgt := 73) h dM_jump_58 (by decide) rfl ?_ ?_
  · refine x_iload_n (nx := 74) (i := 1) h dM_jump_73 rfl 2 rfl rfl ?_
    refine x_iconst (nx := 75) (v := (3 : Int32)) h dM_jump_74 (by decide) rfl ?_
    refine x_icmp_eq (nx := 78) (tgt := 88) h dM_jump_75 (by decide) rfl ?_ ?_
    · exact x_sub [1, 0] rfl (j_M_jump_88 h N v3 S4)
    · refine x_aload_n (nx := 79) (i := 0) h dM_jump_78 rfl 1 rfl rfl ?_
      refine x_iload_n (nx := 80) (i := 1) h dM_jump_79 rfl 2 rfl rfl ?_
      refine x_iconst (nx := 81) (v := (4 : Int32)) h dM_jump_80 (by decide) rfl ?_
      refine x_isub (nx := 82) h dM_jump_81 rfl ?_
      refine x_cVi (nx := 85) (rest := []) (As := [.int (a1 - (4 : Int32))]) h (m_M_cond N (a1 - (4 : Int32)) S4) (x_wV h goA y_M_cond kM_217 ⟨by decide, by decide⟩ rfl rfl) (oM_0 ad ca) rfl rfl (Nat.le_of_ble_eq_true rfl) dM_jump_82 rfl (fun v5 S6 => ?_)
      refine x_if_eq (nx := 88) (tgt := 107) h dM_jump_85 (by decide) rfl ?_ ?_
      · exact x_sub [] rfl (j_M_jump_107 h N S6)
      · exact x_sub [1, 0] rfl (j_M_jump_88 h N v3 S6)
  · refine x_aload_n (nx := 62) (i := 0) h dM_jump_61 rfl 1 rfl rfl ?_
    refine x_get (nx := 65) h (gM_0_1 ad ca _) (List.mem_cons_of_mem _ kM_13) dM_jump_62 rfl ?_
    refine x_iconst (nx := 66) (v := (2 : Int32)) h dM_jump_65 (by decide) rfl ?_
    refine x_iald (nx := 67) h (aM_2 ad ca) dM_jump_66 rfl (fun v7 => ?_)
    refine x_if_eq (nx := 70) (tgt := 107) h dM_jump_67 (by decide) rfl ?_ ?_
    · exact x_sub [] rfl (j_M_jump_107 h N S4)
    · refine x_goto (tgt := 88) h dM_jump_70 (by decide) ?_
      exact x_sub [1, 0] rfl (j_M_jump_88 h N v3 S4)
set_option maxHeartbeats 4000000 in
set_option maxRecDepth 100000 in
theorem m_M_jump {l : Launch} {D : va_G} {ad : Nat → Nat} {ca : Nat → ClassId} (N : Nat) (a1 : Int32) (S : xSt) : xM l D clA (tysM ca) (cellsM ad ca) nW yM_jump (Cond.code yM_jump cM_jump 3 none :: wA) rm_M_jump false [.ref (ad 0), .int a1] S (f_M_jump N a1 S) := by
  refine x_met (cc := cM_jump) (maxL := 3) (ret := none) (by decide) rfl [.ref (ad 0), .int a1] (lv0 := [(0, .ref (ad 0)), (1, .int a1)]) (Nat.le_of_ble_eq_true rfl) rfl ?_
  intro p e s m args below meth c A h
  unfold f_M_jump
  refine x_iload_n (nx := 1) (i := 1) h dM_jump_0 rfl 1 rfl rfl ?_
  refine x_if_ne (nx := 4) (tgt := 5) h dM_jump_1 (by decide) rfl ?_ ?_
  · refine x_iload_n (nx := 6) (i := 1) h dM_jump_5 rfl 1 rfl rfl ?_
    refine x_iconst (nx := 7) (v := (1 : Int32)) h dM_jump_6 (by decide) rfl ?_
    refine x_icmp_ne (nx := 10) (tgt := 25) h dM_jump_7 (by decide) rfl ?_ ?_
    · refine x_iload_n (nx := 26) (i := 1) h dM_jump_25 rfl 1 rfl rfl ?_
      refine x_iconst (nx := 27) (v := (2 : Int32)) h dM_jump_26 (by decide) rfl ?_
      refine x_icmp_ne (nx := 30) (tgt := 48) h dM_jump_27 (by decide) rfl ?_ ?_
      · exact x_sub [0, 1] rfl (j_M_jump_48 h N a1 S)
      · refine x_aload_n (nx := 31) (i := 0) h dM_jump_30 rfl 0 rfl rfl ?_
        refine x_get (nx := 34) h (gM_0_1 ad ca _) (List.mem_cons_of_mem _ kM_13) dM_jump_31 rfl ?_
        refine x_iconst (nx := 35) (v := (2 : Int32)) h dM_jump_34 (by decide) rfl ?_
        refine x_aload_n (nx := 36) (i := 0) h dM_jump_35 rfl 0 rfl rfl ?_
        refine x_get (nx := 39) h (gM_0_1 ad ca _) (List.mem_cons_of_mem _ kM_13) dM_jump_36 rfl ?_
        refine x_iconst (nx := 40) (v := (2 : Int32)) h dM_jump_39 (by decide) rfl ?_
        refine x_iald (nx := 41) h (aM_2 ad ca) dM_jump_40 rfl (fun v1 => ?_)
        refine x_iconst (nx := 42) (v := (1 : Int32)) h dM_jump_41 (by decide) rfl ?_
        refine x_isub (nx := 43) h dM_jump_42 rfl ?_
        refine x_sipush (nx := 46) (v := (255 : Int32)) h dM_jump_43 (by decide) rfl ?_
        refine x_iand (nx := 47) h dM_jump_46 rfl ?_
        refine x_iast (nx := 48) h (aM_2 ad ca) dM_jump_47 rfl (fun S2 => ?_)
        exact x_sub [0, 1] rfl (j_M_jump_48 h N a1 S2)
    · refine x_aload_n (nx := 11) (i := 0) h dM_jump_10 rfl 0 rfl rfl ?_
      refine x_iconst (nx := 12) (v := (0 : Int32)) h dM_jump_11 (by decide) rfl ?_
      refine x_bipush (nx := 14) (v := (8 : Int32)) h dM_jump_12 (by decide) rfl ?_
      refine x_cVv (nx := 17) (rest := []) (As := [.int (0 : Int32), .int (8 : Int32)]) h (m_M_change N (0 : Int32) (8 : Int32) S) (x_wV h goA y_M_change kM_214 ⟨by decide, by decide⟩ rfl rfl) (oM_0 ad ca) rfl rfl (Nat.le_of_ble_eq_true rfl) dM_jump_14 rfl (fun v3 S4 => ?_)
      refine x_aload_n (nx := 18) (i := 0) h dM_jump_17 rfl 0 rfl rfl ?_
      refine x_iconst (nx := 19) (v := (1 : Int32)) h dM_jump_18 (by decide) rfl ?_
      refine x_bipush (nx := 21) (v := (9 : Int32)) h dM_jump_19 (by decide) rfl ?_
      refine x_cVv (nx := 24) (rest := []) (As := [.int (1 : Int32), .int (9 : Int32)]) h (m_M_change N (1 : Int32) (9 : Int32) S4) (x_wV h goA y_M_change kM_214 ⟨by decide, by decide⟩ rfl rfl) (oM_0 ad ca) rfl rfl (Nat.le_of_ble_eq_true rfl) dM_jump_21 rfl (fun v5 S6 => ?_)
      exact x_vret h dM_jump_24
  · exact x_vret h dM_jump_4
set_option maxHeartbeats 4000000 in
set_option maxRecDepth 100000 in
theorem m_M_add {l : Launch} {D : va_G} {ad : Nat → Nat} {ca : Nat → ClassId} (N : Nat) (a1 : Int32) (S : xSt) : xM l D clA (tysM ca) (cellsM ad ca) nW yM_add (Cond.code yM_add cM_add 3 none :: wA) rm_M_add false [.ref (ad 0), .int a1] S (f_M_add N a1 S) := by
  refine x_met (cc := cM_add) (maxL := 3) (ret := none) (by decide) rfl [.ref (ad 0), .int a1] (lv0 := [(0, .ref (ad 0)), (1, .int a1)]) (Nat.le_of_ble_eq_true rfl) rfl ?_
  intro p e s m args below meth c A h
  unfold f_M_add
  refine x_aload_n (nx := 1) (i := 0) h dM_add_0 rfl 0 rfl rfl ?_
  refine x_aload_n (nx := 2) (i := 0) h dM_add_1 rfl 0 rfl rfl ?_
  refine x_cVi (nx := 5) (rest := [.ref (ad 0)]) (As := []) h (m_M_main N S) (x_wV h goA y_M_main kM_68 ⟨by decide, by decide⟩ rfl rfl) (oM_0 ad ca) rfl rfl (Nat.le_of_ble_eq_true rfl) dM_add_2 rfl (fun v1 S2 => ?_)
  refine x_iload_n (nx := 6) (i := 1) h dM_add_5 rfl 1 rfl rfl ?_
  refine x_iconst (nx := 7) (v := (0 : Int32)) h dM_add_6 (by decide) rfl ?_
  refine x_bipush (nx := 9) (v := (16 : Int32)) h dM_add_7 (by decide) rfl ?_
  refine x_cVi (nx := 12) (rest := []) (As := [.int v1, .int a1, .int (0 : Int32), .int (16 : Int32)]) h (m_M_sum N v1 a1 (0 : Int32) (16 : Int32) S2) (x_wV h goA y_M_sum kM_94 ⟨by decide, by decide⟩ rfl rfl) (oM_0 ad ca) rfl rfl (Nat.le_of_ble_eq_true rfl) dM_add_9 rfl (fun v3 S4 => ?_)
  refine x_istore_n (nx := 13) (i := 2) (lv' := [(2, .int v3), (0, .ref (ad 0)), (1, .int a1)]) h dM_add_12 rfl (by decide) rfl rfl ?_
  refine x_aload_n (nx := 14) (i := 0) h dM_add_13 rfl 1 rfl rfl ?_
  refine x_iload_n (nx := 15) (i := 2) h dM_add_14 rfl 0 rfl rfl ?_
  refine x_cVv (nx := 18) (rest := []) (As := [.int v3]) h (m_M_setMain N v3 S4) (x_wV h goA y_M_setMain kM_71 ⟨by decide, by decide⟩ rfl rfl) (oM_0 ad ca) rfl rfl (Nat.le_of_ble_eq_true rfl) dM_add_15 rfl (fun v5 S6 => ?_)
  refine x_aload_n (nx := 19) (i := 0) h dM_add_18 rfl 1 rfl rfl ?_
  refine x_get (nx := 22) h (gM_0_1 ad ca _) (List.mem_cons_of_mem _ kM_13) dM_add_19 rfl ?_
  refine x_iconst (nx := 23) (v := (1 : Int32)) h dM_add_22 (by decide) rfl ?_
  refine x_aload_n (nx := 24) (i := 0) h dM_add_23 rfl 1 rfl rfl ?_
  refine x_get (nx := 27) h (gM_0_1 ad ca _) (List.mem_cons_of_mem _ kM_13) dM_add_24 rfl ?_
  refine x_iconst (nx := 28) (v := (1 : Int32)) h dM_add_27 (by decide) rfl ?_
  refine x_iald (nx := 29) h (aM_2 ad ca) dM_add_28 rfl (fun v7 => ?_)
  refine x_sipush (nx := 32) (v := (196 : Int32)) h dM_add_29 (by decide) rfl ?_
  refine x_iand (nx := 33) h dM_add_32 rfl ?_
  refine x_iload_n (nx := 34) (i := 2) h dM_add_33 rfl 0 rfl rfl ?_
  refine x_bipush (nx := 36) (v := (8 : Int32)) h dM_add_34 (by decide) rfl ?_
  refine x_ishr (nx := 37) h dM_add_36 rfl ?_
  refine x_bipush (nx := 39) (v := (40 : Int32)) h dM_add_37 (by decide) rfl ?_
  refine x_iand (nx := 40) h dM_add_39 rfl ?_
  refine x_ior (nx := 41) h dM_add_40 rfl ?_
  refine x_aload_n (nx := 42) (i := 0) h dM_add_41 rfl 1 rfl rfl ?_
  refine x_iconst (nx := 43) (v := (0 : Int32)) h dM_add_42 (by decide) rfl ?_
  refine x_cVi (nx := 46) (rest := [.int ((v7 &&& (196 : Int32)) ||| ((v3 >>> ((8 : Int32) &&& 31)) &&& (40 : Int32))), .int (1 : Int32), .ref (ad 2)]) (As := [.int (0 : Int32)]) h (m_M_rest N (0 : Int32) S6) (x_wV h goA y_M_rest kM_101 ⟨by decide, by decide⟩ rfl rfl) (oM_0 ad ca) rfl rfl (Nat.le_of_ble_eq_true rfl) dM_add_43 rfl (fun v8 S9 => ?_)
  refine x_bipush (nx := 48) (v := (-5 : Int32)) h dM_add_46 (by decide) rfl ?_
  refine x_iand (nx := 49) h dM_add_48 rfl ?_
  refine x_ior (nx := 50) h dM_add_49 rfl ?_
  refine x_iast (nx := 51) h (aM_2 ad ca) dM_add_50 rfl (fun S10 => ?_)
  exact x_vret h dM_add_51
