set_option maxHeartbeats 4000000 in
set_option maxRecDepth 100000 in
theorem j_P_next_292 {l : Launch} {D : va_G} {ad : Nat → Nat} {ca : Nat → ClassId} {p : Program} {e : Env} {s : State} {m : MethodId} {args : Array Value} {below : List Frame} {meth : Method} {c : Code} {A : Nat → Prop} (h : xC p s m args meth c cP_next 5 (Cond.code yP_next cP_next 5 none :: wA) nW yP_next.cls none D clA (tysC ca) A) (N : Nat) (S : xSt) : xJ p l e rm_P_next s m args below meth c D clA (tysC ca) (cellsC ad ca) A false 5 292 [] [] S (f_P_next_292 N S) := by
  unfold f_P_next_292
  exact x_vret h dP_next_292
set_option maxHeartbeats 4000000 in
set_option maxRecDepth 100000 in
theorem j_P_next_114 {l : Launch} {D : va_G} {ad : Nat → Nat} {ca : Nat → ClassId} {p : Program} {e : Env} {s : State} {m : MethodId} {args : Array Value} {below : List Frame} {meth : Method} {c : Code} {A : Nat → Prop} (h : xC p s m args meth c cP_next 5 (Cond.code yP_next cP_next 5 none :: wA) nW yP_next.cls none D clA (tysC ca) A) (N : Nat) (a2 : Int32) (S : xSt) : xJ p l e rm_P_next s m args below meth c D clA (tysC ca) (cellsC ad ca) A false 5 114 [(0, .ref (ad 2)), (2, .int a2)] [] S (f_P_next_114 N a2 S) := by
  unfold f_P_next_114
  refine x_iload_n (nx := 115) (i := 2) h dP_next_114 rfl 1 rfl rfl ?_
  refine x_iconst (nx := 116) (v := (3 : Int32)) h dP_next_115 (by decide) rfl ?_
  refine x_ishr (nx := 117) h dP_next_116 rfl ?_
  refine x_bipush (nx := 119) (v := (7 : Int32)) h dP_next_117 (by decide) rfl ?_
  refine x_iand (nx := 120) h dP_next_119 rfl ?_
  refine x_val (fun b1 => ?_)
  refine x_istore_n (nx := 121) (i := 3) (lv' := [(3, .int b1), (0, .ref (ad 2)), (2, .int a2)]) h dP_next_120 rfl (by decide) rfl rfl ?_
  refine x_iload_n (nx := 122) (i := 2) h dP_next_121 rfl 2 rfl rfl ?_
  refine x_bipush (nx := 124) (v := (7 : Int32)) h dP_next_122 (by decide) rfl ?_
  refine x_iand (nx := 125) h dP_next_124 rfl ?_
  refine x_val (fun b2 => ?_)
  refine x_istore (nx := 127) (i := 4) (lv' := [(4, .int b2), (3, .int b1), (0, .ref (ad 2)), (2, .int a2)]) h dP_next_125 (by decide) rfl rfl ?_
  refine x_iload_n (nx := 128) (i := 2) h dP_next_127 rfl 3 rfl rfl ?_
  refine x_sipush (nx := 131) (v := (203 : Int32)) h dP_next_128 (by decide) rfl ?_
  refine x_icmp_ne (nx := 134) (tgt := 141) h dP_next_131 (by decide) rfl ?_ ?_
  · refine x_iload_n (nx := 142) (i := 2) h dP_next_141 rfl 3 rfl rfl ?_
    refine x_sipush (nx := 145) (v := (237 : Int32)) h dP_next_142 (by decide) rfl ?_
    refine x_icmp_ne (nx := 148) (tgt := 168) h dP_next_145 (by decide) rfl ?_ ?_
    · refine x_iload_n (nx := 169) (i := 2) h dP_next_168 rfl 3 rfl rfl ?_
      refine x_bipush (nx := 171) (v := (118 : Int32)) h dP_next_169 (by decide) rfl ?_
      refine x_icmp_ne (nx := 174) (tgt := 185) h dP_next_171 (by decide) rfl ?_ ?_
      · refine x_iload_n (nx := 186) (i := 2) h dP_next_185 rfl 3 rfl rfl ?_
        refine x_bipush (nx := 188) (v := (64 : Int32)) h dP_next_186 (by decide) rfl ?_
        refine x_icmp_ge (nx := 191) (tgt := 201) h dP_next_188 (by decide) rfl ?_ ?_
        · refine x_iload_n (nx := 202) (i := 2) h dP_next_201 rfl 3 rfl rfl ?_
          refine x_sipush (nx := 205) (v := (128 : Int32)) h dP_next_202 (by decide) rfl ?_
          refine x_icmp_ge (nx := 208) (tgt := 222) h dP_next_205 (by decide) rfl ?_ ?_
          · refine x_iload_n (nx := 223) (i := 2) h dP_next_222 rfl 3 rfl rfl ?_
            refine x_sipush (nx := 226) (v := (192 : Int32)) h dP_next_223 (by decide) rfl ?_
            refine x_icmp_ge (nx := 229) (tgt := 243) h dP_next_226 (by decide) rfl ?_ ?_
            · refine x_iload (nx := 245) (i := 4) h dP_next_243 0 rfl rfl ?_
              refine x_iconst (nx := 246) (v := (1 : Int32)) h dP_next_245 (by decide) rfl ?_
              refine x_icmp_ne (nx := 249) (tgt := 257) h dP_next_246 (by decide) rfl ?_ ?_
              · refine x_iload (nx := 259) (i := 4) h dP_next_257 0 rfl rfl ?_
                refine x_iconst (nx := 260) (v := (3 : Int32)) h dP_next_259 (by decide) rfl ?_
                refine x_icmp_ne (nx := 263) (tgt := 271) h dP_next_260 (by decide) rfl ?_ ?_
                · refine x_iload (nx := 273) (i := 4) h dP_next_271 0 rfl rfl ?_
                  refine x_iconst (nx := 274) (v := (5 : Int32)) h dP_next_273 (by decide) rfl ?_
                  refine x_icmp_ne (nx := 277) (tgt := 285) h dP_next_274 (by decide) rfl ?_ ?_
                  · refine x_aload_n (nx := 286) (i := 0) h dP_next_285 rfl 2 rfl rfl ?_
                    refine x_iload_n (nx := 287) (i := 3) h dP_next_286 rfl 1 rfl rfl ?_
                    refine x_iload (nx := 289) (i := 4) h dP_next_287 0 rfl rfl ?_
                    refine x_cVv (nx := 292) (rest := []) (As := [.int b1, .int b2]) h (m_P_doLast N b1 b2 S) (x_wV h goA y_P_doLast kP_94 ⟨by decide, by decide⟩ rfl rfl) (oC_2 ad ca) rfl rfl (Nat.le_of_ble_eq_true rfl) dP_next_289 rfl (fun v3 S4 => ?_)
                    exact x_sub [] rfl (j_P_next_292 h N S4)
                  · refine x_aload_n (nx := 278) (i := 0) h dP_next_277 rfl 2 rfl rfl ?_
                    refine x_iload_n (nx := 279) (i := 3) h dP_next_278 rfl 1 rfl rfl ?_
                    refine x_cVv (nx := 282) (rest := []) (As := [.int b1]) h (m_P_pushOrCall N b1 S) (x_wV h goA y_P_pushOrCall kP_91 ⟨by decide, by decide⟩ rfl rfl) (oC_2 ad ca) rfl rfl (Nat.le_of_ble_eq_true rfl) dP_next_279 rfl (fun v5 S6 => ?_)
                    refine x_goto (tgt := 292) h dP_next_282 (by decide) ?_
                    exact x_sub [] rfl (j_P_next_292 h N S6)
                · refine x_aload_n (nx := 264) (i := 0) h dP_next_263 rfl 2 rfl rfl ?_
                  refine x_iload_n (nx := 265) (i := 3) h dP_next_264 rfl 1 rfl rfl ?_
                  refine x_cVv (nx := 268) (rest := []) (As := [.int b1]) h (m_P_doMixed N b1 S) (x_wV h goA y_P_doMixed kP_88 ⟨by decide, by decide⟩ rfl rfl) (oC_2 ad ca) rfl rfl (Nat.le_of_ble_eq_true rfl) dP_next_265 rfl (fun v7 S8 => ?_)
                  refine x_goto (tgt := 292) h dP_next_268 (by decide) ?_
                  exact x_sub [] rfl (j_P_next_292 h N S8)
              · refine x_aload_n (nx := 250) (i := 0) h dP_next_249 rfl 2 rfl rfl ?_
                refine x_iload_n (nx := 251) (i := 3) h dP_next_250 rfl 1 rfl rfl ?_
                refine x_cVv (nx := 254) (rest := []) (As := [.int b1]) h (m_P_popOrGo N b1 S) (x_wV h goA y_P_popOrGo kP_85 ⟨by decide, by decide⟩ rfl rfl) (oC_2 ad ca) rfl rfl (Nat.le_of_ble_eq_true rfl) dP_next_251 rfl (fun v9 S10 => ?_)
                refine x_goto (tgt := 292) h dP_next_254 (by decide) ?_
                exact x_sub [] rfl (j_P_next_292 h N S10)
            · refine x_aload_n (nx := 230) (i := 0) h dP_next_229 rfl 2 rfl rfl ?_
              refine x_iload_n (nx := 231) (i := 3) h dP_next_230 rfl 1 rfl rfl ?_
              refine x_aload_n (nx := 232) (i := 0) h dP_next_231 rfl 2 rfl rfl ?_
              refine x_iload (nx := 234) (i := 4) h dP_next_232 0 rfl rfl ?_
              refine x_cVi (nx := 237) (rest := [.int b1, .ref (ad 2)]) (As := [.int b2]) h (m_P_operand N b2 S) (x_wV h goA y_P_operand kP_76 ⟨by decide, by decide⟩ rfl rfl) (oC_2 ad ca) rfl rfl (Nat.le_of_ble_eq_true rfl) dP_next_234 rfl (fun v11 S12 => ?_)
              refine x_cVv (nx := 240) (rest := []) (As := [.int b1, .int v11]) h (m_P_operate N b1 v11 S12) (x_wV h goA y_P_operate kP_82 ⟨by decide, by decide⟩ rfl rfl) (oC_2 ad ca) rfl rfl (Nat.le_of_ble_eq_true rfl) dP_next_237 rfl (fun v13 S14 => ?_)
              refine x_goto (tgt := 292) h dP_next_240 (by decide) ?_
              exact x_sub [] rfl (j_P_next_292 h N S14)
          · refine x_aload_n (nx := 209) (i := 0) h dP_next_208 rfl 2 rfl rfl ?_
            refine x_iload_n (nx := 210) (i := 3) h dP_next_209 rfl 1 rfl rfl ?_
            refine x_aload_n (nx := 211) (i := 0) h dP_next_210 rfl 2 rfl rfl ?_
            refine x_iload (nx := 213) (i := 4) h dP_next_211 0 rfl rfl ?_
            refine x_cVi (nx := 216) (rest := [.int b1, .ref (ad 2)]) (As := [.int b2]) h (m_P_operand N b2 S) (x_wV h goA y_P_operand kP_76 ⟨by decide, by decide⟩ rfl rfl) (oC_2 ad ca) rfl rfl (Nat.le_of_ble_eq_true rfl) dP_next_213 rfl (fun v15 S16 => ?_)
            refine x_cVv (nx := 219) (rest := []) (As := [.int b1, .int v15]) h (m_P_setOperand N b1 v15 S16) (x_wV h goA y_P_setOperand kP_79 ⟨by decide, by decide⟩ rfl rfl) (oC_2 ad ca) rfl rfl (Nat.le_of_ble_eq_true rfl) dP_next_216 rfl (fun v17 S18 => ?_)
            refine x_goto (tgt := 292) h dP_next_219 (by decide) ?_
            exact x_sub [] rfl (j_P_next_292 h N S18)
        · refine x_aload_n (nx := 192) (i := 0) h dP_next_191 rfl 2 rfl rfl ?_
          refine x_iload_n (nx := 193) (i := 3) h dP_next_192 rfl 1 rfl rfl ?_
          refine x_iload (nx := 195) (i := 4) h dP_next_193 0 rfl rfl ?_
          refine x_cVv (nx := 198) (rest := []) (As := [.int b1, .int b2]) h (m_P_doFirst N b1 b2 S) (x_wV h goA y_P_doFirst kP_72 ⟨by decide, by decide⟩ rfl rfl) (oC_2 ad ca) rfl rfl (Nat.le_of_ble_eq_true rfl) dP_next_195 rfl (fun v19 S20 => ?_)
          refine x_goto (tgt := 292) h dP_next_198 (by decide) ?_
          exact x_sub [] rfl (j_P_next_292 h N S20)
      · refine x_aload_n (nx := 175) (i := 0) h dP_next_174 rfl 2 rfl rfl ?_
        refine x_get (nx := 178) h (gC_2_2 ad ca _) (List.mem_cons_of_mem _ kP_20) dP_next_175 rfl ?_
        refine x_bipush (nx := 180) (v := (25 : Int32)) h dP_next_178 (by decide) rfl ?_
        refine x_iconst (nx := 181) (v := (1 : Int32)) h dP_next_180 (by decide) rfl ?_
        refine x_iast (nx := 182) h (aC_10 ad ca) dP_next_181 rfl (fun S21 => ?_)
        refine x_goto (tgt := 292) h dP_next_182 (by decide) ?_
        exact x_sub [] rfl (j_P_next_292 h N S21)
    · refine x_aload_n (nx := 149) (i := 0) h dP_next_148 rfl 2 rfl rfl ?_
      refine x_get (nx := 152) h (gC_2_1 ad ca _) (List.mem_cons_of_mem _ kP_10) dP_next_149 rfl ?_
      refine x_bipush (nx := 154) (v := (6 : Int32)) h dP_next_152 (by decide) rfl ?_
      refine x_putN (nx := 157) h (pC_5_1 ad ca _) kP_29 dP_next_154 rfl (fun S22 => ?_)
      refine x_aload_n (nx := 158) (i := 0) h dP_next_157 rfl 2 rfl rfl ?_
      refine x_aload_n (nx := 159) (i := 0) h dP_next_158 rfl 2 rfl rfl ?_
      refine x_cVi (nx := 162) (rest := [.ref (ad 2)]) (As := []) h (m_P_fetch N S22) (x_wV h goA y_P_fetch kP_65 ⟨by decide, by decide⟩ rfl rfl) (oC_2 ad ca) rfl rfl (Nat.le_of_ble_eq_true rfl) dP_next_159 rfl (fun v23 S24 => ?_)
      refine x_cVv (nx := 165) (rest := []) (As := [.int v23]) h (m_P_more N v23 S24) (x_wV h goA y_P_more kP_68 ⟨by decide, by decide⟩ rfl rfl) (oC_2 ad ca) rfl rfl (Nat.le_of_ble_eq_true rfl) dP_next_162 rfl (fun v25 S26 => ?_)
      refine x_goto (tgt := 292) h dP_next_165 (by decide) ?_
      exact x_sub [] rfl (j_P_next_292 h N S26)
  · refine x_aload_n (nx := 135) (i := 0) h dP_next_134 rfl 2 rfl rfl ?_
    refine x_cVv (nx := 138) (rest := []) (As := []) h (m_P_rotate N S) (x_wV h goA y_P_rotate kP_62 ⟨by decide, by decide⟩ rfl rfl) (oC_2 ad ca) rfl rfl (Nat.le_of_ble_eq_true rfl) dP_next_135 rfl (fun v27 S28 => ?_)
    refine x_goto (tgt := 292) h dP_next_138 (by decide) ?_
    exact x_sub [] rfl (j_P_next_292 h N S28)
set_option maxHeartbeats 4000000 in
set_option maxRecDepth 100000 in
theorem j_P_next_59 {l : Launch} {D : va_G} {ad : Nat → Nat} {ca : Nat → ClassId} {p : Program} {e : Env} {s : State} {m : MethodId} {args : Array Value} {below : List Frame} {meth : Method} {c : Code} {A : Nat → Prop} (h : xC p s m args meth c cP_next 5 (Cond.code yP_next cP_next 5 none :: wA) nW yP_next.cls none D clA (tysC ca) A) (N : Nat) (S : xSt) : xJ p l e rm_P_next s m args below meth c D clA (tysC ca) (cellsC ad ca) A false 5 59 [(0, .ref (ad 2))] [] S (f_P_next_59 N S) := by
  unfold f_P_next_59
  refine x_aload_n (nx := 60) (i := 0) h dP_next_59 rfl 0 rfl rfl ?_
  refine x_get (nx := 63) h (gC_2_2 ad ca _) (List.mem_cons_of_mem _ kP_20) dP_next_60 rfl ?_
  refine x_bipush (nx := 65) (v := (25 : Int32)) h dP_next_63 (by decide) rfl ?_
  refine x_iald (nx := 66) h (aC_10 ad ca) dP_next_65 rfl (fun v1 => ?_)
  refine x_iconst (nx := 67) (v := (1 : Int32)) h dP_next_66 (by decide) rfl ?_
  refine x_icmp_ne (nx := 70) (tgt := 90) h dP_next_67 (by decide) rfl ?_ ?_
  · refine x_aload_n (nx := 91) (i := 0) h dP_next_90 rfl 0 rfl rfl ?_
    refine x_cVi (nx := 94) (rest := []) (As := []) h (m_P_fetchBehindPrefixes N S) (x_wV h goA y_P_fetchBehindPrefixes kP_49 ⟨by decide, by decide⟩ rfl rfl) (oC_2 ad ca) rfl rfl (Nat.le_of_ble_eq_true rfl) dP_next_91 rfl (fun v2 S3 => ?_)
    refine x_istore_n (nx := 95) (i := 2) (lv' := [(2, .int v2), (0, .ref (ad 2))]) h dP_next_94 rfl (by decide) rfl rfl ?_
    refine x_iload_n (nx := 96) (i := 2) h dP_next_95 rfl 0 rfl rfl ?_
    refine x_cSi (nx := 99) (rest := []) (As := [.int v2]) h (m_P_isPrefix N v2 S3) (x_wS h goA y_P_isPrefix kP_52 ⟨by decide, by decide⟩ rfl rfl) rfl rfl (Nat.le_of_ble_eq_true rfl) dP_next_96 rfl (fun v4 S5 => ?_)
    refine x_if_eq (nx := 102) (tgt := 103) h dP_next_99 (by decide) rfl ?_ ?_
    · refine x_iload_n (nx := 104) (i := 2) h dP_next_103 rfl 0 rfl rfl ?_
      refine x_cSi (nx := 107) (rest := []) (As := [.int v2]) h (m_P_hasM N v2 S5) (x_wS h goA y_P_hasM kP_56 ⟨by decide, by decide⟩ rfl rfl) rfl rfl (Nat.le_of_ble_eq_true rfl) dP_next_104 rfl (fun v6 S7 => ?_)
      refine x_if_eq (nx := 110) (tgt := 114) h dP_next_107 (by decide) rfl ?_ ?_
      · exact x_sub [1, 0] rfl (j_P_next_114 h N v2 S7)
      · refine x_aload_n (nx := 111) (i := 0) h dP_next_110 rfl 1 rfl rfl ?_
        refine x_cVv (nx := 114) (rest := []) (As := []) h (m_P_findM N S7) (x_wV h goA y_P_findM kP_59 ⟨by decide, by decide⟩ rfl rfl) (oC_2 ad ca) rfl rfl (Nat.le_of_ble_eq_true rfl) dP_next_111 rfl (fun v8 S9 => ?_)
        exact x_sub [1, 0] rfl (j_P_next_114 h N v2 S9)
    · exact x_vret h dP_next_102
  · refine x_aload_n (nx := 71) (i := 0) h dP_next_70 rfl 0 rfl rfl ?_
    refine x_get (nx := 74) h (gC_2_0 ad ca _) (List.mem_cons_of_mem _ kP_21) dP_next_71 rfl ?_
    refine x_aload_n (nx := 75) (i := 0) h dP_next_74 rfl 0 rfl rfl ?_
    refine x_get (nx := 78) h (gC_2_2 ad ca _) (List.mem_cons_of_mem _ kP_20) dP_next_75 rfl ?_
    refine x_bipush (nx := 80) (v := (21 : Int32)) h dP_next_78 (by decide) rfl ?_
    refine x_iald (nx := 81) h (aC_10 ad ca) dP_next_80 rfl (fun v10 => ?_)
    refine x_cVi (nx := 84) (rest := []) (As := [.int v10]) h (m_B_fetchAt N v10 S) (x_wV h goA y_B_fetchAt kP_42 ⟨by decide, by decide⟩ rfl rfl) (oC_1 ad ca) rfl rfl (Nat.le_of_ble_eq_true rfl) dP_next_81 rfl (fun v11 S12 => ?_)
    refine x_pop (nx := 85) h dP_next_84 rfl rfl ?_
    refine x_aload_n (nx := 86) (i := 0) h dP_next_85 rfl 0 rfl rfl ?_
    refine x_cVv (nx := 89) (rest := []) (As := []) h (m_P_refresh N S12) (x_wV h goA y_P_refresh kP_46 ⟨by decide, by decide⟩ rfl rfl) (oC_2 ad ca) rfl rfl (Nat.le_of_ble_eq_true rfl) dP_next_86 rfl (fun v13 S14 => ?_)
    exact x_vret h dP_next_89
set_option maxHeartbeats 4000000 in
set_option maxRecDepth 100000 in
theorem j_P_next_23 {l : Launch} {D : va_G} {ad : Nat → Nat} {ca : Nat → ClassId} {p : Program} {e : Env} {s : State} {m : MethodId} {args : Array Value} {below : List Frame} {meth : Method} {c : Code} {A : Nat → Prop} (h : xC p s m args meth c cP_next 5 (Cond.code yP_next cP_next 5 none :: wA) nW yP_next.cls none D clA (tysC ca) A) (N : Nat) (w0 : Int32) (S : xSt) : xJ p l e rm_P_next s m args below meth c D clA (tysC ca) (cellsC ad ca) A false 5 23 [(0, .ref (ad 2))] [.int w0] S (f_P_next_23 N w0 S) := by
  unfold f_P_next_23
  refine x_istore_n (nx := 24) (i := 1) (lv' := [(1, .int w0), (0, .ref (ad 2))]) h dP_next_23 rfl (by decide) rfl rfl ?_
  refine x_aload_n (nx := 25) (i := 0) h dP_next_24 rfl 1 rfl rfl ?_
  refine x_iconst (nx := 26) (v := (0 : Int32)) h dP_next_25 (by decide) rfl ?_
  refine x_putZ (nx := 29) h (pC_2_4 ad ca _) (List.mem_cons_of_mem _ kP_25) dP_next_26 rfl (fun S1 => ?_)
  refine x_aload_n (nx := 30) (i := 0) h dP_next_29 rfl 1 rfl rfl ?_
  refine x_get (nx := 33) h (gC_2_1 ad ca _) (List.mem_cons_of_mem _ kP_10) dP_next_30 rfl ?_
  refine x_bipush (nx := 35) (v := (6 : Int32)) h dP_next_33 (by decide) rfl ?_
  refine x_putN (nx := 38) h (pC_5_1 ad ca _) kP_29 dP_next_35 rfl (fun S2 => ?_)
  refine x_iload_n (nx := 39) (i := 1) h dP_next_38 rfl 0 rfl rfl ?_
  refine x_if_eq (nx := 42) (tgt := 59) h dP_next_39 (by decide) rfl ?_ ?_
  · exact x_sub [1] rfl (j_P_next_59 h N S2)
  · refine x_aload_n (nx := 43) (i := 0) h dP_next_42 rfl 1 rfl rfl ?_
    refine x_get (nx := 46) h (gC_2_0 ad ca _) (List.mem_cons_of_mem _ kP_21) dP_next_43 rfl ?_
    refine x_cVi (nx := 49) (rest := []) (As := []) h (m_B_tickOfFrame N S2) (x_wV h goA y_B_tickOfFrame kP_33 ⟨by decide, by decide⟩ rfl rfl) (oC_1 ad ca) rfl rfl (Nat.le_of_ble_eq_true rfl) dP_next_46 rfl (fun v3 S4 => ?_)
    refine x_bipush (nx := 51) (v := (32 : Int32)) h dP_next_49 (by decide) rfl ?_
    refine x_icmp_ge (nx := 54) (tgt := 59) h dP_next_51 (by decide) rfl ?_ ?_
    · exact x_sub [1] rfl (j_P_next_59 h N S4)
    · refine x_aload_n (nx := 55) (i := 0) h dP_next_54 rfl 1 rfl rfl ?_
      refine x_cVv (nx := 58) (rest := []) (As := []) h (m_P_takeInterrupt N S4) (x_wV h goA y_P_takeInterrupt kP_39 ⟨by decide, by decide⟩ rfl rfl) (oC_2 ad ca) rfl rfl (Nat.le_of_ble_eq_true rfl) dP_next_55 rfl (fun v5 S6 => ?_)
      exact x_vret h dP_next_58
set_option maxHeartbeats 4000000 in
set_option maxRecDepth 100000 in
theorem j_P_next_22 {l : Launch} {D : va_G} {ad : Nat → Nat} {ca : Nat → ClassId} {p : Program} {e : Env} {s : State} {m : MethodId} {args : Array Value} {below : List Frame} {meth : Method} {c : Code} {A : Nat → Prop} (h : xC p s m args meth c cP_next 5 (Cond.code yP_next cP_next 5 none :: wA) nW yP_next.cls none D clA (tysC ca) A) (N : Nat) (S : xSt) : xJ p l e rm_P_next s m args below meth c D clA (tysC ca) (cellsC ad ca) A false 5 22 [(0, .ref (ad 2))] [] S (f_P_next_22 N S) := by
  unfold f_P_next_22
  refine x_iconst (nx := 23) (v := (0 : Int32)) h dP_next_22 (by decide) rfl ?_
  exact x_sub [0] rfl (j_P_next_23 h N (0 : Int32) S)
set_option maxHeartbeats 4000000 in
set_option maxRecDepth 100000 in
theorem m_P_next {l : Launch} {D : va_G} {ad : Nat → Nat} {ca : Nat → ClassId} (N : Nat) (S : xSt) : xM l D clA (tysC ca) (cellsC ad ca) nW yP_next (Cond.code yP_next cP_next 5 none :: wA) rm_P_next false [.ref (ad 2)] S (f_P_next N S) := by
  refine x_met (cc := cP_next) (maxL := 5) (ret := none) (by decide) rfl [.ref (ad 2)] (lv0 := [(0, .ref (ad 2))]) (Nat.le_of_ble_eq_true rfl) rfl ?_
  intro p e s m args below meth c A h
  unfold f_P_next
  refine x_aload_n (nx := 1) (i := 0) h dP_next_0 rfl 0 rfl rfl ?_
  refine x_get (nx := 4) h (gC_2_4 ad ca _) (List.mem_cons_of_mem _ kP_25) dP_next_1 rfl ?_
  refine x_if_ne (nx := 7) (tgt := 22) h dP_next_4 (by decide) rfl ?_ ?_
  · exact x_sub [0] rfl (j_P_next_22 h N S)
  · refine x_aload_n (nx := 8) (i := 0) h dP_next_7 rfl 0 rfl rfl ?_
    refine x_get (nx := 11) h (gC_2_2 ad ca _) (List.mem_cons_of_mem _ kP_20) dP_next_8 rfl ?_
    refine x_bipush (nx := 13) (v := (22 : Int32)) h dP_next_11 (by decide) rfl ?_
    refine x_iald (nx := 14) h (aC_10 ad ca) dP_next_13 rfl (fun v1 => ?_)
    refine x_iconst (nx := 15) (v := (1 : Int32)) h dP_next_14 (by decide) rfl ?_
    refine x_icmp_ne (nx := 18) (tgt := 22) h dP_next_15 (by decide) rfl ?_ ?_
    · exact x_sub [0] rfl (j_P_next_22 h N S)
    · refine x_iconst (nx := 19) (v := (1 : Int32)) h dP_next_18 (by decide) rfl ?_
      refine x_goto (tgt := 23) h dP_next_19 (by decide) ?_
      exact x_sub [0] rfl (j_P_next_23 h N (1 : Int32) S)
set_option maxHeartbeats 4000000 in
set_option maxRecDepth 100000 in
theorem j_H_step_11 {l : Launch} {D : va_G} {ad : Nat → Nat} {ca : Nat → ClassId} {p : Program} {e : Env} {s : State} {m : MethodId} {args : Array Value} {below : List Frame} {meth : Method} {c : Code} {A : Nat → Prop} (h : xC p s m args meth c cH_step 4 (Cond.code yH_step cH_step 4 (some .int) :: wA) nW yH_step.cls (some .int) D clA (tysC ca) A) (N : Nat) (S : xSt) : xJ p l e rm_H_step s m args below meth c D clA (tysC ca) (cellsC ad ca) A true 4 11 [] [] S (f_H_step_11 N S) := by
  unfold f_H_step_11
  refine x_iconst (nx := 12) (v := (-1 : Int32)) h dH_step_11 (by decide) rfl ?_
  exact x_iret h dH_step_12
set_option maxHeartbeats 4000000 in
set_option maxRecDepth 100000 in
theorem j_H_step_23 {l : Launch} {D : va_G} {ad : Nat → Nat} {ca : Nat → ClassId} {p : Program} {e : Env} {s : State} {m : MethodId} {args : Array Value} {below : List Frame} {meth : Method} {c : Code} {A : Nat → Prop} (h : xC p s m args meth c cH_step 4 (Cond.code yH_step cH_step 4 (some .int) :: wA) nW yH_step.cls (some .int) D clA (tysC ca) A) (N : Nat) : ∀ (n : Nat) (a1 a2 a3 : Int32) (S : xSt), xJ p l e rm_H_step s m args below meth c D clA (tysC ca) (cellsC ad ca) A true 4 23 [(0, .ref (ad 0)), (1, .int a1), (2, .int a2), (3, .int a3)] [] S (f_H_step_23 N n a1 a2 a3 S) := by
  intro n
  induction n with
  | zero =>
    intro a1 a2 a3 S
    rw [f_H_step_23]
    exact x_none
  | succ n ih =>
    intro a1 a2 a3 S
    rw [f_H_step_23]
    refine x_iload_n (nx := 24) (i := 3) h dH_step_23 rfl 3 rfl rfl ?_
    refine x_iload_n (nx := 25) (i := 1) h dH_step_24 rfl 1 rfl rfl ?_
    refine x_icmp_ge (nx := 28) (tgt := 41) h dH_step_25 (by decide) rfl ?_ ?_
    · refine x_aload_n (nx := 42) (i := 0) h dH_step_41 rfl 0 rfl rfl ?_
      refine x_get (nx := 45) h (gC_0_0 ad ca _) (List.mem_cons_of_mem _ kH_10) dH_step_42 rfl ?_
      refine x_getN (nx := 48) h (gC_1_4 ad ca _) kH_60 dH_step_45 rfl ?_
      refine x_iload_n (nx := 49) (i := 2) h dH_step_48 rfl 2 rfl rfl ?_
      refine x_isub (nx := 50) h dH_step_49 rfl ?_
      exact x_iret h dH_step_50
    · refine x_aload_n (nx := 29) (i := 0) h dH_step_28 rfl 0 rfl rfl ?_
      refine x_get (nx := 32) h (gC_0_1 ad ca _) (List.mem_cons_of_mem _ kH_21) dH_step_29 rfl ?_
      refine x_cVv (nx := 35) (rest := []) (As := []) h (m_P_next N S) (x_wV h goA y_P_next kH_77 ⟨by decide, by decide⟩ rfl rfl) (oC_2 ad ca) rfl rfl (Nat.le_of_ble_eq_true rfl) dH_step_32 rfl (fun v1 S2 => ?_)
      refine x_iinc (nx := 38) (i := 3) (v := (a3 + (1 : Int32))) (lv' := [(3, .int (a3 + (1 : Int32))), (0, .ref (ad 0)), (1, .int a1), (2, .int a2)]) h dH_step_35 3 rfl (by rw [show Int32.ofInt 1 = (1 : Int32) by decide]) (by decide) rfl rfl ?_
      refine x_goto (tgt := 23) h dH_step_38 (by decide) ?_
      exact x_sub [1, 2, 3, 0] rfl (ih a1 a2 (a3 + (1 : Int32)) S2)
set_option maxHeartbeats 4000000 in
set_option maxRecDepth 100000 in
theorem m_H_step {l : Launch} {D : va_G} {ad : Nat → Nat} {ca : Nat → ClassId} (N : Nat) (a1 : Int32) (S : xSt) : xM l D clA (tysC ca) (cellsC ad ca) nW yH_step (Cond.code yH_step cH_step 4 (some .int) :: wA) rm_H_step true [.ref (ad 0), .int a1] S (f_H_step N a1 S) := by
  refine x_met (cc := cH_step) (maxL := 4) (ret := (some .int)) (by decide) rfl [.ref (ad 0), .int a1] (lv0 := [(0, .ref (ad 0)), (1, .int a1)]) (Nat.le_of_ble_eq_true rfl) rfl ?_
  intro p e s m args below meth c A h
  unfold f_H_step
  refine x_iload_n (nx := 1) (i := 1) h dH_step_0 rfl 1 rfl rfl ?_
  refine x_iconst (nx := 2) (v := (1 : Int32)) h dH_step_1 (by decide) rfl ?_
  refine x_icmp_lt (nx := 5) (tgt := 11) h dH_step_2 (by decide) rfl ?_ ?_
  · exact x_sub [] rfl (j_H_step_11 h N S)
  · refine x_iload_n (nx := 6) (i := 1) h dH_step_5 rfl 1 rfl rfl ?_
    refine x_bipush (nx := 8) (v := (100 : Int32)) h dH_step_6 (by decide) rfl ?_
    refine x_icmp_le (nx := 11) (tgt := 13) h dH_step_8 (by decide) rfl ?_ ?_
    · refine x_aload_n (nx := 14) (i := 0) h dH_step_13 rfl 0 rfl rfl ?_
      refine x_get (nx := 17) h (gC_0_0 ad ca _) (List.mem_cons_of_mem _ kH_10) dH_step_14 rfl ?_
      refine x_getN (nx := 20) h (gC_1_4 ad ca _) kH_60 dH_step_17 rfl ?_
      refine x_val (fun b1 => ?_)
      refine x_istore_n (nx := 21) (i := 2) (lv' := [(2, .int b1), (0, .ref (ad 0)), (1, .int a1)]) h dH_step_20 rfl (by decide) rfl rfl ?_
      refine x_iconst (nx := 22) (v := (0 : Int32)) h dH_step_21 (by decide) rfl ?_
      refine x_istore_n (nx := 23) (i := 3) (lv' := [(3, .int (0 : Int32)), (2, .int b1), (0, .ref (ad 0)), (1, .int a1)]) h dH_step_22 rfl (by decide) rfl rfl ?_
      exact x_sub [2, 3, 1, 0] rfl (j_H_step_23 h N N a1 b1 (0 : Int32) S)
    · exact x_sub [] rfl (j_H_step_11 h N S)
set_option maxHeartbeats 4000000 in
set_option maxRecDepth 100000 in
theorem m_B_frames {l : Launch} {D : va_G} {ad : Nat → Nat} {ca : Nat → ClassId} (N : Nat) (S : xSt) : xM l D clA (tysC ca) (cellsC ad ca) nW yB_frames (Cond.code yB_frames cB_frames 1 (some .int) :: wA) rm_B_frames true [.ref (ad 1)] S (f_B_frames N S) := by
  refine x_met (cc := cB_frames) (maxL := 1) (ret := (some .int)) (by decide) rfl [.ref (ad 1)] (lv0 := [(0, .ref (ad 1))]) (Nat.le_of_ble_eq_true rfl) rfl ?_
  intro p e s m args below meth c A h
  unfold f_B_frames
  refine x_aload_n (nx := 1) (i := 0) h dB_frames_0 rfl 0 rfl rfl ?_
  refine x_get (nx := 4) h (gC_1_4 ad ca _) (List.mem_cons_of_mem _ kB_30) dB_frames_1 rfl ?_
  refine x_bipush (nx := 6) (v := (12 : Int32)) h dB_frames_4 (by decide) rfl ?_
  refine x_ishr (nx := 7) h dB_frames_6 rfl ?_
  exact x_iret h dB_frames_7
set_option maxHeartbeats 4000000 in
set_option maxRecDepth 100000 in
theorem j_H_frame_41 {l : Launch} {D : va_G} {ad : Nat → Nat} {ca : Nat → ClassId} {p : Program} {e : Env} {s : State} {m : MethodId} {args : Array Value} {below : List Frame} {meth : Method} {c : Code} {A : Nat → Prop} (h : xC p s m args meth c cH_frame 3 (Cond.code yH_frame cH_frame 3 (some .int) :: wA) nW yH_frame.cls (some .int) D clA (tysC ca) A) (N : Nat) (a2 : Int32) (S : xSt) : xJ p l e rm_H_frame s m args below meth c D clA (tysC ca) (cellsC ad ca) A true 3 41 [(2, .int a2)] [] S (f_H_frame_41 N a2 S) := by
  unfold f_H_frame_41
  refine x_iload_n (nx := 42) (i := 2) h dH_frame_41 rfl 0 rfl rfl ?_
  exact x_iret h dH_frame_42
set_option maxHeartbeats 4000000 in
set_option maxRecDepth 100000 in
theorem j_H_frame_10 {l : Launch} {D : va_G} {ad : Nat → Nat} {ca : Nat → ClassId} {p : Program} {e : Env} {s : State} {m : MethodId} {args : Array Value} {below : List Frame} {meth : Method} {c : Code} {A : Nat → Prop} (h : xC p s m args meth c cH_frame 3 (Cond.code yH_frame cH_frame 3 (some .int) :: wA) nW yH_frame.cls (some .int) D clA (tysC ca) A) (N : Nat) : ∀ (n : Nat) (a1 a2 : Int32) (S : xSt), xJ p l e rm_H_frame s m args below meth c D clA (tysC ca) (cellsC ad ca) A true 3 10 [(0, .ref (ad 0)), (1, .int a1), (2, .int a2)] [] S (f_H_frame_10 N n a1 a2 S) := by
  intro n
  induction n with
  | zero =>
    intro a1 a2 S
    rw [f_H_frame_10]
    exact x_none
  | succ n ih =>
    intro a1 a2 S
    rw [f_H_frame_10]
    refine x_iload_n (nx := 11) (i := 2) h dH_frame_10 rfl 2 rfl rfl ?_
    refine x_sipush (nx := 14) (v := (1100 : Int32)) h dH_frame_11 (by decide) rfl ?_
    refine x_icmp_ge (nx := 17) (tgt := 41) h dH_frame_14 (by decide) rfl ?_ ?_
    · exact x_sub [2] rfl (j_H_frame_41 h N a2 S)
    · refine x_aload_n (nx := 18) (i := 0) h dH_frame_17 rfl 0 rfl rfl ?_
      refine x_get (nx := 21) h (gC_0_0 ad ca _) (List.mem_cons_of_mem _ kH_10) dH_frame_18 rfl ?_
      refine x_cVi (nx := 24) (rest := []) (As := []) h (m_B_frames N S) (x_wV h goA y_B_frames kH_80 ⟨by decide, by decide⟩ rfl rfl) (oC_1 ad ca) rfl rfl (Nat.le_of_ble_eq_true rfl) dH_frame_21 rfl (fun v1 S2 => ?_)
      refine x_iload_n (nx := 25) (i := 1) h dH_frame_24 rfl 1 rfl rfl ?_
      refine x_icmp_ne (nx := 28) (tgt := 41) h dH_frame_25 (by decide) rfl ?_ ?_
      · exact x_sub [2] rfl (j_H_frame_41 h N a2 S2)
      · refine x_aload_n (nx := 29) (i := 0) h dH_frame_28 rfl 0 rfl rfl ?_
        refine x_get (nx := 32) h (gC_0_1 ad ca _) (List.mem_cons_of_mem _ kH_21) dH_frame_29 rfl ?_
        refine x_cVv (nx := 35) (rest := []) (As := []) h (m_P_next N S2) (x_wV h goA y_P_next kH_77 ⟨by decide, by decide⟩ rfl rfl) (oC_2 ad ca) rfl rfl (Nat.le_of_ble_eq_true rfl) dH_frame_32 rfl (fun v3 S4 => ?_)
        refine x_iinc (nx := 38) (i := 2) (v := (a2 + (1 : Int32))) (lv' := [(2, .int (a2 + (1 : Int32))), (0, .ref (ad 0)), (1, .int a1)]) h dH_frame_35 2 rfl (by rw [show Int32.ofInt 1 = (1 : Int32) by decide]) (by decide) rfl rfl ?_
        refine x_goto (tgt := 10) h dH_frame_38 (by decide) ?_
        exact x_sub [1, 2, 0] rfl (ih a1 (a2 + (1 : Int32)) S4)
set_option maxHeartbeats 4000000 in
set_option maxRecDepth 100000 in
theorem m_H_frame {l : Launch} {D : va_G} {ad : Nat → Nat} {ca : Nat → ClassId} (N : Nat) (S : xSt) : xM l D clA (tysC ca) (cellsC ad ca) nW yH_frame (Cond.code yH_frame cH_frame 3 (some .int) :: wA) rm_H_frame true [.ref (ad 0)] S (f_H_frame N S) := by
  refine x_met (cc := cH_frame) (maxL := 3) (ret := (some .int)) (by decide) rfl [.ref (ad 0)] (lv0 := [(0, .ref (ad 0))]) (Nat.le_of_ble_eq_true rfl) rfl ?_
  intro p e s m args below meth c A h
  unfold f_H_frame
  refine x_aload_n (nx := 1) (i := 0) h dH_frame_0 rfl 0 rfl rfl ?_
  refine x_get (nx := 4) h (gC_0_0 ad ca _) (List.mem_cons_of_mem _ kH_10) dH_frame_1 rfl ?_
  refine x_cVi (nx := 7) (rest := []) (As := []) h (m_B_frames N S) (x_wV h goA y_B_frames kH_80 ⟨by decide, by decide⟩ rfl rfl) (oC_1 ad ca) rfl rfl (Nat.le_of_ble_eq_true rfl) dH_frame_4 rfl (fun v1 S2 => ?_)
  refine x_istore_n (nx := 8) (i := 1) (lv' := [(1, .int v1), (0, .ref (ad 0))]) h dH_frame_7 rfl (by decide) rfl rfl ?_
  refine x_iconst (nx := 9) (v := (0 : Int32)) h dH_frame_8 (by decide) rfl ?_
  refine x_istore_n (nx := 10) (i := 2) (lv' := [(2, .int (0 : Int32)), (1, .int v1), (0, .ref (ad 0))]) h dH_frame_9 rfl (by decide) rfl rfl ?_
  exact x_sub [2, 1, 0] rfl (j_H_frame_10 h N N v1 (0 : Int32) S2)
set_option maxHeartbeats 4000000 in
set_option maxRecDepth 100000 in
theorem j_H_look_121 {l : Launch} {D : va_G} {ad : Nat → Nat} {ca : Nat → ClassId} {p : Program} {e : Env} {s : State} {m : MethodId} {args : Array Value} {below : List Frame} {meth : Method} {c : Code} {A : Nat → Prop} (h : xC p s m args meth c cH_look 2 (Cond.code yH_look cH_look 2 (some .int) :: wA) nW yH_look.cls (some .int) D clA (tysC ca) A) (N : Nat) (w0 : Int32) (S : xSt) : xJ p l e rm_H_look s m args below meth c D clA (tysC ca) (cellsC ad ca) A true 2 121 [] [.int w0] S (f_H_look_121 N w0 S) := by
  unfold f_H_look_121
  exact x_iret h dH_look_121
set_option maxHeartbeats 4000000 in
set_option maxRecDepth 100000 in
theorem m_H_look {l : Launch} {D : va_G} {ad : Nat → Nat} {ca : Nat → ClassId} (N : Nat) (a1 : Int32) (S : xSt) : xM l D clA (tysC ca) (cellsC ad ca) nW yH_look (Cond.code yH_look cH_look 2 (some .int) :: wA) rm_H_look true [.ref (ad 0), .int a1] S (f_H_look N a1 S) := by
  refine x_met (cc := cH_look) (maxL := 2) (ret := (some .int)) (by decide) rfl [.ref (ad 0), .int a1] (lv0 := [(0, .ref (ad 0)), (1, .int a1)]) (Nat.le_of_ble_eq_true rfl) rfl ?_
  intro p e s m args below meth c A h
  unfold f_H_look
  refine x_aload_n (nx := 1) (i := 0) h dH_look_0 rfl 0 rfl rfl ?_
  refine x_get (nx := 4) h (gC_0_0 ad ca _) (List.mem_cons_of_mem _ kH_10) dH_look_1 rfl ?_
  refine x_getN (nx := 7) h (gC_1_3 ad ca _) kH_56 dH_look_4 rfl ?_
  refine x_aload_n (nx := 8) (i := 0) h dH_look_7 rfl 0 rfl rfl ?_
  refine x_get (nx := 11) h (gC_0_0 ad ca _) (List.mem_cons_of_mem _ kH_10) dH_look_8 rfl ?_
  refine x_getN (nx := 14) h (gC_1_4 ad ca _) kH_60 dH_look_11 rfl ?_
  refine x_cVv (nx := 17) (rest := []) (As := [.int (S 1 4)]) h (m_T_follow N (S 1 4) S) (x_wV h goA y_T_follow kH_64 ⟨by decide, by decide⟩ rfl rfl) (oC_4 ad ca) rfl rfl (Nat.le_of_ble_eq_true rfl) dH_look_14 rfl (fun v1 S2 => ?_)
  refine x_iload_n (nx := 18) (i := 1) h dH_look_17 rfl 1 rfl rfl ?_
  refine x_ite (fun hq3 => ?_) (fun hq3 => ?_)
  · refine x_set hq3 ?_
    refine x_tabIn (off := 42) (tgt := 60) h dH_look_18 (by decide +kernel) (by decide +kernel) (by decide +kernel) (by decide) ?_
    refine x_aload_n (nx := 61) (i := 0) h dH_look_60 rfl 0 rfl rfl ?_
    refine x_get (nx := 64) h (gC_0_0 ad ca _) (List.mem_cons_of_mem _ kH_10) dH_look_61 rfl ?_
    refine x_cVi (nx := 67) (rest := []) (As := []) h (m_B_frames N S2) (x_wV h goA y_B_frames kH_80 ⟨by decide, by decide⟩ rfl rfl) (oC_1 ad ca) rfl rfl (Nat.le_of_ble_eq_true rfl) dH_look_64 rfl (fun v4 S5 => ?_)
    exact x_iret h dH_look_67
  refine x_ite (fun hq6 => ?_) (fun hq6 => ?_)
  · refine x_set hq6 ?_
    refine x_tabIn (off := 50) (tgt := 68) h dH_look_18 (by decide +kernel) (by decide +kernel) (by decide +kernel) (by decide) ?_
    refine x_aload_n (nx := 69) (i := 0) h dH_look_68 rfl 0 rfl rfl ?_
    refine x_get (nx := 72) h (gC_0_0 ad ca _) (List.mem_cons_of_mem _ kH_10) dH_look_69 rfl ?_
    refine x_cVi (nx := 75) (rest := []) (As := []) h (m_B_tickOfFrame N S2) (x_wV h goA y_B_tickOfFrame kH_84 ⟨by decide, by decide⟩ rfl rfl) (oC_1 ad ca) rfl rfl (Nat.le_of_ble_eq_true rfl) dH_look_72 rfl (fun v7 S8 => ?_)
    exact x_iret h dH_look_75
  refine x_ite (fun hq9 => ?_) (fun hq9 => ?_)
  · refine x_set hq9 ?_
    refine x_tabIn (off := 58) (tgt := 76) h dH_look_18 (by decide +kernel) (by decide +kernel) (by decide +kernel) (by decide) ?_
    refine x_aload_n (nx := 77) (i := 0) h dH_look_76 rfl 0 rfl rfl ?_
    refine x_get (nx := 80) h (gC_0_0 ad ca _) (List.mem_cons_of_mem _ kH_10) dH_look_77 rfl ?_
    refine x_getN (nx := 83) h (gC_1_5 ad ca _) kH_87 dH_look_80 rfl ?_
    exact x_iret h dH_look_83
  refine x_ite (fun hq10 => ?_) (fun hq10 => ?_)
  · refine x_set hq10 ?_
    refine x_tabIn (off := 66) (tgt := 84) h dH_look_18 (by decide +kernel) (by decide +kernel) (by decide +kernel) (by decide) ?_
    refine x_aload_n (nx := 85) (i := 0) h dH_look_84 rfl 0 rfl rfl ?_
    refine x_get (nx := 88) h (gC_0_0 ad ca _) (List.mem_cons_of_mem _ kH_10) dH_look_85 rfl ?_
    refine x_getN (nx := 91) h (gC_1_7 ad ca _) kH_90 dH_look_88 rfl ?_
    exact x_iret h dH_look_91
  refine x_ite (fun hq11 => ?_) (fun hq11 => ?_)
  · refine x_set hq11 ?_
    refine x_tabIn (off := 74) (tgt := 92) h dH_look_18 (by decide +kernel) (by decide +kernel) (by decide +kernel) (by decide) ?_
    refine x_aload_n (nx := 93) (i := 0) h dH_look_92 rfl 0 rfl rfl ?_
    refine x_get (nx := 96) h (gC_0_0 ad ca _) (List.mem_cons_of_mem _ kH_10) dH_look_93 rfl ?_
    refine x_getN (nx := 99) h (gC_1_3 ad ca _) kH_56 dH_look_96 rfl ?_
    refine x_cVi (nx := 102) (rest := []) (As := []) h (m_T_level N S2) (x_wV h goA y_T_level kH_93 ⟨by decide, by decide⟩ rfl rfl) (oC_4 ad ca) rfl rfl (Nat.le_of_ble_eq_true rfl) dH_look_99 rfl (fun v12 S13 => ?_)
    exact x_iret h dH_look_102
  refine x_ite (fun hq14 => ?_) (fun hq14 => ?_)
  · refine x_set hq14 ?_
    refine x_tabIn (off := 85) (tgt := 103) h dH_look_18 (by decide +kernel) (by decide +kernel) (by decide +kernel) (by decide) ?_
    refine x_aload_n (nx := 104) (i := 0) h dH_look_103 rfl 0 rfl rfl ?_
    refine x_get (nx := 107) h (gC_0_0 ad ca _) (List.mem_cons_of_mem _ kH_10) dH_look_104 rfl ?_
    refine x_getN (nx := 110) h (gC_1_3 ad ca _) kH_56 dH_look_107 rfl ?_
    refine x_getN (nx := 113) h (gC_4_4 ad ca _) kH_96 dH_look_110 rfl ?_
    refine x_if_eq (nx := 116) (tgt := 120) h dH_look_113 (by decide) rfl ?_ ?_
    · refine x_iconst (nx := 121) (v := (0 : Int32)) h dH_look_120 (by decide) rfl ?_
      exact x_sub [] rfl (j_H_look_121 h N (0 : Int32) S2)
    · refine x_iconst (nx := 117) (v := (1 : Int32)) h dH_look_116 (by decide) rfl ?_
      refine x_goto (tgt := 121) h dH_look_117 (by decide) ?_
      exact x_sub [] rfl (j_H_look_121 h N (1 : Int32) S2)
  refine x_ite (fun hq15 => ?_) (fun hq15 => ?_)
  · refine x_set hq15 ?_
    refine x_tabIn (off := 104) (tgt := 122) h dH_look_18 (by decide +kernel) (by decide +kernel) (by decide +kernel) (by decide) ?_
    refine x_aload_n (nx := 123) (i := 0) h dH_look_122 rfl 0 rfl rfl ?_
    refine x_get (nx := 126) h (gC_0_0 ad ca _) (List.mem_cons_of_mem _ kH_10) dH_look_123 rfl ?_
    refine x_getN (nx := 129) h (gC_1_3 ad ca _) kH_56 dH_look_126 rfl ?_
    refine x_getN (nx := 132) h (gC_4_3 ad ca _) kH_100 dH_look_129 rfl ?_
    exact x_iret h dH_look_132
  refine x_tabOut (tgt := 133) h dH_look_18 (by have z0 := lv_neT (a := 0) hq3 (by decide +kernel); have z1 := lv_neT (a := 1) hq6 (by decide +kernel); have z2 := lv_neT (a := 2) hq9 (by decide +kernel); have z3 := lv_neT (a := 3) hq10 (by decide +kernel); have z4 := lv_neT (a := 4) hq11 (by decide +kernel); have z5 := lv_neT (a := 5) hq14 (by decide +kernel); have z6 := lv_neT (a := 6) hq15 (by decide +kernel); omega) (by decide) ?_
  refine x_iconst (nx := 134) (v := (-1 : Int32)) h dH_look_133 (by decide) rfl ?_
  exact x_iret h dH_look_134
set_option maxHeartbeats 4000000 in
set_option maxRecDepth 100000 in
theorem j_H_stripe_10 {l : Launch} {D : va_G} {ad : Nat → Nat} {ca : Nat → ClassId} {p : Program} {e : Env} {s : State} {m : MethodId} {args : Array Value} {below : List Frame} {meth : Method} {c : Code} {A : Nat → Prop} (h : xC p s m args meth c cH_stripe 2 (Cond.code yH_stripe cH_stripe 2 (some .int) :: wA) nW yH_stripe.cls (some .int) D clA (tysC ca) A) (N : Nat) (S : xSt) : xJ p l e rm_H_stripe s m args below meth c D clA (tysC ca) (cellsC ad ca) A true 2 10 [] [] S (f_H_stripe_10 N S) := by
  unfold f_H_stripe_10
  refine x_iconst (nx := 11) (v := (-1 : Int32)) h dH_stripe_10 (by decide) rfl ?_
  exact x_iret h dH_stripe_11
set_option maxHeartbeats 4000000 in
set_option maxRecDepth 100000 in
theorem m_H_stripe {l : Launch} {D : va_G} {ad : Nat → Nat} {ca : Nat → ClassId} (N : Nat) (a1 : Int32) (S : xSt) : xM l D clA (tysC ca) (cellsC ad ca) nW yH_stripe (Cond.code yH_stripe cH_stripe 2 (some .int) :: wA) rm_H_stripe true [.ref (ad 0), .int a1] S (f_H_stripe N a1 S) := by
  refine x_met (cc := cH_stripe) (maxL := 2) (ret := (some .int)) (by decide) rfl [.ref (ad 0), .int a1] (lv0 := [(0, .ref (ad 0)), (1, .int a1)]) (Nat.le_of_ble_eq_true rfl) rfl ?_
  intro p e s m args below meth c A h
  unfold f_H_stripe
  refine x_iload_n (nx := 1) (i := 1) h dH_stripe_0 rfl 1 rfl rfl ?_
  refine x_if_lt (nx := 4) (tgt := 10) h dH_stripe_1 (by decide) rfl ?_ ?_
  · exact x_sub [] rfl (j_H_stripe_10 h N S)
  · refine x_iload_n (nx := 5) (i := 1) h dH_stripe_4 rfl 1 rfl rfl ?_
    refine x_bipush (nx := 7) (v := (64 : Int32)) h dH_stripe_5 (by decide) rfl ?_
    refine x_icmp_lt (nx := 10) (tgt := 12) h dH_stripe_7 (by decide) rfl ?_ ?_
    · refine x_aload_n (nx := 13) (i := 0) h dH_stripe_12 rfl 0 rfl rfl ?_
      refine x_get (nx := 16) h (gC_0_0 ad ca _) (List.mem_cons_of_mem _ kH_10) dH_stripe_13 rfl ?_
      refine x_getN (nx := 19) h (gC_1_1 ad ca _) kH_103 dH_stripe_16 rfl ?_
      refine x_iload_n (nx := 20) (i := 1) h dH_stripe_19 rfl 1 rfl rfl ?_
      refine x_iald (nx := 21) h (aC_7 ad ca) dH_stripe_20 rfl (fun v1 => ?_)
      exact x_iret h dH_stripe_21
    · exact x_sub [] rfl (j_H_stripe_10 h N S)
