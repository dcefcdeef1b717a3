set_option maxHeartbeats 4000000 in
set_option maxRecDepth 100000 in
theorem j_P_doFirst_182 {l : Launch} {D : va_G} {ad : Nat → Nat} {ca : Nat → ClassId} {p : Program} {e : Env} {s : State} {m : MethodId} {args : Array Value} {below : List Frame} {meth : Method} {c : Code} {A : Nat → Prop} (h : xC p s m args meth c cP_doFirst 5 (Cond.code yP_doFirst cP_doFirst 5 none :: wA) nW yP_doFirst.cls none D clA (tysC ca) A) (N : Nat) (S : xSt) : xJ p l e rm_P_doFirst s m args below meth c D clA (tysC ca) (cellsC ad ca) A false 5 182 [] [] S (f_P_doFirst_182 N S) := by
  unfold f_P_doFirst_182
  exact x_vret h dP_doFirst_182
set_option maxHeartbeats 4000000 in
set_option maxRecDepth 100000 in
theorem j_P_doFirst_159 {l : Launch} {D : va_G} {ad : Nat → Nat} {ca : Nat → ClassId} {p : Program} {e : Env} {s : State} {m : MethodId} {args : Array Value} {below : List Frame} {meth : Method} {c : Code} {A : Nat → Prop} (h : xC p s m args meth c cP_doFirst 5 (Cond.code yP_doFirst cP_doFirst 5 none :: wA) nW yP_doFirst.cls none D clA (tysC ca) A) (N : Nat) (w1 w2 : Int32) (S : xSt) : xJ p l e rm_P_doFirst s m args below meth c D clA (tysC ca) (cellsC ad ca) A false 5 159 [] [.int w2, .int w1, .ref (ad 2)] S (f_P_doFirst_159 N w1 w2 S) := by
  unfold f_P_doFirst_159
  refine x_cVv (nx := 162) (rest := []) (As := [.int w1, .int w2]) h (m_P_count N w1 w2 S) (x_wV h goA y_P_count kP_154 ⟨by decide, by decide⟩ rfl rfl) (oC_2 ad ca) rfl rfl (Nat.le_of_ble_eq_true rfl) dP_doFirst_159 rfl (fun v1 S2 => ?_)
  refine x_goto (tgt := 182) h dP_doFirst_162 (by decide) ?_
  exact x_sub [] rfl (j_P_doFirst_182 h N S2)
set_option maxHeartbeats 4000000 in
set_option maxRecDepth 100000 in
theorem j_P_doFirst_147 {l : Launch} {D : va_G} {ad : Nat → Nat} {ca : Nat → ClassId} {p : Program} {e : Env} {s : State} {m : MethodId} {args : Array Value} {below : List Frame} {meth : Method} {c : Code} {A : Nat → Prop} (h : xC p s m args meth c cP_doFirst 5 (Cond.code yP_doFirst cP_doFirst 5 none :: wA) nW yP_doFirst.cls none D clA (tysC ca) A) (N : Nat) (a1 a2 : Int32) (S : xSt) : xJ p l e rm_P_doFirst s m args below meth c D clA (tysC ca) (cellsC ad ca) A false 5 147 [(0, .ref (ad 2)), (1, .int a1), (2, .int a2)] [] S (f_P_doFirst_147 N a1 a2 S) := by
  unfold f_P_doFirst_147
  refine x_aload_n (nx := 148) (i := 0) h dP_doFirst_147 rfl 0 rfl rfl ?_
  refine x_iload_n (nx := 149) (i := 1) h dP_doFirst_148 rfl 1 rfl rfl ?_
  refine x_iload_n (nx := 150) (i := 2) h dP_doFirst_149 rfl 2 rfl rfl ?_
  refine x_iconst (nx := 151) (v := (5 : Int32)) h dP_doFirst_150 (by decide) rfl ?_
  refine x_icmp_ne (nx := 154) (tgt := 158) h dP_doFirst_151 (by decide) rfl ?_ ?_
  · refine x_iconst (nx := 159) (v := (0 : Int32)) h dP_doFirst_158 (by decide) rfl ?_
    exact x_sub [] rfl (j_P_doFirst_159 h N a1 (0 : Int32) S)
  · refine x_iconst (nx := 155) (v := (1 : Int32)) h dP_doFirst_154 (by decide) rfl ?_
    refine x_goto (tgt := 159) h dP_doFirst_155 (by decide) ?_
    exact x_sub [] rfl (j_P_doFirst_159 h N a1 (1 : Int32) S)
set_option maxHeartbeats 4000000 in
set_option maxRecDepth 100000 in
theorem j_P_doFirst_140 {l : Launch} {D : va_G} {ad : Nat → Nat} {ca : Nat → ClassId} {p : Program} {e : Env} {s : State} {m : MethodId} {args : Array Value} {below : List Frame} {meth : Method} {c : Code} {A : Nat → Prop} (h : xC p s m args meth c cP_doFirst 5 (Cond.code yP_doFirst cP_doFirst 5 none :: wA) nW yP_doFirst.cls none D clA (tysC ca) A) (N : Nat) (w1 w2 w3 : Int32) (S : xSt) : xJ p l e rm_P_doFirst s m args below meth c D clA (tysC ca) (cellsC ad ca) A false 5 140 [] [.int w3, .int w2, .int w1, .ref (ad 5)] S (f_P_doFirst_140 N w1 w2 w3 S) := by
  unfold f_P_doFirst_140
  refine x_iadd (nx := 141) h dP_doFirst_140 rfl ?_
  refine x_cVv (nx := 144) (rest := []) (As := [.int w1, .int (w2 + w3)]) h (m_G_setPair N w1 (w2 + w3) S) (x_wV h goA y_G_setPair kP_142 ⟨by decide, by decide⟩ rfl rfl) (oC_5 ad ca) rfl rfl (Nat.le_of_ble_eq_true rfl) dP_doFirst_141 rfl (fun v1 S2 => ?_)
  refine x_goto (tgt := 182) h dP_doFirst_144 (by decide) ?_
  exact x_sub [] rfl (j_P_doFirst_182 h N S2)
set_option maxHeartbeats 4000000 in
set_option maxRecDepth 100000 in
theorem j_P_doFirst_16 {l : Launch} {D : va_G} {ad : Nat → Nat} {ca : Nat → ClassId} {p : Program} {e : Env} {s : State} {m : MethodId} {args : Array Value} {below : List Frame} {meth : Method} {c : Code} {A : Nat → Prop} (h : xC p s m args meth c cP_doFirst 5 (Cond.code yP_doFirst cP_doFirst 5 none :: wA) nW yP_doFirst.cls none D clA (tysC ca) A) (N : Nat) (a1 a2 a3 w0 : Int32) (S : xSt) : xJ p l e rm_P_doFirst s m args below meth c D clA (tysC ca) (cellsC ad ca) A false 5 16 [(0, .ref (ad 2)), (1, .int a1), (2, .int a2), (3, .int a3)] [.int w0] S (f_P_doFirst_16 N a1 a2 a3 w0 S) := by
  unfold f_P_doFirst_16
  refine x_istore (nx := 18) (i := 4) (lv' := [(4, .int w0), (0, .ref (ad 2)), (1, .int a1), (2, .int a2), (3, .int a3)]) h dP_doFirst_16 (by decide) rfl rfl ?_
  refine x_iload_n (nx := 19) (i := 2) h dP_doFirst_18 rfl 3 rfl rfl ?_
  refine x_ite (fun hq1 => ?_) (fun hq1 => ?_)
  · refine x_set hq1 ?_
    refine x_tabIn (off := 41) (tgt := 60) h dP_doFirst_19 (by decide +kernel) (by decide +kernel) (by decide +kernel) (by decide) ?_
    refine x_aload_n (nx := 61) (i := 0) h dP_doFirst_60 rfl 1 rfl rfl ?_
    refine x_iload_n (nx := 62) (i := 1) h dP_doFirst_61 rfl 2 rfl rfl ?_
    refine x_cVv (nx := 65) (rest := []) (As := [.int a1]) h (m_P_moveNear N a1 S) (x_wV h goA y_P_moveNear kP_133 ⟨by decide, by decide⟩ rfl rfl) (oC_2 ad ca) rfl rfl (Nat.le_of_ble_eq_true rfl) dP_doFirst_62 rfl (fun v2 S3 => ?_)
    refine x_goto (tgt := 182) h dP_doFirst_65 (by decide) ?_
    exact x_sub [] rfl (j_P_doFirst_182 h N S3)
  refine x_ite (fun hq4 => ?_) (fun hq4 => ?_)
  · refine x_set hq4 ?_
    refine x_tabIn (off := 49) (tgt := 68) h dP_doFirst_19 (by decide +kernel) (by decide +kernel) (by decide +kernel) (by decide) ?_
    refine x_iload (nx := 70) (i := 4) h dP_doFirst_68 0 rfl rfl ?_
    refine x_if_eq (nx := 73) (tgt := 81) h dP_doFirst_70 (by decide) rfl ?_ ?_
    · refine x_aload_n (nx := 82) (i := 0) h dP_doFirst_81 rfl 1 rfl rfl ?_
      refine x_get (nx := 85) h (gC_2_1 ad ca _) (List.mem_cons_of_mem _ kP_10) dP_doFirst_82 rfl ?_
      refine x_iload_n (nx := 86) (i := 3) h dP_doFirst_85 rfl 4 rfl rfl ?_
      refine x_aload_n (nx := 87) (i := 0) h dP_doFirst_86 rfl 1 rfl rfl ?_
      refine x_cVi (nx := 90) (rest := [.int a3, .ref (ad 5)]) (As := []) h (m_P_nextWord N S) (x_wV h goA y_P_nextWord kP_139 ⟨by decide, by decide⟩ rfl rfl) (oC_2 ad ca) rfl rfl (Nat.le_of_ble_eq_true rfl) dP_doFirst_87 rfl (fun v5 S6 => ?_)
      refine x_cVv (nx := 93) (rest := []) (As := [.int a3, .int v5]) h (m_G_setPair N a3 v5 S6) (x_wV h goA y_G_setPair kP_142 ⟨by decide, by decide⟩ rfl rfl) (oC_5 ad ca) rfl rfl (Nat.le_of_ble_eq_true rfl) dP_doFirst_90 rfl (fun v7 S8 => ?_)
      refine x_goto (tgt := 182) h dP_doFirst_93 (by decide) ?_
      exact x_sub [] rfl (j_P_doFirst_182 h N S8)
    · refine x_aload_n (nx := 74) (i := 0) h dP_doFirst_73 rfl 1 rfl rfl ?_
      refine x_iload_n (nx := 75) (i := 3) h dP_doFirst_74 rfl 4 rfl rfl ?_
      refine x_cVv (nx := 78) (rest := []) (As := [.int a3]) h (m_P_addPair N a3 S) (x_wV h goA y_P_addPair kP_136 ⟨by decide, by decide⟩ rfl rfl) (oC_2 ad ca) rfl rfl (Nat.le_of_ble_eq_true rfl) dP_doFirst_75 rfl (fun v9 S10 => ?_)
      refine x_goto (tgt := 182) h dP_doFirst_78 (by decide) ?_
      exact x_sub [] rfl (j_P_doFirst_182 h N S10)
  refine x_ite (fun hq11 => ?_) (fun hq11 => ?_)
  · refine x_set hq11 ?_
    refine x_tabIn (off := 77) (tgt := 96) h dP_doFirst_19 (by decide +kernel) (by decide +kernel) (by decide +kernel) (by decide) ?_
    refine x_iload (nx := 98) (i := 4) h dP_doFirst_96 0 rfl rfl ?_
    refine x_if_eq (nx := 101) (tgt := 109) h dP_doFirst_98 (by decide) rfl ?_ ?_
    · refine x_aload_n (nx := 110) (i := 0) h dP_doFirst_109 rfl 1 rfl rfl ?_
      refine x_iload_n (nx := 111) (i := 3) h dP_doFirst_110 rfl 4 rfl rfl ?_
      refine x_cVv (nx := 114) (rest := []) (As := [.int a3]) h (m_P_putAt N a3 S) (x_wV h goA y_P_putAt kP_148 ⟨by decide, by decide⟩ rfl rfl) (oC_2 ad ca) rfl rfl (Nat.le_of_ble_eq_true rfl) dP_doFirst_111 rfl (fun v12 S13 => ?_)
      refine x_goto (tgt := 182) h dP_doFirst_114 (by decide) ?_
      exact x_sub [] rfl (j_P_doFirst_182 h N S13)
    · refine x_aload_n (nx := 102) (i := 0) h dP_doFirst_101 rfl 1 rfl rfl ?_
      refine x_iload_n (nx := 103) (i := 3) h dP_doFirst_102 rfl 4 rfl rfl ?_
      refine x_cVv (nx := 106) (rest := []) (As := [.int a3]) h (m_P_takeFrom N a3 S) (x_wV h goA y_P_takeFrom kP_145 ⟨by decide, by decide⟩ rfl rfl) (oC_2 ad ca) rfl rfl (Nat.le_of_ble_eq_true rfl) dP_doFirst_103 rfl (fun v14 S15 => ?_)
      refine x_goto (tgt := 182) h dP_doFirst_106 (by decide) ?_
      exact x_sub [] rfl (j_P_doFirst_182 h N S15)
  refine x_ite (fun hq16 => ?_) (fun hq16 => ?_)
  · refine x_set hq16 ?_
    refine x_tabIn (off := 98) (tgt := 117) h dP_doFirst_19 (by decide +kernel) (by decide +kernel) (by decide +kernel) (by decide) ?_
    refine x_aload_n (nx := 118) (i := 0) h dP_doFirst_117 rfl 1 rfl rfl ?_
    refine x_get (nx := 121) h (gC_2_1 ad ca _) (List.mem_cons_of_mem _ kP_10) dP_doFirst_118 rfl ?_
    refine x_iload_n (nx := 122) (i := 3) h dP_doFirst_121 rfl 4 rfl rfl ?_
    refine x_aload_n (nx := 123) (i := 0) h dP_doFirst_122 rfl 1 rfl rfl ?_
    refine x_get (nx := 126) h (gC_2_1 ad ca _) (List.mem_cons_of_mem _ kP_10) dP_doFirst_123 rfl ?_
    refine x_iload_n (nx := 127) (i := 3) h dP_doFirst_126 rfl 4 rfl rfl ?_
    refine x_cVi (nx := 130) (rest := [.int a3, .ref (ad 5)]) (As := [.int a3]) h (m_G_pair N a3 S) (x_wV h goA y_G_pair kP_151 ⟨by decide, by decide⟩ rfl rfl) (oC_5 ad ca) rfl rfl (Nat.le_of_ble_eq_true rfl) dP_doFirst_127 rfl (fun v17 S18 => ?_)
    refine x_iload (nx := 132) (i := 4) h dP_doFirst_130 0 rfl rfl ?_
    refine x_if_eq (nx := 135) (tgt := 139) h dP_doFirst_132 (by decide) rfl ?_ ?_
    · refine x_iconst (nx := 140) (v := (1 : Int32)) h dP_doFirst_139 (by decide) rfl ?_
      exact x_sub [] rfl (j_P_doFirst_140 h N a3 v17 (1 : Int32) S18)
    · refine x_iconst (nx := 136) (v := (-1 : Int32)) h dP_doFirst_135 (by decide) rfl ?_
      refine x_goto (tgt := 140) h dP_doFirst_136 (by decide) ?_
      exact x_sub [] rfl (j_P_doFirst_140 h N a3 v17 (-1 : Int32) S18)
  refine x_ite (fun hq19 => ?_) (fun hq19 => ?_)
  · refine x_set hq19 ?_
    refine x_tabIn (off := 128) (tgt := 147) h dP_doFirst_19 (by decide +kernel) (by decide +kernel) (by decide +kernel) (by decide) ?_
    exact x_sub [1, 2, 3] rfl (j_P_doFirst_147 h N a1 a2 S)
  refine x_ite (fun hq20 => ?_) (fun hq20 => ?_)
  · refine x_set hq20 ?_
    refine x_tabIn (off := 128) (tgt := 147) h dP_doFirst_19 (by decide +kernel) (by decide +kernel) (by decide +kernel) (by decide) ?_
    exact x_sub [1, 2, 3] rfl (j_P_doFirst_147 h N a1 a2 S)
  refine x_ite (fun hq21 => ?_) (fun hq21 => ?_)
  · refine x_set hq21 ?_
    refine x_tabIn (off := 146) (tgt := 165) h dP_doFirst_19 (by decide +kernel) (by decide +kernel) (by decide +kernel) (by decide) ?_
    refine x_aload_n (nx := 166) (i := 0) h dP_doFirst_165 rfl 1 rfl rfl ?_
    refine x_iload_n (nx := 167) (i := 1) h dP_doFirst_166 rfl 2 rfl rfl ?_
    refine x_aload_n (nx := 168) (i := 0) h dP_doFirst_167 rfl 1 rfl rfl ?_
    refine x_cVi (nx := 171) (rest := [.int a1, .ref (ad 2)]) (As := []) h (m_P_nextByte N S) (x_wV h goA y_P_nextByte kP_115 ⟨by decide, by decide⟩ rfl rfl) (oC_2 ad ca) rfl rfl (Nat.le_of_ble_eq_true rfl) dP_doFirst_168 rfl (fun v22 S23 => ?_)
    refine x_cVv (nx := 174) (rest := []) (As := [.int a1, .int v22]) h (m_P_setOperand N a1 v22 S23) (x_wV h goA y_P_setOperand kP_79 ⟨by decide, by decide⟩ rfl rfl) (oC_2 ad ca) rfl rfl (Nat.le_of_ble_eq_true rfl) dP_doFirst_171 rfl (fun v24 S25 => ?_)
    refine x_goto (tgt := 182) h dP_doFirst_174 (by decide) ?_
    exact x_sub [] rfl (j_P_doFirst_182 h N S25)
  refine x_tabOut (tgt := 177) h dP_doFirst_19 (by have z0 := lv_neT (a := 0) hq1 (by decide +kernel); have z1 := lv_neT (a := 1) hq4 (by decide +kernel); have z2 := lv_neT (a := 2) hq11 (by decide +kernel); have z3 := lv_neT (a := 3) hq16 (by decide +kernel); have z4 := lv_neT (a := 4) hq19 (by decide +kernel); have z5 := lv_neT (a := 5) hq20 (by decide +kernel); have z6 := lv_neT (a := 6) hq21 (by decide +kernel); omega) (by decide) ?_
  refine x_aload_n (nx := 178) (i := 0) h dP_doFirst_177 rfl 1 rfl rfl ?_
  refine x_iload_n (nx := 179) (i := 1) h dP_doFirst_178 rfl 2 rfl rfl ?_
  refine x_cVv (nx := 182) (rest := []) (As := [.int a1]) h (m_P_changeA N a1 S) (x_wV h goA y_P_changeA kP_158 ⟨by decide, by decide⟩ rfl rfl) (oC_2 ad ca) rfl rfl (Nat.le_of_ble_eq_true rfl) dP_doFirst_179 rfl (fun v26 S27 => ?_)
  exact x_sub [] rfl (j_P_doFirst_182 h N S27)
set_option maxHeartbeats 4000000 in
set_option maxRecDepth 100000 in
theorem m_P_doFirst {l : Launch} {D : va_G} {ad : Nat → Nat} {ca : Nat → ClassId} (N : Nat) (a1 a2 : Int32) (S : xSt) : xM l D clA (tysC ca) (cellsC ad ca) nW yP_doFirst (Cond.code yP_doFirst cP_doFirst 5 none :: wA) rm_P_doFirst false [.ref (ad 2), .int a1, .int a2] S (f_P_doFirst N a1 a2 S) := by
  refine x_met (cc := cP_doFirst) (maxL := 5) (ret := none) (by decide) rfl [.ref (ad 2), .int a1, .int a2] (lv0 := [(0, .ref (ad 2)), (1, .int a1), (2, .int a2)]) (Nat.le_of_ble_eq_true rfl) rfl ?_
  intro p e s m args below meth c A h
  unfold f_P_doFirst
  refine x_iload_n (nx := 1) (i := 1) h dP_doFirst_0 rfl 1 rfl rfl ?_
  refine x_iconst (nx := 2) (v := (1 : Int32)) h dP_doFirst_1 (by decide) rfl ?_
  refine x_ishr (nx := 3) h dP_doFirst_2 rfl ?_
  refine x_val (fun b1 => ?_)
  refine x_istore_n (nx := 4) (i := 3) (lv' := [(3, .int b1), (0, .ref (ad 2)), (1, .int a1), (2, .int a2)]) h dP_doFirst_3 rfl (by decide) rfl rfl ?_
  refine x_iload_n (nx := 5) (i := 1) h dP_doFirst_4 rfl 2 rfl rfl ?_
  refine x_iconst (nx := 6) (v := (1 : Int32)) h dP_doFirst_5 (by decide) rfl ?_
  refine x_iand (nx := 7) h dP_doFirst_6 rfl ?_
  refine x_iconst (nx := 8) (v := (1 : Int32)) h dP_doFirst_7 (by decide) rfl ?_
  refine x_icmp_ne (nx := 11) (tgt := 15) h dP_doFirst_8 (by decide) rfl ?_ ?_
  · refine x_iconst (nx := 16) (v := (0 : Int32)) h dP_doFirst_15 (by decide) rfl ?_
    exact x_sub [1, 2, 3, 0] rfl (j_P_doFirst_16 h N a1 a2 b1 (0 : Int32) S)
  · refine x_iconst (nx := 12) (v := (1 : Int32)) h dP_doFirst_11 (by decide) rfl ?_
    refine x_goto (tgt := 16) h dP_doFirst_12 (by decide) ?_
    exact x_sub [1, 2, 3, 0] rfl (j_P_doFirst_16 h N a1 a2 b1 (1 : Int32) S)
set_option maxHeartbeats 4000000 in
set_option maxRecDepth 100000 in
theorem m_A_logic {l : Launch} {D : va_G} {ad : Nat → Nat} {ca : Nat → ClassId} (N : Nat) (a0 : Int32) (S : xSt) : xM l D clA (tysC ca) (cellsC ad ca) nW yA_logic (Cond.code yA_logic cA_logic 1 (some .int) :: wA) rm_A_logic true [.int a0] S (f_A_logic N a0 S) := by
  refine x_met (cc := cA_logic) (maxL := 1) (ret := (some .int)) (by decide) rfl [.int a0] (lv0 := [(0, .int a0)]) (Nat.le_of_ble_eq_true rfl) rfl ?_
  intro p e s m args below meth c A h
  unfold f_A_logic
  refine x_iload_n (nx := 1) (i := 0) h dA_logic_0 rfl 0 rfl rfl ?_
  refine x_bipush (nx := 3) (v := (8 : Int32)) h dA_logic_1 (by decide) rfl ?_
  refine x_ishl (nx := 4) h dA_logic_3 rfl ?_
  refine x_iload_n (nx := 5) (i := 0) h dA_logic_4 rfl 0 rfl rfl ?_
  refine x_cSi (nx := 8) (rest := [.int (a0 <<< ((8 : Int32) &&& 31))]) (As := [.int a0]) h (m_A_byWithParity N a0 S) (x_wS h goA y_A_byWithParity kA_22 ⟨by decide, by decide⟩ rfl rfl) rfl rfl (Nat.le_of_ble_eq_true rfl) dA_logic_5 rfl (fun v1 S2 => ?_)
  refine x_ior (nx := 9) h dA_logic_8 rfl ?_
  exact x_iret h dA_logic_9
set_option maxHeartbeats 4000000 in
set_option maxRecDepth 100000 in
theorem m_A_compared {l : Launch} {D : va_G} {ad : Nat → Nat} {ca : Nat → ClassId} (N : Nat) (a0 a1 : Int32) (S : xSt) : xM l D clA (tysC ca) (cellsC ad ca) nW yA_compared (Cond.code yA_compared cA_compared 2 (some .int) :: wA) rm_A_compared true [.int a0, .int a1] S (f_A_compared N a0 a1 S) := by
  refine x_met (cc := cA_compared) (maxL := 2) (ret := (some .int)) (by decide) rfl [.int a0, .int a1] (lv0 := [(0, .int a0), (1, .int a1)]) (Nat.le_of_ble_eq_true rfl) rfl ?_
  intro p e s m args below meth c A h
  unfold f_A_compared
  refine x_iload_n (nx := 1) (i := 0) h dA_compared_0 rfl 0 rfl rfl ?_
  refine x_bipush (nx := 3) (v := (8 : Int32)) h dA_compared_1 (by decide) rfl ?_
  refine x_ishl (nx := 4) h dA_compared_3 rfl ?_
  refine x_iload_n (nx := 5) (i := 0) h dA_compared_4 rfl 0 rfl rfl ?_
  refine x_iload_n (nx := 6) (i := 1) h dA_compared_5 rfl 1 rfl rfl ?_
  refine x_iconst (nx := 7) (v := (0 : Int32)) h dA_compared_6 (by decide) rfl ?_
  refine x_cSi (nx := 10) (rest := [.int (a0 <<< ((8 : Int32) &&& 31))]) (As := [.int a0, .int a1, .int (0 : Int32)]) h (m_A_minus N a0 a1 (0 : Int32) S) (x_wS h goA y_A_minus kA_18 ⟨by decide, by decide⟩ rfl rfl) rfl rfl (Nat.le_of_ble_eq_true rfl) dA_compared_7 rfl (fun v1 S2 => ?_)
  refine x_sipush (nx := 13) (v := (255 : Int32)) h dA_compared_10 (by decide) rfl ?_
  refine x_iand (nx := 14) h dA_compared_13 rfl ?_
  refine x_bipush (nx := 16) (v := (-41 : Int32)) h dA_compared_14 (by decide) rfl ?_
  refine x_iand (nx := 17) h dA_compared_16 rfl ?_
  refine x_ior (nx := 18) h dA_compared_17 rfl ?_
  refine x_iload_n (nx := 19) (i := 1) h dA_compared_18 rfl 1 rfl rfl ?_
  refine x_bipush (nx := 21) (v := (40 : Int32)) h dA_compared_19 (by decide) rfl ?_
  refine x_iand (nx := 22) h dA_compared_21 rfl ?_
  refine x_ior (nx := 23) h dA_compared_22 rfl ?_
  exact x_iret h dA_compared_23
set_option maxHeartbeats 4000000 in
set_option maxRecDepth 100000 in
theorem j_P_operate_145 {l : Launch} {D : va_G} {ad : Nat → Nat} {ca : Nat → ClassId} {p : Program} {e : Env} {s : State} {m : MethodId} {args : Array Value} {below : List Frame} {meth : Method} {c : Code} {A : Nat → Prop} (h : xC p s m args meth c cP_operate 5 (Cond.code yP_operate cP_operate 5 none :: wA) nW yP_operate.cls none D clA (tysC ca) A) (N : Nat) (a4 : Int32) (S : xSt) : xJ p l e rm_P_operate s m args below meth c D clA (tysC ca) (cellsC ad ca) A false 5 145 [(0, .ref (ad 2)), (4, .int a4)] [] S (f_P_operate_145 N a4 S) := by
  unfold f_P_operate_145
  refine x_aload_n (nx := 146) (i := 0) h dP_operate_145 rfl 0 rfl rfl ?_
  refine x_get (nx := 149) h (gC_2_1 ad ca _) (List.mem_cons_of_mem _ kP_10) dP_operate_146 rfl ?_
  refine x_iconst (nx := 150) (v := (0 : Int32)) h dP_operate_149 (by decide) rfl ?_
  refine x_iload (nx := 152) (i := 4) h dP_operate_150 1 rfl rfl ?_
  refine x_cVv (nx := 155) (rest := []) (As := [.int (0 : Int32), .int a4]) h (m_G_split N (0 : Int32) a4 S) (x_wV h goA y_G_split kP_190 ⟨by decide, by decide⟩ rfl rfl) (oC_5 ad ca) rfl rfl (Nat.le_of_ble_eq_true rfl) dP_operate_152 rfl (fun v1 S2 => ?_)
  exact x_vret h dP_operate_155
set_option maxHeartbeats 4000000 in
set_option maxRecDepth 100000 in
theorem m_P_operate {l : Launch} {D : va_G} {ad : Nat → Nat} {ca : Nat → ClassId} (N : Nat) (a1 a2 : Int32) (S : xSt) : xM l D clA (tysC ca) (cellsC ad ca) nW yP_operate (Cond.code yP_operate cP_operate 5 none :: wA) rm_P_operate false [.ref (ad 2), .int a1, .int a2] S (f_P_operate N a1 a2 S) := by
  refine x_met (cc := cP_operate) (maxL := 5) (ret := none) (by decide) rfl [.ref (ad 2), .int a1, .int a2] (lv0 := [(0, .ref (ad 2)), (1, .int a1), (2, .int a2)]) (Nat.le_of_ble_eq_true rfl) rfl ?_
  intro p e s m args below meth c A h
  unfold f_P_operate
  refine x_aload_n (nx := 1) (i := 0) h dP_operate_0 rfl 0 rfl rfl ?_
  refine x_get (nx := 4) h (gC_2_2 ad ca _) (List.mem_cons_of_mem _ kP_20) dP_operate_1 rfl ?_
  refine x_iconst (nx := 5) (v := (0 : Int32)) h dP_operate_4 (by decide) rfl ?_
  refine x_iald (nx := 6) h (aC_10 ad ca) dP_operate_5 rfl (fun v1 => ?_)
  refine x_istore_n (nx := 7) (i := 3) (lv' := [(3, .int v1), (0, .ref (ad 2)), (1, .int a1), (2, .int a2)]) h dP_operate_6 rfl (by decide) rfl rfl ?_
  refine x_iload_n (nx := 8) (i := 1) h dP_operate_7 rfl 2 rfl rfl ?_
  refine x_ite (fun hq2 => ?_) (fun hq2 => ?_)
  · refine x_set hq2 ?_
    refine x_tabIn (off := 44) (tgt := 52) h dP_operate_8 (by decide +kernel) (by decide +kernel) (by decide +kernel) (by decide) ?_
    refine x_iload_n (nx := 53) (i := 3) h dP_operate_52 rfl 0 rfl rfl ?_
    refine x_iload_n (nx := 54) (i := 2) h dP_operate_53 rfl 3 rfl rfl ?_
    refine x_iconst (nx := 55) (v := (0 : Int32)) h dP_operate_54 (by decide) rfl ?_
    refine x_cSi (nx := 58) (rest := []) (As := [.int v1, .int a2, .int (0 : Int32)]) h (m_A_plus N v1 a2 (0 : Int32) S) (x_wS h goA y_A_plus kP_183 ⟨by decide, by decide⟩ rfl rfl) rfl rfl (Nat.le_of_ble_eq_true rfl) dP_operate_55 rfl (fun v3 S4 => ?_)
    refine x_istore (nx := 60) (i := 4) (lv' := [(4, .int v3), (3, .int v1), (0, .ref (ad 2)), (1, .int a1), (2, .int a2)]) h dP_operate_58 (by decide) rfl rfl ?_
    refine x_goto (tgt := 145) h dP_operate_60 (by decide) ?_
    exact x_sub [2, 0] rfl (j_P_operate_145 h N v3 S4)
  refine x_ite (fun hq5 => ?_) (fun hq5 => ?_)
  · refine x_set hq5 ?_
    refine x_tabIn (off := 55) (tgt := 63) h dP_operate_8 (by decide +kernel) (by decide +kernel) (by decide +kernel) (by decide) ?_
    refine x_iload_n (nx := 64) (i := 3) h dP_operate_63 rfl 0 rfl rfl ?_
    refine x_iload_n (nx := 65) (i := 2) h dP_operate_64 rfl 3 rfl rfl ?_
    refine x_aload_n (nx := 66) (i := 0) h dP_operate_65 rfl 1 rfl rfl ?_
    refine x_cVi (nx := 69) (rest := [.int a2, .int v1]) (As := []) h (m_P_carry N S) (x_wV h goA y_P_carry kP_193 ⟨by decide, by decide⟩ rfl rfl) (oC_2 ad ca) rfl rfl (Nat.le_of_ble_eq_true rfl) dP_operate_66 rfl (fun v6 S7 => ?_)
    refine x_cSi (nx := 72) (rest := []) (As := [.int v1, .int a2, .int v6]) h (m_A_plus N v1 a2 v6 S7) (x_wS h goA y_A_plus kP_183 ⟨by decide, by decide⟩ rfl rfl) rfl rfl (Nat.le_of_ble_eq_true rfl) dP_operate_69 rfl (fun v8 S9 => ?_)
    refine x_istore (nx := 74) (i := 4) (lv' := [(4, .int v8), (3, .int v1), (0, .ref (ad 2)), (1, .int a1), (2, .int a2)]) h dP_operate_72 (by decide) rfl rfl ?_
    refine x_goto (tgt := 145) h dP_operate_74 (by decide) ?_
    exact x_sub [2, 0] rfl (j_P_operate_145 h N v8 S9)
  refine x_ite (fun hq10 => ?_) (fun hq10 => ?_)
  · refine x_set hq10 ?_
    refine x_tabIn (off := 69) (tgt := 77) h dP_operate_8 (by decide +kernel) (by decide +kernel) (by decide +kernel) (by decide) ?_
    refine x_iload_n (nx := 78) (i := 3) h dP_operate_77 rfl 0 rfl rfl ?_
    refine x_iload_n (nx := 79) (i := 2) h dP_operate_78 rfl 3 rfl rfl ?_
    refine x_iconst (nx := 80) (v := (0 : Int32)) h dP_operate_79 (by decide) rfl ?_
    refine x_cSi (nx := 83) (rest := []) (As := [.int v1, .int a2, .int (0 : Int32)]) h (m_A_minus N v1 a2 (0 : Int32) S) (x_wS h goA y_A_minus kP_180 ⟨by decide, by decide⟩ rfl rfl) rfl rfl (Nat.le_of_ble_eq_true rfl) dP_operate_80 rfl (fun v11 S12 => ?_)
    refine x_istore (nx := 85) (i := 4) (lv' := [(4, .int v11), (3, .int v1), (0, .ref (ad 2)), (1, .int a1), (2, .int a2)]) h dP_operate_83 (by decide) rfl rfl ?_
    refine x_goto (tgt := 145) h dP_operate_85 (by decide) ?_
    exact x_sub [2, 0] rfl (j_P_operate_145 h N v11 S12)
  refine x_ite (fun hq13 => ?_) (fun hq13 => ?_)
  · refine x_set hq13 ?_
    refine x_tabIn (off := 80) (tgt := 88) h dP_operate_8 (by decide +kernel) (by decide +kernel) (by decide +kernel) (by decide) ?_
    refine x_iload_n (nx := 89) (i := 3) h dP_operate_88 rfl 0 rfl rfl ?_
    refine x_iload_n (nx := 90) (i := 2) h dP_operate_89 rfl 3 rfl rfl ?_
    refine x_aload_n (nx := 91) (i := 0) h dP_operate_90 rfl 1 rfl rfl ?_
    refine x_cVi (nx := 94) (rest := [.int a2, .int v1]) (As := []) h (m_P_carry N S) (x_wV h goA y_P_carry kP_193 ⟨by decide, by decide⟩ rfl rfl) (oC_2 ad ca) rfl rfl (Nat.le_of_ble_eq_true rfl) dP_operate_91 rfl (fun v14 S15 => ?_)
    refine x_cSi (nx := 97) (rest := []) (As := [.int v1, .int a2, .int v14]) h (m_A_minus N v1 a2 v14 S15) (x_wS h goA y_A_minus kP_180 ⟨by decide, by decide⟩ rfl rfl) rfl rfl (Nat.le_of_ble_eq_true rfl) dP_operate_94 rfl (fun v16 S17 => ?_)
    refine x_istore (nx := 99) (i := 4) (lv' := [(4, .int v16), (3, .int v1), (0, .ref (ad 2)), (1, .int a1), (2, .int a2)]) h dP_operate_97 (by decide) rfl rfl ?_
    refine x_goto (tgt := 145) h dP_operate_99 (by decide) ?_
    exact x_sub [2, 0] rfl (j_P_operate_145 h N v16 S17)
  refine x_ite (fun hq18 => ?_) (fun hq18 => ?_)
  · refine x_set hq18 ?_
    refine x_tabIn (off := 94) (tgt := 102) h dP_operate_8 (by decide +kernel) (by decide +kernel) (by decide +kernel) (by decide) ?_
    refine x_iload_n (nx := 103) (i := 3) h dP_operate_102 rfl 0 rfl rfl ?_
    refine x_iload_n (nx := 104) (i := 2) h dP_operate_103 rfl 3 rfl rfl ?_
    refine x_iand (nx := 105) h dP_operate_104 rfl ?_
    refine x_cSi (nx := 108) (rest := []) (As := [.int (v1 &&& a2)]) h (m_A_logic N (v1 &&& a2) S) (x_wS h goA y_A_logic kP_199 ⟨by decide, by decide⟩ rfl rfl) rfl rfl (Nat.le_of_ble_eq_true rfl) dP_operate_105 rfl (fun v19 S20 => ?_)
    refine x_bipush (nx := 110) (v := (16 : Int32)) h dP_operate_108 (by decide) rfl ?_
    refine x_ior (nx := 111) h dP_operate_110 rfl ?_
    refine x_val (fun b21 => ?_)
    refine x_istore (nx := 113) (i := 4) (lv' := [(4, .int b21), (3, .int v1), (0, .ref (ad 2)), (1, .int a1), (2, .int a2)]) h dP_operate_111 (by decide) rfl rfl ?_
    refine x_goto (tgt := 145) h dP_operate_113 (by decide) ?_
    exact x_sub [2, 0] rfl (j_P_operate_145 h N b21 S20)
  refine x_ite (fun hq22 => ?_) (fun hq22 => ?_)
  · refine x_set hq22 ?_
    refine x_tabIn (off := 108) (tgt := 116) h dP_operate_8 (by decide +kernel) (by decide +kernel) (by decide +kernel) (by decide) ?_
    refine x_iload_n (nx := 117) (i := 3) h dP_operate_116 rfl 0 rfl rfl ?_
    refine x_iload_n (nx := 118) (i := 2) h dP_operate_117 rfl 3 rfl rfl ?_
    refine x_ixor (nx := 119) h dP_operate_118 rfl ?_
    refine x_cSi (nx := 122) (rest := []) (As := [.int (v1 ^^^ a2)]) h (m_A_logic N (v1 ^^^ a2) S) (x_wS h goA y_A_logic kP_199 ⟨by decide, by decide⟩ rfl rfl) rfl rfl (Nat.le_of_ble_eq_true rfl) dP_operate_119 rfl (fun v23 S24 => ?_)
    refine x_istore (nx := 124) (i := 4) (lv' := [(4, .int v23), (3, .int v1), (0, .ref (ad 2)), (1, .int a1), (2, .int a2)]) h dP_operate_122 (by decide) rfl rfl ?_
    refine x_goto (tgt := 145) h dP_operate_124 (by decide) ?_
    exact x_sub [2, 0] rfl (j_P_operate_145 h N v23 S24)
  refine x_ite (fun hq25 => ?_) (fun hq25 => ?_)
  · refine x_set hq25 ?_
    refine x_tabIn (off := 119) (tgt := 127) h dP_operate_8 (by decide +kernel) (by decide +kernel) (by decide +kernel) (by decide) ?_
    refine x_iload_n (nx := 128) (i := 3) h dP_operate_127 rfl 0 rfl rfl ?_
    refine x_iload_n (nx := 129) (i := 2) h dP_operate_128 rfl 3 rfl rfl ?_
    refine x_ior (nx := 130) h dP_operate_129 rfl ?_
    refine x_cSi (nx := 133) (rest := []) (As := [.int (v1 ||| a2)]) h (m_A_logic N (v1 ||| a2) S) (x_wS h goA y_A_logic kP_199 ⟨by decide, by decide⟩ rfl rfl) rfl rfl (Nat.le_of_ble_eq_true rfl) dP_operate_130 rfl (fun v26 S27 => ?_)
    refine x_istore (nx := 135) (i := 4) (lv' := [(4, .int v26), (3, .int v1), (0, .ref (ad 2)), (1, .int a1), (2, .int a2)]) h dP_operate_133 (by decide) rfl rfl ?_
    refine x_goto (tgt := 145) h dP_operate_135 (by decide) ?_
    exact x_sub [2, 0] rfl (j_P_operate_145 h N v26 S27)
  refine x_tabOut (tgt := 138) h dP_operate_8 (by have z0 := lv_neT (a := 0) hq2 (by decide +kernel); have z1 := lv_neT (a := 1) hq5 (by decide +kernel); have z2 := lv_neT (a := 2) hq10 (by decide +kernel); have z3 := lv_neT (a := 3) hq13 (by decide +kernel); have z4 := lv_neT (a := 4) hq18 (by decide +kernel); have z5 := lv_neT (a := 5) hq22 (by decide +kernel); have z6 := lv_neT (a := 6) hq25 (by decide +kernel); omega) (by decide) ?_
  refine x_iload_n (nx := 139) (i := 3) h dP_operate_138 rfl 0 rfl rfl ?_
  refine x_iload_n (nx := 140) (i := 2) h dP_operate_139 rfl 3 rfl rfl ?_
  refine x_cSi (nx := 143) (rest := []) (As := [.int v1, .int a2]) h (m_A_compared N v1 a2 S) (x_wS h goA y_A_compared kP_202 ⟨by decide, by decide⟩ rfl rfl) rfl rfl (Nat.le_of_ble_eq_true rfl) dP_operate_140 rfl (fun v28 S29 => ?_)
  refine x_istore (nx := 145) (i := 4) (lv' := [(4, .int v28), (3, .int v1), (0, .ref (ad 2)), (1, .int a1), (2, .int a2)]) h dP_operate_143 (by decide) rfl rfl ?_
  exact x_sub [2, 0] rfl (j_P_operate_145 h N v28 S29)
set_option maxHeartbeats 4000000 in
set_option maxRecDepth 100000 in
theorem j_P_popOrGo_134 {l : Launch} {D : va_G} {ad : Nat → Nat} {ca : Nat → ClassId} {p : Program} {e : Env} {s : State} {m : MethodId} {args : Array Value} {below : List Frame} {meth : Method} {c : Code} {A : Nat → Prop} (h : xC p s m args meth c cP_popOrGo 2 (Cond.code yP_popOrGo cP_popOrGo 2 none :: wA) nW yP_popOrGo.cls none D clA (tysC ca) A) (N : Nat) (S : xSt) : xJ p l e rm_P_popOrGo s m args below meth c D clA (tysC ca) (cellsC ad ca) A false 2 134 [] [] S (f_P_popOrGo_134 N S) := by
  unfold f_P_popOrGo_134
  exact x_vret h dP_popOrGo_134
set_option maxHeartbeats 4000000 in
set_option maxRecDepth 100000 in
theorem j_P_popOrGo_120 {l : Launch} {D : va_G} {ad : Nat → Nat} {ca : Nat → ClassId} {p : Program} {e : Env} {s : State} {m : MethodId} {args : Array Value} {below : List Frame} {meth : Method} {c : Code} {A : Nat → Prop} (h : xC p s m args meth c cP_popOrGo 2 (Cond.code yP_popOrGo cP_popOrGo 2 none :: wA) nW yP_popOrGo.cls none D clA (tysC ca) A) (N : Nat) (a1 : Int32) (S : xSt) : xJ p l e rm_P_popOrGo s m args below meth c D clA (tysC ca) (cellsC ad ca) A false 2 120 [(0, .ref (ad 2)), (1, .int a1)] [] S (f_P_popOrGo_120 N a1 S) := by
  unfold f_P_popOrGo_120
  refine x_aload_n (nx := 121) (i := 0) h dP_popOrGo_120 rfl 0 rfl rfl ?_
  refine x_get (nx := 124) h (gC_2_1 ad ca _) (List.mem_cons_of_mem _ kP_10) dP_popOrGo_121 rfl ?_
  refine x_iload_n (nx := 125) (i := 1) h dP_popOrGo_124 rfl 1 rfl rfl ?_
  refine x_iconst (nx := 126) (v := (1 : Int32)) h dP_popOrGo_125 (by decide) rfl ?_
  refine x_ishr (nx := 127) h dP_popOrGo_126 rfl ?_
  refine x_aload_n (nx := 128) (i := 0) h dP_popOrGo_127 rfl 0 rfl rfl ?_
  refine x_cVi (nx := 131) (rest := [.int (a1 >>> ((1 : Int32) &&& 31)), .ref (ad 5)]) (As := []) h (m_P_pop N S) (x_wV h goA y_P_pop kP_205 ⟨by decide, by decide⟩ rfl rfl) (oC_2 ad ca) rfl rfl (Nat.le_of_ble_eq_true rfl) dP_popOrGo_128 rfl (fun v1 S2 => ?_)
  refine x_cVv (nx := 134) (rest := []) (As := [.int (a1 >>> ((1 : Int32) &&& 31)), .int v1]) h (m_G_setPair N (a1 >>> ((1 : Int32) &&& 31)) v1 S2) (x_wV h goA y_G_setPair kP_142 ⟨by decide, by decide⟩ rfl rfl) (oC_5 ad ca) rfl rfl (Nat.le_of_ble_eq_true rfl) dP_popOrGo_131 rfl (fun v3 S4 => ?_)
  exact x_sub [] rfl (j_P_popOrGo_134 h N S4)
set_option maxHeartbeats 4000000 in
set_option maxRecDepth 100000 in
theorem m_P_popOrGo {l : Launch} {D : va_G} {ad : Nat → Nat} {ca : Nat → ClassId} (N : Nat) (a1 : Int32) (S : xSt) : xM l D clA (tysC ca) (cellsC ad ca) nW yP_popOrGo (Cond.code yP_popOrGo cP_popOrGo 2 none :: wA) rm_P_popOrGo false [.ref (ad 2), .int a1] S (f_P_popOrGo N a1 S) := by
  refine x_met (cc := cP_popOrGo) (maxL := 2) (ret := none) (by decide) rfl [.ref (ad 2), .int a1] (lv0 := [(0, .ref (ad 2)), (1, .int a1)]) (Nat.le_of_ble_eq_true rfl) rfl ?_
  intro p e s m args below meth c A h
  unfold f_P_popOrGo
  refine x_iload_n (nx := 1) (i := 1) h dP_popOrGo_0 rfl 1 rfl rfl ?_
  refine x_ite (fun hq1 => ?_) (fun hq1 => ?_)
  · refine x_set hq1 ?_
    refine x_tabIn (off := 43) (tgt := 44) h dP_popOrGo_1 (by decide +kernel) (by decide +kernel) (by decide +kernel) (by decide) ?_
    refine x_aload_n (nx := 45) (i := 0) h dP_popOrGo_44 rfl 0 rfl rfl ?_
    refine x_get (nx := 48) h (gC_2_2 ad ca _) (List.mem_cons_of_mem _ kP_20) dP_popOrGo_45 rfl ?_
    refine x_bipush (nx := 50) (v := (21 : Int32)) h dP_popOrGo_48 (by decide) rfl ?_
    refine x_aload_n (nx := 51) (i := 0) h dP_popOrGo_50 rfl 0 rfl rfl ?_
    refine x_cVi (nx := 54) (rest := [.int (21 : Int32), .ref (ad 10)]) (As := []) h (m_P_pop N S) (x_wV h goA y_P_pop kP_205 ⟨by decide, by decide⟩ rfl rfl) (oC_2 ad ca) rfl rfl (Nat.le_of_ble_eq_true rfl) dP_popOrGo_51 rfl (fun v2 S3 => ?_)
    refine x_iast (nx := 55) h (aC_10 ad ca) dP_popOrGo_54 rfl (fun S4 => ?_)
    refine x_goto (tgt := 134) h dP_popOrGo_55 (by decide) ?_
    exact x_sub [] rfl (j_P_popOrGo_134 h N S4)
  refine x_ite (fun hq5 => ?_) (fun hq5 => ?_)
  · refine x_set hq5 ?_
    refine x_tabIn (off := 119) (tgt := 120) h dP_popOrGo_1 (by decide +kernel) (by decide +kernel) (by decide +kernel) (by decide) ?_
    exact x_sub [0, 1] rfl (j_P_popOrGo_120 h N a1 S)
  refine x_ite (fun hq6 => ?_) (fun hq6 => ?_)
  · refine x_set hq6 ?_
    refine x_tabIn (off := 57) (tgt := 58) h dP_popOrGo_1 (by decide +kernel) (by decide +kernel) (by decide +kernel) (by decide) ?_
    refine x_aload_n (nx := 59) (i := 0) h dP_popOrGo_58 rfl 0 rfl rfl ?_
    refine x_get (nx := 62) h (gC_2_1 ad ca _) (List.mem_cons_of_mem _ kP_10) dP_popOrGo_59 rfl ?_
    refine x_iconst (nx := 63) (v := (2 : Int32)) h dP_popOrGo_62 (by decide) rfl ?_
    refine x_bipush (nx := 65) (v := (7 : Int32)) h dP_popOrGo_63 (by decide) rfl ?_
    refine x_cVv (nx := 68) (rest := []) (As := [.int (2 : Int32), .int (7 : Int32)]) h (m_G_swapWithSecond N (2 : Int32) (7 : Int32) S) (x_wV h goA y_G_swapWithSecond kP_161 ⟨by decide, by decide⟩ rfl rfl) (oC_5 ad ca) rfl rfl (Nat.le_of_ble_eq_true rfl) dP_popOrGo_65 rfl (fun v7 S8 => ?_)
    refine x_goto (tgt := 134) h dP_popOrGo_68 (by decide) ?_
    exact x_sub [] rfl (j_P_popOrGo_134 h N S8)
  refine x_ite (fun hq9 => ?_) (fun hq9 => ?_)
  · refine x_set hq9 ?_
    refine x_tabIn (off := 119) (tgt := 120) h dP_popOrGo_1 (by decide +kernel) (by decide +kernel) (by decide +kernel) (by decide) ?_
    exact x_sub [0, 1] rfl (j_P_popOrGo_120 h N a1 S)
  refine x_ite (fun hq10 => ?_) (fun hq10 => ?_)
  · refine x_set hq10 ?_
    refine x_tabIn (off := 70) (tgt := 71) h dP_popOrGo_1 (by decide +kernel) (by decide +kernel) (by decide +kernel) (by decide) ?_
    refine x_aload_n (nx := 72) (i := 0) h dP_popOrGo_71 rfl 0 rfl rfl ?_
    refine x_get (nx := 75) h (gC_2_2 ad ca _) (List.mem_cons_of_mem _ kP_20) dP_popOrGo_72 rfl ?_
    refine x_bipush (nx := 77) (v := (21 : Int32)) h dP_popOrGo_75 (by decide) rfl ?_
    refine x_aload_n (nx := 78) (i := 0) h dP_popOrGo_77 rfl 0 rfl rfl ?_
    refine x_get (nx := 81) h (gC_2_1 ad ca _) (List.mem_cons_of_mem _ kP_10) dP_popOrGo_78 rfl ?_
    refine x_cVi (nx := 84) (rest := [.int (21 : Int32), .ref (ad 10)]) (As := []) h (m_G_hl N S) (x_wV h goA y_G_hl kP_109 ⟨by decide, by decide⟩ rfl rfl) (oC_5 ad ca) rfl rfl (Nat.le_of_ble_eq_true rfl) dP_popOrGo_81 rfl (fun v11 S12 => ?_)
    refine x_iast (nx := 85) h (aC_10 ad ca) dP_popOrGo_84 rfl (fun S13 => ?_)
    refine x_goto (tgt := 134) h dP_popOrGo_85 (by decide) ?_
    exact x_sub [] rfl (j_P_popOrGo_134 h N S13)
  refine x_ite (fun hq14 => ?_) (fun hq14 => ?_)
  · refine x_set hq14 ?_
    refine x_tabIn (off := 87) (tgt := 88) h dP_popOrGo_1 (by decide +kernel) (by decide +kernel) (by decide +kernel) (by decide) ?_
    refine x_aload_n (nx := 89) (i := 0) h dP_popOrGo_88 rfl 0 rfl rfl ?_
    refine x_get (nx := 92) h (gC_2_1 ad ca _) (List.mem_cons_of_mem _ kP_10) dP_popOrGo_89 rfl ?_
    refine x_iconst (nx := 93) (v := (0 : Int32)) h dP_popOrGo_92 (by decide) rfl ?_
    refine x_aload_n (nx := 94) (i := 0) h dP_popOrGo_93 rfl 0 rfl rfl ?_
    refine x_cVi (nx := 97) (rest := [.int (0 : Int32), .ref (ad 5)]) (As := []) h (m_P_pop N S) (x_wV h goA y_P_pop kP_205 ⟨by decide, by decide⟩ rfl rfl) (oC_2 ad ca) rfl rfl (Nat.le_of_ble_eq_true rfl) dP_popOrGo_94 rfl (fun v15 S16 => ?_)
    refine x_cVv (nx := 100) (rest := []) (As := [.int (0 : Int32), .int v15]) h (m_G_split N (0 : Int32) v15 S16) (x_wV h goA y_G_split kP_190 ⟨by decide, by decide⟩ rfl rfl) (oC_5 ad ca) rfl rfl (Nat.le_of_ble_eq_true rfl) dP_popOrGo_97 rfl (fun v17 S18 => ?_)
    refine x_goto (tgt := 134) h dP_popOrGo_100 (by decide) ?_
    exact x_sub [] rfl (j_P_popOrGo_134 h N S18)
  refine x_ite (fun hq19 => ?_) (fun hq19 => ?_)
  · refine x_set hq19 ?_
    refine x_tabIn (off := 102) (tgt := 103) h dP_popOrGo_1 (by decide +kernel) (by decide +kernel) (by decide +kernel) (by decide) ?_
    refine x_aload_n (nx := 104) (i := 0) h dP_popOrGo_103 rfl 0 rfl rfl ?_
    refine x_get (nx := 107) h (gC_2_2 ad ca _) (List.mem_cons_of_mem _ kP_20) dP_popOrGo_104 rfl ?_
    refine x_bipush (nx := 109) (v := (20 : Int32)) h dP_popOrGo_107 (by decide) rfl ?_
    refine x_aload_n (nx := 110) (i := 0) h dP_popOrGo_109 rfl 0 rfl rfl ?_
    refine x_get (nx := 113) h (gC_2_1 ad ca _) (List.mem_cons_of_mem _ kP_10) dP_popOrGo_110 rfl ?_
    refine x_cVi (nx := 116) (rest := [.int (20 : Int32), .ref (ad 10)]) (As := []) h (m_G_hl N S) (x_wV h goA y_G_hl kP_109 ⟨by decide, by decide⟩ rfl rfl) (oC_5 ad ca) rfl rfl (Nat.le_of_ble_eq_true rfl) dP_popOrGo_113 rfl (fun v20 S21 => ?_)
    refine x_iast (nx := 117) h (aC_10 ad ca) dP_popOrGo_116 rfl (fun S22 => ?_)
    refine x_goto (tgt := 134) h dP_popOrGo_117 (by decide) ?_
    exact x_sub [] rfl (j_P_popOrGo_134 h N S22)
  refine x_tabOut (tgt := 120) h dP_popOrGo_1 (by have z0 := lv_neT (a := 1) hq1 (by decide +kernel); have z1 := lv_neT (a := 2) hq5 (by decide +kernel); have z2 := lv_neT (a := 3) hq6 (by decide +kernel); have z3 := lv_neT (a := 4) hq9 (by decide +kernel); have z4 := lv_neT (a := 5) hq10 (by decide +kernel); have z5 := lv_neT (a := 6) hq14 (by decide +kernel); have z6 := lv_neT (a := 7) hq19 (by decide +kernel); omega) (by decide) ?_
  exact x_sub [0, 1] rfl (j_P_popOrGo_120 h N a1 S)
set_option maxHeartbeats 4000000 in
set_option maxRecDepth 100000 in
theorem j_P_doMixed_219 {l : Launch} {D : va_G} {ad : Nat → Nat} {ca : Nat → ClassId} {p : Program} {e : Env} {s : State} {m : MethodId} {args : Array Value} {below : List Frame} {meth : Method} {c : Code} {A : Nat → Prop} (h : xC p s m args meth c cP_doMixed 4 (Cond.code yP_doMixed cP_doMixed 4 none :: wA) nW yP_doMixed.cls none D clA (tysC ca) A) (N : Nat) (S : xSt) : xJ p l e rm_P_doMixed s m args below meth c D clA (tysC ca) (cellsC ad ca) A false 4 219 [] [] S (f_P_doMixed_219 N S) := by
  unfold f_P_doMixed_219
  exact x_vret h dP_doMixed_219
set_option maxHeartbeats 4000000 in
set_option maxRecDepth 100000 in
theorem j_P_doMixed_213 {l : Launch} {D : va_G} {ad : Nat → Nat} {ca : Nat → ClassId} {p : Program} {e : Env} {s : State} {m : MethodId} {args : Array Value} {below : List Frame} {meth : Method} {c : Code} {A : Nat → Prop} (h : xC p s m args meth c cP_doMixed 4 (Cond.code yP_doMixed cP_doMixed 4 none :: wA) nW yP_doMixed.cls none D clA (tysC ca) A) (N : Nat) (w1 : Int32) (S : xSt) : xJ p l e rm_P_doMixed s m args below meth c D clA (tysC ca) (cellsC ad ca) A false 4 213 [] [.int w1, .ref (ad 2)] S (f_P_doMixed_213 N w1 S) := by
  unfold f_P_doMixed_213
  refine x_putZ (nx := 216) h (pC_2_4 ad ca _) (List.mem_cons_of_mem _ kP_25) dP_doMixed_213 rfl (fun S1 => ?_)
  refine x_goto (tgt := 219) h dP_doMixed_216 (by decide) ?_
  exact x_sub [] rfl (j_P_doMixed_219 h N S1)
set_option maxHeartbeats 4000000 in
set_option maxRecDepth 100000 in
theorem j_P_doMixed_179 {l : Launch} {D : va_G} {ad : Nat → Nat} {ca : Nat → ClassId} {p : Program} {e : Env} {s : State} {m : MethodId} {args : Array Value} {below : List Frame} {meth : Method} {c : Code} {A : Nat → Prop} (h : xC p s m args meth c cP_doMixed 4 (Cond.code yP_doMixed cP_doMixed 4 none :: wA) nW yP_doMixed.cls none D clA (tysC ca) A) (N : Nat) (a1 : Int32) (S : xSt) : xJ p l e rm_P_doMixed s m args below meth c D clA (tysC ca) (cellsC ad ca) A false 4 179 [(0, .ref (ad 2)), (1, .int a1)] [] S (f_P_doMixed_179 N a1 S) := by
  unfold f_P_doMixed_179
  refine x_aload_n (nx := 180) (i := 0) h dP_doMixed_179 rfl 0 rfl rfl ?_
  refine x_get (nx := 183) h (gC_2_2 ad ca _) (List.mem_cons_of_mem _ kP_20) dP_doMixed_180 rfl ?_
  refine x_bipush (nx := 185) (v := (22 : Int32)) h dP_doMixed_183 (by decide) rfl ?_
  refine x_iload_n (nx := 186) (i := 1) h dP_doMixed_185 rfl 1 rfl rfl ?_
  refine x_bipush (nx := 188) (v := (6 : Int32)) h dP_doMixed_186 (by decide) rfl ?_
  refine x_isub (nx := 189) h dP_doMixed_188 rfl ?_
  refine x_iast (nx := 190) h (aC_10 ad ca) dP_doMixed_189 rfl (fun S1 => ?_)
  refine x_aload_n (nx := 191) (i := 0) h dP_doMixed_190 rfl 0 rfl rfl ?_
  refine x_get (nx := 194) h (gC_2_2 ad ca _) (List.mem_cons_of_mem _ kP_20) dP_doMixed_191 rfl ?_
  refine x_bipush (nx := 196) (v := (23 : Int32)) h dP_doMixed_194 (by decide) rfl ?_
  refine x_iload_n (nx := 197) (i := 1) h dP_doMixed_196 rfl 1 rfl rfl ?_
  refine x_bipush (nx := 199) (v := (6 : Int32)) h dP_doMixed_197 (by decide) rfl ?_
  refine x_isub (nx := 200) h dP_doMixed_199 rfl ?_
  refine x_iast (nx := 201) h (aC_10 ad ca) dP_doMixed_200 rfl (fun S2 => ?_)
  refine x_aload_n (nx := 202) (i := 0) h dP_doMixed_201 rfl 0 rfl rfl ?_
  refine x_iload_n (nx := 203) (i := 1) h dP_doMixed_202 rfl 1 rfl rfl ?_
  refine x_bipush (nx := 205) (v := (7 : Int32)) h dP_doMixed_203 (by decide) rfl ?_
  refine x_icmp_ne (nx := 208) (tgt := 212) h dP_doMixed_205 (by decide) rfl ?_ ?_
  · refine x_iconst (nx := 213) (v := (0 : Int32)) h dP_doMixed_212 (by decide) rfl ?_
    exact x_sub [] rfl (j_P_doMixed_213 h N (0 : Int32) S2)
  · refine x_iconst (nx := 209) (v := (1 : Int32)) h dP_doMixed_208 (by decide) rfl ?_
    refine x_goto (tgt := 213) h dP_doMixed_209 (by decide) ?_
    exact x_sub [] rfl (j_P_doMixed_213 h N (1 : Int32) S2)
set_option maxHeartbeats 4000000 in
set_option maxRecDepth 100000 in
theorem m_P_doMixed {l : Launch} {D : va_G} {ad : Nat → Nat} {ca : Nat → ClassId} (N : Nat) (a1 : Int32) (S : xSt) : xM l D clA (tysC ca) (cellsC ad ca) nW yP_doMixed (Cond.code yP_doMixed cP_doMixed 4 none :: wA) rm_P_doMixed false [.ref (ad 2), .int a1] S (f_P_doMixed N a1 S) := by
  refine x_met (cc := cP_doMixed) (maxL := 4) (ret := none) (by decide) rfl [.ref (ad 2), .int a1] (lv0 := [(0, .ref (ad 2)), (1, .int a1)]) (Nat.le_of_ble_eq_true rfl) rfl ?_
  intro p e s m args below meth c A h
  unfold f_P_doMixed
  refine x_aload_n (nx := 1) (i := 0) h dP_doMixed_0 rfl 0 rfl rfl ?_
  refine x_get (nx := 4) h (gC_2_2 ad ca _) (List.mem_cons_of_mem _ kP_20) dP_doMixed_1 rfl ?_
  refine x_iconst (nx := 5) (v := (0 : Int32)) h dP_doMixed_4 (by decide) rfl ?_
  refine x_iald (nx := 6) h (aC_10 ad ca) dP_doMixed_5 rfl (fun v1 => ?_)
  refine x_istore_n (nx := 7) (i := 2) (lv' := [(2, .int v1), (0, .ref (ad 2)), (1, .int a1)]) h dP_doMixed_6 rfl (by decide) rfl rfl ?_
  refine x_iload_n (nx := 8) (i := 1) h dP_doMixed_7 rfl 2 rfl rfl ?_
  refine x_ite (fun hq2 => ?_) (fun hq2 => ?_)
  · refine x_set hq2 ?_
    refine x_tabIn (off := 48) (tgt := 56) h dP_doMixed_8 (by decide +kernel) (by decide +kernel) (by decide +kernel) (by decide) ?_
    refine x_aload_n (nx := 57) (i := 0) h dP_doMixed_56 rfl 1 rfl rfl ?_
    refine x_get (nx := 60) h (gC_2_2 ad ca _) (List.mem_cons_of_mem _ kP_20) dP_doMixed_57 rfl ?_
    refine x_bipush (nx := 62) (v := (21 : Int32)) h dP_doMixed_60 (by decide) rfl ?_
    refine x_aload_n (nx := 63) (i := 0) h dP_doMixed_62 rfl 1 rfl rfl ?_
    refine x_cVi (nx := 66) (rest := [.int (21 : Int32), .ref (ad 10)]) (As := []) h (m_P_nextWord N S) (x_wV h goA y_P_nextWord kP_139 ⟨by decide, by decide⟩ rfl rfl) (oC_2 ad ca) rfl rfl (Nat.le_of_ble_eq_true rfl) dP_doMixed_63 rfl (fun v3 S4 => ?_)
    refine x_iast (nx := 67) h (aC_10 ad ca) dP_doMixed_66 rfl (fun S5 => ?_)
    refine x_goto (tgt := 219) h dP_doMixed_67 (by decide) ?_
    exact x_sub [] rfl (j_P_doMixed_219 h N S5)
  refine x_ite (fun hq6 => ?_) (fun hq6 => ?_)
  · refine x_set hq6 ?_
    refine x_tabIn (off := 211) (tgt := 219) h dP_doMixed_8 (by decide +kernel) (by decide +kernel) (by decide +kernel) (by decide) ?_
    exact x_sub [] rfl (j_P_doMixed_219 h N S)
  refine x_ite (fun hq7 => ?_) (fun hq7 => ?_)
  · refine x_set hq7 ?_
    refine x_tabIn (off := 62) (tgt := 70) h dP_doMixed_8 (by decide +kernel) (by decide +kernel) (by decide +kernel) (by decide) ?_
    refine x_aload_n (nx := 71) (i := 0) h dP_doMixed_70 rfl 1 rfl rfl ?_
    refine x_get (nx := 74) h (gC_2_0 ad ca _) (List.mem_cons_of_mem _ kP_21) dP_doMixed_71 rfl ?_
    refine x_iload_n (nx := 75) (i := 2) h dP_doMixed_74 rfl 0 rfl rfl ?_
    refine x_bipush (nx := 77) (v := (8 : Int32)) h dP_doMixed_75 (by decide) rfl ?_
    refine x_ishl (nx := 78) h dP_doMixed_77 rfl ?_
    refine x_aload_n (nx := 79) (i := 0) h dP_doMixed_78 rfl 1 rfl rfl ?_
    refine x_cVi (nx := 82) (rest := [.int (v1 <<< ((8 : Int32) &&& 31)), .ref (ad 1)]) (As := []) h (m_P_nextByte N S) (x_wV h goA y_P_nextByte kP_115 ⟨by decide, by decide⟩ rfl rfl) (oC_2 ad ca) rfl rfl (Nat.le_of_ble_eq_true rfl) dP_doMixed_79 rfl (fun v8 S9 => ?_)
    refine x_ior (nx := 83) h dP_doMixed_82 rfl ?_
    refine x_iload_n (nx := 84) (i := 2) h dP_doMixed_83 rfl 0 rfl rfl ?_
    refine x_cVv (nx := 87) (rest := []) (As := [.int ((v1 <<< ((8 : Int32) &&& 31)) ||| v8), .int v1]) h (m_B_writePort N ((v1 <<< ((8 : Int32) &&& 31)) ||| v8) v1 S9) (x_wV h goA y_B_writePort kP_214 ⟨by decide, by decide⟩ rfl rfl) (oC_1 ad ca) rfl rfl (Nat.le_of_ble_eq_true rfl) dP_doMixed_84 rfl (fun v10 S11 => ?_)
    refine x_goto (tgt := 219) h dP_doMixed_87 (by decide) ?_
    exact x_sub [] rfl (j_P_doMixed_219 h N S11)
  refine x_ite (fun hq12 => ?_) (fun hq12 => ?_)
  · refine x_set hq12 ?_
    refine x_tabIn (off := 82) (tgt := 90) h dP_doMixed_8 (by decide +kernel) (by decide +kernel) (by decide +kernel) (by decide) ?_
    refine x_aload_n (nx := 91) (i := 0) h dP_doMixed_90 rfl 1 rfl rfl ?_
    refine x_get (nx := 94) h (gC_2_2 ad ca _) (List.mem_cons_of_mem _ kP_20) dP_doMixed_91 rfl ?_
    refine x_iconst (nx := 95) (v := (0 : Int32)) h dP_doMixed_94 (by decide) rfl ?_
    refine x_aload_n (nx := 96) (i := 0) h dP_doMixed_95 rfl 1 rfl rfl ?_
    refine x_get (nx := 99) h (gC_2_0 ad ca _) (List.mem_cons_of_mem _ kP_21) dP_doMixed_96 rfl ?_
    refine x_iload_n (nx := 100) (i := 2) h dP_doMixed_99 rfl 0 rfl rfl ?_
    refine x_bipush (nx := 102) (v := (8 : Int32)) h dP_doMixed_100 (by decide) rfl ?_
    refine x_ishl (nx := 103) h dP_doMixed_102 rfl ?_
    refine x_aload_n (nx := 104) (i := 0) h dP_doMixed_103 rfl 1 rfl rfl ?_
    refine x_cVi (nx := 107) (rest := [.int (v1 <<< ((8 : Int32) &&& 31)), .ref (ad 1), .int (0 : Int32), .ref (ad 10)]) (As := []) h (m_P_nextByte N S) (x_wV h goA y_P_nextByte kP_115 ⟨by decide, by decide⟩ rfl rfl) (oC_2 ad ca) rfl rfl (Nat.le_of_ble_eq_true rfl) dP_doMixed_104 rfl (fun v13 S14 => ?_)
    refine x_ior (nx := 108) h dP_doMixed_107 rfl ?_
    refine x_cVi (nx := 111) (rest := [.int (0 : Int32), .ref (ad 10)]) (As := [.int ((v1 <<< ((8 : Int32) &&& 31)) ||| v13)]) h (m_B_readPort N ((v1 <<< ((8 : Int32) &&& 31)) ||| v13) S14) (x_wV h goA y_B_readPort kP_217 ⟨by decide, by decide⟩ rfl rfl) (oC_1 ad ca) rfl rfl (Nat.le_of_ble_eq_true rfl) dP_doMixed_108 rfl (fun v15 S16 => ?_)
    refine x_iast (nx := 112) h (aC_10 ad ca) dP_doMixed_111 rfl (fun S17 => ?_)
    refine x_goto (tgt := 219) h dP_doMixed_112 (by decide) ?_
    exact x_sub [] rfl (j_P_doMixed_219 h N S17)
  refine x_ite (fun hq18 => ?_) (fun hq18 => ?_)
  · refine x_set hq18 ?_
    refine x_tabIn (off := 107) (tgt := 115) h dP_doMixed_8 (by decide +kernel) (by decide +kernel) (by decide +kernel) (by decide) ?_
    refine x_aload_n (nx := 116) (i := 0) h dP_doMixed_115 rfl 1 rfl rfl ?_
    refine x_aload_n (nx := 117) (i := 0) h dP_doMixed_116 rfl 1 rfl rfl ?_
    refine x_get (nx := 120) h (gC_2_2 ad ca _) (List.mem_cons_of_mem _ kP_20) dP_doMixed_117 rfl ?_
    refine x_bipush (nx := 122) (v := (20 : Int32)) h dP_doMixed_120 (by decide) rfl ?_
    refine x_iald (nx := 123) h (aC_10 ad ca) dP_doMixed_122 rfl (fun v19 => ?_)
    refine x_cVi (nx := 126) (rest := []) (As := [.int v19]) h (m_P_readWord N v19 S) (x_wV h goA y_P_readWord kP_103 ⟨by decide, by decide⟩ rfl rfl) (oC_2 ad ca) rfl rfl (Nat.le_of_ble_eq_true rfl) dP_doMixed_123 rfl (fun v20 S21 => ?_)
    refine x_istore_n (nx := 127) (i := 3) (lv' := [(3, .int v20), (2, .int v1), (0, .ref (ad 2)), (1, .int a1)]) h dP_doMixed_126 rfl (by decide) rfl rfl ?_
    refine x_aload_n (nx := 128) (i := 0) h dP_doMixed_127 rfl 2 rfl rfl ?_
    refine x_aload_n (nx := 129) (i := 0) h dP_doMixed_128 rfl 2 rfl rfl ?_
    refine x_get (nx := 132) h (gC_2_2 ad ca _) (List.mem_cons_of_mem _ kP_20) dP_doMixed_129 rfl ?_
    refine x_bipush (nx := 134) (v := (20 : Int32)) h dP_doMixed_132 (by decide) rfl ?_
    refine x_iald (nx := 135) h (aC_10 ad ca) dP_doMixed_134 rfl (fun v22 => ?_)
    refine x_aload_n (nx := 136) (i := 0) h dP_doMixed_135 rfl 2 rfl rfl ?_
    refine x_get (nx := 139) h (gC_2_1 ad ca _) (List.mem_cons_of_mem _ kP_10) dP_doMixed_136 rfl ?_
    refine x_cVi (nx := 142) (rest := [.int v22, .ref (ad 2)]) (As := []) h (m_G_hl N S21) (x_wV h goA y_G_hl kP_109 ⟨by decide, by decide⟩ rfl rfl) (oC_5 ad ca) rfl rfl (Nat.le_of_ble_eq_true rfl) dP_doMixed_139 rfl (fun v23 S24 => ?_)
    refine x_cVv (nx := 145) (rest := []) (As := [.int v22, .int v23]) h (m_P_writeWord N v22 v23 S24) (x_wV h goA y_P_writeWord kP_177 ⟨by decide, by decide⟩ rfl rfl) (oC_2 ad ca) rfl rfl (Nat.le_of_ble_eq_true rfl) dP_doMixed_142 rfl (fun v25 S26 => ?_)
    refine x_aload_n (nx := 146) (i := 0) h dP_doMixed_145 rfl 2 rfl rfl ?_
    refine x_get (nx := 149) h (gC_2_1 ad ca _) (List.mem_cons_of_mem _ kP_10) dP_doMixed_146 rfl ?_
    refine x_iload_n (nx := 150) (i := 3) h dP_doMixed_149 rfl 0 rfl rfl ?_
    refine x_cVv (nx := 153) (rest := []) (As := [.int v20]) h (m_G_setHl N v20 S26) (x_wV h goA y_G_setHl kP_171 ⟨by decide, by decide⟩ rfl rfl) (oC_5 ad ca) rfl rfl (Nat.le_of_ble_eq_true rfl) dP_doMixed_150 rfl (fun v27 S28 => ?_)
    refine x_goto (tgt := 219) h dP_doMixed_153 (by decide) ?_
    exact x_sub [] rfl (j_P_doMixed_219 h N S28)
  refine x_ite (fun hq29 => ?_) (fun hq29 => ?_)
  · refine x_set hq29 ?_
    refine x_tabIn (off := 148) (tgt := 156) h dP_doMixed_8 (by decide +kernel) (by decide +kernel) (by decide +kernel) (by decide) ?_
    refine x_aload_n (nx := 157) (i := 0) h dP_doMixed_156 rfl 1 rfl rfl ?_
    refine x_get (nx := 160) h (gC_2_1 ad ca _) (List.mem_cons_of_mem _ kP_10) dP_doMixed_157 rfl ?_
    refine x_iconst (nx := 161) (v := (4 : Int32)) h dP_doMixed_160 (by decide) rfl ?_
    refine x_bipush (nx := 163) (v := (6 : Int32)) h dP_doMixed_161 (by decide) rfl ?_
    refine x_cVv (nx := 166) (rest := []) (As := [.int (4 : Int32), .int (6 : Int32)]) h (m_G_swap N (4 : Int32) (6 : Int32) S) (x_wV h goA y_G_swap kP_220 ⟨by decide, by decide⟩ rfl rfl) (oC_5 ad ca) rfl rfl (Nat.le_of_ble_eq_true rfl) dP_doMixed_163 rfl (fun v30 S31 => ?_)
    refine x_aload_n (nx := 167) (i := 0) h dP_doMixed_166 rfl 1 rfl rfl ?_
    refine x_get (nx := 170) h (gC_2_1 ad ca _) (List.mem_cons_of_mem _ kP_10) dP_doMixed_167 rfl ?_
    refine x_iconst (nx := 171) (v := (5 : Int32)) h dP_doMixed_170 (by decide) rfl ?_
    refine x_bipush (nx := 173) (v := (7 : Int32)) h dP_doMixed_171 (by decide) rfl ?_
    refine x_cVv (nx := 176) (rest := []) (As := [.int (5 : Int32), .int (7 : Int32)]) h (m_G_swap N (5 : Int32) (7 : Int32) S31) (x_wV h goA y_G_swap kP_220 ⟨by decide, by decide⟩ rfl rfl) (oC_5 ad ca) rfl rfl (Nat.le_of_ble_eq_true rfl) dP_doMixed_173 rfl (fun v32 S33 => ?_)
    refine x_goto (tgt := 219) h dP_doMixed_176 (by decide) ?_
    exact x_sub [] rfl (j_P_doMixed_219 h N S33)
  refine x_ite (fun hq34 => ?_) (fun hq34 => ?_)
  · refine x_set hq34 ?_
    refine x_tabIn (off := 171) (tgt := 179) h dP_doMixed_8 (by decide +kernel) (by decide +kernel) (by decide +kernel) (by decide) ?_
    exact x_sub [1, 2] rfl (j_P_doMixed_179 h N a1 S)
  refine x_ite (fun hq35 => ?_) (fun hq35 => ?_)
  · refine x_set hq35 ?_
    refine x_tabIn (off := 171) (tgt := 179) h dP_doMixed_8 (by decide +kernel) (by decide +kernel) (by decide +kernel) (by decide) ?_
    exact x_sub [1, 2] rfl (j_P_doMixed_179 h N a1 S)
  refine x_tabOut (tgt := 219) h dP_doMixed_8 (by have z0 := lv_neT (a := 0) hq2 (by decide +kernel); have z1 := lv_neT (a := 1) hq6 (by decide +kernel); have z2 := lv_neT (a := 2) hq7 (by decide +kernel); have z3 := lv_neT (a := 3) hq12 (by decide +kernel); have z4 := lv_neT (a := 4) hq18 (by decide +kernel); have z5 := lv_neT (a := 5) hq29 (by decide +kernel); have z6 := lv_neT (a := 6) hq34 (by decide +kernel); have z7 := lv_neT (a := 7) hq35 (by decide +kernel); omega) (by decide) ?_
  exact x_sub [] rfl (j_P_doMixed_219 h N S)
set_option maxHeartbeats 4000000 in
set_option maxRecDepth 100000 in
theorem m_P_call {l : Launch} {D : va_G} {ad : Nat → Nat} {ca : Nat → ClassId} (N : Nat) (a1 : Int32) (S : xSt) : xM l D clA (tysC ca) (cellsC ad ca) nW yP_call (Cond.code yP_call cP_call 2 none :: wA) rm_P_call false [.ref (ad 2), .int a1] S (f_P_call N a1 S) := by
  refine x_met (cc := cP_call) (maxL := 2) (ret := none) (by decide) rfl [.ref (ad 2), .int a1] (lv0 := [(0, .ref (ad 2)), (1, .int a1)]) (Nat.le_of_ble_eq_true rfl) rfl ?_
  intro p e s m args below meth c A h
  unfold f_P_call
  refine x_aload_n (nx := 1) (i := 0) h dP_call_0 rfl 0 rfl rfl ?_
  refine x_aload_n (nx := 2) (i := 0) h dP_call_1 rfl 0 rfl rfl ?_
  refine x_get (nx := 5) h (gC_2_2 ad ca _) (List.mem_cons_of_mem _ kP_20) dP_call_2 rfl ?_
  refine x_bipush (nx := 7) (v := (21 : Int32)) h dP_call_5 (by decide) rfl ?_
  refine x_iald (nx := 8) h (aC_10 ad ca) dP_call_7 rfl (fun v1 => ?_)
  refine x_cVv (nx := 11) (rest := []) (As := [.int v1]) h (m_P_push N v1 S) (x_wV h goA y_P_push kP_100 ⟨by decide, by decide⟩ rfl rfl) (oC_2 ad ca) rfl rfl (Nat.le_of_ble_eq_true rfl) dP_call_8 rfl (fun v2 S3 => ?_)
  refine x_aload_n (nx := 12) (i := 0) h dP_call_11 rfl 0 rfl rfl ?_
  refine x_get (nx := 15) h (gC_2_2 ad ca _) (List.mem_cons_of_mem _ kP_20) dP_call_12 rfl ?_
  refine x_bipush (nx := 17) (v := (21 : Int32)) h dP_call_15 (by decide) rfl ?_
  refine x_iload_n (nx := 18) (i := 1) h dP_call_17 rfl 1 rfl rfl ?_
  refine x_iast (nx := 19) h (aC_10 ad ca) dP_call_18 rfl (fun S4 => ?_)
  exact x_vret h dP_call_19
set_option maxHeartbeats 4000000 in
set_option maxRecDepth 100000 in
theorem j_P_pushOrCall_49 {l : Launch} {D : va_G} {ad : Nat → Nat} {ca : Nat → ClassId} {p : Program} {e : Env} {s : State} {m : MethodId} {args : Array Value} {below : List Frame} {meth : Method} {c : Code} {A : Nat → Prop} (h : xC p s m args meth c cP_pushOrCall 2 (Cond.code yP_pushOrCall cP_pushOrCall 2 none :: wA) nW yP_pushOrCall.cls none D clA (tysC ca) A) (N : Nat) (S : xSt) : xJ p l e rm_P_pushOrCall s m args below meth c D clA (tysC ca) (cellsC ad ca) A false 2 49 [] [] S (f_P_pushOrCall_49 N S) := by
  unfold f_P_pushOrCall_49
  exact x_vret h dP_pushOrCall_49
set_option maxHeartbeats 4000000 in
set_option maxRecDepth 100000 in
theorem j_P_pushOrCall_46 {l : Launch} {D : va_G} {ad : Nat → Nat} {ca : Nat → ClassId} {p : Program} {e : Env} {s : State} {m : MethodId} {args : Array Value} {below : List Frame} {meth : Method} {c : Code} {A : Nat → Prop} (h : xC p s m args meth c cP_pushOrCall 2 (Cond.code yP_pushOrCall cP_pushOrCall 2 none :: wA) nW yP_pushOrCall.cls none D clA (tysC ca) A) (N : Nat) (w1 : Int32) (S : xSt) : xJ p l e rm_P_pushOrCall s m args below meth c D clA (tysC ca) (cellsC ad ca) A false 2 46 [] [.int w1, .ref (ad 2)] S (f_P_pushOrCall_46 N w1 S) := by
  unfold f_P_pushOrCall_46
  refine x_cVv (nx := 49) (rest := []) (As := [.int w1]) h (m_P_push N w1 S) (x_wV h goA y_P_push kP_100 ⟨by decide, by decide⟩ rfl rfl) (oC_2 ad ca) rfl rfl (Nat.le_of_ble_eq_true rfl) dP_pushOrCall_46 rfl (fun v1 S2 => ?_)
  exact x_sub [] rfl (j_P_pushOrCall_49 h N S2)
set_option maxHeartbeats 4000000 in
set_option maxRecDepth 100000 in
theorem m_P_pushOrCall {l : Launch} {D : va_G} {ad : Nat → Nat} {ca : Nat → ClassId} (N : Nat) (a1 : Int32) (S : xSt) : xM l D clA (tysC ca) (cellsC ad ca) nW yP_pushOrCall (Cond.code yP_pushOrCall cP_pushOrCall 2 none :: wA) rm_P_pushOrCall false [.ref (ad 2), .int a1] S (f_P_pushOrCall N a1 S) := by
  refine x_met (cc := cP_pushOrCall) (maxL := 2) (ret := none) (by decide) rfl [.ref (ad 2), .int a1] (lv0 := [(0, .ref (ad 2)), (1, .int a1)]) (Nat.le_of_ble_eq_true rfl) rfl ?_
  intro p e s m args below meth c A h
  unfold f_P_pushOrCall
  refine x_iload_n (nx := 1) (i := 1) h dP_pushOrCall_0 rfl 1 rfl rfl ?_
  refine x_iconst (nx := 2) (v := (1 : Int32)) h dP_pushOrCall_1 (by decide) rfl ?_
  refine x_iand (nx := 3) h dP_pushOrCall_2 rfl ?_
  refine x_iconst (nx := 4) (v := (1 : Int32)) h dP_pushOrCall_3 (by decide) rfl ?_
  refine x_icmp_ne (nx := 7) (tgt := 18) h dP_pushOrCall_4 (by decide) rfl ?_ ?_
  · refine x_aload_n (nx := 19) (i := 0) h dP_pushOrCall_18 rfl 0 rfl rfl ?_
    refine x_iload_n (nx := 20) (i := 1) h dP_pushOrCall_19 rfl 1 rfl rfl ?_
    refine x_bipush (nx := 22) (v := (6 : Int32)) h dP_pushOrCall_20 (by decide) rfl ?_
    refine x_icmp_ne (nx := 25) (tgt := 36) h dP_pushOrCall_22 (by decide) rfl ?_ ?_
    · refine x_aload_n (nx := 37) (i := 0) h dP_pushOrCall_36 rfl 0 rfl rfl ?_
      refine x_get (nx := 40) h (gC_2_1 ad ca _) (List.mem_cons_of_mem _ kP_10) dP_pushOrCall_37 rfl ?_
      refine x_iload_n (nx := 41) (i := 1) h dP_pushOrCall_40 rfl 1 rfl rfl ?_
      refine x_iconst (nx := 42) (v := (1 : Int32)) h dP_pushOrCall_41 (by decide) rfl ?_
      refine x_ishr (nx := 43) h dP_pushOrCall_42 rfl ?_
      refine x_cVi (nx := 46) (rest := [.ref (ad 2)]) (As := [.int (a1 >>> ((1 : Int32) &&& 31))]) h (m_G_pair N (a1 >>> ((1 : Int32) &&& 31)) S) (x_wV h goA y_G_pair kP_151 ⟨by decide, by decide⟩ rfl rfl) (oC_5 ad ca) rfl rfl (Nat.le_of_ble_eq_true rfl) dP_pushOrCall_43 rfl (fun v1 S2 => ?_)
      exact x_sub [] rfl (j_P_pushOrCall_46 h N v1 S2)
    · refine x_aload_n (nx := 26) (i := 0) h dP_pushOrCall_25 rfl 0 rfl rfl ?_
      refine x_get (nx := 29) h (gC_2_1 ad ca _) (List.mem_cons_of_mem _ kP_10) dP_pushOrCall_26 rfl ?_
      refine x_iconst (nx := 30) (v := (0 : Int32)) h dP_pushOrCall_29 (by decide) rfl ?_
      refine x_cVi (nx := 33) (rest := [.ref (ad 2)]) (As := [.int (0 : Int32)]) h (m_G_joined N (0 : Int32) S) (x_wV h goA y_G_joined kP_211 ⟨by decide, by decide⟩ rfl rfl) (oC_5 ad ca) rfl rfl (Nat.le_of_ble_eq_true rfl) dP_pushOrCall_30 rfl (fun v3 S4 => ?_)
      refine x_goto (tgt := 46) h dP_pushOrCall_33 (by decide) ?_
      exact x_sub [] rfl (j_P_pushOrCall_46 h N v3 S4)
  · refine x_aload_n (nx := 8) (i := 0) h dP_pushOrCall_7 rfl 0 rfl rfl ?_
    refine x_aload_n (nx := 9) (i := 0) h dP_pushOrCall_8 rfl 0 rfl rfl ?_
    refine x_cVi (nx := 12) (rest := [.ref (ad 2)]) (As := []) h (m_P_nextWord N S) (x_wV h goA y_P_nextWord kP_139 ⟨by decide, by decide⟩ rfl rfl) (oC_2 ad ca) rfl rfl (Nat.le_of_ble_eq_true rfl) dP_pushOrCall_9 rfl (fun v5 S6 => ?_)
    refine x_cVv (nx := 15) (rest := []) (As := [.int v5]) h (m_P_call N v5 S6) (x_wV h goA y_P_call kP_208 ⟨by decide, by decide⟩ rfl rfl) (oC_2 ad ca) rfl rfl (Nat.le_of_ble_eq_true rfl) dP_pushOrCall_12 rfl (fun v7 S8 => ?_)
    refine x_goto (tgt := 49) h dP_pushOrCall_15 (by decide) ?_
    exact x_sub [] rfl (j_P_pushOrCall_49 h N S8)
set_option maxHeartbeats 4000000 in
set_option maxRecDepth 100000 in
theorem j_P_doLast_141 {l : Launch} {D : va_G} {ad : Nat → Nat} {ca : Nat → ClassId} {p : Program} {e : Env} {s : State} {m : MethodId} {args : Array Value} {below : List Frame} {meth : Method} {c : Code} {A : Nat → Prop} (h : xC p s m args meth c cP_doLast 4 (Cond.code yP_doLast cP_doLast 4 none :: wA) nW yP_doLast.cls none D clA (tysC ca) A) (N : Nat) (S : xSt) : xJ p l e rm_P_doLast s m args below meth c D clA (tysC ca) (cellsC ad ca) A false 4 141 [] [] S (f_P_doLast_141 N S) := by
  unfold f_P_doLast_141
  exact x_vret h dP_doLast_141
set_option maxHeartbeats 4000000 in
set_option maxRecDepth 100000 in
theorem j_P_doLast_133 {l : Launch} {D : va_G} {ad : Nat → Nat} {ca : Nat → ClassId} {p : Program} {e : Env} {s : State} {m : MethodId} {args : Array Value} {below : List Frame} {meth : Method} {c : Code} {A : Nat → Prop} (h : xC p s m args meth c cP_doLast 4 (Cond.code yP_doLast cP_doLast 4 none :: wA) nW yP_doLast.cls none D clA (tysC ca) A) (N : Nat) (a1 : Int32) (S : xSt) : xJ p l e rm_P_doLast s m args below meth c D clA (tysC ca) (cellsC ad ca) A false 4 133 [(0, .ref (ad 2)), (1, .int a1)] [] S (f_P_doLast_133 N a1 S) := by
  unfold f_P_doLast_133
  refine x_aload_n (nx := 134) (i := 0) h dP_doLast_133 rfl 0 rfl rfl ?_
  refine x_bipush (nx := 136) (v := (8 : Int32)) h dP_doLast_134 (by decide) rfl ?_
  refine x_iload_n (nx := 137) (i := 1) h dP_doLast_136 rfl 1 rfl rfl ?_
  refine x_imul (nx := 138) h dP_doLast_137 rfl ?_
  refine x_cVv (nx := 141) (rest := []) (As := [.int ((8 : Int32) * a1)]) h (m_P_call N ((8 : Int32) * a1) S) (x_wV h goA y_P_call kP_208 ⟨by decide, by decide⟩ rfl rfl) (oC_2 ad ca) rfl rfl (Nat.le_of_ble_eq_true rfl) dP_doLast_138 rfl (fun v1 S2 => ?_)
  exact x_sub [] rfl (j_P_doLast_141 h N S2)
set_option maxHeartbeats 4000000 in
set_option maxRecDepth 100000 in
theorem j_P_doLast_18 {l : Launch} {D : va_G} {ad : Nat → Nat} {ca : Nat → ClassId} {p : Program} {e : Env} {s : State} {m : MethodId} {args : Array Value} {below : List Frame} {meth : Method} {c : Code} {A : Nat → Prop} (h : xC p s m args meth c cP_doLast 4 (Cond.code yP_doLast cP_doLast 4 none :: wA) nW yP_doLast.cls none D clA (tysC ca) A) (N : Nat) (a1 a2 w0 : Int32) (S : xSt) : xJ p l e rm_P_doLast s m args below meth c D clA (tysC ca) (cellsC ad ca) A false 4 18 [(0, .ref (ad 2)), (1, .int a1), (2, .int a2)] [.int w0] S (f_P_doLast_18 N a1 a2 w0 S) := by
  unfold f_P_doLast_18
  refine x_istore_n (nx := 19) (i := 3) (lv' := [(3, .int w0), (0, .ref (ad 2)), (1, .int a1), (2, .int a2)]) h dP_doLast_18 rfl (by decide) rfl rfl ?_
  refine x_iload_n (nx := 20) (i := 2) h dP_doLast_19 rfl 3 rfl rfl ?_
  refine x_ite (fun hq1 => ?_) (fun hq1 => ?_)
  · refine x_set hq1 ?_
    refine x_tabIn (off := 44) (tgt := 64) h dP_doLast_20 (by decide +kernel) (by decide +kernel) (by decide +kernel) (by decide) ?_
    refine x_aload_n (nx := 65) (i := 0) h dP_doLast_64 rfl 1 rfl rfl ?_
    refine x_iload_n (nx := 66) (i := 1) h dP_doLast_65 rfl 2 rfl rfl ?_
    refine x_cVi (nx := 69) (rest := []) (As := [.int a1]) h (m_P_condition N a1 S) (x_wV h goA y_P_condition kP_164 ⟨by decide, by decide⟩ rfl rfl) (oC_2 ad ca) rfl rfl (Nat.le_of_ble_eq_true rfl) dP_doLast_66 rfl (fun v2 S3 => ?_)
    refine x_if_eq (nx := 72) (tgt := 141) h dP_doLast_69 (by decide) rfl ?_ ?_
    · exact x_sub [] rfl (j_P_doLast_141 h N S3)
    · refine x_aload_n (nx := 73) (i := 0) h dP_doLast_72 rfl 1 rfl rfl ?_
      refine x_get (nx := 76) h (gC_2_2 ad ca _) (List.mem_cons_of_mem _ kP_20) dP_doLast_73 rfl ?_
      refine x_bipush (nx := 78) (v := (21 : Int32)) h dP_doLast_76 (by decide) rfl ?_
      refine x_aload_n (nx := 79) (i := 0) h dP_doLast_78 rfl 1 rfl rfl ?_
      refine x_cVi (nx := 82) (rest := [.int (21 : Int32), .ref (ad 10)]) (As := []) h (m_P_pop N S3) (x_wV h goA y_P_pop kP_205 ⟨by decide, by decide⟩ rfl rfl) (oC_2 ad ca) rfl rfl (Nat.le_of_ble_eq_true rfl) dP_doLast_79 rfl (fun v4 S5 => ?_)
      refine x_iast (nx := 83) h (aC_10 ad ca) dP_doLast_82 rfl (fun S6 => ?_)
      refine x_goto (tgt := 141) h dP_doLast_83 (by decide) ?_
      exact x_sub [] rfl (j_P_doLast_141 h N S6)
  refine x_ite (fun hq7 => ?_) (fun hq7 => ?_)
  · refine x_set hq7 ?_
    refine x_tabIn (off := 113) (tgt := 133) h dP_doLast_20 (by decide +kernel) (by decide +kernel) (by decide +kernel) (by decide) ?_
    exact x_sub [1, 2] rfl (j_P_doLast_133 h N a1 S)
  refine x_ite (fun hq8 => ?_) (fun hq8 => ?_)
  · refine x_set hq8 ?_
    refine x_tabIn (off := 66) (tgt := 86) h dP_doLast_20 (by decide +kernel) (by decide +kernel) (by decide +kernel) (by decide) ?_
    refine x_aload_n (nx := 87) (i := 0) h dP_doLast_86 rfl 1 rfl rfl ?_
    refine x_iload_n (nx := 88) (i := 1) h dP_doLast_87 rfl 2 rfl rfl ?_
    refine x_cVi (nx := 91) (rest := []) (As := [.int a1]) h (m_P_condition N a1 S) (x_wV h goA y_P_condition kP_164 ⟨by decide, by decide⟩ rfl rfl) (oC_2 ad ca) rfl rfl (Nat.le_of_ble_eq_true rfl) dP_doLast_88 rfl (fun v9 S10 => ?_)
    refine x_if_eq (nx := 94) (tgt := 141) h dP_doLast_91 (by decide) rfl ?_ ?_
    · exact x_sub [] rfl (j_P_doLast_141 h N S10)
    · refine x_aload_n (nx := 95) (i := 0) h dP_doLast_94 rfl 1 rfl rfl ?_
      refine x_get (nx := 98) h (gC_2_2 ad ca _) (List.mem_cons_of_mem _ kP_20) dP_doLast_95 rfl ?_
      refine x_bipush (nx := 100) (v := (21 : Int32)) h dP_doLast_98 (by decide) rfl ?_
      refine x_iload_n (nx := 101) (i := 3) h dP_doLast_100 rfl 0 rfl rfl ?_
      refine x_iast (nx := 102) h (aC_10 ad ca) dP_doLast_101 rfl (fun S11 => ?_)
      refine x_goto (tgt := 141) h dP_doLast_102 (by decide) ?_
      exact x_sub [] rfl (j_P_doLast_141 h N S11)
  refine x_ite (fun hq12 => ?_) (fun hq12 => ?_)
  · refine x_set hq12 ?_
    refine x_tabIn (off := 113) (tgt := 133) h dP_doLast_20 (by decide +kernel) (by decide +kernel) (by decide +kernel) (by decide) ?_
    exact x_sub [1, 2] rfl (j_P_doLast_133 h N a1 S)
  refine x_ite (fun hq13 => ?_) (fun hq13 => ?_)
  · refine x_set hq13 ?_
    refine x_tabIn (off := 85) (tgt := 105) h dP_doLast_20 (by decide +kernel) (by decide +kernel) (by decide +kernel) (by decide) ?_
    refine x_aload_n (nx := 106) (i := 0) h dP_doLast_105 rfl 1 rfl rfl ?_
    refine x_iload_n (nx := 107) (i := 1) h dP_doLast_106 rfl 2 rfl rfl ?_
    refine x_cVi (nx := 110) (rest := []) (As := [.int a1]) h (m_P_condition N a1 S) (x_wV h goA y_P_condition kP_164 ⟨by decide, by decide⟩ rfl rfl) (oC_2 ad ca) rfl rfl (Nat.le_of_ble_eq_true rfl) dP_doLast_107 rfl (fun v14 S15 => ?_)
    refine x_if_eq (nx := 113) (tgt := 141) h dP_doLast_110 (by decide) rfl ?_ ?_
    · exact x_sub [] rfl (j_P_doLast_141 h N S15)
    · refine x_aload_n (nx := 114) (i := 0) h dP_doLast_113 rfl 1 rfl rfl ?_
      refine x_iload_n (nx := 115) (i := 3) h dP_doLast_114 rfl 0 rfl rfl ?_
      refine x_cVv (nx := 118) (rest := []) (As := [.int w0]) h (m_P_call N w0 S15) (x_wV h goA y_P_call kP_208 ⟨by decide, by decide⟩ rfl rfl) (oC_2 ad ca) rfl rfl (Nat.le_of_ble_eq_true rfl) dP_doLast_115 rfl (fun v16 S17 => ?_)
      refine x_goto (tgt := 141) h dP_doLast_118 (by decide) ?_
      exact x_sub [] rfl (j_P_doLast_141 h N S17)
  refine x_ite (fun hq18 => ?_) (fun hq18 => ?_)
  · refine x_set hq18 ?_
    refine x_tabIn (off := 113) (tgt := 133) h dP_doLast_20 (by decide +kernel) (by decide +kernel) (by decide +kernel) (by decide) ?_
    exact x_sub [1, 2] rfl (j_P_doLast_133 h N a1 S)
  refine x_ite (fun hq19 => ?_) (fun hq19 => ?_)
  · refine x_set hq19 ?_
    refine x_tabIn (off := 101) (tgt := 121) h dP_doLast_20 (by decide +kernel) (by decide +kernel) (by decide +kernel) (by decide) ?_
    refine x_aload_n (nx := 122) (i := 0) h dP_doLast_121 rfl 1 rfl rfl ?_
    refine x_iload_n (nx := 123) (i := 1) h dP_doLast_122 rfl 2 rfl rfl ?_
    refine x_aload_n (nx := 124) (i := 0) h dP_doLast_123 rfl 1 rfl rfl ?_
    refine x_cVi (nx := 127) (rest := [.int a1, .ref (ad 2)]) (As := []) h (m_P_nextByte N S) (x_wV h goA y_P_nextByte kP_115 ⟨by decide, by decide⟩ rfl rfl) (oC_2 ad ca) rfl rfl (Nat.le_of_ble_eq_true rfl) dP_doLast_124 rfl (fun v20 S21 => ?_)
    refine x_cVv (nx := 130) (rest := []) (As := [.int a1, .int v20]) h (m_P_operate N a1 v20 S21) (x_wV h goA y_P_operate kP_82 ⟨by decide, by decide⟩ rfl rfl) (oC_2 ad ca) rfl rfl (Nat.le_of_ble_eq_true rfl) dP_doLast_127 rfl (fun v22 S23 => ?_)
    refine x_goto (tgt := 141) h dP_doLast_130 (by decide) ?_
    exact x_sub [] rfl (j_P_doLast_141 h N S23)
  refine x_tabOut (tgt := 133) h dP_doLast_20 (by have z0 := lv_neT (a := 0) hq1 (by decide +kernel); have z1 := lv_neT (a := 1) hq7 (by decide +kernel); have z2 := lv_neT (a := 2) hq8 (by decide +kernel); have z3 := lv_neT (a := 3) hq12 (by decide +kernel); have z4 := lv_neT (a := 4) hq13 (by decide +kernel); have z5 := lv_neT (a := 5) hq18 (by decide +kernel); have z6 := lv_neT (a := 6) hq19 (by decide +kernel); omega) (by decide) ?_
  exact x_sub [1, 2] rfl (j_P_doLast_133 h N a1 S)
set_option maxHeartbeats 4000000 in
set_option maxRecDepth 100000 in
theorem j_P_doLast_10 {l : Launch} {D : va_G} {ad : Nat → Nat} {ca : Nat → ClassId} {p : Program} {e : Env} {s : State} {m : MethodId} {args : Array Value} {below : List Frame} {meth : Method} {c : Code} {A : Nat → Prop} (h : xC p s m args meth c cP_doLast 4 (Cond.code yP_doLast cP_doLast 4 none :: wA) nW yP_doLast.cls none D clA (tysC ca) A) (N : Nat) (a1 a2 : Int32) (S : xSt) : xJ p l e rm_P_doLast s m args below meth c D clA (tysC ca) (cellsC ad ca) A false 4 10 [(0, .ref (ad 2)), (1, .int a1), (2, .int a2)] [] S (f_P_doLast_10 N a1 a2 S) := by
  unfold f_P_doLast_10
  refine x_aload_n (nx := 11) (i := 0) h dP_doLast_10 rfl 0 rfl rfl ?_
  refine x_cVi (nx := 14) (rest := []) (As := []) h (m_P_nextWord N S) (x_wV h goA y_P_nextWord kP_139 ⟨by decide, by decide⟩ rfl rfl) (oC_2 ad ca) rfl rfl (Nat.le_of_ble_eq_true rfl) dP_doLast_11 rfl (fun v1 S2 => ?_)
  refine x_goto (tgt := 18) h dP_doLast_14 (by decide) ?_
  exact x_sub [0, 1, 2] rfl (j_P_doLast_18 h N a1 a2 v1 S2)
set_option maxHeartbeats 4000000 in
set_option maxRecDepth 100000 in
theorem m_P_doLast {l : Launch} {D : va_G} {ad : Nat → Nat} {ca : Nat → ClassId} (N : Nat) (a1 a2 : Int32) (S : xSt) : xM l D clA (tysC ca) (cellsC ad ca) nW yP_doLast (Cond.code yP_doLast cP_doLast 4 none :: wA) rm_P_doLast false [.ref (ad 2), .int a1, .int a2] S (f_P_doLast N a1 a2 S) := by
  refine x_met (cc := cP_doLast) (maxL := 4) (ret := none) (by decide) rfl [.ref (ad 2), .int a1, .int a2] (lv0 := [(0, .ref (ad 2)), (1, .int a1), (2, .int a2)]) (Nat.le_of_ble_eq_true rfl) rfl ?_
  intro p e s m args below meth c A h
  unfold f_P_doLast
  refine x_iload_n (nx := 1) (i := 2) h dP_doLast_0 rfl 2 rfl rfl ?_
  refine x_iconst (nx := 2) (v := (2 : Int32)) h dP_doLast_1 (by decide) rfl ?_
  refine x_icmp_eq (nx := 5) (tgt := 10) h dP_doLast_2 (by decide) rfl ?_ ?_
  · exact x_sub [0, 1, 2] rfl (j_P_doLast_10 h N a1 a2 S)
  · refine x_iload_n (nx := 6) (i := 2) h dP_doLast_5 rfl 2 rfl rfl ?_
    refine x_iconst (nx := 7) (v := (4 : Int32)) h dP_doLast_6 (by decide) rfl ?_
    refine x_icmp_ne (nx := 10) (tgt := 17) h dP_doLast_7 (by decide) rfl ?_ ?_
    · refine x_iconst (nx := 18) (v := (0 : Int32)) h dP_doLast_17 (by decide) rfl ?_
      exact x_sub [0, 1, 2] rfl (j_P_doLast_18 h N a1 a2 (0 : Int32) S)
    · exact x_sub [0, 1, 2] rfl (j_P_doLast_10 h N a1 a2 S)
