set_option maxHeartbeats 4000000 in
set_option maxRecDepth 100000 in
theorem j_M_single_167 {l : Launch} {D : va_G} {ad : Nat → Nat} {ca : Nat → ClassId} {p : Program} {e : Env} {s : State} {m : MethodId} {args : Array Value} {below : List Frame} {meth : Method} {c : Code} {A : Nat → Prop} (h : xC p s m args meth c cM_single 4 (Cond.code yM_single cM_single 4 none :: wA) nW yM_single.cls none D clA (tysM ca) A) (N : Nat) (S : xSt) : xJ p l e rm_M_single s m args below meth c D clA (tysM ca) (cellsM ad ca) A false 4 167 [] [] S (f_M_single_167 N S) := by
  unfold f_M_single_167
  exact x_vret h dM_single_167
set_option maxHeartbeats 4000000 in
set_option maxRecDepth 100000 in
theorem j_M_single_165 {l : Launch} {D : va_G} {ad : Nat → Nat} {ca : Nat → ClassId} {p : Program} {e : Env} {s : State} {m : MethodId} {args : Array Value} {below : List Frame} {meth : Method} {c : Code} {A : Nat → Prop} (h : xC p s m args meth c cM_single 4 (Cond.code yM_single cM_single 4 none :: wA) nW yM_single.cls none D clA (tysM ca) A) (N : Nat) (w1 w2 w3 : Int32) (S : xSt) : xJ p l e rm_M_single s m args below meth c D clA (tysM ca) (cellsM ad ca) A false 4 165 [] [.int w3, .int w2, .int w1, .ref (ad 2)] S (f_M_single_165 N w1 w2 w3 S) := by
  unfold f_M_single_165
  refine x_ior (nx := 166) h dM_single_165 rfl ?_
  refine x_iast (nx := 167) h (aM_2 ad ca) dM_single_166 rfl (fun S1 => ?_)
  exact x_sub [] rfl (j_M_single_167 h N S1)
set_option maxHeartbeats 4000000 in
set_option maxRecDepth 100000 in
theorem m_M_single {l : Launch} {D : va_G} {ad : Nat → Nat} {ca : Nat → ClassId} (N : Nat) (a1 : Int32) (S : xSt) : xM l D clA (tysM ca) (cellsM ad ca) nW yM_single (Cond.code yM_single cM_single 4 none :: wA) rm_M_single false [.ref (ad 0), .int a1] S (f_M_single N a1 S) := by
  refine x_met (cc := cM_single) (maxL := 4) (ret := none) (by decide) rfl [.ref (ad 0), .int a1] (lv0 := [(0, .ref (ad 0)), (1, .int a1)]) (Nat.le_of_ble_eq_true rfl) rfl ?_
  intro p e s m args below meth c A h
  unfold f_M_single
  refine x_aload_n (nx := 1) (i := 0) h dM_single_0 rfl 0 rfl rfl ?_
  refine x_get (nx := 4) h (gM_0_1 ad ca _) (List.mem_cons_of_mem _ kM_13) dM_single_1 rfl ?_
  refine x_iconst (nx := 5) (v := (1 : Int32)) h dM_single_4 (by decide) rfl ?_
  refine x_iald (nx := 6) h (aM_2 ad ca) dM_single_5 rfl (fun v1 => ?_)
  refine x_istore_n (nx := 7) (i := 2) (lv' := [(2, .int v1), (0, .ref (ad 0)), (1, .int a1)]) h dM_single_6 rfl (by decide) rfl rfl ?_
  refine x_iload_n (nx := 8) (i := 1) h dM_single_7 rfl 2 rfl rfl ?_
  refine x_iconst (nx := 9) (v := (4 : Int32)) h dM_single_8 (by decide) rfl ?_
  refine x_icmp_ge (nx := 12) (tgt := 58) h dM_single_9 (by decide) rfl ?_ ?_
  · refine x_iload_n (nx := 59) (i := 1) h dM_single_58 rfl 2 rfl rfl ?_
    refine x_iconst (nx := 60) (v := (4 : Int32)) h dM_single_59 (by decide) rfl ?_
    refine x_icmp_ne (nx := 63) (tgt := 70) h dM_single_60 (by decide) rfl ?_ ?_
    · refine x_iload_n (nx := 71) (i := 1) h dM_single_70 rfl 2 rfl rfl ?_
      refine x_iconst (nx := 72) (v := (5 : Int32)) h dM_single_71 (by decide) rfl ?_
      refine x_icmp_ne (nx := 75) (tgt := 120) h dM_single_72 (by decide) rfl ?_ ?_
      · refine x_iload_n (nx := 121) (i := 2) h dM_single_120 rfl 0 rfl rfl ?_
        refine x_iconst (nx := 122) (v := (1 : Int32)) h dM_single_121 (by decide) rfl ?_
        refine x_iand (nx := 123) h dM_single_122 rfl ?_
        refine x_val (fun b2 => ?_)
        refine x_istore_n (nx := 124) (i := 3) (lv' := [(3, .int b2), (2, .int v1), (0, .ref (ad 0)), (1, .int a1)]) h dM_single_123 rfl (by decide) rfl rfl ?_
        refine x_aload_n (nx := 125) (i := 0) h dM_single_124 rfl 2 rfl rfl ?_
        refine x_get (nx := 128) h (gM_0_1 ad ca _) (List.mem_cons_of_mem _ kM_13) dM_single_125 rfl ?_
        refine x_iconst (nx := 129) (v := (1 : Int32)) h dM_single_128 (by decide) rfl ?_
        refine x_iload_n (nx := 130) (i := 2) h dM_single_129 rfl 1 rfl rfl ?_
        refine x_sipush (nx := 133) (v := (196 : Int32)) h dM_single_130 (by decide) rfl ?_
        refine x_iand (nx := 134) h dM_single_133 rfl ?_
        refine x_aload_n (nx := 135) (i := 0) h dM_single_134 rfl 2 rfl rfl ?_
        refine x_get (nx := 138) h (gM_0_1 ad ca _) (List.mem_cons_of_mem _ kM_13) dM_single_135 rfl ?_
        refine x_iconst (nx := 139) (v := (0 : Int32)) h dM_single_138 (by decide) rfl ?_
        refine x_iald (nx := 140) h (aM_2 ad ca) dM_single_139 rfl (fun v3 => ?_)
        refine x_bipush (nx := 142) (v := (40 : Int32)) h dM_single_140 (by decide) rfl ?_
        refine x_iand (nx := 143) h dM_single_142 rfl ?_
        refine x_ior (nx := 144) h dM_single_143 rfl ?_
        refine x_iload_n (nx := 145) (i := 1) h dM_single_144 rfl 3 rfl rfl ?_
        refine x_bipush (nx := 147) (v := (6 : Int32)) h dM_single_145 (by decide) rfl ?_
        refine x_icmp_ne (nx := 150) (tgt := 154) h dM_single_147 (by decide) rfl ?_ ?_
        · refine x_iload_n (nx := 155) (i := 3) h dM_single_154 rfl 0 rfl rfl ?_
          refine x_iconst (nx := 156) (v := (1 : Int32)) h dM_single_155 (by decide) rfl ?_
          refine x_icmp_ne (nx := 159) (tgt := 164) h dM_single_156 (by decide) rfl ?_ ?_
          · refine x_iconst (nx := 165) (v := (1 : Int32)) h dM_single_164 (by decide) rfl ?_
            exact x_sub [] rfl (j_M_single_165 h N (1 : Int32) ((v1 &&& (196 : Int32)) ||| (v3 &&& (40 : Int32))) (1 : Int32) S)
          · refine x_bipush (nx := 161) (v := (16 : Int32)) h dM_single_159 (by decide) rfl ?_
            refine x_goto (tgt := 165) h dM_single_161 (by decide) ?_
            exact x_sub [] rfl (j_M_single_165 h N (1 : Int32) ((v1 &&& (196 : Int32)) ||| (v3 &&& (40 : Int32))) (16 : Int32) S)
        · refine x_iconst (nx := 151) (v := (1 : Int32)) h dM_single_150 (by decide) rfl ?_
          refine x_goto (tgt := 165) h dM_single_151 (by decide) ?_
          exact x_sub [] rfl (j_M_single_165 h N (1 : Int32) ((v1 &&& (196 : Int32)) ||| (v3 &&& (40 : Int32))) (1 : Int32) S)
      · refine x_aload_n (nx := 76) (i := 0) h dM_single_75 rfl 1 rfl rfl ?_
        refine x_get (nx := 79) h (gM_0_1 ad ca _) (List.mem_cons_of_mem _ kM_13) dM_single_76 rfl ?_
        refine x_iconst (nx := 80) (v := (0 : Int32)) h dM_single_79 (by decide) rfl ?_
        refine x_sipush (nx := 83) (v := (255 : Int32)) h dM_single_80 (by decide) rfl ?_
        refine x_aload_n (nx := 84) (i := 0) h dM_single_83 rfl 1 rfl rfl ?_
        refine x_get (nx := 87) h (gM_0_1 ad ca _) (List.mem_cons_of_mem _ kM_13) dM_single_84 rfl ?_
        refine x_iconst (nx := 88) (v := (0 : Int32)) h dM_single_87 (by decide) rfl ?_
        refine x_iald (nx := 89) h (aM_2 ad ca) dM_single_88 rfl (fun v4 => ?_)
        refine x_isub (nx := 90) h dM_single_89 rfl ?_
        refine x_iast (nx := 91) h (aM_2 ad ca) dM_single_90 rfl (fun S5 => ?_)
        refine x_aload_n (nx := 92) (i := 0) h dM_single_91 rfl 1 rfl rfl ?_
        refine x_get (nx := 95) h (gM_0_1 ad ca _) (List.mem_cons_of_mem _ kM_13) dM_single_92 rfl ?_
        refine x_iconst (nx := 96) (v := (1 : Int32)) h dM_single_95 (by decide) rfl ?_
        refine x_iload_n (nx := 97) (i := 2) h dM_single_96 rfl 0 rfl rfl ?_
        refine x_sipush (nx := 100) (v := (197 : Int32)) h dM_single_97 (by decide) rfl ?_
        refine x_iand (nx := 101) h dM_single_100 rfl ?_
        refine x_aload_n (nx := 102) (i := 0) h dM_single_101 rfl 1 rfl rfl ?_
        refine x_get (nx := 105) h (gM_0_1 ad ca _) (List.mem_cons_of_mem _ kM_13) dM_single_102 rfl ?_
        refine x_iconst (nx := 106) (v := (0 : Int32)) h dM_single_105 (by decide) rfl ?_
        refine x_iald (nx := 107) h (aM_2 ad ca) dM_single_106 rfl (fun v6 => ?_)
        refine x_bipush (nx := 109) (v := (40 : Int32)) h dM_single_107 (by decide) rfl ?_
        refine x_iand (nx := 110) h dM_single_109 rfl ?_
        refine x_ior (nx := 111) h dM_single_110 rfl ?_
        refine x_bipush (nx := 113) (v := (16 : Int32)) h dM_single_111 (by decide) rfl ?_
        refine x_ior (nx := 114) h dM_single_113 rfl ?_
        refine x_iconst (nx := 115) (v := (2 : Int32)) h dM_single_114 (by decide) rfl ?_
        refine x_ior (nx := 116) h dM_single_115 rfl ?_
        refine x_iast (nx := 117) h (aM_2 ad ca) dM_single_116 rfl (fun S7 => ?_)
        refine x_goto (tgt := 167) h dM_single_117 (by decide) ?_
        exact x_sub [] rfl (j_M_single_167 h N S7)
    · refine x_aload_n (nx := 64) (i := 0) h dM_single_63 rfl 1 rfl rfl ?_
      refine x_cVv (nx := 67) (rest := []) (As := []) h (m_M_adjust N S) (x_wV h goA y_M_adjust kM_117 ⟨by decide, by decide⟩ rfl rfl) (oM_0 ad ca) rfl rfl (Nat.le_of_ble_eq_true rfl) dM_single_64 rfl (fun v8 S9 => ?_)
      refine x_goto (tgt := 167) h dM_single_67 (by decide) ?_
      exact x_sub [] rfl (j_M_single_167 h N S9)
  · refine x_aload_n (nx := 13) (i := 0) h dM_single_12 rfl 1 rfl rfl ?_
    refine x_get (nx := 16) h (gM_0_1 ad ca _) (List.mem_cons_of_mem _ kM_13) dM_single_13 rfl ?_
    refine x_iconst (nx := 17) (v := (0 : Int32)) h dM_single_16 (by decide) rfl ?_
    refine x_aload_n (nx := 18) (i := 0) h dM_single_17 rfl 1 rfl rfl ?_
    refine x_iload_n (nx := 19) (i := 1) h dM_single_18 rfl 2 rfl rfl ?_
    refine x_aload_n (nx := 20) (i := 0) h dM_single_19 rfl 1 rfl rfl ?_
    refine x_get (nx := 23) h (gM_0_1 ad ca _) (List.mem_cons_of_mem _ kM_13) dM_single_20 rfl ?_
    refine x_iconst (nx := 24) (v := (0 : Int32)) h dM_single_23 (by decide) rfl ?_
    refine x_iald (nx := 25) h (aM_2 ad ca) dM_single_24 rfl (fun v10 => ?_)
    refine x_cVi (nx := 28) (rest := [.int (0 : Int32), .ref (ad 2)]) (As := [.int a1, .int v10]) h (m_M_turn N a1 v10 S) (x_wV h goA y_M_turn kM_113 ⟨by decide, by decide⟩ rfl rfl) (oM_0 ad ca) rfl rfl (Nat.le_of_ble_eq_true rfl) dM_single_25 rfl (fun v11 S12 => ?_)
    refine x_iast (nx := 29) h (aM_2 ad ca) dM_single_28 rfl (fun S13 => ?_)
    refine x_aload_n (nx := 30) (i := 0) h dM_single_29 rfl 1 rfl rfl ?_
    refine x_get (nx := 33) h (gM_0_1 ad ca _) (List.mem_cons_of_mem _ kM_13) dM_single_30 rfl ?_
    refine x_iconst (nx := 34) (v := (1 : Int32)) h dM_single_33 (by decide) rfl ?_
    refine x_iload_n (nx := 35) (i := 2) h dM_single_34 rfl 0 rfl rfl ?_
    refine x_sipush (nx := 38) (v := (196 : Int32)) h dM_single_35 (by decide) rfl ?_
    refine x_iand (nx := 39) h dM_single_38 rfl ?_
    refine x_aload_n (nx := 40) (i := 0) h dM_single_39 rfl 1 rfl rfl ?_
    refine x_get (nx := 43) h (gM_0_1 ad ca _) (List.mem_cons_of_mem _ kM_13) dM_single_40 rfl ?_
    refine x_iconst (nx := 44) (v := (0 : Int32)) h dM_single_43 (by decide) rfl ?_
    refine x_iald (nx := 45) h (aM_2 ad ca) dM_single_44 rfl (fun v14 => ?_)
    refine x_bipush (nx := 47) (v := (40 : Int32)) h dM_single_45 (by decide) rfl ?_
    refine x_iand (nx := 48) h dM_single_47 rfl ?_
    refine x_ior (nx := 49) h dM_single_48 rfl ?_
    refine x_aload_n (nx := 50) (i := 0) h dM_single_49 rfl 1 rfl rfl ?_
    refine x_get (nx := 53) h (gM_0_10 ad ca _) (List.mem_cons_of_mem _ kM_110) dM_single_50 rfl ?_
    refine x_ior (nx := 54) h dM_single_53 rfl ?_
    refine x_iast (nx := 55) h (aM_2 ad ca) dM_single_54 rfl (fun S15 => ?_)
    refine x_goto (tgt := 167) h dM_single_55 (by decide) ?_
    exact x_sub [] rfl (j_M_single_167 h N S15)
set_option maxHeartbeats 4000000 in
set_option maxRecDepth 100000 in
theorem j_M_over_42 {l : Launch} {D : va_G} {ad : Nat → Nat} {ca : Nat → ClassId} {p : Program} {e : Env} {s : State} {m : MethodId} {args : Array Value} {below : List Frame} {meth : Method} {c : Code} {A : Nat → Prop} (h : xC p s m args meth c cM_over 4 (Cond.code yM_over cM_over 4 (some .int) :: wA) nW yM_over.cls (some .int) D clA (tysM ca) A) (N : Nat) (a2 : Int32) (S : xSt) : xJ p l e rm_M_over s m args below meth c D clA (tysM ca) (cellsM ad ca) A true 4 42 [(2, .int a2)] [] S (f_M_over_42 N a2 S) := by
  unfold f_M_over_42
  refine x_iload_n (nx := 43) (i := 2) h dM_over_42 rfl 0 rfl rfl ?_
  exact x_iret h dM_over_43
set_option maxHeartbeats 4000000 in
set_option maxRecDepth 100000 in
theorem j_M_over_7 {l : Launch} {D : va_G} {ad : Nat → Nat} {ca : Nat → ClassId} {p : Program} {e : Env} {s : State} {m : MethodId} {args : Array Value} {below : List Frame} {meth : Method} {c : Code} {A : Nat → Prop} (h : xC p s m args meth c cM_over 4 (Cond.code yM_over cM_over 4 (some .int) :: wA) nW yM_over.cls (some .int) D clA (tysM ca) A) (N : Nat) : ∀ (n : Nat) (a1 a2 a3 : Int32) (S : xSt), xJ p l e rm_M_over s m args below meth c D clA (tysM ca) (cellsM ad ca) A true 4 7 [(0, .ref (ad 0)), (1, .int a1), (2, .int a2), (3, .int a3)] [] S (f_M_over_7 N n a1 a2 a3 S) := by
  intro n
  induction n with
  | zero =>
    intro a1 a2 a3 S
    rw [f_M_over_7]
    exact x_none
  | succ n ih =>
    intro a1 a2 a3 S
    rw [f_M_over_7]
    refine x_iload_n (nx := 8) (i := 2) h dM_over_7 rfl 2 rfl rfl ?_
    refine x_aload_n (nx := 9) (i := 0) h dM_over_8 rfl 0 rfl rfl ?_
    refine x_get (nx := 12) h (gM_0_16 ad ca _) (List.mem_cons_of_mem _ kM_123) dM_over_9 rfl ?_
    refine x_icmp_ge (nx := 15) (tgt := 42) h dM_over_12 (by decide) rfl ?_ ?_
    · exact x_sub [2] rfl (j_M_over_42 h N a2 S)
    · refine x_iload_n (nx := 16) (i := 3) h dM_over_15 rfl 3 rfl rfl ?_
      refine x_aload_n (nx := 17) (i := 0) h dM_over_16 rfl 0 rfl rfl ?_
      refine x_get (nx := 20) h (gM_0_17 ad ca _) (List.mem_cons_of_mem _ kM_23) dM_over_17 rfl ?_
      refine x_iload_n (nx := 21) (i := 2) h dM_over_20 rfl 2 rfl rfl ?_
      refine x_iald (nx := 22) h (aM_5 ad ca) dM_over_21 rfl (fun v1 => ?_)
      refine x_iadd (nx := 23) h dM_over_22 rfl ?_
      refine x_iload_n (nx := 24) (i := 1) h dM_over_23 rfl 1 rfl rfl ?_
      refine x_icmp_gt (nx := 27) (tgt := 42) h dM_over_24 (by decide) rfl ?_ ?_
      · exact x_sub [2] rfl (j_M_over_42 h N a2 S)
      · refine x_iload_n (nx := 28) (i := 3) h dM_over_27 rfl 3 rfl rfl ?_
        refine x_aload_n (nx := 29) (i := 0) h dM_over_28 rfl 0 rfl rfl ?_
        refine x_get (nx := 32) h (gM_0_17 ad ca _) (List.mem_cons_of_mem _ kM_23) dM_over_29 rfl ?_
        refine x_iload_n (nx := 33) (i := 2) h dM_over_32 rfl 2 rfl rfl ?_
        refine x_iald (nx := 34) h (aM_5 ad ca) dM_over_33 rfl (fun v2 => ?_)
        refine x_iadd (nx := 35) h dM_over_34 rfl ?_
        refine x_val (fun b3 => ?_)
        refine x_istore_n (nx := 36) (i := 3) (lv' := [(3, .int b3), (0, .ref (ad 0)), (1, .int a1), (2, .int a2)]) h dM_over_35 rfl (by decide) rfl rfl ?_
        refine x_iinc (nx := 39) (i := 2) (v := (a2 + (1 : Int32))) (lv' := [(2, .int (a2 + (1 : Int32))), (3, .int b3), (0, .ref (ad 0)), (1, .int a1)]) h dM_over_36 3 rfl (by rw [show Int32.ofInt 1 = (1 : Int32) by decide]) (by decide) rfl rfl ?_
        refine x_goto (tgt := 7) h dM_over_39 (by decide) ?_
        exact x_sub [2, 3, 0, 1] rfl (ih a1 (a2 + (1 : Int32)) b3 S)
set_option maxHeartbeats 4000000 in
set_option maxRecDepth 100000 in
theorem m_M_over {l : Launch} {D : va_G} {ad : Nat → Nat} {ca : Nat → ClassId} (N : Nat) (a1 : Int32) (S : xSt) : xM l D clA (tysM ca) (cellsM ad ca) nW yM_over (Cond.code yM_over cM_over 4 (some .int) :: wA) rm_M_over true [.ref (ad 0), .int a1] S (f_M_over N a1 S) := by
  refine x_met (cc := cM_over) (maxL := 4) (ret := (some .int)) (by decide) rfl [.ref (ad 0), .int a1] (lv0 := [(0, .ref (ad 0)), (1, .int a1)]) (Nat.le_of_ble_eq_true rfl) rfl ?_
  intro p e s m args below meth c A h
  unfold f_M_over
  refine x_iconst (nx := 1) (v := (0 : Int32)) h dM_over_0 (by decide) rfl ?_
  refine x_istore_n (nx := 2) (i := 2) (lv' := [(2, .int (0 : Int32)), (0, .ref (ad 0)), (1, .int a1)]) h dM_over_1 rfl (by decide) rfl rfl ?_
  refine x_aload_n (nx := 3) (i := 0) h dM_over_2 rfl 1 rfl rfl ?_
  refine x_get (nx := 6) h (gM_0_19 ad ca _) (List.mem_cons_of_mem _ kM_120) dM_over_3 rfl ?_
  refine x_val (fun b1 => ?_)
  refine x_istore_n (nx := 7) (i := 3) (lv' := [(3, .int b1), (2, .int (0 : Int32)), (0, .ref (ad 0)), (1, .int a1)]) h dM_over_6 rfl (by decide) rfl rfl ?_
  exact x_sub [2, 3, 1, 0] rfl (j_M_over_7 h N N a1 (0 : Int32) b1 S)
set_option maxHeartbeats 4000000 in
set_option maxRecDepth 100000 in
theorem j_M_play_39 {l : Launch} {D : va_G} {ad : Nat → Nat} {ca : Nat → ClassId} {p : Program} {e : Env} {s : State} {m : MethodId} {args : Array Value} {below : List Frame} {meth : Method} {c : Code} {A : Nat → Prop} (h : xC p s m args meth c cM_play 1 (Cond.code yM_play cM_play 1 none :: wA) nW yM_play.cls none D clA (tysM ca) A) (N : Nat) (S : xSt) : xJ p l e rm_M_play s m args below meth c D clA (tysM ca) (cellsM ad ca) A false 1 39 [] [] S (f_M_play_39 N S) := by
  unfold f_M_play_39
  exact x_vret h dM_play_39
set_option maxHeartbeats 4000000 in
set_option maxRecDepth 100000 in
theorem j_M_play_36 {l : Launch} {D : va_G} {ad : Nat → Nat} {ca : Nat → ClassId} {p : Program} {e : Env} {s : State} {m : MethodId} {args : Array Value} {below : List Frame} {meth : Method} {c : Code} {A : Nat → Prop} (h : xC p s m args meth c cM_play 1 (Cond.code yM_play cM_play 1 none :: wA) nW yM_play.cls none D clA (tysM ca) A) (N : Nat) (w1 : Int32) (S : xSt) : xJ p l e rm_M_play s m args below meth c D clA (tysM ca) (cellsM ad ca) A false 1 36 [] [.int w1, .ref (ad 0)] S (f_M_play_36 N w1 S) := by
  unfold f_M_play_36
  refine x_putZ (nx := 39) h (pM_0_18 ad ca _) (List.mem_cons_of_mem _ kM_126) dM_play_36 rfl (fun S1 => ?_)
  exact x_sub [] rfl (j_M_play_39 h N S1)
set_option maxHeartbeats 4000000 in
set_option maxRecDepth 100000 in
theorem m_M_play {l : Launch} {D : va_G} {ad : Nat → Nat} {ca : Nat → ClassId} (N : Nat) (S : xSt) : xM l D clA (tysM ca) (cellsM ad ca) nW yM_play (Cond.code yM_play cM_play 1 none :: wA) rm_M_play false [.ref (ad 0)] S (f_M_play N S) := by
  refine x_met (cc := cM_play) (maxL := 1) (ret := none) (by decide) rfl [.ref (ad 0)] (lv0 := [(0, .ref (ad 0))]) (Nat.le_of_ble_eq_true rfl) rfl ?_
  intro p e s m args below meth c A h
  unfold f_M_play
  refine x_aload_n (nx := 1) (i := 0) h dM_play_0 rfl 0 rfl rfl ?_
  refine x_get (nx := 4) h (gM_0_18 ad ca _) (List.mem_cons_of_mem _ kM_126) dM_play_1 rfl ?_
  refine x_if_eq (nx := 7) (tgt := 39) h dM_play_4 (by decide) rfl ?_ ?_
  · exact x_sub [] rfl (j_M_play_39 h N S)
  · refine x_aload_n (nx := 8) (i := 0) h dM_play_7 rfl 0 rfl rfl ?_
    refine x_aload_n (nx := 9) (i := 0) h dM_play_8 rfl 0 rfl rfl ?_
    refine x_aload_n (nx := 10) (i := 0) h dM_play_9 rfl 0 rfl rfl ?_
    refine x_get (nx := 13) h (gM_0_2 ad ca _) (List.mem_cons_of_mem _ kM_26) dM_play_10 rfl ?_
    refine x_cVi (nx := 16) (rest := [.ref (ad 0)]) (As := [.int (S 0 2)]) h (m_M_over N (S 0 2) S) (x_wV h goA y_M_over kM_129 ⟨by decide, by decide⟩ rfl rfl) (oM_0 ad ca) rfl rfl (Nat.le_of_ble_eq_true rfl) dM_play_13 rfl (fun v1 S2 => ?_)
    refine x_put (nx := 19) h (pM_0_20 ad ca _) (List.mem_cons_of_mem _ kM_131) dM_play_16 rfl (fun S3 => ?_)
    refine x_aload_n (nx := 20) (i := 0) h dM_play_19 rfl 0 rfl rfl ?_
    refine x_aload_n (nx := 21) (i := 0) h dM_play_20 rfl 0 rfl rfl ?_
    refine x_get (nx := 24) h (gM_0_20 ad ca _) (List.mem_cons_of_mem _ kM_131) dM_play_21 rfl ?_
    refine x_aload_n (nx := 25) (i := 0) h dM_play_24 rfl 0 rfl rfl ?_
    refine x_get (nx := 28) h (gM_0_16 ad ca _) (List.mem_cons_of_mem _ kM_123) dM_play_25 rfl ?_
    refine x_icmp_ge (nx := 31) (tgt := 35) h dM_play_28 (by decide) rfl ?_ ?_
    · refine x_iconst (nx := 36) (v := (0 : Int32)) h dM_play_35 (by decide) rfl ?_
      exact x_sub [] rfl (j_M_play_36 h N (0 : Int32) S3)
    · refine x_iconst (nx := 32) (v := (1 : Int32)) h dM_play_31 (by decide) rfl ?_
      refine x_goto (tgt := 36) h dM_play_32 (by decide) ?_
      exact x_sub [] rfl (j_M_play_36 h N (1 : Int32) S3)
set_option maxHeartbeats 4000000 in
set_option maxRecDepth 100000 in
theorem j_M_input_101 {l : Launch} {D : va_G} {ad : Nat → Nat} {ca : Nat → ClassId} {p : Program} {e : Env} {s : State} {m : MethodId} {args : Array Value} {below : List Frame} {meth : Method} {c : Code} {A : Nat → Prop} (h : xC p s m args meth c cM_input 6 (Cond.code yM_input cM_input 6 (some .int) :: wA) nW yM_input.cls (some .int) D clA (tysM ca) A) (N : Nat) (k47 : Int32 → Int32 → Int32 → xSt → xR) (hk47 : ∀ (a1 a2 a3 : Int32) (S : xSt), xJ p l e rm_M_input s m args below meth c D clA (tysM ca) (cellsM ad ca) A true 6 47 [(0, .ref (ad 0)), (1, .int a1), (2, .int a2), (3, .int a3)] [] S (k47 a1 a2 a3 S)) (k58 : Int32 → Int32 → Int32 → Int32 → Int32 → xSt → xR) (hk58 : ∀ (a1 a2 a3 a4 a5 : Int32) (S : xSt), xJ p l e rm_M_input s m args below meth c D clA (tysM ca) (cellsM ad ca) A true 6 58 [(0, .ref (ad 0)), (1, .int a1), (2, .int a2), (3, .int a3), (4, .int a4), (5, .int a5)] [] S (k58 a1 a2 a3 a4 a5 S)) (a1 a2 a3 a5 w0 : Int32) (S : xSt) : xJ p l e rm_M_input s m args below meth c D clA (tysM ca) (cellsM ad ca) A true 6 101 [(0, .ref (ad 0)), (1, .int a1), (2, .int a2), (3, .int a3), (5, .int a5)] [.int w0] S (f_M_input_101 N k47 k58 a1 a2 a3 a5 w0 S) := by
  unfold f_M_input_101
  refine x_istore (nx := 103) (i := 4) (lv' := [(4, .int w0), (0, .ref (ad 0)), (1, .int a1), (2, .int a2), (3, .int a3), (5, .int a5)]) h dM_input_101 (by decide) rfl rfl ?_
  refine x_iinc (nx := 106) (i := 5) (v := (a5 + (1 : Int32))) (lv' := [(5, .int (a5 + (1 : Int32))), (4, .int w0), (0, .ref (ad 0)), (1, .int a1), (2, .int a2), (3, .int a3)]) h dM_input_103 5 rfl (by rw [show Int32.ofInt 1 = (1 : Int32) by decide]) (by decide) rfl rfl ?_
  refine x_goto (tgt := 58) h dM_input_106 (by decide) ?_
  exact x_sub [2, 3, 4, 5, 1, 0] rfl (hk58 a1 a2 a3 w0 (a5 + (1 : Int32)) S)
set_option maxHeartbeats 4000000 in
set_option maxRecDepth 100000 in
theorem j_M_input_96 {l : Launch} {D : va_G} {ad : Nat → Nat} {ca : Nat → ClassId} {p : Program} {e : Env} {s : State} {m : MethodId} {args : Array Value} {below : List Frame} {meth : Method} {c : Code} {A : Nat → Prop} (h : xC p s m args meth c cM_input 6 (Cond.code yM_input cM_input 6 (some .int) :: wA) nW yM_input.cls (some .int) D clA (tysM ca) A) (N : Nat) (k47 : Int32 → Int32 → Int32 → xSt → xR) (hk47 : ∀ (a1 a2 a3 : Int32) (S : xSt), xJ p l e rm_M_input s m args below meth c D clA (tysM ca) (cellsM ad ca) A true 6 47 [(0, .ref (ad 0)), (1, .int a1), (2, .int a2), (3, .int a3)] [] S (k47 a1 a2 a3 S)) (k58 : Int32 → Int32 → Int32 → Int32 → Int32 → xSt → xR) (hk58 : ∀ (a1 a2 a3 a4 a5 : Int32) (S : xSt), xJ p l e rm_M_input s m args below meth c D clA (tysM ca) (cellsM ad ca) A true 6 58 [(0, .ref (ad 0)), (1, .int a1), (2, .int a2), (3, .int a3), (4, .int a4), (5, .int a5)] [] S (k58 a1 a2 a3 a4 a5 S)) (a1 a2 a3 a5 : Int32) (S : xSt) : xJ p l e rm_M_input s m args below meth c D clA (tysM ca) (cellsM ad ca) A true 6 96 [(0, .ref (ad 0)), (1, .int a1), (2, .int a2), (3, .int a3), (5, .int a5)] [] S (f_M_input_96 N k47 k58 a1 a2 a3 a5 S) := by
  unfold f_M_input_96
  refine x_iconst (nx := 97) (v := (1 : Int32)) h dM_input_96 (by decide) rfl ?_
  refine x_goto (tgt := 101) h dM_input_97 (by decide) ?_
  exact x_sub [0, 1, 2, 3, 4] rfl (j_M_input_101 h N k47 hk47 k58 hk58 a1 a2 a3 a5 (1 : Int32) S)
set_option maxHeartbeats 4000000 in
set_option maxRecDepth 100000 in
theorem j_M_input_100 {l : Launch} {D : va_G} {ad : Nat → Nat} {ca : Nat → ClassId} {p : Program} {e : Env} {s : State} {m : MethodId} {args : Array Value} {below : List Frame} {meth : Method} {c : Code} {A : Nat → Prop} (h : xC p s m args meth c cM_input 6 (Cond.code yM_input cM_input 6 (some .int) :: wA) nW yM_input.cls (some .int) D clA (tysM ca) A) (N : Nat) (k47 : Int32 → Int32 → Int32 → xSt → xR) (hk47 : ∀ (a1 a2 a3 : Int32) (S : xSt), xJ p l e rm_M_input s m args below meth c D clA (tysM ca) (cellsM ad ca) A true 6 47 [(0, .ref (ad 0)), (1, .int a1), (2, .int a2), (3, .int a3)] [] S (k47 a1 a2 a3 S)) (k58 : Int32 → Int32 → Int32 → Int32 → Int32 → xSt → xR) (hk58 : ∀ (a1 a2 a3 a4 a5 : Int32) (S : xSt), xJ p l e rm_M_input s m args below meth c D clA (tysM ca) (cellsM ad ca) A true 6 58 [(0, .ref (ad 0)), (1, .int a1), (2, .int a2), (3, .int a3), (4, .int a4), (5, .int a5)] [] S (k58 a1 a2 a3 a4 a5 S)) (a1 a2 a3 a5 : Int32) (S : xSt) : xJ p l e rm_M_input s m args below meth c D clA (tysM ca) (cellsM ad ca) A true 6 100 [(0, .ref (ad 0)), (1, .int a1), (2, .int a2), (3, .int a3), (5, .int a5)] [] S (f_M_input_100 N k47 k58 a1 a2 a3 a5 S) := by
  unfold f_M_input_100
  refine x_iconst (nx := 101) (v := (0 : Int32)) h dM_input_100 (by decide) rfl ?_
  exact x_sub [0, 1, 2, 3, 4] rfl (j_M_input_101 h N k47 hk47 k58 hk58 a1 a2 a3 a5 (0 : Int32) S)
set_option maxHeartbeats 4000000 in
set_option maxRecDepth 100000 in
theorem j_M_input_122 {l : Launch} {D : va_G} {ad : Nat → Nat} {ca : Nat → ClassId} {p : Program} {e : Env} {s : State} {m : MethodId} {args : Array Value} {below : List Frame} {meth : Method} {c : Code} {A : Nat → Prop} (h : xC p s m args meth c cM_input 6 (Cond.code yM_input cM_input 6 (some .int) :: wA) nW yM_input.cls (some .int) D clA (tysM ca) A) (N : Nat) (k47 : Int32 → Int32 → Int32 → xSt → xR) (hk47 : ∀ (a1 a2 a3 : Int32) (S : xSt), xJ p l e rm_M_input s m args below meth c D clA (tysM ca) (cellsM ad ca) A true 6 47 [(0, .ref (ad 0)), (1, .int a1), (2, .int a2), (3, .int a3)] [] S (k47 a1 a2 a3 S)) (a1 a3 w0 w1 : Int32) (S : xSt) : xJ p l e rm_M_input s m args below meth c D clA (tysM ca) (cellsM ad ca) A true 6 122 [(0, .ref (ad 0)), (1, .int a1), (3, .int a3)] [.int w1, .int w0] S (f_M_input_122 N k47 a1 a3 w0 w1 S) := by
  unfold f_M_input_122
  refine x_iadd (nx := 123) h dM_input_122 rfl ?_
  refine x_val (fun b1 => ?_)
  refine x_istore_n (nx := 124) (i := 2) (lv' := [(2, .int b1), (0, .ref (ad 0)), (1, .int a1), (3, .int a3)]) h dM_input_123 rfl (by decide) rfl rfl ?_
  refine x_iinc (nx := 127) (i := 3) (v := (a3 + (1 : Int32))) (lv' := [(3, .int (a3 + (1 : Int32))), (2, .int b1), (0, .ref (ad 0)), (1, .int a1)]) h dM_input_124 3 rfl (by rw [show Int32.ofInt 1 = (1 : Int32) by decide]) (by decide) rfl rfl ?_
  refine x_goto (tgt := 47) h dM_input_127 (by decide) ?_
  exact x_sub [2, 3, 1, 0] rfl (hk47 a1 b1 (a3 + (1 : Int32)) S)
set_option maxHeartbeats 4000000 in
set_option maxRecDepth 100000 in
theorem j_M_input_58 {l : Launch} {D : va_G} {ad : Nat → Nat} {ca : Nat → ClassId} {p : Program} {e : Env} {s : State} {m : MethodId} {args : Array Value} {below : List Frame} {meth : Method} {c : Code} {A : Nat → Prop} (h : xC p s m args meth c cM_input 6 (Cond.code yM_input cM_input 6 (some .int) :: wA) nW yM_input.cls (some .int) D clA (tysM ca) A) (N : Nat) (k47 : Int32 → Int32 → Int32 → xSt → xR) (hk47 : ∀ (a1 a2 a3 : Int32) (S : xSt), xJ p l e rm_M_input s m args below meth c D clA (tysM ca) (cellsM ad ca) A true 6 47 [(0, .ref (ad 0)), (1, .int a1), (2, .int a2), (3, .int a3)] [] S (k47 a1 a2 a3 S)) : ∀ (n : Nat) (a1 a2 a3 a4 a5 : Int32) (S : xSt), xJ p l e rm_M_input s m args below meth c D clA (tysM ca) (cellsM ad ca) A true 6 58 [(0, .ref (ad 0)), (1, .int a1), (2, .int a2), (3, .int a3), (4, .int a4), (5, .int a5)] [] S (f_M_input_58 N k47 n a1 a2 a3 a4 a5 S) := by
  intro n
  induction n with
  | zero =>
    intro a1 a2 a3 a4 a5 S
    rw [f_M_input_58]
    exact x_none
  | succ n ih =>
    intro a1 a2 a3 a4 a5 S
    rw [f_M_input_58]
    refine x_iload (nx := 60) (i := 5) h dM_input_58 5 rfl rfl ?_
    refine x_bipush (nx := 62) (v := (8 : Int32)) h dM_input_60 (by decide) rfl ?_
    refine x_icmp_ge (nx := 65) (tgt := 109) h dM_input_62 (by decide) rfl ?_ ?_
    · refine x_iload_n (nx := 110) (i := 2) h dM_input_109 rfl 2 rfl rfl ?_
      refine x_iload (nx := 112) (i := 4) h dM_input_110 4 rfl rfl ?_
      refine x_if_eq (nx := 115) (tgt := 119) h dM_input_112 (by decide) rfl ?_ ?_
      · refine x_iconst (nx := 120) (v := (1 : Int32)) h dM_input_119 (by decide) rfl ?_
        refine x_iload_n (nx := 121) (i := 3) h dM_input_120 rfl 3 rfl rfl ?_
        refine x_ishl (nx := 122) h dM_input_121 rfl ?_
        exact x_sub [0, 1, 3] rfl (j_M_input_122 h N k47 hk47 a1 a3 a2 ((1 : Int32) <<< (a3 &&& 31)) S)
      · refine x_iconst (nx := 116) (v := (0 : Int32)) h dM_input_115 (by decide) rfl ?_
        refine x_goto (tgt := 122) h dM_input_116 (by decide) ?_
        exact x_sub [0, 1, 3] rfl (j_M_input_122 h N k47 hk47 a1 a3 a2 (0 : Int32) S)
    · refine x_iload (nx := 67) (i := 4) h dM_input_65 4 rfl rfl ?_
      refine x_if_ne (nx := 70) (tgt := 96) h dM_input_67 (by decide) rfl ?_ ?_
      · exact x_sub [0, 1, 2, 3, 5] rfl (j_M_input_96 h N k47 hk47 (f_M_input_58 N k47 n) ih a1 a2 a3 a5 S)
      · refine x_iload_n (nx := 71) (i := 1) h dM_input_70 rfl 1 rfl rfl ?_
        refine x_bipush (nx := 73) (v := (8 : Int32)) h dM_input_71 (by decide) rfl ?_
        refine x_iload (nx := 75) (i := 5) h dM_input_73 5 rfl rfl ?_
        refine x_iadd (nx := 76) h dM_input_75 rfl ?_
        refine x_ishr (nx := 77) h dM_input_76 rfl ?_
        refine x_iconst (nx := 78) (v := (1 : Int32)) h dM_input_77 (by decide) rfl ?_
        refine x_iand (nx := 79) h dM_input_78 rfl ?_
        refine x_if_ne (nx := 82) (tgt := 100) h dM_input_79 (by decide) rfl ?_ ?_
        · exact x_sub [0, 1, 2, 3, 5] rfl (j_M_input_100 h N k47 hk47 (f_M_input_58 N k47 n) ih a1 a2 a3 a5 S)
        · refine x_aload_n (nx := 83) (i := 0) h dM_input_82 rfl 0 rfl rfl ?_
          refine x_get (nx := 86) h (gM_0_11 ad ca _) (List.mem_cons_of_mem _ kM_16) dM_input_83 rfl ?_
          refine x_iconst (nx := 87) (v := (5 : Int32)) h dM_input_86 (by decide) rfl ?_
          refine x_iload (nx := 89) (i := 5) h dM_input_87 5 rfl rfl ?_
          refine x_imul (nx := 90) h dM_input_89 rfl ?_
          refine x_iload_n (nx := 91) (i := 3) h dM_input_90 rfl 3 rfl rfl ?_
          refine x_iadd (nx := 92) h dM_input_91 rfl ?_
          refine x_zald (nx := 93) h (aM_3 ad ca) dM_input_92 rfl (fun v1 => ?_)
          refine x_if_eq (nx := 96) (tgt := 100) h dM_input_93 (by decide) rfl ?_ ?_
          · exact x_sub [0, 1, 2, 3, 5] rfl (j_M_input_100 h N k47 hk47 (f_M_input_58 N k47 n) ih a1 a2 a3 a5 S)
          · exact x_sub [0, 1, 2, 3, 5] rfl (j_M_input_96 h N k47 hk47 (f_M_input_58 N k47 n) ih a1 a2 a3 a5 S)
set_option maxHeartbeats 4000000 in
set_option maxRecDepth 100000 in
theorem j_M_input_47 {l : Launch} {D : va_G} {ad : Nat → Nat} {ca : Nat → ClassId} {p : Program} {e : Env} {s : State} {m : MethodId} {args : Array Value} {below : List Frame} {meth : Method} {c : Code} {A : Nat → Prop} (h : xC p s m args meth c cM_input 6 (Cond.code yM_input cM_input 6 (some .int) :: wA) nW yM_input.cls (some .int) D clA (tysM ca) A) (N : Nat) : ∀ (n : Nat) (a1 a2 a3 : Int32) (S : xSt), xJ p l e rm_M_input s m args below meth c D clA (tysM ca) (cellsM ad ca) A true 6 47 [(0, .ref (ad 0)), (1, .int a1), (2, .int a2), (3, .int a3)] [] S (f_M_input_47 N n a1 a2 a3 S) := by
  intro n
  induction n with
  | zero =>
    intro a1 a2 a3 S
    rw [f_M_input_47]
    exact x_none
  | succ n ih =>
    intro a1 a2 a3 S
    rw [f_M_input_47]
    refine x_iload_n (nx := 48) (i := 3) h dM_input_47 rfl 3 rfl rfl ?_
    refine x_iconst (nx := 49) (v := (5 : Int32)) h dM_input_48 (by decide) rfl ?_
    refine x_icmp_ge (nx := 52) (tgt := 130) h dM_input_49 (by decide) rfl ?_ ?_
    · refine x_aload_n (nx := 131) (i := 0) h dM_input_130 rfl 0 rfl rfl ?_
      refine x_iconst (nx := 132) (v := (4 : Int32)) h dM_input_131 (by decide) rfl ?_
      refine x_cVv (nx := 135) (rest := []) (As := [.int (4 : Int32)]) h (m_M_pass N (4 : Int32) S) (x_wV h goA y_M_pass kM_33 ⟨by decide, by decide⟩ rfl rfl) (oM_0 ad ca) rfl rfl (Nat.le_of_ble_eq_true rfl) dM_input_132 rfl (fun v1 S2 => ?_)
      refine x_iload_n (nx := 136) (i := 2) h dM_input_135 rfl 2 rfl rfl ?_
      exact x_iret h dM_input_136
    · refine x_iconst (nx := 53) (v := (0 : Int32)) h dM_input_52 (by decide) rfl ?_
      refine x_istore (nx := 55) (i := 4) (lv' := [(4, .int (0 : Int32)), (0, .ref (ad 0)), (1, .int a1), (2, .int a2), (3, .int a3)]) h dM_input_53 (by decide) rfl rfl ?_
      refine x_iconst (nx := 56) (v := (0 : Int32)) h dM_input_55 (by decide) rfl ?_
      refine x_istore (nx := 58) (i := 5) (lv' := [(5, .int (0 : Int32)), (4, .int (0 : Int32)), (0, .ref (ad 0)), (1, .int a1), (2, .int a2), (3, .int a3)]) h dM_input_56 (by decide) rfl rfl ?_
      exact x_sub [2, 3, 4, 5, 1, 0] rfl (j_M_input_58 h N (f_M_input_47 N n) ih N a1 a2 a3 (0 : Int32) (0 : Int32) S)
set_option maxHeartbeats 4000000 in
set_option maxRecDepth 100000 in
theorem j_M_input_43 {l : Launch} {D : va_G} {ad : Nat → Nat} {ca : Nat → ClassId} {p : Program} {e : Env} {s : State} {m : MethodId} {args : Array Value} {below : List Frame} {meth : Method} {c : Code} {A : Nat → Prop} (h : xC p s m args meth c cM_input 6 (Cond.code yM_input cM_input 6 (some .int) :: wA) nW yM_input.cls (some .int) D clA (tysM ca) A) (N : Nat) (a1 w0 w1 : Int32) (S : xSt) : xJ p l e rm_M_input s m args below meth c D clA (tysM ca) (cellsM ad ca) A true 6 43 [(0, .ref (ad 0)), (1, .int a1)] [.int w1, .int w0] S (f_M_input_43 N a1 w0 w1 S) := by
  unfold f_M_input_43
  refine x_iadd (nx := 44) h dM_input_43 rfl ?_
  refine x_val (fun b1 => ?_)
  refine x_istore_n (nx := 45) (i := 2) (lv' := [(2, .int b1), (0, .ref (ad 0)), (1, .int a1)]) h dM_input_44 rfl (by decide) rfl rfl ?_
  refine x_iconst (nx := 46) (v := (0 : Int32)) h dM_input_45 (by decide) rfl ?_
  refine x_istore_n (nx := 47) (i := 3) (lv' := [(3, .int (0 : Int32)), (2, .int b1), (0, .ref (ad 0)), (1, .int a1)]) h dM_input_46 rfl (by decide) rfl rfl ?_
  exact x_sub [2, 3, 1, 0] rfl (j_M_input_47 h N N a1 b1 (0 : Int32) S)
set_option maxHeartbeats 4000000 in
set_option maxRecDepth 100000 in
theorem m_M_input {l : Launch} {D : va_G} {ad : Nat → Nat} {ca : Nat → ClassId} (N : Nat) (a1 : Int32) (S : xSt) : xM l D clA (tysM ca) (cellsM ad ca) nW yM_input (Cond.code yM_input cM_input 6 (some .int) :: wA) rm_M_input true [.ref (ad 0), .int a1] S (f_M_input N a1 S) := by
  refine x_met (cc := cM_input) (maxL := 6) (ret := (some .int)) (by decide) rfl [.ref (ad 0), .int a1] (lv0 := [(0, .ref (ad 0)), (1, .int a1)]) (Nat.le_of_ble_eq_true rfl) rfl ?_
  intro p e s m args below meth c A h
  unfold f_M_input
  refine x_iload_n (nx := 1) (i := 1) h dM_input_0 rfl 1 rfl rfl ?_
  refine x_iconst (nx := 2) (v := (2 : Int32)) h dM_input_1 (by decide) rfl ?_
  refine x_irem (nx := 3) h dM_input_2 (by decide) rfl ?_
  refine x_iconst (nx := 4) (v := (1 : Int32)) h dM_input_3 (by decide) rfl ?_
  refine x_icmp_ne (nx := 7) (tgt := 16) h dM_input_4 (by decide) rfl ?_ ?_
  · refine x_aload_n (nx := 17) (i := 0) h dM_input_16 rfl 0 rfl rfl ?_
    refine x_cVv (nx := 20) (rest := []) (As := []) h (m_M_slow N S) (x_wV h goA y_M_slow kM_37 ⟨by decide, by decide⟩ rfl rfl) (oM_0 ad ca) rfl rfl (Nat.le_of_ble_eq_true rfl) dM_input_17 rfl (fun v1 S2 => ?_)
    refine x_aload_n (nx := 21) (i := 0) h dM_input_20 rfl 0 rfl rfl ?_
    refine x_cVv (nx := 24) (rest := []) (As := []) h (m_M_play N S2) (x_wV h goA y_M_play kM_134 ⟨by decide, by decide⟩ rfl rfl) (oM_0 ad ca) rfl rfl (Nat.le_of_ble_eq_true rfl) dM_input_21 rfl (fun v3 S4 => ?_)
    refine x_sipush (nx := 27) (v := (160 : Int32)) h dM_input_24 (by decide) rfl ?_
    refine x_aload_n (nx := 28) (i := 0) h dM_input_27 rfl 0 rfl rfl ?_
    refine x_get (nx := 31) h (gM_0_20 ad ca _) (List.mem_cons_of_mem _ kM_131) dM_input_28 rfl ?_
    refine x_iconst (nx := 32) (v := (2 : Int32)) h dM_input_31 (by decide) rfl ?_
    refine x_irem (nx := 33) h dM_input_32 (by decide) rfl ?_
    refine x_iconst (nx := 34) (v := (1 : Int32)) h dM_input_33 (by decide) rfl ?_
    refine x_icmp_ne (nx := 37) (tgt := 42) h dM_input_34 (by decide) rfl ?_ ?_
    · refine x_iconst (nx := 43) (v := (0 : Int32)) h dM_input_42 (by decide) rfl ?_
      exact x_sub [0, 1] rfl (j_M_input_43 h N a1 (160 : Int32) (0 : Int32) S4)
    · refine x_bipush (nx := 39) (v := (64 : Int32)) h dM_input_37 (by decide) rfl ?_
      refine x_goto (tgt := 43) h dM_input_39 (by decide) ?_
      exact x_sub [0, 1] rfl (j_M_input_43 h N a1 (160 : Int32) (64 : Int32) S4)
  · refine x_aload_n (nx := 8) (i := 0) h dM_input_7 rfl 0 rfl rfl ?_
    refine x_iconst (nx := 9) (v := (4 : Int32)) h dM_input_8 (by decide) rfl ?_
    refine x_cVv (nx := 12) (rest := []) (As := [.int (4 : Int32)]) h (m_M_pass N (4 : Int32) S) (x_wV h goA y_M_pass kM_33 ⟨by decide, by decide⟩ rfl rfl) (oM_0 ad ca) rfl rfl (Nat.le_of_ble_eq_true rfl) dM_input_9 rfl (fun v5 S6 => ?_)
    refine x_sipush (nx := 15) (v := (255 : Int32)) h dM_input_12 (by decide) rfl ?_
    exact x_iret h dM_input_15
set_option maxHeartbeats 4000000 in
set_option maxRecDepth 100000 in
theorem j_M_output_95 {l : Launch} {D : va_G} {ad : Nat → Nat} {ca : Nat → ClassId} {p : Program} {e : Env} {s : State} {m : MethodId} {args : Array Value} {below : List Frame} {meth : Method} {c : Code} {A : Nat → Prop} (h : xC p s m args meth c cM_output 3 (Cond.code yM_output cM_output 3 none :: wA) nW yM_output.cls none D clA (tysM ca) A) (N : Nat) (S : xSt) : xJ p l e rm_M_output s m args below meth c D clA (tysM ca) (cellsM ad ca) A false 3 95 [] [] S (f_M_output_95 N S) := by
  unfold f_M_output_95
  exact x_vret h dM_output_95
set_option maxHeartbeats 4000000 in
set_option maxRecDepth 100000 in
theorem j_M_output_52 {l : Launch} {D : va_G} {ad : Nat → Nat} {ca : Nat → ClassId} {p : Program} {e : Env} {s : State} {m : MethodId} {args : Array Value} {below : List Frame} {meth : Method} {c : Code} {A : Nat → Prop} (h : xC p s m args meth c cM_output 3 (Cond.code yM_output cM_output 3 none :: wA) nW yM_output.cls none D clA (tysM ca) A) (N : Nat) (a2 w1 w2 : Int32) (S : xSt) : xJ p l e rm_M_output s m args below meth c D clA (tysM ca) (cellsM ad ca) A false 3 52 [(0, .ref (ad 0)), (2, .int a2)] [.int w2, .int w1, .ref (ad 0)] S (f_M_output_52 N a2 w1 w2 S) := by
  unfold f_M_output_52
  refine x_iadd (nx := 53) h dM_output_52 rfl ?_
  refine x_put (nx := 56) h (pM_0_14 ad ca _) (List.mem_cons_of_mem _ kM_137) dM_output_53 rfl (fun S1 => ?_)
  refine x_aload_n (nx := 57) (i := 0) h dM_output_56 rfl 0 rfl rfl ?_
  refine x_iload_n (nx := 58) (i := 2) h dM_output_57 rfl 1 rfl rfl ?_
  refine x_iconst (nx := 59) (v := (4 : Int32)) h dM_output_58 (by decide) rfl ?_
  refine x_ishr (nx := 60) h dM_output_59 rfl ?_
  refine x_iconst (nx := 61) (v := (1 : Int32)) h dM_output_60 (by decide) rfl ?_
  refine x_iand (nx := 62) h dM_output_61 rfl ?_
  refine x_put (nx := 65) h (pM_0_13 ad ca _) (List.mem_cons_of_mem _ kM_140) dM_output_62 rfl (fun S2 => ?_)
  refine x_aload_n (nx := 66) (i := 0) h dM_output_65 rfl 0 rfl rfl ?_
  refine x_get (nx := 69) h (gM_0_2 ad ca _) (List.mem_cons_of_mem _ kM_26) dM_output_66 rfl ?_
  refine x_bipush (nx := 71) (v := (64 : Int32)) h dM_output_69 (by decide) rfl ?_
  refine x_irem (nx := 72) h dM_output_71 (by decide) rfl ?_
  refine x_if_ne (nx := 75) (tgt := 95) h dM_output_72 (by decide) rfl ?_ ?_
  · exact x_sub [] rfl (j_M_output_95 h N S2)
  · refine x_aload_n (nx := 76) (i := 0) h dM_output_75 rfl 0 rfl rfl ?_
    refine x_get (nx := 79) h (gM_0_15 ad ca _) (List.mem_cons_of_mem _ kM_20) dM_output_76 rfl ?_
    refine x_aload_n (nx := 80) (i := 0) h dM_output_79 rfl 0 rfl rfl ?_
    refine x_get (nx := 83) h (gM_0_2 ad ca _) (List.mem_cons_of_mem _ kM_26) dM_output_80 rfl ?_
    refine x_sipush (nx := 86) (v := (4096 : Int32)) h dM_output_83 (by decide) rfl ?_
    refine x_irem (nx := 87) h dM_output_86 (by decide) rfl ?_
    refine x_bipush (nx := 89) (v := (64 : Int32)) h dM_output_87 (by decide) rfl ?_
    refine x_idiv (nx := 90) h dM_output_89 (by decide) rfl ?_
    refine x_aload_n (nx := 91) (i := 0) h dM_output_90 rfl 0 rfl rfl ?_
    refine x_get (nx := 94) h (gM_0_12 ad ca _) (List.mem_cons_of_mem _ kM_30) dM_output_91 rfl ?_
    refine x_iast (nx := 95) h (aM_4 ad ca) dM_output_94 rfl (fun S3 => ?_)
    exact x_sub [] rfl (j_M_output_95 h N S3)
set_option maxHeartbeats 4000000 in
set_option maxRecDepth 100000 in
theorem m_M_output {l : Launch} {D : va_G} {ad : Nat → Nat} {ca : Nat → ClassId} (N : Nat) (a1 a2 : Int32) (S : xSt) : xM l D clA (tysM ca) (cellsM ad ca) nW yM_output (Cond.code yM_output cM_output 3 none :: wA) rm_M_output false [.ref (ad 0), .int a1, .int a2] S (f_M_output N a1 a2 S) := by
  refine x_met (cc := cM_output) (maxL := 3) (ret := none) (by decide) rfl [.ref (ad 0), .int a1, .int a2] (lv0 := [(0, .ref (ad 0)), (1, .int a1), (2, .int a2)]) (Nat.le_of_ble_eq_true rfl) rfl ?_
  intro p e s m args below meth c A h
  unfold f_M_output
  refine x_iload_n (nx := 1) (i := 1) h dM_output_0 rfl 1 rfl rfl ?_
  refine x_iconst (nx := 2) (v := (2 : Int32)) h dM_output_1 (by decide) rfl ?_
  refine x_irem (nx := 3) h dM_output_2 (by decide) rfl ?_
  refine x_iconst (nx := 4) (v := (1 : Int32)) h dM_output_3 (by decide) rfl ?_
  refine x_icmp_ne (nx := 7) (tgt := 13) h dM_output_4 (by decide) rfl ?_ ?_
  · refine x_aload_n (nx := 14) (i := 0) h dM_output_13 rfl 0 rfl rfl ?_
    refine x_cVv (nx := 17) (rest := []) (As := []) h (m_M_slow N S) (x_wV h goA y_M_slow kM_37 ⟨by decide, by decide⟩ rfl rfl) (oM_0 ad ca) rfl rfl (Nat.le_of_ble_eq_true rfl) dM_output_14 rfl (fun v1 S2 => ?_)
    refine x_aload_n (nx := 18) (i := 0) h dM_output_17 rfl 0 rfl rfl ?_
    refine x_iconst (nx := 19) (v := (4 : Int32)) h dM_output_18 (by decide) rfl ?_
    refine x_cVv (nx := 22) (rest := []) (As := [.int (4 : Int32)]) h (m_M_pass N (4 : Int32) S2) (x_wV h goA y_M_pass kM_33 ⟨by decide, by decide⟩ rfl rfl) (oM_0 ad ca) rfl rfl (Nat.le_of_ble_eq_true rfl) dM_output_19 rfl (fun v3 S4 => ?_)
    refine x_aload_n (nx := 23) (i := 0) h dM_output_22 rfl 0 rfl rfl ?_
    refine x_iload_n (nx := 24) (i := 2) h dM_output_23 rfl 2 rfl rfl ?_
    refine x_bipush (nx := 26) (v := (7 : Int32)) h dM_output_24 (by decide) rfl ?_
    refine x_iand (nx := 27) h dM_output_26 rfl ?_
    refine x_put (nx := 30) h (pM_0_12 ad ca _) (List.mem_cons_of_mem _ kM_30) dM_output_27 rfl (fun S5 => ?_)
    refine x_aload_n (nx := 31) (i := 0) h dM_output_30 rfl 0 rfl rfl ?_
    refine x_dup (nx := 32) h dM_output_31 rfl rfl ?_
    refine x_get (nx := 35) h (gM_0_14 ad ca _) (List.mem_cons_of_mem _ kM_137) dM_output_32 rfl ?_
    refine x_iload_n (nx := 36) (i := 2) h dM_output_35 rfl 2 rfl rfl ?_
    refine x_iconst (nx := 37) (v := (4 : Int32)) h dM_output_36 (by decide) rfl ?_
    refine x_ishr (nx := 38) h dM_output_37 rfl ?_
    refine x_iconst (nx := 39) (v := (1 : Int32)) h dM_output_38 (by decide) rfl ?_
    refine x_iand (nx := 40) h dM_output_39 rfl ?_
    refine x_aload_n (nx := 41) (i := 0) h dM_output_40 rfl 0 rfl rfl ?_
    refine x_get (nx := 44) h (gM_0_13 ad ca _) (List.mem_cons_of_mem _ kM_140) dM_output_41 rfl ?_
    refine x_icmp_eq (nx := 47) (tgt := 51) h dM_output_44 (by decide) rfl ?_ ?_
    · refine x_iconst (nx := 52) (v := (0 : Int32)) h dM_output_51 (by decide) rfl ?_
      exact x_sub [0, 2] rfl (j_M_output_52 h N a2 (S5 0 14) (0 : Int32) S5)
    · refine x_iconst (nx := 48) (v := (1 : Int32)) h dM_output_47 (by decide) rfl ?_
      refine x_goto (tgt := 52) h dM_output_48 (by decide) ?_
      exact x_sub [0, 2] rfl (j_M_output_52 h N a2 (S5 0 14) (1 : Int32) S5)
  · refine x_aload_n (nx := 8) (i := 0) h dM_output_7 rfl 0 rfl rfl ?_
    refine x_iconst (nx := 9) (v := (4 : Int32)) h dM_output_8 (by decide) rfl ?_
    refine x_cVv (nx := 12) (rest := []) (As := [.int (4 : Int32)]) h (m_M_pass N (4 : Int32) S) (x_wV h goA y_M_pass kM_33 ⟨by decide, by decide⟩ rfl rfl) (oM_0 ad ca) rfl rfl (Nat.le_of_ble_eq_true rfl) dM_output_9 rfl (fun v6 S7 => ?_)
    exact x_vret h dM_output_12
set_option maxHeartbeats 4000000 in
set_option maxRecDepth 100000 in
theorem j_M_interrupt_85 {l : Launch} {D : va_G} {ad : Nat → Nat} {ca : Nat → ClassId} {p : Program} {e : Env} {s : State} {m : MethodId} {args : Array Value} {below : List Frame} {meth : Method} {c : Code} {A : Nat → Prop} (h : xC p s m args meth c cM_interrupt 1 (Cond.code yM_interrupt cM_interrupt 1 none :: wA) nW yM_interrupt.cls none D clA (tysM ca) A) (N : Nat) (w1 w2 : Int32) (S : xSt) : xJ p l e rm_M_interrupt s m args below meth c D clA (tysM ca) (cellsM ad ca) A false 1 85 [] [.int w2, .int w1, .ref (ad 2)] S (f_M_interrupt_85 N w1 w2 S) := by
  unfold f_M_interrupt_85
  refine x_iast (nx := 86) h (aM_2 ad ca) dM_interrupt_85 rfl (fun S1 => ?_)
  exact x_vret h dM_interrupt_86
set_option maxHeartbeats 4000000 in
set_option maxRecDepth 100000 in
theorem m_M_interrupt {l : Launch} {D : va_G} {ad : Nat → Nat} {ca : Nat → ClassId} (N : Nat) (S : xSt) : xM l D clA (tysM ca) (cellsM ad ca) nW yM_interrupt (Cond.code yM_interrupt cM_interrupt 1 none :: wA) rm_M_interrupt false [.ref (ad 0)] S (f_M_interrupt N S) := by
  refine x_met (cc := cM_interrupt) (maxL := 1) (ret := none) (by decide) rfl [.ref (ad 0)] (lv0 := [(0, .ref (ad 0))]) (Nat.le_of_ble_eq_true rfl) rfl ?_
  intro p e s m args below meth c A h
  unfold f_M_interrupt
  refine x_aload_n (nx := 1) (i := 0) h dM_interrupt_0 rfl 0 rfl rfl ?_
  refine x_get (nx := 4) h (gM_0_1 ad ca _) (List.mem_cons_of_mem _ kM_13) dM_interrupt_1 rfl ?_
  refine x_bipush (nx := 6) (v := (25 : Int32)) h dM_interrupt_4 (by decide) rfl ?_
  refine x_iconst (nx := 7) (v := (0 : Int32)) h dM_interrupt_6 (by decide) rfl ?_
  refine x_iast (nx := 8) h (aM_2 ad ca) dM_interrupt_7 rfl (fun S1 => ?_)
  refine x_aload_n (nx := 9) (i := 0) h dM_interrupt_8 rfl 0 rfl rfl ?_
  refine x_get (nx := 12) h (gM_0_1 ad ca _) (List.mem_cons_of_mem _ kM_13) dM_interrupt_9 rfl ?_
  refine x_bipush (nx := 14) (v := (22 : Int32)) h dM_interrupt_12 (by decide) rfl ?_
  refine x_iconst (nx := 15) (v := (0 : Int32)) h dM_interrupt_14 (by decide) rfl ?_
  refine x_iast (nx := 16) h (aM_2 ad ca) dM_interrupt_15 rfl (fun S2 => ?_)
  refine x_aload_n (nx := 17) (i := 0) h dM_interrupt_16 rfl 0 rfl rfl ?_
  refine x_get (nx := 20) h (gM_0_1 ad ca _) (List.mem_cons_of_mem _ kM_13) dM_interrupt_17 rfl ?_
  refine x_bipush (nx := 22) (v := (23 : Int32)) h dM_interrupt_20 (by decide) rfl ?_
  refine x_iconst (nx := 23) (v := (0 : Int32)) h dM_interrupt_22 (by decide) rfl ?_
  refine x_iast (nx := 24) h (aM_2 ad ca) dM_interrupt_23 rfl (fun S3 => ?_)
  refine x_aload_n (nx := 25) (i := 0) h dM_interrupt_24 rfl 0 rfl rfl ?_
  refine x_cVv (nx := 28) (rest := []) (As := []) h (m_M_refresh N S3) (x_wV h goA y_M_refresh kM_45 ⟨by decide, by decide⟩ rfl rfl) (oM_0 ad ca) rfl rfl (Nat.le_of_ble_eq_true rfl) dM_interrupt_25 rfl (fun v4 S5 => ?_)
  refine x_aload_n (nx := 29) (i := 0) h dM_interrupt_28 rfl 0 rfl rfl ?_
  refine x_iconst (nx := 30) (v := (4 : Int32)) h dM_interrupt_29 (by decide) rfl ?_
  refine x_cVv (nx := 33) (rest := []) (As := [.int (4 : Int32)]) h (m_M_pass N (4 : Int32) S5) (x_wV h goA y_M_pass kM_33 ⟨by decide, by decide⟩ rfl rfl) (oM_0 ad ca) rfl rfl (Nat.le_of_ble_eq_true rfl) dM_interrupt_30 rfl (fun v6 S7 => ?_)
  refine x_aload_n (nx := 34) (i := 0) h dM_interrupt_33 rfl 0 rfl rfl ?_
  refine x_aload_n (nx := 35) (i := 0) h dM_interrupt_34 rfl 0 rfl rfl ?_
  refine x_get (nx := 38) h (gM_0_1 ad ca _) (List.mem_cons_of_mem _ kM_13) dM_interrupt_35 rfl ?_
  refine x_bipush (nx := 40) (v := (21 : Int32)) h dM_interrupt_38 (by decide) rfl ?_
  refine x_iald (nx := 41) h (aM_2 ad ca) dM_interrupt_40 rfl (fun v8 => ?_)
  refine x_cVv (nx := 44) (rest := []) (As := [.int v8]) h (m_M_push N v8 S7) (x_wV h goA y_M_push kM_161 ⟨by decide, by decide⟩ rfl rfl) (oM_0 ad ca) rfl rfl (Nat.le_of_ble_eq_true rfl) dM_interrupt_41 rfl (fun v9 S10 => ?_)
  refine x_aload_n (nx := 45) (i := 0) h dM_interrupt_44 rfl 0 rfl rfl ?_
  refine x_get (nx := 48) h (gM_0_1 ad ca _) (List.mem_cons_of_mem _ kM_13) dM_interrupt_45 rfl ?_
  refine x_bipush (nx := 50) (v := (21 : Int32)) h dM_interrupt_48 (by decide) rfl ?_
  refine x_aload_n (nx := 51) (i := 0) h dM_interrupt_50 rfl 0 rfl rfl ?_
  refine x_get (nx := 54) h (gM_0_1 ad ca _) (List.mem_cons_of_mem _ kM_13) dM_interrupt_51 rfl ?_
  refine x_bipush (nx := 56) (v := (24 : Int32)) h dM_interrupt_54 (by decide) rfl ?_
  refine x_iald (nx := 57) h (aM_2 ad ca) dM_interrupt_56 rfl (fun v11 => ?_)
  refine x_iconst (nx := 58) (v := (2 : Int32)) h dM_interrupt_57 (by decide) rfl ?_
  refine x_icmp_ne (nx := 61) (tgt := 83) h dM_interrupt_58 (by decide) rfl ?_ ?_
  · refine x_bipush (nx := 85) (v := (56 : Int32)) h dM_interrupt_83 (by decide) rfl ?_
    exact x_sub [] rfl (j_M_interrupt_85 h N (21 : Int32) (56 : Int32) S10)
  · refine x_aload_n (nx := 62) (i := 0) h dM_interrupt_61 rfl 0 rfl rfl ?_
    refine x_sipush (nx := 65) (v := (256 : Int32)) h dM_interrupt_62 (by decide) rfl ?_
    refine x_aload_n (nx := 66) (i := 0) h dM_interrupt_65 rfl 0 rfl rfl ?_
    refine x_get (nx := 69) h (gM_0_1 ad ca _) (List.mem_cons_of_mem _ kM_13) dM_interrupt_66 rfl ?_
    refine x_bipush (nx := 71) (v := (16 : Int32)) h dM_interrupt_69 (by decide) rfl ?_
    refine x_iald (nx := 72) h (aM_2 ad ca) dM_interrupt_71 rfl (fun v12 => ?_)
    refine x_imul (nx := 73) h dM_interrupt_72 rfl ?_
    refine x_sipush (nx := 76) (v := (255 : Int32)) h dM_interrupt_73 (by decide) rfl ?_
    refine x_iadd (nx := 77) h dM_interrupt_76 rfl ?_
    refine x_cVi (nx := 80) (rest := [.int (21 : Int32), .ref (ad 2)]) (As := [.int (((256 : Int32) * v12) + (255 : Int32))]) h (m_M_two N (((256 : Int32) * v12) + (255 : Int32)) S10) (x_wV h goA y_M_two kM_164 ⟨by decide, by decide⟩ rfl rfl) (oM_0 ad ca) rfl rfl (Nat.le_of_ble_eq_true rfl) dM_interrupt_77 rfl (fun v13 S14 => ?_)
    refine x_goto (tgt := 85) h dM_interrupt_80 (by decide) ?_
    exact x_sub [] rfl (j_M_interrupt_85 h N (21 : Int32) v13 S14)
