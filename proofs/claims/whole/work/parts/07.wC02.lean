set_option maxHeartbeats 4000000 in
set_option maxRecDepth 100000 in
theorem m_P_push {l : Launch} {D : va_G} {ad : Nat → Nat} {ca : Nat → ClassId} (N : Nat) (a1 : Int32) (S : xSt) : xM l D clA (tysC ca) (cellsC ad ca) nW yP_push (Cond.code yP_push cP_push 2 none :: wA) rm_P_push false [.ref (ad 2), .int a1] S (f_P_push N a1 S) := by
  refine x_met (cc := cP_push) (maxL := 2) (ret := none) (by decide) rfl [.ref (ad 2), .int a1] (lv0 := [(0, .ref (ad 2)), (1, .int a1)]) (Nat.le_of_ble_eq_true rfl) rfl ?_
  intro p e s m args below meth c A h
  unfold f_P_push
  refine x_aload_n (nx := 1) (i := 0) h dP_push_0 rfl 0 rfl rfl ?_
  refine x_get (nx := 4) h (gC_2_2 ad ca _) (List.mem_cons_of_mem _ kP_20) dP_push_1 rfl ?_
  refine x_bipush (nx := 6) (v := (20 : Int32)) h dP_push_4 (by decide) rfl ?_
  refine x_aload_n (nx := 7) (i := 0) h dP_push_6 rfl 0 rfl rfl ?_
  refine x_get (nx := 10) h (gC_2_2 ad ca _) (List.mem_cons_of_mem _ kP_20) dP_push_7 rfl ?_
  refine x_bipush (nx := 12) (v := (20 : Int32)) h dP_push_10 (by decide) rfl ?_
  refine x_iald (nx := 13) h (aC_10 ad ca) dP_push_12 rfl (fun v1 => ?_)
  refine x_iconst (nx := 14) (v := (1 : Int32)) h dP_push_13 (by decide) rfl ?_
  refine x_isub (nx := 15) h dP_push_14 rfl ?_
  refine x_ldc (nx := 17) (v := (65535 : Int32)) h (List.mem_cons_of_mem _ kP_118) dP_push_15 rfl ?_
  refine x_iand (nx := 18) h dP_push_17 rfl ?_
  refine x_iast (nx := 19) h (aC_10 ad ca) dP_push_18 rfl (fun S2 => ?_)
  refine x_aload_n (nx := 20) (i := 0) h dP_push_19 rfl 0 rfl rfl ?_
  refine x_get (nx := 23) h (gC_2_0 ad ca _) (List.mem_cons_of_mem _ kP_21) dP_push_20 rfl ?_
  refine x_aload_n (nx := 24) (i := 0) h dP_push_23 rfl 0 rfl rfl ?_
  refine x_get (nx := 27) h (gC_2_2 ad ca _) (List.mem_cons_of_mem _ kP_20) dP_push_24 rfl ?_
  refine x_bipush (nx := 29) (v := (20 : Int32)) h dP_push_27 (by decide) rfl ?_
  refine x_iald (nx := 30) h (aC_10 ad ca) dP_push_29 rfl (fun v3 => ?_)
  refine x_iload_n (nx := 31) (i := 1) h dP_push_30 rfl 1 rfl rfl ?_
  refine x_bipush (nx := 33) (v := (8 : Int32)) h dP_push_31 (by decide) rfl ?_
  refine x_ishr (nx := 34) h dP_push_33 rfl ?_
  refine x_cVv (nx := 37) (rest := []) (As := [.int v3, .int (a1 >>> ((8 : Int32) &&& 31))]) h (m_B_write N v3 (a1 >>> ((8 : Int32) &&& 31)) S2) (x_wV h goA y_B_write kP_122 ⟨by decide, by decide⟩ rfl rfl) (oC_1 ad ca) rfl rfl (Nat.le_of_ble_eq_true rfl) dP_push_34 rfl (fun v4 S5 => ?_)
  refine x_aload_n (nx := 38) (i := 0) h dP_push_37 rfl 0 rfl rfl ?_
  refine x_get (nx := 41) h (gC_2_2 ad ca _) (List.mem_cons_of_mem _ kP_20) dP_push_38 rfl ?_
  refine x_bipush (nx := 43) (v := (20 : Int32)) h dP_push_41 (by decide) rfl ?_
  refine x_aload_n (nx := 44) (i := 0) h dP_push_43 rfl 0 rfl rfl ?_
  refine x_get (nx := 47) h (gC_2_2 ad ca _) (List.mem_cons_of_mem _ kP_20) dP_push_44 rfl ?_
  refine x_bipush (nx := 49) (v := (20 : Int32)) h dP_push_47 (by decide) rfl ?_
  refine x_iald (nx := 50) h (aC_10 ad ca) dP_push_49 rfl (fun v6 => ?_)
  refine x_iconst (nx := 51) (v := (1 : Int32)) h dP_push_50 (by decide) rfl ?_
  refine x_isub (nx := 52) h dP_push_51 rfl ?_
  refine x_ldc (nx := 54) (v := (65535 : Int32)) h (List.mem_cons_of_mem _ kP_118) dP_push_52 rfl ?_
  refine x_iand (nx := 55) h dP_push_54 rfl ?_
  refine x_iast (nx := 56) h (aC_10 ad ca) dP_push_55 rfl (fun S7 => ?_)
  refine x_aload_n (nx := 57) (i := 0) h dP_push_56 rfl 0 rfl rfl ?_
  refine x_get (nx := 60) h (gC_2_0 ad ca _) (List.mem_cons_of_mem _ kP_21) dP_push_57 rfl ?_
  refine x_aload_n (nx := 61) (i := 0) h dP_push_60 rfl 0 rfl rfl ?_
  refine x_get (nx := 64) h (gC_2_2 ad ca _) (List.mem_cons_of_mem _ kP_20) dP_push_61 rfl ?_
  refine x_bipush (nx := 66) (v := (20 : Int32)) h dP_push_64 (by decide) rfl ?_
  refine x_iald (nx := 67) h (aC_10 ad ca) dP_push_66 rfl (fun v8 => ?_)
  refine x_iload_n (nx := 68) (i := 1) h dP_push_67 rfl 1 rfl rfl ?_
  refine x_cVv (nx := 71) (rest := []) (As := [.int v8, .int a1]) h (m_B_write N v8 a1 S7) (x_wV h goA y_B_write kP_122 ⟨by decide, by decide⟩ rfl rfl) (oC_1 ad ca) rfl rfl (Nat.le_of_ble_eq_true rfl) dP_push_68 rfl (fun v9 S10 => ?_)
  exact x_vret h dP_push_71
set_option maxHeartbeats 4000000 in
set_option maxRecDepth 100000 in
theorem m_B_read {l : Launch} {D : va_G} {ad : Nat → Nat} {ca : Nat → ClassId} (N : Nat) (a1 : Int32) (S : xSt) : xM l D clA (tysC ca) (cellsC ad ca) nW yB_read (Cond.code yB_read cB_read 2 (some .int) :: wA) rm_B_read true [.ref (ad 1), .int a1] S (f_B_read N a1 S) := by
  refine x_met (cc := cB_read) (maxL := 2) (ret := (some .int)) (by decide) rfl [.ref (ad 1), .int a1] (lv0 := [(0, .ref (ad 1)), (1, .int a1)]) (Nat.le_of_ble_eq_true rfl) rfl ?_
  intro p e s m args below meth c A h
  unfold f_B_read
  refine x_aload_n (nx := 1) (i := 0) h dB_read_0 rfl 0 rfl rfl ?_
  refine x_aload_n (nx := 2) (i := 0) h dB_read_1 rfl 0 rfl rfl ?_
  refine x_iload_n (nx := 3) (i := 1) h dB_read_2 rfl 1 rfl rfl ?_
  refine x_cSi (nx := 6) (rest := [.ref (ad 1), .ref (ad 1)]) (As := [.int a1]) h (m_B_isShared N a1 S) (x_wS h goA y_B_isShared kB_37 ⟨by decide, by decide⟩ rfl rfl) rfl rfl (Nat.le_of_ble_eq_true rfl) dB_read_3 rfl (fun v1 S2 => ?_)
  refine x_cVi (nx := 9) (rest := [.ref (ad 1)]) (As := [.int v1]) h (m_B_delay N v1 S2) (x_wV h goA y_B_delay kB_41 ⟨by decide, by decide⟩ rfl rfl) (oC_1 ad ca) rfl rfl (Nat.le_of_ble_eq_true rfl) dB_read_6 rfl (fun v3 S4 => ?_)
  refine x_iconst (nx := 10) (v := (3 : Int32)) h dB_read_9 (by decide) rfl ?_
  refine x_iadd (nx := 11) h dB_read_10 rfl ?_
  refine x_cVv (nx := 14) (rest := []) (As := [.int (v3 + (3 : Int32))]) h (m_B_pass N (v3 + (3 : Int32)) S4) (x_wV h goA y_B_pass kB_45 ⟨by decide, by decide⟩ rfl rfl) (oC_1 ad ca) rfl rfl (Nat.le_of_ble_eq_true rfl) dB_read_11 rfl (fun v5 S6 => ?_)
  refine x_aload_n (nx := 15) (i := 0) h dB_read_14 rfl 0 rfl rfl ?_
  refine x_iload_n (nx := 16) (i := 1) h dB_read_15 rfl 1 rfl rfl ?_
  refine x_cVi (nx := 19) (rest := []) (As := [.int a1]) h (m_B_byteAt N a1 S6) (x_wV h goA y_B_byteAt kB_49 ⟨by decide, by decide⟩ rfl rfl) (oC_1 ad ca) rfl rfl (Nat.le_of_ble_eq_true rfl) dB_read_16 rfl (fun v7 S8 => ?_)
  exact x_iret h dB_read_19
set_option maxHeartbeats 4000000 in
set_option maxRecDepth 100000 in
theorem m_P_readWord {l : Launch} {D : va_G} {ad : Nat → Nat} {ca : Nat → ClassId} (N : Nat) (a1 : Int32) (S : xSt) : xM l D clA (tysC ca) (cellsC ad ca) nW yP_readWord (Cond.code yP_readWord cP_readWord 3 (some .int) :: wA) rm_P_readWord true [.ref (ad 2), .int a1] S (f_P_readWord N a1 S) := by
  refine x_met (cc := cP_readWord) (maxL := 3) (ret := (some .int)) (by decide) rfl [.ref (ad 2), .int a1] (lv0 := [(0, .ref (ad 2)), (1, .int a1)]) (Nat.le_of_ble_eq_true rfl) rfl ?_
  intro p e s m args below meth c A h
  unfold f_P_readWord
  refine x_aload_n (nx := 1) (i := 0) h dP_readWord_0 rfl 0 rfl rfl ?_
  refine x_get (nx := 4) h (gC_2_0 ad ca _) (List.mem_cons_of_mem _ kP_21) dP_readWord_1 rfl ?_
  refine x_iload_n (nx := 5) (i := 1) h dP_readWord_4 rfl 1 rfl rfl ?_
  refine x_cVi (nx := 8) (rest := []) (As := [.int a1]) h (m_B_read N a1 S) (x_wV h goA y_B_read kP_119 ⟨by decide, by decide⟩ rfl rfl) (oC_1 ad ca) rfl rfl (Nat.le_of_ble_eq_true rfl) dP_readWord_5 rfl (fun v1 S2 => ?_)
  refine x_istore_n (nx := 9) (i := 2) (lv' := [(2, .int v1), (0, .ref (ad 2)), (1, .int a1)]) h dP_readWord_8 rfl (by decide) rfl rfl ?_
  refine x_iload_n (nx := 10) (i := 2) h dP_readWord_9 rfl 0 rfl rfl ?_
  refine x_aload_n (nx := 11) (i := 0) h dP_readWord_10 rfl 1 rfl rfl ?_
  refine x_get (nx := 14) h (gC_2_0 ad ca _) (List.mem_cons_of_mem _ kP_21) dP_readWord_11 rfl ?_
  refine x_iload_n (nx := 15) (i := 1) h dP_readWord_14 rfl 2 rfl rfl ?_
  refine x_iconst (nx := 16) (v := (1 : Int32)) h dP_readWord_15 (by decide) rfl ?_
  refine x_iadd (nx := 17) h dP_readWord_16 rfl ?_
  refine x_cVi (nx := 20) (rest := [.int v1]) (As := [.int (a1 + (1 : Int32))]) h (m_B_read N (a1 + (1 : Int32)) S2) (x_wV h goA y_B_read kP_119 ⟨by decide, by decide⟩ rfl rfl) (oC_1 ad ca) rfl rfl (Nat.le_of_ble_eq_true rfl) dP_readWord_17 rfl (fun v3 S4 => ?_)
  refine x_bipush (nx := 22) (v := (8 : Int32)) h dP_readWord_20 (by decide) rfl ?_
  refine x_ishl (nx := 23) h dP_readWord_22 rfl ?_
  refine x_ior (nx := 24) h dP_readWord_23 rfl ?_
  exact x_iret h dP_readWord_24
set_option maxHeartbeats 4000000 in
set_option maxRecDepth 100000 in
theorem j_P_takeInterrupt_87 {l : Launch} {D : va_G} {ad : Nat → Nat} {ca : Nat → ClassId} {p : Program} {e : Env} {s : State} {m : MethodId} {args : Array Value} {below : List Frame} {meth : Method} {c : Code} {A : Nat → Prop} (h : xC p s m args meth c cP_takeInterrupt 1 (Cond.code yP_takeInterrupt cP_takeInterrupt 1 none :: wA) nW yP_takeInterrupt.cls none D clA (tysC ca) A) (N : Nat) (w1 w2 : Int32) (S : xSt) : xJ p l e rm_P_takeInterrupt s m args below meth c D clA (tysC ca) (cellsC ad ca) A false 1 87 [] [.int w2, .int w1, .ref (ad 10)] S (f_P_takeInterrupt_87 N w1 w2 S) := by
  unfold f_P_takeInterrupt_87
  refine x_iast (nx := 88) h (aC_10 ad ca) dP_takeInterrupt_87 rfl (fun S1 => ?_)
  exact x_vret h dP_takeInterrupt_88
set_option maxHeartbeats 4000000 in
set_option maxRecDepth 100000 in
theorem m_P_takeInterrupt {l : Launch} {D : va_G} {ad : Nat → Nat} {ca : Nat → ClassId} (N : Nat) (S : xSt) : xM l D clA (tysC ca) (cellsC ad ca) nW yP_takeInterrupt (Cond.code yP_takeInterrupt cP_takeInterrupt 1 none :: wA) rm_P_takeInterrupt false [.ref (ad 2)] S (f_P_takeInterrupt N S) := by
  refine x_met (cc := cP_takeInterrupt) (maxL := 1) (ret := none) (by decide) rfl [.ref (ad 2)] (lv0 := [(0, .ref (ad 2))]) (Nat.le_of_ble_eq_true rfl) rfl ?_
  intro p e s m args below meth c A h
  unfold f_P_takeInterrupt
  refine x_aload_n (nx := 1) (i := 0) h dP_takeInterrupt_0 rfl 0 rfl rfl ?_
  refine x_get (nx := 4) h (gC_2_2 ad ca _) (List.mem_cons_of_mem _ kP_20) dP_takeInterrupt_1 rfl ?_
  refine x_bipush (nx := 6) (v := (25 : Int32)) h dP_takeInterrupt_4 (by decide) rfl ?_
  refine x_iconst (nx := 7) (v := (0 : Int32)) h dP_takeInterrupt_6 (by decide) rfl ?_
  refine x_iast (nx := 8) h (aC_10 ad ca) dP_takeInterrupt_7 rfl (fun S1 => ?_)
  refine x_aload_n (nx := 9) (i := 0) h dP_takeInterrupt_8 rfl 0 rfl rfl ?_
  refine x_get (nx := 12) h (gC_2_2 ad ca _) (List.mem_cons_of_mem _ kP_20) dP_takeInterrupt_9 rfl ?_
  refine x_bipush (nx := 14) (v := (22 : Int32)) h dP_takeInterrupt_12 (by decide) rfl ?_
  refine x_iconst (nx := 15) (v := (0 : Int32)) h dP_takeInterrupt_14 (by decide) rfl ?_
  refine x_iast (nx := 16) h (aC_10 ad ca) dP_takeInterrupt_15 rfl (fun S2 => ?_)
  refine x_aload_n (nx := 17) (i := 0) h dP_takeInterrupt_16 rfl 0 rfl rfl ?_
  refine x_get (nx := 20) h (gC_2_2 ad ca _) (List.mem_cons_of_mem _ kP_20) dP_takeInterrupt_17 rfl ?_
  refine x_bipush (nx := 22) (v := (23 : Int32)) h dP_takeInterrupt_20 (by decide) rfl ?_
  refine x_iconst (nx := 23) (v := (0 : Int32)) h dP_takeInterrupt_22 (by decide) rfl ?_
  refine x_iast (nx := 24) h (aC_10 ad ca) dP_takeInterrupt_23 rfl (fun S3 => ?_)
  refine x_aload_n (nx := 25) (i := 0) h dP_takeInterrupt_24 rfl 0 rfl rfl ?_
  refine x_cVv (nx := 28) (rest := []) (As := []) h (m_P_refresh N S3) (x_wV h goA y_P_refresh kP_46 ⟨by decide, by decide⟩ rfl rfl) (oC_2 ad ca) rfl rfl (Nat.le_of_ble_eq_true rfl) dP_takeInterrupt_25 rfl (fun v4 S5 => ?_)
  refine x_aload_n (nx := 29) (i := 0) h dP_takeInterrupt_28 rfl 0 rfl rfl ?_
  refine x_get (nx := 32) h (gC_2_0 ad ca _) (List.mem_cons_of_mem _ kP_21) dP_takeInterrupt_29 rfl ?_
  refine x_iconst (nx := 33) (v := (4 : Int32)) h dP_takeInterrupt_32 (by decide) rfl ?_
  refine x_cVv (nx := 36) (rest := []) (As := [.int (4 : Int32)]) h (m_B_pass N (4 : Int32) S5) (x_wV h goA y_B_pass kP_97 ⟨by decide, by decide⟩ rfl rfl) (oC_1 ad ca) rfl rfl (Nat.le_of_ble_eq_true rfl) dP_takeInterrupt_33 rfl (fun v6 S7 => ?_)
  refine x_aload_n (nx := 37) (i := 0) h dP_takeInterrupt_36 rfl 0 rfl rfl ?_
  refine x_aload_n (nx := 38) (i := 0) h dP_takeInterrupt_37 rfl 0 rfl rfl ?_
  refine x_get (nx := 41) h (gC_2_2 ad ca _) (List.mem_cons_of_mem _ kP_20) dP_takeInterrupt_38 rfl ?_
  refine x_bipush (nx := 43) (v := (21 : Int32)) h dP_takeInterrupt_41 (by decide) rfl ?_
  refine x_iald (nx := 44) h (aC_10 ad ca) dP_takeInterrupt_43 rfl (fun v8 => ?_)
  refine x_cVv (nx := 47) (rest := []) (As := [.int v8]) h (m_P_push N v8 S7) (x_wV h goA y_P_push kP_100 ⟨by decide, by decide⟩ rfl rfl) (oC_2 ad ca) rfl rfl (Nat.le_of_ble_eq_true rfl) dP_takeInterrupt_44 rfl (fun v9 S10 => ?_)
  refine x_aload_n (nx := 48) (i := 0) h dP_takeInterrupt_47 rfl 0 rfl rfl ?_
  refine x_get (nx := 51) h (gC_2_2 ad ca _) (List.mem_cons_of_mem _ kP_20) dP_takeInterrupt_48 rfl ?_
  refine x_bipush (nx := 53) (v := (21 : Int32)) h dP_takeInterrupt_51 (by decide) rfl ?_
  refine x_aload_n (nx := 54) (i := 0) h dP_takeInterrupt_53 rfl 0 rfl rfl ?_
  refine x_get (nx := 57) h (gC_2_2 ad ca _) (List.mem_cons_of_mem _ kP_20) dP_takeInterrupt_54 rfl ?_
  refine x_bipush (nx := 59) (v := (24 : Int32)) h dP_takeInterrupt_57 (by decide) rfl ?_
  refine x_iald (nx := 60) h (aC_10 ad ca) dP_takeInterrupt_59 rfl (fun v11 => ?_)
  refine x_iconst (nx := 61) (v := (2 : Int32)) h dP_takeInterrupt_60 (by decide) rfl ?_
  refine x_icmp_ne (nx := 64) (tgt := 85) h dP_takeInterrupt_61 (by decide) rfl ?_ ?_
  · refine x_bipush (nx := 87) (v := (56 : Int32)) h dP_takeInterrupt_85 (by decide) rfl ?_
    exact x_sub [] rfl (j_P_takeInterrupt_87 h N (21 : Int32) (56 : Int32) S10)
  · refine x_aload_n (nx := 65) (i := 0) h dP_takeInterrupt_64 rfl 0 rfl rfl ?_
    refine x_aload_n (nx := 66) (i := 0) h dP_takeInterrupt_65 rfl 0 rfl rfl ?_
    refine x_get (nx := 69) h (gC_2_2 ad ca _) (List.mem_cons_of_mem _ kP_20) dP_takeInterrupt_66 rfl ?_
    refine x_bipush (nx := 71) (v := (16 : Int32)) h dP_takeInterrupt_69 (by decide) rfl ?_
    refine x_iald (nx := 72) h (aC_10 ad ca) dP_takeInterrupt_71 rfl (fun v12 => ?_)
    refine x_bipush (nx := 74) (v := (8 : Int32)) h dP_takeInterrupt_72 (by decide) rfl ?_
    refine x_ishl (nx := 75) h dP_takeInterrupt_74 rfl ?_
    refine x_sipush (nx := 78) (v := (255 : Int32)) h dP_takeInterrupt_75 (by decide) rfl ?_
    refine x_ior (nx := 79) h dP_takeInterrupt_78 rfl ?_
    refine x_cVi (nx := 82) (rest := [.int (21 : Int32), .ref (ad 10)]) (As := [.int ((v12 <<< ((8 : Int32) &&& 31)) ||| (255 : Int32))]) h (m_P_readWord N ((v12 <<< ((8 : Int32) &&& 31)) ||| (255 : Int32)) S10) (x_wV h goA y_P_readWord kP_103 ⟨by decide, by decide⟩ rfl rfl) (oC_2 ad ca) rfl rfl (Nat.le_of_ble_eq_true rfl) dP_takeInterrupt_79 rfl (fun v13 S14 => ?_)
    refine x_goto (tgt := 87) h dP_takeInterrupt_82 (by decide) ?_
    exact x_sub [] rfl (j_P_takeInterrupt_87 h N (21 : Int32) v13 S14)
set_option maxHeartbeats 4000000 in
set_option maxRecDepth 100000 in
theorem m_B_fetchAt {l : Launch} {D : va_G} {ad : Nat → Nat} {ca : Nat → ClassId} (N : Nat) (a1 : Int32) (S : xSt) : xM l D clA (tysC ca) (cellsC ad ca) nW yB_fetchAt (Cond.code yB_fetchAt cB_fetchAt 2 (some .int) :: wA) rm_B_fetchAt true [.ref (ad 1), .int a1] S (f_B_fetchAt N a1 S) := by
  refine x_met (cc := cB_fetchAt) (maxL := 2) (ret := (some .int)) (by decide) rfl [.ref (ad 1), .int a1] (lv0 := [(0, .ref (ad 1)), (1, .int a1)]) (Nat.le_of_ble_eq_true rfl) rfl ?_
  intro p e s m args below meth c A h
  unfold f_B_fetchAt
  refine x_aload_n (nx := 1) (i := 0) h dB_fetchAt_0 rfl 0 rfl rfl ?_
  refine x_aload_n (nx := 2) (i := 0) h dB_fetchAt_1 rfl 0 rfl rfl ?_
  refine x_iload_n (nx := 3) (i := 1) h dB_fetchAt_2 rfl 1 rfl rfl ?_
  refine x_cSi (nx := 6) (rest := [.ref (ad 1), .ref (ad 1)]) (As := [.int a1]) h (m_B_isShared N a1 S) (x_wS h goA y_B_isShared kB_37 ⟨by decide, by decide⟩ rfl rfl) rfl rfl (Nat.le_of_ble_eq_true rfl) dB_fetchAt_3 rfl (fun v1 S2 => ?_)
  refine x_cVi (nx := 9) (rest := [.ref (ad 1)]) (As := [.int v1]) h (m_B_delay N v1 S2) (x_wV h goA y_B_delay kB_41 ⟨by decide, by decide⟩ rfl rfl) (oC_1 ad ca) rfl rfl (Nat.le_of_ble_eq_true rfl) dB_fetchAt_6 rfl (fun v3 S4 => ?_)
  refine x_iconst (nx := 10) (v := (4 : Int32)) h dB_fetchAt_9 (by decide) rfl ?_
  refine x_iadd (nx := 11) h dB_fetchAt_10 rfl ?_
  refine x_cVv (nx := 14) (rest := []) (As := [.int (v3 + (4 : Int32))]) h (m_B_pass N (v3 + (4 : Int32)) S4) (x_wV h goA y_B_pass kB_45 ⟨by decide, by decide⟩ rfl rfl) (oC_1 ad ca) rfl rfl (Nat.le_of_ble_eq_true rfl) dB_fetchAt_11 rfl (fun v5 S6 => ?_)
  refine x_aload_n (nx := 15) (i := 0) h dB_fetchAt_14 rfl 0 rfl rfl ?_
  refine x_iload_n (nx := 16) (i := 1) h dB_fetchAt_15 rfl 1 rfl rfl ?_
  refine x_cVi (nx := 19) (rest := []) (As := [.int a1]) h (m_B_byteAt N a1 S6) (x_wV h goA y_B_byteAt kB_49 ⟨by decide, by decide⟩ rfl rfl) (oC_1 ad ca) rfl rfl (Nat.le_of_ble_eq_true rfl) dB_fetchAt_16 rfl (fun v7 S8 => ?_)
  exact x_iret h dB_fetchAt_19
set_option maxHeartbeats 4000000 in
set_option maxRecDepth 100000 in
theorem m_P_movePc {l : Launch} {D : va_G} {ad : Nat → Nat} {ca : Nat → ClassId} (N : Nat) (a1 : Int32) (S : xSt) : xM l D clA (tysC ca) (cellsC ad ca) nW yP_movePc (Cond.code yP_movePc cP_movePc 2 none :: wA) rm_P_movePc false [.ref (ad 2), .int a1] S (f_P_movePc N a1 S) := by
  refine x_met (cc := cP_movePc) (maxL := 2) (ret := none) (by decide) rfl [.ref (ad 2), .int a1] (lv0 := [(0, .ref (ad 2)), (1, .int a1)]) (Nat.le_of_ble_eq_true rfl) rfl ?_
  intro p e s m args below meth c A h
  unfold f_P_movePc
  refine x_aload_n (nx := 1) (i := 0) h dP_movePc_0 rfl 0 rfl rfl ?_
  refine x_get (nx := 4) h (gC_2_2 ad ca _) (List.mem_cons_of_mem _ kP_20) dP_movePc_1 rfl ?_
  refine x_bipush (nx := 6) (v := (21 : Int32)) h dP_movePc_4 (by decide) rfl ?_
  refine x_aload_n (nx := 7) (i := 0) h dP_movePc_6 rfl 0 rfl rfl ?_
  refine x_get (nx := 10) h (gC_2_2 ad ca _) (List.mem_cons_of_mem _ kP_20) dP_movePc_7 rfl ?_
  refine x_bipush (nx := 12) (v := (21 : Int32)) h dP_movePc_10 (by decide) rfl ?_
  refine x_iald (nx := 13) h (aC_10 ad ca) dP_movePc_12 rfl (fun v1 => ?_)
  refine x_iload_n (nx := 14) (i := 1) h dP_movePc_13 rfl 1 rfl rfl ?_
  refine x_iadd (nx := 15) h dP_movePc_14 rfl ?_
  refine x_ldc (nx := 17) (v := (65535 : Int32)) h (List.mem_cons_of_mem _ kP_118) dP_movePc_15 rfl ?_
  refine x_iand (nx := 18) h dP_movePc_17 rfl ?_
  refine x_iast (nx := 19) h (aC_10 ad ca) dP_movePc_18 rfl (fun S2 => ?_)
  exact x_vret h dP_movePc_19
set_option maxHeartbeats 4000000 in
set_option maxRecDepth 100000 in
theorem m_P_fetch {l : Launch} {D : va_G} {ad : Nat → Nat} {ca : Nat → ClassId} (N : Nat) (S : xSt) : xM l D clA (tysC ca) (cellsC ad ca) nW yP_fetch (Cond.code yP_fetch cP_fetch 2 (some .int) :: wA) rm_P_fetch true [.ref (ad 2)] S (f_P_fetch N S) := by
  refine x_met (cc := cP_fetch) (maxL := 2) (ret := (some .int)) (by decide) rfl [.ref (ad 2)] (lv0 := [(0, .ref (ad 2))]) (Nat.le_of_ble_eq_true rfl) rfl ?_
  intro p e s m args below meth c A h
  unfold f_P_fetch
  refine x_aload_n (nx := 1) (i := 0) h dP_fetch_0 rfl 0 rfl rfl ?_
  refine x_get (nx := 4) h (gC_2_0 ad ca _) (List.mem_cons_of_mem _ kP_21) dP_fetch_1 rfl ?_
  refine x_aload_n (nx := 5) (i := 0) h dP_fetch_4 rfl 0 rfl rfl ?_
  refine x_get (nx := 8) h (gC_2_2 ad ca _) (List.mem_cons_of_mem _ kP_20) dP_fetch_5 rfl ?_
  refine x_bipush (nx := 10) (v := (21 : Int32)) h dP_fetch_8 (by decide) rfl ?_
  refine x_iald (nx := 11) h (aC_10 ad ca) dP_fetch_10 rfl (fun v1 => ?_)
  refine x_cVi (nx := 14) (rest := []) (As := [.int v1]) h (m_B_fetchAt N v1 S) (x_wV h goA y_B_fetchAt kP_42 ⟨by decide, by decide⟩ rfl rfl) (oC_1 ad ca) rfl rfl (Nat.le_of_ble_eq_true rfl) dP_fetch_11 rfl (fun v2 S3 => ?_)
  refine x_istore_n (nx := 15) (i := 1) (lv' := [(1, .int v2), (0, .ref (ad 2))]) h dP_fetch_14 rfl (by decide) rfl rfl ?_
  refine x_aload_n (nx := 16) (i := 0) h dP_fetch_15 rfl 1 rfl rfl ?_
  refine x_iconst (nx := 17) (v := (1 : Int32)) h dP_fetch_16 (by decide) rfl ?_
  refine x_cVv (nx := 20) (rest := []) (As := [.int (1 : Int32)]) h (m_P_movePc N (1 : Int32) S3) (x_wV h goA y_P_movePc kP_106 ⟨by decide, by decide⟩ rfl rfl) (oC_2 ad ca) rfl rfl (Nat.le_of_ble_eq_true rfl) dP_fetch_17 rfl (fun v4 S5 => ?_)
  refine x_aload_n (nx := 21) (i := 0) h dP_fetch_20 rfl 1 rfl rfl ?_
  refine x_cVv (nx := 24) (rest := []) (As := []) h (m_P_refresh N S5) (x_wV h goA y_P_refresh kP_46 ⟨by decide, by decide⟩ rfl rfl) (oC_2 ad ca) rfl rfl (Nat.le_of_ble_eq_true rfl) dP_fetch_21 rfl (fun v6 S7 => ?_)
  refine x_iload_n (nx := 25) (i := 1) h dP_fetch_24 rfl 0 rfl rfl ?_
  exact x_iret h dP_fetch_25
set_option maxHeartbeats 4000000 in
set_option maxRecDepth 100000 in
theorem j_P_isPrefix_19 {l : Launch} {D : va_G} {ad : Nat → Nat} {ca : Nat → ClassId} {p : Program} {e : Env} {s : State} {m : MethodId} {args : Array Value} {below : List Frame} {meth : Method} {c : Code} {A : Nat → Prop} (h : xC p s m args meth c cP_isPrefix 1 (Cond.code yP_isPrefix cP_isPrefix 1 (some .boolean) :: wA) nW yP_isPrefix.cls (some .boolean) D clA (tysC ca) A) (N : Nat) (w0 : Int32) (S : xSt) : xJ p l e rm_P_isPrefix s m args below meth c D clA (tysC ca) (cellsC ad ca) A true 1 19 [] [.int w0] S (f_P_isPrefix_19 N w0 S) := by
  unfold f_P_isPrefix_19
  exact x_zret h dP_isPrefix_19
set_option maxHeartbeats 4000000 in
set_option maxRecDepth 100000 in
theorem j_P_isPrefix_14 {l : Launch} {D : va_G} {ad : Nat → Nat} {ca : Nat → ClassId} {p : Program} {e : Env} {s : State} {m : MethodId} {args : Array Value} {below : List Frame} {meth : Method} {c : Code} {A : Nat → Prop} (h : xC p s m args meth c cP_isPrefix 1 (Cond.code yP_isPrefix cP_isPrefix 1 (some .boolean) :: wA) nW yP_isPrefix.cls (some .boolean) D clA (tysC ca) A) (N : Nat) (S : xSt) : xJ p l e rm_P_isPrefix s m args below meth c D clA (tysC ca) (cellsC ad ca) A true 1 14 [] [] S (f_P_isPrefix_14 N S) := by
  unfold f_P_isPrefix_14
  refine x_iconst (nx := 15) (v := (1 : Int32)) h dP_isPrefix_14 (by decide) rfl ?_
  refine x_goto (tgt := 19) h dP_isPrefix_15 (by decide) ?_
  exact x_sub [] rfl (j_P_isPrefix_19 h N (1 : Int32) S)
set_option maxHeartbeats 4000000 in
set_option maxRecDepth 100000 in
theorem m_P_isPrefix {l : Launch} {D : va_G} {ad : Nat → Nat} {ca : Nat → ClassId} (N : Nat) (a0 : Int32) (S : xSt) : xM l D clA (tysC ca) (cellsC ad ca) nW yP_isPrefix (Cond.code yP_isPrefix cP_isPrefix 1 (some .boolean) :: wA) rm_P_isPrefix true [.int a0] S (f_P_isPrefix N a0 S) := by
  refine x_met (cc := cP_isPrefix) (maxL := 1) (ret := (some .boolean)) (by decide) rfl [.int a0] (lv0 := [(0, .int a0)]) (Nat.le_of_ble_eq_true rfl) rfl ?_
  intro p e s m args below meth c A h
  unfold f_P_isPrefix
  refine x_iload_n (nx := 1) (i := 0) h dP_isPrefix_0 rfl 0 rfl rfl ?_
  refine x_sipush (nx := 4) (v := (221 : Int32)) h dP_isPrefix_1 (by decide) rfl ?_
  refine x_icmp_eq (nx := 7) (tgt := 14) h dP_isPrefix_4 (by decide) rfl ?_ ?_
  · exact x_sub [] rfl (j_P_isPrefix_14 h N S)
  · refine x_iload_n (nx := 8) (i := 0) h dP_isPrefix_7 rfl 0 rfl rfl ?_
    refine x_sipush (nx := 11) (v := (253 : Int32)) h dP_isPrefix_8 (by decide) rfl ?_
    refine x_icmp_ne (nx := 14) (tgt := 18) h dP_isPrefix_11 (by decide) rfl ?_ ?_
    · refine x_iconst (nx := 19) (v := (0 : Int32)) h dP_isPrefix_18 (by decide) rfl ?_
      exact x_sub [] rfl (j_P_isPrefix_19 h N (0 : Int32) S)
    · exact x_sub [] rfl (j_P_isPrefix_14 h N S)
set_option maxHeartbeats 4000000 in
set_option maxRecDepth 100000 in
theorem j_P_fetchBehindPrefixes_51 {l : Launch} {D : va_G} {ad : Nat → Nat} {ca : Nat → ClassId} {p : Program} {e : Env} {s : State} {m : MethodId} {args : Array Value} {below : List Frame} {meth : Method} {c : Code} {A : Nat → Prop} (h : xC p s m args meth c cP_fetchBehindPrefixes 3 (Cond.code yP_fetchBehindPrefixes cP_fetchBehindPrefixes 3 (some .int) :: wA) nW yP_fetchBehindPrefixes.cls (some .int) D clA (tysC ca) A) (N : Nat) (a1 : Int32) (S : xSt) : xJ p l e rm_P_fetchBehindPrefixes s m args below meth c D clA (tysC ca) (cellsC ad ca) A true 3 51 [(1, .int a1)] [] S (f_P_fetchBehindPrefixes_51 N a1 S) := by
  unfold f_P_fetchBehindPrefixes_51
  refine x_iload_n (nx := 52) (i := 1) h dP_fetchBehindPrefixes_51 rfl 0 rfl rfl ?_
  exact x_iret h dP_fetchBehindPrefixes_52
set_option maxHeartbeats 4000000 in
set_option maxRecDepth 100000 in
theorem j_P_fetchBehindPrefixes_37 {l : Launch} {D : va_G} {ad : Nat → Nat} {ca : Nat → ClassId} {p : Program} {e : Env} {s : State} {m : MethodId} {args : Array Value} {below : List Frame} {meth : Method} {c : Code} {A : Nat → Prop} (h : xC p s m args meth c cP_fetchBehindPrefixes 3 (Cond.code yP_fetchBehindPrefixes cP_fetchBehindPrefixes 3 (some .int) :: wA) nW yP_fetchBehindPrefixes.cls (some .int) D clA (tysC ca) A) (N : Nat) (k7 : Int32 → Int32 → xSt → xR) (hk7 : ∀ (a1 a2 : Int32) (S : xSt), xJ p l e rm_P_fetchBehindPrefixes s m args below meth c D clA (tysC ca) (cellsC ad ca) A true 3 7 [(0, .ref (ad 2)), (1, .int a1), (2, .int a2)] [] S (k7 a1 a2 S)) (a2 w1 : Int32) (S : xSt) : xJ p l e rm_P_fetchBehindPrefixes s m args below meth c D clA (tysC ca) (cellsC ad ca) A true 3 37 [(0, .ref (ad 2)), (2, .int a2)] [.int w1, .ref (ad 5)] S (f_P_fetchBehindPrefixes_37 N k7 a2 w1 S) := by
  unfold f_P_fetchBehindPrefixes_37
  refine x_putN (nx := 40) h (pC_5_1 ad ca _) kP_29 dP_fetchBehindPrefixes_37 rfl (fun S1 => ?_)
  refine x_aload_n (nx := 41) (i := 0) h dP_fetchBehindPrefixes_40 rfl 0 rfl rfl ?_
  refine x_cVi (nx := 44) (rest := []) (As := []) h (m_P_fetch N S1) (x_wV h goA y_P_fetch kP_65 ⟨by decide, by decide⟩ rfl rfl) (oC_2 ad ca) rfl rfl (Nat.le_of_ble_eq_true rfl) dP_fetchBehindPrefixes_41 rfl (fun v2 S3 => ?_)
  refine x_istore_n (nx := 45) (i := 1) (lv' := [(1, .int v2), (0, .ref (ad 2)), (2, .int a2)]) h dP_fetchBehindPrefixes_44 rfl (by decide) rfl rfl ?_
  refine x_iinc (nx := 48) (i := 2) (v := (a2 + (1 : Int32))) (lv' := [(2, .int (a2 + (1 : Int32))), (1, .int v2), (0, .ref (ad 2))]) h dP_fetchBehindPrefixes_45 2 rfl (by rw [show Int32.ofInt 1 = (1 : Int32) by decide]) (by decide) rfl rfl ?_
  refine x_goto (tgt := 7) h dP_fetchBehindPrefixes_48 (by decide) ?_
  exact x_sub [2, 1, 0] rfl (hk7 v2 (a2 + (1 : Int32)) S3)
set_option maxHeartbeats 4000000 in
set_option maxRecDepth 100000 in
theorem j_P_fetchBehindPrefixes_7 {l : Launch} {D : va_G} {ad : Nat → Nat} {ca : Nat → ClassId} {p : Program} {e : Env} {s : State} {m : MethodId} {args : Array Value} {below : List Frame} {meth : Method} {c : Code} {A : Nat → Prop} (h : xC p s m args meth c cP_fetchBehindPrefixes 3 (Cond.code yP_fetchBehindPrefixes cP_fetchBehindPrefixes 3 (some .int) :: wA) nW yP_fetchBehindPrefixes.cls (some .int) D clA (tysC ca) A) (N : Nat) : ∀ (n : Nat) (a1 a2 : Int32) (S : xSt), xJ p l e rm_P_fetchBehindPrefixes s m args below meth c D clA (tysC ca) (cellsC ad ca) A true 3 7 [(0, .ref (ad 2)), (1, .int a1), (2, .int a2)] [] S (f_P_fetchBehindPrefixes_7 N n a1 a2 S) := by
  intro n
  induction n with
  | zero =>
    intro a1 a2 S
    rw [f_P_fetchBehindPrefixes_7]
    exact x_none
  | succ n ih =>
    intro a1 a2 S
    rw [f_P_fetchBehindPrefixes_7]
    refine x_iload_n (nx := 8) (i := 2) h dP_fetchBehindPrefixes_7 rfl 2 rfl rfl ?_
    refine x_iconst (nx := 9) (v := (3 : Int32)) h dP_fetchBehindPrefixes_8 (by decide) rfl ?_
    refine x_icmp_ge (nx := 12) (tgt := 51) h dP_fetchBehindPrefixes_9 (by decide) rfl ?_ ?_
    · exact x_sub [1] rfl (j_P_fetchBehindPrefixes_51 h N a1 S)
    · refine x_iload_n (nx := 13) (i := 1) h dP_fetchBehindPrefixes_12 rfl 1 rfl rfl ?_
      refine x_cSi (nx := 16) (rest := []) (As := [.int a1]) h (m_P_isPrefix N a1 S) (x_wS h goA y_P_isPrefix kP_52 ⟨by decide, by decide⟩ rfl rfl) rfl rfl (Nat.le_of_ble_eq_true rfl) dP_fetchBehindPrefixes_13 rfl (fun v1 S2 => ?_)
      refine x_if_eq (nx := 19) (tgt := 51) h dP_fetchBehindPrefixes_16 (by decide) rfl ?_ ?_
      · exact x_sub [1] rfl (j_P_fetchBehindPrefixes_51 h N a1 S2)
      · refine x_aload_n (nx := 20) (i := 0) h dP_fetchBehindPrefixes_19 rfl 0 rfl rfl ?_
        refine x_get (nx := 23) h (gC_2_1 ad ca _) (List.mem_cons_of_mem _ kP_10) dP_fetchBehindPrefixes_20 rfl ?_
        refine x_iload_n (nx := 24) (i := 1) h dP_fetchBehindPrefixes_23 rfl 1 rfl rfl ?_
        refine x_sipush (nx := 27) (v := (221 : Int32)) h dP_fetchBehindPrefixes_24 (by decide) rfl ?_
        refine x_icmp_ne (nx := 30) (tgt := 35) h dP_fetchBehindPrefixes_27 (by decide) rfl ?_ ?_
        · refine x_bipush (nx := 37) (v := (19 : Int32)) h dP_fetchBehindPrefixes_35 (by decide) rfl ?_
          exact x_sub [0, 2] rfl (j_P_fetchBehindPrefixes_37 h N (f_P_fetchBehindPrefixes_7 N n) ih a2 (19 : Int32) S2)
        · refine x_bipush (nx := 32) (v := (18 : Int32)) h dP_fetchBehindPrefixes_30 (by decide) rfl ?_
          refine x_goto (tgt := 37) h dP_fetchBehindPrefixes_32 (by decide) ?_
          exact x_sub [0, 2] rfl (j_P_fetchBehindPrefixes_37 h N (f_P_fetchBehindPrefixes_7 N n) ih a2 (18 : Int32) S2)
set_option maxHeartbeats 4000000 in
set_option maxRecDepth 100000 in
theorem m_P_fetchBehindPrefixes {l : Launch} {D : va_G} {ad : Nat → Nat} {ca : Nat → ClassId} (N : Nat) (S : xSt) : xM l D clA (tysC ca) (cellsC ad ca) nW yP_fetchBehindPrefixes (Cond.code yP_fetchBehindPrefixes cP_fetchBehindPrefixes 3 (some .int) :: wA) rm_P_fetchBehindPrefixes true [.ref (ad 2)] S (f_P_fetchBehindPrefixes N S) := by
  refine x_met (cc := cP_fetchBehindPrefixes) (maxL := 3) (ret := (some .int)) (by decide) rfl [.ref (ad 2)] (lv0 := [(0, .ref (ad 2))]) (Nat.le_of_ble_eq_true rfl) rfl ?_
  intro p e s m args below meth c A h
  unfold f_P_fetchBehindPrefixes
  refine x_aload_n (nx := 1) (i := 0) h dP_fetchBehindPrefixes_0 rfl 0 rfl rfl ?_
  refine x_cVi (nx := 4) (rest := []) (As := []) h (m_P_fetch N S) (x_wV h goA y_P_fetch kP_65 ⟨by decide, by decide⟩ rfl rfl) (oC_2 ad ca) rfl rfl (Nat.le_of_ble_eq_true rfl) dP_fetchBehindPrefixes_1 rfl (fun v1 S2 => ?_)
  refine x_istore_n (nx := 5) (i := 1) (lv' := [(1, .int v1), (0, .ref (ad 2))]) h dP_fetchBehindPrefixes_4 rfl (by decide) rfl rfl ?_
  refine x_iconst (nx := 6) (v := (0 : Int32)) h dP_fetchBehindPrefixes_5 (by decide) rfl ?_
  refine x_istore_n (nx := 7) (i := 2) (lv' := [(2, .int (0 : Int32)), (1, .int v1), (0, .ref (ad 2))]) h dP_fetchBehindPrefixes_6 rfl (by decide) rfl rfl ?_
  exact x_sub [2, 1, 0] rfl (j_P_fetchBehindPrefixes_7 h N N v1 (0 : Int32) S2)
set_option maxHeartbeats 4000000 in
set_option maxRecDepth 100000 in
theorem j_P_hasM_102 {l : Launch} {D : va_G} {ad : Nat → Nat} {ca : Nat → ClassId} {p : Program} {e : Env} {s : State} {m : MethodId} {args : Array Value} {below : List Frame} {meth : Method} {c : Code} {A : Nat → Prop} (h : xC p s m args meth c cP_hasM 3 (Cond.code yP_hasM cP_hasM 3 (some .boolean) :: wA) nW yP_hasM.cls (some .boolean) D clA (tysC ca) A) (N : Nat) (w0 : Int32) (S : xSt) : xJ p l e rm_P_hasM s m args below meth c D clA (tysC ca) (cellsC ad ca) A true 3 102 [] [.int w0] S (f_P_hasM_102 N w0 S) := by
  unfold f_P_hasM_102
  exact x_zret h dP_hasM_102
set_option maxHeartbeats 4000000 in
set_option maxRecDepth 100000 in
theorem j_P_hasM_90 {l : Launch} {D : va_G} {ad : Nat → Nat} {ca : Nat → ClassId} {p : Program} {e : Env} {s : State} {m : MethodId} {args : Array Value} {below : List Frame} {meth : Method} {c : Code} {A : Nat → Prop} (h : xC p s m args meth c cP_hasM 3 (Cond.code yP_hasM cP_hasM 3 (some .boolean) :: wA) nW yP_hasM.cls (some .boolean) D clA (tysC ca) A) (N : Nat) (w0 : Int32) (S : xSt) : xJ p l e rm_P_hasM s m args below meth c D clA (tysC ca) (cellsC ad ca) A true 3 90 [] [.int w0] S (f_P_hasM_90 N w0 S) := by
  unfold f_P_hasM_90
  exact x_zret h dP_hasM_90
set_option maxHeartbeats 4000000 in
set_option maxRecDepth 100000 in
theorem j_P_hasM_89 {l : Launch} {D : va_G} {ad : Nat → Nat} {ca : Nat → ClassId} {p : Program} {e : Env} {s : State} {m : MethodId} {args : Array Value} {below : List Frame} {meth : Method} {c : Code} {A : Nat → Prop} (h : xC p s m args meth c cP_hasM 3 (Cond.code yP_hasM cP_hasM 3 (some .boolean) :: wA) nW yP_hasM.cls (some .boolean) D clA (tysC ca) A) (N : Nat) (S : xSt) : xJ p l e rm_P_hasM s m args below meth c D clA (tysC ca) (cellsC ad ca) A true 3 89 [] [] S (f_P_hasM_89 N S) := by
  unfold f_P_hasM_89
  refine x_iconst (nx := 90) (v := (0 : Int32)) h dP_hasM_89 (by decide) rfl ?_
  exact x_sub [] rfl (j_P_hasM_90 h N (0 : Int32) S)
set_option maxHeartbeats 4000000 in
set_option maxRecDepth 100000 in
theorem j_P_hasM_79 {l : Launch} {D : va_G} {ad : Nat → Nat} {ca : Nat → ClassId} {p : Program} {e : Env} {s : State} {m : MethodId} {args : Array Value} {below : List Frame} {meth : Method} {c : Code} {A : Nat → Prop} (h : xC p s m args meth c cP_hasM 3 (Cond.code yP_hasM cP_hasM 3 (some .boolean) :: wA) nW yP_hasM.cls (some .boolean) D clA (tysC ca) A) (N : Nat) (a0 : Int32) (S : xSt) : xJ p l e rm_P_hasM s m args below meth c D clA (tysC ca) (cellsC ad ca) A true 3 79 [(0, .int a0)] [] S (f_P_hasM_79 N a0 S) := by
  unfold f_P_hasM_79
  refine x_iload_n (nx := 80) (i := 0) h dP_hasM_79 rfl 0 rfl rfl ?_
  refine x_bipush (nx := 82) (v := (118 : Int32)) h dP_hasM_80 (by decide) rfl ?_
  refine x_icmp_eq (nx := 85) (tgt := 89) h dP_hasM_82 (by decide) rfl ?_ ?_
  · exact x_sub [] rfl (j_P_hasM_89 h N S)
  · refine x_iconst (nx := 86) (v := (1 : Int32)) h dP_hasM_85 (by decide) rfl ?_
    refine x_goto (tgt := 90) h dP_hasM_86 (by decide) ?_
    exact x_sub [] rfl (j_P_hasM_90 h N (1 : Int32) S)
set_option maxHeartbeats 4000000 in
set_option maxRecDepth 100000 in
theorem j_P_hasM_66 {l : Launch} {D : va_G} {ad : Nat → Nat} {ca : Nat → ClassId} {p : Program} {e : Env} {s : State} {m : MethodId} {args : Array Value} {below : List Frame} {meth : Method} {c : Code} {A : Nat → Prop} (h : xC p s m args meth c cP_hasM 3 (Cond.code yP_hasM cP_hasM 3 (some .boolean) :: wA) nW yP_hasM.cls (some .boolean) D clA (tysC ca) A) (N : Nat) (w0 : Int32) (S : xSt) : xJ p l e rm_P_hasM s m args below meth c D clA (tysC ca) (cellsC ad ca) A true 3 66 [] [.int w0] S (f_P_hasM_66 N w0 S) := by
  unfold f_P_hasM_66
  exact x_zret h dP_hasM_66
set_option maxHeartbeats 4000000 in
set_option maxRecDepth 100000 in
theorem j_P_hasM_65 {l : Launch} {D : va_G} {ad : Nat → Nat} {ca : Nat → ClassId} {p : Program} {e : Env} {s : State} {m : MethodId} {args : Array Value} {below : List Frame} {meth : Method} {c : Code} {A : Nat → Prop} (h : xC p s m args meth c cP_hasM 3 (Cond.code yP_hasM cP_hasM 3 (some .boolean) :: wA) nW yP_hasM.cls (some .boolean) D clA (tysC ca) A) (N : Nat) (S : xSt) : xJ p l e rm_P_hasM s m args below meth c D clA (tysC ca) (cellsC ad ca) A true 3 65 [] [] S (f_P_hasM_65 N S) := by
  unfold f_P_hasM_65
  refine x_iconst (nx := 66) (v := (0 : Int32)) h dP_hasM_65 (by decide) rfl ?_
  exact x_sub [] rfl (j_P_hasM_66 h N (0 : Int32) S)
set_option maxHeartbeats 4000000 in
set_option maxRecDepth 100000 in
theorem m_P_hasM {l : Launch} {D : va_G} {ad : Nat → Nat} {ca : Nat → ClassId} (N : Nat) (a0 : Int32) (S : xSt) : xM l D clA (tysC ca) (cellsC ad ca) nW yP_hasM (Cond.code yP_hasM cP_hasM 3 (some .boolean) :: wA) rm_P_hasM true [.int a0] S (f_P_hasM N a0 S) := by
  refine x_met (cc := cP_hasM) (maxL := 3) (ret := (some .boolean)) (by decide) rfl [.int a0] (lv0 := [(0, .int a0)]) (Nat.le_of_ble_eq_true rfl) rfl ?_
  intro p e s m args below meth c A h
  unfold f_P_hasM
  refine x_iload_n (nx := 1) (i := 0) h dP_hasM_0 rfl 0 rfl rfl ?_
  refine x_iconst (nx := 2) (v := (3 : Int32)) h dP_hasM_1 (by decide) rfl ?_
  refine x_ishr (nx := 3) h dP_hasM_2 rfl ?_
  refine x_bipush (nx := 5) (v := (7 : Int32)) h dP_hasM_3 (by decide) rfl ?_
  refine x_iand (nx := 6) h dP_hasM_5 rfl ?_
  refine x_val (fun b1 => ?_)
  refine x_istore_n (nx := 7) (i := 1) (lv' := [(1, .int b1), (0, .int a0)]) h dP_hasM_6 rfl (by decide) rfl rfl ?_
  refine x_iload_n (nx := 8) (i := 0) h dP_hasM_7 rfl 1 rfl rfl ?_
  refine x_bipush (nx := 10) (v := (7 : Int32)) h dP_hasM_8 (by decide) rfl ?_
  refine x_iand (nx := 11) h dP_hasM_10 rfl ?_
  refine x_val (fun b2 => ?_)
  refine x_istore_n (nx := 12) (i := 2) (lv' := [(2, .int b2), (1, .int b1), (0, .int a0)]) h dP_hasM_11 rfl (by decide) rfl rfl ?_
  refine x_iload_n (nx := 13) (i := 0) h dP_hasM_12 rfl 2 rfl rfl ?_
  refine x_bipush (nx := 15) (v := (6 : Int32)) h dP_hasM_13 (by decide) rfl ?_
  refine x_ishr (nx := 16) h dP_hasM_15 rfl ?_
  refine x_ite (fun hq3 => ?_) (fun hq3 => ?_)
  · refine x_set hq3 ?_
    refine x_tabIn (off := 28) (tgt := 44) h dP_hasM_16 (by decide +kernel) (by decide +kernel) (by decide +kernel) (by decide) ?_
    refine x_iload_n (nx := 45) (i := 1) h dP_hasM_44 rfl 1 rfl rfl ?_
    refine x_bipush (nx := 47) (v := (6 : Int32)) h dP_hasM_45 (by decide) rfl ?_
    refine x_icmp_ne (nx := 50) (tgt := 65) h dP_hasM_47 (by decide) rfl ?_ ?_
    · exact x_sub [] rfl (j_P_hasM_65 h N S)
    · refine x_iload_n (nx := 51) (i := 2) h dP_hasM_50 rfl 0 rfl rfl ?_
      refine x_iconst (nx := 52) (v := (4 : Int32)) h dP_hasM_51 (by decide) rfl ?_
      refine x_icmp_lt (nx := 55) (tgt := 65) h dP_hasM_52 (by decide) rfl ?_ ?_
      · exact x_sub [] rfl (j_P_hasM_65 h N S)
      · refine x_iload_n (nx := 56) (i := 2) h dP_hasM_55 rfl 0 rfl rfl ?_
        refine x_bipush (nx := 58) (v := (6 : Int32)) h dP_hasM_56 (by decide) rfl ?_
        refine x_icmp_gt (nx := 61) (tgt := 65) h dP_hasM_58 (by decide) rfl ?_ ?_
        · exact x_sub [] rfl (j_P_hasM_65 h N S)
        · refine x_iconst (nx := 62) (v := (1 : Int32)) h dP_hasM_61 (by decide) rfl ?_
          refine x_goto (tgt := 66) h dP_hasM_62 (by decide) ?_
          exact x_sub [] rfl (j_P_hasM_66 h N (1 : Int32) S)
  refine x_ite (fun hq4 => ?_) (fun hq4 => ?_)
  · refine x_set hq4 ?_
    refine x_tabIn (off := 51) (tgt := 67) h dP_hasM_16 (by decide +kernel) (by decide +kernel) (by decide +kernel) (by decide) ?_
    refine x_iload_n (nx := 68) (i := 1) h dP_hasM_67 rfl 1 rfl rfl ?_
    refine x_bipush (nx := 70) (v := (6 : Int32)) h dP_hasM_68 (by decide) rfl ?_
    refine x_icmp_eq (nx := 73) (tgt := 79) h dP_hasM_70 (by decide) rfl ?_ ?_
    · exact x_sub [2] rfl (j_P_hasM_79 h N a0 S)
    · refine x_iload_n (nx := 74) (i := 2) h dP_hasM_73 rfl 0 rfl rfl ?_
      refine x_bipush (nx := 76) (v := (6 : Int32)) h dP_hasM_74 (by decide) rfl ?_
      refine x_icmp_ne (nx := 79) (tgt := 89) h dP_hasM_76 (by decide) rfl ?_ ?_
      · exact x_sub [] rfl (j_P_hasM_89 h N S)
      · exact x_sub [2] rfl (j_P_hasM_79 h N a0 S)
  refine x_ite (fun hq5 => ?_) (fun hq5 => ?_)
  · refine x_set hq5 ?_
    refine x_tabIn (off := 75) (tgt := 91) h dP_hasM_16 (by decide +kernel) (by decide +kernel) (by decide +kernel) (by decide) ?_
    refine x_iload_n (nx := 92) (i := 2) h dP_hasM_91 rfl 0 rfl rfl ?_
    refine x_bipush (nx := 94) (v := (6 : Int32)) h dP_hasM_92 (by decide) rfl ?_
    refine x_icmp_ne (nx := 97) (tgt := 101) h dP_hasM_94 (by decide) rfl ?_ ?_
    · refine x_iconst (nx := 102) (v := (0 : Int32)) h dP_hasM_101 (by decide) rfl ?_
      exact x_sub [] rfl (j_P_hasM_102 h N (0 : Int32) S)
    · refine x_iconst (nx := 98) (v := (1 : Int32)) h dP_hasM_97 (by decide) rfl ?_
      refine x_goto (tgt := 102) h dP_hasM_98 (by decide) ?_
      exact x_sub [] rfl (j_P_hasM_102 h N (1 : Int32) S)
  refine x_tabOut (tgt := 103) h dP_hasM_16 (by have z0 := lv_neT (a := 0) hq3 (by decide +kernel); have z1 := lv_neT (a := 1) hq4 (by decide +kernel); have z2 := lv_neT (a := 2) hq5 (by decide +kernel); omega) (by decide) ?_
  refine x_iconst (nx := 104) (v := (0 : Int32)) h dP_hasM_103 (by decide) rfl ?_
  exact x_zret h dP_hasM_104
set_option maxHeartbeats 4000000 in
set_option maxRecDepth 100000 in
theorem m_G_joined {l : Launch} {D : va_G} {ad : Nat → Nat} {ca : Nat → ClassId} (N : Nat) (a1 : Int32) (S : xSt) : xM l D clA (tysC ca) (cellsC ad ca) nW yG_joined (Cond.code yG_joined cG_joined 2 (some .int) :: wA) rm_G_joined true [.ref (ad 5), .int a1] S (f_G_joined N a1 S) := by
  refine x_met (cc := cG_joined) (maxL := 2) (ret := (some .int)) (by decide) rfl [.ref (ad 5), .int a1] (lv0 := [(0, .ref (ad 5)), (1, .int a1)]) (Nat.le_of_ble_eq_true rfl) rfl ?_
  intro p e s m args below meth c A h
  unfold f_G_joined
  refine x_aload_n (nx := 1) (i := 0) h dG_joined_0 rfl 0 rfl rfl ?_
  refine x_get (nx := 4) h (gC_5_0 ad ca _) (List.mem_cons_of_mem _ kG_9) dG_joined_1 rfl ?_
  refine x_iload_n (nx := 5) (i := 1) h dG_joined_4 rfl 1 rfl rfl ?_
  refine x_iald (nx := 6) h (aC_10 ad ca) dG_joined_5 rfl (fun v1 => ?_)
  refine x_bipush (nx := 8) (v := (8 : Int32)) h dG_joined_6 (by decide) rfl ?_
  refine x_ishl (nx := 9) h dG_joined_8 rfl ?_
  refine x_aload_n (nx := 10) (i := 0) h dG_joined_9 rfl 0 rfl rfl ?_
  refine x_get (nx := 13) h (gC_5_0 ad ca _) (List.mem_cons_of_mem _ kG_9) dG_joined_10 rfl ?_
  refine x_iload_n (nx := 14) (i := 1) h dG_joined_13 rfl 1 rfl rfl ?_
  refine x_iconst (nx := 15) (v := (1 : Int32)) h dG_joined_14 (by decide) rfl ?_
  refine x_iadd (nx := 16) h dG_joined_15 rfl ?_
  refine x_iald (nx := 17) h (aC_10 ad ca) dG_joined_16 rfl (fun v2 => ?_)
  refine x_ior (nx := 18) h dG_joined_17 rfl ?_
  exact x_iret h dG_joined_18
set_option maxHeartbeats 4000000 in
set_option maxRecDepth 100000 in
theorem j_G_hl_27 {l : Launch} {D : va_G} {ad : Nat → Nat} {ca : Nat → ClassId} {p : Program} {e : Env} {s : State} {m : MethodId} {args : Array Value} {below : List Frame} {meth : Method} {c : Code} {A : Nat → Prop} (h : xC p s m args meth c cG_hl 1 (Cond.code yG_hl cG_hl 1 (some .int) :: wA) nW yG_hl.cls (some .int) D clA (tysC ca) A) (N : Nat) (w0 : Int32) (S : xSt) : xJ p l e rm_G_hl s m args below meth c D clA (tysC ca) (cellsC ad ca) A true 1 27 [] [.int w0] S (f_G_hl_27 N w0 S) := by
  unfold f_G_hl_27
  exact x_iret h dG_hl_27
set_option maxHeartbeats 4000000 in
set_option maxRecDepth 100000 in
theorem m_G_hl {l : Launch} {D : va_G} {ad : Nat → Nat} {ca : Nat → ClassId} (N : Nat) (S : xSt) : xM l D clA (tysC ca) (cellsC ad ca) nW yG_hl (Cond.code yG_hl cG_hl 1 (some .int) :: wA) rm_G_hl true [.ref (ad 5)] S (f_G_hl N S) := by
  refine x_met (cc := cG_hl) (maxL := 1) (ret := (some .int)) (by decide) rfl [.ref (ad 5)] (lv0 := [(0, .ref (ad 5))]) (Nat.le_of_ble_eq_true rfl) rfl ?_
  intro p e s m args below meth c A h
  unfold f_G_hl
  refine x_aload_n (nx := 1) (i := 0) h dG_hl_0 rfl 0 rfl rfl ?_
  refine x_get (nx := 4) h (gC_5_1 ad ca _) (List.mem_cons_of_mem _ kG_13) dG_hl_1 rfl ?_
  refine x_bipush (nx := 6) (v := (6 : Int32)) h dG_hl_4 (by decide) rfl ?_
  refine x_icmp_ne (nx := 9) (tgt := 18) h dG_hl_6 (by decide) rfl ?_ ?_
  · refine x_aload_n (nx := 19) (i := 0) h dG_hl_18 rfl 0 rfl rfl ?_
    refine x_get (nx := 22) h (gC_5_0 ad ca _) (List.mem_cons_of_mem _ kG_9) dG_hl_19 rfl ?_
    refine x_aload_n (nx := 23) (i := 0) h dG_hl_22 rfl 0 rfl rfl ?_
    refine x_get (nx := 26) h (gC_5_1 ad ca _) (List.mem_cons_of_mem _ kG_13) dG_hl_23 rfl ?_
    refine x_iald (nx := 27) h (aC_10 ad ca) dG_hl_26 rfl (fun v1 => ?_)
    exact x_sub [] rfl (j_G_hl_27 h N v1 S)
  · refine x_aload_n (nx := 10) (i := 0) h dG_hl_9 rfl 0 rfl rfl ?_
    refine x_bipush (nx := 12) (v := (6 : Int32)) h dG_hl_10 (by decide) rfl ?_
    refine x_cVi (nx := 15) (rest := []) (As := [.int (6 : Int32)]) h (m_G_joined N (6 : Int32) S) (x_wV h goA y_G_joined kG_22 ⟨by decide, by decide⟩ rfl rfl) (oC_5 ad ca) rfl rfl (Nat.le_of_ble_eq_true rfl) dG_hl_12 rfl (fun v2 S3 => ?_)
    refine x_goto (tgt := 27) h dG_hl_15 (by decide) ?_
    exact x_sub [] rfl (j_G_hl_27 h N v2 S3)
set_option maxHeartbeats 4000000 in
set_option maxRecDepth 100000 in
theorem m_P_nextByte {l : Launch} {D : va_G} {ad : Nat → Nat} {ca : Nat → ClassId} (N : Nat) (S : xSt) : xM l D clA (tysC ca) (cellsC ad ca) nW yP_nextByte (Cond.code yP_nextByte cP_nextByte 2 (some .int) :: wA) rm_P_nextByte true [.ref (ad 2)] S (f_P_nextByte N S) := by
  refine x_met (cc := cP_nextByte) (maxL := 2) (ret := (some .int)) (by decide) rfl [.ref (ad 2)] (lv0 := [(0, .ref (ad 2))]) (Nat.le_of_ble_eq_true rfl) rfl ?_
  intro p e s m args below meth c A h
  unfold f_P_nextByte
  refine x_aload_n (nx := 1) (i := 0) h dP_nextByte_0 rfl 0 rfl rfl ?_
  refine x_get (nx := 4) h (gC_2_0 ad ca _) (List.mem_cons_of_mem _ kP_21) dP_nextByte_1 rfl ?_
  refine x_aload_n (nx := 5) (i := 0) h dP_nextByte_4 rfl 0 rfl rfl ?_
  refine x_get (nx := 8) h (gC_2_2 ad ca _) (List.mem_cons_of_mem _ kP_20) dP_nextByte_5 rfl ?_
  refine x_bipush (nx := 10) (v := (21 : Int32)) h dP_nextByte_8 (by decide) rfl ?_
  refine x_iald (nx := 11) h (aC_10 ad ca) dP_nextByte_10 rfl (fun v1 => ?_)
  refine x_cVi (nx := 14) (rest := []) (As := [.int v1]) h (m_B_read N v1 S) (x_wV h goA y_B_read kP_119 ⟨by decide, by decide⟩ rfl rfl) (oC_1 ad ca) rfl rfl (Nat.le_of_ble_eq_true rfl) dP_nextByte_11 rfl (fun v2 S3 => ?_)
  refine x_istore_n (nx := 15) (i := 1) (lv' := [(1, .int v2), (0, .ref (ad 2))]) h dP_nextByte_14 rfl (by decide) rfl rfl ?_
  refine x_aload_n (nx := 16) (i := 0) h dP_nextByte_15 rfl 1 rfl rfl ?_
  refine x_iconst (nx := 17) (v := (1 : Int32)) h dP_nextByte_16 (by decide) rfl ?_
  refine x_cVv (nx := 20) (rest := []) (As := [.int (1 : Int32)]) h (m_P_movePc N (1 : Int32) S3) (x_wV h goA y_P_movePc kP_106 ⟨by decide, by decide⟩ rfl rfl) (oC_2 ad ca) rfl rfl (Nat.le_of_ble_eq_true rfl) dP_nextByte_17 rfl (fun v4 S5 => ?_)
  refine x_iload_n (nx := 21) (i := 1) h dP_nextByte_20 rfl 0 rfl rfl ?_
  exact x_iret h dP_nextByte_21
set_option maxHeartbeats 4000000 in
set_option maxRecDepth 100000 in
theorem j_P_findM_49 {l : Launch} {D : va_G} {ad : Nat → Nat} {ca : Nat → ClassId} {p : Program} {e : Env} {s : State} {m : MethodId} {args : Array Value} {below : List Frame} {meth : Method} {c : Code} {A : Nat → Prop} (h : xC p s m args meth c cP_findM 1 (Cond.code yP_findM cP_findM 1 none :: wA) nW yP_findM.cls none D clA (tysC ca) A) (N : Nat) (S : xSt) : xJ p l e rm_P_findM s m args below meth c D clA (tysC ca) (cellsC ad ca) A false 1 49 [] [] S (f_P_findM_49 N S) := by
  unfold f_P_findM_49
  exact x_vret h dP_findM_49
set_option maxHeartbeats 4000000 in
set_option maxRecDepth 100000 in
theorem m_P_findM {l : Launch} {D : va_G} {ad : Nat → Nat} {ca : Nat → ClassId} (N : Nat) (S : xSt) : xM l D clA (tysC ca) (cellsC ad ca) nW yP_findM (Cond.code yP_findM cP_findM 1 none :: wA) rm_P_findM false [.ref (ad 2)] S (f_P_findM N S) := by
  refine x_met (cc := cP_findM) (maxL := 1) (ret := none) (by decide) rfl [.ref (ad 2)] (lv0 := [(0, .ref (ad 2))]) (Nat.le_of_ble_eq_true rfl) rfl ?_
  intro p e s m args below meth c A h
  unfold f_P_findM
  refine x_aload_n (nx := 1) (i := 0) h dP_findM_0 rfl 0 rfl rfl ?_
  refine x_aload_n (nx := 2) (i := 0) h dP_findM_1 rfl 0 rfl rfl ?_
  refine x_get (nx := 5) h (gC_2_1 ad ca _) (List.mem_cons_of_mem _ kP_10) dP_findM_2 rfl ?_
  refine x_cVi (nx := 8) (rest := [.ref (ad 2)]) (As := []) h (m_G_hl N S) (x_wV h goA y_G_hl kP_109 ⟨by decide, by decide⟩ rfl rfl) (oC_5 ad ca) rfl rfl (Nat.le_of_ble_eq_true rfl) dP_findM_5 rfl (fun v1 S2 => ?_)
  refine x_put (nx := 11) h (pC_2_3 ad ca _) (List.mem_cons_of_mem _ kP_112) dP_findM_8 rfl (fun S3 => ?_)
  refine x_aload_n (nx := 12) (i := 0) h dP_findM_11 rfl 0 rfl rfl ?_
  refine x_get (nx := 15) h (gC_2_1 ad ca _) (List.mem_cons_of_mem _ kP_10) dP_findM_12 rfl ?_
  refine x_getN (nx := 18) h (gC_5_1 ad ca _) kP_29 dP_findM_15 rfl ?_
  refine x_bipush (nx := 20) (v := (6 : Int32)) h dP_findM_18 (by decide) rfl ?_
  refine x_icmp_eq (nx := 23) (tgt := 49) h dP_findM_20 (by decide) rfl ?_ ?_
  · exact x_sub [] rfl (j_P_findM_49 h N S3)
  · refine x_aload_n (nx := 24) (i := 0) h dP_findM_23 rfl 0 rfl rfl ?_
    refine x_aload_n (nx := 25) (i := 0) h dP_findM_24 rfl 0 rfl rfl ?_
    refine x_get (nx := 28) h (gC_2_3 ad ca _) (List.mem_cons_of_mem _ kP_112) dP_findM_25 rfl ?_
    refine x_aload_n (nx := 29) (i := 0) h dP_findM_28 rfl 0 rfl rfl ?_
    refine x_cVi (nx := 32) (rest := [.int (S3 2 3), .ref (ad 2)]) (As := []) h (m_P_nextByte N S3) (x_wV h goA y_P_nextByte kP_115 ⟨by decide, by decide⟩ rfl rfl) (oC_2 ad ca) rfl rfl (Nat.le_of_ble_eq_true rfl) dP_findM_29 rfl (fun v4 S5 => ?_)
    refine x_i2b (nx := 33) h dP_findM_32 rfl ?_
    refine x_iadd (nx := 34) h dP_findM_33 rfl ?_
    refine x_ldc (nx := 36) (v := (65535 : Int32)) h (List.mem_cons_of_mem _ kP_118) dP_findM_34 rfl ?_
    refine x_iand (nx := 37) h dP_findM_36 rfl ?_
    refine x_put (nx := 40) h (pC_2_3 ad ca _) (List.mem_cons_of_mem _ kP_112) dP_findM_37 rfl (fun S6 => ?_)
    refine x_aload_n (nx := 41) (i := 0) h dP_findM_40 rfl 0 rfl rfl ?_
    refine x_get (nx := 44) h (gC_2_1 ad ca _) (List.mem_cons_of_mem _ kP_10) dP_findM_41 rfl ?_
    refine x_bipush (nx := 46) (v := (6 : Int32)) h dP_findM_44 (by decide) rfl ?_
    refine x_putN (nx := 49) h (pC_5_1 ad ca _) kP_29 dP_findM_46 rfl (fun S7 => ?_)
    exact x_sub [] rfl (j_P_findM_49 h N S7)
set_option maxHeartbeats 4000000 in
set_option maxRecDepth 100000 in
theorem j_G_single_27 {l : Launch} {D : va_G} {ad : Nat → Nat} {ca : Nat → ClassId} {p : Program} {e : Env} {s : State} {m : MethodId} {args : Array Value} {below : List Frame} {meth : Method} {c : Code} {A : Nat → Prop} (h : xC p s m args meth c cG_single 2 (Cond.code yG_single cG_single 2 (some .int) :: wA) nW yG_single.cls (some .int) D clA (tysC ca) A) (N : Nat) (a1 : Int32) (S : xSt) : xJ p l e rm_G_single s m args below meth c D clA (tysC ca) (cellsC ad ca) A true 2 27 [(0, .ref (ad 5)), (1, .int a1)] [] S (f_G_single_27 N a1 S) := by
  unfold f_G_single_27
  refine x_aload_n (nx := 28) (i := 0) h dG_single_27 rfl 0 rfl rfl ?_
  refine x_get (nx := 31) h (gC_5_0 ad ca _) (List.mem_cons_of_mem _ kG_9) dG_single_28 rfl ?_
  refine x_iconst (nx := 32) (v := (2 : Int32)) h dG_single_31 (by decide) rfl ?_
  refine x_iload_n (nx := 33) (i := 1) h dG_single_32 rfl 1 rfl rfl ?_
  refine x_iadd (nx := 34) h dG_single_33 rfl ?_
  refine x_iald (nx := 35) h (aC_10 ad ca) dG_single_34 rfl (fun v1 => ?_)
  exact x_iret h dG_single_35
set_option maxHeartbeats 4000000 in
set_option maxRecDepth 100000 in
theorem j_G_single_69 {l : Launch} {D : va_G} {ad : Nat → Nat} {ca : Nat → ClassId} {p : Program} {e : Env} {s : State} {m : MethodId} {args : Array Value} {below : List Frame} {meth : Method} {c : Code} {A : Nat → Prop} (h : xC p s m args meth c cG_single 2 (Cond.code yG_single cG_single 2 (some .int) :: wA) nW yG_single.cls (some .int) D clA (tysC ca) A) (N : Nat) (w0 : Int32) (S : xSt) : xJ p l e rm_G_single s m args below meth c D clA (tysC ca) (cellsC ad ca) A true 2 69 [] [.int w0] S (f_G_single_69 N w0 S) := by
  unfold f_G_single_69
  exact x_iret h dG_single_69
set_option maxHeartbeats 4000000 in
set_option maxRecDepth 100000 in
theorem m_G_single {l : Launch} {D : va_G} {ad : Nat → Nat} {ca : Nat → ClassId} (N : Nat) (a1 : Int32) (S : xSt) : xM l D clA (tysC ca) (cellsC ad ca) nW yG_single (Cond.code yG_single cG_single 2 (some .int) :: wA) rm_G_single true [.ref (ad 5), .int a1] S (f_G_single N a1 S) := by
  refine x_met (cc := cG_single) (maxL := 2) (ret := (some .int)) (by decide) rfl [.ref (ad 5), .int a1] (lv0 := [(0, .ref (ad 5)), (1, .int a1)]) (Nat.le_of_ble_eq_true rfl) rfl ?_
  intro p e s m args below meth c A h
  unfold f_G_single
  refine x_iload_n (nx := 1) (i := 1) h dG_single_0 rfl 1 rfl rfl ?_
  refine x_bipush (nx := 3) (v := (7 : Int32)) h dG_single_1 (by decide) rfl ?_
  refine x_icmp_ne (nx := 6) (tgt := 13) h dG_single_3 (by decide) rfl ?_ ?_
  · refine x_iload_n (nx := 14) (i := 1) h dG_single_13 rfl 1 rfl rfl ?_
    refine x_iconst (nx := 15) (v := (4 : Int32)) h dG_single_14 (by decide) rfl ?_
    refine x_icmp_lt (nx := 18) (tgt := 27) h dG_single_15 (by decide) rfl ?_ ?_
    · exact x_sub [0, 1] rfl (j_G_single_27 h N a1 S)
    · refine x_aload_n (nx := 19) (i := 0) h dG_single_18 rfl 0 rfl rfl ?_
      refine x_get (nx := 22) h (gC_5_1 ad ca _) (List.mem_cons_of_mem _ kG_13) dG_single_19 rfl ?_
      refine x_bipush (nx := 24) (v := (6 : Int32)) h dG_single_22 (by decide) rfl ?_
      refine x_icmp_ne (nx := 27) (tgt := 36) h dG_single_24 (by decide) rfl ?_ ?_
      · refine x_iload_n (nx := 37) (i := 1) h dG_single_36 rfl 1 rfl rfl ?_
        refine x_iconst (nx := 38) (v := (4 : Int32)) h dG_single_37 (by decide) rfl ?_
        refine x_icmp_ne (nx := 41) (tgt := 56) h dG_single_38 (by decide) rfl ?_ ?_
        · refine x_aload_n (nx := 57) (i := 0) h dG_single_56 rfl 0 rfl rfl ?_
          refine x_get (nx := 60) h (gC_5_0 ad ca _) (List.mem_cons_of_mem _ kG_9) dG_single_57 rfl ?_
          refine x_aload_n (nx := 61) (i := 0) h dG_single_60 rfl 0 rfl rfl ?_
          refine x_get (nx := 64) h (gC_5_1 ad ca _) (List.mem_cons_of_mem _ kG_13) dG_single_61 rfl ?_
          refine x_iald (nx := 65) h (aC_10 ad ca) dG_single_64 rfl (fun v1 => ?_)
          refine x_sipush (nx := 68) (v := (255 : Int32)) h dG_single_65 (by decide) rfl ?_
          refine x_iand (nx := 69) h dG_single_68 rfl ?_
          exact x_sub [] rfl (j_G_single_69 h N (v1 &&& (255 : Int32)) S)
        · refine x_aload_n (nx := 42) (i := 0) h dG_single_41 rfl 0 rfl rfl ?_
          refine x_get (nx := 45) h (gC_5_0 ad ca _) (List.mem_cons_of_mem _ kG_9) dG_single_42 rfl ?_
          refine x_aload_n (nx := 46) (i := 0) h dG_single_45 rfl 0 rfl rfl ?_
          refine x_get (nx := 49) h (gC_5_1 ad ca _) (List.mem_cons_of_mem _ kG_13) dG_single_46 rfl ?_
          refine x_iald (nx := 50) h (aC_10 ad ca) dG_single_49 rfl (fun v2 => ?_)
          refine x_bipush (nx := 52) (v := (8 : Int32)) h dG_single_50 (by decide) rfl ?_
          refine x_ishr (nx := 53) h dG_single_52 rfl ?_
          refine x_goto (tgt := 69) h dG_single_53 (by decide) ?_
          exact x_sub [] rfl (j_G_single_69 h N (v2 >>> ((8 : Int32) &&& 31)) S)
      · exact x_sub [0, 1] rfl (j_G_single_27 h N a1 S)
  · refine x_aload_n (nx := 7) (i := 0) h dG_single_6 rfl 0 rfl rfl ?_
    refine x_get (nx := 10) h (gC_5_0 ad ca _) (List.mem_cons_of_mem _ kG_9) dG_single_7 rfl ?_
    refine x_iconst (nx := 11) (v := (0 : Int32)) h dG_single_10 (by decide) rfl ?_
    refine x_iald (nx := 12) h (aC_10 ad ca) dG_single_11 rfl (fun v3 => ?_)
    exact x_iret h dG_single_12
set_option maxHeartbeats 4000000 in
set_option maxRecDepth 100000 in
theorem j_P_operand_28 {l : Launch} {D : va_G} {ad : Nat → Nat} {ca : Nat → ClassId} {p : Program} {e : Env} {s : State} {m : MethodId} {args : Array Value} {below : List Frame} {meth : Method} {c : Code} {A : Nat → Prop} (h : xC p s m args meth c cP_operand 2 (Cond.code yP_operand cP_operand 2 (some .int) :: wA) nW yP_operand.cls (some .int) D clA (tysC ca) A) (N : Nat) (w0 : Int32) (S : xSt) : xJ p l e rm_P_operand s m args below meth c D clA (tysC ca) (cellsC ad ca) A true 2 28 [] [.int w0] S (f_P_operand_28 N w0 S) := by
  unfold f_P_operand_28
  exact x_iret h dP_operand_28
set_option maxHeartbeats 4000000 in
set_option maxRecDepth 100000 in
theorem m_P_operand {l : Launch} {D : va_G} {ad : Nat → Nat} {ca : Nat → ClassId} (N : Nat) (a1 : Int32) (S : xSt) : xM l D clA (tysC ca) (cellsC ad ca) nW yP_operand (Cond.code yP_operand cP_operand 2 (some .int) :: wA) rm_P_operand true [.ref (ad 2), .int a1] S (f_P_operand N a1 S) := by
  refine x_met (cc := cP_operand) (maxL := 2) (ret := (some .int)) (by decide) rfl [.ref (ad 2), .int a1] (lv0 := [(0, .ref (ad 2)), (1, .int a1)]) (Nat.le_of_ble_eq_true rfl) rfl ?_
  intro p e s m args below meth c A h
  unfold f_P_operand
  refine x_iload_n (nx := 1) (i := 1) h dP_operand_0 rfl 1 rfl rfl ?_
  refine x_bipush (nx := 3) (v := (6 : Int32)) h dP_operand_1 (by decide) rfl ?_
  refine x_icmp_ne (nx := 6) (tgt := 20) h dP_operand_3 (by decide) rfl ?_ ?_
  · refine x_aload_n (nx := 21) (i := 0) h dP_operand_20 rfl 0 rfl rfl ?_
    refine x_get (nx := 24) h (gC_2_1 ad ca _) (List.mem_cons_of_mem _ kP_10) dP_operand_21 rfl ?_
    refine x_iload_n (nx := 25) (i := 1) h dP_operand_24 rfl 1 rfl rfl ?_
    refine x_cVi (nx := 28) (rest := []) (As := [.int a1]) h (m_G_single N a1 S) (x_wV h goA y_G_single kP_125 ⟨by decide, by decide⟩ rfl rfl) (oC_5 ad ca) rfl rfl (Nat.le_of_ble_eq_true rfl) dP_operand_25 rfl (fun v1 S2 => ?_)
    exact x_sub [] rfl (j_P_operand_28 h N v1 S2)
  · refine x_aload_n (nx := 7) (i := 0) h dP_operand_6 rfl 0 rfl rfl ?_
    refine x_get (nx := 10) h (gC_2_0 ad ca _) (List.mem_cons_of_mem _ kP_21) dP_operand_7 rfl ?_
    refine x_aload_n (nx := 11) (i := 0) h dP_operand_10 rfl 0 rfl rfl ?_
    refine x_get (nx := 14) h (gC_2_3 ad ca _) (List.mem_cons_of_mem _ kP_112) dP_operand_11 rfl ?_
    refine x_cVi (nx := 17) (rest := []) (As := [.int (S 2 3)]) h (m_B_read N (S 2 3) S) (x_wV h goA y_B_read kP_119 ⟨by decide, by decide⟩ rfl rfl) (oC_1 ad ca) rfl rfl (Nat.le_of_ble_eq_true rfl) dP_operand_14 rfl (fun v3 S4 => ?_)
    refine x_goto (tgt := 28) h dP_operand_17 (by decide) ?_
    exact x_sub [] rfl (j_P_operand_28 h N v3 S4)
set_option maxHeartbeats 4000000 in
set_option maxRecDepth 100000 in
theorem m_P_carry {l : Launch} {D : va_G} {ad : Nat → Nat} {ca : Nat → ClassId} (N : Nat) (S : xSt) : xM l D clA (tysC ca) (cellsC ad ca) nW yP_carry (Cond.code yP_carry cP_carry 1 (some .int) :: wA) rm_P_carry true [.ref (ad 2)] S (f_P_carry N S) := by
  refine x_met (cc := cP_carry) (maxL := 1) (ret := (some .int)) (by decide) rfl [.ref (ad 2)] (lv0 := [(0, .ref (ad 2))]) (Nat.le_of_ble_eq_true rfl) rfl ?_
  intro p e s m args below meth c A h
  unfold f_P_carry
  refine x_aload_n (nx := 1) (i := 0) h dP_carry_0 rfl 0 rfl rfl ?_
  refine x_get (nx := 4) h (gC_2_2 ad ca _) (List.mem_cons_of_mem _ kP_20) dP_carry_1 rfl ?_
  refine x_iconst (nx := 5) (v := (1 : Int32)) h dP_carry_4 (by decide) rfl ?_
  refine x_iald (nx := 6) h (aC_10 ad ca) dP_carry_5 rfl (fun v1 => ?_)
  refine x_iconst (nx := 7) (v := (1 : Int32)) h dP_carry_6 (by decide) rfl ?_
  refine x_iand (nx := 8) h dP_carry_7 rfl ?_
  exact x_iret h dP_carry_8
set_option maxHeartbeats 4000000 in
set_option maxRecDepth 100000 in
theorem j_A_bitFlags_21 {l : Launch} {D : va_G} {ad : Nat → Nat} {ca : Nat → ClassId} {p : Program} {e : Env} {s : State} {m : MethodId} {args : Array Value} {below : List Frame} {meth : Method} {c : Code} {A : Nat → Prop} (h : xC p s m args meth c cA_bitFlags 4 (Cond.code yA_bitFlags cA_bitFlags 4 (some .int) :: wA) nW yA_bitFlags.cls (some .int) D clA (tysC ca) A) (N : Nat) (a1 a2 w0 w1 : Int32) (S : xSt) : xJ p l e rm_A_bitFlags s m args below meth c D clA (tysC ca) (cellsC ad ca) A true 4 21 [(1, .int a1), (2, .int a2)] [.int w1, .int w0] S (f_A_bitFlags_21 N a1 a2 w0 w1 S) := by
  unfold f_A_bitFlags_21
  refine x_ior (nx := 22) h dA_bitFlags_21 rfl ?_
  refine x_iload_n (nx := 23) (i := 1) h dA_bitFlags_22 rfl 0 rfl rfl ?_
  refine x_bipush (nx := 25) (v := (40 : Int32)) h dA_bitFlags_23 (by decide) rfl ?_
  refine x_iand (nx := 26) h dA_bitFlags_25 rfl ?_
  refine x_ior (nx := 27) h dA_bitFlags_26 rfl ?_
  refine x_bipush (nx := 29) (v := (16 : Int32)) h dA_bitFlags_27 (by decide) rfl ?_
  refine x_ior (nx := 30) h dA_bitFlags_29 rfl ?_
  refine x_iload_n (nx := 31) (i := 2) h dA_bitFlags_30 rfl 1 rfl rfl ?_
  refine x_ior (nx := 32) h dA_bitFlags_31 rfl ?_
  exact x_iret h dA_bitFlags_32
set_option maxHeartbeats 4000000 in
set_option maxRecDepth 100000 in
theorem m_A_bitFlags {l : Launch} {D : va_G} {ad : Nat → Nat} {ca : Nat → ClassId} (N : Nat) (a0 a1 a2 : Int32) (S : xSt) : xM l D clA (tysC ca) (cellsC ad ca) nW yA_bitFlags (Cond.code yA_bitFlags cA_bitFlags 4 (some .int) :: wA) rm_A_bitFlags true [.int a0, .int a1, .int a2] S (f_A_bitFlags N a0 a1 a2 S) := by
  refine x_met (cc := cA_bitFlags) (maxL := 4) (ret := (some .int)) (by decide) rfl [.int a0, .int a1, .int a2] (lv0 := [(0, .int a0), (1, .int a1), (2, .int a2)]) (Nat.le_of_ble_eq_true rfl) rfl ?_
  intro p e s m args below meth c A h
  unfold f_A_bitFlags
  refine x_iload_n (nx := 1) (i := 1) h dA_bitFlags_0 rfl 1 rfl rfl ?_
  refine x_iconst (nx := 2) (v := (1 : Int32)) h dA_bitFlags_1 (by decide) rfl ?_
  refine x_iload_n (nx := 3) (i := 0) h dA_bitFlags_2 rfl 0 rfl rfl ?_
  refine x_ishl (nx := 4) h dA_bitFlags_3 rfl ?_
  refine x_iand (nx := 5) h dA_bitFlags_4 rfl ?_
  refine x_val (fun b1 => ?_)
  refine x_istore_n (nx := 6) (i := 3) (lv' := [(3, .int b1), (0, .int a0), (1, .int a1), (2, .int a2)]) h dA_bitFlags_5 rfl (by decide) rfl rfl ?_
  refine x_iload_n (nx := 7) (i := 3) h dA_bitFlags_6 rfl 0 rfl rfl ?_
  refine x_sipush (nx := 10) (v := (128 : Int32)) h dA_bitFlags_7 (by decide) rfl ?_
  refine x_iand (nx := 11) h dA_bitFlags_10 rfl ?_
  refine x_iload_n (nx := 12) (i := 3) h dA_bitFlags_11 rfl 0 rfl rfl ?_
  refine x_if_ne (nx := 15) (tgt := 20) h dA_bitFlags_12 (by decide) rfl ?_ ?_
  · refine x_iconst (nx := 21) (v := (0 : Int32)) h dA_bitFlags_20 (by decide) rfl ?_
    exact x_sub [2, 3] rfl (j_A_bitFlags_21 h N a1 a2 (b1 &&& (128 : Int32)) (0 : Int32) S)
  · refine x_bipush (nx := 17) (v := (68 : Int32)) h dA_bitFlags_15 (by decide) rfl ?_
    refine x_goto (tgt := 21) h dA_bitFlags_17 (by decide) ?_
    exact x_sub [2, 3] rfl (j_A_bitFlags_21 h N a1 a2 (b1 &&& (128 : Int32)) (68 : Int32) S)
set_option maxHeartbeats 4000000 in
set_option maxRecDepth 100000 in
theorem j_A_comesIn_44 {l : Launch} {D : va_G} {ad : Nat → Nat} {ca : Nat → ClassId} {p : Program} {e : Env} {s : State} {m : MethodId} {args : Array Value} {below : List Frame} {meth : Method} {c : Code} {A : Nat → Prop} (h : xC p s m args meth c cA_comesIn 4 (Cond.code yA_comesIn cA_comesIn 4 (some .int) :: wA) nW yA_comesIn.cls (some .int) D clA (tysC ca) A) (N : Nat) (a2 : Int32) (S : xSt) : xJ p l e rm_A_comesIn s m args below meth c D clA (tysC ca) (cellsC ad ca) A true 4 44 [(2, .int a2)] [] S (f_A_comesIn_44 N a2 S) := by
  unfold f_A_comesIn_44
  refine x_iload_n (nx := 45) (i := 2) h dA_comesIn_44 rfl 0 rfl rfl ?_
  exact x_iret h dA_comesIn_45
set_option maxHeartbeats 4000000 in
set_option maxRecDepth 100000 in
theorem j_A_comesIn_46 {l : Launch} {D : va_G} {ad : Nat → Nat} {ca : Nat → ClassId} {p : Program} {e : Env} {s : State} {m : MethodId} {args : Array Value} {below : List Frame} {meth : Method} {c : Code} {A : Nat → Prop} (h : xC p s m args meth c cA_comesIn 4 (Cond.code yA_comesIn cA_comesIn 4 (some .int) :: wA) nW yA_comesIn.cls (some .int) D clA (tysC ca) A) (N : Nat) (a3 : Int32) (S : xSt) : xJ p l e rm_A_comesIn s m args below meth c D clA (tysC ca) (cellsC ad ca) A true 4 46 [(3, .int a3)] [] S (f_A_comesIn_46 N a3 S) := by
  unfold f_A_comesIn_46
  refine x_iload_n (nx := 47) (i := 3) h dA_comesIn_46 rfl 0 rfl rfl ?_
  exact x_iret h dA_comesIn_47
set_option maxHeartbeats 4000000 in
set_option maxRecDepth 100000 in
theorem j_A_comesIn_55 {l : Launch} {D : va_G} {ad : Nat → Nat} {ca : Nat → ClassId} {p : Program} {e : Env} {s : State} {m : MethodId} {args : Array Value} {below : List Frame} {meth : Method} {c : Code} {A : Nat → Prop} (h : xC p s m args meth c cA_comesIn 4 (Cond.code yA_comesIn cA_comesIn 4 (some .int) :: wA) nW yA_comesIn.cls (some .int) D clA (tysC ca) A) (N : Nat) (S : xSt) : xJ p l e rm_A_comesIn s m args below meth c D clA (tysC ca) (cellsC ad ca) A true 4 55 [] [] S (f_A_comesIn_55 N S) := by
  unfold f_A_comesIn_55
  refine x_iconst (nx := 56) (v := (0 : Int32)) h dA_comesIn_55 (by decide) rfl ?_
  exact x_iret h dA_comesIn_56
set_option maxHeartbeats 4000000 in
set_option maxRecDepth 100000 in
theorem m_A_comesIn {l : Launch} {D : va_G} {ad : Nat → Nat} {ca : Nat → ClassId} (N : Nat) (a0 a1 a2 a3 : Int32) (S : xSt) : xM l D clA (tysC ca) (cellsC ad ca) nW yA_comesIn (Cond.code yA_comesIn cA_comesIn 4 (some .int) :: wA) rm_A_comesIn true [.int a0, .int a1, .int a2, .int a3] S (f_A_comesIn N a0 a1 a2 a3 S) := by
  refine x_met (cc := cA_comesIn) (maxL := 4) (ret := (some .int)) (by decide) rfl [.int a0, .int a1, .int a2, .int a3] (lv0 := [(0, .int a0), (1, .int a1), (2, .int a2), (3, .int a3)]) (Nat.le_of_ble_eq_true rfl) rfl ?_
  intro p e s m args below meth c A h
  unfold f_A_comesIn
  refine x_iload_n (nx := 1) (i := 0) h dA_comesIn_0 rfl 0 rfl rfl ?_
  refine x_ite (fun hq1 => ?_) (fun hq1 => ?_)
  · refine x_set hq1 ?_
    refine x_tabIn (off := 43) (tgt := 44) h dA_comesIn_1 (by decide +kernel) (by decide +kernel) (by decide +kernel) (by decide) ?_
    exact x_sub [2] rfl (j_A_comesIn_44 h N a2 S)
  refine x_ite (fun hq2 => ?_) (fun hq2 => ?_)
  · refine x_set hq2 ?_
    refine x_tabIn (off := 43) (tgt := 44) h dA_comesIn_1 (by decide +kernel) (by decide +kernel) (by decide +kernel) (by decide) ?_
    exact x_sub [2] rfl (j_A_comesIn_44 h N a2 S)
  refine x_ite (fun hq3 => ?_) (fun hq3 => ?_)
  · refine x_set hq3 ?_
    refine x_tabIn (off := 45) (tgt := 46) h dA_comesIn_1 (by decide +kernel) (by decide +kernel) (by decide +kernel) (by decide) ?_
    exact x_sub [3] rfl (j_A_comesIn_46 h N a3 S)
  refine x_ite (fun hq4 => ?_) (fun hq4 => ?_)
  · refine x_set hq4 ?_
    refine x_tabIn (off := 45) (tgt := 46) h dA_comesIn_1 (by decide +kernel) (by decide +kernel) (by decide +kernel) (by decide) ?_
    exact x_sub [3] rfl (j_A_comesIn_46 h N a3 S)
  refine x_ite (fun hq5 => ?_) (fun hq5 => ?_)
  · refine x_set hq5 ?_
    refine x_tabIn (off := 54) (tgt := 55) h dA_comesIn_1 (by decide +kernel) (by decide +kernel) (by decide +kernel) (by decide) ?_
    exact x_sub [] rfl (j_A_comesIn_55 h N S)
  refine x_ite (fun hq6 => ?_) (fun hq6 => ?_)
  · refine x_set hq6 ?_
    refine x_tabIn (off := 47) (tgt := 48) h dA_comesIn_1 (by decide +kernel) (by decide +kernel) (by decide +kernel) (by decide) ?_
    refine x_iload_n (nx := 49) (i := 1) h dA_comesIn_48 rfl 1 rfl rfl ?_
    refine x_bipush (nx := 51) (v := (7 : Int32)) h dA_comesIn_49 (by decide) rfl ?_
    refine x_ishr (nx := 52) h dA_comesIn_51 rfl ?_
    exact x_iret h dA_comesIn_52
  refine x_ite (fun hq7 => ?_) (fun hq7 => ?_)
  · refine x_set hq7 ?_
    refine x_tabIn (off := 52) (tgt := 53) h dA_comesIn_1 (by decide +kernel) (by decide +kernel) (by decide +kernel) (by decide) ?_
    refine x_iconst (nx := 54) (v := (1 : Int32)) h dA_comesIn_53 (by decide) rfl ?_
    exact x_iret h dA_comesIn_54
  refine x_tabOut (tgt := 55) h dA_comesIn_1 (by have z0 := lv_neT (a := 0) hq1 (by decide +kernel); have z1 := lv_neT (a := 1) hq2 (by decide +kernel); have z2 := lv_neT (a := 2) hq3 (by decide +kernel); have z3 := lv_neT (a := 3) hq4 (by decide +kernel); have z4 := lv_neT (a := 4) hq5 (by decide +kernel); have z5 := lv_neT (a := 5) hq6 (by decide +kernel); have z6 := lv_neT (a := 6) hq7 (by decide +kernel); omega) (by decide) ?_
  exact x_sub [] rfl (j_A_comesIn_55 h N S)
set_option maxHeartbeats 4000000 in
set_option maxRecDepth 100000 in
theorem j_A_by_15 {l : Launch} {D : va_G} {ad : Nat → Nat} {ca : Nat → ClassId} {p : Program} {e : Env} {s : State} {m : MethodId} {args : Array Value} {below : List Frame} {meth : Method} {c : Code} {A : Nat → Prop} (h : xC p s m args meth c cA_by 1 (Cond.code yA_by cA_by 1 (some .int) :: wA) nW yA_by.cls (some .int) D clA (tysC ca) A) (N : Nat) (w0 w1 : Int32) (S : xSt) : xJ p l e rm_A_by s m args below meth c D clA (tysC ca) (cellsC ad ca) A true 1 15 [] [.int w1, .int w0] S (f_A_by_15 N w0 w1 S) := by
  unfold f_A_by_15
  refine x_ior (nx := 16) h dA_by_15 rfl ?_
  exact x_iret h dA_by_16
set_option maxHeartbeats 4000000 in
set_option maxRecDepth 100000 in
theorem m_A_by {l : Launch} {D : va_G} {ad : Nat → Nat} {ca : Nat → ClassId} (N : Nat) (a0 : Int32) (S : xSt) : xM l D clA (tysC ca) (cellsC ad ca) nW yA_by (Cond.code yA_by cA_by 1 (some .int) :: wA) rm_A_by true [.int a0] S (f_A_by N a0 S) := by
  refine x_met (cc := cA_by) (maxL := 1) (ret := (some .int)) (by decide) rfl [.int a0] (lv0 := [(0, .int a0)]) (Nat.le_of_ble_eq_true rfl) rfl ?_
  intro p e s m args below meth c A h
  unfold f_A_by
  refine x_iload_n (nx := 1) (i := 0) h dA_by_0 rfl 0 rfl rfl ?_
  refine x_sipush (nx := 4) (v := (168 : Int32)) h dA_by_1 (by decide) rfl ?_
  refine x_iand (nx := 5) h dA_by_4 rfl ?_
  refine x_iload_n (nx := 6) (i := 0) h dA_by_5 rfl 0 rfl rfl ?_
  refine x_if_ne (nx := 9) (tgt := 14) h dA_by_6 (by decide) rfl ?_ ?_
  · refine x_iconst (nx := 15) (v := (0 : Int32)) h dA_by_14 (by decide) rfl ?_
    exact x_sub [] rfl (j_A_by_15 h N (a0 &&& (168 : Int32)) (0 : Int32) S)
  · refine x_bipush (nx := 11) (v := (64 : Int32)) h dA_by_9 (by decide) rfl ?_
    refine x_goto (tgt := 15) h dA_by_11 (by decide) ?_
    exact x_sub [] rfl (j_A_by_15 h N (a0 &&& (168 : Int32)) (64 : Int32) S)
