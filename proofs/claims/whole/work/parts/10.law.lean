def f_L_436 (N L : Nat) (xs : Nat → Int32) (k18 : Int32 → xSt → xSt → Option Int32) (a3 : Int32) (S T : xSt) : Option Int32 := k18 (a3 + (4 : Int32)) S T
def f_L_300 (N L : Nat) (xs : Nat → Int32) (k18 : Int32 → xSt → xSt → Option Int32) (a3 w0 w2 w3 w4 : Int32) (S T : xSt) : Option Int32 := yB (f_M_key N w2 w3 w4 T) fun v1 S2 => (if w0 = v1 then (f_L_436 N L xs k18 a3 S S2) else (some (0 : Int32)))
def f_L_273 (N L : Nat) (xs : Nat → Int32) (k18 : Int32 → xSt → xSt → Option Int32) (a3 w1 w2 w3 : Int32) (S T : xSt) : Option Int32 := yB (f_H_key N w1 w2 w3 S) fun v1 S2 => (yRd L xs (a3 + (1 : Int32)) fun v3 => (yRd L xs (a3 + (2 : Int32)) fun v4 => (yRd L xs (a3 + (3 : Int32)) fun v5 => (if v5 = 0 then (f_L_300 N L xs k18 a3 v1 v3 v4 (0 : Int32) S2 T) else (f_L_300 N L xs k18 a3 v1 v3 v4 (1 : Int32) S2 T)))))
def f_L_18 (N L : Nat) (xs : Nat → Int32) : Nat → Int32 → xSt → xSt → Option Int32
  | 0, _, _, _ => none
  | n + 1, a3, S, T => if ((Int32.ofNat L) - (4 : Int32)) < a3 then (some (1 : Int32)) else (yRd L xs a3 fun v1 => (if (v1 &&& (15 : Int32)) = (0 : Int32) then (yRd L xs (a3 + (1 : Int32)) fun v3 => (yRd L xs (a3 + (2 : Int32)) fun v4 => (yB (f_H_poke N v3 v4 S) fun v5 S6 => (yRd L xs (a3 + (1 : Int32)) fun v7 => (yRd L xs (a3 + (2 : Int32)) fun v8 => (yB (f_M_poke N v7 v8 T) fun v9 S10 => (f_L_436 N L xs (f_L_18 N L xs n) a3 S6 S10))))))) else (if (v1 &&& (15 : Int32)) = (1 : Int32) then (yRd L xs (a3 + (1 : Int32)) fun v12 => (yRd L xs (a3 + (2 : Int32)) fun v13 => (yRd L xs (a3 + (3 : Int32)) fun v14 => (yB (f_H_load N v12 v13 v14 S) fun v15 S16 => (yRd L xs (a3 + (1 : Int32)) fun v17 => (yRd L xs (a3 + (2 : Int32)) fun v18 => (yRd L xs (a3 + (3 : Int32)) fun v19 => (yB (f_M_load N v17 v18 v19 T) fun v20 S21 => (if v15 = v20 then (f_L_436 N L xs (f_L_18 N L xs n) a3 S16 S21) else (some (0 : Int32))))))))))) else (if (v1 &&& (15 : Int32)) = (2 : Int32) then (yRd L xs (a3 + (1 : Int32)) fun v23 => (yB (f_H_peek N v23 S) fun v24 S25 => (yRd L xs (a3 + (1 : Int32)) fun v26 => (yB (f_M_peek N v26 T) fun v27 S28 => (if v24 = v27 then (f_L_436 N L xs (f_L_18 N L xs n) a3 S25 S28) else (some (0 : Int32))))))) else (if (v1 &&& (15 : Int32)) = (3 : Int32) then (yRd L xs (a3 + (1 : Int32)) fun v30 => (yRd L xs (a3 + (2 : Int32)) fun v31 => (yB (f_H_set N v30 v31 S) fun v32 S33 => (yRd L xs (a3 + (1 : Int32)) fun v34 => (yRd L xs (a3 + (2 : Int32)) fun v35 => (yB (f_M_set N v34 v35 T) fun v36 S37 => (if v32 = v36 then (f_L_436 N L xs (f_L_18 N L xs n) a3 S33 S37) else (some (0 : Int32))))))))) else (if (v1 &&& (15 : Int32)) = (4 : Int32) then (yRd L xs (a3 + (1 : Int32)) fun v39 => (yB (f_H_register N v39 S) fun v40 S41 => (yRd L xs (a3 + (1 : Int32)) fun v42 => (yB (f_M_register N v42 T) fun v43 S44 => (if v40 = v43 then (f_L_436 N L xs (f_L_18 N L xs n) a3 S41 S44) else (some (0 : Int32))))))) else (if (v1 &&& (15 : Int32)) = (5 : Int32) then (yRd L xs (a3 + (1 : Int32)) fun v46 => (yRd L xs (a3 + (2 : Int32)) fun v47 => (yRd L xs (a3 + (3 : Int32)) fun v48 => (if v48 = 0 then (f_L_273 N L xs (f_L_18 N L xs n) a3 v46 v47 (0 : Int32) S T) else (f_L_273 N L xs (f_L_18 N L xs n) a3 v46 v47 (1 : Int32) S T))))) else (if (v1 &&& (15 : Int32)) = (6 : Int32) then (yRd L xs (a3 + (1 : Int32)) fun v50 => (yB (f_H_pulse N v50 S) fun v51 S52 => (yRd L xs (a3 + (1 : Int32)) fun v53 => (yB (f_M_pulse N v53 T) fun v54 S55 => (if v51 = v54 then (f_L_436 N L xs (f_L_18 N L xs n) a3 S52 S55) else (some (0 : Int32))))))) else (if (v1 &&& (15 : Int32)) = (7 : Int32) then (yRd L xs (a3 + (1 : Int32)) fun v57 => (yB (f_H_tape N v57 S) fun v58 S59 => (yRd L xs (a3 + (1 : Int32)) fun v60 => (yB (f_M_tape N v60 T) fun v61 S62 => (if v58 = v61 then (f_L_436 N L xs (f_L_18 N L xs n) a3 S59 S62) else (some (0 : Int32))))))) else (if (v1 &&& (15 : Int32)) = (8 : Int32) then (yRd L xs (a3 + (1 : Int32)) fun v64 => (yB (f_H_step N v64 S) fun v65 S66 => (yRd L xs (a3 + (1 : Int32)) fun v67 => (yB (f_M_step N v67 T) fun v68 S69 => (if v65 = v68 then (f_L_436 N L xs (f_L_18 N L xs n) a3 S66 S69) else (some (0 : Int32))))))) else (if (v1 &&& (15 : Int32)) = (9 : Int32) then (yB (f_H_frame N S) fun v71 S72 => (yB (f_M_frame N T) fun v73 S74 => (if v71 = v73 then (f_L_436 N L xs (f_L_18 N L xs n) a3 S72 S74) else (some (0 : Int32))))) else (if (v1 &&& (15 : Int32)) = (10 : Int32) then (yRd L xs (a3 + (1 : Int32)) fun v76 => (yB (f_H_look N v76 S) fun v77 S78 => (yRd L xs (a3 + (1 : Int32)) fun v79 => (yB (f_M_look N v79 T) fun v80 S81 => (if v77 = v80 then (f_L_436 N L xs (f_L_18 N L xs n) a3 S78 S81) else (some (0 : Int32))))))) else (if (v1 &&& (15 : Int32)) = (11 : Int32) then (yRd L xs (a3 + (1 : Int32)) fun v83 => (yB (f_H_stripe N v83 S) fun v84 S85 => (yRd L xs (a3 + (1 : Int32)) fun v86 => (yB (f_M_stripe N v86 T) fun v87 S88 => (if v84 = v87 then (f_L_436 N L xs (f_L_18 N L xs n) a3 S85 S88) else (some (0 : Int32))))))) else ((f_L_436 N L xs (f_L_18 N L xs n) a3 S T)))))))))))))))
set_option maxHeartbeats 4000000 in
set_option maxRecDepth 100000 in
theorem j_L_436 {p : Program} {l : Launch} {e : Env} {s : State} {m : MethodId} {below : List Frame} {meth : Method} {c : Code} {b L : Nat} {xs : Nat → Int32} {D : va_G} {ad ad2 : Nat → Nat} {ca ca2 : Nat → ClassId} (h : yC p s m meth c b L xs D ca ca2) (N : Nat) (k18 : Int32 → xSt → xSt → Option Int32) (hk18 : ∀ (a3 : Int32) (S T : xSt), yJ p l e s m below meth c b D ad ad2 ca ca2 18 [(0, .ref b), (1, .ref (ad 0)), (2, .ref (ad2 0)), (3, .int a3)] [] S T (k18 a3 S T)) (a3 : Int32) (S T : xSt) : yJ p l e s m below meth c b D ad ad2 ca ca2 436 [(0, .ref b), (1, .ref (ad 0)), (2, .ref (ad2 0)), (3, .int a3)] [] S T (f_L_436 N L xs k18 a3 S T) := by
  unfold f_L_436
  refine y_iinc (nx := 439) (i := 3) (v := (a3 + (4 : Int32))) (lv' := [(3, .int (a3 + (4 : Int32))), (0, .ref b), (1, .ref (ad 0)), (2, .ref (ad2 0))]) h dL_law_436 3 rfl (by rw [show Int32.ofInt 4 = (4 : Int32) by decide]) (by decide) rfl rfl ?_
  refine y_goto (tgt := 18) h dL_law_439 (by decide) ?_
  exact y_sub [1, 2, 3, 0] rfl (hk18 (a3 + (4 : Int32)) S T)
set_option maxHeartbeats 4000000 in
set_option maxRecDepth 100000 in
theorem j_L_300 {p : Program} {l : Launch} {e : Env} {s : State} {m : MethodId} {below : List Frame} {meth : Method} {c : Code} {b L : Nat} {xs : Nat → Int32} {D : va_G} {ad ad2 : Nat → Nat} {ca ca2 : Nat → ClassId} (h : yC p s m meth c b L xs D ca ca2) (N : Nat) (k18 : Int32 → xSt → xSt → Option Int32) (hk18 : ∀ (a3 : Int32) (S T : xSt), yJ p l e s m below meth c b D ad ad2 ca ca2 18 [(0, .ref b), (1, .ref (ad 0)), (2, .ref (ad2 0)), (3, .int a3)] [] S T (k18 a3 S T)) (a3 w0 w2 w3 w4 : Int32) (S T : xSt) : yJ p l e s m below meth c b D ad ad2 ca ca2 300 [(0, .ref b), (1, .ref (ad 0)), (2, .ref (ad2 0)), (3, .int a3)] [.int w4, .int w3, .int w2, .ref (ad2 0), .int w0] S T (f_L_300 N L xs k18 a3 w0 w2 w3 w4 S T) := by
  unfold f_L_300
  refine y_cMi (nx := 303) (rest := [.int w0]) (As := [.int w2, .int w3, .int w4]) h (m_M_key N w2 w3 w4 T) (y_wV h y_M_key kL_41 ⟨by decide, by decide⟩ rfl rfl) rfl rfl (Nat.le_of_ble_eq_true rfl) dL_law_300 rfl (fun v1 S2 => ?_)
  refine y_icmp_eq (nx := 306) (tgt := 436) h dL_law_303 (by decide) rfl ?_ ?_
  · exact y_sub [0, 1, 2, 3] rfl (j_L_436 h N k18 hk18 a3 S S2)
  · refine y_iconst (nx := 307) (v := (0 : Int32)) h dL_law_306 (by decide) rfl ?_
    exact y_ret h dL_law_307
set_option maxHeartbeats 4000000 in
set_option maxRecDepth 100000 in
theorem j_L_273 {p : Program} {l : Launch} {e : Env} {s : State} {m : MethodId} {below : List Frame} {meth : Method} {c : Code} {b L : Nat} {xs : Nat → Int32} {D : va_G} {ad ad2 : Nat → Nat} {ca ca2 : Nat → ClassId} (h : yC p s m meth c b L xs D ca ca2) (N : Nat) (k18 : Int32 → xSt → xSt → Option Int32) (hk18 : ∀ (a3 : Int32) (S T : xSt), yJ p l e s m below meth c b D ad ad2 ca ca2 18 [(0, .ref b), (1, .ref (ad 0)), (2, .ref (ad2 0)), (3, .int a3)] [] S T (k18 a3 S T)) (a3 w1 w2 w3 : Int32) (S T : xSt) : yJ p l e s m below meth c b D ad ad2 ca ca2 273 [(0, .ref b), (1, .ref (ad 0)), (2, .ref (ad2 0)), (3, .int a3)] [.int w3, .int w2, .int w1, .ref (ad 0)] S T (f_L_273 N L xs k18 a3 w1 w2 w3 S T) := by
  unfold f_L_273
  refine y_cCi (nx := 276) (rest := []) (As := [.int w1, .int w2, .int w3]) h (m_H_key N w1 w2 w3 S) (y_wV h y_H_key kL_37 ⟨by decide, by decide⟩ rfl rfl) rfl rfl (Nat.le_of_ble_eq_true rfl) dL_law_273 rfl (fun v1 S2 => ?_)
  refine y_aload_n (nx := 277) (i := 2) h dL_law_276 rfl 2 rfl rfl ?_
  refine y_aload_n (nx := 278) (i := 0) h dL_law_277 rfl 0 rfl rfl ?_
  refine y_iload_n (nx := 279) (i := 3) h dL_law_278 rfl 3 rfl rfl ?_
  refine y_iconst (nx := 280) (v := (1 : Int32)) h dL_law_279 (by decide) rfl ?_
  refine y_iadd (nx := 281) h dL_law_280 rfl ?_
  refine y_sld (nx := 282) h dL_law_281 rfl (fun v3 => ?_)
  refine y_aload_n (nx := 283) (i := 0) h dL_law_282 rfl 0 rfl rfl ?_
  refine y_iload_n (nx := 284) (i := 3) h dL_law_283 rfl 3 rfl rfl ?_
  refine y_iconst (nx := 285) (v := (2 : Int32)) h dL_law_284 (by decide) rfl ?_
  refine y_iadd (nx := 286) h dL_law_285 rfl ?_
  refine y_sld (nx := 287) h dL_law_286 rfl (fun v4 => ?_)
  refine y_aload_n (nx := 288) (i := 0) h dL_law_287 rfl 0 rfl rfl ?_
  refine y_iload_n (nx := 289) (i := 3) h dL_law_288 rfl 3 rfl rfl ?_
  refine y_iconst (nx := 290) (v := (3 : Int32)) h dL_law_289 (by decide) rfl ?_
  refine y_iadd (nx := 291) h dL_law_290 rfl ?_
  refine y_sld (nx := 292) h dL_law_291 rfl (fun v5 => ?_)
  refine y_if_eq (nx := 295) (tgt := 299) h dL_law_292 (by decide) rfl ?_ ?_
  · refine y_iconst (nx := 300) (v := (0 : Int32)) h dL_law_299 (by decide) rfl ?_
    exact y_sub [0, 1, 2, 3] rfl (j_L_300 h N k18 hk18 a3 v1 v3 v4 (0 : Int32) S2 T)
  · refine y_iconst (nx := 296) (v := (1 : Int32)) h dL_law_295 (by decide) rfl ?_
    refine y_goto (tgt := 300) h dL_law_296 (by decide) ?_
    exact y_sub [0, 1, 2, 3] rfl (j_L_300 h N k18 hk18 a3 v1 v3 v4 (1 : Int32) S2 T)
set_option maxHeartbeats 4000000 in
set_option maxRecDepth 100000 in
theorem j_L_18 {p : Program} {l : Launch} {e : Env} {s : State} {m : MethodId} {below : List Frame} {meth : Method} {c : Code} {b L : Nat} {xs : Nat → Int32} {D : va_G} {ad ad2 : Nat → Nat} {ca ca2 : Nat → ClassId} (h : yC p s m meth c b L xs D ca ca2) (N : Nat) : ∀ (n : Nat) (a3 : Int32) (S T : xSt), yJ p l e s m below meth c b D ad ad2 ca ca2 18 [(0, .ref b), (1, .ref (ad 0)), (2, .ref (ad2 0)), (3, .int a3)] [] S T (f_L_18 N L xs n a3 S T) := by
  intro n
  induction n with
  | zero =>
    intro a3 S T
    rw [f_L_18]
    exact y_none
  | succ n ih =>
    intro a3 S T
    rw [f_L_18]
    refine y_iload_n (nx := 19) (i := 3) h dL_law_18 rfl 3 rfl rfl ?_
    refine y_aload_n (nx := 20) (i := 0) h dL_law_19 rfl 0 rfl rfl ?_
    refine y_slen (nx := 21) h dL_law_20 rfl ?_
    refine y_iconst (nx := 22) (v := (4 : Int32)) h dL_law_21 (by decide) rfl ?_
    refine y_isub (nx := 23) h dL_law_22 rfl ?_
    refine y_icmp_gt (nx := 26) (tgt := 442) h dL_law_23 (by decide) rfl ?_ ?_
    · refine y_iconst (nx := 443) (v := (1 : Int32)) h dL_law_442 (by decide) rfl ?_
      exact y_ret h dL_law_443
    · refine y_aload_n (nx := 27) (i := 0) h dL_law_26 rfl 0 rfl rfl ?_
      refine y_iload_n (nx := 28) (i := 3) h dL_law_27 rfl 3 rfl rfl ?_
      refine y_sld (nx := 29) h dL_law_28 rfl (fun v1 => ?_)
      refine y_bipush (nx := 31) (v := (15 : Int32)) h dL_law_29 (by decide) rfl ?_
      refine y_iand (nx := 32) h dL_law_31 rfl ?_
      refine y_ite (fun hq2 => ?_) (fun hq2 => ?_)
      · refine y_set hq2 ?_
        refine y_tabIn (off := 64) (tgt := 96) h dL_law_32 (by decide +kernel) (by decide +kernel) (by decide +kernel) (by decide) ?_
        refine y_aload_n (nx := 97) (i := 1) h dL_law_96 rfl 1 rfl rfl ?_
        refine y_aload_n (nx := 98) (i := 0) h dL_law_97 rfl 0 rfl rfl ?_
        refine y_iload_n (nx := 99) (i := 3) h dL_law_98 rfl 3 rfl rfl ?_
        refine y_iconst (nx := 100) (v := (1 : Int32)) h dL_law_99 (by decide) rfl ?_
        refine y_iadd (nx := 101) h dL_law_100 rfl ?_
        refine y_sld (nx := 102) h dL_law_101 rfl (fun v3 => ?_)
        refine y_aload_n (nx := 103) (i := 0) h dL_law_102 rfl 0 rfl rfl ?_
        refine y_iload_n (nx := 104) (i := 3) h dL_law_103 rfl 3 rfl rfl ?_
        refine y_iconst (nx := 105) (v := (2 : Int32)) h dL_law_104 (by decide) rfl ?_
        refine y_iadd (nx := 106) h dL_law_105 rfl ?_
        refine y_sld (nx := 107) h dL_law_106 rfl (fun v4 => ?_)
        refine y_cCv (nx := 110) (rest := []) (As := [.int v3, .int v4]) h (m_H_poke N v3 v4 S) (y_wV h y_H_poke kL_13 ⟨by decide, by decide⟩ rfl rfl) rfl rfl (Nat.le_of_ble_eq_true rfl) dL_law_107 rfl (fun v5 S6 => ?_)
        refine y_aload_n (nx := 111) (i := 2) h dL_law_110 rfl 2 rfl rfl ?_
        refine y_aload_n (nx := 112) (i := 0) h dL_law_111 rfl 0 rfl rfl ?_
        refine y_iload_n (nx := 113) (i := 3) h dL_law_112 rfl 3 rfl rfl ?_
        refine y_iconst (nx := 114) (v := (1 : Int32)) h dL_law_113 (by decide) rfl ?_
        refine y_iadd (nx := 115) h dL_law_114 rfl ?_
        refine y_sld (nx := 116) h dL_law_115 rfl (fun v7 => ?_)
        refine y_aload_n (nx := 117) (i := 0) h dL_law_116 rfl 0 rfl rfl ?_
        refine y_iload_n (nx := 118) (i := 3) h dL_law_117 rfl 3 rfl rfl ?_
        refine y_iconst (nx := 119) (v := (2 : Int32)) h dL_law_118 (by decide) rfl ?_
        refine y_iadd (nx := 120) h dL_law_119 rfl ?_
        refine y_sld (nx := 121) h dL_law_120 rfl (fun v8 => ?_)
        refine y_cMv (nx := 124) (rest := []) (As := [.int v7, .int v8]) h (m_M_poke N v7 v8 T) (y_wV h y_M_poke kL_17 ⟨by decide, by decide⟩ rfl rfl) rfl rfl (Nat.le_of_ble_eq_true rfl) dL_law_121 rfl (fun v9 S10 => ?_)
        refine y_goto (tgt := 436) h dL_law_124 (by decide) ?_
        exact y_sub [0, 1, 2, 3] rfl (j_L_436 h N (f_L_18 N L xs n) ih a3 S6 S10)
      refine y_ite (fun hq11 => ?_) (fun hq11 => ?_)
      · refine y_set hq11 ?_
        refine y_tabIn (off := 95) (tgt := 127) h dL_law_32 (by decide +kernel) (by decide +kernel) (by decide +kernel) (by decide) ?_
        refine y_aload_n (nx := 128) (i := 1) h dL_law_127 rfl 1 rfl rfl ?_
        refine y_aload_n (nx := 129) (i := 0) h dL_law_128 rfl 0 rfl rfl ?_
        refine y_iload_n (nx := 130) (i := 3) h dL_law_129 rfl 3 rfl rfl ?_
        refine y_iconst (nx := 131) (v := (1 : Int32)) h dL_law_130 (by decide) rfl ?_
        refine y_iadd (nx := 132) h dL_law_131 rfl ?_
        refine y_sld (nx := 133) h dL_law_132 rfl (fun v12 => ?_)
        refine y_aload_n (nx := 134) (i := 0) h dL_law_133 rfl 0 rfl rfl ?_
        refine y_iload_n (nx := 135) (i := 3) h dL_law_134 rfl 3 rfl rfl ?_
        refine y_iconst (nx := 136) (v := (2 : Int32)) h dL_law_135 (by decide) rfl ?_
        refine y_iadd (nx := 137) h dL_law_136 rfl ?_
        refine y_sld (nx := 138) h dL_law_137 rfl (fun v13 => ?_)
        refine y_aload_n (nx := 139) (i := 0) h dL_law_138 rfl 0 rfl rfl ?_
        refine y_iload_n (nx := 140) (i := 3) h dL_law_139 rfl 3 rfl rfl ?_
        refine y_iconst (nx := 141) (v := (3 : Int32)) h dL_law_140 (by decide) rfl ?_
        refine y_iadd (nx := 142) h dL_law_141 rfl ?_
        refine y_sld (nx := 143) h dL_law_142 rfl (fun v14 => ?_)
        refine y_cCi (nx := 146) (rest := []) (As := [.int v12, .int v13, .int v14]) h (m_H_load N v12 v13 v14 S) (y_wV h y_H_load kL_18 ⟨by decide, by decide⟩ rfl rfl) rfl rfl (Nat.le_of_ble_eq_true rfl) dL_law_143 rfl (fun v15 S16 => ?_)
        refine y_aload_n (nx := 147) (i := 2) h dL_law_146 rfl 2 rfl rfl ?_
        refine y_aload_n (nx := 148) (i := 0) h dL_law_147 rfl 0 rfl rfl ?_
        refine y_iload_n (nx := 149) (i := 3) h dL_law_148 rfl 3 rfl rfl ?_
        refine y_iconst (nx := 150) (v := (1 : Int32)) h dL_law_149 (by decide) rfl ?_
        refine y_iadd (nx := 151) h dL_law_150 rfl ?_
        refine y_sld (nx := 152) h dL_law_151 rfl (fun v17 => ?_)
        refine y_aload_n (nx := 153) (i := 0) h dL_law_152 rfl 0 rfl rfl ?_
        refine y_iload_n (nx := 154) (i := 3) h dL_law_153 rfl 3 rfl rfl ?_
        refine y_iconst (nx := 155) (v := (2 : Int32)) h dL_law_154 (by decide) rfl ?_
        refine y_iadd (nx := 156) h dL_law_155 rfl ?_
        refine y_sld (nx := 157) h dL_law_156 rfl (fun v18 => ?_)
        refine y_aload_n (nx := 158) (i := 0) h dL_law_157 rfl 0 rfl rfl ?_
        refine y_iload_n (nx := 159) (i := 3) h dL_law_158 rfl 3 rfl rfl ?_
        refine y_iconst (nx := 160) (v := (3 : Int32)) h dL_law_159 (by decide) rfl ?_
        refine y_iadd (nx := 161) h dL_law_160 rfl ?_
        refine y_sld (nx := 162) h dL_law_161 rfl (fun v19 => ?_)
        refine y_cMi (nx := 165) (rest := [.int v15]) (As := [.int v17, .int v18, .int v19]) h (m_M_load N v17 v18 v19 T) (y_wV h y_M_load kL_22 ⟨by decide, by decide⟩ rfl rfl) rfl rfl (Nat.le_of_ble_eq_true rfl) dL_law_162 rfl (fun v20 S21 => ?_)
        refine y_icmp_eq (nx := 168) (tgt := 436) h dL_law_165 (by decide) rfl ?_ ?_
        · exact y_sub [0, 1, 2, 3] rfl (j_L_436 h N (f_L_18 N L xs n) ih a3 S16 S21)
        · refine y_iconst (nx := 169) (v := (0 : Int32)) h dL_law_168 (by decide) rfl ?_
          exact y_ret h dL_law_169
      refine y_ite (fun hq22 => ?_) (fun hq22 => ?_)
      · refine y_set hq22 ?_
        refine y_tabIn (off := 138) (tgt := 170) h dL_law_32 (by decide +kernel) (by decide +kernel) (by decide +kernel) (by decide) ?_
        refine y_aload_n (nx := 171) (i := 1) h dL_law_170 rfl 1 rfl rfl ?_
        refine y_aload_n (nx := 172) (i := 0) h dL_law_171 rfl 0 rfl rfl ?_
        refine y_iload_n (nx := 173) (i := 3) h dL_law_172 rfl 3 rfl rfl ?_
        refine y_iconst (nx := 174) (v := (1 : Int32)) h dL_law_173 (by decide) rfl ?_
        refine y_iadd (nx := 175) h dL_law_174 rfl ?_
        refine y_sld (nx := 176) h dL_law_175 rfl (fun v23 => ?_)
        refine y_cCi (nx := 179) (rest := []) (As := [.int v23]) h (m_H_peek N v23 S) (y_wV h y_H_peek kL_23 ⟨by decide, by decide⟩ rfl rfl) rfl rfl (Nat.le_of_ble_eq_true rfl) dL_law_176 rfl (fun v24 S25 => ?_)
        refine y_aload_n (nx := 180) (i := 2) h dL_law_179 rfl 2 rfl rfl ?_
        refine y_aload_n (nx := 181) (i := 0) h dL_law_180 rfl 0 rfl rfl ?_
        refine y_iload_n (nx := 182) (i := 3) h dL_law_181 rfl 3 rfl rfl ?_
        refine y_iconst (nx := 183) (v := (1 : Int32)) h dL_law_182 (by decide) rfl ?_
        refine y_iadd (nx := 184) h dL_law_183 rfl ?_
        refine y_sld (nx := 185) h dL_law_184 rfl (fun v26 => ?_)
        refine y_cMi (nx := 188) (rest := [.int v24]) (As := [.int v26]) h (m_M_peek N v26 T) (y_wV h y_M_peek kL_27 ⟨by decide, by decide⟩ rfl rfl) rfl rfl (Nat.le_of_ble_eq_true rfl) dL_law_185 rfl (fun v27 S28 => ?_)
        refine y_icmp_eq (nx := 191) (tgt := 436) h dL_law_188 (by decide) rfl ?_ ?_
        · exact y_sub [0, 1, 2, 3] rfl (j_L_436 h N (f_L_18 N L xs n) ih a3 S25 S28)
        · refine y_iconst (nx := 192) (v := (0 : Int32)) h dL_law_191 (by decide) rfl ?_
          exact y_ret h dL_law_192
      refine y_ite (fun hq29 => ?_) (fun hq29 => ?_)
      · refine y_set hq29 ?_
        refine y_tabIn (off := 161) (tgt := 193) h dL_law_32 (by decide +kernel) (by decide +kernel) (by decide +kernel) (by decide) ?_
        refine y_aload_n (nx := 194) (i := 1) h dL_law_193 rfl 1 rfl rfl ?_
        refine y_aload_n (nx := 195) (i := 0) h dL_law_194 rfl 0 rfl rfl ?_
        refine y_iload_n (nx := 196) (i := 3) h dL_law_195 rfl 3 rfl rfl ?_
        refine y_iconst (nx := 197) (v := (1 : Int32)) h dL_law_196 (by decide) rfl ?_
        refine y_iadd (nx := 198) h dL_law_197 rfl ?_
        refine y_sld (nx := 199) h dL_law_198 rfl (fun v30 => ?_)
        refine y_aload_n (nx := 200) (i := 0) h dL_law_199 rfl 0 rfl rfl ?_
        refine y_iload_n (nx := 201) (i := 3) h dL_law_200 rfl 3 rfl rfl ?_
        refine y_iconst (nx := 202) (v := (2 : Int32)) h dL_law_201 (by decide) rfl ?_
        refine y_iadd (nx := 203) h dL_law_202 rfl ?_
        refine y_sld (nx := 204) h dL_law_203 rfl (fun v31 => ?_)
        refine y_cCi (nx := 207) (rest := []) (As := [.int v30, .int v31]) h (m_H_set N v30 v31 S) (y_wV h y_H_set kL_28 ⟨by decide, by decide⟩ rfl rfl) rfl rfl (Nat.le_of_ble_eq_true rfl) dL_law_204 rfl (fun v32 S33 => ?_)
        refine y_aload_n (nx := 208) (i := 2) h dL_law_207 rfl 2 rfl rfl ?_
        refine y_aload_n (nx := 209) (i := 0) h dL_law_208 rfl 0 rfl rfl ?_
        refine y_iload_n (nx := 210) (i := 3) h dL_law_209 rfl 3 rfl rfl ?_
        refine y_iconst (nx := 211) (v := (1 : Int32)) h dL_law_210 (by decide) rfl ?_
        refine y_iadd (nx := 212) h dL_law_211 rfl ?_
        refine y_sld (nx := 213) h dL_law_212 rfl (fun v34 => ?_)
        refine y_aload_n (nx := 214) (i := 0) h dL_law_213 rfl 0 rfl rfl ?_
        refine y_iload_n (nx := 215) (i := 3) h dL_law_214 rfl 3 rfl rfl ?_
        refine y_iconst (nx := 216) (v := (2 : Int32)) h dL_law_215 (by decide) rfl ?_
        refine y_iadd (nx := 217) h dL_law_216 rfl ?_
        refine y_sld (nx := 218) h dL_law_217 rfl (fun v35 => ?_)
        refine y_cMi (nx := 221) (rest := [.int v32]) (As := [.int v34, .int v35]) h (m_M_set N v34 v35 T) (y_wV h y_M_set kL_32 ⟨by decide, by decide⟩ rfl rfl) rfl rfl (Nat.le_of_ble_eq_true rfl) dL_law_218 rfl (fun v36 S37 => ?_)
        refine y_icmp_eq (nx := 224) (tgt := 436) h dL_law_221 (by decide) rfl ?_ ?_
        · exact y_sub [0, 1, 2, 3] rfl (j_L_436 h N (f_L_18 N L xs n) ih a3 S33 S37)
        · refine y_iconst (nx := 225) (v := (0 : Int32)) h dL_law_224 (by decide) rfl ?_
          exact y_ret h dL_law_225
      refine y_ite (fun hq38 => ?_) (fun hq38 => ?_)
      · refine y_set hq38 ?_
        refine y_tabIn (off := 194) (tgt := 226) h dL_law_32 (by decide +kernel) (by decide +kernel) (by decide +kernel) (by decide) ?_
        refine y_aload_n (nx := 227) (i := 1) h dL_law_226 rfl 1 rfl rfl ?_
        refine y_aload_n (nx := 228) (i := 0) h dL_law_227 rfl 0 rfl rfl ?_
        refine y_iload_n (nx := 229) (i := 3) h dL_law_228 rfl 3 rfl rfl ?_
        refine y_iconst (nx := 230) (v := (1 : Int32)) h dL_law_229 (by decide) rfl ?_
        refine y_iadd (nx := 231) h dL_law_230 rfl ?_
        refine y_sld (nx := 232) h dL_law_231 rfl (fun v39 => ?_)
        refine y_cCi (nx := 235) (rest := []) (As := [.int v39]) h (m_H_register N v39 S) (y_wV h y_H_register kL_33 ⟨by decide, by decide⟩ rfl rfl) rfl rfl (Nat.le_of_ble_eq_true rfl) dL_law_232 rfl (fun v40 S41 => ?_)
        refine y_aload_n (nx := 236) (i := 2) h dL_law_235 rfl 2 rfl rfl ?_
        refine y_aload_n (nx := 237) (i := 0) h dL_law_236 rfl 0 rfl rfl ?_
        refine y_iload_n (nx := 238) (i := 3) h dL_law_237 rfl 3 rfl rfl ?_
        refine y_iconst (nx := 239) (v := (1 : Int32)) h dL_law_238 (by decide) rfl ?_
        refine y_iadd (nx := 240) h dL_law_239 rfl ?_
        refine y_sld (nx := 241) h dL_law_240 rfl (fun v42 => ?_)
        refine y_cMi (nx := 244) (rest := [.int v40]) (As := [.int v42]) h (m_M_register N v42 T) (y_wV h y_M_register kL_36 ⟨by decide, by decide⟩ rfl rfl) rfl rfl (Nat.le_of_ble_eq_true rfl) dL_law_241 rfl (fun v43 S44 => ?_)
        refine y_icmp_eq (nx := 247) (tgt := 436) h dL_law_244 (by decide) rfl ?_ ?_
        · exact y_sub [0, 1, 2, 3] rfl (j_L_436 h N (f_L_18 N L xs n) ih a3 S41 S44)
        · refine y_iconst (nx := 248) (v := (0 : Int32)) h dL_law_247 (by decide) rfl ?_
          exact y_ret h dL_law_248
      refine y_ite (fun hq45 => ?_) (fun hq45 => ?_)
      · refine y_set hq45 ?_
        refine y_tabIn (off := 217) (tgt := 249) h dL_law_32 (by decide +kernel) (by decide +kernel) (by decide +kernel) (by decide) ?_
        refine y_aload_n (nx := 250) (i := 1) h dL_law_249 rfl 1 rfl rfl ?_
        refine y_aload_n (nx := 251) (i := 0) h dL_law_250 rfl 0 rfl rfl ?_
        refine y_iload_n (nx := 252) (i := 3) h dL_law_251 rfl 3 rfl rfl ?_
        refine y_iconst (nx := 253) (v := (1 : Int32)) h dL_law_252 (by decide) rfl ?_
        refine y_iadd (nx := 254) h dL_law_253 rfl ?_
        refine y_sld (nx := 255) h dL_law_254 rfl (fun v46 => ?_)
        refine y_aload_n (nx := 256) (i := 0) h dL_law_255 rfl 0 rfl rfl ?_
        refine y_iload_n (nx := 257) (i := 3) h dL_law_256 rfl 3 rfl rfl ?_
        refine y_iconst (nx := 258) (v := (2 : Int32)) h dL_law_257 (by decide) rfl ?_
        refine y_iadd (nx := 259) h dL_law_258 rfl ?_
        refine y_sld (nx := 260) h dL_law_259 rfl (fun v47 => ?_)
        refine y_aload_n (nx := 261) (i := 0) h dL_law_260 rfl 0 rfl rfl ?_
        refine y_iload_n (nx := 262) (i := 3) h dL_law_261 rfl 3 rfl rfl ?_
        refine y_iconst (nx := 263) (v := (3 : Int32)) h dL_law_262 (by decide) rfl ?_
        refine y_iadd (nx := 264) h dL_law_263 rfl ?_
        refine y_sld (nx := 265) h dL_law_264 rfl (fun v48 => ?_)
        refine y_if_eq (nx := 268) (tgt := 272) h dL_law_265 (by decide) rfl ?_ ?_
        · refine y_iconst (nx := 273) (v := (0 : Int32)) h dL_law_272 (by decide) rfl ?_
          exact y_sub [0, 1, 2, 3] rfl (j_L_273 h N (f_L_18 N L xs n) ih a3 v46 v47 (0 : Int32) S T)
        · refine y_iconst (nx := 269) (v := (1 : Int32)) h dL_law_268 (by decide) rfl ?_
          refine y_goto (tgt := 273) h dL_law_269 (by decide) ?_
          exact y_sub [0, 1, 2, 3] rfl (j_L_273 h N (f_L_18 N L xs n) ih a3 v46 v47 (1 : Int32) S T)
      refine y_ite (fun hq49 => ?_) (fun hq49 => ?_)
      · refine y_set hq49 ?_
        refine y_tabIn (off := 276) (tgt := 308) h dL_law_32 (by decide +kernel) (by decide +kernel) (by decide +kernel) (by decide) ?_
        refine y_aload_n (nx := 309) (i := 1) h dL_law_308 rfl 1 rfl rfl ?_
        refine y_aload_n (nx := 310) (i := 0) h dL_law_309 rfl 0 rfl rfl ?_
        refine y_iload_n (nx := 311) (i := 3) h dL_law_310 rfl 3 rfl rfl ?_
        refine y_iconst (nx := 312) (v := (1 : Int32)) h dL_law_311 (by decide) rfl ?_
        refine y_iadd (nx := 313) h dL_law_312 rfl ?_
        refine y_sld (nx := 314) h dL_law_313 rfl (fun v50 => ?_)
        refine y_cCi (nx := 317) (rest := []) (As := [.int v50]) h (m_H_pulse N v50 S) (y_wV h y_H_pulse kL_42 ⟨by decide, by decide⟩ rfl rfl) rfl rfl (Nat.le_of_ble_eq_true rfl) dL_law_314 rfl (fun v51 S52 => ?_)
        refine y_aload_n (nx := 318) (i := 2) h dL_law_317 rfl 2 rfl rfl ?_
        refine y_aload_n (nx := 319) (i := 0) h dL_law_318 rfl 0 rfl rfl ?_
        refine y_iload_n (nx := 320) (i := 3) h dL_law_319 rfl 3 rfl rfl ?_
        refine y_iconst (nx := 321) (v := (1 : Int32)) h dL_law_320 (by decide) rfl ?_
        refine y_iadd (nx := 322) h dL_law_321 rfl ?_
        refine y_sld (nx := 323) h dL_law_322 rfl (fun v53 => ?_)
        refine y_cMi (nx := 326) (rest := [.int v51]) (As := [.int v53]) h (m_M_pulse N v53 T) (y_wV h y_M_pulse kL_46 ⟨by decide, by decide⟩ rfl rfl) rfl rfl (Nat.le_of_ble_eq_true rfl) dL_law_323 rfl (fun v54 S55 => ?_)
        refine y_icmp_eq (nx := 329) (tgt := 436) h dL_law_326 (by decide) rfl ?_ ?_
        · exact y_sub [0, 1, 2, 3] rfl (j_L_436 h N (f_L_18 N L xs n) ih a3 S52 S55)
        · refine y_iconst (nx := 330) (v := (0 : Int32)) h dL_law_329 (by decide) rfl ?_
          exact y_ret h dL_law_330
      refine y_ite (fun hq56 => ?_) (fun hq56 => ?_)
      · refine y_set hq56 ?_
        refine y_tabIn (off := 299) (tgt := 331) h dL_law_32 (by decide +kernel) (by decide +kernel) (by decide +kernel) (by decide) ?_
        refine y_aload_n (nx := 332) (i := 1) h dL_law_331 rfl 1 rfl rfl ?_
        refine y_aload_n (nx := 333) (i := 0) h dL_law_332 rfl 0 rfl rfl ?_
        refine y_iload_n (nx := 334) (i := 3) h dL_law_333 rfl 3 rfl rfl ?_
        refine y_iconst (nx := 335) (v := (1 : Int32)) h dL_law_334 (by decide) rfl ?_
        refine y_iadd (nx := 336) h dL_law_335 rfl ?_
        refine y_sld (nx := 337) h dL_law_336 rfl (fun v57 => ?_)
        refine y_cCi (nx := 340) (rest := []) (As := [.int v57]) h (m_H_tape N v57 S) (y_wV h y_H_tape kL_47 ⟨by decide, by decide⟩ rfl rfl) rfl rfl (Nat.le_of_ble_eq_true rfl) dL_law_337 rfl (fun v58 S59 => ?_)
        refine y_aload_n (nx := 341) (i := 2) h dL_law_340 rfl 2 rfl rfl ?_
        refine y_aload_n (nx := 342) (i := 0) h dL_law_341 rfl 0 rfl rfl ?_
        refine y_iload_n (nx := 343) (i := 3) h dL_law_342 rfl 3 rfl rfl ?_
        refine y_iconst (nx := 344) (v := (1 : Int32)) h dL_law_343 (by decide) rfl ?_
        refine y_iadd (nx := 345) h dL_law_344 rfl ?_
        refine y_sld (nx := 346) h dL_law_345 rfl (fun v60 => ?_)
        refine y_cMi (nx := 349) (rest := [.int v58]) (As := [.int v60]) h (m_M_tape N v60 T) (y_wV h y_M_tape kL_50 ⟨by decide, by decide⟩ rfl rfl) rfl rfl (Nat.le_of_ble_eq_true rfl) dL_law_346 rfl (fun v61 S62 => ?_)
        refine y_icmp_eq (nx := 352) (tgt := 436) h dL_law_349 (by decide) rfl ?_ ?_
        · exact y_sub [0, 1, 2, 3] rfl (j_L_436 h N (f_L_18 N L xs n) ih a3 S59 S62)
        · refine y_iconst (nx := 353) (v := (0 : Int32)) h dL_law_352 (by decide) rfl ?_
          exact y_ret h dL_law_353
      refine y_ite (fun hq63 => ?_) (fun hq63 => ?_)
      · refine y_set hq63 ?_
        refine y_tabIn (off := 322) (tgt := 354) h dL_law_32 (by decide +kernel) (by decide +kernel) (by decide +kernel) (by decide) ?_
        refine y_aload_n (nx := 355) (i := 1) h dL_law_354 rfl 1 rfl rfl ?_
        refine y_aload_n (nx := 356) (i := 0) h dL_law_355 rfl 0 rfl rfl ?_
        refine y_iload_n (nx := 357) (i := 3) h dL_law_356 rfl 3 rfl rfl ?_
        refine y_iconst (nx := 358) (v := (1 : Int32)) h dL_law_357 (by decide) rfl ?_
        refine y_iadd (nx := 359) h dL_law_358 rfl ?_
        refine y_sld (nx := 360) h dL_law_359 rfl (fun v64 => ?_)
        refine y_cCi (nx := 363) (rest := []) (As := [.int v64]) h (m_H_step N v64 S) (y_wV h y_H_step kL_51 ⟨by decide, by decide⟩ rfl rfl) rfl rfl (Nat.le_of_ble_eq_true rfl) dL_law_360 rfl (fun v65 S66 => ?_)
        refine y_aload_n (nx := 364) (i := 2) h dL_law_363 rfl 2 rfl rfl ?_
        refine y_aload_n (nx := 365) (i := 0) h dL_law_364 rfl 0 rfl rfl ?_
        refine y_iload_n (nx := 366) (i := 3) h dL_law_365 rfl 3 rfl rfl ?_
        refine y_iconst (nx := 367) (v := (1 : Int32)) h dL_law_366 (by decide) rfl ?_
        refine y_iadd (nx := 368) h dL_law_367 rfl ?_
        refine y_sld (nx := 369) h dL_law_368 rfl (fun v67 => ?_)
        refine y_cMi (nx := 372) (rest := [.int v65]) (As := [.int v67]) h (m_M_step N v67 T) (y_wV h y_M_step kL_54 ⟨by decide, by decide⟩ rfl rfl) rfl rfl (Nat.le_of_ble_eq_true rfl) dL_law_369 rfl (fun v68 S69 => ?_)
        refine y_icmp_eq (nx := 375) (tgt := 436) h dL_law_372 (by decide) rfl ?_ ?_
        · exact y_sub [0, 1, 2, 3] rfl (j_L_436 h N (f_L_18 N L xs n) ih a3 S66 S69)
        · refine y_iconst (nx := 376) (v := (0 : Int32)) h dL_law_375 (by decide) rfl ?_
          exact y_ret h dL_law_376
      refine y_ite (fun hq70 => ?_) (fun hq70 => ?_)
      · refine y_set hq70 ?_
        refine y_tabIn (off := 345) (tgt := 377) h dL_law_32 (by decide +kernel) (by decide +kernel) (by decide +kernel) (by decide) ?_
        refine y_aload_n (nx := 378) (i := 1) h dL_law_377 rfl 1 rfl rfl ?_
        refine y_cCi (nx := 381) (rest := []) (As := []) h (m_H_frame N S) (y_wV h y_H_frame kL_55 ⟨by decide, by decide⟩ rfl rfl) rfl rfl (Nat.le_of_ble_eq_true rfl) dL_law_378 rfl (fun v71 S72 => ?_)
        refine y_aload_n (nx := 382) (i := 2) h dL_law_381 rfl 2 rfl rfl ?_
        refine y_cMi (nx := 385) (rest := [.int v71]) (As := []) h (m_M_frame N T) (y_wV h y_M_frame kL_59 ⟨by decide, by decide⟩ rfl rfl) rfl rfl (Nat.le_of_ble_eq_true rfl) dL_law_382 rfl (fun v73 S74 => ?_)
        refine y_icmp_eq (nx := 388) (tgt := 436) h dL_law_385 (by decide) rfl ?_ ?_
        · exact y_sub [0, 1, 2, 3] rfl (j_L_436 h N (f_L_18 N L xs n) ih a3 S72 S74)
        · refine y_iconst (nx := 389) (v := (0 : Int32)) h dL_law_388 (by decide) rfl ?_
          exact y_ret h dL_law_389
      refine y_ite (fun hq75 => ?_) (fun hq75 => ?_)
      · refine y_set hq75 ?_
        refine y_tabIn (off := 358) (tgt := 390) h dL_law_32 (by decide +kernel) (by decide +kernel) (by decide +kernel) (by decide) ?_
        refine y_aload_n (nx := 391) (i := 1) h dL_law_390 rfl 1 rfl rfl ?_
        refine y_aload_n (nx := 392) (i := 0) h dL_law_391 rfl 0 rfl rfl ?_
        refine y_iload_n (nx := 393) (i := 3) h dL_law_392 rfl 3 rfl rfl ?_
        refine y_iconst (nx := 394) (v := (1 : Int32)) h dL_law_393 (by decide) rfl ?_
        refine y_iadd (nx := 395) h dL_law_394 rfl ?_
        refine y_sld (nx := 396) h dL_law_395 rfl (fun v76 => ?_)
        refine y_cCi (nx := 399) (rest := []) (As := [.int v76]) h (m_H_look N v76 S) (y_wV h y_H_look kL_60 ⟨by decide, by decide⟩ rfl rfl) rfl rfl (Nat.le_of_ble_eq_true rfl) dL_law_396 rfl (fun v77 S78 => ?_)
        refine y_aload_n (nx := 400) (i := 2) h dL_law_399 rfl 2 rfl rfl ?_
        refine y_aload_n (nx := 401) (i := 0) h dL_law_400 rfl 0 rfl rfl ?_
        refine y_iload_n (nx := 402) (i := 3) h dL_law_401 rfl 3 rfl rfl ?_
        refine y_iconst (nx := 403) (v := (1 : Int32)) h dL_law_402 (by decide) rfl ?_
        refine y_iadd (nx := 404) h dL_law_403 rfl ?_
        refine y_sld (nx := 405) h dL_law_404 rfl (fun v79 => ?_)
        refine y_cMi (nx := 408) (rest := [.int v77]) (As := [.int v79]) h (m_M_look N v79 T) (y_wV h y_M_look kL_63 ⟨by decide, by decide⟩ rfl rfl) rfl rfl (Nat.le_of_ble_eq_true rfl) dL_law_405 rfl (fun v80 S81 => ?_)
        refine y_icmp_eq (nx := 411) (tgt := 436) h dL_law_408 (by decide) rfl ?_ ?_
        · exact y_sub [0, 1, 2, 3] rfl (j_L_436 h N (f_L_18 N L xs n) ih a3 S78 S81)
        · refine y_iconst (nx := 412) (v := (0 : Int32)) h dL_law_411 (by decide) rfl ?_
          exact y_ret h dL_law_412
      refine y_ite (fun hq82 => ?_) (fun hq82 => ?_)
      · refine y_set hq82 ?_
        refine y_tabIn (off := 381) (tgt := 413) h dL_law_32 (by decide +kernel) (by decide +kernel) (by decide +kernel) (by decide) ?_
        refine y_aload_n (nx := 414) (i := 1) h dL_law_413 rfl 1 rfl rfl ?_
        refine y_aload_n (nx := 415) (i := 0) h dL_law_414 rfl 0 rfl rfl ?_
        refine y_iload_n (nx := 416) (i := 3) h dL_law_415 rfl 3 rfl rfl ?_
        refine y_iconst (nx := 417) (v := (1 : Int32)) h dL_law_416 (by decide) rfl ?_
        refine y_iadd (nx := 418) h dL_law_417 rfl ?_
        refine y_sld (nx := 419) h dL_law_418 rfl (fun v83 => ?_)
        refine y_cCi (nx := 422) (rest := []) (As := [.int v83]) h (m_H_stripe N v83 S) (y_wV h y_H_stripe kL_64 ⟨by decide, by decide⟩ rfl rfl) rfl rfl (Nat.le_of_ble_eq_true rfl) dL_law_419 rfl (fun v84 S85 => ?_)
        refine y_aload_n (nx := 423) (i := 2) h dL_law_422 rfl 2 rfl rfl ?_
        refine y_aload_n (nx := 424) (i := 0) h dL_law_423 rfl 0 rfl rfl ?_
        refine y_iload_n (nx := 425) (i := 3) h dL_law_424 rfl 3 rfl rfl ?_
        refine y_iconst (nx := 426) (v := (1 : Int32)) h dL_law_425 (by decide) rfl ?_
        refine y_iadd (nx := 427) h dL_law_426 rfl ?_
        refine y_sld (nx := 428) h dL_law_427 rfl (fun v86 => ?_)
        refine y_cMi (nx := 431) (rest := [.int v84]) (As := [.int v86]) h (m_M_stripe N v86 T) (y_wV h y_M_stripe kL_67 ⟨by decide, by decide⟩ rfl rfl) rfl rfl (Nat.le_of_ble_eq_true rfl) dL_law_428 rfl (fun v87 S88 => ?_)
        refine y_icmp_eq (nx := 434) (tgt := 436) h dL_law_431 (by decide) rfl ?_ ?_
        · exact y_sub [0, 1, 2, 3] rfl (j_L_436 h N (f_L_18 N L xs n) ih a3 S85 S88)
        · refine y_iconst (nx := 435) (v := (0 : Int32)) h dL_law_434 (by decide) rfl ?_
          exact y_ret h dL_law_435
      refine y_tabOut (tgt := 436) h dL_law_32 (by have z0 := lv_neT (a := 0) hq2 (by decide +kernel); have z1 := lv_neT (a := 1) hq11 (by decide +kernel); have z2 := lv_neT (a := 2) hq22 (by decide +kernel); have z3 := lv_neT (a := 3) hq29 (by decide +kernel); have z4 := lv_neT (a := 4) hq38 (by decide +kernel); have z5 := lv_neT (a := 5) hq45 (by decide +kernel); have z6 := lv_neT (a := 6) hq49 (by decide +kernel); have z7 := lv_neT (a := 7) hq56 (by decide +kernel); have z8 := lv_neT (a := 8) hq63 (by decide +kernel); have z9 := lv_neT (a := 9) hq70 (by decide +kernel); have z10 := lv_neT (a := 10) hq75 (by decide +kernel); have z11 := lv_neT (a := 11) hq82 (by decide +kernel); omega) (by decide) ?_
      exact y_sub [0, 1, 2, 3] rfl (j_L_436 h N (f_L_18 N L xs n) ih a3 S T)
