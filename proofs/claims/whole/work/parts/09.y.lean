/-! The law's layer: the two worlds side by side, the script, and a pure function of the law; as the X layer. -/
def yB (o : xR) (k : Int32 → xSt → Option Int32) : Option Int32 := match o with
  | none => none
  | some q => k q.1 q.2
def yRd (L : Nat) (xs : Nat → Int32) (i : Int32) (k : Int32 → Option Int32) : Option Int32 := if (i < 0 ∨ L ≤ i.toNatClampNeg) then none else k (xs i.toNatClampNeg)
def yC (p : Program) (s : State) (m : MethodId) (meth : Method) (c : Code) (b L : Nat) (xs : Nat → Int32) (D : va_G) (ca ca2 : Nat → ClassId) : Prop :=
  p.tables.exec = Jvm.exec ∧ c.code = code ∧ c.maxLocals = 4 ∧ s.vm.findClass "HomeComputerLaw" = some m.cls ∧ (∀ w ∈ wA, w.before #[Value.ref b] s = true) ∧ va_K D clA (tysC ca ++ tysM ca2) s ∧ meth.sig.returnType = ret ∧ meth.locks = false ∧ (va_X b L xs s s.heap ∧ b < s.heap.size) ∧ ∀ w ∈ nW, xNest w = true ∧ va_Nw w s
def yQ (below : List Frame) (b : Nat) (s : State) : State → Prop := fun t => ∃ o, t.status = .running ∧ Ended t below o ∧ o = .returned (some (.int 1)) ∧ Framed s o t [] 17 8544
def yJ (p : Program) (l : Launch) (e : Env) (s : State) (m : MethodId) (below : List Frame) (meth : Method) (c : Code) (b : Nat) (D : va_G) (ad ad2 : Nat → Nat) (ca ca2 : Nat → ClassId) (pc : Nat) (lv : List (Nat × Value)) (st : List Value) (S T : xSt) (F : Option Int32) : Prop :=
  F = some 1 → ∀ (ls : Array Slot) (H : Heap) (locs : List Loc), lv_has ls 4 lv → va_P D clA (cellsC ad ca S ++ cellsM ad2 ca2 T) H → va_D (fun q => s.heap.size ≤ q) (cellsC ad ca S ++ cellsM ad2 ca2 T) → va_S (fun q => s.heap.size ≤ q) s.heap H locs →
    W p l e room_1 s m #[Value.ref b] below meth c H locs 17 8544 (yQ below b s) (F0 m pc ls st)
section YL
variable {p : Program} {l : Launch} {e : Env} {s : State} {m : MethodId} {below : List Frame} {meth : Method} {c : Code} {b L : Nat} {xs : Nat → Int32} {D : va_G} {ad ad2 : Nat → Nat} {ca ca2 : Nat → ClassId} {pc nx : Nat} {lv lv' : List (Nat × Value)} {st rest : List Value} {S T : xSt} {F F1 F2 : Option Int32}

theorem y_none : yJ p l e s m below meth c b D ad ad2 ca ca2 pc lv st S T none := by intro hF; cases hF
theorem y_ite {q : Prop} [Decidable q] (k1 : q → yJ p l e s m below meth c b D ad ad2 ca ca2 pc lv st S T F1) (k2 : ¬ q → yJ p l e s m below meth c b D ad ad2 ca ca2 pc lv st S T F2) : yJ p l e s m below meth c b D ad ad2 ca ca2 pc lv st S T (if q then F1 else F2) := by
  by_cases hq : q
  · rw [if_pos hq]; exact k1 hq
  · rw [if_neg hq]; exact k2 hq
theorem y_sub (ks : List Nat) (hk : lv_pick lv ks = lv') (k : yJ p l e s m below meth c b D ad ad2 ca ca2 pc lv' st S T F) : yJ p l e s m below meth c b D ad ad2 ca ca2 pc lv st S T F := fun hF ls H locs hl hP hD hS => k hF ls H locs (lv_sub hl ks hk) hP hD hS
theorem y_iconst (h : yC p s m meth c b L xs D ca ca2) {n : Int} {v : Int32} (hdg : decode code pc = .ok (.iconst n, 1)) (hv : Int32.ofInt n = v) (hn : pc + 1 = nx) (k : yJ p l e s m below meth c b D ad ad2 ca ca2 nx lv (.int v :: rest) S T F) : yJ p l e s m below meth c b D ad ad2 ca ca2 pc lv rest S T F := by
  intro hF ls H locs hl hP hD hS
  subst hn
  exact lv_iconst h.1 h.2.1 hdg hv (k hF ls H locs hl hP hD hS)
theorem y_bipush (h : yC p s m meth c b L xs D ca ca2) {n : Int} {v : Int32} (hdg : decode code pc = .ok (.bipush n, 2)) (hv : (Int8.ofInt n).toInt32 = v) (hn : pc + 2 = nx) (k : yJ p l e s m below meth c b D ad ad2 ca ca2 nx lv (.int v :: rest) S T F) : yJ p l e s m below meth c b D ad ad2 ca ca2 pc lv rest S T F := by
  intro hF ls H locs hl hP hD hS
  subst hn
  exact lv_bipush h.1 h.2.1 hdg hv (k hF ls H locs hl hP hD hS)
theorem y_iadd (h : yC p s m meth c b L xs D ca ca2) {x y : Int32} (hdg : decode code pc = .ok (.iadd, 1)) (hn : pc + 1 = nx) (k : yJ p l e s m below meth c b D ad ad2 ca ca2 nx lv (.int (x + y) :: rest) S T F) : yJ p l e s m below meth c b D ad ad2 ca ca2 pc lv (.int y :: .int x :: rest) S T F := by
  intro hF ls H locs hl hP hD hS
  subst hn
  exact lv_iadd h.1 h.2.1 hdg (k hF ls H locs hl hP hD hS)
theorem y_isub (h : yC p s m meth c b L xs D ca ca2) {x y : Int32} (hdg : decode code pc = .ok (.isub, 1)) (hn : pc + 1 = nx) (k : yJ p l e s m below meth c b D ad ad2 ca ca2 nx lv (.int (x - y) :: rest) S T F) : yJ p l e s m below meth c b D ad ad2 ca ca2 pc lv (.int y :: .int x :: rest) S T F := by
  intro hF ls H locs hl hP hD hS
  subst hn
  exact lv_isub h.1 h.2.1 hdg (k hF ls H locs hl hP hD hS)
theorem y_iand (h : yC p s m meth c b L xs D ca ca2) {x y : Int32} (hdg : decode code pc = .ok (.iand, 1)) (hn : pc + 1 = nx) (k : yJ p l e s m below meth c b D ad ad2 ca ca2 nx lv (.int (x &&& y) :: rest) S T F) : yJ p l e s m below meth c b D ad ad2 ca ca2 pc lv (.int y :: .int x :: rest) S T F := by
  intro hF ls H locs hl hP hD hS
  subst hn
  exact lv_iand h.1 h.2.1 hdg (k hF ls H locs hl hP hD hS)
theorem y_iload_n (h : yC p s m meth c b L xs D ca ca2) {k0 : Fin 4} {i : Nat} {x : Int32} (hdg : decode code pc = .ok (.iload_n k0, 1)) (hi : (k0 : Nat) = i) (j : Nat) (hj : lv[j]? = some (i, .int x)) (hn : pc + 1 = nx) (k : yJ p l e s m below meth c b D ad ad2 ca ca2 nx lv (.int x :: rest) S T F) : yJ p l e s m below meth c b D ad ad2 ca ca2 pc lv rest S T F := by
  intro hF ls H locs hl hP hD hS
  subst hn
  exact lv_iload_n h.1 h.2.1 hdg hi (lv_at hl j hj) (k hF ls H locs hl hP hD hS)
theorem y_aload_n (h : yC p s m meth c b L xs D ca ca2) {k0 : Fin 4} {i : Nat} {x : Nat} (hdg : decode code pc = .ok (.aload_n k0, 1)) (hi : (k0 : Nat) = i) (j : Nat) (hj : lv[j]? = some (i, .ref x)) (hn : pc + 1 = nx) (k : yJ p l e s m below meth c b D ad ad2 ca ca2 nx lv (.ref x :: rest) S T F) : yJ p l e s m below meth c b D ad ad2 ca ca2 pc lv rest S T F := by
  intro hF ls H locs hl hP hD hS
  subst hn
  exact lv_aload_n h.1 h.2.1 hdg hi (lv_at hl j hj) (k hF ls H locs hl hP hD hS)
theorem y_istore_n (h : yC p s m meth c b L xs D ca ca2) {k0 : Fin 4} {i : Nat} {x : Int32} (hdg : decode code pc = .ok (.istore_n k0, 1)) (hi : (k0 : Nat) = i) (hN : i < 4) (hl' : (i, Value.int x) :: lv.filter (fun q => !(q.1 == i) && !(q.1 + 1 == i && q.2.category == 2)) = lv') (hn : pc + 1 = nx) (k : yJ p l e s m below meth c b D ad ad2 ca ca2 nx lv' rest S T F) : yJ p l e s m below meth c b D ad ad2 ca ca2 pc lv (.int x :: rest) S T F := by
  intro hF ls H locs hl hP hD hS
  subst hn
  exact lv_istore_n h.1 h.2.1 hdg hi hl hN hl' (fun ls2 hl2 => k hF ls2 H locs hl2 hP hD hS)
theorem y_iinc (h : yC p s m meth c b L xs D ca ca2) {i : Nat} {n : Int} {x v : Int32} (hdg : decode code pc = .ok (.iinc i n, 3)) (j : Nat) (hj : lv[j]? = some (i, .int x)) (hv : x + Int32.ofInt n = v) (hN : i < 4) (hl' : (i, Value.int v) :: lv.filter (fun q => !(q.1 == i) && !(q.1 + 1 == i && q.2.category == 2)) = lv') (hn : pc + 3 = nx) (k : yJ p l e s m below meth c b D ad ad2 ca ca2 nx lv' rest S T F) : yJ p l e s m below meth c b D ad ad2 ca ca2 pc lv rest S T F := by
  intro hF ls H locs hl hP hD hS
  subst hn
  exact lv_iinc h.1 h.2.1 hdg hl hj hv hN hl' (fun ls2 hl2 => k hF ls2 H locs hl2 hP hD hS)
theorem y_goto (h : yC p s m meth c b L xs D ca ca2) {off : Int} {tgt : Nat} (hdg : decode code pc = .ok (.goto off, 3)) (ht : (pc : Int) + off = (tgt : Int)) (k : yJ p l e s m below meth c b D ad ad2 ca ca2 tgt lv st S T F) : yJ p l e s m below meth c b D ad ad2 ca ca2 pc lv st S T F := by
  intro hF ls H locs hl hP hD hS
  exact lv_goto h.1 h.2.1 hdg ht (k hF ls H locs hl hP hD hS)
theorem y_slen (h : yC p s m meth c b L xs D ca ca2) (hdg : decode code pc = .ok (.arraylength, 1)) (hn : pc + 1 = nx) (k : yJ p l e s m below meth c b D ad ad2 ca ca2 nx lv (.int (Int32.ofNat L) :: rest) S T F) : yJ p l e s m below meth c b D ad ad2 ca ca2 pc lv (.ref b :: rest) S T F := by
  intro hF ls H locs hl hP hD hS
  subst hn
  exact va_slen h.1 h.2.1 h.2.2.2.2.2.2.2.2.1.1 h.2.2.2.2.2.2.2.2.1.2 (Nat.not_le.mpr h.2.2.2.2.2.2.2.2.1.2) hS hdg (k hF ls H locs hl hP hD hS)
theorem y_sld (h : yC p s m meth c b L xs D ca ca2) {i : Int32} {K : Int32 → Option Int32} (hdg : decode code pc = .ok (.iaload, 1)) (hn : pc + 1 = nx) (k : ∀ v : Int32, yJ p l e s m below meth c b D ad ad2 ca ca2 nx lv (.int v :: rest) S T (K v)) : yJ p l e s m below meth c b D ad ad2 ca ca2 pc lv (.int i :: .ref b :: rest) S T (yRd L xs i K) := by
  intro hF ls H locs hl hP hD hS
  subst hn
  unfold yRd at hF
  by_cases hi : i < 0 ∨ L ≤ i.toNatClampNeg
  · rw [if_pos hi] at hF; cases hF
  · rw [if_neg hi] at hF
    exact va_sld h.1 h.2.1 h.2.2.2.2.2.2.2.2.1.1 h.2.2.2.2.2.2.2.2.1.2 (Nat.not_le.mpr h.2.2.2.2.2.2.2.2.1.2) hS hi hdg (k _ hF ls H locs hl hP hD hS)
theorem y_set {x v : Int32} (hx : x = v) (k : yJ p l e s m below meth c b D ad ad2 ca ca2 pc lv (.int v :: rest) S T F) : yJ p l e s m below meth c b D ad ad2 ca ca2 pc lv (.int x :: rest) S T F := by subst hx; exact k
theorem y_tabOut (h : yC p s m meth c b L xs D ca ca2) {dflt lo hi : Int} {offs : Array Int} {len : Nat} {x : Int32} {tgt : Nat} (hdg : decode code pc = .ok (.tableswitch dflt lo hi offs, len)) (hx : x.toInt < lo ∨ hi < x.toInt) (ht : (pc : Int) + dflt = (tgt : Int)) (k : yJ p l e s m below meth c b D ad ad2 ca ca2 tgt lv rest S T F) : yJ p l e s m below meth c b D ad ad2 ca ca2 pc lv (.int x :: rest) S T F := by
  intro hF ls H locs hl hP hD hS
  exact lv_tableOut h.1 h.2.1 hdg hx ht (k hF ls H locs hl hP hD hS)
theorem y_tabIn (h : yC p s m meth c b L xs D ca ca2) {dflt lo hi : Int} {offs : Array Int} {len : Nat} {x : Int32} {off : Int} {tgt : Nat} (hdg : decode code pc = .ok (.tableswitch dflt lo hi offs, len)) (h1 : ¬ x.toInt < lo) (h2 : ¬ hi < x.toInt) (ho : offs[(x.toInt - lo).toNat]? = some off) (ht : (pc : Int) + off = (tgt : Int)) (k : yJ p l e s m below meth c b D ad ad2 ca ca2 tgt lv rest S T F) : yJ p l e s m below meth c b D ad ad2 ca ca2 pc lv (.int x :: rest) S T F := by
  intro hF ls H locs hl hP hD hS
  exact lv_tableIn h.1 h.2.1 hdg h1 h2 ho ht (k hF ls H locs hl hP hD hS)
theorem y_ret (h : yC p s m meth c b L xs D ca ca2) {v : Int32} (hdg : decode code pc = .ok (.ireturn, 1)) : yJ p l e s m below meth c b D ad ad2 ca ca2 pc lv [.int v] S T (some v) := by
  intro hF ls H locs hl hP hD hS
  have hv : v = 1 := Option.some.inj hF
  subst hv
  refine va_forget (fun q hq => hS.2.2 q hq) ?_
  have hx := h.1; have hb := h.2.1; have hr := h.2.2.2.2.2.2.1; have hlocks := h.2.2.2.2.2.2.2.1
  intro T0 hT X
  obtain ⟨fs, hret, hrun, hended, hW, hframe⟩ := X.leave (v := some (.int 1)) (hlocks := hlocks) (fun h => by rw [hr] at h; cases h)
  have hmeth' : T0.vm.method? m = some meth := X.method'
  refine ⟨T0.setFrames fs, ?_, .returned (some (.int 1)), hrun, hended, rfl, ⟨_, rfl⟩, hW, hframe⟩
  jvm_step X.here [X.here.top, hx, hb, hdg, hmeth', hr, ret, narrow_b1]
  (try refine ⟨rfl, ?_⟩); (try refine ⟨rfl, ?_⟩)
  first | (intro acts; rw [hret _ acts rfl rfl rfl]) | rw [hret _ _ rfl rfl rfl]
  exact Steps.refl _
theorem y_if_eq (h : yC p s m meth c b L xs D ca ca2) {x : Int32} {off : Int} {tgt : Nat} (hdg : decode code pc = .ok (.ifCond .eq off, 3)) (ht : (pc : Int) + off = (tgt : Int)) (hn : pc + 3 = nx) (k1 : yJ p l e s m below meth c b D ad ad2 ca ca2 tgt lv rest S T F1) (k2 : yJ p l e s m below meth c b D ad ad2 ca ca2 nx lv rest S T F2) : yJ p l e s m below meth c b D ad ad2 ca ca2 pc lv (.int x :: rest) S T (if x = 0 then F1 else F2) := by
  intro hF ls H locs hl hP hD hS
  subst hn
  refine lv_if_eq h.1 h.2.1 hdg ht (fun hq => ?_) (fun hq => ?_)
  · rw [if_pos hq] at hF; exact k1 hF ls H locs hl hP hD hS
  · rw [if_neg hq] at hF; exact k2 hF ls H locs hl hP hD hS
theorem y_if_ne (h : yC p s m meth c b L xs D ca ca2) {x : Int32} {off : Int} {tgt : Nat} (hdg : decode code pc = .ok (.ifCond .ne off, 3)) (ht : (pc : Int) + off = (tgt : Int)) (hn : pc + 3 = nx) (k1 : yJ p l e s m below meth c b D ad ad2 ca ca2 tgt lv rest S T F2) (k2 : yJ p l e s m below meth c b D ad ad2 ca ca2 nx lv rest S T F1) : yJ p l e s m below meth c b D ad ad2 ca ca2 pc lv (.int x :: rest) S T (if x = 0 then F1 else F2) := by
  intro hF ls H locs hl hP hD hS
  subst hn
  refine lv_if_ne h.1 h.2.1 hdg ht (fun hq => ?_) (fun hq => ?_)
  · rw [if_neg hq] at hF; exact k1 hF ls H locs hl hP hD hS
  · rw [if_pos hq] at hF; exact k2 hF ls H locs hl hP hD hS
theorem y_icmp_eq (h : yC p s m meth c b L xs D ca ca2) {x y : Int32} {off : Int} {tgt : Nat} (hdg : decode code pc = .ok (.if_icmp .eq off, 3)) (ht : (pc : Int) + off = (tgt : Int)) (hn : pc + 3 = nx) (k1 : yJ p l e s m below meth c b D ad ad2 ca ca2 tgt lv rest S T F1) (k2 : yJ p l e s m below meth c b D ad ad2 ca ca2 nx lv rest S T F2) : yJ p l e s m below meth c b D ad ad2 ca ca2 pc lv (.int y :: .int x :: rest) S T (if x = y then F1 else F2) := by
  intro hF ls H locs hl hP hD hS
  subst hn
  refine lv_icmp_eq h.1 h.2.1 hdg ht (fun hq => ?_) (fun hq => ?_)
  · rw [if_pos hq] at hF; exact k1 hF ls H locs hl hP hD hS
  · rw [if_neg hq] at hF; exact k2 hF ls H locs hl hP hD hS
theorem y_icmp_ne (h : yC p s m meth c b L xs D ca ca2) {x y : Int32} {off : Int} {tgt : Nat} (hdg : decode code pc = .ok (.if_icmp .ne off, 3)) (ht : (pc : Int) + off = (tgt : Int)) (hn : pc + 3 = nx) (k1 : yJ p l e s m below meth c b D ad ad2 ca ca2 tgt lv rest S T F2) (k2 : yJ p l e s m below meth c b D ad ad2 ca ca2 nx lv rest S T F1) : yJ p l e s m below meth c b D ad ad2 ca ca2 pc lv (.int y :: .int x :: rest) S T (if x = y then F1 else F2) := by
  intro hF ls H locs hl hP hD hS
  subst hn
  refine lv_icmp_ne h.1 h.2.1 hdg ht (fun hq => ?_) (fun hq => ?_)
  · rw [if_neg hq] at hF; exact k1 hF ls H locs hl hP hD hS
  · rw [if_pos hq] at hF; exact k2 hF ls H locs hl hP hD hS
theorem y_icmp_gt (h : yC p s m meth c b L xs D ca ca2) {x y : Int32} {off : Int} {tgt : Nat} (hdg : decode code pc = .ok (.if_icmp .gt off, 3)) (ht : (pc : Int) + off = (tgt : Int)) (hn : pc + 3 = nx) (k1 : yJ p l e s m below meth c b D ad ad2 ca ca2 tgt lv rest S T F1) (k2 : yJ p l e s m below meth c b D ad ad2 ca ca2 nx lv rest S T F2) : yJ p l e s m below meth c b D ad ad2 ca ca2 pc lv (.int y :: .int x :: rest) S T (if y < x then F1 else F2) := by
  intro hF ls H locs hl hP hD hS
  subst hn
  refine lv_icmp_gt h.1 h.2.1 hdg ht (fun hq => ?_) (fun hq => ?_)
  · rw [if_pos hq] at hF; exact k1 hF ls H locs hl hP hD hS
  · rw [if_neg hq] at hF; exact k2 hF ls H locs hl hP hD hS
theorem y_good {cy : Cond} (hy : cy ∈ wA) : GoodIn wA (cy :: wA) := by
  intro w hw
  rcases List.mem_cons.mp hw with rfl | hw
  · exact ⟨hy, goA _ hy⟩
  · exact ⟨hw, goA _ hw⟩
theorem y_wV (h : yC p s m meth c b L xs D ca ca2) {y : MethodName} {bytes : ByteArray} {maxL n index : Nat} {ret2 : Option FieldType} {rm : Room} {C : String} (hy : xYv wA y bytes maxL ret2 n C) (hl : Cond.methodLink "HomeComputerLaw" index y ∈ wA) (hR : rm.frames + 1 ≤ room_1.frames ∧ 8 + (maxL + 11) + rm.locals ≤ room_1.locals) (hrc : rm.cells = 0) (hrs : rm.slots = 0) : CallW room_1 s #[Value.ref b] "HomeComputerLaw" C index y bytes maxL ret2 (Cond.code y bytes maxL ret2 :: wA) rm 0 0 n :=
  ⟨callB_of n h.2.2.2.2.1 (y_good hy.1) rfl hrc hrs (h.2.2.2.2.1 _ hy.2.2.2.1) (h.2.2.2.2.1 _ hl) hy.2.2.2.2 hR, h.2.2.2.2.1 _ hy.2.1, h.2.2.2.2.1 _ hy.2.2.1⟩
theorem y_cCi (h : yC p s m meth c b L xs D ca ca2) {y : MethodName} {bytes : ByteArray} {maxL n index : Nat} {ret2 : Option FieldType} {rm : Room} {As : List Value} {f : xR} {K : Int32 → xSt → Option Int32} (hM : xM l D clA (tysC ca) (cellsC ad ca) nW y (Cond.code y bytes maxL ret2 :: wA) rm true (.ref (ad 0) :: As) S f) (cw : CallW room_1 s #[Value.ref b] "HomeComputerLaw" "HomeComputer" index y bytes maxL ret2 (Cond.code y bytes maxL ret2 :: wA) rm 0 0 n) (hN : As.length = n) (hst : st = As.reverse ++ .ref (ad 0) :: rest) (hW : (rest.map fun v => v.category).sum ≤ 8) (hdg : decode code pc = .ok (.invokevirtual index, 3)) (hn : pc + 3 = nx) (k : ∀ (r : Int32) (u : xSt), yJ p l e s m below meth c b D ad ad2 ca ca2 nx lv (.int r :: rest) u T (K r u)) : yJ p l e s m below meth c b D ad ad2 ca ca2 pc lv st S T (yB f K) := by
  intro hF ls H locs hl hP hD hS
  subst hn
  cases hf : f with
  | none => rw [hf] at hF; cases hF
  | some q =>
    obtain ⟨r1, u1⟩ := q
    rw [hf] at hF
    have hPc := hP.sub (ws' := cellsC ad ca S) [0, 1, 2, 3, 4, 5, 6, 7, 8, 9, 10] rfl
    have hDc := hD.sub (ws' := cellsC ad ca S) [0, 1, 2, 3, 4, 5, 6, 7, 8, 9, 10] (by decide) rfl
    have hKc := h.2.2.2.2.2.1.sub (tys' := tysC ca) [0, 1, 2, 3, 4] rfl
    have hFc := va_free (wc := cellsC ad ca S) hD hS (fun q z => z) [0, 1, 2, 3, 4, 5, 6, 7, 8, 9, 10] rfl
    have hrun := va_runV (As := As) (rest := rest) (g := F0 m pc ls st) (locs := locs) (cells := 17) (slots := 8544) (below := below) (meth := meth) (e := e) ⟨h.1, h.2.1, h.2.2.1, h.2.2.2.1, h.2.2.2.2.1⟩ (hM r1 u1 hf H.size) cw ⟨x_blind, va_recv hKc hPc (q0 := 0) rfl rfl, fun U hU hWm => ⟨rfl, by rw [hU], by rw [hU]; exact hPc, va_K.moved hWm.alike hKc, hDc.weaken (fun _ _ _ _ => trivial), fun w hw => ⟨(h.2.2.2.2.2.2.2.2.2 w hw).1, xNest_warm (h.2.2.2.2.2.2.2.2.2 w hw).1 hWm (h.2.2.2.2.2.2.2.2.2 w hw).2⟩⟩⟩ rfl hN hl.1 hst (lv_room hW) hdg ⟨Nat.le_of_ble_eq_true rfl, Nat.le_of_ble_eq_true rfl⟩
    intro T0 hT X
    obtain ⟨v, st₀, t, T', Lc, h0, X', hL, e1, e2, hq, go⟩ := hrun T0 hT X
    obtain ⟨hv, hP1, hK1, hD1, hz, hkp⟩ := hq
    have hv := Outcome.returned.inj hv
    subst hv
    rw [h0] at hz hkp
    obtain ⟨hPj, hDj⟩ := va_join (wr := cellsM ad2 ca2 T) (w1 := cellsC ad ca u1) (H1 := T'.heap) hP hD [0, 1, 2, 3, 4, 5, 6, 7, 8, 9, 10] [11, 12, 13, 14, 15, 16] rfl rfl (by decide) (by decide) (fun q z1 z2 => by rw [e1]; exact hkp q z1 z2) hFc (by rw [e1]; exact hP1) hD1
    have hP2 := hPj.sub (ws' := cellsC ad ca u1 ++ cellsM ad2 ca2 T) [6, 7, 8, 9, 10, 11, 12, 13, 14, 15, 16, 0, 1, 2, 3, 4, 5] rfl
    have hD2 := hDj.sub (ws' := cellsC ad ca u1 ++ cellsM ad2 ca2 T) [6, 7, 8, 9, 10, 11, 12, 13, 14, 15, 16, 0, 1, 2, 3, 4, 5] (by decide) rfl
    obtain ⟨t2, a1, b1⟩ := k r1 u1 hF ls T'.heap (locs ++ Lc) hl hP2 hD2
      ⟨Nat.le_trans hS.1 (by rw [e1]; exact hz), fun q h1 h2 => by rw [e1, hkp q (Nat.lt_of_lt_of_le h1 hS.1) (fun z => h2 (hFc q z))]; exact hS.2.1 q h1 h2, fun q hq => by
        rcases List.mem_append.mp hq with z | z
        · exact hS.2.2 q z
        · exact hFc _ (hL q z)⟩ T' rfl X'
    exact ⟨t2, go t2 a1, b1⟩
theorem y_cCv (h : yC p s m meth c b L xs D ca ca2) {y : MethodName} {bytes : ByteArray} {maxL n index : Nat} {ret2 : Option FieldType} {rm : Room} {As : List Value} {f : xR} {K : Int32 → xSt → Option Int32} (hM : xM l D clA (tysC ca) (cellsC ad ca) nW y (Cond.code y bytes maxL ret2 :: wA) rm false (.ref (ad 0) :: As) S f) (cw : CallW room_1 s #[Value.ref b] "HomeComputerLaw" "HomeComputer" index y bytes maxL ret2 (Cond.code y bytes maxL ret2 :: wA) rm 0 0 n) (hN : As.length = n) (hst : st = As.reverse ++ .ref (ad 0) :: rest) (hW : (rest.map fun v => v.category).sum ≤ 8) (hdg : decode code pc = .ok (.invokevirtual index, 3)) (hn : pc + 3 = nx) (k : ∀ (r : Int32) (u : xSt), yJ p l e s m below meth c b D ad ad2 ca ca2 nx lv rest u T (K r u)) : yJ p l e s m below meth c b D ad ad2 ca ca2 pc lv st S T (yB f K) := by
  intro hF ls H locs hl hP hD hS
  subst hn
  cases hf : f with
  | none => rw [hf] at hF; cases hF
  | some q =>
    obtain ⟨r1, u1⟩ := q
    rw [hf] at hF
    have hPc := hP.sub (ws' := cellsC ad ca S) [0, 1, 2, 3, 4, 5, 6, 7, 8, 9, 10] rfl
    have hDc := hD.sub (ws' := cellsC ad ca S) [0, 1, 2, 3, 4, 5, 6, 7, 8, 9, 10] (by decide) rfl
    have hKc := h.2.2.2.2.2.1.sub (tys' := tysC ca) [0, 1, 2, 3, 4] rfl
    have hFc := va_free (wc := cellsC ad ca S) hD hS (fun q z => z) [0, 1, 2, 3, 4, 5, 6, 7, 8, 9, 10] rfl
    have hrun := va_runV (As := As) (rest := rest) (g := F0 m pc ls st) (locs := locs) (cells := 17) (slots := 8544) (below := below) (meth := meth) (e := e) ⟨h.1, h.2.1, h.2.2.1, h.2.2.2.1, h.2.2.2.2.1⟩ (hM r1 u1 hf H.size) cw ⟨x_blind, va_recv hKc hPc (q0 := 0) rfl rfl, fun U hU hWm => ⟨rfl, by rw [hU], by rw [hU]; exact hPc, va_K.moved hWm.alike hKc, hDc.weaken (fun _ _ _ _ => trivial), fun w hw => ⟨(h.2.2.2.2.2.2.2.2.2 w hw).1, xNest_warm (h.2.2.2.2.2.2.2.2.2 w hw).1 hWm (h.2.2.2.2.2.2.2.2.2 w hw).2⟩⟩⟩ rfl hN hl.1 hst (lv_room hW) hdg ⟨Nat.le_of_ble_eq_true rfl, Nat.le_of_ble_eq_true rfl⟩
    intro T0 hT X
    obtain ⟨v, st₀, t, T', Lc, h0, X', hL, e1, e2, hq, go⟩ := hrun T0 hT X
    obtain ⟨hv, hP1, hK1, hD1, hz, hkp⟩ := hq
    have hv := Outcome.returned.inj hv
    subst hv
    rw [h0] at hz hkp
    obtain ⟨hPj, hDj⟩ := va_join (wr := cellsM ad2 ca2 T) (w1 := cellsC ad ca u1) (H1 := T'.heap) hP hD [0, 1, 2, 3, 4, 5, 6, 7, 8, 9, 10] [11, 12, 13, 14, 15, 16] rfl rfl (by decide) (by decide) (fun q z1 z2 => by rw [e1]; exact hkp q z1 z2) hFc (by rw [e1]; exact hP1) hD1
    have hP2 := hPj.sub (ws' := cellsC ad ca u1 ++ cellsM ad2 ca2 T) [6, 7, 8, 9, 10, 11, 12, 13, 14, 15, 16, 0, 1, 2, 3, 4, 5] rfl
    have hD2 := hDj.sub (ws' := cellsC ad ca u1 ++ cellsM ad2 ca2 T) [6, 7, 8, 9, 10, 11, 12, 13, 14, 15, 16, 0, 1, 2, 3, 4, 5] (by decide) rfl
    obtain ⟨t2, a1, b1⟩ := k r1 u1 hF ls T'.heap (locs ++ Lc) hl hP2 hD2
      ⟨Nat.le_trans hS.1 (by rw [e1]; exact hz), fun q h1 h2 => by rw [e1, hkp q (Nat.lt_of_lt_of_le h1 hS.1) (fun z => h2 (hFc q z))]; exact hS.2.1 q h1 h2, fun q hq => by
        rcases List.mem_append.mp hq with z | z
        · exact hS.2.2 q z
        · exact hFc _ (hL q z)⟩ T' rfl X'
    exact ⟨t2, go t2 a1, b1⟩
theorem y_cMi (h : yC p s m meth c b L xs D ca ca2) {y : MethodName} {bytes : ByteArray} {maxL n index : Nat} {ret2 : Option FieldType} {rm : Room} {As : List Value} {f : xR} {K : Int32 → xSt → Option Int32} (hM : xM l D clA (tysM ca2) (cellsM ad2 ca2) nW y (Cond.code y bytes maxL ret2 :: wA) rm true (.ref (ad2 0) :: As) T f) (cw : CallW room_1 s #[Value.ref b] "HomeComputerLaw" "HomeComputerModel" index y bytes maxL ret2 (Cond.code y bytes maxL ret2 :: wA) rm 0 0 n) (hN : As.length = n) (hst : st = As.reverse ++ .ref (ad2 0) :: rest) (hW : (rest.map fun v => v.category).sum ≤ 8) (hdg : decode code pc = .ok (.invokevirtual index, 3)) (hn : pc + 3 = nx) (k : ∀ (r : Int32) (u : xSt), yJ p l e s m below meth c b D ad ad2 ca ca2 nx lv (.int r :: rest) S u (K r u)) : yJ p l e s m below meth c b D ad ad2 ca ca2 pc lv st S T (yB f K) := by
  intro hF ls H locs hl hP hD hS
  subst hn
  cases hf : f with
  | none => rw [hf] at hF; cases hF
  | some q =>
    obtain ⟨r1, u1⟩ := q
    rw [hf] at hF
    have hPc := hP.sub (ws' := cellsM ad2 ca2 T) [11, 12, 13, 14, 15, 16] rfl
    have hDc := hD.sub (ws' := cellsM ad2 ca2 T) [11, 12, 13, 14, 15, 16] (by decide) rfl
    have hKc := h.2.2.2.2.2.1.sub (tys' := tysM ca2) [5, 6, 7, 8, 9] rfl
    have hFc := va_free (wc := cellsM ad2 ca2 T) hD hS (fun q z => z) [11, 12, 13, 14, 15, 16] rfl
    have hrun := va_runV (As := As) (rest := rest) (g := F0 m pc ls st) (locs := locs) (cells := 17) (slots := 8544) (below := below) (meth := meth) (e := e) ⟨h.1, h.2.1, h.2.2.1, h.2.2.2.1, h.2.2.2.2.1⟩ (hM r1 u1 hf H.size) cw ⟨x_blind, va_recv hKc hPc (q0 := 0) rfl rfl, fun U hU hWm => ⟨rfl, by rw [hU], by rw [hU]; exact hPc, va_K.moved hWm.alike hKc, hDc.weaken (fun _ _ _ _ => trivial), fun w hw => ⟨(h.2.2.2.2.2.2.2.2.2 w hw).1, xNest_warm (h.2.2.2.2.2.2.2.2.2 w hw).1 hWm (h.2.2.2.2.2.2.2.2.2 w hw).2⟩⟩⟩ rfl hN hl.1 hst (lv_room hW) hdg ⟨Nat.le_of_ble_eq_true rfl, Nat.le_of_ble_eq_true rfl⟩
    intro T0 hT X
    obtain ⟨v, st₀, t, T', Lc, h0, X', hL, e1, e2, hq, go⟩ := hrun T0 hT X
    obtain ⟨hv, hP1, hK1, hD1, hz, hkp⟩ := hq
    have hv := Outcome.returned.inj hv
    subst hv
    rw [h0] at hz hkp
    obtain ⟨hPj, hDj⟩ := va_join (wr := cellsC ad ca S) (w1 := cellsM ad2 ca2 u1) (H1 := T'.heap) hP hD [11, 12, 13, 14, 15, 16] [0, 1, 2, 3, 4, 5, 6, 7, 8, 9, 10] rfl rfl (by decide) (by decide) (fun q z1 z2 => by rw [e1]; exact hkp q z1 z2) hFc (by rw [e1]; exact hP1) hD1
    have hP2 := hPj
    have hD2 := hDj
    obtain ⟨t2, a1, b1⟩ := k r1 u1 hF ls T'.heap (locs ++ Lc) hl hP2 hD2
      ⟨Nat.le_trans hS.1 (by rw [e1]; exact hz), fun q h1 h2 => by rw [e1, hkp q (Nat.lt_of_lt_of_le h1 hS.1) (fun z => h2 (hFc q z))]; exact hS.2.1 q h1 h2, fun q hq => by
        rcases List.mem_append.mp hq with z | z
        · exact hS.2.2 q z
        · exact hFc _ (hL q z)⟩ T' rfl X'
    exact ⟨t2, go t2 a1, b1⟩
theorem y_cMv (h : yC p s m meth c b L xs D ca ca2) {y : MethodName} {bytes : ByteArray} {maxL n index : Nat} {ret2 : Option FieldType} {rm : Room} {As : List Value} {f : xR} {K : Int32 → xSt → Option Int32} (hM : xM l D clA (tysM ca2) (cellsM ad2 ca2) nW y (Cond.code y bytes maxL ret2 :: wA) rm false (.ref (ad2 0) :: As) T f) (cw : CallW room_1 s #[Value.ref b] "HomeComputerLaw" "HomeComputerModel" index y bytes maxL ret2 (Cond.code y bytes maxL ret2 :: wA) rm 0 0 n) (hN : As.length = n) (hst : st = As.reverse ++ .ref (ad2 0) :: rest) (hW : (rest.map fun v => v.category).sum ≤ 8) (hdg : decode code pc = .ok (.invokevirtual index, 3)) (hn : pc + 3 = nx) (k : ∀ (r : Int32) (u : xSt), yJ p l e s m below meth c b D ad ad2 ca ca2 nx lv rest S u (K r u)) : yJ p l e s m below meth c b D ad ad2 ca ca2 pc lv st S T (yB f K) := by
  intro hF ls H locs hl hP hD hS
  subst hn
  cases hf : f with
  | none => rw [hf] at hF; cases hF
  | some q =>
    obtain ⟨r1, u1⟩ := q
    rw [hf] at hF
    have hPc := hP.sub (ws' := cellsM ad2 ca2 T) [11, 12, 13, 14, 15, 16] rfl
    have hDc := hD.sub (ws' := cellsM ad2 ca2 T) [11, 12, 13, 14, 15, 16] (by decide) rfl
    have hKc := h.2.2.2.2.2.1.sub (tys' := tysM ca2) [5, 6, 7, 8, 9] rfl
    have hFc := va_free (wc := cellsM ad2 ca2 T) hD hS (fun q z => z) [11, 12, 13, 14, 15, 16] rfl
    have hrun := va_runV (As := As) (rest := rest) (g := F0 m pc ls st) (locs := locs) (cells := 17) (slots := 8544) (below := below) (meth := meth) (e := e) ⟨h.1, h.2.1, h.2.2.1, h.2.2.2.1, h.2.2.2.2.1⟩ (hM r1 u1 hf H.size) cw ⟨x_blind, va_recv hKc hPc (q0 := 0) rfl rfl, fun U hU hWm => ⟨rfl, by rw [hU], by rw [hU]; exact hPc, va_K.moved hWm.alike hKc, hDc.weaken (fun _ _ _ _ => trivial), fun w hw => ⟨(h.2.2.2.2.2.2.2.2.2 w hw).1, xNest_warm (h.2.2.2.2.2.2.2.2.2 w hw).1 hWm (h.2.2.2.2.2.2.2.2.2 w hw).2⟩⟩⟩ rfl hN hl.1 hst (lv_room hW) hdg ⟨Nat.le_of_ble_eq_true rfl, Nat.le_of_ble_eq_true rfl⟩
    intro T0 hT X
    obtain ⟨v, st₀, t, T', Lc, h0, X', hL, e1, e2, hq, go⟩ := hrun T0 hT X
    obtain ⟨hv, hP1, hK1, hD1, hz, hkp⟩ := hq
    have hv := Outcome.returned.inj hv
    subst hv
    rw [h0] at hz hkp
    obtain ⟨hPj, hDj⟩ := va_join (wr := cellsC ad ca S) (w1 := cellsM ad2 ca2 u1) (H1 := T'.heap) hP hD [11, 12, 13, 14, 15, 16] [0, 1, 2, 3, 4, 5, 6, 7, 8, 9, 10] rfl rfl (by decide) (by decide) (fun q z1 z2 => by rw [e1]; exact hkp q z1 z2) hFc (by rw [e1]; exact hP1) hD1
    have hP2 := hPj
    have hD2 := hDj
    obtain ⟨t2, a1, b1⟩ := k r1 u1 hF ls T'.heap (locs ++ Lc) hl hP2 hD2
      ⟨Nat.le_trans hS.1 (by rw [e1]; exact hz), fun q h1 h2 => by rw [e1, hkp q (Nat.lt_of_lt_of_le h1 hS.1) (fun z => h2 (hFc q z))]; exact hS.2.1 q h1 h2, fun q hq => by
        rcases List.mem_append.mp hq with z | z
        · exact hS.2.2 q z
        · exact hFc _ (hL q z)⟩ T' rfl X'
    exact ⟨t2, go t2 a1, b1⟩
end YL
