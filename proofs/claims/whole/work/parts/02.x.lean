/-! The X layer: the machine's walk against a pure function. A side's state is a function of two numbers (which array or
row of fields, which place); a method is a pure function to 'xR' (none: an index out of bounds, or no more turns of a loop:
nothing is claimed there). xJ: from this frame and state the method returns what F says. -/
abbrev xSt : Type := Nat → Nat → Int32
abbrev xR : Type := Option (Int32 × (Nat → Nat → Int32))
def xU (S : xSt) (q i : Nat) (v : Int32) : xSt := fun a => if a = q then upd (S q) i v else S a
def xB (o : xR) (k : Int32 → xSt → xR) : xR := match o with
  | none => none
  | some q => k q.1 q.2
def xRd (S : xSt) (q n : Nat) (i : Int32) (k : Int32 → xR) : xR := if (i < 0 ∨ n ≤ i.toNatClampNeg) then none else k (S q i.toNatClampNeg)
def xWr (S : xSt) (q n : Nat) (i v : Int32) (k : xSt → xR) : xR := if (i < 0 ∨ n ≤ i.toNatClampNeg) then none else k (xU S q i.toNatClampNeg v)
def xPu (S : xSt) (q i : Nat) (v : Int32) (k : xSt → xR) : xR := k (xU S q i v)
def xV (v : Int32) (k : Int32 → xR) : xR := k v
def xBo (v : Int32) (F : xR) : xR := if v = 0 ∨ v = 1 then F else none
def xUs (x y : Int32) : Int32 := (x.toUInt32 >>> (y.toUInt32 &&& Int32.toUInt32 31)).toInt32
def xNest (w : Cond) : Bool := match w with
  | .fieldLinkNest .. => true
  | .methodLinkNest .. => true
  | _ => false
theorem xNest_warm {w : Cond} {s U : State} (hw : xNest w = true) (hW : s.WarmedH U.vm) (h : va_Nw w s) : va_Nw w U := by
  cases w with
  | fieldLinkNest a b c d e f => exact va_Nw.warmF hW h
  | methodLinkNest a b c d => exact va_Nw.warmM hW h
  | _ => cases hw
theorem xNest_tab {w : Cond} (hw : xNest w = true) : w.onTables = true := by
  cases w with
  | fieldLinkNest a b c d e f => rfl
  | methodLinkNest a b c d => rfl
  | _ => cases hw
def xP (D : va_G) (cl : List vw_C) (tys : List (ClassId × FieldType)) (cells : xSt → va_W) (NW : List Cond) (av : List Value) (S : xSt) (sz : Nat) : Array Value → State → Prop :=
  va_Pc av (fun U => U.heap.size = sz ∧ va_P D cl (cells S) U.heap ∧ va_K D cl tys U ∧ va_D (fun _ => True) (cells S) ∧ ∀ w ∈ NW, xNest w = true ∧ va_Nw w U)
def xQ (D : va_G) (cl : List vw_C) (tys : List (ClassId × FieldType)) (cells : xSt → va_W) (A : Nat → Prop) (rt : Bool) (r : Int32) (u : xSt) : Array Value → State → Outcome → State → Prop := fun _ st oc t =>
  oc = .returned (cond rt (some (.int r)) none) ∧ va_P D cl (cells u) t.heap ∧ va_K D cl tys t ∧ va_D A (cells u) ∧ va_F A st t
def xM (l : Launch) (D : va_G) (cl : List vw_C) (tys : List (ClassId × FieldType)) (cells : xSt → va_W) (NW : List Cond) (y : MethodName) (ws : List Cond) (rm : Room) (rt : Bool) (av : List Value) (S : xSt) (f : xR) : Prop :=
  ∀ (r : Int32) (u : xSt), f = some (r, u) → ∀ sz : Nat, Met l y ws rm (xP D cl tys cells NW av S sz) (xQ D cl tys cells (va_A (cells S) sz) rt r u) 0 0 (va_A (cells S) sz)
def xC (p : Program) (s : State) (m : MethodId) (args : Array Value) (meth : Method) (c : Code) (cc : ByteArray) (nL : Nat) (Ts NW : List Cond) (own : String) (ret : Option FieldType) (D : va_G) (cl : List vw_C) (tys : List (ClassId × FieldType)) (A : Nat → Prop) : Prop :=
  p.tables.exec = Jvm.exec ∧ c.code = cc ∧ c.maxLocals = nL ∧ s.vm.findClass own = some m.cls ∧ (∀ w ∈ Ts, w.before args s = true) ∧ va_K D cl tys s ∧ meth.sig.returnType = ret ∧ meth.locks = false ∧ (∀ q : Nat, s.heap.size ≤ q → A q) ∧ ∀ w ∈ NW, xNest w = true ∧ va_Nw w s
def xJ (p : Program) (l : Launch) (e : Env) (R : Room) (s : State) (m : MethodId) (args : Array Value) (below : List Frame) (meth : Method) (c : Code) (D : va_G) (cl : List vw_C) (tys : List (ClassId × FieldType)) (cells : xSt → va_W) (A : Nat → Prop) (rt : Bool) (nL pc : Nat) (lv : List (Nat × Value)) (st : List Value) (S : xSt) (F : xR) : Prop :=
  ∀ (r : Int32) (u : xSt), F = some (r, u) → ∀ (ls : Array Slot) (H : Heap) (locs : List Loc), lv_has ls nL lv → va_P D cl (cells S) H → va_D A (cells S) → va_S A s.heap H locs →
    W p l e R s m args below meth c H locs 0 0 (MQ below (xQ D cl tys cells A rt r u) args s 0 0 A) (F0 m pc ls st)
/-- an object of the side at address b, its field k read as v -/
def xFg (cells : xSt → va_W) (cl : List vw_C) (Ts : List Cond) (b : Nat) (C : String) (T : u_T) (N k : Nat) (v : xSt → Value) : Prop :=
  (∀ w ∈ u_ws C T N, w ∈ Ts) ∧ k < N ∧ ∃ (q0 ci : Nat) (fs : xSt → List Value), cl[ci]? = some (C, T, N) ∧ ∀ S : xSt, (cells S)[q0]? = some (b, .inr (ci, fs S)) ∧ (fs S)[k]? = some (v S)
/-- the same, to be written: the side's place (q, i) -/
def xFp (cells : xSt → va_W) (cl : List vw_C) (Ts : List Cond) (b : Nat) (C : String) (T : u_T) (N k : Nat) (ty : FieldType) (q i : Nat) : Prop :=
  (∀ w ∈ u_ws C T N, w ∈ Ts) ∧ k < N ∧ (T k).2.2.2 = false ∧ parseFieldDescriptor (T k).2.2.1 = some ty ∧ (∃ ty0 : Nat → FieldType, ∀ k, k < N → parseFieldDescriptor (T k).2.2.1 = some (ty0 k)) ∧ (∀ a, a < N → ∀ b, b < N → a ≠ b → (T a).2.1 ≠ (T b).2.1) ∧
  ∃ (q0 ci : Nat) (fs : xSt → List Value), cl[ci]? = some (C, T, N) ∧ ∀ S : xSt, (cells S)[q0]? = some (b, .inr (ci, fs S)) ∧ k < (fs S).length ∧ ∀ v : Int32, cells (xU S q i v) = (cells S).set q0 (b, .inr (ci, (fs S).set k (.int v)))
/-- an array of the side -/
def xAr (cells : xSt → va_W) (tys : List (ClassId × FieldType)) (b : Nat) (ty : FieldType) (q n : Nat) : Prop :=
  ∃ (q0 t0 : Nat) (cA : ClassId), tys[t0]? = some (cA, ty) ∧ ∀ S : xSt, (cells S)[q0]? = some (b, .inl (cA, n, .inl (S q))) ∧ ∀ (i : Nat) (v : Int32), cells (xU S q i v) = (cells S).set q0 (b, .inl (cA, n, .inl (upd (S q) i v)))
/-- an object of the side, as a receiver -/
def xOb (cells : xSt → va_W) (cl : List vw_C) (b : Nat) (C : String) : Prop :=
  ∃ (q0 ci : Nat) (q : vw_C) (fs : xSt → List Value), cl[ci]? = some q ∧ q.1 = C ∧ ∀ S : xSt, (cells S)[q0]? = some (b, .inr (ci, fs S))
section XL
variable {p : Program} {l : Launch} {e : Env} {R : Room} {s : State} {m : MethodId} {args : Array Value} {below : List Frame} {meth : Method} {c : Code} {cc : ByteArray} {nL : Nat} {Ts NW : List Cond} {own : String} {ret : Option FieldType} {D : va_G} {cl : List vw_C} {tys : List (ClassId × FieldType)} {A : Nat → Prop} {cells : xSt → va_W} {rt : Bool} {pc nx : Nat} {lv lv' : List (Nat × Value)} {st rest : List Value} {S : xSt} {F F1 F2 : xR}

theorem x_eq {G : xR} (hq : F = G) (k : xJ p l e R s m args below meth c D cl tys cells A rt nL pc lv st S G) : xJ p l e R s m args below meth c D cl tys cells A rt nL pc lv st S F := by rw [hq]; exact k
theorem x_none : xJ p l e R s m args below meth c D cl tys cells A rt nL pc lv st S none := by intro r u hF; cases hF
theorem x_ite {q : Prop} [Decidable q] (k1 : q → xJ p l e R s m args below meth c D cl tys cells A rt nL pc lv st S F1) (k2 : ¬ q → xJ p l e R s m args below meth c D cl tys cells A rt nL pc lv st S F2) : xJ p l e R s m args below meth c D cl tys cells A rt nL pc lv st S (if q then F1 else F2) := by
  by_cases hq : q
  · rw [if_pos hq]; exact k1 hq
  · rw [if_neg hq]; exact k2 hq
theorem x_sub (ks : List Nat) (hk : lv_pick lv ks = lv') (k : xJ p l e R s m args below meth c D cl tys cells A rt nL pc lv' st S F) : xJ p l e R s m args below meth c D cl tys cells A rt nL pc lv st S F := fun r u hF ls H locs hl hP hD hS => k r u hF ls H locs (lv_sub hl ks hk) hP hD hS
theorem x_iconst (h : xC p s m args meth c cc nL Ts NW own ret D cl tys A) {n : Int} {v : Int32} (hdg : decode cc pc = .ok (.iconst n, 1)) (hv : Int32.ofInt n = v) (hn : pc + 1 = nx) (k : xJ p l e R s m args below meth c D cl tys cells A rt nL nx lv (.int v :: rest) S F) : xJ p l e R s m args below meth c D cl tys cells A rt nL pc lv rest S F := by
  intro r u hF ls H locs hl hP hD hS
  subst hn
  exact lv_iconst h.1 h.2.1 hdg hv (k r u hF ls H locs hl hP hD hS)
theorem x_bipush (h : xC p s m args meth c cc nL Ts NW own ret D cl tys A) {n : Int} {v : Int32} (hdg : decode cc pc = .ok (.bipush n, 2)) (hv : (Int8.ofInt n).toInt32 = v) (hn : pc + 2 = nx) (k : xJ p l e R s m args below meth c D cl tys cells A rt nL nx lv (.int v :: rest) S F) : xJ p l e R s m args below meth c D cl tys cells A rt nL pc lv rest S F := by
  intro r u hF ls H locs hl hP hD hS
  subst hn
  exact lv_bipush h.1 h.2.1 hdg hv (k r u hF ls H locs hl hP hD hS)
theorem x_sipush (h : xC p s m args meth c cc nL Ts NW own ret D cl tys A) {n : Int} {v : Int32} (hdg : decode cc pc = .ok (.sipush n, 3)) (hv : (Int16.ofInt n).toInt32 = v) (hn : pc + 3 = nx) (k : xJ p l e R s m args below meth c D cl tys cells A rt nL nx lv (.int v :: rest) S F) : xJ p l e R s m args below meth c D cl tys cells A rt nL pc lv rest S F := by
  intro r u hF ls H locs hl hP hD hS
  subst hn
  exact lv_sipush h.1 h.2.1 hdg hv (k r u hF ls H locs hl hP hD hS)
theorem x_iadd (h : xC p s m args meth c cc nL Ts NW own ret D cl tys A) {x y : Int32} (hdg : decode cc pc = .ok (.iadd, 1)) (hn : pc + 1 = nx) (k : xJ p l e R s m args below meth c D cl tys cells A rt nL nx lv (.int (x + y) :: rest) S F) : xJ p l e R s m args below meth c D cl tys cells A rt nL pc lv (.int y :: .int x :: rest) S F := by
  intro r u hF ls H locs hl hP hD hS
  subst hn
  exact lv_iadd h.1 h.2.1 hdg (k r u hF ls H locs hl hP hD hS)
theorem x_isub (h : xC p s m args meth c cc nL Ts NW own ret D cl tys A) {x y : Int32} (hdg : decode cc pc = .ok (.isub, 1)) (hn : pc + 1 = nx) (k : xJ p l e R s m args below meth c D cl tys cells A rt nL nx lv (.int (x - y) :: rest) S F) : xJ p l e R s m args below meth c D cl tys cells A rt nL pc lv (.int y :: .int x :: rest) S F := by
  intro r u hF ls H locs hl hP hD hS
  subst hn
  exact lv_isub h.1 h.2.1 hdg (k r u hF ls H locs hl hP hD hS)
theorem x_imul (h : xC p s m args meth c cc nL Ts NW own ret D cl tys A) {x y : Int32} (hdg : decode cc pc = .ok (.imul, 1)) (hn : pc + 1 = nx) (k : xJ p l e R s m args below meth c D cl tys cells A rt nL nx lv (.int (x * y) :: rest) S F) : xJ p l e R s m args below meth c D cl tys cells A rt nL pc lv (.int y :: .int x :: rest) S F := by
  intro r u hF ls H locs hl hP hD hS
  subst hn
  exact lv_imul h.1 h.2.1 hdg (k r u hF ls H locs hl hP hD hS)
theorem x_iand (h : xC p s m args meth c cc nL Ts NW own ret D cl tys A) {x y : Int32} (hdg : decode cc pc = .ok (.iand, 1)) (hn : pc + 1 = nx) (k : xJ p l e R s m args below meth c D cl tys cells A rt nL nx lv (.int (x &&& y) :: rest) S F) : xJ p l e R s m args below meth c D cl tys cells A rt nL pc lv (.int y :: .int x :: rest) S F := by
  intro r u hF ls H locs hl hP hD hS
  subst hn
  exact lv_iand h.1 h.2.1 hdg (k r u hF ls H locs hl hP hD hS)
theorem x_ior (h : xC p s m args meth c cc nL Ts NW own ret D cl tys A) {x y : Int32} (hdg : decode cc pc = .ok (.ior, 1)) (hn : pc + 1 = nx) (k : xJ p l e R s m args below meth c D cl tys cells A rt nL nx lv (.int (x ||| y) :: rest) S F) : xJ p l e R s m args below meth c D cl tys cells A rt nL pc lv (.int y :: .int x :: rest) S F := by
  intro r u hF ls H locs hl hP hD hS
  subst hn
  exact lv_ior h.1 h.2.1 hdg (k r u hF ls H locs hl hP hD hS)
theorem x_ixor (h : xC p s m args meth c cc nL Ts NW own ret D cl tys A) {x y : Int32} (hdg : decode cc pc = .ok (.ixor, 1)) (hn : pc + 1 = nx) (k : xJ p l e R s m args below meth c D cl tys cells A rt nL nx lv (.int (x ^^^ y) :: rest) S F) : xJ p l e R s m args below meth c D cl tys cells A rt nL pc lv (.int y :: .int x :: rest) S F := by
  intro r u hF ls H locs hl hP hD hS
  subst hn
  exact lv_ixor h.1 h.2.1 hdg (k r u hF ls H locs hl hP hD hS)
theorem x_ishl (h : xC p s m args meth c cc nL Ts NW own ret D cl tys A) {x y : Int32} (hdg : decode cc pc = .ok (.ishl, 1)) (hn : pc + 1 = nx) (k : xJ p l e R s m args below meth c D cl tys cells A rt nL nx lv (.int (x <<< (y &&& 31)) :: rest) S F) : xJ p l e R s m args below meth c D cl tys cells A rt nL pc lv (.int y :: .int x :: rest) S F := by
  intro r u hF ls H locs hl hP hD hS
  subst hn
  exact lv_ishl h.1 h.2.1 hdg (k r u hF ls H locs hl hP hD hS)
theorem x_ishr (h : xC p s m args meth c cc nL Ts NW own ret D cl tys A) {x y : Int32} (hdg : decode cc pc = .ok (.ishr, 1)) (hn : pc + 1 = nx) (k : xJ p l e R s m args below meth c D cl tys cells A rt nL nx lv (.int (x >>> (y &&& 31)) :: rest) S F) : xJ p l e R s m args below meth c D cl tys cells A rt nL pc lv (.int y :: .int x :: rest) S F := by
  intro r u hF ls H locs hl hP hD hS
  subst hn
  exact lv_ishr h.1 h.2.1 hdg (k r u hF ls H locs hl hP hD hS)
theorem x_idiv (h : xC p s m args meth c cc nL Ts NW own ret D cl tys A) {x y : Int32} (hdg : decode cc pc = .ok (.idiv, 1)) (hne : ¬ y = 0) (hn : pc + 1 = nx) (k : xJ p l e R s m args below meth c D cl tys cells A rt nL nx lv (.int (x / y) :: rest) S F) : xJ p l e R s m args below meth c D cl tys cells A rt nL pc lv (.int y :: .int x :: rest) S F := by
  intro r u hF ls H locs hl hP hD hS
  subst hn
  exact lv_idiv h.1 h.2.1 hdg hne (k r u hF ls H locs hl hP hD hS)
theorem x_irem (h : xC p s m args meth c cc nL Ts NW own ret D cl tys A) {x y : Int32} (hdg : decode cc pc = .ok (.irem, 1)) (hne : ¬ y = 0) (hn : pc + 1 = nx) (k : xJ p l e R s m args below meth c D cl tys cells A rt nL nx lv (.int (x - x / y * y) :: rest) S F) : xJ p l e R s m args below meth c D cl tys cells A rt nL pc lv (.int y :: .int x :: rest) S F := by
  intro r u hF ls H locs hl hP hD hS
  subst hn
  exact lv_irem h.1 h.2.1 hdg hne (k r u hF ls H locs hl hP hD hS)
theorem x_iushr (h : xC p s m args meth c cc nL Ts NW own ret D cl tys A) {x y : Int32} (hdg : decode cc pc = .ok (.iushr, 1)) (hn : pc + 1 = nx) (k : xJ p l e R s m args below meth c D cl tys cells A rt nL nx lv (.int (xUs x y) :: rest) S F) : xJ p l e R s m args below meth c D cl tys cells A rt nL pc lv (.int y :: .int x :: rest) S F := by
  intro r u hF ls H locs hl hP hD hS
  subst hn
  exact lv_iushr h.1 h.2.1 hdg rfl (k r u hF ls H locs hl hP hD hS)
theorem x_ineg (h : xC p s m args meth c cc nL Ts NW own ret D cl tys A) {x : Int32} (hdg : decode cc pc = .ok (.ineg, 1)) (hn : pc + 1 = nx) (k : xJ p l e R s m args below meth c D cl tys cells A rt nL nx lv (.int (-x) :: rest) S F) : xJ p l e R s m args below meth c D cl tys cells A rt nL pc lv (.int x :: rest) S F := by
  intro r u hF ls H locs hl hP hD hS
  subst hn
  exact lv_ineg h.1 h.2.1 hdg (k r u hF ls H locs hl hP hD hS)
theorem x_i2b (h : xC p s m args meth c cc nL Ts NW own ret D cl tys A) {x : Int32} (hdg : decode cc pc = .ok (.i2b, 1)) (hn : pc + 1 = nx) (k : xJ p l e R s m args below meth c D cl tys cells A rt nL nx lv (.int x.toInt8.toInt32 :: rest) S F) : xJ p l e R s m args below meth c D cl tys cells A rt nL pc lv (.int x :: rest) S F := by
  intro r u hF ls H locs hl hP hD hS
  subst hn
  exact lv_i2b h.1 h.2.1 hdg rfl (k r u hF ls H locs hl hP hD hS)
theorem x_dup (h : xC p s m args meth c cc nL Ts NW own ret D cl tys A) {va : Value} (hdg : decode cc pc = .ok (.dup, 1)) (hva : va.category = 1) (hn : pc + 1 = nx) (k : xJ p l e R s m args below meth c D cl tys cells A rt nL nx lv (va :: va :: rest) S F) : xJ p l e R s m args below meth c D cl tys cells A rt nL pc lv (va :: rest) S F := by
  intro r u hF ls H locs hl hP hD hS
  subst hn
  exact lv_dup h.1 h.2.1 hdg hva (k r u hF ls H locs hl hP hD hS)
theorem x_pop (h : xC p s m args meth c cc nL Ts NW own ret D cl tys A) {va : Value} (hdg : decode cc pc = .ok (.pop, 1)) (hva : va.category = 1) (hn : pc + 1 = nx) (k : xJ p l e R s m args below meth c D cl tys cells A rt nL nx lv rest S F) : xJ p l e R s m args below meth c D cl tys cells A rt nL pc lv (va :: rest) S F := by
  intro r u hF ls H locs hl hP hD hS
  subst hn
  exact lv_pop h.1 h.2.1 hdg hva (k r u hF ls H locs hl hP hD hS)
theorem x_dup_x1 (h : xC p s m args meth c cc nL Ts NW own ret D cl tys A) {va vb : Value} (hdg : decode cc pc = .ok (.dup_x1, 1)) (hva : va.category = 1) (hvb : vb.category = 1) (hn : pc + 1 = nx) (k : xJ p l e R s m args below meth c D cl tys cells A rt nL nx lv (va :: vb :: va :: rest) S F) : xJ p l e R s m args below meth c D cl tys cells A rt nL pc lv (va :: vb :: rest) S F := by
  intro r u hF ls H locs hl hP hD hS
  subst hn
  exact lv_dup_x1 h.1 h.2.1 hdg hva hvb (k r u hF ls H locs hl hP hD hS)
theorem x_dup_x2 (h : xC p s m args meth c cc nL Ts NW own ret D cl tys A) {va vb vd : Value} (hdg : decode cc pc = .ok (.dup_x2, 1)) (hva : va.category = 1) (hvb : vb.category = 1) (hvd : vd.category = 1) (hn : pc + 1 = nx) (k : xJ p l e R s m args below meth c D cl tys cells A rt nL nx lv (va :: vb :: vd :: va :: rest) S F) : xJ p l e R s m args below meth c D cl tys cells A rt nL pc lv (va :: vb :: vd :: rest) S F := by
  intro r u hF ls H locs hl hP hD hS
  subst hn
  exact lv_dup_x2 h.1 h.2.1 hdg hva hvb hvd (k r u hF ls H locs hl hP hD hS)
theorem x_dup2 (h : xC p s m args meth c cc nL Ts NW own ret D cl tys A) {va vb : Value} (hdg : decode cc pc = .ok (.dup2, 1)) (hva : va.category = 1) (hvb : vb.category = 1) (hn : pc + 1 = nx) (k : xJ p l e R s m args below meth c D cl tys cells A rt nL nx lv (va :: vb :: va :: vb :: rest) S F) : xJ p l e R s m args below meth c D cl tys cells A rt nL pc lv (va :: vb :: rest) S F := by
  intro r u hF ls H locs hl hP hD hS
  subst hn
  exact lv_dup2_11 h.1 h.2.1 hdg hva hvb (k r u hF ls H locs hl hP hD hS)
theorem x_iload_n (h : xC p s m args meth c cc nL Ts NW own ret D cl tys A) {k0 : Fin 4} {i : Nat} {x : Int32} (hdg : decode cc pc = .ok (.iload_n k0, 1)) (hi : (k0 : Nat) = i) (j : Nat) (hj : lv[j]? = some (i, .int x)) (hn : pc + 1 = nx) (k : xJ p l e R s m args below meth c D cl tys cells A rt nL nx lv (.int x :: rest) S F) : xJ p l e R s m args below meth c D cl tys cells A rt nL pc lv rest S F := by
  intro r u hF ls H locs hl hP hD hS
  subst hn
  exact lv_iload_n h.1 h.2.1 hdg hi (lv_at hl j hj) (k r u hF ls H locs hl hP hD hS)
theorem x_iload (h : xC p s m args meth c cc nL Ts NW own ret D cl tys A) {i : Nat} {x : Int32} (hdg : decode cc pc = .ok (.iload i, 2)) (j : Nat) (hj : lv[j]? = some (i, .int x)) (hn : pc + 2 = nx) (k : xJ p l e R s m args below meth c D cl tys cells A rt nL nx lv (.int x :: rest) S F) : xJ p l e R s m args below meth c D cl tys cells A rt nL pc lv rest S F := by
  intro r u hF ls H locs hl hP hD hS
  subst hn
  exact lv_iload h.1 h.2.1 hdg (lv_at hl j hj) (k r u hF ls H locs hl hP hD hS)
theorem x_aload_n (h : xC p s m args meth c cc nL Ts NW own ret D cl tys A) {k0 : Fin 4} {i : Nat} {x : Nat} (hdg : decode cc pc = .ok (.aload_n k0, 1)) (hi : (k0 : Nat) = i) (j : Nat) (hj : lv[j]? = some (i, .ref x)) (hn : pc + 1 = nx) (k : xJ p l e R s m args below meth c D cl tys cells A rt nL nx lv (.ref x :: rest) S F) : xJ p l e R s m args below meth c D cl tys cells A rt nL pc lv rest S F := by
  intro r u hF ls H locs hl hP hD hS
  subst hn
  exact lv_aload_n h.1 h.2.1 hdg hi (lv_at hl j hj) (k r u hF ls H locs hl hP hD hS)
theorem x_aload (h : xC p s m args meth c cc nL Ts NW own ret D cl tys A) {i : Nat} {x : Nat} (hdg : decode cc pc = .ok (.aload i, 2)) (j : Nat) (hj : lv[j]? = some (i, .ref x)) (hn : pc + 2 = nx) (k : xJ p l e R s m args below meth c D cl tys cells A rt nL nx lv (.ref x :: rest) S F) : xJ p l e R s m args below meth c D cl tys cells A rt nL pc lv rest S F := by
  intro r u hF ls H locs hl hP hD hS
  subst hn
  exact lv_aload h.1 h.2.1 hdg (lv_at hl j hj) (k r u hF ls H locs hl hP hD hS)
theorem x_istore_n (h : xC p s m args meth c cc nL Ts NW own ret D cl tys A) {k0 : Fin 4} {i : Nat} {x : Int32} (hdg : decode cc pc = .ok (.istore_n k0, 1)) (hi : (k0 : Nat) = i) (hN : i < nL) (hl' : (i, Value.int x) :: lv.filter (fun q => !(q.1 == i) && !(q.1 + 1 == i && q.2.category == 2)) = lv') (hn : pc + 1 = nx) (k : xJ p l e R s m args below meth c D cl tys cells A rt nL nx lv' rest S F) : xJ p l e R s m args below meth c D cl tys cells A rt nL pc lv (.int x :: rest) S F := by
  intro r u hF ls H locs hl hP hD hS
  subst hn
  exact lv_istore_n h.1 h.2.1 hdg hi hl hN hl' (fun ls2 hl2 => k r u hF ls2 H locs hl2 hP hD hS)
theorem x_istore (h : xC p s m args meth c cc nL Ts NW own ret D cl tys A) {i : Nat} {x : Int32} (hdg : decode cc pc = .ok (.istore i, 2)) (hN : i < nL) (hl' : (i, Value.int x) :: lv.filter (fun q => !(q.1 == i) && !(q.1 + 1 == i && q.2.category == 2)) = lv') (hn : pc + 2 = nx) (k : xJ p l e R s m args below meth c D cl tys cells A rt nL nx lv' rest S F) : xJ p l e R s m args below meth c D cl tys cells A rt nL pc lv (.int x :: rest) S F := by
  intro r u hF ls H locs hl hP hD hS
  subst hn
  exact lv_istore h.1 h.2.1 hdg hl hN hl' (fun ls2 hl2 => k r u hF ls2 H locs hl2 hP hD hS)
theorem x_iinc (h : xC p s m args meth c cc nL Ts NW own ret D cl tys A) {i : Nat} {n : Int} {x v : Int32} (hdg : decode cc pc = .ok (.iinc i n, 3)) (j : Nat) (hj : lv[j]? = some (i, .int x)) (hv : x + Int32.ofInt n = v) (hN : i < nL) (hl' : (i, Value.int v) :: lv.filter (fun q => !(q.1 == i) && !(q.1 + 1 == i && q.2.category == 2)) = lv') (hn : pc + 3 = nx) (k : xJ p l e R s m args below meth c D cl tys cells A rt nL nx lv' rest S F) : xJ p l e R s m args below meth c D cl tys cells A rt nL pc lv rest S F := by
  intro r u hF ls H locs hl hP hD hS
  subst hn
  exact lv_iinc h.1 h.2.1 hdg hl hj hv hN hl' (fun ls2 hl2 => k r u hF ls2 H locs hl2 hP hD hS)
theorem x_ldc (h : xC p s m args meth c cc nL Ts NW own ret D cl tys A) {index : Nat} {v : Int32} (hc : Cond.constant own index v ∈ Ts) (hdg : decode cc pc = .ok (.ldc index, 2)) (hn : pc + 2 = nx) (k : xJ p l e R s m args below meth c D cl tys cells A rt nL nx lv (.int v :: rest) S F) : xJ p l e R s m args below meth c D cl tys cells A rt nL pc lv rest S F := by
  intro r u hF ls H locs hl hP hD hS
  subst hn
  exact lv_ldc h.1 h.2.1 h.2.2.2.1 (h.2.2.2.2.1 _ hc) hdg (k r u hF ls H locs hl hP hD hS)
theorem x_ldc_w (h : xC p s m args meth c cc nL Ts NW own ret D cl tys A) {index : Nat} {v : Int32} (hc : Cond.constant own index v ∈ Ts) (hdg : decode cc pc = .ok (.ldc_w index, 3)) (hn : pc + 3 = nx) (k : xJ p l e R s m args below meth c D cl tys cells A rt nL nx lv (.int v :: rest) S F) : xJ p l e R s m args below meth c D cl tys cells A rt nL pc lv rest S F := by
  intro r u hF ls H locs hl hP hD hS
  subst hn
  exact lv_ldcw h.1 h.2.1 h.2.2.2.1 (h.2.2.2.2.1 _ hc) hdg (k r u hF ls H locs hl hP hD hS)
theorem x_goto (h : xC p s m args meth c cc nL Ts NW own ret D cl tys A) {off : Int} {tgt : Nat} (hdg : decode cc pc = .ok (.goto off, 3)) (ht : (pc : Int) + off = (tgt : Int)) (k : xJ p l e R s m args below meth c D cl tys cells A rt nL tgt lv st S F) : xJ p l e R s m args below meth c D cl tys cells A rt nL pc lv st S F := by
  intro r u hF ls H locs hl hP hD hS
  exact lv_goto h.1 h.2.1 hdg ht (k r u hF ls H locs hl hP hD hS)
theorem x_if_eq (h : xC p s m args meth c cc nL Ts NW own ret D cl tys A) {x : Int32} {off : Int} {tgt : Nat} (hdg : decode cc pc = .ok (.ifCond .eq off, 3)) (ht : (pc : Int) + off = (tgt : Int)) (hn : pc + 3 = nx) (k1 : xJ p l e R s m args below meth c D cl tys cells A rt nL tgt lv rest S F1) (k2 : xJ p l e R s m args below meth c D cl tys cells A rt nL nx lv rest S F2) : xJ p l e R s m args below meth c D cl tys cells A rt nL pc lv (.int x :: rest) S (if x = 0 then F1 else F2) := by
  intro r u hF ls H locs hl hP hD hS
  subst hn
  refine lv_if_eq h.1 h.2.1 hdg ht (fun hq => ?_) (fun hq => ?_)
  · rw [if_pos hq] at hF; exact k1 r u hF ls H locs hl hP hD hS
  · rw [if_neg hq] at hF; exact k2 r u hF ls H locs hl hP hD hS
theorem x_if_ne (h : xC p s m args meth c cc nL Ts NW own ret D cl tys A) {x : Int32} {off : Int} {tgt : Nat} (hdg : decode cc pc = .ok (.ifCond .ne off, 3)) (ht : (pc : Int) + off = (tgt : Int)) (hn : pc + 3 = nx) (k1 : xJ p l e R s m args below meth c D cl tys cells A rt nL tgt lv rest S F2) (k2 : xJ p l e R s m args below meth c D cl tys cells A rt nL nx lv rest S F1) : xJ p l e R s m args below meth c D cl tys cells A rt nL pc lv (.int x :: rest) S (if x = 0 then F1 else F2) := by
  intro r u hF ls H locs hl hP hD hS
  subst hn
  refine lv_if_ne h.1 h.2.1 hdg ht (fun hq => ?_) (fun hq => ?_)
  · rw [if_neg hq] at hF; exact k1 r u hF ls H locs hl hP hD hS
  · rw [if_pos hq] at hF; exact k2 r u hF ls H locs hl hP hD hS
theorem x_if_lt (h : xC p s m args meth c cc nL Ts NW own ret D cl tys A) {x : Int32} {off : Int} {tgt : Nat} (hdg : decode cc pc = .ok (.ifCond .lt off, 3)) (ht : (pc : Int) + off = (tgt : Int)) (hn : pc + 3 = nx) (k1 : xJ p l e R s m args below meth c D cl tys cells A rt nL tgt lv rest S F1) (k2 : xJ p l e R s m args below meth c D cl tys cells A rt nL nx lv rest S F2) : xJ p l e R s m args below meth c D cl tys cells A rt nL pc lv (.int x :: rest) S (if x < 0 then F1 else F2) := by
  intro r u hF ls H locs hl hP hD hS
  subst hn
  refine lv_if_lt h.1 h.2.1 hdg ht (fun hq => ?_) (fun hq => ?_)
  · rw [if_pos hq] at hF; exact k1 r u hF ls H locs hl hP hD hS
  · rw [if_neg hq] at hF; exact k2 r u hF ls H locs hl hP hD hS
theorem x_if_ge (h : xC p s m args meth c cc nL Ts NW own ret D cl tys A) {x : Int32} {off : Int} {tgt : Nat} (hdg : decode cc pc = .ok (.ifCond .ge off, 3)) (ht : (pc : Int) + off = (tgt : Int)) (hn : pc + 3 = nx) (k1 : xJ p l e R s m args below meth c D cl tys cells A rt nL tgt lv rest S F2) (k2 : xJ p l e R s m args below meth c D cl tys cells A rt nL nx lv rest S F1) : xJ p l e R s m args below meth c D cl tys cells A rt nL pc lv (.int x :: rest) S (if x < 0 then F1 else F2) := by
  intro r u hF ls H locs hl hP hD hS
  subst hn
  refine lv_if_ge h.1 h.2.1 hdg ht (fun hq => ?_) (fun hq => ?_)
  · rw [if_neg (Int32.not_lt.mpr hq)] at hF; exact k1 r u hF ls H locs hl hP hD hS
  · rw [if_pos (Int32.not_le.mp hq)] at hF; exact k2 r u hF ls H locs hl hP hD hS
theorem x_if_gt (h : xC p s m args meth c cc nL Ts NW own ret D cl tys A) {x : Int32} {off : Int} {tgt : Nat} (hdg : decode cc pc = .ok (.ifCond .gt off, 3)) (ht : (pc : Int) + off = (tgt : Int)) (hn : pc + 3 = nx) (k1 : xJ p l e R s m args below meth c D cl tys cells A rt nL tgt lv rest S F1) (k2 : xJ p l e R s m args below meth c D cl tys cells A rt nL nx lv rest S F2) : xJ p l e R s m args below meth c D cl tys cells A rt nL pc lv (.int x :: rest) S (if 0 < x then F1 else F2) := by
  intro r u hF ls H locs hl hP hD hS
  subst hn
  refine lv_if_gt h.1 h.2.1 hdg ht (fun hq => ?_) (fun hq => ?_)
  · rw [if_pos hq] at hF; exact k1 r u hF ls H locs hl hP hD hS
  · rw [if_neg hq] at hF; exact k2 r u hF ls H locs hl hP hD hS
theorem x_if_le (h : xC p s m args meth c cc nL Ts NW own ret D cl tys A) {x : Int32} {off : Int} {tgt : Nat} (hdg : decode cc pc = .ok (.ifCond .le off, 3)) (ht : (pc : Int) + off = (tgt : Int)) (hn : pc + 3 = nx) (k1 : xJ p l e R s m args below meth c D cl tys cells A rt nL tgt lv rest S F2) (k2 : xJ p l e R s m args below meth c D cl tys cells A rt nL nx lv rest S F1) : xJ p l e R s m args below meth c D cl tys cells A rt nL pc lv (.int x :: rest) S (if 0 < x then F1 else F2) := by
  intro r u hF ls H locs hl hP hD hS
  subst hn
  refine lv_if_le h.1 h.2.1 hdg ht (fun hq => ?_) (fun hq => ?_)
  · rw [if_neg (Int32.not_lt.mpr hq)] at hF; exact k1 r u hF ls H locs hl hP hD hS
  · rw [if_pos (Int32.not_le.mp hq)] at hF; exact k2 r u hF ls H locs hl hP hD hS
theorem x_icmp_eq (h : xC p s m args meth c cc nL Ts NW own ret D cl tys A) {x y : Int32} {off : Int} {tgt : Nat} (hdg : decode cc pc = .ok (.if_icmp .eq off, 3)) (ht : (pc : Int) + off = (tgt : Int)) (hn : pc + 3 = nx) (k1 : xJ p l e R s m args below meth c D cl tys cells A rt nL tgt lv rest S F1) (k2 : xJ p l e R s m args below meth c D cl tys cells A rt nL nx lv rest S F2) : xJ p l e R s m args below meth c D cl tys cells A rt nL pc lv (.int y :: .int x :: rest) S (if x = y then F1 else F2) := by
  intro r u hF ls H locs hl hP hD hS
  subst hn
  refine lv_icmp_eq h.1 h.2.1 hdg ht (fun hq => ?_) (fun hq => ?_)
  · rw [if_pos hq] at hF; exact k1 r u hF ls H locs hl hP hD hS
  · rw [if_neg hq] at hF; exact k2 r u hF ls H locs hl hP hD hS
theorem x_icmp_ne (h : xC p s m args meth c cc nL Ts NW own ret D cl tys A) {x y : Int32} {off : Int} {tgt : Nat} (hdg : decode cc pc = .ok (.if_icmp .ne off, 3)) (ht : (pc : Int) + off = (tgt : Int)) (hn : pc + 3 = nx) (k1 : xJ p l e R s m args below meth c D cl tys cells A rt nL tgt lv rest S F2) (k2 : xJ p l e R s m args below meth c D cl tys cells A rt nL nx lv rest S F1) : xJ p l e R s m args below meth c D cl tys cells A rt nL pc lv (.int y :: .int x :: rest) S (if x = y then F1 else F2) := by
  intro r u hF ls H locs hl hP hD hS
  subst hn
  refine lv_icmp_ne h.1 h.2.1 hdg ht (fun hq => ?_) (fun hq => ?_)
  · rw [if_neg hq] at hF; exact k1 r u hF ls H locs hl hP hD hS
  · rw [if_pos hq] at hF; exact k2 r u hF ls H locs hl hP hD hS
theorem x_icmp_lt (h : xC p s m args meth c cc nL Ts NW own ret D cl tys A) {x y : Int32} {off : Int} {tgt : Nat} (hdg : decode cc pc = .ok (.if_icmp .lt off, 3)) (ht : (pc : Int) + off = (tgt : Int)) (hn : pc + 3 = nx) (k1 : xJ p l e R s m args below meth c D cl tys cells A rt nL tgt lv rest S F1) (k2 : xJ p l e R s m args below meth c D cl tys cells A rt nL nx lv rest S F2) : xJ p l e R s m args below meth c D cl tys cells A rt nL pc lv (.int y :: .int x :: rest) S (if x < y then F1 else F2) := by
  intro r u hF ls H locs hl hP hD hS
  subst hn
  refine lv_icmp_lt h.1 h.2.1 hdg ht (fun hq => ?_) (fun hq => ?_)
  · rw [if_pos hq] at hF; exact k1 r u hF ls H locs hl hP hD hS
  · rw [if_neg hq] at hF; exact k2 r u hF ls H locs hl hP hD hS
theorem x_icmp_ge (h : xC p s m args meth c cc nL Ts NW own ret D cl tys A) {x y : Int32} {off : Int} {tgt : Nat} (hdg : decode cc pc = .ok (.if_icmp .ge off, 3)) (ht : (pc : Int) + off = (tgt : Int)) (hn : pc + 3 = nx) (k1 : xJ p l e R s m args below meth c D cl tys cells A rt nL tgt lv rest S F2) (k2 : xJ p l e R s m args below meth c D cl tys cells A rt nL nx lv rest S F1) : xJ p l e R s m args below meth c D cl tys cells A rt nL pc lv (.int y :: .int x :: rest) S (if x < y then F1 else F2) := by
  intro r u hF ls H locs hl hP hD hS
  subst hn
  refine lv_icmp_ge h.1 h.2.1 hdg ht (fun hq => ?_) (fun hq => ?_)
  · rw [if_neg (Int32.not_lt.mpr hq)] at hF; exact k1 r u hF ls H locs hl hP hD hS
  · rw [if_pos (Int32.not_le.mp hq)] at hF; exact k2 r u hF ls H locs hl hP hD hS
theorem x_icmp_gt (h : xC p s m args meth c cc nL Ts NW own ret D cl tys A) {x y : Int32} {off : Int} {tgt : Nat} (hdg : decode cc pc = .ok (.if_icmp .gt off, 3)) (ht : (pc : Int) + off = (tgt : Int)) (hn : pc + 3 = nx) (k1 : xJ p l e R s m args below meth c D cl tys cells A rt nL tgt lv rest S F1) (k2 : xJ p l e R s m args below meth c D cl tys cells A rt nL nx lv rest S F2) : xJ p l e R s m args below meth c D cl tys cells A rt nL pc lv (.int y :: .int x :: rest) S (if y < x then F1 else F2) := by
  intro r u hF ls H locs hl hP hD hS
  subst hn
  refine lv_icmp_gt h.1 h.2.1 hdg ht (fun hq => ?_) (fun hq => ?_)
  · rw [if_pos hq] at hF; exact k1 r u hF ls H locs hl hP hD hS
  · rw [if_neg hq] at hF; exact k2 r u hF ls H locs hl hP hD hS
theorem x_icmp_le (h : xC p s m args meth c cc nL Ts NW own ret D cl tys A) {x y : Int32} {off : Int} {tgt : Nat} (hdg : decode cc pc = .ok (.if_icmp .le off, 3)) (ht : (pc : Int) + off = (tgt : Int)) (hn : pc + 3 = nx) (k1 : xJ p l e R s m args below meth c D cl tys cells A rt nL tgt lv rest S F2) (k2 : xJ p l e R s m args below meth c D cl tys cells A rt nL nx lv rest S F1) : xJ p l e R s m args below meth c D cl tys cells A rt nL pc lv (.int y :: .int x :: rest) S (if y < x then F1 else F2) := by
  intro r u hF ls H locs hl hP hD hS
  subst hn
  refine lv_icmp_le h.1 h.2.1 hdg ht (fun hq => ?_) (fun hq => ?_)
  · rw [if_neg (Int32.not_lt.mpr hq)] at hF; exact k1 r u hF ls H locs hl hP hD hS
  · rw [if_pos (Int32.not_le.mp hq)] at hF; exact k2 r u hF ls H locs hl hP hD hS
theorem x_tabOut (h : xC p s m args meth c cc nL Ts NW own ret D cl tys A) {dflt lo hi : Int} {offs : Array Int} {len : Nat} {x : Int32} {tgt : Nat} (hdg : decode cc pc = .ok (.tableswitch dflt lo hi offs, len)) (hx : x.toInt < lo ∨ hi < x.toInt) (ht : (pc : Int) + dflt = (tgt : Int)) (k : xJ p l e R s m args below meth c D cl tys cells A rt nL tgt lv rest S F) : xJ p l e R s m args below meth c D cl tys cells A rt nL pc lv (.int x :: rest) S F := by
  intro r u hF ls H locs hl hP hD hS
  exact lv_tableOut h.1 h.2.1 hdg hx ht (k r u hF ls H locs hl hP hD hS)
theorem x_tabIn (h : xC p s m args meth c cc nL Ts NW own ret D cl tys A) {dflt lo hi : Int} {offs : Array Int} {len : Nat} {x : Int32} {off : Int} {tgt : Nat} (hdg : decode cc pc = .ok (.tableswitch dflt lo hi offs, len)) (h1 : ¬ x.toInt < lo) (h2 : ¬ hi < x.toInt) (ho : offs[(x.toInt - lo).toNat]? = some off) (ht : (pc : Int) + off = (tgt : Int)) (k : xJ p l e R s m args below meth c D cl tys cells A rt nL tgt lv rest S F) : xJ p l e R s m args below meth c D cl tys cells A rt nL pc lv (.int x :: rest) S F := by
  intro r u hF ls H locs hl hP hD hS
  exact lv_tableIn h.1 h.2.1 hdg h1 h2 ho ht (k r u hF ls H locs hl hP hD hS)
theorem x_lookup (h : xC p s m args meth c cc nL Ts NW own ret D cl tys A) {dflt : Int} {ps : Array (Int × Int)} {len : Nat} {x : Int32} {off : Int} {tgt : Nat} (hdg : decode cc pc = .ok (.lookupswitch dflt ps, len)) (hp : (ps.toList.zip (ps.toList.drop 1)).all (fun (a, next) => a.1 < next.1) = true) (ho : Op.lookupswitch.offset ps.toList dflt x.toInt = off) (ht : (pc : Int) + off = (tgt : Int)) (k : xJ p l e R s m args below meth c D cl tys cells A rt nL tgt lv rest S F) : xJ p l e R s m args below meth c D cl tys cells A rt nL pc lv (.int x :: rest) S F := by
  intro r u hF ls H locs hl hP hD hS
  exact lv_lookup h.1 h.2.1 hdg hp ho ht (k r u hF ls H locs hl hP hD hS)
theorem x_set {x v : Int32} (hx : x = v) (k : xJ p l e R s m args below meth c D cl tys cells A rt nL pc lv (.int v :: rest) S F) : xJ p l e R s m args below meth c D cl tys cells A rt nL pc lv (.int x :: rest) S F := by subst hx; exact k
theorem x_get (h : xC p s m args meth c cc nL Ts NW own ret D cl tys A) {b N q index : Nat} {C : String} {T : u_T} {v : xSt → Value} (hg : xFg cells cl Ts b C T N q v) (hw : Cond.fieldLink own index (T q).1 (T q).2.1 (T q).2.2.1 ∈ Ts) (hdg : decode cc pc = .ok (.getfield index, 3)) (hn : pc + 3 = nx) (k : xJ p l e R s m args below meth c D cl tys cells A rt nL nx lv (v S :: rest) S F) : xJ p l e R s m args below meth c D cl tys cells A rt nL pc lv (.ref b :: rest) S F := by
  intro r u hF ls H locs hl hP hD hS
  subst hn
  obtain ⟨hin, hk, q0, ci, fs, hc, hall⟩ := hg
  exact va_get h.1 h.2.1 h.2.2.2.2.1 hin h.2.2.2.1 h.2.2.2.2.2.1 hP q0 (hall S).1 hc q hk (h.2.2.2.2.1 _ hw) (fun _ z => z) (hall S).2 hdg (k r u hF ls H locs hl hP hD hS)
theorem x_put (h : xC p s m args meth c cc nL Ts NW own ret D cl tys A) {b N kk q i index : Nat} {C : String} {T : u_T} {v : Int32} {K : xSt → xR} (hg : xFp cells cl Ts b C T N kk .int q i) (hw : Cond.fieldLink own index (T kk).1 (T kk).2.1 (T kk).2.2.1 ∈ Ts) (hdg : decode cc pc = .ok (.putfield index, 3)) (hn : pc + 3 = nx) (k : ∀ S1 : xSt, xJ p l e R s m args below meth c D cl tys cells A rt nL nx lv rest S1 (K S1)) : xJ p l e R s m args below meth c D cl tys cells A rt nL pc lv (.int v :: .ref b :: rest) S (xPu S q i v K) := by
  intro r u hF ls H locs hl hP hD hS
  subst hn
  obtain ⟨hin, hk, hfin, hd, ⟨ty0, hty⟩, hnm, q0, ci, fs, hc, hall⟩ := hg
  obtain ⟨he, hlen, hset⟩ := hall S
  refine va_put h.1 h.2.1 h.2.2.2.2.1 hin ty0 hty hnm h.2.2.2.1 h.2.2.2.2.2.1 hP hD hS q0 he hc kk hk (h.2.2.2.2.1 _ hw) (fun _ z => z) hfin hd rfl rfl hlen hdg (fun H1 locs1 hP1 hD1 hS1 => ?_)
  rw [← hset v] at hP1 hD1
  exact k (xU S q i v) r u hF ls H1 locs1 hl hP1 hD1 hS1
theorem x_putZ (h : xC p s m args meth c cc nL Ts NW own ret D cl tys A) {b N kk q i index : Nat} {C : String} {T : u_T} {v : Int32} {K : xSt → xR} (hg : xFp cells cl Ts b C T N kk .boolean q i) (hw : Cond.fieldLink own index (T kk).1 (T kk).2.1 (T kk).2.2.1 ∈ Ts) (hdg : decode cc pc = .ok (.putfield index, 3)) (hn : pc + 3 = nx) (k : ∀ S1 : xSt, xJ p l e R s m args below meth c D cl tys cells A rt nL nx lv rest S1 (K S1)) : xJ p l e R s m args below meth c D cl tys cells A rt nL pc lv (.int v :: .ref b :: rest) S (xBo v (xPu S q i v K)) := by
  intro r u hF ls H locs hl hP hD hS
  subst hn
  obtain ⟨hin, hk, hfin, hd, ⟨ty0, hty⟩, hnm, q0, ci, fs, hc, hall⟩ := hg
  obtain ⟨he, hlen, hset⟩ := hall S
  unfold xBo at hF
  by_cases hv : v = 0 ∨ v = 1
  · rw [if_pos hv] at hF
    refine va_put (ty := .boolean) h.1 h.2.1 h.2.2.2.2.1 hin ty0 hty hnm h.2.2.2.1 h.2.2.2.2.2.1 hP hD hS q0 he hc kk hk (h.2.2.2.2.1 _ hw) (fun _ z => z) hfin hd (by rcases hv with rfl | rfl <;> rfl) (by rcases hv with rfl | rfl <;> rfl) hlen hdg (fun H1 locs1 hP1 hD1 hS1 => ?_)
    rw [← hset v] at hP1 hD1
    exact k (xU S q i v) r u hF ls H1 locs1 hl hP1 hD1 hS1
  · rw [if_neg hv] at hF; cases hF
theorem x_getN (h : xC p s m args meth c cc nL Ts NW own ret D cl tys A) {b N q index : Nat} {C : String} {T : u_T} {v : xSt → Value} {host : String} (hg : xFg cells cl Ts b C T N q v) (hw : Cond.fieldLinkNest own index (T q).1 (T q).2.1 (T q).2.2.1 host ∈ NW) (hdg : decode cc pc = .ok (.getfield index, 3)) (hn : pc + 3 = nx) (k : xJ p l e R s m args below meth c D cl tys cells A rt nL nx lv (v S :: rest) S F) : xJ p l e R s m args below meth c D cl tys cells A rt nL pc lv (.ref b :: rest) S F := by
  intro r u hF ls H locs hl hP hD hS
  subst hn
  obtain ⟨hin, hk, q0, ci, fs, hc, hall⟩ := hg
  exact va_getN h.1 h.2.1 h.2.2.2.2.1 hin h.2.2.2.1 h.2.2.2.2.2.1 hP q0 (hall S).1 hc q hk (va_Nw.use rfl (h.2.2.2.2.2.2.2.2.2 _ hw).2) (fun _ z => z) (hall S).2 hdg (k r u hF ls H locs hl hP hD hS)
theorem x_putN (h : xC p s m args meth c cc nL Ts NW own ret D cl tys A) {b N kk q i index : Nat} {C : String} {T : u_T} {v : Int32} {K : xSt → xR} {host : String} (hg : xFp cells cl Ts b C T N kk .int q i) (hw : Cond.fieldLinkNest own index (T kk).1 (T kk).2.1 (T kk).2.2.1 host ∈ NW) (hdg : decode cc pc = .ok (.putfield index, 3)) (hn : pc + 3 = nx) (k : ∀ S1 : xSt, xJ p l e R s m args below meth c D cl tys cells A rt nL nx lv rest S1 (K S1)) : xJ p l e R s m args below meth c D cl tys cells A rt nL pc lv (.int v :: .ref b :: rest) S (xPu S q i v K) := by
  intro r u hF ls H locs hl hP hD hS
  subst hn
  obtain ⟨hin, hk, hfin, hd, ⟨ty0, hty⟩, hnm, q0, ci, fs, hc, hall⟩ := hg
  obtain ⟨he, hlen, hset⟩ := hall S
  refine va_putN h.1 h.2.1 h.2.2.2.2.1 hin ty0 hty hnm h.2.2.2.1 h.2.2.2.2.2.1 hP hD hS q0 he hc kk hk (va_Nw.use rfl (h.2.2.2.2.2.2.2.2.2 _ hw).2) (fun _ z => z) hfin hd rfl rfl hlen hdg (fun H1 locs1 hP1 hD1 hS1 => ?_)
  rw [← hset v] at hP1 hD1
  exact k (xU S q i v) r u hF ls H1 locs1 hl hP1 hD1 hS1
theorem x_putZN (h : xC p s m args meth c cc nL Ts NW own ret D cl tys A) {b N kk q i index : Nat} {C : String} {T : u_T} {v : Int32} {K : xSt → xR} {host : String} (hg : xFp cells cl Ts b C T N kk .boolean q i) (hw : Cond.fieldLinkNest own index (T kk).1 (T kk).2.1 (T kk).2.2.1 host ∈ NW) (hdg : decode cc pc = .ok (.putfield index, 3)) (hn : pc + 3 = nx) (k : ∀ S1 : xSt, xJ p l e R s m args below meth c D cl tys cells A rt nL nx lv rest S1 (K S1)) : xJ p l e R s m args below meth c D cl tys cells A rt nL pc lv (.int v :: .ref b :: rest) S (xBo v (xPu S q i v K)) := by
  intro r u hF ls H locs hl hP hD hS
  subst hn
  obtain ⟨hin, hk, hfin, hd, ⟨ty0, hty⟩, hnm, q0, ci, fs, hc, hall⟩ := hg
  obtain ⟨he, hlen, hset⟩ := hall S
  unfold xBo at hF
  by_cases hv : v = 0 ∨ v = 1
  · rw [if_pos hv] at hF
    refine va_putN (ty := .boolean) h.1 h.2.1 h.2.2.2.2.1 hin ty0 hty hnm h.2.2.2.1 h.2.2.2.2.2.1 hP hD hS q0 he hc kk hk (va_Nw.use rfl (h.2.2.2.2.2.2.2.2.2 _ hw).2) (fun _ z => z) hfin hd (by rcases hv with rfl | rfl <;> rfl) (by rcases hv with rfl | rfl <;> rfl) hlen hdg (fun H1 locs1 hP1 hD1 hS1 => ?_)
    rw [← hset v] at hP1 hD1
    exact k (xU S q i v) r u hF ls H1 locs1 hl hP1 hD1 hS1
  · rw [if_neg hv] at hF; cases hF
theorem x_iald (h : xC p s m args meth c cc nL Ts NW own ret D cl tys A) {b q n : Nat} {i : Int32} {K : Int32 → xR} (ha : xAr cells tys b .int q n) (hdg : decode cc pc = .ok (.iaload, 1)) (hn : pc + 1 = nx) (k : ∀ v : Int32, xJ p l e R s m args below meth c D cl tys cells A rt nL nx lv (.int v :: rest) S (K v)) : xJ p l e R s m args below meth c D cl tys cells A rt nL pc lv (.int i :: .ref b :: rest) S (xRd S q n i K) := by
  intro r u hF ls H locs hl hP hD hS
  subst hn
  obtain ⟨q0, t0, cA, ht, hall⟩ := ha
  unfold xRd at hF
  by_cases hi : i < 0 ∨ n ≤ i.toNatClampNeg
  · rw [if_pos hi] at hF; cases hF
  · rw [if_neg hi] at hF
    exact va_iald h.1 h.2.1 h.2.2.2.2.2.1 hP q0 t0 (hall S).1 ht hi hdg (k _ r u hF ls H locs hl hP hD hS)
theorem x_zald (h : xC p s m args meth c cc nL Ts NW own ret D cl tys A) {b q n : Nat} {i : Int32} {K : Int32 → xR} (ha : xAr cells tys b .boolean q n) (hdg : decode cc pc = .ok (.baload, 1)) (hn : pc + 1 = nx) (k : ∀ v : Int32, xJ p l e R s m args below meth c D cl tys cells A rt nL nx lv (.int v :: rest) S (K v)) : xJ p l e R s m args below meth c D cl tys cells A rt nL pc lv (.int i :: .ref b :: rest) S (xRd S q n i K) := by
  intro r u hF ls H locs hl hP hD hS
  subst hn
  obtain ⟨q0, t0, cA, ht, hall⟩ := ha
  unfold xRd at hF
  by_cases hi : i < 0 ∨ n ≤ i.toNatClampNeg
  · rw [if_pos hi] at hF; cases hF
  · rw [if_neg hi] at hF
    exact va_zald h.1 h.2.1 h.2.2.2.2.2.1 hP q0 t0 (hall S).1 ht hi hdg (k _ r u hF ls H locs hl hP hD hS)
theorem x_iast (h : xC p s m args meth c cc nL Ts NW own ret D cl tys A) {b q n : Nat} {i v : Int32} {K : xSt → xR} (ha : xAr cells tys b .int q n) (hdg : decode cc pc = .ok (.iastore, 1)) (hn : pc + 1 = nx) (k : ∀ S1 : xSt, xJ p l e R s m args below meth c D cl tys cells A rt nL nx lv rest S1 (K S1)) : xJ p l e R s m args below meth c D cl tys cells A rt nL pc lv (.int v :: .int i :: .ref b :: rest) S (xWr S q n i v K) := by
  intro r u hF ls H locs hl hP hD hS
  subst hn
  obtain ⟨q0, t0, cA, ht, hall⟩ := ha
  obtain ⟨he, hset⟩ := hall S
  unfold xWr at hF
  by_cases hi : i < 0 ∨ n ≤ i.toNatClampNeg
  · rw [if_pos hi] at hF; cases hF
  · rw [if_neg hi] at hF
    refine va_iast h.1 h.2.1 h.2.2.2.2.2.1 hP hD hS q0 t0 he ht hi hdg (fun H1 locs1 hP1 hD1 hS1 => ?_)
    rw [← hset] at hP1 hD1
    exact k _ r u hF ls H1 locs1 hl hP1 hD1 hS1
theorem x_zast (h : xC p s m args meth c cc nL Ts NW own ret D cl tys A) {b q n : Nat} {i v : Int32} {K : xSt → xR} (ha : xAr cells tys b .boolean q n) (hdg : decode cc pc = .ok (.bastore, 1)) (hn : pc + 1 = nx) (k : ∀ S1 : xSt, xJ p l e R s m args below meth c D cl tys cells A rt nL nx lv rest S1 (K S1)) : xJ p l e R s m args below meth c D cl tys cells A rt nL pc lv (.int v :: .int i :: .ref b :: rest) S (xBo v (xWr S q n i v K)) := by
  intro r u hF ls H locs hl hP hD hS
  subst hn
  obtain ⟨q0, t0, cA, ht, hall⟩ := ha
  obtain ⟨he, hset⟩ := hall S
  unfold xBo at hF
  by_cases hv : v = 0 ∨ v = 1
  · rw [if_pos hv] at hF
    unfold xWr at hF
    by_cases hi : i < 0 ∨ n ≤ i.toNatClampNeg
    · rw [if_pos hi] at hF; cases hF
    · rw [if_neg hi] at hF
      have hvn : vp_nar .boolean v = v := by rcases hv with rfl | rfl <;> rfl
      refine va_zast h.1 h.2.1 h.2.2.2.2.2.1 hP hD hS q0 t0 he ht hi hdg (fun H1 locs1 hP1 hD1 hS1 => ?_)
      rw [hvn, ← hset] at hP1 hD1
      exact k _ r u hF ls H1 locs1 hl hP1 hD1 hS1
  · rw [if_neg hv] at hF; cases hF
theorem x_val {v : Int32} {K : Int32 → xR} (k : ∀ a : Int32, xJ p l e R s m args below meth c D cl tys cells A rt nL pc lv (.int a :: rest) S (K a)) : xJ p l e R s m args below meth c D cl tys cells A rt nL pc lv (.int v :: rest) S (xV v K) := k v
theorem x_iret (h : xC p s m args meth c cc nL Ts NW own (some .int) D cl tys A) {v : Int32} (hdg : decode cc pc = .ok (.ireturn, 1)) : xJ p l e R s m args below meth c D cl tys cells A true nL pc lv [.int v] S (some (v, S)) := by
  intro r u hF ls H locs hl hP hD hS
  cases hF
  exact W.iret h.1 h.2.1 h.2.2.2.2.2.2.1 (fun t ht hW => ⟨rfl, by rw [ht]; exact hP, va_K.moved hW.alike h.2.2.2.2.2.1, hD, hS.F ht⟩) hS.2.2 hdg h.2.2.2.2.2.2.2.1
theorem x_zret (h : xC p s m args meth c cc nL Ts NW own (some .boolean) D cl tys A) {v : Int32} (hdg : decode cc pc = .ok (.ireturn, 1)) : xJ p l e R s m args below meth c D cl tys cells A true nL pc lv [.int v] S (xBo v (some (v, S))) := by
  intro r u hF ls H locs hl hP hD hS
  unfold xBo at hF
  by_cases hv : v = 0 ∨ v = 1
  · rw [if_pos hv] at hF
    cases hF
    exact W.zret h.1 h.2.1 h.2.2.2.2.2.2.1 (by rcases hv with rfl | rfl <;> rfl) (fun t ht hW => ⟨rfl, by rw [ht]; exact hP, va_K.moved hW.alike h.2.2.2.2.2.1, hD, hS.F ht⟩) hS.2.2 hdg h.2.2.2.2.2.2.2.1
  · rw [if_neg hv] at hF; cases hF
theorem x_vret (h : xC p s m args meth c cc nL Ts NW own none D cl tys A) (hdg : decode cc pc = .ok (.return_, 1)) : xJ p l e R s m args below meth c D cl tys cells A false nL pc lv [] S (some (0, S)) := by
  intro r u hF ls H locs hl hP hD hS
  cases hF
  exact W.vret h.1 h.2.1 h.2.2.2.2.2.2.1 (fun t ht hW => ⟨rfl, by rw [ht]; exact hP, va_K.moved hW.alike h.2.2.2.2.2.1, hD, hS.F ht⟩) hS.2.2 hdg h.2.2.2.2.2.2.2.1
theorem x_mmax (h : xC p s m args meth c cc nL Ts NW own ret D cl tys A) {index : Nat} {x y : Int32} (hw1 : Cond.methodLink own index Lib.Math.max.name ∈ Ts) (hw2 : Cond.static Lib.Math.max.name ∈ Ts) (hw3 : Cond.initialized "java/lang/Math" ∈ Ts) (hw4 : Cond.code Lib.Math.max.name Lib.Math.max.code 2 (some .int) ∈ Ts) (hf : 1 ≤ R.frames) (hlo : (rest.map fun v => v.category).sum + 13 ≤ R.locals) (hdg : decode cc pc = .ok (.invokestatic index, 3)) (hn : pc + 3 = nx) (k : xJ p l e R s m args below meth c D cl tys cells A rt nL nx lv (.int (if x < y then y else x) :: rest) S F) : xJ p l e R s m args below meth c D cl tys cells A rt nL pc lv (.int y :: .int x :: rest) S F := by
  intro r u hF ls H locs hl hP hD hS
  subst hn
  exact va_mmax h.1 h.2.1 (h.2.2.1.trans hl.1.symm) h.2.2.2.1 (h.2.2.2.2.1 _ hw1) (h.2.2.2.2.1 _ hw2) (h.2.2.2.2.1 _ hw3) (h.2.2.2.2.1 _ hw4) hf hlo (Nat.zero_le _) (Nat.zero_le _) hdg (k r u hF ls H locs hl hP hD hS)
theorem x_blind {av : List Value} {sz : Nat} : FrameBlind (xP D cl tys cells NW av S sz) := fun a U g mk q => by
  obtain ⟨q0, q1, qP, qK, qD, qN⟩ := q
  exact ⟨q0, q1, qP, va_K.moved (u := U) (U := U.calling g mk a) (Vm.Alike.refl U.vm) qK, qD, fun w hw => ⟨(qN w hw).1, va_Nw.same (u := U) (U := U.calling g mk a) (xNest_tab (qN w hw).1) rfl (qN w hw).2⟩⟩
theorem x_back (h : xC p s m args meth c cc nL Ts NW own ret D cl tys A) {rt2 : Bool} {f : xR} {K : Int32 → xSt → xR} {a : Array Value}
    (hr : ∀ (r : Int32) (u : xSt), f = some (r, u) → ∀ (ls : Array Slot) (H : Heap) (locs : List Loc), lv_has ls nL lv → va_P D cl (cells S) H → va_D A (cells S) → va_S A s.heap H locs → va_Run p l e R s m args below meth c H locs 0 0 0 0 (F0 m pc ls st) rest (xQ D cl tys cells (va_A (cells S) H.size) rt2 r u a) (va_A (cells S) H.size))
    (hn : pc + 3 = nx) (k : ∀ (r : Int32) (u : xSt), xJ p l e R s m args below meth c D cl tys cells A rt nL nx lv ((cond rt2 (some (Value.int r)) none).toList ++ rest) u (K r u)) : xJ p l e R s m args below meth c D cl tys cells A rt nL pc lv st S (xB f K) := by
  intro r u hF ls H locs hl hP hD hS
  subst hn
  cases hf : f with
  | none => rw [hf] at hF; cases hF
  | some q =>
    obtain ⟨r1, u1⟩ := q
    rw [hf] at hF
    have hA1 : ∀ q, va_A (cells S) H.size q → A q := va_free (wc := cells S) hD hS h.2.2.2.2.2.2.2.2.1 (List.range (cells S).length) (by
      apply List.ext_getElem?
      intro i
      by_cases hi : i < (cells S).length
      · simp [hi]
      · simp [hi])
    intro T hT X
    obtain ⟨v, st₀, t, T', L, h0, X', hL, e1, e2, hq, go⟩ := hr r1 u1 hf ls H locs hl hP hD hS T hT X
    obtain ⟨hv, hP1, hK1, hD1, hz, hkp⟩ := hq
    have hv := Outcome.returned.inj hv
    subst hv
    rw [h0] at hz hkp
    obtain ⟨t2, a1, b1⟩ := k r1 u1 r u hF ls T'.heap (locs ++ L) hl (by rw [e1]; exact hP1) (hD1.weaken (fun _ q _ z => hA1 q.1 z))
      ⟨Nat.le_trans hS.1 (by rw [e1]; exact hz), fun q h1 h2 => by rw [e1, hkp q (Nat.lt_of_lt_of_le h1 hS.1) (fun z => h2 (hA1 q z))]; exact hS.2.1 q h1 h2, fun q hq => by
        rcases List.mem_append.mp hq with z | z
        · exact hS.2.2 q z
        · exact hA1 _ (hL q z)⟩ T' rfl X'
    exact ⟨t2, go t2 a1, b1⟩
theorem x_cVNi (h : xC p s m args meth c cc nL Ts NW own ret D cl tys A) {y : MethodName} {bytes : ByteArray} {maxL n index : Nat} {ret2 : Option FieldType} {ws : List Cond} {rm : Room} {As : List Value} {f : xR} {K : Int32 → xSt → xR} {host : String} {b : Nat} {C : String} (hM : xM l D cl tys cells NW y ws rm true (.ref b :: As) S f) (cw : va_CN R s args own index y host bytes maxL ret2 ws rm 0 0 n ∧ (Cond.instanceMethod y).before args s = true ∧ (Cond.selects C y y).before args s = true) (ho : xOb cells cl b C) (hN : As.length = n) (hst : st = As.reverse ++ .ref b :: rest) (hW : (rest.map fun v => v.category).sum ≤ 8) (hdg : decode cc pc = .ok (.invokevirtual index, 3)) (hn : pc + 3 = nx) (k : ∀ (r : Int32) (u : xSt), xJ p l e R s m args below meth c D cl tys cells A rt nL nx lv (.int r :: rest) u (K r u)) : xJ p l e R s m args below meth c D cl tys cells A rt nL pc lv st S (xB f K) := by
  obtain ⟨q0, ci, q, fs, hc, hq, hall⟩ := ho
  subst hq
  refine x_back (rest := rest) (rt2 := true) (a := (Value.ref b :: As).toArray) h (fun r u hf ls H locs hl hP hD hS => ?_) hn k
  exact va_runVN (As := As) ⟨h.1, h.2.1, h.2.2.1, h.2.2.2.1, h.2.2.2.2.1⟩ (hM r u hf H.size) cw ⟨x_blind, va_recv h.2.2.2.2.2.1 hP hc (hall S), fun U hU hW => ⟨rfl, by rw [hU], by rw [hU]; exact hP, va_K.moved hW.alike h.2.2.2.2.2.1, hD.weaken (fun _ _ _ _ => trivial), fun w hw => ⟨(h.2.2.2.2.2.2.2.2.2 w hw).1, xNest_warm (h.2.2.2.2.2.2.2.2.2 w hw).1 hW (h.2.2.2.2.2.2.2.2.2 w hw).2⟩⟩⟩ rfl hN hl.1 hst (lv_room hW) hdg ⟨Nat.zero_le _, Nat.zero_le _⟩
theorem x_cVNv (h : xC p s m args meth c cc nL Ts NW own ret D cl tys A) {y : MethodName} {bytes : ByteArray} {maxL n index : Nat} {ret2 : Option FieldType} {ws : List Cond} {rm : Room} {As : List Value} {f : xR} {K : Int32 → xSt → xR} {host : String} {b : Nat} {C : String} (hM : xM l D cl tys cells NW y ws rm false (.ref b :: As) S f) (cw : va_CN R s args own index y host bytes maxL ret2 ws rm 0 0 n ∧ (Cond.instanceMethod y).before args s = true ∧ (Cond.selects C y y).before args s = true) (ho : xOb cells cl b C) (hN : As.length = n) (hst : st = As.reverse ++ .ref b :: rest) (hW : (rest.map fun v => v.category).sum ≤ 8) (hdg : decode cc pc = .ok (.invokevirtual index, 3)) (hn : pc + 3 = nx) (k : ∀ (r : Int32) (u : xSt), xJ p l e R s m args below meth c D cl tys cells A rt nL nx lv rest u (K r u)) : xJ p l e R s m args below meth c D cl tys cells A rt nL pc lv st S (xB f K) := by
  obtain ⟨q0, ci, q, fs, hc, hq, hall⟩ := ho
  subst hq
  refine x_back (rest := rest) (rt2 := false) (a := (Value.ref b :: As).toArray) h (fun r u hf ls H locs hl hP hD hS => ?_) hn k
  exact va_runVN (As := As) ⟨h.1, h.2.1, h.2.2.1, h.2.2.2.1, h.2.2.2.2.1⟩ (hM r u hf H.size) cw ⟨x_blind, va_recv h.2.2.2.2.2.1 hP hc (hall S), fun U hU hW => ⟨rfl, by rw [hU], by rw [hU]; exact hP, va_K.moved hW.alike h.2.2.2.2.2.1, hD.weaken (fun _ _ _ _ => trivial), fun w hw => ⟨(h.2.2.2.2.2.2.2.2.2 w hw).1, xNest_warm (h.2.2.2.2.2.2.2.2.2 w hw).1 hW (h.2.2.2.2.2.2.2.2.2 w hw).2⟩⟩⟩ rfl hN hl.1 hst (lv_room hW) hdg ⟨Nat.zero_le _, Nat.zero_le _⟩
theorem x_cVi (h : xC p s m args meth c cc nL Ts NW own ret D cl tys A) {y : MethodName} {bytes : ByteArray} {maxL n index : Nat} {ret2 : Option FieldType} {ws : List Cond} {rm : Room} {As : List Value} {f : xR} {K : Int32 → xSt → xR} {b : Nat} {C : String} (hM : xM l D cl tys cells NW y ws rm true (.ref b :: As) S f) (cw : CallW R s args own C index y bytes maxL ret2 ws rm 0 0 n) (ho : xOb cells cl b C) (hN : As.length = n) (hst : st = As.reverse ++ .ref b :: rest) (hW : (rest.map fun v => v.category).sum ≤ 8) (hdg : decode cc pc = .ok (.invokevirtual index, 3)) (hn : pc + 3 = nx) (k : ∀ (r : Int32) (u : xSt), xJ p l e R s m args below meth c D cl tys cells A rt nL nx lv (.int r :: rest) u (K r u)) : xJ p l e R s m args below meth c D cl tys cells A rt nL pc lv st S (xB f K) := by
  obtain ⟨q0, ci, q, fs, hc, hq, hall⟩ := ho
  subst hq
  refine x_back (rest := rest) (rt2 := true) (a := (Value.ref b :: As).toArray) h (fun r u hf ls H locs hl hP hD hS => ?_) hn k
  exact va_runV (As := As) ⟨h.1, h.2.1, h.2.2.1, h.2.2.2.1, h.2.2.2.2.1⟩ (hM r u hf H.size) cw ⟨x_blind, va_recv h.2.2.2.2.2.1 hP hc (hall S), fun U hU hW => ⟨rfl, by rw [hU], by rw [hU]; exact hP, va_K.moved hW.alike h.2.2.2.2.2.1, hD.weaken (fun _ _ _ _ => trivial), fun w hw => ⟨(h.2.2.2.2.2.2.2.2.2 w hw).1, xNest_warm (h.2.2.2.2.2.2.2.2.2 w hw).1 hW (h.2.2.2.2.2.2.2.2.2 w hw).2⟩⟩⟩ rfl hN hl.1 hst (lv_room hW) hdg ⟨Nat.zero_le _, Nat.zero_le _⟩
theorem x_cVv (h : xC p s m args meth c cc nL Ts NW own ret D cl tys A) {y : MethodName} {bytes : ByteArray} {maxL n index : Nat} {ret2 : Option FieldType} {ws : List Cond} {rm : Room} {As : List Value} {f : xR} {K : Int32 → xSt → xR} {b : Nat} {C : String} (hM : xM l D cl tys cells NW y ws rm false (.ref b :: As) S f) (cw : CallW R s args own C index y bytes maxL ret2 ws rm 0 0 n) (ho : xOb cells cl b C) (hN : As.length = n) (hst : st = As.reverse ++ .ref b :: rest) (hW : (rest.map fun v => v.category).sum ≤ 8) (hdg : decode cc pc = .ok (.invokevirtual index, 3)) (hn : pc + 3 = nx) (k : ∀ (r : Int32) (u : xSt), xJ p l e R s m args below meth c D cl tys cells A rt nL nx lv rest u (K r u)) : xJ p l e R s m args below meth c D cl tys cells A rt nL pc lv st S (xB f K) := by
  obtain ⟨q0, ci, q, fs, hc, hq, hall⟩ := ho
  subst hq
  refine x_back (rest := rest) (rt2 := false) (a := (Value.ref b :: As).toArray) h (fun r u hf ls H locs hl hP hD hS => ?_) hn k
  exact va_runV (As := As) ⟨h.1, h.2.1, h.2.2.1, h.2.2.2.1, h.2.2.2.2.1⟩ (hM r u hf H.size) cw ⟨x_blind, va_recv h.2.2.2.2.2.1 hP hc (hall S), fun U hU hW => ⟨rfl, by rw [hU], by rw [hU]; exact hP, va_K.moved hW.alike h.2.2.2.2.2.1, hD.weaken (fun _ _ _ _ => trivial), fun w hw => ⟨(h.2.2.2.2.2.2.2.2.2 w hw).1, xNest_warm (h.2.2.2.2.2.2.2.2.2 w hw).1 hW (h.2.2.2.2.2.2.2.2.2 w hw).2⟩⟩⟩ rfl hN hl.1 hst (lv_room hW) hdg ⟨Nat.zero_le _, Nat.zero_le _⟩
theorem x_cSNi (h : xC p s m args meth c cc nL Ts NW own ret D cl tys A) {y : MethodName} {bytes : ByteArray} {maxL n index : Nat} {ret2 : Option FieldType} {ws : List Cond} {rm : Room} {As : List Value} {f : xR} {K : Int32 → xSt → xR} {host : String} (hM : xM l D cl tys cells NW y ws rm true As S f) (cw : va_CN R s args own index y host bytes maxL ret2 ws rm 0 0 n ∧ (Cond.static y).before args s = true ∧ True) (hN : As.length = n) (hst : st = As.reverse ++ rest) (hW : (rest.map fun v => v.category).sum ≤ 8) (hdg : decode cc pc = .ok (.invokestatic index, 3)) (hn : pc + 3 = nx) (k : ∀ (r : Int32) (u : xSt), xJ p l e R s m args below meth c D cl tys cells A rt nL nx lv (.int r :: rest) u (K r u)) : xJ p l e R s m args below meth c D cl tys cells A rt nL pc lv st S (xB f K) := by
  refine x_back (rest := rest) (rt2 := true) (a := As.toArray) h (fun r u hf ls H locs hl hP hD hS => ?_) hn k
  exact va_runSN (As := As) ⟨h.1, h.2.1, h.2.2.1, h.2.2.2.1, h.2.2.2.2.1⟩ (hM r u hf H.size) cw ⟨x_blind, fun U hU hW => ⟨rfl, by rw [hU], by rw [hU]; exact hP, va_K.moved hW.alike h.2.2.2.2.2.1, hD.weaken (fun _ _ _ _ => trivial), fun w hw => ⟨(h.2.2.2.2.2.2.2.2.2 w hw).1, xNest_warm (h.2.2.2.2.2.2.2.2.2 w hw).1 hW (h.2.2.2.2.2.2.2.2.2 w hw).2⟩⟩⟩ rfl hN hl.1 hst (lv_room hW) hdg ⟨Nat.zero_le _, Nat.zero_le _⟩
theorem x_cSNv (h : xC p s m args meth c cc nL Ts NW own ret D cl tys A) {y : MethodName} {bytes : ByteArray} {maxL n index : Nat} {ret2 : Option FieldType} {ws : List Cond} {rm : Room} {As : List Value} {f : xR} {K : Int32 → xSt → xR} {host : String} (hM : xM l D cl tys cells NW y ws rm false As S f) (cw : va_CN R s args own index y host bytes maxL ret2 ws rm 0 0 n ∧ (Cond.static y).before args s = true ∧ True) (hN : As.length = n) (hst : st = As.reverse ++ rest) (hW : (rest.map fun v => v.category).sum ≤ 8) (hdg : decode cc pc = .ok (.invokestatic index, 3)) (hn : pc + 3 = nx) (k : ∀ (r : Int32) (u : xSt), xJ p l e R s m args below meth c D cl tys cells A rt nL nx lv rest u (K r u)) : xJ p l e R s m args below meth c D cl tys cells A rt nL pc lv st S (xB f K) := by
  refine x_back (rest := rest) (rt2 := false) (a := As.toArray) h (fun r u hf ls H locs hl hP hD hS => ?_) hn k
  exact va_runSN (As := As) ⟨h.1, h.2.1, h.2.2.1, h.2.2.2.1, h.2.2.2.2.1⟩ (hM r u hf H.size) cw ⟨x_blind, fun U hU hW => ⟨rfl, by rw [hU], by rw [hU]; exact hP, va_K.moved hW.alike h.2.2.2.2.2.1, hD.weaken (fun _ _ _ _ => trivial), fun w hw => ⟨(h.2.2.2.2.2.2.2.2.2 w hw).1, xNest_warm (h.2.2.2.2.2.2.2.2.2 w hw).1 hW (h.2.2.2.2.2.2.2.2.2 w hw).2⟩⟩⟩ rfl hN hl.1 hst (lv_room hW) hdg ⟨Nat.zero_le _, Nat.zero_le _⟩
theorem x_cSi (h : xC p s m args meth c cc nL Ts NW own ret D cl tys A) {y : MethodName} {bytes : ByteArray} {maxL n index : Nat} {ret2 : Option FieldType} {ws : List Cond} {rm : Room} {As : List Value} {f : xR} {K : Int32 → xSt → xR} (hM : xM l D cl tys cells NW y ws rm true As S f) (cw : CallB R s args own index y bytes maxL ret2 ws rm 0 0 n ∧ (Cond.static y).before args s = true) (hN : As.length = n) (hst : st = As.reverse ++ rest) (hW : (rest.map fun v => v.category).sum ≤ 8) (hdg : decode cc pc = .ok (.invokestatic index, 3)) (hn : pc + 3 = nx) (k : ∀ (r : Int32) (u : xSt), xJ p l e R s m args below meth c D cl tys cells A rt nL nx lv (.int r :: rest) u (K r u)) : xJ p l e R s m args below meth c D cl tys cells A rt nL pc lv st S (xB f K) := by
  refine x_back (rest := rest) (rt2 := true) (a := As.toArray) h (fun r u hf ls H locs hl hP hD hS => ?_) hn k
  exact va_runS (As := As) ⟨h.1, h.2.1, h.2.2.1, h.2.2.2.1, h.2.2.2.2.1⟩ (hM r u hf H.size) cw ⟨x_blind, fun U hU hW => ⟨rfl, by rw [hU], by rw [hU]; exact hP, va_K.moved hW.alike h.2.2.2.2.2.1, hD.weaken (fun _ _ _ _ => trivial), fun w hw => ⟨(h.2.2.2.2.2.2.2.2.2 w hw).1, xNest_warm (h.2.2.2.2.2.2.2.2.2 w hw).1 hW (h.2.2.2.2.2.2.2.2.2 w hw).2⟩⟩⟩ rfl hN hl.1 hst (lv_room hW) hdg ⟨Nat.zero_le _, Nat.zero_le _⟩
theorem x_cSv (h : xC p s m args meth c cc nL Ts NW own ret D cl tys A) {y : MethodName} {bytes : ByteArray} {maxL n index : Nat} {ret2 : Option FieldType} {ws : List Cond} {rm : Room} {As : List Value} {f : xR} {K : Int32 → xSt → xR} (hM : xM l D cl tys cells NW y ws rm false As S f) (cw : CallB R s args own index y bytes maxL ret2 ws rm 0 0 n ∧ (Cond.static y).before args s = true) (hN : As.length = n) (hst : st = As.reverse ++ rest) (hW : (rest.map fun v => v.category).sum ≤ 8) (hdg : decode cc pc = .ok (.invokestatic index, 3)) (hn : pc + 3 = nx) (k : ∀ (r : Int32) (u : xSt), xJ p l e R s m args below meth c D cl tys cells A rt nL nx lv rest u (K r u)) : xJ p l e R s m args below meth c D cl tys cells A rt nL pc lv st S (xB f K) := by
  refine x_back (rest := rest) (rt2 := false) (a := As.toArray) h (fun r u hf ls H locs hl hP hD hS => ?_) hn k
  exact va_runS (As := As) ⟨h.1, h.2.1, h.2.2.1, h.2.2.2.1, h.2.2.2.2.1⟩ (hM r u hf H.size) cw ⟨x_blind, fun U hU hW => ⟨rfl, by rw [hU], by rw [hU]; exact hP, va_K.moved hW.alike h.2.2.2.2.2.1, hD.weaken (fun _ _ _ _ => trivial), fun w hw => ⟨(h.2.2.2.2.2.2.2.2.2 w hw).1, xNest_warm (h.2.2.2.2.2.2.2.2.2 w hw).1 hW (h.2.2.2.2.2.2.2.2.2 w hw).2⟩⟩⟩ rfl hN hl.1 hst (lv_room hW) hdg ⟨Nat.zero_le _, Nat.zero_le _⟩
theorem x_met {y : MethodName} {ws ws' : List Cond} {maxL : Nat} {rm : Room} (hy : plainName y.cls = true) (hw : ws = Cond.code y cc maxL ret :: ws') (av : List Value) {lv0 : List (Nat × Value)} (hav : (lg_sl av).length ≤ maxL) (hlv : lv_args 0 av = lv0)
    (body : ∀ (p : Program) (e : Env) (s : State) (m : MethodId) (args : Array Value) (below : List Frame) (meth : Method) (c : Code) (A : Nat → Prop), xC p s m args meth c cc maxL ws NW y.cls ret D cl tys A → xJ p l e rm s m args below meth c D cl tys cells A rt maxL 0 lv0 [] S F) : xM l D cl tys cells NW y ws rm rt av S F := by
  intro r u hF sz
  refine Met.ofW (cc := cc) (maxL := maxL) (ret := ret) hy hw ?_
  intro p e s m args below meth c s₁ B hml hv
  obtain ⟨rfl, hsz, hP, hK, hD0, hNW⟩ := hv
  subst hsz
  have hts := atoms_spec (ws := ws) B.pre
  have hl := lv_entry av (n := maxL) hav
  rw [lg_entry_eq]
  rw [hlv] at hl
  exact body p e s m _ below meth c (va_A (cells S) s.heap.size) ⟨B.exec, B.bytes, hml, findClass_of_methodNamed B.named, hts, hK, B.returns, B.notSynchronized, fun q z => Or.inr z, hNW⟩ r u hF _ s.heap [] hl hP hD0.self va_S.rf
def xGo (w : Cond) : Prop := (w.onTables && w.keeps) = true ∨ ∃ ty, w = .arrayClass ty
theorem x_good {wA : List Cond} (cx : Cond) {cy : Cond} (hA : ∀ w ∈ wA, xGo w) (hy : cy ∈ wA) : GoodIn (cx :: wA) (cy :: wA) := by
  intro w hw
  rcases List.mem_cons.mp hw with rfl | hw
  · exact ⟨List.mem_cons_of_mem _ hy, hA _ hy⟩
  · exact ⟨List.mem_cons_of_mem _ hw, hA _ hw⟩
def xYv (wA : List Cond) (y : MethodName) (bytes : ByteArray) (maxL : Nat) (ret : Option FieldType) (n : Nat) (C : String) : Prop :=
  Cond.code y bytes maxL ret ∈ wA ∧ Cond.instanceMethod y ∈ wA ∧ Cond.selects C y y ∈ wA ∧ Cond.initialized y.cls ∈ wA ∧ y.cls ≠ "java/lang/invoke/MethodHandle" ∧ y.cls ≠ "java/lang/invoke/VarHandle" ∧ (parseMethodDescriptor y.desc).map (fun d => d.parameters.length) = some n
def xYs (wA : List Cond) (y : MethodName) (bytes : ByteArray) (maxL : Nat) (ret : Option FieldType) (n : Nat) : Prop :=
  Cond.code y bytes maxL ret ∈ wA ∧ Cond.static y ∈ wA ∧ Cond.initialized y.cls ∈ wA ∧ y.cls ≠ "java/lang/invoke/MethodHandle" ∧ y.cls ≠ "java/lang/invoke/VarHandle" ∧ (parseMethodDescriptor y.desc).map (fun d => d.parameters.length) = some n
theorem x_wVN {cx : Cond} {wA : List Cond} {y : MethodName} {bytes : ByteArray} {maxL n index : Nat} {ret2 : Option FieldType} {rm : Room} {host C : String} (h : xC p s m args meth c cc nL (cx :: wA) NW own ret D cl tys A) (hA : ∀ w ∈ wA, xGo w) (hy : xYv wA y bytes maxL ret2 n C) (hl : Cond.methodLinkNest own index y host ∈ NW) (hR : rm.frames + 1 ≤ R.frames ∧ 8 + (maxL + 11) + rm.locals ≤ R.locals) (hrc : rm.cells = 0) (hrs : rm.slots = 0) : va_CN R s args own index y host bytes maxL ret2 (Cond.code y bytes maxL ret2 :: wA) rm 0 0 n ∧ (Cond.instanceMethod y).before args s = true ∧ (Cond.selects C y y).before args s = true :=
  ⟨va_cnB n h.2.2.2.2.1 (x_good cx hA hy.1) rfl hrc hrs (h.2.2.2.2.2.2.2.2.2 _ hl).2 (h.2.2.2.2.1 _ (List.mem_cons_of_mem _ hy.2.2.2.1)) hy.2.2.2.2 hR, h.2.2.2.2.1 _ (List.mem_cons_of_mem _ hy.2.1), h.2.2.2.2.1 _ (List.mem_cons_of_mem _ hy.2.2.1)⟩
theorem x_wSN {cx : Cond} {wA : List Cond} {y : MethodName} {bytes : ByteArray} {maxL n index : Nat} {ret2 : Option FieldType} {rm : Room} {host : String} (h : xC p s m args meth c cc nL (cx :: wA) NW own ret D cl tys A) (hA : ∀ w ∈ wA, xGo w) (hy : xYs wA y bytes maxL ret2 n) (hl : Cond.methodLinkNest own index y host ∈ NW) (hR : rm.frames + 1 ≤ R.frames ∧ 8 + (maxL + 11) + rm.locals ≤ R.locals) (hrc : rm.cells = 0) (hrs : rm.slots = 0) : va_CN R s args own index y host bytes maxL ret2 (Cond.code y bytes maxL ret2 :: wA) rm 0 0 n ∧ (Cond.static y).before args s = true ∧ True :=
  ⟨va_cnB n h.2.2.2.2.1 (x_good cx hA hy.1) rfl hrc hrs (h.2.2.2.2.2.2.2.2.2 _ hl).2 (h.2.2.2.2.1 _ (List.mem_cons_of_mem _ hy.2.2.1)) hy.2.2.2 hR, h.2.2.2.2.1 _ (List.mem_cons_of_mem _ hy.2.1), trivial⟩
theorem x_wV {cx : Cond} {wA : List Cond} {y : MethodName} {bytes : ByteArray} {maxL n index : Nat} {ret2 : Option FieldType} {rm : Room} {C : String} (h : xC p s m args meth c cc nL (cx :: wA) NW own ret D cl tys A) (hA : ∀ w ∈ wA, xGo w) (hy : xYv wA y bytes maxL ret2 n C) (hl : Cond.methodLink own index y ∈ wA) (hR : rm.frames + 1 ≤ R.frames ∧ 8 + (maxL + 11) + rm.locals ≤ R.locals) (hrc : rm.cells = 0) (hrs : rm.slots = 0) : CallW R s args own C index y bytes maxL ret2 (Cond.code y bytes maxL ret2 :: wA) rm 0 0 n :=
  ⟨callB_of n h.2.2.2.2.1 (x_good cx hA hy.1) rfl hrc hrs (h.2.2.2.2.1 _ (List.mem_cons_of_mem _ hy.2.2.2.1)) (h.2.2.2.2.1 _ (List.mem_cons_of_mem _ hl)) hy.2.2.2.2 hR, h.2.2.2.2.1 _ (List.mem_cons_of_mem _ hy.2.1), h.2.2.2.2.1 _ (List.mem_cons_of_mem _ hy.2.2.1)⟩
theorem x_wS {cx : Cond} {wA : List Cond} {y : MethodName} {bytes : ByteArray} {maxL n index : Nat} {ret2 : Option FieldType} {rm : Room} (h : xC p s m args meth c cc nL (cx :: wA) NW own ret D cl tys A) (hA : ∀ w ∈ wA, xGo w) (hy : xYs wA y bytes maxL ret2 n) (hl : Cond.methodLink own index y ∈ wA) (hR : rm.frames + 1 ≤ R.frames ∧ 8 + (maxL + 11) + rm.locals ≤ R.locals) (hrc : rm.cells = 0) (hrs : rm.slots = 0) : CallB R s args own index y bytes maxL ret2 (Cond.code y bytes maxL ret2 :: wA) rm 0 0 n ∧ (Cond.static y).before args s = true :=
  ⟨callB_of n h.2.2.2.2.1 (x_good cx hA hy.1) rfl hrc hrs (h.2.2.2.2.1 _ (List.mem_cons_of_mem _ hy.2.2.1)) (h.2.2.2.2.1 _ (List.mem_cons_of_mem _ hl)) hy.2.2.2 hR, h.2.2.2.2.1 _ (List.mem_cons_of_mem _ hy.2.1)⟩
end XL
