def TH : u_T := fun k => match k with
  | 0 => ("HomeComputer", "board", "LHomeComputer$Board;", true)
  | _ => ("HomeComputer", "processor", "LHomeComputer$Processor;", true)
def tyH : Nat → FieldType := fun k => match k with
  | 0 => .object "HomeComputer$Board"
  | _ => .object "HomeComputer$Processor"
theorem nmH : ∀ a, a < 2 → ∀ b, b < 2 → a ≠ b → (TH a).2.1 ≠ (TH b).2.1 := by decide +kernel
theorem tyH_ok : ∀ k, k < 2 → parseFieldDescriptor (TH k).2.2.1 = some (tyH k) := by decide +kernel
theorem layH : ∀ w ∈ u_ws "HomeComputer" TH 2, w ∈ wA := List.forall_mem_cons.mpr ⟨wA_in 131 (by decide +kernel) (by decide +kernel), List.forall_mem_cons.mpr ⟨wA_in 133 (by decide +kernel) (by decide +kernel), fun _ h => absurd h List.not_mem_nil⟩⟩
def TB : u_T := fun k => match k with
  | 0 => ("HomeComputer$Board", "memory", "[I", true)
  | 1 => ("HomeComputer$Board", "stripes", "[I", true)
  | 2 => ("HomeComputer$Board", "keyboard", "LHomeComputer$Keyboard;", true)
  | 3 => ("HomeComputer$Board", "recorder", "LHomeComputer$Recorder;", true)
  | 4 => ("HomeComputer$Board", "now", "I", false)
  | 5 => ("HomeComputer$Board", "border", "I", false)
  | 6 => ("HomeComputer$Board", "speaker", "I", false)
  | _ => ("HomeComputer$Board", "edges", "I", false)
def tyB : Nat → FieldType := fun k => match k with
  | 0 => .array .int
  | 1 => .array .int
  | 2 => .object "HomeComputer$Keyboard"
  | 3 => .object "HomeComputer$Recorder"
  | 4 => .int
  | 5 => .int
  | 6 => .int
  | _ => .int
theorem nmB : ∀ a, a < 8 → ∀ b, b < 8 → a ≠ b → (TB a).2.1 ≠ (TB b).2.1 := by decide +kernel
theorem tyB_ok : ∀ k, k < 8 → parseFieldDescriptor (TB k).2.2.1 = some (tyB k) := by decide +kernel
theorem layB : ∀ w ∈ u_ws "HomeComputer$Board" TB 8, w ∈ wA := List.forall_mem_cons.mpr ⟨wA_in 74 (by decide +kernel) (by decide +kernel), List.forall_mem_cons.mpr ⟨wA_in 76 (by decide +kernel) (by decide +kernel), List.forall_mem_cons.mpr ⟨wA_in 78 (by decide +kernel) (by decide +kernel), List.forall_mem_cons.mpr ⟨wA_in 80 (by decide +kernel) (by decide +kernel), List.forall_mem_cons.mpr ⟨wA_in 82 (by decide +kernel) (by decide +kernel), List.forall_mem_cons.mpr ⟨wA_in 84 (by decide +kernel) (by decide +kernel), List.forall_mem_cons.mpr ⟨wA_in 86 (by decide +kernel) (by decide +kernel), List.forall_mem_cons.mpr ⟨wA_in 88 (by decide +kernel) (by decide +kernel), fun _ h => absurd h List.not_mem_nil⟩⟩⟩⟩⟩⟩⟩⟩
def TP : u_T := fun k => match k with
  | 0 => ("HomeComputer$Processor", "board", "LHomeComputer$Board;", true)
  | 1 => ("HomeComputer$Processor", "registers", "LHomeComputer$Registers;", true)
  | 2 => ("HomeComputer$Processor", "row", "[I", true)
  | 3 => ("HomeComputer$Processor", "placeOfM", "I", false)
  | _ => ("HomeComputer$Processor", "shielded", "Z", false)
def tyP : Nat → FieldType := fun k => match k with
  | 0 => .object "HomeComputer$Board"
  | 1 => .object "HomeComputer$Registers"
  | 2 => .array .int
  | 3 => .int
  | _ => .boolean
theorem nmP : ∀ a, a < 5 → ∀ b, b < 5 → a ≠ b → (TP a).2.1 ≠ (TP b).2.1 := by decide +kernel
theorem tyP_ok : ∀ k, k < 5 → parseFieldDescriptor (TP k).2.2.1 = some (tyP k) := by decide +kernel
theorem layP : ∀ w ∈ u_ws "HomeComputer$Processor" TP 5, w ∈ wA := List.forall_mem_cons.mpr ⟨wA_in 118 (by decide +kernel) (by decide +kernel), List.forall_mem_cons.mpr ⟨wA_in 120 (by decide +kernel) (by decide +kernel), List.forall_mem_cons.mpr ⟨wA_in 122 (by decide +kernel) (by decide +kernel), List.forall_mem_cons.mpr ⟨wA_in 124 (by decide +kernel) (by decide +kernel), List.forall_mem_cons.mpr ⟨wA_in 126 (by decide +kernel) (by decide +kernel), fun _ h => absurd h List.not_mem_nil⟩⟩⟩⟩⟩
def TK : u_T := fun k => match k with
  | _ => ("HomeComputer$Keyboard", "down", "[I", true)
def tyK : Nat → FieldType := fun k => match k with
  | _ => .array .int
theorem nmK : ∀ a, a < 1 → ∀ b, b < 1 → a ≠ b → (TK a).2.1 ≠ (TK b).2.1 := by decide +kernel
theorem tyK_ok : ∀ k, k < 1 → parseFieldDescriptor (TK k).2.2.1 = some (tyK k) := by decide +kernel
theorem layK : ∀ w ∈ u_ws "HomeComputer$Keyboard" TK 1, w ∈ wA := List.forall_mem_cons.mpr ⟨wA_in 32 (by decide +kernel) (by decide +kernel), fun _ h => absurd h List.not_mem_nil⟩
def TT : u_T := fun k => match k with
  | 0 => ("HomeComputer$Recorder", "ends", "[I", true)
  | 1 => ("HomeComputer$Recorder", "count", "I", false)
  | 2 => ("HomeComputer$Recorder", "began", "I", false)
  | 3 => ("HomeComputer$Recorder", "over", "I", false)
  | _ => ("HomeComputer$Recorder", "plays", "Z", false)
def tyT : Nat → FieldType := fun k => match k with
  | 0 => .array .int
  | 1 => .int
  | 2 => .int
  | 3 => .int
  | _ => .boolean
theorem nmT : ∀ a, a < 5 → ∀ b, b < 5 → a ≠ b → (TT a).2.1 ≠ (TT b).2.1 := by decide +kernel
theorem tyT_ok : ∀ k, k < 5 → parseFieldDescriptor (TT k).2.2.1 = some (tyT k) := by decide +kernel
theorem layT : ∀ w ∈ u_ws "HomeComputer$Recorder" TT 5, w ∈ wA := List.forall_mem_cons.mpr ⟨wA_in 49 (by decide +kernel) (by decide +kernel), List.forall_mem_cons.mpr ⟨wA_in 51 (by decide +kernel) (by decide +kernel), List.forall_mem_cons.mpr ⟨wA_in 53 (by decide +kernel) (by decide +kernel), List.forall_mem_cons.mpr ⟨wA_in 55 (by decide +kernel) (by decide +kernel), List.forall_mem_cons.mpr ⟨wA_in 57 (by decide +kernel) (by decide +kernel), fun _ h => absurd h List.not_mem_nil⟩⟩⟩⟩⟩
def TG : u_T := fun k => match k with
  | 0 => ("HomeComputer$Registers", "row", "[I", true)
  | _ => ("HomeComputer$Registers", "base", "I", false)
def tyG : Nat → FieldType := fun k => match k with
  | 0 => .array .int
  | _ => .int
theorem nmG : ∀ a, a < 2 → ∀ b, b < 2 → a ≠ b → (TG a).2.1 ≠ (TG b).2.1 := by decide +kernel
theorem tyG_ok : ∀ k, k < 2 → parseFieldDescriptor (TG k).2.2.1 = some (tyG k) := by decide +kernel
theorem layG : ∀ w ∈ u_ws "HomeComputer$Registers" TG 2, w ∈ wA := List.forall_mem_cons.mpr ⟨wA_in 107 (by decide +kernel) (by decide +kernel), List.forall_mem_cons.mpr ⟨wA_in 109 (by decide +kernel) (by decide +kernel), fun _ h => absurd h List.not_mem_nil⟩⟩
def TM : u_T := fun k => match k with
  | 0 => ("HomeComputerModel", "memory", "[I", true)
  | 1 => ("HomeComputerModel", "reg", "[I", true)
  | 2 => ("HomeComputerModel", "now", "I", false)
  | 3 => ("HomeComputerModel", "shield", "Z", false)
  | 4 => ("HomeComputerModel", "prefix", "I", false)
  | 5 => ("HomeComputerModel", "plain", "Z", false)
  | 6 => ("HomeComputerModel", "place", "I", false)
  | 7 => ("HomeComputerModel", "half", "Z", false)
  | 8 => ("HomeComputerModel", "carry", "Z", false)
  | 9 => ("HomeComputerModel", "over", "Z", false)
  | 10 => ("HomeComputerModel", "out", "I", false)
  | 11 => ("HomeComputerModel", "keys", "[Z", true)
  | 12 => ("HomeComputerModel", "border", "I", false)
  | 13 => ("HomeComputerModel", "speaker", "I", false)
  | 14 => ("HomeComputerModel", "edges", "I", false)
  | 15 => ("HomeComputerModel", "stripes", "[I", true)
  | 16 => ("HomeComputerModel", "pulses", "I", false)
  | 17 => ("HomeComputerModel", "pulse", "[I", true)
  | 18 => ("HomeComputerModel", "plays", "Z", false)
  | 19 => ("HomeComputerModel", "began", "I", false)
  | _ => ("HomeComputerModel", "past", "I", false)
def tyM : Nat → FieldType := fun k => match k with
  | 0 => .array .int
  | 1 => .array .int
  | 2 => .int
  | 3 => .boolean
  | 4 => .int
  | 5 => .boolean
  | 6 => .int
  | 7 => .boolean
  | 8 => .boolean
  | 9 => .boolean
  | 10 => .int
  | 11 => .array .boolean
  | 12 => .int
  | 13 => .int
  | 14 => .int
  | 15 => .array .int
  | 16 => .int
  | 17 => .array .int
  | 18 => .boolean
  | 19 => .int
  | _ => .int
theorem nmM : ∀ a, a < 21 → ∀ b, b < 21 → a ≠ b → (TM a).2.1 ≠ (TM b).2.1 := by decide +kernel
theorem tyM_ok : ∀ k, k < 21 → parseFieldDescriptor (TM k).2.2.1 = some (tyM k) := by decide +kernel
theorem layM : ∀ w ∈ u_ws "HomeComputerModel" TM 21, w ∈ wA := List.forall_mem_cons.mpr ⟨wA_in 574 (by decide +kernel) (by decide +kernel), List.forall_mem_cons.mpr ⟨wA_in 576 (by decide +kernel) (by decide +kernel), List.forall_mem_cons.mpr ⟨wA_in 578 (by decide +kernel) (by decide +kernel), List.forall_mem_cons.mpr ⟨wA_in 580 (by decide +kernel) (by decide +kernel), List.forall_mem_cons.mpr ⟨wA_in 582 (by decide +kernel) (by decide +kernel), List.forall_mem_cons.mpr ⟨wA_in 584 (by decide +kernel) (by decide +kernel), List.forall_mem_cons.mpr ⟨wA_in 586 (by decide +kernel) (by decide +kernel), List.forall_mem_cons.mpr ⟨wA_in 588 (by decide +kernel) (by decide +kernel), List.forall_mem_cons.mpr ⟨wA_in 590 (by decide +kernel) (by decide +kernel), List.forall_mem_cons.mpr ⟨wA_in 592 (by decide +kernel) (by decide +kernel), List.forall_mem_cons.mpr ⟨wA_in 594 (by decide +kernel) (by decide +kernel), List.forall_mem_cons.mpr ⟨wA_in 596 (by decide +kernel) (by decide +kernel), List.forall_mem_cons.mpr ⟨wA_in 598 (by decide +kernel) (by decide +kernel), List.forall_mem_cons.mpr ⟨wA_in 600 (by decide +kernel) (by decide +kernel), List.forall_mem_cons.mpr ⟨wA_in 602 (by decide +kernel) (by decide +kernel), List.forall_mem_cons.mpr ⟨wA_in 604 (by decide +kernel) (by decide +kernel), List.forall_mem_cons.mpr ⟨wA_in 606 (by decide +kernel) (by decide +kernel), List.forall_mem_cons.mpr ⟨wA_in 608 (by decide +kernel) (by decide +kernel), List.forall_mem_cons.mpr ⟨wA_in 610 (by decide +kernel) (by decide +kernel), List.forall_mem_cons.mpr ⟨wA_in 612 (by decide +kernel) (by decide +kernel), List.forall_mem_cons.mpr ⟨wA_in 614 (by decide +kernel) (by decide +kernel), fun _ h => absurd h List.not_mem_nil⟩⟩⟩⟩⟩⟩⟩⟩⟩⟩⟩⟩⟩⟩⟩⟩⟩⟩⟩⟩⟩
abbrev clA : List vw_C := [("HomeComputer", TH, 2), ("HomeComputer$Board", TB, 8), ("HomeComputer$Processor", TP, 5), ("HomeComputer$Keyboard", TK, 1), ("HomeComputer$Recorder", TT, 5), ("HomeComputer$Registers", TG, 2), ("HomeComputerModel", TM, 21)]
def cellsC (ad : Nat → Nat) (ca : Nat → ClassId) (S : xSt) : va_W := [(ad 0, .inr (0, [.ref (ad 1), .ref (ad 2)])), (ad 1, .inr (1, [.ref (ad 6), .ref (ad 7), .ref (ad 3), .ref (ad 4), .int (S 1 4), .int (S 1 5), .int (S 1 6), .int (S 1 7)])), (ad 2, .inr (2, [.ref (ad 1), .ref (ad 5), .ref (ad 10), .int (S 2 3), .int (S 2 4)])), (ad 3, .inr (3, [.ref (ad 8)])), (ad 4, .inr (4, [.ref (ad 9), .int (S 4 1), .int (S 4 2), .int (S 4 3), .int (S 4 4)])), (ad 5, .inr (5, [.ref (ad 10), .int (S 5 1)])), (ad 6, .inl (ca 6, 4096, .inl (S 6))), (ad 7, .inl (ca 7, 64, .inl (S 7))), (ad 8, .inl (ca 8, 8, .inl (S 8))), (ad 9, .inl (ca 9, 40, .inl (S 9))), (ad 10, .inl (ca 10, 26, .inl (S 10)))]
def tysC (ca : Nat → ClassId) : List (ClassId × FieldType) := [(ca 6, .int), (ca 7, .int), (ca 8, .int), (ca 9, .int), (ca 10, .int)]
theorem aC_6 (ad : Nat → Nat) (ca : Nat → ClassId) : xAr (cellsC ad ca) (tysC ca) (ad 6) .int 6 4096 := ⟨6, 0, ca 6, rfl, fun S => ⟨rfl, fun i v => rfl⟩⟩
theorem aC_7 (ad : Nat → Nat) (ca : Nat → ClassId) : xAr (cellsC ad ca) (tysC ca) (ad 7) .int 7 64 := ⟨7, 1, ca 7, rfl, fun S => ⟨rfl, fun i v => rfl⟩⟩
theorem aC_8 (ad : Nat → Nat) (ca : Nat → ClassId) : xAr (cellsC ad ca) (tysC ca) (ad 8) .int 8 8 := ⟨8, 2, ca 8, rfl, fun S => ⟨rfl, fun i v => rfl⟩⟩
theorem aC_9 (ad : Nat → Nat) (ca : Nat → ClassId) : xAr (cellsC ad ca) (tysC ca) (ad 9) .int 9 40 := ⟨9, 3, ca 9, rfl, fun S => ⟨rfl, fun i v => rfl⟩⟩
theorem aC_10 (ad : Nat → Nat) (ca : Nat → ClassId) : xAr (cellsC ad ca) (tysC ca) (ad 10) .int 10 26 := ⟨10, 4, ca 10, rfl, fun S => ⟨rfl, fun i v => rfl⟩⟩
theorem oC_0 (ad : Nat → Nat) (ca : Nat → ClassId) : xOb (cellsC ad ca) clA (ad 0) "HomeComputer" := ⟨0, 0, _, _, rfl, rfl, fun S => rfl⟩
theorem gC_0_0 (ad : Nat → Nat) (ca : Nat → ClassId) (cx : Cond) : xFg (cellsC ad ca) clA (cx :: wA) (ad 0) "HomeComputer" TH 2 0 (fun _ => .ref (ad 1)) := ⟨fun w h => List.mem_cons_of_mem _ (layH w h), by decide, 0, 0, _, rfl, fun S => ⟨rfl, rfl⟩⟩
theorem gC_0_1 (ad : Nat → Nat) (ca : Nat → ClassId) (cx : Cond) : xFg (cellsC ad ca) clA (cx :: wA) (ad 0) "HomeComputer" TH 2 1 (fun _ => .ref (ad 2)) := ⟨fun w h => List.mem_cons_of_mem _ (layH w h), by decide, 0, 0, _, rfl, fun S => ⟨rfl, rfl⟩⟩
theorem oC_1 (ad : Nat → Nat) (ca : Nat → ClassId) : xOb (cellsC ad ca) clA (ad 1) "HomeComputer$Board" := ⟨1, 1, _, _, rfl, rfl, fun S => rfl⟩
theorem gC_1_0 (ad : Nat → Nat) (ca : Nat → ClassId) (cx : Cond) : xFg (cellsC ad ca) clA (cx :: wA) (ad 1) "HomeComputer$Board" TB 8 0 (fun _ => .ref (ad 6)) := ⟨fun w h => List.mem_cons_of_mem _ (layB w h), by decide, 1, 1, _, rfl, fun S => ⟨rfl, rfl⟩⟩
theorem gC_1_1 (ad : Nat → Nat) (ca : Nat → ClassId) (cx : Cond) : xFg (cellsC ad ca) clA (cx :: wA) (ad 1) "HomeComputer$Board" TB 8 1 (fun _ => .ref (ad 7)) := ⟨fun w h => List.mem_cons_of_mem _ (layB w h), by decide, 1, 1, _, rfl, fun S => ⟨rfl, rfl⟩⟩
theorem gC_1_2 (ad : Nat → Nat) (ca : Nat → ClassId) (cx : Cond) : xFg (cellsC ad ca) clA (cx :: wA) (ad 1) "HomeComputer$Board" TB 8 2 (fun _ => .ref (ad 3)) := ⟨fun w h => List.mem_cons_of_mem _ (layB w h), by decide, 1, 1, _, rfl, fun S => ⟨rfl, rfl⟩⟩
theorem gC_1_3 (ad : Nat → Nat) (ca : Nat → ClassId) (cx : Cond) : xFg (cellsC ad ca) clA (cx :: wA) (ad 1) "HomeComputer$Board" TB 8 3 (fun _ => .ref (ad 4)) := ⟨fun w h => List.mem_cons_of_mem _ (layB w h), by decide, 1, 1, _, rfl, fun S => ⟨rfl, rfl⟩⟩
theorem gC_1_4 (ad : Nat → Nat) (ca : Nat → ClassId) (cx : Cond) : xFg (cellsC ad ca) clA (cx :: wA) (ad 1) "HomeComputer$Board" TB 8 4 (fun S => .int (S 1 4)) := ⟨fun w h => List.mem_cons_of_mem _ (layB w h), by decide, 1, 1, _, rfl, fun S => ⟨rfl, rfl⟩⟩
theorem pC_1_4 (ad : Nat → Nat) (ca : Nat → ClassId) (cx : Cond) : xFp (cellsC ad ca) clA (cx :: wA) (ad 1) "HomeComputer$Board" TB 8 4 .int 1 4 := ⟨fun w h => List.mem_cons_of_mem _ (layB w h), by decide, rfl, by decide +kernel, ⟨tyB, tyB_ok⟩, nmB, 1, 1, _, rfl, fun S => ⟨rfl, Nat.le_of_ble_eq_true rfl, fun v => rfl⟩⟩
theorem gC_1_5 (ad : Nat → Nat) (ca : Nat → ClassId) (cx : Cond) : xFg (cellsC ad ca) clA (cx :: wA) (ad 1) "HomeComputer$Board" TB 8 5 (fun S => .int (S 1 5)) := ⟨fun w h => List.mem_cons_of_mem _ (layB w h), by decide, 1, 1, _, rfl, fun S => ⟨rfl, rfl⟩⟩
theorem pC_1_5 (ad : Nat → Nat) (ca : Nat → ClassId) (cx : Cond) : xFp (cellsC ad ca) clA (cx :: wA) (ad 1) "HomeComputer$Board" TB 8 5 .int 1 5 := ⟨fun w h => List.mem_cons_of_mem _ (layB w h), by decide, rfl, by decide +kernel, ⟨tyB, tyB_ok⟩, nmB, 1, 1, _, rfl, fun S => ⟨rfl, Nat.le_of_ble_eq_true rfl, fun v => rfl⟩⟩
theorem gC_1_6 (ad : Nat → Nat) (ca : Nat → ClassId) (cx : Cond) : xFg (cellsC ad ca) clA (cx :: wA) (ad 1) "HomeComputer$Board" TB 8 6 (fun S => .int (S 1 6)) := ⟨fun w h => List.mem_cons_of_mem _ (layB w h), by decide, 1, 1, _, rfl, fun S => ⟨rfl, rfl⟩⟩
theorem pC_1_6 (ad : Nat → Nat) (ca : Nat → ClassId) (cx : Cond) : xFp (cellsC ad ca) clA (cx :: wA) (ad 1) "HomeComputer$Board" TB 8 6 .int 1 6 := ⟨fun w h => List.mem_cons_of_mem _ (layB w h), by decide, rfl, by decide +kernel, ⟨tyB, tyB_ok⟩, nmB, 1, 1, _, rfl, fun S => ⟨rfl, Nat.le_of_ble_eq_true rfl, fun v => rfl⟩⟩
theorem gC_1_7 (ad : Nat → Nat) (ca : Nat → ClassId) (cx : Cond) : xFg (cellsC ad ca) clA (cx :: wA) (ad 1) "HomeComputer$Board" TB 8 7 (fun S => .int (S 1 7)) := ⟨fun w h => List.mem_cons_of_mem _ (layB w h), by decide, 1, 1, _, rfl, fun S => ⟨rfl, rfl⟩⟩
theorem pC_1_7 (ad : Nat → Nat) (ca : Nat → ClassId) (cx : Cond) : xFp (cellsC ad ca) clA (cx :: wA) (ad 1) "HomeComputer$Board" TB 8 7 .int 1 7 := ⟨fun w h => List.mem_cons_of_mem _ (layB w h), by decide, rfl, by decide +kernel, ⟨tyB, tyB_ok⟩, nmB, 1, 1, _, rfl, fun S => ⟨rfl, Nat.le_of_ble_eq_true rfl, fun v => rfl⟩⟩
theorem oC_2 (ad : Nat → Nat) (ca : Nat → ClassId) : xOb (cellsC ad ca) clA (ad 2) "HomeComputer$Processor" := ⟨2, 2, _, _, rfl, rfl, fun S => rfl⟩
theorem gC_2_0 (ad : Nat → Nat) (ca : Nat → ClassId) (cx : Cond) : xFg (cellsC ad ca) clA (cx :: wA) (ad 2) "HomeComputer$Processor" TP 5 0 (fun _ => .ref (ad 1)) := ⟨fun w h => List.mem_cons_of_mem _ (layP w h), by decide, 2, 2, _, rfl, fun S => ⟨rfl, rfl⟩⟩
theorem gC_2_1 (ad : Nat → Nat) (ca : Nat → ClassId) (cx : Cond) : xFg (cellsC ad ca) clA (cx :: wA) (ad 2) "HomeComputer$Processor" TP 5 1 (fun _ => .ref (ad 5)) := ⟨fun w h => List.mem_cons_of_mem _ (layP w h), by decide, 2, 2, _, rfl, fun S => ⟨rfl, rfl⟩⟩
theorem gC_2_2 (ad : Nat → Nat) (ca : Nat → ClassId) (cx : Cond) : xFg (cellsC ad ca) clA (cx :: wA) (ad 2) "HomeComputer$Processor" TP 5 2 (fun _ => .ref (ad 10)) := ⟨fun w h => List.mem_cons_of_mem _ (layP w h), by decide, 2, 2, _, rfl, fun S => ⟨rfl, rfl⟩⟩
theorem gC_2_3 (ad : Nat → Nat) (ca : Nat → ClassId) (cx : Cond) : xFg (cellsC ad ca) clA (cx :: wA) (ad 2) "HomeComputer$Processor" TP 5 3 (fun S => .int (S 2 3)) := ⟨fun w h => List.mem_cons_of_mem _ (layP w h), by decide, 2, 2, _, rfl, fun S => ⟨rfl, rfl⟩⟩
theorem pC_2_3 (ad : Nat → Nat) (ca : Nat → ClassId) (cx : Cond) : xFp (cellsC ad ca) clA (cx :: wA) (ad 2) "HomeComputer$Processor" TP 5 3 .int 2 3 := ⟨fun w h => List.mem_cons_of_mem _ (layP w h), by decide, rfl, by decide +kernel, ⟨tyP, tyP_ok⟩, nmP, 2, 2, _, rfl, fun S => ⟨rfl, Nat.le_of_ble_eq_true rfl, fun v => rfl⟩⟩
theorem gC_2_4 (ad : Nat → Nat) (ca : Nat → ClassId) (cx : Cond) : xFg (cellsC ad ca) clA (cx :: wA) (ad 2) "HomeComputer$Processor" TP 5 4 (fun S => .int (S 2 4)) := ⟨fun w h => List.mem_cons_of_mem _ (layP w h), by decide, 2, 2, _, rfl, fun S => ⟨rfl, rfl⟩⟩
theorem pC_2_4 (ad : Nat → Nat) (ca : Nat → ClassId) (cx : Cond) : xFp (cellsC ad ca) clA (cx :: wA) (ad 2) "HomeComputer$Processor" TP 5 4 .boolean 2 4 := ⟨fun w h => List.mem_cons_of_mem _ (layP w h), by decide, rfl, by decide +kernel, ⟨tyP, tyP_ok⟩, nmP, 2, 2, _, rfl, fun S => ⟨rfl, Nat.le_of_ble_eq_true rfl, fun v => rfl⟩⟩
theorem oC_3 (ad : Nat → Nat) (ca : Nat → ClassId) : xOb (cellsC ad ca) clA (ad 3) "HomeComputer$Keyboard" := ⟨3, 3, _, _, rfl, rfl, fun S => rfl⟩
theorem gC_3_0 (ad : Nat → Nat) (ca : Nat → ClassId) (cx : Cond) : xFg (cellsC ad ca) clA (cx :: wA) (ad 3) "HomeComputer$Keyboard" TK 1 0 (fun _ => .ref (ad 8)) := ⟨fun w h => List.mem_cons_of_mem _ (layK w h), by decide, 3, 3, _, rfl, fun S => ⟨rfl, rfl⟩⟩
theorem oC_4 (ad : Nat → Nat) (ca : Nat → ClassId) : xOb (cellsC ad ca) clA (ad 4) "HomeComputer$Recorder" := ⟨4, 4, _, _, rfl, rfl, fun S => rfl⟩
theorem gC_4_0 (ad : Nat → Nat) (ca : Nat → ClassId) (cx : Cond) : xFg (cellsC ad ca) clA (cx :: wA) (ad 4) "HomeComputer$Recorder" TT 5 0 (fun _ => .ref (ad 9)) := ⟨fun w h => List.mem_cons_of_mem _ (layT w h), by decide, 4, 4, _, rfl, fun S => ⟨rfl, rfl⟩⟩
theorem gC_4_1 (ad : Nat → Nat) (ca : Nat → ClassId) (cx : Cond) : xFg (cellsC ad ca) clA (cx :: wA) (ad 4) "HomeComputer$Recorder" TT 5 1 (fun S => .int (S 4 1)) := ⟨fun w h => List.mem_cons_of_mem _ (layT w h), by decide, 4, 4, _, rfl, fun S => ⟨rfl, rfl⟩⟩
theorem pC_4_1 (ad : Nat → Nat) (ca : Nat → ClassId) (cx : Cond) : xFp (cellsC ad ca) clA (cx :: wA) (ad 4) "HomeComputer$Recorder" TT 5 1 .int 4 1 := ⟨fun w h => List.mem_cons_of_mem _ (layT w h), by decide, rfl, by decide +kernel, ⟨tyT, tyT_ok⟩, nmT, 4, 4, _, rfl, fun S => ⟨rfl, Nat.le_of_ble_eq_true rfl, fun v => rfl⟩⟩
theorem gC_4_2 (ad : Nat → Nat) (ca : Nat → ClassId) (cx : Cond) : xFg (cellsC ad ca) clA (cx :: wA) (ad 4) "HomeComputer$Recorder" TT 5 2 (fun S => .int (S 4 2)) := ⟨fun w h => List.mem_cons_of_mem _ (layT w h), by decide, 4, 4, _, rfl, fun S => ⟨rfl, rfl⟩⟩
theorem pC_4_2 (ad : Nat → Nat) (ca : Nat → ClassId) (cx : Cond) : xFp (cellsC ad ca) clA (cx :: wA) (ad 4) "HomeComputer$Recorder" TT 5 2 .int 4 2 := ⟨fun w h => List.mem_cons_of_mem _ (layT w h), by decide, rfl, by decide +kernel, ⟨tyT, tyT_ok⟩, nmT, 4, 4, _, rfl, fun S => ⟨rfl, Nat.le_of_ble_eq_true rfl, fun v => rfl⟩⟩
theorem gC_4_3 (ad : Nat → Nat) (ca : Nat → ClassId) (cx : Cond) : xFg (cellsC ad ca) clA (cx :: wA) (ad 4) "HomeComputer$Recorder" TT 5 3 (fun S => .int (S 4 3)) := ⟨fun w h => List.mem_cons_of_mem _ (layT w h), by decide, 4, 4, _, rfl, fun S => ⟨rfl, rfl⟩⟩
theorem pC_4_3 (ad : Nat → Nat) (ca : Nat → ClassId) (cx : Cond) : xFp (cellsC ad ca) clA (cx :: wA) (ad 4) "HomeComputer$Recorder" TT 5 3 .int 4 3 := ⟨fun w h => List.mem_cons_of_mem _ (layT w h), by decide, rfl, by decide +kernel, ⟨tyT, tyT_ok⟩, nmT, 4, 4, _, rfl, fun S => ⟨rfl, Nat.le_of_ble_eq_true rfl, fun v => rfl⟩⟩
theorem gC_4_4 (ad : Nat → Nat) (ca : Nat → ClassId) (cx : Cond) : xFg (cellsC ad ca) clA (cx :: wA) (ad 4) "HomeComputer$Recorder" TT 5 4 (fun S => .int (S 4 4)) := ⟨fun w h => List.mem_cons_of_mem _ (layT w h), by decide, 4, 4, _, rfl, fun S => ⟨rfl, rfl⟩⟩
theorem pC_4_4 (ad : Nat → Nat) (ca : Nat → ClassId) (cx : Cond) : xFp (cellsC ad ca) clA (cx :: wA) (ad 4) "HomeComputer$Recorder" TT 5 4 .boolean 4 4 := ⟨fun w h => List.mem_cons_of_mem _ (layT w h), by decide, rfl, by decide +kernel, ⟨tyT, tyT_ok⟩, nmT, 4, 4, _, rfl, fun S => ⟨rfl, Nat.le_of_ble_eq_true rfl, fun v => rfl⟩⟩
theorem oC_5 (ad : Nat → Nat) (ca : Nat → ClassId) : xOb (cellsC ad ca) clA (ad 5) "HomeComputer$Registers" := ⟨5, 5, _, _, rfl, rfl, fun S => rfl⟩
theorem gC_5_0 (ad : Nat → Nat) (ca : Nat → ClassId) (cx : Cond) : xFg (cellsC ad ca) clA (cx :: wA) (ad 5) "HomeComputer$Registers" TG 2 0 (fun _ => .ref (ad 10)) := ⟨fun w h => List.mem_cons_of_mem _ (layG w h), by decide, 5, 5, _, rfl, fun S => ⟨rfl, rfl⟩⟩
theorem gC_5_1 (ad : Nat → Nat) (ca : Nat → ClassId) (cx : Cond) : xFg (cellsC ad ca) clA (cx :: wA) (ad 5) "HomeComputer$Registers" TG 2 1 (fun S => .int (S 5 1)) := ⟨fun w h => List.mem_cons_of_mem _ (layG w h), by decide, 5, 5, _, rfl, fun S => ⟨rfl, rfl⟩⟩
theorem pC_5_1 (ad : Nat → Nat) (ca : Nat → ClassId) (cx : Cond) : xFp (cellsC ad ca) clA (cx :: wA) (ad 5) "HomeComputer$Registers" TG 2 1 .int 5 1 := ⟨fun w h => List.mem_cons_of_mem _ (layG w h), by decide, rfl, by decide +kernel, ⟨tyG, tyG_ok⟩, nmG, 5, 5, _, rfl, fun S => ⟨rfl, Nat.le_of_ble_eq_true rfl, fun v => rfl⟩⟩
def cellsM (ad : Nat → Nat) (ca : Nat → ClassId) (S : xSt) : va_W := [(ad 0, .inr (6, [.ref (ad 1), .ref (ad 2), .int (S 0 2), .int (S 0 3), .int (S 0 4), .int (S 0 5), .int (S 0 6), .int (S 0 7), .int (S 0 8), .int (S 0 9), .int (S 0 10), .ref (ad 3), .int (S 0 12), .int (S 0 13), .int (S 0 14), .ref (ad 4), .int (S 0 16), .ref (ad 5), .int (S 0 18), .int (S 0 19), .int (S 0 20)])), (ad 1, .inl (ca 1, 4096, .inl (S 1))), (ad 2, .inl (ca 2, 26, .inl (S 2))), (ad 3, .inl (ca 3, 40, .inl (S 3))), (ad 4, .inl (ca 4, 64, .inl (S 4))), (ad 5, .inl (ca 5, 40, .inl (S 5)))]
def tysM (ca : Nat → ClassId) : List (ClassId × FieldType) := [(ca 1, .int), (ca 2, .int), (ca 3, .boolean), (ca 4, .int), (ca 5, .int)]
theorem aM_1 (ad : Nat → Nat) (ca : Nat → ClassId) : xAr (cellsM ad ca) (tysM ca) (ad 1) .int 1 4096 := ⟨1, 0, ca 1, rfl, fun S => ⟨rfl, fun i v => rfl⟩⟩
theorem aM_2 (ad : Nat → Nat) (ca : Nat → ClassId) : xAr (cellsM ad ca) (tysM ca) (ad 2) .int 2 26 := ⟨2, 1, ca 2, rfl, fun S => ⟨rfl, fun i v => rfl⟩⟩
theorem aM_3 (ad : Nat → Nat) (ca : Nat → ClassId) : xAr (cellsM ad ca) (tysM ca) (ad 3) .boolean 3 40 := ⟨3, 2, ca 3, rfl, fun S => ⟨rfl, fun i v => rfl⟩⟩
theorem aM_4 (ad : Nat → Nat) (ca : Nat → ClassId) : xAr (cellsM ad ca) (tysM ca) (ad 4) .int 4 64 := ⟨4, 3, ca 4, rfl, fun S => ⟨rfl, fun i v => rfl⟩⟩
theorem aM_5 (ad : Nat → Nat) (ca : Nat → ClassId) : xAr (cellsM ad ca) (tysM ca) (ad 5) .int 5 40 := ⟨5, 4, ca 5, rfl, fun S => ⟨rfl, fun i v => rfl⟩⟩
theorem oM_0 (ad : Nat → Nat) (ca : Nat → ClassId) : xOb (cellsM ad ca) clA (ad 0) "HomeComputerModel" := ⟨0, 6, _, _, rfl, rfl, fun S => rfl⟩
theorem gM_0_0 (ad : Nat → Nat) (ca : Nat → ClassId) (cx : Cond) : xFg (cellsM ad ca) clA (cx :: wA) (ad 0) "HomeComputerModel" TM 21 0 (fun _ => .ref (ad 1)) := ⟨fun w h => List.mem_cons_of_mem _ (layM w h), by decide, 0, 6, _, rfl, fun S => ⟨rfl, rfl⟩⟩
theorem gM_0_1 (ad : Nat → Nat) (ca : Nat → ClassId) (cx : Cond) : xFg (cellsM ad ca) clA (cx :: wA) (ad 0) "HomeComputerModel" TM 21 1 (fun _ => .ref (ad 2)) := ⟨fun w h => List.mem_cons_of_mem _ (layM w h), by decide, 0, 6, _, rfl, fun S => ⟨rfl, rfl⟩⟩
theorem gM_0_2 (ad : Nat → Nat) (ca : Nat → ClassId) (cx : Cond) : xFg (cellsM ad ca) clA (cx :: wA) (ad 0) "HomeComputerModel" TM 21 2 (fun S => .int (S 0 2)) := ⟨fun w h => List.mem_cons_of_mem _ (layM w h), by decide, 0, 6, _, rfl, fun S => ⟨rfl, rfl⟩⟩
theorem pM_0_2 (ad : Nat → Nat) (ca : Nat → ClassId) (cx : Cond) : xFp (cellsM ad ca) clA (cx :: wA) (ad 0) "HomeComputerModel" TM 21 2 .int 0 2 := ⟨fun w h => List.mem_cons_of_mem _ (layM w h), by decide, rfl, by decide +kernel, ⟨tyM, tyM_ok⟩, nmM, 0, 6, _, rfl, fun S => ⟨rfl, Nat.le_of_ble_eq_true rfl, fun v => rfl⟩⟩
theorem gM_0_3 (ad : Nat → Nat) (ca : Nat → ClassId) (cx : Cond) : xFg (cellsM ad ca) clA (cx :: wA) (ad 0) "HomeComputerModel" TM 21 3 (fun S => .int (S 0 3)) := ⟨fun w h => List.mem_cons_of_mem _ (layM w h), by decide, 0, 6, _, rfl, fun S => ⟨rfl, rfl⟩⟩
theorem pM_0_3 (ad : Nat → Nat) (ca : Nat → ClassId) (cx : Cond) : xFp (cellsM ad ca) clA (cx :: wA) (ad 0) "HomeComputerModel" TM 21 3 .boolean 0 3 := ⟨fun w h => List.mem_cons_of_mem _ (layM w h), by decide, rfl, by decide +kernel, ⟨tyM, tyM_ok⟩, nmM, 0, 6, _, rfl, fun S => ⟨rfl, Nat.le_of_ble_eq_true rfl, fun v => rfl⟩⟩
theorem gM_0_4 (ad : Nat → Nat) (ca : Nat → ClassId) (cx : Cond) : xFg (cellsM ad ca) clA (cx :: wA) (ad 0) "HomeComputerModel" TM 21 4 (fun S => .int (S 0 4)) := ⟨fun w h => List.mem_cons_of_mem _ (layM w h), by decide, 0, 6, _, rfl, fun S => ⟨rfl, rfl⟩⟩
theorem pM_0_4 (ad : Nat → Nat) (ca : Nat → ClassId) (cx : Cond) : xFp (cellsM ad ca) clA (cx :: wA) (ad 0) "HomeComputerModel" TM 21 4 .int 0 4 := ⟨fun w h => List.mem_cons_of_mem _ (layM w h), by decide, rfl, by decide +kernel, ⟨tyM, tyM_ok⟩, nmM, 0, 6, _, rfl, fun S => ⟨rfl, Nat.le_of_ble_eq_true rfl, fun v => rfl⟩⟩
theorem gM_0_5 (ad : Nat → Nat) (ca : Nat → ClassId) (cx : Cond) : xFg (cellsM ad ca) clA (cx :: wA) (ad 0) "HomeComputerModel" TM 21 5 (fun S => .int (S 0 5)) := ⟨fun w h => List.mem_cons_of_mem _ (layM w h), by decide, 0, 6, _, rfl, fun S => ⟨rfl, rfl⟩⟩
theorem pM_0_5 (ad : Nat → Nat) (ca : Nat → ClassId) (cx : Cond) : xFp (cellsM ad ca) clA (cx :: wA) (ad 0) "HomeComputerModel" TM 21 5 .boolean 0 5 := ⟨fun w h => List.mem_cons_of_mem _ (layM w h), by decide, rfl, by decide +kernel, ⟨tyM, tyM_ok⟩, nmM, 0, 6, _, rfl, fun S => ⟨rfl, Nat.le_of_ble_eq_true rfl, fun v => rfl⟩⟩
theorem gM_0_6 (ad : Nat → Nat) (ca : Nat → ClassId) (cx : Cond) : xFg (cellsM ad ca) clA (cx :: wA) (ad 0) "HomeComputerModel" TM 21 6 (fun S => .int (S 0 6)) := ⟨fun w h => List.mem_cons_of_mem _ (layM w h), by decide, 0, 6, _, rfl, fun S => ⟨rfl, rfl⟩⟩
theorem pM_0_6 (ad : Nat → Nat) (ca : Nat → ClassId) (cx : Cond) : xFp (cellsM ad ca) clA (cx :: wA) (ad 0) "HomeComputerModel" TM 21 6 .int 0 6 := ⟨fun w h => List.mem_cons_of_mem _ (layM w h), by decide, rfl, by decide +kernel, ⟨tyM, tyM_ok⟩, nmM, 0, 6, _, rfl, fun S => ⟨rfl, Nat.le_of_ble_eq_true rfl, fun v => rfl⟩⟩
theorem gM_0_7 (ad : Nat → Nat) (ca : Nat → ClassId) (cx : Cond) : xFg (cellsM ad ca) clA (cx :: wA) (ad 0) "HomeComputerModel" TM 21 7 (fun S => .int (S 0 7)) := ⟨fun w h => List.mem_cons_of_mem _ (layM w h), by decide, 0, 6, _, rfl, fun S => ⟨rfl, rfl⟩⟩
theorem pM_0_7 (ad : Nat → Nat) (ca : Nat → ClassId) (cx : Cond) : xFp (cellsM ad ca) clA (cx :: wA) (ad 0) "HomeComputerModel" TM 21 7 .boolean 0 7 := ⟨fun w h => List.mem_cons_of_mem _ (layM w h), by decide, rfl, by decide +kernel, ⟨tyM, tyM_ok⟩, nmM, 0, 6, _, rfl, fun S => ⟨rfl, Nat.le_of_ble_eq_true rfl, fun v => rfl⟩⟩
theorem gM_0_8 (ad : Nat → Nat) (ca : Nat → ClassId) (cx : Cond) : xFg (cellsM ad ca) clA (cx :: wA) (ad 0) "HomeComputerModel" TM 21 8 (fun S => .int (S 0 8)) := ⟨fun w h => List.mem_cons_of_mem _ (layM w h), by decide, 0, 6, _, rfl, fun S => ⟨rfl, rfl⟩⟩
theorem pM_0_8 (ad : Nat → Nat) (ca : Nat → ClassId) (cx : Cond) : xFp (cellsM ad ca) clA (cx :: wA) (ad 0) "HomeComputerModel" TM 21 8 .boolean 0 8 := ⟨fun w h => List.mem_cons_of_mem _ (layM w h), by decide, rfl, by decide +kernel, ⟨tyM, tyM_ok⟩, nmM, 0, 6, _, rfl, fun S => ⟨rfl, Nat.le_of_ble_eq_true rfl, fun v => rfl⟩⟩
theorem gM_0_9 (ad : Nat → Nat) (ca : Nat → ClassId) (cx : Cond) : xFg (cellsM ad ca) clA (cx :: wA) (ad 0) "HomeComputerModel" TM 21 9 (fun S => .int (S 0 9)) := ⟨fun w h => List.mem_cons_of_mem _ (layM w h), by decide, 0, 6, _, rfl, fun S => ⟨rfl, rfl⟩⟩
theorem pM_0_9 (ad : Nat → Nat) (ca : Nat → ClassId) (cx : Cond) : xFp (cellsM ad ca) clA (cx :: wA) (ad 0) "HomeComputerModel" TM 21 9 .boolean 0 9 := ⟨fun w h => List.mem_cons_of_mem _ (layM w h), by decide, rfl, by decide +kernel, ⟨tyM, tyM_ok⟩, nmM, 0, 6, _, rfl, fun S => ⟨rfl, Nat.le_of_ble_eq_true rfl, fun v => rfl⟩⟩
theorem gM_0_10 (ad : Nat → Nat) (ca : Nat → ClassId) (cx : Cond) : xFg (cellsM ad ca) clA (cx :: wA) (ad 0) "HomeComputerModel" TM 21 10 (fun S => .int (S 0 10)) := ⟨fun w h => List.mem_cons_of_mem _ (layM w h), by decide, 0, 6, _, rfl, fun S => ⟨rfl, rfl⟩⟩
theorem pM_0_10 (ad : Nat → Nat) (ca : Nat → ClassId) (cx : Cond) : xFp (cellsM ad ca) clA (cx :: wA) (ad 0) "HomeComputerModel" TM 21 10 .int 0 10 := ⟨fun w h => List.mem_cons_of_mem _ (layM w h), by decide, rfl, by decide +kernel, ⟨tyM, tyM_ok⟩, nmM, 0, 6, _, rfl, fun S => ⟨rfl, Nat.le_of_ble_eq_true rfl, fun v => rfl⟩⟩
theorem gM_0_11 (ad : Nat → Nat) (ca : Nat → ClassId) (cx : Cond) : xFg (cellsM ad ca) clA (cx :: wA) (ad 0) "HomeComputerModel" TM 21 11 (fun _ => .ref (ad 3)) := ⟨fun w h => List.mem_cons_of_mem _ (layM w h), by decide, 0, 6, _, rfl, fun S => ⟨rfl, rfl⟩⟩
theorem gM_0_12 (ad : Nat → Nat) (ca : Nat → ClassId) (cx : Cond) : xFg (cellsM ad ca) clA (cx :: wA) (ad 0) "HomeComputerModel" TM 21 12 (fun S => .int (S 0 12)) := ⟨fun w h => List.mem_cons_of_mem _ (layM w h), by decide, 0, 6, _, rfl, fun S => ⟨rfl, rfl⟩⟩
theorem pM_0_12 (ad : Nat → Nat) (ca : Nat → ClassId) (cx : Cond) : xFp (cellsM ad ca) clA (cx :: wA) (ad 0) "HomeComputerModel" TM 21 12 .int 0 12 := ⟨fun w h => List.mem_cons_of_mem _ (layM w h), by decide, rfl, by decide +kernel, ⟨tyM, tyM_ok⟩, nmM, 0, 6, _, rfl, fun S => ⟨rfl, Nat.le_of_ble_eq_true rfl, fun v => rfl⟩⟩
theorem gM_0_13 (ad : Nat → Nat) (ca : Nat → ClassId) (cx : Cond) : xFg (cellsM ad ca) clA (cx :: wA) (ad 0) "HomeComputerModel" TM 21 13 (fun S => .int (S 0 13)) := ⟨fun w h => List.mem_cons_of_mem _ (layM w h), by decide, 0, 6, _, rfl, fun S => ⟨rfl, rfl⟩⟩
theorem pM_0_13 (ad : Nat → Nat) (ca : Nat → ClassId) (cx : Cond) : xFp (cellsM ad ca) clA (cx :: wA) (ad 0) "HomeComputerModel" TM 21 13 .int 0 13 := ⟨fun w h => List.mem_cons_of_mem _ (layM w h), by decide, rfl, by decide +kernel, ⟨tyM, tyM_ok⟩, nmM, 0, 6, _, rfl, fun S => ⟨rfl, Nat.le_of_ble_eq_true rfl, fun v => rfl⟩⟩
theorem gM_0_14 (ad : Nat → Nat) (ca : Nat → ClassId) (cx : Cond) : xFg (cellsM ad ca) clA (cx :: wA) (ad 0) "HomeComputerModel" TM 21 14 (fun S => .int (S 0 14)) := ⟨fun w h => List.mem_cons_of_mem _ (layM w h), by decide, 0, 6, _, rfl, fun S => ⟨rfl, rfl⟩⟩
theorem pM_0_14 (ad : Nat → Nat) (ca : Nat → ClassId) (cx : Cond) : xFp (cellsM ad ca) clA (cx :: wA) (ad 0) "HomeComputerModel" TM 21 14 .int 0 14 := ⟨fun w h => List.mem_cons_of_mem _ (layM w h), by decide, rfl, by decide +kernel, ⟨tyM, tyM_ok⟩, nmM, 0, 6, _, rfl, fun S => ⟨rfl, Nat.le_of_ble_eq_true rfl, fun v => rfl⟩⟩
theorem gM_0_15 (ad : Nat → Nat) (ca : Nat → ClassId) (cx : Cond) : xFg (cellsM ad ca) clA (cx :: wA) (ad 0) "HomeComputerModel" TM 21 15 (fun _ => .ref (ad 4)) := ⟨fun w h => List.mem_cons_of_mem _ (layM w h), by decide, 0, 6, _, rfl, fun S => ⟨rfl, rfl⟩⟩
theorem gM_0_16 (ad : Nat → Nat) (ca : Nat → ClassId) (cx : Cond) : xFg (cellsM ad ca) clA (cx :: wA) (ad 0) "HomeComputerModel" TM 21 16 (fun S => .int (S 0 16)) := ⟨fun w h => List.mem_cons_of_mem _ (layM w h), by decide, 0, 6, _, rfl, fun S => ⟨rfl, rfl⟩⟩
theorem pM_0_16 (ad : Nat → Nat) (ca : Nat → ClassId) (cx : Cond) : xFp (cellsM ad ca) clA (cx :: wA) (ad 0) "HomeComputerModel" TM 21 16 .int 0 16 := ⟨fun w h => List.mem_cons_of_mem _ (layM w h), by decide, rfl, by decide +kernel, ⟨tyM, tyM_ok⟩, nmM, 0, 6, _, rfl, fun S => ⟨rfl, Nat.le_of_ble_eq_true rfl, fun v => rfl⟩⟩
theorem gM_0_17 (ad : Nat → Nat) (ca : Nat → ClassId) (cx : Cond) : xFg (cellsM ad ca) clA (cx :: wA) (ad 0) "HomeComputerModel" TM 21 17 (fun _ => .ref (ad 5)) := ⟨fun w h => List.mem_cons_of_mem _ (layM w h), by decide, 0, 6, _, rfl, fun S => ⟨rfl, rfl⟩⟩
theorem gM_0_18 (ad : Nat → Nat) (ca : Nat → ClassId) (cx : Cond) : xFg (cellsM ad ca) clA (cx :: wA) (ad 0) "HomeComputerModel" TM 21 18 (fun S => .int (S 0 18)) := ⟨fun w h => List.mem_cons_of_mem _ (layM w h), by decide, 0, 6, _, rfl, fun S => ⟨rfl, rfl⟩⟩
theorem pM_0_18 (ad : Nat → Nat) (ca : Nat → ClassId) (cx : Cond) : xFp (cellsM ad ca) clA (cx :: wA) (ad 0) "HomeComputerModel" TM 21 18 .boolean 0 18 := ⟨fun w h => List.mem_cons_of_mem _ (layM w h), by decide, rfl, by decide +kernel, ⟨tyM, tyM_ok⟩, nmM, 0, 6, _, rfl, fun S => ⟨rfl, Nat.le_of_ble_eq_true rfl, fun v => rfl⟩⟩
theorem gM_0_19 (ad : Nat → Nat) (ca : Nat → ClassId) (cx : Cond) : xFg (cellsM ad ca) clA (cx :: wA) (ad 0) "HomeComputerModel" TM 21 19 (fun S => .int (S 0 19)) := ⟨fun w h => List.mem_cons_of_mem _ (layM w h), by decide, 0, 6, _, rfl, fun S => ⟨rfl, rfl⟩⟩
theorem pM_0_19 (ad : Nat → Nat) (ca : Nat → ClassId) (cx : Cond) : xFp (cellsM ad ca) clA (cx :: wA) (ad 0) "HomeComputerModel" TM 21 19 .int 0 19 := ⟨fun w h => List.mem_cons_of_mem _ (layM w h), by decide, rfl, by decide +kernel, ⟨tyM, tyM_ok⟩, nmM, 0, 6, _, rfl, fun S => ⟨rfl, Nat.le_of_ble_eq_true rfl, fun v => rfl⟩⟩
theorem gM_0_20 (ad : Nat → Nat) (ca : Nat → ClassId) (cx : Cond) : xFg (cellsM ad ca) clA (cx :: wA) (ad 0) "HomeComputerModel" TM 21 20 (fun S => .int (S 0 20)) := ⟨fun w h => List.mem_cons_of_mem _ (layM w h), by decide, 0, 6, _, rfl, fun S => ⟨rfl, rfl⟩⟩
theorem pM_0_20 (ad : Nat → Nat) (ca : Nat → ClassId) (cx : Cond) : xFp (cellsM ad ca) clA (cx :: wA) (ad 0) "HomeComputerModel" TM 21 20 .int 0 20 := ⟨fun w h => List.mem_cons_of_mem _ (layM w h), by decide, rfl, by decide +kernel, ⟨tyM, tyM_ok⟩, nmM, 0, 6, _, rfl, fun S => ⟨rfl, Nat.le_of_ble_eq_true rfl, fun v => rfl⟩⟩
