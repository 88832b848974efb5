def R_P : String := "PileLifts"
def F_P : u_T := fun k => match k with
  | 0 => ("PileLifts", "yard", "LPileLifts$Yard;", true)
  | 1 => ("PileLifts", "search", "LPileLifts$Search;", true)
  | _ => ("PileLifts", "wagons", "LPileLifts$Wagons;", true)
def t_P : Nat → FieldType := fun k => match k with
  | 0 => .object "PileLifts$Yard"
  | 1 => .object "PileLifts$Search"
  | _ => .object "PileLifts$Wagons"
theorem n_P : ∀ a, a < 3 → ∀ b, b < 3 → a ≠ b → (F_P a).2.1 ≠ (F_P b).2.1 := by decide +kernel
theorem t_P_ok : ∀ k, k < 3 → parseFieldDescriptor (F_P k).2.2.1 = some (t_P k) := by decide +kernel
def R_Y : String := "PileLifts$Yard"
def F_Y : u_T := fun k => match k with
  | 0 => ("PileLifts$Yard", "pileCount", "I", false)
  | 1 => ("PileLifts$Yard", "levelCount", "I", false)
  | 2 => ("PileLifts$Yard", "pieceCount", "I", false)
  | 3 => ("PileLifts$Yard", "heights", "[I", true)
  | 4 => ("PileLifts$Yard", "lying", "[I", true)
  | 5 => ("PileLifts$Yard", "kilos", "[I", true)
  | 6 => ("PileLifts$Yard", "lengths", "[I", true)
  | 7 => ("PileLifts$Yard", "times", "[I", true)
  | 8 => ("PileLifts$Yard", "pileOf", "[I", true)
  | _ => ("PileLifts$Yard", "levelOf", "[I", true)
def t_Y : Nat → FieldType := fun k => match k with
  | 0 => .int
  | 1 => .int
  | 2 => .int
  | 3 => .array .int
  | 4 => .array .int
  | 5 => .array .int
  | 6 => .array .int
  | 7 => .array .int
  | 8 => .array .int
  | _ => .array .int
theorem n_Y : ∀ a, a < 10 → ∀ b, b < 10 → a ≠ b → (F_Y a).2.1 ≠ (F_Y b).2.1 := by decide +kernel
theorem t_Y_ok : ∀ k, k < 10 → parseFieldDescriptor (F_Y k).2.2.1 = some (t_Y k) := by decide +kernel
def R_S : String := "PileLifts$Search"
def F_S : u_T := fun k => match k with
  | 0 => ("PileLifts$Search", "isDone", "Z", false)
  | 1 => ("PileLifts$Search", "isProved", "Z", false)
  | 2 => ("PileLifts$Search", "hasPlan", "Z", false)
  | 3 => ("PileLifts$Search", "isCutShort", "Z", false)
  | 4 => ("PileLifts$Search", "nodesLeft", "I", false)
  | 5 => ("PileLifts$Search", "limit", "I", false)
  | 6 => ("PileLifts$Search", "moveCount", "I", false)
  | 7 => ("PileLifts$Search", "movedPiece", "[I", true)
  | 8 => ("PileLifts$Search", "movedFrom", "[I", true)
  | _ => ("PileLifts$Search", "movedTo", "[I", true)
def t_S : Nat → FieldType := fun k => match k with
  | 0 => .boolean
  | 1 => .boolean
  | 2 => .boolean
  | 3 => .boolean
  | 4 => .int
  | 5 => .int
  | 6 => .int
  | 7 => .array .int
  | 8 => .array .int
  | _ => .array .int
theorem n_S : ∀ a, a < 10 → ∀ b, b < 10 → a ≠ b → (F_S a).2.1 ≠ (F_S b).2.1 := by decide +kernel
theorem t_S_ok : ∀ k, k < 10 → parseFieldDescriptor (F_S k).2.2.1 = some (t_S k) := by decide +kernel
def R_W : String := "PileLifts$Wagons"
def F_W : u_T := fun k => match k with
  | 0 => ("PileLifts$Wagons", "count", "I", false)
  | 1 => ("PileLifts$Wagons", "axles", "[I", true)
  | 2 => ("PileLifts$Wagons", "loads", "[I", true)
  | _ => ("PileLifts$Wagons", "wagonOf", "[I", true)
def t_W : Nat → FieldType := fun k => match k with
  | 0 => .int
  | 1 => .array .int
  | 2 => .array .int
  | _ => .array .int
theorem n_W : ∀ a, a < 4 → ∀ b, b < 4 → a ≠ b → (F_W a).2.1 ≠ (F_W b).2.1 := by decide +kernel
theorem t_W_ok : ∀ k, k < 4 → parseFieldDescriptor (F_W k).2.2.1 = some (t_W k) := by decide +kernel
def R_M : String := "PileLiftsModel"
def F_M : u_T := fun k => match k with
  | 0 => ("PileLiftsModel", "thrown", "I", false)
  | 1 => ("PileLiftsModel", "piles", "I", false)
  | 2 => ("PileLiftsModel", "levels", "I", false)
  | 3 => ("PileLiftsModel", "pieces", "I", false)
  | 4 => ("PileLiftsModel", "kilos", "[I", true)
  | 5 => ("PileLiftsModel", "length", "[I", true)
  | 6 => ("PileLiftsModel", "time", "[I", true)
  | 7 => ("PileLiftsModel", "wagonOf", "[I", true)
  | 8 => ("PileLiftsModel", "lies", "[I", true)
  | 9 => ("PileLiftsModel", "high", "[I", true)
  | 10 => ("PileLiftsModel", "left", "[I", true)
  | 11 => ("PileLiftsModel", "choice", "[I", true)
  | 12 => ("PileLiftsModel", "movePiece", "[I", true)
  | 13 => ("PileLiftsModel", "moveTo", "[I", true)
  | 14 => ("PileLiftsModel", "many", "[I", true)
  | 15 => ("PileLiftsModel", "searched", "Z", false)
  | 16 => ("PileLiftsModel", "proved", "Z", false)
  | 17 => ("PileLiftsModel", "planned", "Z", false)
  | 18 => ("PileLiftsModel", "planMoves", "I", false)
  | 19 => ("PileLiftsModel", "wagons", "I", false)
  | 20 => ("PileLiftsModel", "axle", "[I", true)
  | _ => ("PileLiftsModel", "loaded", "[I", true)
def t_M : Nat → FieldType := fun k => match k with
  | 0 => .int
  | 1 => .int
  | 2 => .int
  | 3 => .int
  | 4 => .array .int
  | 5 => .array .int
  | 6 => .array .int
  | 7 => .array .int
  | 8 => .array .int
  | 9 => .array .int
  | 10 => .array .int
  | 11 => .array .int
  | 12 => .array .int
  | 13 => .array .int
  | 14 => .array .int
  | 15 => .boolean
  | 16 => .boolean
  | 17 => .boolean
  | 18 => .int
  | 19 => .int
  | 20 => .array .int
  | _ => .array .int
theorem n_M : ∀ a, a < 22 → ∀ b, b < 22 → a ≠ b → (F_M a).2.1 ≠ (F_M b).2.1 := by decide +kernel
theorem t_M_ok : ∀ k, k < 22 → parseFieldDescriptor (F_M k).2.2.1 = some (t_M k) := by decide +kernel
abbrev kcl : List vw_C := [(R_P, F_P, 3), (R_Y, F_Y, 10), (R_S, F_S, 10), (R_W, F_W, 4), (R_M, F_M, 22)]
abbrev b_P_init : ByteArray := prog_1_method_1_code
def y_P_init : MethodName := ⟨"PileLifts", "<init>", "()V"⟩
theorem q_P_init : y_P_init.cls ≠ "java/lang/invoke/MethodHandle" ∧ y_P_init.cls ≠ "java/lang/invoke/VarHandle" ∧ (parseMethodDescriptor y_P_init.desc).map (fun d => d.parameters.length) = some 0 := by decide +kernel
abbrev b_P_piles : ByteArray := prog_1_method_2_code
def y_P_piles : MethodName := ⟨"PileLifts", "piles", "(II)V"⟩
theorem q_P_piles : y_P_piles.cls ≠ "java/lang/invoke/MethodHandle" ∧ y_P_piles.cls ≠ "java/lang/invoke/VarHandle" ∧ (parseMethodDescriptor y_P_piles.desc).map (fun d => d.parameters.length) = some 2 := by decide +kernel
abbrev b_P_put : ByteArray := prog_1_method_3_code
def y_P_put : MethodName := ⟨"PileLifts", "put", "(III)I"⟩
theorem q_P_put : y_P_put.cls ≠ "java/lang/invoke/MethodHandle" ∧ y_P_put.cls ≠ "java/lang/invoke/VarHandle" ∧ (parseMethodDescriptor y_P_put.desc).map (fun d => d.parameters.length) = some 3 := by decide +kernel
abbrev b_P_want : ByteArray := prog_1_method_4_code
def y_P_want : MethodName := ⟨"PileLifts", "want", "(II)V"⟩
theorem q_P_want : y_P_want.cls ≠ "java/lang/invoke/MethodHandle" ∧ y_P_want.cls ≠ "java/lang/invoke/VarHandle" ∧ (parseMethodDescriptor y_P_want.desc).map (fun d => d.parameters.length) = some 2 := by decide +kernel
abbrev b_P_may : ByteArray := prog_1_method_5_code
def y_P_may : MethodName := ⟨"PileLifts", "may", "(II)Z"⟩
theorem q_P_may : y_P_may.cls ≠ "java/lang/invoke/MethodHandle" ∧ y_P_may.cls ≠ "java/lang/invoke/VarHandle" ∧ (parseMethodDescriptor y_P_may.desc).map (fun d => d.parameters.length) = some 2 := by decide +kernel
abbrev b_P_bound : ByteArray := prog_1_method_6_code
def y_P_bound : MethodName := ⟨"PileLifts", "bound", "()I"⟩
theorem q_P_bound : y_P_bound.cls ≠ "java/lang/invoke/MethodHandle" ∧ y_P_bound.cls ≠ "java/lang/invoke/VarHandle" ∧ (parseMethodDescriptor y_P_bound.desc).map (fun d => d.parameters.length) = some 0 := by decide +kernel
abbrev b_P_run : ByteArray := prog_1_method_7_code
def y_P_run : MethodName := ⟨"PileLifts", "run", "(I)I"⟩
theorem q_P_run : y_P_run.cls ≠ "java/lang/invoke/MethodHandle" ∧ y_P_run.cls ≠ "java/lang/invoke/VarHandle" ∧ (parseMethodDescriptor y_P_run.desc).map (fun d => d.parameters.length) = some 1 := by decide +kernel
abbrev b_P_proved : ByteArray := prog_1_method_8_code
def y_P_proved : MethodName := ⟨"PileLifts", "proved", "()Z"⟩
theorem q_P_proved : y_P_proved.cls ≠ "java/lang/invoke/MethodHandle" ∧ y_P_proved.cls ≠ "java/lang/invoke/VarHandle" ∧ (parseMethodDescriptor y_P_proved.desc).map (fun d => d.parameters.length) = some 0 := by decide +kernel
abbrev b_P_moves : ByteArray := prog_1_method_9_code
def y_P_moves : MethodName := ⟨"PileLifts", "moves", "()I"⟩
theorem q_P_moves : y_P_moves.cls ≠ "java/lang/invoke/MethodHandle" ∧ y_P_moves.cls ≠ "java/lang/invoke/VarHandle" ∧ (parseMethodDescriptor y_P_moves.desc).map (fun d => d.parameters.length) = some 0 := by decide +kernel
abbrev b_P_move : ByteArray := prog_1_method_10_code
def y_P_move : MethodName := ⟨"PileLifts", "move", "(II)I"⟩
theorem q_P_move : y_P_move.cls ≠ "java/lang/invoke/MethodHandle" ∧ y_P_move.cls ≠ "java/lang/invoke/VarHandle" ∧ (parseMethodDescriptor y_P_move.desc).map (fun d => d.parameters.length) = some 2 := by decide +kernel
abbrev b_P_replay : ByteArray := prog_1_method_11_code
def y_P_replay : MethodName := ⟨"PileLifts", "replay", "(I)I"⟩
theorem q_P_replay : y_P_replay.cls ≠ "java/lang/invoke/MethodHandle" ∧ y_P_replay.cls ≠ "java/lang/invoke/VarHandle" ∧ (parseMethodDescriptor y_P_replay.desc).map (fun d => d.parameters.length) = some 1 := by decide +kernel
abbrev b_P_at : ByteArray := prog_1_method_12_code
def y_P_at : MethodName := ⟨"PileLifts", "at", "(II)I"⟩
theorem q_P_at : y_P_at.cls ≠ "java/lang/invoke/MethodHandle" ∧ y_P_at.cls ≠ "java/lang/invoke/VarHandle" ∧ (parseMethodDescriptor y_P_at.desc).map (fun d => d.parameters.length) = some 2 := by decide +kernel
abbrev b_P_tidy : ByteArray := prog_1_method_13_code
def y_P_tidy : MethodName := ⟨"PileLifts", "tidy", "(I)I"⟩
theorem q_P_tidy : y_P_tidy.cls ≠ "java/lang/invoke/MethodHandle" ∧ y_P_tidy.cls ≠ "java/lang/invoke/VarHandle" ∧ (parseMethodDescriptor y_P_tidy.desc).map (fun d => d.parameters.length) = some 1 := by decide +kernel
abbrev b_P_wagon : ByteArray := prog_1_method_14_code
def y_P_wagon : MethodName := ⟨"PileLifts", "wagon", "(I)I"⟩
theorem q_P_wagon : y_P_wagon.cls ≠ "java/lang/invoke/MethodHandle" ∧ y_P_wagon.cls ≠ "java/lang/invoke/VarHandle" ∧ (parseMethodDescriptor y_P_wagon.desc).map (fun d => d.parameters.length) = some 1 := by decide +kernel
abbrev b_P_load : ByteArray := prog_1_method_15_code
def y_P_load : MethodName := ⟨"PileLifts", "load", "(I)I"⟩
theorem q_P_load : y_P_load.cls ≠ "java/lang/invoke/MethodHandle" ∧ y_P_load.cls ≠ "java/lang/invoke/VarHandle" ∧ (parseMethodDescriptor y_P_load.desc).map (fun d => d.parameters.length) = some 1 := by decide +kernel
abbrev b_P_checkPiece : ByteArray := prog_1_method_16_code
def y_P_checkPiece : MethodName := ⟨"PileLifts", "checkPiece", "(I)V"⟩
theorem q_P_checkPiece : y_P_checkPiece.cls ≠ "java/lang/invoke/MethodHandle" ∧ y_P_checkPiece.cls ≠ "java/lang/invoke/VarHandle" ∧ (parseMethodDescriptor y_P_checkPiece.desc).map (fun d => d.parameters.length) = some 1 := by decide +kernel
abbrev b_P_checkPlan : ByteArray := prog_1_method_17_code
def y_P_checkPlan : MethodName := ⟨"PileLifts", "checkPlan", "()V"⟩
theorem q_P_checkPlan : y_P_checkPlan.cls ≠ "java/lang/invoke/MethodHandle" ∧ y_P_checkPlan.cls ≠ "java/lang/invoke/VarHandle" ∧ (parseMethodDescriptor y_P_checkPlan.desc).map (fun d => d.parameters.length) = some 0 := by decide +kernel
abbrev b_P_isWithin : ByteArray := prog_1_method_18_code
def y_P_isWithin : MethodName := ⟨"PileLifts", "isWithin", "(III)Z"⟩
theorem q_P_isWithin : y_P_isWithin.cls ≠ "java/lang/invoke/MethodHandle" ∧ y_P_isWithin.cls ≠ "java/lang/invoke/VarHandle" ∧ (parseMethodDescriptor y_P_isWithin.desc).map (fun d => d.parameters.length) = some 3 := by decide +kernel
abbrev b_M_init : ByteArray := prog_6_method_1_code
def y_M_init : MethodName := ⟨"PileLiftsModel", "<init>", "()V"⟩
theorem q_M_init : y_M_init.cls ≠ "java/lang/invoke/MethodHandle" ∧ y_M_init.cls ≠ "java/lang/invoke/VarHandle" ∧ (parseMethodDescriptor y_M_init.desc).map (fun d => d.parameters.length) = some 0 := by decide +kernel
abbrev b_M_thrown : ByteArray := prog_6_method_2_code
def y_M_thrown : MethodName := ⟨"PileLiftsModel", "thrown", "()I"⟩
theorem q_M_thrown : y_M_thrown.cls ≠ "java/lang/invoke/MethodHandle" ∧ y_M_thrown.cls ≠ "java/lang/invoke/VarHandle" ∧ (parseMethodDescriptor y_M_thrown.desc).map (fun d => d.parameters.length) = some 0 := by decide +kernel
abbrev b_M_in : ByteArray := prog_6_method_3_code
def y_M_in : MethodName := ⟨"PileLiftsModel", "in", "(III)Z"⟩
theorem q_M_in : y_M_in.cls ≠ "java/lang/invoke/MethodHandle" ∧ y_M_in.cls ≠ "java/lang/invoke/VarHandle" ∧ (parseMethodDescriptor y_M_in.desc).map (fun d => d.parameters.length) = some 3 := by decide +kernel
abbrev b_M_goes : ByteArray := prog_6_method_4_code
def y_M_goes : MethodName := ⟨"PileLiftsModel", "goes", "(ZZZ)Z"⟩
theorem q_M_goes : y_M_goes.cls ≠ "java/lang/invoke/MethodHandle" ∧ y_M_goes.cls ≠ "java/lang/invoke/VarHandle" ∧ (parseMethodDescriptor y_M_goes.desc).map (fun d => d.parameters.length) = some 3 := by decide +kernel
abbrev b_M_isPiece : ByteArray := prog_6_method_5_code
def y_M_isPiece : MethodName := ⟨"PileLiftsModel", "isPiece", "(I)Z"⟩
theorem q_M_isPiece : y_M_isPiece.cls ≠ "java/lang/invoke/MethodHandle" ∧ y_M_isPiece.cls ≠ "java/lang/invoke/VarHandle" ∧ (parseMethodDescriptor y_M_isPiece.desc).map (fun d => d.parameters.length) = some 1 := by decide +kernel
abbrev b_M_changed : ByteArray := prog_6_method_6_code
def y_M_changed : MethodName := ⟨"PileLiftsModel", "changed", "()V"⟩
theorem q_M_changed : y_M_changed.cls ≠ "java/lang/invoke/MethodHandle" ∧ y_M_changed.cls ≠ "java/lang/invoke/VarHandle" ∧ (parseMethodDescriptor y_M_changed.desc).map (fun d => d.parameters.length) = some 0 := by decide +kernel
abbrev b_M_cell : ByteArray := prog_6_method_7_code
def y_M_cell : MethodName := ⟨"PileLiftsModel", "cell", "(III)I"⟩
theorem q_M_cell : y_M_cell.cls ≠ "java/lang/invoke/MethodHandle" ∧ y_M_cell.cls ≠ "java/lang/invoke/VarHandle" ∧ (parseMethodDescriptor y_M_cell.desc).map (fun d => d.parameters.length) = some 3 := by decide +kernel
abbrev b_M_piles : ByteArray := prog_6_method_8_code
def y_M_piles : MethodName := ⟨"PileLiftsModel", "piles", "(II)V"⟩
theorem q_M_piles : y_M_piles.cls ≠ "java/lang/invoke/MethodHandle" ∧ y_M_piles.cls ≠ "java/lang/invoke/VarHandle" ∧ (parseMethodDescriptor y_M_piles.desc).map (fun d => d.parameters.length) = some 2 := by decide +kernel
abbrev b_M_takes : ByteArray := prog_6_method_9_code
def y_M_takes : MethodName := ⟨"PileLiftsModel", "takes", "(III)Z"⟩
theorem q_M_takes : y_M_takes.cls ≠ "java/lang/invoke/MethodHandle" ∧ y_M_takes.cls ≠ "java/lang/invoke/VarHandle" ∧ (parseMethodDescriptor y_M_takes.desc).map (fun d => d.parameters.length) = some 3 := by decide +kernel
abbrev b_M_put : ByteArray := prog_6_method_10_code
def y_M_put : MethodName := ⟨"PileLiftsModel", "put", "(III)I"⟩
theorem q_M_put : y_M_put.cls ≠ "java/lang/invoke/MethodHandle" ∧ y_M_put.cls ≠ "java/lang/invoke/VarHandle" ∧ (parseMethodDescriptor y_M_put.desc).map (fun d => d.parameters.length) = some 3 := by decide +kernel
abbrev b_M_isGone : ByteArray := prog_6_method_11_code
def y_M_isGone : MethodName := ⟨"PileLiftsModel", "isGone", "(II)Z"⟩
theorem q_M_isGone : y_M_isGone.cls ≠ "java/lang/invoke/MethodHandle" ∧ y_M_isGone.cls ≠ "java/lang/invoke/VarHandle" ∧ (parseMethodDescriptor y_M_isGone.desc).map (fun d => d.parameters.length) = some 2 := by decide +kernel
abbrev b_M_want : ByteArray := prog_6_method_12_code
def y_M_want : MethodName := ⟨"PileLiftsModel", "want", "(II)V"⟩
theorem q_M_want : y_M_want.cls ≠ "java/lang/invoke/MethodHandle" ∧ y_M_want.cls ≠ "java/lang/invoke/VarHandle" ∧ (parseMethodDescriptor y_M_want.desc).map (fun d => d.parameters.length) = some 2 := by decide +kernel
abbrev b_M_may : ByteArray := prog_6_method_13_code
def y_M_may : MethodName := ⟨"PileLiftsModel", "may", "(II)Z"⟩
theorem q_M_may : y_M_may.cls ≠ "java/lang/invoke/MethodHandle" ∧ y_M_may.cls ≠ "java/lang/invoke/VarHandle" ∧ (parseMethodDescriptor y_M_may.desc).map (fun d => d.parameters.length) = some 2 := by decide +kernel
abbrev b_M_isAhead : ByteArray := prog_6_method_14_code
def y_M_isAhead : MethodName := ⟨"PileLiftsModel", "isAhead", "(II)Z"⟩
theorem q_M_isAhead : y_M_isAhead.cls ≠ "java/lang/invoke/MethodHandle" ∧ y_M_isAhead.cls ≠ "java/lang/invoke/VarHandle" ∧ (parseMethodDescriptor y_M_isAhead.desc).map (fun d => d.parameters.length) = some 2 := by decide +kernel
abbrev b_M_blocksOn : ByteArray := prog_6_method_15_code
def y_M_blocksOn : MethodName := ⟨"PileLiftsModel", "blocksOn", "(IIII)Z"⟩
theorem q_M_blocksOn : y_M_blocksOn.cls ≠ "java/lang/invoke/MethodHandle" ∧ y_M_blocksOn.cls ≠ "java/lang/invoke/VarHandle" ∧ (parseMethodDescriptor y_M_blocksOn.desc).map (fun d => d.parameters.length) = some 4 := by decide +kernel
abbrev b_M_boundAt : ByteArray := prog_6_method_16_code
def y_M_boundAt : MethodName := ⟨"PileLiftsModel", "boundAt", "(I)I"⟩
theorem q_M_boundAt : y_M_boundAt.cls ≠ "java/lang/invoke/MethodHandle" ∧ y_M_boundAt.cls ≠ "java/lang/invoke/VarHandle" ∧ (parseMethodDescriptor y_M_boundAt.desc).map (fun d => d.parameters.length) = some 1 := by decide +kernel
abbrev b_M_bound : ByteArray := prog_6_method_17_code
def y_M_bound : MethodName := ⟨"PileLiftsModel", "bound", "()I"⟩
theorem q_M_bound : y_M_bound.cls ≠ "java/lang/invoke/MethodHandle" ∧ y_M_bound.cls ≠ "java/lang/invoke/VarHandle" ∧ (parseMethodDescriptor y_M_bound.desc).map (fun d => d.parameters.length) = some 0 := by decide +kernel
abbrev b_M_copy : ByteArray := prog_6_method_18_code
def y_M_copy : MethodName := ⟨"PileLiftsModel", "copy", "(II)V"⟩
theorem q_M_copy : y_M_copy.cls ≠ "java/lang/invoke/MethodHandle" ∧ y_M_copy.cls ≠ "java/lang/invoke/VarHandle" ∧ (parseMethodDescriptor y_M_copy.desc).map (fun d => d.parameters.length) = some 2 := by decide +kernel
abbrev b_M_says : ByteArray := prog_6_method_19_code
def y_M_says : MethodName := ⟨"PileLiftsModel", "says", "(III)V"⟩
theorem q_M_says : y_M_says.cls ≠ "java/lang/invoke/MethodHandle" ∧ y_M_says.cls ≠ "java/lang/invoke/VarHandle" ∧ (parseMethodDescriptor y_M_says.desc).map (fun d => d.parameters.length) = some 3 := by decide +kernel
abbrev b_M_topOf : ByteArray := prog_6_method_20_code
def y_M_topOf : MethodName := ⟨"PileLiftsModel", "topOf", "(II)I"⟩
theorem q_M_topOf : y_M_topOf.cls ≠ "java/lang/invoke/MethodHandle" ∧ y_M_topOf.cls ≠ "java/lang/invoke/VarHandle" ∧ (parseMethodDescriptor y_M_topOf.desc).map (fun d => d.parameters.length) = some 2 := by decide +kernel
abbrev b_M_lift : ByteArray := prog_6_method_21_code
def y_M_lift : MethodName := ⟨"PileLiftsModel", "lift", "(III)V"⟩
theorem q_M_lift : y_M_lift.cls ≠ "java/lang/invoke/MethodHandle" ∧ y_M_lift.cls ≠ "java/lang/invoke/VarHandle" ∧ (parseMethodDescriptor y_M_lift.desc).map (fun d => d.parameters.length) = some 3 := by decide +kernel
abbrev b_M_nextWanted : ByteArray := prog_6_method_22_code
def y_M_nextWanted : MethodName := ⟨"PileLiftsModel", "nextWanted", "(I)I"⟩
theorem q_M_nextWanted : y_M_nextWanted.cls ≠ "java/lang/invoke/MethodHandle" ∧ y_M_nextWanted.cls ≠ "java/lang/invoke/VarHandle" ∧ (parseMethodDescriptor y_M_nextWanted.desc).map (fun d => d.parameters.length) = some 1 := by decide +kernel
abbrev b_M_leaves : ByteArray := prog_6_method_23_code
def y_M_leaves : MethodName := ⟨"PileLiftsModel", "leaves", "(I)Z"⟩
theorem q_M_leaves : y_M_leaves.cls ≠ "java/lang/invoke/MethodHandle" ∧ y_M_leaves.cls ≠ "java/lang/invoke/VarHandle" ∧ (parseMethodDescriptor y_M_leaves.desc).map (fun d => d.parameters.length) = some 1 := by decide +kernel
abbrev b_M_round : ByteArray := prog_6_method_24_code
def y_M_round : MethodName := ⟨"PileLiftsModel", "round", "(II)I"⟩
theorem q_M_round : y_M_round.cls ≠ "java/lang/invoke/MethodHandle" ∧ y_M_round.cls ≠ "java/lang/invoke/VarHandle" ∧ (parseMethodDescriptor y_M_round.desc).map (fun d => d.parameters.length) = some 2 := by decide +kernel
abbrev b_M_run : ByteArray := prog_6_method_25_code
def y_M_run : MethodName := ⟨"PileLiftsModel", "run", "(I)I"⟩
theorem q_M_run : y_M_run.cls ≠ "java/lang/invoke/MethodHandle" ∧ y_M_run.cls ≠ "java/lang/invoke/VarHandle" ∧ (parseMethodDescriptor y_M_run.desc).map (fun d => d.parameters.length) = some 1 := by decide +kernel
abbrev b_M_proved : ByteArray := prog_6_method_26_code
def y_M_proved : MethodName := ⟨"PileLiftsModel", "proved", "()Z"⟩
theorem q_M_proved : y_M_proved.cls ≠ "java/lang/invoke/MethodHandle" ∧ y_M_proved.cls ≠ "java/lang/invoke/VarHandle" ∧ (parseMethodDescriptor y_M_proved.desc).map (fun d => d.parameters.length) = some 0 := by decide +kernel
abbrev b_M_moves : ByteArray := prog_6_method_27_code
def y_M_moves : MethodName := ⟨"PileLiftsModel", "moves", "()I"⟩
theorem q_M_moves : y_M_moves.cls ≠ "java/lang/invoke/MethodHandle" ∧ y_M_moves.cls ≠ "java/lang/invoke/VarHandle" ∧ (parseMethodDescriptor y_M_moves.desc).map (fun d => d.parameters.length) = some 0 := by decide +kernel
abbrev b_M_move : ByteArray := prog_6_method_28_code
def y_M_move : MethodName := ⟨"PileLiftsModel", "move", "(II)I"⟩
theorem q_M_move : y_M_move.cls ≠ "java/lang/invoke/MethodHandle" ∧ y_M_move.cls ≠ "java/lang/invoke/VarHandle" ∧ (parseMethodDescriptor y_M_move.desc).map (fun d => d.parameters.length) = some 2 := by decide +kernel
abbrev b_M_replay : ByteArray := prog_6_method_29_code
def y_M_replay : MethodName := ⟨"PileLiftsModel", "replay", "(I)I"⟩
theorem q_M_replay : y_M_replay.cls ≠ "java/lang/invoke/MethodHandle" ∧ y_M_replay.cls ≠ "java/lang/invoke/VarHandle" ∧ (parseMethodDescriptor y_M_replay.desc).map (fun d => d.parameters.length) = some 1 := by decide +kernel
abbrev b_M_at : ByteArray := prog_6_method_30_code
def y_M_at : MethodName := ⟨"PileLiftsModel", "at", "(II)I"⟩
theorem q_M_at : y_M_at.cls ≠ "java/lang/invoke/MethodHandle" ∧ y_M_at.cls ≠ "java/lang/invoke/VarHandle" ∧ (parseMethodDescriptor y_M_at.desc).map (fun d => d.parameters.length) = some 2 := by decide +kernel
abbrev b_M_tidies : ByteArray := prog_6_method_31_code
def y_M_tidies : MethodName := ⟨"PileLiftsModel", "tidies", "()Z"⟩
theorem q_M_tidies : y_M_tidies.cls ≠ "java/lang/invoke/MethodHandle" ∧ y_M_tidies.cls ≠ "java/lang/invoke/VarHandle" ∧ (parseMethodDescriptor y_M_tidies.desc).map (fun d => d.parameters.length) = some 0 := by decide +kernel
abbrev b_M_tidy : ByteArray := prog_6_method_32_code
def y_M_tidy : MethodName := ⟨"PileLiftsModel", "tidy", "(I)I"⟩
theorem q_M_tidy : y_M_tidy.cls ≠ "java/lang/invoke/MethodHandle" ∧ y_M_tidy.cls ≠ "java/lang/invoke/VarHandle" ∧ (parseMethodDescriptor y_M_tidy.desc).map (fun d => d.parameters.length) = some 1 := by decide +kernel
abbrev b_M_wagon : ByteArray := prog_6_method_33_code
def y_M_wagon : MethodName := ⟨"PileLiftsModel", "wagon", "(I)I"⟩
theorem q_M_wagon : y_M_wagon.cls ≠ "java/lang/invoke/MethodHandle" ∧ y_M_wagon.cls ≠ "java/lang/invoke/VarHandle" ∧ (parseMethodDescriptor y_M_wagon.desc).map (fun d => d.parameters.length) = some 1 := by decide +kernel
abbrev b_M_load : ByteArray := prog_6_method_34_code
def y_M_load : MethodName := ⟨"PileLiftsModel", "load", "(I)I"⟩
theorem q_M_load : y_M_load.cls ≠ "java/lang/invoke/MethodHandle" ∧ y_M_load.cls ≠ "java/lang/invoke/VarHandle" ∧ (parseMethodDescriptor y_M_load.desc).map (fun d => d.parameters.length) = some 1 := by decide +kernel
abbrev b_S_init : ByteArray := prog_2_method_1_code
def y_S_init : MethodName := ⟨"PileLifts$Search", "<init>", "()V"⟩
theorem q_S_init : y_S_init.cls ≠ "java/lang/invoke/MethodHandle" ∧ y_S_init.cls ≠ "java/lang/invoke/VarHandle" ∧ (parseMethodDescriptor y_S_init.desc).map (fun d => d.parameters.length) = some 0 := by decide +kernel
abbrev b_S_forget : ByteArray := prog_2_method_2_code
def y_S_forget : MethodName := ⟨"PileLifts$Search", "forget", "()V"⟩
theorem q_S_forget : y_S_forget.cls ≠ "java/lang/invoke/MethodHandle" ∧ y_S_forget.cls ≠ "java/lang/invoke/VarHandle" ∧ (parseMethodDescriptor y_S_forget.desc).map (fun d => d.parameters.length) = some 0 := by decide +kernel
abbrev b_S_findBest : ByteArray := prog_2_method_3_code
def y_S_findBest : MethodName := ⟨"PileLifts$Search", "findBest", "(LPileLifts$Yard;I)I"⟩
theorem q_S_findBest : y_S_findBest.cls ≠ "java/lang/invoke/MethodHandle" ∧ y_S_findBest.cls ≠ "java/lang/invoke/VarHandle" ∧ (parseMethodDescriptor y_S_findBest.desc).map (fun d => d.parameters.length) = some 2 := by decide +kernel
abbrev b_S_goOn : ByteArray := prog_2_method_4_code
def y_S_goOn : MethodName := ⟨"PileLifts$Search", "goOn", "(LPileLifts$Yard;II)Z"⟩
theorem q_S_goOn : y_S_goOn.cls ≠ "java/lang/invoke/MethodHandle" ∧ y_S_goOn.cls ≠ "java/lang/invoke/VarHandle" ∧ (parseMethodDescriptor y_S_goOn.desc).map (fun d => d.parameters.length) = some 3 := by decide +kernel
abbrev b_S_tryFrom : ByteArray := prog_2_method_5_code
def y_S_tryFrom : MethodName := ⟨"PileLifts$Search", "tryFrom", "(LPileLifts$Yard;III)Z"⟩
theorem q_S_tryFrom : y_S_tryFrom.cls ≠ "java/lang/invoke/MethodHandle" ∧ y_S_tryFrom.cls ≠ "java/lang/invoke/VarHandle" ∧ (parseMethodDescriptor y_S_tryFrom.desc).map (fun d => d.parameters.length) = some 4 := by decide +kernel
abbrev b_S_tryOne : ByteArray := prog_2_method_6_code
def y_S_tryOne : MethodName := ⟨"PileLifts$Search", "tryOne", "(LPileLifts$Yard;IIII)Z"⟩
theorem q_S_tryOne : y_S_tryOne.cls ≠ "java/lang/invoke/MethodHandle" ∧ y_S_tryOne.cls ≠ "java/lang/invoke/VarHandle" ∧ (parseMethodDescriptor y_S_tryOne.desc).map (fun d => d.parameters.length) = some 5 := by decide +kernel
abbrev b_S_letLeave : ByteArray := prog_2_method_7_code
def y_S_letLeave : MethodName := ⟨"PileLifts$Search", "letLeave", "(LPileLifts$Yard;)V"⟩
theorem q_S_letLeave : y_S_letLeave.cls ≠ "java/lang/invoke/MethodHandle" ∧ y_S_letLeave.cls ≠ "java/lang/invoke/VarHandle" ∧ (parseMethodDescriptor y_S_letLeave.desc).map (fun d => d.parameters.length) = some 1 := by decide +kernel
abbrev b_S_note : ByteArray := prog_2_method_8_code
def y_S_note : MethodName := ⟨"PileLifts$Search", "note", "(III)V"⟩
theorem q_S_note : y_S_note.cls ≠ "java/lang/invoke/MethodHandle" ∧ y_S_note.cls ≠ "java/lang/invoke/VarHandle" ∧ (parseMethodDescriptor y_S_note.desc).map (fun d => d.parameters.length) = some 3 := by decide +kernel
abbrev b_S_takeBack : ByteArray := prog_2_method_9_code
def y_S_takeBack : MethodName := ⟨"PileLifts$Search", "takeBack", "(LPileLifts$Yard;I)V"⟩
theorem q_S_takeBack : y_S_takeBack.cls ≠ "java/lang/invoke/MethodHandle" ∧ y_S_takeBack.cls ≠ "java/lang/invoke/VarHandle" ∧ (parseMethodDescriptor y_S_takeBack.desc).map (fun d => d.parameters.length) = some 2 := by decide +kernel
abbrev b_S_doMoves : ByteArray := prog_2_method_10_code
def y_S_doMoves : MethodName := ⟨"PileLifts$Search", "doMoves", "(LPileLifts$Yard;I)V"⟩
theorem q_S_doMoves : y_S_doMoves.cls ≠ "java/lang/invoke/MethodHandle" ∧ y_S_doMoves.cls ≠ "java/lang/invoke/VarHandle" ∧ (parseMethodDescriptor y_S_doMoves.desc).map (fun d => d.parameters.length) = some 2 := by decide +kernel
abbrev b_S_countRelifts : ByteArray := prog_2_method_11_code
def y_S_countRelifts : MethodName := ⟨"PileLifts$Search", "countRelifts", "()I"⟩
theorem q_S_countRelifts : y_S_countRelifts.cls ≠ "java/lang/invoke/MethodHandle" ∧ y_S_countRelifts.cls ≠ "java/lang/invoke/VarHandle" ∧ (parseMethodDescriptor y_S_countRelifts.desc).map (fun d => d.parameters.length) = some 0 := by decide +kernel
abbrev b_W_init : ByteArray := prog_3_method_1_code
def y_W_init : MethodName := ⟨"PileLifts$Wagons", "<init>", "()V"⟩
theorem q_W_init : y_W_init.cls ≠ "java/lang/invoke/MethodHandle" ∧ y_W_init.cls ≠ "java/lang/invoke/VarHandle" ∧ (parseMethodDescriptor y_W_init.desc).map (fun d => d.parameters.length) = some 0 := by decide +kernel
abbrev b_W_clear : ByteArray := prog_3_method_2_code
def y_W_clear : MethodName := ⟨"PileLifts$Wagons", "clear", "()V"⟩
theorem q_W_clear : y_W_clear.cls ≠ "java/lang/invoke/MethodHandle" ∧ y_W_clear.cls ≠ "java/lang/invoke/VarHandle" ∧ (parseMethodDescriptor y_W_clear.desc).map (fun d => d.parameters.length) = some 0 := by decide +kernel
abbrev b_W_add : ByteArray := prog_3_method_3_code
def y_W_add : MethodName := ⟨"PileLifts$Wagons", "add", "(I)I"⟩
theorem q_W_add : y_W_add.cls ≠ "java/lang/invoke/MethodHandle" ∧ y_W_add.cls ≠ "java/lang/invoke/VarHandle" ∧ (parseMethodDescriptor y_W_add.desc).map (fun d => d.parameters.length) = some 1 := by decide +kernel
abbrev b_W_firstWithRoom : ByteArray := prog_3_method_4_code
def y_W_firstWithRoom : MethodName := ⟨"PileLifts$Wagons", "firstWithRoom", "(I)I"⟩
theorem q_W_firstWithRoom : y_W_firstWithRoom.cls ≠ "java/lang/invoke/MethodHandle" ∧ y_W_firstWithRoom.cls ≠ "java/lang/invoke/VarHandle" ∧ (parseMethodDescriptor y_W_firstWithRoom.desc).map (fun d => d.parameters.length) = some 1 := by decide +kernel
abbrev b_W_fill : ByteArray := prog_3_method_5_code
def y_W_fill : MethodName := ⟨"PileLifts$Wagons", "fill", "(III)V"⟩
theorem q_W_fill : y_W_fill.cls ≠ "java/lang/invoke/MethodHandle" ∧ y_W_fill.cls ≠ "java/lang/invoke/VarHandle" ∧ (parseMethodDescriptor y_W_fill.desc).map (fun d => d.parameters.length) = some 3 := by decide +kernel
abbrev b_Y_init : ByteArray := prog_4_method_1_code
def y_Y_init : MethodName := ⟨"PileLifts$Yard", "<init>", "()V"⟩
theorem q_Y_init : y_Y_init.cls ≠ "java/lang/invoke/MethodHandle" ∧ y_Y_init.cls ≠ "java/lang/invoke/VarHandle" ∧ (parseMethodDescriptor y_Y_init.desc).map (fun d => d.parameters.length) = some 0 := by decide +kernel
abbrev b_Y_clear : ByteArray := prog_4_method_2_code
def y_Y_clear : MethodName := ⟨"PileLifts$Yard", "clear", "(II)V"⟩
theorem q_Y_clear : y_Y_clear.cls ≠ "java/lang/invoke/MethodHandle" ∧ y_Y_clear.cls ≠ "java/lang/invoke/VarHandle" ∧ (parseMethodDescriptor y_Y_clear.desc).map (fun d => d.parameters.length) = some 2 := by decide +kernel
abbrev b_Y_hasPile : ByteArray := prog_4_method_3_code
def y_Y_hasPile : MethodName := ⟨"PileLifts$Yard", "hasPile", "(I)Z"⟩
theorem q_Y_hasPile : y_Y_hasPile.cls ≠ "java/lang/invoke/MethodHandle" ∧ y_Y_hasPile.cls ≠ "java/lang/invoke/VarHandle" ∧ (parseMethodDescriptor y_Y_hasPile.desc).map (fun d => d.parameters.length) = some 1 := by decide +kernel
abbrev b_Y_hasPiece : ByteArray := prog_4_method_4_code
def y_Y_hasPiece : MethodName := ⟨"PileLifts$Yard", "hasPiece", "(I)Z"⟩
theorem q_Y_hasPiece : y_Y_hasPiece.cls ≠ "java/lang/invoke/MethodHandle" ∧ y_Y_hasPiece.cls ≠ "java/lang/invoke/VarHandle" ∧ (parseMethodDescriptor y_Y_hasPiece.desc).map (fun d => d.parameters.length) = some 1 := by decide +kernel
abbrev b_Y_isGone : ByteArray := prog_4_method_5_code
def y_Y_isGone : MethodName := ⟨"PileLifts$Yard", "isGone", "(I)Z"⟩
theorem q_Y_isGone : y_Y_isGone.cls ≠ "java/lang/invoke/MethodHandle" ∧ y_Y_isGone.cls ≠ "java/lang/invoke/VarHandle" ∧ (parseMethodDescriptor y_Y_isGone.desc).map (fun d => d.parameters.length) = some 1 := by decide +kernel
abbrev b_Y_pieceAt : ByteArray := prog_4_method_6_code
def y_Y_pieceAt : MethodName := ⟨"PileLifts$Yard", "pieceAt", "(II)I"⟩
theorem q_Y_pieceAt : y_Y_pieceAt.cls ≠ "java/lang/invoke/MethodHandle" ∧ y_Y_pieceAt.cls ≠ "java/lang/invoke/VarHandle" ∧ (parseMethodDescriptor y_Y_pieceAt.desc).map (fun d => d.parameters.length) = some 2 := by decide +kernel
abbrev b_Y_topOf : ByteArray := prog_4_method_7_code
def y_Y_topOf : MethodName := ⟨"PileLifts$Yard", "topOf", "(I)I"⟩
theorem q_Y_topOf : y_Y_topOf.cls ≠ "java/lang/invoke/MethodHandle" ∧ y_Y_topOf.cls ≠ "java/lang/invoke/VarHandle" ∧ (parseMethodDescriptor y_Y_topOf.desc).map (fun d => d.parameters.length) = some 1 := by decide +kernel
abbrev b_Y_takes : ByteArray := prog_4_method_8_code
def y_Y_takes : MethodName := ⟨"PileLifts$Yard", "takes", "(II)Z"⟩
theorem q_Y_takes : y_Y_takes.cls ≠ "java/lang/invoke/MethodHandle" ∧ y_Y_takes.cls ≠ "java/lang/invoke/VarHandle" ∧ (parseMethodDescriptor y_Y_takes.desc).map (fun d => d.parameters.length) = some 2 := by decide +kernel
abbrev b_Y_add : ByteArray := prog_4_method_9_code
def y_Y_add : MethodName := ⟨"PileLifts$Yard", "add", "(III)I"⟩
theorem q_Y_add : y_Y_add.cls ≠ "java/lang/invoke/MethodHandle" ∧ y_Y_add.cls ≠ "java/lang/invoke/VarHandle" ∧ (parseMethodDescriptor y_Y_add.desc).map (fun d => d.parameters.length) = some 3 := by decide +kernel
abbrev b_Y_layOn : ByteArray := prog_4_method_10_code
def y_Y_layOn : MethodName := ⟨"PileLifts$Yard", "layOn", "(II)V"⟩
theorem q_Y_layOn : y_Y_layOn.cls ≠ "java/lang/invoke/MethodHandle" ∧ y_Y_layOn.cls ≠ "java/lang/invoke/VarHandle" ∧ (parseMethodDescriptor y_Y_layOn.desc).map (fun d => d.parameters.length) = some 2 := by decide +kernel
abbrev b_Y_takeOff : ByteArray := prog_4_method_11_code
def y_Y_takeOff : MethodName := ⟨"PileLifts$Yard", "takeOff", "(I)V"⟩
theorem q_Y_takeOff : y_Y_takeOff.cls ≠ "java/lang/invoke/MethodHandle" ∧ y_Y_takeOff.cls ≠ "java/lang/invoke/VarHandle" ∧ (parseMethodDescriptor y_Y_takeOff.desc).map (fun d => d.parameters.length) = some 1 := by decide +kernel
abbrev b_Y_relift : ByteArray := prog_4_method_12_code
def y_Y_relift : MethodName := ⟨"PileLifts$Yard", "relift", "(II)V"⟩
theorem q_Y_relift : y_Y_relift.cls ≠ "java/lang/invoke/MethodHandle" ∧ y_Y_relift.cls ≠ "java/lang/invoke/VarHandle" ∧ (parseMethodDescriptor y_Y_relift.desc).map (fun d => d.parameters.length) = some 2 := by decide +kernel
abbrev b_Y_turnOf : ByteArray := prog_4_method_13_code
def y_Y_turnOf : MethodName := ⟨"PileLifts$Yard", "turnOf", "(I)I"⟩
theorem q_Y_turnOf : y_Y_turnOf.cls ≠ "java/lang/invoke/MethodHandle" ∧ y_Y_turnOf.cls ≠ "java/lang/invoke/VarHandle" ∧ (parseMethodDescriptor y_Y_turnOf.desc).map (fun d => d.parameters.length) = some 1 := by decide +kernel
abbrev b_Y_wouldBlock : ByteArray := prog_4_method_14_code
def y_Y_wouldBlock : MethodName := ⟨"PileLifts$Yard", "wouldBlock", "(III)Z"⟩
theorem q_Y_wouldBlock : y_Y_wouldBlock.cls ≠ "java/lang/invoke/MethodHandle" ∧ y_Y_wouldBlock.cls ≠ "java/lang/invoke/VarHandle" ∧ (parseMethodDescriptor y_Y_wouldBlock.desc).map (fun d => d.parameters.length) = some 3 := by decide +kernel
abbrev b_Y_wouldBlockOn : ByteArray := prog_4_method_15_code
def y_Y_wouldBlockOn : MethodName := ⟨"PileLifts$Yard", "wouldBlockOn", "(II)Z"⟩
theorem q_Y_wouldBlockOn : y_Y_wouldBlockOn.cls ≠ "java/lang/invoke/MethodHandle" ∧ y_Y_wouldBlockOn.cls ≠ "java/lang/invoke/VarHandle" ∧ (parseMethodDescriptor y_Y_wouldBlockOn.desc).map (fun d => d.parameters.length) = some 2 := by decide +kernel
abbrev b_Y_isBlocking : ByteArray := prog_4_method_16_code
def y_Y_isBlocking : MethodName := ⟨"PileLifts$Yard", "isBlocking", "(I)Z"⟩
theorem q_Y_isBlocking : y_Y_isBlocking.cls ≠ "java/lang/invoke/MethodHandle" ∧ y_Y_isBlocking.cls ≠ "java/lang/invoke/VarHandle" ∧ (parseMethodDescriptor y_Y_isBlocking.desc).map (fun d => d.parameters.length) = some 1 := by decide +kernel
abbrev b_Y_countBlocking : ByteArray := prog_4_method_17_code
def y_Y_countBlocking : MethodName := ⟨"PileLifts$Yard", "countBlocking", "()I"⟩
theorem q_Y_countBlocking : y_Y_countBlocking.cls ≠ "java/lang/invoke/MethodHandle" ∧ y_Y_countBlocking.cls ≠ "java/lang/invoke/VarHandle" ∧ (parseMethodDescriptor y_Y_countBlocking.desc).map (fun d => d.parameters.length) = some 0 := by decide +kernel
abbrev b_Y_countGone : ByteArray := prog_4_method_18_code
def y_Y_countGone : MethodName := ⟨"PileLifts$Yard", "countGone", "()I"⟩
theorem q_Y_countGone : y_Y_countGone.cls ≠ "java/lang/invoke/MethodHandle" ∧ y_Y_countGone.cls ≠ "java/lang/invoke/VarHandle" ∧ (parseMethodDescriptor y_Y_countGone.desc).map (fun d => d.parameters.length) = some 0 := by decide +kernel
abbrev b_Y_nextWanted : ByteArray := prog_4_method_19_code
def y_Y_nextWanted : MethodName := ⟨"PileLifts$Yard", "nextWanted", "()I"⟩
theorem q_Y_nextWanted : y_Y_nextWanted.cls ≠ "java/lang/invoke/MethodHandle" ∧ y_Y_nextWanted.cls ≠ "java/lang/invoke/VarHandle" ∧ (parseMethodDescriptor y_Y_nextWanted.desc).map (fun d => d.parameters.length) = some 0 := by decide +kernel
abbrev b_Y_isTop : ByteArray := prog_4_method_20_code
def y_Y_isTop : MethodName := ⟨"PileLifts$Yard", "isTop", "(I)Z"⟩
theorem q_Y_isTop : y_Y_isTop.cls ≠ "java/lang/invoke/MethodHandle" ∧ y_Y_isTop.cls ≠ "java/lang/invoke/VarHandle" ∧ (parseMethodDescriptor y_Y_isTop.desc).map (fun d => d.parameters.length) = some 1 := by decide +kernel
abbrev b_Y_tidyOnce : ByteArray := prog_4_method_21_code
def y_Y_tidyOnce : MethodName := ⟨"PileLifts$Yard", "tidyOnce", "()Z"⟩
theorem q_Y_tidyOnce : y_Y_tidyOnce.cls ≠ "java/lang/invoke/MethodHandle" ∧ y_Y_tidyOnce.cls ≠ "java/lang/invoke/VarHandle" ∧ (parseMethodDescriptor y_Y_tidyOnce.desc).map (fun d => d.parameters.length) = some 0 := by decide +kernel
abbrev b_Y_tidyPlaceFor : ByteArray := prog_4_method_22_code
def y_Y_tidyPlaceFor : MethodName := ⟨"PileLifts$Yard", "tidyPlaceFor", "(I)I"⟩
theorem q_Y_tidyPlaceFor : y_Y_tidyPlaceFor.cls ≠ "java/lang/invoke/MethodHandle" ∧ y_Y_tidyPlaceFor.cls ≠ "java/lang/invoke/VarHandle" ∧ (parseMethodDescriptor y_Y_tidyPlaceFor.desc).map (fun d => d.parameters.length) = some 1 := by decide +kernel
def wsC_0 : List Cond := [Cond.initialized "PileLifts", Cond.initialized "PileLifts$Yard", Cond.initialized "PileLifts$Search", Cond.initialized "PileLifts$Wagons", Cond.instantiable "PileLifts" 3, Cond.instanceMethod y_P_init, Cond.code y_P_init prog_1_method_1_code 1 none, Cond.methodLink "PileLifts" 1 ⟨"java/lang/Object", "<init>", "()V"⟩, Cond.classLink "PileLifts" 7 "PileLifts$Yard", Cond.instantiable "PileLifts$Yard" 10, Cond.instanceMethod y_Y_init, Cond.code y_Y_init prog_4_method_1_code 1 none, Cond.methodLink "PileLifts$Yard" 3 ⟨"java/lang/Object", "<init>", "()V"⟩, Cond.methodLink "PileLifts$Yard" 33 y_Y_clear, Cond.instanceMethod y_Y_clear, Cond.code y_Y_clear prog_4_method_2_code 4 none, Cond.fieldLink "PileLifts$Yard" 37 "PileLifts$Yard" "pileCount" "I", Cond.fieldLink "PileLifts$Yard" 41 "PileLifts$Yard" "levelCount" "I", Cond.fieldLink "PileLifts$Yard" 44 "PileLifts$Yard" "pieceCount" "I", Cond.fieldLink "PileLifts$Yard" 9 "PileLifts$Yard" "heights" "[I", Cond.fieldLink "PileLifts$Yard" 15 "PileLifts$Yard" "lying" "[I", Cond.fieldLink "PileLifts$Yard" 18 "PileLifts$Yard" "kilos" "[I", Cond.fieldLink "PileLifts$Yard" 21 "PileLifts$Yard" "lengths" "[I", Cond.fieldLink "PileLifts$Yard" 24 "PileLifts$Yard" "times" "[I", Cond.fieldLink "PileLifts$Yard" 27 "PileLifts$Yard" "pileOf" "[I", Cond.fieldLink "PileLifts$Yard" 30 "PileLifts$Yard" "levelOf" "[I", Cond.lays "PileLifts$Yard" "PileLifts$Yard" "pileCount" "I", Cond.lays "PileLifts$Yard" "PileLifts$Yard" "levelCount" "I", Cond.lays "PileLifts$Yard" "PileLifts$Yard" "pieceCount" "I", Cond.laysFinal "PileLifts$Yard" "PileLifts$Yard" "heights" "[I", Cond.laysFinal "PileLifts$Yard" "PileLifts$Yard" "lying" "[I", Cond.laysFinal "PileLifts$Yard" "PileLifts$Yard" "kilos" "[I", Cond.laysFinal "PileLifts$Yard" "PileLifts$Yard" "lengths" "[I", Cond.laysFinal "PileLifts$Yard" "PileLifts$Yard" "times" "[I", Cond.laysFinal "PileLifts$Yard" "PileLifts$Yard" "pileOf" "[I", Cond.laysFinal "PileLifts$Yard" "PileLifts$Yard" "levelOf" "[I", Cond.classLink "PileLifts" 16 "PileLifts$Search", Cond.instantiable "PileLifts$Search" 10, Cond.instanceMethod y_S_init, Cond.code y_S_init prog_2_method_1_code 1 none]
def wsC_1 : List Cond := [Cond.methodLink "PileLifts$Search" 3 ⟨"java/lang/Object", "<init>", "()V"⟩, Cond.fieldLink "PileLifts$Search" 21 "PileLifts$Search" "isDone" "Z", Cond.fieldLink "PileLifts$Search" 25 "PileLifts$Search" "isProved" "Z", Cond.fieldLink "PileLifts$Search" 28 "PileLifts$Search" "hasPlan" "Z", Cond.fieldLink "PileLifts$Search" 41 "PileLifts$Search" "isCutShort" "Z", Cond.fieldLink "PileLifts$Search" 38 "PileLifts$Search" "nodesLeft" "I", Cond.fieldLink "PileLifts$Search" 50 "PileLifts$Search" "limit" "I", Cond.fieldLink "PileLifts$Search" 31 "PileLifts$Search" "moveCount" "I", Cond.fieldLink "PileLifts$Search" 11 "PileLifts$Search" "movedPiece" "[I", Cond.fieldLink "PileLifts$Search" 15 "PileLifts$Search" "movedFrom" "[I", Cond.fieldLink "PileLifts$Search" 18 "PileLifts$Search" "movedTo" "[I", Cond.lays "PileLifts$Search" "PileLifts$Search" "isDone" "Z", Cond.lays "PileLifts$Search" "PileLifts$Search" "isProved" "Z", Cond.lays "PileLifts$Search" "PileLifts$Search" "hasPlan" "Z", Cond.lays "PileLifts$Search" "PileLifts$Search" "isCutShort" "Z", Cond.lays "PileLifts$Search" "PileLifts$Search" "nodesLeft" "I", Cond.lays "PileLifts$Search" "PileLifts$Search" "limit" "I", Cond.lays "PileLifts$Search" "PileLifts$Search" "moveCount" "I", Cond.laysFinal "PileLifts$Search" "PileLifts$Search" "movedPiece" "[I", Cond.laysFinal "PileLifts$Search" "PileLifts$Search" "movedFrom" "[I", Cond.laysFinal "PileLifts$Search" "PileLifts$Search" "movedTo" "[I", Cond.classLink "PileLifts" 23 "PileLifts$Wagons", Cond.instantiable "PileLifts$Wagons" 4, Cond.instanceMethod y_W_init, Cond.code y_W_init prog_3_method_1_code 1 none, Cond.methodLink "PileLifts$Wagons" 3 ⟨"java/lang/Object", "<init>", "()V"⟩, Cond.methodLink "PileLifts$Wagons" 21 y_W_clear, Cond.instanceMethod y_W_clear, Cond.code y_W_clear prog_3_method_2_code 2 none, Cond.fieldLink "PileLifts$Wagons" 24 "PileLifts$Wagons" "count" "I", Cond.fieldLink "PileLifts$Wagons" 9 "PileLifts$Wagons" "axles" "[I", Cond.fieldLink "PileLifts$Wagons" 15 "PileLifts$Wagons" "loads" "[I", Cond.fieldLink "PileLifts$Wagons" 18 "PileLifts$Wagons" "wagonOf" "[I", Cond.lays "PileLifts$Wagons" "PileLifts$Wagons" "count" "I", Cond.laysFinal "PileLifts$Wagons" "PileLifts$Wagons" "axles" "[I", Cond.laysFinal "PileLifts$Wagons" "PileLifts$Wagons" "loads" "[I", Cond.laysFinal "PileLifts$Wagons" "PileLifts$Wagons" "wagonOf" "[I", Cond.fieldLink "PileLifts" 10 "PileLifts" "yard" "LPileLifts$Yard;", Cond.fieldLink "PileLifts" 19 "PileLifts" "search" "LPileLifts$Search;", Cond.fieldLink "PileLifts" 26 "PileLifts" "wagons" "LPileLifts$Wagons;"]
def wsC_2 : List Cond := [Cond.laysFinal "PileLifts" "PileLifts" "yard" "LPileLifts$Yard;", Cond.laysFinal "PileLifts" "PileLifts" "search" "LPileLifts$Search;", Cond.laysFinal "PileLifts" "PileLifts" "wagons" "LPileLifts$Wagons;", Cond.instanceMethod y_P_bound, Cond.selects "PileLifts" y_P_bound y_P_bound, Cond.code y_P_bound prog_1_method_6_code 1 (some .int), Cond.instanceMethod y_Y_countBlocking, Cond.code y_Y_countBlocking prog_4_method_17_code 3 (some .int), Cond.methodLink "PileLifts$Yard" 76 y_Y_isBlocking, Cond.instanceMethod y_Y_isBlocking, Cond.code y_Y_isBlocking prog_4_method_16_code 2 (some .boolean), Cond.methodLink "PileLifts$Yard" 72 y_Y_isGone, Cond.instanceMethod y_Y_isGone, Cond.code y_Y_isGone prog_4_method_5_code 2 (some .boolean), Cond.methodLink "PileLifts$Yard" 69 y_Y_wouldBlock, Cond.instanceMethod y_Y_wouldBlock, Cond.code y_Y_wouldBlock prog_4_method_14_code 6 (some .boolean), Cond.methodLink "PileLifts$Yard" 66 y_Y_turnOf, Cond.instanceMethod y_Y_turnOf, Cond.code y_Y_turnOf prog_4_method_13_code 2 (some .int), Cond.methodLink "PileLifts$Yard" 51 y_Y_pieceAt, Cond.instanceMethod y_Y_pieceAt, Cond.code y_Y_pieceAt prog_4_method_6_code 3 (some .int), Cond.instanceMethod y_P_piles, Cond.selects "PileLifts" y_P_piles y_P_piles, Cond.code y_P_piles prog_1_method_2_code 3 none, Cond.methodLink "PileLifts" 30 y_P_isWithin, Cond.static y_P_isWithin, Cond.code y_P_isWithin prog_1_method_18_code 3 (some .boolean), Cond.classLink "PileLifts" 34 "java/lang/IllegalArgumentException", Cond.methodLink "PileLifts" 38 ⟨"java/lang/IllegalArgumentException", "<init>", "(Ljava/lang/String;)V"⟩, Cond.instanceMethod y_S_forget, Cond.code y_S_forget prog_2_method_2_code 1 none, Cond.instanceMethod y_P_put, Cond.selects "PileLifts" y_P_put y_P_put, Cond.code y_P_put prog_1_method_3_code 4 (some .int), Cond.instanceMethod y_Y_hasPile, Cond.code y_Y_hasPile prog_4_method_3_code 2 (some .boolean), Cond.classLink "PileLifts" 54 "java/lang/IndexOutOfBoundsException", Cond.methodLink "PileLifts" 58 ⟨"java/lang/IndexOutOfBoundsException", "<init>", "(Ljava/lang/String;)V"⟩]
def wsC_3 : List Cond := [Cond.instanceMethod y_Y_takes, Cond.code y_Y_takes prog_4_method_8_code 4 (some .boolean), Cond.methodLink "PileLifts$Yard" 55 y_Y_topOf, Cond.instanceMethod y_Y_topOf, Cond.code y_Y_topOf prog_4_method_7_code 2 (some .int), Cond.classLink "PileLifts" 69 "java/lang/UnsupportedOperationException", Cond.methodLink "PileLifts" 73 ⟨"java/lang/UnsupportedOperationException", "<init>", "(Ljava/lang/String;)V"⟩, Cond.instanceMethod y_Y_add, Cond.code y_Y_add prog_4_method_9_code 5 (some .int), Cond.methodLink "PileLifts$Yard" 59 y_Y_layOn, Cond.instanceMethod y_Y_layOn, Cond.code y_Y_layOn prog_4_method_10_code 4 none, Cond.instanceMethod y_P_want, Cond.selects "PileLifts" y_P_want y_P_want, Cond.code y_P_want prog_1_method_4_code 3 none, Cond.methodLink "PileLifts" 78 y_P_checkPiece, Cond.instanceMethod y_P_checkPiece, Cond.code y_P_checkPiece prog_1_method_16_code 2 none, Cond.instanceMethod y_Y_hasPiece, Cond.code y_Y_hasPiece prog_4_method_4_code 2 (some .boolean), Cond.classLink "PileLifts" 85 "java/lang/IllegalStateException", Cond.methodLink "PileLifts" 89 ⟨"java/lang/IllegalStateException", "<init>", "(Ljava/lang/String;)V"⟩, Cond.instanceMethod y_P_may, Cond.selects "PileLifts" y_P_may y_P_may, Cond.code y_P_may prog_1_method_5_code 3 (some .boolean), Cond.instanceMethod y_P_run, Cond.selects "PileLifts" y_P_run y_P_run, Cond.code y_P_run prog_1_method_7_code 2 (some .int), Cond.constant "PileLifts" 103 (100000 : Int32), Cond.instanceMethod y_S_findBest, Cond.code y_S_findBest prog_2_method_3_code 6 (some .int), Cond.methodLink "PileLifts$Search" 35 y_S_forget, Cond.methodLink "PileLifts$Search" 53 y_S_goOn, Cond.instanceMethod y_S_goOn, Cond.code y_S_goOn prog_2_method_4_code 5 (some .boolean), Cond.methodLink "PileLifts$Search" 64 y_S_letLeave, Cond.instanceMethod y_S_letLeave, Cond.code y_S_letLeave prog_2_method_7_code 4 none, Cond.instanceMethod y_Y_nextWanted, Cond.code y_Y_nextWanted prog_4_method_19_code 4 (some .int)]
def wsC_4 : List Cond := [Cond.instanceMethod y_Y_isTop, Cond.code y_Y_isTop prog_4_method_20_code 2 (some .boolean), Cond.methodLink "PileLifts$Search" 103 y_S_note, Cond.instanceMethod y_S_note, Cond.code y_S_note prog_2_method_8_code 4 none, Cond.instanceMethod y_Y_takeOff, Cond.code y_Y_takeOff prog_4_method_11_code 3 none, Cond.methodLink "PileLifts$Search" 74 y_S_tryFrom, Cond.instanceMethod y_S_tryFrom, Cond.code y_S_tryFrom prog_2_method_5_code 9 (some .boolean), Cond.instanceMethod y_Y_wouldBlockOn, Cond.code y_Y_wouldBlockOn prog_4_method_15_code 3 (some .boolean), Cond.methodLink "PileLifts$Search" 96 y_S_tryOne, Cond.instanceMethod y_S_tryOne, Cond.code y_S_tryOne prog_2_method_6_code 7 (some .boolean), Cond.instanceMethod y_Y_relift, Cond.code y_Y_relift prog_4_method_12_code 3 none, Cond.methodLink "PileLifts$Yard" 62 y_Y_takeOff, Cond.methodLink "PileLifts$Search" 57 y_S_takeBack, Cond.instanceMethod y_S_takeBack, Cond.code y_S_takeBack prog_2_method_9_code 3 none, Cond.methodLink "PileLifts$Search" 61 y_S_countRelifts, Cond.instanceMethod y_S_countRelifts, Cond.code y_S_countRelifts prog_2_method_11_code 3 (some .int), Cond.instanceMethod y_P_proved, Cond.selects "PileLifts" y_P_proved y_P_proved, Cond.code y_P_proved prog_1_method_8_code 1 (some .boolean), Cond.instanceMethod y_P_moves, Cond.selects "PileLifts" y_P_moves y_P_moves, Cond.code y_P_moves prog_1_method_9_code 1 (some .int), Cond.methodLink "PileLifts" 119 y_P_checkPlan, Cond.instanceMethod y_P_checkPlan, Cond.code y_P_checkPlan prog_1_method_17_code 1 none, Cond.instanceMethod y_P_move, Cond.selects "PileLifts" y_P_move y_P_move, Cond.code y_P_move prog_1_method_10_code 3 (some .int), Cond.instanceMethod y_P_replay, Cond.selects "PileLifts" y_P_replay y_P_replay, Cond.code y_P_replay prog_1_method_11_code 2 (some .int), Cond.instanceMethod y_S_doMoves]
def wsC_5 : List Cond := [Cond.code y_S_doMoves prog_2_method_10_code 4 none, Cond.instanceMethod y_Y_countGone, Cond.code y_Y_countGone prog_4_method_18_code 3 (some .int), Cond.instanceMethod y_P_at, Cond.selects "PileLifts" y_P_at y_P_at, Cond.code y_P_at prog_1_method_12_code 3 (some .int), Cond.instanceMethod y_P_tidy, Cond.selects "PileLifts" y_P_tidy y_P_tidy, Cond.code y_P_tidy prog_1_method_13_code 3 (some .int), Cond.instanceMethod y_Y_tidyOnce, Cond.code y_Y_tidyOnce prog_4_method_21_code 4 (some .boolean), Cond.methodLink "PileLifts$Yard" 79 y_Y_tidyPlaceFor, Cond.instanceMethod y_Y_tidyPlaceFor, Cond.code y_Y_tidyPlaceFor prog_4_method_22_code 3 (some .int), Cond.methodLink "PileLifts$Yard" 85 y_Y_takes, Cond.methodLink "PileLifts$Yard" 89 y_Y_wouldBlockOn, Cond.methodLink "PileLifts$Yard" 82 y_Y_relift, Cond.instanceMethod y_P_wagon, Cond.selects "PileLifts" y_P_wagon y_P_wagon, Cond.code y_P_wagon prog_1_method_14_code 2 (some .int), Cond.instanceMethod y_W_add, Cond.code y_W_add prog_3_method_3_code 3 (some .int), Cond.instanceMethod y_P_load, Cond.selects "PileLifts" y_P_load y_P_load, Cond.code y_P_load prog_1_method_15_code 3 (some .int), Cond.instanceMethod y_W_firstWithRoom, Cond.code y_W_firstWithRoom prog_3_method_4_code 3 (some .int), Cond.instanceMethod y_W_fill, Cond.code y_W_fill prog_3_method_5_code 4 none, Cond.selects "PileLifts$Yard" y_Y_clear y_Y_clear, Cond.selects "PileLifts$Wagons" y_W_clear y_W_clear, Cond.selects "PileLifts$Yard" y_Y_countBlocking y_Y_countBlocking, Cond.selects "PileLifts$Yard" y_Y_isBlocking y_Y_isBlocking, Cond.selects "PileLifts$Yard" y_Y_isGone y_Y_isGone, Cond.selects "PileLifts$Yard" y_Y_wouldBlock y_Y_wouldBlock, Cond.selects "PileLifts$Yard" y_Y_turnOf y_Y_turnOf, Cond.selects "PileLifts$Yard" y_Y_pieceAt y_Y_pieceAt, Cond.selects "PileLifts$Search" y_S_forget y_S_forget, Cond.selects "PileLifts$Yard" y_Y_hasPile y_Y_hasPile, Cond.selects "PileLifts$Yard" y_Y_takes y_Y_takes]
def wsC_6 : List Cond := [Cond.selects "PileLifts$Yard" y_Y_topOf y_Y_topOf, Cond.selects "PileLifts$Yard" y_Y_add y_Y_add, Cond.selects "PileLifts$Yard" y_Y_layOn y_Y_layOn, Cond.selects "PileLifts" y_P_checkPiece y_P_checkPiece, Cond.selects "PileLifts$Yard" y_Y_hasPiece y_Y_hasPiece, Cond.selects "PileLifts$Search" y_S_findBest y_S_findBest, Cond.selects "PileLifts$Search" y_S_goOn y_S_goOn, Cond.selects "PileLifts$Search" y_S_letLeave y_S_letLeave, Cond.selects "PileLifts$Yard" y_Y_nextWanted y_Y_nextWanted, Cond.selects "PileLifts$Yard" y_Y_isTop y_Y_isTop, Cond.selects "PileLifts$Search" y_S_note y_S_note, Cond.selects "PileLifts$Yard" y_Y_takeOff y_Y_takeOff, Cond.selects "PileLifts$Search" y_S_tryFrom y_S_tryFrom, Cond.selects "PileLifts$Yard" y_Y_wouldBlockOn y_Y_wouldBlockOn, Cond.selects "PileLifts$Search" y_S_tryOne y_S_tryOne, Cond.selects "PileLifts$Yard" y_Y_relift y_Y_relift, Cond.selects "PileLifts$Search" y_S_takeBack y_S_takeBack, Cond.selects "PileLifts$Search" y_S_countRelifts y_S_countRelifts, Cond.selects "PileLifts" y_P_checkPlan y_P_checkPlan, Cond.selects "PileLifts$Search" y_S_doMoves y_S_doMoves, Cond.selects "PileLifts$Yard" y_Y_countGone y_Y_countGone, Cond.selects "PileLifts$Yard" y_Y_tidyOnce y_Y_tidyOnce, Cond.selects "PileLifts$Yard" y_Y_tidyPlaceFor y_Y_tidyPlaceFor, Cond.selects "PileLifts$Wagons" y_W_add y_W_add, Cond.selects "PileLifts$Wagons" y_W_firstWithRoom y_W_firstWithRoom, Cond.selects "PileLifts$Wagons" y_W_fill y_W_fill, Cond.instanceMethod objectInit, Cond.code objectInit ⟨#[0xb1]⟩ 1 none, Cond.arrayClass .int]
def wsC : List Cond := wsC_0 ++ (wsC_1 ++ (wsC_2 ++ (wsC_3 ++ (wsC_4 ++ (wsC_5 ++ (wsC_6))))))
theorem mC_0 : Cond.initialized "PileLifts" ∈ wsC := List.mem_append_left _ (List.mem_of_getElem? (i := 0) rfl)
theorem mC_1 : Cond.initialized "PileLifts$Yard" ∈ wsC := List.mem_append_left _ (List.mem_of_getElem? (i := 1) rfl)
theorem mC_2 : Cond.initialized "PileLifts$Search" ∈ wsC := List.mem_append_left _ (List.mem_of_getElem? (i := 2) rfl)
theorem mC_3 : Cond.initialized "PileLifts$Wagons" ∈ wsC := List.mem_append_left _ (List.mem_of_getElem? (i := 3) rfl)
theorem mC_4 : Cond.instantiable "PileLifts" 3 ∈ wsC := List.mem_append_left _ (List.mem_of_getElem? (i := 4) rfl)
theorem mC_5 : Cond.instanceMethod y_P_init ∈ wsC := List.mem_append_left _ (List.mem_of_getElem? (i := 5) rfl)
theorem mC_6 : Cond.code y_P_init prog_1_method_1_code 1 none ∈ wsC := List.mem_append_left _ (List.mem_of_getElem? (i := 6) rfl)
theorem mC_7 : Cond.methodLink "PileLifts" 1 ⟨"java/lang/Object", "<init>", "()V"⟩ ∈ wsC := List.mem_append_left _ (List.mem_of_getElem? (i := 7) rfl)
theorem mC_8 : Cond.classLink "PileLifts" 7 "PileLifts$Yard" ∈ wsC := List.mem_append_left _ (List.mem_of_getElem? (i := 8) rfl)
theorem mC_9 : Cond.instantiable "PileLifts$Yard" 10 ∈ wsC := List.mem_append_left _ (List.mem_of_getElem? (i := 9) rfl)
theorem mC_10 : Cond.instanceMethod y_Y_init ∈ wsC := List.mem_append_left _ (List.mem_of_getElem? (i := 10) rfl)
theorem mC_11 : Cond.code y_Y_init prog_4_method_1_code 1 none ∈ wsC := List.mem_append_left _ (List.mem_of_getElem? (i := 11) rfl)
theorem mC_12 : Cond.methodLink "PileLifts$Yard" 3 ⟨"java/lang/Object", "<init>", "()V"⟩ ∈ wsC := List.mem_append_left _ (List.mem_of_getElem? (i := 12) rfl)
theorem mC_13 : Cond.methodLink "PileLifts$Yard" 33 y_Y_clear ∈ wsC := List.mem_append_left _ (List.mem_of_getElem? (i := 13) rfl)
theorem mC_14 : Cond.instanceMethod y_Y_clear ∈ wsC := List.mem_append_left _ (List.mem_of_getElem? (i := 14) rfl)
theorem mC_15 : Cond.code y_Y_clear prog_4_method_2_code 4 none ∈ wsC := List.mem_append_left _ (List.mem_of_getElem? (i := 15) rfl)
theorem mC_16 : Cond.fieldLink "PileLifts$Yard" 37 "PileLifts$Yard" "pileCount" "I" ∈ wsC := List.mem_append_left _ (List.mem_of_getElem? (i := 16) rfl)
theorem mC_17 : Cond.fieldLink "PileLifts$Yard" 41 "PileLifts$Yard" "levelCount" "I" ∈ wsC := List.mem_append_left _ (List.mem_of_getElem? (i := 17) rfl)
theorem mC_18 : Cond.fieldLink "PileLifts$Yard" 44 "PileLifts$Yard" "pieceCount" "I" ∈ wsC := List.mem_append_left _ (List.mem_of_getElem? (i := 18) rfl)
theorem mC_19 : Cond.fieldLink "PileLifts$Yard" 9 "PileLifts$Yard" "heights" "[I" ∈ wsC := List.mem_append_left _ (List.mem_of_getElem? (i := 19) rfl)
theorem mC_20 : Cond.fieldLink "PileLifts$Yard" 15 "PileLifts$Yard" "lying" "[I" ∈ wsC := List.mem_append_left _ (List.mem_of_getElem? (i := 20) rfl)
theorem mC_21 : Cond.fieldLink "PileLifts$Yard" 18 "PileLifts$Yard" "kilos" "[I" ∈ wsC := List.mem_append_left _ (List.mem_of_getElem? (i := 21) rfl)
theorem mC_22 : Cond.fieldLink "PileLifts$Yard" 21 "PileLifts$Yard" "lengths" "[I" ∈ wsC := List.mem_append_left _ (List.mem_of_getElem? (i := 22) rfl)
theorem mC_23 : Cond.fieldLink "PileLifts$Yard" 24 "PileLifts$Yard" "times" "[I" ∈ wsC := List.mem_append_left _ (List.mem_of_getElem? (i := 23) rfl)
theorem mC_24 : Cond.fieldLink "PileLifts$Yard" 27 "PileLifts$Yard" "pileOf" "[I" ∈ wsC := List.mem_append_left _ (List.mem_of_getElem? (i := 24) rfl)
theorem mC_25 : Cond.fieldLink "PileLifts$Yard" 30 "PileLifts$Yard" "levelOf" "[I" ∈ wsC := List.mem_append_left _ (List.mem_of_getElem? (i := 25) rfl)
theorem mC_26 : Cond.lays "PileLifts$Yard" "PileLifts$Yard" "pileCount" "I" ∈ wsC := List.mem_append_left _ (List.mem_of_getElem? (i := 26) rfl)
theorem mC_27 : Cond.lays "PileLifts$Yard" "PileLifts$Yard" "levelCount" "I" ∈ wsC := List.mem_append_left _ (List.mem_of_getElem? (i := 27) rfl)
theorem mC_28 : Cond.lays "PileLifts$Yard" "PileLifts$Yard" "pieceCount" "I" ∈ wsC := List.mem_append_left _ (List.mem_of_getElem? (i := 28) rfl)
theorem mC_29 : Cond.laysFinal "PileLifts$Yard" "PileLifts$Yard" "heights" "[I" ∈ wsC := List.mem_append_left _ (List.mem_of_getElem? (i := 29) rfl)
theorem mC_30 : Cond.laysFinal "PileLifts$Yard" "PileLifts$Yard" "lying" "[I" ∈ wsC := List.mem_append_left _ (List.mem_of_getElem? (i := 30) rfl)
theorem mC_31 : Cond.laysFinal "PileLifts$Yard" "PileLifts$Yard" "kilos" "[I" ∈ wsC := List.mem_append_left _ (List.mem_of_getElem? (i := 31) rfl)
theorem mC_32 : Cond.laysFinal "PileLifts$Yard" "PileLifts$Yard" "lengths" "[I" ∈ wsC := List.mem_append_left _ (List.mem_of_getElem? (i := 32) rfl)
theorem mC_33 : Cond.laysFinal "PileLifts$Yard" "PileLifts$Yard" "times" "[I" ∈ wsC := List.mem_append_left _ (List.mem_of_getElem? (i := 33) rfl)
theorem mC_34 : Cond.laysFinal "PileLifts$Yard" "PileLifts$Yard" "pileOf" "[I" ∈ wsC := List.mem_append_left _ (List.mem_of_getElem? (i := 34) rfl)
theorem mC_35 : Cond.laysFinal "PileLifts$Yard" "PileLifts$Yard" "levelOf" "[I" ∈ wsC := List.mem_append_left _ (List.mem_of_getElem? (i := 35) rfl)
theorem mC_36 : Cond.classLink "PileLifts" 16 "PileLifts$Search" ∈ wsC := List.mem_append_left _ (List.mem_of_getElem? (i := 36) rfl)
theorem mC_37 : Cond.instantiable "PileLifts$Search" 10 ∈ wsC := List.mem_append_left _ (List.mem_of_getElem? (i := 37) rfl)
theorem mC_38 : Cond.instanceMethod y_S_init ∈ wsC := List.mem_append_left _ (List.mem_of_getElem? (i := 38) rfl)
theorem mC_39 : Cond.code y_S_init prog_2_method_1_code 1 none ∈ wsC := List.mem_append_left _ (List.mem_of_getElem? (i := 39) rfl)
theorem mC_40 : Cond.methodLink "PileLifts$Search" 3 ⟨"java/lang/Object", "<init>", "()V"⟩ ∈ wsC := List.mem_append_right _ (List.mem_append_left _ (List.mem_of_getElem? (i := 0) rfl))
theorem mC_41 : Cond.fieldLink "PileLifts$Search" 21 "PileLifts$Search" "isDone" "Z" ∈ wsC := List.mem_append_right _ (List.mem_append_left _ (List.mem_of_getElem? (i := 1) rfl))
theorem mC_42 : Cond.fieldLink "PileLifts$Search" 25 "PileLifts$Search" "isProved" "Z" ∈ wsC := List.mem_append_right _ (List.mem_append_left _ (List.mem_of_getElem? (i := 2) rfl))
theorem mC_43 : Cond.fieldLink "PileLifts$Search" 28 "PileLifts$Search" "hasPlan" "Z" ∈ wsC := List.mem_append_right _ (List.mem_append_left _ (List.mem_of_getElem? (i := 3) rfl))
theorem mC_44 : Cond.fieldLink "PileLifts$Search" 41 "PileLifts$Search" "isCutShort" "Z" ∈ wsC := List.mem_append_right _ (List.mem_append_left _ (List.mem_of_getElem? (i := 4) rfl))
theorem mC_45 : Cond.fieldLink "PileLifts$Search" 38 "PileLifts$Search" "nodesLeft" "I" ∈ wsC := List.mem_append_right _ (List.mem_append_left _ (List.mem_of_getElem? (i := 5) rfl))
theorem mC_46 : Cond.fieldLink "PileLifts$Search" 50 "PileLifts$Search" "limit" "I" ∈ wsC := List.mem_append_right _ (List.mem_append_left _ (List.mem_of_getElem? (i := 6) rfl))
theorem mC_47 : Cond.fieldLink "PileLifts$Search" 31 "PileLifts$Search" "moveCount" "I" ∈ wsC := List.mem_append_right _ (List.mem_append_left _ (List.mem_of_getElem? (i := 7) rfl))
theorem mC_48 : Cond.fieldLink "PileLifts$Search" 11 "PileLifts$Search" "movedPiece" "[I" ∈ wsC := List.mem_append_right _ (List.mem_append_left _ (List.mem_of_getElem? (i := 8) rfl))
theorem mC_49 : Cond.fieldLink "PileLifts$Search" 15 "PileLifts$Search" "movedFrom" "[I" ∈ wsC := List.mem_append_right _ (List.mem_append_left _ (List.mem_of_getElem? (i := 9) rfl))
theorem mC_50 : Cond.fieldLink "PileLifts$Search" 18 "PileLifts$Search" "movedTo" "[I" ∈ wsC := List.mem_append_right _ (List.mem_append_left _ (List.mem_of_getElem? (i := 10) rfl))
theorem mC_51 : Cond.lays "PileLifts$Search" "PileLifts$Search" "isDone" "Z" ∈ wsC := List.mem_append_right _ (List.mem_append_left _ (List.mem_of_getElem? (i := 11) rfl))
theorem mC_52 : Cond.lays "PileLifts$Search" "PileLifts$Search" "isProved" "Z" ∈ wsC := List.mem_append_right _ (List.mem_append_left _ (List.mem_of_getElem? (i := 12) rfl))
theorem mC_53 : Cond.lays "PileLifts$Search" "PileLifts$Search" "hasPlan" "Z" ∈ wsC := List.mem_append_right _ (List.mem_append_left _ (List.mem_of_getElem? (i := 13) rfl))
theorem mC_54 : Cond.lays "PileLifts$Search" "PileLifts$Search" "isCutShort" "Z" ∈ wsC := List.mem_append_right _ (List.mem_append_left _ (List.mem_of_getElem? (i := 14) rfl))
theorem mC_55 : Cond.lays "PileLifts$Search" "PileLifts$Search" "nodesLeft" "I" ∈ wsC := List.mem_append_right _ (List.mem_append_left _ (List.mem_of_getElem? (i := 15) rfl))
theorem mC_56 : Cond.lays "PileLifts$Search" "PileLifts$Search" "limit" "I" ∈ wsC := List.mem_append_right _ (List.mem_append_left _ (List.mem_of_getElem? (i := 16) rfl))
theorem mC_57 : Cond.lays "PileLifts$Search" "PileLifts$Search" "moveCount" "I" ∈ wsC := List.mem_append_right _ (List.mem_append_left _ (List.mem_of_getElem? (i := 17) rfl))
theorem mC_58 : Cond.laysFinal "PileLifts$Search" "PileLifts$Search" "movedPiece" "[I" ∈ wsC := List.mem_append_right _ (List.mem_append_left _ (List.mem_of_getElem? (i := 18) rfl))
theorem mC_59 : Cond.laysFinal "PileLifts$Search" "PileLifts$Search" "movedFrom" "[I" ∈ wsC := List.mem_append_right _ (List.mem_append_left _ (List.mem_of_getElem? (i := 19) rfl))
theorem mC_60 : Cond.laysFinal "PileLifts$Search" "PileLifts$Search" "movedTo" "[I" ∈ wsC := List.mem_append_right _ (List.mem_append_left _ (List.mem_of_getElem? (i := 20) rfl))
theorem mC_61 : Cond.classLink "PileLifts" 23 "PileLifts$Wagons" ∈ wsC := List.mem_append_right _ (List.mem_append_left _ (List.mem_of_getElem? (i := 21) rfl))
theorem mC_62 : Cond.instantiable "PileLifts$Wagons" 4 ∈ wsC := List.mem_append_right _ (List.mem_append_left _ (List.mem_of_getElem? (i := 22) rfl))
theorem mC_63 : Cond.instanceMethod y_W_init ∈ wsC := List.mem_append_right _ (List.mem_append_left _ (List.mem_of_getElem? (i := 23) rfl))
theorem mC_64 : Cond.code y_W_init prog_3_method_1_code 1 none ∈ wsC := List.mem_append_right _ (List.mem_append_left _ (List.mem_of_getElem? (i := 24) rfl))
theorem mC_65 : Cond.methodLink "PileLifts$Wagons" 3 ⟨"java/lang/Object", "<init>", "()V"⟩ ∈ wsC := List.mem_append_right _ (List.mem_append_left _ (List.mem_of_getElem? (i := 25) rfl))
theorem mC_66 : Cond.methodLink "PileLifts$Wagons" 21 y_W_clear ∈ wsC := List.mem_append_right _ (List.mem_append_left _ (List.mem_of_getElem? (i := 26) rfl))
theorem mC_67 : Cond.instanceMethod y_W_clear ∈ wsC := List.mem_append_right _ (List.mem_append_left _ (List.mem_of_getElem? (i := 27) rfl))
theorem mC_68 : Cond.code y_W_clear prog_3_method_2_code 2 none ∈ wsC := List.mem_append_right _ (List.mem_append_left _ (List.mem_of_getElem? (i := 28) rfl))
theorem mC_69 : Cond.fieldLink "PileLifts$Wagons" 24 "PileLifts$Wagons" "count" "I" ∈ wsC := List.mem_append_right _ (List.mem_append_left _ (List.mem_of_getElem? (i := 29) rfl))
theorem mC_70 : Cond.fieldLink "PileLifts$Wagons" 9 "PileLifts$Wagons" "axles" "[I" ∈ wsC := List.mem_append_right _ (List.mem_append_left _ (List.mem_of_getElem? (i := 30) rfl))
theorem mC_71 : Cond.fieldLink "PileLifts$Wagons" 15 "PileLifts$Wagons" "loads" "[I" ∈ wsC := List.mem_append_right _ (List.mem_append_left _ (List.mem_of_getElem? (i := 31) rfl))
theorem mC_72 : Cond.fieldLink "PileLifts$Wagons" 18 "PileLifts$Wagons" "wagonOf" "[I" ∈ wsC := List.mem_append_right _ (List.mem_append_left _ (List.mem_of_getElem? (i := 32) rfl))
theorem mC_73 : Cond.lays "PileLifts$Wagons" "PileLifts$Wagons" "count" "I" ∈ wsC := List.mem_append_right _ (List.mem_append_left _ (List.mem_of_getElem? (i := 33) rfl))
theorem mC_74 : Cond.laysFinal "PileLifts$Wagons" "PileLifts$Wagons" "axles" "[I" ∈ wsC := List.mem_append_right _ (List.mem_append_left _ (List.mem_of_getElem? (i := 34) rfl))
theorem mC_75 : Cond.laysFinal "PileLifts$Wagons" "PileLifts$Wagons" "loads" "[I" ∈ wsC := List.mem_append_right _ (List.mem_append_left _ (List.mem_of_getElem? (i := 35) rfl))
theorem mC_76 : Cond.laysFinal "PileLifts$Wagons" "PileLifts$Wagons" "wagonOf" "[I" ∈ wsC := List.mem_append_right _ (List.mem_append_left _ (List.mem_of_getElem? (i := 36) rfl))
theorem mC_77 : Cond.fieldLink "PileLifts" 10 "PileLifts" "yard" "LPileLifts$Yard;" ∈ wsC := List.mem_append_right _ (List.mem_append_left _ (List.mem_of_getElem? (i := 37) rfl))
theorem mC_78 : Cond.fieldLink "PileLifts" 19 "PileLifts" "search" "LPileLifts$Search;" ∈ wsC := List.mem_append_right _ (List.mem_append_left _ (List.mem_of_getElem? (i := 38) rfl))
theorem mC_79 : Cond.fieldLink "PileLifts" 26 "PileLifts" "wagons" "LPileLifts$Wagons;" ∈ wsC := List.mem_append_right _ (List.mem_append_left _ (List.mem_of_getElem? (i := 39) rfl))
theorem mC_80 : Cond.laysFinal "PileLifts" "PileLifts" "yard" "LPileLifts$Yard;" ∈ wsC := List.mem_append_right _ (List.mem_append_right _ (List.mem_append_left _ (List.mem_of_getElem? (i := 0) rfl)))
theorem mC_81 : Cond.laysFinal "PileLifts" "PileLifts" "search" "LPileLifts$Search;" ∈ wsC := List.mem_append_right _ (List.mem_append_right _ (List.mem_append_left _ (List.mem_of_getElem? (i := 1) rfl)))
theorem mC_82 : Cond.laysFinal "PileLifts" "PileLifts" "wagons" "LPileLifts$Wagons;" ∈ wsC := List.mem_append_right _ (List.mem_append_right _ (List.mem_append_left _ (List.mem_of_getElem? (i := 2) rfl)))
theorem mC_83 : Cond.instanceMethod y_P_bound ∈ wsC := List.mem_append_right _ (List.mem_append_right _ (List.mem_append_left _ (List.mem_of_getElem? (i := 3) rfl)))
theorem mC_84 : Cond.selects "PileLifts" y_P_bound y_P_bound ∈ wsC := List.mem_append_right _ (List.mem_append_right _ (List.mem_append_left _ (List.mem_of_getElem? (i := 4) rfl)))
theorem mC_85 : Cond.code y_P_bound prog_1_method_6_code 1 (some .int) ∈ wsC := List.mem_append_right _ (List.mem_append_right _ (List.mem_append_left _ (List.mem_of_getElem? (i := 5) rfl)))
theorem mC_86 : Cond.instanceMethod y_Y_countBlocking ∈ wsC := List.mem_append_right _ (List.mem_append_right _ (List.mem_append_left _ (List.mem_of_getElem? (i := 6) rfl)))
theorem mC_87 : Cond.code y_Y_countBlocking prog_4_method_17_code 3 (some .int) ∈ wsC := List.mem_append_right _ (List.mem_append_right _ (List.mem_append_left _ (List.mem_of_getElem? (i := 7) rfl)))
theorem mC_88 : Cond.methodLink "PileLifts$Yard" 76 y_Y_isBlocking ∈ wsC := List.mem_append_right _ (List.mem_append_right _ (List.mem_append_left _ (List.mem_of_getElem? (i := 8) rfl)))
theorem mC_89 : Cond.instanceMethod y_Y_isBlocking ∈ wsC := List.mem_append_right _ (List.mem_append_right _ (List.mem_append_left _ (List.mem_of_getElem? (i := 9) rfl)))
theorem mC_90 : Cond.code y_Y_isBlocking prog_4_method_16_code 2 (some .boolean) ∈ wsC := List.mem_append_right _ (List.mem_append_right _ (List.mem_append_left _ (List.mem_of_getElem? (i := 10) rfl)))
theorem mC_91 : Cond.methodLink "PileLifts$Yard" 72 y_Y_isGone ∈ wsC := List.mem_append_right _ (List.mem_append_right _ (List.mem_append_left _ (List.mem_of_getElem? (i := 11) rfl)))
theorem mC_92 : Cond.instanceMethod y_Y_isGone ∈ wsC := List.mem_append_right _ (List.mem_append_right _ (List.mem_append_left _ (List.mem_of_getElem? (i := 12) rfl)))
theorem mC_93 : Cond.code y_Y_isGone prog_4_method_5_code 2 (some .boolean) ∈ wsC := List.mem_append_right _ (List.mem_append_right _ (List.mem_append_left _ (List.mem_of_getElem? (i := 13) rfl)))
theorem mC_94 : Cond.methodLink "PileLifts$Yard" 69 y_Y_wouldBlock ∈ wsC := List.mem_append_right _ (List.mem_append_right _ (List.mem_append_left _ (List.mem_of_getElem? (i := 14) rfl)))
theorem mC_95 : Cond.instanceMethod y_Y_wouldBlock ∈ wsC := List.mem_append_right _ (List.mem_append_right _ (List.mem_append_left _ (List.mem_of_getElem? (i := 15) rfl)))
theorem mC_96 : Cond.code y_Y_wouldBlock prog_4_method_14_code 6 (some .boolean) ∈ wsC := List.mem_append_right _ (List.mem_append_right _ (List.mem_append_left _ (List.mem_of_getElem? (i := 16) rfl)))
theorem mC_97 : Cond.methodLink "PileLifts$Yard" 66 y_Y_turnOf ∈ wsC := List.mem_append_right _ (List.mem_append_right _ (List.mem_append_left _ (List.mem_of_getElem? (i := 17) rfl)))
theorem mC_98 : Cond.instanceMethod y_Y_turnOf ∈ wsC := List.mem_append_right _ (List.mem_append_right _ (List.mem_append_left _ (List.mem_of_getElem? (i := 18) rfl)))
theorem mC_99 : Cond.code y_Y_turnOf prog_4_method_13_code 2 (some .int) ∈ wsC := List.mem_append_right _ (List.mem_append_right _ (List.mem_append_left _ (List.mem_of_getElem? (i := 19) rfl)))
theorem mC_100 : Cond.methodLink "PileLifts$Yard" 51 y_Y_pieceAt ∈ wsC := List.mem_append_right _ (List.mem_append_right _ (List.mem_append_left _ (List.mem_of_getElem? (i := 20) rfl)))
theorem mC_101 : Cond.instanceMethod y_Y_pieceAt ∈ wsC := List.mem_append_right _ (List.mem_append_right _ (List.mem_append_left _ (List.mem_of_getElem? (i := 21) rfl)))
theorem mC_102 : Cond.code y_Y_pieceAt prog_4_method_6_code 3 (some .int) ∈ wsC := List.mem_append_right _ (List.mem_append_right _ (List.mem_append_left _ (List.mem_of_getElem? (i := 22) rfl)))
theorem mC_103 : Cond.instanceMethod y_P_piles ∈ wsC := List.mem_append_right _ (List.mem_append_right _ (List.mem_append_left _ (List.mem_of_getElem? (i := 23) rfl)))
theorem mC_104 : Cond.selects "PileLifts" y_P_piles y_P_piles ∈ wsC := List.mem_append_right _ (List.mem_append_right _ (List.mem_append_left _ (List.mem_of_getElem? (i := 24) rfl)))
theorem mC_105 : Cond.code y_P_piles prog_1_method_2_code 3 none ∈ wsC := List.mem_append_right _ (List.mem_append_right _ (List.mem_append_left _ (List.mem_of_getElem? (i := 25) rfl)))
theorem mC_106 : Cond.methodLink "PileLifts" 30 y_P_isWithin ∈ wsC := List.mem_append_right _ (List.mem_append_right _ (List.mem_append_left _ (List.mem_of_getElem? (i := 26) rfl)))
theorem mC_107 : Cond.static y_P_isWithin ∈ wsC := List.mem_append_right _ (List.mem_append_right _ (List.mem_append_left _ (List.mem_of_getElem? (i := 27) rfl)))
theorem mC_108 : Cond.code y_P_isWithin prog_1_method_18_code 3 (some .boolean) ∈ wsC := List.mem_append_right _ (List.mem_append_right _ (List.mem_append_left _ (List.mem_of_getElem? (i := 28) rfl)))
theorem mC_109 : Cond.classLink "PileLifts" 34 "java/lang/IllegalArgumentException" ∈ wsC := List.mem_append_right _ (List.mem_append_right _ (List.mem_append_left _ (List.mem_of_getElem? (i := 29) rfl)))
theorem mC_110 : Cond.methodLink "PileLifts" 38 ⟨"java/lang/IllegalArgumentException", "<init>", "(Ljava/lang/String;)V"⟩ ∈ wsC := List.mem_append_right _ (List.mem_append_right _ (List.mem_append_left _ (List.mem_of_getElem? (i := 30) rfl)))
theorem mC_111 : Cond.instanceMethod y_S_forget ∈ wsC := List.mem_append_right _ (List.mem_append_right _ (List.mem_append_left _ (List.mem_of_getElem? (i := 31) rfl)))
theorem mC_112 : Cond.code y_S_forget prog_2_method_2_code 1 none ∈ wsC := List.mem_append_right _ (List.mem_append_right _ (List.mem_append_left _ (List.mem_of_getElem? (i := 32) rfl)))
theorem mC_113 : Cond.instanceMethod y_P_put ∈ wsC := List.mem_append_right _ (List.mem_append_right _ (List.mem_append_left _ (List.mem_of_getElem? (i := 33) rfl)))
theorem mC_114 : Cond.selects "PileLifts" y_P_put y_P_put ∈ wsC := List.mem_append_right _ (List.mem_append_right _ (List.mem_append_left _ (List.mem_of_getElem? (i := 34) rfl)))
theorem mC_115 : Cond.code y_P_put prog_1_method_3_code 4 (some .int) ∈ wsC := List.mem_append_right _ (List.mem_append_right _ (List.mem_append_left _ (List.mem_of_getElem? (i := 35) rfl)))
theorem mC_116 : Cond.instanceMethod y_Y_hasPile ∈ wsC := List.mem_append_right _ (List.mem_append_right _ (List.mem_append_left _ (List.mem_of_getElem? (i := 36) rfl)))
theorem mC_117 : Cond.code y_Y_hasPile prog_4_method_3_code 2 (some .boolean) ∈ wsC := List.mem_append_right _ (List.mem_append_right _ (List.mem_append_left _ (List.mem_of_getElem? (i := 37) rfl)))
theorem mC_118 : Cond.classLink "PileLifts" 54 "java/lang/IndexOutOfBoundsException" ∈ wsC := List.mem_append_right _ (List.mem_append_right _ (List.mem_append_left _ (List.mem_of_getElem? (i := 38) rfl)))
theorem mC_119 : Cond.methodLink "PileLifts" 58 ⟨"java/lang/IndexOutOfBoundsException", "<init>", "(Ljava/lang/String;)V"⟩ ∈ wsC := List.mem_append_right _ (List.mem_append_right _ (List.mem_append_left _ (List.mem_of_getElem? (i := 39) rfl)))
theorem mC_120 : Cond.instanceMethod y_Y_takes ∈ wsC := List.mem_append_right _ (List.mem_append_right _ (List.mem_append_right _ (List.mem_append_left _ (List.mem_of_getElem? (i := 0) rfl))))
theorem mC_121 : Cond.code y_Y_takes prog_4_method_8_code 4 (some .boolean) ∈ wsC := List.mem_append_right _ (List.mem_append_right _ (List.mem_append_right _ (List.mem_append_left _ (List.mem_of_getElem? (i := 1) rfl))))
theorem mC_122 : Cond.methodLink "PileLifts$Yard" 55 y_Y_topOf ∈ wsC := List.mem_append_right _ (List.mem_append_right _ (List.mem_append_right _ (List.mem_append_left _ (List.mem_of_getElem? (i := 2) rfl))))
theorem mC_123 : Cond.instanceMethod y_Y_topOf ∈ wsC := List.mem_append_right _ (List.mem_append_right _ (List.mem_append_right _ (List.mem_append_left _ (List.mem_of_getElem? (i := 3) rfl))))
theorem mC_124 : Cond.code y_Y_topOf prog_4_method_7_code 2 (some .int) ∈ wsC := List.mem_append_right _ (List.mem_append_right _ (List.mem_append_right _ (List.mem_append_left _ (List.mem_of_getElem? (i := 4) rfl))))
theorem mC_125 : Cond.classLink "PileLifts" 69 "java/lang/UnsupportedOperationException" ∈ wsC := List.mem_append_right _ (List.mem_append_right _ (List.mem_append_right _ (List.mem_append_left _ (List.mem_of_getElem? (i := 5) rfl))))
theorem mC_126 : Cond.methodLink "PileLifts" 73 ⟨"java/lang/UnsupportedOperationException", "<init>", "(Ljava/lang/String;)V"⟩ ∈ wsC := List.mem_append_right _ (List.mem_append_right _ (List.mem_append_right _ (List.mem_append_left _ (List.mem_of_getElem? (i := 6) rfl))))
theorem mC_127 : Cond.instanceMethod y_Y_add ∈ wsC := List.mem_append_right _ (List.mem_append_right _ (List.mem_append_right _ (List.mem_append_left _ (List.mem_of_getElem? (i := 7) rfl))))
theorem mC_128 : Cond.code y_Y_add prog_4_method_9_code 5 (some .int) ∈ wsC := List.mem_append_right _ (List.mem_append_right _ (List.mem_append_right _ (List.mem_append_left _ (List.mem_of_getElem? (i := 8) rfl))))
theorem mC_129 : Cond.methodLink "PileLifts$Yard" 59 y_Y_layOn ∈ wsC := List.mem_append_right _ (List.mem_append_right _ (List.mem_append_right _ (List.mem_append_left _ (List.mem_of_getElem? (i := 9) rfl))))
theorem mC_130 : Cond.instanceMethod y_Y_layOn ∈ wsC := List.mem_append_right _ (List.mem_append_right _ (List.mem_append_right _ (List.mem_append_left _ (List.mem_of_getElem? (i := 10) rfl))))
theorem mC_131 : Cond.code y_Y_layOn prog_4_method_10_code 4 none ∈ wsC := List.mem_append_right _ (List.mem_append_right _ (List.mem_append_right _ (List.mem_append_left _ (List.mem_of_getElem? (i := 11) rfl))))
theorem mC_132 : Cond.instanceMethod y_P_want ∈ wsC := List.mem_append_right _ (List.mem_append_right _ (List.mem_append_right _ (List.mem_append_left _ (List.mem_of_getElem? (i := 12) rfl))))
theorem mC_133 : Cond.selects "PileLifts" y_P_want y_P_want ∈ wsC := List.mem_append_right _ (List.mem_append_right _ (List.mem_append_right _ (List.mem_append_left _ (List.mem_of_getElem? (i := 13) rfl))))
theorem mC_134 : Cond.code y_P_want prog_1_method_4_code 3 none ∈ wsC := List.mem_append_right _ (List.mem_append_right _ (List.mem_append_right _ (List.mem_append_left _ (List.mem_of_getElem? (i := 14) rfl))))
theorem mC_135 : Cond.methodLink "PileLifts" 78 y_P_checkPiece ∈ wsC := List.mem_append_right _ (List.mem_append_right _ (List.mem_append_right _ (List.mem_append_left _ (List.mem_of_getElem? (i := 15) rfl))))
theorem mC_136 : Cond.instanceMethod y_P_checkPiece ∈ wsC := List.mem_append_right _ (List.mem_append_right _ (List.mem_append_right _ (List.mem_append_left _ (List.mem_of_getElem? (i := 16) rfl))))
theorem mC_137 : Cond.code y_P_checkPiece prog_1_method_16_code 2 none ∈ wsC := List.mem_append_right _ (List.mem_append_right _ (List.mem_append_right _ (List.mem_append_left _ (List.mem_of_getElem? (i := 17) rfl))))
theorem mC_138 : Cond.instanceMethod y_Y_hasPiece ∈ wsC := List.mem_append_right _ (List.mem_append_right _ (List.mem_append_right _ (List.mem_append_left _ (List.mem_of_getElem? (i := 18) rfl))))
theorem mC_139 : Cond.code y_Y_hasPiece prog_4_method_4_code 2 (some .boolean) ∈ wsC := List.mem_append_right _ (List.mem_append_right _ (List.mem_append_right _ (List.mem_append_left _ (List.mem_of_getElem? (i := 19) rfl))))
theorem mC_140 : Cond.classLink "PileLifts" 85 "java/lang/IllegalStateException" ∈ wsC := List.mem_append_right _ (List.mem_append_right _ (List.mem_append_right _ (List.mem_append_left _ (List.mem_of_getElem? (i := 20) rfl))))
theorem mC_141 : Cond.methodLink "PileLifts" 89 ⟨"java/lang/IllegalStateException", "<init>", "(Ljava/lang/String;)V"⟩ ∈ wsC := List.mem_append_right _ (List.mem_append_right _ (List.mem_append_right _ (List.mem_append_left _ (List.mem_of_getElem? (i := 21) rfl))))
theorem mC_142 : Cond.instanceMethod y_P_may ∈ wsC := List.mem_append_right _ (List.mem_append_right _ (List.mem_append_right _ (List.mem_append_left _ (List.mem_of_getElem? (i := 22) rfl))))
theorem mC_143 : Cond.selects "PileLifts" y_P_may y_P_may ∈ wsC := List.mem_append_right _ (List.mem_append_right _ (List.mem_append_right _ (List.mem_append_left _ (List.mem_of_getElem? (i := 23) rfl))))
theorem mC_144 : Cond.code y_P_may prog_1_method_5_code 3 (some .boolean) ∈ wsC := List.mem_append_right _ (List.mem_append_right _ (List.mem_append_right _ (List.mem_append_left _ (List.mem_of_getElem? (i := 24) rfl))))
theorem mC_145 : Cond.instanceMethod y_P_run ∈ wsC := List.mem_append_right _ (List.mem_append_right _ (List.mem_append_right _ (List.mem_append_left _ (List.mem_of_getElem? (i := 25) rfl))))
theorem mC_146 : Cond.selects "PileLifts" y_P_run y_P_run ∈ wsC := List.mem_append_right _ (List.mem_append_right _ (List.mem_append_right _ (List.mem_append_left _ (List.mem_of_getElem? (i := 26) rfl))))
theorem mC_147 : Cond.code y_P_run prog_1_method_7_code 2 (some .int) ∈ wsC := List.mem_append_right _ (List.mem_append_right _ (List.mem_append_right _ (List.mem_append_left _ (List.mem_of_getElem? (i := 27) rfl))))
theorem mC_148 : Cond.constant "PileLifts" 103 (100000 : Int32) ∈ wsC := List.mem_append_right _ (List.mem_append_right _ (List.mem_append_right _ (List.mem_append_left _ (List.mem_of_getElem? (i := 28) rfl))))
theorem mC_149 : Cond.instanceMethod y_S_findBest ∈ wsC := List.mem_append_right _ (List.mem_append_right _ (List.mem_append_right _ (List.mem_append_left _ (List.mem_of_getElem? (i := 29) rfl))))
theorem mC_150 : Cond.code y_S_findBest prog_2_method_3_code 6 (some .int) ∈ wsC := List.mem_append_right _ (List.mem_append_right _ (List.mem_append_right _ (List.mem_append_left _ (List.mem_of_getElem? (i := 30) rfl))))
theorem mC_151 : Cond.methodLink "PileLifts$Search" 35 y_S_forget ∈ wsC := List.mem_append_right _ (List.mem_append_right _ (List.mem_append_right _ (List.mem_append_left _ (List.mem_of_getElem? (i := 31) rfl))))
theorem mC_152 : Cond.methodLink "PileLifts$Search" 53 y_S_goOn ∈ wsC := List.mem_append_right _ (List.mem_append_right _ (List.mem_append_right _ (List.mem_append_left _ (List.mem_of_getElem? (i := 32) rfl))))
theorem mC_153 : Cond.instanceMethod y_S_goOn ∈ wsC := List.mem_append_right _ (List.mem_append_right _ (List.mem_append_right _ (List.mem_append_left _ (List.mem_of_getElem? (i := 33) rfl))))
theorem mC_154 : Cond.code y_S_goOn prog_2_method_4_code 5 (some .boolean) ∈ wsC := List.mem_append_right _ (List.mem_append_right _ (List.mem_append_right _ (List.mem_append_left _ (List.mem_of_getElem? (i := 34) rfl))))
theorem mC_155 : Cond.methodLink "PileLifts$Search" 64 y_S_letLeave ∈ wsC := List.mem_append_right _ (List.mem_append_right _ (List.mem_append_right _ (List.mem_append_left _ (List.mem_of_getElem? (i := 35) rfl))))
theorem mC_156 : Cond.instanceMethod y_S_letLeave ∈ wsC := List.mem_append_right _ (List.mem_append_right _ (List.mem_append_right _ (List.mem_append_left _ (List.mem_of_getElem? (i := 36) rfl))))
theorem mC_157 : Cond.code y_S_letLeave prog_2_method_7_code 4 none ∈ wsC := List.mem_append_right _ (List.mem_append_right _ (List.mem_append_right _ (List.mem_append_left _ (List.mem_of_getElem? (i := 37) rfl))))
theorem mC_158 : Cond.instanceMethod y_Y_nextWanted ∈ wsC := List.mem_append_right _ (List.mem_append_right _ (List.mem_append_right _ (List.mem_append_left _ (List.mem_of_getElem? (i := 38) rfl))))
theorem mC_159 : Cond.code y_Y_nextWanted prog_4_method_19_code 4 (some .int) ∈ wsC := List.mem_append_right _ (List.mem_append_right _ (List.mem_append_right _ (List.mem_append_left _ (List.mem_of_getElem? (i := 39) rfl))))
theorem mC_160 : Cond.instanceMethod y_Y_isTop ∈ wsC := List.mem_append_right _ (List.mem_append_right _ (List.mem_append_right _ (List.mem_append_right _ (List.mem_append_left _ (List.mem_of_getElem? (i := 0) rfl)))))
theorem mC_161 : Cond.code y_Y_isTop prog_4_method_20_code 2 (some .boolean) ∈ wsC := List.mem_append_right _ (List.mem_append_right _ (List.mem_append_right _ (List.mem_append_right _ (List.mem_append_left _ (List.mem_of_getElem? (i := 1) rfl)))))
theorem mC_162 : Cond.methodLink "PileLifts$Search" 103 y_S_note ∈ wsC := List.mem_append_right _ (List.mem_append_right _ (List.mem_append_right _ (List.mem_append_right _ (List.mem_append_left _ (List.mem_of_getElem? (i := 2) rfl)))))
theorem mC_163 : Cond.instanceMethod y_S_note ∈ wsC := List.mem_append_right _ (List.mem_append_right _ (List.mem_append_right _ (List.mem_append_right _ (List.mem_append_left _ (List.mem_of_getElem? (i := 3) rfl)))))
theorem mC_164 : Cond.code y_S_note prog_2_method_8_code 4 none ∈ wsC := List.mem_append_right _ (List.mem_append_right _ (List.mem_append_right _ (List.mem_append_right _ (List.mem_append_left _ (List.mem_of_getElem? (i := 4) rfl)))))
theorem mC_165 : Cond.instanceMethod y_Y_takeOff ∈ wsC := List.mem_append_right _ (List.mem_append_right _ (List.mem_append_right _ (List.mem_append_right _ (List.mem_append_left _ (List.mem_of_getElem? (i := 5) rfl)))))
theorem mC_166 : Cond.code y_Y_takeOff prog_4_method_11_code 3 none ∈ wsC := List.mem_append_right _ (List.mem_append_right _ (List.mem_append_right _ (List.mem_append_right _ (List.mem_append_left _ (List.mem_of_getElem? (i := 6) rfl)))))
theorem mC_167 : Cond.methodLink "PileLifts$Search" 74 y_S_tryFrom ∈ wsC := List.mem_append_right _ (List.mem_append_right _ (List.mem_append_right _ (List.mem_append_right _ (List.mem_append_left _ (List.mem_of_getElem? (i := 7) rfl)))))
theorem mC_168 : Cond.instanceMethod y_S_tryFrom ∈ wsC := List.mem_append_right _ (List.mem_append_right _ (List.mem_append_right _ (List.mem_append_right _ (List.mem_append_left _ (List.mem_of_getElem? (i := 8) rfl)))))
theorem mC_169 : Cond.code y_S_tryFrom prog_2_method_5_code 9 (some .boolean) ∈ wsC := List.mem_append_right _ (List.mem_append_right _ (List.mem_append_right _ (List.mem_append_right _ (List.mem_append_left _ (List.mem_of_getElem? (i := 9) rfl)))))
theorem mC_170 : Cond.instanceMethod y_Y_wouldBlockOn ∈ wsC := List.mem_append_right _ (List.mem_append_right _ (List.mem_append_right _ (List.mem_append_right _ (List.mem_append_left _ (List.mem_of_getElem? (i := 10) rfl)))))
theorem mC_171 : Cond.code y_Y_wouldBlockOn prog_4_method_15_code 3 (some .boolean) ∈ wsC := List.mem_append_right _ (List.mem_append_right _ (List.mem_append_right _ (List.mem_append_right _ (List.mem_append_left _ (List.mem_of_getElem? (i := 11) rfl)))))
theorem mC_172 : Cond.methodLink "PileLifts$Search" 96 y_S_tryOne ∈ wsC := List.mem_append_right _ (List.mem_append_right _ (List.mem_append_right _ (List.mem_append_right _ (List.mem_append_left _ (List.mem_of_getElem? (i := 12) rfl)))))
theorem mC_173 : Cond.instanceMethod y_S_tryOne ∈ wsC := List.mem_append_right _ (List.mem_append_right _ (List.mem_append_right _ (List.mem_append_right _ (List.mem_append_left _ (List.mem_of_getElem? (i := 13) rfl)))))
theorem mC_174 : Cond.code y_S_tryOne prog_2_method_6_code 7 (some .boolean) ∈ wsC := List.mem_append_right _ (List.mem_append_right _ (List.mem_append_right _ (List.mem_append_right _ (List.mem_append_left _ (List.mem_of_getElem? (i := 14) rfl)))))
theorem mC_175 : Cond.instanceMethod y_Y_relift ∈ wsC := List.mem_append_right _ (List.mem_append_right _ (List.mem_append_right _ (List.mem_append_right _ (List.mem_append_left _ (List.mem_of_getElem? (i := 15) rfl)))))
theorem mC_176 : Cond.code y_Y_relift prog_4_method_12_code 3 none ∈ wsC := List.mem_append_right _ (List.mem_append_right _ (List.mem_append_right _ (List.mem_append_right _ (List.mem_append_left _ (List.mem_of_getElem? (i := 16) rfl)))))
theorem mC_177 : Cond.methodLink "PileLifts$Yard" 62 y_Y_takeOff ∈ wsC := List.mem_append_right _ (List.mem_append_right _ (List.mem_append_right _ (List.mem_append_right _ (List.mem_append_left _ (List.mem_of_getElem? (i := 17) rfl)))))
theorem mC_178 : Cond.methodLink "PileLifts$Search" 57 y_S_takeBack ∈ wsC := List.mem_append_right _ (List.mem_append_right _ (List.mem_append_right _ (List.mem_append_right _ (List.mem_append_left _ (List.mem_of_getElem? (i := 18) rfl)))))
theorem mC_179 : Cond.instanceMethod y_S_takeBack ∈ wsC := List.mem_append_right _ (List.mem_append_right _ (List.mem_append_right _ (List.mem_append_right _ (List.mem_append_left _ (List.mem_of_getElem? (i := 19) rfl)))))
theorem mC_180 : Cond.code y_S_takeBack prog_2_method_9_code 3 none ∈ wsC := List.mem_append_right _ (List.mem_append_right _ (List.mem_append_right _ (List.mem_append_right _ (List.mem_append_left _ (List.mem_of_getElem? (i := 20) rfl)))))
theorem mC_181 : Cond.methodLink "PileLifts$Search" 61 y_S_countRelifts ∈ wsC := List.mem_append_right _ (List.mem_append_right _ (List.mem_append_right _ (List.mem_append_right _ (List.mem_append_left _ (List.mem_of_getElem? (i := 21) rfl)))))
theorem mC_182 : Cond.instanceMethod y_S_countRelifts ∈ wsC := List.mem_append_right _ (List.mem_append_right _ (List.mem_append_right _ (List.mem_append_right _ (List.mem_append_left _ (List.mem_of_getElem? (i := 22) rfl)))))
theorem mC_183 : Cond.code y_S_countRelifts prog_2_method_11_code 3 (some .int) ∈ wsC := List.mem_append_right _ (List.mem_append_right _ (List.mem_append_right _ (List.mem_append_right _ (List.mem_append_left _ (List.mem_of_getElem? (i := 23) rfl)))))
theorem mC_184 : Cond.instanceMethod y_P_proved ∈ wsC := List.mem_append_right _ (List.mem_append_right _ (List.mem_append_right _ (List.mem_append_right _ (List.mem_append_left _ (List.mem_of_getElem? (i := 24) rfl)))))
theorem mC_185 : Cond.selects "PileLifts" y_P_proved y_P_proved ∈ wsC := List.mem_append_right _ (List.mem_append_right _ (List.mem_append_right _ (List.mem_append_right _ (List.mem_append_left _ (List.mem_of_getElem? (i := 25) rfl)))))
theorem mC_186 : Cond.code y_P_proved prog_1_method_8_code 1 (some .boolean) ∈ wsC := List.mem_append_right _ (List.mem_append_right _ (List.mem_append_right _ (List.mem_append_right _ (List.mem_append_left _ (List.mem_of_getElem? (i := 26) rfl)))))
theorem mC_187 : Cond.instanceMethod y_P_moves ∈ wsC := List.mem_append_right _ (List.mem_append_right _ (List.mem_append_right _ (List.mem_append_right _ (List.mem_append_left _ (List.mem_of_getElem? (i := 27) rfl)))))
theorem mC_188 : Cond.selects "PileLifts" y_P_moves y_P_moves ∈ wsC := List.mem_append_right _ (List.mem_append_right _ (List.mem_append_right _ (List.mem_append_right _ (List.mem_append_left _ (List.mem_of_getElem? (i := 28) rfl)))))
theorem mC_189 : Cond.code y_P_moves prog_1_method_9_code 1 (some .int) ∈ wsC := List.mem_append_right _ (List.mem_append_right _ (List.mem_append_right _ (List.mem_append_right _ (List.mem_append_left _ (List.mem_of_getElem? (i := 29) rfl)))))
theorem mC_190 : Cond.methodLink "PileLifts" 119 y_P_checkPlan ∈ wsC := List.mem_append_right _ (List.mem_append_right _ (List.mem_append_right _ (List.mem_append_right _ (List.mem_append_left _ (List.mem_of_getElem? (i := 30) rfl)))))
theorem mC_191 : Cond.instanceMethod y_P_checkPlan ∈ wsC := List.mem_append_right _ (List.mem_append_right _ (List.mem_append_right _ (List.mem_append_right _ (List.mem_append_left _ (List.mem_of_getElem? (i := 31) rfl)))))
theorem mC_192 : Cond.code y_P_checkPlan prog_1_method_17_code 1 none ∈ wsC := List.mem_append_right _ (List.mem_append_right _ (List.mem_append_right _ (List.mem_append_right _ (List.mem_append_left _ (List.mem_of_getElem? (i := 32) rfl)))))
theorem mC_193 : Cond.instanceMethod y_P_move ∈ wsC := List.mem_append_right _ (List.mem_append_right _ (List.mem_append_right _ (List.mem_append_right _ (List.mem_append_left _ (List.mem_of_getElem? (i := 33) rfl)))))
theorem mC_194 : Cond.selects "PileLifts" y_P_move y_P_move ∈ wsC := List.mem_append_right _ (List.mem_append_right _ (List.mem_append_right _ (List.mem_append_right _ (List.mem_append_left _ (List.mem_of_getElem? (i := 34) rfl)))))
theorem mC_195 : Cond.code y_P_move prog_1_method_10_code 3 (some .int) ∈ wsC := List.mem_append_right _ (List.mem_append_right _ (List.mem_append_right _ (List.mem_append_right _ (List.mem_append_left _ (List.mem_of_getElem? (i := 35) rfl)))))
theorem mC_196 : Cond.instanceMethod y_P_replay ∈ wsC := List.mem_append_right _ (List.mem_append_right _ (List.mem_append_right _ (List.mem_append_right _ (List.mem_append_left _ (List.mem_of_getElem? (i := 36) rfl)))))
theorem mC_197 : Cond.selects "PileLifts" y_P_replay y_P_replay ∈ wsC := List.mem_append_right _ (List.mem_append_right _ (List.mem_append_right _ (List.mem_append_right _ (List.mem_append_left _ (List.mem_of_getElem? (i := 37) rfl)))))
theorem mC_198 : Cond.code y_P_replay prog_1_method_11_code 2 (some .int) ∈ wsC := List.mem_append_right _ (List.mem_append_right _ (List.mem_append_right _ (List.mem_append_right _ (List.mem_append_left _ (List.mem_of_getElem? (i := 38) rfl)))))
theorem mC_199 : Cond.instanceMethod y_S_doMoves ∈ wsC := List.mem_append_right _ (List.mem_append_right _ (List.mem_append_right _ (List.mem_append_right _ (List.mem_append_left _ (List.mem_of_getElem? (i := 39) rfl)))))
theorem mC_200 : Cond.code y_S_doMoves prog_2_method_10_code 4 none ∈ wsC := List.mem_append_right _ (List.mem_append_right _ (List.mem_append_right _ (List.mem_append_right _ (List.mem_append_right _ (List.mem_append_left _ (List.mem_of_getElem? (i := 0) rfl))))))
theorem mC_201 : Cond.instanceMethod y_Y_countGone ∈ wsC := List.mem_append_right _ (List.mem_append_right _ (List.mem_append_right _ (List.mem_append_right _ (List.mem_append_right _ (List.mem_append_left _ (List.mem_of_getElem? (i := 1) rfl))))))
theorem mC_202 : Cond.code y_Y_countGone prog_4_method_18_code 3 (some .int) ∈ wsC := List.mem_append_right _ (List.mem_append_right _ (List.mem_append_right _ (List.mem_append_right _ (List.mem_append_right _ (List.mem_append_left _ (List.mem_of_getElem? (i := 2) rfl))))))
theorem mC_203 : Cond.instanceMethod y_P_at ∈ wsC := List.mem_append_right _ (List.mem_append_right _ (List.mem_append_right _ (List.mem_append_right _ (List.mem_append_right _ (List.mem_append_left _ (List.mem_of_getElem? (i := 3) rfl))))))
theorem mC_204 : Cond.selects "PileLifts" y_P_at y_P_at ∈ wsC := List.mem_append_right _ (List.mem_append_right _ (List.mem_append_right _ (List.mem_append_right _ (List.mem_append_right _ (List.mem_append_left _ (List.mem_of_getElem? (i := 4) rfl))))))
theorem mC_205 : Cond.code y_P_at prog_1_method_12_code 3 (some .int) ∈ wsC := List.mem_append_right _ (List.mem_append_right _ (List.mem_append_right _ (List.mem_append_right _ (List.mem_append_right _ (List.mem_append_left _ (List.mem_of_getElem? (i := 5) rfl))))))
theorem mC_206 : Cond.instanceMethod y_P_tidy ∈ wsC := List.mem_append_right _ (List.mem_append_right _ (List.mem_append_right _ (List.mem_append_right _ (List.mem_append_right _ (List.mem_append_left _ (List.mem_of_getElem? (i := 6) rfl))))))
theorem mC_207 : Cond.selects "PileLifts" y_P_tidy y_P_tidy ∈ wsC := List.mem_append_right _ (List.mem_append_right _ (List.mem_append_right _ (List.mem_append_right _ (List.mem_append_right _ (List.mem_append_left _ (List.mem_of_getElem? (i := 7) rfl))))))
theorem mC_208 : Cond.code y_P_tidy prog_1_method_13_code 3 (some .int) ∈ wsC := List.mem_append_right _ (List.mem_append_right _ (List.mem_append_right _ (List.mem_append_right _ (List.mem_append_right _ (List.mem_append_left _ (List.mem_of_getElem? (i := 8) rfl))))))
theorem mC_209 : Cond.instanceMethod y_Y_tidyOnce ∈ wsC := List.mem_append_right _ (List.mem_append_right _ (List.mem_append_right _ (List.mem_append_right _ (List.mem_append_right _ (List.mem_append_left _ (List.mem_of_getElem? (i := 9) rfl))))))
theorem mC_210 : Cond.code y_Y_tidyOnce prog_4_method_21_code 4 (some .boolean) ∈ wsC := List.mem_append_right _ (List.mem_append_right _ (List.mem_append_right _ (List.mem_append_right _ (List.mem_append_right _ (List.mem_append_left _ (List.mem_of_getElem? (i := 10) rfl))))))
theorem mC_211 : Cond.methodLink "PileLifts$Yard" 79 y_Y_tidyPlaceFor ∈ wsC := List.mem_append_right _ (List.mem_append_right _ (List.mem_append_right _ (List.mem_append_right _ (List.mem_append_right _ (List.mem_append_left _ (List.mem_of_getElem? (i := 11) rfl))))))
theorem mC_212 : Cond.instanceMethod y_Y_tidyPlaceFor ∈ wsC := List.mem_append_right _ (List.mem_append_right _ (List.mem_append_right _ (List.mem_append_right _ (List.mem_append_right _ (List.mem_append_left _ (List.mem_of_getElem? (i := 12) rfl))))))
theorem mC_213 : Cond.code y_Y_tidyPlaceFor prog_4_method_22_code 3 (some .int) ∈ wsC := List.mem_append_right _ (List.mem_append_right _ (List.mem_append_right _ (List.mem_append_right _ (List.mem_append_right _ (List.mem_append_left _ (List.mem_of_getElem? (i := 13) rfl))))))
theorem mC_214 : Cond.methodLink "PileLifts$Yard" 85 y_Y_takes ∈ wsC := List.mem_append_right _ (List.mem_append_right _ (List.mem_append_right _ (List.mem_append_right _ (List.mem_append_right _ (List.mem_append_left _ (List.mem_of_getElem? (i := 14) rfl))))))
theorem mC_215 : Cond.methodLink "PileLifts$Yard" 89 y_Y_wouldBlockOn ∈ wsC := List.mem_append_right _ (List.mem_append_right _ (List.mem_append_right _ (List.mem_append_right _ (List.mem_append_right _ (List.mem_append_left _ (List.mem_of_getElem? (i := 15) rfl))))))
theorem mC_216 : Cond.methodLink "PileLifts$Yard" 82 y_Y_relift ∈ wsC := List.mem_append_right _ (List.mem_append_right _ (List.mem_append_right _ (List.mem_append_right _ (List.mem_append_right _ (List.mem_append_left _ (List.mem_of_getElem? (i := 16) rfl))))))
theorem mC_217 : Cond.instanceMethod y_P_wagon ∈ wsC := List.mem_append_right _ (List.mem_append_right _ (List.mem_append_right _ (List.mem_append_right _ (List.mem_append_right _ (List.mem_append_left _ (List.mem_of_getElem? (i := 17) rfl))))))
theorem mC_218 : Cond.selects "PileLifts" y_P_wagon y_P_wagon ∈ wsC := List.mem_append_right _ (List.mem_append_right _ (List.mem_append_right _ (List.mem_append_right _ (List.mem_append_right _ (List.mem_append_left _ (List.mem_of_getElem? (i := 18) rfl))))))
theorem mC_219 : Cond.code y_P_wagon prog_1_method_14_code 2 (some .int) ∈ wsC := List.mem_append_right _ (List.mem_append_right _ (List.mem_append_right _ (List.mem_append_right _ (List.mem_append_right _ (List.mem_append_left _ (List.mem_of_getElem? (i := 19) rfl))))))
theorem mC_220 : Cond.instanceMethod y_W_add ∈ wsC := List.mem_append_right _ (List.mem_append_right _ (List.mem_append_right _ (List.mem_append_right _ (List.mem_append_right _ (List.mem_append_left _ (List.mem_of_getElem? (i := 20) rfl))))))
theorem mC_221 : Cond.code y_W_add prog_3_method_3_code 3 (some .int) ∈ wsC := List.mem_append_right _ (List.mem_append_right _ (List.mem_append_right _ (List.mem_append_right _ (List.mem_append_right _ (List.mem_append_left _ (List.mem_of_getElem? (i := 21) rfl))))))
theorem mC_222 : Cond.instanceMethod y_P_load ∈ wsC := List.mem_append_right _ (List.mem_append_right _ (List.mem_append_right _ (List.mem_append_right _ (List.mem_append_right _ (List.mem_append_left _ (List.mem_of_getElem? (i := 22) rfl))))))
theorem mC_223 : Cond.selects "PileLifts" y_P_load y_P_load ∈ wsC := List.mem_append_right _ (List.mem_append_right _ (List.mem_append_right _ (List.mem_append_right _ (List.mem_append_right _ (List.mem_append_left _ (List.mem_of_getElem? (i := 23) rfl))))))
theorem mC_224 : Cond.code y_P_load prog_1_method_15_code 3 (some .int) ∈ wsC := List.mem_append_right _ (List.mem_append_right _ (List.mem_append_right _ (List.mem_append_right _ (List.mem_append_right _ (List.mem_append_left _ (List.mem_of_getElem? (i := 24) rfl))))))
theorem mC_225 : Cond.instanceMethod y_W_firstWithRoom ∈ wsC := List.mem_append_right _ (List.mem_append_right _ (List.mem_append_right _ (List.mem_append_right _ (List.mem_append_right _ (List.mem_append_left _ (List.mem_of_getElem? (i := 25) rfl))))))
theorem mC_226 : Cond.code y_W_firstWithRoom prog_3_method_4_code 3 (some .int) ∈ wsC := List.mem_append_right _ (List.mem_append_right _ (List.mem_append_right _ (List.mem_append_right _ (List.mem_append_right _ (List.mem_append_left _ (List.mem_of_getElem? (i := 26) rfl))))))
theorem mC_227 : Cond.instanceMethod y_W_fill ∈ wsC := List.mem_append_right _ (List.mem_append_right _ (List.mem_append_right _ (List.mem_append_right _ (List.mem_append_right _ (List.mem_append_left _ (List.mem_of_getElem? (i := 27) rfl))))))
theorem mC_228 : Cond.code y_W_fill prog_3_method_5_code 4 none ∈ wsC := List.mem_append_right _ (List.mem_append_right _ (List.mem_append_right _ (List.mem_append_right _ (List.mem_append_right _ (List.mem_append_left _ (List.mem_of_getElem? (i := 28) rfl))))))
theorem mC_229 : Cond.selects "PileLifts$Yard" y_Y_clear y_Y_clear ∈ wsC := List.mem_append_right _ (List.mem_append_right _ (List.mem_append_right _ (List.mem_append_right _ (List.mem_append_right _ (List.mem_append_left _ (List.mem_of_getElem? (i := 29) rfl))))))
theorem mC_230 : Cond.selects "PileLifts$Wagons" y_W_clear y_W_clear ∈ wsC := List.mem_append_right _ (List.mem_append_right _ (List.mem_append_right _ (List.mem_append_right _ (List.mem_append_right _ (List.mem_append_left _ (List.mem_of_getElem? (i := 30) rfl))))))
theorem mC_231 : Cond.selects "PileLifts$Yard" y_Y_countBlocking y_Y_countBlocking ∈ wsC := List.mem_append_right _ (List.mem_append_right _ (List.mem_append_right _ (List.mem_append_right _ (List.mem_append_right _ (List.mem_append_left _ (List.mem_of_getElem? (i := 31) rfl))))))
theorem mC_232 : Cond.selects "PileLifts$Yard" y_Y_isBlocking y_Y_isBlocking ∈ wsC := List.mem_append_right _ (List.mem_append_right _ (List.mem_append_right _ (List.mem_append_right _ (List.mem_append_right _ (List.mem_append_left _ (List.mem_of_getElem? (i := 32) rfl))))))
theorem mC_233 : Cond.selects "PileLifts$Yard" y_Y_isGone y_Y_isGone ∈ wsC := List.mem_append_right _ (List.mem_append_right _ (List.mem_append_right _ (List.mem_append_right _ (List.mem_append_right _ (List.mem_append_left _ (List.mem_of_getElem? (i := 33) rfl))))))
theorem mC_234 : Cond.selects "PileLifts$Yard" y_Y_wouldBlock y_Y_wouldBlock ∈ wsC := List.mem_append_right _ (List.mem_append_right _ (List.mem_append_right _ (List.mem_append_right _ (List.mem_append_right _ (List.mem_append_left _ (List.mem_of_getElem? (i := 34) rfl))))))
theorem mC_235 : Cond.selects "PileLifts$Yard" y_Y_turnOf y_Y_turnOf ∈ wsC := List.mem_append_right _ (List.mem_append_right _ (List.mem_append_right _ (List.mem_append_right _ (List.mem_append_right _ (List.mem_append_left _ (List.mem_of_getElem? (i := 35) rfl))))))
theorem mC_236 : Cond.selects "PileLifts$Yard" y_Y_pieceAt y_Y_pieceAt ∈ wsC := List.mem_append_right _ (List.mem_append_right _ (List.mem_append_right _ (List.mem_append_right _ (List.mem_append_right _ (List.mem_append_left _ (List.mem_of_getElem? (i := 36) rfl))))))
theorem mC_237 : Cond.selects "PileLifts$Search" y_S_forget y_S_forget ∈ wsC := List.mem_append_right _ (List.mem_append_right _ (List.mem_append_right _ (List.mem_append_right _ (List.mem_append_right _ (List.mem_append_left _ (List.mem_of_getElem? (i := 37) rfl))))))
theorem mC_238 : Cond.selects "PileLifts$Yard" y_Y_hasPile y_Y_hasPile ∈ wsC := List.mem_append_right _ (List.mem_append_right _ (List.mem_append_right _ (List.mem_append_right _ (List.mem_append_right _ (List.mem_append_left _ (List.mem_of_getElem? (i := 38) rfl))))))
theorem mC_239 : Cond.selects "PileLifts$Yard" y_Y_takes y_Y_takes ∈ wsC := List.mem_append_right _ (List.mem_append_right _ (List.mem_append_right _ (List.mem_append_right _ (List.mem_append_right _ (List.mem_append_left _ (List.mem_of_getElem? (i := 39) rfl))))))
theorem mC_240 : Cond.selects "PileLifts$Yard" y_Y_topOf y_Y_topOf ∈ wsC := List.mem_append_right _ (List.mem_append_right _ (List.mem_append_right _ (List.mem_append_right _ (List.mem_append_right _ (List.mem_append_right _ ((List.mem_of_getElem? (i := 0) rfl)))))))
theorem mC_241 : Cond.selects "PileLifts$Yard" y_Y_add y_Y_add ∈ wsC := List.mem_append_right _ (List.mem_append_right _ (List.mem_append_right _ (List.mem_append_right _ (List.mem_append_right _ (List.mem_append_right _ ((List.mem_of_getElem? (i := 1) rfl)))))))
theorem mC_242 : Cond.selects "PileLifts$Yard" y_Y_layOn y_Y_layOn ∈ wsC := List.mem_append_right _ (List.mem_append_right _ (List.mem_append_right _ (List.mem_append_right _ (List.mem_append_right _ (List.mem_append_right _ ((List.mem_of_getElem? (i := 2) rfl)))))))
theorem mC_243 : Cond.selects "PileLifts" y_P_checkPiece y_P_checkPiece ∈ wsC := List.mem_append_right _ (List.mem_append_right _ (List.mem_append_right _ (List.mem_append_right _ (List.mem_append_right _ (List.mem_append_right _ ((List.mem_of_getElem? (i := 3) rfl)))))))
theorem mC_244 : Cond.selects "PileLifts$Yard" y_Y_hasPiece y_Y_hasPiece ∈ wsC := List.mem_append_right _ (List.mem_append_right _ (List.mem_append_right _ (List.mem_append_right _ (List.mem_append_right _ (List.mem_append_right _ ((List.mem_of_getElem? (i := 4) rfl)))))))
theorem mC_245 : Cond.selects "PileLifts$Search" y_S_findBest y_S_findBest ∈ wsC := List.mem_append_right _ (List.mem_append_right _ (List.mem_append_right _ (List.mem_append_right _ (List.mem_append_right _ (List.mem_append_right _ ((List.mem_of_getElem? (i := 5) rfl)))))))
theorem mC_246 : Cond.selects "PileLifts$Search" y_S_goOn y_S_goOn ∈ wsC := List.mem_append_right _ (List.mem_append_right _ (List.mem_append_right _ (List.mem_append_right _ (List.mem_append_right _ (List.mem_append_right _ ((List.mem_of_getElem? (i := 6) rfl)))))))
theorem mC_247 : Cond.selects "PileLifts$Search" y_S_letLeave y_S_letLeave ∈ wsC := List.mem_append_right _ (List.mem_append_right _ (List.mem_append_right _ (List.mem_append_right _ (List.mem_append_right _ (List.mem_append_right _ ((List.mem_of_getElem? (i := 7) rfl)))))))
theorem mC_248 : Cond.selects "PileLifts$Yard" y_Y_nextWanted y_Y_nextWanted ∈ wsC := List.mem_append_right _ (List.mem_append_right _ (List.mem_append_right _ (List.mem_append_right _ (List.mem_append_right _ (List.mem_append_right _ ((List.mem_of_getElem? (i := 8) rfl)))))))
theorem mC_249 : Cond.selects "PileLifts$Yard" y_Y_isTop y_Y_isTop ∈ wsC := List.mem_append_right _ (List.mem_append_right _ (List.mem_append_right _ (List.mem_append_right _ (List.mem_append_right _ (List.mem_append_right _ ((List.mem_of_getElem? (i := 9) rfl)))))))
theorem mC_250 : Cond.selects "PileLifts$Search" y_S_note y_S_note ∈ wsC := List.mem_append_right _ (List.mem_append_right _ (List.mem_append_right _ (List.mem_append_right _ (List.mem_append_right _ (List.mem_append_right _ ((List.mem_of_getElem? (i := 10) rfl)))))))
theorem mC_251 : Cond.selects "PileLifts$Yard" y_Y_takeOff y_Y_takeOff ∈ wsC := List.mem_append_right _ (List.mem_append_right _ (List.mem_append_right _ (List.mem_append_right _ (List.mem_append_right _ (List.mem_append_right _ ((List.mem_of_getElem? (i := 11) rfl)))))))
theorem mC_252 : Cond.selects "PileLifts$Search" y_S_tryFrom y_S_tryFrom ∈ wsC := List.mem_append_right _ (List.mem_append_right _ (List.mem_append_right _ (List.mem_append_right _ (List.mem_append_right _ (List.mem_append_right _ ((List.mem_of_getElem? (i := 12) rfl)))))))
theorem mC_253 : Cond.selects "PileLifts$Yard" y_Y_wouldBlockOn y_Y_wouldBlockOn ∈ wsC := List.mem_append_right _ (List.mem_append_right _ (List.mem_append_right _ (List.mem_append_right _ (List.mem_append_right _ (List.mem_append_right _ ((List.mem_of_getElem? (i := 13) rfl)))))))
theorem mC_254 : Cond.selects "PileLifts$Search" y_S_tryOne y_S_tryOne ∈ wsC := List.mem_append_right _ (List.mem_append_right _ (List.mem_append_right _ (List.mem_append_right _ (List.mem_append_right _ (List.mem_append_right _ ((List.mem_of_getElem? (i := 14) rfl)))))))
theorem mC_255 : Cond.selects "PileLifts$Yard" y_Y_relift y_Y_relift ∈ wsC := List.mem_append_right _ (List.mem_append_right _ (List.mem_append_right _ (List.mem_append_right _ (List.mem_append_right _ (List.mem_append_right _ ((List.mem_of_getElem? (i := 15) rfl)))))))
theorem mC_256 : Cond.selects "PileLifts$Search" y_S_takeBack y_S_takeBack ∈ wsC := List.mem_append_right _ (List.mem_append_right _ (List.mem_append_right _ (List.mem_append_right _ (List.mem_append_right _ (List.mem_append_right _ ((List.mem_of_getElem? (i := 16) rfl)))))))
theorem mC_257 : Cond.selects "PileLifts$Search" y_S_countRelifts y_S_countRelifts ∈ wsC := List.mem_append_right _ (List.mem_append_right _ (List.mem_append_right _ (List.mem_append_right _ (List.mem_append_right _ (List.mem_append_right _ ((List.mem_of_getElem? (i := 17) rfl)))))))
theorem mC_258 : Cond.selects "PileLifts" y_P_checkPlan y_P_checkPlan ∈ wsC := List.mem_append_right _ (List.mem_append_right _ (List.mem_append_right _ (List.mem_append_right _ (List.mem_append_right _ (List.mem_append_right _ ((List.mem_of_getElem? (i := 18) rfl)))))))
theorem mC_259 : Cond.selects "PileLifts$Search" y_S_doMoves y_S_doMoves ∈ wsC := List.mem_append_right _ (List.mem_append_right _ (List.mem_append_right _ (List.mem_append_right _ (List.mem_append_right _ (List.mem_append_right _ ((List.mem_of_getElem? (i := 19) rfl)))))))
theorem mC_260 : Cond.selects "PileLifts$Yard" y_Y_countGone y_Y_countGone ∈ wsC := List.mem_append_right _ (List.mem_append_right _ (List.mem_append_right _ (List.mem_append_right _ (List.mem_append_right _ (List.mem_append_right _ ((List.mem_of_getElem? (i := 20) rfl)))))))
theorem mC_261 : Cond.selects "PileLifts$Yard" y_Y_tidyOnce y_Y_tidyOnce ∈ wsC := List.mem_append_right _ (List.mem_append_right _ (List.mem_append_right _ (List.mem_append_right _ (List.mem_append_right _ (List.mem_append_right _ ((List.mem_of_getElem? (i := 21) rfl)))))))
theorem mC_262 : Cond.selects "PileLifts$Yard" y_Y_tidyPlaceFor y_Y_tidyPlaceFor ∈ wsC := List.mem_append_right _ (List.mem_append_right _ (List.mem_append_right _ (List.mem_append_right _ (List.mem_append_right _ (List.mem_append_right _ ((List.mem_of_getElem? (i := 22) rfl)))))))
theorem mC_263 : Cond.selects "PileLifts$Wagons" y_W_add y_W_add ∈ wsC := List.mem_append_right _ (List.mem_append_right _ (List.mem_append_right _ (List.mem_append_right _ (List.mem_append_right _ (List.mem_append_right _ ((List.mem_of_getElem? (i := 23) rfl)))))))
theorem mC_264 : Cond.selects "PileLifts$Wagons" y_W_firstWithRoom y_W_firstWithRoom ∈ wsC := List.mem_append_right _ (List.mem_append_right _ (List.mem_append_right _ (List.mem_append_right _ (List.mem_append_right _ (List.mem_append_right _ ((List.mem_of_getElem? (i := 24) rfl)))))))
theorem mC_265 : Cond.selects "PileLifts$Wagons" y_W_fill y_W_fill ∈ wsC := List.mem_append_right _ (List.mem_append_right _ (List.mem_append_right _ (List.mem_append_right _ (List.mem_append_right _ (List.mem_append_right _ ((List.mem_of_getElem? (i := 25) rfl)))))))
theorem mC_266 : Cond.instanceMethod objectInit ∈ wsC := List.mem_append_right _ (List.mem_append_right _ (List.mem_append_right _ (List.mem_append_right _ (List.mem_append_right _ (List.mem_append_right _ ((List.mem_of_getElem? (i := 26) rfl)))))))
theorem mC_267 : Cond.code objectInit ⟨#[0xb1]⟩ 1 none ∈ wsC := List.mem_append_right _ (List.mem_append_right _ (List.mem_append_right _ (List.mem_append_right _ (List.mem_append_right _ (List.mem_append_right _ ((List.mem_of_getElem? (i := 27) rfl)))))))
theorem mC_268 : Cond.arrayClass .int ∈ wsC := List.mem_append_right _ (List.mem_append_right _ (List.mem_append_right _ (List.mem_append_right _ (List.mem_append_right _ (List.mem_append_right _ ((List.mem_of_getElem? (i := 28) rfl)))))))
theorem wsC_good : wsC.all goodWord = true := by decide +kernel
theorem wsC_self {w0 : Cond} (h : w0 ∈ wsC) : GoodIn wsC (w0 :: wsC) := fun w hw => by
  have h1 : w ∈ wsC := (List.mem_cons.mp hw).elim (fun e => e ▸ h) id
  exact ⟨h1, good_of_word (List.all_eq_true.mp wsC_good w h1)⟩
theorem i_P : ∀ w ∈ u_ws R_P F_P 3, w ∈ wsC := by
  intro w h
  have h : w ∈ [Cond.laysFinal "PileLifts" "PileLifts" "yard" "LPileLifts$Yard;", Cond.laysFinal "PileLifts" "PileLifts" "search" "LPileLifts$Search;", Cond.laysFinal "PileLifts" "PileLifts" "wagons" "LPileLifts$Wagons;"] := h
  simp only [List.mem_cons, List.not_mem_nil, or_false] at h
  rcases h with rfl | rfl | rfl
  · exact mC_80
  · exact mC_81
  · exact mC_82
theorem i_Y : ∀ w ∈ u_ws R_Y F_Y 10, w ∈ wsC := by
  intro w h
  have h : w ∈ [Cond.lays "PileLifts$Yard" "PileLifts$Yard" "pileCount" "I", Cond.lays "PileLifts$Yard" "PileLifts$Yard" "levelCount" "I", Cond.lays "PileLifts$Yard" "PileLifts$Yard" "pieceCount" "I", Cond.laysFinal "PileLifts$Yard" "PileLifts$Yard" "heights" "[I", Cond.laysFinal "PileLifts$Yard" "PileLifts$Yard" "lying" "[I", Cond.laysFinal "PileLifts$Yard" "PileLifts$Yard" "kilos" "[I", Cond.laysFinal "PileLifts$Yard" "PileLifts$Yard" "lengths" "[I", Cond.laysFinal "PileLifts$Yard" "PileLifts$Yard" "times" "[I", Cond.laysFinal "PileLifts$Yard" "PileLifts$Yard" "pileOf" "[I", Cond.laysFinal "PileLifts$Yard" "PileLifts$Yard" "levelOf" "[I"] := h
  simp only [List.mem_cons, List.not_mem_nil, or_false] at h
  rcases h with rfl | rfl | rfl | rfl | rfl | rfl | rfl | rfl | rfl | rfl
  · exact mC_26
  · exact mC_27
  · exact mC_28
  · exact mC_29
  · exact mC_30
  · exact mC_31
  · exact mC_32
  · exact mC_33
  · exact mC_34
  · exact mC_35
theorem i_S : ∀ w ∈ u_ws R_S F_S 10, w ∈ wsC := by
  intro w h
  have h : w ∈ [Cond.lays "PileLifts$Search" "PileLifts$Search" "isDone" "Z", Cond.lays "PileLifts$Search" "PileLifts$Search" "isProved" "Z", Cond.lays "PileLifts$Search" "PileLifts$Search" "hasPlan" "Z", Cond.lays "PileLifts$Search" "PileLifts$Search" "isCutShort" "Z", Cond.lays "PileLifts$Search" "PileLifts$Search" "nodesLeft" "I", Cond.lays "PileLifts$Search" "PileLifts$Search" "limit" "I", Cond.lays "PileLifts$Search" "PileLifts$Search" "moveCount" "I", Cond.laysFinal "PileLifts$Search" "PileLifts$Search" "movedPiece" "[I", Cond.laysFinal "PileLifts$Search" "PileLifts$Search" "movedFrom" "[I", Cond.laysFinal "PileLifts$Search" "PileLifts$Search" "movedTo" "[I"] := h
  simp only [List.mem_cons, List.not_mem_nil, or_false] at h
  rcases h with rfl | rfl | rfl | rfl | rfl | rfl | rfl | rfl | rfl | rfl
  · exact mC_51
  · exact mC_52
  · exact mC_53
  · exact mC_54
  · exact mC_55
  · exact mC_56
  · exact mC_57
  · exact mC_58
  · exact mC_59
  · exact mC_60
theorem i_W : ∀ w ∈ u_ws R_W F_W 4, w ∈ wsC := by
  intro w h
  have h : w ∈ [Cond.lays "PileLifts$Wagons" "PileLifts$Wagons" "count" "I", Cond.laysFinal "PileLifts$Wagons" "PileLifts$Wagons" "axles" "[I", Cond.laysFinal "PileLifts$Wagons" "PileLifts$Wagons" "loads" "[I", Cond.laysFinal "PileLifts$Wagons" "PileLifts$Wagons" "wagonOf" "[I"] := h
  simp only [List.mem_cons, List.not_mem_nil, or_false] at h
  rcases h with rfl | rfl | rfl | rfl
  · exact mC_73
  · exact mC_74
  · exact mC_75
  · exact mC_76
def wsM_0 : List Cond := [Cond.initialized "PileLiftsModel", Cond.instantiable "PileLiftsModel" 22, Cond.instanceMethod y_M_init, Cond.code y_M_init prog_6_method_1_code 1 none, Cond.methodLink "PileLiftsModel" 1 ⟨"java/lang/Object", "<init>", "()V"⟩, Cond.fieldLink "PileLiftsModel" 56 "PileLiftsModel" "thrown" "I", Cond.fieldLink "PileLiftsModel" 7 "PileLiftsModel" "piles" "I", Cond.fieldLink "PileLiftsModel" 13 "PileLiftsModel" "levels" "I", Cond.fieldLink "PileLiftsModel" 59 "PileLiftsModel" "pieces" "I", Cond.fieldLink "PileLiftsModel" 16 "PileLiftsModel" "kilos" "[I", Cond.fieldLink "PileLiftsModel" 20 "PileLiftsModel" "length" "[I", Cond.fieldLink "PileLiftsModel" 23 "PileLiftsModel" "time" "[I", Cond.fieldLink "PileLiftsModel" 26 "PileLiftsModel" "wagonOf" "[I", Cond.fieldLink "PileLiftsModel" 29 "PileLiftsModel" "lies" "[I", Cond.fieldLink "PileLiftsModel" 32 "PileLiftsModel" "high" "[I", Cond.fieldLink "PileLiftsModel" 35 "PileLiftsModel" "left" "[I", Cond.fieldLink "PileLiftsModel" 38 "PileLiftsModel" "choice" "[I", Cond.fieldLink "PileLiftsModel" 41 "PileLiftsModel" "movePiece" "[I", Cond.fieldLink "PileLiftsModel" 44 "PileLiftsModel" "moveTo" "[I", Cond.fieldLink "PileLiftsModel" 47 "PileLiftsModel" "many" "[I", Cond.fieldLink "PileLiftsModel" 66 "PileLiftsModel" "searched" "Z", Cond.fieldLink "PileLiftsModel" 134 "PileLiftsModel" "proved" "Z", Cond.fieldLink "PileLiftsModel" 70 "PileLiftsModel" "planned" "Z", Cond.fieldLink "PileLiftsModel" 127 "PileLiftsModel" "planMoves" "I", Cond.fieldLink "PileLiftsModel" 77 "PileLiftsModel" "wagons" "I", Cond.fieldLink "PileLiftsModel" 50 "PileLiftsModel" "axle" "[I", Cond.fieldLink "PileLiftsModel" 53 "PileLiftsModel" "loaded" "[I", Cond.lays "PileLiftsModel" "PileLiftsModel" "thrown" "I", Cond.lays "PileLiftsModel" "PileLiftsModel" "piles" "I", Cond.lays "PileLiftsModel" "PileLiftsModel" "levels" "I", Cond.lays "PileLiftsModel" "PileLiftsModel" "pieces" "I", Cond.laysFinal "PileLiftsModel" "PileLiftsModel" "kilos" "[I", Cond.laysFinal "PileLiftsModel" "PileLiftsModel" "length" "[I", Cond.laysFinal "PileLiftsModel" "PileLiftsModel" "time" "[I", Cond.laysFinal "PileLiftsModel" "PileLiftsModel" "wagonOf" "[I", Cond.laysFinal "PileLiftsModel" "PileLiftsModel" "lies" "[I", Cond.laysFinal "PileLiftsModel" "PileLiftsModel" "high" "[I", Cond.laysFinal "PileLiftsModel" "PileLiftsModel" "left" "[I", Cond.laysFinal "PileLiftsModel" "PileLiftsModel" "choice" "[I", Cond.laysFinal "PileLiftsModel" "PileLiftsModel" "movePiece" "[I"]
def wsM_1 : List Cond := [Cond.laysFinal "PileLiftsModel" "PileLiftsModel" "moveTo" "[I", Cond.laysFinal "PileLiftsModel" "PileLiftsModel" "many" "[I", Cond.lays "PileLiftsModel" "PileLiftsModel" "searched" "Z", Cond.lays "PileLiftsModel" "PileLiftsModel" "proved" "Z", Cond.lays "PileLiftsModel" "PileLiftsModel" "planned" "Z", Cond.lays "PileLiftsModel" "PileLiftsModel" "planMoves" "I", Cond.lays "PileLiftsModel" "PileLiftsModel" "wagons" "I", Cond.laysFinal "PileLiftsModel" "PileLiftsModel" "axle" "[I", Cond.laysFinal "PileLiftsModel" "PileLiftsModel" "loaded" "[I", Cond.instanceMethod y_M_thrown, Cond.selects "PileLiftsModel" y_M_thrown y_M_thrown, Cond.code y_M_thrown prog_6_method_2_code 1 (some .int), Cond.instanceMethod y_M_piles, Cond.selects "PileLiftsModel" y_M_piles y_M_piles, Cond.code y_M_piles prog_6_method_8_code 4 none, Cond.methodLink "PileLiftsModel" 62 y_M_in, Cond.static y_M_in, Cond.code y_M_in prog_6_method_3_code 3 (some .boolean), Cond.methodLink "PileLiftsModel" 73 y_M_goes, Cond.instanceMethod y_M_goes, Cond.code y_M_goes prog_6_method_4_code 4 (some .boolean), Cond.methodLink "PileLiftsModel" 80 y_M_changed, Cond.instanceMethod y_M_changed, Cond.code y_M_changed prog_6_method_6_code 1 none, Cond.instanceMethod y_M_put, Cond.selects "PileLiftsModel" y_M_put y_M_put, Cond.code y_M_put prog_6_method_10_code 5 (some .int), Cond.methodLink "PileLiftsModel" 87 y_M_takes, Cond.instanceMethod y_M_takes, Cond.code y_M_takes prog_6_method_9_code 5 (some .boolean), Cond.methodLink "PileLiftsModel" 83 y_M_cell, Cond.static y_M_cell, Cond.code y_M_cell prog_6_method_7_code 3 (some .int), Cond.instanceMethod y_M_want, Cond.selects "PileLiftsModel" y_M_want y_M_want, Cond.code y_M_want prog_6_method_12_code 3 none, Cond.methodLink "PileLiftsModel" 90 y_M_isPiece, Cond.instanceMethod y_M_isPiece, Cond.code y_M_isPiece prog_6_method_5_code 2 (some .boolean), Cond.methodLink "PileLiftsModel" 94 y_M_isGone]
def wsM_2 : List Cond := [Cond.instanceMethod y_M_isGone, Cond.code y_M_isGone prog_6_method_11_code 3 (some .boolean), Cond.instanceMethod y_M_may, Cond.selects "PileLiftsModel" y_M_may y_M_may, Cond.code y_M_may prog_6_method_13_code 3 (some .boolean), Cond.instanceMethod y_M_bound, Cond.selects "PileLiftsModel" y_M_bound y_M_bound, Cond.code y_M_bound prog_6_method_17_code 1 (some .int), Cond.methodLink "PileLiftsModel" 105 y_M_boundAt, Cond.instanceMethod y_M_boundAt, Cond.code y_M_boundAt prog_6_method_16_code 5 (some .int), Cond.methodLink "PileLiftsModel" 101 y_M_blocksOn, Cond.instanceMethod y_M_blocksOn, Cond.code y_M_blocksOn prog_6_method_15_code 6 (some .boolean), Cond.methodLink "PileLiftsModel" 98 y_M_isAhead, Cond.instanceMethod y_M_isAhead, Cond.code y_M_isAhead prog_6_method_14_code 3 (some .boolean), Cond.instanceMethod y_M_run, Cond.selects "PileLiftsModel" y_M_run y_M_run, Cond.code y_M_run prog_6_method_25_code 5 (some .int), Cond.constant "PileLiftsModel" 133 (100000 : Int32), Cond.methodLink "PileLiftsModel" 137 y_M_round, Cond.instanceMethod y_M_round, Cond.code y_M_round prog_6_method_24_code 9 (some .int), Cond.methodLink "PileLiftsModel" 120 y_M_copy, Cond.instanceMethod y_M_copy, Cond.code y_M_copy prog_6_method_18_code 4 none, Cond.methodLink "PileLiftsModel" 124 y_M_leaves, Cond.instanceMethod y_M_leaves, Cond.code y_M_leaves prog_6_method_23_code 5 (some .boolean), Cond.methodLink "PileLiftsModel" 113 y_M_nextWanted, Cond.instanceMethod y_M_nextWanted, Cond.code y_M_nextWanted prog_6_method_22_code 4 (some .int), Cond.methodLink "PileLiftsModel" 109 y_M_topOf, Cond.instanceMethod y_M_topOf, Cond.code y_M_topOf prog_6_method_20_code 3 (some .int), Cond.methodLink "PileLiftsModel" 116 y_M_says, Cond.instanceMethod y_M_says, Cond.code y_M_says prog_6_method_19_code 4 none, Cond.methodLink "PileLiftsModel" 130 y_M_lift]
def wsM_3 : List Cond := [Cond.instanceMethod y_M_lift, Cond.code y_M_lift prog_6_method_21_code 5 none, Cond.instanceMethod y_M_proved, Cond.selects "PileLiftsModel" y_M_proved y_M_proved, Cond.code y_M_proved prog_6_method_26_code 1 (some .boolean), Cond.instanceMethod y_M_moves, Cond.selects "PileLiftsModel" y_M_moves y_M_moves, Cond.code y_M_moves prog_6_method_27_code 1 (some .int), Cond.instanceMethod y_M_move, Cond.selects "PileLiftsModel" y_M_move y_M_move, Cond.code y_M_move prog_6_method_28_code 3 (some .int), Cond.instanceMethod y_M_replay, Cond.selects "PileLiftsModel" y_M_replay y_M_replay, Cond.code y_M_replay prog_6_method_29_code 4 (some .int), Cond.instanceMethod y_M_at, Cond.selects "PileLiftsModel" y_M_at y_M_at, Cond.code y_M_at prog_6_method_30_code 5 (some .int), Cond.instanceMethod y_M_tidy, Cond.selects "PileLiftsModel" y_M_tidy y_M_tidy, Cond.code y_M_tidy prog_6_method_32_code 3 (some .int), Cond.methodLink "PileLiftsModel" 140 y_M_tidies, Cond.instanceMethod y_M_tidies, Cond.code y_M_tidies prog_6_method_31_code 4 (some .boolean), Cond.instanceMethod y_M_wagon, Cond.selects "PileLiftsModel" y_M_wagon y_M_wagon, Cond.code y_M_wagon prog_6_method_33_code 2 (some .int), Cond.instanceMethod y_M_load, Cond.selects "PileLiftsModel" y_M_load y_M_load, Cond.code y_M_load prog_6_method_34_code 4 (some .int), Cond.selects "PileLiftsModel" y_M_goes y_M_goes, Cond.selects "PileLiftsModel" y_M_changed y_M_changed, Cond.selects "PileLiftsModel" y_M_takes y_M_takes, Cond.selects "PileLiftsModel" y_M_isPiece y_M_isPiece, Cond.selects "PileLiftsModel" y_M_isGone y_M_isGone, Cond.selects "PileLiftsModel" y_M_boundAt y_M_boundAt, Cond.selects "PileLiftsModel" y_M_blocksOn y_M_blocksOn, Cond.selects "PileLiftsModel" y_M_isAhead y_M_isAhead, Cond.selects "PileLiftsModel" y_M_round y_M_round, Cond.selects "PileLiftsModel" y_M_copy y_M_copy, Cond.selects "PileLiftsModel" y_M_leaves y_M_leaves]
def wsM_4 : List Cond := [Cond.selects "PileLiftsModel" y_M_nextWanted y_M_nextWanted, Cond.selects "PileLiftsModel" y_M_topOf y_M_topOf, Cond.selects "PileLiftsModel" y_M_says y_M_says, Cond.selects "PileLiftsModel" y_M_lift y_M_lift, Cond.selects "PileLiftsModel" y_M_tidies y_M_tidies, Cond.instanceMethod objectInit, Cond.code objectInit ⟨#[0xb1]⟩ 1 none, Cond.arrayClass .int]
def wsM : List Cond := wsM_0 ++ (wsM_1 ++ (wsM_2 ++ (wsM_3 ++ (wsM_4))))
theorem mM_0 : Cond.initialized "PileLiftsModel" ∈ wsM := List.mem_append_left _ (List.mem_of_getElem? (i := 0) rfl)
theorem mM_1 : Cond.instantiable "PileLiftsModel" 22 ∈ wsM := List.mem_append_left _ (List.mem_of_getElem? (i := 1) rfl)
theorem mM_2 : Cond.instanceMethod y_M_init ∈ wsM := List.mem_append_left _ (List.mem_of_getElem? (i := 2) rfl)
theorem mM_3 : Cond.code y_M_init prog_6_method_1_code 1 none ∈ wsM := List.mem_append_left _ (List.mem_of_getElem? (i := 3) rfl)
theorem mM_4 : Cond.methodLink "PileLiftsModel" 1 ⟨"java/lang/Object", "<init>", "()V"⟩ ∈ wsM := List.mem_append_left _ (List.mem_of_getElem? (i := 4) rfl)
theorem mM_5 : Cond.fieldLink "PileLiftsModel" 56 "PileLiftsModel" "thrown" "I" ∈ wsM := List.mem_append_left _ (List.mem_of_getElem? (i := 5) rfl)
theorem mM_6 : Cond.fieldLink "PileLiftsModel" 7 "PileLiftsModel" "piles" "I" ∈ wsM := List.mem_append_left _ (List.mem_of_getElem? (i := 6) rfl)
theorem mM_7 : Cond.fieldLink "PileLiftsModel" 13 "PileLiftsModel" "levels" "I" ∈ wsM := List.mem_append_left _ (List.mem_of_getElem? (i := 7) rfl)
theorem mM_8 : Cond.fieldLink "PileLiftsModel" 59 "PileLiftsModel" "pieces" "I" ∈ wsM := List.mem_append_left _ (List.mem_of_getElem? (i := 8) rfl)
theorem mM_9 : Cond.fieldLink "PileLiftsModel" 16 "PileLiftsModel" "kilos" "[I" ∈ wsM := List.mem_append_left _ (List.mem_of_getElem? (i := 9) rfl)
theorem mM_10 : Cond.fieldLink "PileLiftsModel" 20 "PileLiftsModel" "length" "[I" ∈ wsM := List.mem_append_left _ (List.mem_of_getElem? (i := 10) rfl)
theorem mM_11 : Cond.fieldLink "PileLiftsModel" 23 "PileLiftsModel" "time" "[I" ∈ wsM := List.mem_append_left _ (List.mem_of_getElem? (i := 11) rfl)
theorem mM_12 : Cond.fieldLink "PileLiftsModel" 26 "PileLiftsModel" "wagonOf" "[I" ∈ wsM := List.mem_append_left _ (List.mem_of_getElem? (i := 12) rfl)
theorem mM_13 : Cond.fieldLink "PileLiftsModel" 29 "PileLiftsModel" "lies" "[I" ∈ wsM := List.mem_append_left _ (List.mem_of_getElem? (i := 13) rfl)
theorem mM_14 : Cond.fieldLink "PileLiftsModel" 32 "PileLiftsModel" "high" "[I" ∈ wsM := List.mem_append_left _ (List.mem_of_getElem? (i := 14) rfl)
theorem mM_15 : Cond.fieldLink "PileLiftsModel" 35 "PileLiftsModel" "left" "[I" ∈ wsM := List.mem_append_left _ (List.mem_of_getElem? (i := 15) rfl)
theorem mM_16 : Cond.fieldLink "PileLiftsModel" 38 "PileLiftsModel" "choice" "[I" ∈ wsM := List.mem_append_left _ (List.mem_of_getElem? (i := 16) rfl)
theorem mM_17 : Cond.fieldLink "PileLiftsModel" 41 "PileLiftsModel" "movePiece" "[I" ∈ wsM := List.mem_append_left _ (List.mem_of_getElem? (i := 17) rfl)
theorem mM_18 : Cond.fieldLink "PileLiftsModel" 44 "PileLiftsModel" "moveTo" "[I" ∈ wsM := List.mem_append_left _ (List.mem_of_getElem? (i := 18) rfl)
theorem mM_19 : Cond.fieldLink "PileLiftsModel" 47 "PileLiftsModel" "many" "[I" ∈ wsM := List.mem_append_left _ (List.mem_of_getElem? (i := 19) rfl)
theorem mM_20 : Cond.fieldLink "PileLiftsModel" 66 "PileLiftsModel" "searched" "Z" ∈ wsM := List.mem_append_left _ (List.mem_of_getElem? (i := 20) rfl)
theorem mM_21 : Cond.fieldLink "PileLiftsModel" 134 "PileLiftsModel" "proved" "Z" ∈ wsM := List.mem_append_left _ (List.mem_of_getElem? (i := 21) rfl)
theorem mM_22 : Cond.fieldLink "PileLiftsModel" 70 "PileLiftsModel" "planned" "Z" ∈ wsM := List.mem_append_left _ (List.mem_of_getElem? (i := 22) rfl)
theorem mM_23 : Cond.fieldLink "PileLiftsModel" 127 "PileLiftsModel" "planMoves" "I" ∈ wsM := List.mem_append_left _ (List.mem_of_getElem? (i := 23) rfl)
theorem mM_24 : Cond.fieldLink "PileLiftsModel" 77 "PileLiftsModel" "wagons" "I" ∈ wsM := List.mem_append_left _ (List.mem_of_getElem? (i := 24) rfl)
theorem mM_25 : Cond.fieldLink "PileLiftsModel" 50 "PileLiftsModel" "axle" "[I" ∈ wsM := List.mem_append_left _ (List.mem_of_getElem? (i := 25) rfl)
theorem mM_26 : Cond.fieldLink "PileLiftsModel" 53 "PileLiftsModel" "loaded" "[I" ∈ wsM := List.mem_append_left _ (List.mem_of_getElem? (i := 26) rfl)
theorem mM_27 : Cond.lays "PileLiftsModel" "PileLiftsModel" "thrown" "I" ∈ wsM := List.mem_append_left _ (List.mem_of_getElem? (i := 27) rfl)
theorem mM_28 : Cond.lays "PileLiftsModel" "PileLiftsModel" "piles" "I" ∈ wsM := List.mem_append_left _ (List.mem_of_getElem? (i := 28) rfl)
theorem mM_29 : Cond.lays "PileLiftsModel" "PileLiftsModel" "levels" "I" ∈ wsM := List.mem_append_left _ (List.mem_of_getElem? (i := 29) rfl)
theorem mM_30 : Cond.lays "PileLiftsModel" "PileLiftsModel" "pieces" "I" ∈ wsM := List.mem_append_left _ (List.mem_of_getElem? (i := 30) rfl)
theorem mM_31 : Cond.laysFinal "PileLiftsModel" "PileLiftsModel" "kilos" "[I" ∈ wsM := List.mem_append_left _ (List.mem_of_getElem? (i := 31) rfl)
theorem mM_32 : Cond.laysFinal "PileLiftsModel" "PileLiftsModel" "length" "[I" ∈ wsM := List.mem_append_left _ (List.mem_of_getElem? (i := 32) rfl)
theorem mM_33 : Cond.laysFinal "PileLiftsModel" "PileLiftsModel" "time" "[I" ∈ wsM := List.mem_append_left _ (List.mem_of_getElem? (i := 33) rfl)
theorem mM_34 : Cond.laysFinal "PileLiftsModel" "PileLiftsModel" "wagonOf" "[I" ∈ wsM := List.mem_append_left _ (List.mem_of_getElem? (i := 34) rfl)
theorem mM_35 : Cond.laysFinal "PileLiftsModel" "PileLiftsModel" "lies" "[I" ∈ wsM := List.mem_append_left _ (List.mem_of_getElem? (i := 35) rfl)
theorem mM_36 : Cond.laysFinal "PileLiftsModel" "PileLiftsModel" "high" "[I" ∈ wsM := List.mem_append_left _ (List.mem_of_getElem? (i := 36) rfl)
theorem mM_37 : Cond.laysFinal "PileLiftsModel" "PileLiftsModel" "left" "[I" ∈ wsM := List.mem_append_left _ (List.mem_of_getElem? (i := 37) rfl)
theorem mM_38 : Cond.laysFinal "PileLiftsModel" "PileLiftsModel" "choice" "[I" ∈ wsM := List.mem_append_left _ (List.mem_of_getElem? (i := 38) rfl)
theorem mM_39 : Cond.laysFinal "PileLiftsModel" "PileLiftsModel" "movePiece" "[I" ∈ wsM := List.mem_append_left _ (List.mem_of_getElem? (i := 39) rfl)
theorem mM_40 : Cond.laysFinal "PileLiftsModel" "PileLiftsModel" "moveTo" "[I" ∈ wsM := List.mem_append_right _ (List.mem_append_left _ (List.mem_of_getElem? (i := 0) rfl))
theorem mM_41 : Cond.laysFinal "PileLiftsModel" "PileLiftsModel" "many" "[I" ∈ wsM := List.mem_append_right _ (List.mem_append_left _ (List.mem_of_getElem? (i := 1) rfl))
theorem mM_42 : Cond.lays "PileLiftsModel" "PileLiftsModel" "searched" "Z" ∈ wsM := List.mem_append_right _ (List.mem_append_left _ (List.mem_of_getElem? (i := 2) rfl))
theorem mM_43 : Cond.lays "PileLiftsModel" "PileLiftsModel" "proved" "Z" ∈ wsM := List.mem_append_right _ (List.mem_append_left _ (List.mem_of_getElem? (i := 3) rfl))
theorem mM_44 : Cond.lays "PileLiftsModel" "PileLiftsModel" "planned" "Z" ∈ wsM := List.mem_append_right _ (List.mem_append_left _ (List.mem_of_getElem? (i := 4) rfl))
theorem mM_45 : Cond.lays "PileLiftsModel" "PileLiftsModel" "planMoves" "I" ∈ wsM := List.mem_append_right _ (List.mem_append_left _ (List.mem_of_getElem? (i := 5) rfl))
theorem mM_46 : Cond.lays "PileLiftsModel" "PileLiftsModel" "wagons" "I" ∈ wsM := List.mem_append_right _ (List.mem_append_left _ (List.mem_of_getElem? (i := 6) rfl))
theorem mM_47 : Cond.laysFinal "PileLiftsModel" "PileLiftsModel" "axle" "[I" ∈ wsM := List.mem_append_right _ (List.mem_append_left _ (List.mem_of_getElem? (i := 7) rfl))
theorem mM_48 : Cond.laysFinal "PileLiftsModel" "PileLiftsModel" "loaded" "[I" ∈ wsM := List.mem_append_right _ (List.mem_append_left _ (List.mem_of_getElem? (i := 8) rfl))
theorem mM_49 : Cond.instanceMethod y_M_thrown ∈ wsM := List.mem_append_right _ (List.mem_append_left _ (List.mem_of_getElem? (i := 9) rfl))
theorem mM_50 : Cond.selects "PileLiftsModel" y_M_thrown y_M_thrown ∈ wsM := List.mem_append_right _ (List.mem_append_left _ (List.mem_of_getElem? (i := 10) rfl))
theorem mM_51 : Cond.code y_M_thrown prog_6_method_2_code 1 (some .int) ∈ wsM := List.mem_append_right _ (List.mem_append_left _ (List.mem_of_getElem? (i := 11) rfl))
theorem mM_52 : Cond.instanceMethod y_M_piles ∈ wsM := List.mem_append_right _ (List.mem_append_left _ (List.mem_of_getElem? (i := 12) rfl))
theorem mM_53 : Cond.selects "PileLiftsModel" y_M_piles y_M_piles ∈ wsM := List.mem_append_right _ (List.mem_append_left _ (List.mem_of_getElem? (i := 13) rfl))
theorem mM_54 : Cond.code y_M_piles prog_6_method_8_code 4 none ∈ wsM := List.mem_append_right _ (List.mem_append_left _ (List.mem_of_getElem? (i := 14) rfl))
theorem mM_55 : Cond.methodLink "PileLiftsModel" 62 y_M_in ∈ wsM := List.mem_append_right _ (List.mem_append_left _ (List.mem_of_getElem? (i := 15) rfl))
theorem mM_56 : Cond.static y_M_in ∈ wsM := List.mem_append_right _ (List.mem_append_left _ (List.mem_of_getElem? (i := 16) rfl))
theorem mM_57 : Cond.code y_M_in prog_6_method_3_code 3 (some .boolean) ∈ wsM := List.mem_append_right _ (List.mem_append_left _ (List.mem_of_getElem? (i := 17) rfl))
theorem mM_58 : Cond.methodLink "PileLiftsModel" 73 y_M_goes ∈ wsM := List.mem_append_right _ (List.mem_append_left _ (List.mem_of_getElem? (i := 18) rfl))
theorem mM_59 : Cond.instanceMethod y_M_goes ∈ wsM := List.mem_append_right _ (List.mem_append_left _ (List.mem_of_getElem? (i := 19) rfl))
theorem mM_60 : Cond.code y_M_goes prog_6_method_4_code 4 (some .boolean) ∈ wsM := List.mem_append_right _ (List.mem_append_left _ (List.mem_of_getElem? (i := 20) rfl))
theorem mM_61 : Cond.methodLink "PileLiftsModel" 80 y_M_changed ∈ wsM := List.mem_append_right _ (List.mem_append_left _ (List.mem_of_getElem? (i := 21) rfl))
theorem mM_62 : Cond.instanceMethod y_M_changed ∈ wsM := List.mem_append_right _ (List.mem_append_left _ (List.mem_of_getElem? (i := 22) rfl))
theorem mM_63 : Cond.code y_M_changed prog_6_method_6_code 1 none ∈ wsM := List.mem_append_right _ (List.mem_append_left _ (List.mem_of_getElem? (i := 23) rfl))
theorem mM_64 : Cond.instanceMethod y_M_put ∈ wsM := List.mem_append_right _ (List.mem_append_left _ (List.mem_of_getElem? (i := 24) rfl))
theorem mM_65 : Cond.selects "PileLiftsModel" y_M_put y_M_put ∈ wsM := List.mem_append_right _ (List.mem_append_left _ (List.mem_of_getElem? (i := 25) rfl))
theorem mM_66 : Cond.code y_M_put prog_6_method_10_code 5 (some .int) ∈ wsM := List.mem_append_right _ (List.mem_append_left _ (List.mem_of_getElem? (i := 26) rfl))
theorem mM_67 : Cond.methodLink "PileLiftsModel" 87 y_M_takes ∈ wsM := List.mem_append_right _ (List.mem_append_left _ (List.mem_of_getElem? (i := 27) rfl))
theorem mM_68 : Cond.instanceMethod y_M_takes ∈ wsM := List.mem_append_right _ (List.mem_append_left _ (List.mem_of_getElem? (i := 28) rfl))
theorem mM_69 : Cond.code y_M_takes prog_6_method_9_code 5 (some .boolean) ∈ wsM := List.mem_append_right _ (List.mem_append_left _ (List.mem_of_getElem? (i := 29) rfl))
theorem mM_70 : Cond.methodLink "PileLiftsModel" 83 y_M_cell ∈ wsM := List.mem_append_right _ (List.mem_append_left _ (List.mem_of_getElem? (i := 30) rfl))
theorem mM_71 : Cond.static y_M_cell ∈ wsM := List.mem_append_right _ (List.mem_append_left _ (List.mem_of_getElem? (i := 31) rfl))
theorem mM_72 : Cond.code y_M_cell prog_6_method_7_code 3 (some .int) ∈ wsM := List.mem_append_right _ (List.mem_append_left _ (List.mem_of_getElem? (i := 32) rfl))
theorem mM_73 : Cond.instanceMethod y_M_want ∈ wsM := List.mem_append_right _ (List.mem_append_left _ (List.mem_of_getElem? (i := 33) rfl))
theorem mM_74 : Cond.selects "PileLiftsModel" y_M_want y_M_want ∈ wsM := List.mem_append_right _ (List.mem_append_left _ (List.mem_of_getElem? (i := 34) rfl))
theorem mM_75 : Cond.code y_M_want prog_6_method_12_code 3 none ∈ wsM := List.mem_append_right _ (List.mem_append_left _ (List.mem_of_getElem? (i := 35) rfl))
theorem mM_76 : Cond.methodLink "PileLiftsModel" 90 y_M_isPiece ∈ wsM := List.mem_append_right _ (List.mem_append_left _ (List.mem_of_getElem? (i := 36) rfl))
theorem mM_77 : Cond.instanceMethod y_M_isPiece ∈ wsM := List.mem_append_right _ (List.mem_append_left _ (List.mem_of_getElem? (i := 37) rfl))
theorem mM_78 : Cond.code y_M_isPiece prog_6_method_5_code 2 (some .boolean) ∈ wsM := List.mem_append_right _ (List.mem_append_left _ (List.mem_of_getElem? (i := 38) rfl))
theorem mM_79 : Cond.methodLink "PileLiftsModel" 94 y_M_isGone ∈ wsM := List.mem_append_right _ (List.mem_append_left _ (List.mem_of_getElem? (i := 39) rfl))
theorem mM_80 : Cond.instanceMethod y_M_isGone ∈ wsM := List.mem_append_right _ (List.mem_append_right _ (List.mem_append_left _ (List.mem_of_getElem? (i := 0) rfl)))
theorem mM_81 : Cond.code y_M_isGone prog_6_method_11_code 3 (some .boolean) ∈ wsM := List.mem_append_right _ (List.mem_append_right _ (List.mem_append_left _ (List.mem_of_getElem? (i := 1) rfl)))
theorem mM_82 : Cond.instanceMethod y_M_may ∈ wsM := List.mem_append_right _ (List.mem_append_right _ (List.mem_append_left _ (List.mem_of_getElem? (i := 2) rfl)))
theorem mM_83 : Cond.selects "PileLiftsModel" y_M_may y_M_may ∈ wsM := List.mem_append_right _ (List.mem_append_right _ (List.mem_append_left _ (List.mem_of_getElem? (i := 3) rfl)))
theorem mM_84 : Cond.code y_M_may prog_6_method_13_code 3 (some .boolean) ∈ wsM := List.mem_append_right _ (List.mem_append_right _ (List.mem_append_left _ (List.mem_of_getElem? (i := 4) rfl)))
theorem mM_85 : Cond.instanceMethod y_M_bound ∈ wsM := List.mem_append_right _ (List.mem_append_right _ (List.mem_append_left _ (List.mem_of_getElem? (i := 5) rfl)))
theorem mM_86 : Cond.selects "PileLiftsModel" y_M_bound y_M_bound ∈ wsM := List.mem_append_right _ (List.mem_append_right _ (List.mem_append_left _ (List.mem_of_getElem? (i := 6) rfl)))
theorem mM_87 : Cond.code y_M_bound prog_6_method_17_code 1 (some .int) ∈ wsM := List.mem_append_right _ (List.mem_append_right _ (List.mem_append_left _ (List.mem_of_getElem? (i := 7) rfl)))
theorem mM_88 : Cond.methodLink "PileLiftsModel" 105 y_M_boundAt ∈ wsM := List.mem_append_right _ (List.mem_append_right _ (List.mem_append_left _ (List.mem_of_getElem? (i := 8) rfl)))
theorem mM_89 : Cond.instanceMethod y_M_boundAt ∈ wsM := List.mem_append_right _ (List.mem_append_right _ (List.mem_append_left _ (List.mem_of_getElem? (i := 9) rfl)))
theorem mM_90 : Cond.code y_M_boundAt prog_6_method_16_code 5 (some .int) ∈ wsM := List.mem_append_right _ (List.mem_append_right _ (List.mem_append_left _ (List.mem_of_getElem? (i := 10) rfl)))
theorem mM_91 : Cond.methodLink "PileLiftsModel" 101 y_M_blocksOn ∈ wsM := List.mem_append_right _ (List.mem_append_right _ (List.mem_append_left _ (List.mem_of_getElem? (i := 11) rfl)))
theorem mM_92 : Cond.instanceMethod y_M_blocksOn ∈ wsM := List.mem_append_right _ (List.mem_append_right _ (List.mem_append_left _ (List.mem_of_getElem? (i := 12) rfl)))
theorem mM_93 : Cond.code y_M_blocksOn prog_6_method_15_code 6 (some .boolean) ∈ wsM := List.mem_append_right _ (List.mem_append_right _ (List.mem_append_left _ (List.mem_of_getElem? (i := 13) rfl)))
theorem mM_94 : Cond.methodLink "PileLiftsModel" 98 y_M_isAhead ∈ wsM := List.mem_append_right _ (List.mem_append_right _ (List.mem_append_left _ (List.mem_of_getElem? (i := 14) rfl)))
theorem mM_95 : Cond.instanceMethod y_M_isAhead ∈ wsM := List.mem_append_right _ (List.mem_append_right _ (List.mem_append_left _ (List.mem_of_getElem? (i := 15) rfl)))
theorem mM_96 : Cond.code y_M_isAhead prog_6_method_14_code 3 (some .boolean) ∈ wsM := List.mem_append_right _ (List.mem_append_right _ (List.mem_append_left _ (List.mem_of_getElem? (i := 16) rfl)))
theorem mM_97 : Cond.instanceMethod y_M_run ∈ wsM := List.mem_append_right _ (List.mem_append_right _ (List.mem_append_left _ (List.mem_of_getElem? (i := 17) rfl)))
theorem mM_98 : Cond.selects "PileLiftsModel" y_M_run y_M_run ∈ wsM := List.mem_append_right _ (List.mem_append_right _ (List.mem_append_left _ (List.mem_of_getElem? (i := 18) rfl)))
theorem mM_99 : Cond.code y_M_run prog_6_method_25_code 5 (some .int) ∈ wsM := List.mem_append_right _ (List.mem_append_right _ (List.mem_append_left _ (List.mem_of_getElem? (i := 19) rfl)))
theorem mM_100 : Cond.constant "PileLiftsModel" 133 (100000 : Int32) ∈ wsM := List.mem_append_right _ (List.mem_append_right _ (List.mem_append_left _ (List.mem_of_getElem? (i := 20) rfl)))
theorem mM_101 : Cond.methodLink "PileLiftsModel" 137 y_M_round ∈ wsM := List.mem_append_right _ (List.mem_append_right _ (List.mem_append_left _ (List.mem_of_getElem? (i := 21) rfl)))
theorem mM_102 : Cond.instanceMethod y_M_round ∈ wsM := List.mem_append_right _ (List.mem_append_right _ (List.mem_append_left _ (List.mem_of_getElem? (i := 22) rfl)))
theorem mM_103 : Cond.code y_M_round prog_6_method_24_code 9 (some .int) ∈ wsM := List.mem_append_right _ (List.mem_append_right _ (List.mem_append_left _ (List.mem_of_getElem? (i := 23) rfl)))
theorem mM_104 : Cond.methodLink "PileLiftsModel" 120 y_M_copy ∈ wsM := List.mem_append_right _ (List.mem_append_right _ (List.mem_append_left _ (List.mem_of_getElem? (i := 24) rfl)))
theorem mM_105 : Cond.instanceMethod y_M_copy ∈ wsM := List.mem_append_right _ (List.mem_append_right _ (List.mem_append_left _ (List.mem_of_getElem? (i := 25) rfl)))
theorem mM_106 : Cond.code y_M_copy prog_6_method_18_code 4 none ∈ wsM := List.mem_append_right _ (List.mem_append_right _ (List.mem_append_left _ (List.mem_of_getElem? (i := 26) rfl)))
theorem mM_107 : Cond.methodLink "PileLiftsModel" 124 y_M_leaves ∈ wsM := List.mem_append_right _ (List.mem_append_right _ (List.mem_append_left _ (List.mem_of_getElem? (i := 27) rfl)))
theorem mM_108 : Cond.instanceMethod y_M_leaves ∈ wsM := List.mem_append_right _ (List.mem_append_right _ (List.mem_append_left _ (List.mem_of_getElem? (i := 28) rfl)))
theorem mM_109 : Cond.code y_M_leaves prog_6_method_23_code 5 (some .boolean) ∈ wsM := List.mem_append_right _ (List.mem_append_right _ (List.mem_append_left _ (List.mem_of_getElem? (i := 29) rfl)))
theorem mM_110 : Cond.methodLink "PileLiftsModel" 113 y_M_nextWanted ∈ wsM := List.mem_append_right _ (List.mem_append_right _ (List.mem_append_left _ (List.mem_of_getElem? (i := 30) rfl)))
theorem mM_111 : Cond.instanceMethod y_M_nextWanted ∈ wsM := List.mem_append_right _ (List.mem_append_right _ (List.mem_append_left _ (List.mem_of_getElem? (i := 31) rfl)))
theorem mM_112 : Cond.code y_M_nextWanted prog_6_method_22_code 4 (some .int) ∈ wsM := List.mem_append_right _ (List.mem_append_right _ (List.mem_append_left _ (List.mem_of_getElem? (i := 32) rfl)))
theorem mM_113 : Cond.methodLink "PileLiftsModel" 109 y_M_topOf ∈ wsM := List.mem_append_right _ (List.mem_append_right _ (List.mem_append_left _ (List.mem_of_getElem? (i := 33) rfl)))
theorem mM_114 : Cond.instanceMethod y_M_topOf ∈ wsM := List.mem_append_right _ (List.mem_append_right _ (List.mem_append_left _ (List.mem_of_getElem? (i := 34) rfl)))
theorem mM_115 : Cond.code y_M_topOf prog_6_method_20_code 3 (some .int) ∈ wsM := List.mem_append_right _ (List.mem_append_right _ (List.mem_append_left _ (List.mem_of_getElem? (i := 35) rfl)))
theorem mM_116 : Cond.methodLink "PileLiftsModel" 116 y_M_says ∈ wsM := List.mem_append_right _ (List.mem_append_right _ (List.mem_append_left _ (List.mem_of_getElem? (i := 36) rfl)))
theorem mM_117 : Cond.instanceMethod y_M_says ∈ wsM := List.mem_append_right _ (List.mem_append_right _ (List.mem_append_left _ (List.mem_of_getElem? (i := 37) rfl)))
theorem mM_118 : Cond.code y_M_says prog_6_method_19_code 4 none ∈ wsM := List.mem_append_right _ (List.mem_append_right _ (List.mem_append_left _ (List.mem_of_getElem? (i := 38) rfl)))
theorem mM_119 : Cond.methodLink "PileLiftsModel" 130 y_M_lift ∈ wsM := List.mem_append_right _ (List.mem_append_right _ (List.mem_append_left _ (List.mem_of_getElem? (i := 39) rfl)))
theorem mM_120 : Cond.instanceMethod y_M_lift ∈ wsM := List.mem_append_right _ (List.mem_append_right _ (List.mem_append_right _ (List.mem_append_left _ (List.mem_of_getElem? (i := 0) rfl))))
theorem mM_121 : Cond.code y_M_lift prog_6_method_21_code 5 none ∈ wsM := List.mem_append_right _ (List.mem_append_right _ (List.mem_append_right _ (List.mem_append_left _ (List.mem_of_getElem? (i := 1) rfl))))
theorem mM_122 : Cond.instanceMethod y_M_proved ∈ wsM := List.mem_append_right _ (List.mem_append_right _ (List.mem_append_right _ (List.mem_append_left _ (List.mem_of_getElem? (i := 2) rfl))))
theorem mM_123 : Cond.selects "PileLiftsModel" y_M_proved y_M_proved ∈ wsM := List.mem_append_right _ (List.mem_append_right _ (List.mem_append_right _ (List.mem_append_left _ (List.mem_of_getElem? (i := 3) rfl))))
theorem mM_124 : Cond.code y_M_proved prog_6_method_26_code 1 (some .boolean) ∈ wsM := List.mem_append_right _ (List.mem_append_right _ (List.mem_append_right _ (List.mem_append_left _ (List.mem_of_getElem? (i := 4) rfl))))
theorem mM_125 : Cond.instanceMethod y_M_moves ∈ wsM := List.mem_append_right _ (List.mem_append_right _ (List.mem_append_right _ (List.mem_append_left _ (List.mem_of_getElem? (i := 5) rfl))))
theorem mM_126 : Cond.selects "PileLiftsModel" y_M_moves y_M_moves ∈ wsM := List.mem_append_right _ (List.mem_append_right _ (List.mem_append_right _ (List.mem_append_left _ (List.mem_of_getElem? (i := 6) rfl))))
theorem mM_127 : Cond.code y_M_moves prog_6_method_27_code 1 (some .int) ∈ wsM := List.mem_append_right _ (List.mem_append_right _ (List.mem_append_right _ (List.mem_append_left _ (List.mem_of_getElem? (i := 7) rfl))))
theorem mM_128 : Cond.instanceMethod y_M_move ∈ wsM := List.mem_append_right _ (List.mem_append_right _ (List.mem_append_right _ (List.mem_append_left _ (List.mem_of_getElem? (i := 8) rfl))))
theorem mM_129 : Cond.selects "PileLiftsModel" y_M_move y_M_move ∈ wsM := List.mem_append_right _ (List.mem_append_right _ (List.mem_append_right _ (List.mem_append_left _ (List.mem_of_getElem? (i := 9) rfl))))
theorem mM_130 : Cond.code y_M_move prog_6_method_28_code 3 (some .int) ∈ wsM := List.mem_append_right _ (List.mem_append_right _ (List.mem_append_right _ (List.mem_append_left _ (List.mem_of_getElem? (i := 10) rfl))))
theorem mM_131 : Cond.instanceMethod y_M_replay ∈ wsM := List.mem_append_right _ (List.mem_append_right _ (List.mem_append_right _ (List.mem_append_left _ (List.mem_of_getElem? (i := 11) rfl))))
theorem mM_132 : Cond.selects "PileLiftsModel" y_M_replay y_M_replay ∈ wsM := List.mem_append_right _ (List.mem_append_right _ (List.mem_append_right _ (List.mem_append_left _ (List.mem_of_getElem? (i := 12) rfl))))
theorem mM_133 : Cond.code y_M_replay prog_6_method_29_code 4 (some .int) ∈ wsM := List.mem_append_right _ (List.mem_append_right _ (List.mem_append_right _ (List.mem_append_left _ (List.mem_of_getElem? (i := 13) rfl))))
theorem mM_134 : Cond.instanceMethod y_M_at ∈ wsM := List.mem_append_right _ (List.mem_append_right _ (List.mem_append_right _ (List.mem_append_left _ (List.mem_of_getElem? (i := 14) rfl))))
theorem mM_135 : Cond.selects "PileLiftsModel" y_M_at y_M_at ∈ wsM := List.mem_append_right _ (List.mem_append_right _ (List.mem_append_right _ (List.mem_append_left _ (List.mem_of_getElem? (i := 15) rfl))))
theorem mM_136 : Cond.code y_M_at prog_6_method_30_code 5 (some .int) ∈ wsM := List.mem_append_right _ (List.mem_append_right _ (List.mem_append_right _ (List.mem_append_left _ (List.mem_of_getElem? (i := 16) rfl))))
theorem mM_137 : Cond.instanceMethod y_M_tidy ∈ wsM := List.mem_append_right _ (List.mem_append_right _ (List.mem_append_right _ (List.mem_append_left _ (List.mem_of_getElem? (i := 17) rfl))))
theorem mM_138 : Cond.selects "PileLiftsModel" y_M_tidy y_M_tidy ∈ wsM := List.mem_append_right _ (List.mem_append_right _ (List.mem_append_right _ (List.mem_append_left _ (List.mem_of_getElem? (i := 18) rfl))))
theorem mM_139 : Cond.code y_M_tidy prog_6_method_32_code 3 (some .int) ∈ wsM := List.mem_append_right _ (List.mem_append_right _ (List.mem_append_right _ (List.mem_append_left _ (List.mem_of_getElem? (i := 19) rfl))))
theorem mM_140 : Cond.methodLink "PileLiftsModel" 140 y_M_tidies ∈ wsM := List.mem_append_right _ (List.mem_append_right _ (List.mem_append_right _ (List.mem_append_left _ (List.mem_of_getElem? (i := 20) rfl))))
theorem mM_141 : Cond.instanceMethod y_M_tidies ∈ wsM := List.mem_append_right _ (List.mem_append_right _ (List.mem_append_right _ (List.mem_append_left _ (List.mem_of_getElem? (i := 21) rfl))))
theorem mM_142 : Cond.code y_M_tidies prog_6_method_31_code 4 (some .boolean) ∈ wsM := List.mem_append_right _ (List.mem_append_right _ (List.mem_append_right _ (List.mem_append_left _ (List.mem_of_getElem? (i := 22) rfl))))
theorem mM_143 : Cond.instanceMethod y_M_wagon ∈ wsM := List.mem_append_right _ (List.mem_append_right _ (List.mem_append_right _ (List.mem_append_left _ (List.mem_of_getElem? (i := 23) rfl))))
theorem mM_144 : Cond.selects "PileLiftsModel" y_M_wagon y_M_wagon ∈ wsM := List.mem_append_right _ (List.mem_append_right _ (List.mem_append_right _ (List.mem_append_left _ (List.mem_of_getElem? (i := 24) rfl))))
theorem mM_145 : Cond.code y_M_wagon prog_6_method_33_code 2 (some .int) ∈ wsM := List.mem_append_right _ (List.mem_append_right _ (List.mem_append_right _ (List.mem_append_left _ (List.mem_of_getElem? (i := 25) rfl))))
theorem mM_146 : Cond.instanceMethod y_M_load ∈ wsM := List.mem_append_right _ (List.mem_append_right _ (List.mem_append_right _ (List.mem_append_left _ (List.mem_of_getElem? (i := 26) rfl))))
theorem mM_147 : Cond.selects "PileLiftsModel" y_M_load y_M_load ∈ wsM := List.mem_append_right _ (List.mem_append_right _ (List.mem_append_right _ (List.mem_append_left _ (List.mem_of_getElem? (i := 27) rfl))))
theorem mM_148 : Cond.code y_M_load prog_6_method_34_code 4 (some .int) ∈ wsM := List.mem_append_right _ (List.mem_append_right _ (List.mem_append_right _ (List.mem_append_left _ (List.mem_of_getElem? (i := 28) rfl))))
theorem mM_149 : Cond.selects "PileLiftsModel" y_M_goes y_M_goes ∈ wsM := List.mem_append_right _ (List.mem_append_right _ (List.mem_append_right _ (List.mem_append_left _ (List.mem_of_getElem? (i := 29) rfl))))
theorem mM_150 : Cond.selects "PileLiftsModel" y_M_changed y_M_changed ∈ wsM := List.mem_append_right _ (List.mem_append_right _ (List.mem_append_right _ (List.mem_append_left _ (List.mem_of_getElem? (i := 30) rfl))))
theorem mM_151 : Cond.selects "PileLiftsModel" y_M_takes y_M_takes ∈ wsM := List.mem_append_right _ (List.mem_append_right _ (List.mem_append_right _ (List.mem_append_left _ (List.mem_of_getElem? (i := 31) rfl))))
theorem mM_152 : Cond.selects "PileLiftsModel" y_M_isPiece y_M_isPiece ∈ wsM := List.mem_append_right _ (List.mem_append_right _ (List.mem_append_right _ (List.mem_append_left _ (List.mem_of_getElem? (i := 32) rfl))))
theorem mM_153 : Cond.selects "PileLiftsModel" y_M_isGone y_M_isGone ∈ wsM := List.mem_append_right _ (List.mem_append_right _ (List.mem_append_right _ (List.mem_append_left _ (List.mem_of_getElem? (i := 33) rfl))))
theorem mM_154 : Cond.selects "PileLiftsModel" y_M_boundAt y_M_boundAt ∈ wsM := List.mem_append_right _ (List.mem_append_right _ (List.mem_append_right _ (List.mem_append_left _ (List.mem_of_getElem? (i := 34) rfl))))
theorem mM_155 : Cond.selects "PileLiftsModel" y_M_blocksOn y_M_blocksOn ∈ wsM := List.mem_append_right _ (List.mem_append_right _ (List.mem_append_right _ (List.mem_append_left _ (List.mem_of_getElem? (i := 35) rfl))))
theorem mM_156 : Cond.selects "PileLiftsModel" y_M_isAhead y_M_isAhead ∈ wsM := List.mem_append_right _ (List.mem_append_right _ (List.mem_append_right _ (List.mem_append_left _ (List.mem_of_getElem? (i := 36) rfl))))
theorem mM_157 : Cond.selects "PileLiftsModel" y_M_round y_M_round ∈ wsM := List.mem_append_right _ (List.mem_append_right _ (List.mem_append_right _ (List.mem_append_left _ (List.mem_of_getElem? (i := 37) rfl))))
theorem mM_158 : Cond.selects "PileLiftsModel" y_M_copy y_M_copy ∈ wsM := List.mem_append_right _ (List.mem_append_right _ (List.mem_append_right _ (List.mem_append_left _ (List.mem_of_getElem? (i := 38) rfl))))
theorem mM_159 : Cond.selects "PileLiftsModel" y_M_leaves y_M_leaves ∈ wsM := List.mem_append_right _ (List.mem_append_right _ (List.mem_append_right _ (List.mem_append_left _ (List.mem_of_getElem? (i := 39) rfl))))
theorem mM_160 : Cond.selects "PileLiftsModel" y_M_nextWanted y_M_nextWanted ∈ wsM := List.mem_append_right _ (List.mem_append_right _ (List.mem_append_right _ (List.mem_append_right _ ((List.mem_of_getElem? (i := 0) rfl)))))
theorem mM_161 : Cond.selects "PileLiftsModel" y_M_topOf y_M_topOf ∈ wsM := List.mem_append_right _ (List.mem_append_right _ (List.mem_append_right _ (List.mem_append_right _ ((List.mem_of_getElem? (i := 1) rfl)))))
theorem mM_162 : Cond.selects "PileLiftsModel" y_M_says y_M_says ∈ wsM := List.mem_append_right _ (List.mem_append_right _ (List.mem_append_right _ (List.mem_append_right _ ((List.mem_of_getElem? (i := 2) rfl)))))
theorem mM_163 : Cond.selects "PileLiftsModel" y_M_lift y_M_lift ∈ wsM := List.mem_append_right _ (List.mem_append_right _ (List.mem_append_right _ (List.mem_append_right _ ((List.mem_of_getElem? (i := 3) rfl)))))
theorem mM_164 : Cond.selects "PileLiftsModel" y_M_tidies y_M_tidies ∈ wsM := List.mem_append_right _ (List.mem_append_right _ (List.mem_append_right _ (List.mem_append_right _ ((List.mem_of_getElem? (i := 4) rfl)))))
theorem mM_165 : Cond.instanceMethod objectInit ∈ wsM := List.mem_append_right _ (List.mem_append_right _ (List.mem_append_right _ (List.mem_append_right _ ((List.mem_of_getElem? (i := 5) rfl)))))
theorem mM_166 : Cond.code objectInit ⟨#[0xb1]⟩ 1 none ∈ wsM := List.mem_append_right _ (List.mem_append_right _ (List.mem_append_right _ (List.mem_append_right _ ((List.mem_of_getElem? (i := 6) rfl)))))
theorem mM_167 : Cond.arrayClass .int ∈ wsM := List.mem_append_right _ (List.mem_append_right _ (List.mem_append_right _ (List.mem_append_right _ ((List.mem_of_getElem? (i := 7) rfl)))))
theorem wsM_good : wsM.all goodWord = true := by decide +kernel
theorem wsM_self {w0 : Cond} (h : w0 ∈ wsM) : GoodIn wsM (w0 :: wsM) := fun w hw => by
  have h1 : w ∈ wsM := (List.mem_cons.mp hw).elim (fun e => e ▸ h) id
  exact ⟨h1, good_of_word (List.all_eq_true.mp wsM_good w h1)⟩
theorem i_M : ∀ w ∈ u_ws R_M F_M 22, w ∈ wsM := by
  intro w h
  have h : w ∈ [Cond.lays "PileLiftsModel" "PileLiftsModel" "thrown" "I", Cond.lays "PileLiftsModel" "PileLiftsModel" "piles" "I", Cond.lays "PileLiftsModel" "PileLiftsModel" "levels" "I", Cond.lays "PileLiftsModel" "PileLiftsModel" "pieces" "I", Cond.laysFinal "PileLiftsModel" "PileLiftsModel" "kilos" "[I", Cond.laysFinal "PileLiftsModel" "PileLiftsModel" "length" "[I", Cond.laysFinal "PileLiftsModel" "PileLiftsModel" "time" "[I", Cond.laysFinal "PileLiftsModel" "PileLiftsModel" "wagonOf" "[I", Cond.laysFinal "PileLiftsModel" "PileLiftsModel" "lies" "[I", Cond.laysFinal "PileLiftsModel" "PileLiftsModel" "high" "[I", Cond.laysFinal "PileLiftsModel" "PileLiftsModel" "left" "[I", Cond.laysFinal "PileLiftsModel" "PileLiftsModel" "choice" "[I", Cond.laysFinal "PileLiftsModel" "PileLiftsModel" "movePiece" "[I", Cond.laysFinal "PileLiftsModel" "PileLiftsModel" "moveTo" "[I", Cond.laysFinal "PileLiftsModel" "PileLiftsModel" "many" "[I", Cond.lays "PileLiftsModel" "PileLiftsModel" "searched" "Z", Cond.lays "PileLiftsModel" "PileLiftsModel" "proved" "Z", Cond.lays "PileLiftsModel" "PileLiftsModel" "planned" "Z", Cond.lays "PileLiftsModel" "PileLiftsModel" "planMoves" "I", Cond.lays "PileLiftsModel" "PileLiftsModel" "wagons" "I", Cond.laysFinal "PileLiftsModel" "PileLiftsModel" "axle" "[I", Cond.laysFinal "PileLiftsModel" "PileLiftsModel" "loaded" "[I"] := h
  simp only [List.mem_cons, List.not_mem_nil, or_false] at h
  rcases h with rfl | rfl | rfl | rfl | rfl | rfl | rfl | rfl | rfl | rfl | rfl | rfl | rfl | rfl | rfl | rfl | rfl | rfl | rfl | rfl | rfl | rfl
  · exact mM_27
  · exact mM_28
  · exact mM_29
  · exact mM_30
  · exact mM_31
  · exact mM_32
  · exact mM_33
  · exact mM_34
  · exact mM_35
  · exact mM_36
  · exact mM_37
  · exact mM_38
  · exact mM_39
  · exact mM_40
  · exact mM_41
  · exact mM_42
  · exact mM_43
  · exact mM_44
  · exact mM_45
  · exact mM_46
  · exact mM_47
  · exact mM_48
def nfC : List (String × Nat × String × String × String × String) := [("PileLifts$Search", 71, "PileLifts$Yard", "pileCount", "I", "PileLifts"), ("PileLifts", 61, "PileLifts$Yard", "pieceCount", "I", "PileLifts"), ("PileLifts", 176, "PileLifts$Yard", "kilos", "[I", "PileLifts"), ("PileLifts", 96, "PileLifts$Yard", "lengths", "[I", "PileLifts"), ("PileLifts$Search", 86, "PileLifts$Yard", "lengths", "[I", "PileLifts"), ("PileLifts", 92, "PileLifts$Yard", "times", "[I", "PileLifts"), ("PileLifts$Search", 100, "PileLifts$Yard", "pileOf", "[I", "PileLifts"), ("PileLifts", 144, "PileLifts$Yard", "pileOf", "[I", "PileLifts"), ("PileLifts", 147, "PileLifts$Yard", "levelOf", "[I", "PileLifts"), ("PileLifts", 110, "PileLifts$Search", "isDone", "Z", "PileLifts"), ("PileLifts", 116, "PileLifts$Search", "isProved", "Z", "PileLifts"), ("PileLifts", 193, "PileLifts$Search", "hasPlan", "Z", "PileLifts"), ("PileLifts", 122, "PileLifts$Search", "moveCount", "I", "PileLifts"), ("PileLifts", 129, "PileLifts$Search", "movedPiece", "[I", "PileLifts"), ("PileLifts", 132, "PileLifts$Search", "movedTo", "[I", "PileLifts"), ("PileLifts", 166, "PileLifts$Wagons", "count", "I", "PileLifts"), ("PileLifts", 153, "PileLifts$Wagons", "wagonOf", "[I", "PileLifts")]
def nmC : List (String × Nat × MethodName × String) := [("PileLifts", 9, y_Y_init, "PileLifts"), ("PileLifts", 18, y_S_init, "PileLifts"), ("PileLifts", 25, y_W_init, "PileLifts"), ("PileLifts", 99, y_Y_countBlocking, "PileLifts"), ("PileLifts", 41, y_Y_clear, "PileLifts"), ("PileLifts", 45, y_W_clear, "PileLifts"), ("PileLifts", 47, y_S_forget, "PileLifts"), ("PileLifts", 50, y_Y_hasPile, "PileLifts"), ("PileLifts$Yard", 47, y_P_isWithin, "PileLifts"), ("PileLifts", 65, y_Y_takes, "PileLifts"), ("PileLifts", 74, y_Y_add, "PileLifts"), ("PileLifts", 188, y_Y_hasPiece, "PileLifts"), ("PileLifts", 82, y_Y_isGone, "PileLifts"), ("PileLifts", 106, y_S_findBest, "PileLifts"), ("PileLifts$Search", 44, y_Y_countBlocking, "PileLifts"), ("PileLifts$Search", 68, y_Y_nextWanted, "PileLifts"), ("PileLifts$Search", 111, y_Y_isTop, "PileLifts"), ("PileLifts$Search", 114, y_Y_takeOff, "PileLifts"), ("PileLifts$Search", 78, y_Y_topOf, "PileLifts"), ("PileLifts$Search", 82, y_Y_isBlocking, "PileLifts"), ("PileLifts$Search", 89, y_Y_takes, "PileLifts"), ("PileLifts$Search", 93, y_Y_wouldBlockOn, "PileLifts"), ("PileLifts$Search", 107, y_Y_relift, "PileLifts"), ("PileLifts$Search", 118, y_Y_layOn, "PileLifts"), ("PileLifts", 137, y_S_doMoves, "PileLifts"), ("PileLifts", 141, y_Y_countGone, "PileLifts"), ("PileLifts", 150, y_Y_isBlocking, "PileLifts"), ("PileLifts", 160, y_Y_tidyOnce, "PileLifts"), ("PileLifts", 171, y_W_add, "PileLifts"), ("PileLifts", 179, y_W_firstWithRoom, "PileLifts"), ("PileLifts", 184, y_W_fill, "PileLifts")]
def nnC (U : State) : Prop := (∀ q ∈ nfC, va_Nw (.fieldLinkNest q.1 q.2.1 q.2.2.1 q.2.2.2.1 q.2.2.2.2.1 q.2.2.2.2.2) U) ∧ ∀ q ∈ nmC, va_Nw (.methodLinkNest q.1 q.2.1 q.2.2.1 q.2.2.2) U
theorem nnC_warm (s U : State) (hW : s.WarmedH U.vm) (h : nnC s) : nnC U := ⟨fun q hq => va_Nw.warmF hW (h.1 q hq), fun q hq => va_Nw.warmM hW (h.2 q hq)⟩
theorem nnC_same (u U : State) (hv : u.vm = U.vm) (h : nnC u) : nnC U := ⟨fun q hq => va_Nw.same rfl hv (h.1 q hq), fun q hq => va_Nw.same rfl hv (h.2 q hq)⟩
theorem nf_S_71 {U : State} (h : nnC U) : va_Nw (.fieldLinkNest "PileLifts$Search" 71 "PileLifts$Yard" "pileCount" "I" "PileLifts") U := h.1 ("PileLifts$Search", 71, "PileLifts$Yard", "pileCount", "I", "PileLifts") (List.mem_of_getElem? (i := 0) rfl)
theorem nf_P_61 {U : State} (h : nnC U) : va_Nw (.fieldLinkNest "PileLifts" 61 "PileLifts$Yard" "pieceCount" "I" "PileLifts") U := h.1 ("PileLifts", 61, "PileLifts$Yard", "pieceCount", "I", "PileLifts") (List.mem_of_getElem? (i := 1) rfl)
theorem nf_P_176 {U : State} (h : nnC U) : va_Nw (.fieldLinkNest "PileLifts" 176 "PileLifts$Yard" "kilos" "[I" "PileLifts") U := h.1 ("PileLifts", 176, "PileLifts$Yard", "kilos", "[I", "PileLifts") (List.mem_of_getElem? (i := 2) rfl)
theorem nf_P_96 {U : State} (h : nnC U) : va_Nw (.fieldLinkNest "PileLifts" 96 "PileLifts$Yard" "lengths" "[I" "PileLifts") U := h.1 ("PileLifts", 96, "PileLifts$Yard", "lengths", "[I", "PileLifts") (List.mem_of_getElem? (i := 3) rfl)
theorem nf_S_86 {U : State} (h : nnC U) : va_Nw (.fieldLinkNest "PileLifts$Search" 86 "PileLifts$Yard" "lengths" "[I" "PileLifts") U := h.1 ("PileLifts$Search", 86, "PileLifts$Yard", "lengths", "[I", "PileLifts") (List.mem_of_getElem? (i := 4) rfl)
theorem nf_P_92 {U : State} (h : nnC U) : va_Nw (.fieldLinkNest "PileLifts" 92 "PileLifts$Yard" "times" "[I" "PileLifts") U := h.1 ("PileLifts", 92, "PileLifts$Yard", "times", "[I", "PileLifts") (List.mem_of_getElem? (i := 5) rfl)
theorem nf_S_100 {U : State} (h : nnC U) : va_Nw (.fieldLinkNest "PileLifts$Search" 100 "PileLifts$Yard" "pileOf" "[I" "PileLifts") U := h.1 ("PileLifts$Search", 100, "PileLifts$Yard", "pileOf", "[I", "PileLifts") (List.mem_of_getElem? (i := 6) rfl)
theorem nf_P_144 {U : State} (h : nnC U) : va_Nw (.fieldLinkNest "PileLifts" 144 "PileLifts$Yard" "pileOf" "[I" "PileLifts") U := h.1 ("PileLifts", 144, "PileLifts$Yard", "pileOf", "[I", "PileLifts") (List.mem_of_getElem? (i := 7) rfl)
theorem nf_P_147 {U : State} (h : nnC U) : va_Nw (.fieldLinkNest "PileLifts" 147 "PileLifts$Yard" "levelOf" "[I" "PileLifts") U := h.1 ("PileLifts", 147, "PileLifts$Yard", "levelOf", "[I", "PileLifts") (List.mem_of_getElem? (i := 8) rfl)
theorem nf_P_110 {U : State} (h : nnC U) : va_Nw (.fieldLinkNest "PileLifts" 110 "PileLifts$Search" "isDone" "Z" "PileLifts") U := h.1 ("PileLifts", 110, "PileLifts$Search", "isDone", "Z", "PileLifts") (List.mem_of_getElem? (i := 9) rfl)
theorem nf_P_116 {U : State} (h : nnC U) : va_Nw (.fieldLinkNest "PileLifts" 116 "PileLifts$Search" "isProved" "Z" "PileLifts") U := h.1 ("PileLifts", 116, "PileLifts$Search", "isProved", "Z", "PileLifts") (List.mem_of_getElem? (i := 10) rfl)
theorem nf_P_193 {U : State} (h : nnC U) : va_Nw (.fieldLinkNest "PileLifts" 193 "PileLifts$Search" "hasPlan" "Z" "PileLifts") U := h.1 ("PileLifts", 193, "PileLifts$Search", "hasPlan", "Z", "PileLifts") (List.mem_of_getElem? (i := 11) rfl)
theorem nf_P_122 {U : State} (h : nnC U) : va_Nw (.fieldLinkNest "PileLifts" 122 "PileLifts$Search" "moveCount" "I" "PileLifts") U := h.1 ("PileLifts", 122, "PileLifts$Search", "moveCount", "I", "PileLifts") (List.mem_of_getElem? (i := 12) rfl)
theorem nf_P_129 {U : State} (h : nnC U) : va_Nw (.fieldLinkNest "PileLifts" 129 "PileLifts$Search" "movedPiece" "[I" "PileLifts") U := h.1 ("PileLifts", 129, "PileLifts$Search", "movedPiece", "[I", "PileLifts") (List.mem_of_getElem? (i := 13) rfl)
theorem nf_P_132 {U : State} (h : nnC U) : va_Nw (.fieldLinkNest "PileLifts" 132 "PileLifts$Search" "movedTo" "[I" "PileLifts") U := h.1 ("PileLifts", 132, "PileLifts$Search", "movedTo", "[I", "PileLifts") (List.mem_of_getElem? (i := 14) rfl)
theorem nf_P_166 {U : State} (h : nnC U) : va_Nw (.fieldLinkNest "PileLifts" 166 "PileLifts$Wagons" "count" "I" "PileLifts") U := h.1 ("PileLifts", 166, "PileLifts$Wagons", "count", "I", "PileLifts") (List.mem_of_getElem? (i := 15) rfl)
theorem nf_P_153 {U : State} (h : nnC U) : va_Nw (.fieldLinkNest "PileLifts" 153 "PileLifts$Wagons" "wagonOf" "[I" "PileLifts") U := h.1 ("PileLifts", 153, "PileLifts$Wagons", "wagonOf", "[I", "PileLifts") (List.mem_of_getElem? (i := 16) rfl)
theorem nm_P_9 {U : State} (h : nnC U) : va_Nw (.methodLinkNest "PileLifts" 9 y_Y_init "PileLifts") U := h.2 ("PileLifts", 9, y_Y_init, "PileLifts") (List.mem_of_getElem? (i := 0) rfl)
theorem nm_P_18 {U : State} (h : nnC U) : va_Nw (.methodLinkNest "PileLifts" 18 y_S_init "PileLifts") U := h.2 ("PileLifts", 18, y_S_init, "PileLifts") (List.mem_of_getElem? (i := 1) rfl)
theorem nm_P_25 {U : State} (h : nnC U) : va_Nw (.methodLinkNest "PileLifts" 25 y_W_init "PileLifts") U := h.2 ("PileLifts", 25, y_W_init, "PileLifts") (List.mem_of_getElem? (i := 2) rfl)
theorem nm_P_99 {U : State} (h : nnC U) : va_Nw (.methodLinkNest "PileLifts" 99 y_Y_countBlocking "PileLifts") U := h.2 ("PileLifts", 99, y_Y_countBlocking, "PileLifts") (List.mem_of_getElem? (i := 3) rfl)
theorem nm_P_41 {U : State} (h : nnC U) : va_Nw (.methodLinkNest "PileLifts" 41 y_Y_clear "PileLifts") U := h.2 ("PileLifts", 41, y_Y_clear, "PileLifts") (List.mem_of_getElem? (i := 4) rfl)
theorem nm_P_45 {U : State} (h : nnC U) : va_Nw (.methodLinkNest "PileLifts" 45 y_W_clear "PileLifts") U := h.2 ("PileLifts", 45, y_W_clear, "PileLifts") (List.mem_of_getElem? (i := 5) rfl)
theorem nm_P_47 {U : State} (h : nnC U) : va_Nw (.methodLinkNest "PileLifts" 47 y_S_forget "PileLifts") U := h.2 ("PileLifts", 47, y_S_forget, "PileLifts") (List.mem_of_getElem? (i := 6) rfl)
theorem nm_P_50 {U : State} (h : nnC U) : va_Nw (.methodLinkNest "PileLifts" 50 y_Y_hasPile "PileLifts") U := h.2 ("PileLifts", 50, y_Y_hasPile, "PileLifts") (List.mem_of_getElem? (i := 7) rfl)
theorem nm_Y_47 {U : State} (h : nnC U) : va_Nw (.methodLinkNest "PileLifts$Yard" 47 y_P_isWithin "PileLifts") U := h.2 ("PileLifts$Yard", 47, y_P_isWithin, "PileLifts") (List.mem_of_getElem? (i := 8) rfl)
theorem nm_P_65 {U : State} (h : nnC U) : va_Nw (.methodLinkNest "PileLifts" 65 y_Y_takes "PileLifts") U := h.2 ("PileLifts", 65, y_Y_takes, "PileLifts") (List.mem_of_getElem? (i := 9) rfl)
theorem nm_P_74 {U : State} (h : nnC U) : va_Nw (.methodLinkNest "PileLifts" 74 y_Y_add "PileLifts") U := h.2 ("PileLifts", 74, y_Y_add, "PileLifts") (List.mem_of_getElem? (i := 10) rfl)
theorem nm_P_188 {U : State} (h : nnC U) : va_Nw (.methodLinkNest "PileLifts" 188 y_Y_hasPiece "PileLifts") U := h.2 ("PileLifts", 188, y_Y_hasPiece, "PileLifts") (List.mem_of_getElem? (i := 11) rfl)
theorem nm_P_82 {U : State} (h : nnC U) : va_Nw (.methodLinkNest "PileLifts" 82 y_Y_isGone "PileLifts") U := h.2 ("PileLifts", 82, y_Y_isGone, "PileLifts") (List.mem_of_getElem? (i := 12) rfl)
theorem nm_P_106 {U : State} (h : nnC U) : va_Nw (.methodLinkNest "PileLifts" 106 y_S_findBest "PileLifts") U := h.2 ("PileLifts", 106, y_S_findBest, "PileLifts") (List.mem_of_getElem? (i := 13) rfl)
theorem nm_S_44 {U : State} (h : nnC U) : va_Nw (.methodLinkNest "PileLifts$Search" 44 y_Y_countBlocking "PileLifts") U := h.2 ("PileLifts$Search", 44, y_Y_countBlocking, "PileLifts") (List.mem_of_getElem? (i := 14) rfl)
theorem nm_S_68 {U : State} (h : nnC U) : va_Nw (.methodLinkNest "PileLifts$Search" 68 y_Y_nextWanted "PileLifts") U := h.2 ("PileLifts$Search", 68, y_Y_nextWanted, "PileLifts") (List.mem_of_getElem? (i := 15) rfl)
theorem nm_S_111 {U : State} (h : nnC U) : va_Nw (.methodLinkNest "PileLifts$Search" 111 y_Y_isTop "PileLifts") U := h.2 ("PileLifts$Search", 111, y_Y_isTop, "PileLifts") (List.mem_of_getElem? (i := 16) rfl)
theorem nm_S_114 {U : State} (h : nnC U) : va_Nw (.methodLinkNest "PileLifts$Search" 114 y_Y_takeOff "PileLifts") U := h.2 ("PileLifts$Search", 114, y_Y_takeOff, "PileLifts") (List.mem_of_getElem? (i := 17) rfl)
theorem nm_S_78 {U : State} (h : nnC U) : va_Nw (.methodLinkNest "PileLifts$Search" 78 y_Y_topOf "PileLifts") U := h.2 ("PileLifts$Search", 78, y_Y_topOf, "PileLifts") (List.mem_of_getElem? (i := 18) rfl)
theorem nm_S_82 {U : State} (h : nnC U) : va_Nw (.methodLinkNest "PileLifts$Search" 82 y_Y_isBlocking "PileLifts") U := h.2 ("PileLifts$Search", 82, y_Y_isBlocking, "PileLifts") (List.mem_of_getElem? (i := 19) rfl)
theorem nm_S_89 {U : State} (h : nnC U) : va_Nw (.methodLinkNest "PileLifts$Search" 89 y_Y_takes "PileLifts") U := h.2 ("PileLifts$Search", 89, y_Y_takes, "PileLifts") (List.mem_of_getElem? (i := 20) rfl)
theorem nm_S_93 {U : State} (h : nnC U) : va_Nw (.methodLinkNest "PileLifts$Search" 93 y_Y_wouldBlockOn "PileLifts") U := h.2 ("PileLifts$Search", 93, y_Y_wouldBlockOn, "PileLifts") (List.mem_of_getElem? (i := 21) rfl)
theorem nm_S_107 {U : State} (h : nnC U) : va_Nw (.methodLinkNest "PileLifts$Search" 107 y_Y_relift "PileLifts") U := h.2 ("PileLifts$Search", 107, y_Y_relift, "PileLifts") (List.mem_of_getElem? (i := 22) rfl)
theorem nm_S_118 {U : State} (h : nnC U) : va_Nw (.methodLinkNest "PileLifts$Search" 118 y_Y_layOn "PileLifts") U := h.2 ("PileLifts$Search", 118, y_Y_layOn, "PileLifts") (List.mem_of_getElem? (i := 23) rfl)
theorem nm_P_137 {U : State} (h : nnC U) : va_Nw (.methodLinkNest "PileLifts" 137 y_S_doMoves "PileLifts") U := h.2 ("PileLifts", 137, y_S_doMoves, "PileLifts") (List.mem_of_getElem? (i := 24) rfl)
theorem nm_P_141 {U : State} (h : nnC U) : va_Nw (.methodLinkNest "PileLifts" 141 y_Y_countGone "PileLifts") U := h.2 ("PileLifts", 141, y_Y_countGone, "PileLifts") (List.mem_of_getElem? (i := 25) rfl)
theorem nm_P_150 {U : State} (h : nnC U) : va_Nw (.methodLinkNest "PileLifts" 150 y_Y_isBlocking "PileLifts") U := h.2 ("PileLifts", 150, y_Y_isBlocking, "PileLifts") (List.mem_of_getElem? (i := 26) rfl)
theorem nm_P_160 {U : State} (h : nnC U) : va_Nw (.methodLinkNest "PileLifts" 160 y_Y_tidyOnce "PileLifts") U := h.2 ("PileLifts", 160, y_Y_tidyOnce, "PileLifts") (List.mem_of_getElem? (i := 27) rfl)
theorem nm_P_171 {U : State} (h : nnC U) : va_Nw (.methodLinkNest "PileLifts" 171 y_W_add "PileLifts") U := h.2 ("PileLifts", 171, y_W_add, "PileLifts") (List.mem_of_getElem? (i := 28) rfl)
theorem nm_P_179 {U : State} (h : nnC U) : va_Nw (.methodLinkNest "PileLifts" 179 y_W_firstWithRoom "PileLifts") U := h.2 ("PileLifts", 179, y_W_firstWithRoom, "PileLifts") (List.mem_of_getElem? (i := 29) rfl)
theorem nm_P_184 {U : State} (h : nnC U) : va_Nw (.methodLinkNest "PileLifts" 184 y_W_fill "PileLifts") U := h.2 ("PileLifts", 184, y_W_fill, "PileLifts") (List.mem_of_getElem? (i := 30) rfl)
def nnM (_ : State) : Prop := True
theorem nnM_warm (s U : State) (_ : s.WarmedH U.vm) (_ : nnM s) : nnM U := trivial
theorem nnM_same (u U : State) (_ : u.vm = U.vm) (_ : nnM u) : nnM U := trivial
