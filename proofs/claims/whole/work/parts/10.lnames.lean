abbrev b_L_piles : ByteArray := method_3_code
def y_L_piles : MethodName := ⟨"PileLiftsLaw", "piles", "(LPileLifts;II)I"⟩
theorem q_L_piles : y_L_piles.cls ≠ "java/lang/invoke/MethodHandle" ∧ y_L_piles.cls ≠ "java/lang/invoke/VarHandle" ∧ (parseMethodDescriptor y_L_piles.desc).map (fun d => d.parameters.length) = some 3 := by decide +kernel
abbrev b_L_put : ByteArray := method_4_code
def y_L_put : MethodName := ⟨"PileLiftsLaw", "put", "(LPileLifts;III[J)I"⟩
theorem q_L_put : y_L_put.cls ≠ "java/lang/invoke/MethodHandle" ∧ y_L_put.cls ≠ "java/lang/invoke/VarHandle" ∧ (parseMethodDescriptor y_L_put.desc).map (fun d => d.parameters.length) = some 5 := by decide +kernel
abbrev b_L_want : ByteArray := method_5_code
def y_L_want : MethodName := ⟨"PileLiftsLaw", "want", "(LPileLifts;II)I"⟩
theorem q_L_want : y_L_want.cls ≠ "java/lang/invoke/MethodHandle" ∧ y_L_want.cls ≠ "java/lang/invoke/VarHandle" ∧ (parseMethodDescriptor y_L_want.desc).map (fun d => d.parameters.length) = some 3 := by decide +kernel
abbrev b_L_may : ByteArray := method_6_code
def y_L_may : MethodName := ⟨"PileLiftsLaw", "may", "(LPileLifts;II[J)I"⟩
theorem q_L_may : y_L_may.cls ≠ "java/lang/invoke/MethodHandle" ∧ y_L_may.cls ≠ "java/lang/invoke/VarHandle" ∧ (parseMethodDescriptor y_L_may.desc).map (fun d => d.parameters.length) = some 4 := by decide +kernel
abbrev b_L_run : ByteArray := method_7_code
def y_L_run : MethodName := ⟨"PileLiftsLaw", "run", "(LPileLifts;I[J)I"⟩
theorem q_L_run : y_L_run.cls ≠ "java/lang/invoke/MethodHandle" ∧ y_L_run.cls ≠ "java/lang/invoke/VarHandle" ∧ (parseMethodDescriptor y_L_run.desc).map (fun d => d.parameters.length) = some 3 := by decide +kernel
abbrev b_L_proved : ByteArray := method_8_code
def y_L_proved : MethodName := ⟨"PileLiftsLaw", "proved", "(LPileLifts;[J)I"⟩
theorem q_L_proved : y_L_proved.cls ≠ "java/lang/invoke/MethodHandle" ∧ y_L_proved.cls ≠ "java/lang/invoke/VarHandle" ∧ (parseMethodDescriptor y_L_proved.desc).map (fun d => d.parameters.length) = some 2 := by decide +kernel
abbrev b_L_moves : ByteArray := method_9_code
def y_L_moves : MethodName := ⟨"PileLiftsLaw", "moves", "(LPileLifts;[J)I"⟩
theorem q_L_moves : y_L_moves.cls ≠ "java/lang/invoke/MethodHandle" ∧ y_L_moves.cls ≠ "java/lang/invoke/VarHandle" ∧ (parseMethodDescriptor y_L_moves.desc).map (fun d => d.parameters.length) = some 2 := by decide +kernel
abbrev b_L_move : ByteArray := method_10_code
def y_L_move : MethodName := ⟨"PileLiftsLaw", "move", "(LPileLifts;II[J)I"⟩
theorem q_L_move : y_L_move.cls ≠ "java/lang/invoke/MethodHandle" ∧ y_L_move.cls ≠ "java/lang/invoke/VarHandle" ∧ (parseMethodDescriptor y_L_move.desc).map (fun d => d.parameters.length) = some 4 := by decide +kernel
abbrev b_L_replay : ByteArray := method_11_code
def y_L_replay : MethodName := ⟨"PileLiftsLaw", "replay", "(LPileLifts;I[J)I"⟩
theorem q_L_replay : y_L_replay.cls ≠ "java/lang/invoke/MethodHandle" ∧ y_L_replay.cls ≠ "java/lang/invoke/VarHandle" ∧ (parseMethodDescriptor y_L_replay.desc).map (fun d => d.parameters.length) = some 3 := by decide +kernel
abbrev b_L_at : ByteArray := method_12_code
def y_L_at : MethodName := ⟨"PileLiftsLaw", "at", "(LPileLifts;II[J)I"⟩
theorem q_L_at : y_L_at.cls ≠ "java/lang/invoke/MethodHandle" ∧ y_L_at.cls ≠ "java/lang/invoke/VarHandle" ∧ (parseMethodDescriptor y_L_at.desc).map (fun d => d.parameters.length) = some 4 := by decide +kernel
abbrev b_L_tidy : ByteArray := method_13_code
def y_L_tidy : MethodName := ⟨"PileLiftsLaw", "tidy", "(LPileLifts;I[J)I"⟩
theorem q_L_tidy : y_L_tidy.cls ≠ "java/lang/invoke/MethodHandle" ∧ y_L_tidy.cls ≠ "java/lang/invoke/VarHandle" ∧ (parseMethodDescriptor y_L_tidy.desc).map (fun d => d.parameters.length) = some 3 := by decide +kernel
abbrev b_L_wagon : ByteArray := method_14_code
def y_L_wagon : MethodName := ⟨"PileLiftsLaw", "wagon", "(LPileLifts;I[J)I"⟩
theorem q_L_wagon : y_L_wagon.cls ≠ "java/lang/invoke/MethodHandle" ∧ y_L_wagon.cls ≠ "java/lang/invoke/VarHandle" ∧ (parseMethodDescriptor y_L_wagon.desc).map (fun d => d.parameters.length) = some 3 := by decide +kernel
abbrev b_L_load : ByteArray := method_15_code
def y_L_load : MethodName := ⟨"PileLiftsLaw", "load", "(LPileLifts;I[J)I"⟩
theorem q_L_load : y_L_load.cls ≠ "java/lang/invoke/MethodHandle" ∧ y_L_load.cls ≠ "java/lang/invoke/VarHandle" ∧ (parseMethodDescriptor y_L_load.desc).map (fun d => d.parameters.length) = some 3 := by decide +kernel
def wsL_0 : List Cond := [Cond.initialized "PileLiftsLaw", Cond.classLink "PileLiftsLaw" 8 "PileLifts", Cond.methodLink "PileLiftsLaw" 63 y_P_init, Cond.methodLink "PileLiftsLaw" 87 y_P_bound, Cond.methodLink "PileLiftsLaw" 67 y_L_piles, Cond.static y_L_piles, Cond.codeWith y_L_piles method_3_code 4 (some .int) [(0, 6, 9, 13)], Cond.classLink "PileLiftsLaw" 13 "java/lang/IllegalArgumentException", Cond.methodLink "PileLiftsLaw" 7 y_P_piles, Cond.methodLink "PileLiftsLaw" 76 y_L_put, Cond.static y_L_put, Cond.codeWith y_L_put method_4_code 6 (some .int) [(0, 12, 15, 19), (0, 12, 19, 13), (0, 12, 23, 21)], Cond.classLink "PileLiftsLaw" 19 "java/lang/IndexOutOfBoundsException", Cond.classLink "PileLiftsLaw" 21 "java/lang/UnsupportedOperationException", Cond.methodLink "PileLiftsLaw" 15 y_P_put, Cond.methodLink "PileLiftsLaw" 80 y_L_want, Cond.static y_L_want, Cond.codeWith y_L_want method_5_code 4 (some .int) [(0, 6, 9, 19), (0, 6, 12, 26), (0, 6, 15, 13)], Cond.classLink "PileLiftsLaw" 26 "java/lang/IllegalStateException", Cond.methodLink "PileLiftsLaw" 23 y_P_want, Cond.methodLink "PileLiftsLaw" 83 y_L_may, Cond.static y_L_may, Cond.codeWith y_L_may method_6_code 5 (some .int) [(0, 17, 20, 19)], Cond.methodLink "PileLiftsLaw" 28 y_P_may, Cond.methodLink "PileLiftsLaw" 91 y_L_run, Cond.static y_L_run, Cond.codeWith y_L_run method_7_code 4 (some .int) [(0, 9, 12, 13)], Cond.methodLink "PileLiftsLaw" 32 y_P_run, Cond.methodLink "PileLiftsLaw" 95 y_L_proved, Cond.static y_L_proved, Cond.codeWith y_L_proved method_8_code 3 (some .int) [(0, 15, 18, 26)], Cond.methodLink "PileLiftsLaw" 36 y_P_proved, Cond.methodLink "PileLiftsLaw" 99 y_L_moves, Cond.static y_L_moves, Cond.codeWith y_L_moves method_9_code 3 (some .int) [(0, 8, 11, 26)], Cond.methodLink "PileLiftsLaw" 40 y_P_moves, Cond.methodLink "PileLiftsLaw" 102 y_L_move, Cond.static y_L_move, Cond.codeWith y_L_move method_10_code 5 (some .int) [(0, 10, 13, 19), (0, 10, 17, 26), (0, 10, 21, 13)], Cond.methodLink "PileLiftsLaw" 44 y_P_move]
def wsL_1 : List Cond := [Cond.methodLink "PileLiftsLaw" 105 y_L_replay, Cond.static y_L_replay, Cond.codeWith y_L_replay method_11_code 4 (some .int) [(0, 9, 12, 26), (0, 9, 15, 13)], Cond.methodLink "PileLiftsLaw" 48 y_P_replay, Cond.methodLink "PileLiftsLaw" 108 y_L_at, Cond.static y_L_at, Cond.codeWith y_L_at method_12_code 5 (some .int) [(0, 10, 13, 19)], Cond.methodLink "PileLiftsLaw" 51 y_P_at, Cond.methodLink "PileLiftsLaw" 111 y_L_tidy, Cond.static y_L_tidy, Cond.codeWith y_L_tidy method_13_code 4 (some .int) [(0, 9, 12, 13)], Cond.methodLink "PileLiftsLaw" 54 y_P_tidy, Cond.methodLink "PileLiftsLaw" 114 y_L_wagon, Cond.static y_L_wagon, Cond.codeWith y_L_wagon method_14_code 4 (some .int) [(0, 9, 12, 13), (0, 9, 15, 21)], Cond.methodLink "PileLiftsLaw" 57 y_P_wagon, Cond.methodLink "PileLiftsLaw" 117 y_L_load, Cond.static y_L_load, Cond.codeWith y_L_load method_15_code 4 (some .int) [(0, 9, 12, 19), (0, 9, 15, 26), (0, 9, 18, 21)], Cond.methodLink "PileLiftsLaw" 60 y_P_load, Cond.classLink "PileLiftsLaw" 64 "PileLiftsModel", Cond.methodLink "PileLiftsLaw" 66 y_M_init, Cond.methodLink "PileLiftsLaw" 73 y_M_thrown, Cond.methodLink "PileLiftsLaw" 72 y_M_piles, Cond.methodLink "PileLiftsLaw" 79 y_M_put, Cond.methodLink "PileLiftsLaw" 82 y_M_want, Cond.methodLink "PileLiftsLaw" 86 y_M_may, Cond.methodLink "PileLiftsLaw" 90 y_M_bound, Cond.methodLink "PileLiftsLaw" 94 y_M_run, Cond.methodLink "PileLiftsLaw" 98 y_M_proved, Cond.methodLink "PileLiftsLaw" 101 y_M_moves, Cond.methodLink "PileLiftsLaw" 104 y_M_move, Cond.methodLink "PileLiftsLaw" 107 y_M_replay, Cond.methodLink "PileLiftsLaw" 110 y_M_at, Cond.methodLink "PileLiftsLaw" 113 y_M_tidy, Cond.methodLink "PileLiftsLaw" 116 y_M_wagon, Cond.methodLink "PileLiftsLaw" 119 y_M_load, Cond.arrayClass .long]
def wsL : List Cond := wsL_0 ++ (wsL_1)
theorem mL_0 : Cond.initialized "PileLiftsLaw" ∈ wsL := List.mem_append_left _ (List.mem_of_getElem? (i := 0) rfl)
theorem mL_1 : Cond.classLink "PileLiftsLaw" 8 "PileLifts" ∈ wsL := List.mem_append_left _ (List.mem_of_getElem? (i := 1) rfl)
theorem mL_2 : Cond.methodLink "PileLiftsLaw" 63 y_P_init ∈ wsL := List.mem_append_left _ (List.mem_of_getElem? (i := 2) rfl)
theorem mL_3 : Cond.methodLink "PileLiftsLaw" 87 y_P_bound ∈ wsL := List.mem_append_left _ (List.mem_of_getElem? (i := 3) rfl)
theorem mL_4 : Cond.methodLink "PileLiftsLaw" 67 y_L_piles ∈ wsL := List.mem_append_left _ (List.mem_of_getElem? (i := 4) rfl)
theorem mL_5 : Cond.static y_L_piles ∈ wsL := List.mem_append_left _ (List.mem_of_getElem? (i := 5) rfl)
theorem mL_6 : Cond.codeWith y_L_piles method_3_code 4 (some .int) [(0, 6, 9, 13)] ∈ wsL := List.mem_append_left _ (List.mem_of_getElem? (i := 6) rfl)
theorem mL_7 : Cond.classLink "PileLiftsLaw" 13 "java/lang/IllegalArgumentException" ∈ wsL := List.mem_append_left _ (List.mem_of_getElem? (i := 7) rfl)
theorem mL_8 : Cond.methodLink "PileLiftsLaw" 7 y_P_piles ∈ wsL := List.mem_append_left _ (List.mem_of_getElem? (i := 8) rfl)
theorem mL_9 : Cond.methodLink "PileLiftsLaw" 76 y_L_put ∈ wsL := List.mem_append_left _ (List.mem_of_getElem? (i := 9) rfl)
theorem mL_10 : Cond.static y_L_put ∈ wsL := List.mem_append_left _ (List.mem_of_getElem? (i := 10) rfl)
theorem mL_11 : Cond.codeWith y_L_put method_4_code 6 (some .int) [(0, 12, 15, 19), (0, 12, 19, 13), (0, 12, 23, 21)] ∈ wsL := List.mem_append_left _ (List.mem_of_getElem? (i := 11) rfl)
theorem mL_12 : Cond.classLink "PileLiftsLaw" 19 "java/lang/IndexOutOfBoundsException" ∈ wsL := List.mem_append_left _ (List.mem_of_getElem? (i := 12) rfl)
theorem mL_13 : Cond.classLink "PileLiftsLaw" 21 "java/lang/UnsupportedOperationException" ∈ wsL := List.mem_append_left _ (List.mem_of_getElem? (i := 13) rfl)
theorem mL_14 : Cond.methodLink "PileLiftsLaw" 15 y_P_put ∈ wsL := List.mem_append_left _ (List.mem_of_getElem? (i := 14) rfl)
theorem mL_15 : Cond.methodLink "PileLiftsLaw" 80 y_L_want ∈ wsL := List.mem_append_left _ (List.mem_of_getElem? (i := 15) rfl)
theorem mL_16 : Cond.static y_L_want ∈ wsL := List.mem_append_left _ (List.mem_of_getElem? (i := 16) rfl)
theorem mL_17 : Cond.codeWith y_L_want method_5_code 4 (some .int) [(0, 6, 9, 19), (0, 6, 12, 26), (0, 6, 15, 13)] ∈ wsL := List.mem_append_left _ (List.mem_of_getElem? (i := 17) rfl)
theorem mL_18 : Cond.classLink "PileLiftsLaw" 26 "java/lang/IllegalStateException" ∈ wsL := List.mem_append_left _ (List.mem_of_getElem? (i := 18) rfl)
theorem mL_19 : Cond.methodLink "PileLiftsLaw" 23 y_P_want ∈ wsL := List.mem_append_left _ (List.mem_of_getElem? (i := 19) rfl)
theorem mL_20 : Cond.methodLink "PileLiftsLaw" 83 y_L_may ∈ wsL := List.mem_append_left _ (List.mem_of_getElem? (i := 20) rfl)
theorem mL_21 : Cond.static y_L_may ∈ wsL := List.mem_append_left _ (List.mem_of_getElem? (i := 21) rfl)
theorem mL_22 : Cond.codeWith y_L_may method_6_code 5 (some .int) [(0, 17, 20, 19)] ∈ wsL := List.mem_append_left _ (List.mem_of_getElem? (i := 22) rfl)
theorem mL_23 : Cond.methodLink "PileLiftsLaw" 28 y_P_may ∈ wsL := List.mem_append_left _ (List.mem_of_getElem? (i := 23) rfl)
theorem mL_24 : Cond.methodLink "PileLiftsLaw" 91 y_L_run ∈ wsL := List.mem_append_left _ (List.mem_of_getElem? (i := 24) rfl)
theorem mL_25 : Cond.static y_L_run ∈ wsL := List.mem_append_left _ (List.mem_of_getElem? (i := 25) rfl)
theorem mL_26 : Cond.codeWith y_L_run method_7_code 4 (some .int) [(0, 9, 12, 13)] ∈ wsL := List.mem_append_left _ (List.mem_of_getElem? (i := 26) rfl)
theorem mL_27 : Cond.methodLink "PileLiftsLaw" 32 y_P_run ∈ wsL := List.mem_append_left _ (List.mem_of_getElem? (i := 27) rfl)
theorem mL_28 : Cond.methodLink "PileLiftsLaw" 95 y_L_proved ∈ wsL := List.mem_append_left _ (List.mem_of_getElem? (i := 28) rfl)
theorem mL_29 : Cond.static y_L_proved ∈ wsL := List.mem_append_left _ (List.mem_of_getElem? (i := 29) rfl)
theorem mL_30 : Cond.codeWith y_L_proved method_8_code 3 (some .int) [(0, 15, 18, 26)] ∈ wsL := List.mem_append_left _ (List.mem_of_getElem? (i := 30) rfl)
theorem mL_31 : Cond.methodLink "PileLiftsLaw" 36 y_P_proved ∈ wsL := List.mem_append_left _ (List.mem_of_getElem? (i := 31) rfl)
theorem mL_32 : Cond.methodLink "PileLiftsLaw" 99 y_L_moves ∈ wsL := List.mem_append_left _ (List.mem_of_getElem? (i := 32) rfl)
theorem mL_33 : Cond.static y_L_moves ∈ wsL := List.mem_append_left _ (List.mem_of_getElem? (i := 33) rfl)
theorem mL_34 : Cond.codeWith y_L_moves method_9_code 3 (some .int) [(0, 8, 11, 26)] ∈ wsL := List.mem_append_left _ (List.mem_of_getElem? (i := 34) rfl)
theorem mL_35 : Cond.methodLink "PileLiftsLaw" 40 y_P_moves ∈ wsL := List.mem_append_left _ (List.mem_of_getElem? (i := 35) rfl)
theorem mL_36 : Cond.methodLink "PileLiftsLaw" 102 y_L_move ∈ wsL := List.mem_append_left _ (List.mem_of_getElem? (i := 36) rfl)
theorem mL_37 : Cond.static y_L_move ∈ wsL := List.mem_append_left _ (List.mem_of_getElem? (i := 37) rfl)
theorem mL_38 : Cond.codeWith y_L_move method_10_code 5 (some .int) [(0, 10, 13, 19), (0, 10, 17, 26), (0, 10, 21, 13)] ∈ wsL := List.mem_append_left _ (List.mem_of_getElem? (i := 38) rfl)
theorem mL_39 : Cond.methodLink "PileLiftsLaw" 44 y_P_move ∈ wsL := List.mem_append_left _ (List.mem_of_getElem? (i := 39) rfl)
theorem mL_40 : Cond.methodLink "PileLiftsLaw" 105 y_L_replay ∈ wsL := List.mem_append_right _ ((List.mem_of_getElem? (i := 0) rfl))
theorem mL_41 : Cond.static y_L_replay ∈ wsL := List.mem_append_right _ ((List.mem_of_getElem? (i := 1) rfl))
theorem mL_42 : Cond.codeWith y_L_replay method_11_code 4 (some .int) [(0, 9, 12, 26), (0, 9, 15, 13)] ∈ wsL := List.mem_append_right _ ((List.mem_of_getElem? (i := 2) rfl))
theorem mL_43 : Cond.methodLink "PileLiftsLaw" 48 y_P_replay ∈ wsL := List.mem_append_right _ ((List.mem_of_getElem? (i := 3) rfl))
theorem mL_44 : Cond.methodLink "PileLiftsLaw" 108 y_L_at ∈ wsL := List.mem_append_right _ ((List.mem_of_getElem? (i := 4) rfl))
theorem mL_45 : Cond.static y_L_at ∈ wsL := List.mem_append_right _ ((List.mem_of_getElem? (i := 5) rfl))
theorem mL_46 : Cond.codeWith y_L_at method_12_code 5 (some .int) [(0, 10, 13, 19)] ∈ wsL := List.mem_append_right _ ((List.mem_of_getElem? (i := 6) rfl))
theorem mL_47 : Cond.methodLink "PileLiftsLaw" 51 y_P_at ∈ wsL := List.mem_append_right _ ((List.mem_of_getElem? (i := 7) rfl))
theorem mL_48 : Cond.methodLink "PileLiftsLaw" 111 y_L_tidy ∈ wsL := List.mem_append_right _ ((List.mem_of_getElem? (i := 8) rfl))
theorem mL_49 : Cond.static y_L_tidy ∈ wsL := List.mem_append_right _ ((List.mem_of_getElem? (i := 9) rfl))
theorem mL_50 : Cond.codeWith y_L_tidy method_13_code 4 (some .int) [(0, 9, 12, 13)] ∈ wsL := List.mem_append_right _ ((List.mem_of_getElem? (i := 10) rfl))
theorem mL_51 : Cond.methodLink "PileLiftsLaw" 54 y_P_tidy ∈ wsL := List.mem_append_right _ ((List.mem_of_getElem? (i := 11) rfl))
theorem mL_52 : Cond.methodLink "PileLiftsLaw" 114 y_L_wagon ∈ wsL := List.mem_append_right _ ((List.mem_of_getElem? (i := 12) rfl))
theorem mL_53 : Cond.static y_L_wagon ∈ wsL := List.mem_append_right _ ((List.mem_of_getElem? (i := 13) rfl))
theorem mL_54 : Cond.codeWith y_L_wagon method_14_code 4 (some .int) [(0, 9, 12, 13), (0, 9, 15, 21)] ∈ wsL := List.mem_append_right _ ((List.mem_of_getElem? (i := 14) rfl))
theorem mL_55 : Cond.methodLink "PileLiftsLaw" 57 y_P_wagon ∈ wsL := List.mem_append_right _ ((List.mem_of_getElem? (i := 15) rfl))
theorem mL_56 : Cond.methodLink "PileLiftsLaw" 117 y_L_load ∈ wsL := List.mem_append_right _ ((List.mem_of_getElem? (i := 16) rfl))
theorem mL_57 : Cond.static y_L_load ∈ wsL := List.mem_append_right _ ((List.mem_of_getElem? (i := 17) rfl))
theorem mL_58 : Cond.codeWith y_L_load method_15_code 4 (some .int) [(0, 9, 12, 19), (0, 9, 15, 26), (0, 9, 18, 21)] ∈ wsL := List.mem_append_right _ ((List.mem_of_getElem? (i := 18) rfl))
theorem mL_59 : Cond.methodLink "PileLiftsLaw" 60 y_P_load ∈ wsL := List.mem_append_right _ ((List.mem_of_getElem? (i := 19) rfl))
theorem mL_60 : Cond.classLink "PileLiftsLaw" 64 "PileLiftsModel" ∈ wsL := List.mem_append_right _ ((List.mem_of_getElem? (i := 20) rfl))
theorem mL_61 : Cond.methodLink "PileLiftsLaw" 66 y_M_init ∈ wsL := List.mem_append_right _ ((List.mem_of_getElem? (i := 21) rfl))
theorem mL_62 : Cond.methodLink "PileLiftsLaw" 73 y_M_thrown ∈ wsL := List.mem_append_right _ ((List.mem_of_getElem? (i := 22) rfl))
theorem mL_63 : Cond.methodLink "PileLiftsLaw" 72 y_M_piles ∈ wsL := List.mem_append_right _ ((List.mem_of_getElem? (i := 23) rfl))
theorem mL_64 : Cond.methodLink "PileLiftsLaw" 79 y_M_put ∈ wsL := List.mem_append_right _ ((List.mem_of_getElem? (i := 24) rfl))
theorem mL_65 : Cond.methodLink "PileLiftsLaw" 82 y_M_want ∈ wsL := List.mem_append_right _ ((List.mem_of_getElem? (i := 25) rfl))
theorem mL_66 : Cond.methodLink "PileLiftsLaw" 86 y_M_may ∈ wsL := List.mem_append_right _ ((List.mem_of_getElem? (i := 26) rfl))
theorem mL_67 : Cond.methodLink "PileLiftsLaw" 90 y_M_bound ∈ wsL := List.mem_append_right _ ((List.mem_of_getElem? (i := 27) rfl))
theorem mL_68 : Cond.methodLink "PileLiftsLaw" 94 y_M_run ∈ wsL := List.mem_append_right _ ((List.mem_of_getElem? (i := 28) rfl))
theorem mL_69 : Cond.methodLink "PileLiftsLaw" 98 y_M_proved ∈ wsL := List.mem_append_right _ ((List.mem_of_getElem? (i := 29) rfl))
theorem mL_70 : Cond.methodLink "PileLiftsLaw" 101 y_M_moves ∈ wsL := List.mem_append_right _ ((List.mem_of_getElem? (i := 30) rfl))
theorem mL_71 : Cond.methodLink "PileLiftsLaw" 104 y_M_move ∈ wsL := List.mem_append_right _ ((List.mem_of_getElem? (i := 31) rfl))
theorem mL_72 : Cond.methodLink "PileLiftsLaw" 107 y_M_replay ∈ wsL := List.mem_append_right _ ((List.mem_of_getElem? (i := 32) rfl))
theorem mL_73 : Cond.methodLink "PileLiftsLaw" 110 y_M_at ∈ wsL := List.mem_append_right _ ((List.mem_of_getElem? (i := 33) rfl))
theorem mL_74 : Cond.methodLink "PileLiftsLaw" 113 y_M_tidy ∈ wsL := List.mem_append_right _ ((List.mem_of_getElem? (i := 34) rfl))
theorem mL_75 : Cond.methodLink "PileLiftsLaw" 116 y_M_wagon ∈ wsL := List.mem_append_right _ ((List.mem_of_getElem? (i := 35) rfl))
theorem mL_76 : Cond.methodLink "PileLiftsLaw" 119 y_M_load ∈ wsL := List.mem_append_right _ ((List.mem_of_getElem? (i := 36) rfl))
theorem mL_77 : Cond.arrayClass .long ∈ wsL := List.mem_append_right _ ((List.mem_of_getElem? (i := 37) rfl))
theorem wsL_good : wsL.all goodWord = true := by decide +kernel
def wsH : List Cond := wsL ++ wsX
theorem wsH_good : ∀ w ∈ wsH, goodWord w = true := fun w h => by
  rcases List.mem_append.mp h with h | h
  · exact List.all_eq_true.mp wsL_good w h
  rcases List.mem_append.mp h with h | h
  · exact List.all_eq_true.mp wsC_good w h
  · exact List.all_eq_true.mp wsE_good w h
theorem wsH_C {w0 : Cond} (h : w0 ∈ wsC) : GoodIn wsH (w0 :: wsC) := fun w hw => by
  have h1 : w ∈ wsH := List.mem_append_right _ (List.mem_append_left _ ((List.mem_cons.mp hw).elim (fun e => e ▸ h) id))
  exact ⟨h1, good_of_word (wsH_good w h1)⟩
theorem wsH_X {w0 : Cond} (h : w0 ∈ wsC) : GoodIn wsH (w0 :: wsX) := fun w hw => by
  have h1 : w ∈ wsH := List.mem_append_right _ ((List.mem_cons.mp hw).elim (fun e => e ▸ List.mem_append_left _ h) id)
  exact ⟨h1, good_of_word (wsH_good w h1)⟩
theorem d_L_piles_0 : decode b_L_piles 0 = .ok (.aload_n 0, 1) := by decide +kernel
theorem d_L_piles_1 : decode b_L_piles 1 = .ok (.iload_n 1, 1) := by decide +kernel
theorem d_L_piles_2 : decode b_L_piles 2 = .ok (.iload_n 2, 1) := by decide +kernel
theorem d_L_piles_3 : decode b_L_piles 3 = .ok (.invokevirtual 7, 3) := by decide +kernel
theorem d_L_piles_6 : decode b_L_piles 6 = .ok (.goto 6, 3) := by decide +kernel
theorem d_L_piles_9 : decode b_L_piles 9 = .ok (.astore_n 3, 1) := by decide +kernel
theorem d_L_piles_10 : decode b_L_piles 10 = .ok (.iconst 1, 1) := by decide +kernel
theorem d_L_piles_11 : decode b_L_piles 11 = .ok (.ireturn, 1) := by decide +kernel
theorem d_L_piles_12 : decode b_L_piles 12 = .ok (.iconst 0, 1) := by decide +kernel
theorem d_L_piles_13 : decode b_L_piles 13 = .ok (.ireturn, 1) := by decide +kernel
theorem d_L_put_0 : decode b_L_put 0 = .ok (.aload 4, 2) := by decide +kernel
theorem d_L_put_2 : decode b_L_put 2 = .ok (.iconst 0, 1) := by decide +kernel
theorem d_L_put_3 : decode b_L_put 3 = .ok (.aload_n 0, 1) := by decide +kernel
theorem d_L_put_4 : decode b_L_put 4 = .ok (.iload_n 1, 1) := by decide +kernel
theorem d_L_put_5 : decode b_L_put 5 = .ok (.iload_n 2, 1) := by decide +kernel
theorem d_L_put_6 : decode b_L_put 6 = .ok (.iload_n 3, 1) := by decide +kernel
theorem d_L_put_7 : decode b_L_put 7 = .ok (.invokevirtual 15, 3) := by decide +kernel
theorem d_L_put_10 : decode b_L_put 10 = .ok (.i2l, 1) := by decide +kernel
theorem d_L_put_11 : decode b_L_put 11 = .ok (.lastore, 1) := by decide +kernel
theorem d_L_put_12 : decode b_L_put 12 = .ok (.goto 15, 3) := by decide +kernel
theorem d_L_put_15 : decode b_L_put 15 = .ok (.astore 5, 2) := by decide +kernel
theorem d_L_put_17 : decode b_L_put 17 = .ok (.iconst 1, 1) := by decide +kernel
theorem d_L_put_18 : decode b_L_put 18 = .ok (.ireturn, 1) := by decide +kernel
theorem d_L_put_19 : decode b_L_put 19 = .ok (.astore 5, 2) := by decide +kernel
theorem d_L_put_21 : decode b_L_put 21 = .ok (.iconst 2, 1) := by decide +kernel
theorem d_L_put_22 : decode b_L_put 22 = .ok (.ireturn, 1) := by decide +kernel
theorem d_L_put_23 : decode b_L_put 23 = .ok (.astore 5, 2) := by decide +kernel
theorem d_L_put_25 : decode b_L_put 25 = .ok (.iconst 3, 1) := by decide +kernel
theorem d_L_put_26 : decode b_L_put 26 = .ok (.ireturn, 1) := by decide +kernel
theorem d_L_put_27 : decode b_L_put 27 = .ok (.iconst 0, 1) := by decide +kernel
theorem d_L_put_28 : decode b_L_put 28 = .ok (.ireturn, 1) := by decide +kernel
theorem d_L_want_0 : decode b_L_want 0 = .ok (.aload_n 0, 1) := by decide +kernel
theorem d_L_want_1 : decode b_L_want 1 = .ok (.iload_n 1, 1) := by decide +kernel
theorem d_L_want_2 : decode b_L_want 2 = .ok (.iload_n 2, 1) := by decide +kernel
theorem d_L_want_3 : decode b_L_want 3 = .ok (.invokevirtual 23, 3) := by decide +kernel
theorem d_L_want_6 : decode b_L_want 6 = .ok (.goto 12, 3) := by decide +kernel
theorem d_L_want_9 : decode b_L_want 9 = .ok (.astore_n 3, 1) := by decide +kernel
theorem d_L_want_10 : decode b_L_want 10 = .ok (.iconst 1, 1) := by decide +kernel
theorem d_L_want_11 : decode b_L_want 11 = .ok (.ireturn, 1) := by decide +kernel
theorem d_L_want_12 : decode b_L_want 12 = .ok (.astore_n 3, 1) := by decide +kernel
theorem d_L_want_13 : decode b_L_want 13 = .ok (.iconst 2, 1) := by decide +kernel
theorem d_L_want_14 : decode b_L_want 14 = .ok (.ireturn, 1) := by decide +kernel
theorem d_L_want_15 : decode b_L_want 15 = .ok (.astore_n 3, 1) := by decide +kernel
theorem d_L_want_16 : decode b_L_want 16 = .ok (.iconst 3, 1) := by decide +kernel
theorem d_L_want_17 : decode b_L_want 17 = .ok (.ireturn, 1) := by decide +kernel
theorem d_L_want_18 : decode b_L_want 18 = .ok (.iconst 0, 1) := by decide +kernel
theorem d_L_want_19 : decode b_L_want 19 = .ok (.ireturn, 1) := by decide +kernel
theorem d_L_may_0 : decode b_L_may 0 = .ok (.aload_n 3, 1) := by decide +kernel
theorem d_L_may_1 : decode b_L_may 1 = .ok (.iconst 0, 1) := by decide +kernel
theorem d_L_may_2 : decode b_L_may 2 = .ok (.aload_n 0, 1) := by decide +kernel
theorem d_L_may_3 : decode b_L_may 3 = .ok (.iload_n 1, 1) := by decide +kernel
theorem d_L_may_4 : decode b_L_may 4 = .ok (.iload_n 2, 1) := by decide +kernel
theorem d_L_may_5 : decode b_L_may 5 = .ok (.invokevirtual 28, 3) := by decide +kernel
theorem d_L_may_8 : decode b_L_may 8 = .ok (.ifCond .eq 7, 3) := by decide +kernel
theorem d_L_may_11 : decode b_L_may 11 = .ok (.lconst 1, 1) := by decide +kernel
theorem d_L_may_12 : decode b_L_may 12 = .ok (.goto 4, 3) := by decide +kernel
theorem d_L_may_15 : decode b_L_may 15 = .ok (.lconst 0, 1) := by decide +kernel
theorem d_L_may_16 : decode b_L_may 16 = .ok (.lastore, 1) := by decide +kernel
theorem d_L_may_17 : decode b_L_may 17 = .ok (.goto 7, 3) := by decide +kernel
theorem d_L_may_20 : decode b_L_may 20 = .ok (.astore 4, 2) := by decide +kernel
theorem d_L_may_22 : decode b_L_may 22 = .ok (.iconst 1, 1) := by decide +kernel
theorem d_L_may_23 : decode b_L_may 23 = .ok (.ireturn, 1) := by decide +kernel
theorem d_L_may_24 : decode b_L_may 24 = .ok (.iconst 0, 1) := by decide +kernel
theorem d_L_may_25 : decode b_L_may 25 = .ok (.ireturn, 1) := by decide +kernel
theorem d_L_run_0 : decode b_L_run 0 = .ok (.aload_n 2, 1) := by decide +kernel
theorem d_L_run_1 : decode b_L_run 1 = .ok (.iconst 0, 1) := by decide +kernel
theorem d_L_run_2 : decode b_L_run 2 = .ok (.aload_n 0, 1) := by decide +kernel
theorem d_L_run_3 : decode b_L_run 3 = .ok (.iload_n 1, 1) := by decide +kernel
theorem d_L_run_4 : decode b_L_run 4 = .ok (.invokevirtual 32, 3) := by decide +kernel
theorem d_L_run_7 : decode b_L_run 7 = .ok (.i2l, 1) := by decide +kernel
theorem d_L_run_8 : decode b_L_run 8 = .ok (.lastore, 1) := by decide +kernel
theorem d_L_run_9 : decode b_L_run 9 = .ok (.goto 6, 3) := by decide +kernel
theorem d_L_run_12 : decode b_L_run 12 = .ok (.astore_n 3, 1) := by decide +kernel
theorem d_L_run_13 : decode b_L_run 13 = .ok (.iconst 1, 1) := by decide +kernel
theorem d_L_run_14 : decode b_L_run 14 = .ok (.ireturn, 1) := by decide +kernel
theorem d_L_run_15 : decode b_L_run 15 = .ok (.iconst 0, 1) := by decide +kernel
theorem d_L_run_16 : decode b_L_run 16 = .ok (.ireturn, 1) := by decide +kernel
theorem d_L_proved_0 : decode b_L_proved 0 = .ok (.aload_n 1, 1) := by decide +kernel
theorem d_L_proved_1 : decode b_L_proved 1 = .ok (.iconst 0, 1) := by decide +kernel
theorem d_L_proved_2 : decode b_L_proved 2 = .ok (.aload_n 0, 1) := by decide +kernel
theorem d_L_proved_3 : decode b_L_proved 3 = .ok (.invokevirtual 36, 3) := by decide +kernel
theorem d_L_proved_6 : decode b_L_proved 6 = .ok (.ifCond .eq 7, 3) := by decide +kernel
theorem d_L_proved_9 : decode b_L_proved 9 = .ok (.lconst 1, 1) := by decide +kernel
theorem d_L_proved_10 : decode b_L_proved 10 = .ok (.goto 4, 3) := by decide +kernel
theorem d_L_proved_13 : decode b_L_proved 13 = .ok (.lconst 0, 1) := by decide +kernel
theorem d_L_proved_14 : decode b_L_proved 14 = .ok (.lastore, 1) := by decide +kernel
theorem d_L_proved_15 : decode b_L_proved 15 = .ok (.goto 6, 3) := by decide +kernel
theorem d_L_proved_18 : decode b_L_proved 18 = .ok (.astore_n 2, 1) := by decide +kernel
theorem d_L_proved_19 : decode b_L_proved 19 = .ok (.iconst 1, 1) := by decide +kernel
theorem d_L_proved_20 : decode b_L_proved 20 = .ok (.ireturn, 1) := by decide +kernel
theorem d_L_proved_21 : decode b_L_proved 21 = .ok (.iconst 0, 1) := by decide +kernel
theorem d_L_proved_22 : decode b_L_proved 22 = .ok (.ireturn, 1) := by decide +kernel
theorem d_L_moves_0 : decode b_L_moves 0 = .ok (.aload_n 1, 1) := by decide +kernel
theorem d_L_moves_1 : decode b_L_moves 1 = .ok (.iconst 0, 1) := by decide +kernel
theorem d_L_moves_2 : decode b_L_moves 2 = .ok (.aload_n 0, 1) := by decide +kernel
theorem d_L_moves_3 : decode b_L_moves 3 = .ok (.invokevirtual 40, 3) := by decide +kernel
theorem d_L_moves_6 : decode b_L_moves 6 = .ok (.i2l, 1) := by decide +kernel
theorem d_L_moves_7 : decode b_L_moves 7 = .ok (.lastore, 1) := by decide +kernel
theorem d_L_moves_8 : decode b_L_moves 8 = .ok (.goto 6, 3) := by decide +kernel
theorem d_L_moves_11 : decode b_L_moves 11 = .ok (.astore_n 2, 1) := by decide +kernel
theorem d_L_moves_12 : decode b_L_moves 12 = .ok (.iconst 1, 1) := by decide +kernel
theorem d_L_moves_13 : decode b_L_moves 13 = .ok (.ireturn, 1) := by decide +kernel
theorem d_L_moves_14 : decode b_L_moves 14 = .ok (.iconst 0, 1) := by decide +kernel
theorem d_L_moves_15 : decode b_L_moves 15 = .ok (.ireturn, 1) := by decide +kernel
theorem d_L_move_0 : decode b_L_move 0 = .ok (.aload_n 3, 1) := by decide +kernel
theorem d_L_move_1 : decode b_L_move 1 = .ok (.iconst 0, 1) := by decide +kernel
theorem d_L_move_2 : decode b_L_move 2 = .ok (.aload_n 0, 1) := by decide +kernel
theorem d_L_move_3 : decode b_L_move 3 = .ok (.iload_n 1, 1) := by decide +kernel
theorem d_L_move_4 : decode b_L_move 4 = .ok (.iload_n 2, 1) := by decide +kernel
theorem d_L_move_5 : decode b_L_move 5 = .ok (.invokevirtual 44, 3) := by decide +kernel
theorem d_L_move_8 : decode b_L_move 8 = .ok (.i2l, 1) := by decide +kernel
theorem d_L_move_9 : decode b_L_move 9 = .ok (.lastore, 1) := by decide +kernel
theorem d_L_move_10 : decode b_L_move 10 = .ok (.goto 15, 3) := by decide +kernel
theorem d_L_move_13 : decode b_L_move 13 = .ok (.astore 4, 2) := by decide +kernel
theorem d_L_move_15 : decode b_L_move 15 = .ok (.iconst 1, 1) := by decide +kernel
theorem d_L_move_16 : decode b_L_move 16 = .ok (.ireturn, 1) := by decide +kernel
theorem d_L_move_17 : decode b_L_move 17 = .ok (.astore 4, 2) := by decide +kernel
theorem d_L_move_19 : decode b_L_move 19 = .ok (.iconst 2, 1) := by decide +kernel
theorem d_L_move_20 : decode b_L_move 20 = .ok (.ireturn, 1) := by decide +kernel
theorem d_L_move_21 : decode b_L_move 21 = .ok (.astore 4, 2) := by decide +kernel
theorem d_L_move_23 : decode b_L_move 23 = .ok (.iconst 3, 1) := by decide +kernel
theorem d_L_move_24 : decode b_L_move 24 = .ok (.ireturn, 1) := by decide +kernel
theorem d_L_move_25 : decode b_L_move 25 = .ok (.iconst 0, 1) := by decide +kernel
theorem d_L_move_26 : decode b_L_move 26 = .ok (.ireturn, 1) := by decide +kernel
theorem d_L_replay_0 : decode b_L_replay 0 = .ok (.aload_n 2, 1) := by decide +kernel
theorem d_L_replay_1 : decode b_L_replay 1 = .ok (.iconst 0, 1) := by decide +kernel
theorem d_L_replay_2 : decode b_L_replay 2 = .ok (.aload_n 0, 1) := by decide +kernel
theorem d_L_replay_3 : decode b_L_replay 3 = .ok (.iload_n 1, 1) := by decide +kernel
theorem d_L_replay_4 : decode b_L_replay 4 = .ok (.invokevirtual 48, 3) := by decide +kernel
theorem d_L_replay_7 : decode b_L_replay 7 = .ok (.i2l, 1) := by decide +kernel
theorem d_L_replay_8 : decode b_L_replay 8 = .ok (.lastore, 1) := by decide +kernel
theorem d_L_replay_9 : decode b_L_replay 9 = .ok (.goto 9, 3) := by decide +kernel
theorem d_L_replay_12 : decode b_L_replay 12 = .ok (.astore_n 3, 1) := by decide +kernel
theorem d_L_replay_13 : decode b_L_replay 13 = .ok (.iconst 1, 1) := by decide +kernel
theorem d_L_replay_14 : decode b_L_replay 14 = .ok (.ireturn, 1) := by decide +kernel
theorem d_L_replay_15 : decode b_L_replay 15 = .ok (.astore_n 3, 1) := by decide +kernel
theorem d_L_replay_16 : decode b_L_replay 16 = .ok (.iconst 2, 1) := by decide +kernel
theorem d_L_replay_17 : decode b_L_replay 17 = .ok (.ireturn, 1) := by decide +kernel
theorem d_L_replay_18 : decode b_L_replay 18 = .ok (.iconst 0, 1) := by decide +kernel
theorem d_L_replay_19 : decode b_L_replay 19 = .ok (.ireturn, 1) := by decide +kernel
theorem d_L_at_0 : decode b_L_at 0 = .ok (.aload_n 3, 1) := by decide +kernel
theorem d_L_at_1 : decode b_L_at 1 = .ok (.iconst 0, 1) := by decide +kernel
theorem d_L_at_2 : decode b_L_at 2 = .ok (.aload_n 0, 1) := by decide +kernel
theorem d_L_at_3 : decode b_L_at 3 = .ok (.iload_n 1, 1) := by decide +kernel
theorem d_L_at_4 : decode b_L_at 4 = .ok (.iload_n 2, 1) := by decide +kernel
theorem d_L_at_5 : decode b_L_at 5 = .ok (.invokevirtual 51, 3) := by decide +kernel
theorem d_L_at_8 : decode b_L_at 8 = .ok (.i2l, 1) := by decide +kernel
theorem d_L_at_9 : decode b_L_at 9 = .ok (.lastore, 1) := by decide +kernel
theorem d_L_at_10 : decode b_L_at 10 = .ok (.goto 7, 3) := by decide +kernel
theorem d_L_at_13 : decode b_L_at 13 = .ok (.astore 4, 2) := by decide +kernel
theorem d_L_at_15 : decode b_L_at 15 = .ok (.iconst 1, 1) := by decide +kernel
theorem d_L_at_16 : decode b_L_at 16 = .ok (.ireturn, 1) := by decide +kernel
theorem d_L_at_17 : decode b_L_at 17 = .ok (.iconst 0, 1) := by decide +kernel
theorem d_L_at_18 : decode b_L_at 18 = .ok (.ireturn, 1) := by decide +kernel
theorem d_L_tidy_0 : decode b_L_tidy 0 = .ok (.aload_n 2, 1) := by decide +kernel
theorem d_L_tidy_1 : decode b_L_tidy 1 = .ok (.iconst 0, 1) := by decide +kernel
theorem d_L_tidy_2 : decode b_L_tidy 2 = .ok (.aload_n 0, 1) := by decide +kernel
theorem d_L_tidy_3 : decode b_L_tidy 3 = .ok (.iload_n 1, 1) := by decide +kernel
theorem d_L_tidy_4 : decode b_L_tidy 4 = .ok (.invokevirtual 54, 3) := by decide +kernel
theorem d_L_tidy_7 : decode b_L_tidy 7 = .ok (.i2l, 1) := by decide +kernel
theorem d_L_tidy_8 : decode b_L_tidy 8 = .ok (.lastore, 1) := by decide +kernel
theorem d_L_tidy_9 : decode b_L_tidy 9 = .ok (.goto 6, 3) := by decide +kernel
theorem d_L_tidy_12 : decode b_L_tidy 12 = .ok (.astore_n 3, 1) := by decide +kernel
theorem d_L_tidy_13 : decode b_L_tidy 13 = .ok (.iconst 1, 1) := by decide +kernel
theorem d_L_tidy_14 : decode b_L_tidy 14 = .ok (.ireturn, 1) := by decide +kernel
theorem d_L_tidy_15 : decode b_L_tidy 15 = .ok (.iconst 0, 1) := by decide +kernel
theorem d_L_tidy_16 : decode b_L_tidy 16 = .ok (.ireturn, 1) := by decide +kernel
theorem d_L_wagon_0 : decode b_L_wagon 0 = .ok (.aload_n 2, 1) := by decide +kernel
theorem d_L_wagon_1 : decode b_L_wagon 1 = .ok (.iconst 0, 1) := by decide +kernel
theorem d_L_wagon_2 : decode b_L_wagon 2 = .ok (.aload_n 0, 1) := by decide +kernel
theorem d_L_wagon_3 : decode b_L_wagon 3 = .ok (.iload_n 1, 1) := by decide +kernel
theorem d_L_wagon_4 : decode b_L_wagon 4 = .ok (.invokevirtual 57, 3) := by decide +kernel
theorem d_L_wagon_7 : decode b_L_wagon 7 = .ok (.i2l, 1) := by decide +kernel
theorem d_L_wagon_8 : decode b_L_wagon 8 = .ok (.lastore, 1) := by decide +kernel
theorem d_L_wagon_9 : decode b_L_wagon 9 = .ok (.goto 9, 3) := by decide +kernel
theorem d_L_wagon_12 : decode b_L_wagon 12 = .ok (.astore_n 3, 1) := by decide +kernel
theorem d_L_wagon_13 : decode b_L_wagon 13 = .ok (.iconst 1, 1) := by decide +kernel
theorem d_L_wagon_14 : decode b_L_wagon 14 = .ok (.ireturn, 1) := by decide +kernel
theorem d_L_wagon_15 : decode b_L_wagon 15 = .ok (.astore_n 3, 1) := by decide +kernel
theorem d_L_wagon_16 : decode b_L_wagon 16 = .ok (.iconst 2, 1) := by decide +kernel
theorem d_L_wagon_17 : decode b_L_wagon 17 = .ok (.ireturn, 1) := by decide +kernel
theorem d_L_wagon_18 : decode b_L_wagon 18 = .ok (.iconst 0, 1) := by decide +kernel
theorem d_L_wagon_19 : decode b_L_wagon 19 = .ok (.ireturn, 1) := by decide +kernel
theorem d_L_load_0 : decode b_L_load 0 = .ok (.aload_n 2, 1) := by decide +kernel
theorem d_L_load_1 : decode b_L_load 1 = .ok (.iconst 0, 1) := by decide +kernel
theorem d_L_load_2 : decode b_L_load 2 = .ok (.aload_n 0, 1) := by decide +kernel
theorem d_L_load_3 : decode b_L_load 3 = .ok (.iload_n 1, 1) := by decide +kernel
theorem d_L_load_4 : decode b_L_load 4 = .ok (.invokevirtual 60, 3) := by decide +kernel
theorem d_L_load_7 : decode b_L_load 7 = .ok (.i2l, 1) := by decide +kernel
theorem d_L_load_8 : decode b_L_load 8 = .ok (.lastore, 1) := by decide +kernel
theorem d_L_load_9 : decode b_L_load 9 = .ok (.goto 12, 3) := by decide +kernel
theorem d_L_load_12 : decode b_L_load 12 = .ok (.astore_n 3, 1) := by decide +kernel
theorem d_L_load_13 : decode b_L_load 13 = .ok (.iconst 1, 1) := by decide +kernel
theorem d_L_load_14 : decode b_L_load 14 = .ok (.ireturn, 1) := by decide +kernel
theorem d_L_load_15 : decode b_L_load 15 = .ok (.astore_n 3, 1) := by decide +kernel
theorem d_L_load_16 : decode b_L_load 16 = .ok (.iconst 2, 1) := by decide +kernel
theorem d_L_load_17 : decode b_L_load 17 = .ok (.ireturn, 1) := by decide +kernel
theorem d_L_load_18 : decode b_L_load 18 = .ok (.astore_n 3, 1) := by decide +kernel
theorem d_L_load_19 : decode b_L_load 19 = .ok (.iconst 3, 1) := by decide +kernel
theorem d_L_load_20 : decode b_L_load 20 = .ok (.ireturn, 1) := by decide +kernel
theorem d_L_load_21 : decode b_L_load 21 = .ok (.iconst 0, 1) := by decide +kernel
theorem d_L_load_22 : decode b_L_load 22 = .ok (.ireturn, 1) := by decide +kernel
