/-- a private method of a class that the tables say can be made, by its rows of tables_1 -/
def lw_okq (q : MethodName × Nat) : Prop := (q.1.cls ≠ "java/lang/invoke/MethodHandle" ∧ q.1.cls ≠ "java/lang/invoke/VarHandle") ∧ Cond.instantiable q.1.cls q.2 ∈ tables_1 ∧ Cond.privateMethod q.1 ∈ tables_1 ∧ Cond.instanceMethod q.1 ∈ tables_1
theorem lw_p0 : lw_okq (⟨"SpentPasses$Text", "isNext", "(I)Z"⟩, 3) := ⟨⟨by decide +kernel, by decide +kernel⟩, List.mem_of_getElem? (i := 19) (by decide +kernel), List.mem_of_getElem? (i := 139) (by decide +kernel), List.mem_of_getElem? (i := 140) (by decide +kernel)⟩
theorem lw_p1 : lw_okq (⟨"SpentPasses$Text", "nextLetter", "()I"⟩, 3) := ⟨⟨by decide +kernel, by decide +kernel⟩, List.mem_of_getElem? (i := 19) (by decide +kernel), List.mem_of_getElem? (i := 143) (by decide +kernel), List.mem_of_getElem? (i := 144) (by decide +kernel)⟩
theorem lw_p2 : lw_okq (⟨"SpentPasses$Text", "readFigure", "(II)I"⟩, 3) := ⟨⟨by decide +kernel, by decide +kernel⟩, List.mem_of_getElem? (i := 19) (by decide +kernel), List.mem_of_getElem? (i := 147) (by decide +kernel), List.mem_of_getElem? (i := 148) (by decide +kernel)⟩
theorem lw_p3 : lw_okq (⟨"SpentPasses$Text", "readUser", "(LSpentPasses$Hall;)Z"⟩, 3) := ⟨⟨by decide +kernel, by decide +kernel⟩, List.mem_of_getElem? (i := 19) (by decide +kernel), List.mem_of_getElem? (i := 162) (by decide +kernel), List.mem_of_getElem? (i := 163) (by decide +kernel)⟩
theorem lw_p4 : lw_okq (⟨"SpentPasses$Text", "readNumber", "()I"⟩, 3) := ⟨⟨by decide +kernel, by decide +kernel⟩, List.mem_of_getElem? (i := 19) (by decide +kernel), List.mem_of_getElem? (i := 166) (by decide +kernel), List.mem_of_getElem? (i := 167) (by decide +kernel)⟩
theorem lw_p5 : lw_okq (⟨"SpentPasses$Text", "readRowLength", "()I"⟩, 3) := ⟨⟨by decide +kernel, by decide +kernel⟩, List.mem_of_getElem? (i := 19) (by decide +kernel), List.mem_of_getElem? (i := 170) (by decide +kernel), List.mem_of_getElem? (i := 171) (by decide +kernel)⟩
theorem lw_p6 : lw_okq (⟨"SpentPasses$Hall", "put", "(III)V"⟩, 1) := ⟨⟨by decide +kernel, by decide +kernel⟩, List.mem_of_getElem? (i := 37) (by decide +kernel), List.mem_of_getElem? (i := 182) (by decide +kernel), List.mem_of_getElem? (i := 183) (by decide +kernel)⟩
theorem lw_p7 : lw_okq (⟨"SpentPasses$Text", "readDoing", "(LSpentPasses$Hall;)Z"⟩, 3) := ⟨⟨by decide +kernel, by decide +kernel⟩, List.mem_of_getElem? (i := 19) (by decide +kernel), List.mem_of_getElem? (i := 189) (by decide +kernel), List.mem_of_getElem? (i := 190) (by decide +kernel)⟩
theorem lw_p8 : lw_okq (⟨"SpentPasses$Hall", "leastFrom", "(II)I"⟩, 1) := ⟨⟨by decide +kernel, by decide +kernel⟩, List.mem_of_getElem? (i := 37) (by decide +kernel), List.mem_of_getElem? (i := 388) (by decide +kernel), List.mem_of_getElem? (i := 389) (by decide +kernel)⟩
theorem lw_p9 : lw_okq (⟨"SpentPasses", "isSo", "(I)Z"⟩, 6) := ⟨⟨by decide +kernel, by decide +kernel⟩, List.mem_of_getElem? (i := 11) (by decide +kernel), List.mem_of_getElem? (i := 408) (by decide +kernel), List.mem_of_getElem? (i := 409) (by decide +kernel)⟩
theorem lw_p10 : lw_okq (⟨"SpentPasses", "sendInMind", "(I)Z"⟩, 6) := ⟨⟨by decide +kernel, by decide +kernel⟩, List.mem_of_getElem? (i := 11) (by decide +kernel), List.mem_of_getElem? (i := 412) (by decide +kernel), List.mem_of_getElem? (i := 413) (by decide +kernel)⟩
theorem lw_p11 : lw_okq (⟨"SpentPasses", "widenInMind", "(I)Z"⟩, 6) := ⟨⟨by decide +kernel, by decide +kernel⟩, List.mem_of_getElem? (i := 11) (by decide +kernel), List.mem_of_getElem? (i := 420) (by decide +kernel), List.mem_of_getElem? (i := 421) (by decide +kernel)⟩
theorem lw_p12 : lw_okq (⟨"SpentPasses$Seen", "agrees", "(ILSpentPasses$Hall;)Z"⟩, 4) := ⟨⟨by decide +kernel, by decide +kernel⟩, List.mem_of_getElem? (i := 79) (by decide +kernel), List.mem_of_getElem? (i := 444) (by decide +kernel), List.mem_of_getElem? (i := 445) (by decide +kernel)⟩
theorem lw_p13 : lw_okq (⟨"SpentPasses", "weightInStep", "(IIII)J"⟩, 6) := ⟨⟨by decide +kernel, by decide +kernel⟩, List.mem_of_getElem? (i := 11) (by decide +kernel), List.mem_of_getElem? (i := 477) (by decide +kernel), List.mem_of_getElem? (i := 478) (by decide +kernel)⟩
theorem lw_p14 : lw_okq (⟨"SpentPasses", "isTakenOnDay", "(I)Z"⟩, 6) := ⟨⟨by decide +kernel, by decide +kernel⟩, List.mem_of_getElem? (i := 11) (by decide +kernel), List.mem_of_getElem? (i := 491) (by decide +kernel), List.mem_of_getElem? (i := 492) (by decide +kernel)⟩
theorem lw_p15 : lw_okq (⟨"SpentPassesModel", "readDesk", "()I"⟩, 19) := ⟨⟨by decide +kernel, by decide +kernel⟩, List.mem_of_getElem? (i := 515) (by decide +kernel), List.mem_of_getElem? (i := 598) (by decide +kernel), List.mem_of_getElem? (i := 599) (by decide +kernel)⟩
def lw_privs_1 : List (MethodName × Nat) := [(⟨"SpentPasses$Text", "isNext", "(I)Z"⟩, 3), (⟨"SpentPasses$Text", "nextLetter", "()I"⟩, 3), (⟨"SpentPasses$Text", "readFigure", "(II)I"⟩, 3), (⟨"SpentPasses$Text", "readUser", "(LSpentPasses$Hall;)Z"⟩, 3), (⟨"SpentPasses$Text", "readNumber", "()I"⟩, 3), (⟨"SpentPasses$Text", "readRowLength", "()I"⟩, 3), (⟨"SpentPasses$Hall", "put", "(III)V"⟩, 1), (⟨"SpentPasses$Text", "readDoing", "(LSpentPasses$Hall;)Z"⟩, 3), (⟨"SpentPasses$Hall", "leastFrom", "(II)I"⟩, 1), (⟨"SpentPasses", "isSo", "(I)Z"⟩, 6), (⟨"SpentPasses", "sendInMind", "(I)Z"⟩, 6), (⟨"SpentPasses", "widenInMind", "(I)Z"⟩, 6), (⟨"SpentPasses$Seen", "agrees", "(ILSpentPasses$Hall;)Z"⟩, 4), (⟨"SpentPasses", "weightInStep", "(IIII)J"⟩, 6), (⟨"SpentPasses", "isTakenOnDay", "(I)Z"⟩, 6), (⟨"SpentPassesModel", "readDesk", "()I"⟩, 19)]
theorem lw_r1 : ∀ q ∈ lw_privs_1, lw_okq q := List.forall_mem_cons.mpr ⟨lw_p0, List.forall_mem_cons.mpr ⟨lw_p1, List.forall_mem_cons.mpr ⟨lw_p2, List.forall_mem_cons.mpr ⟨lw_p3, List.forall_mem_cons.mpr ⟨lw_p4, List.forall_mem_cons.mpr ⟨lw_p5, List.forall_mem_cons.mpr ⟨lw_p6, List.forall_mem_cons.mpr ⟨lw_p7, List.forall_mem_cons.mpr ⟨lw_p8, List.forall_mem_cons.mpr ⟨lw_p9, List.forall_mem_cons.mpr ⟨lw_p10, List.forall_mem_cons.mpr ⟨lw_p11, List.forall_mem_cons.mpr ⟨lw_p12, List.forall_mem_cons.mpr ⟨lw_p13, List.forall_mem_cons.mpr ⟨lw_p14, List.forall_mem_cons.mpr ⟨lw_p15, fun _ h => absurd h List.not_mem_nil⟩⟩⟩⟩⟩⟩⟩⟩⟩⟩⟩⟩⟩⟩⟩⟩
theorem lw_p16 : lw_okq (⟨"SpentPassesModel", "figure", "(II)I"⟩, 19) := ⟨⟨by decide +kernel, by decide +kernel⟩, List.mem_of_getElem? (i := 515) (by decide +kernel), List.mem_of_getElem? (i := 602) (by decide +kernel), List.mem_of_getElem? (i := 603) (by decide +kernel)⟩
theorem lw_p17 : lw_okq (⟨"SpentPassesModel", "readUser", "()Z"⟩, 19) := ⟨⟨by decide +kernel, by decide +kernel⟩, List.mem_of_getElem? (i := 515) (by decide +kernel), List.mem_of_getElem? (i := 606) (by decide +kernel), List.mem_of_getElem? (i := 607) (by decide +kernel)⟩
theorem lw_p18 : lw_okq (⟨"SpentPassesModel", "readNumber", "()I"⟩, 19) := ⟨⟨by decide +kernel, by decide +kernel⟩, List.mem_of_getElem? (i := 515) (by decide +kernel), List.mem_of_getElem? (i := 610) (by decide +kernel), List.mem_of_getElem? (i := 611) (by decide +kernel)⟩
theorem lw_p19 : lw_okq (⟨"SpentPassesModel", "readEvent", "(Z)Z"⟩, 19) := ⟨⟨by decide +kernel, by decide +kernel⟩, List.mem_of_getElem? (i := 515) (by decide +kernel), List.mem_of_getElem? (i := 620) (by decide +kernel), List.mem_of_getElem? (i := 621) (by decide +kernel)⟩
theorem lw_p20 : lw_okq (⟨"SpentPassesModel", "gap", "(I)I"⟩, 19) := ⟨⟨by decide +kernel, by decide +kernel⟩, List.mem_of_getElem? (i := 515) (by decide +kernel), List.mem_of_getElem? (i := 657) (by decide +kernel), List.mem_of_getElem? (i := 658) (by decide +kernel)⟩
theorem lw_p21 : lw_okq (⟨"SpentPassesModel", "layLoop", "(I)I"⟩, 19) := ⟨⟨by decide +kernel, by decide +kernel⟩, List.mem_of_getElem? (i := 515) (by decide +kernel), List.mem_of_getElem? (i := 661) (by decide +kernel), List.mem_of_getElem? (i := 662) (by decide +kernel)⟩
theorem lw_p22 : lw_okq (⟨"SpentPassesModel", "note", "()V"⟩, 19) := ⟨⟨by decide +kernel, by decide +kernel⟩, List.mem_of_getElem? (i := 515) (by decide +kernel), List.mem_of_getElem? (i := 682) (by decide +kernel), List.mem_of_getElem? (i := 683) (by decide +kernel)⟩
theorem lw_p23 : lw_okq (⟨"SpentPassesModel", "fittingOf", "(I)I"⟩, 19) := ⟨⟨by decide +kernel, by decide +kernel⟩, List.mem_of_getElem? (i := 515) (by decide +kernel), List.mem_of_getElem? (i := 720) (by decide +kernel), List.mem_of_getElem? (i := 721) (by decide +kernel)⟩
theorem lw_p24 : lw_okq (⟨"SpentPassesModel", "does", "(IIII)Z"⟩, 19) := ⟨⟨by decide +kernel, by decide +kernel⟩, List.mem_of_getElem? (i := 515) (by decide +kernel), List.mem_of_getElem? (i := 744) (by decide +kernel), List.mem_of_getElem? (i := 745) (by decide +kernel)⟩
def lw_privs_2 : List (MethodName × Nat) := [(⟨"SpentPassesModel", "figure", "(II)I"⟩, 19), (⟨"SpentPassesModel", "readUser", "()Z"⟩, 19), (⟨"SpentPassesModel", "readNumber", "()I"⟩, 19), (⟨"SpentPassesModel", "readEvent", "(Z)Z"⟩, 19), (⟨"SpentPassesModel", "gap", "(I)I"⟩, 19), (⟨"SpentPassesModel", "layLoop", "(I)I"⟩, 19), (⟨"SpentPassesModel", "note", "()V"⟩, 19), (⟨"SpentPassesModel", "fittingOf", "(I)I"⟩, 19), (⟨"SpentPassesModel", "does", "(IIII)Z"⟩, 19)]
theorem lw_r2 : ∀ q ∈ lw_privs_2, lw_okq q := List.forall_mem_cons.mpr ⟨lw_p16, List.forall_mem_cons.mpr ⟨lw_p17, List.forall_mem_cons.mpr ⟨lw_p18, List.forall_mem_cons.mpr ⟨lw_p19, List.forall_mem_cons.mpr ⟨lw_p20, List.forall_mem_cons.mpr ⟨lw_p21, List.forall_mem_cons.mpr ⟨lw_p22, List.forall_mem_cons.mpr ⟨lw_p23, List.forall_mem_cons.mpr ⟨lw_p24, fun _ h => absurd h List.not_mem_nil⟩⟩⟩⟩⟩⟩⟩⟩⟩
def lw_privs : List (MethodName × Nat) := lw_privs_1 ++ (lw_privs_2)
def lw_tbl : List Cond := k2_sels lw_privs ++ tables_1
theorem lw_privs_ok : ∀ q ∈ lw_privs, lw_okq q := by
  show ∀ q ∈ lw_privs_1 ++ (lw_privs_2), lw_okq q
  exact List.forall_mem_append.mpr ⟨lw_r1, lw_r2⟩
def RX0 : String := "SpentPasses$Hall"
def TX0 : u_T := fun k => match k with
  | _ => ("SpentPasses$Hall", "cells", "[I", true)
def tyX0 : Nat → FieldType := fun k => match k with
  | _ => .array .int
abbrev wsX00 : List Cond := u_ws RX0 TX0 1
theorem nmX0 : ∀ a, a < 1 → ∀ b, b < 1 → a ≠ b → (TX0 a).2.1 ≠ (TX0 b).2.1 := by decide +kernel
theorem tyX0_ok : ∀ k, k < 1 → parseFieldDescriptor (TX0 k).2.2.1 = some (tyX0 k) := by decide +kernel
abbrev cX0_init : ByteArray := prog_2_method_1_code
def yX0_init : MethodName := ⟨RX0, "<init>", "()V"⟩
abbrev cX0_clear : ByteArray := prog_2_method_2_code
def yX0_clear : MethodName := ⟨RX0, "clear", "()V"⟩
abbrev cX0_copyFrom : ByteArray := prog_2_method_3_code
def yX0_copyFrom : MethodName := ⟨RX0, "copyFrom", "(LSpentPasses$Hall;)V"⟩
abbrev cX0_users : ByteArray := prog_2_method_4_code
def yX0_users : MethodName := ⟨RX0, "users", "()I"⟩
abbrev cX0_window : ByteArray := prog_2_method_5_code
def yX0_window : MethodName := ⟨RX0, "window", "()I"⟩
abbrev cX0_setWindow : ByteArray := prog_2_method_6_code
def yX0_setWindow : MethodName := ⟨RX0, "setWindow", "(I)V"⟩
abbrev cX0_wire : ByteArray := prog_2_method_7_code
def yX0_wire : MethodName := ⟨RX0, "wire", "()I"⟩
abbrev cX0_userIn : ByteArray := prog_2_method_8_code
def yX0_userIn : MethodName := ⟨RX0, "userIn", "(I)I"⟩
abbrev cX0_numberIn : ByteArray := prog_2_method_9_code
def yX0_numberIn : MethodName := ⟨RX0, "numberIn", "(I)I"⟩
abbrev cX0_heardCount : ByteArray := prog_2_method_10_code
def yX0_heardCount : MethodName := ⟨RX0, "heardCount", "()I"⟩
abbrev cX0_heardAt : ByteArray := prog_2_method_11_code
def yX0_heardAt : MethodName := ⟨RX0, "heardAt", "(I)I"⟩
abbrev cX0_overhear : ByteArray := prog_2_method_12_code
def yX0_overhear : MethodName := ⟨RX0, "overhear", "()V"⟩
abbrev cX0_has : ByteArray := prog_2_method_13_code
def yX0_has : MethodName := ⟨RX0, "has", "(I)Z"⟩
abbrev cX0_of : ByteArray := prog_2_method_14_code
def yX0_of : MethodName := ⟨RX0, "of", "(II)I"⟩
abbrev cX0_put : ByteArray := prog_2_method_15_code
def yX0_put : MethodName := ⟨RX0, "put", "(III)V"⟩
abbrev cX0_addUser : ByteArray := prog_2_method_16_code
def yX0_addUser : MethodName := ⟨RX0, "addUser", "(III)V"⟩
abbrev cX0_beginRow : ByteArray := prog_2_method_17_code
def yX0_beginRow : MethodName := ⟨RX0, "beginRow", "(IIII)V"⟩
abbrev cX0_hasOwn : ByteArray := prog_2_method_18_code
def yX0_hasOwn : MethodName := ⟨RX0, "hasOwn", "(I)Z"⟩
abbrev cX0_anyHasOwn : ByteArray := prog_2_method_19_code
def yX0_anyHasOwn : MethodName := ⟨RX0, "anyHasOwn", "()Z"⟩
abbrev cX0_passOf : ByteArray := prog_2_method_20_code
def yX0_passOf : MethodName := ⟨RX0, "passOf", "(II)I"⟩
abbrev cX0_fitOf : ByteArray := prog_2_method_21_code
def yX0_fitOf : MethodName := ⟨RX0, "fitOf", "(II)I"⟩
abbrev cX0_bring : ByteArray := prog_2_method_22_code
def yX0_bring : MethodName := ⟨RX0, "bring", "(II)I"⟩
abbrev cX0_spendPass : ByteArray := prog_2_method_23_code
def yX0_spendPass : MethodName := ⟨RX0, "spendPass", "(I)Z"⟩
abbrev cX0_sendPass : ByteArray := prog_2_method_24_code
def yX0_sendPass : MethodName := ⟨RX0, "sendPass", "(I)I"⟩
abbrev cX0_isInStep : ByteArray := prog_2_method_25_code
def yX0_isInStep : MethodName := ⟨RX0, "isInStep", "(I)Z"⟩
abbrev cX0_isWarned : ByteArray := prog_2_method_26_code
def yX0_isWarned : MethodName := ⟨RX0, "isWarned", "(I)Z"⟩
abbrev cX0_gapOf : ByteArray := prog_2_method_27_code
def yX0_gapOf : MethodName := ⟨RX0, "gapOf", "(I)I"⟩
abbrev cX0_countFitting : ByteArray := prog_2_method_28_code
def yX0_countFitting : MethodName := ⟨RX0, "countFitting", "(I)I"⟩
abbrev cX0_leastFitting : ByteArray := prog_2_method_29_code
def yX0_leastFitting : MethodName := ⟨RX0, "leastFitting", "(I)I"⟩
abbrev cX0_countFitted : ByteArray := prog_2_method_30_code
def yX0_countFitted : MethodName := ⟨RX0, "countFitted", "(I)I"⟩
abbrev cX0_leastStolen : ByteArray := prog_2_method_31_code
def yX0_leastStolen : MethodName := ⟨RX0, "leastStolen", "(I)I"⟩
abbrev cX0_leastFrom : ByteArray := prog_2_method_32_code
def yX0_leastFrom : MethodName := ⟨RX0, "leastFrom", "(II)I"⟩
abbrev cX0_lesser : ByteArray := prog_2_method_33_code
def yX0_lesser : MethodName := ⟨RX0, "lesser", "(II)I"⟩
def RX1 : String := "SpentPasses$Seen"
def TX1 : u_T := fun k => match k with
  | 0 => ("SpentPasses$Seen", "users", "[I", true)
  | 1 => ("SpentPasses$Seen", "places", "[I", true)
  | 2 => ("SpentPasses$Seen", "numbers", "[I", true)
  | _ => ("SpentPasses$Seen", "size", "I", false)
def tyX1 : Nat → FieldType := fun k => match k with
  | 0 => .array .int
  | 1 => .array .int
  | 2 => .array .int
  | _ => .int
abbrev wsX10 : List Cond := u_ws RX1 TX1 4
theorem nmX1 : ∀ a, a < 4 → ∀ b, b < 4 → a ≠ b → (TX1 a).2.1 ≠ (TX1 b).2.1 := by decide +kernel
theorem tyX1_ok : ∀ k, k < 4 → parseFieldDescriptor (TX1 k).2.2.1 = some (tyX1 k) := by decide +kernel
abbrev cX1_init : ByteArray := prog_3_method_1_code
def yX1_init : MethodName := ⟨RX1, "<init>", "()V"⟩
abbrev cX1_add : ByteArray := prog_3_method_2_code
def yX1_add : MethodName := ⟨RX1, "add", "(III)Z"⟩
abbrev cX1_countSeeds : ByteArray := prog_3_method_3_code
def yX1_countSeeds : MethodName := ⟨RX1, "countSeeds", "(LSpentPasses$Hall;)I"⟩
abbrev cX1_leastSeed : ByteArray := prog_3_method_4_code
def yX1_leastSeed : MethodName := ⟨RX1, "leastSeed", "(LSpentPasses$Hall;)I"⟩
abbrev cX1_agrees : ByteArray := prog_3_method_5_code
def yX1_agrees : MethodName := ⟨RX1, "agrees", "(ILSpentPasses$Hall;)Z"⟩
def RX2 : String := "SpentPasses$Shelf"
def TX2 : u_T := fun k => match k with
  | 0 => ("SpentPasses$Shelf", "beforeActs", "[I", true)
  | 1 => ("SpentPasses$Shelf", "kept", "[I", true)
  | 2 => ("SpentPasses$Shelf", "isKept", "[Z", true)
  | 3 => ("SpentPasses$Shelf", "acts", "I", false)
  | _ => ("SpentPasses$Shelf", "nextAct", "I", false)
def tyX2 : Nat → FieldType := fun k => match k with
  | 0 => .array .int
  | 1 => .array .int
  | 2 => .array .boolean
  | 3 => .int
  | _ => .int
abbrev wsX20 : List Cond := u_ws RX2 TX2 5
theorem nmX2 : ∀ a, a < 5 → ∀ b, b < 5 → a ≠ b → (TX2 a).2.1 ≠ (TX2 b).2.1 := by decide +kernel
theorem tyX2_ok : ∀ k, k < 5 → parseFieldDescriptor (TX2 k).2.2.1 = some (tyX2 k) := by decide +kernel
abbrev cX2_init : ByteArray := prog_4_method_1_code
def yX2_init : MethodName := ⟨RX2, "<init>", "()V"⟩
abbrev cX2_remember : ByteArray := prog_4_method_2_code
def yX2_remember : MethodName := ⟨RX2, "remember", "(LSpentPasses$Hall;)V"⟩
abbrev cX2_takeBack : ByteArray := prog_4_method_3_code
def yX2_takeBack : MethodName := ⟨RX2, "takeBack", "(LSpentPasses$Hall;)Z"⟩
abbrev cX2_keepIn : ByteArray := prog_4_method_4_code
def yX2_keepIn : MethodName := ⟨RX2, "keepIn", "(ILSpentPasses$Hall;)Z"⟩
abbrev cX2_bringBack : ByteArray := prog_4_method_5_code
def yX2_bringBack : MethodName := ⟨RX2, "bringBack", "(ILSpentPasses$Hall;)Z"⟩
abbrev cX2_forgetAll : ByteArray := prog_4_method_6_code
def yX2_forgetAll : MethodName := ⟨RX2, "forgetAll", "()V"⟩
def RX3 : String := "SpentPasses$Text"
def TX3 : u_T := fun k => match k with
  | 0 => ("SpentPasses$Text", "letters", "[I", true)
  | 1 => ("SpentPasses$Text", "length", "I", false)
  | _ => ("SpentPasses$Text", "place", "I", false)
def tyX3 : Nat → FieldType := fun k => match k with
  | 0 => .array .int
  | 1 => .int
  | _ => .int
abbrev wsX30 : List Cond := u_ws RX3 TX3 3
theorem nmX3 : ∀ a, a < 3 → ∀ b, b < 3 → a ≠ b → (TX3 a).2.1 ≠ (TX3 b).2.1 := by decide +kernel
theorem tyX3_ok : ∀ k, k < 3 → parseFieldDescriptor (TX3 k).2.2.1 = some (tyX3 k) := by decide +kernel
abbrev cX3_init : ByteArray := prog_5_method_1_code
def yX3_init : MethodName := ⟨RX3, "<init>", "()V"⟩
abbrev cX3_append : ByteArray := prog_5_method_2_code
def yX3_append : MethodName := ⟨RX3, "append", "(I)Z"⟩
abbrev cX3_readInto : ByteArray := prog_5_method_3_code
def yX3_readInto : MethodName := ⟨RX3, "readInto", "(LSpentPasses$Hall;)I"⟩
abbrev cX3_nextLetter : ByteArray := prog_5_method_4_code
def yX3_nextLetter : MethodName := ⟨RX3, "nextLetter", "()I"⟩
abbrev cX3_isNext : ByteArray := prog_5_method_5_code
def yX3_isNext : MethodName := ⟨RX3, "isNext", "(I)Z"⟩
abbrev cX3_readUser : ByteArray := prog_5_method_6_code
def yX3_readUser : MethodName := ⟨RX3, "readUser", "(LSpentPasses$Hall;)Z"⟩
abbrev cX3_readDoing : ByteArray := prog_5_method_7_code
def yX3_readDoing : MethodName := ⟨RX3, "readDoing", "(LSpentPasses$Hall;)Z"⟩
abbrev cX3_readNumber : ByteArray := prog_5_method_8_code
def yX3_readNumber : MethodName := ⟨RX3, "readNumber", "()I"⟩
abbrev cX3_readRowLength : ByteArray := prog_5_method_9_code
def yX3_readRowLength : MethodName := ⟨RX3, "readRowLength", "()I"⟩
abbrev cX3_readFigure : ByteArray := prog_5_method_10_code
def yX3_readFigure : MethodName := ⟨RX3, "readFigure", "(II)I"⟩
def RX4 : String := "SpentPasses"
def TX4 : u_T := fun k => match k with
  | 0 => ("SpentPasses", "text", "LSpentPasses$Text;", true)
  | 1 => ("SpentPasses", "now", "LSpentPasses$Hall;", true)
  | 2 => ("SpentPasses", "trial", "LSpentPasses$Hall;", true)
  | 3 => ("SpentPasses", "shelf", "LSpentPasses$Shelf;", true)
  | 4 => ("SpentPasses", "seen", "LSpentPasses$Seen;", true)
  | _ => ("SpentPasses", "days", "J", false)
def tyX4 : Nat → FieldType := fun k => match k with
  | 0 => .object "SpentPasses$Text"
  | 1 => .object "SpentPasses$Hall"
  | 2 => .object "SpentPasses$Hall"
  | 3 => .object "SpentPasses$Shelf"
  | 4 => .object "SpentPasses$Seen"
  | _ => .long
abbrev wsX40 : List Cond := u_ws RX4 TX4 6
theorem nmX4 : ∀ a, a < 6 → ∀ b, b < 6 → a ≠ b → (TX4 a).2.1 ≠ (TX4 b).2.1 := by decide +kernel
theorem tyX4_ok : ∀ k, k < 6 → parseFieldDescriptor (TX4 k).2.2.1 = some (tyX4 k) := by decide +kernel
abbrev cX4_init : ByteArray := prog_1_method_1_code
def yX4_init : MethodName := ⟨RX4, "<init>", "()V"⟩
abbrev cX4_write : ByteArray := prog_1_method_2_code
def yX4_write : MethodName := ⟨RX4, "write", "(I)I"⟩
abbrev cX4_wipe : ByteArray := prog_1_method_3_code
def yX4_wipe : MethodName := ⟨RX4, "wipe", "()I"⟩
abbrev cX4_fault : ByteArray := prog_1_method_4_code
def yX4_fault : MethodName := ⟨RX4, "fault", "()I"⟩
abbrev cX4_desk : ByteArray := prog_1_method_5_code
def yX4_desk : MethodName := ⟨RX4, "desk", "()I"⟩
abbrev cX4_user : ByteArray := prog_1_method_6_code
def yX4_user : MethodName := ⟨RX4, "user", "(II)I"⟩
abbrev cX4_pass : ByteArray := prog_1_method_7_code
def yX4_pass : MethodName := ⟨RX4, "pass", "(II)I"⟩
abbrev cX4_behind : ByteArray := prog_1_method_8_code
def yX4_behind : MethodName := ⟨RX4, "behind", "(III)I"⟩
abbrev cX4_send : ByteArray := prog_1_method_9_code
def yX4_send : MethodName := ⟨RX4, "send", "(I)I"⟩
abbrev cX4_miss : ByteArray := prog_1_method_10_code
def yX4_miss : MethodName := ⟨RX4, "miss", "(I)I"⟩
abbrev cX4_attempt : ByteArray := prog_1_method_11_code
def yX4_attempt : MethodName := ⟨RX4, "attempt", "(II)I"⟩
abbrev cX4_hear : ByteArray := prog_1_method_12_code
def yX4_hear : MethodName := ⟨RX4, "hear", "()I"⟩
abbrev cX4_renew : ByteArray := prog_1_method_13_code
def yX4_renew : MethodName := ⟨RX4, "renew", "(IIII)I"⟩
abbrev cX4_widen : ByteArray := prog_1_method_14_code
def yX4_widen : MethodName := ⟨RX4, "widen", "(I)I"⟩
abbrev cX4_undo : ByteArray := prog_1_method_15_code
def yX4_undo : MethodName := ⟨RX4, "undo", "()I"⟩
abbrev cX4_fits : ByteArray := prog_1_method_16_code
def yX4_fits : MethodName := ⟨RX4, "fits", "(II)I"⟩
abbrev cX4_fitting : ByteArray := prog_1_method_17_code
def yX4_fitting : MethodName := ⟨RX4, "fitting", "(II)I"⟩
abbrev cX4_thief : ByteArray := prog_1_method_18_code
def yX4_thief : MethodName := ⟨RX4, "thief", "(I)I"⟩
abbrev cX4_heard : ByteArray := prog_1_method_19_code
def yX4_heard : MethodName := ⟨RX4, "heard", "(I)I"⟩
abbrev cX4_judge : ByteArray := prog_1_method_20_code
def yX4_judge : MethodName := ⟨RX4, "judge", "(IJ)I"⟩
abbrev cX4_see : ByteArray := prog_1_method_21_code
def yX4_see : MethodName := ⟨RX4, "see", "(III)I"⟩
abbrev cX4_unsee : ByteArray := prog_1_method_22_code
def yX4_unsee : MethodName := ⟨RX4, "unsee", "()I"⟩
abbrev cX4_which : ByteArray := prog_1_method_23_code
def yX4_which : MethodName := ⟨RX4, "which", "(I)I"⟩
abbrev cX4_share : ByteArray := prog_1_method_24_code
def yX4_share : MethodName := ⟨RX4, "share", "(IZ)I"⟩
abbrev cX4_guess : ByteArray := prog_1_method_25_code
def yX4_guess : MethodName := ⟨RX4, "guess", "(IIZ)I"⟩
abbrev cX4_loss : ByteArray := prog_1_method_26_code
def yX4_loss : MethodName := ⟨RX4, "loss", "(IIIZ)I"⟩
abbrev cX4_seed : ByteArray := prog_1_method_27_code
def yX4_seed : MethodName := ⟨RX4, "seed", "(J)J"⟩
abbrev cX4_drawn : ByteArray := prog_1_method_28_code
def yX4_drawn : MethodName := ⟨RX4, "drawn", "(I)I"⟩
abbrev cX4_keep : ByteArray := prog_1_method_29_code
def yX4_keep : MethodName := ⟨RX4, "keep", "(I)I"⟩
abbrev cX4_again : ByteArray := prog_1_method_30_code
def yX4_again : MethodName := ⟨RX4, "again", "(I)I"⟩
abbrev cX4_count : ByteArray := prog_1_method_31_code
def yX4_count : MethodName := ⟨RX4, "count", "(I)I"⟩
abbrev cX4_isWithin : ByteArray := prog_1_method_32_code
def yX4_isWithin : MethodName := ⟨RX4, "isWithin", "(III)Z"⟩
abbrev cX4_isNumber : ByteArray := prog_1_method_33_code
def yX4_isNumber : MethodName := ⟨RX4, "isNumber", "(I)Z"⟩
abbrev cX4_stepsBehind : ByteArray := prog_1_method_34_code
def yX4_stepsBehind : MethodName := ⟨RX4, "stepsBehind", "(III)I"⟩
abbrev cX4_returnOf : ByteArray := prog_1_method_35_code
def yX4_returnOf : MethodName := ⟨RX4, "returnOf", "(II)I"⟩
abbrev cX4_tailOf : ByteArray := prog_1_method_36_code
def yX4_tailOf : MethodName := ⟨RX4, "tailOf", "(II)I"⟩
abbrev cX4_loopOf : ByteArray := prog_1_method_37_code
def yX4_loopOf : MethodName := ⟨RX4, "loopOf", "(II)I"⟩
abbrev cX4_power : ByteArray := prog_1_method_38_code
def yX4_power : MethodName := ⟨RX4, "power", "(II)J"⟩
abbrev cX4_toldFraction : ByteArray := prog_1_method_39_code
def yX4_toldFraction : MethodName := ⟨RX4, "toldFraction", "(JJZ)I"⟩
abbrev cX4_commonDivisor : ByteArray := prog_1_method_40_code
def yX4_commonDivisor : MethodName := ⟨RX4, "commonDivisor", "(JJ)J"⟩
abbrev cX4_withoutDoings : ByteArray := prog_1_method_41_code
def yX4_withoutDoings : MethodName := ⟨RX4, "withoutDoings", "(JI)J"⟩
abbrev cX4_isSo : ByteArray := prog_1_method_42_code
def yX4_isSo : MethodName := ⟨RX4, "isSo", "(I)Z"⟩
abbrev cX4_sendInMind : ByteArray := prog_1_method_43_code
def yX4_sendInMind : MethodName := ⟨RX4, "sendInMind", "(I)Z"⟩
abbrev cX4_widenInMind : ByteArray := prog_1_method_44_code
def yX4_widenInMind : MethodName := ⟨RX4, "widenInMind", "(I)Z"⟩
abbrev cX4_weightInStep : ByteArray := prog_1_method_45_code
def yX4_weightInStep : MethodName := ⟨RX4, "weightInStep", "(IIII)J"⟩
abbrev cX4_isTakenOnDay : ByteArray := prog_1_method_46_code
def yX4_isTakenOnDay : MethodName := ⟨RX4, "isTakenOnDay", "(I)Z"⟩
def RX5 : String := "SpentPassesModel"
def TX5 : u_T := fun k => match k with
  | 0 => ("SpentPassesModel", "thrown", "I", false)
  | 1 => ("SpentPassesModel", "text", "[I", true)
  | 2 => ("SpentPassesModel", "textSize", "I", false)
  | 3 => ("SpentPassesModel", "place", "I", false)
  | 4 => ("SpentPassesModel", "readPage", "[I", true)
  | 5 => ("SpentPassesModel", "readEvents", "[I", true)
  | 6 => ("SpentPassesModel", "readMany", "I", false)
  | 7 => ("SpentPassesModel", "page", "[I", true)
  | 8 => ("SpentPassesModel", "trial", "[I", true)
  | 9 => ("SpentPassesModel", "book", "[I", true)
  | 10 => ("SpentPassesModel", "doings", "I", false)
  | 11 => ("SpentPassesModel", "kept", "[I", true)
  | 12 => ("SpentPassesModel", "isKept", "[Z", true)
  | 13 => ("SpentPassesModel", "seen", "I", false)
  | 14 => ("SpentPassesModel", "seenUser", "[I", true)
  | 15 => ("SpentPassesModel", "seenPlace", "[I", true)
  | 16 => ("SpentPassesModel", "seenNumber", "[I", true)
  | 17 => ("SpentPassesModel", "seed", "J", false)
  | _ => ("SpentPassesModel", "first", "[I", true)
def tyX5 : Nat → FieldType := fun k => match k with
  | 0 => .int
  | 1 => .array .int
  | 2 => .int
  | 3 => .int
  | 4 => .array .int
  | 5 => .array .int
  | 6 => .int
  | 7 => .array .int
  | 8 => .array .int
  | 9 => .array .int
  | 10 => .int
  | 11 => .array .int
  | 12 => .array .boolean
  | 13 => .int
  | 14 => .array .int
  | 15 => .array .int
  | 16 => .array .int
  | 17 => .long
  | _ => .array .int
abbrev wsX50 : List Cond := u_ws RX5 TX5 19
theorem nmX5 : ∀ a, a < 19 → ∀ b, b < 19 → a ≠ b → (TX5 a).2.1 ≠ (TX5 b).2.1 := by decide +kernel
theorem tyX5_ok : ∀ k, k < 19 → parseFieldDescriptor (TX5 k).2.2.1 = some (tyX5 k) := by decide +kernel
abbrev cX5_init : ByteArray := prog_7_method_1_code
def yX5_init : MethodName := ⟨RX5, "<init>", "()V"⟩
abbrev cX5_in : ByteArray := prog_7_method_3_code
def yX5_in : MethodName := ⟨RX5, "in", "(JJJ)Z"⟩
abbrev cX5_has : ByteArray := prog_7_method_4_code
def yX5_has : MethodName := ⟨RX5, "has", "(II)Z"⟩
abbrev cX5_ones : ByteArray := prog_7_method_5_code
def yX5_ones : MethodName := ⟨RX5, "ones", "(I)I"⟩
abbrev cX5_power : ByteArray := prog_7_method_6_code
def yX5_power : MethodName := ⟨RX5, "power", "(II)I"⟩
abbrev cX5_layFirst : ByteArray := prog_7_method_7_code
def yX5_layFirst : MethodName := ⟨RX5, "layFirst", "([I)V"⟩
abbrev cX5_lay : ByteArray := prog_7_method_8_code
def yX5_lay : MethodName := ⟨RX5, "lay", "([I[I)V"⟩
abbrev cX5_isNumber : ByteArray := prog_7_method_9_code
def yX5_isNumber : MethodName := ⟨RX5, "isNumber", "(I)Z"⟩
abbrev cX5_after : ByteArray := prog_7_method_10_code
def yX5_after : MethodName := ⟨RX5, "after", "(III)I"⟩
abbrev cX5_noUser : ByteArray := prog_7_method_11_code
def yX5_noUser : MethodName := ⟨RX5, "noUser", "([II)Z"⟩
abbrev cX5_layUser : ByteArray := prog_7_method_12_code
def yX5_layUser : MethodName := ⟨RX5, "layUser", "([IIIII)V"⟩
abbrev cX5_passOf : ByteArray := prog_7_method_13_code
def yX5_passOf : MethodName := ⟨RX5, "passOf", "([III)I"⟩
abbrev cX5_fitsOn : ByteArray := prog_7_method_14_code
def yX5_fitsOn : MethodName := ⟨RX5, "fitsOn", "([III)I"⟩
abbrev cX5_comeOn : ByteArray := prog_7_method_15_code
def yX5_comeOn : MethodName := ⟨RX5, "comeOn", "([III)I"⟩
abbrev cX5_sendOn : ByteArray := prog_7_method_16_code
def yX5_sendOn : MethodName := ⟨RX5, "sendOn", "([II)I"⟩
abbrev cX5_hasPass : ByteArray := prog_7_method_17_code
def yX5_hasPass : MethodName := ⟨RX5, "hasPass", "([II)Z"⟩
abbrev cX5_isInStep : ByteArray := prog_7_method_18_code
def yX5_isInStep : MethodName := ⟨RX5, "isInStep", "([II)Z"⟩
abbrev cX5_write : ByteArray := prog_7_method_19_code
def yX5_write : MethodName := ⟨RX5, "write", "(I)I"⟩
abbrev cX5_wipe : ByteArray := prog_7_method_20_code
def yX5_wipe : MethodName := ⟨RX5, "wipe", "()I"⟩
abbrev cX5_figure : ByteArray := prog_7_method_21_code
def yX5_figure : MethodName := ⟨RX5, "figure", "(II)I"⟩
abbrev cX5_readNumber : ByteArray := prog_7_method_22_code
def yX5_readNumber : MethodName := ⟨RX5, "readNumber", "()I"⟩
abbrev cX5_readUser : ByteArray := prog_7_method_23_code
def yX5_readUser : MethodName := ⟨RX5, "readUser", "()Z"⟩
abbrev cX5_readEvent : ByteArray := prog_7_method_24_code
def yX5_readEvent : MethodName := ⟨RX5, "readEvent", "(Z)Z"⟩
abbrev cX5_readDesk : ByteArray := prog_7_method_25_code
def yX5_readDesk : MethodName := ⟨RX5, "readDesk", "()I"⟩
abbrev cX5_fault : ByteArray := prog_7_method_26_code
def yX5_fault : MethodName := ⟨RX5, "fault", "()I"⟩
abbrev cX5_desk : ByteArray := prog_7_method_27_code
def yX5_desk : MethodName := ⟨RX5, "desk", "()I"⟩
abbrev cX5_gap : ByteArray := prog_7_method_28_code
def yX5_gap : MethodName := ⟨RX5, "gap", "(I)I"⟩
abbrev cX5_layLoop : ByteArray := prog_7_method_29_code
def yX5_layLoop : MethodName := ⟨RX5, "layLoop", "(I)I"⟩
abbrev cX5_user : ByteArray := prog_7_method_30_code
def yX5_user : MethodName := ⟨RX5, "user", "(II)I"⟩
abbrev cX5_pass : ByteArray := prog_7_method_31_code
def yX5_pass : MethodName := ⟨RX5, "pass", "(II)I"⟩
abbrev cX5_behind : ByteArray := prog_7_method_32_code
def yX5_behind : MethodName := ⟨RX5, "behind", "(III)I"⟩
abbrev cX5_note : ByteArray := prog_7_method_33_code
def yX5_note : MethodName := ⟨RX5, "note", "()V"⟩
abbrev cX5_send : ByteArray := prog_7_method_34_code
def yX5_send : MethodName := ⟨RX5, "send", "(I)I"⟩
abbrev cX5_miss : ByteArray := prog_7_method_35_code
def yX5_miss : MethodName := ⟨RX5, "miss", "(I)I"⟩
abbrev cX5_attempt : ByteArray := prog_7_method_36_code
def yX5_attempt : MethodName := ⟨RX5, "attempt", "(II)I"⟩
abbrev cX5_hear : ByteArray := prog_7_method_37_code
def yX5_hear : MethodName := ⟨RX5, "hear", "()I"⟩
abbrev cX5_renew : ByteArray := prog_7_method_38_code
def yX5_renew : MethodName := ⟨RX5, "renew", "(IIII)I"⟩
abbrev cX5_widen : ByteArray := prog_7_method_39_code
def yX5_widen : MethodName := ⟨RX5, "widen", "(I)I"⟩
abbrev cX5_undo : ByteArray := prog_7_method_40_code
def yX5_undo : MethodName := ⟨RX5, "undo", "()I"⟩
abbrev cX5_fits : ByteArray := prog_7_method_41_code
def yX5_fits : MethodName := ⟨RX5, "fits", "(II)I"⟩
abbrev cX5_fittingOf : ByteArray := prog_7_method_42_code
def yX5_fittingOf : MethodName := ⟨RX5, "fittingOf", "(I)I"⟩
abbrev cX5_fitting : ByteArray := prog_7_method_43_code
def yX5_fitting : MethodName := ⟨RX5, "fitting", "(II)I"⟩
abbrev cX5_thief : ByteArray := prog_7_method_44_code
def yX5_thief : MethodName := ⟨RX5, "thief", "(I)I"⟩
abbrev cX5_heard : ByteArray := prog_7_method_45_code
def yX5_heard : MethodName := ⟨RX5, "heard", "(I)I"⟩
abbrev cX5_does : ByteArray := prog_7_method_46_code
def yX5_does : MethodName := ⟨RX5, "does", "(IIII)Z"⟩
abbrev cX5_longPower : ByteArray := prog_7_method_47_code
def yX5_longPower : MethodName := ⟨RX5, "longPower", "(JI)J"⟩
abbrev cX5_judge : ByteArray := prog_7_method_48_code
def yX5_judge : MethodName := ⟨RX5, "judge", "(IJ)I"⟩
abbrev cX5_see : ByteArray := prog_7_method_49_code
def yX5_see : MethodName := ⟨RX5, "see", "(III)I"⟩
abbrev cX5_unsee : ByteArray := prog_7_method_50_code
def yX5_unsee : MethodName := ⟨RX5, "unsee", "()I"⟩
abbrev cX5_which : ByteArray := prog_7_method_51_code
def yX5_which : MethodName := ⟨RX5, "which", "(I)I"⟩
abbrev cX5_divisor : ByteArray := prog_7_method_52_code
def yX5_divisor : MethodName := ⟨RX5, "divisor", "(II)I"⟩
abbrev cX5_fraction : ByteArray := prog_7_method_53_code
def yX5_fraction : MethodName := ⟨RX5, "fraction", "(IIZ)I"⟩
abbrev cX5_factorial : ByteArray := prog_7_method_54_code
def yX5_factorial : MethodName := ⟨RX5, "factorial", "(I)I"⟩
abbrev cX5_share : ByteArray := prog_7_method_55_code
def yX5_share : MethodName := ⟨RX5, "share", "(IZ)I"⟩
abbrev cX5_guess : ByteArray := prog_7_method_56_code
def yX5_guess : MethodName := ⟨RX5, "guess", "(IIZ)I"⟩
abbrev cX5_loss : ByteArray := prog_7_method_57_code
def yX5_loss : MethodName := ⟨RX5, "loss", "(IIIZ)I"⟩
abbrev cX5_seed : ByteArray := prog_7_method_58_code
def yX5_seed : MethodName := ⟨RX5, "seed", "(J)J"⟩
abbrev cX5_drawn : ByteArray := prog_7_method_59_code
def yX5_drawn : MethodName := ⟨RX5, "drawn", "(I)I"⟩
abbrev cX5_keep : ByteArray := prog_7_method_60_code
def yX5_keep : MethodName := ⟨RX5, "keep", "(I)I"⟩
abbrev cX5_again : ByteArray := prog_7_method_61_code
def yX5_again : MethodName := ⟨RX5, "again", "(I)I"⟩
abbrev cX5_count : ByteArray := prog_7_method_62_code
def yX5_count : MethodName := ⟨RX5, "count", "(I)I"⟩
def RJ9 : String := "java/lang/Math"
def TJ9 : u_T := fun k => match k with
  | _ => ("", "", "", false)
def tyJ9 : Nat → FieldType := fun k => match k with
  | _ => .int
abbrev wsJ90 : List Cond := u_ws RJ9 TJ9 0
theorem nmJ9 : ∀ a, a < 0 → ∀ b, b < 0 → a ≠ b → (TJ9 a).2.1 ≠ (TJ9 b).2.1 := by decide +kernel
theorem tyJ9_ok : ∀ k, k < 0 → parseFieldDescriptor (TJ9 k).2.2.1 = some (tyJ9 k) := by decide +kernel
abbrev cJ9_min_7cf53 : ByteArray := prog_8_method_69_code
def yJ9_min_7cf53 : MethodName := ⟨RJ9, "min", "(II)I"⟩
def RJ10 : String := "java/lang/System"
def TJ10 : u_T := fun k => match k with
  | _ => ("", "", "", false)
def tyJ10 : Nat → FieldType := fun k => match k with
  | _ => .int
abbrev wsJ100 : List Cond := u_ws RJ10 TJ10 0
theorem nmJ10 : ∀ a, a < 0 → ∀ b, b < 0 → a ≠ b → (TJ10 a).2.1 ≠ (TJ10 b).2.1 := by decide +kernel
theorem tyJ10_ok : ∀ k, k < 0 → parseFieldDescriptor (TJ10 k).2.2.1 = some (tyJ10 k) := by decide +kernel
def RJ7 : String := "java/util/Arrays"
def TJ7 : u_T := fun k => match k with
  | _ => ("", "", "", false)
def tyJ7 : Nat → FieldType := fun k => match k with
  | _ => .int
abbrev wsJ70 : List Cond := u_ws RJ7 TJ7 0
theorem nmJ7 : ∀ a, a < 0 → ∀ b, b < 0 → a ≠ b → (TJ7 a).2.1 ≠ (TJ7 b).2.1 := by decide +kernel
theorem tyJ7_ok : ∀ k, k < 0 → parseFieldDescriptor (TJ7 k).2.2.1 = some (tyJ7 k) := by decide +kernel
abbrev cJ7_fill_53178 : ByteArray := prog_10_method_103_code
def yJ7_fill_53178 : MethodName := ⟨RJ7, "fill", "([II)V"⟩
def RL : String := "SpentPassesLaw"
abbrev cL_law : ByteArray := code
def yL_law : MethodName := ⟨RL, "law", "([I)Z"⟩
