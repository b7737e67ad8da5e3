section
/-- a private method of a class that the tables say can be made, by its rows of tables_1 -/
def lw_okq (q : MethodName × Nat) : Prop := (q.1.cls ≠ "java/lang/invoke/MethodHandle" ∧ q.1.cls ≠ "java/lang/invoke/VarHandle") ∧ Cond.instantiable q.1.cls q.2 ∈ tables_1 ∧ Cond.privateMethod q.1 ∈ tables_1 ∧ Cond.instanceMethod q.1 ∈ tables_1
theorem lw_p0 : lw_okq (⟨"SpentPasses$Text", "isNext", "(I)Z"⟩, 3) := ⟨⟨by decide +kernel, by decide +kernel⟩, List.mem_of_getElem? (i := 19) (by decide +kernel), List.mem_of_getElem? (i := 139) (by decide +kernel), List.mem_of_getElem? (i := 140) (by decide +kernel)⟩
theorem lw_p1 : lw_okq (⟨"SpentPasses$Text", "nextLetter", "()I"⟩, 3) := ⟨⟨by decide +kernel, by decide +kernel⟩, List.mem_of_getElem? (i := 19) (by decide +kernel), List.mem_of_getElem? (i := 143) (by decide +kernel), List.mem_of_getElem? (i := 144) (by decide +kernel)⟩
theorem lw_p2 : lw_okq (⟨"SpentPasses$Text", "readFigure", "(II)I"⟩, 3) := ⟨⟨by decide +kernel, by decide +kernel⟩, List.mem_of_getElem? (i := 19) (by decide +kernel), List.mem_of_getElem? (i := 147) (by decide +kernel), List.mem_of_getElem? (i := 148) (by decide +kernel)⟩
theorem lw_p3 : lw_okq (⟨"SpentPasses$Text", "readUser", "(LSpentPasses$Hall;)Z"⟩, 3) := ⟨⟨by decide +kernel, by decide +kernel⟩, List.mem_of_getElem? (i := 19) (by decide +kernel), List.mem_of_getElem? (i := 162) (by decide +kernel), List.mem_of_getElem? (i := 163) (by decide +kernel)⟩
theorem lw_p4 : lw_okq (⟨"SpentPasses$Text", "readNumber", "()I"⟩, 3) := ⟨⟨by decide +kernel, by decide +kernel⟩, List.mem_of_getElem? (i := 19) (by decide +kernel), List.mem_of_getElem? (i := 166) (by decide +kernel), List.mem_of_getElem? (i := 167) (by decide +kernel)⟩
theorem lw_p5 : lw_okq (⟨"SpentPasses$Text", "readRowLength", "()I"⟩, 3) := ⟨⟨by decide +kernel, by decide +kernel⟩, List.mem_of_getElem? (i := 19) (by decide +kernel), List.mem_of_getElem? (i := 170) (by decide +kernel), List.mem_of_getElem? (i := 171) (by decide +kernel)⟩
theorem lw_p6 : lw_okq (⟨"SpentPasses$Hall", "put", "(III)V"⟩, 1) := ⟨⟨by decide +kernel, by decide +kernel⟩, List.mem_of_getElem? (i := 37) (by decide +kernel), List.mem_of_getElem? (i := 182) (by decide +kernel), List.mem_of_getElem? (i := 183) (by decide +kernel)⟩
theorem lw_p7 : lw_okq (⟨"SpentPasses$Text", "readDoing", "(LSpentPasses$Hall;)Z"⟩, 3) := ⟨⟨by decide +kernel, by decide +kernel⟩, List.mem_of_getElem? (i := 19) (by decide +kernel), List.mem_of_getElem? (i := 189) (by decide +kernel), List.mem_of_getElem? (i := 190) (by decide +kernel)⟩
theorem lw_p8 : lw_okq (⟨"SpentPasses$Hall", "leastFrom", "(II)I"⟩, 1) := ⟨⟨by decide +kernel, by decide +kernel⟩, List.mem_of_getElem? (i := 37) (by decide +kernel), List.mem_of_getElem? (i := 388) (by decide +kernel), List.mem_of_getElem? (i := 389) (by decide +kernel)⟩
theorem lw_p9 : lw_okq (⟨"SpentPasses", "isSo", "(I)Z"⟩, 6) := ⟨⟨by decide +kernel, by decide +kernel⟩, List.mem_of_getElem? (i := 11) (by decide +kernel), List.mem_of_getElem? (i := 408) (by decide +kernel), List.mem_of_getElem? (i := 409) (by decide +kernel)⟩
theorem lw_p10 : lw_okq (⟨"SpentPasses", "sendInMind", "(I)Z"⟩, 6) := ⟨⟨by decide +kernel, by decide +kernel⟩, List.mem_of_getElem? (i := 11) (by decide +kernel), List.mem_of_getElem? (i := 412) (by decide +kernel), List.mem_of_getElem? (i := 413) (by decide +kernel)⟩
theorem lw_p11 : lw_okq (⟨"SpentPasses", "widenInMind", "(I)Z"⟩, 6) := ⟨⟨by decide +kernel, by decide +kernel⟩, List.mem_of_getElem? (i := 11) (by decide +kernel), List.mem_of_getElem? (i := 420) (by decide +kernel), List.mem_of_getElem? (i := 421) (by decide +kernel)⟩
theorem lw_p12 : lw_okq (⟨"SpentPasses$Seen", "agrees", "(ILSpentPasses$Hall;)Z"⟩, 4) := ⟨⟨by decide +kernel, by decide +kernel⟩, List.mem_of_getElem? (i := 79) (by decide +kernel), List.mem_of_getElem? (i := 444) (by decide +kernel), List.mem_of_getElem? (i := 445) (by decide +kernel)⟩
theorem lw_p13 : lw_okq (⟨"SpentPasses", "weightInStep", "(IIII)J"⟩, 6) := ⟨⟨by decide +kernel, by decide +kernel⟩, List.mem_of_getElem? (i := 11) (by decide +kernel), List.mem_of_getElem? (i := 477) (by decide +kernel), List.mem_of_getElem? (i := 478) (by decide +kernel)⟩
theorem lw_p14 : lw_okq (⟨"SpentPasses", "isTakenOnDay", "(I)Z"⟩, 6) := ⟨⟨by decide +kernel, by decide +kernel⟩, List.mem_of_getElem? (i := 11) (by decide +kernel), List.mem_of_getElem? (i := 491) (by decide +kernel), List.mem_of_getElem? (i := 492) (by decide +kernel)⟩
theorem lw_p15 : lw_okq (⟨"SpentPassesModel", "readDesk", "()I"⟩, 19) := ⟨⟨by decide +kernel, by decide +kernel⟩, List.mem_of_getElem? (i := 515) (by decide +kernel), List.mem_of_getElem? (i := 598) (by decide +kernel), List.mem_of_getElem? (i := 599) (by decide +kernel)⟩
def lw_privs_1 : List (MethodName × Nat) := [(⟨"SpentPasses$Text", "isNext", "(I)Z"⟩, 3), (⟨"SpentPasses$Text", "nextLetter", "()I"⟩, 3), (⟨"SpentPasses$Text", "readFigure", "(II)I"⟩, 3), (⟨"SpentPasses$Text", "readUser", "(LSpentPasses$Hall;)Z"⟩, 3), (⟨"SpentPasses$Text", "readNumber", "()I"⟩, 3), (⟨"SpentPasses$Text", "readRowLength", "()I"⟩, 3), (⟨"SpentPasses$Hall", "put", "(III)V"⟩, 1), (⟨"SpentPasses$Text", "readDoing", "(LSpentPasses$Hall;)Z"⟩, 3), (⟨"SpentPasses$Hall", "leastFrom", "(II)I"⟩, 1), (⟨"SpentPasses", "isSo", "(I)Z"⟩, 6), (⟨"SpentPasses", "sendInMind", "(I)Z"⟩, 6), (⟨"SpentPasses", "widenInMind", "(I)Z"⟩, 6), (⟨"SpentPasses$Seen", "agrees", "(ILSpentPasses$Hall;)Z"⟩, 4), (⟨"SpentPasses", "weightInStep", "(IIII)J"⟩, 6), (⟨"SpentPasses", "isTakenOnDay", "(I)Z"⟩, 6), (⟨"SpentPassesModel", "readDesk", "()I"⟩, 19)]
theorem lw_r1 : ∀ q ∈ lw_privs_1, lw_okq q := List.forall_mem_cons.mpr ⟨lw_p0, List.forall_mem_cons.mpr ⟨lw_p1, List.forall_mem_cons.mpr ⟨lw_p2, List.forall_mem_cons.mpr ⟨lw_p3, List.forall_mem_cons.mpr ⟨lw_p4, List.forall_mem_cons.mpr ⟨lw_p5, List.forall_mem_cons.mpr ⟨lw_p6, List.forall_mem_cons.mpr ⟨lw_p7, List.forall_mem_cons.mpr ⟨lw_p8, List.forall_mem_cons.mpr ⟨lw_p9, List.forall_mem_cons.mpr ⟨lw_p10, List.forall_mem_cons.mpr ⟨lw_p11, List.forall_mem_cons.mpr ⟨lw_p12, List.forall_mem_cons.mpr ⟨lw_p13, List.forall_mem_cons.mpr ⟨lw_p14, List.forall_mem_cons.mpr ⟨lw_p15, fun _ h => absurd h List.not_mem_nil⟩⟩⟩⟩⟩⟩⟩⟩⟩⟩⟩⟩⟩⟩⟩⟩
theorem lw_p16 : lw_okq (⟨"SpentPassesModel", "figure", "(II)I"⟩, 19) := ⟨⟨by decide +kernel, by decide +kernel⟩, List.mem_of_getElem? (i := 515) (by decide +kernel), List.mem_of_getElem? (i := 602) (by decide +kernel), List.mem_of_getElem? (i := 603) (by decide +kernel)⟩
theorem lw_p17 : lw_okq (⟨"SpentPassesModel", "readUser", "()Z"⟩, 19) := ⟨⟨by decide +kernel, by decide +kernel⟩, List.mem_of_getElem? (i := 515) (by decide +kernel), List.mem_of_getElem? (i := 606) (by decide +kernel), List.mem_of_getElem? (i := 607) (by decide +kernel)⟩
theorem lw_p18 : lw_okq (⟨"SpentPassesModel", "readNumber", "()I"⟩, 19) := ⟨⟨by decide +kernel, by decide +kernel⟩, List.mem_of_getElem? (i := 515) (by decide +kernel), List.mem_of_getElem? (i := 610) (by decide +kernel), List.mem_of_getElem? (i := 611) (by decide +kernel)⟩
theorem lw_p19 : lw_okq (⟨"SpentPassesModel", "readEvent", "(Z)Z"⟩, 19) := ⟨⟨by decide +kernel, by decide +kernel⟩, List.mem_of_getElem? (i := 515) (by decide +kernel), List.mem_of_getElem? (i := 620) (by decide +kernel), List.mem_of_getElem? (i := 621) (by decide +kernel)⟩
theorem lw_p20 : lw_okq (⟨"SpentPassesModel", "gap", "(I)I"⟩, 19) := ⟨⟨by decide +kernel, by decide +kernel⟩, List.mem_of_getElem? (i := 515) (by decide +kernel), List.mem_of_getElem? (i := 657) (by decide +kernel), List.mem_of_getElem? (i := 658) (by decide +kernel)⟩
theorem lw_p21 : lw_okq (⟨"SpentPassesModel", "layLoop", "(I)I"⟩, 19) := ⟨⟨by decide +kernel, by decide +kernel⟩, List.mem_of_getElem? (i := 515) (by decide +kernel), List.mem_of_getElem? (i := 661) (by decide +kernel), List.mem_of_getElem? (i := 662) (by decide +kernel)⟩
theorem lw_p22 : lw_okq (⟨"SpentPassesModel", "note", "()V"⟩, 19) := ⟨⟨by decide +kernel, by decide +kernel⟩, List.mem_of_getElem? (i := 515) (by decide +kernel), List.mem_of_getElem? (i := 682) (by decide +kernel), List.mem_of_getElem? (i := 683) (by decide +kernel)⟩
theorem lw_p23 : lw_okq (⟨"SpentPassesModel", "fittingOf", "(I)I"⟩, 19) := ⟨⟨by decide +kernel, by decide +kernel⟩, List.mem_of_getElem? (i := 515) (by decide +kernel), List.mem_of_getElem? (i := 720) (by decide +kernel), List.mem_of_getElem? (i := 721) (by decide +kernel)⟩
theorem lw_p24 : lw_okq (⟨"SpentPassesModel", "does", "(IIII)Z"⟩, 19) := ⟨⟨by decide +kernel, by decide +kernel⟩, List.mem_of_getElem? (i := 515) (by decide +kernel), List.mem_of_getElem? (i := 744) (by decide +kernel), List.mem_of_getElem? (i := 745) (by decide +kernel)⟩
def lw_privs_2 : List (MethodName × Nat) := [(⟨"SpentPassesModel", "figure", "(II)I"⟩, 19), (⟨"SpentPassesModel", "readUser", "()Z"⟩, 19), (⟨"SpentPassesModel", "readNumber", "()I"⟩, 19), (⟨"SpentPassesModel", "readEvent", "(Z)Z"⟩, 19), (⟨"SpentPassesModel", "gap", "(I)I"⟩, 19), (⟨"SpentPassesModel", "layLoop", "(I)I"⟩, 19), (⟨"SpentPassesModel", "note", "()V"⟩, 19), (⟨"SpentPassesModel", "fittingOf", "(I)I"⟩, 19), (⟨"SpentPassesModel", "does", "(IIII)Z"⟩, 19)]
theorem lw_r2 : ∀ q ∈ lw_privs_2, lw_okq q := List.forall_mem_cons.mpr ⟨lw_p16, List.forall_mem_cons.mpr ⟨lw_p17, List.forall_mem_cons.mpr ⟨lw_p18, List.forall_mem_cons.mpr ⟨lw_p19, List.forall_mem_cons.mpr ⟨lw_p20, List.forall_mem_cons.mpr ⟨lw_p21, List.forall_mem_cons.mpr ⟨lw_p22, List.forall_mem_cons.mpr ⟨lw_p23, List.forall_mem_cons.mpr ⟨lw_p24, fun _ h => absurd h List.not_mem_nil⟩⟩⟩⟩⟩⟩⟩⟩⟩
def lw_privs : List (MethodName × Nat) := lw_privs_1 ++ (lw_privs_2)
def lw_tbl : List Cond := k2_sels lw_privs ++ tables_1
theorem lw_privs_ok : ∀ q ∈ lw_privs, lw_okq q := by
  show ∀ q ∈ lw_privs_1 ++ (lw_privs_2), lw_okq q
  exact List.forall_mem_append.mpr ⟨lw_r1, lw_r2⟩
def RX0 : String := "SpentPasses$Hall"
def TX0 : u_T := fun k => match k with
  | _ => ("SpentPasses$Hall", "cells", "[I", true)
def tyX0 : Nat → FieldType := fun k => match k with
  | _ => .array .int
abbrev wsX00 : List Cond := u_ws RX0 TX0 1
theorem nmX0 : ∀ a, a < 1 → ∀ b, b < 1 → a ≠ b → (TX0 a).2.1 ≠ (TX0 b).2.1 := by decide +kernel
theorem tyX0_ok : ∀ k, k < 1 → parseFieldDescriptor (TX0 k).2.2.1 = some (tyX0 k) := by decide +kernel
abbrev cX0_init : ByteArray := prog_2_method_1_code
def yX0_init : MethodName := ⟨RX0, "<init>", "()V"⟩
abbrev cX0_clear : ByteArray := prog_2_method_2_code
def yX0_clear : MethodName := ⟨RX0, "clear", "()V"⟩
abbrev cX0_copyFrom : ByteArray := prog_2_method_3_code
def yX0_copyFrom : MethodName := ⟨RX0, "copyFrom", "(LSpentPasses$Hall;)V"⟩
abbrev cX0_users : ByteArray := prog_2_method_4_code
def yX0_users : MethodName := ⟨RX0, "users", "()I"⟩
abbrev cX0_window : ByteArray := prog_2_method_5_code
def yX0_window : MethodName := ⟨RX0, "window", "()I"⟩
abbrev cX0_setWindow : ByteArray := prog_2_method_6_code
def yX0_setWindow : MethodName := ⟨RX0, "setWindow", "(I)V"⟩
abbrev cX0_wire : ByteArray := prog_2_method_7_code
def yX0_wire : MethodName := ⟨RX0, "wire", "()I"⟩
abbrev cX0_userIn : ByteArray := prog_2_method_8_code
def yX0_userIn : MethodName := ⟨RX0, "userIn", "(I)I"⟩
abbrev cX0_numberIn : ByteArray := prog_2_method_9_code
def yX0_numberIn : MethodName := ⟨RX0, "numberIn", "(I)I"⟩
abbrev cX0_heardCount : ByteArray := prog_2_method_10_code
def yX0_heardCount : MethodName := ⟨RX0, "heardCount", "()I"⟩
abbrev cX0_heardAt : ByteArray := prog_2_method_11_code
def yX0_heardAt : MethodName := ⟨RX0, "heardAt", "(I)I"⟩
abbrev cX0_overhear : ByteArray := prog_2_method_12_code
def yX0_overhear : MethodName := ⟨RX0, "overhear", "()V"⟩
abbrev cX0_has : ByteArray := prog_2_method_13_code
def yX0_has : MethodName := ⟨RX0, "has", "(I)Z"⟩
abbrev cX0_of : ByteArray := prog_2_method_14_code
def yX0_of : MethodName := ⟨RX0, "of", "(II)I"⟩
abbrev cX0_put : ByteArray := prog_2_method_15_code
def yX0_put : MethodName := ⟨RX0, "put", "(III)V"⟩
abbrev cX0_addUser : ByteArray := prog_2_method_16_code
def yX0_addUser : MethodName := ⟨RX0, "addUser", "(III)V"⟩
abbrev cX0_beginRow : ByteArray := prog_2_method_17_code
def yX0_beginRow : MethodName := ⟨RX0, "beginRow", "(IIII)V"⟩
abbrev cX0_hasOwn : ByteArray := prog_2_method_18_code
def yX0_hasOwn : MethodName := ⟨RX0, "hasOwn", "(I)Z"⟩
abbrev cX0_anyHasOwn : ByteArray := prog_2_method_19_code
def yX0_anyHasOwn : MethodName := ⟨RX0, "anyHasOwn", "()Z"⟩
abbrev cX0_passOf : ByteArray := prog_2_method_20_code
def yX0_passOf : MethodName := ⟨RX0, "passOf", "(II)I"⟩
abbrev cX0_fitOf : ByteArray := prog_2_method_21_code
def yX0_fitOf : MethodName := ⟨RX0, "fitOf", "(II)I"⟩
abbrev cX0_bring : ByteArray := prog_2_method_22_code
def yX0_bring : MethodName := ⟨RX0, "bring", "(II)I"⟩
abbrev cX0_spendPass : ByteArray := prog_2_method_23_code
def yX0_spendPass : MethodName := ⟨RX0, "spendPass", "(I)Z"⟩
abbrev cX0_sendPass : ByteArray := prog_2_method_24_code
def yX0_sendPass : MethodName := ⟨RX0, "sendPass", "(I)I"⟩
abbrev cX0_isInStep : ByteArray := prog_2_method_25_code
def yX0_isInStep : MethodName := ⟨RX0, "isInStep", "(I)Z"⟩
abbrev cX0_isWarned : ByteArray := prog_2_method_26_code
def yX0_isWarned : MethodName := ⟨RX0, "isWarned", "(I)Z"⟩
abbrev cX0_gapOf : ByteArray := prog_2_method_27_code
def yX0_gapOf : MethodName := ⟨RX0, "gapOf", "(I)I"⟩
abbrev cX0_countFitting : ByteArray := prog_2_method_28_code
def yX0_countFitting : MethodName := ⟨RX0, "countFitting", "(I)I"⟩
abbrev cX0_leastFitting : ByteArray := prog_2_method_29_code
def yX0_leastFitting : MethodName := ⟨RX0, "leastFitting", "(I)I"⟩
abbrev cX0_countFitted : ByteArray := prog_2_method_30_code
def yX0_countFitted : MethodName := ⟨RX0, "countFitted", "(I)I"⟩
abbrev cX0_leastStolen : ByteArray := prog_2_method_31_code
def yX0_leastStolen : MethodName := ⟨RX0, "leastStolen", "(I)I"⟩
abbrev cX0_leastFrom : ByteArray := prog_2_method_32_code
def yX0_leastFrom : MethodName := ⟨RX0, "leastFrom", "(II)I"⟩
abbrev cX0_lesser : ByteArray := prog_2_method_33_code
def yX0_lesser : MethodName := ⟨RX0, "lesser", "(II)I"⟩
def RX1 : String := "SpentPasses$Seen"
def TX1 : u_T := fun k => match k with
  | 0 => ("SpentPasses$Seen", "users", "[I", true)
  | 1 => ("SpentPasses$Seen", "places", "[I", true)
  | 2 => ("SpentPasses$Seen", "numbers", "[I", true)
  | _ => ("SpentPasses$Seen", "size", "I", false)
def tyX1 : Nat → FieldType := fun k => match k with
  | 0 => .array .int
  | 1 => .array .int
  | 2 => .array .int
  | _ => .int
abbrev wsX10 : List Cond := u_ws RX1 TX1 4
theorem nmX1 : ∀ a, a < 4 → ∀ b, b < 4 → a ≠ b → (TX1 a).2.1 ≠ (TX1 b).2.1 := by decide +kernel
theorem tyX1_ok : ∀ k, k < 4 → parseFieldDescriptor (TX1 k).2.2.1 = some (tyX1 k) := by decide +kernel
abbrev cX1_init : ByteArray := prog_3_method_1_code
def yX1_init : MethodName := ⟨RX1, "<init>", "()V"⟩
abbrev cX1_add : ByteArray := prog_3_method_2_code
def yX1_add : MethodName := ⟨RX1, "add", "(III)Z"⟩
abbrev cX1_countSeeds : ByteArray := prog_3_method_3_code
def yX1_countSeeds : MethodName := ⟨RX1, "countSeeds", "(LSpentPasses$Hall;)I"⟩
abbrev cX1_leastSeed : ByteArray := prog_3_method_4_code
def yX1_leastSeed : MethodName := ⟨RX1, "leastSeed", "(LSpentPasses$Hall;)I"⟩
abbrev cX1_agrees : ByteArray := prog_3_method_5_code
def yX1_agrees : MethodName := ⟨RX1, "agrees", "(ILSpentPasses$Hall;)Z"⟩
def RX2 : String := "SpentPasses$Shelf"
def TX2 : u_T := fun k => match k with
  | 0 => ("SpentPasses$Shelf", "beforeActs", "[I", true)
  | 1 => ("SpentPasses$Shelf", "kept", "[I", true)
  | 2 => ("SpentPasses$Shelf", "isKept", "[Z", true)
  | 3 => ("SpentPasses$Shelf", "acts", "I", false)
  | _ => ("SpentPasses$Shelf", "nextAct", "I", false)
def tyX2 : Nat → FieldType := fun k => match k with
  | 0 => .array .int
  | 1 => .array .int
  | 2 => .array .boolean
  | 3 => .int
  | _ => .int
abbrev wsX20 : List Cond := u_ws RX2 TX2 5
theorem nmX2 : ∀ a, a < 5 → ∀ b, b < 5 → a ≠ b → (TX2 a).2.1 ≠ (TX2 b).2.1 := by decide +kernel
theorem tyX2_ok : ∀ k, k < 5 → parseFieldDescriptor (TX2 k).2.2.1 = some (tyX2 k) := by decide +kernel
abbrev cX2_init : ByteArray := prog_4_method_1_code
def yX2_init : MethodName := ⟨RX2, "<init>", "()V"⟩
abbrev cX2_remember : ByteArray := prog_4_method_2_code
def yX2_remember : MethodName := ⟨RX2, "remember", "(LSpentPasses$Hall;)V"⟩
abbrev cX2_takeBack : ByteArray := prog_4_method_3_code
def yX2_takeBack : MethodName := ⟨RX2, "takeBack", "(LSpentPasses$Hall;)Z"⟩
abbrev cX2_keepIn : ByteArray := prog_4_method_4_code
def yX2_keepIn : MethodName := ⟨RX2, "keepIn", "(ILSpentPasses$Hall;)Z"⟩
abbrev cX2_bringBack : ByteArray := prog_4_method_5_code
def yX2_bringBack : MethodName := ⟨RX2, "bringBack", "(ILSpentPasses$Hall;)Z"⟩
abbrev cX2_forgetAll : ByteArray := prog_4_method_6_code
def yX2_forgetAll : MethodName := ⟨RX2, "forgetAll", "()V"⟩
def RX3 : String := "SpentPasses$Text"
def TX3 : u_T := fun k => match k with
  | 0 => ("SpentPasses$Text", "letters", "[I", true)
  | 1 => ("SpentPasses$Text", "length", "I", false)
  | _ => ("SpentPasses$Text", "place", "I", false)
def tyX3 : Nat → FieldType := fun k => match k with
  | 0 => .array .int
  | 1 => .int
  | _ => .int
abbrev wsX30 : List Cond := u_ws RX3 TX3 3
theorem nmX3 : ∀ a, a < 3 → ∀ b, b < 3 → a ≠ b → (TX3 a).2.1 ≠ (TX3 b).2.1 := by decide +kernel
theorem tyX3_ok : ∀ k, k < 3 → parseFieldDescriptor (TX3 k).2.2.1 = some (tyX3 k) := by decide +kernel
abbrev cX3_init : ByteArray := prog_5_method_1_code
def yX3_init : MethodName := ⟨RX3, "<init>", "()V"⟩
abbrev cX3_append : ByteArray := prog_5_method_2_code
def yX3_append : MethodName := ⟨RX3, "append", "(I)Z"⟩
abbrev cX3_readInto : ByteArray := prog_5_method_3_code
def yX3_readInto : MethodName := ⟨RX3, "readInto", "(LSpentPasses$Hall;)I"⟩
abbrev cX3_nextLetter : ByteArray := prog_5_method_4_code
def yX3_nextLetter : MethodName := ⟨RX3, "nextLetter", "()I"⟩
abbrev cX3_isNext : ByteArray := prog_5_method_5_code
def yX3_isNext : MethodName := ⟨RX3, "isNext", "(I)Z"⟩
abbrev cX3_readUser : ByteArray := prog_5_method_6_code
def yX3_readUser : MethodName := ⟨RX3, "readUser", "(LSpentPasses$Hall;)Z"⟩
abbrev cX3_readDoing : ByteArray := prog_5_method_7_code
def yX3_readDoing : MethodName := ⟨RX3, "readDoing", "(LSpentPasses$Hall;)Z"⟩
abbrev cX3_readNumber : ByteArray := prog_5_method_8_code
def yX3_readNumber : MethodName := ⟨RX3, "readNumber", "()I"⟩
abbrev cX3_readRowLength : ByteArray := prog_5_method_9_code
def yX3_readRowLength : MethodName := ⟨RX3, "readRowLength", "()I"⟩
abbrev cX3_readFigure : ByteArray := prog_5_method_10_code
def yX3_readFigure : MethodName := ⟨RX3, "readFigure", "(II)I"⟩
def RX4 : String := "SpentPasses"
def TX4 : u_T := fun k => match k with
  | 0 => ("SpentPasses", "text", "LSpentPasses$Text;", true)
  | 1 => ("SpentPasses", "now", "LSpentPasses$Hall;", true)
  | 2 => ("SpentPasses", "trial", "LSpentPasses$Hall;", true)
  | 3 => ("SpentPasses", "shelf", "LSpentPasses$Shelf;", true)
  | 4 => ("SpentPasses", "seen", "LSpentPasses$Seen;", true)
  | _ => ("SpentPasses", "days", "J", false)
def tyX4 : Nat → FieldType := fun k => match k with
  | 0 => .object "SpentPasses$Text"
  | 1 => .object "SpentPasses$Hall"
  | 2 => .object "SpentPasses$Hall"
  | 3 => .object "SpentPasses$Shelf"
  | 4 => .object "SpentPasses$Seen"
  | _ => .long
abbrev wsX40 : List Cond := u_ws RX4 TX4 6
theorem nmX4 : ∀ a, a < 6 → ∀ b, b < 6 → a ≠ b → (TX4 a).2.1 ≠ (TX4 b).2.1 := by decide +kernel
theorem tyX4_ok : ∀ k, k < 6 → parseFieldDescriptor (TX4 k).2.2.1 = some (tyX4 k) := by decide +kernel
abbrev cX4_init : ByteArray := prog_1_method_1_code
def yX4_init : MethodName := ⟨RX4, "<init>", "()V"⟩
abbrev cX4_write : ByteArray := prog_1_method_2_code
def yX4_write : MethodName := ⟨RX4, "write", "(I)I"⟩
abbrev cX4_wipe : ByteArray := prog_1_method_3_code
def yX4_wipe : MethodName := ⟨RX4, "wipe", "()I"⟩
abbrev cX4_fault : ByteArray := prog_1_method_4_code
def yX4_fault : MethodName := ⟨RX4, "fault", "()I"⟩
abbrev cX4_desk : ByteArray := prog_1_method_5_code
def yX4_desk : MethodName := ⟨RX4, "desk", "()I"⟩
abbrev cX4_user : ByteArray := prog_1_method_6_code
def yX4_user : MethodName := ⟨RX4, "user", "(II)I"⟩
abbrev cX4_pass : ByteArray := prog_1_method_7_code
def yX4_pass : MethodName := ⟨RX4, "pass", "(II)I"⟩
abbrev cX4_behind : ByteArray := prog_1_method_8_code
def yX4_behind : MethodName := ⟨RX4, "behind", "(III)I"⟩
abbrev cX4_send : ByteArray := prog_1_method_9_code
def yX4_send : MethodName := ⟨RX4, "send", "(I)I"⟩
abbrev cX4_miss : ByteArray := prog_1_method_10_code
def yX4_miss : MethodName := ⟨RX4, "miss", "(I)I"⟩
abbrev cX4_attempt : ByteArray := prog_1_method_11_code
def yX4_attempt : MethodName := ⟨RX4, "attempt", "(II)I"⟩
abbrev cX4_hear : ByteArray := prog_1_method_12_code
def yX4_hear : MethodName := ⟨RX4, "hear", "()I"⟩
abbrev cX4_renew : ByteArray := prog_1_method_13_code
def yX4_renew : MethodName := ⟨RX4, "renew", "(IIII)I"⟩
abbrev cX4_widen : ByteArray := prog_1_method_14_code
def yX4_widen : MethodName := ⟨RX4, "widen", "(I)I"⟩
abbrev cX4_undo : ByteArray := prog_1_method_15_code
def yX4_undo : MethodName := ⟨RX4, "undo", "()I"⟩
abbrev cX4_fits : ByteArray := prog_1_method_16_code
def yX4_fits : MethodName := ⟨RX4, "fits", "(II)I"⟩
abbrev cX4_fitting : ByteArray := prog_1_method_17_code
def yX4_fitting : MethodName := ⟨RX4, "fitting", "(II)I"⟩
abbrev cX4_thief : ByteArray := prog_1_method_18_code
def yX4_thief : MethodName := ⟨RX4, "thief", "(I)I"⟩
abbrev cX4_heard : ByteArray := prog_1_method_19_code
def yX4_heard : MethodName := ⟨RX4, "heard", "(I)I"⟩
abbrev cX4_judge : ByteArray := prog_1_method_20_code
def yX4_judge : MethodName := ⟨RX4, "judge", "(IJ)I"⟩
abbrev cX4_see : ByteArray := prog_1_method_21_code
def yX4_see : MethodName := ⟨RX4, "see", "(III)I"⟩
abbrev cX4_unsee : ByteArray := prog_1_method_22_code
def yX4_unsee : MethodName := ⟨RX4, "unsee", "()I"⟩
abbrev cX4_which : ByteArray := prog_1_method_23_code
def yX4_which : MethodName := ⟨RX4, "which", "(I)I"⟩
abbrev cX4_share : ByteArray := prog_1_method_24_code
def yX4_share : MethodName := ⟨RX4, "share", "(IZ)I"⟩
abbrev cX4_guess : ByteArray := prog_1_method_25_code
def yX4_guess : MethodName := ⟨RX4, "guess", "(IIZ)I"⟩
abbrev cX4_loss : ByteArray := prog_1_method_26_code
def yX4_loss : MethodName := ⟨RX4, "loss", "(IIIZ)I"⟩
abbrev cX4_seed : ByteArray := prog_1_method_27_code
def yX4_seed : MethodName := ⟨RX4, "seed", "(J)J"⟩
abbrev cX4_drawn : ByteArray := prog_1_method_28_code
def yX4_drawn : MethodName := ⟨RX4, "drawn", "(I)I"⟩
abbrev cX4_keep : ByteArray := prog_1_method_29_code
def yX4_keep : MethodName := ⟨RX4, "keep", "(I)I"⟩
abbrev cX4_again : ByteArray := prog_1_method_30_code
def yX4_again : MethodName := ⟨RX4, "again", "(I)I"⟩
abbrev cX4_count : ByteArray := prog_1_method_31_code
def yX4_count : MethodName := ⟨RX4, "count", "(I)I"⟩
abbrev cX4_isWithin : ByteArray := prog_1_method_32_code
def yX4_isWithin : MethodName := ⟨RX4, "isWithin", "(III)Z"⟩
abbrev cX4_isNumber : ByteArray := prog_1_method_33_code
def yX4_isNumber : MethodName := ⟨RX4, "isNumber", "(I)Z"⟩
abbrev cX4_stepsBehind : ByteArray := prog_1_method_34_code
def yX4_stepsBehind : MethodName := ⟨RX4, "stepsBehind", "(III)I"⟩
abbrev cX4_returnOf : ByteArray := prog_1_method_35_code
def yX4_returnOf : MethodName := ⟨RX4, "returnOf", "(II)I"⟩
abbrev cX4_tailOf : ByteArray := prog_1_method_36_code
def yX4_tailOf : MethodName := ⟨RX4, "tailOf", "(II)I"⟩
abbrev cX4_loopOf : ByteArray := prog_1_method_37_code
def yX4_loopOf : MethodName := ⟨RX4, "loopOf", "(II)I"⟩
abbrev cX4_power : ByteArray := prog_1_method_38_code
def yX4_power : MethodName := ⟨RX4, "power", "(II)J"⟩
abbrev cX4_toldFraction : ByteArray := prog_1_method_39_code
def yX4_toldFraction : MethodName := ⟨RX4, "toldFraction", "(JJZ)I"⟩
abbrev cX4_commonDivisor : ByteArray := prog_1_method_40_code
def yX4_commonDivisor : MethodName := ⟨RX4, "commonDivisor", "(JJ)J"⟩
abbrev cX4_withoutDoings : ByteArray := prog_1_method_41_code
def yX4_withoutDoings : MethodName := ⟨RX4, "withoutDoings", "(JI)J"⟩
abbrev cX4_isSo : ByteArray := prog_1_method_42_code
def yX4_isSo : MethodName := ⟨RX4, "isSo", "(I)Z"⟩
abbrev cX4_sendInMind : ByteArray := prog_1_method_43_code
def yX4_sendInMind : MethodName := ⟨RX4, "sendInMind", "(I)Z"⟩
abbrev cX4_widenInMind : ByteArray := prog_1_method_44_code
def yX4_widenInMind : MethodName := ⟨RX4, "widenInMind", "(I)Z"⟩
abbrev cX4_weightInStep : ByteArray := prog_1_method_45_code
def yX4_weightInStep : MethodName := ⟨RX4, "weightInStep", "(IIII)J"⟩
abbrev cX4_isTakenOnDay : ByteArray := prog_1_method_46_code
def yX4_isTakenOnDay : MethodName := ⟨RX4, "isTakenOnDay", "(I)Z"⟩
def RX5 : String := "SpentPassesModel"
def TX5 : u_T := fun k => match k with
  | 0 => ("SpentPassesModel", "thrown", "I", false)
  | 1 => ("SpentPassesModel", "text", "[I", true)
  | 2 => ("SpentPassesModel", "textSize", "I", false)
  | 3 => ("SpentPassesModel", "place", "I", false)
  | 4 => ("SpentPassesModel", "readPage", "[I", true)
  | 5 => ("SpentPassesModel", "readEvents", "[I", true)
  | 6 => ("SpentPassesModel", "readMany", "I", false)
  | 7 => ("SpentPassesModel", "page", "[I", true)
  | 8 => ("SpentPassesModel", "trial", "[I", true)
  | 9 => ("SpentPassesModel", "book", "[I", true)
  | 10 => ("SpentPassesModel", "doings", "I", false)
  | 11 => ("SpentPassesModel", "kept", "[I", true)
  | 12 => ("SpentPassesModel", "isKept", "[Z", true)
  | 13 => ("SpentPassesModel", "seen", "I", false)
  | 14 => ("SpentPassesModel", "seenUser", "[I", true)
  | 15 => ("SpentPassesModel", "seenPlace", "[I", true)
  | 16 => ("SpentPassesModel", "seenNumber", "[I", true)
  | 17 => ("SpentPassesModel", "seed", "J", false)
  | _ => ("SpentPassesModel", "first", "[I", true)
def tyX5 : Nat → FieldType := fun k => match k with
  | 0 => .int
  | 1 => .array .int
  | 2 => .int
  | 3 => .int
  | 4 => .array .int
  | 5 => .array .int
  | 6 => .int
  | 7 => .array .int
  | 8 => .array .int
  | 9 => .array .int
  | 10 => .int
  | 11 => .array .int
  | 12 => .array .boolean
  | 13 => .int
  | 14 => .array .int
  | 15 => .array .int
  | 16 => .array .int
  | 17 => .long
  | _ => .array .int
abbrev wsX50 : List Cond := u_ws RX5 TX5 19
theorem nmX5 : ∀ a, a < 19 → ∀ b, b < 19 → a ≠ b → (TX5 a).2.1 ≠ (TX5 b).2.1 := by decide +kernel
theorem tyX5_ok : ∀ k, k < 19 → parseFieldDescriptor (TX5 k).2.2.1 = some (tyX5 k) := by decide +kernel
abbrev cX5_init : ByteArray := prog_7_method_1_code
def yX5_init : MethodName := ⟨RX5, "<init>", "()V"⟩
abbrev cX5_in : ByteArray := prog_7_method_3_code
def yX5_in : MethodName := ⟨RX5, "in", "(JJJ)Z"⟩
abbrev cX5_has : ByteArray := prog_7_method_4_code
def yX5_has : MethodName := ⟨RX5, "has", "(II)Z"⟩
abbrev cX5_ones : ByteArray := prog_7_method_5_code
def yX5_ones : MethodName := ⟨RX5, "ones", "(I)I"⟩
abbrev cX5_power : ByteArray := prog_7_method_6_code
def yX5_power : MethodName := ⟨RX5, "power", "(II)I"⟩
abbrev cX5_layFirst : ByteArray := prog_7_method_7_code
def yX5_layFirst : MethodName := ⟨RX5, "layFirst", "([I)V"⟩
abbrev cX5_lay : ByteArray := prog_7_method_8_code
def yX5_lay : MethodName := ⟨RX5, "lay", "([I[I)V"⟩
abbrev cX5_isNumber : ByteArray := prog_7_method_9_code
def yX5_isNumber : MethodName := ⟨RX5, "isNumber", "(I)Z"⟩
abbrev cX5_after : ByteArray := prog_7_method_10_code
def yX5_after : MethodName := ⟨RX5, "after", "(III)I"⟩
abbrev cX5_noUser : ByteArray := prog_7_method_11_code
def yX5_noUser : MethodName := ⟨RX5, "noUser", "([II)Z"⟩
abbrev cX5_layUser : ByteArray := prog_7_method_12_code
def yX5_layUser : MethodName := ⟨RX5, "layUser", "([IIIII)V"⟩
abbrev cX5_passOf : ByteArray := prog_7_method_13_code
def yX5_passOf : MethodName := ⟨RX5, "passOf", "([III)I"⟩
abbrev cX5_fitsOn : ByteArray := prog_7_method_14_code
def yX5_fitsOn : MethodName := ⟨RX5, "fitsOn", "([III)I"⟩
abbrev cX5_comeOn : ByteArray := prog_7_method_15_code
def yX5_comeOn : MethodName := ⟨RX5, "comeOn", "([III)I"⟩
abbrev cX5_sendOn : ByteArray := prog_7_method_16_code
def yX5_sendOn : MethodName := ⟨RX5, "sendOn", "([II)I"⟩
abbrev cX5_hasPass : ByteArray := prog_7_method_17_code
def yX5_hasPass : MethodName := ⟨RX5, "hasPass", "([II)Z"⟩
abbrev cX5_isInStep : ByteArray := prog_7_method_18_code
def yX5_isInStep : MethodName := ⟨RX5, "isInStep", "([II)Z"⟩
abbrev cX5_write : ByteArray := prog_7_method_19_code
def yX5_write : MethodName := ⟨RX5, "write", "(I)I"⟩
abbrev cX5_wipe : ByteArray := prog_7_method_20_code
def yX5_wipe : MethodName := ⟨RX5, "wipe", "()I"⟩
abbrev cX5_figure : ByteArray := prog_7_method_21_code
def yX5_figure : MethodName := ⟨RX5, "figure", "(II)I"⟩
abbrev cX5_readNumber : ByteArray := prog_7_method_22_code
def yX5_readNumber : MethodName := ⟨RX5, "readNumber", "()I"⟩
abbrev cX5_readUser : ByteArray := prog_7_method_23_code
def yX5_readUser : MethodName := ⟨RX5, "readUser", "()Z"⟩
abbrev cX5_readEvent : ByteArray := prog_7_method_24_code
def yX5_readEvent : MethodName := ⟨RX5, "readEvent", "(Z)Z"⟩
abbrev cX5_readDesk : ByteArray := prog_7_method_25_code
def yX5_readDesk : MethodName := ⟨RX5, "readDesk", "()I"⟩
abbrev cX5_fault : ByteArray := prog_7_method_26_code
def yX5_fault : MethodName := ⟨RX5, "fault", "()I"⟩
abbrev cX5_desk : ByteArray := prog_7_method_27_code
def yX5_desk : MethodName := ⟨RX5, "desk", "()I"⟩
abbrev cX5_gap : ByteArray := prog_7_method_28_code
def yX5_gap : MethodName := ⟨RX5, "gap", "(I)I"⟩
abbrev cX5_layLoop : ByteArray := prog_7_method_29_code
def yX5_layLoop : MethodName := ⟨RX5, "layLoop", "(I)I"⟩
abbrev cX5_user : ByteArray := prog_7_method_30_code
def yX5_user : MethodName := ⟨RX5, "user", "(II)I"⟩
abbrev cX5_pass : ByteArray := prog_7_method_31_code
def yX5_pass : MethodName := ⟨RX5, "pass", "(II)I"⟩
abbrev cX5_behind : ByteArray := prog_7_method_32_code
def yX5_behind : MethodName := ⟨RX5, "behind", "(III)I"⟩
abbrev cX5_note : ByteArray := prog_7_method_33_code
def yX5_note : MethodName := ⟨RX5, "note", "()V"⟩
abbrev cX5_send : ByteArray := prog_7_method_34_code
def yX5_send : MethodName := ⟨RX5, "send", "(I)I"⟩
abbrev cX5_miss : ByteArray := prog_7_method_35_code
def yX5_miss : MethodName := ⟨RX5, "miss", "(I)I"⟩
abbrev cX5_attempt : ByteArray := prog_7_method_36_code
def yX5_attempt : MethodName := ⟨RX5, "attempt", "(II)I"⟩
abbrev cX5_hear : ByteArray := prog_7_method_37_code
def yX5_hear : MethodName := ⟨RX5, "hear", "()I"⟩
abbrev cX5_renew : ByteArray := prog_7_method_38_code
def yX5_renew : MethodName := ⟨RX5, "renew", "(IIII)I"⟩
abbrev cX5_widen : ByteArray := prog_7_method_39_code
def yX5_widen : MethodName := ⟨RX5, "widen", "(I)I"⟩
abbrev cX5_undo : ByteArray := prog_7_method_40_code
def yX5_undo : MethodName := ⟨RX5, "undo", "()I"⟩
abbrev cX5_fits : ByteArray := prog_7_method_41_code
def yX5_fits : MethodName := ⟨RX5, "fits", "(II)I"⟩
abbrev cX5_fittingOf : ByteArray := prog_7_method_42_code
def yX5_fittingOf : MethodName := ⟨RX5, "fittingOf", "(I)I"⟩
abbrev cX5_fitting : ByteArray := prog_7_method_43_code
def yX5_fitting : MethodName := ⟨RX5, "fitting", "(II)I"⟩
abbrev cX5_thief : ByteArray := prog_7_method_44_code
def yX5_thief : MethodName := ⟨RX5, "thief", "(I)I"⟩
abbrev cX5_heard : ByteArray := prog_7_method_45_code
def yX5_heard : MethodName := ⟨RX5, "heard", "(I)I"⟩
abbrev cX5_does : ByteArray := prog_7_method_46_code
def yX5_does : MethodName := ⟨RX5, "does", "(IIII)Z"⟩
abbrev cX5_longPower : ByteArray := prog_7_method_47_code
def yX5_longPower : MethodName := ⟨RX5, "longPower", "(JI)J"⟩
abbrev cX5_judge : ByteArray := prog_7_method_48_code
def yX5_judge : MethodName := ⟨RX5, "judge", "(IJ)I"⟩
abbrev cX5_see : ByteArray := prog_7_method_49_code
def yX5_see : MethodName := ⟨RX5, "see", "(III)I"⟩
abbrev cX5_unsee : ByteArray := prog_7_method_50_code
def yX5_unsee : MethodName := ⟨RX5, "unsee", "()I"⟩
abbrev cX5_which : ByteArray := prog_7_method_51_code
def yX5_which : MethodName := ⟨RX5, "which", "(I)I"⟩
abbrev cX5_divisor : ByteArray := prog_7_method_52_code
def yX5_divisor : MethodName := ⟨RX5, "divisor", "(II)I"⟩
abbrev cX5_fraction : ByteArray := prog_7_method_53_code
def yX5_fraction : MethodName := ⟨RX5, "fraction", "(IIZ)I"⟩
abbrev cX5_factorial : ByteArray := prog_7_method_54_code
def yX5_factorial : MethodName := ⟨RX5, "factorial", "(I)I"⟩
abbrev cX5_share : ByteArray := prog_7_method_55_code
def yX5_share : MethodName := ⟨RX5, "share", "(IZ)I"⟩
abbrev cX5_guess : ByteArray := prog_7_method_56_code
def yX5_guess : MethodName := ⟨RX5, "guess", "(IIZ)I"⟩
abbrev cX5_loss : ByteArray := prog_7_method_57_code
def yX5_loss : MethodName := ⟨RX5, "loss", "(IIIZ)I"⟩
abbrev cX5_seed : ByteArray := prog_7_method_58_code
def yX5_seed : MethodName := ⟨RX5, "seed", "(J)J"⟩
abbrev cX5_drawn : ByteArray := prog_7_method_59_code
def yX5_drawn : MethodName := ⟨RX5, "drawn", "(I)I"⟩
abbrev cX5_keep : ByteArray := prog_7_method_60_code
def yX5_keep : MethodName := ⟨RX5, "keep", "(I)I"⟩
abbrev cX5_again : ByteArray := prog_7_method_61_code
def yX5_again : MethodName := ⟨RX5, "again", "(I)I"⟩
abbrev cX5_count : ByteArray := prog_7_method_62_code
def yX5_count : MethodName := ⟨RX5, "count", "(I)I"⟩
def RJ9 : String := "java/lang/Math"
def TJ9 : u_T := fun k => match k with
  | _ => ("", "", "", false)
def tyJ9 : Nat → FieldType := fun k => match k with
  | _ => .int
abbrev wsJ90 : List Cond := u_ws RJ9 TJ9 0
theorem nmJ9 : ∀ a, a < 0 → ∀ b, b < 0 → a ≠ b → (TJ9 a).2.1 ≠ (TJ9 b).2.1 := by decide +kernel
theorem tyJ9_ok : ∀ k, k < 0 → parseFieldDescriptor (TJ9 k).2.2.1 = some (tyJ9 k) := by decide +kernel
abbrev cJ9_min_7cf53 : ByteArray := prog_8_method_69_code
def yJ9_min_7cf53 : MethodName := ⟨RJ9, "min", "(II)I"⟩
def RJ10 : String := "java/lang/System"
def TJ10 : u_T := fun k => match k with
  | _ => ("", "", "", false)
def tyJ10 : Nat → FieldType := fun k => match k with
  | _ => .int
abbrev wsJ100 : List Cond := u_ws RJ10 TJ10 0
theorem nmJ10 : ∀ a, a < 0 → ∀ b, b < 0 → a ≠ b → (TJ10 a).2.1 ≠ (TJ10 b).2.1 := by decide +kernel
theorem tyJ10_ok : ∀ k, k < 0 → parseFieldDescriptor (TJ10 k).2.2.1 = some (tyJ10 k) := by decide +kernel
def RJ7 : String := "java/util/Arrays"
def TJ7 : u_T := fun k => match k with
  | _ => ("", "", "", false)
def tyJ7 : Nat → FieldType := fun k => match k with
  | _ => .int
abbrev wsJ70 : List Cond := u_ws RJ7 TJ7 0
theorem nmJ7 : ∀ a, a < 0 → ∀ b, b < 0 → a ≠ b → (TJ7 a).2.1 ≠ (TJ7 b).2.1 := by decide +kernel
theorem tyJ7_ok : ∀ k, k < 0 → parseFieldDescriptor (TJ7 k).2.2.1 = some (tyJ7 k) := by decide +kernel
abbrev cJ7_fill_53178 : ByteArray := prog_10_method_103_code
def yJ7_fill_53178 : MethodName := ⟨RJ7, "fill", "([II)V"⟩
def RL : String := "SpentPassesLaw"
abbrev cL_law : ByteArray := code
def yL_law : MethodName := ⟨RL, "law", "([I)Z"⟩
end
section
/-! ===== the frame: a judgement 'Rn' over one walk of a method's body, with a small heap of numbered cells (no addresses, words, rooms in it), and 'Cl', a call's contract ===== -/
abbrev rn_cl : List vw_C := [(RX0, TX0, 1), (RX1, TX1, 4), (RX2, TX2, 5), (RX3, TX3, 3), (RX4, TX4, 6), (RX5, TX5, 19)]
/-- the words that go on through calls -/
def rn_ws : List Cond := lw_tbl.filter goodWord
theorem rn_mem {i : Nat} {w : Cond} (h : lw_tbl[i]? = some w) (hg : goodWord w = true) : w ∈ rn_ws := List.mem_filter.mpr ⟨List.mem_of_getElem? h, hg⟩
/-- the words on nest mates, which are told apart -/
def rn_isN : Cond → Bool
  | .fieldLinkNest _ _ _ _ _ _ => true
  | .methodLinkNest _ _ _ _ => true
  | _ => false
def rn_nest : List Cond := lw_tbl.filter rn_isN
theorem rn_memN {i : Nat} {w : Cond} (h : lw_tbl[i]? = some w) (hg : rn_isN w = true) : w ∈ rn_nest := List.mem_filter.mpr ⟨List.mem_of_getElem? h, hg⟩
theorem rn_nest_warm {s U : State} (hW : s.WarmedH U.vm) (h : ∀ w ∈ rn_nest, va_Nw w s) : ∀ w ∈ rn_nest, va_Nw w U := by
  intro w hw
  have h1 := h w hw
  have h2 := (List.mem_filter.mp hw).2
  cases w with
  | fieldLinkNest a b c d e f => exact va_Nw.warmF hW h1
  | methodLinkNest a b c d => exact va_Nw.warmM hW h1
  | _ => cases h2
theorem rn_nest_on {w : Cond} (hw : w ∈ rn_nest) : w.onTables = true := by
  have h2 := (List.mem_filter.mp hw).2
  cases w with
  | fieldLinkNest a b c d e f => rfl
  | methodLinkNest a b c d => rfl
  | _ => cases h2
theorem rn_good {w : Cond} (hw : w ∈ rn_ws) : GoodIn rn_ws (w :: rn_ws) := by
  intro v hv
  rcases List.mem_cons.mp hv with rfl | h
  · exact ⟨hw, good_of_word (List.mem_filter.mp hw).2⟩
  · exact ⟨h, good_of_word (List.mem_filter.mp h).2⟩
/-- a method: its name, bytes, locals, what it returns, the frames and the locals' words below it -/
abbrev rMd : Type := MethodName × ByteArray × Nat × Option FieldType × Nat × Nat
/-- a cell: ints, booleans, or an object (the number of its class, its fields) -/
abbrev rCell : Type := (Nat × (Nat → Int32)) ⊕ (Nat × (Nat → Int32)) ⊕ (Nat × List Value)
/-- how many cells, how many slots, the cells -/
abbrev rHp : Type := Nat × Nat × (Nat → rCell)
/-- classes, the class of int[], of boolean[], the first address, the script's address -/
abbrev rG : Type := va_G × ClassId × ClassId × Nat × Nat
def rv (g : rG) : Value → Value
  | .ref i => .ref (g.2.2.2.1 + i)
  | .float _ => .ref g.2.2.2.2
  | v => v
theorem rv_cat (g : rG) (v : Value) : (rv g v).category = v.category := by cases v <;> rfl
def rE (g : rG) : rCell → va_E
  | .inl a => .inl (g.2.1, a.1, .inl a.2)
  | .inr (.inl a) => .inl (g.2.2.1, a.1, .inl a.2)
  | .inr (.inr o) => .inr (o.1, o.2.map (rv g))
def hs (h : rHp) (i : Nat) (c : rCell) : rHp := (h.1, h.2.1, fun j => if j = i then c else h.2.2 j)
def hn (h : rHp) (k : Nat) (c : rCell) : rHp := (h.1 + 1, h.2.1 + k, fun j => if j = h.1 then c else h.2.2 j)
theorem hs_1 (h : rHp) (i : Nat) (c : rCell) : (hs h i c).1 = h.1 := rfl
theorem hs_2 (h : rHp) (i : Nat) (c : rCell) : (hs h i c).2.1 = h.2.1 := rfl
theorem hs_at (h : rHp) (i j : Nat) (c : rCell) : (hs h i c).2.2 j = if j = i then c else h.2.2 j := rfl
theorem hs_eq (h : rHp) (i : Nat) (c : rCell) : (hs h i c).2.2 i = c := if_pos rfl
theorem hs_ne (h : rHp) {i j : Nat} (c : rCell) (hj : j ≠ i) : (hs h i c).2.2 j = h.2.2 j := if_neg hj
theorem hs_hs (h : rHp) (i : Nat) (c d : rCell) : hs (hs h i c) i d = hs h i d := by
  show (h.1, h.2.1, _) = (h.1, h.2.1, _)
  congr 2
  funext j
  show (if j = i then d else if j = i then c else h.2.2 j) = if j = i then d else h.2.2 j
  by_cases hj : j = i
  · rw [if_pos hj, if_pos hj]
  · rw [if_neg hj, if_neg hj, if_neg hj]
theorem hs_self (h : rHp) {i : Nat} {c : rCell} (hc : h.2.2 i = c) : hs h i c = h := by
  obtain ⟨a, b, f⟩ := h
  show (a, b, _) = (a, b, f)
  congr 2
  funext j
  show (if j = i then c else f j) = f j
  by_cases hj : j = i
  · rw [if_pos hj, hj]; exact hc.symm
  · rw [if_neg hj]
def wl (g : rG) (h : rHp) : va_W := (List.range h.1).map (fun i => (g.2.2.2.1 + i, rE g (h.2.2 i)))
theorem wl_get (g : rG) (h : rHp) {i : Nat} (hi : i < h.1) : (wl g h)[i]? = some (g.2.2.2.1 + i, rE g (h.2.2 i)) := by
  unfold wl
  rw [List.getElem?_map, List.getElem?_range hi]
  rfl
theorem wl_of {g : rG} {h : rHp} {i : Nat} {q : Nat × va_E} (hq : (wl g h)[i]? = some q) : i < h.1 ∧ q = (g.2.2.2.1 + i, rE g (h.2.2 i)) := by
  have hi : i < h.1 := by
    have := (List.getElem?_eq_some_iff.mp hq).1
    simpa [wl] using this
  rw [wl_get g h hi] at hq
  exact ⟨hi, (Option.some.inj hq).symm⟩
abbrev rA (g : rG) : Nat → Prop := fun q => g.2.2.2.1 ≤ q
theorem wl_D (g : rG) (h : rHp) : va_D (rA g) (wl g h) := by
  refine ⟨fun i j p q hi hj hpq => ?_, fun k q hk => ?_⟩
  · rw [(wl_of hi).2, (wl_of hj).2] at hpq
    have : g.2.2.2.1 + i = g.2.2.2.1 + j := hpq
    omega
  · rw [(wl_of hk).2]
    exact Nat.le_add_right _ _
theorem wl_set (g : rG) (h : rHp) {o : Nat} (c : rCell) (a : Nat) (e : va_E) (ha : a = g.2.2.2.1 + o) (he : e = rE g c) : (wl g h).set o (a, e) = wl g (hs h o c) := by
  subst ha; subst he
  apply List.ext_getElem?
  intro i
  by_cases hi : i < h.1
  · rw [wl_get g (hs h o c) (show i < (hs h o c).1 from hi)]
    by_cases hio : i = o
    · subst hio
      rw [List.getElem?_set_self (by simpa [wl] using hi), hs_eq]
    · rw [List.getElem?_set_ne (Ne.symm hio), wl_get g h hi, hs_ne h c hio]
  · rw [List.getElem?_eq_none (by simp [wl]; omega), List.getElem?_eq_none (by simp [wl, hs_1]; omega)]
theorem wl_push (g : rG) (h : rHp) (k : Nat) (c : rCell) (a : Nat) (e : va_E) (ha : a = g.2.2.2.1 + h.1) (he : e = rE g c) : wl g h ++ [(a, e)] = wl g (hn h k c) := by
  subst ha; subst he
  apply List.ext_getElem?
  intro i
  have hl : (wl g h).length = h.1 := by simp [wl]
  by_cases hi : i < h.1
  · rw [List.getElem?_append_left (by rw [hl]; exact hi), wl_get g h hi, wl_get g (hn h k c) (show i < h.1 + 1 by omega)]
    show _ = some (_, rE g (if i = h.1 then c else h.2.2 i))
    rw [if_neg (by omega)]
  · by_cases he : i = h.1
    · subst he
      rw [List.getElem?_append_right (by rw [hl]; exact Nat.le_refl _), hl, Nat.sub_self, wl_get g (hn h k c) (show h.1 < h.1 + 1 by omega)]
      show _ = some (_, rE g (if h.1 = h.1 then c else h.2.2 h.1))
      rw [if_pos rfl]
      rfl
    · rw [List.getElem?_eq_none (by simp [wl]; omega), List.getElem?_eq_none (by simp [wl, hn]; omega)]
def rWd (g : rG) (h : rHp) (H : Heap) : Prop := va_P g.1 rn_cl (wl g h) H
def rDy (g : rG) (N SL : Nat) (R : Room) (s : State) (h : rHp) (H : Heap) (locs : List Loc) (cells slots : Nat) : Prop :=
  rWd g h H ∧ va_S (rA g) s.heap H locs ∧ s.heap.size + cells = g.2.2.2.1 + h.1 ∧ cells + (N - h.1) ≤ R.cells ∧ slots + (SL - h.2.1) ≤ R.slots ∧ h.1 ≤ N ∧ h.2.1 ≤ SL
/-- what a walk is about: the method, the script (for the law alone), how many cells and slots there are at its end -/
abbrev rK : Type := rMd × Option (Nat × (Nat → Int32)) × Nat × Nat
def rFx (K : rK) (g : rG) (p : Program) (R : Room) (s : State) (m : MethodId) (args : Array Value) (meth : Method) (c : Code) : Prop :=
  p.tables.exec = Jvm.exec ∧ c.code = K.1.2.1 ∧ c.maxLocals = K.1.2.2.1 ∧ s.vm.findClass K.1.1.cls = some m.cls ∧ (∀ w ∈ rn_ws, w.before args s = true) ∧ va_K g.1 rn_cl [(g.2.1, .int), (g.2.2.1, .boolean)] s ∧ g.2.2.2.1 ≤ s.heap.size ∧
  (∀ L xs, K.2.1 = some (L, xs) → va_X g.2.2.2.2 L xs s s.heap ∧ g.2.2.2.2 < g.2.2.2.1) ∧ (K.1.2.2.2.2.1 ≤ R.frames ∧ K.1.2.2.2.2.2 ≤ R.locals) ∧ (K.1.1.name = "<init>" → meth.name = "<init>") ∧ ∀ w ∈ rn_nest, va_Nw w s
/-- where a method may return, and with what -/
def rRet (M : rMd) (pc : Nat) : Option Value → Prop
  | none => decode M.2.1 pc = .ok (.return_, 1) ∧ M.2.2.2.1 = none
  | some (.int x) => decode M.2.1 pc = .ok (.ireturn, 1) ∧ ∃ ty, M.2.2.2.1 = some ty ∧ narrow ty (.int x) = .int x
  | some (.long _) => decode M.2.1 pc = .ok (.lreturn, 1) ∧ M.2.2.2.1 = some .long
  | _ => False
def rLm (g : rG) (lv : List (Nat × Value)) : List (Nat × Value) := lv.map (fun q => (q.1, rv g q.2))
def Rn (K : rK) (Q : Option Value → rHp → Prop) (pc : Nat) (lv : List (Nat × Value)) (st : List Value) (h : rHp) : Prop :=
  ∀ (g : rG) (p : Program) (l : Launch) (e : Env) (R : Room) (s : State) (m : MethodId) (args : Array Value) (below : List Frame) (meth : Method) (c : Code) (Z : State → Prop), rFx K g p R s m args meth c →
    (∀ (v : Option Value) (h' : rHp) (pc' : Nat) (ls : Array Slot) (H : Heap) (locs : List Loc) (cells slots : Nat), Q v h' → rRet K.1 pc' v → h'.1 = K.2.2.1 → h'.2.1 = K.2.2.2 → rDy g K.2.2.1 K.2.2.2 R s h' H locs cells slots → W p l e R s m args below meth c H locs cells slots Z (F0 m pc' ls (v.map (rv g)).toList)) →
    ∀ (H : Heap) (locs : List Loc) (cells slots : Nat) (ls : Array Slot), rDy g K.2.2.1 K.2.2.2 R s h H locs cells slots → lv_has ls K.1.2.2.1 (rLm g lv) → W p l e R s m args below meth c H locs cells slots Z (F0 m pc ls (st.map (rv g)))
/-- the value of a local -/
def rl (lv : List (Nat × Value)) (i : Nat) : Option Value := (lv.find? (fun q => q.1 == i)).map (fun q => q.2)
theorem rl_at {g : rG} {lv : List (Nat × Value)} {i n : Nat} {v : Value} {ls : Array Slot} (hl : lv_has ls n (rLm g lv)) (h : rl lv i = some v) : ls[i]? = some (.val (rv g v)) := by
  unfold rl at h
  cases hf : lv.find? (fun q => q.1 == i) with
  | none => rw [hf] at h; cases h
  | some q =>
    rw [hf] at h
    have h1 : q.2 = v := Option.some.inj h
    have h2 : q.1 = i := by simpa using List.find?_some hf
    have h3 := hl.2.2 (q.1, rv g q.2) (List.mem_map.mpr ⟨q, List.mem_of_find?_eq_some hf, rfl⟩)
    rw [h1, h2] at h3
    exact h3
def sl1 (lv : List (Nat × Value)) (i : Nat) (v : Value) : List (Nat × Value) := (i, v) :: lv.filter (fun q => !(q.1 == i) && !(q.1 + 1 == i && q.2.category == 2))
def sl2 (lv : List (Nat × Value)) (i : Nat) (v : Value) : List (Nat × Value) := (i, v) :: lv.filter (fun q => !(q.1 == i) && (!(q.1 == i + 1) && !(q.1 + 1 == i && q.2.category == 2)))
theorem rLm_filter (g : rG) (lv : List (Nat × Value)) (f : Nat → Nat → Bool) : (rLm g lv).filter (fun q => f q.1 q.2.category) = rLm g (lv.filter (fun q => f q.1 q.2.category)) := by
  unfold rLm
  induction lv with
  | nil => rfl
  | cons a t ih =>
    rw [List.map_cons, List.filter_cons, List.filter_cons, rv_cat]
    by_cases hc : f a.1 a.2.category = true
    · rw [if_pos hc, if_pos hc, ih, List.map_cons]
    · rw [if_neg hc, if_neg hc, ih]
theorem sl1_map (g : rG) (lv : List (Nat × Value)) (i : Nat) (v : Value) : (i, rv g v) :: (rLm g lv).filter (fun q => !(q.1 == i) && !(q.1 + 1 == i && q.2.category == 2)) = rLm g (sl1 lv i v) := by
  rw [rLm_filter g lv (fun a b => !(a == i) && !(a + 1 == i && b == 2))]
  rfl
theorem sl2_map (g : rG) (lv : List (Nat × Value)) (i : Nat) (v : Value) : (i, rv g v) :: (rLm g lv).filter (fun q => !(q.1 == i) && (!(q.1 == i + 1) && !(q.1 + 1 == i && q.2.category == 2))) = rLm g (sl2 lv i v) := by
  rw [rLm_filter g lv (fun a b => !(a == i) && (!(a == i + 1) && !(a + 1 == i && b == 2)))]
  rfl
section RN
variable {K : rK} {Q : Option Value → rHp → Prop} {pc pc' : Nat} {lv : List (Nat × Value)} {st : List Value} {h : rHp}
/-- fewer locals are known -/
theorem Rn.sub (lv' : List (Nat × Value)) (hl : ∀ q ∈ lv', q ∈ lv) (k : Rn K Q pc lv' st h) : Rn K Q pc lv st h := by
  intro g p l e R s m args below meth c Z F kr H locs cells slots ls D L
  refine k g p l e R s m args below meth c Z F kr H locs cells slots ls D ⟨L.1, L.2.1, fun q hq => L.2.2 q ?_⟩
  obtain ⟨a, h1, h2⟩ := List.mem_map.mp hq
  exact List.mem_map.mpr ⟨a, hl a h1, h2⟩
/-- the heap's cells count as they are read -/
theorem rWd.ext {g : rG} {h h' : rHp} {H : Heap} (h1 : h'.1 = h.1) (hc : ∀ i, i < h.1 → va_at g.1 rn_cl (g.2.2.2.1 + i, rE g (h.2.2 i)) H → va_at g.1 rn_cl (g.2.2.2.1 + i, rE g (h'.2.2 i)) H) (w : rWd g h H) : rWd g h' H := by
  intro k q hk
  obtain ⟨h2, rfl⟩ := wl_of hk
  rw [h1] at h2
  exact hc k h2 (w k _ (wl_get g h h2))
def rSame : rCell → rCell → Prop
  | .inl a, .inl b => a.1 = b.1 ∧ ∀ j, j < a.1 → a.2 j = b.2 j
  | .inr (.inl a), .inr (.inl b) => a.1 = b.1 ∧ ∀ j, j < a.1 → a.2 j = b.2 j
  | .inr (.inr a), .inr (.inr b) => a = b
  | _, _ => False
theorem rSame.refl (c : rCell) : rSame c c := by
  rcases c with a | a | a
  · exact ⟨rfl, fun _ _ => rfl⟩
  · exact ⟨rfl, fun _ _ => rfl⟩
  · rfl
theorem arrV_ext {cI : ClassId} {n : Nat} {f g : Nat → Int32} (h : ∀ j, j < n → f j = g j) : arrV cI n (fun j => .int (f j)) = arrV cI n (fun j => .int (g j)) := by
  unfold arrV
  congr 1
  congr 1
  funext j
  exact congrArg Value.int (h j.val j.isLt)
theorem rSame.at {g : rG} {a b : rCell} {i : Nat} {H : Heap} (hs : rSame a b) (w : va_at g.1 rn_cl (i, rE g a) H) : va_at g.1 rn_cl (i, rE g b) H := by
  rcases a with a | a | a <;> rcases b with b | b | b
  · obtain ⟨n, f⟩ := a
    obtain ⟨n', f'⟩ := b
    obtain ⟨h1, h2⟩ := hs
    dsimp only at h1 h2
    subst h1
    have w1 : H[i]? = some (vp_cell g.2.1 (n, .inl f)) := w
    have e1 : vp_cell g.2.1 (n, .inl f) = vp_cell g.2.1 (n, .inl f') := by rw [vp_cell_i, vp_cell_i, arrV_ext h2]
    exact w1.trans (congrArg some e1)
  · exact hs.elim
  · exact hs.elim
  · exact hs.elim
  · obtain ⟨n, f⟩ := a
    obtain ⟨n', f'⟩ := b
    obtain ⟨h1, h2⟩ := hs
    dsimp only at h1 h2
    subst h1
    have w1 : H[i]? = some (vp_cell g.2.2.1 (n, .inl f)) := w
    have e1 : vp_cell g.2.2.1 (n, .inl f) = vp_cell g.2.2.1 (n, .inl f') := by rw [vp_cell_i, vp_cell_i, arrV_ext h2]
    exact w1.trans (congrArg some e1)
  · exact hs.elim
  · exact hs.elim
  · exact hs.elim
  · have e : a = b := hs
    subst e
    exact w
theorem Rn.heq (h' : rHp) (h1 : h'.1 = h.1) (h2 : h'.2.1 = h.2.1) (hc : ∀ i, i < h.1 → rSame (h.2.2 i) (h'.2.2 i)) (k : Rn K Q pc lv st h') : Rn K Q pc lv st h := by
  intro g p l e R s m args below meth c Z F kr H locs cells slots ls D L
  obtain ⟨D1, D2, D3, D4, D5, D6, D7⟩ := D
  exact k g p l e R s m args below meth c Z F kr H locs cells slots ls ⟨D1.ext h1 (fun i hi w => (hc i hi).at w), D2, by rw [h1]; exact D3, by rw [h1]; exact D4, by rw [h2]; exact D5, by rw [h1]; exact D6, by rw [h2]; exact D7⟩ L
theorem Rn.iconst {n : Int} {v : Int32} (hd : decode K.1.2.1 pc = .ok (.iconst n, 1)) (hp : pc + 1 = pc') (hv : Int32.ofInt n = v) (k : Rn K Q pc' lv (.int v :: st) h) : Rn K Q pc lv (st) h := by
  subst hp
  intro g p l e R s m args below meth c Z F kr H locs cells slots ls D L
  exact lv_iconst F.1 F.2.1 hd hv (k g p l e R s m args below meth c Z F kr H locs cells slots ls D L)
theorem Rn.bipush {n : Int} {v : Int32} (hd : decode K.1.2.1 pc = .ok (.bipush n, 2)) (hp : pc + 2 = pc') (hv : (Int8.ofInt n).toInt32 = v) (k : Rn K Q pc' lv (.int v :: st) h) : Rn K Q pc lv (st) h := by
  subst hp
  intro g p l e R s m args below meth c Z F kr H locs cells slots ls D L
  exact lv_bipush F.1 F.2.1 hd hv (k g p l e R s m args below meth c Z F kr H locs cells slots ls D L)
theorem Rn.sipush {n : Int} {v : Int32} (hd : decode K.1.2.1 pc = .ok (.sipush n, 3)) (hp : pc + 3 = pc') (hv : (Int16.ofInt n).toInt32 = v) (k : Rn K Q pc' lv (.int v :: st) h) : Rn K Q pc lv (st) h := by
  subst hp
  intro g p l e R s m args below meth c Z F kr H locs cells slots ls D L
  exact lv_sipush F.1 F.2.1 hd hv (k g p l e R s m args below meth c Z F kr H locs cells slots ls D L)
theorem Rn.lconst {n : Fin 2} {v : Int64} (hd : decode K.1.2.1 pc = .ok (.lconst n, 1)) (hp : pc + 1 = pc') (hv : Int64.ofNat (n : Nat) = v) (k : Rn K Q pc' lv (.long v :: st) h) : Rn K Q pc lv (st) h := by
  subst hp
  intro g p l e R s m args below meth c Z F kr H locs cells slots ls D L
  exact lv_lconst F.1 F.2.1 hd hv (k g p l e R s m args below meth c Z F kr H locs cells slots ls D L)
theorem Rn.ldc2 {i : Nat} {v : Int64} (hd : decode K.1.2.1 pc = .ok (.ldc2_w i, 3)) (hp : pc + 3 = pc') (hw : Cond.constantLong K.1.1.cls i v ∈ rn_ws) (k : Rn K Q pc' lv (.long v :: st) h) : Rn K Q pc lv (st) h := by
  subst hp
  intro g p l e R s m args below meth c Z F kr H locs cells slots ls D L
  exact lv_ldc2 F.1 F.2.1 F.2.2.2.1 (F.2.2.2.2.1 _ hw) hd (k g p l e R s m args below meth c Z F kr H locs cells slots ls D L)
theorem Rn.iload {i : Nat} {x : Int32} (hd : decode K.1.2.1 pc = .ok (.iload i, 2)) (hp : pc + 2 = pc') (hl : rl lv i = some (.int x)) (k : Rn K Q pc' lv (.int x :: st) h) : Rn K Q pc lv (st) h := by
  subst hp
  intro g p l e R s m args below meth c Z F kr H locs cells slots ls D L
  exact lv_iload F.1 F.2.1 hd (rl_at L hl) (k g p l e R s m args below meth c Z F kr H locs cells slots ls D L)
theorem Rn.iload_n {j : Fin 4} {x : Int32} (hd : decode K.1.2.1 pc = .ok (.iload_n j, 1)) (hp : pc + 1 = pc') (hl : rl lv (j : Nat) = some (.int x)) (k : Rn K Q pc' lv (.int x :: st) h) : Rn K Q pc lv (st) h := by
  subst hp
  intro g p l e R s m args below meth c Z F kr H locs cells slots ls D L
  exact lv_iload_n F.1 F.2.1 hd rfl (rl_at L hl) (k g p l e R s m args below meth c Z F kr H locs cells slots ls D L)
theorem Rn.lload {i : Nat} {x : Int64} (hd : decode K.1.2.1 pc = .ok (.lload i, 2)) (hp : pc + 2 = pc') (hl : rl lv i = some (.long x)) (k : Rn K Q pc' lv (.long x :: st) h) : Rn K Q pc lv (st) h := by
  subst hp
  intro g p l e R s m args below meth c Z F kr H locs cells slots ls D L
  exact lv_lload F.1 F.2.1 hd (rl_at L hl) (k g p l e R s m args below meth c Z F kr H locs cells slots ls D L)
theorem Rn.lload_n {j : Fin 4} {x : Int64} (hd : decode K.1.2.1 pc = .ok (.lload_n j, 1)) (hp : pc + 1 = pc') (hl : rl lv (j : Nat) = some (.long x)) (k : Rn K Q pc' lv (.long x :: st) h) : Rn K Q pc lv (st) h := by
  subst hp
  intro g p l e R s m args below meth c Z F kr H locs cells slots ls D L
  exact lv_lload_n F.1 F.2.1 hd rfl (rl_at L hl) (k g p l e R s m args below meth c Z F kr H locs cells slots ls D L)
theorem Rn.aload {i : Nat} {x : Nat} (hd : decode K.1.2.1 pc = .ok (.aload i, 2)) (hp : pc + 2 = pc') (hl : rl lv i = some (.ref x)) (k : Rn K Q pc' lv (.ref x :: st) h) : Rn K Q pc lv (st) h := by
  subst hp
  intro g p l e R s m args below meth c Z F kr H locs cells slots ls D L
  exact lv_aload F.1 F.2.1 hd (rl_at L hl) (k g p l e R s m args below meth c Z F kr H locs cells slots ls D L)
theorem Rn.aload_n {j : Fin 4} {x : Nat} (hd : decode K.1.2.1 pc = .ok (.aload_n j, 1)) (hp : pc + 1 = pc') (hl : rl lv (j : Nat) = some (.ref x)) (k : Rn K Q pc' lv (.ref x :: st) h) : Rn K Q pc lv (st) h := by
  subst hp
  intro g p l e R s m args below meth c Z F kr H locs cells slots ls D L
  exact lv_aload_n F.1 F.2.1 hd rfl (rl_at L hl) (k g p l e R s m args below meth c Z F kr H locs cells slots ls D L)
theorem Rn.aload_nS {j : Fin 4} {x : UInt32} (hd : decode K.1.2.1 pc = .ok (.aload_n j, 1)) (hp : pc + 1 = pc') (hl : rl lv (j : Nat) = some (.float x)) (k : Rn K Q pc' lv (.float x :: st) h) : Rn K Q pc lv (st) h := by
  subst hp
  intro g p l e R s m args below meth c Z F kr H locs cells slots ls D L
  exact lv_aload_n F.1 F.2.1 hd rfl (rl_at L hl) (k g p l e R s m args below meth c Z F kr H locs cells slots ls D L)
theorem Rn.istore {i : Nat} {x : Int32} (hd : decode K.1.2.1 pc = .ok (.istore i, 2)) (hp : pc + 2 = pc') (hb : i < K.1.2.2.1) (k : Rn K Q pc' (sl1 lv i (.int x)) st h) : Rn K Q pc lv (.int x :: st) h := by
  subst hp
  intro g p l e R s m args below meth c Z F kr H locs cells slots ls D L
  exact lv_istore F.1 F.2.1 hd L hb (sl1_map g lv i (.int x)) (fun ls' L' => k g p l e R s m args below meth c Z F kr H locs cells slots ls' D L')
theorem Rn.istore_n {j : Fin 4} {x : Int32} (hd : decode K.1.2.1 pc = .ok (.istore_n j, 1)) (hp : pc + 1 = pc') (hb : (j : Nat) < K.1.2.2.1) (k : Rn K Q pc' (sl1 lv (j : Nat) (.int x)) st h) : Rn K Q pc lv (.int x :: st) h := by
  subst hp
  intro g p l e R s m args below meth c Z F kr H locs cells slots ls D L
  exact lv_istore_n F.1 F.2.1 hd rfl L hb (sl1_map g lv (j : Nat) (.int x)) (fun ls' L' => k g p l e R s m args below meth c Z F kr H locs cells slots ls' D L')
theorem Rn.lstore {i : Nat} {x : Int64} (hd : decode K.1.2.1 pc = .ok (.lstore i, 2)) (hp : pc + 2 = pc') (hb : i + 1 < K.1.2.2.1) (k : Rn K Q pc' (sl2 lv i (.long x)) st h) : Rn K Q pc lv (.long x :: st) h := by
  subst hp
  intro g p l e R s m args below meth c Z F kr H locs cells slots ls D L
  exact lv_lstore F.1 F.2.1 hd L hb (sl2_map g lv i (.long x)) (fun ls' L' => k g p l e R s m args below meth c Z F kr H locs cells slots ls' D L')
theorem Rn.lstore_n {j : Fin 4} {x : Int64} (hd : decode K.1.2.1 pc = .ok (.lstore_n j, 1)) (hp : pc + 1 = pc') (hb : (j : Nat) + 1 < K.1.2.2.1) (k : Rn K Q pc' (sl2 lv (j : Nat) (.long x)) st h) : Rn K Q pc lv (.long x :: st) h := by
  subst hp
  intro g p l e R s m args below meth c Z F kr H locs cells slots ls D L
  exact lv_lstore_n F.1 F.2.1 hd rfl L hb (sl2_map g lv (j : Nat) (.long x)) (fun ls' L' => k g p l e R s m args below meth c Z F kr H locs cells slots ls' D L')
theorem Rn.astore {i : Nat} {x : Nat} (hd : decode K.1.2.1 pc = .ok (.astore i, 2)) (hp : pc + 2 = pc') (hb : i < K.1.2.2.1) (k : Rn K Q pc' (sl1 lv i (.ref x)) st h) : Rn K Q pc lv (.ref x :: st) h := by
  subst hp
  intro g p l e R s m args below meth c Z F kr H locs cells slots ls D L
  exact lv_astore F.1 F.2.1 hd L hb (sl1_map g lv i (.ref x)) (fun ls' L' => k g p l e R s m args below meth c Z F kr H locs cells slots ls' D L')
theorem Rn.astore_n {j : Fin 4} {x : Nat} (hd : decode K.1.2.1 pc = .ok (.astore_n j, 1)) (hp : pc + 1 = pc') (hb : (j : Nat) < K.1.2.2.1) (k : Rn K Q pc' (sl1 lv (j : Nat) (.ref x)) st h) : Rn K Q pc lv (.ref x :: st) h := by
  subst hp
  intro g p l e R s m args below meth c Z F kr H locs cells slots ls D L
  exact lv_astore_n F.1 F.2.1 hd rfl L hb (sl1_map g lv (j : Nat) (.ref x)) (fun ls' L' => k g p l e R s m args below meth c Z F kr H locs cells slots ls' D L')
theorem Rn.iinc {i : Nat} {n : Int} {x v : Int32} (hd : decode K.1.2.1 pc = .ok (.iinc i n, 3)) (hp : pc + 3 = pc') (hl : rl lv i = some (.int x)) (hv : x + Int32.ofInt n = v) (hb : i < K.1.2.2.1) (k : Rn K Q pc' (sl1 lv i (.int v)) st h) : Rn K Q pc lv st h := by
  subst hp
  intro g p l e R s m args below meth c Z F kr H locs cells slots ls D L
  unfold rl at hl
  cases hf : lv.find? (fun q => q.1 == i) with
  | none => rw [hf] at hl; cases hl
  | some q =>
    rw [hf] at hl
    have h1 : q.2 = .int x := Option.some.inj hl
    have h2 : q.1 = i := by simpa using List.find?_some hf
    have h3 : (i, Value.int x) ∈ rLm g lv := List.mem_map.mpr ⟨q, List.mem_of_find?_eq_some hf, by rw [h1, h2]; rfl⟩
    obtain ⟨j, hj⟩ := List.getElem?_of_mem h3
    exact lv_iinc F.1 F.2.1 hd L hj hv hb (sl1_map g lv i (.int v)) (fun ls' L' => k g p l e R s m args below meth c Z F kr H locs cells slots ls' D L')
theorem Rn.iadd {x y : Int32} (hd : decode K.1.2.1 pc = .ok (.iadd, 1)) (hp : pc + 1 = pc') (k : Rn K Q pc' lv (.int (x + y) :: st) h) : Rn K Q pc lv (.int y :: .int x :: st) h := by
  subst hp
  intro g p l e R s m args below meth c Z F kr H locs cells slots ls D L
  exact lv_iadd F.1 F.2.1 hd (k g p l e R s m args below meth c Z F kr H locs cells slots ls D L)
theorem Rn.isub {x y : Int32} (hd : decode K.1.2.1 pc = .ok (.isub, 1)) (hp : pc + 1 = pc') (k : Rn K Q pc' lv (.int (x - y) :: st) h) : Rn K Q pc lv (.int y :: .int x :: st) h := by
  subst hp
  intro g p l e R s m args below meth c Z F kr H locs cells slots ls D L
  exact lv_isub F.1 F.2.1 hd (k g p l e R s m args below meth c Z F kr H locs cells slots ls D L)
theorem Rn.imul {x y : Int32} (hd : decode K.1.2.1 pc = .ok (.imul, 1)) (hp : pc + 1 = pc') (k : Rn K Q pc' lv (.int (x * y) :: st) h) : Rn K Q pc lv (.int y :: .int x :: st) h := by
  subst hp
  intro g p l e R s m args below meth c Z F kr H locs cells slots ls D L
  exact lv_imul F.1 F.2.1 hd (k g p l e R s m args below meth c Z F kr H locs cells slots ls D L)
theorem Rn.iand {x y : Int32} (hd : decode K.1.2.1 pc = .ok (.iand, 1)) (hp : pc + 1 = pc') (k : Rn K Q pc' lv (.int (x &&& y) :: st) h) : Rn K Q pc lv (.int y :: .int x :: st) h := by
  subst hp
  intro g p l e R s m args below meth c Z F kr H locs cells slots ls D L
  exact lv_iand F.1 F.2.1 hd (k g p l e R s m args below meth c Z F kr H locs cells slots ls D L)
theorem Rn.ior {x y : Int32} (hd : decode K.1.2.1 pc = .ok (.ior, 1)) (hp : pc + 1 = pc') (k : Rn K Q pc' lv (.int (x ||| y) :: st) h) : Rn K Q pc lv (.int y :: .int x :: st) h := by
  subst hp
  intro g p l e R s m args below meth c Z F kr H locs cells slots ls D L
  exact lv_ior F.1 F.2.1 hd (k g p l e R s m args below meth c Z F kr H locs cells slots ls D L)
theorem Rn.ishl {x y : Int32} (hd : decode K.1.2.1 pc = .ok (.ishl, 1)) (hp : pc + 1 = pc') (k : Rn K Q pc' lv (.int (x <<< (y &&& 31)) :: st) h) : Rn K Q pc lv (.int y :: .int x :: st) h := by
  subst hp
  intro g p l e R s m args below meth c Z F kr H locs cells slots ls D L
  exact lv_ishl F.1 F.2.1 hd (k g p l e R s m args below meth c Z F kr H locs cells slots ls D L)
theorem Rn.ishr {x y : Int32} (hd : decode K.1.2.1 pc = .ok (.ishr, 1)) (hp : pc + 1 = pc') (k : Rn K Q pc' lv (.int (x >>> (y &&& 31)) :: st) h) : Rn K Q pc lv (.int y :: .int x :: st) h := by
  subst hp
  intro g p l e R s m args below meth c Z F kr H locs cells slots ls D L
  exact lv_ishr F.1 F.2.1 hd (k g p l e R s m args below meth c Z F kr H locs cells slots ls D L)
theorem Rn.idiv {x y : Int32} (hd : decode K.1.2.1 pc = .ok (.idiv, 1)) (hp : pc + 1 = pc') (hne : ¬ y = 0) (k : Rn K Q pc' lv (.int (x / y) :: st) h) : Rn K Q pc lv (.int y :: .int x :: st) h := by
  subst hp
  intro g p l e R s m args below meth c Z F kr H locs cells slots ls D L
  exact lv_idiv F.1 F.2.1 hd hne (k g p l e R s m args below meth c Z F kr H locs cells slots ls D L)
theorem Rn.irem {x y : Int32} (hd : decode K.1.2.1 pc = .ok (.irem, 1)) (hp : pc + 1 = pc') (hne : ¬ y = 0) (k : Rn K Q pc' lv (.int (x - x / y * y) :: st) h) : Rn K Q pc lv (.int y :: .int x :: st) h := by
  subst hp
  intro g p l e R s m args below meth c Z F kr H locs cells slots ls D L
  exact lv_irem F.1 F.2.1 hd hne (k g p l e R s m args below meth c Z F kr H locs cells slots ls D L)
theorem Rn.ineg {x : Int32} (hd : decode K.1.2.1 pc = .ok (.ineg, 1)) (hp : pc + 1 = pc') (k : Rn K Q pc' lv (.int (-x) :: st) h) : Rn K Q pc lv (.int x :: st) h := by
  subst hp
  intro g p l e R s m args below meth c Z F kr H locs cells slots ls D L
  exact lv_ineg F.1 F.2.1 hd (k g p l e R s m args below meth c Z F kr H locs cells slots ls D L)
theorem Rn.ladd {x y : Int64} (hd : decode K.1.2.1 pc = .ok (.ladd, 1)) (hp : pc + 1 = pc') (k : Rn K Q pc' lv (.long (x + y) :: st) h) : Rn K Q pc lv (.long y :: .long x :: st) h := by
  subst hp
  intro g p l e R s m args below meth c Z F kr H locs cells slots ls D L
  exact lv_ladd F.1 F.2.1 hd (k g p l e R s m args below meth c Z F kr H locs cells slots ls D L)
theorem Rn.lsub {x y : Int64} (hd : decode K.1.2.1 pc = .ok (.lsub, 1)) (hp : pc + 1 = pc') (k : Rn K Q pc' lv (.long (x - y) :: st) h) : Rn K Q pc lv (.long y :: .long x :: st) h := by
  subst hp
  intro g p l e R s m args below meth c Z F kr H locs cells slots ls D L
  exact lv_lsub F.1 F.2.1 hd (k g p l e R s m args below meth c Z F kr H locs cells slots ls D L)
theorem Rn.lmul {x y : Int64} (hd : decode K.1.2.1 pc = .ok (.lmul, 1)) (hp : pc + 1 = pc') (k : Rn K Q pc' lv (.long (x * y) :: st) h) : Rn K Q pc lv (.long y :: .long x :: st) h := by
  subst hp
  intro g p l e R s m args below meth c Z F kr H locs cells slots ls D L
  exact lv_lmul F.1 F.2.1 hd (k g p l e R s m args below meth c Z F kr H locs cells slots ls D L)
theorem Rn.land {x y : Int64} (hd : decode K.1.2.1 pc = .ok (.land, 1)) (hp : pc + 1 = pc') (k : Rn K Q pc' lv (.long (x &&& y) :: st) h) : Rn K Q pc lv (.long y :: .long x :: st) h := by
  subst hp
  intro g p l e R s m args below meth c Z F kr H locs cells slots ls D L
  exact lv_land F.1 F.2.1 hd (k g p l e R s m args below meth c Z F kr H locs cells slots ls D L)
theorem Rn.lor {x y : Int64} (hd : decode K.1.2.1 pc = .ok (.lor, 1)) (hp : pc + 1 = pc') (k : Rn K Q pc' lv (.long (x ||| y) :: st) h) : Rn K Q pc lv (.long y :: .long x :: st) h := by
  subst hp
  intro g p l e R s m args below meth c Z F kr H locs cells slots ls D L
  exact lv_lor F.1 F.2.1 hd (k g p l e R s m args below meth c Z F kr H locs cells slots ls D L)
theorem Rn.ldiv {x y : Int64} (hd : decode K.1.2.1 pc = .ok (.ldiv, 1)) (hp : pc + 1 = pc') (hne : ¬ y = 0) (k : Rn K Q pc' lv (.long (x / y) :: st) h) : Rn K Q pc lv (.long y :: .long x :: st) h := by
  subst hp
  intro g p l e R s m args below meth c Z F kr H locs cells slots ls D L
  exact lv_ldiv F.1 F.2.1 hd hne (k g p l e R s m args below meth c Z F kr H locs cells slots ls D L)
theorem Rn.lrem {x y : Int64} (hd : decode K.1.2.1 pc = .ok (.lrem, 1)) (hp : pc + 1 = pc') (hne : ¬ y = 0) (k : Rn K Q pc' lv (.long (x - x / y * y) :: st) h) : Rn K Q pc lv (.long y :: .long x :: st) h := by
  subst hp
  intro g p l e R s m args below meth c Z F kr H locs cells slots ls D L
  exact lv_lrem F.1 F.2.1 hd hne (k g p l e R s m args below meth c Z F kr H locs cells slots ls D L)
theorem Rn.i2l {x : Int32} (hd : decode K.1.2.1 pc = .ok (.i2l, 1)) (hp : pc + 1 = pc') (k : Rn K Q pc' lv (.long x.toInt64 :: st) h) : Rn K Q pc lv (.int x :: st) h := by
  subst hp
  intro g p l e R s m args below meth c Z F kr H locs cells slots ls D L
  exact lv_i2l F.1 F.2.1 hd rfl (k g p l e R s m args below meth c Z F kr H locs cells slots ls D L)
theorem Rn.l2i {x : Int64} (hd : decode K.1.2.1 pc = .ok (.l2i, 1)) (hp : pc + 1 = pc') (k : Rn K Q pc' lv (.int x.toInt32 :: st) h) : Rn K Q pc lv (.long x :: st) h := by
  subst hp
  intro g p l e R s m args below meth c Z F kr H locs cells slots ls D L
  exact lv_l2i F.1 F.2.1 hd rfl (k g p l e R s m args below meth c Z F kr H locs cells slots ls D L)
theorem Rn.lushr {x : Int64} {y : Int32} (hd : decode K.1.2.1 pc = .ok (.lushr, 1)) (hp : pc + 1 = pc') (k : Rn K Q pc' lv (.long (x.toUInt64 >>> (y.toInt64.toUInt64 &&& Int64.toUInt64 63)).toInt64 :: st) h) : Rn K Q pc lv (.int y :: .long x :: st) h := by
  subst hp
  intro g p l e R s m args below meth c Z F kr H locs cells slots ls D L
  exact lv_lushr F.1 F.2.1 hd rfl (k g p l e R s m args below meth c Z F kr H locs cells slots ls D L)
theorem Rn.lshl {x : Int64} {y : Int32} (hd : decode K.1.2.1 pc = .ok (.lshl, 1)) (hp : pc + 1 = pc') (k : Rn K Q pc' lv (.long (x <<< (y.toInt64 &&& 63)) :: st) h) : Rn K Q pc lv (.int y :: .long x :: st) h := by
  subst hp
  intro g p l e R s m args below meth c Z F kr H locs cells slots ls D L
  exact lv_lshl F.1 F.2.1 hd rfl (k g p l e R s m args below meth c Z F kr H locs cells slots ls D L)
theorem Rn.lcmp {x y : Int64} (hd : decode K.1.2.1 pc = .ok (.lcmp, 1)) (hp : pc + 1 = pc') (k : Rn K Q pc' lv (.int (lg_cmp x y) :: st) h) : Rn K Q pc lv (.long y :: .long x :: st) h := by
  subst hp
  intro g p l e R s m args below meth c Z F kr H locs cells slots ls D L
  exact W.lcmp F.1 F.2.1 hd (k g p l e R s m args below meth c Z F kr H locs cells slots ls D L)
theorem Rn.dup {v : Value} (hd : decode K.1.2.1 pc = .ok (.dup, 1)) (hp : pc + 1 = pc') (hc : v.category = 1) (k : Rn K Q pc' lv (v :: v :: st) h) : Rn K Q pc lv (v :: st) h := by
  subst hp
  intro g p l e R s m args below meth c Z F kr H locs cells slots ls D L
  exact lv_dup F.1 F.2.1 hd ((rv_cat g v).trans hc) (k g p l e R s m args below meth c Z F kr H locs cells slots ls D L)
theorem Rn.pop {v : Value} (hd : decode K.1.2.1 pc = .ok (.pop, 1)) (hp : pc + 1 = pc') (hc : v.category = 1) (k : Rn K Q pc' lv (st) h) : Rn K Q pc lv (v :: st) h := by
  subst hp
  intro g p l e R s m args below meth c Z F kr H locs cells slots ls D L
  exact lv_pop F.1 F.2.1 hd ((rv_cat g v).trans hc) (k g p l e R s m args below meth c Z F kr H locs cells slots ls D L)
theorem Rn.dup2 {v w : Value} (hd : decode K.1.2.1 pc = .ok (.dup2, 1)) (hp : pc + 1 = pc') (hc : v.category = 1) (hc2 : w.category = 1) (k : Rn K Q pc' lv (v :: w :: v :: w :: st) h) : Rn K Q pc lv (v :: w :: st) h := by
  subst hp
  intro g p l e R s m args below meth c Z F kr H locs cells slots ls D L
  exact lv_dup2_11 F.1 F.2.1 hd ((rv_cat g v).trans hc) ((rv_cat g w).trans hc2) (k g p l e R s m args below meth c Z F kr H locs cells slots ls D L)
theorem Rn.if_eq {x : Int32} {off : Int} {tgt : Nat} (hd : decode K.1.2.1 pc = .ok (.ifCond .eq off, 3)) (hp : pc + 3 = pc') (ht : (pc : Int) + off = (tgt : Int)) (kt : x = 0 → Rn K Q tgt lv st h) (kf : ¬ x = 0 → Rn K Q pc' lv st h) : Rn K Q pc lv (.int x :: st) h := by
  subst hp
  intro g p l e R s m args below meth c Z F kr H locs cells slots ls D L
  exact lv_if_eq F.1 F.2.1 hd ht (fun q => kt q g p l e R s m args below meth c Z F kr H locs cells slots ls D L) (fun q => kf q g p l e R s m args below meth c Z F kr H locs cells slots ls D L)
theorem Rn.icmp_eq {x y : Int32} {off : Int} {tgt : Nat} (hd : decode K.1.2.1 pc = .ok (.if_icmp .eq off, 3)) (hp : pc + 3 = pc') (ht : (pc : Int) + off = (tgt : Int)) (kt : x = y → Rn K Q tgt lv st h) (kf : ¬ x = y → Rn K Q pc' lv st h) : Rn K Q pc lv (.int y :: .int x :: st) h := by
  subst hp
  intro g p l e R s m args below meth c Z F kr H locs cells slots ls D L
  exact lv_icmp_eq F.1 F.2.1 hd ht (fun q => kt q g p l e R s m args below meth c Z F kr H locs cells slots ls D L) (fun q => kf q g p l e R s m args below meth c Z F kr H locs cells slots ls D L)
theorem Rn.if_ne {x : Int32} {off : Int} {tgt : Nat} (hd : decode K.1.2.1 pc = .ok (.ifCond .ne off, 3)) (hp : pc + 3 = pc') (ht : (pc : Int) + off = (tgt : Int)) (kt : ¬ x = 0 → Rn K Q tgt lv st h) (kf : x = 0 → Rn K Q pc' lv st h) : Rn K Q pc lv (.int x :: st) h := by
  subst hp
  intro g p l e R s m args below meth c Z F kr H locs cells slots ls D L
  exact lv_if_ne F.1 F.2.1 hd ht (fun q => kt q g p l e R s m args below meth c Z F kr H locs cells slots ls D L) (fun q => kf q g p l e R s m args below meth c Z F kr H locs cells slots ls D L)
theorem Rn.icmp_ne {x y : Int32} {off : Int} {tgt : Nat} (hd : decode K.1.2.1 pc = .ok (.if_icmp .ne off, 3)) (hp : pc + 3 = pc') (ht : (pc : Int) + off = (tgt : Int)) (kt : ¬ x = y → Rn K Q tgt lv st h) (kf : x = y → Rn K Q pc' lv st h) : Rn K Q pc lv (.int y :: .int x :: st) h := by
  subst hp
  intro g p l e R s m args below meth c Z F kr H locs cells slots ls D L
  exact lv_icmp_ne F.1 F.2.1 hd ht (fun q => kt q g p l e R s m args below meth c Z F kr H locs cells slots ls D L) (fun q => kf q g p l e R s m args below meth c Z F kr H locs cells slots ls D L)
theorem Rn.if_lt {x : Int32} {off : Int} {tgt : Nat} (hd : decode K.1.2.1 pc = .ok (.ifCond .lt off, 3)) (hp : pc + 3 = pc') (ht : (pc : Int) + off = (tgt : Int)) (kt : x < 0 → Rn K Q tgt lv st h) (kf : ¬ x < 0 → Rn K Q pc' lv st h) : Rn K Q pc lv (.int x :: st) h := by
  subst hp
  intro g p l e R s m args below meth c Z F kr H locs cells slots ls D L
  exact lv_if_lt F.1 F.2.1 hd ht (fun q => kt q g p l e R s m args below meth c Z F kr H locs cells slots ls D L) (fun q => kf q g p l e R s m args below meth c Z F kr H locs cells slots ls D L)
theorem Rn.icmp_lt {x y : Int32} {off : Int} {tgt : Nat} (hd : decode K.1.2.1 pc = .ok (.if_icmp .lt off, 3)) (hp : pc + 3 = pc') (ht : (pc : Int) + off = (tgt : Int)) (kt : x < y → Rn K Q tgt lv st h) (kf : ¬ x < y → Rn K Q pc' lv st h) : Rn K Q pc lv (.int y :: .int x :: st) h := by
  subst hp
  intro g p l e R s m args below meth c Z F kr H locs cells slots ls D L
  exact lv_icmp_lt F.1 F.2.1 hd ht (fun q => kt q g p l e R s m args below meth c Z F kr H locs cells slots ls D L) (fun q => kf q g p l e R s m args below meth c Z F kr H locs cells slots ls D L)
theorem Rn.if_ge {x : Int32} {off : Int} {tgt : Nat} (hd : decode K.1.2.1 pc = .ok (.ifCond .ge off, 3)) (hp : pc + 3 = pc') (ht : (pc : Int) + off = (tgt : Int)) (kt : 0 ≤ x → Rn K Q tgt lv st h) (kf : ¬ 0 ≤ x → Rn K Q pc' lv st h) : Rn K Q pc lv (.int x :: st) h := by
  subst hp
  intro g p l e R s m args below meth c Z F kr H locs cells slots ls D L
  exact lv_if_ge F.1 F.2.1 hd ht (fun q => kt q g p l e R s m args below meth c Z F kr H locs cells slots ls D L) (fun q => kf q g p l e R s m args below meth c Z F kr H locs cells slots ls D L)
theorem Rn.icmp_ge {x y : Int32} {off : Int} {tgt : Nat} (hd : decode K.1.2.1 pc = .ok (.if_icmp .ge off, 3)) (hp : pc + 3 = pc') (ht : (pc : Int) + off = (tgt : Int)) (kt : y ≤ x → Rn K Q tgt lv st h) (kf : ¬ y ≤ x → Rn K Q pc' lv st h) : Rn K Q pc lv (.int y :: .int x :: st) h := by
  subst hp
  intro g p l e R s m args below meth c Z F kr H locs cells slots ls D L
  exact lv_icmp_ge F.1 F.2.1 hd ht (fun q => kt q g p l e R s m args below meth c Z F kr H locs cells slots ls D L) (fun q => kf q g p l e R s m args below meth c Z F kr H locs cells slots ls D L)
theorem Rn.if_gt {x : Int32} {off : Int} {tgt : Nat} (hd : decode K.1.2.1 pc = .ok (.ifCond .gt off, 3)) (hp : pc + 3 = pc') (ht : (pc : Int) + off = (tgt : Int)) (kt : 0 < x → Rn K Q tgt lv st h) (kf : ¬ 0 < x → Rn K Q pc' lv st h) : Rn K Q pc lv (.int x :: st) h := by
  subst hp
  intro g p l e R s m args below meth c Z F kr H locs cells slots ls D L
  exact lv_if_gt F.1 F.2.1 hd ht (fun q => kt q g p l e R s m args below meth c Z F kr H locs cells slots ls D L) (fun q => kf q g p l e R s m args below meth c Z F kr H locs cells slots ls D L)
theorem Rn.icmp_gt {x y : Int32} {off : Int} {tgt : Nat} (hd : decode K.1.2.1 pc = .ok (.if_icmp .gt off, 3)) (hp : pc + 3 = pc') (ht : (pc : Int) + off = (tgt : Int)) (kt : y < x → Rn K Q tgt lv st h) (kf : ¬ y < x → Rn K Q pc' lv st h) : Rn K Q pc lv (.int y :: .int x :: st) h := by
  subst hp
  intro g p l e R s m args below meth c Z F kr H locs cells slots ls D L
  exact lv_icmp_gt F.1 F.2.1 hd ht (fun q => kt q g p l e R s m args below meth c Z F kr H locs cells slots ls D L) (fun q => kf q g p l e R s m args below meth c Z F kr H locs cells slots ls D L)
theorem Rn.if_le {x : Int32} {off : Int} {tgt : Nat} (hd : decode K.1.2.1 pc = .ok (.ifCond .le off, 3)) (hp : pc + 3 = pc') (ht : (pc : Int) + off = (tgt : Int)) (kt : x ≤ 0 → Rn K Q tgt lv st h) (kf : ¬ x ≤ 0 → Rn K Q pc' lv st h) : Rn K Q pc lv (.int x :: st) h := by
  subst hp
  intro g p l e R s m args below meth c Z F kr H locs cells slots ls D L
  exact lv_if_le F.1 F.2.1 hd ht (fun q => kt q g p l e R s m args below meth c Z F kr H locs cells slots ls D L) (fun q => kf q g p l e R s m args below meth c Z F kr H locs cells slots ls D L)
theorem Rn.icmp_le {x y : Int32} {off : Int} {tgt : Nat} (hd : decode K.1.2.1 pc = .ok (.if_icmp .le off, 3)) (hp : pc + 3 = pc') (ht : (pc : Int) + off = (tgt : Int)) (kt : x ≤ y → Rn K Q tgt lv st h) (kf : ¬ x ≤ y → Rn K Q pc' lv st h) : Rn K Q pc lv (.int y :: .int x :: st) h := by
  subst hp
  intro g p l e R s m args below meth c Z F kr H locs cells slots ls D L
  exact lv_icmp_le F.1 F.2.1 hd ht (fun q => kt q g p l e R s m args below meth c Z F kr H locs cells slots ls D L) (fun q => kf q g p l e R s m args below meth c Z F kr H locs cells slots ls D L)
theorem Rn.goto {off : Int} {tgt : Nat} (hd : decode K.1.2.1 pc = .ok (.goto off, 3)) (ht : (pc : Int) + off = (tgt : Int)) (k : Rn K Q tgt lv st h) : Rn K Q pc lv st h := by
  intro g p l e R s m args below meth c Z F kr H locs cells slots ls D L
  exact lv_goto F.1 F.2.1 hd ht (k g p l e R s m args below meth c Z F kr H locs cells slots ls D L)
theorem Rn.tabIn {dflt lo hi : Int} {offs : Array Int} {len : Nat} {x : Int32} {off : Int} {tgt : Nat} (hd : decode K.1.2.1 pc = .ok (.tableswitch dflt lo hi offs, len)) (h1 : ¬ x.toInt < lo) (h2 : ¬ hi < x.toInt) (ho : offs[(x.toInt - lo).toNat]? = some off) (ht : (pc : Int) + off = (tgt : Int)) (k : Rn K Q tgt lv st h) : Rn K Q pc lv (.int x :: st) h := by
  intro g p l e R s m args below meth c Z F kr H locs cells slots ls D L
  exact lv_tableIn F.1 F.2.1 hd h1 h2 ho ht (k g p l e R s m args below meth c Z F kr H locs cells slots ls D L)
theorem Rn.tabOut {dflt lo hi : Int} {offs : Array Int} {len : Nat} {x : Int32} {tgt : Nat} (hd : decode K.1.2.1 pc = .ok (.tableswitch dflt lo hi offs, len)) (h1 : x.toInt < lo ∨ hi < x.toInt) (ht : (pc : Int) + dflt = (tgt : Int)) (k : Rn K Q tgt lv st h) : Rn K Q pc lv (.int x :: st) h := by
  intro g p l e R s m args below meth c Z F kr H locs cells slots ls D L
  exact lv_tableOut F.1 F.2.1 hd h1 ht (k g p l e R s m args below meth c Z F kr H locs cells slots ls D L)
theorem Rn.look {dflt : Int} {ps : Array (Int × Int)} {len : Nat} {x : Int32} {off : Int} {tgt : Nat} (hd : decode K.1.2.1 pc = .ok (.lookupswitch dflt ps, len)) (hq : (ps.toList.zip (ps.toList.drop 1)).all (fun (a, next) => a.1 < next.1) = true) (ho : Op.lookupswitch.offset ps.toList dflt x.toInt = off) (ht : (pc : Int) + off = (tgt : Int)) (k : Rn K Q tgt lv st h) : Rn K Q pc lv (.int x :: st) h := by
  intro g p l e R s m args below meth c Z F kr H locs cells slots ls D L
  exact lv_lookup F.1 F.2.1 hd hq ho ht (k g p l e R s m args below meth c Z F kr H locs cells slots ls D L)
theorem Rn.ret (hd : decode K.1.2.1 pc = .ok (.return_, 1)) (hr : K.1.2.2.2.1 = none) (h1 : h.1 = K.2.2.1) (h2 : h.2.1 = K.2.2.2) (k : Q none h) : Rn K Q pc lv [] h := by
  intro g p l e R s m args below meth c Z F kr H locs cells slots ls D L
  exact kr none h pc ls H locs cells slots k ⟨hd, hr⟩ h1 h2 D
theorem Rn.iret {x : Int32} (hd : decode K.1.2.1 pc = .ok (.ireturn, 1)) (hr : K.1.2.2.2.1 = some .int) (h1 : h.1 = K.2.2.1) (h2 : h.2.1 = K.2.2.2) (k : Q (some (.int x)) h) : Rn K Q pc lv [.int x] h := by
  intro g p l e R s m args below meth c Z F kr H locs cells slots ls D L
  exact kr (some (.int x)) h pc ls H locs cells slots k ⟨hd, _, hr, rfl⟩ h1 h2 D
theorem Rn.zret {x : Int32} (hd : decode K.1.2.1 pc = .ok (.ireturn, 1)) (hr : K.1.2.2.2.1 = some .boolean) (hx : x = 0 ∨ x = 1) (h1 : h.1 = K.2.2.1) (h2 : h.2.1 = K.2.2.2) (k : Q (some (.int x)) h) : Rn K Q pc lv [.int x] h := by
  intro g p l e R s m args below meth c Z F kr H locs cells slots ls D L
  exact kr (some (.int x)) h pc ls H locs cells slots k ⟨hd, _, hr, by rcases hx with rfl | rfl <;> rfl⟩ h1 h2 D
theorem Rn.lret {x : Int64} (hd : decode K.1.2.1 pc = .ok (.lreturn, 1)) (hr : K.1.2.2.2.1 = some .long) (h1 : h.1 = K.2.2.1) (h2 : h.2.1 = K.2.2.2) (k : Q (some (.long x)) h) : Rn K Q pc lv [.long x] h := by
  intro g p l e R s m args below meth c Z F kr H locs cells slots ls D L
  exact kr (some (.long x)) h pc ls H locs cells slots k ⟨hd, hr⟩ h1 h2 D
/-- what the machine's own count says of the heap -/
theorem W.size {p : Program} {l : Launch} {e : Env} {R : Room} {s : State} {m : MethodId} {args : Array Value} {below : List Frame} {meth : Method} {c : Code} {H : Heap} {locs : List Loc} {cells slots : Nat} {Z : State → Prop} {g : JFrame} (k : H.size ≤ s.heap.size + cells → W p l e R s m args below meth c H locs cells slots Z g) : W p l e R s m args below meth c H locs cells slots Z g := by
  intro T hT X
  exact k (hT ▸ X.heapSize) T hT X
theorem rDy.lt {g : rG} {N SL : Nat} {R : Room} {s : State} {H : Heap} {locs : List Loc} {cells slots : Nat} (hb : g.2.2.2.1 ≤ s.heap.size) (D : rDy g N SL R s h H locs cells slots) : g.2.2.2.1 + h.1 ≤ H.size := by
  obtain ⟨D1, D2, -⟩ := D
  by_cases h0 : h.1 = 0
  · rw [h0]; exact Nat.le_trans hb D2.1
  · have h1 := (D1 (h.1 - 1) _ (wl_get g h (by omega))).lt
    have h2 : g.2.2.2.1 + (h.1 - 1) < H.size := h1
    omega
theorem rWd_set {g : rG} {H1 : Heap} {o : Nat} (c : rCell) (hP : va_P g.1 rn_cl ((wl g h).set o (g.2.2.2.1 + o, rE g c)) H1) : rWd g (hs h o c) H1 := by
  rw [wl_set g h c _ _ rfl rfl] at hP
  exact hP
theorem rWd_push {g : rG} {H1 : Heap} {q : Nat} (k : Nat) (c : rCell) (e1 : q = g.2.2.2.1 + h.1) (hP : va_P g.1 rn_cl (wl g h ++ [(q, rE g c)]) H1) : rWd g (hn h k c) H1 := by
  rw [wl_push g h k c _ _ e1 rfl] at hP
  exact hP
/-- a field's entry: the class that asks, its entry, the object's class, the field's place -/
def rFl (own : String) (idx ci k : Nat) : Prop := ∃ C T N, rn_cl[ci]? = some (C, T, N) ∧ k < N ∧ (T k).1 = C ∧ (∀ w ∈ u_ws C T N, w ∈ rn_ws) ∧ (Cond.fieldLink own idx C (T k).2.1 (T k).2.2.1 ∈ rn_ws ∨ ∃ host, Cond.fieldLinkNest own idx C (T k).2.1 (T k).2.2.1 host ∈ rn_nest)
theorem Rn.getf {o ci f idx : Nat} {fs : List Value} {v : Value} (hf : rFl K.1.1.cls idx ci f) (hd : decode K.1.2.1 pc = .ok (.getfield idx, 3)) (hp : pc + 3 = pc') (ho : h.2.2 o = .inr (.inr (ci, fs))) (hlt : o < h.1) (hv : fs[f]? = some v) (k : Rn K Q pc' lv (v :: st) h) : Rn K Q pc lv (.ref o :: st) h := by
  subst hp
  intro g p l e R s m args below meth c Z F kr H locs cells slots ls D L
  obtain ⟨C, T, N, hc, hk, hC, hin, hlink⟩ := hf
  have he : (wl g h)[o]? = some (g.2.2.2.1 + o, .inr (ci, fs.map (rv g))) := by rw [wl_get g h hlt, ho]; rfl
  have hv' : (fs.map (rv g))[f]? = some (rv g v) := by rw [List.getElem?_map, hv]; rfl
  have kk := k g p l e R s m args below meth c Z F kr H locs cells slots ls D L
  rcases hlink with hl | ⟨host, hl⟩
  · exact va_get F.1 F.2.1 F.2.2.2.2.1 hin F.2.2.2.1 F.2.2.2.2.2.1 D.1 o he hc f hk (F.2.2.2.2.1 _ hl) (fun x hx => by rw [hC] at hx; exact hx) hv' hd kk
  · exact va_getN F.1 F.2.1 F.2.2.2.2.1 hin F.2.2.2.1 F.2.2.2.2.2.1 D.1 o he hc f hk (va_Nw.use rfl (F.2.2.2.2.2.2.2.2.2.2 _ hl)) (fun x hx => by rw [hC] at hx; exact hx) hv' hd kk
/-- an entry of a field that is put: its type; final or not -/
def rFp (own : String) (idx ci k : Nat) (ty : FieldType) (fin : Bool) : Prop := ∃ C T N, rn_cl[ci]? = some (C, T, N) ∧ k < N ∧ (T k).1 = C ∧ (∀ w ∈ u_ws C T N, w ∈ rn_ws) ∧ (Cond.fieldLink own idx C (T k).2.1 (T k).2.2.1 ∈ rn_ws ∨ (fin = false ∧ ∃ host, Cond.fieldLinkNest own idx C (T k).2.1 (T k).2.2.1 host ∈ rn_nest)) ∧
  (∃ ty0 : Nat → FieldType, ∀ k, k < N → parseFieldDescriptor (T k).2.2.1 = some (ty0 k)) ∧ (∀ a, a < N → ∀ b, b < N → a ≠ b → (T a).2.1 ≠ (T b).2.1) ∧ parseFieldDescriptor (T k).2.2.1 = some ty ∧ (T k).2.2.2 = fin ∧ (fin = true → C = own)
theorem Rn.putf {o ci f idx : Nat} {fs : List Value} {v : Value} {ty : FieldType} {fin : Bool} (hf : rFp K.1.1.cls idx ci f ty fin) (hfin : fin = true → K.1.1.name = "<init>") (hd : decode K.1.2.1 pc = .ok (.putfield idx, 3)) (hp : pc + 3 = pc') (ho : h.2.2 o = .inr (.inr (ci, fs))) (hlt : o < h.1) (hn : ∀ g : rG, narrow ty (rv g v) = rv g v ∧ fits ty (rv g v) = true) (hl : f < fs.length) (k : Rn K Q pc' lv st (hs h o (.inr (.inr (ci, fs.set f v))))) : Rn K Q pc lv (v :: .ref o :: st) h := by
  subst hp
  intro g p l e R s m args below meth c Z F kr H locs cells slots ls D L
  obtain ⟨C, T, N, hc, hk, hC, hin, hlink, ⟨ty0, hty⟩, hnm, hd2, hfn, hown⟩ := hf
  have he : (wl g h)[o]? = some (g.2.2.2.1 + o, .inr (ci, fs.map (rv g))) := by rw [wl_get g h hlt, ho]; rfl
  have hl' : f < (fs.map (rv g)).length := by rw [List.length_map]; exact hl
  have hset : (wl g h).set o (g.2.2.2.1 + o, .inr (ci, (fs.map (rv g)).set f (rv g v))) = wl g (hs h o (.inr (.inr (ci, fs.set f v)))) := wl_set g h _ _ _ rfl (by show _ = Sum.inr (ci, (fs.set f v).map (rv g)); rw [List.map_set])
  have kk : ∀ (H1 : Heap) (locs1 : List Loc), va_P g.1 rn_cl ((wl g h).set o (g.2.2.2.1 + o, .inr (ci, (fs.map (rv g)).set f (rv g v)))) H1 → va_D (rA g) ((wl g h).set o (g.2.2.2.1 + o, .inr (ci, (fs.map (rv g)).set f (rv g v)))) → va_S (rA g) s.heap H1 locs1 → W p l e R s m args below meth c H1 locs1 cells slots Z (F0 m (pc + 3) ls (st.map (rv g))) := by
    intro H1 locs1 hP1 _ hS1
    rw [hset] at hP1
    exact k g p l e R s m args below meth c Z F kr H1 locs1 cells slots ls ⟨hP1, hS1, D.2.2⟩ L
  rcases hlink with hl1 | ⟨hff, host, hl1⟩
  · cases fin with
    | false => exact va_put F.1 F.2.1 F.2.2.2.2.1 hin ty0 hty hnm F.2.2.2.1 F.2.2.2.2.2.1 D.1 (wl_D g h) D.2.1 o he hc f hk (F.2.2.2.2.1 _ hl1) (fun x hx => by rw [hC] at hx; exact hx) hfn hd2 (hn g).1 (hn g).2 hl' hd kk
    | true => exact va_putF F.1 F.2.1 F.2.2.2.2.1 hin ty0 hty hnm F.2.2.2.1 F.2.2.2.2.2.1 D.1 (wl_D g h) D.2.1 o he hc f hk (F.2.2.2.2.1 _ hl1) (fun x hx => by rw [hC] at hx; exact hx) hfn (F.2.2.2.2.2.2.2.2.2.1 (hfin rfl)) (hC.trans (hown rfl)) hd2 (hn g).1 (hn g).2 hl' hd kk
  · subst hff
    exact va_putN F.1 F.2.1 F.2.2.2.2.1 hin ty0 hty hnm F.2.2.2.1 F.2.2.2.2.2.1 D.1 (wl_D g h) D.2.1 o he hc f hk (va_Nw.use rfl (F.2.2.2.2.2.2.2.2.2.2 _ hl1)) (fun x hx => by rw [hC] at hx; exact hx) hfn hd2 (hn g).1 (hn g).2 hl' hd kk
theorem Rn.iald {o n : Nat} {f : Nat → Int32} {i : Int32} (hd : decode K.1.2.1 pc = .ok (.iaload, 1)) (hp : pc + 1 = pc') (ho : h.2.2 o = .inl (n, f)) (hlt : o < h.1) (hin : vp_in i n) (k : Rn K Q pc' lv (.int (f i.toNatClampNeg) :: st) h) : Rn K Q pc lv (.int i :: .ref o :: st) h := by
  subst hp
  intro g p l e R s m args below meth c Z F kr H locs cells slots ls D L
  have he : (wl g h)[o]? = some (g.2.2.2.1 + o, .inl (g.2.1, n, .inl f)) := by rw [wl_get g h hlt, ho]; rfl
  exact va_iald F.1 F.2.1 F.2.2.2.2.2.1 D.1 o 0 he rfl hin hd (k g p l e R s m args below meth c Z F kr H locs cells slots ls D L)
theorem Rn.zald {o n : Nat} {f : Nat → Int32} {i : Int32} (hd : decode K.1.2.1 pc = .ok (.baload, 1)) (hp : pc + 1 = pc') (ho : h.2.2 o = .inr (.inl (n, f))) (hlt : o < h.1) (hin : vp_in i n) (k : Rn K Q pc' lv (.int (f i.toNatClampNeg) :: st) h) : Rn K Q pc lv (.int i :: .ref o :: st) h := by
  subst hp
  intro g p l e R s m args below meth c Z F kr H locs cells slots ls D L
  have he : (wl g h)[o]? = some (g.2.2.2.1 + o, .inl (g.2.2.1, n, .inl f)) := by rw [wl_get g h hlt, ho]; rfl
  exact va_zald F.1 F.2.1 F.2.2.2.2.2.1 D.1 o 1 he rfl hin hd (k g p l e R s m args below meth c Z F kr H locs cells slots ls D L)
theorem Rn.iast {o n : Nat} {f : Nat → Int32} {i x : Int32} (hd : decode K.1.2.1 pc = .ok (.iastore, 1)) (hp : pc + 1 = pc') (ho : h.2.2 o = .inl (n, f)) (hlt : o < h.1) (hin : vp_in i n) (k : Rn K Q pc' lv st (hs h o (.inl (n, upd f i.toNatClampNeg x)))) : Rn K Q pc lv (.int x :: .int i :: .ref o :: st) h := by
  subst hp
  intro g p l e R s m args below meth c Z F kr H locs cells slots ls D L
  have he : (wl g h)[o]? = some (g.2.2.2.1 + o, .inl (g.2.1, n, .inl f)) := by rw [wl_get g h hlt, ho]; rfl
  refine va_iast F.1 F.2.1 F.2.2.2.2.2.1 D.1 (wl_D g h) D.2.1 o 0 he rfl hin hd (fun H1 locs1 hP1 _ hS1 => ?_)
  have hP1 := rWd_set (.inl (n, upd f i.toNatClampNeg x)) hP1
  exact k g p l e R s m args below meth c Z F kr H1 locs1 cells slots ls ⟨hP1, hS1, D.2.2⟩ L
theorem Rn.zast {o n : Nat} {f : Nat → Int32} {i x : Int32} (hd : decode K.1.2.1 pc = .ok (.bastore, 1)) (hp : pc + 1 = pc') (ho : h.2.2 o = .inr (.inl (n, f))) (hlt : o < h.1) (hin : vp_in i n) (k : Rn K Q pc' lv st (hs h o (.inr (.inl (n, upd f i.toNatClampNeg (vp_nar .boolean x)))))) : Rn K Q pc lv (.int x :: .int i :: .ref o :: st) h := by
  subst hp
  intro g p l e R s m args below meth c Z F kr H locs cells slots ls D L
  have he : (wl g h)[o]? = some (g.2.2.2.1 + o, .inl (g.2.2.1, n, .inl f)) := by rw [wl_get g h hlt, ho]; rfl
  refine va_zast F.1 F.2.1 F.2.2.2.2.2.1 D.1 (wl_D g h) D.2.1 o 1 he rfl hin hd (fun H1 locs1 hP1 _ hS1 => ?_)
  have hP1 := rWd_set (.inr (.inl (n, upd f i.toNatClampNeg (vp_nar .boolean x)))) hP1
  exact k g p l e R s m args below meth c Z F kr H1 locs1 cells slots ls ⟨hP1, hS1, D.2.2⟩ L
theorem Rn.sld {L0 : Nat} {xs : Nat → Int32} {b : UInt32} {i : Int32} (hX : K.2.1 = some (L0, xs)) (hd : decode K.1.2.1 pc = .ok (.iaload, 1)) (hp : pc + 1 = pc') (hin : vp_in i L0) (k : Rn K Q pc' lv (.int (xs i.toNatClampNeg) :: st) h) : Rn K Q pc lv (.int i :: .float b :: st) h := by
  subst hp
  intro g p l e R s m args below meth c Z F kr H locs cells slots ls D L
  obtain ⟨h1, h2⟩ := F.2.2.2.2.2.2.2.1 L0 xs hX
  exact va_sld F.1 F.2.1 h1 (Nat.lt_of_lt_of_le h2 F.2.2.2.2.2.2.1) (Nat.not_le.mpr h2) D.2.1 hin hd (k g p l e R s m args below meth c Z F kr H locs cells slots ls D L)
theorem Rn.slen {L0 : Nat} {xs : Nat → Int32} {b : UInt32} (hX : K.2.1 = some (L0, xs)) (hd : decode K.1.2.1 pc = .ok (.arraylength, 1)) (hp : pc + 1 = pc') (k : Rn K Q pc' lv (.int (Int32.ofNat L0) :: st) h) : Rn K Q pc lv (.float b :: st) h := by
  subst hp
  intro g p l e R s m args below meth c Z F kr H locs cells slots ls D L
  obtain ⟨h1, h2⟩ := F.2.2.2.2.2.2.2.1 L0 xs hX
  exact va_slen F.1 F.2.1 h1 (Nat.lt_of_lt_of_le h2 F.2.2.2.2.2.2.1) (Nat.not_le.mpr h2) D.2.1 hd (k g p l e R s m args below meth c Z F kr H locs cells slots ls D L)
theorem Rn.alen {o n : Nat} {f : Nat → Int32} (hd : decode K.1.2.1 pc = .ok (.arraylength, 1)) (hp : pc + 1 = pc') (ho : h.2.2 o = .inl (n, f)) (hlt : o < h.1) (k : Rn K Q pc' lv (.int (Int32.ofNat n) :: st) h) : Rn K Q pc lv (.ref o :: st) h := by
  subst hp
  intro g p l e R s m args below meth c Z F kr H locs cells slots ls D L
  have he : (wl g h)[o]? = some (g.2.2.2.1 + o, .inl (g.2.1, n, .inl f)) := by rw [wl_get g h hlt, ho]; rfl
  have hc : H[g.2.2.2.1 + o]? = some (arrV g.2.1 n (fun j => .int (f j))) := D.1 o _ he
  exact W.alen (n := Int32.ofNat n) F.1 F.2.1 hc ((F.2.2.2.2.2.1.2 0 _ rfl).1 n (fun j => .int (f j))) (by rw [arrV_size]) rfl rfl hd (k g p l e R s m args below meth c Z F kr H locs cells slots ls D L)
/-- a new array's place in the row of cells -/
theorem rn_place {g : rG} {H1 : Heap} {q : Nat} {e1 : va_E} (hP1 : va_P g.1 rn_cl (wl g h ++ [(q, e1)]) H1) (hD1 : va_D (rA g) (wl g h ++ [(q, e1)])) (hz : H1.size ≤ g.2.2.2.1 + h.1 + 1) : q = g.2.2.2.1 + h.1 := by
  have hl : (wl g h).length = h.1 := by simp [wl]
  have hq : (wl g h ++ [(q, e1)])[h.1]? = some (q, e1) := by rw [List.getElem?_append_right (by rw [hl]; exact Nat.le_refl _), hl, Nat.sub_self]; rfl
  have h1 : q < H1.size := (hP1 h.1 _ hq).lt
  have h2 : g.2.2.2.1 ≤ q := hD1.2 h.1 _ hq
  rcases Nat.lt_or_ge q (g.2.2.2.1 + h.1) with h3 | h3
  · have hi : q - g.2.2.2.1 < h.1 := by omega
    have h4 : (wl g h ++ [(q, e1)])[q - g.2.2.2.1]? = some (g.2.2.2.1 + (q - g.2.2.2.1), rE g (h.2.2 (q - g.2.2.2.1))) := by rw [List.getElem?_append_left (by rw [hl]; exact hi), wl_get g h hi]
    have h5 := hD1.1 h.1 (q - g.2.2.2.1) _ _ hq h4 (show q = g.2.2.2.1 + (q - g.2.2.2.1) by omega)
    omega
  · omega
theorem Rn.newi {n : Int32} {n0 : Nat} (hd : decode K.1.2.1 pc = .ok (.newarray .int, 2)) (hp : pc + 2 = pc') (hn0 : n = nI n0) (hsm : n0 < 100000) (hw : Cond.arrayClass .int ∈ rn_ws) (hN : h.1 + 1 ≤ K.2.2.1) (hS : h.2.1 + n0 ≤ K.2.2.2) (k : Rn K Q pc' lv (.ref h.1 :: st) (hn h n0 (.inl (n0, fun _ => 0)))) : Rn K Q pc lv (.int n :: st) h := by
  subst hp
  subst hn0
  intro g p l e R s m args below meth c Z F kr H locs cells slots ls D L
  obtain ⟨D1, D2, D3, D4, D5, D6, D7⟩ := D
  have hb := F.2.2.2.2.2.2.1
  refine va_newa (atype := .int) (a0 := (n0, .inl (fun _ => 0))) F.1 F.2.1 (F.2.2.2.2.1 _ hw) rfl F.2.2.2.2.2.1 D1 (wl_D g h) D2 (fun q hq => Nat.le_trans hb hq) (fun cA => rfl) (nI_pos (by omega)) (nI_clamp (by omega)) (by show n0 * 4 ≤ 536870912; omega) (by omega) (by omega) hd (fun q cA H1 hK1 hP1 hD1 hS1 => ?_)
  refine W.size (fun hz => ?_)
  have e1 := rn_place hP1 hD1 (by omega)
  have hcA : cA = g.2.1 := by
    have a1 : s.vm.findClass ("[" ++ FieldType.int.toString) = some cA := (hK1.2 2 (cA, .int) rfl).2
    have a2 : s.vm.findClass ("[" ++ FieldType.int.toString) = some g.2.1 := (hK1.2 0 (g.2.1, .int) rfl).2
    exact Option.some.inj (a1.symm.trans a2)
  subst hcA
  have hW1 := rWd_push n0 (.inl (n0, fun _ => 0)) e1 hP1
  subst e1
  exact k g p l e R s m args below meth c Z F kr H1 locs (cells + 1) (slots + n0) ls ⟨hW1, hS1, by show _ = _ + (h.1 + 1); omega, by show cells + 1 + (K.2.2.1 - (h.1 + 1)) ≤ _; omega, by show slots + n0 + (K.2.2.2 - (h.2.1 + n0)) ≤ _; omega, hN, hS⟩ L
theorem Rn.newz {n : Int32} {n0 : Nat} (hd : decode K.1.2.1 pc = .ok (.newarray .boolean, 2)) (hp : pc + 2 = pc') (hn0 : n = nI n0) (hsm : n0 < 100000) (hw : Cond.arrayClass .boolean ∈ rn_ws) (hN : h.1 + 1 ≤ K.2.2.1) (hS : h.2.1 + n0 ≤ K.2.2.2) (k : Rn K Q pc' lv (.ref h.1 :: st) (hn h n0 (.inr (.inl (n0, fun _ => 0))))) : Rn K Q pc lv (.int n :: st) h := by
  subst hp
  subst hn0
  intro g p l e R s m args below meth c Z F kr H locs cells slots ls D L
  obtain ⟨D1, D2, D3, D4, D5, D6, D7⟩ := D
  have hb := F.2.2.2.2.2.2.1
  refine va_newa (atype := .boolean) (a0 := (n0, .inl (fun _ => 0))) F.1 F.2.1 (F.2.2.2.2.1 _ hw) rfl F.2.2.2.2.2.1 D1 (wl_D g h) D2 (fun q hq => Nat.le_trans hb hq) (fun cA => rfl) (nI_pos (by omega)) (nI_clamp (by omega)) (by show n0 * 1 ≤ 536870912; omega) (by omega) (by omega) hd (fun q cA H1 hK1 hP1 hD1 hS1 => ?_)
  refine W.size (fun hz => ?_)
  have e1 := rn_place hP1 hD1 (by omega)
  have hcA : cA = g.2.2.1 := by
    have a1 : s.vm.findClass ("[" ++ FieldType.boolean.toString) = some cA := (hK1.2 2 (cA, .boolean) rfl).2
    have a2 : s.vm.findClass ("[" ++ FieldType.boolean.toString) = some g.2.2.1 := (hK1.2 1 (g.2.2.1, .boolean) rfl).2
    exact Option.some.inj (a1.symm.trans a2)
  subst hcA
  have hW1 := rWd_push n0 (.inr (.inl (n0, fun _ => 0))) e1 hP1
  subst e1
  exact k g p l e R s m args below meth c Z F kr H1 locs (cells + 1) (slots + n0) ls ⟨hW1, hS1, by show _ = _ + (h.1 + 1); omega, by show cells + 1 + (K.2.2.1 - (h.1 + 1)) ≤ _; omega, by show slots + n0 + (K.2.2.2 - (h.2.1 + n0)) ≤ _; omega, hN, hS⟩ L
/-- an entry of a class that is made -/
def rNw (own : String) (idx ci : Nat) (fs : List Value) : Prop := ∃ C T N, rn_cl[ci]? = some (C, T, N) ∧ (∀ w ∈ u_ws C T N, w ∈ rn_ws) ∧ Cond.classLink own idx C ∈ rn_ws ∧ Cond.instantiable C N ∈ rn_ws ∧ Cond.initialized C ∈ rn_ws ∧ fs.length = N ∧ (∃ ty0 : Nat → FieldType, (∀ k, k < N → parseFieldDescriptor (T k).2.2.1 = some (ty0 k)) ∧ ∀ k, k < N → defaultValue (ty0 k) = vp_V fs k) ∧ ∀ g : rG, fs.map (rv g) = fs
theorem Rn.new {idx ci : Nat} {fs : List Value} (hf : rNw K.1.1.cls idx ci fs) (hd : decode K.1.2.1 pc = .ok (.new idx, 3)) (hp : pc + 3 = pc') (hN : h.1 + 1 ≤ K.2.2.1) (hS : h.2.1 + fs.length ≤ K.2.2.2) (k : Rn K Q pc' lv (.ref h.1 :: st) (hn h fs.length (.inr (.inr (ci, fs))))) : Rn K Q pc lv st h := by
  subst hp
  intro g p l e R s m args below meth c Z F kr H locs cells slots ls D L
  obtain ⟨D1, D2, D3, D4, D5, D6, D7⟩ := D
  obtain ⟨C, T, N, hc, hin, hl1, hl2, hl3, hlen, ⟨ty0, hty, hdf⟩, hrv⟩ := hf
  subst hlen
  have hb := F.2.2.2.2.2.2.1
  refine va_new (fs := fs) F.1 F.2.1 F.2.2.2.2.1 hin ty0 hty F.2.2.2.1 (F.2.2.2.2.1 _ hl1) (F.2.2.2.2.1 _ hl2) (F.2.2.2.2.1 _ hl3) F.2.2.2.2.2.1 D1 (wl_D g h) D2 (fun q hq => Nat.le_trans hb hq) hc hdf (by omega) (by omega) hd (fun q H1 hP1 hD1 hS1 => ?_)
  refine W.size (fun hz => ?_)
  have e1 := rn_place hP1 hD1 (by omega)
  rw [wl_push g h fs.length (.inr (.inr (ci, fs))) _ _ e1 (by show _ = Sum.inr (ci, fs.map (rv g)); rw [hrv g])] at hP1
  subst e1
  exact k g p l e R s m args below meth c Z F kr H1 locs (cells + 1) (slots + fs.length) ls ⟨hP1, hS1, by show _ = _ + (h.1 + 1); omega, by show cells + 1 + (K.2.2.1 - (h.1 + 1)) ≤ _; omega, by show slots + fs.length + (K.2.2.2 - (h.2.1 + fs.length)) ≤ _; omega, hN, hS⟩ L
theorem Rn.oinit {o idx : Nat} (hw : Cond.methodLink K.1.1.cls idx Lib.objectInit ∈ rn_ws) (hw2 : Cond.instanceMethod Lib.objectInit ∈ rn_ws) (hw3 : Cond.code Lib.objectInit ⟨#[0xb1]⟩ 1 none ∈ rn_ws) (hfr : 1 ≤ K.1.2.2.2.2.1) (hlo : (st.map fun v => v.category).sum + 12 ≤ K.1.2.2.2.2.2) (hd : decode K.1.2.1 pc = .ok (.invokespecial idx, 3)) (hp : pc + 3 = pc') (k : Rn K Q pc' lv st h) : Rn K Q pc lv (.ref o :: st) h := by
  subst hp
  intro g p l e R s m args below meth c Z F kr H locs cells slots ls D L
  have hR := F.2.2.2.2.2.2.2.2.1
  have hcat : ((st.map (rv g)).map fun v => v.category).sum = (st.map fun v => v.category).sum := by rw [List.map_map]; congr 1; exact List.map_congr_left (fun v _ => rv_cat g v)
  exact W.objInit F.1 F.2.1 F.2.2.2.1 (F.2.2.2.2.1 _ hw) (F.2.2.2.2.1 _ hw2) (F.2.2.2.2.1 _ hw3) rfl (L.1.trans F.2.2.1.symm) rfl hd (Nat.le_trans hfr hR.1) (by show 2 * 0 + _ + 12 ≤ _; rw [hcat]; omega) (k g p l e R s m args below meth c Z F kr H locs cells slots ls D L)
theorem Rn.mmin {x y : Int32} {idx : Nat} (hw : Cond.methodLink K.1.1.cls idx Lib.Math.min.name ∈ rn_ws) (hw2 : Cond.static Lib.Math.min.name ∈ rn_ws) (hw3 : Cond.initialized "java/lang/Math" ∈ rn_ws) (hw4 : Cond.code Lib.Math.min.name Lib.Math.min.code 2 (some .int) ∈ rn_ws) (hfr : 1 ≤ K.1.2.2.2.2.1) (hlo : (st.map fun v => v.category).sum + 13 ≤ K.1.2.2.2.2.2) (hd : decode K.1.2.1 pc = .ok (.invokestatic idx, 3)) (hp : pc + 3 = pc') (k : Rn K Q pc' lv (.int (if y < x then y else x) :: st) h) : Rn K Q pc lv (.int y :: .int x :: st) h := by
  subst hp
  intro g p l e R s m args below meth c Z F kr H locs cells slots ls D L
  have hR := F.2.2.2.2.2.2.2.2.1
  have hcat : ((st.map (rv g)).map fun v => v.category).sum = (st.map fun v => v.category).sum := by rw [List.map_map]; congr 1; exact List.map_congr_left (fun v _ => rv_cat g v)
  exact va_mmin F.1 F.2.1 (F.2.2.1.trans L.1.symm) F.2.2.2.1 (F.2.2.2.2.1 _ hw) (F.2.2.2.2.1 _ hw2) (F.2.2.2.2.1 _ hw3) (F.2.2.2.2.1 _ hw4) (Nat.le_trans hfr hR.1) (by rw [hcat]; omega) (by have := D.2.2.2.1; omega) (by have := D.2.2.2.2.1; omega) hd (k g p l e R s m args below meth c Z F kr H locs cells slots ls D L)
theorem Rn.copy {o1 o2 n1 n2 idx a b c0 : Nat} {f1 f2 : Nat → Int32} {sp dp n : Int32} (hw : Cond.methodLink K.1.1.cls idx arraycopyName ∈ rn_ws) (hw2 : Cond.native arraycopyName ∈ rn_ws) (hw3 : Cond.static arraycopyName ∈ rn_ws) (hw4 : Cond.initialized "java/lang/System" ∈ rn_ws) (hfr : 1 ≤ K.1.2.2.2.2.1) (hlo : (st.map fun v => v.category).sum + (nativeFrameWords "java/lang/System" "arraycopy" 5 + 11) ≤ K.1.2.2.2.2.2) (hd : decode K.1.2.1 pc = .ok (.invokestatic idx, 3)) (hp : pc + 3 = pc') (ho1 : h.2.2 o1 = .inl (n1, f1)) (hlt1 : o1 < h.1) (ho2 : h.2.2 o2 = .inl (n2, f2)) (hlt2 : o2 < h.1) (es : sp = nI a) (ed : dp = nI b) (en : n = nI c0) (h1 : a + c0 ≤ n1) (h2 : b + c0 ≤ n2) (h3 : n1 < 100000) (h4 : n2 < 100000) (k : Rn K Q pc' lv st (hs h o2 (.inl (n2, va_cpy f1 f2 a b c0)))) : Rn K Q pc lv (.int n :: .int dp :: .ref o2 :: .int sp :: .ref o1 :: st) h := by
  subst hp
  subst es
  subst ed
  subst en
  intro g p l e R s m args below meth c Z F kr H locs cells slots ls D L
  have hR := F.2.2.2.2.2.2.2.2.1
  have hcat : ((st.map (rv g)).map fun v => v.category).sum = (st.map fun v => v.category).sum := by rw [List.map_map]; congr 1; exact List.map_congr_left (fun v _ => rv_cat g v)
  have he1 : (wl g h)[o1]? = some (g.2.2.2.1 + o1, .inl (g.2.1, n1, .inl f1)) := by rw [wl_get g h hlt1, ho1]; rfl
  have he2 : (wl g h)[o2]? = some (g.2.2.2.1 + o2, .inl (g.2.1, n2, .inl f2)) := by rw [wl_get g h hlt2, ho2]; rfl
  have ca : (nI a).toNatClampNeg = a := nI_clamp (by omega)
  have cb : (nI b).toNatClampNeg = b := nI_clamp (by omega)
  have cn : (nI c0).toNatClampNeg = c0 := nI_clamp (by omega)
  refine va_copyi F.1 F.2.1 (F.2.2.1.trans L.1.symm) F.2.2.2.1 (F.2.2.2.2.1 _ hw) (F.2.2.2.2.1 _ hw2) (F.2.2.2.2.1 _ hw3) (F.2.2.2.2.1 _ hw4) F.2.2.2.2.2.1 D.1 (wl_D g h) D.2.1 o1 o2 0 0 he1 he2 rfl rfl rfl (nI_pos (by omega)) (nI_pos (by omega)) (nI_pos (by omega)) (by rw [ca, cn]; exact h1) (by rw [cb, cn]; exact h2) (fun i _ => rfl) (Nat.le_trans hfr hR.1) (by rw [hcat]; omega) hd (fun H1 locs1 hP1 _ hS1 => ?_)
  rw [ca, cb, cn] at hP1
  have hP1 := rWd_set (.inl (n2, va_cpy f1 f2 a b c0)) hP1
  exact k g p l e R s m args below meth c Z F kr H1 locs1 cells slots ls ⟨hP1, hS1, D.2.2⟩ L
/-- a call's contract: from these arguments and this heap it returns, with an answer and a heap that Q takes -/
def rRm (M : rMd) (mc ms : Nat) : Room := { frames := M.2.2.2.2.1, cells := mc, slots := ms, locals := M.2.2.2.2.2 }
def rPc (g : rG) (as : List Value) (h : rHp) : Array Value → State → Prop := fun a U => a = (as.map (rv g)).toArray ∧ rWd g h U.heap ∧ U.heap.size = g.2.2.2.1 + h.1 ∧ va_K g.1 rn_cl [(g.2.1, .int), (g.2.2.1, .boolean)] U ∧ ∀ w ∈ rn_nest, va_Nw w U
def rQc (g : rG) (N SL : Nat) (Q : Option Value → rHp → Prop) : Array Value → State → Outcome → State → Prop := fun _ st oc t => ∃ (v : Option Value) (h' : rHp), oc = .returned (v.map (rv g)) ∧ Q v h' ∧ h'.1 = N ∧ h'.2.1 = SL ∧ rWd g h' t.heap ∧ va_F (rA g) st t
def rWs (M : rMd) : List Cond := Cond.code M.1 M.2.1 M.2.2.1 M.2.2.2.1 :: rn_ws
def Cl (M : rMd) (N SL : Nat) (as : List Value) (h : rHp) (Q : Option Value → rHp → Prop) : Prop :=
  h.1 ≤ N ∧ h.2.1 ≤ SL ∧ ∀ (l : Launch) (g : rG), Met l M.1 (rWs M) (rRm M (N - h.1) (SL - h.2.1)) (rPc g as h) (rQc g N SL Q) (N - h.1) (SL - h.2.1) (rA g)
theorem lg_sl_rv (g : rG) (as : List Value) : (lg_sl (as.map (rv g))).length = (lg_sl as).length := by
  unfold lg_sl
  induction as with
  | nil => rfl
  | cons a t ih =>
    rw [List.map_cons, List.flatMap_cons, List.flatMap_cons, List.length_append, List.length_append, ih, rv_cat]
    split <;> rfl
theorem lv_args_rv (g : rG) (as : List Value) : ∀ i : Nat, lv_args i (as.map (rv g)) = rLm g (lv_args i as) := by
  induction as with
  | nil => intro i; rfl
  | cons a t ih =>
    intro i
    show (i, rv g a) :: lv_args (if (rv g a).category = 2 then i + 2 else i + 1) (t.map (rv g)) = (i, rv g a) :: rLm g (lv_args (if a.category = 2 then i + 2 else i + 1) t)
    rw [rv_cat, ih]
theorem Cl.of {M : rMd} {N SL : Nat} {as : List Value} (hy : plainName M.1.cls = true) (hl : (lg_sl as).length ≤ M.2.2.1) (h1 : h.1 ≤ N) (h2 : h.2.1 ≤ SL) (k : Rn (M, none, N, SL) Q 0 (lv_args 0 as) [] h) : Cl M N SL as h Q := by
  refine ⟨h1, h2, fun l g => Met.ofW (cc := M.2.1) (maxL := M.2.2.1) (ret := M.2.2.2.1) hy rfl ?_⟩
  intro p e s m args below meth c s₁ B hml hv
  obtain ⟨rfl, w, hsz, hK, hN⟩ := hv
  have hx := B.exec
  have hb := B.bytes
  have hr := B.returns
  have hlocks := B.notSynchronized
  have hts := atoms_spec (ws := rWs M) B.pre
  have hown : s.vm.findClass M.1.cls = some m.cls := findClass_of_methodNamed B.named
  have hin : meth.name = M.1.name := (name_of_methodNamed B.named B.method).1
  have hl2 := lv_entry (as.map (rv g)) (n := M.2.2.1) (by rw [lg_sl_rv]; exact hl)
  rw [lv_args_rv] at hl2
  rw [lg_entry_eq]
  refine k g p l e (rRm M (N - h.1) (SL - h.2.1)) s m _ below meth c _ ⟨hx, hb, hml, hown, fun w hw => hts w (List.mem_cons_of_mem _ hw), hK, by rw [hsz]; exact Nat.le_add_right _ _, (fun L xs hX => by cases hX), ⟨Nat.le_refl _, Nat.le_refl _⟩, (fun hi => hin.trans hi), hN⟩ ?_ s.heap [] 0 0 _ ⟨w, va_S.rf, by rw [hsz]; rfl, by show 0 + (N - h.1) ≤ N - h.1; omega, by show 0 + (SL - h.2.1) ≤ SL - h.2.1; omega, h1, h2⟩ hl2
  intro v h' pc' ls H locs cells slots hq hret e1 e2 D
  obtain ⟨D1, D2, D3, D4, D5, D6, D7⟩ := D
  have e1 : h'.1 = N := e1
  have e2 : h'.2.1 = SL := e2
  have D4 : cells + (N - h'.1) ≤ N - h.1 := D4
  have D5 : slots + (SL - h'.2.1) ≤ SL - h.2.1 := D5
  refine W.widen (k := N - h.1) (n := SL - h.2.1) (by omega) (by omega) ?_
  have hqc : ∀ t : State, t.heap = H → s.WarmedH t.vm → rQc g N SL Q (as.map (rv g)).toArray s (.returned (v.map (rv g))) t := fun t ht hW => ⟨v, h', rfl, hq, e1, e2, by rw [ht]; exact D1, D2.F ht⟩
  match v, hret, hqc with
  | none, hret, hqc => exact W.vret hx hb (by rw [hr]; exact hret.2) hqc D2.2.2 hret.1
  | some (.int x), hret, hqc =>
    obtain ⟨r1, ty, r2, r3⟩ := hret
    exact W.zret hx hb (by rw [hr]; exact r2) r3 hqc D2.2.2 r1
  | some (.long x), hret, hqc => exact W.lret hx hb (by rw [hr]; exact hret.2) hqc D2.2.2 hret.1
theorem rPc_blind (g : rG) (as : List Value) (h : rHp) : FrameBlind (rPc g as h) := fun a U g' mk q => ⟨q.1, q.2.1, q.2.2.1, va_K.moved (u := U) (U := U.calling g' mk a) (Vm.Alike.refl U.vm) q.2.2.2.1, fun w hw => va_Nw.same (u := U) (U := U.calling g' mk a) (rn_nest_on hw) rfl (q.2.2.2.2 w hw)⟩
theorem stk_rv (g : rG) (v : Option Value) (rest : List Value) : (v.map (rv g)).toList ++ rest.map (rv g) = (v.toList ++ rest).map (rv g) := by cases v <;> rfl
/-- behind a call -/
theorem rn_after {g : rG} {p : Program} {l : Launch} {e : Env} {R : Room} {s : State} {m : MethodId} {args : Array Value} {below : List Frame} {meth : Method} {c : Code} {Z : State → Prop} {H : Heap} {locs : List Loc} {cells slots N' SL' : Nat} {ls : Array Slot} {rest st0 : List Value} {a : Array Value}
    (F : rFx K g p R s m args meth c) (D : rDy g K.2.2.1 K.2.2.2 R s h H locs cells slots) (L : lv_has ls K.1.2.2.1 (rLm g lv)) (hN0 : h.1 ≤ N') (hS0 : h.2.1 ≤ SL') (hN : N' ≤ K.2.2.1) (hS : SL' ≤ K.2.2.2)
    (kr : ∀ (v : Option Value) (h' : rHp) (pc' : Nat) (ls : Array Slot) (H : Heap) (locs : List Loc) (cells slots : Nat), Q v h' → rRet K.1 pc' v → h'.1 = K.2.2.1 → h'.2.1 = K.2.2.2 → rDy g K.2.2.1 K.2.2.2 R s h' H locs cells slots → W p l e R s m args below meth c H locs cells slots Z (F0 m pc' ls (v.map (rv g)).toList))
    (hr : va_Run p l e R s m args below meth c H locs cells slots (N' - h.1) (SL' - h.2.1) (F0 m pc ls st0) (rest.map (rv g)) (rQc g N' SL' (fun v h' => Rn K Q (pc + 3) lv (v.toList ++ rest) h') a) (rA g)) : W p l e R s m args below meth c H locs cells slots Z (F0 m pc ls st0) := by
  intro T hT X
  obtain ⟨v0, st₀, t, T', Lc, h0, X', hL, e1, e2, ⟨v, h', hv, hq, n1, n2, hw, hz, hk⟩, st⟩ := hr T hT X
  have hv : v0 = v.map (rv g) := by cases hv; rfl
  subst hv
  obtain ⟨D1, D2, D3, D4, D5, D6, D7⟩ := D
  rw [h0] at hz hk
  have K1 := hq g p l e R s m args below meth c Z F kr T'.heap (locs ++ Lc) (cells + (N' - h.1)) (slots + (SL' - h.2.1)) ls ⟨by rw [e1]; exact hw, ⟨Nat.le_trans D2.1 (by rw [e1]; exact hz), fun q g1 g2 => by rw [e1, hk q (Nat.lt_of_lt_of_le g1 D2.1) g2]; exact D2.2.1 q g1 g2, fun q hq => (List.mem_append.mp hq).elim (D2.2.2 q) (hL q)⟩, by omega, by omega, by omega, by omega, by omega⟩ L
  rw [← stk_rv] at K1
  obtain ⟨t2, a1, b1⟩ := K1 T' rfl X'
  exact ⟨t2, st t2 a1, b1⟩
/-- what the tables say of a method that is called on an object; of a static one; of a constructor -/
def rMm (M : rMd) (n : Nat) : Prop := Cond.initialized M.1.cls ∈ rn_ws ∧ Cond.code M.1 M.2.1 M.2.2.1 M.2.2.2.1 ∈ rn_ws ∧ (M.1.cls ≠ "java/lang/invoke/MethodHandle" ∧ M.1.cls ≠ "java/lang/invoke/VarHandle" ∧ (parseMethodDescriptor M.1.desc).map (fun d => d.parameters.length) = some n)
def rVm (M : rMd) (n : Nat) : Prop := rMm M n ∧ Cond.instanceMethod M.1 ∈ rn_ws ∧ Cond.selects M.1.cls M.1 M.1 ∈ rn_ws
def rSm (M : rMd) (n : Nat) : Prop := rMm M n ∧ Cond.static M.1 ∈ rn_ws
def rIm (M : rMd) (n : Nat) : Prop := rMm M n ∧ Cond.instanceMethod M.1 ∈ rn_ws ∧ M.1.name = "<init>" ∧ M.2.2.2.1 = none
/-- the callee's room in the caller's -/
def rRo (M M' : rMd) : Prop := M'.2.2.2.2.1 + 1 ≤ M.2.2.2.2.1 ∧ 8 + (M'.2.2.1 + 11) + M'.2.2.2.2.2 ≤ M.2.2.2.2.2
theorem rn_pre {g : rG} {p : Program} {R : Room} {s : State} {m : MethodId} {args : Array Value} {meth : Method} {c : Code} {H : Heap} {locs : List Loc} {cells slots : Nat} (F : rFx K g p R s m args meth c) (D : rDy g K.2.2.1 K.2.2.2 R s h H locs cells slots) (hz : H.size ≤ s.heap.size + cells) (as : List Value) : ∀ U : State, U.heap = H → s.WarmedH U.vm → rPc g as h (as.map (rv g)).toArray U := by
  intro U hU hW
  have h1 := D.lt F.2.2.2.2.2.2.1
  have h2 := D.2.2.1
  exact ⟨rfl, by rw [hU]; exact D.1, by rw [hU]; omega, va_K.moved hW.alike F.2.2.2.2.2.1, rn_nest_warm hW F.2.2.2.2.2.2.2.2.2.2⟩
theorem rn_cat (g : rG) (st : List Value) : ((st.map (rv g)).map fun v => v.category).sum = (st.map fun v => v.category).sum := by rw [List.map_map]; congr 1; exact List.map_congr_left (fun v _ => rv_cat g v)
theorem Rn.callV {M' : rMd} {N' SL' o idx ci : Nat} {as rest fs : List Value} (hm : rVm M' as.length) (hlk : Cond.methodLink K.1.1.cls idx M'.1 ∈ rn_ws) (hR : rRo K.1 M') (hd : decode K.1.2.1 pc = .ok (.invokevirtual idx, 3)) (hp : pc + 3 = pc') (hst : st = as.reverse ++ .ref o :: rest) (hW : (rest.map fun v => v.category).sum ≤ 8) (ho : h.2.2 o = .inr (.inr (ci, fs))) (hlt : o < h.1) (hc : (rn_cl[ci]?).map (fun q => q.1) = some M'.1.cls) (hN : N' ≤ K.2.2.1) (hS : SL' ≤ K.2.2.2) (k : Cl M' N' SL' (.ref o :: as) h (fun v h' => Rn K Q pc' lv (v.toList ++ rest) h')) : Rn K Q pc lv st h := by
  subst hp
  subst hst
  intro g p l e R s m args below meth c Z F kr H locs cells slots ls D L
  refine W.size (fun hz => ?_)
  obtain ⟨hN0, hS0, hM⟩ := k
  obtain ⟨⟨w1, w2, w3⟩, w4, w5⟩ := hm
  have hts := F.2.2.2.2.1
  have hRR := F.2.2.2.2.2.2.2.2.1
  have he : (wl g h)[o]? = some (g.2.2.2.1 + o, .inr (ci, fs.map (rv g))) := by rw [wl_get g h hlt, ho]; rfl
  have hrc : ∃ cell : Cell, H[g.2.2.2.1 + o]? = some cell ∧ cell.vm.isStatics = false ∧ s.vm.findClass M'.1.cls = some cell.cls := by
    cases hq : rn_cl[ci]? with
    | none => rw [hq] at hc; cases hc
    | some q =>
      rw [hq] at hc
      have e1 : q.1 = M'.1.cls := Option.some.inj hc
      have := va_recv F.2.2.2.2.2.1 D.1 hq he
      rw [e1] at this
      exact this
  have hcw : CallW R s args K.1.1.cls M'.1.cls idx M'.1 M'.2.1 M'.2.2.1 M'.2.2.2.1 (rWs M') (rRm M' (N' - h.1) (SL' - h.2.1)) (N' - h.1) (SL' - h.2.1) as.length := ⟨callB_of as.length hts (rn_good w2) rfl rfl rfl (hts _ w1) (hts _ hlk) w3 ⟨Nat.le_trans hR.1 hRR.1, Nat.le_trans hR.2 hRR.2⟩, hts _ w4, hts _ w5⟩
  have hD4 := D.2.2.2.1
  have hD5 := D.2.2.2.2.1
  refine rn_after F D L hN0 hS0 hN hS kr (va_runV (As := as.map (rv g)) (rest := rest.map (rv g)) ⟨F.1, F.2.1, F.2.2.1, F.2.2.2.1, hts⟩ (hM l g) hcw ⟨rPc_blind g _ h, hrc, ?_⟩ rfl (List.length_map _) L.1 ?_ (lv_room (by rw [rn_cat]; exact hW)) hd ⟨by omega, by omega⟩)
  · exact rn_pre F D hz (.ref o :: as)
  · show (as.reverse ++ .ref o :: rest).map (rv g) = _
    rw [List.map_append, List.map_reverse]
    rfl
theorem Rn.callS {M' : rMd} {N' SL' idx : Nat} {as rest : List Value} (hm : rSm M' as.length) (hlk : Cond.methodLink K.1.1.cls idx M'.1 ∈ rn_ws) (hR : rRo K.1 M') (hd : decode K.1.2.1 pc = .ok (.invokestatic idx, 3)) (hp : pc + 3 = pc') (hst : st = as.reverse ++ rest) (hW : (rest.map fun v => v.category).sum ≤ 8) (hN : N' ≤ K.2.2.1) (hS : SL' ≤ K.2.2.2) (k : Cl M' N' SL' as h (fun v h' => Rn K Q pc' lv (v.toList ++ rest) h')) : Rn K Q pc lv st h := by
  subst hp
  subst hst
  intro g p l e R s m args below meth c Z F kr H locs cells slots ls D L
  refine W.size (fun hz => ?_)
  obtain ⟨hN0, hS0, hM⟩ := k
  obtain ⟨⟨w1, w2, w3⟩, w4⟩ := hm
  have hts := F.2.2.2.2.1
  have hRR := F.2.2.2.2.2.2.2.2.1
  have hD4 := D.2.2.2.1
  have hD5 := D.2.2.2.2.1
  have hcw : CallB R s args K.1.1.cls idx M'.1 M'.2.1 M'.2.2.1 M'.2.2.2.1 (rWs M') (rRm M' (N' - h.1) (SL' - h.2.1)) (N' - h.1) (SL' - h.2.1) as.length ∧ (Cond.static M'.1).before args s = true := ⟨callB_of as.length hts (rn_good w2) rfl rfl rfl (hts _ w1) (hts _ hlk) w3 ⟨Nat.le_trans hR.1 hRR.1, Nat.le_trans hR.2 hRR.2⟩, hts _ w4⟩
  refine rn_after F D L hN0 hS0 hN hS kr (va_runS (As := as.map (rv g)) (rest := rest.map (rv g)) ⟨F.1, F.2.1, F.2.2.1, F.2.2.2.1, hts⟩ (hM l g) hcw ⟨rPc_blind g _ h, rn_pre F D hz as⟩ rfl (List.length_map _) L.1 ?_ (lv_room (by rw [rn_cat]; exact hW)) hd ⟨by omega, by omega⟩)
  show (as.reverse ++ rest).map (rv g) = _
  rw [List.map_append, List.map_reverse]
theorem Rn.callSN {M' : rMd} {N' SL' idx : Nat} {host : String} {as rest : List Value} (hm : rSm M' as.length) (hlk : Cond.methodLinkNest K.1.1.cls idx M'.1 host ∈ rn_nest) (hR : rRo K.1 M') (hd : decode K.1.2.1 pc = .ok (.invokestatic idx, 3)) (hp : pc + 3 = pc') (hst : st = as.reverse ++ rest) (hW : (rest.map fun v => v.category).sum ≤ 8) (hN : N' ≤ K.2.2.1) (hS : SL' ≤ K.2.2.2) (k : Cl M' N' SL' as h (fun v h' => Rn K Q pc' lv (v.toList ++ rest) h')) : Rn K Q pc lv st h := by
  subst hp
  subst hst
  intro g p l e R s m args below meth c Z F kr H locs cells slots ls D L
  refine W.size (fun hz => ?_)
  obtain ⟨hN0, hS0, hM⟩ := k
  obtain ⟨⟨w1, w2, w3⟩, w4⟩ := hm
  have hts := F.2.2.2.2.1
  have hRR := F.2.2.2.2.2.2.2.2.1
  have hD4 := D.2.2.2.1
  have hD5 := D.2.2.2.2.1
  have hcw : va_CN R s args K.1.1.cls idx M'.1 host M'.2.1 M'.2.2.1 M'.2.2.2.1 (rWs M') (rRm M' (N' - h.1) (SL' - h.2.1)) (N' - h.1) (SL' - h.2.1) as.length ∧ (Cond.static M'.1).before args s = true ∧ True := ⟨va_cnB as.length hts (rn_good w2) rfl rfl rfl (F.2.2.2.2.2.2.2.2.2.2 _ hlk) (hts _ w1) w3 ⟨Nat.le_trans hR.1 hRR.1, Nat.le_trans hR.2 hRR.2⟩, hts _ w4, trivial⟩
  refine rn_after F D L hN0 hS0 hN hS kr (va_runSN (As := as.map (rv g)) (rest := rest.map (rv g)) ⟨F.1, F.2.1, F.2.2.1, F.2.2.2.1, hts⟩ (hM l g) hcw ⟨rPc_blind g _ h, rn_pre F D hz as⟩ rfl (List.length_map _) L.1 ?_ (lv_room (by rw [rn_cat]; exact hW)) hd ⟨by omega, by omega⟩)
  show (as.reverse ++ rest).map (rv g) = _
  rw [List.map_append, List.map_reverse]
theorem Rn.callI {M' : rMd} {N' SL' o idx : Nat} {as rest : List Value} (hm : rIm M' as.length) (hlk : Cond.methodLink K.1.1.cls idx M'.1 ∈ rn_ws) (hR : rRo K.1 M') (hd : decode K.1.2.1 pc = .ok (.invokespecial idx, 3)) (hp : pc + 3 = pc') (hst : st = as.reverse ++ .ref o :: rest) (hW : (rest.map fun v => v.category).sum ≤ 8) (hN : N' ≤ K.2.2.1) (hS : SL' ≤ K.2.2.2) (k : Cl M' N' SL' (.ref o :: as) h (fun v h' => Rn K Q pc' lv (v.toList ++ rest) h')) : Rn K Q pc lv st h := by
  subst hp
  subst hst
  intro g p l e R s m args below meth c Z F kr H locs cells slots ls D L
  refine W.size (fun hz => ?_)
  obtain ⟨hN0, hS0, hM⟩ := k
  obtain ⟨⟨w1, w2, w3⟩, w4, w5, w6⟩ := hm
  have hts := F.2.2.2.2.1
  have hRR := F.2.2.2.2.2.2.2.2.1
  have hD4 := D.2.2.2.1
  have hD5 := D.2.2.2.2.1
  have hcw : CallB R s args K.1.1.cls idx M'.1 M'.2.1 M'.2.2.1 none (rWs M') (rRm M' (N' - h.1) (SL' - h.2.1)) (N' - h.1) (SL' - h.2.1) as.length ∧ M'.1.name = "<init>" ∧ (Cond.instanceMethod M'.1).before args s = true := ⟨callB_of (ws' := rn_ws) as.length hts (rn_good w2) (by unfold rWs; rw [w6]) rfl rfl (hts _ w1) (hts _ hlk) w3 ⟨Nat.le_trans hR.1 hRR.1, Nat.le_trans hR.2 hRR.2⟩, w5, hts _ w4⟩
  refine rn_after F D L hN0 hS0 hN hS kr (va_runI (As := as.map (rv g)) (rest := rest.map (rv g)) ⟨F.1, F.2.1, F.2.2.1, F.2.2.2.1, hts⟩ (hM l g) hcw ⟨rPc_blind g _ h, rn_pre F D hz (.ref o :: as)⟩ rfl (List.length_map _) L.1 ?_ (lv_room (by rw [rn_cat]; exact hW)) hd ⟨by omega, by omega⟩)
  show (as.reverse ++ .ref o :: rest).map (rv g) = _
  rw [List.map_append, List.map_reverse]
  rfl

end RN
end
