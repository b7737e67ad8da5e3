section
/-- a private method of a class that the tables say can be made, by its rows of tables_1 -/
def lw_okq (q : MethodName × Nat) : Prop := (q.1.cls ≠ "java/lang/invoke/MethodHandle" ∧ q.1.cls ≠ "java/lang/invoke/VarHandle") ∧ Cond.instantiable q.1.cls q.2 ∈ tables_1 ∧ Cond.privateMethod q.1 ∈ tables_1 ∧ Cond.instanceMethod q.1 ∈ tables_1
theorem lw_p0 : lw_okq (⟨"SpentPasses$Text", "isNext", "(I)Z"⟩, 3) := ⟨⟨by decide +kernel, by decide +kernel⟩, List.mem_of_getElem? (i := 19) (by decide +kernel), List.mem_of_getElem? (i := 139) (by decide +kernel), List.mem_of_getElem? (i := 140) (by decide +kernel)⟩
theorem lw_p1 : lw_okq (⟨"SpentPasses$Text", "nextLetter", "()I"⟩, 3) := ⟨⟨by decide +kernel, by decide +kernel⟩, List.mem_of_getElem? (i := 19) (by decide +kernel), List.mem_of_getElem? (i := 143) (by decide +kernel), List.mem_of_getElem? (i := 144) (by decide +kernel)⟩
theorem lw_p2 : lw_okq (⟨"SpentPasses$Text", "readFigure", "(II)I"⟩, 3) := ⟨⟨by decide +kernel, by decide +kernel⟩, List.mem_of_getElem? (i := 19) (by decide +kernel), List.mem_of_getElem? (i := 147) (by decide +kernel), List.mem_of_getElem? (i := 148) (by decide +kernel)⟩
theorem lw_p3 : lw_okq (⟨"SpentPasses$Text", "readUser", "(LSpentPasses$Hall;)Z"⟩, 3) := ⟨⟨by decide +kernel, by decide +kernel⟩, List.mem_of_getElem? (i := 19) (by decide +kernel), List.mem_of_getElem? (i := 162) (by decide +kernel), List.mem_of_getElem? (i := 163) (by decide +kernel)⟩
theorem lw_p4 : lw_okq (⟨"SpentPasses$Text", "readNumber", "()I"⟩, 3) := ⟨⟨by decide +kernel, by decide +kernel⟩, List.mem_of_getElem? (i := 19) (by decide +kernel), List.mem_of_getElem? (i := 166) (by decide +kernel), List.mem_of_getElem? (i := 167) (by decide +kernel)⟩
theorem lw_p5 : lw_okq (⟨"SpentPasses$Text", "readRowLength", "()I"⟩, 3) := ⟨⟨by decide +kernel, by decide +kernel⟩, List.mem_of_getElem? (i := 19) (by decide +kernel), List.mem_of_getElem? (i := 170) (by decide +kernel), List.mem_of_getElem? (i := 171) (by decide +kernel)⟩
theorem lw_p6 : lw_okq (⟨"SpentPasses$Hall", "put", "(III)V"⟩, 1) := ⟨⟨by decide +kernel, by decide +kernel⟩, List.mem_of_getElem? (i := 37) (by decide +kernel), List.mem_of_getElem? (i := 182) (by decide +kernel), List.mem_of_getElem? (i := 183) (by decide +kernel)⟩
theorem lw_p7 : lw_okq (⟨"SpentPasses$Text", "readDoing", "(LSpentPasses$Hall;)Z"⟩, 3) := ⟨⟨by decide +kernel, by decide +kernel⟩, List.mem_of_getElem? (i := 19) (by decide +kernel), List.mem_of_getElem? (i := 189) (by decide +kernel), List.mem_of_getElem? (i := 190) (by decide +kernel)⟩
theorem lw_p8 : lw_okq (⟨"SpentPasses$Hall", "leastFrom", "(II)I"⟩, 1) := ⟨⟨by decide +kernel, by decide +kernel⟩, List.mem_of_getElem? (i := 37) (by decide +kernel), List.mem_of_getElem? (i := 388) (by decide +kernel), List.mem_of_getElem? (i := 389) (by decide +kernel)⟩
theorem lw_p9 : lw_okq (⟨"SpentPasses", "isSo", "(I)Z"⟩, 6) := ⟨⟨by decide +kernel, by decide +kernel⟩, List.mem_of_getElem? (i := 11) (by decide +kernel), List.mem_of_getElem? (i := 408) (by decide +kernel), List.mem_of_getElem? (i := 409) (by decide +kernel)⟩
theorem lw_p10 : lw_okq (⟨"SpentPasses", "sendInMind", "(I)Z"⟩, 6) := ⟨⟨by decide +kernel, by decide +kernel⟩, List.mem_of_getElem? (i := 11) (by decide +kernel), List.mem_of_getElem? (i := 412) (by decide +kernel), List.mem_of_getElem? (i := 413) (by decide +kernel)⟩
theorem lw_p11 : lw_okq (⟨"SpentPasses", "widenInMind", "(I)Z"⟩, 6) := ⟨⟨by decide +kernel, by decide +kernel⟩, List.mem_of_getElem? (i := 11) (by decide +kernel), List.mem_of_getElem? (i := 420) (by decide +kernel), List.mem_of_getElem? (i := 421) (by decide +kernel)⟩
theorem lw_p12 : lw_okq (⟨"SpentPasses$Seen", "agrees", "(ILSpentPasses$Hall;)Z"⟩, 4) := ⟨⟨by decide +kernel, by decide +kernel⟩, List.mem_of_getElem? (i := 79) (by decide +kernel), List.mem_of_getElem? (i := 444) (by decide +kernel), List.mem_of_getElem? (i := 445) (by decide +kernel)⟩
theorem lw_p13 : lw_okq (⟨"SpentPasses", "weightInStep", "(IIII)J"⟩, 6) := ⟨⟨by decide +kernel, by decide +kernel⟩, List.mem_of_getElem? (i := 11) (by decide +kernel), List.mem_of_getElem? (i := 477) (by decide +kernel), List.mem_of_getElem? (i := 478) (by decide +kernel)⟩
theorem lw_p14 : lw_okq (⟨"SpentPasses", "isTakenOnDay", "(I)Z"⟩, 6) := ⟨⟨by decide +kernel, by decide +kernel⟩, List.mem_of_getElem? (i := 11) (by decide +kernel), List.mem_of_getElem? (i := 491) (by decide +kernel), List.mem_of_getElem? (i := 492) (by decide +kernel)⟩
theorem lw_p15 : lw_okq (⟨"SpentPassesModel", "readDesk", "()I"⟩, 19) := ⟨⟨by decide +kernel, by decide +kernel⟩, List.mem_of_getElem? (i := 515) (by decide +kernel), List.mem_of_getElem? (i := 598) (by decide +kernel), List.mem_of_getElem? (i := 599) (by decide +kernel)⟩
def lw_privs_1 : List (MethodName × Nat) := [(⟨"SpentPasses$Text", "isNext", "(I)Z"⟩, 3), (⟨"SpentPasses$Text", "nextLetter", "()I"⟩, 3), (⟨"SpentPasses$Text", "readFigure", "(II)I"⟩, 3), (⟨"SpentPasses$Text", "readUser", "(LSpentPasses$Hall;)Z"⟩, 3), (⟨"SpentPasses$Text", "readNumber", "()I"⟩, 3), (⟨"SpentPasses$Text", "readRowLength", "()I"⟩, 3), (⟨"SpentPasses$Hall", "put", "(III)V"⟩, 1), (⟨"SpentPasses$Text", "readDoing", "(LSpentPasses$Hall;)Z"⟩, 3), (⟨"SpentPasses$Hall", "leastFrom", "(II)I"⟩, 1), (⟨"SpentPasses", "isSo", "(I)Z"⟩, 6), (⟨"SpentPasses", "sendInMind", "(I)Z"⟩, 6), (⟨"SpentPasses", "widenInMind", "(I)Z"⟩, 6), (⟨"SpentPasses$Seen", "agrees", "(ILSpentPasses$Hall;)Z"⟩, 4), (⟨"SpentPasses", "weightInStep", "(IIII)J"⟩, 6), (⟨"SpentPasses", "isTakenOnDay", "(I)Z"⟩, 6), (⟨"SpentPassesModel", "readDesk", "()I"⟩, 19)]
theorem lw_r1 : ∀ q ∈ lw_privs_1, lw_okq q := List.forall_mem_cons.mpr ⟨lw_p0, List.forall_mem_cons.mpr ⟨lw_p1, List.forall_mem_cons.mpr ⟨lw_p2, List.forall_mem_cons.mpr ⟨lw_p3, List.forall_mem_cons.mpr ⟨lw_p4, List.forall_mem_cons.mpr ⟨lw_p5, List.forall_mem_cons.mpr ⟨lw_p6, List.forall_mem_cons.mpr ⟨lw_p7, List.forall_mem_cons.mpr ⟨lw_p8, List.forall_mem_cons.mpr ⟨lw_p9, List.forall_mem_cons.mpr ⟨lw_p10, List.forall_mem_cons.mpr ⟨lw_p11, List.forall_mem_cons.mpr ⟨lw_p12, List.forall_mem_cons.mpr ⟨lw_p13, List.forall_mem_cons.mpr ⟨lw_p14, List.forall_mem_cons.mpr ⟨lw_p15, fun _ h => absurd h List.not_mem_nil⟩⟩⟩⟩⟩⟩⟩⟩⟩⟩⟩⟩⟩⟩⟩⟩
theorem lw_p16 : lw_okq (⟨"SpentPassesModel", "figure", "(II)I"⟩, 19) := ⟨⟨by decide +kernel, by decide +kernel⟩, List.mem_of_getElem? (i := 515) (by decide +kernel), List.mem_of_getElem? (i := 602) (by decide +kernel), List.mem_of_getElem? (i := 603) (by decide +kernel)⟩
theorem lw_p17 : lw_okq (⟨"SpentPassesModel", "readUser", "()Z"⟩, 19) := ⟨⟨by decide +kernel, by decide +kernel⟩, List.mem_of_getElem? (i := 515) (by decide +kernel), List.mem_of_getElem? (i := 606) (by decide +kernel), List.mem_of_getElem? (i := 607) (by decide +kernel)⟩
theorem lw_p18 : lw_okq (⟨"SpentPassesModel", "readNumber", "()I"⟩, 19) := ⟨⟨by decide +kernel, by decide +kernel⟩, List.mem_of_getElem? (i := 515) (by decide +kernel), List.mem_of_getElem? (i := 610) (by decide +kernel), List.mem_of_getElem? (i := 611) (by decide +kernel)⟩
theorem lw_p19 : lw_okq (⟨"SpentPassesModel", "readEvent", "(Z)Z"⟩, 19) := ⟨⟨by decide +kernel, by decide +kernel⟩, List.mem_of_getElem? (i := 515) (by decide +kernel), List.mem_of_getElem? (i := 620) (by decide +kernel), List.mem_of_getElem? (i := 621) (by decide +kernel)⟩
theorem lw_p20 : lw_okq (⟨"SpentPassesModel", "gap", "(I)I"⟩, 19) := ⟨⟨by decide +kernel, by decide +kernel⟩, List.mem_of_getElem? (i := 515) (by decide +kernel), List.mem_of_getElem? (i := 657) (by decide +kernel), List.mem_of_getElem? (i := 658) (by decide +kernel)⟩
theorem lw_p21 : lw_okq (⟨"SpentPassesModel", "layLoop", "(I)I"⟩, 19) := ⟨⟨by decide +kernel, by decide +kernel⟩, List.mem_of_getElem? (i := 515) (by decide +kernel), List.mem_of_getElem? (i := 661) (by decide +kernel), List.mem_of_getElem? (i := 662) (by decide +kernel)⟩
theorem lw_p22 : lw_okq (⟨"SpentPassesModel", "note", "()V"⟩, 19) := ⟨⟨by decide +kernel, by decide +kernel⟩, List.mem_of_getElem? (i := 515) (by decide +kernel), List.mem_of_getElem? (i := 682) (by decide +kernel), List.mem_of_getElem? (i := 683) (by decide +kernel)⟩
theorem lw_p23 : lw_okq (⟨"SpentPassesModel", "fittingOf", "(I)I"⟩, 19) := ⟨⟨by decide +kernel, by decide +kernel⟩, List.mem_of_getElem? (i := 515) (by decide +kernel), List.mem_of_getElem? (i := 720) (by decide +kernel), List.mem_of_getElem? (i := 721) (by decide +kernel)⟩
theorem lw_p24 : lw_okq (⟨"SpentPassesModel", "does", "(IIII)Z"⟩, 19) := ⟨⟨by decide +kernel, by decide +kernel⟩, List.mem_of_getElem? (i := 515) (by decide +kernel), List.mem_of_getElem? (i := 744) (by decide +kernel), List.mem_of_getElem? (i := 745) (by decide +kernel)⟩
def lw_privs_2 : List (MethodName × Nat) := [(⟨"SpentPassesModel", "figure", "(II)I"⟩, 19), (⟨"SpentPassesModel", "readUser", "()Z"⟩, 19), (⟨"SpentPassesModel", "readNumber", "()I"⟩, 19), (⟨"SpentPassesModel", "readEvent", "(Z)Z"⟩, 19), (⟨"SpentPassesModel", "gap", "(I)I"⟩, 19), (⟨"SpentPassesModel", "layLoop", "(I)I"⟩, 19), (⟨"SpentPassesModel", "note", "()V"⟩, 19), (⟨"SpentPassesModel", "fittingOf", "(I)I"⟩, 19), (⟨"SpentPassesModel", "does", "(IIII)Z"⟩, 19)]
theorem lw_r2 : ∀ q ∈ lw_privs_2, lw_okq q := List.forall_mem_cons.mpr ⟨lw_p16, List.forall_mem_cons.mpr ⟨lw_p17, List.forall_mem_cons.mpr ⟨lw_p18, List.forall_mem_cons.mpr ⟨lw_p19, List.forall_mem_cons.mpr ⟨lw_p20, List.forall_mem_cons.mpr ⟨lw_p21, List.forall_mem_cons.mpr ⟨lw_p22, List.forall_mem_cons.mpr ⟨lw_p23, List.forall_mem_cons.mpr ⟨lw_p24, fun _ h => absurd h List.not_mem_nil⟩⟩⟩⟩⟩⟩⟩⟩⟩
def lw_privs : List (MethodName × Nat) := lw_privs_1 ++ (lw_privs_2)
def lw_tbl : List Cond := k2_sels lw_privs ++ tables_1
theorem lw_privs_ok : ∀ q ∈ lw_privs, lw_okq q := by
  show ∀ q ∈ lw_privs_1 ++ (lw_privs_2), lw_okq q
  exact List.forall_mem_append.mpr ⟨lw_r1, lw_r2⟩
def RX0 : String := "SpentPasses$Hall"
def TX0 : u_T := fun k => match k with
  | _ => ("SpentPasses$Hall", "cells", "[I", true)
def tyX0 : Nat → FieldType := fun k => match k with
  | _ => .array .int
abbrev wsX00 : List Cond := u_ws RX0 TX0 1
theorem nmX0 : ∀ a, a < 1 → ∀ b, b < 1 → a ≠ b → (TX0 a).2.1 ≠ (TX0 b).2.1 := by decide +kernel
theorem tyX0_ok : ∀ k, k < 1 → parseFieldDescriptor (TX0 k).2.2.1 = some (tyX0 k) := by decide +kernel
abbrev cX0_init : ByteArray := prog_2_method_1_code
def yX0_init : MethodName := ⟨RX0, "<init>", "()V"⟩
abbrev cX0_clear : ByteArray := prog_2_method_2_code
def yX0_clear : MethodName := ⟨RX0, "clear", "()V"⟩
abbrev cX0_copyFrom : ByteArray := prog_2_method_3_code
def yX0_copyFrom : MethodName := ⟨RX0, "copyFrom", "(LSpentPasses$Hall;)V"⟩
abbrev cX0_users : ByteArray := prog_2_method_4_code
def yX0_users : MethodName := ⟨RX0, "users", "()I"⟩
abbrev cX0_window : ByteArray := prog_2_method_5_code
def yX0_window : MethodName := ⟨RX0, "window", "()I"⟩
abbrev cX0_setWindow : ByteArray := prog_2_method_6_code
def yX0_setWindow : MethodName := ⟨RX0, "setWindow", "(I)V"⟩
abbrev cX0_wire : ByteArray := prog_2_method_7_code
def yX0_wire : MethodName := ⟨RX0, "wire", "()I"⟩
abbrev cX0_userIn : ByteArray := prog_2_method_8_code
def yX0_userIn : MethodName := ⟨RX0, "userIn", "(I)I"⟩
abbrev cX0_numberIn : ByteArray := prog_2_method_9_code
def yX0_numberIn : MethodName := ⟨RX0, "numberIn", "(I)I"⟩
abbrev cX0_heardCount : ByteArray := prog_2_method_10_code
def yX0_heardCount : MethodName := ⟨RX0, "heardCount", "()I"⟩
abbrev cX0_heardAt : ByteArray := prog_2_method_11_code
def yX0_heardAt : MethodName := ⟨RX0, "heardAt", "(I)I"⟩
abbrev cX0_overhear : ByteArray := prog_2_method_12_code
def yX0_overhear : MethodName := ⟨RX0, "overhear", "()V"⟩
abbrev cX0_has : ByteArray := prog_2_method_13_code
def yX0_has : MethodName := ⟨RX0, "has", "(I)Z"⟩
abbrev cX0_of : ByteArray := prog_2_method_14_code
def yX0_of : MethodName := ⟨RX0, "of", "(II)I"⟩
abbrev cX0_put : ByteArray := prog_2_method_15_code
def yX0_put : MethodName := ⟨RX0, "put", "(III)V"⟩
abbrev cX0_addUser : ByteArray := prog_2_method_16_code
def yX0_addUser : MethodName := ⟨RX0, "addUser", "(III)V"⟩
abbrev cX0_beginRow : ByteArray := prog_2_method_17_code
def yX0_beginRow : MethodName := ⟨RX0, "beginRow", "(IIII)V"⟩
abbrev cX0_hasOwn : ByteArray := prog_2_method_18_code
def yX0_hasOwn : MethodName := ⟨RX0, "hasOwn", "(I)Z"⟩
abbrev cX0_anyHasOwn : ByteArray := prog_2_method_19_code
def yX0_anyHasOwn : MethodName := ⟨RX0, "anyHasOwn", "()Z"⟩
abbrev cX0_passOf : ByteArray := prog_2_method_20_code
def yX0_passOf : MethodName := ⟨RX0, "passOf", "(II)I"⟩
abbrev cX0_fitOf : ByteArray := prog_2_method_21_code
def yX0_fitOf : MethodName := ⟨RX0, "fitOf", "(II)I"⟩
abbrev cX0_bring : ByteArray := prog_2_method_22_code
def yX0_bring : MethodName := ⟨RX0, "bring", "(II)I"⟩
abbrev cX0_spendPass : ByteArray := prog_2_method_23_code
def yX0_spendPass : MethodName := ⟨RX0, "spendPass", "(I)Z"⟩
abbrev cX0_sendPass : ByteArray := prog_2_method_24_code
def yX0_sendPass : MethodName := ⟨RX0, "sendPass", "(I)I"⟩
abbrev cX0_isInStep : ByteArray := prog_2_method_25_code
def yX0_isInStep : MethodName := ⟨RX0, "isInStep", "(I)Z"⟩
abbrev cX0_isWarned : ByteArray := prog_2_method_26_code
def yX0_isWarned : MethodName := ⟨RX0, "isWarned", "(I)Z"⟩
abbrev cX0_gapOf : ByteArray := prog_2_method_27_code
def yX0_gapOf : MethodName := ⟨RX0, "gapOf", "(I)I"⟩
abbrev cX0_countFitting : ByteArray := prog_2_method_28_code
def yX0_countFitting : MethodName := ⟨RX0, "countFitting", "(I)I"⟩
abbrev cX0_leastFitting : ByteArray := prog_2_method_29_code
def yX0_leastFitting : MethodName := ⟨RX0, "leastFitting", "(I)I"⟩
abbrev cX0_countFitted : ByteArray := prog_2_method_30_code
def yX0_countFitted : MethodName := ⟨RX0, "countFitted", "(I)I"⟩
abbrev cX0_leastStolen : ByteArray := prog_2_method_31_code
def yX0_leastStolen : MethodName := ⟨RX0, "leastStolen", "(I)I"⟩
abbrev cX0_leastFrom : ByteArray := prog_2_method_32_code
def yX0_leastFrom : MethodName := ⟨RX0, "leastFrom", "(II)I"⟩
abbrev cX0_lesser : ByteArray := prog_2_method_33_code
def yX0_lesser : MethodName := ⟨RX0, "lesser", "(II)I"⟩
def RX1 : String := "SpentPasses$Seen"
def TX1 : u_T := fun k => match k with
  | 0 => ("SpentPasses$Seen", "users", "[I", true)
  | 1 => ("SpentPasses$Seen", "places", "[I", true)
  | 2 => ("SpentPasses$Seen", "numbers", "[I", true)
  | _ => ("SpentPasses$Seen", "size", "I", false)
def tyX1 : Nat → FieldType := fun k => match k with
  | 0 => .array .int
  | 1 => .array .int
  | 2 => .array .int
  | _ => .int
abbrev wsX10 : List Cond := u_ws RX1 TX1 4
theorem nmX1 : ∀ a, a < 4 → ∀ b, b < 4 → a ≠ b → (TX1 a).2.1 ≠ (TX1 b).2.1 := by decide +kernel
theorem tyX1_ok : ∀ k, k < 4 → parseFieldDescriptor (TX1 k).2.2.1 = some (tyX1 k) := by decide +kernel
abbrev cX1_init : ByteArray := prog_3_method_1_code
def yX1_init : MethodName := ⟨RX1, "<init>", "()V"⟩
abbrev cX1_add : ByteArray := prog_3_method_2_code
def yX1_add : MethodName := ⟨RX1, "add", "(III)Z"⟩
abbrev cX1_countSeeds : ByteArray := prog_3_method_3_code
def yX1_countSeeds : MethodName := ⟨RX1, "countSeeds", "(LSpentPasses$Hall;)I"⟩
abbrev cX1_leastSeed : ByteArray := prog_3_method_4_code
def yX1_leastSeed : MethodName := ⟨RX1, "leastSeed", "(LSpentPasses$Hall;)I"⟩
abbrev cX1_agrees : ByteArray := prog_3_method_5_code
def yX1_agrees : MethodName := ⟨RX1, "agrees", "(ILSpentPasses$Hall;)Z"⟩
def RX2 : String := "SpentPasses$Shelf"
def TX2 : u_T := fun k => match k with
  | 0 => ("SpentPasses$Shelf", "beforeActs", "[I", true)
  | 1 => ("SpentPasses$Shelf", "kept", "[I", true)
  | 2 => ("SpentPasses$Shelf", "isKept", "[Z", true)
  | 3 => ("SpentPasses$Shelf", "acts", "I", false)
  | _ => ("SpentPasses$Shelf", "nextAct", "I", false)
def tyX2 : Nat → FieldType := fun k => match k with
  | 0 => .array .int
  | 1 => .array .int
  | 2 => .array .boolean
  | 3 => .int
  | _ => .int
abbrev wsX20 : List Cond := u_ws RX2 TX2 5
theorem nmX2 : ∀ a, a < 5 → ∀ b, b < 5 → a ≠ b → (TX2 a).2.1 ≠ (TX2 b).2.1 := by decide +kernel
theorem tyX2_ok : ∀ k, k < 5 → parseFieldDescriptor (TX2 k).2.2.1 = some (tyX2 k) := by decide +kernel
abbrev cX2_init : ByteArray := prog_4_method_1_code
def yX2_init : MethodName := ⟨RX2, "<init>", "()V"⟩
abbrev cX2_remember : ByteArray := prog_4_method_2_code
def yX2_remember : MethodName := ⟨RX2, "remember", "(LSpentPasses$Hall;)V"⟩
abbrev cX2_takeBack : ByteArray := prog_4_method_3_code
def yX2_takeBack : MethodName := ⟨RX2, "takeBack", "(LSpentPasses$Hall;)Z"⟩
abbrev cX2_keepIn : ByteArray := prog_4_method_4_code
def yX2_keepIn : MethodName := ⟨RX2, "keepIn", "(ILSpentPasses$Hall;)Z"⟩
abbrev cX2_bringBack : ByteArray := prog_4_method_5_code
def yX2_bringBack : MethodName := ⟨RX2, "bringBack", "(ILSpentPasses$Hall;)Z"⟩
abbrev cX2_forgetAll : ByteArray := prog_4_method_6_code
def yX2_forgetAll : MethodName := ⟨RX2, "forgetAll", "()V"⟩
def RX3 : String := "SpentPasses$Text"
def TX3 : u_T := fun k => match k with
  | 0 => ("SpentPasses$Text", "letters", "[I", true)
  | 1 => ("SpentPasses$Text", "length", "I", false)
  | _ => ("SpentPasses$Text", "place", "I", false)
def tyX3 : Nat → FieldType := fun k => match k with
  | 0 => .array .int
  | 1 => .int
  | _ => .int
abbrev wsX30 : List Cond := u_ws RX3 TX3 3
theorem nmX3 : ∀ a, a < 3 → ∀ b, b < 3 → a ≠ b → (TX3 a).2.1 ≠ (TX3 b).2.1 := by decide +kernel
theorem tyX3_ok : ∀ k, k < 3 → parseFieldDescriptor (TX3 k).2.2.1 = some (tyX3 k) := by decide +kernel
abbrev cX3_init : ByteArray := prog_5_method_1_code
def yX3_init : MethodName := ⟨RX3, "<init>", "()V"⟩
abbrev cX3_append : ByteArray := prog_5_method_2_code
def yX3_append : MethodName := ⟨RX3, "append", "(I)Z"⟩
abbrev cX3_readInto : ByteArray := prog_5_method_3_code
def yX3_readInto : MethodName := ⟨RX3, "readInto", "(LSpentPasses$Hall;)I"⟩
abbrev cX3_nextLetter : ByteArray := prog_5_method_4_code
def yX3_nextLetter : MethodName := ⟨RX3, "nextLetter", "()I"⟩
abbrev cX3_isNext : ByteArray := prog_5_method_5_code
def yX3_isNext : MethodName := ⟨RX3, "isNext", "(I)Z"⟩
abbrev cX3_readUser : ByteArray := prog_5_method_6_code
def yX3_readUser : MethodName := ⟨RX3, "readUser", "(LSpentPasses$Hall;)Z"⟩
abbrev cX3_readDoing : ByteArray := prog_5_method_7_code
def yX3_readDoing : MethodName := ⟨RX3, "readDoing", "(LSpentPasses$Hall;)Z"⟩
abbrev cX3_readNumber : ByteArray := prog_5_method_8_code
def yX3_readNumber : MethodName := ⟨RX3, "readNumber", "()I"⟩
abbrev cX3_readRowLength : ByteArray := prog_5_method_9_code
def yX3_readRowLength : MethodName := ⟨RX3, "readRowLength", "()I"⟩
abbrev cX3_readFigure : ByteArray := prog_5_method_10_code
def yX3_readFigure : MethodName := ⟨RX3, "readFigure", "(II)I"⟩
def RX4 : String := "SpentPasses"
def TX4 : u_T := fun k => match k with
  | 0 => ("SpentPasses", "text", "LSpentPasses$Text;", true)
  | 1 => ("SpentPasses", "now", "LSpentPasses$Hall;", true)
  | 2 => ("SpentPasses", "trial", "LSpentPasses$Hall;", true)
  | 3 => ("SpentPasses", "shelf", "LSpentPasses$Shelf;", true)
  | 4 => ("SpentPasses", "seen", "LSpentPasses$Seen;", true)
  | _ => ("SpentPasses", "days", "J", false)
def tyX4 : Nat → FieldType := fun k => match k with
  | 0 => .object "SpentPasses$Text"
  | 1 => .object "SpentPasses$Hall"
  | 2 => .object "SpentPasses$Hall"
  | 3 => .object "SpentPasses$Shelf"
  | 4 => .object "SpentPasses$Seen"
  | _ => .long
abbrev wsX40 : List Cond := u_ws RX4 TX4 6
theorem nmX4 : ∀ a, a < 6 → ∀ b, b < 6 → a ≠ b → (TX4 a).2.1 ≠ (TX4 b).2.1 := by decide +kernel
theorem tyX4_ok : ∀ k, k < 6 → parseFieldDescriptor (TX4 k).2.2.1 = some (tyX4 k) := by decide +kernel
abbrev cX4_init : ByteArray := prog_1_method_1_code
def yX4_init : MethodName := ⟨RX4, "<init>", "()V"⟩
abbrev cX4_write : ByteArray := prog_1_method_2_code
def yX4_write : MethodName := ⟨RX4, "write", "(I)I"⟩
abbrev cX4_wipe : ByteArray := prog_1_method_3_code
def yX4_wipe : MethodName := ⟨RX4, "wipe", "()I"⟩
abbrev cX4_fault : ByteArray := prog_1_method_4_code
def yX4_fault : MethodName := ⟨RX4, "fault", "()I"⟩
abbrev cX4_desk : ByteArray := prog_1_method_5_code
def yX4_desk : MethodName := ⟨RX4, "desk", "()I"⟩
abbrev cX4_user : ByteArray := prog_1_method_6_code
def yX4_user : MethodName := ⟨RX4, "user", "(II)I"⟩
abbrev cX4_pass : ByteArray := prog_1_method_7_code
def yX4_pass : MethodName := ⟨RX4, "pass", "(II)I"⟩
abbrev cX4_behind : ByteArray := prog_1_method_8_code
def yX4_behind : MethodName := ⟨RX4, "behind", "(III)I"⟩
abbrev cX4_send : ByteArray := prog_1_method_9_code
def yX4_send : MethodName := ⟨RX4, "send", "(I)I"⟩
abbrev cX4_miss : ByteArray := prog_1_method_10_code
def yX4_miss : MethodName := ⟨RX4, "miss", "(I)I"⟩
abbrev cX4_attempt : ByteArray := prog_1_method_11_code
def yX4_attempt : MethodName := ⟨RX4, "attempt", "(II)I"⟩
abbrev cX4_hear : ByteArray := prog_1_method_12_code
def yX4_hear : MethodName := ⟨RX4, "hear", "()I"⟩
abbrev cX4_renew : ByteArray := prog_1_method_13_code
def yX4_renew : MethodName := ⟨RX4, "renew", "(IIII)I"⟩
abbrev cX4_widen : ByteArray := prog_1_method_14_code
def yX4_widen : MethodName := ⟨RX4, "widen", "(I)I"⟩
abbrev cX4_undo : ByteArray := prog_1_method_15_code
def yX4_undo : MethodName := ⟨RX4, "undo", "()I"⟩
abbrev cX4_fits : ByteArray := prog_1_method_16_code
def yX4_fits : MethodName := ⟨RX4, "fits", "(II)I"⟩
abbrev cX4_fitting : ByteArray := prog_1_method_17_code
def yX4_fitting : MethodName := ⟨RX4, "fitting", "(II)I"⟩
abbrev cX4_thief : ByteArray := prog_1_method_18_code
def yX4_thief : MethodName := ⟨RX4, "thief", "(I)I"⟩
abbrev cX4_heard : ByteArray := prog_1_method_19_code
def yX4_heard : MethodName := ⟨RX4, "heard", "(I)I"⟩
abbrev cX4_judge : ByteArray := prog_1_method_20_code
def yX4_judge : MethodName := ⟨RX4, "judge", "(IJ)I"⟩
abbrev cX4_see : ByteArray := prog_1_method_21_code
def yX4_see : MethodName := ⟨RX4, "see", "(III)I"⟩
abbrev cX4_unsee : ByteArray := prog_1_method_22_code
def yX4_unsee : MethodName := ⟨RX4, "unsee", "()I"⟩
abbrev cX4_which : ByteArray := prog_1_method_23_code
def yX4_which : MethodName := ⟨RX4, "which", "(I)I"⟩
abbrev cX4_share : ByteArray := prog_1_method_24_code
def yX4_share : MethodName := ⟨RX4, "share", "(IZ)I"⟩
abbrev cX4_guess : ByteArray := prog_1_method_25_code
def yX4_guess : MethodName := ⟨RX4, "guess", "(IIZ)I"⟩
abbrev cX4_loss : ByteArray := prog_1_method_26_code
def yX4_loss : MethodName := ⟨RX4, "loss", "(IIIZ)I"⟩
abbrev cX4_seed : ByteArray := prog_1_method_27_code
def yX4_seed : MethodName := ⟨RX4, "seed", "(J)J"⟩
abbrev cX4_drawn : ByteArray := prog_1_method_28_code
def yX4_drawn : MethodName := ⟨RX4, "drawn", "(I)I"⟩
abbrev cX4_keep : ByteArray := prog_1_method_29_code
def yX4_keep : MethodName := ⟨RX4, "keep", "(I)I"⟩
abbrev cX4_again : ByteArray := prog_1_method_30_code
def yX4_again : MethodName := ⟨RX4, "again", "(I)I"⟩
abbrev cX4_count : ByteArray := prog_1_method_31_code
def yX4_count : MethodName := ⟨RX4, "count", "(I)I"⟩
abbrev cX4_isWithin : ByteArray := prog_1_method_32_code
def yX4_isWithin : MethodName := ⟨RX4, "isWithin", "(III)Z"⟩
abbrev cX4_isNumber : ByteArray := prog_1_method_33_code
def yX4_isNumber : MethodName := ⟨RX4, "isNumber", "(I)Z"⟩
abbrev cX4_stepsBehind : ByteArray := prog_1_method_34_code
def yX4_stepsBehind : MethodName := ⟨RX4, "stepsBehind", "(III)I"⟩
abbrev cX4_returnOf : ByteArray := prog_1_method_35_code
def yX4_returnOf : MethodName := ⟨RX4, "returnOf", "(II)I"⟩
abbrev cX4_tailOf : ByteArray := prog_1_method_36_code
def yX4_tailOf : MethodName := ⟨RX4, "tailOf", "(II)I"⟩
abbrev cX4_loopOf : ByteArray := prog_1_method_37_code
def yX4_loopOf : MethodName := ⟨RX4, "loopOf", "(II)I"⟩
abbrev cX4_power : ByteArray := prog_1_method_38_code
def yX4_power : MethodName := ⟨RX4, "power", "(II)J"⟩
abbrev cX4_toldFraction : ByteArray := prog_1_method_39_code
def yX4_toldFraction : MethodName := ⟨RX4, "toldFraction", "(JJZ)I"⟩
abbrev cX4_commonDivisor : ByteArray := prog_1_method_40_code
def yX4_commonDivisor : MethodName := ⟨RX4, "commonDivisor", "(JJ)J"⟩
abbrev cX4_withoutDoings : ByteArray := prog_1_method_41_code
def yX4_withoutDoings : MethodName := ⟨RX4, "withoutDoings", "(JI)J"⟩
abbrev cX4_isSo : ByteArray := prog_1_method_42_code
def yX4_isSo : MethodName := ⟨RX4, "isSo", "(I)Z"⟩
abbrev cX4_sendInMind : ByteArray := prog_1_method_43_code
def yX4_sendInMind : MethodName := ⟨RX4, "sendInMind", "(I)Z"⟩
abbrev cX4_widenInMind : ByteArray := prog_1_method_44_code
def yX4_widenInMind : MethodName := ⟨RX4, "widenInMind", "(I)Z"⟩
abbrev cX4_weightInStep : ByteArray := prog_1_method_45_code
def yX4_weightInStep : MethodName := ⟨RX4, "weightInStep", "(IIII)J"⟩
abbrev cX4_isTakenOnDay : ByteArray := prog_1_method_46_code
def yX4_isTakenOnDay : MethodName := ⟨RX4, "isTakenOnDay", "(I)Z"⟩
def RX5 : String := "SpentPassesModel"
def TX5 : u_T := fun k => match k with
  | 0 => ("SpentPassesModel", "thrown", "I", false)
  | 1 => ("SpentPassesModel", "text", "[I", true)
  | 2 => ("SpentPassesModel", "textSize", "I", false)
  | 3 => ("SpentPassesModel", "place", "I", false)
  | 4 => ("SpentPassesModel", "readPage", "[I", true)
  | 5 => ("SpentPassesModel", "readEvents", "[I", true)
  | 6 => ("SpentPassesModel", "readMany", "I", false)
  | 7 => ("SpentPassesModel", "page", "[I", true)
  | 8 => ("SpentPassesModel", "trial", "[I", true)
  | 9 => ("SpentPassesModel", "book", "[I", true)
  | 10 => ("SpentPassesModel", "doings", "I", false)
  | 11 => ("SpentPassesModel", "kept", "[I", true)
  | 12 => ("SpentPassesModel", "isKept", "[Z", true)
  | 13 => ("SpentPassesModel", "seen", "I", false)
  | 14 => ("SpentPassesModel", "seenUser", "[I", true)
  | 15 => ("SpentPassesModel", "seenPlace", "[I", true)
  | 16 => ("SpentPassesModel", "seenNumber", "[I", true)
  | 17 => ("SpentPassesModel", "seed", "J", false)
  | _ => ("SpentPassesModel", "first", "[I", true)
def tyX5 : Nat → FieldType := fun k => match k with
  | 0 => .int
  | 1 => .array .int
  | 2 => .int
  | 3 => .int
  | 4 => .array .int
  | 5 => .array .int
  | 6 => .int
  | 7 => .array .int
  | 8 => .array .int
  | 9 => .array .int
  | 10 => .int
  | 11 => .array .int
  | 12 => .array .boolean
  | 13 => .int
  | 14 => .array .int
  | 15 => .array .int
  | 16 => .array .int
  | 17 => .long
  | _ => .array .int
abbrev wsX50 : List Cond := u_ws RX5 TX5 19
theorem nmX5 : ∀ a, a < 19 → ∀ b, b < 19 → a ≠ b → (TX5 a).2.1 ≠ (TX5 b).2.1 := by decide +kernel
theorem tyX5_ok : ∀ k, k < 19 → parseFieldDescriptor (TX5 k).2.2.1 = some (tyX5 k) := by decide +kernel
abbrev cX5_init : ByteArray := prog_7_method_1_code
def yX5_init : MethodName := ⟨RX5, "<init>", "()V"⟩
abbrev cX5_in : ByteArray := prog_7_method_3_code
def yX5_in : MethodName := ⟨RX5, "in", "(JJJ)Z"⟩
abbrev cX5_has : ByteArray := prog_7_method_4_code
def yX5_has : MethodName := ⟨RX5, "has", "(II)Z"⟩
abbrev cX5_ones : ByteArray := prog_7_method_5_code
def yX5_ones : MethodName := ⟨RX5, "ones", "(I)I"⟩
abbrev cX5_power : ByteArray := prog_7_method_6_code
def yX5_power : MethodName := ⟨RX5, "power", "(II)I"⟩
abbrev cX5_layFirst : ByteArray := prog_7_method_7_code
def yX5_layFirst : MethodName := ⟨RX5, "layFirst", "([I)V"⟩
abbrev cX5_lay : ByteArray := prog_7_method_8_code
def yX5_lay : MethodName := ⟨RX5, "lay", "([I[I)V"⟩
abbrev cX5_isNumber : ByteArray := prog_7_method_9_code
def yX5_isNumber : MethodName := ⟨RX5, "isNumber", "(I)Z"⟩
abbrev cX5_after : ByteArray := prog_7_method_10_code
def yX5_after : MethodName := ⟨RX5, "after", "(III)I"⟩
abbrev cX5_noUser : ByteArray := prog_7_method_11_code
def yX5_noUser : MethodName := ⟨RX5, "noUser", "([II)Z"⟩
abbrev cX5_layUser : ByteArray := prog_7_method_12_code
def yX5_layUser : MethodName := ⟨RX5, "layUser", "([IIIII)V"⟩
abbrev cX5_passOf : ByteArray := prog_7_method_13_code
def yX5_passOf : MethodName := ⟨RX5, "passOf", "([III)I"⟩
abbrev cX5_fitsOn : ByteArray := prog_7_method_14_code
def yX5_fitsOn : MethodName := ⟨RX5, "fitsOn", "([III)I"⟩
abbrev cX5_comeOn : ByteArray := prog_7_method_15_code
def yX5_comeOn : MethodName := ⟨RX5, "comeOn", "([III)I"⟩
abbrev cX5_sendOn : ByteArray := prog_7_method_16_code
def yX5_sendOn : MethodName := ⟨RX5, "sendOn", "([II)I"⟩
abbrev cX5_hasPass : ByteArray := prog_7_method_17_code
def yX5_hasPass : MethodName := ⟨RX5, "hasPass", "([II)Z"⟩
abbrev cX5_isInStep : ByteArray := prog_7_method_18_code
def yX5_isInStep : MethodName := ⟨RX5, "isInStep", "([II)Z"⟩
abbrev cX5_write : ByteArray := prog_7_method_19_code
def yX5_write : MethodName := ⟨RX5, "write", "(I)I"⟩
abbrev cX5_wipe : ByteArray := prog_7_method_20_code
def yX5_wipe : MethodName := ⟨RX5, "wipe", "()I"⟩
abbrev cX5_figure : ByteArray := prog_7_method_21_code
def yX5_figure : MethodName := ⟨RX5, "figure", "(II)I"⟩
abbrev cX5_readNumber : ByteArray := prog_7_method_22_code
def yX5_readNumber : MethodName := ⟨RX5, "readNumber", "()I"⟩
abbrev cX5_readUser : ByteArray := prog_7_method_23_code
def yX5_readUser : MethodName := ⟨RX5, "readUser", "()Z"⟩
abbrev cX5_readEvent : ByteArray := prog_7_method_24_code
def yX5_readEvent : MethodName := ⟨RX5, "readEvent", "(Z)Z"⟩
abbrev cX5_readDesk : ByteArray := prog_7_method_25_code
def yX5_readDesk : MethodName := ⟨RX5, "readDesk", "()I"⟩
abbrev cX5_fault : ByteArray := prog_7_method_26_code
def yX5_fault : MethodName := ⟨RX5, "fault", "()I"⟩
abbrev cX5_desk : ByteArray := prog_7_method_27_code
def yX5_desk : MethodName := ⟨RX5, "desk", "()I"⟩
abbrev cX5_gap : ByteArray := prog_7_method_28_code
def yX5_gap : MethodName := ⟨RX5, "gap", "(I)I"⟩
abbrev cX5_layLoop : ByteArray := prog_7_method_29_code
def yX5_layLoop : MethodName := ⟨RX5, "layLoop", "(I)I"⟩
abbrev cX5_user : ByteArray := prog_7_method_30_code
def yX5_user : MethodName := ⟨RX5, "user", "(II)I"⟩
abbrev cX5_pass : ByteArray := prog_7_method_31_code
def yX5_pass : MethodName := ⟨RX5, "pass", "(II)I"⟩
abbrev cX5_behind : ByteArray := prog_7_method_32_code
def yX5_behind : MethodName := ⟨RX5, "behind", "(III)I"⟩
abbrev cX5_note : ByteArray := prog_7_method_33_code
def yX5_note : MethodName := ⟨RX5, "note", "()V"⟩
abbrev cX5_send : ByteArray := prog_7_method_34_code
def yX5_send : MethodName := ⟨RX5, "send", "(I)I"⟩
abbrev cX5_miss : ByteArray := prog_7_method_35_code
def yX5_miss : MethodName := ⟨RX5, "miss", "(I)I"⟩
abbrev cX5_attempt : ByteArray := prog_7_method_36_code
def yX5_attempt : MethodName := ⟨RX5, "attempt", "(II)I"⟩
abbrev cX5_hear : ByteArray := prog_7_method_37_code
def yX5_hear : MethodName := ⟨RX5, "hear", "()I"⟩
abbrev cX5_renew : ByteArray := prog_7_method_38_code
def yX5_renew : MethodName := ⟨RX5, "renew", "(IIII)I"⟩
abbrev cX5_widen : ByteArray := prog_7_method_39_code
def yX5_widen : MethodName := ⟨RX5, "widen", "(I)I"⟩
abbrev cX5_undo : ByteArray := prog_7_method_40_code
def yX5_undo : MethodName := ⟨RX5, "undo", "()I"⟩
abbrev cX5_fits : ByteArray := prog_7_method_41_code
def yX5_fits : MethodName := ⟨RX5, "fits", "(II)I"⟩
abbrev cX5_fittingOf : ByteArray := prog_7_method_42_code
def yX5_fittingOf : MethodName := ⟨RX5, "fittingOf", "(I)I"⟩
abbrev cX5_fitting : ByteArray := prog_7_method_43_code
def yX5_fitting : MethodName := ⟨RX5, "fitting", "(II)I"⟩
abbrev cX5_thief : ByteArray := prog_7_method_44_code
def yX5_thief : MethodName := ⟨RX5, "thief", "(I)I"⟩
abbrev cX5_heard : ByteArray := prog_7_method_45_code
def yX5_heard : MethodName := ⟨RX5, "heard", "(I)I"⟩
abbrev cX5_does : ByteArray := prog_7_method_46_code
def yX5_does : MethodName := ⟨RX5, "does", "(IIII)Z"⟩
abbrev cX5_longPower : ByteArray := prog_7_method_47_code
def yX5_longPower : MethodName := ⟨RX5, "longPower", "(JI)J"⟩
abbrev cX5_judge : ByteArray := prog_7_method_48_code
def yX5_judge : MethodName := ⟨RX5, "judge", "(IJ)I"⟩
abbrev cX5_see : ByteArray := prog_7_method_49_code
def yX5_see : MethodName := ⟨RX5, "see", "(III)I"⟩
abbrev cX5_unsee : ByteArray := prog_7_method_50_code
def yX5_unsee : MethodName := ⟨RX5, "unsee", "()I"⟩
abbrev cX5_which : ByteArray := prog_7_method_51_code
def yX5_which : MethodName := ⟨RX5, "which", "(I)I"⟩
abbrev cX5_divisor : ByteArray := prog_7_method_52_code
def yX5_divisor : MethodName := ⟨RX5, "divisor", "(II)I"⟩
abbrev cX5_fraction : ByteArray := prog_7_method_53_code
def yX5_fraction : MethodName := ⟨RX5, "fraction", "(IIZ)I"⟩
abbrev cX5_factorial : ByteArray := prog_7_method_54_code
def yX5_factorial : MethodName := ⟨RX5, "factorial", "(I)I"⟩
abbrev cX5_share : ByteArray := prog_7_method_55_code
def yX5_share : MethodName := ⟨RX5, "share", "(IZ)I"⟩
abbrev cX5_guess : ByteArray := prog_7_method_56_code
def yX5_guess : MethodName := ⟨RX5, "guess", "(IIZ)I"⟩
abbrev cX5_loss : ByteArray := prog_7_method_57_code
def yX5_loss : MethodName := ⟨RX5, "loss", "(IIIZ)I"⟩
abbrev cX5_seed : ByteArray := prog_7_method_58_code
def yX5_seed : MethodName := ⟨RX5, "seed", "(J)J"⟩
abbrev cX5_drawn : ByteArray := prog_7_method_59_code
def yX5_drawn : MethodName := ⟨RX5, "drawn", "(I)I"⟩
abbrev cX5_keep : ByteArray := prog_7_method_60_code
def yX5_keep : MethodName := ⟨RX5, "keep", "(I)I"⟩
abbrev cX5_again : ByteArray := prog_7_method_61_code
def yX5_again : MethodName := ⟨RX5, "again", "(I)I"⟩
abbrev cX5_count : ByteArray := prog_7_method_62_code
def yX5_count : MethodName := ⟨RX5, "count", "(I)I"⟩
def RJ9 : String := "java/lang/Math"
def TJ9 : u_T := fun k => match k with
  | _ => ("", "", "", false)
def tyJ9 : Nat → FieldType := fun k => match k with
  | _ => .int
abbrev wsJ90 : List Cond := u_ws RJ9 TJ9 0
theorem nmJ9 : ∀ a, a < 0 → ∀ b, b < 0 → a ≠ b → (TJ9 a).2.1 ≠ (TJ9 b).2.1 := by decide +kernel
theorem tyJ9_ok : ∀ k, k < 0 → parseFieldDescriptor (TJ9 k).2.2.1 = some (tyJ9 k) := by decide +kernel
abbrev cJ9_min_7cf53 : ByteArray := prog_8_method_69_code
def yJ9_min_7cf53 : MethodName := ⟨RJ9, "min", "(II)I"⟩
def RJ10 : String := "java/lang/System"
def TJ10 : u_T := fun k => match k with
  | _ => ("", "", "", false)
def tyJ10 : Nat → FieldType := fun k => match k with
  | _ => .int
abbrev wsJ100 : List Cond := u_ws RJ10 TJ10 0
theorem nmJ10 : ∀ a, a < 0 → ∀ b, b < 0 → a ≠ b → (TJ10 a).2.1 ≠ (TJ10 b).2.1 := by decide +kernel
theorem tyJ10_ok : ∀ k, k < 0 → parseFieldDescriptor (TJ10 k).2.2.1 = some (tyJ10 k) := by decide +kernel
def RJ7 : String := "java/util/Arrays"
def TJ7 : u_T := fun k => match k with
  | _ => ("", "", "", false)
def tyJ7 : Nat → FieldType := fun k => match k with
  | _ => .int
abbrev wsJ70 : List Cond := u_ws RJ7 TJ7 0
theorem nmJ7 : ∀ a, a < 0 → ∀ b, b < 0 → a ≠ b → (TJ7 a).2.1 ≠ (TJ7 b).2.1 := by decide +kernel
theorem tyJ7_ok : ∀ k, k < 0 → parseFieldDescriptor (TJ7 k).2.2.1 = some (tyJ7 k) := by decide +kernel
abbrev cJ7_fill_53178 : ByteArray := prog_10_method_103_code
def yJ7_fill_53178 : MethodName := ⟨RJ7, "fill", "([II)V"⟩
def RL : String := "SpentPassesLaw"
abbrev cL_law : ByteArray := code
def yL_law : MethodName := ⟨RL, "law", "([I)Z"⟩
end
section
/-! ===== the frame: a judgement 'Rn' over one walk of a method's body, with a small heap of numbered cells (no addresses, words, rooms in it), and 'Cl', a call's contract ===== -/
abbrev rn_cl : List vw_C := [(RX0, TX0, 1), (RX1, TX1, 4), (RX2, TX2, 5), (RX3, TX3, 3), (RX4, TX4, 6), (RX5, TX5, 19)]
/-- the words that go on through calls -/
def rn_ws : List Cond := lw_tbl.filter goodWord
theorem rn_mem {i : Nat} {w : Cond} (h : lw_tbl[i]? = some w) (hg : goodWord w = true) : w ∈ rn_ws := List.mem_filter.mpr ⟨List.mem_of_getElem? h, hg⟩
/-- the words on nest mates, which are told apart -/
def rn_isN : Cond → Bool
  | .fieldLinkNest _ _ _ _ _ _ => true
  | .methodLinkNest _ _ _ _ => true
  | _ => false
def rn_nest : List Cond := lw_tbl.filter rn_isN
theorem rn_memN {i : Nat} {w : Cond} (h : lw_tbl[i]? = some w) (hg : rn_isN w = true) : w ∈ rn_nest := List.mem_filter.mpr ⟨List.mem_of_getElem? h, hg⟩
theorem rn_nest_warm {s U : State} (hW : s.WarmedH U.vm) (h : ∀ w ∈ rn_nest, va_Nw w s) : ∀ w ∈ rn_nest, va_Nw w U := by
  intro w hw
  have h1 := h w hw
  have h2 := (List.mem_filter.mp hw).2
  cases w with
  | fieldLinkNest a b c d e f => exact va_Nw.warmF hW h1
  | methodLinkNest a b c d => exact va_Nw.warmM hW h1
  | _ => cases h2
theorem rn_nest_on {w : Cond} (hw : w ∈ rn_nest) : w.onTables = true := by
  have h2 := (List.mem_filter.mp hw).2
  cases w with
  | fieldLinkNest a b c d e f => rfl
  | methodLinkNest a b c d => rfl
  | _ => cases h2
theorem rn_good {w : Cond} (hw : w ∈ rn_ws) : GoodIn rn_ws (w :: rn_ws) := by
  intro v hv
  rcases List.mem_cons.mp hv with rfl | h
  · exact ⟨hw, good_of_word (List.mem_filter.mp hw).2⟩
  · exact ⟨h, good_of_word (List.mem_filter.mp h).2⟩
/-- a method: its name, bytes, locals, what it returns, the frames and the locals' words below it -/
abbrev rMd : Type := MethodName × ByteArray × Nat × Option FieldType × Nat × Nat
/-- a cell: ints, booleans, or an object (the number of its class, its fields) -/
abbrev rCell : Type := (Nat × (Nat → Int32)) ⊕ (Nat × (Nat → Int32)) ⊕ (Nat × List Value)
/-- how many cells, how many slots, the cells -/
abbrev rHp : Type := Nat × Nat × (Nat → rCell)
/-- classes, the class of int[], of boolean[], the first address, the script's address -/
abbrev rG : Type := va_G × ClassId × ClassId × Nat × Nat
def rv (g : rG) : Value → Value
  | .ref i => .ref (g.2.2.2.1 + i)
  | .float _ => .ref g.2.2.2.2
  | v => v
theorem rv_cat (g : rG) (v : Value) : (rv g v).category = v.category := by cases v <;> rfl
def rE (g : rG) : rCell → va_E
  | .inl a => .inl (g.2.1, a.1, .inl a.2)
  | .inr (.inl a) => .inl (g.2.2.1, a.1, .inl a.2)
  | .inr (.inr o) => .inr (o.1, o.2.map (rv g))
def hs (h : rHp) (i : Nat) (c : rCell) : rHp := (h.1, h.2.1, fun j => if j = i then c else h.2.2 j)
def hn (h : rHp) (k : Nat) (c : rCell) : rHp := (h.1 + 1, h.2.1 + k, fun j => if j = h.1 then c else h.2.2 j)
theorem hs_1 (h : rHp) (i : Nat) (c : rCell) : (hs h i c).1 = h.1 := rfl
theorem hs_2 (h : rHp) (i : Nat) (c : rCell) : (hs h i c).2.1 = h.2.1 := rfl
theorem hs_at (h : rHp) (i j : Nat) (c : rCell) : (hs h i c).2.2 j = if j = i then c else h.2.2 j := rfl
theorem hs_eq (h : rHp) (i : Nat) (c : rCell) : (hs h i c).2.2 i = c := if_pos rfl
theorem hs_ne (h : rHp) {i j : Nat} (c : rCell) (hj : j ≠ i) : (hs h i c).2.2 j = h.2.2 j := if_neg hj
theorem hs_hs (h : rHp) (i : Nat) (c d : rCell) : hs (hs h i c) i d = hs h i d := by
  show (h.1, h.2.1, _) = (h.1, h.2.1, _)
  congr 2
  funext j
  show (if j = i then d else if j = i then c else h.2.2 j) = if j = i then d else h.2.2 j
  by_cases hj : j = i
  · rw [if_pos hj, if_pos hj]
  · rw [if_neg hj, if_neg hj, if_neg hj]
theorem hs_self (h : rHp) {i : Nat} {c : rCell} (hc : h.2.2 i = c) : hs h i c = h := by
  obtain ⟨a, b, f⟩ := h
  show (a, b, _) = (a, b, f)
  congr 2
  funext j
  show (if j = i then c else f j) = f j
  by_cases hj : j = i
  · rw [if_pos hj, hj]; exact hc.symm
  · rw [if_neg hj]
def wl (g : rG) (h : rHp) : va_W := (List.range h.1).map (fun i => (g.2.2.2.1 + i, rE g (h.2.2 i)))
theorem wl_get (g : rG) (h : rHp) {i : Nat} (hi : i < h.1) : (wl g h)[i]? = some (g.2.2.2.1 + i, rE g (h.2.2 i)) := by
  unfold wl
  rw [List.getElem?_map, List.getElem?_range hi]
  rfl
theorem wl_of {g : rG} {h : rHp} {i : Nat} {q : Nat × va_E} (hq : (wl g h)[i]? = some q) : i < h.1 ∧ q = (g.2.2.2.1 + i, rE g (h.2.2 i)) := by
  have hi : i < h.1 := by
    have := (List.getElem?_eq_some_iff.mp hq).1
    simpa [wl] using this
  rw [wl_get g h hi] at hq
  exact ⟨hi, (Option.some.inj hq).symm⟩
abbrev rA (g : rG) : Nat → Prop := fun q => g.2.2.2.1 ≤ q
theorem wl_D (g : rG) (h : rHp) : va_D (rA g) (wl g h) := by
  refine ⟨fun i j p q hi hj hpq => ?_, fun k q hk => ?_⟩
  · rw [(wl_of hi).2, (wl_of hj).2] at hpq
    have : g.2.2.2.1 + i = g.2.2.2.1 + j := hpq
    omega
  · rw [(wl_of hk).2]
    exact Nat.le_add_right _ _
theorem wl_set (g : rG) (h : rHp) {o : Nat} (c : rCell) (a : Nat) (e : va_E) (ha : a = g.2.2.2.1 + o) (he : e = rE g c) : (wl g h).set o (a, e) = wl g (hs h o c) := by
  subst ha; subst he
  apply List.ext_getElem?
  intro i
  by_cases hi : i < h.1
  · rw [wl_get g (hs h o c) (show i < (hs h o c).1 from hi)]
    by_cases hio : i = o
    · subst hio
      rw [List.getElem?_set_self (by simpa [wl] using hi), hs_eq]
    · rw [List.getElem?_set_ne (Ne.symm hio), wl_get g h hi, hs_ne h c hio]
  · rw [List.getElem?_eq_none (by simp [wl]; omega), List.getElem?_eq_none (by simp [wl, hs_1]; omega)]
theorem wl_push (g : rG) (h : rHp) (k : Nat) (c : rCell) (a : Nat) (e : va_E) (ha : a = g.2.2.2.1 + h.1) (he : e = rE g c) : wl g h ++ [(a, e)] = wl g (hn h k c) := by
  subst ha; subst he
  apply List.ext_getElem?
  intro i
  have hl : (wl g h).length = h.1 := by simp [wl]
  by_cases hi : i < h.1
  · rw [List.getElem?_append_left (by rw [hl]; exact hi), wl_get g h hi, wl_get g (hn h k c) (show i < h.1 + 1 by omega)]
    show _ = some (_, rE g (if i = h.1 then c else h.2.2 i))
    rw [if_neg (by omega)]
  · by_cases he : i = h.1
    · subst he
      rw [List.getElem?_append_right (by rw [hl]; exact Nat.le_refl _), hl, Nat.sub_self, wl_get g (hn h k c) (show h.1 < h.1 + 1 by omega)]
      show _ = some (_, rE g (if h.1 = h.1 then c else h.2.2 h.1))
      rw [if_pos rfl]
      rfl
    · rw [List.getElem?_eq_none (by simp [wl]; omega), List.getElem?_eq_none (by simp [wl, hn]; omega)]
def rWd (g : rG) (h : rHp) (H : Heap) : Prop := va_P g.1 rn_cl (wl g h) H
def rDy (g : rG) (N SL : Nat) (R : Room) (s : State) (h : rHp) (H : Heap) (locs : List Loc) (cells slots : Nat) : Prop :=
  rWd g h H ∧ va_S (rA g) s.heap H locs ∧ s.heap.size + cells = g.2.2.2.1 + h.1 ∧ cells + (N - h.1) ≤ R.cells ∧ slots + (SL - h.2.1) ≤ R.slots ∧ h.1 ≤ N ∧ h.2.1 ≤ SL
/-- what a walk is about: the method, the script (for the law alone), how many cells and slots there are at its end -/
abbrev rK : Type := rMd × Option (Nat × (Nat → Int32)) × Nat × Nat
def rFx (K : rK) (g : rG) (p : Program) (R : Room) (s : State) (m : MethodId) (args : Array Value) (meth : Method) (c : Code) : Prop :=
  p.tables.exec = Jvm.exec ∧ c.code = K.1.2.1 ∧ c.maxLocals = K.1.2.2.1 ∧ s.vm.findClass K.1.1.cls = some m.cls ∧ (∀ w ∈ rn_ws, w.before args s = true) ∧ va_K g.1 rn_cl [(g.2.1, .int), (g.2.2.1, .boolean)] s ∧ g.2.2.2.1 ≤ s.heap.size ∧
  (∀ L xs, K.2.1 = some (L, xs) → va_X g.2.2.2.2 L xs s s.heap ∧ g.2.2.2.2 < g.2.2.2.1) ∧ (K.1.2.2.2.2.1 ≤ R.frames ∧ K.1.2.2.2.2.2 ≤ R.locals) ∧ (K.1.1.name = "<init>" → meth.name = "<init>") ∧ ∀ w ∈ rn_nest, va_Nw w s
/-- where a method may return, and with what -/
def rRet (M : rMd) (pc : Nat) : Option Value → Prop
  | none => decode M.2.1 pc = .ok (.return_, 1) ∧ M.2.2.2.1 = none
  | some (.int x) => decode M.2.1 pc = .ok (.ireturn, 1) ∧ ∃ ty, M.2.2.2.1 = some ty ∧ narrow ty (.int x) = .int x
  | some (.long _) => decode M.2.1 pc = .ok (.lreturn, 1) ∧ M.2.2.2.1 = some .long
  | _ => False
def rLm (g : rG) (lv : List (Nat × Value)) : List (Nat × Value) := lv.map (fun q => (q.1, rv g q.2))
def Rn (K : rK) (Q : Option Value → rHp → Prop) (pc : Nat) (lv : List (Nat × Value)) (st : List Value) (h : rHp) : Prop :=
  ∀ (g : rG) (p : Program) (l : Launch) (e : Env) (R : Room) (s : State) (m : MethodId) (args : Array Value) (below : List Frame) (meth : Method) (c : Code) (Z : State → Prop), rFx K g p R s m args meth c →
    (∀ (v : Option Value) (h' : rHp) (pc' : Nat) (ls : Array Slot) (H : Heap) (locs : List Loc) (cells slots : Nat), Q v h' → rRet K.1 pc' v → h'.1 = K.2.2.1 → h'.2.1 = K.2.2.2 → rDy g K.2.2.1 K.2.2.2 R s h' H locs cells slots → W p l e R s m args below meth c H locs cells slots Z (F0 m pc' ls (v.map (rv g)).toList)) →
    ∀ (H : Heap) (locs : List Loc) (cells slots : Nat) (ls : Array Slot), rDy g K.2.2.1 K.2.2.2 R s h H locs cells slots → lv_has ls K.1.2.2.1 (rLm g lv) → W p l e R s m args below meth c H locs cells slots Z (F0 m pc ls (st.map (rv g)))
/-- the value of a local -/
def rl (lv : List (Nat × Value)) (i : Nat) : Option Value := (lv.find? (fun q => q.1 == i)).map (fun q => q.2)
theorem rl_at {g : rG} {lv : List (Nat × Value)} {i n : Nat} {v : Value} {ls : Array Slot} (hl : lv_has ls n (rLm g lv)) (h : rl lv i = some v) : ls[i]? = some (.val (rv g v)) := by
  unfold rl at h
  cases hf : lv.find? (fun q => q.1 == i) with
  | none => rw [hf] at h; cases h
  | some q =>
    rw [hf] at h
    have h1 : q.2 = v := Option.some.inj h
    have h2 : q.1 = i := by simpa using List.find?_some hf
    have h3 := hl.2.2 (q.1, rv g q.2) (List.mem_map.mpr ⟨q, List.mem_of_find?_eq_some hf, rfl⟩)
    rw [h1, h2] at h3
    exact h3
def sl1 (lv : List (Nat × Value)) (i : Nat) (v : Value) : List (Nat × Value) := (i, v) :: lv.filter (fun q => !(q.1 == i) && !(q.1 + 1 == i && q.2.category == 2))
def sl2 (lv : List (Nat × Value)) (i : Nat) (v : Value) : List (Nat × Value) := (i, v) :: lv.filter (fun q => !(q.1 == i) && (!(q.1 == i + 1) && !(q.1 + 1 == i && q.2.category == 2)))
theorem rLm_filter (g : rG) (lv : List (Nat × Value)) (f : Nat → Nat → Bool) : (rLm g lv).filter (fun q => f q.1 q.2.category) = rLm g (lv.filter (fun q => f q.1 q.2.category)) := by
  unfold rLm
  induction lv with
  | nil => rfl
  | cons a t ih =>
    rw [List.map_cons, List.filter_cons, List.filter_cons, rv_cat]
    by_cases hc : f a.1 a.2.category = true
    · rw [if_pos hc, if_pos hc, ih, List.map_cons]
    · rw [if_neg hc, if_neg hc, ih]
theorem sl1_map (g : rG) (lv : List (Nat × Value)) (i : Nat) (v : Value) : (i, rv g v) :: (rLm g lv).filter (fun q => !(q.1 == i) && !(q.1 + 1 == i && q.2.category == 2)) = rLm g (sl1 lv i v) := by
  rw [rLm_filter g lv (fun a b => !(a == i) && !(a + 1 == i && b == 2))]
  rfl
theorem sl2_map (g : rG) (lv : List (Nat × Value)) (i : Nat) (v : Value) : (i, rv g v) :: (rLm g lv).filter (fun q => !(q.1 == i) && (!(q.1 == i + 1) && !(q.1 + 1 == i && q.2.category == 2))) = rLm g (sl2 lv i v) := by
  rw [rLm_filter g lv (fun a b => !(a == i) && (!(a == i + 1) && !(a + 1 == i && b == 2)))]
  rfl
section RN
variable {K : rK} {Q : Option Value → rHp → Prop} {pc pc' : Nat} {lv : List (Nat × Value)} {st : List Value} {h : rHp}
/-- fewer locals are known -/
theorem Rn.sub (lv' : List (Nat × Value)) (hl : ∀ q ∈ lv', q ∈ lv) (k : Rn K Q pc lv' st h) : Rn K Q pc lv st h := by
  intro g p l e R s m args below meth c Z F kr H locs cells slots ls D L
  refine k g p l e R s m args below meth c Z F kr H locs cells slots ls D ⟨L.1, L.2.1, fun q hq => L.2.2 q ?_⟩
  obtain ⟨a, h1, h2⟩ := List.mem_map.mp hq
  exact List.mem_map.mpr ⟨a, hl a h1, h2⟩
/-- the heap's cells count as they are read -/
theorem rWd.ext {g : rG} {h h' : rHp} {H : Heap} (h1 : h'.1 = h.1) (hc : ∀ i, i < h.1 → va_at g.1 rn_cl (g.2.2.2.1 + i, rE g (h.2.2 i)) H → va_at g.1 rn_cl (g.2.2.2.1 + i, rE g (h'.2.2 i)) H) (w : rWd g h H) : rWd g h' H := by
  intro k q hk
  obtain ⟨h2, rfl⟩ := wl_of hk
  rw [h1] at h2
  exact hc k h2 (w k _ (wl_get g h h2))
def rSame : rCell → rCell → Prop
  | .inl a, .inl b => a.1 = b.1 ∧ ∀ j, j < a.1 → a.2 j = b.2 j
  | .inr (.inl a), .inr (.inl b) => a.1 = b.1 ∧ ∀ j, j < a.1 → a.2 j = b.2 j
  | .inr (.inr a), .inr (.inr b) => a = b
  | _, _ => False
theorem rSame.refl (c : rCell) : rSame c c := by
  rcases c with a | a | a
  · exact ⟨rfl, fun _ _ => rfl⟩
  · exact ⟨rfl, fun _ _ => rfl⟩
  · rfl
theorem arrV_ext {cI : ClassId} {n : Nat} {f g : Nat → Int32} (h : ∀ j, j < n → f j = g j) : arrV cI n (fun j => .int (f j)) = arrV cI n (fun j => .int (g j)) := by
  unfold arrV
  congr 1
  congr 1
  funext j
  exact congrArg Value.int (h j.val j.isLt)
theorem rSame.at {g : rG} {a b : rCell} {i : Nat} {H : Heap} (hs : rSame a b) (w : va_at g.1 rn_cl (i, rE g a) H) : va_at g.1 rn_cl (i, rE g b) H := by
  rcases a with a | a | a <;> rcases b with b | b | b
  · obtain ⟨n, f⟩ := a
    obtain ⟨n', f'⟩ := b
    obtain ⟨h1, h2⟩ := hs
    dsimp only at h1 h2
    subst h1
    have w1 : H[i]? = some (vp_cell g.2.1 (n, .inl f)) := w
    have e1 : vp_cell g.2.1 (n, .inl f) = vp_cell g.2.1 (n, .inl f') := by rw [vp_cell_i, vp_cell_i, arrV_ext h2]
    exact w1.trans (congrArg some e1)
  · exact hs.elim
  · exact hs.elim
  · exact hs.elim
  · obtain ⟨n, f⟩ := a
    obtain ⟨n', f'⟩ := b
    obtain ⟨h1, h2⟩ := hs
    dsimp only at h1 h2
    subst h1
    have w1 : H[i]? = some (vp_cell g.2.2.1 (n, .inl f)) := w
    have e1 : vp_cell g.2.2.1 (n, .inl f) = vp_cell g.2.2.1 (n, .inl f') := by rw [vp_cell_i, vp_cell_i, arrV_ext h2]
    exact w1.trans (congrArg some e1)
  · exact hs.elim
  · exact hs.elim
  · exact hs.elim
  · have e : a = b := hs
    subst e
    exact w
theorem Rn.heq (h' : rHp) (h1 : h'.1 = h.1) (h2 : h'.2.1 = h.2.1) (hc : ∀ i, i < h.1 → rSame (h.2.2 i) (h'.2.2 i)) (k : Rn K Q pc lv st h') : Rn K Q pc lv st h := by
  intro g p l e R s m args below meth c Z F kr H locs cells slots ls D L
  obtain ⟨D1, D2, D3, D4, D5, D6, D7⟩ := D
  exact k g p l e R s m args below meth c Z F kr H locs cells slots ls ⟨D1.ext h1 (fun i hi w => (hc i hi).at w), D2, by rw [h1]; exact D3, by rw [h1]; exact D4, by rw [h2]; exact D5, by rw [h1]; exact D6, by rw [h2]; exact D7⟩ L
theorem Rn.iconst {n : Int} {v : Int32} (hd : decode K.1.2.1 pc = .ok (.iconst n, 1)) (hp : pc + 1 = pc') (hv : Int32.ofInt n = v) (k : Rn K Q pc' lv (.int v :: st) h) : Rn K Q pc lv (st) h := by
  subst hp
  intro g p l e R s m args below meth c Z F kr H locs cells slots ls D L
  exact lv_iconst F.1 F.2.1 hd hv (k g p l e R s m args below meth c Z F kr H locs cells slots ls D L)
theorem Rn.bipush {n : Int} {v : Int32} (hd : decode K.1.2.1 pc = .ok (.bipush n, 2)) (hp : pc + 2 = pc') (hv : (Int8.ofInt n).toInt32 = v) (k : Rn K Q pc' lv (.int v :: st) h) : Rn K Q pc lv (st) h := by
  subst hp
  intro g p l e R s m args below meth c Z F kr H locs cells slots ls D L
  exact lv_bipush F.1 F.2.1 hd hv (k g p l e R s m args below meth c Z F kr H locs cells slots ls D L)
theorem Rn.sipush {n : Int} {v : Int32} (hd : decode K.1.2.1 pc = .ok (.sipush n, 3)) (hp : pc + 3 = pc') (hv : (Int16.ofInt n).toInt32 = v) (k : Rn K Q pc' lv (.int v :: st) h) : Rn K Q pc lv (st) h := by
  subst hp
  intro g p l e R s m args below meth c Z F kr H locs cells slots ls D L
  exact lv_sipush F.1 F.2.1 hd hv (k g p l e R s m args below meth c Z F kr H locs cells slots ls D L)
theorem Rn.lconst {n : Fin 2} {v : Int64} (hd : decode K.1.2.1 pc = .ok (.lconst n, 1)) (hp : pc + 1 = pc') (hv : Int64.ofNat (n : Nat) = v) (k : Rn K Q pc' lv (.long v :: st) h) : Rn K Q pc lv (st) h := by
  subst hp
  intro g p l e R s m args below meth c Z F kr H locs cells slots ls D L
  exact lv_lconst F.1 F.2.1 hd hv (k g p l e R s m args below meth c Z F kr H locs cells slots ls D L)
theorem Rn.ldc2 {i : Nat} {v : Int64} (hd : decode K.1.2.1 pc = .ok (.ldc2_w i, 3)) (hp : pc + 3 = pc') (hw : Cond.constantLong K.1.1.cls i v ∈ rn_ws) (k : Rn K Q pc' lv (.long v :: st) h) : Rn K Q pc lv (st) h := by
  subst hp
  intro g p l e R s m args below meth c Z F kr H locs cells slots ls D L
  exact lv_ldc2 F.1 F.2.1 F.2.2.2.1 (F.2.2.2.2.1 _ hw) hd (k g p l e R s m args below meth c Z F kr H locs cells slots ls D L)
theorem Rn.iload {i : Nat} {x : Int32} (hd : decode K.1.2.1 pc = .ok (.iload i, 2)) (hp : pc + 2 = pc') (hl : rl lv i = some (.int x)) (k : Rn K Q pc' lv (.int x :: st) h) : Rn K Q pc lv (st) h := by
  subst hp
  intro g p l e R s m args below meth c Z F kr H locs cells slots ls D L
  exact lv_iload F.1 F.2.1 hd (rl_at L hl) (k g p l e R s m args below meth c Z F kr H locs cells slots ls D L)
theorem Rn.iload_n {j : Fin 4} {x : Int32} (hd : decode K.1.2.1 pc = .ok (.iload_n j, 1)) (hp : pc + 1 = pc') (hl : rl lv (j : Nat) = some (.int x)) (k : Rn K Q pc' lv (.int x :: st) h) : Rn K Q pc lv (st) h := by
  subst hp
  intro g p l e R s m args below meth c Z F kr H locs cells slots ls D L
  exact lv_iload_n F.1 F.2.1 hd rfl (rl_at L hl) (k g p l e R s m args below meth c Z F kr H locs cells slots ls D L)
theorem Rn.lload {i : Nat} {x : Int64} (hd : decode K.1.2.1 pc = .ok (.lload i, 2)) (hp : pc + 2 = pc') (hl : rl lv i = some (.long x)) (k : Rn K Q pc' lv (.long x :: st) h) : Rn K Q pc lv (st) h := by
  subst hp
  intro g p l e R s m args below meth c Z F kr H locs cells slots ls D L
  exact lv_lload F.1 F.2.1 hd (rl_at L hl) (k g p l e R s m args below meth c Z F kr H locs cells slots ls D L)
theorem Rn.lload_n {j : Fin 4} {x : Int64} (hd : decode K.1.2.1 pc = .ok (.lload_n j, 1)) (hp : pc + 1 = pc') (hl : rl lv (j : Nat) = some (.long x)) (k : Rn K Q pc' lv (.long x :: st) h) : Rn K Q pc lv (st) h := by
  subst hp
  intro g p l e R s m args below meth c Z F kr H locs cells slots ls D L
  exact lv_lload_n F.1 F.2.1 hd rfl (rl_at L hl) (k g p l e R s m args below meth c Z F kr H locs cells slots ls D L)
theorem Rn.aload {i : Nat} {x : Nat} (hd : decode K.1.2.1 pc = .ok (.aload i, 2)) (hp : pc + 2 = pc') (hl : rl lv i = some (.ref x)) (k : Rn K Q pc' lv (.ref x :: st) h) : Rn K Q pc lv (st) h := by
  subst hp
  intro g p l e R s m args below meth c Z F kr H locs cells slots ls D L
  exact lv_aload F.1 F.2.1 hd (rl_at L hl) (k g p l e R s m args below meth c Z F kr H locs cells slots ls D L)
theorem Rn.aload_n {j : Fin 4} {x : Nat} (hd : decode K.1.2.1 pc = .ok (.aload_n j, 1)) (hp : pc + 1 = pc') (hl : rl lv (j : Nat) = some (.ref x)) (k : Rn K Q pc' lv (.ref x :: st) h) : Rn K Q pc lv (st) h := by
  subst hp
  intro g p l e R s m args below meth c Z F kr H locs cells slots ls D L
  exact lv_aload_n F.1 F.2.1 hd rfl (rl_at L hl) (k g p l e R s m args below meth c Z F kr H locs cells slots ls D L)
theorem Rn.aload_nS {j : Fin 4} {x : UInt32} (hd : decode K.1.2.1 pc = .ok (.aload_n j, 1)) (hp : pc + 1 = pc') (hl : rl lv (j : Nat) = some (.float x)) (k : Rn K Q pc' lv (.float x :: st) h) : Rn K Q pc lv (st) h := by
  subst hp
  intro g p l e R s m args below meth c Z F kr H locs cells slots ls D L
  exact lv_aload_n F.1 F.2.1 hd rfl (rl_at L hl) (k g p l e R s m args below meth c Z F kr H locs cells slots ls D L)
theorem Rn.istore {i : Nat} {x : Int32} (hd : decode K.1.2.1 pc = .ok (.istore i, 2)) (hp : pc + 2 = pc') (hb : i < K.1.2.2.1) (k : Rn K Q pc' (sl1 lv i (.int x)) st h) : Rn K Q pc lv (.int x :: st) h := by
  subst hp
  intro g p l e R s m args below meth c Z F kr H locs cells slots ls D L
  exact lv_istore F.1 F.2.1 hd L hb (sl1_map g lv i (.int x)) (fun ls' L' => k g p l e R s m args below meth c Z F kr H locs cells slots ls' D L')
theorem Rn.istore_n {j : Fin 4} {x : Int32} (hd : decode K.1.2.1 pc = .ok (.istore_n j, 1)) (hp : pc + 1 = pc') (hb : (j : Nat) < K.1.2.2.1) (k : Rn K Q pc' (sl1 lv (j : Nat) (.int x)) st h) : Rn K Q pc lv (.int x :: st) h := by
  subst hp
  intro g p l e R s m args below meth c Z F kr H locs cells slots ls D L
  exact lv_istore_n F.1 F.2.1 hd rfl L hb (sl1_map g lv (j : Nat) (.int x)) (fun ls' L' => k g p l e R s m args below meth c Z F kr H locs cells slots ls' D L')
theorem Rn.lstore {i : Nat} {x : Int64} (hd : decode K.1.2.1 pc = .ok (.lstore i, 2)) (hp : pc + 2 = pc') (hb : i + 1 < K.1.2.2.1) (k : Rn K Q pc' (sl2 lv i (.long x)) st h) : Rn K Q pc lv (.long x :: st) h := by
  subst hp
  intro g p l e R s m args below meth c Z F kr H locs cells slots ls D L
  exact lv_lstore F.1 F.2.1 hd L hb (sl2_map g lv i (.long x)) (fun ls' L' => k g p l e R s m args below meth c Z F kr H locs cells slots ls' D L')
theorem Rn.lstore_n {j : Fin 4} {x : Int64} (hd : decode K.1.2.1 pc = .ok (.lstore_n j, 1)) (hp : pc + 1 = pc') (hb : (j : Nat) + 1 < K.1.2.2.1) (k : Rn K Q pc' (sl2 lv (j : Nat) (.long x)) st h) : Rn K Q pc lv (.long x :: st) h := by
  subst hp
  intro g p l e R s m args below meth c Z F kr H locs cells slots ls D L
  exact lv_lstore_n F.1 F.2.1 hd rfl L hb (sl2_map g lv (j : Nat) (.long x)) (fun ls' L' => k g p l e R s m args below meth c Z F kr H locs cells slots ls' D L')
theorem Rn.astore {i : Nat} {x : Nat} (hd : decode K.1.2.1 pc = .ok (.astore i, 2)) (hp : pc + 2 = pc') (hb : i < K.1.2.2.1) (k : Rn K Q pc' (sl1 lv i (.ref x)) st h) : Rn K Q pc lv (.ref x :: st) h := by
  subst hp
  intro g p l e R s m args below meth c Z F kr H locs cells slots ls D L
  exact lv_astore F.1 F.2.1 hd L hb (sl1_map g lv i (.ref x)) (fun ls' L' => k g p l e R s m args below meth c Z F kr H locs cells slots ls' D L')
theorem Rn.astore_n {j : Fin 4} {x : Nat} (hd : decode K.1.2.1 pc = .ok (.astore_n j, 1)) (hp : pc + 1 = pc') (hb : (j : Nat) < K.1.2.2.1) (k : Rn K Q pc' (sl1 lv (j : Nat) (.ref x)) st h) : Rn K Q pc lv (.ref x :: st) h := by
  subst hp
  intro g p l e R s m args below meth c Z F kr H locs cells slots ls D L
  exact lv_astore_n F.1 F.2.1 hd rfl L hb (sl1_map g lv (j : Nat) (.ref x)) (fun ls' L' => k g p l e R s m args below meth c Z F kr H locs cells slots ls' D L')
theorem Rn.iinc {i : Nat} {n : Int} {x v : Int32} (hd : decode K.1.2.1 pc = .ok (.iinc i n, 3)) (hp : pc + 3 = pc') (hl : rl lv i = some (.int x)) (hv : x + Int32.ofInt n = v) (hb : i < K.1.2.2.1) (k : Rn K Q pc' (sl1 lv i (.int v)) st h) : Rn K Q pc lv st h := by
  subst hp
  intro g p l e R s m args below meth c Z F kr H locs cells slots ls D L
  unfold rl at hl
  cases hf : lv.find? (fun q => q.1 == i) with
  | none => rw [hf] at hl; cases hl
  | some q =>
    rw [hf] at hl
    have h1 : q.2 = .int x := Option.some.inj hl
    have h2 : q.1 = i := by simpa using List.find?_some hf
    have h3 : (i, Value.int x) ∈ rLm g lv := List.mem_map.mpr ⟨q, List.mem_of_find?_eq_some hf, by rw [h1, h2]; rfl⟩
    obtain ⟨j, hj⟩ := List.getElem?_of_mem h3
    exact lv_iinc F.1 F.2.1 hd L hj hv hb (sl1_map g lv i (.int v)) (fun ls' L' => k g p l e R s m args below meth c Z F kr H locs cells slots ls' D L')
theorem Rn.iadd {x y : Int32} (hd : decode K.1.2.1 pc = .ok (.iadd, 1)) (hp : pc + 1 = pc') (k : Rn K Q pc' lv (.int (x + y) :: st) h) : Rn K Q pc lv (.int y :: .int x :: st) h := by
  subst hp
  intro g p l e R s m args below meth c Z F kr H locs cells slots ls D L
  exact lv_iadd F.1 F.2.1 hd (k g p l e R s m args below meth c Z F kr H locs cells slots ls D L)
theorem Rn.isub {x y : Int32} (hd : decode K.1.2.1 pc = .ok (.isub, 1)) (hp : pc + 1 = pc') (k : Rn K Q pc' lv (.int (x - y) :: st) h) : Rn K Q pc lv (.int y :: .int x :: st) h := by
  subst hp
  intro g p l e R s m args below meth c Z F kr H locs cells slots ls D L
  exact lv_isub F.1 F.2.1 hd (k g p l e R s m args below meth c Z F kr H locs cells slots ls D L)
theorem Rn.imul {x y : Int32} (hd : decode K.1.2.1 pc = .ok (.imul, 1)) (hp : pc + 1 = pc') (k : Rn K Q pc' lv (.int (x * y) :: st) h) : Rn K Q pc lv (.int y :: .int x :: st) h := by
  subst hp
  intro g p l e R s m args below meth c Z F kr H locs cells slots ls D L
  exact lv_imul F.1 F.2.1 hd (k g p l e R s m args below meth c Z F kr H locs cells slots ls D L)
theorem Rn.iand {x y : Int32} (hd : decode K.1.2.1 pc = .ok (.iand, 1)) (hp : pc + 1 = pc') (k : Rn K Q pc' lv (.int (x &&& y) :: st) h) : Rn K Q pc lv (.int y :: .int x :: st) h := by
  subst hp
  intro g p l e R s m args below meth c Z F kr H locs cells slots ls D L
  exact lv_iand F.1 F.2.1 hd (k g p l e R s m args below meth c Z F kr H locs cells slots ls D L)
theorem Rn.ior {x y : Int32} (hd : decode K.1.2.1 pc = .ok (.ior, 1)) (hp : pc + 1 = pc') (k : Rn K Q pc' lv (.int (x ||| y) :: st) h) : Rn K Q pc lv (.int y :: .int x :: st) h := by
  subst hp
  intro g p l e R s m args below meth c Z F kr H locs cells slots ls D L
  exact lv_ior F.1 F.2.1 hd (k g p l e R s m args below meth c Z F kr H locs cells slots ls D L)
theorem Rn.ishl {x y : Int32} (hd : decode K.1.2.1 pc = .ok (.ishl, 1)) (hp : pc + 1 = pc') (k : Rn K Q pc' lv (.int (x <<< (y &&& 31)) :: st) h) : Rn K Q pc lv (.int y :: .int x :: st) h := by
  subst hp
  intro g p l e R s m args below meth c Z F kr H locs cells slots ls D L
  exact lv_ishl F.1 F.2.1 hd (k g p l e R s m args below meth c Z F kr H locs cells slots ls D L)
theorem Rn.ishr {x y : Int32} (hd : decode K.1.2.1 pc = .ok (.ishr, 1)) (hp : pc + 1 = pc') (k : Rn K Q pc' lv (.int (x >>> (y &&& 31)) :: st) h) : Rn K Q pc lv (.int y :: .int x :: st) h := by
  subst hp
  intro g p l e R s m args below meth c Z F kr H locs cells slots ls D L
  exact lv_ishr F.1 F.2.1 hd (k g p l e R s m args below meth c Z F kr H locs cells slots ls D L)
theorem Rn.idiv {x y : Int32} (hd : decode K.1.2.1 pc = .ok (.idiv, 1)) (hp : pc + 1 = pc') (hne : ¬ y = 0) (k : Rn K Q pc' lv (.int (x / y) :: st) h) : Rn K Q pc lv (.int y :: .int x :: st) h := by
  subst hp
  intro g p l e R s m args below meth c Z F kr H locs cells slots ls D L
  exact lv_idiv F.1 F.2.1 hd hne (k g p l e R s m args below meth c Z F kr H locs cells slots ls D L)
theorem Rn.irem {x y : Int32} (hd : decode K.1.2.1 pc = .ok (.irem, 1)) (hp : pc + 1 = pc') (hne : ¬ y = 0) (k : Rn K Q pc' lv (.int (x - x / y * y) :: st) h) : Rn K Q pc lv (.int y :: .int x :: st) h := by
  subst hp
  intro g p l e R s m args below meth c Z F kr H locs cells slots ls D L
  exact lv_irem F.1 F.2.1 hd hne (k g p l e R s m args below meth c Z F kr H locs cells slots ls D L)
theorem Rn.ineg {x : Int32} (hd : decode K.1.2.1 pc = .ok (.ineg, 1)) (hp : pc + 1 = pc') (k : Rn K Q pc' lv (.int (-x) :: st) h) : Rn K Q pc lv (.int x :: st) h := by
  subst hp
  intro g p l e R s m args below meth c Z F kr H locs cells slots ls D L
  exact lv_ineg F.1 F.2.1 hd (k g p l e R s m args below meth c Z F kr H locs cells slots ls D L)
theorem Rn.ladd {x y : Int64} (hd : decode K.1.2.1 pc = .ok (.ladd, 1)) (hp : pc + 1 = pc') (k : Rn K Q pc' lv (.long (x + y) :: st) h) : Rn K Q pc lv (.long y :: .long x :: st) h := by
  subst hp
  intro g p l e R s m args below meth c Z F kr H locs cells slots ls D L
  exact lv_ladd F.1 F.2.1 hd (k g p l e R s m args below meth c Z F kr H locs cells slots ls D L)
theorem Rn.lsub {x y : Int64} (hd : decode K.1.2.1 pc = .ok (.lsub, 1)) (hp : pc + 1 = pc') (k : Rn K Q pc' lv (.long (x - y) :: st) h) : Rn K Q pc lv (.long y :: .long x :: st) h := by
  subst hp
  intro g p l e R s m args below meth c Z F kr H locs cells slots ls D L
  exact lv_lsub F.1 F.2.1 hd (k g p l e R s m args below meth c Z F kr H locs cells slots ls D L)
theorem Rn.lmul {x y : Int64} (hd : decode K.1.2.1 pc = .ok (.lmul, 1)) (hp : pc + 1 = pc') (k : Rn K Q pc' lv (.long (x * y) :: st) h) : Rn K Q pc lv (.long y :: .long x :: st) h := by
  subst hp
  intro g p l e R s m args below meth c Z F kr H locs cells slots ls D L
  exact lv_lmul F.1 F.2.1 hd (k g p l e R s m args below meth c Z F kr H locs cells slots ls D L)
theorem Rn.land {x y : Int64} (hd : decode K.1.2.1 pc = .ok (.land, 1)) (hp : pc + 1 = pc') (k : Rn K Q pc' lv (.long (x &&& y) :: st) h) : Rn K Q pc lv (.long y :: .long x :: st) h := by
  subst hp
  intro g p l e R s m args below meth c Z F kr H locs cells slots ls D L
  exact lv_land F.1 F.2.1 hd (k g p l e R s m args below meth c Z F kr H locs cells slots ls D L)
theorem Rn.lor {x y : Int64} (hd : decode K.1.2.1 pc = .ok (.lor, 1)) (hp : pc + 1 = pc') (k : Rn K Q pc' lv (.long (x ||| y) :: st) h) : Rn K Q pc lv (.long y :: .long x :: st) h := by
  subst hp
  intro g p l e R s m args below meth c Z F kr H locs cells slots ls D L
  exact lv_lor F.1 F.2.1 hd (k g p l e R s m args below meth c Z F kr H locs cells slots ls D L)
theorem Rn.ldiv {x y : Int64} (hd : decode K.1.2.1 pc = .ok (.ldiv, 1)) (hp : pc + 1 = pc') (hne : ¬ y = 0) (k : Rn K Q pc' lv (.long (x / y) :: st) h) : Rn K Q pc lv (.long y :: .long x :: st) h := by
  subst hp
  intro g p l e R s m args below meth c Z F kr H locs cells slots ls D L
  exact lv_ldiv F.1 F.2.1 hd hne (k g p l e R s m args below meth c Z F kr H locs cells slots ls D L)
theorem Rn.lrem {x y : Int64} (hd : decode K.1.2.1 pc = .ok (.lrem, 1)) (hp : pc + 1 = pc') (hne : ¬ y = 0) (k : Rn K Q pc' lv (.long (x - x / y * y) :: st) h) : Rn K Q pc lv (.long y :: .long x :: st) h := by
  subst hp
  intro g p l e R s m args below meth c Z F kr H locs cells slots ls D L
  exact lv_lrem F.1 F.2.1 hd hne (k g p l e R s m args below meth c Z F kr H locs cells slots ls D L)
theorem Rn.i2l {x : Int32} (hd : decode K.1.2.1 pc = .ok (.i2l, 1)) (hp : pc + 1 = pc') (k : Rn K Q pc' lv (.long x.toInt64 :: st) h) : Rn K Q pc lv (.int x :: st) h := by
  subst hp
  intro g p l e R s m args below meth c Z F kr H locs cells slots ls D L
  exact lv_i2l F.1 F.2.1 hd rfl (k g p l e R s m args below meth c Z F kr H locs cells slots ls D L)
theorem Rn.l2i {x : Int64} (hd : decode K.1.2.1 pc = .ok (.l2i, 1)) (hp : pc + 1 = pc') (k : Rn K Q pc' lv (.int x.toInt32 :: st) h) : Rn K Q pc lv (.long x :: st) h := by
  subst hp
  intro g p l e R s m args below meth c Z F kr H locs cells slots ls D L
  exact lv_l2i F.1 F.2.1 hd rfl (k g p l e R s m args below meth c Z F kr H locs cells slots ls D L)
theorem Rn.lushr {x : Int64} {y : Int32} (hd : decode K.1.2.1 pc = .ok (.lushr, 1)) (hp : pc + 1 = pc') (k : Rn K Q pc' lv (.long (x.toUInt64 >>> (y.toInt64.toUInt64 &&& Int64.toUInt64 63)).toInt64 :: st) h) : Rn K Q pc lv (.int y :: .long x :: st) h := by
  subst hp
  intro g p l e R s m args below meth c Z F kr H locs cells slots ls D L
  exact lv_lushr F.1 F.2.1 hd rfl (k g p l e R s m args below meth c Z F kr H locs cells slots ls D L)
theorem Rn.lshl {x : Int64} {y : Int32} (hd : decode K.1.2.1 pc = .ok (.lshl, 1)) (hp : pc + 1 = pc') (k : Rn K Q pc' lv (.long (x <<< (y.toInt64 &&& 63)) :: st) h) : Rn K Q pc lv (.int y :: .long x :: st) h := by
  subst hp
  intro g p l e R s m args below meth c Z F kr H locs cells slots ls D L
  exact lv_lshl F.1 F.2.1 hd rfl (k g p l e R s m args below meth c Z F kr H locs cells slots ls D L)
theorem Rn.lcmp {x y : Int64} (hd : decode K.1.2.1 pc = .ok (.lcmp, 1)) (hp : pc + 1 = pc') (k : Rn K Q pc' lv (.int (lg_cmp x y) :: st) h) : Rn K Q pc lv (.long y :: .long x :: st) h := by
  subst hp
  intro g p l e R s m args below meth c Z F kr H locs cells slots ls D L
  exact W.lcmp F.1 F.2.1 hd (k g p l e R s m args below meth c Z F kr H locs cells slots ls D L)
theorem Rn.dup {v : Value} (hd : decode K.1.2.1 pc = .ok (.dup, 1)) (hp : pc + 1 = pc') (hc : v.category = 1) (k : Rn K Q pc' lv (v :: v :: st) h) : Rn K Q pc lv (v :: st) h := by
  subst hp
  intro g p l e R s m args below meth c Z F kr H locs cells slots ls D L
  exact lv_dup F.1 F.2.1 hd ((rv_cat g v).trans hc) (k g p l e R s m args below meth c Z F kr H locs cells slots ls D L)
theorem Rn.pop {v : Value} (hd : decode K.1.2.1 pc = .ok (.pop, 1)) (hp : pc + 1 = pc') (hc : v.category = 1) (k : Rn K Q pc' lv (st) h) : Rn K Q pc lv (v :: st) h := by
  subst hp
  intro g p l e R s m args below meth c Z F kr H locs cells slots ls D L
  exact lv_pop F.1 F.2.1 hd ((rv_cat g v).trans hc) (k g p l e R s m args below meth c Z F kr H locs cells slots ls D L)
theorem Rn.dup2 {v w : Value} (hd : decode K.1.2.1 pc = .ok (.dup2, 1)) (hp : pc + 1 = pc') (hc : v.category = 1) (hc2 : w.category = 1) (k : Rn K Q pc' lv (v :: w :: v :: w :: st) h) : Rn K Q pc lv (v :: w :: st) h := by
  subst hp
  intro g p l e R s m args below meth c Z F kr H locs cells slots ls D L
  exact lv_dup2_11 F.1 F.2.1 hd ((rv_cat g v).trans hc) ((rv_cat g w).trans hc2) (k g p l e R s m args below meth c Z F kr H locs cells slots ls D L)
theorem Rn.if_eq {x : Int32} {off : Int} {tgt : Nat} (hd : decode K.1.2.1 pc = .ok (.ifCond .eq off, 3)) (hp : pc + 3 = pc') (ht : (pc : Int) + off = (tgt : Int)) (kt : x = 0 → Rn K Q tgt lv st h) (kf : ¬ x = 0 → Rn K Q pc' lv st h) : Rn K Q pc lv (.int x :: st) h := by
  subst hp
  intro g p l e R s m args below meth c Z F kr H locs cells slots ls D L
  exact lv_if_eq F.1 F.2.1 hd ht (fun q => kt q g p l e R s m args below meth c Z F kr H locs cells slots ls D L) (fun q => kf q g p l e R s m args below meth c Z F kr H locs cells slots ls D L)
theorem Rn.icmp_eq {x y : Int32} {off : Int} {tgt : Nat} (hd : decode K.1.2.1 pc = .ok (.if_icmp .eq off, 3)) (hp : pc + 3 = pc') (ht : (pc : Int) + off = (tgt : Int)) (kt : x = y → Rn K Q tgt lv st h) (kf : ¬ x = y → Rn K Q pc' lv st h) : Rn K Q pc lv (.int y :: .int x :: st) h := by
  subst hp
  intro g p l e R s m args below meth c Z F kr H locs cells slots ls D L
  exact lv_icmp_eq F.1 F.2.1 hd ht (fun q => kt q g p l e R s m args below meth c Z F kr H locs cells slots ls D L) (fun q => kf q g p l e R s m args below meth c Z F kr H locs cells slots ls D L)
theorem Rn.if_ne {x : Int32} {off : Int} {tgt : Nat} (hd : decode K.1.2.1 pc = .ok (.ifCond .ne off, 3)) (hp : pc + 3 = pc') (ht : (pc : Int) + off = (tgt : Int)) (kt : ¬ x = 0 → Rn K Q tgt lv st h) (kf : x = 0 → Rn K Q pc' lv st h) : Rn K Q pc lv (.int x :: st) h := by
  subst hp
  intro g p l e R s m args below meth c Z F kr H locs cells slots ls D L
  exact lv_if_ne F.1 F.2.1 hd ht (fun q => kt q g p l e R s m args below meth c Z F kr H locs cells slots ls D L) (fun q => kf q g p l e R s m args below meth c Z F kr H locs cells slots ls D L)
theorem Rn.icmp_ne {x y : Int32} {off : Int} {tgt : Nat} (hd : decode K.1.2.1 pc = .ok (.if_icmp .ne off, 3)) (hp : pc + 3 = pc') (ht : (pc : Int) + off = (tgt : Int)) (kt : ¬ x = y → Rn K Q tgt lv st h) (kf : x = y → Rn K Q pc' lv st h) : Rn K Q pc lv (.int y :: .int x :: st) h := by
  subst hp
  intro g p l e R s m args below meth c Z F kr H locs cells slots ls D L
  exact lv_icmp_ne F.1 F.2.1 hd ht (fun q => kt q g p l e R s m args below meth c Z F kr H locs cells slots ls D L) (fun q => kf q g p l e R s m args below meth c Z F kr H locs cells slots ls D L)
theorem Rn.if_lt {x : Int32} {off : Int} {tgt : Nat} (hd : decode K.1.2.1 pc = .ok (.ifCond .lt off, 3)) (hp : pc + 3 = pc') (ht : (pc : Int) + off = (tgt : Int)) (kt : x < 0 → Rn K Q tgt lv st h) (kf : ¬ x < 0 → Rn K Q pc' lv st h) : Rn K Q pc lv (.int x :: st) h := by
  subst hp
  intro g p l e R s m args below meth c Z F kr H locs cells slots ls D L
  exact lv_if_lt F.1 F.2.1 hd ht (fun q => kt q g p l e R s m args below meth c Z F kr H locs cells slots ls D L) (fun q => kf q g p l e R s m args below meth c Z F kr H locs cells slots ls D L)
theorem Rn.icmp_lt {x y : Int32} {off : Int} {tgt : Nat} (hd : decode K.1.2.1 pc = .ok (.if_icmp .lt off, 3)) (hp : pc + 3 = pc') (ht : (pc : Int) + off = (tgt : Int)) (kt : x < y → Rn K Q tgt lv st h) (kf : ¬ x < y → Rn K Q pc' lv st h) : Rn K Q pc lv (.int y :: .int x :: st) h := by
  subst hp
  intro g p l e R s m args below meth c Z F kr H locs cells slots ls D L
  exact lv_icmp_lt F.1 F.2.1 hd ht (fun q => kt q g p l e R s m args below meth c Z F kr H locs cells slots ls D L) (fun q => kf q g p l e R s m args below meth c Z F kr H locs cells slots ls D L)
theorem Rn.if_ge {x : Int32} {off : Int} {tgt : Nat} (hd : decode K.1.2.1 pc = .ok (.ifCond .ge off, 3)) (hp : pc + 3 = pc') (ht : (pc : Int) + off = (tgt : Int)) (kt : 0 ≤ x → Rn K Q tgt lv st h) (kf : ¬ 0 ≤ x → Rn K Q pc' lv st h) : Rn K Q pc lv (.int x :: st) h := by
  subst hp
  intro g p l e R s m args below meth c Z F kr H locs cells slots ls D L
  exact lv_if_ge F.1 F.2.1 hd ht (fun q => kt q g p l e R s m args below meth c Z F kr H locs cells slots ls D L) (fun q => kf q g p l e R s m args below meth c Z F kr H locs cells slots ls D L)
theorem Rn.icmp_ge {x y : Int32} {off : Int} {tgt : Nat} (hd : decode K.1.2.1 pc = .ok (.if_icmp .ge off, 3)) (hp : pc + 3 = pc') (ht : (pc : Int) + off = (tgt : Int)) (kt : y ≤ x → Rn K Q tgt lv st h) (kf : ¬ y ≤ x → Rn K Q pc' lv st h) : Rn K Q pc lv (.int y :: .int x :: st) h := by
  subst hp
  intro g p l e R s m args below meth c Z F kr H locs cells slots ls D L
  exact lv_icmp_ge F.1 F.2.1 hd ht (fun q => kt q g p l e R s m args below meth c Z F kr H locs cells slots ls D L) (fun q => kf q g p l e R s m args below meth c Z F kr H locs cells slots ls D L)
theorem Rn.if_gt {x : Int32} {off : Int} {tgt : Nat} (hd : decode K.1.2.1 pc = .ok (.ifCond .gt off, 3)) (hp : pc + 3 = pc') (ht : (pc : Int) + off = (tgt : Int)) (kt : 0 < x → Rn K Q tgt lv st h) (kf : ¬ 0 < x → Rn K Q pc' lv st h) : Rn K Q pc lv (.int x :: st) h := by
  subst hp
  intro g p l e R s m args below meth c Z F kr H locs cells slots ls D L
  exact lv_if_gt F.1 F.2.1 hd ht (fun q => kt q g p l e R s m args below meth c Z F kr H locs cells slots ls D L) (fun q => kf q g p l e R s m args below meth c Z F kr H locs cells slots ls D L)
theorem Rn.icmp_gt {x y : Int32} {off : Int} {tgt : Nat} (hd : decode K.1.2.1 pc = .ok (.if_icmp .gt off, 3)) (hp : pc + 3 = pc') (ht : (pc : Int) + off = (tgt : Int)) (kt : y < x → Rn K Q tgt lv st h) (kf : ¬ y < x → Rn K Q pc' lv st h) : Rn K Q pc lv (.int y :: .int x :: st) h := by
  subst hp
  intro g p l e R s m args below meth c Z F kr H locs cells slots ls D L
  exact lv_icmp_gt F.1 F.2.1 hd ht (fun q => kt q g p l e R s m args below meth c Z F kr H locs cells slots ls D L) (fun q => kf q g p l e R s m args below meth c Z F kr H locs cells slots ls D L)
theorem Rn.if_le {x : Int32} {off : Int} {tgt : Nat} (hd : decode K.1.2.1 pc = .ok (.ifCond .le off, 3)) (hp : pc + 3 = pc') (ht : (pc : Int) + off = (tgt : Int)) (kt : x ≤ 0 → Rn K Q tgt lv st h) (kf : ¬ x ≤ 0 → Rn K Q pc' lv st h) : Rn K Q pc lv (.int x :: st) h := by
  subst hp
  intro g p l e R s m args below meth c Z F kr H locs cells slots ls D L
  exact lv_if_le F.1 F.2.1 hd ht (fun q => kt q g p l e R s m args below meth c Z F kr H locs cells slots ls D L) (fun q => kf q g p l e R s m args below meth c Z F kr H locs cells slots ls D L)
theorem Rn.icmp_le {x y : Int32} {off : Int} {tgt : Nat} (hd : decode K.1.2.1 pc = .ok (.if_icmp .le off, 3)) (hp : pc + 3 = pc') (ht : (pc : Int) + off = (tgt : Int)) (kt : x ≤ y → Rn K Q tgt lv st h) (kf : ¬ x ≤ y → Rn K Q pc' lv st h) : Rn K Q pc lv (.int y :: .int x :: st) h := by
  subst hp
  intro g p l e R s m args below meth c Z F kr H locs cells slots ls D L
  exact lv_icmp_le F.1 F.2.1 hd ht (fun q => kt q g p l e R s m args below meth c Z F kr H locs cells slots ls D L) (fun q => kf q g p l e R s m args below meth c Z F kr H locs cells slots ls D L)
theorem Rn.goto {off : Int} {tgt : Nat} (hd : decode K.1.2.1 pc = .ok (.goto off, 3)) (ht : (pc : Int) + off = (tgt : Int)) (k : Rn K Q tgt lv st h) : Rn K Q pc lv st h := by
  intro g p l e R s m args below meth c Z F kr H locs cells slots ls D L
  exact lv_goto F.1 F.2.1 hd ht (k g p l e R s m args below meth c Z F kr H locs cells slots ls D L)
theorem Rn.tabIn {dflt lo hi : Int} {offs : Array Int} {len : Nat} {x : Int32} {off : Int} {tgt : Nat} (hd : decode K.1.2.1 pc = .ok (.tableswitch dflt lo hi offs, len)) (h1 : ¬ x.toInt < lo) (h2 : ¬ hi < x.toInt) (ho : offs[(x.toInt - lo).toNat]? = some off) (ht : (pc : Int) + off = (tgt : Int)) (k : Rn K Q tgt lv st h) : Rn K Q pc lv (.int x :: st) h := by
  intro g p l e R s m args below meth c Z F kr H locs cells slots ls D L
  exact lv_tableIn F.1 F.2.1 hd h1 h2 ho ht (k g p l e R s m args below meth c Z F kr H locs cells slots ls D L)
theorem Rn.tabOut {dflt lo hi : Int} {offs : Array Int} {len : Nat} {x : Int32} {tgt : Nat} (hd : decode K.1.2.1 pc = .ok (.tableswitch dflt lo hi offs, len)) (h1 : x.toInt < lo ∨ hi < x.toInt) (ht : (pc : Int) + dflt = (tgt : Int)) (k : Rn K Q tgt lv st h) : Rn K Q pc lv (.int x :: st) h := by
  intro g p l e R s m args below meth c Z F kr H locs cells slots ls D L
  exact lv_tableOut F.1 F.2.1 hd h1 ht (k g p l e R s m args below meth c Z F kr H locs cells slots ls D L)
theorem Rn.look {dflt : Int} {ps : Array (Int × Int)} {len : Nat} {x : Int32} {off : Int} {tgt : Nat} (hd : decode K.1.2.1 pc = .ok (.lookupswitch dflt ps, len)) (hq : (ps.toList.zip (ps.toList.drop 1)).all (fun (a, next) => a.1 < next.1) = true) (ho : Op.lookupswitch.offset ps.toList dflt x.toInt = off) (ht : (pc : Int) + off = (tgt : Int)) (k : Rn K Q tgt lv st h) : Rn K Q pc lv (.int x :: st) h := by
  intro g p l e R s m args below meth c Z F kr H locs cells slots ls D L
  exact lv_lookup F.1 F.2.1 hd hq ho ht (k g p l e R s m args below meth c Z F kr H locs cells slots ls D L)
theorem Rn.ret (hd : decode K.1.2.1 pc = .ok (.return_, 1)) (hr : K.1.2.2.2.1 = none) (h1 : h.1 = K.2.2.1) (h2 : h.2.1 = K.2.2.2) (k : Q none h) : Rn K Q pc lv [] h := by
  intro g p l e R s m args below meth c Z F kr H locs cells slots ls D L
  exact kr none h pc ls H locs cells slots k ⟨hd, hr⟩ h1 h2 D
theorem Rn.iret {x : Int32} (hd : decode K.1.2.1 pc = .ok (.ireturn, 1)) (hr : K.1.2.2.2.1 = some .int) (h1 : h.1 = K.2.2.1) (h2 : h.2.1 = K.2.2.2) (k : Q (some (.int x)) h) : Rn K Q pc lv [.int x] h := by
  intro g p l e R s m args below meth c Z F kr H locs cells slots ls D L
  exact kr (some (.int x)) h pc ls H locs cells slots k ⟨hd, _, hr, rfl⟩ h1 h2 D
theorem Rn.zret {x : Int32} (hd : decode K.1.2.1 pc = .ok (.ireturn, 1)) (hr : K.1.2.2.2.1 = some .boolean) (hx : x = 0 ∨ x = 1) (h1 : h.1 = K.2.2.1) (h2 : h.2.1 = K.2.2.2) (k : Q (some (.int x)) h) : Rn K Q pc lv [.int x] h := by
  intro g p l e R s m args below meth c Z F kr H locs cells slots ls D L
  exact kr (some (.int x)) h pc ls H locs cells slots k ⟨hd, _, hr, by rcases hx with rfl | rfl <;> rfl⟩ h1 h2 D
theorem Rn.lret {x : Int64} (hd : decode K.1.2.1 pc = .ok (.lreturn, 1)) (hr : K.1.2.2.2.1 = some .long) (h1 : h.1 = K.2.2.1) (h2 : h.2.1 = K.2.2.2) (k : Q (some (.long x)) h) : Rn K Q pc lv [.long x] h := by
  intro g p l e R s m args below meth c Z F kr H locs cells slots ls D L
  exact kr (some (.long x)) h pc ls H locs cells slots k ⟨hd, hr⟩ h1 h2 D
/-- what the machine's own count says of the heap -/
theorem W.size {p : Program} {l : Launch} {e : Env} {R : Room} {s : State} {m : MethodId} {args : Array Value} {below : List Frame} {meth : Method} {c : Code} {H : Heap} {locs : List Loc} {cells slots : Nat} {Z : State → Prop} {g : JFrame} (k : H.size ≤ s.heap.size + cells → W p l e R s m args below meth c H locs cells slots Z g) : W p l e R s m args below meth c H locs cells slots Z g := by
  intro T hT X
  exact k (hT ▸ X.heapSize) T hT X
theorem rDy.lt {g : rG} {N SL : Nat} {R : Room} {s : State} {H : Heap} {locs : List Loc} {cells slots : Nat} (hb : g.2.2.2.1 ≤ s.heap.size) (D : rDy g N SL R s h H locs cells slots) : g.2.2.2.1 + h.1 ≤ H.size := by
  obtain ⟨D1, D2, -⟩ := D
  by_cases h0 : h.1 = 0
  · rw [h0]; exact Nat.le_trans hb D2.1
  · have h1 := (D1 (h.1 - 1) _ (wl_get g h (by omega))).lt
    have h2 : g.2.2.2.1 + (h.1 - 1) < H.size := h1
    omega
theorem rWd_set {g : rG} {H1 : Heap} {o : Nat} (c : rCell) (hP : va_P g.1 rn_cl ((wl g h).set o (g.2.2.2.1 + o, rE g c)) H1) : rWd g (hs h o c) H1 := by
  rw [wl_set g h c _ _ rfl rfl] at hP
  exact hP
theorem rWd_push {g : rG} {H1 : Heap} {q : Nat} (k : Nat) (c : rCell) (e1 : q = g.2.2.2.1 + h.1) (hP : va_P g.1 rn_cl (wl g h ++ [(q, rE g c)]) H1) : rWd g (hn h k c) H1 := by
  rw [wl_push g h k c _ _ e1 rfl] at hP
  exact hP
/-- a field's entry: the class that asks, its entry, the object's class, the field's place -/
def rFl (own : String) (idx ci k : Nat) : Prop := ∃ C T N, rn_cl[ci]? = some (C, T, N) ∧ k < N ∧ (T k).1 = C ∧ (∀ w ∈ u_ws C T N, w ∈ rn_ws) ∧ (Cond.fieldLink own idx C (T k).2.1 (T k).2.2.1 ∈ rn_ws ∨ ∃ host, Cond.fieldLinkNest own idx C (T k).2.1 (T k).2.2.1 host ∈ rn_nest)
theorem Rn.getf {o ci f idx : Nat} {fs : List Value} {v : Value} (hf : rFl K.1.1.cls idx ci f) (hd : decode K.1.2.1 pc = .ok (.getfield idx, 3)) (hp : pc + 3 = pc') (ho : h.2.2 o = .inr (.inr (ci, fs))) (hlt : o < h.1) (hv : fs[f]? = some v) (k : Rn K Q pc' lv (v :: st) h) : Rn K Q pc lv (.ref o :: st) h := by
  subst hp
  intro g p l e R s m args below meth c Z F kr H locs cells slots ls D L
  obtain ⟨C, T, N, hc, hk, hC, hin, hlink⟩ := hf
  have he : (wl g h)[o]? = some (g.2.2.2.1 + o, .inr (ci, fs.map (rv g))) := by rw [wl_get g h hlt, ho]; rfl
  have hv' : (fs.map (rv g))[f]? = some (rv g v) := by rw [List.getElem?_map, hv]; rfl
  have kk := k g p l e R s m args below meth c Z F kr H locs cells slots ls D L
  rcases hlink with hl | ⟨host, hl⟩
  · exact va_get F.1 F.2.1 F.2.2.2.2.1 hin F.2.2.2.1 F.2.2.2.2.2.1 D.1 o he hc f hk (F.2.2.2.2.1 _ hl) (fun x hx => by rw [hC] at hx; exact hx) hv' hd kk
  · exact va_getN F.1 F.2.1 F.2.2.2.2.1 hin F.2.2.2.1 F.2.2.2.2.2.1 D.1 o he hc f hk (va_Nw.use rfl (F.2.2.2.2.2.2.2.2.2.2 _ hl)) (fun x hx => by rw [hC] at hx; exact hx) hv' hd kk
/-- an entry of a field that is put: its type; final or not -/
def rFp (own : String) (idx ci k : Nat) (ty : FieldType) (fin : Bool) : Prop := ∃ C T N, rn_cl[ci]? = some (C, T, N) ∧ k < N ∧ (T k).1 = C ∧ (∀ w ∈ u_ws C T N, w ∈ rn_ws) ∧ (Cond.fieldLink own idx C (T k).2.1 (T k).2.2.1 ∈ rn_ws ∨ (fin = false ∧ ∃ host, Cond.fieldLinkNest own idx C (T k).2.1 (T k).2.2.1 host ∈ rn_nest)) ∧
  (∃ ty0 : Nat → FieldType, ∀ k, k < N → parseFieldDescriptor (T k).2.2.1 = some (ty0 k)) ∧ (∀ a, a < N → ∀ b, b < N → a ≠ b → (T a).2.1 ≠ (T b).2.1) ∧ parseFieldDescriptor (T k).2.2.1 = some ty ∧ (T k).2.2.2 = fin ∧ (fin = true → C = own)
theorem Rn.putf {o ci f idx : Nat} {fs : List Value} {v : Value} {ty : FieldType} {fin : Bool} (hf : rFp K.1.1.cls idx ci f ty fin) (hfin : fin = true → K.1.1.name = "<init>") (hd : decode K.1.2.1 pc = .ok (.putfield idx, 3)) (hp : pc + 3 = pc') (ho : h.2.2 o = .inr (.inr (ci, fs))) (hlt : o < h.1) (hn : ∀ g : rG, narrow ty (rv g v) = rv g v ∧ fits ty (rv g v) = true) (hl : f < fs.length) (k : Rn K Q pc' lv st (hs h o (.inr (.inr (ci, fs.set f v))))) : Rn K Q pc lv (v :: .ref o :: st) h := by
  subst hp
  intro g p l e R s m args below meth c Z F kr H locs cells slots ls D L
  obtain ⟨C, T, N, hc, hk, hC, hin, hlink, ⟨ty0, hty⟩, hnm, hd2, hfn, hown⟩ := hf
  have he : (wl g h)[o]? = some (g.2.2.2.1 + o, .inr (ci, fs.map (rv g))) := by rw [wl_get g h hlt, ho]; rfl
  have hl' : f < (fs.map (rv g)).length := by rw [List.length_map]; exact hl
  have hset : (wl g h).set o (g.2.2.2.1 + o, .inr (ci, (fs.map (rv g)).set f (rv g v))) = wl g (hs h o (.inr (.inr (ci, fs.set f v)))) := wl_set g h _ _ _ rfl (by show _ = Sum.inr (ci, (fs.set f v).map (rv g)); rw [List.map_set])
  have kk : ∀ (H1 : Heap) (locs1 : List Loc), va_P g.1 rn_cl ((wl g h).set o (g.2.2.2.1 + o, .inr (ci, (fs.map (rv g)).set f (rv g v)))) H1 → va_D (rA g) ((wl g h).set o (g.2.2.2.1 + o, .inr (ci, (fs.map (rv g)).set f (rv g v)))) → va_S (rA g) s.heap H1 locs1 → W p l e R s m args below meth c H1 locs1 cells slots Z (F0 m (pc + 3) ls (st.map (rv g))) := by
    intro H1 locs1 hP1 _ hS1
    rw [hset] at hP1
    exact k g p l e R s m args below meth c Z F kr H1 locs1 cells slots ls ⟨hP1, hS1, D.2.2⟩ L
  rcases hlink with hl1 | ⟨hff, host, hl1⟩
  · cases fin with
    | false => exact va_put F.1 F.2.1 F.2.2.2.2.1 hin ty0 hty hnm F.2.2.2.1 F.2.2.2.2.2.1 D.1 (wl_D g h) D.2.1 o he hc f hk (F.2.2.2.2.1 _ hl1) (fun x hx => by rw [hC] at hx; exact hx) hfn hd2 (hn g).1 (hn g).2 hl' hd kk
    | true => exact va_putF F.1 F.2.1 F.2.2.2.2.1 hin ty0 hty hnm F.2.2.2.1 F.2.2.2.2.2.1 D.1 (wl_D g h) D.2.1 o he hc f hk (F.2.2.2.2.1 _ hl1) (fun x hx => by rw [hC] at hx; exact hx) hfn (F.2.2.2.2.2.2.2.2.2.1 (hfin rfl)) (hC.trans (hown rfl)) hd2 (hn g).1 (hn g).2 hl' hd kk
  · subst hff
    exact va_putN F.1 F.2.1 F.2.2.2.2.1 hin ty0 hty hnm F.2.2.2.1 F.2.2.2.2.2.1 D.1 (wl_D g h) D.2.1 o he hc f hk (va_Nw.use rfl (F.2.2.2.2.2.2.2.2.2.2 _ hl1)) (fun x hx => by rw [hC] at hx; exact hx) hfn hd2 (hn g).1 (hn g).2 hl' hd kk
theorem Rn.iald {o n : Nat} {f : Nat → Int32} {i : Int32} (hd : decode K.1.2.1 pc = .ok (.iaload, 1)) (hp : pc + 1 = pc') (ho : h.2.2 o = .inl (n, f)) (hlt : o < h.1) (hin : vp_in i n) (k : Rn K Q pc' lv (.int (f i.toNatClampNeg) :: st) h) : Rn K Q pc lv (.int i :: .ref o :: st) h := by
  subst hp
  intro g p l e R s m args below meth c Z F kr H locs cells slots ls D L
  have he : (wl g h)[o]? = some (g.2.2.2.1 + o, .inl (g.2.1, n, .inl f)) := by rw [wl_get g h hlt, ho]; rfl
  exact va_iald F.1 F.2.1 F.2.2.2.2.2.1 D.1 o 0 he rfl hin hd (k g p l e R s m args below meth c Z F kr H locs cells slots ls D L)
theorem Rn.zald {o n : Nat} {f : Nat → Int32} {i : Int32} (hd : decode K.1.2.1 pc = .ok (.baload, 1)) (hp : pc + 1 = pc') (ho : h.2.2 o = .inr (.inl (n, f))) (hlt : o < h.1) (hin : vp_in i n) (k : Rn K Q pc' lv (.int (f i.toNatClampNeg) :: st) h) : Rn K Q pc lv (.int i :: .ref o :: st) h := by
  subst hp
  intro g p l e R s m args below meth c Z F kr H locs cells slots ls D L
  have he : (wl g h)[o]? = some (g.2.2.2.1 + o, .inl (g.2.2.1, n, .inl f)) := by rw [wl_get g h hlt, ho]; rfl
  exact va_zald F.1 F.2.1 F.2.2.2.2.2.1 D.1 o 1 he rfl hin hd (k g p l e R s m args below meth c Z F kr H locs cells slots ls D L)
theorem Rn.iast {o n : Nat} {f : Nat → Int32} {i x : Int32} (hd : decode K.1.2.1 pc = .ok (.iastore, 1)) (hp : pc + 1 = pc') (ho : h.2.2 o = .inl (n, f)) (hlt : o < h.1) (hin : vp_in i n) (k : Rn K Q pc' lv st (hs h o (.inl (n, upd f i.toNatClampNeg x)))) : Rn K Q pc lv (.int x :: .int i :: .ref o :: st) h := by
  subst hp
  intro g p l e R s m args below meth c Z F kr H locs cells slots ls D L
  have he : (wl g h)[o]? = some (g.2.2.2.1 + o, .inl (g.2.1, n, .inl f)) := by rw [wl_get g h hlt, ho]; rfl
  refine va_iast F.1 F.2.1 F.2.2.2.2.2.1 D.1 (wl_D g h) D.2.1 o 0 he rfl hin hd (fun H1 locs1 hP1 _ hS1 => ?_)
  have hP1 := rWd_set (.inl (n, upd f i.toNatClampNeg x)) hP1
  exact k g p l e R s m args below meth c Z F kr H1 locs1 cells slots ls ⟨hP1, hS1, D.2.2⟩ L
theorem Rn.zast {o n : Nat} {f : Nat → Int32} {i x : Int32} (hd : decode K.1.2.1 pc = .ok (.bastore, 1)) (hp : pc + 1 = pc') (ho : h.2.2 o = .inr (.inl (n, f))) (hlt : o < h.1) (hin : vp_in i n) (k : Rn K Q pc' lv st (hs h o (.inr (.inl (n, upd f i.toNatClampNeg (vp_nar .boolean x)))))) : Rn K Q pc lv (.int x :: .int i :: .ref o :: st) h := by
  subst hp
  intro g p l e R s m args below meth c Z F kr H locs cells slots ls D L
  have he : (wl g h)[o]? = some (g.2.2.2.1 + o, .inl (g.2.2.1, n, .inl f)) := by rw [wl_get g h hlt, ho]; rfl
  refine va_zast F.1 F.2.1 F.2.2.2.2.2.1 D.1 (wl_D g h) D.2.1 o 1 he rfl hin hd (fun H1 locs1 hP1 _ hS1 => ?_)
  have hP1 := rWd_set (.inr (.inl (n, upd f i.toNatClampNeg (vp_nar .boolean x)))) hP1
  exact k g p l e R s m args below meth c Z F kr H1 locs1 cells slots ls ⟨hP1, hS1, D.2.2⟩ L
theorem Rn.sld {L0 : Nat} {xs : Nat → Int32} {b : UInt32} {i : Int32} (hX : K.2.1 = some (L0, xs)) (hd : decode K.1.2.1 pc = .ok (.iaload, 1)) (hp : pc + 1 = pc') (hin : vp_in i L0) (k : Rn K Q pc' lv (.int (xs i.toNatClampNeg) :: st) h) : Rn K Q pc lv (.int i :: .float b :: st) h := by
  subst hp
  intro g p l e R s m args below meth c Z F kr H locs cells slots ls D L
  obtain ⟨h1, h2⟩ := F.2.2.2.2.2.2.2.1 L0 xs hX
  exact va_sld F.1 F.2.1 h1 (Nat.lt_of_lt_of_le h2 F.2.2.2.2.2.2.1) (Nat.not_le.mpr h2) D.2.1 hin hd (k g p l e R s m args below meth c Z F kr H locs cells slots ls D L)
theorem Rn.slen {L0 : Nat} {xs : Nat → Int32} {b : UInt32} (hX : K.2.1 = some (L0, xs)) (hd : decode K.1.2.1 pc = .ok (.arraylength, 1)) (hp : pc + 1 = pc') (k : Rn K Q pc' lv (.int (Int32.ofNat L0) :: st) h) : Rn K Q pc lv (.float b :: st) h := by
  subst hp
  intro g p l e R s m args below meth c Z F kr H locs cells slots ls D L
  obtain ⟨h1, h2⟩ := F.2.2.2.2.2.2.2.1 L0 xs hX
  exact va_slen F.1 F.2.1 h1 (Nat.lt_of_lt_of_le h2 F.2.2.2.2.2.2.1) (Nat.not_le.mpr h2) D.2.1 hd (k g p l e R s m args below meth c Z F kr H locs cells slots ls D L)
theorem Rn.alen {o n : Nat} {f : Nat → Int32} (hd : decode K.1.2.1 pc = .ok (.arraylength, 1)) (hp : pc + 1 = pc') (ho : h.2.2 o = .inl (n, f)) (hlt : o < h.1) (k : Rn K Q pc' lv (.int (Int32.ofNat n) :: st) h) : Rn K Q pc lv (.ref o :: st) h := by
  subst hp
  intro g p l e R s m args below meth c Z F kr H locs cells slots ls D L
  have he : (wl g h)[o]? = some (g.2.2.2.1 + o, .inl (g.2.1, n, .inl f)) := by rw [wl_get g h hlt, ho]; rfl
  have hc : H[g.2.2.2.1 + o]? = some (arrV g.2.1 n (fun j => .int (f j))) := D.1 o _ he
  exact W.alen (n := Int32.ofNat n) F.1 F.2.1 hc ((F.2.2.2.2.2.1.2 0 _ rfl).1 n (fun j => .int (f j))) (by rw [arrV_size]) rfl rfl hd (k g p l e R s m args below meth c Z F kr H locs cells slots ls D L)
/-- a new array's place in the row of cells -/
theorem rn_place {g : rG} {H1 : Heap} {q : Nat} {e1 : va_E} (hP1 : va_P g.1 rn_cl (wl g h ++ [(q, e1)]) H1) (hD1 : va_D (rA g) (wl g h ++ [(q, e1)])) (hz : H1.size ≤ g.2.2.2.1 + h.1 + 1) : q = g.2.2.2.1 + h.1 := by
  have hl : (wl g h).length = h.1 := by simp [wl]
  have hq : (wl g h ++ [(q, e1)])[h.1]? = some (q, e1) := by rw [List.getElem?_append_right (by rw [hl]; exact Nat.le_refl _), hl, Nat.sub_self]; rfl
  have h1 : q < H1.size := (hP1 h.1 _ hq).lt
  have h2 : g.2.2.2.1 ≤ q := hD1.2 h.1 _ hq
  rcases Nat.lt_or_ge q (g.2.2.2.1 + h.1) with h3 | h3
  · have hi : q - g.2.2.2.1 < h.1 := by omega
    have h4 : (wl g h ++ [(q, e1)])[q - g.2.2.2.1]? = some (g.2.2.2.1 + (q - g.2.2.2.1), rE g (h.2.2 (q - g.2.2.2.1))) := by rw [List.getElem?_append_left (by rw [hl]; exact hi), wl_get g h hi]
    have h5 := hD1.1 h.1 (q - g.2.2.2.1) _ _ hq h4 (show q = g.2.2.2.1 + (q - g.2.2.2.1) by omega)
    omega
  · omega
theorem Rn.newi {n : Int32} {n0 : Nat} (hd : decode K.1.2.1 pc = .ok (.newarray .int, 2)) (hp : pc + 2 = pc') (hn0 : n = nI n0) (hsm : n0 < 100000) (hw : Cond.arrayClass .int ∈ rn_ws) (hN : h.1 + 1 ≤ K.2.2.1) (hS : h.2.1 + n0 ≤ K.2.2.2) (k : Rn K Q pc' lv (.ref h.1 :: st) (hn h n0 (.inl (n0, fun _ => 0)))) : Rn K Q pc lv (.int n :: st) h := by
  subst hp
  subst hn0
  intro g p l e R s m args below meth c Z F kr H locs cells slots ls D L
  obtain ⟨D1, D2, D3, D4, D5, D6, D7⟩ := D
  have hb := F.2.2.2.2.2.2.1
  refine va_newa (atype := .int) (a0 := (n0, .inl (fun _ => 0))) F.1 F.2.1 (F.2.2.2.2.1 _ hw) rfl F.2.2.2.2.2.1 D1 (wl_D g h) D2 (fun q hq => Nat.le_trans hb hq) (fun cA => rfl) (nI_pos (by omega)) (nI_clamp (by omega)) (by show n0 * 4 ≤ 536870912; omega) (by omega) (by omega) hd (fun q cA H1 hK1 hP1 hD1 hS1 => ?_)
  refine W.size (fun hz => ?_)
  have e1 := rn_place hP1 hD1 (by omega)
  have hcA : cA = g.2.1 := by
    have a1 : s.vm.findClass ("[" ++ FieldType.int.toString) = some cA := (hK1.2 2 (cA, .int) rfl).2
    have a2 : s.vm.findClass ("[" ++ FieldType.int.toString) = some g.2.1 := (hK1.2 0 (g.2.1, .int) rfl).2
    exact Option.some.inj (a1.symm.trans a2)
  subst hcA
  have hW1 := rWd_push n0 (.inl (n0, fun _ => 0)) e1 hP1
  subst e1
  exact k g p l e R s m args below meth c Z F kr H1 locs (cells + 1) (slots + n0) ls ⟨hW1, hS1, by show _ = _ + (h.1 + 1); omega, by show cells + 1 + (K.2.2.1 - (h.1 + 1)) ≤ _; omega, by show slots + n0 + (K.2.2.2 - (h.2.1 + n0)) ≤ _; omega, hN, hS⟩ L
theorem Rn.newz {n : Int32} {n0 : Nat} (hd : decode K.1.2.1 pc = .ok (.newarray .boolean, 2)) (hp : pc + 2 = pc') (hn0 : n = nI n0) (hsm : n0 < 100000) (hw : Cond.arrayClass .boolean ∈ rn_ws) (hN : h.1 + 1 ≤ K.2.2.1) (hS : h.2.1 + n0 ≤ K.2.2.2) (k : Rn K Q pc' lv (.ref h.1 :: st) (hn h n0 (.inr (.inl (n0, fun _ => 0))))) : Rn K Q pc lv (.int n :: st) h := by
  subst hp
  subst hn0
  intro g p l e R s m args below meth c Z F kr H locs cells slots ls D L
  obtain ⟨D1, D2, D3, D4, D5, D6, D7⟩ := D
  have hb := F.2.2.2.2.2.2.1
  refine va_newa (atype := .boolean) (a0 := (n0, .inl (fun _ => 0))) F.1 F.2.1 (F.2.2.2.2.1 _ hw) rfl F.2.2.2.2.2.1 D1 (wl_D g h) D2 (fun q hq => Nat.le_trans hb hq) (fun cA => rfl) (nI_pos (by omega)) (nI_clamp (by omega)) (by show n0 * 1 ≤ 536870912; omega) (by omega) (by omega) hd (fun q cA H1 hK1 hP1 hD1 hS1 => ?_)
  refine W.size (fun hz => ?_)
  have e1 := rn_place hP1 hD1 (by omega)
  have hcA : cA = g.2.2.1 := by
    have a1 : s.vm.findClass ("[" ++ FieldType.boolean.toString) = some cA := (hK1.2 2 (cA, .boolean) rfl).2
    have a2 : s.vm.findClass ("[" ++ FieldType.boolean.toString) = some g.2.2.1 := (hK1.2 1 (g.2.2.1, .boolean) rfl).2
    exact Option.some.inj (a1.symm.trans a2)
  subst hcA
  have hW1 := rWd_push n0 (.inr (.inl (n0, fun _ => 0))) e1 hP1
  subst e1
  exact k g p l e R s m args below meth c Z F kr H1 locs (cells + 1) (slots + n0) ls ⟨hW1, hS1, by show _ = _ + (h.1 + 1); omega, by show cells + 1 + (K.2.2.1 - (h.1 + 1)) ≤ _; omega, by show slots + n0 + (K.2.2.2 - (h.2.1 + n0)) ≤ _; omega, hN, hS⟩ L
/-- an entry of a class that is made -/
def rNw (own : String) (idx ci : Nat) (fs : List Value) : Prop := ∃ C T N, rn_cl[ci]? = some (C, T, N) ∧ (∀ w ∈ u_ws C T N, w ∈ rn_ws) ∧ Cond.classLink own idx C ∈ rn_ws ∧ Cond.instantiable C N ∈ rn_ws ∧ Cond.initialized C ∈ rn_ws ∧ fs.length = N ∧ (∃ ty0 : Nat → FieldType, (∀ k, k < N → parseFieldDescriptor (T k).2.2.1 = some (ty0 k)) ∧ ∀ k, k < N → defaultValue (ty0 k) = vp_V fs k) ∧ ∀ g : rG, fs.map (rv g) = fs
theorem Rn.new {idx ci : Nat} {fs : List Value} (hf : rNw K.1.1.cls idx ci fs) (hd : decode K.1.2.1 pc = .ok (.new idx, 3)) (hp : pc + 3 = pc') (hN : h.1 + 1 ≤ K.2.2.1) (hS : h.2.1 + fs.length ≤ K.2.2.2) (k : Rn K Q pc' lv (.ref h.1 :: st) (hn h fs.length (.inr (.inr (ci, fs))))) : Rn K Q pc lv st h := by
  subst hp
  intro g p l e R s m args below meth c Z F kr H locs cells slots ls D L
  obtain ⟨D1, D2, D3, D4, D5, D6, D7⟩ := D
  obtain ⟨C, T, N, hc, hin, hl1, hl2, hl3, hlen, ⟨ty0, hty, hdf⟩, hrv⟩ := hf
  subst hlen
  have hb := F.2.2.2.2.2.2.1
  refine va_new (fs := fs) F.1 F.2.1 F.2.2.2.2.1 hin ty0 hty F.2.2.2.1 (F.2.2.2.2.1 _ hl1) (F.2.2.2.2.1 _ hl2) (F.2.2.2.2.1 _ hl3) F.2.2.2.2.2.1 D1 (wl_D g h) D2 (fun q hq => Nat.le_trans hb hq) hc hdf (by omega) (by omega) hd (fun q H1 hP1 hD1 hS1 => ?_)
  refine W.size (fun hz => ?_)
  have e1 := rn_place hP1 hD1 (by omega)
  rw [wl_push g h fs.length (.inr (.inr (ci, fs))) _ _ e1 (by show _ = Sum.inr (ci, fs.map (rv g)); rw [hrv g])] at hP1
  subst e1
  exact k g p l e R s m args below meth c Z F kr H1 locs (cells + 1) (slots + fs.length) ls ⟨hP1, hS1, by show _ = _ + (h.1 + 1); omega, by show cells + 1 + (K.2.2.1 - (h.1 + 1)) ≤ _; omega, by show slots + fs.length + (K.2.2.2 - (h.2.1 + fs.length)) ≤ _; omega, hN, hS⟩ L
theorem Rn.oinit {o idx : Nat} (hw : Cond.methodLink K.1.1.cls idx Lib.objectInit ∈ rn_ws) (hw2 : Cond.instanceMethod Lib.objectInit ∈ rn_ws) (hw3 : Cond.code Lib.objectInit ⟨#[0xb1]⟩ 1 none ∈ rn_ws) (hfr : 1 ≤ K.1.2.2.2.2.1) (hlo : (st.map fun v => v.category).sum + 12 ≤ K.1.2.2.2.2.2) (hd : decode K.1.2.1 pc = .ok (.invokespecial idx, 3)) (hp : pc + 3 = pc') (k : Rn K Q pc' lv st h) : Rn K Q pc lv (.ref o :: st) h := by
  subst hp
  intro g p l e R s m args below meth c Z F kr H locs cells slots ls D L
  have hR := F.2.2.2.2.2.2.2.2.1
  have hcat : ((st.map (rv g)).map fun v => v.category).sum = (st.map fun v => v.category).sum := by rw [List.map_map]; congr 1; exact List.map_congr_left (fun v _ => rv_cat g v)
  exact W.objInit F.1 F.2.1 F.2.2.2.1 (F.2.2.2.2.1 _ hw) (F.2.2.2.2.1 _ hw2) (F.2.2.2.2.1 _ hw3) rfl (L.1.trans F.2.2.1.symm) rfl hd (Nat.le_trans hfr hR.1) (by show 2 * 0 + _ + 12 ≤ _; rw [hcat]; omega) (k g p l e R s m args below meth c Z F kr H locs cells slots ls D L)
theorem Rn.mmin {x y : Int32} {idx : Nat} (hw : Cond.methodLink K.1.1.cls idx Lib.Math.min.name ∈ rn_ws) (hw2 : Cond.static Lib.Math.min.name ∈ rn_ws) (hw3 : Cond.initialized "java/lang/Math" ∈ rn_ws) (hw4 : Cond.code Lib.Math.min.name Lib.Math.min.code 2 (some .int) ∈ rn_ws) (hfr : 1 ≤ K.1.2.2.2.2.1) (hlo : (st.map fun v => v.category).sum + 13 ≤ K.1.2.2.2.2.2) (hd : decode K.1.2.1 pc = .ok (.invokestatic idx, 3)) (hp : pc + 3 = pc') (k : Rn K Q pc' lv (.int (if y < x then y else x) :: st) h) : Rn K Q pc lv (.int y :: .int x :: st) h := by
  subst hp
  intro g p l e R s m args below meth c Z F kr H locs cells slots ls D L
  have hR := F.2.2.2.2.2.2.2.2.1
  have hcat : ((st.map (rv g)).map fun v => v.category).sum = (st.map fun v => v.category).sum := by rw [List.map_map]; congr 1; exact List.map_congr_left (fun v _ => rv_cat g v)
  exact va_mmin F.1 F.2.1 (F.2.2.1.trans L.1.symm) F.2.2.2.1 (F.2.2.2.2.1 _ hw) (F.2.2.2.2.1 _ hw2) (F.2.2.2.2.1 _ hw3) (F.2.2.2.2.1 _ hw4) (Nat.le_trans hfr hR.1) (by rw [hcat]; omega) (by have := D.2.2.2.1; omega) (by have := D.2.2.2.2.1; omega) hd (k g p l e R s m args below meth c Z F kr H locs cells slots ls D L)
theorem Rn.copy {o1 o2 n1 n2 idx a b c0 : Nat} {f1 f2 : Nat → Int32} {sp dp n : Int32} (hw : Cond.methodLink K.1.1.cls idx arraycopyName ∈ rn_ws) (hw2 : Cond.native arraycopyName ∈ rn_ws) (hw3 : Cond.static arraycopyName ∈ rn_ws) (hw4 : Cond.initialized "java/lang/System" ∈ rn_ws) (hfr : 1 ≤ K.1.2.2.2.2.1) (hlo : (st.map fun v => v.category).sum + (nativeFrameWords "java/lang/System" "arraycopy" 5 + 11) ≤ K.1.2.2.2.2.2) (hd : decode K.1.2.1 pc = .ok (.invokestatic idx, 3)) (hp : pc + 3 = pc') (ho1 : h.2.2 o1 = .inl (n1, f1)) (hlt1 : o1 < h.1) (ho2 : h.2.2 o2 = .inl (n2, f2)) (hlt2 : o2 < h.1) (es : sp = nI a) (ed : dp = nI b) (en : n = nI c0) (h1 : a + c0 ≤ n1) (h2 : b + c0 ≤ n2) (h3 : n1 < 100000) (h4 : n2 < 100000) (k : Rn K Q pc' lv st (hs h o2 (.inl (n2, va_cpy f1 f2 a b c0)))) : Rn K Q pc lv (.int n :: .int dp :: .ref o2 :: .int sp :: .ref o1 :: st) h := by
  subst hp
  subst es
  subst ed
  subst en
  intro g p l e R s m args below meth c Z F kr H locs cells slots ls D L
  have hR := F.2.2.2.2.2.2.2.2.1
  have hcat : ((st.map (rv g)).map fun v => v.category).sum = (st.map fun v => v.category).sum := by rw [List.map_map]; congr 1; exact List.map_congr_left (fun v _ => rv_cat g v)
  have he1 : (wl g h)[o1]? = some (g.2.2.2.1 + o1, .inl (g.2.1, n1, .inl f1)) := by rw [wl_get g h hlt1, ho1]; rfl
  have he2 : (wl g h)[o2]? = some (g.2.2.2.1 + o2, .inl (g.2.1, n2, .inl f2)) := by rw [wl_get g h hlt2, ho2]; rfl
  have ca : (nI a).toNatClampNeg = a := nI_clamp (by omega)
  have cb : (nI b).toNatClampNeg = b := nI_clamp (by omega)
  have cn : (nI c0).toNatClampNeg = c0 := nI_clamp (by omega)
  refine va_copyi F.1 F.2.1 (F.2.2.1.trans L.1.symm) F.2.2.2.1 (F.2.2.2.2.1 _ hw) (F.2.2.2.2.1 _ hw2) (F.2.2.2.2.1 _ hw3) (F.2.2.2.2.1 _ hw4) F.2.2.2.2.2.1 D.1 (wl_D g h) D.2.1 o1 o2 0 0 he1 he2 rfl rfl rfl (nI_pos (by omega)) (nI_pos (by omega)) (nI_pos (by omega)) (by rw [ca, cn]; exact h1) (by rw [cb, cn]; exact h2) (fun i _ => rfl) (Nat.le_trans hfr hR.1) (by rw [hcat]; omega) hd (fun H1 locs1 hP1 _ hS1 => ?_)
  rw [ca, cb, cn] at hP1
  have hP1 := rWd_set (.inl (n2, va_cpy f1 f2 a b c0)) hP1
  exact k g p l e R s m args below meth c Z F kr H1 locs1 cells slots ls ⟨hP1, hS1, D.2.2⟩ L
/-- a call's contract: from these arguments and this heap it returns, with an answer and a heap that Q takes -/
def rRm (M : rMd) (mc ms : Nat) : Room := { frames := M.2.2.2.2.1, cells := mc, slots := ms, locals := M.2.2.2.2.2 }
def rPc (g : rG) (as : List Value) (h : rHp) : Array Value → State → Prop := fun a U => a = (as.map (rv g)).toArray ∧ rWd g h U.heap ∧ U.heap.size = g.2.2.2.1 + h.1 ∧ va_K g.1 rn_cl [(g.2.1, .int), (g.2.2.1, .boolean)] U ∧ ∀ w ∈ rn_nest, va_Nw w U
def rQc (g : rG) (N SL : Nat) (Q : Option Value → rHp → Prop) : Array Value → State → Outcome → State → Prop := fun _ st oc t => ∃ (v : Option Value) (h' : rHp), oc = .returned (v.map (rv g)) ∧ Q v h' ∧ h'.1 = N ∧ h'.2.1 = SL ∧ rWd g h' t.heap ∧ va_F (rA g) st t
def rWs (M : rMd) : List Cond := Cond.code M.1 M.2.1 M.2.2.1 M.2.2.2.1 :: rn_ws
def Cl (M : rMd) (N SL : Nat) (as : List Value) (h : rHp) (Q : Option Value → rHp → Prop) : Prop :=
  h.1 ≤ N ∧ h.2.1 ≤ SL ∧ ∀ (l : Launch) (g : rG), Met l M.1 (rWs M) (rRm M (N - h.1) (SL - h.2.1)) (rPc g as h) (rQc g N SL Q) (N - h.1) (SL - h.2.1) (rA g)
theorem lg_sl_rv (g : rG) (as : List Value) : (lg_sl (as.map (rv g))).length = (lg_sl as).length := by
  unfold lg_sl
  induction as with
  | nil => rfl
  | cons a t ih =>
    rw [List.map_cons, List.flatMap_cons, List.flatMap_cons, List.length_append, List.length_append, ih, rv_cat]
    split <;> rfl
theorem lv_args_rv (g : rG) (as : List Value) : ∀ i : Nat, lv_args i (as.map (rv g)) = rLm g (lv_args i as) := by
  induction as with
  | nil => intro i; rfl
  | cons a t ih =>
    intro i
    show (i, rv g a) :: lv_args (if (rv g a).category = 2 then i + 2 else i + 1) (t.map (rv g)) = (i, rv g a) :: rLm g (lv_args (if a.category = 2 then i + 2 else i + 1) t)
    rw [rv_cat, ih]
theorem Cl.of {M : rMd} {N SL : Nat} {as : List Value} (hy : plainName M.1.cls = true) (hl : (lg_sl as).length ≤ M.2.2.1) (h1 : h.1 ≤ N) (h2 : h.2.1 ≤ SL) (k : Rn (M, none, N, SL) Q 0 (lv_args 0 as) [] h) : Cl M N SL as h Q := by
  refine ⟨h1, h2, fun l g => Met.ofW (cc := M.2.1) (maxL := M.2.2.1) (ret := M.2.2.2.1) hy rfl ?_⟩
  intro p e s m args below meth c s₁ B hml hv
  obtain ⟨rfl, w, hsz, hK, hN⟩ := hv
  have hx := B.exec
  have hb := B.bytes
  have hr := B.returns
  have hlocks := B.notSynchronized
  have hts := atoms_spec (ws := rWs M) B.pre
  have hown : s.vm.findClass M.1.cls = some m.cls := findClass_of_methodNamed B.named
  have hin : meth.name = M.1.name := (name_of_methodNamed B.named B.method).1
  have hl2 := lv_entry (as.map (rv g)) (n := M.2.2.1) (by rw [lg_sl_rv]; exact hl)
  rw [lv_args_rv] at hl2
  rw [lg_entry_eq]
  refine k g p l e (rRm M (N - h.1) (SL - h.2.1)) s m _ below meth c _ ⟨hx, hb, hml, hown, fun w hw => hts w (List.mem_cons_of_mem _ hw), hK, by rw [hsz]; exact Nat.le_add_right _ _, (fun L xs hX => by cases hX), ⟨Nat.le_refl _, Nat.le_refl _⟩, (fun hi => hin.trans hi), hN⟩ ?_ s.heap [] 0 0 _ ⟨w, va_S.rf, by rw [hsz]; rfl, by show 0 + (N - h.1) ≤ N - h.1; omega, by show 0 + (SL - h.2.1) ≤ SL - h.2.1; omega, h1, h2⟩ hl2
  intro v h' pc' ls H locs cells slots hq hret e1 e2 D
  obtain ⟨D1, D2, D3, D4, D5, D6, D7⟩ := D
  have e1 : h'.1 = N := e1
  have e2 : h'.2.1 = SL := e2
  have D4 : cells + (N - h'.1) ≤ N - h.1 := D4
  have D5 : slots + (SL - h'.2.1) ≤ SL - h.2.1 := D5
  refine W.widen (k := N - h.1) (n := SL - h.2.1) (by omega) (by omega) ?_
  have hqc : ∀ t : State, t.heap = H → s.WarmedH t.vm → rQc g N SL Q (as.map (rv g)).toArray s (.returned (v.map (rv g))) t := fun t ht hW => ⟨v, h', rfl, hq, e1, e2, by rw [ht]; exact D1, D2.F ht⟩
  match v, hret, hqc with
  | none, hret, hqc => exact W.vret hx hb (by rw [hr]; exact hret.2) hqc D2.2.2 hret.1
  | some (.int x), hret, hqc =>
    obtain ⟨r1, ty, r2, r3⟩ := hret
    exact W.zret hx hb (by rw [hr]; exact r2) r3 hqc D2.2.2 r1
  | some (.long x), hret, hqc => exact W.lret hx hb (by rw [hr]; exact hret.2) hqc D2.2.2 hret.1
theorem rPc_blind (g : rG) (as : List Value) (h : rHp) : FrameBlind (rPc g as h) := fun a U g' mk q => ⟨q.1, q.2.1, q.2.2.1, va_K.moved (u := U) (U := U.calling g' mk a) (Vm.Alike.refl U.vm) q.2.2.2.1, fun w hw => va_Nw.same (u := U) (U := U.calling g' mk a) (rn_nest_on hw) rfl (q.2.2.2.2 w hw)⟩
theorem stk_rv (g : rG) (v : Option Value) (rest : List Value) : (v.map (rv g)).toList ++ rest.map (rv g) = (v.toList ++ rest).map (rv g) := by cases v <;> rfl
/-- behind a call -/
theorem rn_after {g : rG} {p : Program} {l : Launch} {e : Env} {R : Room} {s : State} {m : MethodId} {args : Array Value} {below : List Frame} {meth : Method} {c : Code} {Z : State → Prop} {H : Heap} {locs : List Loc} {cells slots N' SL' : Nat} {ls : Array Slot} {rest st0 : List Value} {a : Array Value}
    (F : rFx K g p R s m args meth c) (D : rDy g K.2.2.1 K.2.2.2 R s h H locs cells slots) (L : lv_has ls K.1.2.2.1 (rLm g lv)) (hN0 : h.1 ≤ N') (hS0 : h.2.1 ≤ SL') (hN : N' ≤ K.2.2.1) (hS : SL' ≤ K.2.2.2)
    (kr : ∀ (v : Option Value) (h' : rHp) (pc' : Nat) (ls : Array Slot) (H : Heap) (locs : List Loc) (cells slots : Nat), Q v h' → rRet K.1 pc' v → h'.1 = K.2.2.1 → h'.2.1 = K.2.2.2 → rDy g K.2.2.1 K.2.2.2 R s h' H locs cells slots → W p l e R s m args below meth c H locs cells slots Z (F0 m pc' ls (v.map (rv g)).toList))
    (hr : va_Run p l e R s m args below meth c H locs cells slots (N' - h.1) (SL' - h.2.1) (F0 m pc ls st0) (rest.map (rv g)) (rQc g N' SL' (fun v h' => Rn K Q (pc + 3) lv (v.toList ++ rest) h') a) (rA g)) : W p l e R s m args below meth c H locs cells slots Z (F0 m pc ls st0) := by
  intro T hT X
  obtain ⟨v0, st₀, t, T', Lc, h0, X', hL, e1, e2, ⟨v, h', hv, hq, n1, n2, hw, hz, hk⟩, st⟩ := hr T hT X
  have hv : v0 = v.map (rv g) := by cases hv; rfl
  subst hv
  obtain ⟨D1, D2, D3, D4, D5, D6, D7⟩ := D
  rw [h0] at hz hk
  have K1 := hq g p l e R s m args below meth c Z F kr T'.heap (locs ++ Lc) (cells + (N' - h.1)) (slots + (SL' - h.2.1)) ls ⟨by rw [e1]; exact hw, ⟨Nat.le_trans D2.1 (by rw [e1]; exact hz), fun q g1 g2 => by rw [e1, hk q (Nat.lt_of_lt_of_le g1 D2.1) g2]; exact D2.2.1 q g1 g2, fun q hq => (List.mem_append.mp hq).elim (D2.2.2 q) (hL q)⟩, by omega, by omega, by omega, by omega, by omega⟩ L
  rw [← stk_rv] at K1
  obtain ⟨t2, a1, b1⟩ := K1 T' rfl X'
  exact ⟨t2, st t2 a1, b1⟩
/-- what the tables say of a method that is called on an object; of a static one; of a constructor -/
def rMm (M : rMd) (n : Nat) : Prop := Cond.initialized M.1.cls ∈ rn_ws ∧ Cond.code M.1 M.2.1 M.2.2.1 M.2.2.2.1 ∈ rn_ws ∧ (M.1.cls ≠ "java/lang/invoke/MethodHandle" ∧ M.1.cls ≠ "java/lang/invoke/VarHandle" ∧ (parseMethodDescriptor M.1.desc).map (fun d => d.parameters.length) = some n)
def rVm (M : rMd) (n : Nat) : Prop := rMm M n ∧ Cond.instanceMethod M.1 ∈ rn_ws ∧ Cond.selects M.1.cls M.1 M.1 ∈ rn_ws
def rSm (M : rMd) (n : Nat) : Prop := rMm M n ∧ Cond.static M.1 ∈ rn_ws
def rIm (M : rMd) (n : Nat) : Prop := rMm M n ∧ Cond.instanceMethod M.1 ∈ rn_ws ∧ M.1.name = "<init>" ∧ M.2.2.2.1 = none
/-- the callee's room in the caller's -/
def rRo (M M' : rMd) : Prop := M'.2.2.2.2.1 + 1 ≤ M.2.2.2.2.1 ∧ 8 + (M'.2.2.1 + 11) + M'.2.2.2.2.2 ≤ M.2.2.2.2.2
theorem rn_pre {g : rG} {p : Program} {R : Room} {s : State} {m : MethodId} {args : Array Value} {meth : Method} {c : Code} {H : Heap} {locs : List Loc} {cells slots : Nat} (F : rFx K g p R s m args meth c) (D : rDy g K.2.2.1 K.2.2.2 R s h H locs cells slots) (hz : H.size ≤ s.heap.size + cells) (as : List Value) : ∀ U : State, U.heap = H → s.WarmedH U.vm → rPc g as h (as.map (rv g)).toArray U := by
  intro U hU hW
  have h1 := D.lt F.2.2.2.2.2.2.1
  have h2 := D.2.2.1
  exact ⟨rfl, by rw [hU]; exact D.1, by rw [hU]; omega, va_K.moved hW.alike F.2.2.2.2.2.1, rn_nest_warm hW F.2.2.2.2.2.2.2.2.2.2⟩
theorem rn_cat (g : rG) (st : List Value) : ((st.map (rv g)).map fun v => v.category).sum = (st.map fun v => v.category).sum := by rw [List.map_map]; congr 1; exact List.map_congr_left (fun v _ => rv_cat g v)
theorem Rn.callV {M' : rMd} {N' SL' o idx ci : Nat} {as rest fs : List Value} (hm : rVm M' as.length) (hlk : Cond.methodLink K.1.1.cls idx M'.1 ∈ rn_ws) (hR : rRo K.1 M') (hd : decode K.1.2.1 pc = .ok (.invokevirtual idx, 3)) (hp : pc + 3 = pc') (hst : st = as.reverse ++ .ref o :: rest) (hW : (rest.map fun v => v.category).sum ≤ 8) (ho : h.2.2 o = .inr (.inr (ci, fs))) (hlt : o < h.1) (hc : (rn_cl[ci]?).map (fun q => q.1) = some M'.1.cls) (hN : N' ≤ K.2.2.1) (hS : SL' ≤ K.2.2.2) (k : Cl M' N' SL' (.ref o :: as) h (fun v h' => Rn K Q pc' lv (v.toList ++ rest) h')) : Rn K Q pc lv st h := by
  subst hp
  subst hst
  intro g p l e R s m args below meth c Z F kr H locs cells slots ls D L
  refine W.size (fun hz => ?_)
  obtain ⟨hN0, hS0, hM⟩ := k
  obtain ⟨⟨w1, w2, w3⟩, w4, w5⟩ := hm
  have hts := F.2.2.2.2.1
  have hRR := F.2.2.2.2.2.2.2.2.1
  have he : (wl g h)[o]? = some (g.2.2.2.1 + o, .inr (ci, fs.map (rv g))) := by rw [wl_get g h hlt, ho]; rfl
  have hrc : ∃ cell : Cell, H[g.2.2.2.1 + o]? = some cell ∧ cell.vm.isStatics = false ∧ s.vm.findClass M'.1.cls = some cell.cls := by
    cases hq : rn_cl[ci]? with
    | none => rw [hq] at hc; cases hc
    | some q =>
      rw [hq] at hc
      have e1 : q.1 = M'.1.cls := Option.some.inj hc
      have := va_recv F.2.2.2.2.2.1 D.1 hq he
      rw [e1] at this
      exact this
  have hcw : CallW R s args K.1.1.cls M'.1.cls idx M'.1 M'.2.1 M'.2.2.1 M'.2.2.2.1 (rWs M') (rRm M' (N' - h.1) (SL' - h.2.1)) (N' - h.1) (SL' - h.2.1) as.length := ⟨callB_of as.length hts (rn_good w2) rfl rfl rfl (hts _ w1) (hts _ hlk) w3 ⟨Nat.le_trans hR.1 hRR.1, Nat.le_trans hR.2 hRR.2⟩, hts _ w4, hts _ w5⟩
  have hD4 := D.2.2.2.1
  have hD5 := D.2.2.2.2.1
  refine rn_after F D L hN0 hS0 hN hS kr (va_runV (As := as.map (rv g)) (rest := rest.map (rv g)) ⟨F.1, F.2.1, F.2.2.1, F.2.2.2.1, hts⟩ (hM l g) hcw ⟨rPc_blind g _ h, hrc, ?_⟩ rfl (List.length_map _) L.1 ?_ (lv_room (by rw [rn_cat]; exact hW)) hd ⟨by omega, by omega⟩)
  · exact rn_pre F D hz (.ref o :: as)
  · show (as.reverse ++ .ref o :: rest).map (rv g) = _
    rw [List.map_append, List.map_reverse]
    rfl
theorem Rn.callS {M' : rMd} {N' SL' idx : Nat} {as rest : List Value} (hm : rSm M' as.length) (hlk : Cond.methodLink K.1.1.cls idx M'.1 ∈ rn_ws) (hR : rRo K.1 M') (hd : decode K.1.2.1 pc = .ok (.invokestatic idx, 3)) (hp : pc + 3 = pc') (hst : st = as.reverse ++ rest) (hW : (rest.map fun v => v.category).sum ≤ 8) (hN : N' ≤ K.2.2.1) (hS : SL' ≤ K.2.2.2) (k : Cl M' N' SL' as h (fun v h' => Rn K Q pc' lv (v.toList ++ rest) h')) : Rn K Q pc lv st h := by
  subst hp
  subst hst
  intro g p l e R s m args below meth c Z F kr H locs cells slots ls D L
  refine W.size (fun hz => ?_)
  obtain ⟨hN0, hS0, hM⟩ := k
  obtain ⟨⟨w1, w2, w3⟩, w4⟩ := hm
  have hts := F.2.2.2.2.1
  have hRR := F.2.2.2.2.2.2.2.2.1
  have hD4 := D.2.2.2.1
  have hD5 := D.2.2.2.2.1
  have hcw : CallB R s args K.1.1.cls idx M'.1 M'.2.1 M'.2.2.1 M'.2.2.2.1 (rWs M') (rRm M' (N' - h.1) (SL' - h.2.1)) (N' - h.1) (SL' - h.2.1) as.length ∧ (Cond.static M'.1).before args s = true := ⟨callB_of as.length hts (rn_good w2) rfl rfl rfl (hts _ w1) (hts _ hlk) w3 ⟨Nat.le_trans hR.1 hRR.1, Nat.le_trans hR.2 hRR.2⟩, hts _ w4⟩
  refine rn_after F D L hN0 hS0 hN hS kr (va_runS (As := as.map (rv g)) (rest := rest.map (rv g)) ⟨F.1, F.2.1, F.2.2.1, F.2.2.2.1, hts⟩ (hM l g) hcw ⟨rPc_blind g _ h, rn_pre F D hz as⟩ rfl (List.length_map _) L.1 ?_ (lv_room (by rw [rn_cat]; exact hW)) hd ⟨by omega, by omega⟩)
  show (as.reverse ++ rest).map (rv g) = _
  rw [List.map_append, List.map_reverse]
theorem Rn.callSN {M' : rMd} {N' SL' idx : Nat} {host : String} {as rest : List Value} (hm : rSm M' as.length) (hlk : Cond.methodLinkNest K.1.1.cls idx M'.1 host ∈ rn_nest) (hR : rRo K.1 M') (hd : decode K.1.2.1 pc = .ok (.invokestatic idx, 3)) (hp : pc + 3 = pc') (hst : st = as.reverse ++ rest) (hW : (rest.map fun v => v.category).sum ≤ 8) (hN : N' ≤ K.2.2.1) (hS : SL' ≤ K.2.2.2) (k : Cl M' N' SL' as h (fun v h' => Rn K Q pc' lv (v.toList ++ rest) h')) : Rn K Q pc lv st h := by
  subst hp
  subst hst
  intro g p l e R s m args below meth c Z F kr H locs cells slots ls D L
  refine W.size (fun hz => ?_)
  obtain ⟨hN0, hS0, hM⟩ := k
  obtain ⟨⟨w1, w2, w3⟩, w4⟩ := hm
  have hts := F.2.2.2.2.1
  have hRR := F.2.2.2.2.2.2.2.2.1
  have hD4 := D.2.2.2.1
  have hD5 := D.2.2.2.2.1
  have hcw : va_CN R s args K.1.1.cls idx M'.1 host M'.2.1 M'.2.2.1 M'.2.2.2.1 (rWs M') (rRm M' (N' - h.1) (SL' - h.2.1)) (N' - h.1) (SL' - h.2.1) as.length ∧ (Cond.static M'.1).before args s = true ∧ True := ⟨va_cnB as.length hts (rn_good w2) rfl rfl rfl (F.2.2.2.2.2.2.2.2.2.2 _ hlk) (hts _ w1) w3 ⟨Nat.le_trans hR.1 hRR.1, Nat.le_trans hR.2 hRR.2⟩, hts _ w4, trivial⟩
  refine rn_after F D L hN0 hS0 hN hS kr (va_runSN (As := as.map (rv g)) (rest := rest.map (rv g)) ⟨F.1, F.2.1, F.2.2.1, F.2.2.2.1, hts⟩ (hM l g) hcw ⟨rPc_blind g _ h, rn_pre F D hz as⟩ rfl (List.length_map _) L.1 ?_ (lv_room (by rw [rn_cat]; exact hW)) hd ⟨by omega, by omega⟩)
  show (as.reverse ++ rest).map (rv g) = _
  rw [List.map_append, List.map_reverse]
theorem Rn.callI {M' : rMd} {N' SL' o idx : Nat} {as rest : List Value} (hm : rIm M' as.length) (hlk : Cond.methodLink K.1.1.cls idx M'.1 ∈ rn_ws) (hR : rRo K.1 M') (hd : decode K.1.2.1 pc = .ok (.invokespecial idx, 3)) (hp : pc + 3 = pc') (hst : st = as.reverse ++ .ref o :: rest) (hW : (rest.map fun v => v.category).sum ≤ 8) (hN : N' ≤ K.2.2.1) (hS : SL' ≤ K.2.2.2) (k : Cl M' N' SL' (.ref o :: as) h (fun v h' => Rn K Q pc' lv (v.toList ++ rest) h')) : Rn K Q pc lv st h := by
  subst hp
  subst hst
  intro g p l e R s m args below meth c Z F kr H locs cells slots ls D L
  refine W.size (fun hz => ?_)
  obtain ⟨hN0, hS0, hM⟩ := k
  obtain ⟨⟨w1, w2, w3⟩, w4, w5, w6⟩ := hm
  have hts := F.2.2.2.2.1
  have hRR := F.2.2.2.2.2.2.2.2.1
  have hD4 := D.2.2.2.1
  have hD5 := D.2.2.2.2.1
  have hcw : CallB R s args K.1.1.cls idx M'.1 M'.2.1 M'.2.2.1 none (rWs M') (rRm M' (N' - h.1) (SL' - h.2.1)) (N' - h.1) (SL' - h.2.1) as.length ∧ M'.1.name = "<init>" ∧ (Cond.instanceMethod M'.1).before args s = true := ⟨callB_of (ws' := rn_ws) as.length hts (rn_good w2) (by unfold rWs; rw [w6]) rfl rfl (hts _ w1) (hts _ hlk) w3 ⟨Nat.le_trans hR.1 hRR.1, Nat.le_trans hR.2 hRR.2⟩, w5, hts _ w4⟩
  refine rn_after F D L hN0 hS0 hN hS kr (va_runI (As := as.map (rv g)) (rest := rest.map (rv g)) ⟨F.1, F.2.1, F.2.2.1, F.2.2.2.1, hts⟩ (hM l g) hcw ⟨rPc_blind g _ h, rn_pre F D hz (.ref o :: as)⟩ rfl (List.length_map _) L.1 ?_ (lv_room (by rw [rn_cat]; exact hW)) hd ⟨by omega, by omega⟩)
  show (as.reverse ++ .ref o :: rest).map (rv g) = _
  rw [List.map_append, List.map_reverse]
  rfl

end RN
end
section
theorem in_X0 : ∀ w ∈ u_ws RX0 TX0 1, w ∈ rn_ws := by
  show ∀ w ∈ [u_lay RX0 TX0 0], w ∈ rn_ws
  exact List.forall_mem_cons.mpr ⟨rn_mem (i := 76) (by decide +kernel) (by decide +kernel), fun _ h => absurd h List.not_mem_nil⟩
theorem in_X1 : ∀ w ∈ u_ws RX1 TX1 4, w ∈ rn_ws := by
  show ∀ w ∈ [u_lay RX1 TX1 0, u_lay RX1 TX1 1, u_lay RX1 TX1 2, u_lay RX1 TX1 3], w ∈ rn_ws
  exact List.forall_mem_cons.mpr ⟨rn_mem (i := 114) (by decide +kernel) (by decide +kernel), List.forall_mem_cons.mpr ⟨rn_mem (i := 116) (by decide +kernel) (by decide +kernel), List.forall_mem_cons.mpr ⟨rn_mem (i := 118) (by decide +kernel) (by decide +kernel), List.forall_mem_cons.mpr ⟨rn_mem (i := 120) (by decide +kernel) (by decide +kernel), fun _ h => absurd h List.not_mem_nil⟩⟩⟩⟩
theorem in_X2 : ∀ w ∈ u_ws RX2 TX2 5, w ∈ rn_ws := by
  show ∀ w ∈ [u_lay RX2 TX2 0, u_lay RX2 TX2 1, u_lay RX2 TX2 2, u_lay RX2 TX2 3, u_lay RX2 TX2 4], w ∈ rn_ws
  exact List.forall_mem_cons.mpr ⟨rn_mem (i := 91) (by decide +kernel) (by decide +kernel), List.forall_mem_cons.mpr ⟨rn_mem (i := 93) (by decide +kernel) (by decide +kernel), List.forall_mem_cons.mpr ⟨rn_mem (i := 95) (by decide +kernel) (by decide +kernel), List.forall_mem_cons.mpr ⟨rn_mem (i := 97) (by decide +kernel) (by decide +kernel), List.forall_mem_cons.mpr ⟨rn_mem (i := 99) (by decide +kernel) (by decide +kernel), fun _ h => absurd h List.not_mem_nil⟩⟩⟩⟩⟩
theorem in_X3 : ∀ w ∈ u_ws RX3 TX3 3, w ∈ rn_ws := by
  show ∀ w ∈ [u_lay RX3 TX3 0, u_lay RX3 TX3 1, u_lay RX3 TX3 2], w ∈ rn_ws
  exact List.forall_mem_cons.mpr ⟨rn_mem (i := 53) (by decide +kernel) (by decide +kernel), List.forall_mem_cons.mpr ⟨rn_mem (i := 55) (by decide +kernel) (by decide +kernel), List.forall_mem_cons.mpr ⟨rn_mem (i := 57) (by decide +kernel) (by decide +kernel), fun _ h => absurd h List.not_mem_nil⟩⟩⟩
theorem in_X4 : ∀ w ∈ u_ws RX4 TX4 6, w ∈ rn_ws := by
  show ∀ w ∈ [u_lay RX4 TX4 0, u_lay RX4 TX4 1, u_lay RX4 TX4 2, u_lay RX4 TX4 3, u_lay RX4 TX4 4, u_lay RX4 TX4 5], w ∈ rn_ws
  exact List.forall_mem_cons.mpr ⟨rn_mem (i := 129) (by decide +kernel) (by decide +kernel), List.forall_mem_cons.mpr ⟨rn_mem (i := 131) (by decide +kernel) (by decide +kernel), List.forall_mem_cons.mpr ⟨rn_mem (i := 133) (by decide +kernel) (by decide +kernel), List.forall_mem_cons.mpr ⟨rn_mem (i := 135) (by decide +kernel) (by decide +kernel), List.forall_mem_cons.mpr ⟨rn_mem (i := 137) (by decide +kernel) (by decide +kernel), List.forall_mem_cons.mpr ⟨rn_mem (i := 139) (by decide +kernel) (by decide +kernel), fun _ h => absurd h List.not_mem_nil⟩⟩⟩⟩⟩⟩
theorem in_X5 : ∀ w ∈ u_ws RX5 TX5 19, w ∈ rn_ws := by
  show ∀ w ∈ [u_lay RX5 TX5 0, u_lay RX5 TX5 1, u_lay RX5 TX5 2, u_lay RX5 TX5 3, u_lay RX5 TX5 4, u_lay RX5 TX5 5, u_lay RX5 TX5 6, u_lay RX5 TX5 7, u_lay RX5 TX5 8, u_lay RX5 TX5 9, u_lay RX5 TX5 10, u_lay RX5 TX5 11, u_lay RX5 TX5 12, u_lay RX5 TX5 13, u_lay RX5 TX5 14, u_lay RX5 TX5 15, u_lay RX5 TX5 16, u_lay RX5 TX5 17, u_lay RX5 TX5 18], w ∈ rn_ws
  exact List.forall_mem_cons.mpr ⟨rn_mem (i := 567) (by decide +kernel) (by decide +kernel), List.forall_mem_cons.mpr ⟨rn_mem (i := 569) (by decide +kernel) (by decide +kernel), List.forall_mem_cons.mpr ⟨rn_mem (i := 571) (by decide +kernel) (by decide +kernel), List.forall_mem_cons.mpr ⟨rn_mem (i := 573) (by decide +kernel) (by decide +kernel), List.forall_mem_cons.mpr ⟨rn_mem (i := 575) (by decide +kernel) (by decide +kernel), List.forall_mem_cons.mpr ⟨rn_mem (i := 577) (by decide +kernel) (by decide +kernel), List.forall_mem_cons.mpr ⟨rn_mem (i := 579) (by decide +kernel) (by decide +kernel), List.forall_mem_cons.mpr ⟨rn_mem (i := 581) (by decide +kernel) (by decide +kernel), List.forall_mem_cons.mpr ⟨rn_mem (i := 583) (by decide +kernel) (by decide +kernel), List.forall_mem_cons.mpr ⟨rn_mem (i := 585) (by decide +kernel) (by decide +kernel), List.forall_mem_cons.mpr ⟨rn_mem (i := 587) (by decide +kernel) (by decide +kernel), List.forall_mem_cons.mpr ⟨rn_mem (i := 589) (by decide +kernel) (by decide +kernel), List.forall_mem_cons.mpr ⟨rn_mem (i := 591) (by decide +kernel) (by decide +kernel), List.forall_mem_cons.mpr ⟨rn_mem (i := 593) (by decide +kernel) (by decide +kernel), List.forall_mem_cons.mpr ⟨rn_mem (i := 595) (by decide +kernel) (by decide +kernel), List.forall_mem_cons.mpr ⟨rn_mem (i := 597) (by decide +kernel) (by decide +kernel), List.forall_mem_cons.mpr ⟨rn_mem (i := 599) (by decide +kernel) (by decide +kernel), List.forall_mem_cons.mpr ⟨rn_mem (i := 601) (by decide +kernel) (by decide +kernel), List.forall_mem_cons.mpr ⟨rn_mem (i := 603) (by decide +kernel) (by decide +kernel), fun _ h => absurd h List.not_mem_nil⟩⟩⟩⟩⟩⟩⟩⟩⟩⟩⟩⟩⟩⟩⟩⟩⟩⟩⟩
abbrev M_J7_fill_53178 : rMd := (yJ7_fill_53178, cJ7_fill_53178, 4, none, 0, 0)
abbrev M_J9_min_7cf53 : rMd := (yJ9_min_7cf53, cJ9_min_7cf53, 2, some .int, 0, 0)
abbrev M_L_law : rMd := (yL_law, cL_law, 4, some .boolean, 9, 332)
abbrev M_X0_addUser : rMd := (yX0_addUser, cX0_addUser, 5, none, 2, 48)
abbrev M_X0_anyHasOwn : rMd := (yX0_anyHasOwn, cX0_anyHasOwn, 3, some .boolean, 2, 44)
abbrev M_X0_beginRow : rMd := (yX0_beginRow, cX0_beginRow, 5, none, 1, 24)
abbrev M_X0_bring : rMd := (yX0_bring, cX0_bring, 4, some .int, 2, 51)
abbrev M_X0_clear : rMd := (yX0_clear, cX0_clear, 1, none, 1, 23)
abbrev M_X0_copyFrom : rMd := (yX0_copyFrom, cX0_copyFrom, 2, none, 1, 38)
abbrev M_X0_countFitted : rMd := (yX0_countFitted, cX0_countFitted, 4, some .int, 2, 51)
abbrev M_X0_countFitting : rMd := (yX0_countFitting, cX0_countFitting, 4, some .int, 2, 51)
abbrev M_X0_fitOf : rMd := (yX0_fitOf, cX0_fitOf, 8, some .int, 1, 24)
abbrev M_X0_gapOf : rMd := (yX0_gapOf, cX0_gapOf, 4, some .int, 2, 51)
abbrev M_X0_has : rMd := (yX0_has, cX0_has, 2, some .boolean, 0, 0)
abbrev M_X0_hasOwn : rMd := (yX0_hasOwn, cX0_hasOwn, 2, some .boolean, 1, 23)
abbrev M_X0_heardAt : rMd := (yX0_heardAt, cX0_heardAt, 3, some .int, 0, 0)
abbrev M_X0_heardCount : rMd := (yX0_heardCount, cX0_heardCount, 1, some .int, 0, 0)
abbrev M_X0_init : rMd := (yX0_init, cX0_init, 1, none, 2, 43)
abbrev M_X0_isInStep : rMd := (yX0_isInStep, cX0_isInStep, 2, some .boolean, 2, 51)
abbrev M_X0_isWarned : rMd := (yX0_isWarned, cX0_isWarned, 2, some .boolean, 1, 23)
abbrev M_X0_leastFitting : rMd := (yX0_leastFitting, cX0_leastFitting, 3, some .int, 2, 51)
abbrev M_X0_leastFrom : rMd := (yX0_leastFrom, cX0_leastFrom, 6, some .int, 2, 51)
abbrev M_X0_leastStolen : rMd := (yX0_leastStolen, cX0_leastStolen, 5, some .int, 3, 76)
abbrev M_X0_lesser : rMd := (yX0_lesser, cX0_lesser, 2, some .int, 1, 21)
abbrev M_X0_numberIn : rMd := (yX0_numberIn, cX0_numberIn, 1, some .int, 0, 0)
abbrev M_X0_of : rMd := (yX0_of, cX0_of, 4, some .int, 0, 0)
abbrev M_X0_overhear : rMd := (yX0_overhear, cX0_overhear, 2, none, 0, 0)
abbrev M_X0_passOf : rMd := (yX0_passOf, cX0_passOf, 3, some .int, 1, 24)
abbrev M_X0_put : rMd := (yX0_put, cX0_put, 4, none, 0, 0)
abbrev M_X0_sendPass : rMd := (yX0_sendPass, cX0_sendPass, 2, some .int, 3, 74)
abbrev M_X0_setWindow : rMd := (yX0_setWindow, cX0_setWindow, 2, none, 0, 0)
abbrev M_X0_spendPass : rMd := (yX0_spendPass, cX0_spendPass, 3, some .boolean, 2, 44)
abbrev M_X0_userIn : rMd := (yX0_userIn, cX0_userIn, 1, some .int, 0, 0)
abbrev M_X0_users : rMd := (yX0_users, cX0_users, 1, some .int, 0, 0)
abbrev M_X0_window : rMd := (yX0_window, cX0_window, 1, some .int, 0, 0)
abbrev M_X0_wire : rMd := (yX0_wire, cX0_wire, 1, some .int, 0, 0)
abbrev M_X1_add : rMd := (yX1_add, cX1_add, 5, some .boolean, 0, 0)
abbrev M_X1_agrees : rMd := (yX1_agrees, cX1_agrees, 5, some .boolean, 1, 24)
abbrev M_X1_countSeeds : rMd := (yX1_countSeeds, cX1_countSeeds, 4, some .int, 2, 48)
abbrev M_X1_init : rMd := (yX1_init, cX1_init, 1, none, 1, 20)
abbrev M_X1_leastSeed : rMd := (yX1_leastSeed, cX1_leastSeed, 3, some .int, 2, 48)
abbrev M_X2_bringBack : rMd := (yX2_bringBack, cX2_bringBack, 4, some .boolean, 1, 38)
abbrev M_X2_forgetAll : rMd := (yX2_forgetAll, cX2_forgetAll, 2, none, 0, 0)
abbrev M_X2_init : rMd := (yX2_init, cX2_init, 1, none, 1, 20)
abbrev M_X2_keepIn : rMd := (yX2_keepIn, cX2_keepIn, 4, some .boolean, 1, 38)
abbrev M_X2_remember : rMd := (yX2_remember, cX2_remember, 2, none, 1, 38)
abbrev M_X2_takeBack : rMd := (yX2_takeBack, cX2_takeBack, 4, some .boolean, 1, 38)
abbrev M_X3_append : rMd := (yX3_append, cX3_append, 3, some .boolean, 0, 0)
abbrev M_X3_init : rMd := (yX3_init, cX3_init, 1, none, 1, 20)
abbrev M_X3_isNext : rMd := (yX3_isNext, cX3_isNext, 2, some .boolean, 1, 20)
abbrev M_X3_nextLetter : rMd := (yX3_nextLetter, cX3_nextLetter, 1, some .int, 0, 0)
abbrev M_X3_readDoing : rMd := (yX3_readDoing, cX3_readDoing, 4, some .boolean, 4, 95)
abbrev M_X3_readFigure : rMd := (yX3_readFigure, cX3_readFigure, 4, some .int, 1, 22)
abbrev M_X3_readInto : rMd := (yX3_readInto, cX3_readInto, 5, some .int, 5, 118)
abbrev M_X3_readNumber : rMd := (yX3_readNumber, cX3_readNumber, 4, some .int, 2, 45)
abbrev M_X3_readRowLength : rMd := (yX3_readRowLength, cX3_readRowLength, 3, some .int, 2, 45)
abbrev M_X3_readUser : rMd := (yX3_readUser, cX3_readUser, 5, some .boolean, 3, 72)
abbrev M_X4_again : rMd := (yX4_again, cX4_again, 2, some .int, 2, 61)
abbrev M_X4_attempt : rMd := (yX4_attempt, cX4_attempt, 3, some .int, 3, 74)
abbrev M_X4_behind : rMd := (yX4_behind, cX4_behind, 4, some .int, 2, 42)
abbrev M_X4_commonDivisor : rMd := (yX4_commonDivisor, cX4_commonDivisor, 11, some .long, 0, 0)
abbrev M_X4_count : rMd := (yX4_count, cX4_count, 2, some .int, 1, 20)
abbrev M_X4_desk : rMd := (yX4_desk, cX4_desk, 1, some .int, 6, 142)
abbrev M_X4_drawn : rMd := (yX4_drawn, cX4_drawn, 4, some .int, 5, 117)
abbrev M_X4_fault : rMd := (yX4_fault, cX4_fault, 1, some .int, 6, 142)
abbrev M_X4_fits : rMd := (yX4_fits, cX4_fits, 3, some .int, 2, 51)
abbrev M_X4_fitting : rMd := (yX4_fitting, cX4_fitting, 3, some .int, 3, 74)
abbrev M_X4_guess : rMd := (yX4_guess, cX4_guess, 8, some .int, 3, 74)
abbrev M_X4_hear : rMd := (yX4_hear, cX4_hear, 1, some .int, 2, 59)
abbrev M_X4_heard : rMd := (yX4_heard, cX4_heard, 2, some .int, 1, 22)
abbrev M_X4_init : rMd := (yX4_init, cX4_init, 1, none, 3, 63)
abbrev M_X4_isNumber : rMd := (yX4_isNumber, cX4_isNumber, 1, some .boolean, 1, 22)
abbrev M_X4_isSo : rMd := (yX4_isSo, cX4_isSo, 4, some .boolean, 5, 117)
abbrev M_X4_isTakenOnDay : rMd := (yX4_isTakenOnDay, cX4_isTakenOnDay, 3, some .boolean, 4, 95)
abbrev M_X4_isWithin : rMd := (yX4_isWithin, cX4_isWithin, 3, some .boolean, 0, 0)
abbrev M_X4_judge : rMd := (yX4_judge, cX4_judge, 6, some .int, 6, 140)
abbrev M_X4_keep : rMd := (yX4_keep, cX4_keep, 2, some .int, 2, 61)
abbrev M_X4_loopOf : rMd := (yX4_loopOf, cX4_loopOf, 2, some .int, 3, 70)
abbrev M_X4_loss : rMd := (yX4_loss, cX4_loss, 8, some .int, 5, 122)
abbrev M_X4_miss : rMd := (yX4_miss, cX4_miss, 2, some .int, 3, 66)
abbrev M_X4_pass : rMd := (yX4_pass, cX4_pass, 3, some .int, 2, 46)
abbrev M_X4_power : rMd := (yX4_power, cX4_power, 5, some .long, 0, 0)
abbrev M_X4_renew : rMd := (yX4_renew, cX4_renew, 6, some .int, 4, 95)
abbrev M_X4_returnOf : rMd := (yX4_returnOf, cX4_returnOf, 4, some .int, 1, 24)
abbrev M_X4_see : rMd := (yX4_see, cX4_see, 4, some .int, 2, 42)
abbrev M_X4_seed : rMd := (yX4_seed, cX4_seed, 5, some .long, 0, 0)
abbrev M_X4_send : rMd := (yX4_send, cX4_send, 2, some .int, 4, 95)
abbrev M_X4_sendInMind : rMd := (yX4_sendInMind, cX4_sendInMind, 3, some .boolean, 4, 95)
abbrev M_X4_share : rMd := (yX4_share, cX4_share, 7, some .int, 3, 74)
abbrev M_X4_stepsBehind : rMd := (yX4_stepsBehind, cX4_stepsBehind, 5, some .int, 0, 0)
abbrev M_X4_tailOf : rMd := (yX4_tailOf, cX4_tailOf, 4, some .int, 2, 47)
abbrev M_X4_thief : rMd := (yX4_thief, cX4_thief, 2, some .int, 4, 100)
abbrev M_X4_toldFraction : rMd := (yX4_toldFraction, cX4_toldFraction, 7, some .int, 1, 30)
abbrev M_X4_undo : rMd := (yX4_undo, cX4_undo, 1, some .int, 2, 61)
abbrev M_X4_unsee : rMd := (yX4_unsee, cX4_unsee, 2, some .int, 0, 0)
abbrev M_X4_user : rMd := (yX4_user, cX4_user, 3, some .int, 4, 91)
abbrev M_X4_weightInStep : rMd := (yX4_weightInStep, cX4_weightInStep, 8, some .long, 4, 95)
abbrev M_X4_which : rMd := (yX4_which, cX4_which, 2, some .int, 3, 71)
abbrev M_X4_widen : rMd := (yX4_widen, cX4_widen, 3, some .int, 2, 59)
abbrev M_X4_widenInMind : rMd := (yX4_widenInMind, cX4_widenInMind, 3, some .boolean, 1, 22)
abbrev M_X4_wipe : rMd := (yX4_wipe, cX4_wipe, 2, some .int, 0, 0)
abbrev M_X4_withoutDoings : rMd := (yX4_withoutDoings, cX4_withoutDoings, 6, some .long, 0, 0)
abbrev M_X4_write : rMd := (yX4_write, cX4_write, 2, some .int, 1, 22)
abbrev M_X5_after : rMd := (yX5_after, cX5_after, 5, some .int, 0, 0)
abbrev M_X5_again : rMd := (yX5_again, cX5_again, 3, some .int, 1, 25)
abbrev M_X5_attempt : rMd := (yX5_attempt, cX5_attempt, 3, some .int, 2, 47)
abbrev M_X5_behind : rMd := (yX5_behind, cX5_behind, 4, some .int, 2, 45)
abbrev M_X5_comeOn : rMd := (yX5_comeOn, cX5_comeOn, 4, some .int, 1, 24)
abbrev M_X5_count : rMd := (yX5_count, cX5_count, 2, some .int, 0, 0)
abbrev M_X5_desk : rMd := (yX5_desk, cX5_desk, 3, some .int, 5, 117)
abbrev M_X5_divisor : rMd := (yX5_divisor, cX5_divisor, 5, some .int, 0, 0)
abbrev M_X5_does : rMd := (yX5_does, cX5_does, 9, some .boolean, 4, 88)
abbrev M_X5_drawn : rMd := (yX5_drawn, cX5_drawn, 5, some .int, 3, 68)
abbrev M_X5_factorial : rMd := (yX5_factorial, cX5_factorial, 3, some .int, 0, 0)
abbrev M_X5_fault : rMd := (yX5_fault, cX5_fault, 1, some .int, 5, 117)
abbrev M_X5_figure : rMd := (yX5_figure, cX5_figure, 4, some .int, 1, 25)
abbrev M_X5_fits : rMd := (yX5_fits, cX5_fits, 3, some .int, 2, 46)
abbrev M_X5_fitsOn : rMd := (yX5_fitsOn, cX5_fitsOn, 5, some .int, 0, 0)
abbrev M_X5_fitting : rMd := (yX5_fitting, cX5_fitting, 5, some .int, 2, 49)
abbrev M_X5_fittingOf : rMd := (yX5_fittingOf, cX5_fittingOf, 6, some .int, 1, 24)
abbrev M_X5_fraction : rMd := (yX5_fraction, cX5_fraction, 4, some .int, 1, 24)
abbrev M_X5_gap : rMd := (yX5_gap, cX5_gap, 4, some .int, 4, 88)
abbrev M_X5_guess : rMd := (yX5_guess, cX5_guess, 5, some .int, 2, 49)
abbrev M_X5_has : rMd := (yX5_has, cX5_has, 2, some .boolean, 0, 0)
abbrev M_X5_hasPass : rMd := (yX5_hasPass, cX5_hasPass, 2, some .boolean, 2, 46)
abbrev M_X5_hear : rMd := (yX5_hear, cX5_hear, 1, some .int, 1, 21)
abbrev M_X5_heard : rMd := (yX5_heard, cX5_heard, 2, some .int, 1, 25)
abbrev M_X5_in : rMd := (yX5_in, cX5_in, 6, some .boolean, 0, 0)
abbrev M_X5_init : rMd := (yX5_init, cX5_init, 1, none, 1, 21)
abbrev M_X5_isInStep : rMd := (yX5_isInStep, cX5_isInStep, 2, some .boolean, 3, 67)
abbrev M_X5_isNumber : rMd := (yX5_isNumber, cX5_isNumber, 1, some .boolean, 1, 25)
abbrev M_X5_judge : rMd := (yX5_judge, cX5_judge, 6, some .int, 5, 116)
abbrev M_X5_keep : rMd := (yX5_keep, cX5_keep, 3, some .int, 1, 25)
abbrev M_X5_lay : rMd := (yX5_lay, cX5_lay, 3, none, 0, 0)
abbrev M_X5_layFirst : rMd := (yX5_layFirst, cX5_layFirst, 2, none, 0, 0)
abbrev M_X5_layLoop : rMd := (yX5_layLoop, cX5_layLoop, 4, some .int, 1, 24)
abbrev M_X5_layUser : rMd := (yX5_layUser, cX5_layUser, 5, none, 1, 24)
abbrev M_X5_longPower : rMd := (yX5_longPower, cX5_longPower, 6, some .long, 0, 0)
abbrev M_X5_loss : rMd := (yX5_loss, cX5_loss, 8, some .int, 4, 88)
abbrev M_X5_miss : rMd := (yX5_miss, cX5_miss, 2, some .int, 3, 67)
abbrev M_X5_noUser : rMd := (yX5_noUser, cX5_noUser, 2, some .boolean, 1, 25)
abbrev M_X5_note : rMd := (yX5_note, cX5_note, 2, none, 0, 0)
abbrev M_X5_ones : rMd := (yX5_ones, cX5_ones, 3, some .int, 0, 0)
abbrev M_X5_pass : rMd := (yX5_pass, cX5_pass, 3, some .int, 2, 46)
abbrev M_X5_passOf : rMd := (yX5_passOf, cX5_passOf, 3, some .int, 1, 24)
abbrev M_X5_power : rMd := (yX5_power, cX5_power, 4, some .int, 0, 0)
abbrev M_X5_readDesk : rMd := (yX5_readDesk, cX5_readDesk, 3, some .int, 4, 95)
abbrev M_X5_readEvent : rMd := (yX5_readEvent, cX5_readEvent, 4, some .boolean, 3, 67)
abbrev M_X5_readNumber : rMd := (yX5_readNumber, cX5_readNumber, 4, some .int, 2, 48)
abbrev M_X5_readUser : rMd := (yX5_readUser, cX5_readUser, 5, some .boolean, 3, 71)
abbrev M_X5_renew : rMd := (yX5_renew, cX5_renew, 6, some .int, 3, 68)
abbrev M_X5_see : rMd := (yX5_see, cX5_see, 4, some .int, 2, 45)
abbrev M_X5_seed : rMd := (yX5_seed, cX5_seed, 5, some .long, 0, 0)
abbrev M_X5_send : rMd := (yX5_send, cX5_send, 2, some .int, 3, 68)
abbrev M_X5_sendOn : rMd := (yX5_sendOn, cX5_sendOn, 2, some .int, 2, 47)
abbrev M_X5_share : rMd := (yX5_share, cX5_share, 7, some .int, 2, 49)
abbrev M_X5_thief : rMd := (yX5_thief, cX5_thief, 6, some .int, 2, 46)
abbrev M_X5_undo : rMd := (yX5_undo, cX5_undo, 2, some .int, 0, 0)
abbrev M_X5_unsee : rMd := (yX5_unsee, cX5_unsee, 2, some .int, 0, 0)
abbrev M_X5_user : rMd := (yX5_user, cX5_user, 3, some .int, 5, 111)
abbrev M_X5_which : rMd := (yX5_which, cX5_which, 8, some .int, 2, 46)
abbrev M_X5_widen : rMd := (yX5_widen, cX5_widen, 3, some .int, 1, 25)
abbrev M_X5_wipe : rMd := (yX5_wipe, cX5_wipe, 2, some .int, 0, 0)
abbrev M_X5_write : rMd := (yX5_write, cX5_write, 2, some .int, 1, 25)
theorem s_J7_fill_53178 : rSm M_J7_fill_53178 2 := ⟨⟨rn_mem (i := 29) (by decide +kernel) (by decide +kernel), rn_mem (i := 73) (by decide +kernel) (by decide +kernel), by decide +kernel, by decide +kernel, by decide +kernel⟩, rn_mem (i := 72) (by decide +kernel) (by decide +kernel)⟩
theorem v_X0_addUser : rVm M_X0_addUser 3 := ⟨⟨rn_mem (i := 28) (by decide +kernel) (by decide +kernel), rn_mem (i := 201) (by decide +kernel) (by decide +kernel), by decide +kernel, by decide +kernel, by decide +kernel⟩, rn_mem (i := 199) (by decide +kernel) (by decide +kernel), rn_mem (i := 200) (by decide +kernel) (by decide +kernel)⟩
theorem v_X0_anyHasOwn : rVm M_X0_anyHasOwn 0 := ⟨⟨rn_mem (i := 28) (by decide +kernel) (by decide +kernel), rn_mem (i := 220) (by decide +kernel) (by decide +kernel), by decide +kernel, by decide +kernel, by decide +kernel⟩, rn_mem (i := 218) (by decide +kernel) (by decide +kernel), rn_mem (i := 219) (by decide +kernel) (by decide +kernel)⟩
theorem v_X0_beginRow : rVm M_X0_beginRow 4 := ⟨⟨rn_mem (i := 28) (by decide +kernel) (by decide +kernel), rn_mem (i := 205) (by decide +kernel) (by decide +kernel), by decide +kernel, by decide +kernel, by decide +kernel⟩, rn_mem (i := 203) (by decide +kernel) (by decide +kernel), rn_mem (i := 204) (by decide +kernel) (by decide +kernel)⟩
theorem v_X0_bring : rVm M_X0_bring 2 := ⟨⟨rn_mem (i := 28) (by decide +kernel) (by decide +kernel), rn_mem (i := 249) (by decide +kernel) (by decide +kernel), by decide +kernel, by decide +kernel, by decide +kernel⟩, rn_mem (i := 247) (by decide +kernel) (by decide +kernel), rn_mem (i := 248) (by decide +kernel) (by decide +kernel)⟩
theorem v_X0_clear : rVm M_X0_clear 0 := ⟨⟨rn_mem (i := 28) (by decide +kernel) (by decide +kernel), rn_mem (i := 70) (by decide +kernel) (by decide +kernel), by decide +kernel, by decide +kernel, by decide +kernel⟩, rn_mem (i := 68) (by decide +kernel) (by decide +kernel), rn_mem (i := 69) (by decide +kernel) (by decide +kernel)⟩
theorem v_X0_copyFrom : rVm M_X0_copyFrom 1 := ⟨⟨rn_mem (i := 28) (by decide +kernel) (by decide +kernel), rn_mem (i := 265) (by decide +kernel) (by decide +kernel), by decide +kernel, by decide +kernel, by decide +kernel⟩, rn_mem (i := 263) (by decide +kernel) (by decide +kernel), rn_mem (i := 264) (by decide +kernel) (by decide +kernel)⟩
theorem v_X0_countFitted : rVm M_X0_countFitted 1 := ⟨⟨rn_mem (i := 28) (by decide +kernel) (by decide +kernel), rn_mem (i := 443) (by decide +kernel) (by decide +kernel), by decide +kernel, by decide +kernel, by decide +kernel⟩, rn_mem (i := 441) (by decide +kernel) (by decide +kernel), rn_mem (i := 442) (by decide +kernel) (by decide +kernel)⟩
theorem v_X0_countFitting : rVm M_X0_countFitting 1 := ⟨⟨rn_mem (i := 28) (by decide +kernel) (by decide +kernel), rn_mem (i := 391) (by decide +kernel) (by decide +kernel), by decide +kernel, by decide +kernel, by decide +kernel⟩, rn_mem (i := 389) (by decide +kernel) (by decide +kernel), rn_mem (i := 390) (by decide +kernel) (by decide +kernel)⟩
theorem v_X0_fitOf : rVm M_X0_fitOf 2 := ⟨⟨rn_mem (i := 28) (by decide +kernel) (by decide +kernel), rn_mem (i := 253) (by decide +kernel) (by decide +kernel), by decide +kernel, by decide +kernel, by decide +kernel⟩, rn_mem (i := 251) (by decide +kernel) (by decide +kernel), rn_mem (i := 252) (by decide +kernel) (by decide +kernel)⟩
theorem v_X0_gapOf : rVm M_X0_gapOf 1 := ⟨⟨rn_mem (i := 28) (by decide +kernel) (by decide +kernel), rn_mem (i := 291) (by decide +kernel) (by decide +kernel), by decide +kernel, by decide +kernel, by decide +kernel⟩, rn_mem (i := 289) (by decide +kernel) (by decide +kernel), rn_mem (i := 290) (by decide +kernel) (by decide +kernel)⟩
theorem v_X0_has : rVm M_X0_has 1 := ⟨⟨rn_mem (i := 28) (by decide +kernel) (by decide +kernel), rn_mem (i := 228) (by decide +kernel) (by decide +kernel), by decide +kernel, by decide +kernel, by decide +kernel⟩, rn_mem (i := 226) (by decide +kernel) (by decide +kernel), rn_mem (i := 227) (by decide +kernel) (by decide +kernel)⟩
theorem v_X0_hasOwn : rVm M_X0_hasOwn 1 := ⟨⟨rn_mem (i := 28) (by decide +kernel) (by decide +kernel), rn_mem (i := 224) (by decide +kernel) (by decide +kernel), by decide +kernel, by decide +kernel, by decide +kernel⟩, rn_mem (i := 222) (by decide +kernel) (by decide +kernel), rn_mem (i := 223) (by decide +kernel) (by decide +kernel)⟩
theorem v_X0_heardAt : rVm M_X0_heardAt 1 := ⟨⟨rn_mem (i := 28) (by decide +kernel) (by decide +kernel), rn_mem (i := 407) (by decide +kernel) (by decide +kernel), by decide +kernel, by decide +kernel, by decide +kernel⟩, rn_mem (i := 405) (by decide +kernel) (by decide +kernel), rn_mem (i := 406) (by decide +kernel) (by decide +kernel)⟩
theorem v_X0_heardCount : rVm M_X0_heardCount 0 := ⟨⟨rn_mem (i := 28) (by decide +kernel) (by decide +kernel), rn_mem (i := 349) (by decide +kernel) (by decide +kernel), by decide +kernel, by decide +kernel, by decide +kernel⟩, rn_mem (i := 347) (by decide +kernel) (by decide +kernel), rn_mem (i := 348) (by decide +kernel) (by decide +kernel)⟩
theorem i_X0_init : rIm M_X0_init 0 := ⟨⟨rn_mem (i := 28) (by decide +kernel) (by decide +kernel), rn_mem (i := 65) (by decide +kernel) (by decide +kernel), by decide +kernel, by decide +kernel, by decide +kernel⟩, rn_mem (i := 64) (by decide +kernel) (by decide +kernel), rfl, rfl⟩
theorem v_X0_isInStep : rVm M_X0_isInStep 1 := ⟨⟨rn_mem (i := 28) (by decide +kernel) (by decide +kernel), rn_mem (i := 283) (by decide +kernel) (by decide +kernel), by decide +kernel, by decide +kernel, by decide +kernel⟩, rn_mem (i := 281) (by decide +kernel) (by decide +kernel), rn_mem (i := 282) (by decide +kernel) (by decide +kernel)⟩
theorem v_X0_isWarned : rVm M_X0_isWarned 1 := ⟨⟨rn_mem (i := 28) (by decide +kernel) (by decide +kernel), rn_mem (i := 287) (by decide +kernel) (by decide +kernel), by decide +kernel, by decide +kernel, by decide +kernel⟩, rn_mem (i := 285) (by decide +kernel) (by decide +kernel), rn_mem (i := 286) (by decide +kernel) (by decide +kernel)⟩
theorem v_X0_leastFitting : rVm M_X0_leastFitting 1 := ⟨⟨rn_mem (i := 28) (by decide +kernel) (by decide +kernel), rn_mem (i := 395) (by decide +kernel) (by decide +kernel), by decide +kernel, by decide +kernel, by decide +kernel⟩, rn_mem (i := 393) (by decide +kernel) (by decide +kernel), rn_mem (i := 394) (by decide +kernel) (by decide +kernel)⟩
theorem v_X0_leastFrom : rVm M_X0_leastFrom 2 := ⟨⟨rn_mem (i := 28) (by decide +kernel) (by decide +kernel), rn_mem (i := 415) (by decide +kernel) (by decide +kernel), by decide +kernel, by decide +kernel, by decide +kernel⟩, rn_mem (i := 414) (by decide +kernel) (by decide +kernel), rn_mem (i := 8) (by decide +kernel) (by decide +kernel)⟩
theorem v_X0_leastStolen : rVm M_X0_leastStolen 1 := ⟨⟨rn_mem (i := 28) (by decide +kernel) (by decide +kernel), rn_mem (i := 403) (by decide +kernel) (by decide +kernel), by decide +kernel, by decide +kernel, by decide +kernel⟩, rn_mem (i := 401) (by decide +kernel) (by decide +kernel), rn_mem (i := 402) (by decide +kernel) (by decide +kernel)⟩
theorem s_X0_lesser : rSm M_X0_lesser 2 := ⟨⟨rn_mem (i := 28) (by decide +kernel) (by decide +kernel), rn_mem (i := 418) (by decide +kernel) (by decide +kernel), by decide +kernel, by decide +kernel, by decide +kernel⟩, rn_mem (i := 417) (by decide +kernel) (by decide +kernel)⟩
theorem s_X0_numberIn : rSm M_X0_numberIn 1 := ⟨⟨rn_mem (i := 28) (by decide +kernel) (by decide +kernel), rn_mem (i := 356) (by decide +kernel) (by decide +kernel), by decide +kernel, by decide +kernel, by decide +kernel⟩, rn_mem (i := 355) (by decide +kernel) (by decide +kernel)⟩
theorem v_X0_of : rVm M_X0_of 2 := ⟨⟨rn_mem (i := 28) (by decide +kernel) (by decide +kernel), rn_mem (i := 232) (by decide +kernel) (by decide +kernel), by decide +kernel, by decide +kernel, by decide +kernel⟩, rn_mem (i := 230) (by decide +kernel) (by decide +kernel), rn_mem (i := 231) (by decide +kernel) (by decide +kernel)⟩
theorem v_X0_overhear : rVm M_X0_overhear 0 := ⟨⟨rn_mem (i := 28) (by decide +kernel) (by decide +kernel), rn_mem (i := 353) (by decide +kernel) (by decide +kernel), by decide +kernel, by decide +kernel, by decide +kernel⟩, rn_mem (i := 351) (by decide +kernel) (by decide +kernel), rn_mem (i := 352) (by decide +kernel) (by decide +kernel)⟩
theorem v_X0_passOf : rVm M_X0_passOf 2 := ⟨⟨rn_mem (i := 28) (by decide +kernel) (by decide +kernel), rn_mem (i := 245) (by decide +kernel) (by decide +kernel), by decide +kernel, by decide +kernel, by decide +kernel⟩, rn_mem (i := 243) (by decide +kernel) (by decide +kernel), rn_mem (i := 244) (by decide +kernel) (by decide +kernel)⟩
theorem v_X0_put : rVm M_X0_put 3 := ⟨⟨rn_mem (i := 28) (by decide +kernel) (by decide +kernel), rn_mem (i := 209) (by decide +kernel) (by decide +kernel), by decide +kernel, by decide +kernel, by decide +kernel⟩, rn_mem (i := 208) (by decide +kernel) (by decide +kernel), rn_mem (i := 6) (by decide +kernel) (by decide +kernel)⟩
theorem v_X0_sendPass : rVm M_X0_sendPass 1 := ⟨⟨rn_mem (i := 28) (by decide +kernel) (by decide +kernel), rn_mem (i := 237) (by decide +kernel) (by decide +kernel), by decide +kernel, by decide +kernel, by decide +kernel⟩, rn_mem (i := 235) (by decide +kernel) (by decide +kernel), rn_mem (i := 236) (by decide +kernel) (by decide +kernel)⟩
theorem v_X0_setWindow : rVm M_X0_setWindow 1 := ⟨⟨rn_mem (i := 28) (by decide +kernel) (by decide +kernel), rn_mem (i := 181) (by decide +kernel) (by decide +kernel), by decide +kernel, by decide +kernel, by decide +kernel⟩, rn_mem (i := 179) (by decide +kernel) (by decide +kernel), rn_mem (i := 180) (by decide +kernel) (by decide +kernel)⟩
theorem v_X0_spendPass : rVm M_X0_spendPass 1 := ⟨⟨rn_mem (i := 28) (by decide +kernel) (by decide +kernel), rn_mem (i := 241) (by decide +kernel) (by decide +kernel), by decide +kernel, by decide +kernel, by decide +kernel⟩, rn_mem (i := 239) (by decide +kernel) (by decide +kernel), rn_mem (i := 240) (by decide +kernel) (by decide +kernel)⟩
theorem s_X0_userIn : rSm M_X0_userIn 1 := ⟨⟨rn_mem (i := 28) (by decide +kernel) (by decide +kernel), rn_mem (i := 410) (by decide +kernel) (by decide +kernel), by decide +kernel, by decide +kernel, by decide +kernel⟩, rn_mem (i := 409) (by decide +kernel) (by decide +kernel)⟩
theorem v_X0_users : rVm M_X0_users 0 := ⟨⟨rn_mem (i := 28) (by decide +kernel) (by decide +kernel), rn_mem (i := 185) (by decide +kernel) (by decide +kernel), by decide +kernel, by decide +kernel, by decide +kernel⟩, rn_mem (i := 183) (by decide +kernel) (by decide +kernel), rn_mem (i := 184) (by decide +kernel) (by decide +kernel)⟩
theorem v_X0_window : rVm M_X0_window 0 := ⟨⟨rn_mem (i := 28) (by decide +kernel) (by decide +kernel), rn_mem (i := 369) (by decide +kernel) (by decide +kernel), by decide +kernel, by decide +kernel, by decide +kernel⟩, rn_mem (i := 367) (by decide +kernel) (by decide +kernel), rn_mem (i := 368) (by decide +kernel) (by decide +kernel)⟩
theorem v_X0_wire : rVm M_X0_wire 0 := ⟨⟨rn_mem (i := 28) (by decide +kernel) (by decide +kernel), rn_mem (i := 345) (by decide +kernel) (by decide +kernel), by decide +kernel, by decide +kernel, by decide +kernel⟩, rn_mem (i := 343) (by decide +kernel) (by decide +kernel), rn_mem (i := 344) (by decide +kernel) (by decide +kernel)⟩
theorem v_X1_add : rVm M_X1_add 3 := ⟨⟨rn_mem (i := 31) (by decide +kernel) (by decide +kernel), rn_mem (i := 455) (by decide +kernel) (by decide +kernel), by decide +kernel, by decide +kernel, by decide +kernel⟩, rn_mem (i := 453) (by decide +kernel) (by decide +kernel), rn_mem (i := 454) (by decide +kernel) (by decide +kernel)⟩
theorem v_X1_agrees : rVm M_X1_agrees 2 := ⟨⟨rn_mem (i := 31) (by decide +kernel) (by decide +kernel), rn_mem (i := 471) (by decide +kernel) (by decide +kernel), by decide +kernel, by decide +kernel, by decide +kernel⟩, rn_mem (i := 470) (by decide +kernel) (by decide +kernel), rn_mem (i := 12) (by decide +kernel) (by decide +kernel)⟩
theorem v_X1_countSeeds : rVm M_X1_countSeeds 1 := ⟨⟨rn_mem (i := 31) (by decide +kernel) (by decide +kernel), rn_mem (i := 467) (by decide +kernel) (by decide +kernel), by decide +kernel, by decide +kernel, by decide +kernel⟩, rn_mem (i := 465) (by decide +kernel) (by decide +kernel), rn_mem (i := 466) (by decide +kernel) (by decide +kernel)⟩
theorem i_X1_init : rIm M_X1_init 0 := ⟨⟨rn_mem (i := 31) (by decide +kernel) (by decide +kernel), rn_mem (i := 107) (by decide +kernel) (by decide +kernel), by decide +kernel, by decide +kernel, by decide +kernel⟩, rn_mem (i := 106) (by decide +kernel) (by decide +kernel), rfl, rfl⟩
theorem v_X1_leastSeed : rVm M_X1_leastSeed 1 := ⟨⟨rn_mem (i := 31) (by decide +kernel) (by decide +kernel), rn_mem (i := 478) (by decide +kernel) (by decide +kernel), by decide +kernel, by decide +kernel, by decide +kernel⟩, rn_mem (i := 476) (by decide +kernel) (by decide +kernel), rn_mem (i := 477) (by decide +kernel) (by decide +kernel)⟩
theorem v_X2_bringBack : rVm M_X2_bringBack 2 := ⟨⟨rn_mem (i := 30) (by decide +kernel) (by decide +kernel), rn_mem (i := 534) (by decide +kernel) (by decide +kernel), by decide +kernel, by decide +kernel, by decide +kernel⟩, rn_mem (i := 532) (by decide +kernel) (by decide +kernel), rn_mem (i := 533) (by decide +kernel) (by decide +kernel)⟩
theorem v_X2_forgetAll : rVm M_X2_forgetAll 0 := ⟨⟨rn_mem (i := 30) (by decide +kernel) (by decide +kernel), rn_mem (i := 272) (by decide +kernel) (by decide +kernel), by decide +kernel, by decide +kernel, by decide +kernel⟩, rn_mem (i := 270) (by decide +kernel) (by decide +kernel), rn_mem (i := 271) (by decide +kernel) (by decide +kernel)⟩
theorem i_X2_init : rIm M_X2_init 0 := ⟨⟨rn_mem (i := 30) (by decide +kernel) (by decide +kernel), rn_mem (i := 83) (by decide +kernel) (by decide +kernel), by decide +kernel, by decide +kernel, by decide +kernel⟩, rn_mem (i := 82) (by decide +kernel) (by decide +kernel), rfl, rfl⟩
theorem v_X2_keepIn : rVm M_X2_keepIn 2 := ⟨⟨rn_mem (i := 30) (by decide +kernel) (by decide +kernel), rn_mem (i := 526) (by decide +kernel) (by decide +kernel), by decide +kernel, by decide +kernel, by decide +kernel⟩, rn_mem (i := 524) (by decide +kernel) (by decide +kernel), rn_mem (i := 525) (by decide +kernel) (by decide +kernel)⟩
theorem v_X2_remember : rVm M_X2_remember 1 := ⟨⟨rn_mem (i := 30) (by decide +kernel) (by decide +kernel), rn_mem (i := 323) (by decide +kernel) (by decide +kernel), by decide +kernel, by decide +kernel, by decide +kernel⟩, rn_mem (i := 321) (by decide +kernel) (by decide +kernel), rn_mem (i := 322) (by decide +kernel) (by decide +kernel)⟩
theorem v_X2_takeBack : rVm M_X2_takeBack 1 := ⟨⟨rn_mem (i := 30) (by decide +kernel) (by decide +kernel), rn_mem (i := 378) (by decide +kernel) (by decide +kernel), by decide +kernel, by decide +kernel, by decide +kernel⟩, rn_mem (i := 376) (by decide +kernel) (by decide +kernel), rn_mem (i := 377) (by decide +kernel) (by decide +kernel)⟩
theorem v_X3_append : rVm M_X3_append 1 := ⟨⟨rn_mem (i := 27) (by decide +kernel) (by decide +kernel), rn_mem (i := 149) (by decide +kernel) (by decide +kernel), by decide +kernel, by decide +kernel, by decide +kernel⟩, rn_mem (i := 147) (by decide +kernel) (by decide +kernel), rn_mem (i := 148) (by decide +kernel) (by decide +kernel)⟩
theorem i_X3_init : rIm M_X3_init 0 := ⟨⟨rn_mem (i := 27) (by decide +kernel) (by decide +kernel), rn_mem (i := 47) (by decide +kernel) (by decide +kernel), by decide +kernel, by decide +kernel, by decide +kernel⟩, rn_mem (i := 46) (by decide +kernel) (by decide +kernel), rfl, rfl⟩
theorem v_X3_isNext : rVm M_X3_isNext 1 := ⟨⟨rn_mem (i := 27) (by decide +kernel) (by decide +kernel), rn_mem (i := 166) (by decide +kernel) (by decide +kernel), by decide +kernel, by decide +kernel, by decide +kernel⟩, rn_mem (i := 165) (by decide +kernel) (by decide +kernel), rn_mem (i := 0) (by decide +kernel) (by decide +kernel)⟩
theorem v_X3_nextLetter : rVm M_X3_nextLetter 0 := ⟨⟨rn_mem (i := 27) (by decide +kernel) (by decide +kernel), rn_mem (i := 170) (by decide +kernel) (by decide +kernel), by decide +kernel, by decide +kernel, by decide +kernel⟩, rn_mem (i := 169) (by decide +kernel) (by decide +kernel), rn_mem (i := 1) (by decide +kernel) (by decide +kernel)⟩
theorem v_X3_readDoing : rVm M_X3_readDoing 1 := ⟨⟨rn_mem (i := 27) (by decide +kernel) (by decide +kernel), rn_mem (i := 216) (by decide +kernel) (by decide +kernel), by decide +kernel, by decide +kernel, by decide +kernel⟩, rn_mem (i := 215) (by decide +kernel) (by decide +kernel), rn_mem (i := 7) (by decide +kernel) (by decide +kernel)⟩
theorem v_X3_readFigure : rVm M_X3_readFigure 2 := ⟨⟨rn_mem (i := 27) (by decide +kernel) (by decide +kernel), rn_mem (i := 174) (by decide +kernel) (by decide +kernel), by decide +kernel, by decide +kernel, by decide +kernel⟩, rn_mem (i := 173) (by decide +kernel) (by decide +kernel), rn_mem (i := 2) (by decide +kernel) (by decide +kernel)⟩
theorem v_X3_readInto : rVm M_X3_readInto 1 := ⟨⟨rn_mem (i := 27) (by decide +kernel) (by decide +kernel), rn_mem (i := 161) (by decide +kernel) (by decide +kernel), by decide +kernel, by decide +kernel, by decide +kernel⟩, rn_mem (i := 159) (by decide +kernel) (by decide +kernel), rn_mem (i := 160) (by decide +kernel) (by decide +kernel)⟩
theorem v_X3_readNumber : rVm M_X3_readNumber 0 := ⟨⟨rn_mem (i := 27) (by decide +kernel) (by decide +kernel), rn_mem (i := 193) (by decide +kernel) (by decide +kernel), by decide +kernel, by decide +kernel, by decide +kernel⟩, rn_mem (i := 192) (by decide +kernel) (by decide +kernel), rn_mem (i := 4) (by decide +kernel) (by decide +kernel)⟩
theorem v_X3_readRowLength : rVm M_X3_readRowLength 0 := ⟨⟨rn_mem (i := 27) (by decide +kernel) (by decide +kernel), rn_mem (i := 197) (by decide +kernel) (by decide +kernel), by decide +kernel, by decide +kernel, by decide +kernel⟩, rn_mem (i := 196) (by decide +kernel) (by decide +kernel), rn_mem (i := 5) (by decide +kernel) (by decide +kernel)⟩
theorem v_X3_readUser : rVm M_X3_readUser 1 := ⟨⟨rn_mem (i := 27) (by decide +kernel) (by decide +kernel), rn_mem (i := 189) (by decide +kernel) (by decide +kernel), by decide +kernel, by decide +kernel, by decide +kernel⟩, rn_mem (i := 188) (by decide +kernel) (by decide +kernel), rn_mem (i := 3) (by decide +kernel) (by decide +kernel)⟩
theorem v_X4_again : rVm M_X4_again 1 := ⟨⟨rn_mem (i := 26) (by decide +kernel) (by decide +kernel), rn_mem (i := 530) (by decide +kernel) (by decide +kernel), by decide +kernel, by decide +kernel, by decide +kernel⟩, rn_mem (i := 528) (by decide +kernel) (by decide +kernel), rn_mem (i := 529) (by decide +kernel) (by decide +kernel)⟩
theorem v_X4_attempt : rVm M_X4_attempt 2 := ⟨⟨rn_mem (i := 26) (by decide +kernel) (by decide +kernel), rn_mem (i := 336) (by decide +kernel) (by decide +kernel), by decide +kernel, by decide +kernel, by decide +kernel⟩, rn_mem (i := 334) (by decide +kernel) (by decide +kernel), rn_mem (i := 335) (by decide +kernel) (by decide +kernel)⟩
theorem v_X4_behind : rVm M_X4_behind 3 := ⟨⟨rn_mem (i := 26) (by decide +kernel) (by decide +kernel), rn_mem (i := 310) (by decide +kernel) (by decide +kernel), by decide +kernel, by decide +kernel, by decide +kernel⟩, rn_mem (i := 308) (by decide +kernel) (by decide +kernel), rn_mem (i := 309) (by decide +kernel) (by decide +kernel)⟩
theorem s_X4_commonDivisor : rSm M_X4_commonDivisor 2 := ⟨⟨rn_mem (i := 26) (by decide +kernel) (by decide +kernel), rn_mem (i := 489) (by decide +kernel) (by decide +kernel), by decide +kernel, by decide +kernel, by decide +kernel⟩, rn_mem (i := 488) (by decide +kernel) (by decide +kernel)⟩
theorem v_X4_count : rVm M_X4_count 1 := ⟨⟨rn_mem (i := 26) (by decide +kernel) (by decide +kernel), rn_mem (i := 538) (by decide +kernel) (by decide +kernel), by decide +kernel, by decide +kernel, by decide +kernel⟩, rn_mem (i := 536) (by decide +kernel) (by decide +kernel), rn_mem (i := 537) (by decide +kernel) (by decide +kernel)⟩
theorem v_X4_desk : rVm M_X4_desk 0 := ⟨⟨rn_mem (i := 26) (by decide +kernel) (by decide +kernel), rn_mem (i := 261) (by decide +kernel) (by decide +kernel), by decide +kernel, by decide +kernel, by decide +kernel⟩, rn_mem (i := 259) (by decide +kernel) (by decide +kernel), rn_mem (i := 260) (by decide +kernel) (by decide +kernel)⟩
theorem v_X4_drawn : rVm M_X4_drawn 1 := ⟨⟨rn_mem (i := 26) (by decide +kernel) (by decide +kernel), rn_mem (i := 512) (by decide +kernel) (by decide +kernel), by decide +kernel, by decide +kernel, by decide +kernel⟩, rn_mem (i := 510) (by decide +kernel) (by decide +kernel), rn_mem (i := 511) (by decide +kernel) (by decide +kernel)⟩
theorem v_X4_fault : rVm M_X4_fault 0 := ⟨⟨rn_mem (i := 26) (by decide +kernel) (by decide +kernel), rn_mem (i := 157) (by decide +kernel) (by decide +kernel), by decide +kernel, by decide +kernel, by decide +kernel⟩, rn_mem (i := 155) (by decide +kernel) (by decide +kernel), rn_mem (i := 156) (by decide +kernel) (by decide +kernel)⟩
theorem v_X4_fits : rVm M_X4_fits 2 := ⟨⟨rn_mem (i := 26) (by decide +kernel) (by decide +kernel), rn_mem (i := 382) (by decide +kernel) (by decide +kernel), by decide +kernel, by decide +kernel, by decide +kernel⟩, rn_mem (i := 380) (by decide +kernel) (by decide +kernel), rn_mem (i := 381) (by decide +kernel) (by decide +kernel)⟩
theorem v_X4_fitting : rVm M_X4_fitting 2 := ⟨⟨rn_mem (i := 26) (by decide +kernel) (by decide +kernel), rn_mem (i := 387) (by decide +kernel) (by decide +kernel), by decide +kernel, by decide +kernel, by decide +kernel⟩, rn_mem (i := 385) (by decide +kernel) (by decide +kernel), rn_mem (i := 386) (by decide +kernel) (by decide +kernel)⟩
theorem v_X4_guess : rVm M_X4_guess 3 := ⟨⟨rn_mem (i := 26) (by decide +kernel) (by decide +kernel), rn_mem (i := 493) (by decide +kernel) (by decide +kernel), by decide +kernel, by decide +kernel, by decide +kernel⟩, rn_mem (i := 491) (by decide +kernel) (by decide +kernel), rn_mem (i := 492) (by decide +kernel) (by decide +kernel)⟩
theorem v_X4_hear : rVm M_X4_hear 0 := ⟨⟨rn_mem (i := 26) (by decide +kernel) (by decide +kernel), rn_mem (i := 341) (by decide +kernel) (by decide +kernel), by decide +kernel, by decide +kernel, by decide +kernel⟩, rn_mem (i := 339) (by decide +kernel) (by decide +kernel), rn_mem (i := 340) (by decide +kernel) (by decide +kernel)⟩
theorem v_X4_heard : rVm M_X4_heard 1 := ⟨⟨rn_mem (i := 26) (by decide +kernel) (by decide +kernel), rn_mem (i := 422) (by decide +kernel) (by decide +kernel), by decide +kernel, by decide +kernel, by decide +kernel⟩, rn_mem (i := 420) (by decide +kernel) (by decide +kernel), rn_mem (i := 421) (by decide +kernel) (by decide +kernel)⟩
theorem i_X4_init : rIm M_X4_init 0 := ⟨⟨rn_mem (i := 26) (by decide +kernel) (by decide +kernel), rn_mem (i := 39) (by decide +kernel) (by decide +kernel), by decide +kernel, by decide +kernel, by decide +kernel⟩, rn_mem (i := 38) (by decide +kernel) (by decide +kernel), rfl, rfl⟩
theorem s_X4_isNumber : rSm M_X4_isNumber 1 := ⟨⟨rn_mem (i := 26) (by decide +kernel) (by decide +kernel), rn_mem (i := 313) (by decide +kernel) (by decide +kernel), by decide +kernel, by decide +kernel, by decide +kernel⟩, rn_mem (i := 312) (by decide +kernel) (by decide +kernel)⟩
theorem v_X4_isSo : rVm M_X4_isSo 1 := ⟨⟨rn_mem (i := 26) (by decide +kernel) (by decide +kernel), rn_mem (i := 435) (by decide +kernel) (by decide +kernel), by decide +kernel, by decide +kernel, by decide +kernel⟩, rn_mem (i := 434) (by decide +kernel) (by decide +kernel), rn_mem (i := 9) (by decide +kernel) (by decide +kernel)⟩
theorem v_X4_isTakenOnDay : rVm M_X4_isTakenOnDay 1 := ⟨⟨rn_mem (i := 26) (by decide +kernel) (by decide +kernel), rn_mem (i := 518) (by decide +kernel) (by decide +kernel), by decide +kernel, by decide +kernel, by decide +kernel⟩, rn_mem (i := 517) (by decide +kernel) (by decide +kernel), rn_mem (i := 14) (by decide +kernel) (by decide +kernel)⟩
theorem s_X4_isWithin : rSm M_X4_isWithin 3 := ⟨⟨rn_mem (i := 26) (by decide +kernel) (by decide +kernel), rn_mem (i := 177) (by decide +kernel) (by decide +kernel), by decide +kernel, by decide +kernel, by decide +kernel⟩, rn_mem (i := 176) (by decide +kernel) (by decide +kernel)⟩
theorem v_X4_judge : rVm M_X4_judge 2 := ⟨⟨rn_mem (i := 26) (by decide +kernel) (by decide +kernel), rn_mem (i := 427) (by decide +kernel) (by decide +kernel), by decide +kernel, by decide +kernel, by decide +kernel⟩, rn_mem (i := 425) (by decide +kernel) (by decide +kernel), rn_mem (i := 426) (by decide +kernel) (by decide +kernel)⟩
theorem v_X4_keep : rVm M_X4_keep 1 := ⟨⟨rn_mem (i := 26) (by decide +kernel) (by decide +kernel), rn_mem (i := 522) (by decide +kernel) (by decide +kernel), by decide +kernel, by decide +kernel, by decide +kernel⟩, rn_mem (i := 520) (by decide +kernel) (by decide +kernel), rn_mem (i := 521) (by decide +kernel) (by decide +kernel)⟩
theorem s_X4_loopOf : rSm M_X4_loopOf 2 := ⟨⟨rn_mem (i := 26) (by decide +kernel) (by decide +kernel), rn_mem (i := 301) (by decide +kernel) (by decide +kernel), by decide +kernel, by decide +kernel, by decide +kernel⟩, rn_mem (i := 300) (by decide +kernel) (by decide +kernel)⟩
theorem v_X4_loss : rVm M_X4_loss 4 := ⟨⟨rn_mem (i := 26) (by decide +kernel) (by decide +kernel), rn_mem (i := 500) (by decide +kernel) (by decide +kernel), by decide +kernel, by decide +kernel, by decide +kernel⟩, rn_mem (i := 498) (by decide +kernel) (by decide +kernel), rn_mem (i := 499) (by decide +kernel) (by decide +kernel)⟩
theorem v_X4_miss : rVm M_X4_miss 1 := ⟨⟨rn_mem (i := 26) (by decide +kernel) (by decide +kernel), rn_mem (i := 331) (by decide +kernel) (by decide +kernel), by decide +kernel, by decide +kernel, by decide +kernel⟩, rn_mem (i := 329) (by decide +kernel) (by decide +kernel), rn_mem (i := 330) (by decide +kernel) (by decide +kernel)⟩
theorem v_X4_pass : rVm M_X4_pass 2 := ⟨⟨rn_mem (i := 26) (by decide +kernel) (by decide +kernel), rn_mem (i := 305) (by decide +kernel) (by decide +kernel), by decide +kernel, by decide +kernel, by decide +kernel⟩, rn_mem (i := 303) (by decide +kernel) (by decide +kernel), rn_mem (i := 304) (by decide +kernel) (by decide +kernel)⟩
theorem s_X4_power : rSm M_X4_power 2 := ⟨⟨rn_mem (i := 26) (by decide +kernel) (by decide +kernel), rn_mem (i := 496) (by decide +kernel) (by decide +kernel), by decide +kernel, by decide +kernel, by decide +kernel⟩, rn_mem (i := 495) (by decide +kernel) (by decide +kernel)⟩
theorem v_X4_renew : rVm M_X4_renew 4 := ⟨⟨rn_mem (i := 26) (by decide +kernel) (by decide +kernel), rn_mem (i := 360) (by decide +kernel) (by decide +kernel), by decide +kernel, by decide +kernel, by decide +kernel⟩, rn_mem (i := 358) (by decide +kernel) (by decide +kernel), rn_mem (i := 359) (by decide +kernel) (by decide +kernel)⟩
theorem s_X4_returnOf : rSm M_X4_returnOf 2 := ⟨⟨rn_mem (i := 26) (by decide +kernel) (by decide +kernel), rn_mem (i := 297) (by decide +kernel) (by decide +kernel), by decide +kernel, by decide +kernel, by decide +kernel⟩, rn_mem (i := 296) (by decide +kernel) (by decide +kernel)⟩
theorem v_X4_see : rVm M_X4_see 3 := ⟨⟨rn_mem (i := 26) (by decide +kernel) (by decide +kernel), rn_mem (i := 451) (by decide +kernel) (by decide +kernel), by decide +kernel, by decide +kernel, by decide +kernel⟩, rn_mem (i := 449) (by decide +kernel) (by decide +kernel), rn_mem (i := 450) (by decide +kernel) (by decide +kernel)⟩
theorem v_X4_seed : rVm M_X4_seed 1 := ⟨⟨rn_mem (i := 26) (by decide +kernel) (by decide +kernel), rn_mem (i := 508) (by decide +kernel) (by decide +kernel), by decide +kernel, by decide +kernel, by decide +kernel⟩, rn_mem (i := 506) (by decide +kernel) (by decide +kernel), rn_mem (i := 507) (by decide +kernel) (by decide +kernel)⟩
theorem v_X4_send : rVm M_X4_send 1 := ⟨⟨rn_mem (i := 26) (by decide +kernel) (by decide +kernel), rn_mem (i := 318) (by decide +kernel) (by decide +kernel), by decide +kernel, by decide +kernel, by decide +kernel⟩, rn_mem (i := 316) (by decide +kernel) (by decide +kernel), rn_mem (i := 317) (by decide +kernel) (by decide +kernel)⟩
theorem v_X4_sendInMind : rVm M_X4_sendInMind 1 := ⟨⟨rn_mem (i := 26) (by decide +kernel) (by decide +kernel), rn_mem (i := 439) (by decide +kernel) (by decide +kernel), by decide +kernel, by decide +kernel, by decide +kernel⟩, rn_mem (i := 438) (by decide +kernel) (by decide +kernel), rn_mem (i := 10) (by decide +kernel) (by decide +kernel)⟩
theorem v_X4_share : rVm M_X4_share 2 := ⟨⟨rn_mem (i := 26) (by decide +kernel) (by decide +kernel), rn_mem (i := 482) (by decide +kernel) (by decide +kernel), by decide +kernel, by decide +kernel, by decide +kernel⟩, rn_mem (i := 480) (by decide +kernel) (by decide +kernel), rn_mem (i := 481) (by decide +kernel) (by decide +kernel)⟩
theorem s_X4_stepsBehind : rSm M_X4_stepsBehind 3 := ⟨⟨rn_mem (i := 26) (by decide +kernel) (by decide +kernel), rn_mem (i := 212) (by decide +kernel) (by decide +kernel), by decide +kernel, by decide +kernel, by decide +kernel⟩, rn_mem (i := 211) (by decide +kernel) (by decide +kernel)⟩
theorem s_X4_tailOf : rSm M_X4_tailOf 2 := ⟨⟨rn_mem (i := 26) (by decide +kernel) (by decide +kernel), rn_mem (i := 294) (by decide +kernel) (by decide +kernel), by decide +kernel, by decide +kernel, by decide +kernel⟩, rn_mem (i := 293) (by decide +kernel) (by decide +kernel)⟩
theorem v_X4_thief : rVm M_X4_thief 1 := ⟨⟨rn_mem (i := 26) (by decide +kernel) (by decide +kernel), rn_mem (i := 399) (by decide +kernel) (by decide +kernel), by decide +kernel, by decide +kernel, by decide +kernel⟩, rn_mem (i := 397) (by decide +kernel) (by decide +kernel), rn_mem (i := 398) (by decide +kernel) (by decide +kernel)⟩
theorem s_X4_toldFraction : rSm M_X4_toldFraction 3 := ⟨⟨rn_mem (i := 26) (by decide +kernel) (by decide +kernel), rn_mem (i := 486) (by decide +kernel) (by decide +kernel), by decide +kernel, by decide +kernel, by decide +kernel⟩, rn_mem (i := 485) (by decide +kernel) (by decide +kernel)⟩
theorem v_X4_undo : rVm M_X4_undo 0 := ⟨⟨rn_mem (i := 26) (by decide +kernel) (by decide +kernel), rn_mem (i := 374) (by decide +kernel) (by decide +kernel), by decide +kernel, by decide +kernel, by decide +kernel⟩, rn_mem (i := 372) (by decide +kernel) (by decide +kernel), rn_mem (i := 373) (by decide +kernel) (by decide +kernel)⟩
theorem v_X4_unsee : rVm M_X4_unsee 0 := ⟨⟨rn_mem (i := 26) (by decide +kernel) (by decide +kernel), rn_mem (i := 459) (by decide +kernel) (by decide +kernel), by decide +kernel, by decide +kernel, by decide +kernel⟩, rn_mem (i := 457) (by decide +kernel) (by decide +kernel), rn_mem (i := 458) (by decide +kernel) (by decide +kernel)⟩
theorem v_X4_user : rVm M_X4_user 2 := ⟨⟨rn_mem (i := 26) (by decide +kernel) (by decide +kernel), rn_mem (i := 277) (by decide +kernel) (by decide +kernel), by decide +kernel, by decide +kernel, by decide +kernel⟩, rn_mem (i := 275) (by decide +kernel) (by decide +kernel), rn_mem (i := 276) (by decide +kernel) (by decide +kernel)⟩
theorem v_X4_weightInStep : rVm M_X4_weightInStep 4 := ⟨⟨rn_mem (i := 26) (by decide +kernel) (by decide +kernel), rn_mem (i := 504) (by decide +kernel) (by decide +kernel), by decide +kernel, by decide +kernel, by decide +kernel⟩, rn_mem (i := 503) (by decide +kernel) (by decide +kernel), rn_mem (i := 13) (by decide +kernel) (by decide +kernel)⟩
theorem v_X4_which : rVm M_X4_which 1 := ⟨⟨rn_mem (i := 26) (by decide +kernel) (by decide +kernel), rn_mem (i := 463) (by decide +kernel) (by decide +kernel), by decide +kernel, by decide +kernel, by decide +kernel⟩, rn_mem (i := 461) (by decide +kernel) (by decide +kernel), rn_mem (i := 462) (by decide +kernel) (by decide +kernel)⟩
theorem v_X4_widen : rVm M_X4_widen 1 := ⟨⟨rn_mem (i := 26) (by decide +kernel) (by decide +kernel), rn_mem (i := 365) (by decide +kernel) (by decide +kernel), by decide +kernel, by decide +kernel, by decide +kernel⟩, rn_mem (i := 363) (by decide +kernel) (by decide +kernel), rn_mem (i := 364) (by decide +kernel) (by decide +kernel)⟩
theorem v_X4_widenInMind : rVm M_X4_widenInMind 1 := ⟨⟨rn_mem (i := 26) (by decide +kernel) (by decide +kernel), rn_mem (i := 447) (by decide +kernel) (by decide +kernel), by decide +kernel, by decide +kernel, by decide +kernel⟩, rn_mem (i := 446) (by decide +kernel) (by decide +kernel), rn_mem (i := 11) (by decide +kernel) (by decide +kernel)⟩
theorem v_X4_wipe : rVm M_X4_wipe 0 := ⟨⟨rn_mem (i := 26) (by decide +kernel) (by decide +kernel), rn_mem (i := 153) (by decide +kernel) (by decide +kernel), by decide +kernel, by decide +kernel, by decide +kernel⟩, rn_mem (i := 151) (by decide +kernel) (by decide +kernel), rn_mem (i := 152) (by decide +kernel) (by decide +kernel)⟩
theorem s_X4_withoutDoings : rSm M_X4_withoutDoings 2 := ⟨⟨rn_mem (i := 26) (by decide +kernel) (by decide +kernel), rn_mem (i := 430) (by decide +kernel) (by decide +kernel), by decide +kernel, by decide +kernel, by decide +kernel⟩, rn_mem (i := 429) (by decide +kernel) (by decide +kernel)⟩
theorem v_X4_write : rVm M_X4_write 1 := ⟨⟨rn_mem (i := 26) (by decide +kernel) (by decide +kernel), rn_mem (i := 145) (by decide +kernel) (by decide +kernel), by decide +kernel, by decide +kernel, by decide +kernel⟩, rn_mem (i := 143) (by decide +kernel) (by decide +kernel), rn_mem (i := 144) (by decide +kernel) (by decide +kernel)⟩
theorem s_X5_after : rSm M_X5_after 3 := ⟨⟨rn_mem (i := 32) (by decide +kernel) (by decide +kernel), rn_mem (i := 643) (by decide +kernel) (by decide +kernel), by decide +kernel, by decide +kernel, by decide +kernel⟩, rn_mem (i := 642) (by decide +kernel) (by decide +kernel)⟩
theorem v_X5_again : rVm M_X5_again 1 := ⟨⟨rn_mem (i := 32) (by decide +kernel) (by decide +kernel), rn_mem (i := 832) (by decide +kernel) (by decide +kernel), by decide +kernel, by decide +kernel, by decide +kernel⟩, rn_mem (i := 830) (by decide +kernel) (by decide +kernel), rn_mem (i := 831) (by decide +kernel) (by decide +kernel)⟩
theorem v_X5_attempt : rVm M_X5_attempt 2 := ⟨⟨rn_mem (i := 32) (by decide +kernel) (by decide +kernel), rn_mem (i := 717) (by decide +kernel) (by decide +kernel), by decide +kernel, by decide +kernel, by decide +kernel⟩, rn_mem (i := 715) (by decide +kernel) (by decide +kernel), rn_mem (i := 716) (by decide +kernel) (by decide +kernel)⟩
theorem v_X5_behind : rVm M_X5_behind 3 := ⟨⟨rn_mem (i := 32) (by decide +kernel) (by decide +kernel), rn_mem (i := 696) (by decide +kernel) (by decide +kernel), by decide +kernel, by decide +kernel, by decide +kernel⟩, rn_mem (i := 694) (by decide +kernel) (by decide +kernel), rn_mem (i := 695) (by decide +kernel) (by decide +kernel)⟩
theorem s_X5_comeOn : rSm M_X5_comeOn 3 := ⟨⟨rn_mem (i := 32) (by decide +kernel) (by decide +kernel), rn_mem (i := 669) (by decide +kernel) (by decide +kernel), by decide +kernel, by decide +kernel, by decide +kernel⟩, rn_mem (i := 668) (by decide +kernel) (by decide +kernel)⟩
theorem v_X5_count : rVm M_X5_count 1 := ⟨⟨rn_mem (i := 32) (by decide +kernel) (by decide +kernel), rn_mem (i := 836) (by decide +kernel) (by decide +kernel), by decide +kernel, by decide +kernel, by decide +kernel⟩, rn_mem (i := 834) (by decide +kernel) (by decide +kernel), rn_mem (i := 835) (by decide +kernel) (by decide +kernel)⟩
theorem v_X5_desk : rVm M_X5_desk 0 := ⟨⟨rn_mem (i := 32) (by decide +kernel) (by decide +kernel), rn_mem (i := 657) (by decide +kernel) (by decide +kernel), by decide +kernel, by decide +kernel, by decide +kernel⟩, rn_mem (i := 655) (by decide +kernel) (by decide +kernel), rn_mem (i := 656) (by decide +kernel) (by decide +kernel)⟩
theorem s_X5_divisor : rSm M_X5_divisor 2 := ⟨⟨rn_mem (i := 32) (by decide +kernel) (by decide +kernel), rn_mem (i := 801) (by decide +kernel) (by decide +kernel), by decide +kernel, by decide +kernel, by decide +kernel⟩, rn_mem (i := 800) (by decide +kernel) (by decide +kernel)⟩
theorem v_X5_does : rVm M_X5_does 4 := ⟨⟨rn_mem (i := 32) (by decide +kernel) (by decide +kernel), rn_mem (i := 771) (by decide +kernel) (by decide +kernel), by decide +kernel, by decide +kernel, by decide +kernel⟩, rn_mem (i := 770) (by decide +kernel) (by decide +kernel), rn_mem (i := 24) (by decide +kernel) (by decide +kernel)⟩
theorem v_X5_drawn : rVm M_X5_drawn 1 := ⟨⟨rn_mem (i := 32) (by decide +kernel) (by decide +kernel), rn_mem (i := 821) (by decide +kernel) (by decide +kernel), by decide +kernel, by decide +kernel, by decide +kernel⟩, rn_mem (i := 819) (by decide +kernel) (by decide +kernel), rn_mem (i := 820) (by decide +kernel) (by decide +kernel)⟩
theorem s_X5_factorial : rSm M_X5_factorial 1 := ⟨⟨rn_mem (i := 32) (by decide +kernel) (by decide +kernel), rn_mem (i := 795) (by decide +kernel) (by decide +kernel), by decide +kernel, by decide +kernel, by decide +kernel⟩, rn_mem (i := 794) (by decide +kernel) (by decide +kernel)⟩
theorem v_X5_fault : rVm M_X5_fault 0 := ⟨⟨rn_mem (i := 32) (by decide +kernel) (by decide +kernel), rn_mem (i := 621) (by decide +kernel) (by decide +kernel), by decide +kernel, by decide +kernel, by decide +kernel⟩, rn_mem (i := 619) (by decide +kernel) (by decide +kernel), rn_mem (i := 620) (by decide +kernel) (by decide +kernel)⟩
theorem v_X5_figure : rVm M_X5_figure 2 := ⟨⟨rn_mem (i := 32) (by decide +kernel) (by decide +kernel), rn_mem (i := 629) (by decide +kernel) (by decide +kernel), by decide +kernel, by decide +kernel, by decide +kernel⟩, rn_mem (i := 628) (by decide +kernel) (by decide +kernel), rn_mem (i := 16) (by decide +kernel) (by decide +kernel)⟩
theorem v_X5_fits : rVm M_X5_fits 2 := ⟨⟨rn_mem (i := 32) (by decide +kernel) (by decide +kernel), rn_mem (i := 739) (by decide +kernel) (by decide +kernel), by decide +kernel, by decide +kernel, by decide +kernel⟩, rn_mem (i := 737) (by decide +kernel) (by decide +kernel), rn_mem (i := 738) (by decide +kernel) (by decide +kernel)⟩
theorem s_X5_fitsOn : rSm M_X5_fitsOn 3 := ⟨⟨rn_mem (i := 32) (by decide +kernel) (by decide +kernel), rn_mem (i := 672) (by decide +kernel) (by decide +kernel), by decide +kernel, by decide +kernel, by decide +kernel⟩, rn_mem (i := 671) (by decide +kernel) (by decide +kernel)⟩
theorem v_X5_fitting : rVm M_X5_fitting 2 := ⟨⟨rn_mem (i := 32) (by decide +kernel) (by decide +kernel), rn_mem (i := 743) (by decide +kernel) (by decide +kernel), by decide +kernel, by decide +kernel, by decide +kernel⟩, rn_mem (i := 741) (by decide +kernel) (by decide +kernel), rn_mem (i := 742) (by decide +kernel) (by decide +kernel)⟩
theorem v_X5_fittingOf : rVm M_X5_fittingOf 1 := ⟨⟨rn_mem (i := 32) (by decide +kernel) (by decide +kernel), rn_mem (i := 747) (by decide +kernel) (by decide +kernel), by decide +kernel, by decide +kernel, by decide +kernel⟩, rn_mem (i := 746) (by decide +kernel) (by decide +kernel), rn_mem (i := 23) (by decide +kernel) (by decide +kernel)⟩
theorem s_X5_fraction : rSm M_X5_fraction 3 := ⟨⟨rn_mem (i := 32) (by decide +kernel) (by decide +kernel), rn_mem (i := 798) (by decide +kernel) (by decide +kernel), by decide +kernel, by decide +kernel, by decide +kernel⟩, rn_mem (i := 797) (by decide +kernel) (by decide +kernel)⟩
theorem v_X5_gap : rVm M_X5_gap 1 := ⟨⟨rn_mem (i := 32) (by decide +kernel) (by decide +kernel), rn_mem (i := 684) (by decide +kernel) (by decide +kernel), by decide +kernel, by decide +kernel, by decide +kernel⟩, rn_mem (i := 683) (by decide +kernel) (by decide +kernel), rn_mem (i := 20) (by decide +kernel) (by decide +kernel)⟩
theorem v_X5_guess : rVm M_X5_guess 3 := ⟨⟨rn_mem (i := 32) (by decide +kernel) (by decide +kernel), rn_mem (i := 805) (by decide +kernel) (by decide +kernel), by decide +kernel, by decide +kernel, by decide +kernel⟩, rn_mem (i := 803) (by decide +kernel) (by decide +kernel), rn_mem (i := 804) (by decide +kernel) (by decide +kernel)⟩
theorem s_X5_has : rSm M_X5_has 2 := ⟨⟨rn_mem (i := 32) (by decide +kernel) (by decide +kernel), rn_mem (i := 750) (by decide +kernel) (by decide +kernel), by decide +kernel, by decide +kernel, by decide +kernel⟩, rn_mem (i := 749) (by decide +kernel) (by decide +kernel)⟩
theorem s_X5_hasPass : rSm M_X5_hasPass 2 := ⟨⟨rn_mem (i := 32) (by decide +kernel) (by decide +kernel), rn_mem (i := 650) (by decide +kernel) (by decide +kernel), by decide +kernel, by decide +kernel, by decide +kernel⟩, rn_mem (i := 649) (by decide +kernel) (by decide +kernel)⟩
theorem v_X5_hear : rVm M_X5_hear 0 := ⟨⟨rn_mem (i := 32) (by decide +kernel) (by decide +kernel), rn_mem (i := 721) (by decide +kernel) (by decide +kernel), by decide +kernel, by decide +kernel, by decide +kernel⟩, rn_mem (i := 719) (by decide +kernel) (by decide +kernel), rn_mem (i := 720) (by decide +kernel) (by decide +kernel)⟩
theorem v_X5_heard : rVm M_X5_heard 1 := ⟨⟨rn_mem (i := 32) (by decide +kernel) (by decide +kernel), rn_mem (i := 758) (by decide +kernel) (by decide +kernel), by decide +kernel, by decide +kernel, by decide +kernel⟩, rn_mem (i := 756) (by decide +kernel) (by decide +kernel), rn_mem (i := 757) (by decide +kernel) (by decide +kernel)⟩
theorem s_X5_in : rSm M_X5_in 3 := ⟨⟨rn_mem (i := 32) (by decide +kernel) (by decide +kernel), rn_mem (i := 613) (by decide +kernel) (by decide +kernel), by decide +kernel, by decide +kernel, by decide +kernel⟩, rn_mem (i := 612) (by decide +kernel) (by decide +kernel)⟩
theorem i_X5_init : rIm M_X5_init 0 := ⟨⟨rn_mem (i := 32) (by decide +kernel) (by decide +kernel), rn_mem (i := 543) (by decide +kernel) (by decide +kernel), by decide +kernel, by decide +kernel, by decide +kernel⟩, rn_mem (i := 542) (by decide +kernel) (by decide +kernel), rfl, rfl⟩
theorem s_X5_isInStep : rSm M_X5_isInStep 2 := ⟨⟨rn_mem (i := 32) (by decide +kernel) (by decide +kernel), rn_mem (i := 680) (by decide +kernel) (by decide +kernel), by decide +kernel, by decide +kernel, by decide +kernel⟩, rn_mem (i := 679) (by decide +kernel) (by decide +kernel)⟩
theorem s_X5_isNumber : rSm M_X5_isNumber 1 := ⟨⟨rn_mem (i := 32) (by decide +kernel) (by decide +kernel), rn_mem (i := 699) (by decide +kernel) (by decide +kernel), by decide +kernel, by decide +kernel, by decide +kernel⟩, rn_mem (i := 698) (by decide +kernel) (by decide +kernel)⟩
theorem v_X5_judge : rVm M_X5_judge 2 := ⟨⟨rn_mem (i := 32) (by decide +kernel) (by decide +kernel), rn_mem (i := 762) (by decide +kernel) (by decide +kernel), by decide +kernel, by decide +kernel, by decide +kernel⟩, rn_mem (i := 760) (by decide +kernel) (by decide +kernel), rn_mem (i := 761) (by decide +kernel) (by decide +kernel)⟩
theorem v_X5_keep : rVm M_X5_keep 1 := ⟨⟨rn_mem (i := 32) (by decide +kernel) (by decide +kernel), rn_mem (i := 828) (by decide +kernel) (by decide +kernel), by decide +kernel, by decide +kernel, by decide +kernel⟩, rn_mem (i := 826) (by decide +kernel) (by decide +kernel), rn_mem (i := 827) (by decide +kernel) (by decide +kernel)⟩
theorem s_X5_lay : rSm M_X5_lay 2 := ⟨⟨rn_mem (i := 32) (by decide +kernel) (by decide +kernel), rn_mem (i := 660) (by decide +kernel) (by decide +kernel), by decide +kernel, by decide +kernel, by decide +kernel⟩, rn_mem (i := 659) (by decide +kernel) (by decide +kernel)⟩
theorem s_X5_layFirst : rSm M_X5_layFirst 1 := ⟨⟨rn_mem (i := 32) (by decide +kernel) (by decide +kernel), rn_mem (i := 547) (by decide +kernel) (by decide +kernel), by decide +kernel, by decide +kernel, by decide +kernel⟩, rn_mem (i := 546) (by decide +kernel) (by decide +kernel)⟩
theorem v_X5_layLoop : rVm M_X5_layLoop 1 := ⟨⟨rn_mem (i := 32) (by decide +kernel) (by decide +kernel), rn_mem (i := 688) (by decide +kernel) (by decide +kernel), by decide +kernel, by decide +kernel, by decide +kernel⟩, rn_mem (i := 687) (by decide +kernel) (by decide +kernel), rn_mem (i := 21) (by decide +kernel) (by decide +kernel)⟩
theorem s_X5_layUser : rSm M_X5_layUser 5 := ⟨⟨rn_mem (i := 32) (by decide +kernel) (by decide +kernel), rn_mem (i := 640) (by decide +kernel) (by decide +kernel), by decide +kernel, by decide +kernel, by decide +kernel⟩, rn_mem (i := 639) (by decide +kernel) (by decide +kernel)⟩
theorem s_X5_longPower : rSm M_X5_longPower 2 := ⟨⟨rn_mem (i := 32) (by decide +kernel) (by decide +kernel), rn_mem (i := 767) (by decide +kernel) (by decide +kernel), by decide +kernel, by decide +kernel, by decide +kernel⟩, rn_mem (i := 766) (by decide +kernel) (by decide +kernel)⟩
theorem v_X5_loss : rVm M_X5_loss 4 := ⟨⟨rn_mem (i := 32) (by decide +kernel) (by decide +kernel), rn_mem (i := 812) (by decide +kernel) (by decide +kernel), by decide +kernel, by decide +kernel, by decide +kernel⟩, rn_mem (i := 810) (by decide +kernel) (by decide +kernel), rn_mem (i := 811) (by decide +kernel) (by decide +kernel)⟩
theorem v_X5_miss : rVm M_X5_miss 1 := ⟨⟨rn_mem (i := 32) (by decide +kernel) (by decide +kernel), rn_mem (i := 713) (by decide +kernel) (by decide +kernel), by decide +kernel, by decide +kernel, by decide +kernel⟩, rn_mem (i := 711) (by decide +kernel) (by decide +kernel), rn_mem (i := 712) (by decide +kernel) (by decide +kernel)⟩
theorem s_X5_noUser : rSm M_X5_noUser 2 := ⟨⟨rn_mem (i := 32) (by decide +kernel) (by decide +kernel), rn_mem (i := 653) (by decide +kernel) (by decide +kernel), by decide +kernel, by decide +kernel, by decide +kernel⟩, rn_mem (i := 652) (by decide +kernel) (by decide +kernel)⟩
theorem v_X5_note : rVm M_X5_note 0 := ⟨⟨rn_mem (i := 32) (by decide +kernel) (by decide +kernel), rn_mem (i := 709) (by decide +kernel) (by decide +kernel), by decide +kernel, by decide +kernel, by decide +kernel⟩, rn_mem (i := 708) (by decide +kernel) (by decide +kernel), rn_mem (i := 22) (by decide +kernel) (by decide +kernel)⟩
theorem s_X5_ones : rSm M_X5_ones 1 := ⟨⟨rn_mem (i := 32) (by decide +kernel) (by decide +kernel), rn_mem (i := 792) (by decide +kernel) (by decide +kernel), by decide +kernel, by decide +kernel, by decide +kernel⟩, rn_mem (i := 791) (by decide +kernel) (by decide +kernel)⟩
theorem v_X5_pass : rVm M_X5_pass 2 := ⟨⟨rn_mem (i := 32) (by decide +kernel) (by decide +kernel), rn_mem (i := 692) (by decide +kernel) (by decide +kernel), by decide +kernel, by decide +kernel, by decide +kernel⟩, rn_mem (i := 690) (by decide +kernel) (by decide +kernel), rn_mem (i := 691) (by decide +kernel) (by decide +kernel)⟩
theorem s_X5_passOf : rSm M_X5_passOf 3 := ⟨⟨rn_mem (i := 32) (by decide +kernel) (by decide +kernel), rn_mem (i := 666) (by decide +kernel) (by decide +kernel), by decide +kernel, by decide +kernel, by decide +kernel⟩, rn_mem (i := 665) (by decide +kernel) (by decide +kernel)⟩
theorem s_X5_power : rSm M_X5_power 2 := ⟨⟨rn_mem (i := 32) (by decide +kernel) (by decide +kernel), rn_mem (i := 808) (by decide +kernel) (by decide +kernel), by decide +kernel, by decide +kernel, by decide +kernel⟩, rn_mem (i := 807) (by decide +kernel) (by decide +kernel)⟩
theorem v_X5_readDesk : rVm M_X5_readDesk 0 := ⟨⟨rn_mem (i := 32) (by decide +kernel) (by decide +kernel), rn_mem (i := 625) (by decide +kernel) (by decide +kernel), by decide +kernel, by decide +kernel, by decide +kernel⟩, rn_mem (i := 624) (by decide +kernel) (by decide +kernel), rn_mem (i := 15) (by decide +kernel) (by decide +kernel)⟩
theorem v_X5_readEvent : rVm M_X5_readEvent 1 := ⟨⟨rn_mem (i := 32) (by decide +kernel) (by decide +kernel), rn_mem (i := 647) (by decide +kernel) (by decide +kernel), by decide +kernel, by decide +kernel, by decide +kernel⟩, rn_mem (i := 646) (by decide +kernel) (by decide +kernel), rn_mem (i := 19) (by decide +kernel) (by decide +kernel)⟩
theorem v_X5_readNumber : rVm M_X5_readNumber 0 := ⟨⟨rn_mem (i := 32) (by decide +kernel) (by decide +kernel), rn_mem (i := 637) (by decide +kernel) (by decide +kernel), by decide +kernel, by decide +kernel, by decide +kernel⟩, rn_mem (i := 636) (by decide +kernel) (by decide +kernel), rn_mem (i := 18) (by decide +kernel) (by decide +kernel)⟩
theorem v_X5_readUser : rVm M_X5_readUser 0 := ⟨⟨rn_mem (i := 32) (by decide +kernel) (by decide +kernel), rn_mem (i := 633) (by decide +kernel) (by decide +kernel), by decide +kernel, by decide +kernel, by decide +kernel⟩, rn_mem (i := 632) (by decide +kernel) (by decide +kernel), rn_mem (i := 17) (by decide +kernel) (by decide +kernel)⟩
theorem v_X5_renew : rVm M_X5_renew 4 := ⟨⟨rn_mem (i := 32) (by decide +kernel) (by decide +kernel), rn_mem (i := 725) (by decide +kernel) (by decide +kernel), by decide +kernel, by decide +kernel, by decide +kernel⟩, rn_mem (i := 723) (by decide +kernel) (by decide +kernel), rn_mem (i := 724) (by decide +kernel) (by decide +kernel)⟩
theorem v_X5_see : rVm M_X5_see 3 := ⟨⟨rn_mem (i := 32) (by decide +kernel) (by decide +kernel), rn_mem (i := 775) (by decide +kernel) (by decide +kernel), by decide +kernel, by decide +kernel, by decide +kernel⟩, rn_mem (i := 773) (by decide +kernel) (by decide +kernel), rn_mem (i := 774) (by decide +kernel) (by decide +kernel)⟩
theorem v_X5_seed : rVm M_X5_seed 1 := ⟨⟨rn_mem (i := 32) (by decide +kernel) (by decide +kernel), rn_mem (i := 817) (by decide +kernel) (by decide +kernel), by decide +kernel, by decide +kernel, by decide +kernel⟩, rn_mem (i := 815) (by decide +kernel) (by decide +kernel), rn_mem (i := 816) (by decide +kernel) (by decide +kernel)⟩
theorem v_X5_send : rVm M_X5_send 1 := ⟨⟨rn_mem (i := 32) (by decide +kernel) (by decide +kernel), rn_mem (i := 705) (by decide +kernel) (by decide +kernel), by decide +kernel, by decide +kernel, by decide +kernel⟩, rn_mem (i := 703) (by decide +kernel) (by decide +kernel), rn_mem (i := 704) (by decide +kernel) (by decide +kernel)⟩
theorem s_X5_sendOn : rSm M_X5_sendOn 2 := ⟨⟨rn_mem (i := 32) (by decide +kernel) (by decide +kernel), rn_mem (i := 663) (by decide +kernel) (by decide +kernel), by decide +kernel, by decide +kernel, by decide +kernel⟩, rn_mem (i := 662) (by decide +kernel) (by decide +kernel)⟩
theorem v_X5_share : rVm M_X5_share 2 := ⟨⟨rn_mem (i := 32) (by decide +kernel) (by decide +kernel), rn_mem (i := 789) (by decide +kernel) (by decide +kernel), by decide +kernel, by decide +kernel, by decide +kernel⟩, rn_mem (i := 787) (by decide +kernel) (by decide +kernel), rn_mem (i := 788) (by decide +kernel) (by decide +kernel)⟩
theorem v_X5_thief : rVm M_X5_thief 1 := ⟨⟨rn_mem (i := 32) (by decide +kernel) (by decide +kernel), rn_mem (i := 754) (by decide +kernel) (by decide +kernel), by decide +kernel, by decide +kernel, by decide +kernel⟩, rn_mem (i := 752) (by decide +kernel) (by decide +kernel), rn_mem (i := 753) (by decide +kernel) (by decide +kernel)⟩
theorem v_X5_undo : rVm M_X5_undo 0 := ⟨⟨rn_mem (i := 32) (by decide +kernel) (by decide +kernel), rn_mem (i := 735) (by decide +kernel) (by decide +kernel), by decide +kernel, by decide +kernel, by decide +kernel⟩, rn_mem (i := 733) (by decide +kernel) (by decide +kernel), rn_mem (i := 734) (by decide +kernel) (by decide +kernel)⟩
theorem v_X5_unsee : rVm M_X5_unsee 0 := ⟨⟨rn_mem (i := 32) (by decide +kernel) (by decide +kernel), rn_mem (i := 781) (by decide +kernel) (by decide +kernel), by decide +kernel, by decide +kernel, by decide +kernel⟩, rn_mem (i := 779) (by decide +kernel) (by decide +kernel), rn_mem (i := 780) (by decide +kernel) (by decide +kernel)⟩
theorem v_X5_user : rVm M_X5_user 2 := ⟨⟨rn_mem (i := 32) (by decide +kernel) (by decide +kernel), rn_mem (i := 676) (by decide +kernel) (by decide +kernel), by decide +kernel, by decide +kernel, by decide +kernel⟩, rn_mem (i := 674) (by decide +kernel) (by decide +kernel), rn_mem (i := 675) (by decide +kernel) (by decide +kernel)⟩
theorem v_X5_which : rVm M_X5_which 1 := ⟨⟨rn_mem (i := 32) (by decide +kernel) (by decide +kernel), rn_mem (i := 785) (by decide +kernel) (by decide +kernel), by decide +kernel, by decide +kernel, by decide +kernel⟩, rn_mem (i := 783) (by decide +kernel) (by decide +kernel), rn_mem (i := 784) (by decide +kernel) (by decide +kernel)⟩
theorem v_X5_widen : rVm M_X5_widen 1 := ⟨⟨rn_mem (i := 32) (by decide +kernel) (by decide +kernel), rn_mem (i := 730) (by decide +kernel) (by decide +kernel), by decide +kernel, by decide +kernel, by decide +kernel⟩, rn_mem (i := 728) (by decide +kernel) (by decide +kernel), rn_mem (i := 729) (by decide +kernel) (by decide +kernel)⟩
theorem v_X5_wipe : rVm M_X5_wipe 0 := ⟨⟨rn_mem (i := 32) (by decide +kernel) (by decide +kernel), rn_mem (i := 617) (by decide +kernel) (by decide +kernel), by decide +kernel, by decide +kernel, by decide +kernel⟩, rn_mem (i := 615) (by decide +kernel) (by decide +kernel), rn_mem (i := 616) (by decide +kernel) (by decide +kernel)⟩
theorem v_X5_write : rVm M_X5_write 1 := ⟨⟨rn_mem (i := 32) (by decide +kernel) (by decide +kernel), rn_mem (i := 609) (by decide +kernel) (by decide +kernel), by decide +kernel, by decide +kernel, by decide +kernel⟩, rn_mem (i := 607) (by decide +kernel) (by decide +kernel), rn_mem (i := 608) (by decide +kernel) (by decide +kernel)⟩
theorem l_L_9 : Cond.methodLink RL 9 yX4_init ∈ rn_ws := rn_mem (i := 37) (by decide +kernel) (by decide +kernel)
theorem l_X4_1 : Cond.methodLink RX4 1 Lib.objectInit ∈ rn_ws := rn_mem (i := 40) (by decide +kernel) (by decide +kernel)
theorem l_X4_9 : Cond.methodLink RX4 9 yX3_init ∈ rn_ws := rn_mem (i := 45) (by decide +kernel) (by decide +kernel)
theorem l_X3_3 : Cond.methodLink RX3 3 Lib.objectInit ∈ rn_ws := rn_mem (i := 48) (by decide +kernel) (by decide +kernel)
theorem l_X4_18 : Cond.methodLink RX4 18 yX0_init ∈ rn_ws := rn_mem (i := 63) (by decide +kernel) (by decide +kernel)
theorem l_X0_5 : Cond.methodLink RX0 5 Lib.objectInit ∈ rn_ws := rn_mem (i := 66) (by decide +kernel) (by decide +kernel)
theorem l_X0_15 : Cond.methodLink RX0 15 yX0_clear ∈ rn_ws := rn_mem (i := 67) (by decide +kernel) (by decide +kernel)
theorem l_X0_18 : Cond.methodLink RX0 18 yJ7_fill_53178 ∈ rn_ws := rn_mem (i := 71) (by decide +kernel) (by decide +kernel)
theorem l_X4_28 : Cond.methodLink RX4 28 yX2_init ∈ rn_ws := rn_mem (i := 81) (by decide +kernel) (by decide +kernel)
theorem l_X2_1 : Cond.methodLink RX2 1 Lib.objectInit ∈ rn_ws := rn_mem (i := 84) (by decide +kernel) (by decide +kernel)
theorem l_X4_35 : Cond.methodLink RX4 35 yX1_init ∈ rn_ws := rn_mem (i := 105) (by decide +kernel) (by decide +kernel)
theorem l_X1_3 : Cond.methodLink RX1 3 Lib.objectInit ∈ rn_ws := rn_mem (i := 108) (by decide +kernel) (by decide +kernel)
theorem l_L_13 : Cond.methodLink RL 13 yX4_write ∈ rn_ws := rn_mem (i := 142) (by decide +kernel) (by decide +kernel)
theorem l_X4_44 : Cond.methodLink RX4 44 yX3_append ∈ rn_ws := rn_mem (i := 146) (by decide +kernel) (by decide +kernel)
theorem l_L_18 : Cond.methodLink RL 18 yX4_wipe ∈ rn_ws := rn_mem (i := 150) (by decide +kernel) (by decide +kernel)
theorem l_L_23 : Cond.methodLink RL 23 yX4_fault ∈ rn_ws := rn_mem (i := 154) (by decide +kernel) (by decide +kernel)
theorem l_X4_52 : Cond.methodLink RX4 52 yX3_readInto ∈ rn_ws := rn_mem (i := 158) (by decide +kernel) (by decide +kernel)
theorem l_X3_22 : Cond.methodLink RX3 22 yX0_clear ∈ rn_ws := rn_mem (i := 162) (by decide +kernel) (by decide +kernel)
theorem l_X3_27 : Cond.methodLink RX3 27 yX3_isNext ∈ rn_ws := rn_mem (i := 163) (by decide +kernel) (by decide +kernel)
theorem l_X3_50 : Cond.methodLink RX3 50 yX3_nextLetter ∈ rn_ws := rn_mem (i := 167) (by decide +kernel) (by decide +kernel)
theorem l_X3_31 : Cond.methodLink RX3 31 yX3_readFigure ∈ rn_ws := rn_mem (i := 171) (by decide +kernel) (by decide +kernel)
theorem n_X3_77 : Cond.methodLinkNest RX3 77 yX4_isWithin "SpentPasses" ∈ rn_nest := rn_memN (i := 175) (by decide +kernel) (by decide +kernel)
theorem l_X3_35 : Cond.methodLink RX3 35 yX0_setWindow ∈ rn_ws := rn_mem (i := 178) (by decide +kernel) (by decide +kernel)
theorem l_X3_39 : Cond.methodLink RX3 39 yX0_users ∈ rn_ws := rn_mem (i := 182) (by decide +kernel) (by decide +kernel)
theorem l_X3_43 : Cond.methodLink RX3 43 yX3_readUser ∈ rn_ws := rn_mem (i := 186) (by decide +kernel) (by decide +kernel)
theorem l_X3_53 : Cond.methodLink RX3 53 yX3_readNumber ∈ rn_ws := rn_mem (i := 190) (by decide +kernel) (by decide +kernel)
theorem l_X3_56 : Cond.methodLink RX3 56 yX3_readRowLength ∈ rn_ws := rn_mem (i := 194) (by decide +kernel) (by decide +kernel)
theorem l_X3_59 : Cond.methodLink RX3 59 yX0_addUser ∈ rn_ws := rn_mem (i := 198) (by decide +kernel) (by decide +kernel)
theorem l_X0_30 : Cond.methodLink RX0 30 yX0_beginRow ∈ rn_ws := rn_mem (i := 202) (by decide +kernel) (by decide +kernel)
theorem l_X0_34 : Cond.methodLink RX0 34 yX0_put ∈ rn_ws := rn_mem (i := 206) (by decide +kernel) (by decide +kernel)
theorem n_X0_38 : Cond.methodLinkNest RX0 38 yX4_stepsBehind "SpentPasses" ∈ rn_nest := rn_memN (i := 210) (by decide +kernel) (by decide +kernel)
theorem l_X3_47 : Cond.methodLink RX3 47 yX3_readDoing ∈ rn_ws := rn_mem (i := 213) (by decide +kernel) (by decide +kernel)
theorem l_X3_63 : Cond.methodLink RX3 63 yX0_anyHasOwn ∈ rn_ws := rn_mem (i := 217) (by decide +kernel) (by decide +kernel)
theorem l_X0_50 : Cond.methodLink RX0 50 yX0_hasOwn ∈ rn_ws := rn_mem (i := 221) (by decide +kernel) (by decide +kernel)
theorem l_X0_42 : Cond.methodLink RX0 42 yX0_has ∈ rn_ws := rn_mem (i := 225) (by decide +kernel) (by decide +kernel)
theorem l_X0_46 : Cond.methodLink RX0 46 yX0_of ∈ rn_ws := rn_mem (i := 229) (by decide +kernel) (by decide +kernel)
theorem l_X3_67 : Cond.methodLink RX3 67 yX0_hasOwn ∈ rn_ws := rn_mem (i := 233) (by decide +kernel) (by decide +kernel)
theorem l_X3_70 : Cond.methodLink RX3 70 yX0_sendPass ∈ rn_ws := rn_mem (i := 234) (by decide +kernel) (by decide +kernel)
theorem l_X0_61 : Cond.methodLink RX0 61 yX0_spendPass ∈ rn_ws := rn_mem (i := 238) (by decide +kernel) (by decide +kernel)
theorem l_X0_64 : Cond.methodLink RX0 64 yX0_passOf ∈ rn_ws := rn_mem (i := 242) (by decide +kernel) (by decide +kernel)
theorem l_X0_67 : Cond.methodLink RX0 67 yX0_bring ∈ rn_ws := rn_mem (i := 246) (by decide +kernel) (by decide +kernel)
theorem l_X0_58 : Cond.methodLink RX0 58 yX0_fitOf ∈ rn_ws := rn_mem (i := 250) (by decide +kernel) (by decide +kernel)
theorem l_X0_53 : Cond.methodLink RX0 53 Lib.Math.min.name ∈ rn_ws := rn_mem (i := 254) (by decide +kernel) (by decide +kernel)
theorem l_X3_74 : Cond.methodLink RX3 74 yX0_spendPass ∈ rn_ws := rn_mem (i := 257) (by decide +kernel) (by decide +kernel)
theorem l_L_27 : Cond.methodLink RL 27 yX4_desk ∈ rn_ws := rn_mem (i := 258) (by decide +kernel) (by decide +kernel)
theorem l_X4_56 : Cond.methodLink RX4 56 yX0_copyFrom ∈ rn_ws := rn_mem (i := 262) (by decide +kernel) (by decide +kernel)
theorem l_X0_24 : Cond.methodLink RX0 24 arraycopyName ∈ rn_ws := rn_mem (i := 266) (by decide +kernel) (by decide +kernel)
theorem l_X4_60 : Cond.methodLink RX4 60 yX2_forgetAll ∈ rn_ws := rn_mem (i := 269) (by decide +kernel) (by decide +kernel)
theorem l_X4_63 : Cond.methodLink RX4 63 yX0_users ∈ rn_ws := rn_mem (i := 273) (by decide +kernel) (by decide +kernel)
theorem l_L_31 : Cond.methodLink RL 31 yX4_user ∈ rn_ws := rn_mem (i := 274) (by decide +kernel) (by decide +kernel)
theorem l_X4_67 : Cond.methodLink RX4 67 yX0_has ∈ rn_ws := rn_mem (i := 278) (by decide +kernel) (by decide +kernel)
theorem l_X4_70 : Cond.methodLink RX4 70 yX0_of ∈ rn_ws := rn_mem (i := 279) (by decide +kernel) (by decide +kernel)
theorem l_X4_74 : Cond.methodLink RX4 74 yX0_isInStep ∈ rn_ws := rn_mem (i := 280) (by decide +kernel) (by decide +kernel)
theorem l_X4_77 : Cond.methodLink RX4 77 yX0_isWarned ∈ rn_ws := rn_mem (i := 284) (by decide +kernel) (by decide +kernel)
theorem l_X4_80 : Cond.methodLink RX4 80 yX0_gapOf ∈ rn_ws := rn_mem (i := 288) (by decide +kernel) (by decide +kernel)
theorem l_X4_84 : Cond.methodLink RX4 84 yX4_tailOf ∈ rn_ws := rn_mem (i := 292) (by decide +kernel) (by decide +kernel)
theorem l_X4_216 : Cond.methodLink RX4 216 yX4_returnOf ∈ rn_ws := rn_mem (i := 295) (by decide +kernel) (by decide +kernel)
theorem l_X4_100 : Cond.methodLink RX4 100 yX4_stepsBehind ∈ rn_ws := rn_mem (i := 298) (by decide +kernel) (by decide +kernel)
theorem l_X4_87 : Cond.methodLink RX4 87 yX4_loopOf ∈ rn_ws := rn_mem (i := 299) (by decide +kernel) (by decide +kernel)
theorem l_L_36 : Cond.methodLink RL 36 yX4_pass ∈ rn_ws := rn_mem (i := 302) (by decide +kernel) (by decide +kernel)
theorem l_X4_90 : Cond.methodLink RX4 90 yX0_passOf ∈ rn_ws := rn_mem (i := 306) (by decide +kernel) (by decide +kernel)
theorem l_L_40 : Cond.methodLink RL 40 yX4_behind ∈ rn_ws := rn_mem (i := 307) (by decide +kernel) (by decide +kernel)
theorem l_X4_93 : Cond.methodLink RX4 93 yX4_isNumber ∈ rn_ws := rn_mem (i := 311) (by decide +kernel) (by decide +kernel)
theorem l_X4_96 : Cond.methodLink RX4 96 yX4_isWithin ∈ rn_ws := rn_mem (i := 314) (by decide +kernel) (by decide +kernel)
theorem l_L_45 : Cond.methodLink RL 45 yX4_send ∈ rn_ws := rn_mem (i := 315) (by decide +kernel) (by decide +kernel)
theorem l_X4_104 : Cond.methodLink RX4 104 yX0_hasOwn ∈ rn_ws := rn_mem (i := 319) (by decide +kernel) (by decide +kernel)
theorem l_X4_107 : Cond.methodLink RX4 107 yX2_remember ∈ rn_ws := rn_mem (i := 320) (by decide +kernel) (by decide +kernel)
theorem n_X2_29 : Cond.methodLinkNest RX2 29 yX4_isWithin "SpentPasses" ∈ rn_nest := rn_memN (i := 324) (by decide +kernel) (by decide +kernel)
theorem l_X2_38 : Cond.methodLink RX2 38 arraycopyName ∈ rn_ws := rn_mem (i := 325) (by decide +kernel) (by decide +kernel)
theorem l_X2_44 : Cond.methodLink RX2 44 Lib.Math.min.name ∈ rn_ws := rn_mem (i := 326) (by decide +kernel) (by decide +kernel)
theorem l_X4_110 : Cond.methodLink RX4 110 yX0_sendPass ∈ rn_ws := rn_mem (i := 327) (by decide +kernel) (by decide +kernel)
theorem l_L_49 : Cond.methodLink RL 49 yX4_miss ∈ rn_ws := rn_mem (i := 328) (by decide +kernel) (by decide +kernel)
theorem l_X4_113 : Cond.methodLink RX4 113 yX0_spendPass ∈ rn_ws := rn_mem (i := 332) (by decide +kernel) (by decide +kernel)
theorem l_L_53 : Cond.methodLink RL 53 yX4_attempt ∈ rn_ws := rn_mem (i := 333) (by decide +kernel) (by decide +kernel)
theorem l_X4_116 : Cond.methodLink RX4 116 yX0_bring ∈ rn_ws := rn_mem (i := 337) (by decide +kernel) (by decide +kernel)
theorem l_L_57 : Cond.methodLink RL 57 yX4_hear ∈ rn_ws := rn_mem (i := 338) (by decide +kernel) (by decide +kernel)
theorem l_X4_119 : Cond.methodLink RX4 119 yX0_wire ∈ rn_ws := rn_mem (i := 342) (by decide +kernel) (by decide +kernel)
theorem l_X4_122 : Cond.methodLink RX4 122 yX0_heardCount ∈ rn_ws := rn_mem (i := 346) (by decide +kernel) (by decide +kernel)
theorem l_X4_125 : Cond.methodLink RX4 125 yX0_overhear ∈ rn_ws := rn_mem (i := 350) (by decide +kernel) (by decide +kernel)
theorem l_X4_128 : Cond.methodLink RX4 128 yX0_numberIn ∈ rn_ws := rn_mem (i := 354) (by decide +kernel) (by decide +kernel)
theorem l_L_61 : Cond.methodLink RL 61 yX4_renew ∈ rn_ws := rn_mem (i := 357) (by decide +kernel) (by decide +kernel)
theorem l_X4_131 : Cond.methodLink RX4 131 yX0_beginRow ∈ rn_ws := rn_mem (i := 361) (by decide +kernel) (by decide +kernel)
theorem l_L_66 : Cond.methodLink RL 66 yX4_widen ∈ rn_ws := rn_mem (i := 362) (by decide +kernel) (by decide +kernel)
theorem l_X4_135 : Cond.methodLink RX4 135 yX0_window ∈ rn_ws := rn_mem (i := 366) (by decide +kernel) (by decide +kernel)
theorem l_X4_138 : Cond.methodLink RX4 138 yX0_setWindow ∈ rn_ws := rn_mem (i := 370) (by decide +kernel) (by decide +kernel)
theorem l_L_70 : Cond.methodLink RL 70 yX4_undo ∈ rn_ws := rn_mem (i := 371) (by decide +kernel) (by decide +kernel)
theorem l_X4_142 : Cond.methodLink RX4 142 yX2_takeBack ∈ rn_ws := rn_mem (i := 375) (by decide +kernel) (by decide +kernel)
theorem l_L_74 : Cond.methodLink RL 74 yX4_fits ∈ rn_ws := rn_mem (i := 379) (by decide +kernel) (by decide +kernel)
theorem l_X4_149 : Cond.methodLink RX4 149 yX0_fitOf ∈ rn_ws := rn_mem (i := 383) (by decide +kernel) (by decide +kernel)
theorem l_L_78 : Cond.methodLink RL 78 yX4_fitting ∈ rn_ws := rn_mem (i := 384) (by decide +kernel) (by decide +kernel)
theorem l_X4_152 : Cond.methodLink RX4 152 yX0_countFitting ∈ rn_ws := rn_mem (i := 388) (by decide +kernel) (by decide +kernel)
theorem l_X4_155 : Cond.methodLink RX4 155 yX0_leastFitting ∈ rn_ws := rn_mem (i := 392) (by decide +kernel) (by decide +kernel)
theorem l_L_82 : Cond.methodLink RL 82 yX4_thief ∈ rn_ws := rn_mem (i := 396) (by decide +kernel) (by decide +kernel)
theorem l_X4_158 : Cond.methodLink RX4 158 yX0_leastStolen ∈ rn_ws := rn_mem (i := 400) (by decide +kernel) (by decide +kernel)
theorem l_X0_70 : Cond.methodLink RX0 70 yX0_heardAt ∈ rn_ws := rn_mem (i := 404) (by decide +kernel) (by decide +kernel)
theorem l_X0_74 : Cond.methodLink RX0 74 yX0_userIn ∈ rn_ws := rn_mem (i := 408) (by decide +kernel) (by decide +kernel)
theorem l_X0_77 : Cond.methodLink RX0 77 yX0_numberIn ∈ rn_ws := rn_mem (i := 411) (by decide +kernel) (by decide +kernel)
theorem l_X0_80 : Cond.methodLink RX0 80 yX0_leastFrom ∈ rn_ws := rn_mem (i := 412) (by decide +kernel) (by decide +kernel)
theorem l_X0_83 : Cond.methodLink RX0 83 yX0_lesser ∈ rn_ws := rn_mem (i := 416) (by decide +kernel) (by decide +kernel)
theorem l_L_86 : Cond.methodLink RL 86 yX4_heard ∈ rn_ws := rn_mem (i := 419) (by decide +kernel) (by decide +kernel)
theorem l_X4_161 : Cond.methodLink RX4 161 yX0_heardAt ∈ rn_ws := rn_mem (i := 423) (by decide +kernel) (by decide +kernel)
theorem l_L_92 : Cond.methodLink RL 92 yX4_judge ∈ rn_ws := rn_mem (i := 424) (by decide +kernel) (by decide +kernel)
theorem l_X4_164 : Cond.methodLink RX4 164 yX4_withoutDoings ∈ rn_ws := rn_mem (i := 428) (by decide +kernel) (by decide +kernel)
theorem k_X4_168 : Cond.constantLong RX4 168 (10000) ∈ rn_ws := rn_mem (i := 431) (by decide +kernel) (by decide +kernel)
theorem l_X4_170 : Cond.methodLink RX4 170 yX4_isSo ∈ rn_ws := rn_mem (i := 432) (by decide +kernel) (by decide +kernel)
theorem l_X4_223 : Cond.methodLink RX4 223 yX4_sendInMind ∈ rn_ws := rn_mem (i := 436) (by decide +kernel) (by decide +kernel)
theorem l_X4_185 : Cond.methodLink RX4 185 yX0_countFitted ∈ rn_ws := rn_mem (i := 440) (by decide +kernel) (by decide +kernel)
theorem l_X4_226 : Cond.methodLink RX4 226 yX4_widenInMind ∈ rn_ws := rn_mem (i := 444) (by decide +kernel) (by decide +kernel)
theorem l_L_97 : Cond.methodLink RL 97 yX4_see ∈ rn_ws := rn_mem (i := 448) (by decide +kernel) (by decide +kernel)
theorem l_X4_173 : Cond.methodLink RX4 173 yX1_add ∈ rn_ws := rn_mem (i := 452) (by decide +kernel) (by decide +kernel)
theorem l_L_101 : Cond.methodLink RL 101 yX4_unsee ∈ rn_ws := rn_mem (i := 456) (by decide +kernel) (by decide +kernel)
theorem l_L_105 : Cond.methodLink RL 105 yX4_which ∈ rn_ws := rn_mem (i := 460) (by decide +kernel) (by decide +kernel)
theorem l_X4_179 : Cond.methodLink RX4 179 yX1_countSeeds ∈ rn_ws := rn_mem (i := 464) (by decide +kernel) (by decide +kernel)
theorem l_X1_25 : Cond.methodLink RX1 25 yX1_agrees ∈ rn_ws := rn_mem (i := 468) (by decide +kernel) (by decide +kernel)
theorem l_X1_31 : Cond.methodLink RX1 31 yX0_of ∈ rn_ws := rn_mem (i := 472) (by decide +kernel) (by decide +kernel)
theorem l_X1_35 : Cond.methodLink RX1 35 yX0_has ∈ rn_ws := rn_mem (i := 473) (by decide +kernel) (by decide +kernel)
theorem n_X1_39 : Cond.methodLinkNest RX1 39 yX4_stepsBehind "SpentPasses" ∈ rn_nest := rn_memN (i := 474) (by decide +kernel) (by decide +kernel)
theorem l_X4_182 : Cond.methodLink RX4 182 yX1_leastSeed ∈ rn_ws := rn_mem (i := 475) (by decide +kernel) (by decide +kernel)
theorem l_L_109 : Cond.methodLink RL 109 yX4_share ∈ rn_ws := rn_mem (i := 479) (by decide +kernel) (by decide +kernel)
theorem k_X4_188 : Cond.constantLong RX4 188 (12) ∈ rn_ws := rn_mem (i := 483) (by decide +kernel) (by decide +kernel)
theorem l_X4_190 : Cond.methodLink RX4 190 yX4_toldFraction ∈ rn_ws := rn_mem (i := 484) (by decide +kernel) (by decide +kernel)
theorem l_X4_219 : Cond.methodLink RX4 219 yX4_commonDivisor ∈ rn_ws := rn_mem (i := 487) (by decide +kernel) (by decide +kernel)
theorem l_L_114 : Cond.methodLink RL 114 yX4_guess ∈ rn_ws := rn_mem (i := 490) (by decide +kernel) (by decide +kernel)
theorem l_X4_194 : Cond.methodLink RX4 194 yX4_power ∈ rn_ws := rn_mem (i := 494) (by decide +kernel) (by decide +kernel)
theorem l_L_119 : Cond.methodLink RL 119 yX4_loss ∈ rn_ws := rn_mem (i := 497) (by decide +kernel) (by decide +kernel)
theorem l_X4_198 : Cond.methodLink RX4 198 yX4_weightInStep ∈ rn_ws := rn_mem (i := 501) (by decide +kernel) (by decide +kernel)
theorem l_L_124 : Cond.methodLink RL 124 yX4_seed ∈ rn_ws := rn_mem (i := 505) (by decide +kernel) (by decide +kernel)
theorem l_L_129 : Cond.methodLink RL 129 yX4_drawn ∈ rn_ws := rn_mem (i := 509) (by decide +kernel) (by decide +kernel)
theorem k_X4_202 : Cond.constantLong RX4 202 (6364136223846793005) ∈ rn_ws := rn_mem (i := 513) (by decide +kernel) (by decide +kernel)
theorem k_X4_204 : Cond.constantLong RX4 204 (1442695040888963407) ∈ rn_ws := rn_mem (i := 514) (by decide +kernel) (by decide +kernel)
theorem l_X4_206 : Cond.methodLink RX4 206 yX4_isTakenOnDay ∈ rn_ws := rn_mem (i := 515) (by decide +kernel) (by decide +kernel)
theorem l_L_133 : Cond.methodLink RL 133 yX4_keep ∈ rn_ws := rn_mem (i := 519) (by decide +kernel) (by decide +kernel)
theorem l_X4_209 : Cond.methodLink RX4 209 yX2_keepIn ∈ rn_ws := rn_mem (i := 523) (by decide +kernel) (by decide +kernel)
theorem l_L_137 : Cond.methodLink RL 137 yX4_again ∈ rn_ws := rn_mem (i := 527) (by decide +kernel) (by decide +kernel)
theorem l_X4_213 : Cond.methodLink RX4 213 yX2_bringBack ∈ rn_ws := rn_mem (i := 531) (by decide +kernel) (by decide +kernel)
theorem l_L_141 : Cond.methodLink RL 141 yX4_count ∈ rn_ws := rn_mem (i := 535) (by decide +kernel) (by decide +kernel)
theorem l_L_12 : Cond.methodLink RL 12 yX5_init ∈ rn_ws := rn_mem (i := 541) (by decide +kernel) (by decide +kernel)
theorem l_X5_1 : Cond.methodLink RX5 1 Lib.objectInit ∈ rn_ws := rn_mem (i := 544) (by decide +kernel) (by decide +kernel)
theorem l_X5_47 : Cond.methodLink RX5 47 yX5_layFirst ∈ rn_ws := rn_mem (i := 545) (by decide +kernel) (by decide +kernel)
theorem l_L_17 : Cond.methodLink RL 17 yX5_write ∈ rn_ws := rn_mem (i := 606) (by decide +kernel) (by decide +kernel)
theorem k_X5_82 : Cond.constantLong RX5 82 (255) ∈ rn_ws := rn_mem (i := 610) (by decide +kernel) (by decide +kernel)
theorem l_X5_57 : Cond.methodLink RX5 57 yX5_in ∈ rn_ws := rn_mem (i := 611) (by decide +kernel) (by decide +kernel)
theorem l_L_22 : Cond.methodLink RL 22 yX5_wipe ∈ rn_ws := rn_mem (i := 614) (by decide +kernel) (by decide +kernel)
theorem l_L_26 : Cond.methodLink RL 26 yX5_fault ∈ rn_ws := rn_mem (i := 618) (by decide +kernel) (by decide +kernel)
theorem l_X5_113 : Cond.methodLink RX5 113 yX5_readDesk ∈ rn_ws := rn_mem (i := 622) (by decide +kernel) (by decide +kernel)
theorem l_X5_90 : Cond.methodLink RX5 90 yX5_figure ∈ rn_ws := rn_mem (i := 626) (by decide +kernel) (by decide +kernel)
theorem l_X5_105 : Cond.methodLink RX5 105 yX5_readUser ∈ rn_ws := rn_mem (i := 630) (by decide +kernel) (by decide +kernel)
theorem l_X5_97 : Cond.methodLink RX5 97 yX5_readNumber ∈ rn_ws := rn_mem (i := 634) (by decide +kernel) (by decide +kernel)
theorem l_X5_101 : Cond.methodLink RX5 101 yX5_layUser ∈ rn_ws := rn_mem (i := 638) (by decide +kernel) (by decide +kernel)
theorem l_X5_61 : Cond.methodLink RX5 61 yX5_after ∈ rn_ws := rn_mem (i := 641) (by decide +kernel) (by decide +kernel)
theorem l_X5_109 : Cond.methodLink RX5 109 yX5_readEvent ∈ rn_ws := rn_mem (i := 644) (by decide +kernel) (by decide +kernel)
theorem l_X5_79 : Cond.methodLink RX5 79 yX5_hasPass ∈ rn_ws := rn_mem (i := 648) (by decide +kernel) (by decide +kernel)
theorem l_X5_75 : Cond.methodLink RX5 75 yX5_noUser ∈ rn_ws := rn_mem (i := 651) (by decide +kernel) (by decide +kernel)
theorem l_L_30 : Cond.methodLink RL 30 yX5_desk ∈ rn_ws := rn_mem (i := 654) (by decide +kernel) (by decide +kernel)
theorem l_X5_116 : Cond.methodLink RX5 116 yX5_lay ∈ rn_ws := rn_mem (i := 658) (by decide +kernel) (by decide +kernel)
theorem l_X5_120 : Cond.methodLink RX5 120 yX5_sendOn ∈ rn_ws := rn_mem (i := 661) (by decide +kernel) (by decide +kernel)
theorem l_X5_69 : Cond.methodLink RX5 69 yX5_passOf ∈ rn_ws := rn_mem (i := 664) (by decide +kernel) (by decide +kernel)
theorem l_X5_72 : Cond.methodLink RX5 72 yX5_comeOn ∈ rn_ws := rn_mem (i := 667) (by decide +kernel) (by decide +kernel)
theorem l_X5_65 : Cond.methodLink RX5 65 yX5_fitsOn ∈ rn_ws := rn_mem (i := 670) (by decide +kernel) (by decide +kernel)
theorem l_L_35 : Cond.methodLink RL 35 yX5_user ∈ rn_ws := rn_mem (i := 673) (by decide +kernel) (by decide +kernel)
theorem k_X5_130 : Cond.constantLong RX5 130 (5) ∈ rn_ws := rn_mem (i := 677) (by decide +kernel) (by decide +kernel)
theorem l_X5_127 : Cond.methodLink RX5 127 yX5_isInStep ∈ rn_ws := rn_mem (i := 678) (by decide +kernel) (by decide +kernel)
theorem l_X5_132 : Cond.methodLink RX5 132 yX5_gap ∈ rn_ws := rn_mem (i := 681) (by decide +kernel) (by decide +kernel)
theorem l_X5_136 : Cond.methodLink RX5 136 yX5_layLoop ∈ rn_ws := rn_mem (i := 685) (by decide +kernel) (by decide +kernel)
theorem l_L_39 : Cond.methodLink RL 39 yX5_pass ∈ rn_ws := rn_mem (i := 689) (by decide +kernel) (by decide +kernel)
theorem l_L_44 : Cond.methodLink RL 44 yX5_behind ∈ rn_ws := rn_mem (i := 693) (by decide +kernel) (by decide +kernel)
theorem l_X5_139 : Cond.methodLink RX5 139 yX5_isNumber ∈ rn_ws := rn_mem (i := 697) (by decide +kernel) (by decide +kernel)
theorem k_X5_55 : Cond.constantLong RX5 55 (250) ∈ rn_ws := rn_mem (i := 700) (by decide +kernel) (by decide +kernel)
theorem k_X5_143 : Cond.constantLong RX5 143 (99) ∈ rn_ws := rn_mem (i := 701) (by decide +kernel) (by decide +kernel)
theorem l_L_48 : Cond.methodLink RL 48 yX5_send ∈ rn_ws := rn_mem (i := 702) (by decide +kernel) (by decide +kernel)
theorem l_X5_145 : Cond.methodLink RX5 145 yX5_note ∈ rn_ws := rn_mem (i := 706) (by decide +kernel) (by decide +kernel)
theorem l_L_52 : Cond.methodLink RL 52 yX5_miss ∈ rn_ws := rn_mem (i := 710) (by decide +kernel) (by decide +kernel)
theorem l_L_56 : Cond.methodLink RL 56 yX5_attempt ∈ rn_ws := rn_mem (i := 714) (by decide +kernel) (by decide +kernel)
theorem l_L_60 : Cond.methodLink RL 60 yX5_hear ∈ rn_ws := rn_mem (i := 718) (by decide +kernel) (by decide +kernel)
theorem l_L_65 : Cond.methodLink RL 65 yX5_renew ∈ rn_ws := rn_mem (i := 722) (by decide +kernel) (by decide +kernel)
theorem k_X5_148 : Cond.constantLong RX5 148 (30) ∈ rn_ws := rn_mem (i := 726) (by decide +kernel) (by decide +kernel)
theorem l_L_69 : Cond.methodLink RL 69 yX5_widen ∈ rn_ws := rn_mem (i := 727) (by decide +kernel) (by decide +kernel)
theorem k_X5_150 : Cond.constantLong RX5 150 (6) ∈ rn_ws := rn_mem (i := 731) (by decide +kernel) (by decide +kernel)
theorem l_L_73 : Cond.methodLink RL 73 yX5_undo ∈ rn_ws := rn_mem (i := 732) (by decide +kernel) (by decide +kernel)
theorem l_L_77 : Cond.methodLink RL 77 yX5_fits ∈ rn_ws := rn_mem (i := 736) (by decide +kernel) (by decide +kernel)
theorem l_L_81 : Cond.methodLink RL 81 yX5_fitting ∈ rn_ws := rn_mem (i := 740) (by decide +kernel) (by decide +kernel)
theorem l_X5_156 : Cond.methodLink RX5 156 yX5_fittingOf ∈ rn_ws := rn_mem (i := 744) (by decide +kernel) (by decide +kernel)
theorem l_X5_152 : Cond.methodLink RX5 152 yX5_has ∈ rn_ws := rn_mem (i := 748) (by decide +kernel) (by decide +kernel)
theorem l_L_85 : Cond.methodLink RL 85 yX5_thief ∈ rn_ws := rn_mem (i := 751) (by decide +kernel) (by decide +kernel)
theorem l_L_89 : Cond.methodLink RL 89 yX5_heard ∈ rn_ws := rn_mem (i := 755) (by decide +kernel) (by decide +kernel)
theorem l_L_96 : Cond.methodLink RL 96 yX5_judge ∈ rn_ws := rn_mem (i := 759) (by decide +kernel) (by decide +kernel)
theorem k_X5_159 : Cond.constantLong RX5 159 (4) ∈ rn_ws := rn_mem (i := 763) (by decide +kernel) (by decide +kernel)
theorem k_X5_161 : Cond.constantLong RX5 161 (10000) ∈ rn_ws := rn_mem (i := 764) (by decide +kernel) (by decide +kernel)
theorem l_X5_163 : Cond.methodLink RX5 163 yX5_longPower ∈ rn_ws := rn_mem (i := 765) (by decide +kernel) (by decide +kernel)
theorem l_X5_167 : Cond.methodLink RX5 167 yX5_does ∈ rn_ws := rn_mem (i := 768) (by decide +kernel) (by decide +kernel)
theorem l_L_100 : Cond.methodLink RL 100 yX5_see ∈ rn_ws := rn_mem (i := 772) (by decide +kernel) (by decide +kernel)
theorem k_X5_171 : Cond.constantLong RX5 171 (3) ∈ rn_ws := rn_mem (i := 776) (by decide +kernel) (by decide +kernel)
theorem k_X5_173 : Cond.constantLong RX5 173 (29) ∈ rn_ws := rn_mem (i := 777) (by decide +kernel) (by decide +kernel)
theorem l_L_104 : Cond.methodLink RL 104 yX5_unsee ∈ rn_ws := rn_mem (i := 778) (by decide +kernel) (by decide +kernel)
theorem l_L_108 : Cond.methodLink RL 108 yX5_which ∈ rn_ws := rn_mem (i := 782) (by decide +kernel) (by decide +kernel)
theorem l_L_113 : Cond.methodLink RL 113 yX5_share ∈ rn_ws := rn_mem (i := 786) (by decide +kernel) (by decide +kernel)
theorem l_X5_181 : Cond.methodLink RX5 181 yX5_ones ∈ rn_ws := rn_mem (i := 790) (by decide +kernel) (by decide +kernel)
theorem l_X5_184 : Cond.methodLink RX5 184 yX5_factorial ∈ rn_ws := rn_mem (i := 793) (by decide +kernel) (by decide +kernel)
theorem l_X5_187 : Cond.methodLink RX5 187 yX5_fraction ∈ rn_ws := rn_mem (i := 796) (by decide +kernel) (by decide +kernel)
theorem l_X5_178 : Cond.methodLink RX5 178 yX5_divisor ∈ rn_ws := rn_mem (i := 799) (by decide +kernel) (by decide +kernel)
theorem l_L_118 : Cond.methodLink RL 118 yX5_guess ∈ rn_ws := rn_mem (i := 802) (by decide +kernel) (by decide +kernel)
theorem l_X5_191 : Cond.methodLink RX5 191 yX5_power ∈ rn_ws := rn_mem (i := 806) (by decide +kernel) (by decide +kernel)
theorem l_L_123 : Cond.methodLink RL 123 yX5_loss ∈ rn_ws := rn_mem (i := 809) (by decide +kernel) (by decide +kernel)
theorem k_X5_194 : Cond.constantLong RX5 194 (10) ∈ rn_ws := rn_mem (i := 813) (by decide +kernel) (by decide +kernel)
theorem l_L_128 : Cond.methodLink RL 128 yX5_seed ∈ rn_ws := rn_mem (i := 814) (by decide +kernel) (by decide +kernel)
theorem l_L_132 : Cond.methodLink RL 132 yX5_drawn ∈ rn_ws := rn_mem (i := 818) (by decide +kernel) (by decide +kernel)
theorem k_X5_200 : Cond.constantLong RX5 200 (60) ∈ rn_ws := rn_mem (i := 822) (by decide +kernel) (by decide +kernel)
theorem k_X5_202 : Cond.constantLong RX5 202 (6364136223846793005) ∈ rn_ws := rn_mem (i := 823) (by decide +kernel) (by decide +kernel)
theorem k_X5_204 : Cond.constantLong RX5 204 (1442695040888963407) ∈ rn_ws := rn_mem (i := 824) (by decide +kernel) (by decide +kernel)
theorem l_L_136 : Cond.methodLink RL 136 yX5_keep ∈ rn_ws := rn_mem (i := 825) (by decide +kernel) (by decide +kernel)
theorem l_L_140 : Cond.methodLink RL 140 yX5_again ∈ rn_ws := rn_mem (i := 829) (by decide +kernel) (by decide +kernel)
theorem l_L_144 : Cond.methodLink RL 144 yX5_count ∈ rn_ws := rn_mem (i := 833) (by decide +kernel) (by decide +kernel)
theorem k_L_90 : Cond.constantLong RL 90 (4294967295) ∈ rn_ws := rn_mem (i := 837) (by decide +kernel) (by decide +kernel)
theorem w_obj2 : Cond.instanceMethod Lib.objectInit ∈ rn_ws := rn_mem (i := 41) (by decide +kernel) (by decide +kernel)
theorem w_obj3 : Cond.code Lib.objectInit ⟨#[0xb1]⟩ 1 none ∈ rn_ws := rn_mem (i := 42) (by decide +kernel) (by decide +kernel)
theorem w_min2 : Cond.static Lib.Math.min.name ∈ rn_ws := rn_mem (i := 255) (by decide +kernel) (by decide +kernel)
theorem w_min3 : Cond.initialized "java/lang/Math" ∈ rn_ws := rn_mem (i := 33) (by decide +kernel) (by decide +kernel)
theorem w_min4 : Cond.code Lib.Math.min.name Lib.Math.min.code 2 (some .int) ∈ rn_ws := rn_mem (i := 256) (by decide +kernel) (by decide +kernel)
theorem w_cpy2 : Cond.native arraycopyName ∈ rn_ws := rn_mem (i := 268) (by decide +kernel) (by decide +kernel)
theorem w_cpy3 : Cond.static arraycopyName ∈ rn_ws := rn_mem (i := 267) (by decide +kernel) (by decide +kernel)
theorem w_cpy4 : Cond.initialized "java/lang/System" ∈ rn_ws := rn_mem (i := 34) (by decide +kernel) (by decide +kernel)
theorem w_arI : Cond.arrayClass .int ∈ rn_ws := rn_mem (i := 60) (by decide +kernel) (by decide +kernel)
theorem w_arZ : Cond.arrayClass .boolean ∈ rn_ws := rn_mem (i := 102) (by decide +kernel) (by decide +kernel)
theorem f_X3_11 : rFl RX3 11 3 0 := ⟨_, _, _, rfl, by decide, rfl, in_X3, Or.inl (rn_mem (i := 49) (by decide +kernel) (by decide +kernel))⟩
theorem p_X3_11 : rFp RX3 11 3 0 (.array .int) true := ⟨_, _, _, rfl, by decide, rfl, in_X3, Or.inl (rn_mem (i := 49) (by decide +kernel) (by decide +kernel)), ⟨tyX3, tyX3_ok⟩, nmX3, by decide +kernel, rfl, fun h => by first | rfl | cases h⟩
theorem f_X3_15 : rFl RX3 15 3 1 := ⟨_, _, _, rfl, by decide, rfl, in_X3, Or.inl (rn_mem (i := 50) (by decide +kernel) (by decide +kernel))⟩
theorem p_X3_15 : rFp RX3 15 3 1 (.int) false := ⟨_, _, _, rfl, by decide, rfl, in_X3, Or.inl (rn_mem (i := 50) (by decide +kernel) (by decide +kernel)), ⟨tyX3, tyX3_ok⟩, nmX3, by decide +kernel, rfl, fun h => by first | rfl | cases h⟩
theorem f_X4_48 : rFl RX4 48 3 1 := ⟨_, _, _, rfl, by decide, rfl, in_X3, Or.inr ⟨"SpentPasses", rn_memN (i := 51) (by decide +kernel) (by decide +kernel)⟩⟩
theorem p_X4_48 : rFp RX4 48 3 1 (.int) false := ⟨_, _, _, rfl, by decide, rfl, in_X3, Or.inr ⟨rfl, "SpentPasses", rn_memN (i := 51) (by decide +kernel) (by decide +kernel)⟩, ⟨tyX3, tyX3_ok⟩, nmX3, by decide +kernel, rfl, fun h => by first | rfl | cases h⟩
theorem f_X3_19 : rFl RX3 19 3 2 := ⟨_, _, _, rfl, by decide, rfl, in_X3, Or.inl (rn_mem (i := 52) (by decide +kernel) (by decide +kernel))⟩
theorem p_X3_19 : rFp RX3 19 3 2 (.int) false := ⟨_, _, _, rfl, by decide, rfl, in_X3, Or.inl (rn_mem (i := 52) (by decide +kernel) (by decide +kernel)), ⟨tyX3, tyX3_ok⟩, nmX3, by decide +kernel, rfl, fun h => by first | rfl | cases h⟩
theorem f_X0_11 : rFl RX0 11 0 0 := ⟨_, _, _, rfl, by decide, rfl, in_X0, Or.inl (rn_mem (i := 74) (by decide +kernel) (by decide +kernel))⟩
theorem p_X0_11 : rFp RX0 11 0 0 (.array .int) true := ⟨_, _, _, rfl, by decide, rfl, in_X0, Or.inl (rn_mem (i := 74) (by decide +kernel) (by decide +kernel)), ⟨tyX0, tyX0_ok⟩, nmX0, by decide +kernel, rfl, fun h => by first | rfl | cases h⟩
theorem f_X2_35 : rFl RX2 35 0 0 := ⟨_, _, _, rfl, by decide, rfl, in_X0, Or.inr ⟨"SpentPasses", rn_memN (i := 75) (by decide +kernel) (by decide +kernel)⟩⟩
theorem f_X2_11 : rFl RX2 11 2 0 := ⟨_, _, _, rfl, by decide, rfl, in_X2, Or.inl (rn_mem (i := 85) (by decide +kernel) (by decide +kernel))⟩
theorem p_X2_11 : rFp RX2 11 2 0 (.array .int) true := ⟨_, _, _, rfl, by decide, rfl, in_X2, Or.inl (rn_mem (i := 85) (by decide +kernel) (by decide +kernel)), ⟨tyX2, tyX2_ok⟩, nmX2, by decide +kernel, rfl, fun h => by first | rfl | cases h⟩
theorem f_X2_15 : rFl RX2 15 2 1 := ⟨_, _, _, rfl, by decide, rfl, in_X2, Or.inl (rn_mem (i := 86) (by decide +kernel) (by decide +kernel))⟩
theorem p_X2_15 : rFp RX2 15 2 1 (.array .int) true := ⟨_, _, _, rfl, by decide, rfl, in_X2, Or.inl (rn_mem (i := 86) (by decide +kernel) (by decide +kernel)), ⟨tyX2, tyX2_ok⟩, nmX2, by decide +kernel, rfl, fun h => by first | rfl | cases h⟩
theorem f_X2_18 : rFl RX2 18 2 2 := ⟨_, _, _, rfl, by decide, rfl, in_X2, Or.inl (rn_mem (i := 87) (by decide +kernel) (by decide +kernel))⟩
theorem p_X2_18 : rFp RX2 18 2 2 (.array .boolean) true := ⟨_, _, _, rfl, by decide, rfl, in_X2, Or.inl (rn_mem (i := 87) (by decide +kernel) (by decide +kernel)), ⟨tyX2, tyX2_ok⟩, nmX2, by decide +kernel, rfl, fun h => by first | rfl | cases h⟩
theorem f_X2_22 : rFl RX2 22 2 3 := ⟨_, _, _, rfl, by decide, rfl, in_X2, Or.inl (rn_mem (i := 88) (by decide +kernel) (by decide +kernel))⟩
theorem p_X2_22 : rFp RX2 22 2 3 (.int) false := ⟨_, _, _, rfl, by decide, rfl, in_X2, Or.inl (rn_mem (i := 88) (by decide +kernel) (by decide +kernel)), ⟨tyX2, tyX2_ok⟩, nmX2, by decide +kernel, rfl, fun h => by first | rfl | cases h⟩
theorem f_X4_146 : rFl RX4 146 2 3 := ⟨_, _, _, rfl, by decide, rfl, in_X2, Or.inr ⟨"SpentPasses", rn_memN (i := 89) (by decide +kernel) (by decide +kernel)⟩⟩
theorem p_X4_146 : rFp RX4 146 2 3 (.int) false := ⟨_, _, _, rfl, by decide, rfl, in_X2, Or.inr ⟨rfl, "SpentPasses", rn_memN (i := 89) (by decide +kernel) (by decide +kernel)⟩, ⟨tyX2, tyX2_ok⟩, nmX2, by decide +kernel, rfl, fun h => by first | rfl | cases h⟩
theorem f_X2_26 : rFl RX2 26 2 4 := ⟨_, _, _, rfl, by decide, rfl, in_X2, Or.inl (rn_mem (i := 90) (by decide +kernel) (by decide +kernel))⟩
theorem p_X2_26 : rFp RX2 26 2 4 (.int) false := ⟨_, _, _, rfl, by decide, rfl, in_X2, Or.inl (rn_mem (i := 90) (by decide +kernel) (by decide +kernel)), ⟨tyX2, tyX2_ok⟩, nmX2, by decide +kernel, rfl, fun h => by first | rfl | cases h⟩
theorem f_X1_11 : rFl RX1 11 1 0 := ⟨_, _, _, rfl, by decide, rfl, in_X1, Or.inl (rn_mem (i := 109) (by decide +kernel) (by decide +kernel))⟩
theorem p_X1_11 : rFp RX1 11 1 0 (.array .int) true := ⟨_, _, _, rfl, by decide, rfl, in_X1, Or.inl (rn_mem (i := 109) (by decide +kernel) (by decide +kernel)), ⟨tyX1, tyX1_ok⟩, nmX1, by decide +kernel, rfl, fun h => by first | rfl | cases h⟩
theorem f_X1_15 : rFl RX1 15 1 1 := ⟨_, _, _, rfl, by decide, rfl, in_X1, Or.inl (rn_mem (i := 110) (by decide +kernel) (by decide +kernel))⟩
theorem p_X1_15 : rFp RX1 15 1 1 (.array .int) true := ⟨_, _, _, rfl, by decide, rfl, in_X1, Or.inl (rn_mem (i := 110) (by decide +kernel) (by decide +kernel)), ⟨tyX1, tyX1_ok⟩, nmX1, by decide +kernel, rfl, fun h => by first | rfl | cases h⟩
theorem f_X1_18 : rFl RX1 18 1 2 := ⟨_, _, _, rfl, by decide, rfl, in_X1, Or.inl (rn_mem (i := 111) (by decide +kernel) (by decide +kernel))⟩
theorem p_X1_18 : rFp RX1 18 1 2 (.array .int) true := ⟨_, _, _, rfl, by decide, rfl, in_X1, Or.inl (rn_mem (i := 111) (by decide +kernel) (by decide +kernel)), ⟨tyX1, tyX1_ok⟩, nmX1, by decide +kernel, rfl, fun h => by first | rfl | cases h⟩
theorem f_X1_21 : rFl RX1 21 1 3 := ⟨_, _, _, rfl, by decide, rfl, in_X1, Or.inl (rn_mem (i := 112) (by decide +kernel) (by decide +kernel))⟩
theorem p_X1_21 : rFp RX1 21 1 3 (.int) false := ⟨_, _, _, rfl, by decide, rfl, in_X1, Or.inl (rn_mem (i := 112) (by decide +kernel) (by decide +kernel)), ⟨tyX1, tyX1_ok⟩, nmX1, by decide +kernel, rfl, fun h => by first | rfl | cases h⟩
theorem f_X4_176 : rFl RX4 176 1 3 := ⟨_, _, _, rfl, by decide, rfl, in_X1, Or.inr ⟨"SpentPasses", rn_memN (i := 113) (by decide +kernel) (by decide +kernel)⟩⟩
theorem p_X4_176 : rFp RX4 176 1 3 (.int) false := ⟨_, _, _, rfl, by decide, rfl, in_X1, Or.inr ⟨rfl, "SpentPasses", rn_memN (i := 113) (by decide +kernel) (by decide +kernel)⟩, ⟨tyX1, tyX1_ok⟩, nmX1, by decide +kernel, rfl, fun h => by first | rfl | cases h⟩
theorem f_X4_10 : rFl RX4 10 4 0 := ⟨_, _, _, rfl, by decide, rfl, in_X4, Or.inl (rn_mem (i := 123) (by decide +kernel) (by decide +kernel))⟩
theorem p_X4_10 : rFp RX4 10 4 0 (.object "SpentPasses$Text") true := ⟨_, _, _, rfl, by decide, rfl, in_X4, Or.inl (rn_mem (i := 123) (by decide +kernel) (by decide +kernel)), ⟨tyX4, tyX4_ok⟩, nmX4, by decide +kernel, rfl, fun h => by first | rfl | cases h⟩
theorem f_X4_19 : rFl RX4 19 4 1 := ⟨_, _, _, rfl, by decide, rfl, in_X4, Or.inl (rn_mem (i := 124) (by decide +kernel) (by decide +kernel))⟩
theorem p_X4_19 : rFp RX4 19 4 1 (.object "SpentPasses$Hall") true := ⟨_, _, _, rfl, by decide, rfl, in_X4, Or.inl (rn_mem (i := 124) (by decide +kernel) (by decide +kernel)), ⟨tyX4, tyX4_ok⟩, nmX4, by decide +kernel, rfl, fun h => by first | rfl | cases h⟩
theorem f_X4_23 : rFl RX4 23 4 2 := ⟨_, _, _, rfl, by decide, rfl, in_X4, Or.inl (rn_mem (i := 125) (by decide +kernel) (by decide +kernel))⟩
theorem p_X4_23 : rFp RX4 23 4 2 (.object "SpentPasses$Hall") true := ⟨_, _, _, rfl, by decide, rfl, in_X4, Or.inl (rn_mem (i := 125) (by decide +kernel) (by decide +kernel)), ⟨tyX4, tyX4_ok⟩, nmX4, by decide +kernel, rfl, fun h => by first | rfl | cases h⟩
theorem f_X4_29 : rFl RX4 29 4 3 := ⟨_, _, _, rfl, by decide, rfl, in_X4, Or.inl (rn_mem (i := 126) (by decide +kernel) (by decide +kernel))⟩
theorem p_X4_29 : rFp RX4 29 4 3 (.object "SpentPasses$Shelf") true := ⟨_, _, _, rfl, by decide, rfl, in_X4, Or.inl (rn_mem (i := 126) (by decide +kernel) (by decide +kernel)), ⟨tyX4, tyX4_ok⟩, nmX4, by decide +kernel, rfl, fun h => by first | rfl | cases h⟩
theorem f_X4_36 : rFl RX4 36 4 4 := ⟨_, _, _, rfl, by decide, rfl, in_X4, Or.inl (rn_mem (i := 127) (by decide +kernel) (by decide +kernel))⟩
theorem p_X4_36 : rFp RX4 36 4 4 (.object "SpentPasses$Seen") true := ⟨_, _, _, rfl, by decide, rfl, in_X4, Or.inl (rn_mem (i := 127) (by decide +kernel) (by decide +kernel)), ⟨tyX4, tyX4_ok⟩, nmX4, by decide +kernel, rfl, fun h => by first | rfl | cases h⟩
theorem f_X4_40 : rFl RX4 40 4 5 := ⟨_, _, _, rfl, by decide, rfl, in_X4, Or.inl (rn_mem (i := 128) (by decide +kernel) (by decide +kernel))⟩
theorem p_X4_40 : rFp RX4 40 4 5 (.long) false := ⟨_, _, _, rfl, by decide, rfl, in_X4, Or.inl (rn_mem (i := 128) (by decide +kernel) (by decide +kernel)), ⟨tyX4, tyX4_ok⟩, nmX4, by decide +kernel, rfl, fun h => by first | rfl | cases h⟩
theorem f_X5_51 : rFl RX5 51 5 0 := ⟨_, _, _, rfl, by decide, rfl, in_X5, Or.inl (rn_mem (i := 548) (by decide +kernel) (by decide +kernel))⟩
theorem p_X5_51 : rFp RX5 51 5 0 (.int) false := ⟨_, _, _, rfl, by decide, rfl, in_X5, Or.inl (rn_mem (i := 548) (by decide +kernel) (by decide +kernel)), ⟨tyX5, tyX5_ok⟩, nmX5, by decide +kernel, rfl, fun h => by first | rfl | cases h⟩
theorem f_X5_7 : rFl RX5 7 5 1 := ⟨_, _, _, rfl, by decide, rfl, in_X5, Or.inl (rn_mem (i := 549) (by decide +kernel) (by decide +kernel))⟩
theorem p_X5_7 : rFp RX5 7 5 1 (.array .int) true := ⟨_, _, _, rfl, by decide, rfl, in_X5, Or.inl (rn_mem (i := 549) (by decide +kernel) (by decide +kernel)), ⟨tyX5, tyX5_ok⟩, nmX5, by decide +kernel, rfl, fun h => by first | rfl | cases h⟩
theorem f_X5_84 : rFl RX5 84 5 2 := ⟨_, _, _, rfl, by decide, rfl, in_X5, Or.inl (rn_mem (i := 550) (by decide +kernel) (by decide +kernel))⟩
theorem p_X5_84 : rFp RX5 84 5 2 (.int) false := ⟨_, _, _, rfl, by decide, rfl, in_X5, Or.inl (rn_mem (i := 550) (by decide +kernel) (by decide +kernel)), ⟨tyX5, tyX5_ok⟩, nmX5, by decide +kernel, rfl, fun h => by first | rfl | cases h⟩
theorem f_X5_87 : rFl RX5 87 5 3 := ⟨_, _, _, rfl, by decide, rfl, in_X5, Or.inl (rn_mem (i := 551) (by decide +kernel) (by decide +kernel))⟩
theorem p_X5_87 : rFp RX5 87 5 3 (.int) false := ⟨_, _, _, rfl, by decide, rfl, in_X5, Or.inl (rn_mem (i := 551) (by decide +kernel) (by decide +kernel)), ⟨tyX5, tyX5_ok⟩, nmX5, by decide +kernel, rfl, fun h => by first | rfl | cases h⟩
theorem f_X5_13 : rFl RX5 13 5 4 := ⟨_, _, _, rfl, by decide, rfl, in_X5, Or.inl (rn_mem (i := 552) (by decide +kernel) (by decide +kernel))⟩
theorem p_X5_13 : rFp RX5 13 5 4 (.array .int) true := ⟨_, _, _, rfl, by decide, rfl, in_X5, Or.inl (rn_mem (i := 552) (by decide +kernel) (by decide +kernel)), ⟨tyX5, tyX5_ok⟩, nmX5, by decide +kernel, rfl, fun h => by first | rfl | cases h⟩
theorem f_X5_16 : rFl RX5 16 5 5 := ⟨_, _, _, rfl, by decide, rfl, in_X5, Or.inl (rn_mem (i := 553) (by decide +kernel) (by decide +kernel))⟩
theorem p_X5_16 : rFp RX5 16 5 5 (.array .int) true := ⟨_, _, _, rfl, by decide, rfl, in_X5, Or.inl (rn_mem (i := 553) (by decide +kernel) (by decide +kernel)), ⟨tyX5, tyX5_ok⟩, nmX5, by decide +kernel, rfl, fun h => by first | rfl | cases h⟩
theorem f_X5_94 : rFl RX5 94 5 6 := ⟨_, _, _, rfl, by decide, rfl, in_X5, Or.inl (rn_mem (i := 554) (by decide +kernel) (by decide +kernel))⟩
theorem p_X5_94 : rFp RX5 94 5 6 (.int) false := ⟨_, _, _, rfl, by decide, rfl, in_X5, Or.inl (rn_mem (i := 554) (by decide +kernel) (by decide +kernel)), ⟨tyX5, tyX5_ok⟩, nmX5, by decide +kernel, rfl, fun h => by first | rfl | cases h⟩
theorem f_X5_19 : rFl RX5 19 5 7 := ⟨_, _, _, rfl, by decide, rfl, in_X5, Or.inl (rn_mem (i := 555) (by decide +kernel) (by decide +kernel))⟩
theorem p_X5_19 : rFp RX5 19 5 7 (.array .int) true := ⟨_, _, _, rfl, by decide, rfl, in_X5, Or.inl (rn_mem (i := 555) (by decide +kernel) (by decide +kernel)), ⟨tyX5, tyX5_ok⟩, nmX5, by decide +kernel, rfl, fun h => by first | rfl | cases h⟩
theorem f_X5_22 : rFl RX5 22 5 8 := ⟨_, _, _, rfl, by decide, rfl, in_X5, Or.inl (rn_mem (i := 556) (by decide +kernel) (by decide +kernel))⟩
theorem p_X5_22 : rFp RX5 22 5 8 (.array .int) true := ⟨_, _, _, rfl, by decide, rfl, in_X5, Or.inl (rn_mem (i := 556) (by decide +kernel) (by decide +kernel)), ⟨tyX5, tyX5_ok⟩, nmX5, by decide +kernel, rfl, fun h => by first | rfl | cases h⟩
theorem f_X5_25 : rFl RX5 25 5 9 := ⟨_, _, _, rfl, by decide, rfl, in_X5, Or.inl (rn_mem (i := 557) (by decide +kernel) (by decide +kernel))⟩
theorem p_X5_25 : rFp RX5 25 5 9 (.array .int) true := ⟨_, _, _, rfl, by decide, rfl, in_X5, Or.inl (rn_mem (i := 557) (by decide +kernel) (by decide +kernel)), ⟨tyX5, tyX5_ok⟩, nmX5, by decide +kernel, rfl, fun h => by first | rfl | cases h⟩
theorem f_X5_124 : rFl RX5 124 5 10 := ⟨_, _, _, rfl, by decide, rfl, in_X5, Or.inl (rn_mem (i := 558) (by decide +kernel) (by decide +kernel))⟩
theorem p_X5_124 : rFp RX5 124 5 10 (.int) false := ⟨_, _, _, rfl, by decide, rfl, in_X5, Or.inl (rn_mem (i := 558) (by decide +kernel) (by decide +kernel)), ⟨tyX5, tyX5_ok⟩, nmX5, by decide +kernel, rfl, fun h => by first | rfl | cases h⟩
theorem f_X5_28 : rFl RX5 28 5 11 := ⟨_, _, _, rfl, by decide, rfl, in_X5, Or.inl (rn_mem (i := 559) (by decide +kernel) (by decide +kernel))⟩
theorem p_X5_28 : rFp RX5 28 5 11 (.array .int) true := ⟨_, _, _, rfl, by decide, rfl, in_X5, Or.inl (rn_mem (i := 559) (by decide +kernel) (by decide +kernel)), ⟨tyX5, tyX5_ok⟩, nmX5, by decide +kernel, rfl, fun h => by first | rfl | cases h⟩
theorem f_X5_31 : rFl RX5 31 5 12 := ⟨_, _, _, rfl, by decide, rfl, in_X5, Or.inl (rn_mem (i := 560) (by decide +kernel) (by decide +kernel))⟩
theorem p_X5_31 : rFp RX5 31 5 12 (.array .boolean) true := ⟨_, _, _, rfl, by decide, rfl, in_X5, Or.inl (rn_mem (i := 560) (by decide +kernel) (by decide +kernel)), ⟨tyX5, tyX5_ok⟩, nmX5, by decide +kernel, rfl, fun h => by first | rfl | cases h⟩
theorem f_X5_175 : rFl RX5 175 5 13 := ⟨_, _, _, rfl, by decide, rfl, in_X5, Or.inl (rn_mem (i := 561) (by decide +kernel) (by decide +kernel))⟩
theorem p_X5_175 : rFp RX5 175 5 13 (.int) false := ⟨_, _, _, rfl, by decide, rfl, in_X5, Or.inl (rn_mem (i := 561) (by decide +kernel) (by decide +kernel)), ⟨tyX5, tyX5_ok⟩, nmX5, by decide +kernel, rfl, fun h => by first | rfl | cases h⟩
theorem f_X5_35 : rFl RX5 35 5 14 := ⟨_, _, _, rfl, by decide, rfl, in_X5, Or.inl (rn_mem (i := 562) (by decide +kernel) (by decide +kernel))⟩
theorem p_X5_35 : rFp RX5 35 5 14 (.array .int) true := ⟨_, _, _, rfl, by decide, rfl, in_X5, Or.inl (rn_mem (i := 562) (by decide +kernel) (by decide +kernel)), ⟨tyX5, tyX5_ok⟩, nmX5, by decide +kernel, rfl, fun h => by first | rfl | cases h⟩
theorem f_X5_38 : rFl RX5 38 5 15 := ⟨_, _, _, rfl, by decide, rfl, in_X5, Or.inl (rn_mem (i := 563) (by decide +kernel) (by decide +kernel))⟩
theorem p_X5_38 : rFp RX5 38 5 15 (.array .int) true := ⟨_, _, _, rfl, by decide, rfl, in_X5, Or.inl (rn_mem (i := 563) (by decide +kernel) (by decide +kernel)), ⟨tyX5, tyX5_ok⟩, nmX5, by decide +kernel, rfl, fun h => by first | rfl | cases h⟩
theorem f_X5_41 : rFl RX5 41 5 16 := ⟨_, _, _, rfl, by decide, rfl, in_X5, Or.inl (rn_mem (i := 564) (by decide +kernel) (by decide +kernel))⟩
theorem p_X5_41 : rFp RX5 41 5 16 (.array .int) true := ⟨_, _, _, rfl, by decide, rfl, in_X5, Or.inl (rn_mem (i := 564) (by decide +kernel) (by decide +kernel)), ⟨tyX5, tyX5_ok⟩, nmX5, by decide +kernel, rfl, fun h => by first | rfl | cases h⟩
theorem f_X5_196 : rFl RX5 196 5 17 := ⟨_, _, _, rfl, by decide, rfl, in_X5, Or.inl (rn_mem (i := 565) (by decide +kernel) (by decide +kernel))⟩
theorem p_X5_196 : rFp RX5 196 5 17 (.long) false := ⟨_, _, _, rfl, by decide, rfl, in_X5, Or.inl (rn_mem (i := 565) (by decide +kernel) (by decide +kernel)), ⟨tyX5, tyX5_ok⟩, nmX5, by decide +kernel, rfl, fun h => by first | rfl | cases h⟩
theorem f_X5_44 : rFl RX5 44 5 18 := ⟨_, _, _, rfl, by decide, rfl, in_X5, Or.inl (rn_mem (i := 566) (by decide +kernel) (by decide +kernel))⟩
theorem p_X5_44 : rFp RX5 44 5 18 (.array .int) true := ⟨_, _, _, rfl, by decide, rfl, in_X5, Or.inl (rn_mem (i := 566) (by decide +kernel) (by decide +kernel)), ⟨tyX5, tyX5_ok⟩, nmX5, by decide +kernel, rfl, fun h => by first | rfl | cases h⟩
theorem c_L_7 : rNw RL 7 4 [.null, .null, .null, .null, .null, .long 0] := ⟨_, _, _, rfl, in_X4, rn_mem (i := 35) (by decide +kernel) (by decide +kernel), rn_mem (i := 36) (by decide +kernel) (by decide +kernel), rn_mem (i := 26) (by decide +kernel) (by decide +kernel), rfl, ⟨tyX4, tyX4_ok, by decide +kernel⟩, fun g => rfl⟩
theorem c_X4_7 : rNw RX4 7 3 [.null, .int 0, .int 0] := ⟨_, _, _, rfl, in_X3, rn_mem (i := 43) (by decide +kernel) (by decide +kernel), rn_mem (i := 44) (by decide +kernel) (by decide +kernel), rn_mem (i := 27) (by decide +kernel) (by decide +kernel), rfl, ⟨tyX3, tyX3_ok, by decide +kernel⟩, fun g => rfl⟩
theorem c_X4_16 : rNw RX4 16 0 [.null] := ⟨_, _, _, rfl, in_X0, rn_mem (i := 61) (by decide +kernel) (by decide +kernel), rn_mem (i := 62) (by decide +kernel) (by decide +kernel), rn_mem (i := 28) (by decide +kernel) (by decide +kernel), rfl, ⟨tyX0, tyX0_ok, by decide +kernel⟩, fun g => rfl⟩
theorem c_X4_26 : rNw RX4 26 2 [.null, .null, .null, .int 0, .int 0] := ⟨_, _, _, rfl, in_X2, rn_mem (i := 79) (by decide +kernel) (by decide +kernel), rn_mem (i := 80) (by decide +kernel) (by decide +kernel), rn_mem (i := 30) (by decide +kernel) (by decide +kernel), rfl, ⟨tyX2, tyX2_ok, by decide +kernel⟩, fun g => rfl⟩
theorem c_X4_33 : rNw RX4 33 1 [.null, .null, .null, .int 0] := ⟨_, _, _, rfl, in_X1, rn_mem (i := 103) (by decide +kernel) (by decide +kernel), rn_mem (i := 104) (by decide +kernel) (by decide +kernel), rn_mem (i := 31) (by decide +kernel) (by decide +kernel), rfl, ⟨tyX1, tyX1_ok, by decide +kernel⟩, fun g => rfl⟩
theorem c_L_10 : rNw RL 10 5 [.int 0, .null, .int 0, .int 0, .null, .null, .int 0, .null, .null, .null, .int 0, .null, .null, .int 0, .null, .null, .null, .long 0, .null] := ⟨_, _, _, rfl, in_X5, rn_mem (i := 539) (by decide +kernel) (by decide +kernel), rn_mem (i := 540) (by decide +kernel) (by decide +kernel), rn_mem (i := 32) (by decide +kernel) (by decide +kernel), rfl, ⟨tyX5, tyX5_ok, by decide +kernel⟩, fun g => rfl⟩
end
section
theorem dX0_init_0 : decode cX0_init 0 = .ok (.aload_n 0, 1) := by decide +kernel
theorem dX0_init_1 : decode cX0_init 1 = .ok (.invokespecial 5, 3) := by decide +kernel
theorem dX0_init_4 : decode cX0_init 4 = .ok (.aload_n 0, 1) := by decide +kernel
theorem dX0_init_5 : decode cX0_init 5 = .ok (.bipush 36, 2) := by decide +kernel
theorem dX0_init_7 : decode cX0_init 7 = .ok (.newarray .int, 2) := by decide +kernel
theorem dX0_init_9 : decode cX0_init 9 = .ok (.putfield 11, 3) := by decide +kernel
theorem dX0_init_12 : decode cX0_init 12 = .ok (.aload_n 0, 1) := by decide +kernel
theorem dX0_init_13 : decode cX0_init 13 = .ok (.invokevirtual 15, 3) := by decide +kernel
theorem dX0_init_16 : decode cX0_init 16 = .ok (.return_, 1) := by decide +kernel
theorem dX0_clear_0 : decode cX0_clear 0 = .ok (.aload_n 0, 1) := by decide +kernel
theorem dX0_clear_1 : decode cX0_clear 1 = .ok (.getfield 11, 3) := by decide +kernel
theorem dX0_clear_4 : decode cX0_clear 4 = .ok (.iconst 0, 1) := by decide +kernel
theorem dX0_clear_5 : decode cX0_clear 5 = .ok (.invokestatic 18, 3) := by decide +kernel
theorem dX0_clear_8 : decode cX0_clear 8 = .ok (.aload_n 0, 1) := by decide +kernel
theorem dX0_clear_9 : decode cX0_clear 9 = .ok (.getfield 11, 3) := by decide +kernel
theorem dX0_clear_12 : decode cX0_clear 12 = .ok (.iconst 1, 1) := by decide +kernel
theorem dX0_clear_13 : decode cX0_clear 13 = .ok (.iconst 1, 1) := by decide +kernel
theorem dX0_clear_14 : decode cX0_clear 14 = .ok (.iastore, 1) := by decide +kernel
theorem dX0_clear_15 : decode cX0_clear 15 = .ok (.aload_n 0, 1) := by decide +kernel
theorem dX0_clear_16 : decode cX0_clear 16 = .ok (.getfield 11, 3) := by decide +kernel
theorem dX0_clear_19 : decode cX0_clear 19 = .ok (.iconst 2, 1) := by decide +kernel
theorem dX0_clear_20 : decode cX0_clear 20 = .ok (.bipush (-9), 2) := by decide +kernel
theorem dX0_clear_22 : decode cX0_clear 22 = .ok (.iastore, 1) := by decide +kernel
theorem dX0_clear_23 : decode cX0_clear 23 = .ok (.return_, 1) := by decide +kernel
theorem dX0_copyFrom_0 : decode cX0_copyFrom 0 = .ok (.aload_n 1, 1) := by decide +kernel
theorem dX0_copyFrom_1 : decode cX0_copyFrom 1 = .ok (.getfield 11, 3) := by decide +kernel
theorem dX0_copyFrom_4 : decode cX0_copyFrom 4 = .ok (.iconst 0, 1) := by decide +kernel
theorem dX0_copyFrom_5 : decode cX0_copyFrom 5 = .ok (.aload_n 0, 1) := by decide +kernel
theorem dX0_copyFrom_6 : decode cX0_copyFrom 6 = .ok (.getfield 11, 3) := by decide +kernel
theorem dX0_copyFrom_9 : decode cX0_copyFrom 9 = .ok (.iconst 0, 1) := by decide +kernel
theorem dX0_copyFrom_10 : decode cX0_copyFrom 10 = .ok (.bipush 36, 2) := by decide +kernel
theorem dX0_copyFrom_12 : decode cX0_copyFrom 12 = .ok (.invokestatic 24, 3) := by decide +kernel
theorem dX0_copyFrom_15 : decode cX0_copyFrom 15 = .ok (.return_, 1) := by decide +kernel
theorem dX0_users_0 : decode cX0_users 0 = .ok (.aload_n 0, 1) := by decide +kernel
theorem dX0_users_1 : decode cX0_users 1 = .ok (.getfield 11, 3) := by decide +kernel
theorem dX0_users_4 : decode cX0_users 4 = .ok (.iconst 0, 1) := by decide +kernel
theorem dX0_users_5 : decode cX0_users 5 = .ok (.iaload, 1) := by decide +kernel
theorem dX0_users_6 : decode cX0_users 6 = .ok (.ireturn, 1) := by decide +kernel
theorem dX0_window_0 : decode cX0_window 0 = .ok (.aload_n 0, 1) := by decide +kernel
theorem dX0_window_1 : decode cX0_window 1 = .ok (.getfield 11, 3) := by decide +kernel
theorem dX0_window_4 : decode cX0_window 4 = .ok (.iconst 1, 1) := by decide +kernel
theorem dX0_window_5 : decode cX0_window 5 = .ok (.iaload, 1) := by decide +kernel
theorem dX0_window_6 : decode cX0_window 6 = .ok (.ireturn, 1) := by decide +kernel
theorem dX0_setWindow_0 : decode cX0_setWindow 0 = .ok (.aload_n 0, 1) := by decide +kernel
theorem dX0_setWindow_1 : decode cX0_setWindow 1 = .ok (.getfield 11, 3) := by decide +kernel
theorem dX0_setWindow_4 : decode cX0_setWindow 4 = .ok (.iconst 1, 1) := by decide +kernel
theorem dX0_setWindow_5 : decode cX0_setWindow 5 = .ok (.iload_n 1, 1) := by decide +kernel
theorem dX0_setWindow_6 : decode cX0_setWindow 6 = .ok (.iastore, 1) := by decide +kernel
theorem dX0_setWindow_7 : decode cX0_setWindow 7 = .ok (.return_, 1) := by decide +kernel
theorem dX0_wire_0 : decode cX0_wire 0 = .ok (.aload_n 0, 1) := by decide +kernel
theorem dX0_wire_1 : decode cX0_wire 1 = .ok (.getfield 11, 3) := by decide +kernel
theorem dX0_wire_4 : decode cX0_wire 4 = .ok (.iconst 2, 1) := by decide +kernel
theorem dX0_wire_5 : decode cX0_wire 5 = .ok (.iaload, 1) := by decide +kernel
theorem dX0_wire_6 : decode cX0_wire 6 = .ok (.ireturn, 1) := by decide +kernel
theorem dX0_userIn_0 : decode cX0_userIn 0 = .ok (.iload_n 0, 1) := by decide +kernel
theorem dX0_userIn_1 : decode cX0_userIn 1 = .ok (.sipush 1000, 3) := by decide +kernel
theorem dX0_userIn_4 : decode cX0_userIn 4 = .ok (.idiv, 1) := by decide +kernel
theorem dX0_userIn_5 : decode cX0_userIn 5 = .ok (.ireturn, 1) := by decide +kernel
theorem dX0_numberIn_0 : decode cX0_numberIn 0 = .ok (.iload_n 0, 1) := by decide +kernel
theorem dX0_numberIn_1 : decode cX0_numberIn 1 = .ok (.sipush 1000, 3) := by decide +kernel
theorem dX0_numberIn_4 : decode cX0_numberIn 4 = .ok (.irem, 1) := by decide +kernel
theorem dX0_numberIn_5 : decode cX0_numberIn 5 = .ok (.ireturn, 1) := by decide +kernel
theorem dX0_heardCount_0 : decode cX0_heardCount 0 = .ok (.aload_n 0, 1) := by decide +kernel
theorem dX0_heardCount_1 : decode cX0_heardCount 1 = .ok (.getfield 11, 3) := by decide +kernel
theorem dX0_heardCount_4 : decode cX0_heardCount 4 = .ok (.iconst 3, 1) := by decide +kernel
theorem dX0_heardCount_5 : decode cX0_heardCount 5 = .ok (.iaload, 1) := by decide +kernel
theorem dX0_heardCount_6 : decode cX0_heardCount 6 = .ok (.ireturn, 1) := by decide +kernel
theorem dX0_heardAt_0 : decode cX0_heardAt 0 = .ok (.iload_n 1, 1) := by decide +kernel
theorem dX0_heardAt_1 : decode cX0_heardAt 1 = .ok (.ifCond .lt 23, 3) := by decide +kernel
theorem dX0_heardAt_4 : decode cX0_heardAt 4 = .ok (.iload_n 1, 1) := by decide +kernel
theorem dX0_heardAt_5 : decode cX0_heardAt 5 = .ok (.aload_n 0, 1) := by decide +kernel
theorem dX0_heardAt_6 : decode cX0_heardAt 6 = .ok (.getfield 11, 3) := by decide +kernel
theorem dX0_heardAt_9 : decode cX0_heardAt 9 = .ok (.iconst 3, 1) := by decide +kernel
theorem dX0_heardAt_10 : decode cX0_heardAt 10 = .ok (.iaload, 1) := by decide +kernel
theorem dX0_heardAt_11 : decode cX0_heardAt 11 = .ok (.if_icmp .ge 13, 3) := by decide +kernel
theorem dX0_heardAt_14 : decode cX0_heardAt 14 = .ok (.iload_n 1, 1) := by decide +kernel
theorem dX0_heardAt_15 : decode cX0_heardAt 15 = .ok (.bipush 8, 2) := by decide +kernel
theorem dX0_heardAt_17 : decode cX0_heardAt 17 = .ok (.if_icmp .ge 7, 3) := by decide +kernel
theorem dX0_heardAt_20 : decode cX0_heardAt 20 = .ok (.iconst 1, 1) := by decide +kernel
theorem dX0_heardAt_21 : decode cX0_heardAt 21 = .ok (.goto 4, 3) := by decide +kernel
theorem dX0_heardAt_24 : decode cX0_heardAt 24 = .ok (.iconst 0, 1) := by decide +kernel
theorem dX0_heardAt_25 : decode cX0_heardAt 25 = .ok (.istore_n 2, 1) := by decide +kernel
theorem dX0_heardAt_26 : decode cX0_heardAt 26 = .ok (.iload_n 2, 1) := by decide +kernel
theorem dX0_heardAt_27 : decode cX0_heardAt 27 = .ok (.ifCond .eq 14, 3) := by decide +kernel
theorem dX0_heardAt_30 : decode cX0_heardAt 30 = .ok (.aload_n 0, 1) := by decide +kernel
theorem dX0_heardAt_31 : decode cX0_heardAt 31 = .ok (.getfield 11, 3) := by decide +kernel
theorem dX0_heardAt_34 : decode cX0_heardAt 34 = .ok (.iconst 4, 1) := by decide +kernel
theorem dX0_heardAt_35 : decode cX0_heardAt 35 = .ok (.iload_n 1, 1) := by decide +kernel
theorem dX0_heardAt_36 : decode cX0_heardAt 36 = .ok (.iadd, 1) := by decide +kernel
theorem dX0_heardAt_37 : decode cX0_heardAt 37 = .ok (.iaload, 1) := by decide +kernel
theorem dX0_heardAt_38 : decode cX0_heardAt 38 = .ok (.goto 5, 3) := by decide +kernel
theorem dX0_heardAt_41 : decode cX0_heardAt 41 = .ok (.bipush (-9), 2) := by decide +kernel
theorem dX0_heardAt_43 : decode cX0_heardAt 43 = .ok (.ireturn, 1) := by decide +kernel
theorem dX0_overhear_0 : decode cX0_overhear 0 = .ok (.aload_n 0, 1) := by decide +kernel
theorem dX0_overhear_1 : decode cX0_overhear 1 = .ok (.getfield 11, 3) := by decide +kernel
theorem dX0_overhear_4 : decode cX0_overhear 4 = .ok (.iconst 3, 1) := by decide +kernel
theorem dX0_overhear_5 : decode cX0_overhear 5 = .ok (.iaload, 1) := by decide +kernel
theorem dX0_overhear_6 : decode cX0_overhear 6 = .ok (.istore_n 1, 1) := by decide +kernel
theorem dX0_overhear_7 : decode cX0_overhear 7 = .ok (.iload_n 1, 1) := by decide +kernel
theorem dX0_overhear_8 : decode cX0_overhear 8 = .ok (.ifCond .lt 32, 3) := by decide +kernel
theorem dX0_overhear_11 : decode cX0_overhear 11 = .ok (.iload_n 1, 1) := by decide +kernel
theorem dX0_overhear_12 : decode cX0_overhear 12 = .ok (.bipush 8, 2) := by decide +kernel
theorem dX0_overhear_14 : decode cX0_overhear 14 = .ok (.if_icmp .ge 26, 3) := by decide +kernel
theorem dX0_overhear_17 : decode cX0_overhear 17 = .ok (.aload_n 0, 1) := by decide +kernel
theorem dX0_overhear_18 : decode cX0_overhear 18 = .ok (.getfield 11, 3) := by decide +kernel
theorem dX0_overhear_21 : decode cX0_overhear 21 = .ok (.iconst 4, 1) := by decide +kernel
theorem dX0_overhear_22 : decode cX0_overhear 22 = .ok (.iload_n 1, 1) := by decide +kernel
theorem dX0_overhear_23 : decode cX0_overhear 23 = .ok (.iadd, 1) := by decide +kernel
theorem dX0_overhear_24 : decode cX0_overhear 24 = .ok (.aload_n 0, 1) := by decide +kernel
theorem dX0_overhear_25 : decode cX0_overhear 25 = .ok (.getfield 11, 3) := by decide +kernel
theorem dX0_overhear_28 : decode cX0_overhear 28 = .ok (.iconst 2, 1) := by decide +kernel
theorem dX0_overhear_29 : decode cX0_overhear 29 = .ok (.iaload, 1) := by decide +kernel
theorem dX0_overhear_30 : decode cX0_overhear 30 = .ok (.iastore, 1) := by decide +kernel
theorem dX0_overhear_31 : decode cX0_overhear 31 = .ok (.aload_n 0, 1) := by decide +kernel
theorem dX0_overhear_32 : decode cX0_overhear 32 = .ok (.getfield 11, 3) := by decide +kernel
theorem dX0_overhear_35 : decode cX0_overhear 35 = .ok (.iconst 3, 1) := by decide +kernel
theorem dX0_overhear_36 : decode cX0_overhear 36 = .ok (.iload_n 1, 1) := by decide +kernel
theorem dX0_overhear_37 : decode cX0_overhear 37 = .ok (.iconst 1, 1) := by decide +kernel
theorem dX0_overhear_38 : decode cX0_overhear 38 = .ok (.iadd, 1) := by decide +kernel
theorem dX0_overhear_39 : decode cX0_overhear 39 = .ok (.iastore, 1) := by decide +kernel
theorem dX0_overhear_40 : decode cX0_overhear 40 = .ok (.return_, 1) := by decide +kernel
theorem dX0_has_0 : decode cX0_has 0 = .ok (.iload_n 1, 1) := by decide +kernel
theorem dX0_has_1 : decode cX0_has 1 = .ok (.ifCond .lt 17, 3) := by decide +kernel
theorem dX0_has_4 : decode cX0_has 4 = .ok (.iload_n 1, 1) := by decide +kernel
theorem dX0_has_5 : decode cX0_has 5 = .ok (.aload_n 0, 1) := by decide +kernel
theorem dX0_has_6 : decode cX0_has 6 = .ok (.getfield 11, 3) := by decide +kernel
theorem dX0_has_9 : decode cX0_has 9 = .ok (.iconst 0, 1) := by decide +kernel
theorem dX0_has_10 : decode cX0_has 10 = .ok (.iaload, 1) := by decide +kernel
theorem dX0_has_11 : decode cX0_has 11 = .ok (.if_icmp .ge 7, 3) := by decide +kernel
theorem dX0_has_14 : decode cX0_has 14 = .ok (.iconst 1, 1) := by decide +kernel
theorem dX0_has_15 : decode cX0_has 15 = .ok (.goto 4, 3) := by decide +kernel
theorem dX0_has_18 : decode cX0_has 18 = .ok (.iconst 0, 1) := by decide +kernel
theorem dX0_has_19 : decode cX0_has 19 = .ok (.ireturn, 1) := by decide +kernel
theorem dX0_of_0 : decode cX0_of 0 = .ok (.iload_n 1, 1) := by decide +kernel
theorem dX0_of_1 : decode cX0_of 1 = .ok (.ifCond .lt 22, 3) := by decide +kernel
theorem dX0_of_4 : decode cX0_of 4 = .ok (.iload_n 1, 1) := by decide +kernel
theorem dX0_of_5 : decode cX0_of 5 = .ok (.iconst 4, 1) := by decide +kernel
theorem dX0_of_6 : decode cX0_of 6 = .ok (.if_icmp .ge 17, 3) := by decide +kernel
theorem dX0_of_9 : decode cX0_of 9 = .ok (.iload_n 2, 1) := by decide +kernel
theorem dX0_of_10 : decode cX0_of 10 = .ok (.ifCond .lt 13, 3) := by decide +kernel
theorem dX0_of_13 : decode cX0_of 13 = .ok (.iload_n 2, 1) := by decide +kernel
theorem dX0_of_14 : decode cX0_of 14 = .ok (.bipush 6, 2) := by decide +kernel
theorem dX0_of_16 : decode cX0_of 16 = .ok (.if_icmp .ge 7, 3) := by decide +kernel
theorem dX0_of_19 : decode cX0_of 19 = .ok (.iconst 1, 1) := by decide +kernel
theorem dX0_of_20 : decode cX0_of 20 = .ok (.goto 4, 3) := by decide +kernel
theorem dX0_of_23 : decode cX0_of 23 = .ok (.iconst 0, 1) := by decide +kernel
theorem dX0_of_24 : decode cX0_of 24 = .ok (.istore_n 3, 1) := by decide +kernel
theorem dX0_of_25 : decode cX0_of 25 = .ok (.iload_n 3, 1) := by decide +kernel
theorem dX0_of_26 : decode cX0_of 26 = .ok (.ifCond .eq 20, 3) := by decide +kernel
theorem dX0_of_29 : decode cX0_of 29 = .ok (.aload_n 0, 1) := by decide +kernel
theorem dX0_of_30 : decode cX0_of 30 = .ok (.getfield 11, 3) := by decide +kernel
theorem dX0_of_33 : decode cX0_of 33 = .ok (.bipush 12, 2) := by decide +kernel
theorem dX0_of_35 : decode cX0_of 35 = .ok (.iload_n 1, 1) := by decide +kernel
theorem dX0_of_36 : decode cX0_of 36 = .ok (.bipush 6, 2) := by decide +kernel
theorem dX0_of_38 : decode cX0_of 38 = .ok (.imul, 1) := by decide +kernel
theorem dX0_of_39 : decode cX0_of 39 = .ok (.iadd, 1) := by decide +kernel
theorem dX0_of_40 : decode cX0_of 40 = .ok (.iload_n 2, 1) := by decide +kernel
theorem dX0_of_41 : decode cX0_of 41 = .ok (.iadd, 1) := by decide +kernel
theorem dX0_of_42 : decode cX0_of 42 = .ok (.iaload, 1) := by decide +kernel
theorem dX0_of_43 : decode cX0_of 43 = .ok (.goto 4, 3) := by decide +kernel
theorem dX0_of_46 : decode cX0_of 46 = .ok (.iconst 0, 1) := by decide +kernel
theorem dX0_of_47 : decode cX0_of 47 = .ok (.ireturn, 1) := by decide +kernel
theorem dX0_put_0 : decode cX0_put 0 = .ok (.iload_n 1, 1) := by decide +kernel
theorem dX0_put_1 : decode cX0_put 1 = .ok (.ifCond .lt 33, 3) := by decide +kernel
theorem dX0_put_4 : decode cX0_put 4 = .ok (.iload_n 1, 1) := by decide +kernel
theorem dX0_put_5 : decode cX0_put 5 = .ok (.iconst 4, 1) := by decide +kernel
theorem dX0_put_6 : decode cX0_put 6 = .ok (.if_icmp .ge 28, 3) := by decide +kernel
theorem dX0_put_9 : decode cX0_put 9 = .ok (.iload_n 2, 1) := by decide +kernel
theorem dX0_put_10 : decode cX0_put 10 = .ok (.ifCond .lt 24, 3) := by decide +kernel
theorem dX0_put_13 : decode cX0_put 13 = .ok (.iload_n 2, 1) := by decide +kernel
theorem dX0_put_14 : decode cX0_put 14 = .ok (.bipush 6, 2) := by decide +kernel
theorem dX0_put_16 : decode cX0_put 16 = .ok (.if_icmp .ge 18, 3) := by decide +kernel
theorem dX0_put_19 : decode cX0_put 19 = .ok (.aload_n 0, 1) := by decide +kernel
theorem dX0_put_20 : decode cX0_put 20 = .ok (.getfield 11, 3) := by decide +kernel
theorem dX0_put_23 : decode cX0_put 23 = .ok (.bipush 12, 2) := by decide +kernel
theorem dX0_put_25 : decode cX0_put 25 = .ok (.iload_n 1, 1) := by decide +kernel
theorem dX0_put_26 : decode cX0_put 26 = .ok (.bipush 6, 2) := by decide +kernel
theorem dX0_put_28 : decode cX0_put 28 = .ok (.imul, 1) := by decide +kernel
theorem dX0_put_29 : decode cX0_put 29 = .ok (.iadd, 1) := by decide +kernel
theorem dX0_put_30 : decode cX0_put 30 = .ok (.iload_n 2, 1) := by decide +kernel
theorem dX0_put_31 : decode cX0_put 31 = .ok (.iadd, 1) := by decide +kernel
theorem dX0_put_32 : decode cX0_put 32 = .ok (.iload_n 3, 1) := by decide +kernel
theorem dX0_put_33 : decode cX0_put 33 = .ok (.iastore, 1) := by decide +kernel
theorem dX0_put_34 : decode cX0_put 34 = .ok (.return_, 1) := by decide +kernel
theorem dX0_addUser_0 : decode cX0_addUser 0 = .ok (.aload_n 0, 1) := by decide +kernel
theorem dX0_addUser_1 : decode cX0_addUser 1 = .ok (.getfield 11, 3) := by decide +kernel
theorem dX0_addUser_4 : decode cX0_addUser 4 = .ok (.iconst 0, 1) := by decide +kernel
theorem dX0_addUser_5 : decode cX0_addUser 5 = .ok (.iaload, 1) := by decide +kernel
theorem dX0_addUser_6 : decode cX0_addUser 6 = .ok (.istore 4, 2) := by decide +kernel
theorem dX0_addUser_8 : decode cX0_addUser 8 = .ok (.iload 4, 2) := by decide +kernel
theorem dX0_addUser_10 : decode cX0_addUser 10 = .ok (.iconst 4, 1) := by decide +kernel
theorem dX0_addUser_11 : decode cX0_addUser 11 = .ok (.if_icmp .ge 22, 3) := by decide +kernel
theorem dX0_addUser_14 : decode cX0_addUser 14 = .ok (.aload_n 0, 1) := by decide +kernel
theorem dX0_addUser_15 : decode cX0_addUser 15 = .ok (.getfield 11, 3) := by decide +kernel
theorem dX0_addUser_18 : decode cX0_addUser 18 = .ok (.iconst 0, 1) := by decide +kernel
theorem dX0_addUser_19 : decode cX0_addUser 19 = .ok (.iload 4, 2) := by decide +kernel
theorem dX0_addUser_21 : decode cX0_addUser 21 = .ok (.iconst 1, 1) := by decide +kernel
theorem dX0_addUser_22 : decode cX0_addUser 22 = .ok (.iadd, 1) := by decide +kernel
theorem dX0_addUser_23 : decode cX0_addUser 23 = .ok (.iastore, 1) := by decide +kernel
theorem dX0_addUser_24 : decode cX0_addUser 24 = .ok (.aload_n 0, 1) := by decide +kernel
theorem dX0_addUser_25 : decode cX0_addUser 25 = .ok (.iload 4, 2) := by decide +kernel
theorem dX0_addUser_27 : decode cX0_addUser 27 = .ok (.iload_n 1, 1) := by decide +kernel
theorem dX0_addUser_28 : decode cX0_addUser 28 = .ok (.iload_n 2, 1) := by decide +kernel
theorem dX0_addUser_29 : decode cX0_addUser 29 = .ok (.iload_n 3, 1) := by decide +kernel
theorem dX0_addUser_30 : decode cX0_addUser 30 = .ok (.invokevirtual 30, 3) := by decide +kernel
theorem dX0_addUser_33 : decode cX0_addUser 33 = .ok (.return_, 1) := by decide +kernel
theorem dX0_beginRow_0 : decode cX0_beginRow 0 = .ok (.aload_n 0, 1) := by decide +kernel
theorem dX0_beginRow_1 : decode cX0_beginRow 1 = .ok (.iload_n 1, 1) := by decide +kernel
theorem dX0_beginRow_2 : decode cX0_beginRow 2 = .ok (.iconst 0, 1) := by decide +kernel
theorem dX0_beginRow_3 : decode cX0_beginRow 3 = .ok (.iload_n 2, 1) := by decide +kernel
theorem dX0_beginRow_4 : decode cX0_beginRow 4 = .ok (.invokevirtual 34, 3) := by decide +kernel
theorem dX0_beginRow_7 : decode cX0_beginRow 7 = .ok (.aload_n 0, 1) := by decide +kernel
theorem dX0_beginRow_8 : decode cX0_beginRow 8 = .ok (.iload_n 1, 1) := by decide +kernel
theorem dX0_beginRow_9 : decode cX0_beginRow 9 = .ok (.iconst 1, 1) := by decide +kernel
theorem dX0_beginRow_10 : decode cX0_beginRow 10 = .ok (.iload_n 3, 1) := by decide +kernel
theorem dX0_beginRow_11 : decode cX0_beginRow 11 = .ok (.invokevirtual 34, 3) := by decide +kernel
theorem dX0_beginRow_14 : decode cX0_beginRow 14 = .ok (.aload_n 0, 1) := by decide +kernel
theorem dX0_beginRow_15 : decode cX0_beginRow 15 = .ok (.iload_n 1, 1) := by decide +kernel
theorem dX0_beginRow_16 : decode cX0_beginRow 16 = .ok (.iconst 2, 1) := by decide +kernel
theorem dX0_beginRow_17 : decode cX0_beginRow 17 = .ok (.iload 4, 2) := by decide +kernel
theorem dX0_beginRow_19 : decode cX0_beginRow 19 = .ok (.invokevirtual 34, 3) := by decide +kernel
theorem dX0_beginRow_22 : decode cX0_beginRow 22 = .ok (.aload_n 0, 1) := by decide +kernel
theorem dX0_beginRow_23 : decode cX0_beginRow 23 = .ok (.iload_n 1, 1) := by decide +kernel
theorem dX0_beginRow_24 : decode cX0_beginRow 24 = .ok (.iconst 3, 1) := by decide +kernel
theorem dX0_beginRow_25 : decode cX0_beginRow 25 = .ok (.iload 4, 2) := by decide +kernel
theorem dX0_beginRow_27 : decode cX0_beginRow 27 = .ok (.invokevirtual 34, 3) := by decide +kernel
theorem dX0_beginRow_30 : decode cX0_beginRow 30 = .ok (.aload_n 0, 1) := by decide +kernel
theorem dX0_beginRow_31 : decode cX0_beginRow 31 = .ok (.iload_n 1, 1) := by decide +kernel
theorem dX0_beginRow_32 : decode cX0_beginRow 32 = .ok (.iconst 4, 1) := by decide +kernel
theorem dX0_beginRow_33 : decode cX0_beginRow 33 = .ok (.iload_n 2, 1) := by decide +kernel
theorem dX0_beginRow_34 : decode cX0_beginRow 34 = .ok (.iload_n 3, 1) := by decide +kernel
theorem dX0_beginRow_35 : decode cX0_beginRow 35 = .ok (.iload 4, 2) := by decide +kernel
theorem dX0_beginRow_37 : decode cX0_beginRow 37 = .ok (.invokestatic 38, 3) := by decide +kernel
theorem dX0_beginRow_40 : decode cX0_beginRow 40 = .ok (.invokevirtual 34, 3) := by decide +kernel
theorem dX0_beginRow_43 : decode cX0_beginRow 43 = .ok (.aload_n 0, 1) := by decide +kernel
theorem dX0_beginRow_44 : decode cX0_beginRow 44 = .ok (.iload_n 1, 1) := by decide +kernel
theorem dX0_beginRow_45 : decode cX0_beginRow 45 = .ok (.iconst 5, 1) := by decide +kernel
theorem dX0_beginRow_46 : decode cX0_beginRow 46 = .ok (.iload 4, 2) := by decide +kernel
theorem dX0_beginRow_48 : decode cX0_beginRow 48 = .ok (.invokevirtual 34, 3) := by decide +kernel
theorem dX0_beginRow_51 : decode cX0_beginRow 51 = .ok (.return_, 1) := by decide +kernel
theorem dX0_hasOwn_0 : decode cX0_hasOwn 0 = .ok (.aload_n 0, 1) := by decide +kernel
theorem dX0_hasOwn_1 : decode cX0_hasOwn 1 = .ok (.iload_n 1, 1) := by decide +kernel
theorem dX0_hasOwn_2 : decode cX0_hasOwn 2 = .ok (.invokevirtual 42, 3) := by decide +kernel
theorem dX0_hasOwn_5 : decode cX0_hasOwn 5 = .ok (.ifCond .eq 16, 3) := by decide +kernel
theorem dX0_hasOwn_8 : decode cX0_hasOwn 8 = .ok (.aload_n 0, 1) := by decide +kernel
theorem dX0_hasOwn_9 : decode cX0_hasOwn 9 = .ok (.iload_n 1, 1) := by decide +kernel
theorem dX0_hasOwn_10 : decode cX0_hasOwn 10 = .ok (.iconst 3, 1) := by decide +kernel
theorem dX0_hasOwn_11 : decode cX0_hasOwn 11 = .ok (.invokevirtual 46, 3) := by decide +kernel
theorem dX0_hasOwn_14 : decode cX0_hasOwn 14 = .ok (.ifCond .le 7, 3) := by decide +kernel
theorem dX0_hasOwn_17 : decode cX0_hasOwn 17 = .ok (.iconst 1, 1) := by decide +kernel
theorem dX0_hasOwn_18 : decode cX0_hasOwn 18 = .ok (.goto 4, 3) := by decide +kernel
theorem dX0_hasOwn_21 : decode cX0_hasOwn 21 = .ok (.iconst 0, 1) := by decide +kernel
theorem dX0_hasOwn_22 : decode cX0_hasOwn 22 = .ok (.ireturn, 1) := by decide +kernel
theorem dX0_anyHasOwn_0 : decode cX0_anyHasOwn 0 = .ok (.iconst 0, 1) := by decide +kernel
theorem dX0_anyHasOwn_1 : decode cX0_anyHasOwn 1 = .ok (.istore_n 1, 1) := by decide +kernel
theorem dX0_anyHasOwn_2 : decode cX0_anyHasOwn 2 = .ok (.iconst 0, 1) := by decide +kernel
theorem dX0_anyHasOwn_3 : decode cX0_anyHasOwn 3 = .ok (.istore_n 2, 1) := by decide +kernel
theorem dX0_anyHasOwn_4 : decode cX0_anyHasOwn 4 = .ok (.iload_n 2, 1) := by decide +kernel
theorem dX0_anyHasOwn_5 : decode cX0_anyHasOwn 5 = .ok (.iconst 4, 1) := by decide +kernel
theorem dX0_anyHasOwn_6 : decode cX0_anyHasOwn 6 = .ok (.if_icmp .ge 27, 3) := by decide +kernel
theorem dX0_anyHasOwn_9 : decode cX0_anyHasOwn 9 = .ok (.iload_n 1, 1) := by decide +kernel
theorem dX0_anyHasOwn_10 : decode cX0_anyHasOwn 10 = .ok (.ifCond .ne 11, 3) := by decide +kernel
theorem dX0_anyHasOwn_13 : decode cX0_anyHasOwn 13 = .ok (.aload_n 0, 1) := by decide +kernel
theorem dX0_anyHasOwn_14 : decode cX0_anyHasOwn 14 = .ok (.iload_n 2, 1) := by decide +kernel
theorem dX0_anyHasOwn_15 : decode cX0_anyHasOwn 15 = .ok (.invokevirtual 50, 3) := by decide +kernel
theorem dX0_anyHasOwn_18 : decode cX0_anyHasOwn 18 = .ok (.ifCond .eq 7, 3) := by decide +kernel
theorem dX0_anyHasOwn_21 : decode cX0_anyHasOwn 21 = .ok (.iconst 1, 1) := by decide +kernel
theorem dX0_anyHasOwn_22 : decode cX0_anyHasOwn 22 = .ok (.goto 4, 3) := by decide +kernel
theorem dX0_anyHasOwn_25 : decode cX0_anyHasOwn 25 = .ok (.iconst 0, 1) := by decide +kernel
theorem dX0_anyHasOwn_26 : decode cX0_anyHasOwn 26 = .ok (.istore_n 1, 1) := by decide +kernel
theorem dX0_anyHasOwn_27 : decode cX0_anyHasOwn 27 = .ok (.iinc 2 1, 3) := by decide +kernel
theorem dX0_anyHasOwn_30 : decode cX0_anyHasOwn 30 = .ok (.goto (-26), 3) := by decide +kernel
theorem dX0_anyHasOwn_33 : decode cX0_anyHasOwn 33 = .ok (.iload_n 1, 1) := by decide +kernel
theorem dX0_anyHasOwn_34 : decode cX0_anyHasOwn 34 = .ok (.ireturn, 1) := by decide +kernel
theorem dX0_passOf_0 : decode cX0_passOf 0 = .ok (.aload_n 0, 1) := by decide +kernel
theorem dX0_passOf_1 : decode cX0_passOf 1 = .ok (.iload_n 1, 1) := by decide +kernel
theorem dX0_passOf_2 : decode cX0_passOf 2 = .ok (.iconst 0, 1) := by decide +kernel
theorem dX0_passOf_3 : decode cX0_passOf 3 = .ok (.invokevirtual 46, 3) := by decide +kernel
theorem dX0_passOf_6 : decode cX0_passOf 6 = .ok (.aload_n 0, 1) := by decide +kernel
theorem dX0_passOf_7 : decode cX0_passOf 7 = .ok (.iload_n 1, 1) := by decide +kernel
theorem dX0_passOf_8 : decode cX0_passOf 8 = .ok (.iconst 1, 1) := by decide +kernel
theorem dX0_passOf_9 : decode cX0_passOf 9 = .ok (.invokevirtual 46, 3) := by decide +kernel
theorem dX0_passOf_12 : decode cX0_passOf 12 = .ok (.iload_n 2, 1) := by decide +kernel
theorem dX0_passOf_13 : decode cX0_passOf 13 = .ok (.invokestatic 38, 3) := by decide +kernel
theorem dX0_passOf_16 : decode cX0_passOf 16 = .ok (.ireturn, 1) := by decide +kernel
theorem dX0_fitOf_0 : decode cX0_fitOf 0 = .ok (.aload_n 0, 1) := by decide +kernel
theorem dX0_fitOf_1 : decode cX0_fitOf 1 = .ok (.getfield 11, 3) := by decide +kernel
theorem dX0_fitOf_4 : decode cX0_fitOf 4 = .ok (.iconst 1, 1) := by decide +kernel
theorem dX0_fitOf_5 : decode cX0_fitOf 5 = .ok (.iaload, 1) := by decide +kernel
theorem dX0_fitOf_6 : decode cX0_fitOf 6 = .ok (.aload_n 0, 1) := by decide +kernel
theorem dX0_fitOf_7 : decode cX0_fitOf 7 = .ok (.iload_n 1, 1) := by decide +kernel
theorem dX0_fitOf_8 : decode cX0_fitOf 8 = .ok (.iconst 5, 1) := by decide +kernel
theorem dX0_fitOf_9 : decode cX0_fitOf 9 = .ok (.invokevirtual 46, 3) := by decide +kernel
theorem dX0_fitOf_12 : decode cX0_fitOf 12 = .ok (.invokestatic 53, 3) := by decide +kernel
theorem dX0_fitOf_15 : decode cX0_fitOf 15 = .ok (.istore_n 3, 1) := by decide +kernel
theorem dX0_fitOf_16 : decode cX0_fitOf 16 = .ok (.aload_n 0, 1) := by decide +kernel
theorem dX0_fitOf_17 : decode cX0_fitOf 17 = .ok (.iload_n 1, 1) := by decide +kernel
theorem dX0_fitOf_18 : decode cX0_fitOf 18 = .ok (.iconst 1, 1) := by decide +kernel
theorem dX0_fitOf_19 : decode cX0_fitOf 19 = .ok (.invokevirtual 46, 3) := by decide +kernel
theorem dX0_fitOf_22 : decode cX0_fitOf 22 = .ok (.istore 4, 2) := by decide +kernel
theorem dX0_fitOf_24 : decode cX0_fitOf 24 = .ok (.aload_n 0, 1) := by decide +kernel
theorem dX0_fitOf_25 : decode cX0_fitOf 25 = .ok (.iload_n 1, 1) := by decide +kernel
theorem dX0_fitOf_26 : decode cX0_fitOf 26 = .ok (.iconst 4, 1) := by decide +kernel
theorem dX0_fitOf_27 : decode cX0_fitOf 27 = .ok (.invokevirtual 46, 3) := by decide +kernel
theorem dX0_fitOf_30 : decode cX0_fitOf 30 = .ok (.istore 5, 2) := by decide +kernel
theorem dX0_fitOf_32 : decode cX0_fitOf 32 = .ok (.iload_n 2, 1) := by decide +kernel
theorem dX0_fitOf_33 : decode cX0_fitOf 33 = .ok (.istore 6, 2) := by decide +kernel
theorem dX0_fitOf_35 : decode cX0_fitOf 35 = .ok (.iconst 1, 1) := by decide +kernel
theorem dX0_fitOf_36 : decode cX0_fitOf 36 = .ok (.istore 7, 2) := by decide +kernel
theorem dX0_fitOf_38 : decode cX0_fitOf 38 = .ok (.iload 7, 2) := by decide +kernel
theorem dX0_fitOf_40 : decode cX0_fitOf 40 = .ok (.iload_n 3, 1) := by decide +kernel
theorem dX0_fitOf_41 : decode cX0_fitOf 41 = .ok (.if_icmp .gt 29, 3) := by decide +kernel
theorem dX0_fitOf_44 : decode cX0_fitOf 44 = .ok (.iload 6, 2) := by decide +kernel
theorem dX0_fitOf_46 : decode cX0_fitOf 46 = .ok (.iload 4, 2) := by decide +kernel
theorem dX0_fitOf_48 : decode cX0_fitOf 48 = .ok (.iconst 1, 1) := by decide +kernel
theorem dX0_fitOf_49 : decode cX0_fitOf 49 = .ok (.invokestatic 38, 3) := by decide +kernel
theorem dX0_fitOf_52 : decode cX0_fitOf 52 = .ok (.istore 6, 2) := by decide +kernel
theorem dX0_fitOf_54 : decode cX0_fitOf 54 = .ok (.iload 6, 2) := by decide +kernel
theorem dX0_fitOf_56 : decode cX0_fitOf 56 = .ok (.iload 5, 2) := by decide +kernel
theorem dX0_fitOf_58 : decode cX0_fitOf 58 = .ok (.if_icmp .ne 6, 3) := by decide +kernel
theorem dX0_fitOf_61 : decode cX0_fitOf 61 = .ok (.iload 7, 2) := by decide +kernel
theorem dX0_fitOf_63 : decode cX0_fitOf 63 = .ok (.ireturn, 1) := by decide +kernel
theorem dX0_fitOf_64 : decode cX0_fitOf 64 = .ok (.iinc 7 1, 3) := by decide +kernel
theorem dX0_fitOf_67 : decode cX0_fitOf 67 = .ok (.goto (-29), 3) := by decide +kernel
theorem dX0_fitOf_70 : decode cX0_fitOf 70 = .ok (.iconst 0, 1) := by decide +kernel
theorem dX0_fitOf_71 : decode cX0_fitOf 71 = .ok (.ireturn, 1) := by decide +kernel
theorem dX0_bring_0 : decode cX0_bring 0 = .ok (.aload_n 0, 1) := by decide +kernel
theorem dX0_bring_1 : decode cX0_bring 1 = .ok (.getfield 11, 3) := by decide +kernel
theorem dX0_bring_4 : decode cX0_bring 4 = .ok (.iconst 2, 1) := by decide +kernel
theorem dX0_bring_5 : decode cX0_bring 5 = .ok (.sipush 1000, 3) := by decide +kernel
theorem dX0_bring_8 : decode cX0_bring 8 = .ok (.iload_n 1, 1) := by decide +kernel
theorem dX0_bring_9 : decode cX0_bring 9 = .ok (.imul, 1) := by decide +kernel
theorem dX0_bring_10 : decode cX0_bring 10 = .ok (.iload_n 2, 1) := by decide +kernel
theorem dX0_bring_11 : decode cX0_bring 11 = .ok (.iadd, 1) := by decide +kernel
theorem dX0_bring_12 : decode cX0_bring 12 = .ok (.iastore, 1) := by decide +kernel
theorem dX0_bring_13 : decode cX0_bring 13 = .ok (.aload_n 0, 1) := by decide +kernel
theorem dX0_bring_14 : decode cX0_bring 14 = .ok (.iload_n 1, 1) := by decide +kernel
theorem dX0_bring_15 : decode cX0_bring 15 = .ok (.iload_n 2, 1) := by decide +kernel
theorem dX0_bring_16 : decode cX0_bring 16 = .ok (.invokevirtual 58, 3) := by decide +kernel
theorem dX0_bring_19 : decode cX0_bring 19 = .ok (.istore_n 3, 1) := by decide +kernel
theorem dX0_bring_20 : decode cX0_bring 20 = .ok (.iload_n 3, 1) := by decide +kernel
theorem dX0_bring_21 : decode cX0_bring 21 = .ok (.ifCond .le 24, 3) := by decide +kernel
theorem dX0_bring_24 : decode cX0_bring 24 = .ok (.aload_n 0, 1) := by decide +kernel
theorem dX0_bring_25 : decode cX0_bring 25 = .ok (.iload_n 1, 1) := by decide +kernel
theorem dX0_bring_26 : decode cX0_bring 26 = .ok (.iconst 4, 1) := by decide +kernel
theorem dX0_bring_27 : decode cX0_bring 27 = .ok (.iload_n 2, 1) := by decide +kernel
theorem dX0_bring_28 : decode cX0_bring 28 = .ok (.invokevirtual 34, 3) := by decide +kernel
theorem dX0_bring_31 : decode cX0_bring 31 = .ok (.aload_n 0, 1) := by decide +kernel
theorem dX0_bring_32 : decode cX0_bring 32 = .ok (.iload_n 1, 1) := by decide +kernel
theorem dX0_bring_33 : decode cX0_bring 33 = .ok (.iconst 5, 1) := by decide +kernel
theorem dX0_bring_34 : decode cX0_bring 34 = .ok (.aload_n 0, 1) := by decide +kernel
theorem dX0_bring_35 : decode cX0_bring 35 = .ok (.iload_n 1, 1) := by decide +kernel
theorem dX0_bring_36 : decode cX0_bring 36 = .ok (.iconst 5, 1) := by decide +kernel
theorem dX0_bring_37 : decode cX0_bring 37 = .ok (.invokevirtual 46, 3) := by decide +kernel
theorem dX0_bring_40 : decode cX0_bring 40 = .ok (.iload_n 3, 1) := by decide +kernel
theorem dX0_bring_41 : decode cX0_bring 41 = .ok (.isub, 1) := by decide +kernel
theorem dX0_bring_42 : decode cX0_bring 42 = .ok (.invokevirtual 34, 3) := by decide +kernel
theorem dX0_bring_45 : decode cX0_bring 45 = .ok (.iload_n 3, 1) := by decide +kernel
theorem dX0_bring_46 : decode cX0_bring 46 = .ok (.ireturn, 1) := by decide +kernel
theorem dX0_spendPass_0 : decode cX0_spendPass 0 = .ok (.aload_n 0, 1) := by decide +kernel
theorem dX0_spendPass_1 : decode cX0_spendPass 1 = .ok (.iload_n 1, 1) := by decide +kernel
theorem dX0_spendPass_2 : decode cX0_spendPass 2 = .ok (.invokevirtual 50, 3) := by decide +kernel
theorem dX0_spendPass_5 : decode cX0_spendPass 5 = .ok (.istore_n 2, 1) := by decide +kernel
theorem dX0_spendPass_6 : decode cX0_spendPass 6 = .ok (.iload_n 2, 1) := by decide +kernel
theorem dX0_spendPass_7 : decode cX0_spendPass 7 = .ok (.ifCond .eq 17, 3) := by decide +kernel
theorem dX0_spendPass_10 : decode cX0_spendPass 10 = .ok (.aload_n 0, 1) := by decide +kernel
theorem dX0_spendPass_11 : decode cX0_spendPass 11 = .ok (.iload_n 1, 1) := by decide +kernel
theorem dX0_spendPass_12 : decode cX0_spendPass 12 = .ok (.iconst 3, 1) := by decide +kernel
theorem dX0_spendPass_13 : decode cX0_spendPass 13 = .ok (.aload_n 0, 1) := by decide +kernel
theorem dX0_spendPass_14 : decode cX0_spendPass 14 = .ok (.iload_n 1, 1) := by decide +kernel
theorem dX0_spendPass_15 : decode cX0_spendPass 15 = .ok (.iconst 3, 1) := by decide +kernel
theorem dX0_spendPass_16 : decode cX0_spendPass 16 = .ok (.invokevirtual 46, 3) := by decide +kernel
theorem dX0_spendPass_19 : decode cX0_spendPass 19 = .ok (.iconst 1, 1) := by decide +kernel
theorem dX0_spendPass_20 : decode cX0_spendPass 20 = .ok (.isub, 1) := by decide +kernel
theorem dX0_spendPass_21 : decode cX0_spendPass 21 = .ok (.invokevirtual 34, 3) := by decide +kernel
theorem dX0_spendPass_24 : decode cX0_spendPass 24 = .ok (.iload_n 2, 1) := by decide +kernel
theorem dX0_spendPass_25 : decode cX0_spendPass 25 = .ok (.ireturn, 1) := by decide +kernel
theorem dX0_sendPass_0 : decode cX0_sendPass 0 = .ok (.aload_n 0, 1) := by decide +kernel
theorem dX0_sendPass_1 : decode cX0_sendPass 1 = .ok (.iload_n 1, 1) := by decide +kernel
theorem dX0_sendPass_2 : decode cX0_sendPass 2 = .ok (.invokevirtual 61, 3) := by decide +kernel
theorem dX0_sendPass_5 : decode cX0_sendPass 5 = .ok (.ifCond .eq 22, 3) := by decide +kernel
theorem dX0_sendPass_8 : decode cX0_sendPass 8 = .ok (.aload_n 0, 1) := by decide +kernel
theorem dX0_sendPass_9 : decode cX0_sendPass 9 = .ok (.iload_n 1, 1) := by decide +kernel
theorem dX0_sendPass_10 : decode cX0_sendPass 10 = .ok (.aload_n 0, 1) := by decide +kernel
theorem dX0_sendPass_11 : decode cX0_sendPass 11 = .ok (.iload_n 1, 1) := by decide +kernel
theorem dX0_sendPass_12 : decode cX0_sendPass 12 = .ok (.aload_n 0, 1) := by decide +kernel
theorem dX0_sendPass_13 : decode cX0_sendPass 13 = .ok (.iload_n 1, 1) := by decide +kernel
theorem dX0_sendPass_14 : decode cX0_sendPass 14 = .ok (.iconst 3, 1) := by decide +kernel
theorem dX0_sendPass_15 : decode cX0_sendPass 15 = .ok (.invokevirtual 46, 3) := by decide +kernel
theorem dX0_sendPass_18 : decode cX0_sendPass 18 = .ok (.invokevirtual 64, 3) := by decide +kernel
theorem dX0_sendPass_21 : decode cX0_sendPass 21 = .ok (.invokevirtual 67, 3) := by decide +kernel
theorem dX0_sendPass_24 : decode cX0_sendPass 24 = .ok (.goto 4, 3) := by decide +kernel
theorem dX0_sendPass_27 : decode cX0_sendPass 27 = .ok (.iconst 0, 1) := by decide +kernel
theorem dX0_sendPass_28 : decode cX0_sendPass 28 = .ok (.ireturn, 1) := by decide +kernel
theorem dX0_isInStep_0 : decode cX0_isInStep 0 = .ok (.aload_n 0, 1) := by decide +kernel
theorem dX0_isInStep_1 : decode cX0_isInStep 1 = .ok (.iload_n 1, 1) := by decide +kernel
theorem dX0_isInStep_2 : decode cX0_isInStep 2 = .ok (.invokevirtual 50, 3) := by decide +kernel
theorem dX0_isInStep_5 : decode cX0_isInStep 5 = .ok (.ifCond .eq 28, 3) := by decide +kernel
theorem dX0_isInStep_8 : decode cX0_isInStep 8 = .ok (.aload_n 0, 1) := by decide +kernel
theorem dX0_isInStep_9 : decode cX0_isInStep 9 = .ok (.iload_n 1, 1) := by decide +kernel
theorem dX0_isInStep_10 : decode cX0_isInStep 10 = .ok (.aload_n 0, 1) := by decide +kernel
theorem dX0_isInStep_11 : decode cX0_isInStep 11 = .ok (.iload_n 1, 1) := by decide +kernel
theorem dX0_isInStep_12 : decode cX0_isInStep 12 = .ok (.aload_n 0, 1) := by decide +kernel
theorem dX0_isInStep_13 : decode cX0_isInStep 13 = .ok (.iload_n 1, 1) := by decide +kernel
theorem dX0_isInStep_14 : decode cX0_isInStep 14 = .ok (.iconst 3, 1) := by decide +kernel
theorem dX0_isInStep_15 : decode cX0_isInStep 15 = .ok (.invokevirtual 46, 3) := by decide +kernel
theorem dX0_isInStep_18 : decode cX0_isInStep 18 = .ok (.iconst 1, 1) := by decide +kernel
theorem dX0_isInStep_19 : decode cX0_isInStep 19 = .ok (.isub, 1) := by decide +kernel
theorem dX0_isInStep_20 : decode cX0_isInStep 20 = .ok (.invokevirtual 64, 3) := by decide +kernel
theorem dX0_isInStep_23 : decode cX0_isInStep 23 = .ok (.invokevirtual 58, 3) := by decide +kernel
theorem dX0_isInStep_26 : decode cX0_isInStep 26 = .ok (.ifCond .le 7, 3) := by decide +kernel
theorem dX0_isInStep_29 : decode cX0_isInStep 29 = .ok (.iconst 1, 1) := by decide +kernel
theorem dX0_isInStep_30 : decode cX0_isInStep 30 = .ok (.goto 4, 3) := by decide +kernel
theorem dX0_isInStep_33 : decode cX0_isInStep 33 = .ok (.iconst 0, 1) := by decide +kernel
theorem dX0_isInStep_34 : decode cX0_isInStep 34 = .ok (.ireturn, 1) := by decide +kernel
theorem dX0_isWarned_0 : decode cX0_isWarned 0 = .ok (.aload_n 0, 1) := by decide +kernel
theorem dX0_isWarned_1 : decode cX0_isWarned 1 = .ok (.iload_n 1, 1) := by decide +kernel
theorem dX0_isWarned_2 : decode cX0_isWarned 2 = .ok (.iconst 5, 1) := by decide +kernel
theorem dX0_isWarned_3 : decode cX0_isWarned 3 = .ok (.invokevirtual 46, 3) := by decide +kernel
theorem dX0_isWarned_6 : decode cX0_isWarned 6 = .ok (.iconst 3, 1) := by decide +kernel
theorem dX0_isWarned_7 : decode cX0_isWarned 7 = .ok (.if_icmp .gt 7, 3) := by decide +kernel
theorem dX0_isWarned_10 : decode cX0_isWarned 10 = .ok (.iconst 1, 1) := by decide +kernel
theorem dX0_isWarned_11 : decode cX0_isWarned 11 = .ok (.goto 4, 3) := by decide +kernel
theorem dX0_isWarned_14 : decode cX0_isWarned 14 = .ok (.iconst 0, 1) := by decide +kernel
theorem dX0_isWarned_15 : decode cX0_isWarned 15 = .ok (.ireturn, 1) := by decide +kernel
theorem dX0_gapOf_0 : decode cX0_gapOf 0 = .ok (.aload_n 0, 1) := by decide +kernel
theorem dX0_gapOf_1 : decode cX0_gapOf 1 = .ok (.iload_n 1, 1) := by decide +kernel
theorem dX0_gapOf_2 : decode cX0_gapOf 2 = .ok (.iconst 3, 1) := by decide +kernel
theorem dX0_gapOf_3 : decode cX0_gapOf 3 = .ok (.invokevirtual 46, 3) := by decide +kernel
theorem dX0_gapOf_6 : decode cX0_gapOf 6 = .ok (.istore_n 2, 1) := by decide +kernel
theorem dX0_gapOf_7 : decode cX0_gapOf 7 = .ok (.iconst 0, 1) := by decide +kernel
theorem dX0_gapOf_8 : decode cX0_gapOf 8 = .ok (.istore_n 3, 1) := by decide +kernel
theorem dX0_gapOf_9 : decode cX0_gapOf 9 = .ok (.iload_n 3, 1) := by decide +kernel
theorem dX0_gapOf_10 : decode cX0_gapOf 10 = .ok (.iload_n 2, 1) := by decide +kernel
theorem dX0_gapOf_11 : decode cX0_gapOf 11 = .ok (.if_icmp .ge 29, 3) := by decide +kernel
theorem dX0_gapOf_14 : decode cX0_gapOf 14 = .ok (.aload_n 0, 1) := by decide +kernel
theorem dX0_gapOf_15 : decode cX0_gapOf 15 = .ok (.iload_n 1, 1) := by decide +kernel
theorem dX0_gapOf_16 : decode cX0_gapOf 16 = .ok (.aload_n 0, 1) := by decide +kernel
theorem dX0_gapOf_17 : decode cX0_gapOf 17 = .ok (.iload_n 1, 1) := by decide +kernel
theorem dX0_gapOf_18 : decode cX0_gapOf 18 = .ok (.iload_n 3, 1) := by decide +kernel
theorem dX0_gapOf_19 : decode cX0_gapOf 19 = .ok (.invokevirtual 64, 3) := by decide +kernel
theorem dX0_gapOf_22 : decode cX0_gapOf 22 = .ok (.invokevirtual 58, 3) := by decide +kernel
theorem dX0_gapOf_25 : decode cX0_gapOf 25 = .ok (.ifCond .le 9, 3) := by decide +kernel
theorem dX0_gapOf_28 : decode cX0_gapOf 28 = .ok (.iload_n 2, 1) := by decide +kernel
theorem dX0_gapOf_29 : decode cX0_gapOf 29 = .ok (.iconst 1, 1) := by decide +kernel
theorem dX0_gapOf_30 : decode cX0_gapOf 30 = .ok (.isub, 1) := by decide +kernel
theorem dX0_gapOf_31 : decode cX0_gapOf 31 = .ok (.iload_n 3, 1) := by decide +kernel
theorem dX0_gapOf_32 : decode cX0_gapOf 32 = .ok (.isub, 1) := by decide +kernel
theorem dX0_gapOf_33 : decode cX0_gapOf 33 = .ok (.ireturn, 1) := by decide +kernel
theorem dX0_gapOf_34 : decode cX0_gapOf 34 = .ok (.iinc 3 1, 3) := by decide +kernel
theorem dX0_gapOf_37 : decode cX0_gapOf 37 = .ok (.goto (-28), 3) := by decide +kernel
theorem dX0_gapOf_40 : decode cX0_gapOf 40 = .ok (.bipush (-9), 2) := by decide +kernel
theorem dX0_gapOf_42 : decode cX0_gapOf 42 = .ok (.ireturn, 1) := by decide +kernel
theorem dX0_countFitting_0 : decode cX0_countFitting 0 = .ok (.iconst 0, 1) := by decide +kernel
theorem dX0_countFitting_1 : decode cX0_countFitting 1 = .ok (.istore_n 2, 1) := by decide +kernel
theorem dX0_countFitting_2 : decode cX0_countFitting 2 = .ok (.iconst 0, 1) := by decide +kernel
theorem dX0_countFitting_3 : decode cX0_countFitting 3 = .ok (.istore_n 3, 1) := by decide +kernel
theorem dX0_countFitting_4 : decode cX0_countFitting 4 = .ok (.iload_n 3, 1) := by decide +kernel
theorem dX0_countFitting_5 : decode cX0_countFitting 5 = .ok (.sipush 251, 3) := by decide +kernel
theorem dX0_countFitting_8 : decode cX0_countFitting 8 = .ok (.if_icmp .ge 21, 3) := by decide +kernel
theorem dX0_countFitting_11 : decode cX0_countFitting 11 = .ok (.aload_n 0, 1) := by decide +kernel
theorem dX0_countFitting_12 : decode cX0_countFitting 12 = .ok (.iload_n 1, 1) := by decide +kernel
theorem dX0_countFitting_13 : decode cX0_countFitting 13 = .ok (.iload_n 3, 1) := by decide +kernel
theorem dX0_countFitting_14 : decode cX0_countFitting 14 = .ok (.invokevirtual 58, 3) := by decide +kernel
theorem dX0_countFitting_17 : decode cX0_countFitting 17 = .ok (.ifCond .le 6, 3) := by decide +kernel
theorem dX0_countFitting_20 : decode cX0_countFitting 20 = .ok (.iinc 2 1, 3) := by decide +kernel
theorem dX0_countFitting_23 : decode cX0_countFitting 23 = .ok (.iinc 3 1, 3) := by decide +kernel
theorem dX0_countFitting_26 : decode cX0_countFitting 26 = .ok (.goto (-22), 3) := by decide +kernel
theorem dX0_countFitting_29 : decode cX0_countFitting 29 = .ok (.iload_n 2, 1) := by decide +kernel
theorem dX0_countFitting_30 : decode cX0_countFitting 30 = .ok (.ireturn, 1) := by decide +kernel
theorem dX0_leastFitting_0 : decode cX0_leastFitting 0 = .ok (.iconst 0, 1) := by decide +kernel
theorem dX0_leastFitting_1 : decode cX0_leastFitting 1 = .ok (.istore_n 2, 1) := by decide +kernel
theorem dX0_leastFitting_2 : decode cX0_leastFitting 2 = .ok (.iload_n 2, 1) := by decide +kernel
theorem dX0_leastFitting_3 : decode cX0_leastFitting 3 = .ok (.sipush 251, 3) := by decide +kernel
theorem dX0_leastFitting_6 : decode cX0_leastFitting 6 = .ok (.if_icmp .ge 20, 3) := by decide +kernel
theorem dX0_leastFitting_9 : decode cX0_leastFitting 9 = .ok (.aload_n 0, 1) := by decide +kernel
theorem dX0_leastFitting_10 : decode cX0_leastFitting 10 = .ok (.iload_n 1, 1) := by decide +kernel
theorem dX0_leastFitting_11 : decode cX0_leastFitting 11 = .ok (.iload_n 2, 1) := by decide +kernel
theorem dX0_leastFitting_12 : decode cX0_leastFitting 12 = .ok (.invokevirtual 58, 3) := by decide +kernel
theorem dX0_leastFitting_15 : decode cX0_leastFitting 15 = .ok (.ifCond .le 5, 3) := by decide +kernel
theorem dX0_leastFitting_18 : decode cX0_leastFitting 18 = .ok (.iload_n 2, 1) := by decide +kernel
theorem dX0_leastFitting_19 : decode cX0_leastFitting 19 = .ok (.ireturn, 1) := by decide +kernel
theorem dX0_leastFitting_20 : decode cX0_leastFitting 20 = .ok (.iinc 2 1, 3) := by decide +kernel
theorem dX0_leastFitting_23 : decode cX0_leastFitting 23 = .ok (.goto (-21), 3) := by decide +kernel
theorem dX0_leastFitting_26 : decode cX0_leastFitting 26 = .ok (.bipush (-9), 2) := by decide +kernel
theorem dX0_leastFitting_28 : decode cX0_leastFitting 28 = .ok (.ireturn, 1) := by decide +kernel
theorem dX0_countFitted_0 : decode cX0_countFitted 0 = .ok (.iconst 0, 1) := by decide +kernel
theorem dX0_countFitted_1 : decode cX0_countFitted 1 = .ok (.istore_n 2, 1) := by decide +kernel
theorem dX0_countFitted_2 : decode cX0_countFitted 2 = .ok (.iconst 0, 1) := by decide +kernel
theorem dX0_countFitted_3 : decode cX0_countFitted 3 = .ok (.istore_n 3, 1) := by decide +kernel
theorem dX0_countFitted_4 : decode cX0_countFitted 4 = .ok (.iload_n 3, 1) := by decide +kernel
theorem dX0_countFitted_5 : decode cX0_countFitted 5 = .ok (.iconst 4, 1) := by decide +kernel
theorem dX0_countFitted_6 : decode cX0_countFitted 6 = .ok (.if_icmp .ge 29, 3) := by decide +kernel
theorem dX0_countFitted_9 : decode cX0_countFitted 9 = .ok (.aload_n 0, 1) := by decide +kernel
theorem dX0_countFitted_10 : decode cX0_countFitted 10 = .ok (.iload_n 3, 1) := by decide +kernel
theorem dX0_countFitted_11 : decode cX0_countFitted 11 = .ok (.invokevirtual 42, 3) := by decide +kernel
theorem dX0_countFitted_14 : decode cX0_countFitted 14 = .ok (.ifCond .eq 15, 3) := by decide +kernel
theorem dX0_countFitted_17 : decode cX0_countFitted 17 = .ok (.aload_n 0, 1) := by decide +kernel
theorem dX0_countFitted_18 : decode cX0_countFitted 18 = .ok (.iload_n 3, 1) := by decide +kernel
theorem dX0_countFitted_19 : decode cX0_countFitted 19 = .ok (.iload_n 1, 1) := by decide +kernel
theorem dX0_countFitted_20 : decode cX0_countFitted 20 = .ok (.invokevirtual 58, 3) := by decide +kernel
theorem dX0_countFitted_23 : decode cX0_countFitted 23 = .ok (.ifCond .le 6, 3) := by decide +kernel
theorem dX0_countFitted_26 : decode cX0_countFitted 26 = .ok (.iinc 2 1, 3) := by decide +kernel
theorem dX0_countFitted_29 : decode cX0_countFitted 29 = .ok (.iinc 3 1, 3) := by decide +kernel
theorem dX0_countFitted_32 : decode cX0_countFitted 32 = .ok (.goto (-28), 3) := by decide +kernel
theorem dX0_countFitted_35 : decode cX0_countFitted 35 = .ok (.iload_n 2, 1) := by decide +kernel
theorem dX0_countFitted_36 : decode cX0_countFitted 36 = .ok (.ireturn, 1) := by decide +kernel
theorem dX0_leastStolen_0 : decode cX0_leastStolen 0 = .ok (.bipush (-9), 2) := by decide +kernel
theorem dX0_leastStolen_2 : decode cX0_leastStolen 2 = .ok (.istore_n 2, 1) := by decide +kernel
theorem dX0_leastStolen_3 : decode cX0_leastStolen 3 = .ok (.iconst 0, 1) := by decide +kernel
theorem dX0_leastStolen_4 : decode cX0_leastStolen 4 = .ok (.istore_n 3, 1) := by decide +kernel
theorem dX0_leastStolen_5 : decode cX0_leastStolen 5 = .ok (.iload_n 3, 1) := by decide +kernel
theorem dX0_leastStolen_6 : decode cX0_leastStolen 6 = .ok (.bipush 8, 2) := by decide +kernel
theorem dX0_leastStolen_8 : decode cX0_leastStolen 8 = .ok (.if_icmp .ge 47, 3) := by decide +kernel
theorem dX0_leastStolen_11 : decode cX0_leastStolen 11 = .ok (.aload_n 0, 1) := by decide +kernel
theorem dX0_leastStolen_12 : decode cX0_leastStolen 12 = .ok (.iload_n 3, 1) := by decide +kernel
theorem dX0_leastStolen_13 : decode cX0_leastStolen 13 = .ok (.invokevirtual 70, 3) := by decide +kernel
theorem dX0_leastStolen_16 : decode cX0_leastStolen 16 = .ok (.istore 4, 2) := by decide +kernel
theorem dX0_leastStolen_18 : decode cX0_leastStolen 18 = .ok (.iload 4, 2) := by decide +kernel
theorem dX0_leastStolen_20 : decode cX0_leastStolen 20 = .ok (.bipush (-9), 2) := by decide +kernel
theorem dX0_leastStolen_22 : decode cX0_leastStolen 22 = .ok (.if_icmp .eq 27, 3) := by decide +kernel
theorem dX0_leastStolen_25 : decode cX0_leastStolen 25 = .ok (.iload 4, 2) := by decide +kernel
theorem dX0_leastStolen_27 : decode cX0_leastStolen 27 = .ok (.invokestatic 74, 3) := by decide +kernel
theorem dX0_leastStolen_30 : decode cX0_leastStolen 30 = .ok (.iload_n 1, 1) := by decide +kernel
theorem dX0_leastStolen_31 : decode cX0_leastStolen 31 = .ok (.if_icmp .ne 18, 3) := by decide +kernel
theorem dX0_leastStolen_34 : decode cX0_leastStolen 34 = .ok (.iload_n 2, 1) := by decide +kernel
theorem dX0_leastStolen_35 : decode cX0_leastStolen 35 = .ok (.aload_n 0, 1) := by decide +kernel
theorem dX0_leastStolen_36 : decode cX0_leastStolen 36 = .ok (.iload_n 1, 1) := by decide +kernel
theorem dX0_leastStolen_37 : decode cX0_leastStolen 37 = .ok (.iload 4, 2) := by decide +kernel
theorem dX0_leastStolen_39 : decode cX0_leastStolen 39 = .ok (.invokestatic 77, 3) := by decide +kernel
theorem dX0_leastStolen_42 : decode cX0_leastStolen 42 = .ok (.invokevirtual 80, 3) := by decide +kernel
theorem dX0_leastStolen_45 : decode cX0_leastStolen 45 = .ok (.invokestatic 83, 3) := by decide +kernel
theorem dX0_leastStolen_48 : decode cX0_leastStolen 48 = .ok (.istore_n 2, 1) := by decide +kernel
theorem dX0_leastStolen_49 : decode cX0_leastStolen 49 = .ok (.iinc 3 1, 3) := by decide +kernel
theorem dX0_leastStolen_52 : decode cX0_leastStolen 52 = .ok (.goto (-47), 3) := by decide +kernel
theorem dX0_leastStolen_55 : decode cX0_leastStolen 55 = .ok (.iload_n 2, 1) := by decide +kernel
theorem dX0_leastStolen_56 : decode cX0_leastStolen 56 = .ok (.ireturn, 1) := by decide +kernel
theorem dX0_leastFrom_0 : decode cX0_leastFrom 0 = .ok (.bipush (-9), 2) := by decide +kernel
theorem dX0_leastFrom_2 : decode cX0_leastFrom 2 = .ok (.istore_n 3, 1) := by decide +kernel
theorem dX0_leastFrom_3 : decode cX0_leastFrom 3 = .ok (.iload_n 2, 1) := by decide +kernel
theorem dX0_leastFrom_4 : decode cX0_leastFrom 4 = .ok (.istore 4, 2) := by decide +kernel
theorem dX0_leastFrom_6 : decode cX0_leastFrom 6 = .ok (.iconst 0, 1) := by decide +kernel
theorem dX0_leastFrom_7 : decode cX0_leastFrom 7 = .ok (.istore 5, 2) := by decide +kernel
theorem dX0_leastFrom_9 : decode cX0_leastFrom 9 = .ok (.iload 5, 2) := by decide +kernel
theorem dX0_leastFrom_11 : decode cX0_leastFrom 11 = .ok (.bipush 10, 2) := by decide +kernel
theorem dX0_leastFrom_13 : decode cX0_leastFrom 13 = .ok (.if_icmp .gt 40, 3) := by decide +kernel
theorem dX0_leastFrom_16 : decode cX0_leastFrom 16 = .ok (.aload_n 0, 1) := by decide +kernel
theorem dX0_leastFrom_17 : decode cX0_leastFrom 17 = .ok (.iload_n 1, 1) := by decide +kernel
theorem dX0_leastFrom_18 : decode cX0_leastFrom 18 = .ok (.iload 4, 2) := by decide +kernel
theorem dX0_leastFrom_20 : decode cX0_leastFrom 20 = .ok (.invokevirtual 58, 3) := by decide +kernel
theorem dX0_leastFrom_23 : decode cX0_leastFrom 23 = .ok (.ifCond .le 10, 3) := by decide +kernel
theorem dX0_leastFrom_26 : decode cX0_leastFrom 26 = .ok (.iload_n 3, 1) := by decide +kernel
theorem dX0_leastFrom_27 : decode cX0_leastFrom 27 = .ok (.iload 4, 2) := by decide +kernel
theorem dX0_leastFrom_29 : decode cX0_leastFrom 29 = .ok (.invokestatic 83, 3) := by decide +kernel
theorem dX0_leastFrom_32 : decode cX0_leastFrom 32 = .ok (.istore_n 3, 1) := by decide +kernel
theorem dX0_leastFrom_33 : decode cX0_leastFrom 33 = .ok (.iload 4, 2) := by decide +kernel
theorem dX0_leastFrom_35 : decode cX0_leastFrom 35 = .ok (.aload_n 0, 1) := by decide +kernel
theorem dX0_leastFrom_36 : decode cX0_leastFrom 36 = .ok (.iload_n 1, 1) := by decide +kernel
theorem dX0_leastFrom_37 : decode cX0_leastFrom 37 = .ok (.iconst 1, 1) := by decide +kernel
theorem dX0_leastFrom_38 : decode cX0_leastFrom 38 = .ok (.invokevirtual 46, 3) := by decide +kernel
theorem dX0_leastFrom_41 : decode cX0_leastFrom 41 = .ok (.iconst 1, 1) := by decide +kernel
theorem dX0_leastFrom_42 : decode cX0_leastFrom 42 = .ok (.invokestatic 38, 3) := by decide +kernel
theorem dX0_leastFrom_45 : decode cX0_leastFrom 45 = .ok (.istore 4, 2) := by decide +kernel
theorem dX0_leastFrom_47 : decode cX0_leastFrom 47 = .ok (.iinc 5 1, 3) := by decide +kernel
theorem dX0_leastFrom_50 : decode cX0_leastFrom 50 = .ok (.goto (-41), 3) := by decide +kernel
theorem dX0_leastFrom_53 : decode cX0_leastFrom 53 = .ok (.iload_n 3, 1) := by decide +kernel
theorem dX0_leastFrom_54 : decode cX0_leastFrom 54 = .ok (.ireturn, 1) := by decide +kernel
theorem dX0_lesser_0 : decode cX0_lesser 0 = .ok (.iload_n 0, 1) := by decide +kernel
theorem dX0_lesser_1 : decode cX0_lesser 1 = .ok (.bipush (-9), 2) := by decide +kernel
theorem dX0_lesser_3 : decode cX0_lesser 3 = .ok (.if_icmp .ne 5, 3) := by decide +kernel
theorem dX0_lesser_6 : decode cX0_lesser 6 = .ok (.iload_n 1, 1) := by decide +kernel
theorem dX0_lesser_7 : decode cX0_lesser 7 = .ok (.ireturn, 1) := by decide +kernel
theorem dX0_lesser_8 : decode cX0_lesser 8 = .ok (.iload_n 1, 1) := by decide +kernel
theorem dX0_lesser_9 : decode cX0_lesser 9 = .ok (.bipush (-9), 2) := by decide +kernel
theorem dX0_lesser_11 : decode cX0_lesser 11 = .ok (.if_icmp .ne 7, 3) := by decide +kernel
theorem dX0_lesser_14 : decode cX0_lesser 14 = .ok (.iload_n 0, 1) := by decide +kernel
theorem dX0_lesser_15 : decode cX0_lesser 15 = .ok (.goto 8, 3) := by decide +kernel
theorem dX0_lesser_18 : decode cX0_lesser 18 = .ok (.iload_n 0, 1) := by decide +kernel
theorem dX0_lesser_19 : decode cX0_lesser 19 = .ok (.iload_n 1, 1) := by decide +kernel
theorem dX0_lesser_20 : decode cX0_lesser 20 = .ok (.invokestatic 53, 3) := by decide +kernel
theorem dX0_lesser_23 : decode cX0_lesser 23 = .ok (.ireturn, 1) := by decide +kernel
theorem dX1_init_0 : decode cX1_init 0 = .ok (.aload_n 0, 1) := by decide +kernel
theorem dX1_init_1 : decode cX1_init 1 = .ok (.invokespecial 3, 3) := by decide +kernel
theorem dX1_init_4 : decode cX1_init 4 = .ok (.aload_n 0, 1) := by decide +kernel
theorem dX1_init_5 : decode cX1_init 5 = .ok (.bipush 6, 2) := by decide +kernel
theorem dX1_init_7 : decode cX1_init 7 = .ok (.newarray .int, 2) := by decide +kernel
theorem dX1_init_9 : decode cX1_init 9 = .ok (.putfield 11, 3) := by decide +kernel
theorem dX1_init_12 : decode cX1_init 12 = .ok (.aload_n 0, 1) := by decide +kernel
theorem dX1_init_13 : decode cX1_init 13 = .ok (.bipush 6, 2) := by decide +kernel
theorem dX1_init_15 : decode cX1_init 15 = .ok (.newarray .int, 2) := by decide +kernel
theorem dX1_init_17 : decode cX1_init 17 = .ok (.putfield 15, 3) := by decide +kernel
theorem dX1_init_20 : decode cX1_init 20 = .ok (.aload_n 0, 1) := by decide +kernel
theorem dX1_init_21 : decode cX1_init 21 = .ok (.bipush 6, 2) := by decide +kernel
theorem dX1_init_23 : decode cX1_init 23 = .ok (.newarray .int, 2) := by decide +kernel
theorem dX1_init_25 : decode cX1_init 25 = .ok (.putfield 18, 3) := by decide +kernel
theorem dX1_init_28 : decode cX1_init 28 = .ok (.aload_n 0, 1) := by decide +kernel
theorem dX1_init_29 : decode cX1_init 29 = .ok (.iconst 0, 1) := by decide +kernel
theorem dX1_init_30 : decode cX1_init 30 = .ok (.putfield 21, 3) := by decide +kernel
theorem dX1_init_33 : decode cX1_init 33 = .ok (.return_, 1) := by decide +kernel
theorem dX1_add_0 : decode cX1_add 0 = .ok (.aload_n 0, 1) := by decide +kernel
theorem dX1_add_1 : decode cX1_add 1 = .ok (.getfield 21, 3) := by decide +kernel
theorem dX1_add_4 : decode cX1_add 4 = .ok (.ifCond .lt 16, 3) := by decide +kernel
theorem dX1_add_7 : decode cX1_add 7 = .ok (.aload_n 0, 1) := by decide +kernel
theorem dX1_add_8 : decode cX1_add 8 = .ok (.getfield 21, 3) := by decide +kernel
theorem dX1_add_11 : decode cX1_add 11 = .ok (.bipush 6, 2) := by decide +kernel
theorem dX1_add_13 : decode cX1_add 13 = .ok (.if_icmp .ge 7, 3) := by decide +kernel
theorem dX1_add_16 : decode cX1_add 16 = .ok (.iconst 1, 1) := by decide +kernel
theorem dX1_add_17 : decode cX1_add 17 = .ok (.goto 4, 3) := by decide +kernel
theorem dX1_add_20 : decode cX1_add 20 = .ok (.iconst 0, 1) := by decide +kernel
theorem dX1_add_21 : decode cX1_add 21 = .ok (.istore 4, 2) := by decide +kernel
theorem dX1_add_23 : decode cX1_add 23 = .ok (.iload 4, 2) := by decide +kernel
theorem dX1_add_25 : decode cX1_add 25 = .ok (.ifCond .eq 43, 3) := by decide +kernel
theorem dX1_add_28 : decode cX1_add 28 = .ok (.aload_n 0, 1) := by decide +kernel
theorem dX1_add_29 : decode cX1_add 29 = .ok (.getfield 11, 3) := by decide +kernel
theorem dX1_add_32 : decode cX1_add 32 = .ok (.aload_n 0, 1) := by decide +kernel
theorem dX1_add_33 : decode cX1_add 33 = .ok (.getfield 21, 3) := by decide +kernel
theorem dX1_add_36 : decode cX1_add 36 = .ok (.iload_n 1, 1) := by decide +kernel
theorem dX1_add_37 : decode cX1_add 37 = .ok (.iastore, 1) := by decide +kernel
theorem dX1_add_38 : decode cX1_add 38 = .ok (.aload_n 0, 1) := by decide +kernel
theorem dX1_add_39 : decode cX1_add 39 = .ok (.getfield 15, 3) := by decide +kernel
theorem dX1_add_42 : decode cX1_add 42 = .ok (.aload_n 0, 1) := by decide +kernel
theorem dX1_add_43 : decode cX1_add 43 = .ok (.getfield 21, 3) := by decide +kernel
theorem dX1_add_46 : decode cX1_add 46 = .ok (.iload_n 2, 1) := by decide +kernel
theorem dX1_add_47 : decode cX1_add 47 = .ok (.iastore, 1) := by decide +kernel
theorem dX1_add_48 : decode cX1_add 48 = .ok (.aload_n 0, 1) := by decide +kernel
theorem dX1_add_49 : decode cX1_add 49 = .ok (.getfield 18, 3) := by decide +kernel
theorem dX1_add_52 : decode cX1_add 52 = .ok (.aload_n 0, 1) := by decide +kernel
theorem dX1_add_53 : decode cX1_add 53 = .ok (.getfield 21, 3) := by decide +kernel
theorem dX1_add_56 : decode cX1_add 56 = .ok (.iload_n 3, 1) := by decide +kernel
theorem dX1_add_57 : decode cX1_add 57 = .ok (.iastore, 1) := by decide +kernel
theorem dX1_add_58 : decode cX1_add 58 = .ok (.aload_n 0, 1) := by decide +kernel
theorem dX1_add_59 : decode cX1_add 59 = .ok (.dup, 1) := by decide +kernel
theorem dX1_add_60 : decode cX1_add 60 = .ok (.getfield 21, 3) := by decide +kernel
theorem dX1_add_63 : decode cX1_add 63 = .ok (.iconst 1, 1) := by decide +kernel
theorem dX1_add_64 : decode cX1_add 64 = .ok (.iadd, 1) := by decide +kernel
theorem dX1_add_65 : decode cX1_add 65 = .ok (.putfield 21, 3) := by decide +kernel
theorem dX1_add_68 : decode cX1_add 68 = .ok (.iload 4, 2) := by decide +kernel
theorem dX1_add_70 : decode cX1_add 70 = .ok (.ireturn, 1) := by decide +kernel
theorem dX1_countSeeds_0 : decode cX1_countSeeds 0 = .ok (.iconst 0, 1) := by decide +kernel
theorem dX1_countSeeds_1 : decode cX1_countSeeds 1 = .ok (.istore_n 2, 1) := by decide +kernel
theorem dX1_countSeeds_2 : decode cX1_countSeeds 2 = .ok (.iconst 0, 1) := by decide +kernel
theorem dX1_countSeeds_3 : decode cX1_countSeeds 3 = .ok (.istore_n 3, 1) := by decide +kernel
theorem dX1_countSeeds_4 : decode cX1_countSeeds 4 = .ok (.iload_n 3, 1) := by decide +kernel
theorem dX1_countSeeds_5 : decode cX1_countSeeds 5 = .ok (.sipush 251, 3) := by decide +kernel
theorem dX1_countSeeds_8 : decode cX1_countSeeds 8 = .ok (.if_icmp .ge 21, 3) := by decide +kernel
theorem dX1_countSeeds_11 : decode cX1_countSeeds 11 = .ok (.aload_n 0, 1) := by decide +kernel
theorem dX1_countSeeds_12 : decode cX1_countSeeds 12 = .ok (.iload_n 3, 1) := by decide +kernel
theorem dX1_countSeeds_13 : decode cX1_countSeeds 13 = .ok (.aload_n 1, 1) := by decide +kernel
theorem dX1_countSeeds_14 : decode cX1_countSeeds 14 = .ok (.invokevirtual 25, 3) := by decide +kernel
theorem dX1_countSeeds_17 : decode cX1_countSeeds 17 = .ok (.ifCond .eq 6, 3) := by decide +kernel
theorem dX1_countSeeds_20 : decode cX1_countSeeds 20 = .ok (.iinc 2 1, 3) := by decide +kernel
theorem dX1_countSeeds_23 : decode cX1_countSeeds 23 = .ok (.iinc 3 1, 3) := by decide +kernel
theorem dX1_countSeeds_26 : decode cX1_countSeeds 26 = .ok (.goto (-22), 3) := by decide +kernel
theorem dX1_countSeeds_29 : decode cX1_countSeeds 29 = .ok (.iload_n 2, 1) := by decide +kernel
theorem dX1_countSeeds_30 : decode cX1_countSeeds 30 = .ok (.ireturn, 1) := by decide +kernel
theorem dX1_leastSeed_0 : decode cX1_leastSeed 0 = .ok (.iconst 0, 1) := by decide +kernel
theorem dX1_leastSeed_1 : decode cX1_leastSeed 1 = .ok (.istore_n 2, 1) := by decide +kernel
theorem dX1_leastSeed_2 : decode cX1_leastSeed 2 = .ok (.iload_n 2, 1) := by decide +kernel
theorem dX1_leastSeed_3 : decode cX1_leastSeed 3 = .ok (.sipush 251, 3) := by decide +kernel
theorem dX1_leastSeed_6 : decode cX1_leastSeed 6 = .ok (.if_icmp .ge 20, 3) := by decide +kernel
theorem dX1_leastSeed_9 : decode cX1_leastSeed 9 = .ok (.aload_n 0, 1) := by decide +kernel
theorem dX1_leastSeed_10 : decode cX1_leastSeed 10 = .ok (.iload_n 2, 1) := by decide +kernel
theorem dX1_leastSeed_11 : decode cX1_leastSeed 11 = .ok (.aload_n 1, 1) := by decide +kernel
theorem dX1_leastSeed_12 : decode cX1_leastSeed 12 = .ok (.invokevirtual 25, 3) := by decide +kernel
theorem dX1_leastSeed_15 : decode cX1_leastSeed 15 = .ok (.ifCond .eq 5, 3) := by decide +kernel
theorem dX1_leastSeed_18 : decode cX1_leastSeed 18 = .ok (.iload_n 2, 1) := by decide +kernel
theorem dX1_leastSeed_19 : decode cX1_leastSeed 19 = .ok (.ireturn, 1) := by decide +kernel
theorem dX1_leastSeed_20 : decode cX1_leastSeed 20 = .ok (.iinc 2 1, 3) := by decide +kernel
theorem dX1_leastSeed_23 : decode cX1_leastSeed 23 = .ok (.goto (-21), 3) := by decide +kernel
theorem dX1_leastSeed_26 : decode cX1_leastSeed 26 = .ok (.bipush (-9), 2) := by decide +kernel
theorem dX1_leastSeed_28 : decode cX1_leastSeed 28 = .ok (.ireturn, 1) := by decide +kernel
theorem dX1_agrees_0 : decode cX1_agrees 0 = .ok (.iconst 0, 1) := by decide +kernel
theorem dX1_agrees_1 : decode cX1_agrees 1 = .ok (.istore_n 3, 1) := by decide +kernel
theorem dX1_agrees_2 : decode cX1_agrees 2 = .ok (.iload_n 3, 1) := by decide +kernel
theorem dX1_agrees_3 : decode cX1_agrees 3 = .ok (.aload_n 0, 1) := by decide +kernel
theorem dX1_agrees_4 : decode cX1_agrees 4 = .ok (.getfield 21, 3) := by decide +kernel
theorem dX1_agrees_7 : decode cX1_agrees 7 = .ok (.if_icmp .ge 64, 3) := by decide +kernel
theorem dX1_agrees_10 : decode cX1_agrees 10 = .ok (.iload_n 3, 1) := by decide +kernel
theorem dX1_agrees_11 : decode cX1_agrees 11 = .ok (.bipush 6, 2) := by decide +kernel
theorem dX1_agrees_13 : decode cX1_agrees 13 = .ok (.if_icmp .ge 58, 3) := by decide +kernel
theorem dX1_agrees_16 : decode cX1_agrees 16 = .ok (.aload_n 2, 1) := by decide +kernel
theorem dX1_agrees_17 : decode cX1_agrees 17 = .ok (.aload_n 0, 1) := by decide +kernel
theorem dX1_agrees_18 : decode cX1_agrees 18 = .ok (.getfield 11, 3) := by decide +kernel
theorem dX1_agrees_21 : decode cX1_agrees 21 = .ok (.iload_n 3, 1) := by decide +kernel
theorem dX1_agrees_22 : decode cX1_agrees 22 = .ok (.iaload, 1) := by decide +kernel
theorem dX1_agrees_23 : decode cX1_agrees 23 = .ok (.iconst 1, 1) := by decide +kernel
theorem dX1_agrees_24 : decode cX1_agrees 24 = .ok (.invokevirtual 31, 3) := by decide +kernel
theorem dX1_agrees_27 : decode cX1_agrees 27 = .ok (.istore 4, 2) := by decide +kernel
theorem dX1_agrees_29 : decode cX1_agrees 29 = .ok (.aload_n 2, 1) := by decide +kernel
theorem dX1_agrees_30 : decode cX1_agrees 30 = .ok (.aload_n 0, 1) := by decide +kernel
theorem dX1_agrees_31 : decode cX1_agrees 31 = .ok (.getfield 11, 3) := by decide +kernel
theorem dX1_agrees_34 : decode cX1_agrees 34 = .ok (.iload_n 3, 1) := by decide +kernel
theorem dX1_agrees_35 : decode cX1_agrees 35 = .ok (.iaload, 1) := by decide +kernel
theorem dX1_agrees_36 : decode cX1_agrees 36 = .ok (.invokevirtual 35, 3) := by decide +kernel
theorem dX1_agrees_39 : decode cX1_agrees 39 = .ok (.ifCond .eq 26, 3) := by decide +kernel
theorem dX1_agrees_42 : decode cX1_agrees 42 = .ok (.iload_n 1, 1) := by decide +kernel
theorem dX1_agrees_43 : decode cX1_agrees 43 = .ok (.iload 4, 2) := by decide +kernel
theorem dX1_agrees_45 : decode cX1_agrees 45 = .ok (.aload_n 0, 1) := by decide +kernel
theorem dX1_agrees_46 : decode cX1_agrees 46 = .ok (.getfield 15, 3) := by decide +kernel
theorem dX1_agrees_49 : decode cX1_agrees 49 = .ok (.iload_n 3, 1) := by decide +kernel
theorem dX1_agrees_50 : decode cX1_agrees 50 = .ok (.iaload, 1) := by decide +kernel
theorem dX1_agrees_51 : decode cX1_agrees 51 = .ok (.invokestatic 39, 3) := by decide +kernel
theorem dX1_agrees_54 : decode cX1_agrees 54 = .ok (.aload_n 0, 1) := by decide +kernel
theorem dX1_agrees_55 : decode cX1_agrees 55 = .ok (.getfield 18, 3) := by decide +kernel
theorem dX1_agrees_58 : decode cX1_agrees 58 = .ok (.iload_n 3, 1) := by decide +kernel
theorem dX1_agrees_59 : decode cX1_agrees 59 = .ok (.iaload, 1) := by decide +kernel
theorem dX1_agrees_60 : decode cX1_agrees 60 = .ok (.if_icmp .eq 5, 3) := by decide +kernel
theorem dX1_agrees_63 : decode cX1_agrees 63 = .ok (.iconst 0, 1) := by decide +kernel
theorem dX1_agrees_64 : decode cX1_agrees 64 = .ok (.ireturn, 1) := by decide +kernel
theorem dX1_agrees_65 : decode cX1_agrees 65 = .ok (.iinc 3 1, 3) := by decide +kernel
theorem dX1_agrees_68 : decode cX1_agrees 68 = .ok (.goto (-66), 3) := by decide +kernel
theorem dX1_agrees_71 : decode cX1_agrees 71 = .ok (.iconst 1, 1) := by decide +kernel
theorem dX1_agrees_72 : decode cX1_agrees 72 = .ok (.ireturn, 1) := by decide +kernel
theorem dX2_init_0 : decode cX2_init 0 = .ok (.aload_n 0, 1) := by decide +kernel
theorem dX2_init_1 : decode cX2_init 1 = .ok (.invokespecial 1, 3) := by decide +kernel
theorem dX2_init_4 : decode cX2_init 4 = .ok (.aload_n 0, 1) := by decide +kernel
theorem dX2_init_5 : decode cX2_init 5 = .ok (.sipush 504, 3) := by decide +kernel
theorem dX2_init_8 : decode cX2_init 8 = .ok (.newarray .int, 2) := by decide +kernel
theorem dX2_init_10 : decode cX2_init 10 = .ok (.putfield 11, 3) := by decide +kernel
theorem dX2_init_13 : decode cX2_init 13 = .ok (.aload_n 0, 1) := by decide +kernel
theorem dX2_init_14 : decode cX2_init 14 = .ok (.bipush 72, 2) := by decide +kernel
theorem dX2_init_16 : decode cX2_init 16 = .ok (.newarray .int, 2) := by decide +kernel
theorem dX2_init_18 : decode cX2_init 18 = .ok (.putfield 15, 3) := by decide +kernel
theorem dX2_init_21 : decode cX2_init 21 = .ok (.aload_n 0, 1) := by decide +kernel
theorem dX2_init_22 : decode cX2_init 22 = .ok (.iconst 2, 1) := by decide +kernel
theorem dX2_init_23 : decode cX2_init 23 = .ok (.newarray .boolean, 2) := by decide +kernel
theorem dX2_init_25 : decode cX2_init 25 = .ok (.putfield 18, 3) := by decide +kernel
theorem dX2_init_28 : decode cX2_init 28 = .ok (.aload_n 0, 1) := by decide +kernel
theorem dX2_init_29 : decode cX2_init 29 = .ok (.iconst 0, 1) := by decide +kernel
theorem dX2_init_30 : decode cX2_init 30 = .ok (.putfield 22, 3) := by decide +kernel
theorem dX2_init_33 : decode cX2_init 33 = .ok (.aload_n 0, 1) := by decide +kernel
theorem dX2_init_34 : decode cX2_init 34 = .ok (.iconst 0, 1) := by decide +kernel
theorem dX2_init_35 : decode cX2_init 35 = .ok (.putfield 26, 3) := by decide +kernel
theorem dX2_init_38 : decode cX2_init 38 = .ok (.return_, 1) := by decide +kernel
theorem dX2_remember_0 : decode cX2_remember 0 = .ok (.aload_n 0, 1) := by decide +kernel
theorem dX2_remember_1 : decode cX2_remember 1 = .ok (.getfield 26, 3) := by decide +kernel
theorem dX2_remember_4 : decode cX2_remember 4 = .ok (.iconst 0, 1) := by decide +kernel
theorem dX2_remember_5 : decode cX2_remember 5 = .ok (.bipush 13, 2) := by decide +kernel
theorem dX2_remember_7 : decode cX2_remember 7 = .ok (.invokestatic 29, 3) := by decide +kernel
theorem dX2_remember_10 : decode cX2_remember 10 = .ok (.ifCond .eq 52, 3) := by decide +kernel
theorem dX2_remember_13 : decode cX2_remember 13 = .ok (.aload_n 1, 1) := by decide +kernel
theorem dX2_remember_14 : decode cX2_remember 14 = .ok (.getfield 35, 3) := by decide +kernel
theorem dX2_remember_17 : decode cX2_remember 17 = .ok (.iconst 0, 1) := by decide +kernel
theorem dX2_remember_18 : decode cX2_remember 18 = .ok (.aload_n 0, 1) := by decide +kernel
theorem dX2_remember_19 : decode cX2_remember 19 = .ok (.getfield 11, 3) := by decide +kernel
theorem dX2_remember_22 : decode cX2_remember 22 = .ok (.aload_n 0, 1) := by decide +kernel
theorem dX2_remember_23 : decode cX2_remember 23 = .ok (.getfield 26, 3) := by decide +kernel
theorem dX2_remember_26 : decode cX2_remember 26 = .ok (.bipush 36, 2) := by decide +kernel
theorem dX2_remember_28 : decode cX2_remember 28 = .ok (.imul, 1) := by decide +kernel
theorem dX2_remember_29 : decode cX2_remember 29 = .ok (.bipush 36, 2) := by decide +kernel
theorem dX2_remember_31 : decode cX2_remember 31 = .ok (.invokestatic 38, 3) := by decide +kernel
theorem dX2_remember_34 : decode cX2_remember 34 = .ok (.aload_n 0, 1) := by decide +kernel
theorem dX2_remember_35 : decode cX2_remember 35 = .ok (.aload_n 0, 1) := by decide +kernel
theorem dX2_remember_36 : decode cX2_remember 36 = .ok (.getfield 26, 3) := by decide +kernel
theorem dX2_remember_39 : decode cX2_remember 39 = .ok (.iconst 1, 1) := by decide +kernel
theorem dX2_remember_40 : decode cX2_remember 40 = .ok (.iadd, 1) := by decide +kernel
theorem dX2_remember_41 : decode cX2_remember 41 = .ok (.bipush 14, 2) := by decide +kernel
theorem dX2_remember_43 : decode cX2_remember 43 = .ok (.irem, 1) := by decide +kernel
theorem dX2_remember_44 : decode cX2_remember 44 = .ok (.putfield 26, 3) := by decide +kernel
theorem dX2_remember_47 : decode cX2_remember 47 = .ok (.aload_n 0, 1) := by decide +kernel
theorem dX2_remember_48 : decode cX2_remember 48 = .ok (.aload_n 0, 1) := by decide +kernel
theorem dX2_remember_49 : decode cX2_remember 49 = .ok (.getfield 22, 3) := by decide +kernel
theorem dX2_remember_52 : decode cX2_remember 52 = .ok (.iconst 1, 1) := by decide +kernel
theorem dX2_remember_53 : decode cX2_remember 53 = .ok (.iadd, 1) := by decide +kernel
theorem dX2_remember_54 : decode cX2_remember 54 = .ok (.bipush 14, 2) := by decide +kernel
theorem dX2_remember_56 : decode cX2_remember 56 = .ok (.invokestatic 44, 3) := by decide +kernel
theorem dX2_remember_59 : decode cX2_remember 59 = .ok (.putfield 22, 3) := by decide +kernel
theorem dX2_remember_62 : decode cX2_remember 62 = .ok (.return_, 1) := by decide +kernel
theorem dX2_takeBack_0 : decode cX2_takeBack 0 = .ok (.aload_n 0, 1) := by decide +kernel
theorem dX2_takeBack_1 : decode cX2_takeBack 1 = .ok (.getfield 26, 3) := by decide +kernel
theorem dX2_takeBack_4 : decode cX2_takeBack 4 = .ok (.bipush 14, 2) := by decide +kernel
theorem dX2_takeBack_6 : decode cX2_takeBack 6 = .ok (.iadd, 1) := by decide +kernel
theorem dX2_takeBack_7 : decode cX2_takeBack 7 = .ok (.iconst 1, 1) := by decide +kernel
theorem dX2_takeBack_8 : decode cX2_takeBack 8 = .ok (.isub, 1) := by decide +kernel
theorem dX2_takeBack_9 : decode cX2_takeBack 9 = .ok (.bipush 14, 2) := by decide +kernel
theorem dX2_takeBack_11 : decode cX2_takeBack 11 = .ok (.irem, 1) := by decide +kernel
theorem dX2_takeBack_12 : decode cX2_takeBack 12 = .ok (.istore_n 2, 1) := by decide +kernel
theorem dX2_takeBack_13 : decode cX2_takeBack 13 = .ok (.aload_n 0, 1) := by decide +kernel
theorem dX2_takeBack_14 : decode cX2_takeBack 14 = .ok (.getfield 22, 3) := by decide +kernel
theorem dX2_takeBack_17 : decode cX2_takeBack 17 = .ok (.ifCond .le 17, 3) := by decide +kernel
theorem dX2_takeBack_20 : decode cX2_takeBack 20 = .ok (.iload_n 2, 1) := by decide +kernel
theorem dX2_takeBack_21 : decode cX2_takeBack 21 = .ok (.iconst 0, 1) := by decide +kernel
theorem dX2_takeBack_22 : decode cX2_takeBack 22 = .ok (.bipush 13, 2) := by decide +kernel
theorem dX2_takeBack_24 : decode cX2_takeBack 24 = .ok (.invokestatic 29, 3) := by decide +kernel
theorem dX2_takeBack_27 : decode cX2_takeBack 27 = .ok (.ifCond .eq 7, 3) := by decide +kernel
theorem dX2_takeBack_30 : decode cX2_takeBack 30 = .ok (.iconst 1, 1) := by decide +kernel
theorem dX2_takeBack_31 : decode cX2_takeBack 31 = .ok (.goto 4, 3) := by decide +kernel
theorem dX2_takeBack_34 : decode cX2_takeBack 34 = .ok (.iconst 0, 1) := by decide +kernel
theorem dX2_takeBack_35 : decode cX2_takeBack 35 = .ok (.istore_n 3, 1) := by decide +kernel
theorem dX2_takeBack_36 : decode cX2_takeBack 36 = .ok (.iload_n 3, 1) := by decide +kernel
theorem dX2_takeBack_37 : decode cX2_takeBack 37 = .ok (.ifCond .eq 36, 3) := by decide +kernel
theorem dX2_takeBack_40 : decode cX2_takeBack 40 = .ok (.aload_n 0, 1) := by decide +kernel
theorem dX2_takeBack_41 : decode cX2_takeBack 41 = .ok (.getfield 11, 3) := by decide +kernel
theorem dX2_takeBack_44 : decode cX2_takeBack 44 = .ok (.iload_n 2, 1) := by decide +kernel
theorem dX2_takeBack_45 : decode cX2_takeBack 45 = .ok (.bipush 36, 2) := by decide +kernel
theorem dX2_takeBack_47 : decode cX2_takeBack 47 = .ok (.imul, 1) := by decide +kernel
theorem dX2_takeBack_48 : decode cX2_takeBack 48 = .ok (.aload_n 1, 1) := by decide +kernel
theorem dX2_takeBack_49 : decode cX2_takeBack 49 = .ok (.getfield 35, 3) := by decide +kernel
theorem dX2_takeBack_52 : decode cX2_takeBack 52 = .ok (.iconst 0, 1) := by decide +kernel
theorem dX2_takeBack_53 : decode cX2_takeBack 53 = .ok (.bipush 36, 2) := by decide +kernel
theorem dX2_takeBack_55 : decode cX2_takeBack 55 = .ok (.invokestatic 38, 3) := by decide +kernel
theorem dX2_takeBack_58 : decode cX2_takeBack 58 = .ok (.aload_n 0, 1) := by decide +kernel
theorem dX2_takeBack_59 : decode cX2_takeBack 59 = .ok (.iload_n 2, 1) := by decide +kernel
theorem dX2_takeBack_60 : decode cX2_takeBack 60 = .ok (.putfield 26, 3) := by decide +kernel
theorem dX2_takeBack_63 : decode cX2_takeBack 63 = .ok (.aload_n 0, 1) := by decide +kernel
theorem dX2_takeBack_64 : decode cX2_takeBack 64 = .ok (.dup, 1) := by decide +kernel
theorem dX2_takeBack_65 : decode cX2_takeBack 65 = .ok (.getfield 22, 3) := by decide +kernel
theorem dX2_takeBack_68 : decode cX2_takeBack 68 = .ok (.iconst 1, 1) := by decide +kernel
theorem dX2_takeBack_69 : decode cX2_takeBack 69 = .ok (.isub, 1) := by decide +kernel
theorem dX2_takeBack_70 : decode cX2_takeBack 70 = .ok (.putfield 22, 3) := by decide +kernel
theorem dX2_takeBack_73 : decode cX2_takeBack 73 = .ok (.iload_n 3, 1) := by decide +kernel
theorem dX2_takeBack_74 : decode cX2_takeBack 74 = .ok (.ireturn, 1) := by decide +kernel
theorem dX2_keepIn_0 : decode cX2_keepIn 0 = .ok (.iload_n 1, 1) := by decide +kernel
theorem dX2_keepIn_1 : decode cX2_keepIn 1 = .ok (.iconst 0, 1) := by decide +kernel
theorem dX2_keepIn_2 : decode cX2_keepIn 2 = .ok (.iconst 1, 1) := by decide +kernel
theorem dX2_keepIn_3 : decode cX2_keepIn 3 = .ok (.invokestatic 29, 3) := by decide +kernel
theorem dX2_keepIn_6 : decode cX2_keepIn 6 = .ok (.istore_n 3, 1) := by decide +kernel
theorem dX2_keepIn_7 : decode cX2_keepIn 7 = .ok (.iload_n 3, 1) := by decide +kernel
theorem dX2_keepIn_8 : decode cX2_keepIn 8 = .ok (.ifCond .eq 28, 3) := by decide +kernel
theorem dX2_keepIn_11 : decode cX2_keepIn 11 = .ok (.aload_n 2, 1) := by decide +kernel
theorem dX2_keepIn_12 : decode cX2_keepIn 12 = .ok (.getfield 35, 3) := by decide +kernel
theorem dX2_keepIn_15 : decode cX2_keepIn 15 = .ok (.iconst 0, 1) := by decide +kernel
theorem dX2_keepIn_16 : decode cX2_keepIn 16 = .ok (.aload_n 0, 1) := by decide +kernel
theorem dX2_keepIn_17 : decode cX2_keepIn 17 = .ok (.getfield 15, 3) := by decide +kernel
theorem dX2_keepIn_20 : decode cX2_keepIn 20 = .ok (.iload_n 1, 1) := by decide +kernel
theorem dX2_keepIn_21 : decode cX2_keepIn 21 = .ok (.bipush 36, 2) := by decide +kernel
theorem dX2_keepIn_23 : decode cX2_keepIn 23 = .ok (.imul, 1) := by decide +kernel
theorem dX2_keepIn_24 : decode cX2_keepIn 24 = .ok (.bipush 36, 2) := by decide +kernel
theorem dX2_keepIn_26 : decode cX2_keepIn 26 = .ok (.invokestatic 38, 3) := by decide +kernel
theorem dX2_keepIn_29 : decode cX2_keepIn 29 = .ok (.aload_n 0, 1) := by decide +kernel
theorem dX2_keepIn_30 : decode cX2_keepIn 30 = .ok (.getfield 18, 3) := by decide +kernel
theorem dX2_keepIn_33 : decode cX2_keepIn 33 = .ok (.iload_n 1, 1) := by decide +kernel
theorem dX2_keepIn_34 : decode cX2_keepIn 34 = .ok (.iconst 1, 1) := by decide +kernel
theorem dX2_keepIn_35 : decode cX2_keepIn 35 = .ok (.bastore, 1) := by decide +kernel
theorem dX2_keepIn_36 : decode cX2_keepIn 36 = .ok (.iload_n 3, 1) := by decide +kernel
theorem dX2_keepIn_37 : decode cX2_keepIn 37 = .ok (.ireturn, 1) := by decide +kernel
theorem dX2_bringBack_0 : decode cX2_bringBack 0 = .ok (.iload_n 1, 1) := by decide +kernel
theorem dX2_bringBack_1 : decode cX2_bringBack 1 = .ok (.iconst 0, 1) := by decide +kernel
theorem dX2_bringBack_2 : decode cX2_bringBack 2 = .ok (.iconst 1, 1) := by decide +kernel
theorem dX2_bringBack_3 : decode cX2_bringBack 3 = .ok (.invokestatic 29, 3) := by decide +kernel
theorem dX2_bringBack_6 : decode cX2_bringBack 6 = .ok (.ifCond .eq 16, 3) := by decide +kernel
theorem dX2_bringBack_9 : decode cX2_bringBack 9 = .ok (.aload_n 0, 1) := by decide +kernel
theorem dX2_bringBack_10 : decode cX2_bringBack 10 = .ok (.getfield 18, 3) := by decide +kernel
theorem dX2_bringBack_13 : decode cX2_bringBack 13 = .ok (.iload_n 1, 1) := by decide +kernel
theorem dX2_bringBack_14 : decode cX2_bringBack 14 = .ok (.baload, 1) := by decide +kernel
theorem dX2_bringBack_15 : decode cX2_bringBack 15 = .ok (.ifCond .eq 7, 3) := by decide +kernel
theorem dX2_bringBack_18 : decode cX2_bringBack 18 = .ok (.iconst 1, 1) := by decide +kernel
theorem dX2_bringBack_19 : decode cX2_bringBack 19 = .ok (.goto 4, 3) := by decide +kernel
theorem dX2_bringBack_22 : decode cX2_bringBack 22 = .ok (.iconst 0, 1) := by decide +kernel
theorem dX2_bringBack_23 : decode cX2_bringBack 23 = .ok (.istore_n 3, 1) := by decide +kernel
theorem dX2_bringBack_24 : decode cX2_bringBack 24 = .ok (.iload_n 3, 1) := by decide +kernel
theorem dX2_bringBack_25 : decode cX2_bringBack 25 = .ok (.ifCond .eq 26, 3) := by decide +kernel
theorem dX2_bringBack_28 : decode cX2_bringBack 28 = .ok (.aload_n 0, 1) := by decide +kernel
theorem dX2_bringBack_29 : decode cX2_bringBack 29 = .ok (.getfield 15, 3) := by decide +kernel
theorem dX2_bringBack_32 : decode cX2_bringBack 32 = .ok (.iload_n 1, 1) := by decide +kernel
theorem dX2_bringBack_33 : decode cX2_bringBack 33 = .ok (.bipush 36, 2) := by decide +kernel
theorem dX2_bringBack_35 : decode cX2_bringBack 35 = .ok (.imul, 1) := by decide +kernel
theorem dX2_bringBack_36 : decode cX2_bringBack 36 = .ok (.aload_n 2, 1) := by decide +kernel
theorem dX2_bringBack_37 : decode cX2_bringBack 37 = .ok (.getfield 35, 3) := by decide +kernel
theorem dX2_bringBack_40 : decode cX2_bringBack 40 = .ok (.iconst 0, 1) := by decide +kernel
theorem dX2_bringBack_41 : decode cX2_bringBack 41 = .ok (.bipush 36, 2) := by decide +kernel
theorem dX2_bringBack_43 : decode cX2_bringBack 43 = .ok (.invokestatic 38, 3) := by decide +kernel
theorem dX2_bringBack_46 : decode cX2_bringBack 46 = .ok (.aload_n 0, 1) := by decide +kernel
theorem dX2_bringBack_47 : decode cX2_bringBack 47 = .ok (.iconst 0, 1) := by decide +kernel
theorem dX2_bringBack_48 : decode cX2_bringBack 48 = .ok (.putfield 22, 3) := by decide +kernel
theorem dX2_bringBack_51 : decode cX2_bringBack 51 = .ok (.iload_n 3, 1) := by decide +kernel
theorem dX2_bringBack_52 : decode cX2_bringBack 52 = .ok (.ireturn, 1) := by decide +kernel
theorem dX2_forgetAll_0 : decode cX2_forgetAll 0 = .ok (.aload_n 0, 1) := by decide +kernel
theorem dX2_forgetAll_1 : decode cX2_forgetAll 1 = .ok (.iconst 0, 1) := by decide +kernel
theorem dX2_forgetAll_2 : decode cX2_forgetAll 2 = .ok (.putfield 22, 3) := by decide +kernel
theorem dX2_forgetAll_5 : decode cX2_forgetAll 5 = .ok (.iconst 0, 1) := by decide +kernel
theorem dX2_forgetAll_6 : decode cX2_forgetAll 6 = .ok (.istore_n 1, 1) := by decide +kernel
theorem dX2_forgetAll_7 : decode cX2_forgetAll 7 = .ok (.iload_n 1, 1) := by decide +kernel
theorem dX2_forgetAll_8 : decode cX2_forgetAll 8 = .ok (.iconst 2, 1) := by decide +kernel
theorem dX2_forgetAll_9 : decode cX2_forgetAll 9 = .ok (.if_icmp .ge 16, 3) := by decide +kernel
theorem dX2_forgetAll_12 : decode cX2_forgetAll 12 = .ok (.aload_n 0, 1) := by decide +kernel
theorem dX2_forgetAll_13 : decode cX2_forgetAll 13 = .ok (.getfield 18, 3) := by decide +kernel
theorem dX2_forgetAll_16 : decode cX2_forgetAll 16 = .ok (.iload_n 1, 1) := by decide +kernel
theorem dX2_forgetAll_17 : decode cX2_forgetAll 17 = .ok (.iconst 0, 1) := by decide +kernel
theorem dX2_forgetAll_18 : decode cX2_forgetAll 18 = .ok (.bastore, 1) := by decide +kernel
theorem dX2_forgetAll_19 : decode cX2_forgetAll 19 = .ok (.iinc 1 1, 3) := by decide +kernel
theorem dX2_forgetAll_22 : decode cX2_forgetAll 22 = .ok (.goto (-15), 3) := by decide +kernel
theorem dX2_forgetAll_25 : decode cX2_forgetAll 25 = .ok (.return_, 1) := by decide +kernel
theorem dX3_init_0 : decode cX3_init 0 = .ok (.aload_n 0, 1) := by decide +kernel
theorem dX3_init_1 : decode cX3_init 1 = .ok (.invokespecial 3, 3) := by decide +kernel
theorem dX3_init_4 : decode cX3_init 4 = .ok (.aload_n 0, 1) := by decide +kernel
theorem dX3_init_5 : decode cX3_init 5 = .ok (.bipush 80, 2) := by decide +kernel
theorem dX3_init_7 : decode cX3_init 7 = .ok (.newarray .int, 2) := by decide +kernel
theorem dX3_init_9 : decode cX3_init 9 = .ok (.putfield 11, 3) := by decide +kernel
theorem dX3_init_12 : decode cX3_init 12 = .ok (.aload_n 0, 1) := by decide +kernel
theorem dX3_init_13 : decode cX3_init 13 = .ok (.iconst 0, 1) := by decide +kernel
theorem dX3_init_14 : decode cX3_init 14 = .ok (.putfield 15, 3) := by decide +kernel
theorem dX3_init_17 : decode cX3_init 17 = .ok (.aload_n 0, 1) := by decide +kernel
theorem dX3_init_18 : decode cX3_init 18 = .ok (.iconst 0, 1) := by decide +kernel
theorem dX3_init_19 : decode cX3_init 19 = .ok (.putfield 19, 3) := by decide +kernel
theorem dX3_init_22 : decode cX3_init 22 = .ok (.return_, 1) := by decide +kernel
theorem dX3_append_0 : decode cX3_append 0 = .ok (.aload_n 0, 1) := by decide +kernel
theorem dX3_append_1 : decode cX3_append 1 = .ok (.getfield 15, 3) := by decide +kernel
theorem dX3_append_4 : decode cX3_append 4 = .ok (.ifCond .lt 16, 3) := by decide +kernel
theorem dX3_append_7 : decode cX3_append 7 = .ok (.aload_n 0, 1) := by decide +kernel
theorem dX3_append_8 : decode cX3_append 8 = .ok (.getfield 15, 3) := by decide +kernel
theorem dX3_append_11 : decode cX3_append 11 = .ok (.bipush 80, 2) := by decide +kernel
theorem dX3_append_13 : decode cX3_append 13 = .ok (.if_icmp .ge 7, 3) := by decide +kernel
theorem dX3_append_16 : decode cX3_append 16 = .ok (.iconst 1, 1) := by decide +kernel
theorem dX3_append_17 : decode cX3_append 17 = .ok (.goto 4, 3) := by decide +kernel
theorem dX3_append_20 : decode cX3_append 20 = .ok (.iconst 0, 1) := by decide +kernel
theorem dX3_append_21 : decode cX3_append 21 = .ok (.istore_n 2, 1) := by decide +kernel
theorem dX3_append_22 : decode cX3_append 22 = .ok (.iload_n 2, 1) := by decide +kernel
theorem dX3_append_23 : decode cX3_append 23 = .ok (.ifCond .eq 23, 3) := by decide +kernel
theorem dX3_append_26 : decode cX3_append 26 = .ok (.aload_n 0, 1) := by decide +kernel
theorem dX3_append_27 : decode cX3_append 27 = .ok (.getfield 11, 3) := by decide +kernel
theorem dX3_append_30 : decode cX3_append 30 = .ok (.aload_n 0, 1) := by decide +kernel
theorem dX3_append_31 : decode cX3_append 31 = .ok (.getfield 15, 3) := by decide +kernel
theorem dX3_append_34 : decode cX3_append 34 = .ok (.iload_n 1, 1) := by decide +kernel
theorem dX3_append_35 : decode cX3_append 35 = .ok (.iastore, 1) := by decide +kernel
theorem dX3_append_36 : decode cX3_append 36 = .ok (.aload_n 0, 1) := by decide +kernel
theorem dX3_append_37 : decode cX3_append 37 = .ok (.dup, 1) := by decide +kernel
theorem dX3_append_38 : decode cX3_append 38 = .ok (.getfield 15, 3) := by decide +kernel
theorem dX3_append_41 : decode cX3_append 41 = .ok (.iconst 1, 1) := by decide +kernel
theorem dX3_append_42 : decode cX3_append 42 = .ok (.iadd, 1) := by decide +kernel
theorem dX3_append_43 : decode cX3_append 43 = .ok (.putfield 15, 3) := by decide +kernel
theorem dX3_append_46 : decode cX3_append 46 = .ok (.iload_n 2, 1) := by decide +kernel
theorem dX3_append_47 : decode cX3_append 47 = .ok (.ireturn, 1) := by decide +kernel
theorem dX3_readInto_0 : decode cX3_readInto 0 = .ok (.aload_n 1, 1) := by decide +kernel
theorem dX3_readInto_1 : decode cX3_readInto 1 = .ok (.invokevirtual 22, 3) := by decide +kernel
theorem dX3_readInto_4 : decode cX3_readInto 4 = .ok (.aload_n 0, 1) := by decide +kernel
theorem dX3_readInto_5 : decode cX3_readInto 5 = .ok (.iconst 0, 1) := by decide +kernel
theorem dX3_readInto_6 : decode cX3_readInto 6 = .ok (.putfield 19, 3) := by decide +kernel
theorem dX3_readInto_9 : decode cX3_readInto 9 = .ok (.aload_n 0, 1) := by decide +kernel
theorem dX3_readInto_10 : decode cX3_readInto 10 = .ok (.bipush 83, 2) := by decide +kernel
theorem dX3_readInto_12 : decode cX3_readInto 12 = .ok (.invokevirtual 27, 3) := by decide +kernel
theorem dX3_readInto_15 : decode cX3_readInto 15 = .ok (.ifCond .ne 8, 3) := by decide +kernel
theorem dX3_readInto_18 : decode cX3_readInto 18 = .ok (.aload_n 0, 1) := by decide +kernel
theorem dX3_readInto_19 : decode cX3_readInto 19 = .ok (.getfield 19, 3) := by decide +kernel
theorem dX3_readInto_22 : decode cX3_readInto 22 = .ok (.ireturn, 1) := by decide +kernel
theorem dX3_readInto_23 : decode cX3_readInto 23 = .ok (.aload_n 0, 1) := by decide +kernel
theorem dX3_readInto_24 : decode cX3_readInto 24 = .ok (.dup, 1) := by decide +kernel
theorem dX3_readInto_25 : decode cX3_readInto 25 = .ok (.getfield 19, 3) := by decide +kernel
theorem dX3_readInto_28 : decode cX3_readInto 28 = .ok (.iconst 1, 1) := by decide +kernel
theorem dX3_readInto_29 : decode cX3_readInto 29 = .ok (.iadd, 1) := by decide +kernel
theorem dX3_readInto_30 : decode cX3_readInto 30 = .ok (.putfield 19, 3) := by decide +kernel
theorem dX3_readInto_33 : decode cX3_readInto 33 = .ok (.aload_n 0, 1) := by decide +kernel
theorem dX3_readInto_34 : decode cX3_readInto 34 = .ok (.iconst 1, 1) := by decide +kernel
theorem dX3_readInto_35 : decode cX3_readInto 35 = .ok (.bipush 6, 2) := by decide +kernel
theorem dX3_readInto_37 : decode cX3_readInto 37 = .ok (.invokevirtual 31, 3) := by decide +kernel
theorem dX3_readInto_40 : decode cX3_readInto 40 = .ok (.istore_n 2, 1) := by decide +kernel
theorem dX3_readInto_41 : decode cX3_readInto 41 = .ok (.iload_n 2, 1) := by decide +kernel
theorem dX3_readInto_42 : decode cX3_readInto 42 = .ok (.bipush (-9), 2) := by decide +kernel
theorem dX3_readInto_44 : decode cX3_readInto 44 = .ok (.if_icmp .ne 8, 3) := by decide +kernel
theorem dX3_readInto_47 : decode cX3_readInto 47 = .ok (.aload_n 0, 1) := by decide +kernel
theorem dX3_readInto_48 : decode cX3_readInto 48 = .ok (.getfield 19, 3) := by decide +kernel
theorem dX3_readInto_51 : decode cX3_readInto 51 = .ok (.ireturn, 1) := by decide +kernel
theorem dX3_readInto_52 : decode cX3_readInto 52 = .ok (.aload_n 1, 1) := by decide +kernel
theorem dX3_readInto_53 : decode cX3_readInto 53 = .ok (.iload_n 2, 1) := by decide +kernel
theorem dX3_readInto_54 : decode cX3_readInto 54 = .ok (.invokevirtual 35, 3) := by decide +kernel
theorem dX3_readInto_57 : decode cX3_readInto 57 = .ok (.iconst 1, 1) := by decide +kernel
theorem dX3_readInto_58 : decode cX3_readInto 58 = .ok (.istore_n 3, 1) := by decide +kernel
theorem dX3_readInto_59 : decode cX3_readInto 59 = .ok (.iconst 0, 1) := by decide +kernel
theorem dX3_readInto_60 : decode cX3_readInto 60 = .ok (.istore 4, 2) := by decide +kernel
theorem dX3_readInto_62 : decode cX3_readInto 62 = .ok (.iload 4, 2) := by decide +kernel
theorem dX3_readInto_64 : decode cX3_readInto 64 = .ok (.bipush 80, 2) := by decide +kernel
theorem dX3_readInto_66 : decode cX3_readInto 66 = .ok (.if_icmp .ge 75, 3) := by decide +kernel
theorem dX3_readInto_69 : decode cX3_readInto 69 = .ok (.aload_n 0, 1) := by decide +kernel
theorem dX3_readInto_70 : decode cX3_readInto 70 = .ok (.getfield 19, 3) := by decide +kernel
theorem dX3_readInto_73 : decode cX3_readInto 73 = .ok (.aload_n 0, 1) := by decide +kernel
theorem dX3_readInto_74 : decode cX3_readInto 74 = .ok (.getfield 15, 3) := by decide +kernel
theorem dX3_readInto_77 : decode cX3_readInto 77 = .ok (.if_icmp .ge 64, 3) := by decide +kernel
theorem dX3_readInto_80 : decode cX3_readInto 80 = .ok (.iload_n 3, 1) := by decide +kernel
theorem dX3_readInto_81 : decode cX3_readInto 81 = .ok (.ifCond .eq 24, 3) := by decide +kernel
theorem dX3_readInto_84 : decode cX3_readInto 84 = .ok (.aload_n 1, 1) := by decide +kernel
theorem dX3_readInto_85 : decode cX3_readInto 85 = .ok (.invokevirtual 39, 3) := by decide +kernel
theorem dX3_readInto_88 : decode cX3_readInto 88 = .ok (.iconst 4, 1) := by decide +kernel
theorem dX3_readInto_89 : decode cX3_readInto 89 = .ok (.if_icmp .ge 16, 3) := by decide +kernel
theorem dX3_readInto_92 : decode cX3_readInto 92 = .ok (.aload_n 0, 1) := by decide +kernel
theorem dX3_readInto_93 : decode cX3_readInto 93 = .ok (.bipush 117, 2) := by decide +kernel
theorem dX3_readInto_95 : decode cX3_readInto 95 = .ok (.invokevirtual 27, 3) := by decide +kernel
theorem dX3_readInto_98 : decode cX3_readInto 98 = .ok (.ifCond .eq 7, 3) := by decide +kernel
theorem dX3_readInto_101 : decode cX3_readInto 101 = .ok (.iconst 1, 1) := by decide +kernel
theorem dX3_readInto_102 : decode cX3_readInto 102 = .ok (.goto 4, 3) := by decide +kernel
theorem dX3_readInto_105 : decode cX3_readInto 105 = .ok (.iconst 0, 1) := by decide +kernel
theorem dX3_readInto_106 : decode cX3_readInto 106 = .ok (.istore_n 3, 1) := by decide +kernel
theorem dX3_readInto_107 : decode cX3_readInto 107 = .ok (.iload_n 3, 1) := by decide +kernel
theorem dX3_readInto_108 : decode cX3_readInto 108 = .ok (.ifCond .eq 14, 3) := by decide +kernel
theorem dX3_readInto_111 : decode cX3_readInto 111 = .ok (.aload_n 0, 1) := by decide +kernel
theorem dX3_readInto_112 : decode cX3_readInto 112 = .ok (.aload_n 1, 1) := by decide +kernel
theorem dX3_readInto_113 : decode cX3_readInto 113 = .ok (.invokevirtual 43, 3) := by decide +kernel
theorem dX3_readInto_116 : decode cX3_readInto 116 = .ok (.ifCond .ne 19, 3) := by decide +kernel
theorem dX3_readInto_119 : decode cX3_readInto 119 = .ok (.goto 11, 3) := by decide +kernel
theorem dX3_readInto_122 : decode cX3_readInto 122 = .ok (.aload_n 0, 1) := by decide +kernel
theorem dX3_readInto_123 : decode cX3_readInto 123 = .ok (.aload_n 1, 1) := by decide +kernel
theorem dX3_readInto_124 : decode cX3_readInto 124 = .ok (.invokevirtual 47, 3) := by decide +kernel
theorem dX3_readInto_127 : decode cX3_readInto 127 = .ok (.ifCond .ne 8, 3) := by decide +kernel
theorem dX3_readInto_130 : decode cX3_readInto 130 = .ok (.aload_n 0, 1) := by decide +kernel
theorem dX3_readInto_131 : decode cX3_readInto 131 = .ok (.getfield 19, 3) := by decide +kernel
theorem dX3_readInto_134 : decode cX3_readInto 134 = .ok (.ireturn, 1) := by decide +kernel
theorem dX3_readInto_135 : decode cX3_readInto 135 = .ok (.iinc 4 1, 3) := by decide +kernel
theorem dX3_readInto_138 : decode cX3_readInto 138 = .ok (.goto (-76), 3) := by decide +kernel
theorem dX3_readInto_141 : decode cX3_readInto 141 = .ok (.bipush (-9), 2) := by decide +kernel
theorem dX3_readInto_143 : decode cX3_readInto 143 = .ok (.ireturn, 1) := by decide +kernel
theorem dX3_nextLetter_0 : decode cX3_nextLetter 0 = .ok (.aload_n 0, 1) := by decide +kernel
theorem dX3_nextLetter_1 : decode cX3_nextLetter 1 = .ok (.getfield 19, 3) := by decide +kernel
theorem dX3_nextLetter_4 : decode cX3_nextLetter 4 = .ok (.ifCond .lt 35, 3) := by decide +kernel
theorem dX3_nextLetter_7 : decode cX3_nextLetter 7 = .ok (.aload_n 0, 1) := by decide +kernel
theorem dX3_nextLetter_8 : decode cX3_nextLetter 8 = .ok (.getfield 19, 3) := by decide +kernel
theorem dX3_nextLetter_11 : decode cX3_nextLetter 11 = .ok (.aload_n 0, 1) := by decide +kernel
theorem dX3_nextLetter_12 : decode cX3_nextLetter 12 = .ok (.getfield 15, 3) := by decide +kernel
theorem dX3_nextLetter_15 : decode cX3_nextLetter 15 = .ok (.if_icmp .ge 24, 3) := by decide +kernel
theorem dX3_nextLetter_18 : decode cX3_nextLetter 18 = .ok (.aload_n 0, 1) := by decide +kernel
theorem dX3_nextLetter_19 : decode cX3_nextLetter 19 = .ok (.getfield 19, 3) := by decide +kernel
theorem dX3_nextLetter_22 : decode cX3_nextLetter 22 = .ok (.bipush 80, 2) := by decide +kernel
theorem dX3_nextLetter_24 : decode cX3_nextLetter 24 = .ok (.if_icmp .ge 15, 3) := by decide +kernel
theorem dX3_nextLetter_27 : decode cX3_nextLetter 27 = .ok (.aload_n 0, 1) := by decide +kernel
theorem dX3_nextLetter_28 : decode cX3_nextLetter 28 = .ok (.getfield 11, 3) := by decide +kernel
theorem dX3_nextLetter_31 : decode cX3_nextLetter 31 = .ok (.aload_n 0, 1) := by decide +kernel
theorem dX3_nextLetter_32 : decode cX3_nextLetter 32 = .ok (.getfield 19, 3) := by decide +kernel
theorem dX3_nextLetter_35 : decode cX3_nextLetter 35 = .ok (.iaload, 1) := by decide +kernel
theorem dX3_nextLetter_36 : decode cX3_nextLetter 36 = .ok (.goto 5, 3) := by decide +kernel
theorem dX3_nextLetter_39 : decode cX3_nextLetter 39 = .ok (.bipush (-9), 2) := by decide +kernel
theorem dX3_nextLetter_41 : decode cX3_nextLetter 41 = .ok (.ireturn, 1) := by decide +kernel
theorem dX3_isNext_0 : decode cX3_isNext 0 = .ok (.aload_n 0, 1) := by decide +kernel
theorem dX3_isNext_1 : decode cX3_isNext 1 = .ok (.invokevirtual 50, 3) := by decide +kernel
theorem dX3_isNext_4 : decode cX3_isNext 4 = .ok (.iload_n 1, 1) := by decide +kernel
theorem dX3_isNext_5 : decode cX3_isNext 5 = .ok (.if_icmp .ne 7, 3) := by decide +kernel
theorem dX3_isNext_8 : decode cX3_isNext 8 = .ok (.iconst 1, 1) := by decide +kernel
theorem dX3_isNext_9 : decode cX3_isNext 9 = .ok (.goto 4, 3) := by decide +kernel
theorem dX3_isNext_12 : decode cX3_isNext 12 = .ok (.iconst 0, 1) := by decide +kernel
theorem dX3_isNext_13 : decode cX3_isNext 13 = .ok (.ireturn, 1) := by decide +kernel
theorem dX3_readUser_0 : decode cX3_readUser 0 = .ok (.aload_n 0, 1) := by decide +kernel
theorem dX3_readUser_1 : decode cX3_readUser 1 = .ok (.dup, 1) := by decide +kernel
theorem dX3_readUser_2 : decode cX3_readUser 2 = .ok (.getfield 19, 3) := by decide +kernel
theorem dX3_readUser_5 : decode cX3_readUser 5 = .ok (.iconst 1, 1) := by decide +kernel
theorem dX3_readUser_6 : decode cX3_readUser 6 = .ok (.iadd, 1) := by decide +kernel
theorem dX3_readUser_7 : decode cX3_readUser 7 = .ok (.putfield 19, 3) := by decide +kernel
theorem dX3_readUser_10 : decode cX3_readUser 10 = .ok (.aload_n 0, 1) := by decide +kernel
theorem dX3_readUser_11 : decode cX3_readUser 11 = .ok (.invokevirtual 53, 3) := by decide +kernel
theorem dX3_readUser_14 : decode cX3_readUser 14 = .ok (.istore_n 2, 1) := by decide +kernel
theorem dX3_readUser_15 : decode cX3_readUser 15 = .ok (.iload_n 2, 1) := by decide +kernel
theorem dX3_readUser_16 : decode cX3_readUser 16 = .ok (.bipush (-9), 2) := by decide +kernel
theorem dX3_readUser_18 : decode cX3_readUser 18 = .ok (.if_icmp .ne 8, 3) := by decide +kernel
theorem dX3_readUser_21 : decode cX3_readUser 21 = .ok (.bipush (-9), 2) := by decide +kernel
theorem dX3_readUser_23 : decode cX3_readUser 23 = .ok (.goto 7, 3) := by decide +kernel
theorem dX3_readUser_26 : decode cX3_readUser 26 = .ok (.aload_n 0, 1) := by decide +kernel
theorem dX3_readUser_27 : decode cX3_readUser 27 = .ok (.invokevirtual 53, 3) := by decide +kernel
theorem dX3_readUser_30 : decode cX3_readUser 30 = .ok (.istore_n 3, 1) := by decide +kernel
theorem dX3_readUser_31 : decode cX3_readUser 31 = .ok (.iload_n 3, 1) := by decide +kernel
theorem dX3_readUser_32 : decode cX3_readUser 32 = .ok (.bipush (-9), 2) := by decide +kernel
theorem dX3_readUser_34 : decode cX3_readUser 34 = .ok (.if_icmp .ne 8, 3) := by decide +kernel
theorem dX3_readUser_37 : decode cX3_readUser 37 = .ok (.bipush (-9), 2) := by decide +kernel
theorem dX3_readUser_39 : decode cX3_readUser 39 = .ok (.goto 7, 3) := by decide +kernel
theorem dX3_readUser_42 : decode cX3_readUser 42 = .ok (.aload_n 0, 1) := by decide +kernel
theorem dX3_readUser_43 : decode cX3_readUser 43 = .ok (.invokevirtual 56, 3) := by decide +kernel
theorem dX3_readUser_46 : decode cX3_readUser 46 = .ok (.istore 4, 2) := by decide +kernel
theorem dX3_readUser_48 : decode cX3_readUser 48 = .ok (.iload 4, 2) := by decide +kernel
theorem dX3_readUser_50 : decode cX3_readUser 50 = .ok (.bipush (-9), 2) := by decide +kernel
theorem dX3_readUser_52 : decode cX3_readUser 52 = .ok (.if_icmp .ne 5, 3) := by decide +kernel
theorem dX3_readUser_55 : decode cX3_readUser 55 = .ok (.iconst 0, 1) := by decide +kernel
theorem dX3_readUser_56 : decode cX3_readUser 56 = .ok (.ireturn, 1) := by decide +kernel
theorem dX3_readUser_57 : decode cX3_readUser 57 = .ok (.aload_n 1, 1) := by decide +kernel
theorem dX3_readUser_58 : decode cX3_readUser 58 = .ok (.iload_n 2, 1) := by decide +kernel
theorem dX3_readUser_59 : decode cX3_readUser 59 = .ok (.iload_n 3, 1) := by decide +kernel
theorem dX3_readUser_60 : decode cX3_readUser 60 = .ok (.iload 4, 2) := by decide +kernel
theorem dX3_readUser_62 : decode cX3_readUser 62 = .ok (.invokevirtual 59, 3) := by decide +kernel
theorem dX3_readUser_65 : decode cX3_readUser 65 = .ok (.iconst 1, 1) := by decide +kernel
theorem dX3_readUser_66 : decode cX3_readUser 66 = .ok (.ireturn, 1) := by decide +kernel
theorem dX3_readDoing_0 : decode cX3_readDoing 0 = .ok (.aload_n 0, 1) := by decide +kernel
theorem dX3_readDoing_1 : decode cX3_readDoing 1 = .ok (.bipush 115, 2) := by decide +kernel
theorem dX3_readDoing_3 : decode cX3_readDoing 3 = .ok (.invokevirtual 27, 3) := by decide +kernel
theorem dX3_readDoing_6 : decode cX3_readDoing 6 = .ok (.istore_n 2, 1) := by decide +kernel
theorem dX3_readDoing_7 : decode cX3_readDoing 7 = .ok (.iload_n 2, 1) := by decide +kernel
theorem dX3_readDoing_8 : decode cX3_readDoing 8 = .ok (.ifCond .ne 12, 3) := by decide +kernel
theorem dX3_readDoing_11 : decode cX3_readDoing 11 = .ok (.aload_n 0, 1) := by decide +kernel
theorem dX3_readDoing_12 : decode cX3_readDoing 12 = .ok (.bipush 109, 2) := by decide +kernel
theorem dX3_readDoing_14 : decode cX3_readDoing 14 = .ok (.invokevirtual 27, 3) := by decide +kernel
theorem dX3_readDoing_17 : decode cX3_readDoing 17 = .ok (.ifCond .eq 10, 3) := by decide +kernel
theorem dX3_readDoing_20 : decode cX3_readDoing 20 = .ok (.aload_n 1, 1) := by decide +kernel
theorem dX3_readDoing_21 : decode cX3_readDoing 21 = .ok (.invokevirtual 63, 3) := by decide +kernel
theorem dX3_readDoing_24 : decode cX3_readDoing 24 = .ok (.ifCond .ne 5, 3) := by decide +kernel
theorem dX3_readDoing_27 : decode cX3_readDoing 27 = .ok (.iconst 0, 1) := by decide +kernel
theorem dX3_readDoing_28 : decode cX3_readDoing 28 = .ok (.ireturn, 1) := by decide +kernel
theorem dX3_readDoing_29 : decode cX3_readDoing 29 = .ok (.aload_n 0, 1) := by decide +kernel
theorem dX3_readDoing_30 : decode cX3_readDoing 30 = .ok (.dup, 1) := by decide +kernel
theorem dX3_readDoing_31 : decode cX3_readDoing 31 = .ok (.getfield 19, 3) := by decide +kernel
theorem dX3_readDoing_34 : decode cX3_readDoing 34 = .ok (.iconst 1, 1) := by decide +kernel
theorem dX3_readDoing_35 : decode cX3_readDoing 35 = .ok (.iadd, 1) := by decide +kernel
theorem dX3_readDoing_36 : decode cX3_readDoing 36 = .ok (.putfield 19, 3) := by decide +kernel
theorem dX3_readDoing_39 : decode cX3_readDoing 39 = .ok (.aload_n 0, 1) := by decide +kernel
theorem dX3_readDoing_40 : decode cX3_readDoing 40 = .ok (.invokevirtual 50, 3) := by decide +kernel
theorem dX3_readDoing_43 : decode cX3_readDoing 43 = .ok (.bipush 48, 2) := by decide +kernel
theorem dX3_readDoing_45 : decode cX3_readDoing 45 = .ok (.isub, 1) := by decide +kernel
theorem dX3_readDoing_46 : decode cX3_readDoing 46 = .ok (.istore_n 3, 1) := by decide +kernel
theorem dX3_readDoing_47 : decode cX3_readDoing 47 = .ok (.aload_n 1, 1) := by decide +kernel
theorem dX3_readDoing_48 : decode cX3_readDoing 48 = .ok (.iload_n 3, 1) := by decide +kernel
theorem dX3_readDoing_49 : decode cX3_readDoing 49 = .ok (.invokevirtual 67, 3) := by decide +kernel
theorem dX3_readDoing_52 : decode cX3_readDoing 52 = .ok (.ifCond .ne 5, 3) := by decide +kernel
theorem dX3_readDoing_55 : decode cX3_readDoing 55 = .ok (.iconst 0, 1) := by decide +kernel
theorem dX3_readDoing_56 : decode cX3_readDoing 56 = .ok (.ireturn, 1) := by decide +kernel
theorem dX3_readDoing_57 : decode cX3_readDoing 57 = .ok (.aload_n 0, 1) := by decide +kernel
theorem dX3_readDoing_58 : decode cX3_readDoing 58 = .ok (.dup, 1) := by decide +kernel
theorem dX3_readDoing_59 : decode cX3_readDoing 59 = .ok (.getfield 19, 3) := by decide +kernel
theorem dX3_readDoing_62 : decode cX3_readDoing 62 = .ok (.iconst 1, 1) := by decide +kernel
theorem dX3_readDoing_63 : decode cX3_readDoing 63 = .ok (.iadd, 1) := by decide +kernel
theorem dX3_readDoing_64 : decode cX3_readDoing 64 = .ok (.putfield 19, 3) := by decide +kernel
theorem dX3_readDoing_67 : decode cX3_readDoing 67 = .ok (.iload_n 2, 1) := by decide +kernel
theorem dX3_readDoing_68 : decode cX3_readDoing 68 = .ok (.ifCond .eq 12, 3) := by decide +kernel
theorem dX3_readDoing_71 : decode cX3_readDoing 71 = .ok (.aload_n 1, 1) := by decide +kernel
theorem dX3_readDoing_72 : decode cX3_readDoing 72 = .ok (.iload_n 3, 1) := by decide +kernel
theorem dX3_readDoing_73 : decode cX3_readDoing 73 = .ok (.invokevirtual 70, 3) := by decide +kernel
theorem dX3_readDoing_76 : decode cX3_readDoing 76 = .ok (.pop, 1) := by decide +kernel
theorem dX3_readDoing_77 : decode cX3_readDoing 77 = .ok (.goto 9, 3) := by decide +kernel
theorem dX3_readDoing_80 : decode cX3_readDoing 80 = .ok (.aload_n 1, 1) := by decide +kernel
theorem dX3_readDoing_81 : decode cX3_readDoing 81 = .ok (.iload_n 3, 1) := by decide +kernel
theorem dX3_readDoing_82 : decode cX3_readDoing 82 = .ok (.invokevirtual 74, 3) := by decide +kernel
theorem dX3_readDoing_85 : decode cX3_readDoing 85 = .ok (.pop, 1) := by decide +kernel
theorem dX3_readDoing_86 : decode cX3_readDoing 86 = .ok (.iconst 1, 1) := by decide +kernel
theorem dX3_readDoing_87 : decode cX3_readDoing 87 = .ok (.ireturn, 1) := by decide +kernel
theorem dX3_readNumber_0 : decode cX3_readNumber 0 = .ok (.aload_n 0, 1) := by decide +kernel
theorem dX3_readNumber_1 : decode cX3_readNumber 1 = .ok (.iconst 0, 1) := by decide +kernel
theorem dX3_readNumber_2 : decode cX3_readNumber 2 = .ok (.iconst 2, 1) := by decide +kernel
theorem dX3_readNumber_3 : decode cX3_readNumber 3 = .ok (.invokevirtual 31, 3) := by decide +kernel
theorem dX3_readNumber_6 : decode cX3_readNumber 6 = .ok (.istore_n 1, 1) := by decide +kernel
theorem dX3_readNumber_7 : decode cX3_readNumber 7 = .ok (.iload_n 1, 1) := by decide +kernel
theorem dX3_readNumber_8 : decode cX3_readNumber 8 = .ok (.bipush (-9), 2) := by decide +kernel
theorem dX3_readNumber_10 : decode cX3_readNumber 10 = .ok (.if_icmp .ne 6, 3) := by decide +kernel
theorem dX3_readNumber_13 : decode cX3_readNumber 13 = .ok (.bipush (-9), 2) := by decide +kernel
theorem dX3_readNumber_15 : decode cX3_readNumber 15 = .ok (.ireturn, 1) := by decide +kernel
theorem dX3_readNumber_16 : decode cX3_readNumber 16 = .ok (.aload_n 0, 1) := by decide +kernel
theorem dX3_readNumber_17 : decode cX3_readNumber 17 = .ok (.iconst 0, 1) := by decide +kernel
theorem dX3_readNumber_18 : decode cX3_readNumber 18 = .ok (.iload_n 1, 1) := by decide +kernel
theorem dX3_readNumber_19 : decode cX3_readNumber 19 = .ok (.iconst 2, 1) := by decide +kernel
theorem dX3_readNumber_20 : decode cX3_readNumber 20 = .ok (.if_icmp .ne 7, 3) := by decide +kernel
theorem dX3_readNumber_23 : decode cX3_readNumber 23 = .ok (.iconst 5, 1) := by decide +kernel
theorem dX3_readNumber_24 : decode cX3_readNumber 24 = .ok (.goto 5, 3) := by decide +kernel
theorem dX3_readNumber_27 : decode cX3_readNumber 27 = .ok (.bipush 9, 2) := by decide +kernel
theorem dX3_readNumber_29 : decode cX3_readNumber 29 = .ok (.invokevirtual 31, 3) := by decide +kernel
theorem dX3_readNumber_32 : decode cX3_readNumber 32 = .ok (.istore_n 2, 1) := by decide +kernel
theorem dX3_readNumber_33 : decode cX3_readNumber 33 = .ok (.iload_n 2, 1) := by decide +kernel
theorem dX3_readNumber_34 : decode cX3_readNumber 34 = .ok (.bipush (-9), 2) := by decide +kernel
theorem dX3_readNumber_36 : decode cX3_readNumber 36 = .ok (.if_icmp .ne 6, 3) := by decide +kernel
theorem dX3_readNumber_39 : decode cX3_readNumber 39 = .ok (.bipush (-9), 2) := by decide +kernel
theorem dX3_readNumber_41 : decode cX3_readNumber 41 = .ok (.ireturn, 1) := by decide +kernel
theorem dX3_readNumber_42 : decode cX3_readNumber 42 = .ok (.aload_n 0, 1) := by decide +kernel
theorem dX3_readNumber_43 : decode cX3_readNumber 43 = .ok (.iconst 0, 1) := by decide +kernel
theorem dX3_readNumber_44 : decode cX3_readNumber 44 = .ok (.iload_n 1, 1) := by decide +kernel
theorem dX3_readNumber_45 : decode cX3_readNumber 45 = .ok (.iconst 2, 1) := by decide +kernel
theorem dX3_readNumber_46 : decode cX3_readNumber 46 = .ok (.if_icmp .ne 12, 3) := by decide +kernel
theorem dX3_readNumber_49 : decode cX3_readNumber 49 = .ok (.iload_n 2, 1) := by decide +kernel
theorem dX3_readNumber_50 : decode cX3_readNumber 50 = .ok (.iconst 5, 1) := by decide +kernel
theorem dX3_readNumber_51 : decode cX3_readNumber 51 = .ok (.if_icmp .ne 7, 3) := by decide +kernel
theorem dX3_readNumber_54 : decode cX3_readNumber 54 = .ok (.iconst 0, 1) := by decide +kernel
theorem dX3_readNumber_55 : decode cX3_readNumber 55 = .ok (.goto 5, 3) := by decide +kernel
theorem dX3_readNumber_58 : decode cX3_readNumber 58 = .ok (.bipush 9, 2) := by decide +kernel
theorem dX3_readNumber_60 : decode cX3_readNumber 60 = .ok (.invokevirtual 31, 3) := by decide +kernel
theorem dX3_readNumber_63 : decode cX3_readNumber 63 = .ok (.istore_n 3, 1) := by decide +kernel
theorem dX3_readNumber_64 : decode cX3_readNumber 64 = .ok (.iload_n 3, 1) := by decide +kernel
theorem dX3_readNumber_65 : decode cX3_readNumber 65 = .ok (.bipush (-9), 2) := by decide +kernel
theorem dX3_readNumber_67 : decode cX3_readNumber 67 = .ok (.if_icmp .ne 8, 3) := by decide +kernel
theorem dX3_readNumber_70 : decode cX3_readNumber 70 = .ok (.bipush (-9), 2) := by decide +kernel
theorem dX3_readNumber_72 : decode cX3_readNumber 72 = .ok (.goto 14, 3) := by decide +kernel
theorem dX3_readNumber_75 : decode cX3_readNumber 75 = .ok (.bipush 100, 2) := by decide +kernel
theorem dX3_readNumber_77 : decode cX3_readNumber 77 = .ok (.iload_n 1, 1) := by decide +kernel
theorem dX3_readNumber_78 : decode cX3_readNumber 78 = .ok (.imul, 1) := by decide +kernel
theorem dX3_readNumber_79 : decode cX3_readNumber 79 = .ok (.bipush 10, 2) := by decide +kernel
theorem dX3_readNumber_81 : decode cX3_readNumber 81 = .ok (.iload_n 2, 1) := by decide +kernel
theorem dX3_readNumber_82 : decode cX3_readNumber 82 = .ok (.imul, 1) := by decide +kernel
theorem dX3_readNumber_83 : decode cX3_readNumber 83 = .ok (.iadd, 1) := by decide +kernel
theorem dX3_readNumber_84 : decode cX3_readNumber 84 = .ok (.iload_n 3, 1) := by decide +kernel
theorem dX3_readNumber_85 : decode cX3_readNumber 85 = .ok (.iadd, 1) := by decide +kernel
theorem dX3_readNumber_86 : decode cX3_readNumber 86 = .ok (.ireturn, 1) := by decide +kernel
theorem dX3_readRowLength_0 : decode cX3_readRowLength 0 = .ok (.aload_n 0, 1) := by decide +kernel
theorem dX3_readRowLength_1 : decode cX3_readRowLength 1 = .ok (.iconst 0, 1) := by decide +kernel
theorem dX3_readRowLength_2 : decode cX3_readRowLength 2 = .ok (.iconst 3, 1) := by decide +kernel
theorem dX3_readRowLength_3 : decode cX3_readRowLength 3 = .ok (.invokevirtual 31, 3) := by decide +kernel
theorem dX3_readRowLength_6 : decode cX3_readRowLength 6 = .ok (.istore_n 1, 1) := by decide +kernel
theorem dX3_readRowLength_7 : decode cX3_readRowLength 7 = .ok (.iload_n 1, 1) := by decide +kernel
theorem dX3_readRowLength_8 : decode cX3_readRowLength 8 = .ok (.bipush (-9), 2) := by decide +kernel
theorem dX3_readRowLength_10 : decode cX3_readRowLength 10 = .ok (.if_icmp .ne 6, 3) := by decide +kernel
theorem dX3_readRowLength_13 : decode cX3_readRowLength 13 = .ok (.bipush (-9), 2) := by decide +kernel
theorem dX3_readRowLength_15 : decode cX3_readRowLength 15 = .ok (.ireturn, 1) := by decide +kernel
theorem dX3_readRowLength_16 : decode cX3_readRowLength 16 = .ok (.aload_n 0, 1) := by decide +kernel
theorem dX3_readRowLength_17 : decode cX3_readRowLength 17 = .ok (.iload_n 1, 1) := by decide +kernel
theorem dX3_readRowLength_18 : decode cX3_readRowLength 18 = .ok (.ifCond .ne 7, 3) := by decide +kernel
theorem dX3_readRowLength_21 : decode cX3_readRowLength 21 = .ok (.iconst 1, 1) := by decide +kernel
theorem dX3_readRowLength_22 : decode cX3_readRowLength 22 = .ok (.goto 4, 3) := by decide +kernel
theorem dX3_readRowLength_25 : decode cX3_readRowLength 25 = .ok (.iconst 0, 1) := by decide +kernel
theorem dX3_readRowLength_26 : decode cX3_readRowLength 26 = .ok (.iload_n 1, 1) := by decide +kernel
theorem dX3_readRowLength_27 : decode cX3_readRowLength 27 = .ok (.iconst 3, 1) := by decide +kernel
theorem dX3_readRowLength_28 : decode cX3_readRowLength 28 = .ok (.if_icmp .ne 7, 3) := by decide +kernel
theorem dX3_readRowLength_31 : decode cX3_readRowLength 31 = .ok (.iconst 0, 1) := by decide +kernel
theorem dX3_readRowLength_32 : decode cX3_readRowLength 32 = .ok (.goto 5, 3) := by decide +kernel
theorem dX3_readRowLength_35 : decode cX3_readRowLength 35 = .ok (.bipush 9, 2) := by decide +kernel
theorem dX3_readRowLength_37 : decode cX3_readRowLength 37 = .ok (.invokevirtual 31, 3) := by decide +kernel
theorem dX3_readRowLength_40 : decode cX3_readRowLength 40 = .ok (.istore_n 2, 1) := by decide +kernel
theorem dX3_readRowLength_41 : decode cX3_readRowLength 41 = .ok (.iload_n 2, 1) := by decide +kernel
theorem dX3_readRowLength_42 : decode cX3_readRowLength 42 = .ok (.bipush (-9), 2) := by decide +kernel
theorem dX3_readRowLength_44 : decode cX3_readRowLength 44 = .ok (.if_icmp .ne 8, 3) := by decide +kernel
theorem dX3_readRowLength_47 : decode cX3_readRowLength 47 = .ok (.bipush (-9), 2) := by decide +kernel
theorem dX3_readRowLength_49 : decode cX3_readRowLength 49 = .ok (.goto 9, 3) := by decide +kernel
theorem dX3_readRowLength_52 : decode cX3_readRowLength 52 = .ok (.bipush 10, 2) := by decide +kernel
theorem dX3_readRowLength_54 : decode cX3_readRowLength 54 = .ok (.iload_n 1, 1) := by decide +kernel
theorem dX3_readRowLength_55 : decode cX3_readRowLength 55 = .ok (.imul, 1) := by decide +kernel
theorem dX3_readRowLength_56 : decode cX3_readRowLength 56 = .ok (.iload_n 2, 1) := by decide +kernel
theorem dX3_readRowLength_57 : decode cX3_readRowLength 57 = .ok (.iadd, 1) := by decide +kernel
theorem dX3_readRowLength_58 : decode cX3_readRowLength 58 = .ok (.ireturn, 1) := by decide +kernel
theorem dX3_readFigure_0 : decode cX3_readFigure 0 = .ok (.aload_n 0, 1) := by decide +kernel
theorem dX3_readFigure_1 : decode cX3_readFigure 1 = .ok (.invokevirtual 50, 3) := by decide +kernel
theorem dX3_readFigure_4 : decode cX3_readFigure 4 = .ok (.bipush 48, 2) := by decide +kernel
theorem dX3_readFigure_6 : decode cX3_readFigure 6 = .ok (.isub, 1) := by decide +kernel
theorem dX3_readFigure_7 : decode cX3_readFigure 7 = .ok (.istore_n 3, 1) := by decide +kernel
theorem dX3_readFigure_8 : decode cX3_readFigure 8 = .ok (.iload_n 3, 1) := by decide +kernel
theorem dX3_readFigure_9 : decode cX3_readFigure 9 = .ok (.iload_n 1, 1) := by decide +kernel
theorem dX3_readFigure_10 : decode cX3_readFigure 10 = .ok (.iload_n 2, 1) := by decide +kernel
theorem dX3_readFigure_11 : decode cX3_readFigure 11 = .ok (.invokestatic 77, 3) := by decide +kernel
theorem dX3_readFigure_14 : decode cX3_readFigure 14 = .ok (.ifCond .ne 6, 3) := by decide +kernel
theorem dX3_readFigure_17 : decode cX3_readFigure 17 = .ok (.bipush (-9), 2) := by decide +kernel
theorem dX3_readFigure_19 : decode cX3_readFigure 19 = .ok (.ireturn, 1) := by decide +kernel
theorem dX3_readFigure_20 : decode cX3_readFigure 20 = .ok (.aload_n 0, 1) := by decide +kernel
theorem dX3_readFigure_21 : decode cX3_readFigure 21 = .ok (.dup, 1) := by decide +kernel
theorem dX3_readFigure_22 : decode cX3_readFigure 22 = .ok (.getfield 19, 3) := by decide +kernel
theorem dX3_readFigure_25 : decode cX3_readFigure 25 = .ok (.iconst 1, 1) := by decide +kernel
theorem dX3_readFigure_26 : decode cX3_readFigure 26 = .ok (.iadd, 1) := by decide +kernel
theorem dX3_readFigure_27 : decode cX3_readFigure 27 = .ok (.putfield 19, 3) := by decide +kernel
theorem dX3_readFigure_30 : decode cX3_readFigure 30 = .ok (.iload_n 3, 1) := by decide +kernel
theorem dX3_readFigure_31 : decode cX3_readFigure 31 = .ok (.ireturn, 1) := by decide +kernel
theorem dJ7_fill_53178_0 : decode cJ7_fill_53178 0 = .ok (.iconst 0, 1) := by decide +kernel
theorem dJ7_fill_53178_1 : decode cJ7_fill_53178 1 = .ok (.istore_n 2, 1) := by decide +kernel
theorem dJ7_fill_53178_2 : decode cJ7_fill_53178 2 = .ok (.aload_n 0, 1) := by decide +kernel
theorem dJ7_fill_53178_3 : decode cJ7_fill_53178 3 = .ok (.arraylength, 1) := by decide +kernel
theorem dJ7_fill_53178_4 : decode cJ7_fill_53178 4 = .ok (.istore_n 3, 1) := by decide +kernel
theorem dJ7_fill_53178_5 : decode cJ7_fill_53178 5 = .ok (.iload_n 2, 1) := by decide +kernel
theorem dJ7_fill_53178_6 : decode cJ7_fill_53178 6 = .ok (.iload_n 3, 1) := by decide +kernel
theorem dJ7_fill_53178_7 : decode cJ7_fill_53178 7 = .ok (.if_icmp .ge 13, 3) := by decide +kernel
theorem dJ7_fill_53178_10 : decode cJ7_fill_53178 10 = .ok (.aload_n 0, 1) := by decide +kernel
theorem dJ7_fill_53178_11 : decode cJ7_fill_53178 11 = .ok (.iload_n 2, 1) := by decide +kernel
theorem dJ7_fill_53178_12 : decode cJ7_fill_53178 12 = .ok (.iload_n 1, 1) := by decide +kernel
theorem dJ7_fill_53178_13 : decode cJ7_fill_53178 13 = .ok (.iastore, 1) := by decide +kernel
theorem dJ7_fill_53178_14 : decode cJ7_fill_53178 14 = .ok (.iinc 2 1, 3) := by decide +kernel
theorem dJ7_fill_53178_17 : decode cJ7_fill_53178 17 = .ok (.goto (-12), 3) := by decide +kernel
theorem dJ7_fill_53178_20 : decode cJ7_fill_53178 20 = .ok (.return_, 1) := by decide +kernel
end
section
theorem dX4_init_0 : decode cX4_init 0 = .ok (.aload_n 0, 1) := by decide +kernel
theorem dX4_init_1 : decode cX4_init 1 = .ok (.invokespecial 1, 3) := by decide +kernel
theorem dX4_init_4 : decode cX4_init 4 = .ok (.aload_n 0, 1) := by decide +kernel
theorem dX4_init_5 : decode cX4_init 5 = .ok (.new 7, 3) := by decide +kernel
theorem dX4_init_8 : decode cX4_init 8 = .ok (.dup, 1) := by decide +kernel
theorem dX4_init_9 : decode cX4_init 9 = .ok (.invokespecial 9, 3) := by decide +kernel
theorem dX4_init_12 : decode cX4_init 12 = .ok (.putfield 10, 3) := by decide +kernel
theorem dX4_init_15 : decode cX4_init 15 = .ok (.aload_n 0, 1) := by decide +kernel
theorem dX4_init_16 : decode cX4_init 16 = .ok (.new 16, 3) := by decide +kernel
theorem dX4_init_19 : decode cX4_init 19 = .ok (.dup, 1) := by decide +kernel
theorem dX4_init_20 : decode cX4_init 20 = .ok (.invokespecial 18, 3) := by decide +kernel
theorem dX4_init_23 : decode cX4_init 23 = .ok (.putfield 19, 3) := by decide +kernel
theorem dX4_init_26 : decode cX4_init 26 = .ok (.aload_n 0, 1) := by decide +kernel
theorem dX4_init_27 : decode cX4_init 27 = .ok (.new 16, 3) := by decide +kernel
theorem dX4_init_30 : decode cX4_init 30 = .ok (.dup, 1) := by decide +kernel
theorem dX4_init_31 : decode cX4_init 31 = .ok (.invokespecial 18, 3) := by decide +kernel
theorem dX4_init_34 : decode cX4_init 34 = .ok (.putfield 23, 3) := by decide +kernel
theorem dX4_init_37 : decode cX4_init 37 = .ok (.aload_n 0, 1) := by decide +kernel
theorem dX4_init_38 : decode cX4_init 38 = .ok (.new 26, 3) := by decide +kernel
theorem dX4_init_41 : decode cX4_init 41 = .ok (.dup, 1) := by decide +kernel
theorem dX4_init_42 : decode cX4_init 42 = .ok (.invokespecial 28, 3) := by decide +kernel
theorem dX4_init_45 : decode cX4_init 45 = .ok (.putfield 29, 3) := by decide +kernel
theorem dX4_init_48 : decode cX4_init 48 = .ok (.aload_n 0, 1) := by decide +kernel
theorem dX4_init_49 : decode cX4_init 49 = .ok (.new 33, 3) := by decide +kernel
theorem dX4_init_52 : decode cX4_init 52 = .ok (.dup, 1) := by decide +kernel
theorem dX4_init_53 : decode cX4_init 53 = .ok (.invokespecial 35, 3) := by decide +kernel
theorem dX4_init_56 : decode cX4_init 56 = .ok (.putfield 36, 3) := by decide +kernel
theorem dX4_init_59 : decode cX4_init 59 = .ok (.aload_n 0, 1) := by decide +kernel
theorem dX4_init_60 : decode cX4_init 60 = .ok (.lconst 0, 1) := by decide +kernel
theorem dX4_init_61 : decode cX4_init 61 = .ok (.putfield 40, 3) := by decide +kernel
theorem dX4_init_64 : decode cX4_init 64 = .ok (.return_, 1) := by decide +kernel
theorem dX4_write_0 : decode cX4_write 0 = .ok (.iload_n 1, 1) := by decide +kernel
theorem dX4_write_1 : decode cX4_write 1 = .ok (.ifCond .lt 10, 3) := by decide +kernel
theorem dX4_write_4 : decode cX4_write 4 = .ok (.iload_n 1, 1) := by decide +kernel
theorem dX4_write_5 : decode cX4_write 5 = .ok (.sipush 255, 3) := by decide +kernel
theorem dX4_write_8 : decode cX4_write 8 = .ok (.if_icmp .le 6, 3) := by decide +kernel
theorem dX4_write_11 : decode cX4_write 11 = .ok (.bipush (-2), 2) := by decide +kernel
theorem dX4_write_13 : decode cX4_write 13 = .ok (.ireturn, 1) := by decide +kernel
theorem dX4_write_14 : decode cX4_write 14 = .ok (.aload_n 0, 1) := by decide +kernel
theorem dX4_write_15 : decode cX4_write 15 = .ok (.getfield 10, 3) := by decide +kernel
theorem dX4_write_18 : decode cX4_write 18 = .ok (.iload_n 1, 1) := by decide +kernel
theorem dX4_write_19 : decode cX4_write 19 = .ok (.invokevirtual 44, 3) := by decide +kernel
theorem dX4_write_22 : decode cX4_write 22 = .ok (.ifCond .eq 13, 3) := by decide +kernel
theorem dX4_write_25 : decode cX4_write 25 = .ok (.aload_n 0, 1) := by decide +kernel
theorem dX4_write_26 : decode cX4_write 26 = .ok (.getfield 10, 3) := by decide +kernel
theorem dX4_write_29 : decode cX4_write 29 = .ok (.getfield 48, 3) := by decide +kernel
theorem dX4_write_32 : decode cX4_write 32 = .ok (.goto 5, 3) := by decide +kernel
theorem dX4_write_35 : decode cX4_write 35 = .ok (.bipush (-4), 2) := by decide +kernel
theorem dX4_write_37 : decode cX4_write 37 = .ok (.ireturn, 1) := by decide +kernel
theorem dX4_wipe_0 : decode cX4_wipe 0 = .ok (.aload_n 0, 1) := by decide +kernel
theorem dX4_wipe_1 : decode cX4_wipe 1 = .ok (.getfield 10, 3) := by decide +kernel
theorem dX4_wipe_4 : decode cX4_wipe 4 = .ok (.getfield 48, 3) := by decide +kernel
theorem dX4_wipe_7 : decode cX4_wipe 7 = .ok (.istore_n 1, 1) := by decide +kernel
theorem dX4_wipe_8 : decode cX4_wipe 8 = .ok (.aload_n 0, 1) := by decide +kernel
theorem dX4_wipe_9 : decode cX4_wipe 9 = .ok (.getfield 10, 3) := by decide +kernel
theorem dX4_wipe_12 : decode cX4_wipe 12 = .ok (.iconst 0, 1) := by decide +kernel
theorem dX4_wipe_13 : decode cX4_wipe 13 = .ok (.putfield 48, 3) := by decide +kernel
theorem dX4_wipe_16 : decode cX4_wipe 16 = .ok (.iload_n 1, 1) := by decide +kernel
theorem dX4_wipe_17 : decode cX4_wipe 17 = .ok (.ireturn, 1) := by decide +kernel
theorem dX4_fault_0 : decode cX4_fault 0 = .ok (.aload_n 0, 1) := by decide +kernel
theorem dX4_fault_1 : decode cX4_fault 1 = .ok (.getfield 10, 3) := by decide +kernel
theorem dX4_fault_4 : decode cX4_fault 4 = .ok (.aload_n 0, 1) := by decide +kernel
theorem dX4_fault_5 : decode cX4_fault 5 = .ok (.getfield 23, 3) := by decide +kernel
theorem dX4_fault_8 : decode cX4_fault 8 = .ok (.invokevirtual 52, 3) := by decide +kernel
theorem dX4_fault_11 : decode cX4_fault 11 = .ok (.ireturn, 1) := by decide +kernel
theorem dX4_desk_0 : decode cX4_desk 0 = .ok (.aload_n 0, 1) := by decide +kernel
theorem dX4_desk_1 : decode cX4_desk 1 = .ok (.getfield 10, 3) := by decide +kernel
theorem dX4_desk_4 : decode cX4_desk 4 = .ok (.aload_n 0, 1) := by decide +kernel
theorem dX4_desk_5 : decode cX4_desk 5 = .ok (.getfield 23, 3) := by decide +kernel
theorem dX4_desk_8 : decode cX4_desk 8 = .ok (.invokevirtual 52, 3) := by decide +kernel
theorem dX4_desk_11 : decode cX4_desk 11 = .ok (.bipush (-9), 2) := by decide +kernel
theorem dX4_desk_13 : decode cX4_desk 13 = .ok (.if_icmp .eq 6, 3) := by decide +kernel
theorem dX4_desk_16 : decode cX4_desk 16 = .ok (.bipush (-3), 2) := by decide +kernel
theorem dX4_desk_18 : decode cX4_desk 18 = .ok (.ireturn, 1) := by decide +kernel
theorem dX4_desk_19 : decode cX4_desk 19 = .ok (.aload_n 0, 1) := by decide +kernel
theorem dX4_desk_20 : decode cX4_desk 20 = .ok (.getfield 19, 3) := by decide +kernel
theorem dX4_desk_23 : decode cX4_desk 23 = .ok (.aload_n 0, 1) := by decide +kernel
theorem dX4_desk_24 : decode cX4_desk 24 = .ok (.getfield 23, 3) := by decide +kernel
theorem dX4_desk_27 : decode cX4_desk 27 = .ok (.invokevirtual 56, 3) := by decide +kernel
theorem dX4_desk_30 : decode cX4_desk 30 = .ok (.aload_n 0, 1) := by decide +kernel
theorem dX4_desk_31 : decode cX4_desk 31 = .ok (.getfield 29, 3) := by decide +kernel
theorem dX4_desk_34 : decode cX4_desk 34 = .ok (.invokevirtual 60, 3) := by decide +kernel
theorem dX4_desk_37 : decode cX4_desk 37 = .ok (.aload_n 0, 1) := by decide +kernel
theorem dX4_desk_38 : decode cX4_desk 38 = .ok (.getfield 19, 3) := by decide +kernel
theorem dX4_desk_41 : decode cX4_desk 41 = .ok (.invokevirtual 63, 3) := by decide +kernel
theorem dX4_desk_44 : decode cX4_desk 44 = .ok (.ireturn, 1) := by decide +kernel
theorem dX4_user_0 : decode cX4_user 0 = .ok (.aload_n 0, 1) := by decide +kernel
theorem dX4_user_1 : decode cX4_user 1 = .ok (.getfield 19, 3) := by decide +kernel
theorem dX4_user_4 : decode cX4_user 4 = .ok (.iload_n 1, 1) := by decide +kernel
theorem dX4_user_5 : decode cX4_user 5 = .ok (.invokevirtual 67, 3) := by decide +kernel
theorem dX4_user_8 : decode cX4_user 8 = .ok (.ifCond .ne 5, 3) := by decide +kernel
theorem dX4_user_11 : decode cX4_user 11 = .ok (.iconst (-1), 1) := by decide +kernel
theorem dX4_user_12 : decode cX4_user 12 = .ok (.ireturn, 1) := by decide +kernel
theorem dX4_user_13 : decode cX4_user 13 = .ok (.iload_n 2, 1) := by decide +kernel
theorem dX4_user_14 : decode cX4_user 14 = .ok (.tableswitch 205 0 10 #[58, 68, 78, 88, 98, 108, 118, 135, 152, 161, 183], 58) := by decide +kernel
theorem dX4_user_72 : decode cX4_user 72 = .ok (.aload_n 0, 1) := by decide +kernel
theorem dX4_user_73 : decode cX4_user 73 = .ok (.getfield 19, 3) := by decide +kernel
theorem dX4_user_76 : decode cX4_user 76 = .ok (.iload_n 1, 1) := by decide +kernel
theorem dX4_user_77 : decode cX4_user 77 = .ok (.iconst 0, 1) := by decide +kernel
theorem dX4_user_78 : decode cX4_user 78 = .ok (.invokevirtual 70, 3) := by decide +kernel
theorem dX4_user_81 : decode cX4_user 81 = .ok (.ireturn, 1) := by decide +kernel
theorem dX4_user_82 : decode cX4_user 82 = .ok (.aload_n 0, 1) := by decide +kernel
theorem dX4_user_83 : decode cX4_user 83 = .ok (.getfield 19, 3) := by decide +kernel
theorem dX4_user_86 : decode cX4_user 86 = .ok (.iload_n 1, 1) := by decide +kernel
theorem dX4_user_87 : decode cX4_user 87 = .ok (.iconst 1, 1) := by decide +kernel
theorem dX4_user_88 : decode cX4_user 88 = .ok (.invokevirtual 70, 3) := by decide +kernel
theorem dX4_user_91 : decode cX4_user 91 = .ok (.ireturn, 1) := by decide +kernel
theorem dX4_user_92 : decode cX4_user 92 = .ok (.aload_n 0, 1) := by decide +kernel
theorem dX4_user_93 : decode cX4_user 93 = .ok (.getfield 19, 3) := by decide +kernel
theorem dX4_user_96 : decode cX4_user 96 = .ok (.iload_n 1, 1) := by decide +kernel
theorem dX4_user_97 : decode cX4_user 97 = .ok (.iconst 2, 1) := by decide +kernel
theorem dX4_user_98 : decode cX4_user 98 = .ok (.invokevirtual 70, 3) := by decide +kernel
theorem dX4_user_101 : decode cX4_user 101 = .ok (.ireturn, 1) := by decide +kernel
theorem dX4_user_102 : decode cX4_user 102 = .ok (.aload_n 0, 1) := by decide +kernel
theorem dX4_user_103 : decode cX4_user 103 = .ok (.getfield 19, 3) := by decide +kernel
theorem dX4_user_106 : decode cX4_user 106 = .ok (.iload_n 1, 1) := by decide +kernel
theorem dX4_user_107 : decode cX4_user 107 = .ok (.iconst 3, 1) := by decide +kernel
theorem dX4_user_108 : decode cX4_user 108 = .ok (.invokevirtual 70, 3) := by decide +kernel
theorem dX4_user_111 : decode cX4_user 111 = .ok (.ireturn, 1) := by decide +kernel
theorem dX4_user_112 : decode cX4_user 112 = .ok (.aload_n 0, 1) := by decide +kernel
theorem dX4_user_113 : decode cX4_user 113 = .ok (.getfield 19, 3) := by decide +kernel
theorem dX4_user_116 : decode cX4_user 116 = .ok (.iload_n 1, 1) := by decide +kernel
theorem dX4_user_117 : decode cX4_user 117 = .ok (.iconst 4, 1) := by decide +kernel
theorem dX4_user_118 : decode cX4_user 118 = .ok (.invokevirtual 70, 3) := by decide +kernel
theorem dX4_user_121 : decode cX4_user 121 = .ok (.ireturn, 1) := by decide +kernel
theorem dX4_user_122 : decode cX4_user 122 = .ok (.aload_n 0, 1) := by decide +kernel
theorem dX4_user_123 : decode cX4_user 123 = .ok (.getfield 19, 3) := by decide +kernel
theorem dX4_user_126 : decode cX4_user 126 = .ok (.iload_n 1, 1) := by decide +kernel
theorem dX4_user_127 : decode cX4_user 127 = .ok (.iconst 5, 1) := by decide +kernel
theorem dX4_user_128 : decode cX4_user 128 = .ok (.invokevirtual 70, 3) := by decide +kernel
theorem dX4_user_131 : decode cX4_user 131 = .ok (.ireturn, 1) := by decide +kernel
theorem dX4_user_132 : decode cX4_user 132 = .ok (.aload_n 0, 1) := by decide +kernel
theorem dX4_user_133 : decode cX4_user 133 = .ok (.getfield 19, 3) := by decide +kernel
theorem dX4_user_136 : decode cX4_user 136 = .ok (.iload_n 1, 1) := by decide +kernel
theorem dX4_user_137 : decode cX4_user 137 = .ok (.invokevirtual 74, 3) := by decide +kernel
theorem dX4_user_140 : decode cX4_user 140 = .ok (.ifCond .eq 7, 3) := by decide +kernel
theorem dX4_user_143 : decode cX4_user 143 = .ok (.iconst 1, 1) := by decide +kernel
theorem dX4_user_144 : decode cX4_user 144 = .ok (.goto 4, 3) := by decide +kernel
theorem dX4_user_147 : decode cX4_user 147 = .ok (.iconst 0, 1) := by decide +kernel
theorem dX4_user_148 : decode cX4_user 148 = .ok (.ireturn, 1) := by decide +kernel
theorem dX4_user_149 : decode cX4_user 149 = .ok (.aload_n 0, 1) := by decide +kernel
theorem dX4_user_150 : decode cX4_user 150 = .ok (.getfield 19, 3) := by decide +kernel
theorem dX4_user_153 : decode cX4_user 153 = .ok (.iload_n 1, 1) := by decide +kernel
theorem dX4_user_154 : decode cX4_user 154 = .ok (.invokevirtual 77, 3) := by decide +kernel
theorem dX4_user_157 : decode cX4_user 157 = .ok (.ifCond .eq 7, 3) := by decide +kernel
theorem dX4_user_160 : decode cX4_user 160 = .ok (.iconst 1, 1) := by decide +kernel
theorem dX4_user_161 : decode cX4_user 161 = .ok (.goto 4, 3) := by decide +kernel
theorem dX4_user_164 : decode cX4_user 164 = .ok (.iconst 0, 1) := by decide +kernel
theorem dX4_user_165 : decode cX4_user 165 = .ok (.ireturn, 1) := by decide +kernel
theorem dX4_user_166 : decode cX4_user 166 = .ok (.aload_n 0, 1) := by decide +kernel
theorem dX4_user_167 : decode cX4_user 167 = .ok (.getfield 19, 3) := by decide +kernel
theorem dX4_user_170 : decode cX4_user 170 = .ok (.iload_n 1, 1) := by decide +kernel
theorem dX4_user_171 : decode cX4_user 171 = .ok (.invokevirtual 80, 3) := by decide +kernel
theorem dX4_user_174 : decode cX4_user 174 = .ok (.ireturn, 1) := by decide +kernel
theorem dX4_user_175 : decode cX4_user 175 = .ok (.aload_n 0, 1) := by decide +kernel
theorem dX4_user_176 : decode cX4_user 176 = .ok (.getfield 19, 3) := by decide +kernel
theorem dX4_user_179 : decode cX4_user 179 = .ok (.iload_n 1, 1) := by decide +kernel
theorem dX4_user_180 : decode cX4_user 180 = .ok (.iconst 0, 1) := by decide +kernel
theorem dX4_user_181 : decode cX4_user 181 = .ok (.invokevirtual 70, 3) := by decide +kernel
theorem dX4_user_184 : decode cX4_user 184 = .ok (.aload_n 0, 1) := by decide +kernel
theorem dX4_user_185 : decode cX4_user 185 = .ok (.getfield 19, 3) := by decide +kernel
theorem dX4_user_188 : decode cX4_user 188 = .ok (.iload_n 1, 1) := by decide +kernel
theorem dX4_user_189 : decode cX4_user 189 = .ok (.iconst 1, 1) := by decide +kernel
theorem dX4_user_190 : decode cX4_user 190 = .ok (.invokevirtual 70, 3) := by decide +kernel
theorem dX4_user_193 : decode cX4_user 193 = .ok (.invokestatic 84, 3) := by decide +kernel
theorem dX4_user_196 : decode cX4_user 196 = .ok (.ireturn, 1) := by decide +kernel
theorem dX4_user_197 : decode cX4_user 197 = .ok (.aload_n 0, 1) := by decide +kernel
theorem dX4_user_198 : decode cX4_user 198 = .ok (.getfield 19, 3) := by decide +kernel
theorem dX4_user_201 : decode cX4_user 201 = .ok (.iload_n 1, 1) := by decide +kernel
theorem dX4_user_202 : decode cX4_user 202 = .ok (.iconst 0, 1) := by decide +kernel
theorem dX4_user_203 : decode cX4_user 203 = .ok (.invokevirtual 70, 3) := by decide +kernel
theorem dX4_user_206 : decode cX4_user 206 = .ok (.aload_n 0, 1) := by decide +kernel
theorem dX4_user_207 : decode cX4_user 207 = .ok (.getfield 19, 3) := by decide +kernel
theorem dX4_user_210 : decode cX4_user 210 = .ok (.iload_n 1, 1) := by decide +kernel
theorem dX4_user_211 : decode cX4_user 211 = .ok (.iconst 1, 1) := by decide +kernel
theorem dX4_user_212 : decode cX4_user 212 = .ok (.invokevirtual 70, 3) := by decide +kernel
theorem dX4_user_215 : decode cX4_user 215 = .ok (.invokestatic 87, 3) := by decide +kernel
theorem dX4_user_218 : decode cX4_user 218 = .ok (.ireturn, 1) := by decide +kernel
theorem dX4_user_219 : decode cX4_user 219 = .ok (.bipush (-2), 2) := by decide +kernel
theorem dX4_user_221 : decode cX4_user 221 = .ok (.ireturn, 1) := by decide +kernel
theorem dX4_pass_0 : decode cX4_pass 0 = .ok (.aload_n 0, 1) := by decide +kernel
theorem dX4_pass_1 : decode cX4_pass 1 = .ok (.getfield 19, 3) := by decide +kernel
theorem dX4_pass_4 : decode cX4_pass 4 = .ok (.iload_n 1, 1) := by decide +kernel
theorem dX4_pass_5 : decode cX4_pass 5 = .ok (.invokevirtual 67, 3) := by decide +kernel
theorem dX4_pass_8 : decode cX4_pass 8 = .ok (.ifCond .ne 5, 3) := by decide +kernel
theorem dX4_pass_11 : decode cX4_pass 11 = .ok (.iconst (-1), 1) := by decide +kernel
theorem dX4_pass_12 : decode cX4_pass 12 = .ok (.ireturn, 1) := by decide +kernel
theorem dX4_pass_13 : decode cX4_pass 13 = .ok (.iload_n 2, 1) := by decide +kernel
theorem dX4_pass_14 : decode cX4_pass 14 = .ok (.ifCond .lt 28, 3) := by decide +kernel
theorem dX4_pass_17 : decode cX4_pass 17 = .ok (.iload_n 2, 1) := by decide +kernel
theorem dX4_pass_18 : decode cX4_pass 18 = .ok (.aload_n 0, 1) := by decide +kernel
theorem dX4_pass_19 : decode cX4_pass 19 = .ok (.getfield 19, 3) := by decide +kernel
theorem dX4_pass_22 : decode cX4_pass 22 = .ok (.iload_n 1, 1) := by decide +kernel
theorem dX4_pass_23 : decode cX4_pass 23 = .ok (.iconst 2, 1) := by decide +kernel
theorem dX4_pass_24 : decode cX4_pass 24 = .ok (.invokevirtual 70, 3) := by decide +kernel
theorem dX4_pass_27 : decode cX4_pass 27 = .ok (.if_icmp .ge 15, 3) := by decide +kernel
theorem dX4_pass_30 : decode cX4_pass 30 = .ok (.aload_n 0, 1) := by decide +kernel
theorem dX4_pass_31 : decode cX4_pass 31 = .ok (.getfield 19, 3) := by decide +kernel
theorem dX4_pass_34 : decode cX4_pass 34 = .ok (.iload_n 1, 1) := by decide +kernel
theorem dX4_pass_35 : decode cX4_pass 35 = .ok (.iload_n 2, 1) := by decide +kernel
theorem dX4_pass_36 : decode cX4_pass 36 = .ok (.invokevirtual 90, 3) := by decide +kernel
theorem dX4_pass_39 : decode cX4_pass 39 = .ok (.goto 5, 3) := by decide +kernel
theorem dX4_pass_42 : decode cX4_pass 42 = .ok (.bipush (-9), 2) := by decide +kernel
theorem dX4_pass_44 : decode cX4_pass 44 = .ok (.ireturn, 1) := by decide +kernel
theorem dX4_behind_0 : decode cX4_behind 0 = .ok (.iload_n 1, 1) := by decide +kernel
theorem dX4_behind_1 : decode cX4_behind 1 = .ok (.invokestatic 93, 3) := by decide +kernel
theorem dX4_behind_4 : decode cX4_behind 4 = .ok (.ifCond .eq 20, 3) := by decide +kernel
theorem dX4_behind_7 : decode cX4_behind 7 = .ok (.iload_n 2, 1) := by decide +kernel
theorem dX4_behind_8 : decode cX4_behind 8 = .ok (.invokestatic 93, 3) := by decide +kernel
theorem dX4_behind_11 : decode cX4_behind 11 = .ok (.ifCond .eq 13, 3) := by decide +kernel
theorem dX4_behind_14 : decode cX4_behind 14 = .ok (.iload_n 3, 1) := by decide +kernel
theorem dX4_behind_15 : decode cX4_behind 15 = .ok (.iconst 0, 1) := by decide +kernel
theorem dX4_behind_16 : decode cX4_behind 16 = .ok (.bipush 99, 2) := by decide +kernel
theorem dX4_behind_18 : decode cX4_behind 18 = .ok (.invokestatic 96, 3) := by decide +kernel
theorem dX4_behind_21 : decode cX4_behind 21 = .ok (.ifCond .ne 6, 3) := by decide +kernel
theorem dX4_behind_24 : decode cX4_behind 24 = .ok (.bipush (-2), 2) := by decide +kernel
theorem dX4_behind_26 : decode cX4_behind 26 = .ok (.ireturn, 1) := by decide +kernel
theorem dX4_behind_27 : decode cX4_behind 27 = .ok (.iload_n 1, 1) := by decide +kernel
theorem dX4_behind_28 : decode cX4_behind 28 = .ok (.iload_n 2, 1) := by decide +kernel
theorem dX4_behind_29 : decode cX4_behind 29 = .ok (.iload_n 3, 1) := by decide +kernel
theorem dX4_behind_30 : decode cX4_behind 30 = .ok (.invokestatic 100, 3) := by decide +kernel
theorem dX4_behind_33 : decode cX4_behind 33 = .ok (.ireturn, 1) := by decide +kernel
theorem dX4_send_0 : decode cX4_send 0 = .ok (.aload_n 0, 1) := by decide +kernel
theorem dX4_send_1 : decode cX4_send 1 = .ok (.getfield 19, 3) := by decide +kernel
theorem dX4_send_4 : decode cX4_send 4 = .ok (.iload_n 1, 1) := by decide +kernel
theorem dX4_send_5 : decode cX4_send 5 = .ok (.invokevirtual 67, 3) := by decide +kernel
theorem dX4_send_8 : decode cX4_send 8 = .ok (.ifCond .ne 5, 3) := by decide +kernel
theorem dX4_send_11 : decode cX4_send 11 = .ok (.iconst (-1), 1) := by decide +kernel
theorem dX4_send_12 : decode cX4_send 12 = .ok (.ireturn, 1) := by decide +kernel
theorem dX4_send_13 : decode cX4_send 13 = .ok (.aload_n 0, 1) := by decide +kernel
theorem dX4_send_14 : decode cX4_send 14 = .ok (.getfield 19, 3) := by decide +kernel
theorem dX4_send_17 : decode cX4_send 17 = .ok (.iload_n 1, 1) := by decide +kernel
theorem dX4_send_18 : decode cX4_send 18 = .ok (.invokevirtual 104, 3) := by decide +kernel
theorem dX4_send_21 : decode cX4_send 21 = .ok (.ifCond .ne 6, 3) := by decide +kernel
theorem dX4_send_24 : decode cX4_send 24 = .ok (.bipush (-3), 2) := by decide +kernel
theorem dX4_send_26 : decode cX4_send 26 = .ok (.ireturn, 1) := by decide +kernel
theorem dX4_send_27 : decode cX4_send 27 = .ok (.aload_n 0, 1) := by decide +kernel
theorem dX4_send_28 : decode cX4_send 28 = .ok (.getfield 29, 3) := by decide +kernel
theorem dX4_send_31 : decode cX4_send 31 = .ok (.aload_n 0, 1) := by decide +kernel
theorem dX4_send_32 : decode cX4_send 32 = .ok (.getfield 19, 3) := by decide +kernel
theorem dX4_send_35 : decode cX4_send 35 = .ok (.invokevirtual 107, 3) := by decide +kernel
theorem dX4_send_38 : decode cX4_send 38 = .ok (.aload_n 0, 1) := by decide +kernel
theorem dX4_send_39 : decode cX4_send 39 = .ok (.getfield 19, 3) := by decide +kernel
theorem dX4_send_42 : decode cX4_send 42 = .ok (.iload_n 1, 1) := by decide +kernel
theorem dX4_send_43 : decode cX4_send 43 = .ok (.invokevirtual 110, 3) := by decide +kernel
theorem dX4_send_46 : decode cX4_send 46 = .ok (.ireturn, 1) := by decide +kernel
theorem dX4_miss_0 : decode cX4_miss 0 = .ok (.aload_n 0, 1) := by decide +kernel
theorem dX4_miss_1 : decode cX4_miss 1 = .ok (.getfield 19, 3) := by decide +kernel
theorem dX4_miss_4 : decode cX4_miss 4 = .ok (.iload_n 1, 1) := by decide +kernel
theorem dX4_miss_5 : decode cX4_miss 5 = .ok (.invokevirtual 67, 3) := by decide +kernel
theorem dX4_miss_8 : decode cX4_miss 8 = .ok (.ifCond .ne 5, 3) := by decide +kernel
theorem dX4_miss_11 : decode cX4_miss 11 = .ok (.iconst (-1), 1) := by decide +kernel
theorem dX4_miss_12 : decode cX4_miss 12 = .ok (.ireturn, 1) := by decide +kernel
theorem dX4_miss_13 : decode cX4_miss 13 = .ok (.aload_n 0, 1) := by decide +kernel
theorem dX4_miss_14 : decode cX4_miss 14 = .ok (.getfield 19, 3) := by decide +kernel
theorem dX4_miss_17 : decode cX4_miss 17 = .ok (.iload_n 1, 1) := by decide +kernel
theorem dX4_miss_18 : decode cX4_miss 18 = .ok (.invokevirtual 104, 3) := by decide +kernel
theorem dX4_miss_21 : decode cX4_miss 21 = .ok (.ifCond .ne 6, 3) := by decide +kernel
theorem dX4_miss_24 : decode cX4_miss 24 = .ok (.bipush (-3), 2) := by decide +kernel
theorem dX4_miss_26 : decode cX4_miss 26 = .ok (.ireturn, 1) := by decide +kernel
theorem dX4_miss_27 : decode cX4_miss 27 = .ok (.aload_n 0, 1) := by decide +kernel
theorem dX4_miss_28 : decode cX4_miss 28 = .ok (.getfield 29, 3) := by decide +kernel
theorem dX4_miss_31 : decode cX4_miss 31 = .ok (.aload_n 0, 1) := by decide +kernel
theorem dX4_miss_32 : decode cX4_miss 32 = .ok (.getfield 19, 3) := by decide +kernel
theorem dX4_miss_35 : decode cX4_miss 35 = .ok (.invokevirtual 107, 3) := by decide +kernel
theorem dX4_miss_38 : decode cX4_miss 38 = .ok (.aload_n 0, 1) := by decide +kernel
theorem dX4_miss_39 : decode cX4_miss 39 = .ok (.getfield 19, 3) := by decide +kernel
theorem dX4_miss_42 : decode cX4_miss 42 = .ok (.iload_n 1, 1) := by decide +kernel
theorem dX4_miss_43 : decode cX4_miss 43 = .ok (.invokevirtual 113, 3) := by decide +kernel
theorem dX4_miss_46 : decode cX4_miss 46 = .ok (.pop, 1) := by decide +kernel
theorem dX4_miss_47 : decode cX4_miss 47 = .ok (.aload_n 0, 1) := by decide +kernel
theorem dX4_miss_48 : decode cX4_miss 48 = .ok (.getfield 19, 3) := by decide +kernel
theorem dX4_miss_51 : decode cX4_miss 51 = .ok (.iload_n 1, 1) := by decide +kernel
theorem dX4_miss_52 : decode cX4_miss 52 = .ok (.iconst 3, 1) := by decide +kernel
theorem dX4_miss_53 : decode cX4_miss 53 = .ok (.invokevirtual 70, 3) := by decide +kernel
theorem dX4_miss_56 : decode cX4_miss 56 = .ok (.ireturn, 1) := by decide +kernel
theorem dX4_attempt_0 : decode cX4_attempt 0 = .ok (.aload_n 0, 1) := by decide +kernel
theorem dX4_attempt_1 : decode cX4_attempt 1 = .ok (.getfield 19, 3) := by decide +kernel
theorem dX4_attempt_4 : decode cX4_attempt 4 = .ok (.iload_n 1, 1) := by decide +kernel
theorem dX4_attempt_5 : decode cX4_attempt 5 = .ok (.invokevirtual 67, 3) := by decide +kernel
theorem dX4_attempt_8 : decode cX4_attempt 8 = .ok (.ifCond .ne 5, 3) := by decide +kernel
theorem dX4_attempt_11 : decode cX4_attempt 11 = .ok (.iconst (-1), 1) := by decide +kernel
theorem dX4_attempt_12 : decode cX4_attempt 12 = .ok (.ireturn, 1) := by decide +kernel
theorem dX4_attempt_13 : decode cX4_attempt 13 = .ok (.iload_n 2, 1) := by decide +kernel
theorem dX4_attempt_14 : decode cX4_attempt 14 = .ok (.invokestatic 93, 3) := by decide +kernel
theorem dX4_attempt_17 : decode cX4_attempt 17 = .ok (.ifCond .ne 6, 3) := by decide +kernel
theorem dX4_attempt_20 : decode cX4_attempt 20 = .ok (.bipush (-2), 2) := by decide +kernel
theorem dX4_attempt_22 : decode cX4_attempt 22 = .ok (.ireturn, 1) := by decide +kernel
theorem dX4_attempt_23 : decode cX4_attempt 23 = .ok (.aload_n 0, 1) := by decide +kernel
theorem dX4_attempt_24 : decode cX4_attempt 24 = .ok (.getfield 29, 3) := by decide +kernel
theorem dX4_attempt_27 : decode cX4_attempt 27 = .ok (.aload_n 0, 1) := by decide +kernel
theorem dX4_attempt_28 : decode cX4_attempt 28 = .ok (.getfield 19, 3) := by decide +kernel
theorem dX4_attempt_31 : decode cX4_attempt 31 = .ok (.invokevirtual 107, 3) := by decide +kernel
theorem dX4_attempt_34 : decode cX4_attempt 34 = .ok (.aload_n 0, 1) := by decide +kernel
theorem dX4_attempt_35 : decode cX4_attempt 35 = .ok (.getfield 19, 3) := by decide +kernel
theorem dX4_attempt_38 : decode cX4_attempt 38 = .ok (.iload_n 1, 1) := by decide +kernel
theorem dX4_attempt_39 : decode cX4_attempt 39 = .ok (.iload_n 2, 1) := by decide +kernel
theorem dX4_attempt_40 : decode cX4_attempt 40 = .ok (.invokevirtual 116, 3) := by decide +kernel
theorem dX4_attempt_43 : decode cX4_attempt 43 = .ok (.ireturn, 1) := by decide +kernel
theorem dX4_hear_0 : decode cX4_hear 0 = .ok (.aload_n 0, 1) := by decide +kernel
theorem dX4_hear_1 : decode cX4_hear 1 = .ok (.getfield 19, 3) := by decide +kernel
theorem dX4_hear_4 : decode cX4_hear 4 = .ok (.invokevirtual 119, 3) := by decide +kernel
theorem dX4_hear_7 : decode cX4_hear 7 = .ok (.bipush (-9), 2) := by decide +kernel
theorem dX4_hear_9 : decode cX4_hear 9 = .ok (.if_icmp .ne 6, 3) := by decide +kernel
theorem dX4_hear_12 : decode cX4_hear 12 = .ok (.bipush (-3), 2) := by decide +kernel
theorem dX4_hear_14 : decode cX4_hear 14 = .ok (.ireturn, 1) := by decide +kernel
theorem dX4_hear_15 : decode cX4_hear 15 = .ok (.aload_n 0, 1) := by decide +kernel
theorem dX4_hear_16 : decode cX4_hear 16 = .ok (.getfield 19, 3) := by decide +kernel
theorem dX4_hear_19 : decode cX4_hear 19 = .ok (.invokevirtual 122, 3) := by decide +kernel
theorem dX4_hear_22 : decode cX4_hear 22 = .ok (.bipush 8, 2) := by decide +kernel
theorem dX4_hear_24 : decode cX4_hear 24 = .ok (.if_icmp .lt 6, 3) := by decide +kernel
theorem dX4_hear_27 : decode cX4_hear 27 = .ok (.bipush (-4), 2) := by decide +kernel
theorem dX4_hear_29 : decode cX4_hear 29 = .ok (.ireturn, 1) := by decide +kernel
theorem dX4_hear_30 : decode cX4_hear 30 = .ok (.aload_n 0, 1) := by decide +kernel
theorem dX4_hear_31 : decode cX4_hear 31 = .ok (.getfield 29, 3) := by decide +kernel
theorem dX4_hear_34 : decode cX4_hear 34 = .ok (.aload_n 0, 1) := by decide +kernel
theorem dX4_hear_35 : decode cX4_hear 35 = .ok (.getfield 19, 3) := by decide +kernel
theorem dX4_hear_38 : decode cX4_hear 38 = .ok (.invokevirtual 107, 3) := by decide +kernel
theorem dX4_hear_41 : decode cX4_hear 41 = .ok (.aload_n 0, 1) := by decide +kernel
theorem dX4_hear_42 : decode cX4_hear 42 = .ok (.getfield 19, 3) := by decide +kernel
theorem dX4_hear_45 : decode cX4_hear 45 = .ok (.invokevirtual 125, 3) := by decide +kernel
theorem dX4_hear_48 : decode cX4_hear 48 = .ok (.aload_n 0, 1) := by decide +kernel
theorem dX4_hear_49 : decode cX4_hear 49 = .ok (.getfield 19, 3) := by decide +kernel
theorem dX4_hear_52 : decode cX4_hear 52 = .ok (.invokevirtual 119, 3) := by decide +kernel
theorem dX4_hear_55 : decode cX4_hear 55 = .ok (.invokestatic 128, 3) := by decide +kernel
theorem dX4_hear_58 : decode cX4_hear 58 = .ok (.ireturn, 1) := by decide +kernel
theorem dX4_renew_0 : decode cX4_renew 0 = .ok (.aload_n 0, 1) := by decide +kernel
theorem dX4_renew_1 : decode cX4_renew 1 = .ok (.getfield 19, 3) := by decide +kernel
theorem dX4_renew_4 : decode cX4_renew 4 = .ok (.iload_n 1, 1) := by decide +kernel
theorem dX4_renew_5 : decode cX4_renew 5 = .ok (.invokevirtual 67, 3) := by decide +kernel
theorem dX4_renew_8 : decode cX4_renew 8 = .ok (.ifCond .ne 5, 3) := by decide +kernel
theorem dX4_renew_11 : decode cX4_renew 11 = .ok (.iconst (-1), 1) := by decide +kernel
theorem dX4_renew_12 : decode cX4_renew 12 = .ok (.ireturn, 1) := by decide +kernel
theorem dX4_renew_13 : decode cX4_renew 13 = .ok (.iload_n 2, 1) := by decide +kernel
theorem dX4_renew_14 : decode cX4_renew 14 = .ok (.invokestatic 93, 3) := by decide +kernel
theorem dX4_renew_17 : decode cX4_renew 17 = .ok (.ifCond .eq 21, 3) := by decide +kernel
theorem dX4_renew_20 : decode cX4_renew 20 = .ok (.iload_n 3, 1) := by decide +kernel
theorem dX4_renew_21 : decode cX4_renew 21 = .ok (.invokestatic 93, 3) := by decide +kernel
theorem dX4_renew_24 : decode cX4_renew 24 = .ok (.ifCond .eq 14, 3) := by decide +kernel
theorem dX4_renew_27 : decode cX4_renew 27 = .ok (.iload 4, 2) := by decide +kernel
theorem dX4_renew_29 : decode cX4_renew 29 = .ok (.iconst 1, 1) := by decide +kernel
theorem dX4_renew_30 : decode cX4_renew 30 = .ok (.bipush 30, 2) := by decide +kernel
theorem dX4_renew_32 : decode cX4_renew 32 = .ok (.invokestatic 96, 3) := by decide +kernel
theorem dX4_renew_35 : decode cX4_renew 35 = .ok (.ifCond .ne 6, 3) := by decide +kernel
theorem dX4_renew_38 : decode cX4_renew 38 = .ok (.bipush (-2), 2) := by decide +kernel
theorem dX4_renew_40 : decode cX4_renew 40 = .ok (.ireturn, 1) := by decide +kernel
theorem dX4_renew_41 : decode cX4_renew 41 = .ok (.aload_n 0, 1) := by decide +kernel
theorem dX4_renew_42 : decode cX4_renew 42 = .ok (.getfield 19, 3) := by decide +kernel
theorem dX4_renew_45 : decode cX4_renew 45 = .ok (.iload_n 1, 1) := by decide +kernel
theorem dX4_renew_46 : decode cX4_renew 46 = .ok (.invokevirtual 104, 3) := by decide +kernel
theorem dX4_renew_49 : decode cX4_renew 49 = .ok (.ifCond .ne 6, 3) := by decide +kernel
theorem dX4_renew_52 : decode cX4_renew 52 = .ok (.bipush (-3), 2) := by decide +kernel
theorem dX4_renew_54 : decode cX4_renew 54 = .ok (.ireturn, 1) := by decide +kernel
theorem dX4_renew_55 : decode cX4_renew 55 = .ok (.aload_n 0, 1) := by decide +kernel
theorem dX4_renew_56 : decode cX4_renew 56 = .ok (.getfield 29, 3) := by decide +kernel
theorem dX4_renew_59 : decode cX4_renew 59 = .ok (.aload_n 0, 1) := by decide +kernel
theorem dX4_renew_60 : decode cX4_renew 60 = .ok (.getfield 19, 3) := by decide +kernel
theorem dX4_renew_63 : decode cX4_renew 63 = .ok (.invokevirtual 107, 3) := by decide +kernel
theorem dX4_renew_66 : decode cX4_renew 66 = .ok (.aload_n 0, 1) := by decide +kernel
theorem dX4_renew_67 : decode cX4_renew 67 = .ok (.getfield 19, 3) := by decide +kernel
theorem dX4_renew_70 : decode cX4_renew 70 = .ok (.iload_n 1, 1) := by decide +kernel
theorem dX4_renew_71 : decode cX4_renew 71 = .ok (.invokevirtual 110, 3) := by decide +kernel
theorem dX4_renew_74 : decode cX4_renew 74 = .ok (.istore 5, 2) := by decide +kernel
theorem dX4_renew_76 : decode cX4_renew 76 = .ok (.iload 5, 2) := by decide +kernel
theorem dX4_renew_78 : decode cX4_renew 78 = .ok (.ifCond .le 15, 3) := by decide +kernel
theorem dX4_renew_81 : decode cX4_renew 81 = .ok (.aload_n 0, 1) := by decide +kernel
theorem dX4_renew_82 : decode cX4_renew 82 = .ok (.getfield 19, 3) := by decide +kernel
theorem dX4_renew_85 : decode cX4_renew 85 = .ok (.iload_n 1, 1) := by decide +kernel
theorem dX4_renew_86 : decode cX4_renew 86 = .ok (.iload_n 2, 1) := by decide +kernel
theorem dX4_renew_87 : decode cX4_renew 87 = .ok (.iload_n 3, 1) := by decide +kernel
theorem dX4_renew_88 : decode cX4_renew 88 = .ok (.iload 4, 2) := by decide +kernel
theorem dX4_renew_90 : decode cX4_renew 90 = .ok (.invokevirtual 131, 3) := by decide +kernel
theorem dX4_renew_93 : decode cX4_renew 93 = .ok (.iload 5, 2) := by decide +kernel
theorem dX4_renew_95 : decode cX4_renew 95 = .ok (.ireturn, 1) := by decide +kernel
theorem dX4_widen_0 : decode cX4_widen 0 = .ok (.iload_n 1, 1) := by decide +kernel
theorem dX4_widen_1 : decode cX4_widen 1 = .ok (.iconst 1, 1) := by decide +kernel
theorem dX4_widen_2 : decode cX4_widen 2 = .ok (.bipush 6, 2) := by decide +kernel
theorem dX4_widen_4 : decode cX4_widen 4 = .ok (.invokestatic 96, 3) := by decide +kernel
theorem dX4_widen_7 : decode cX4_widen 7 = .ok (.ifCond .ne 6, 3) := by decide +kernel
theorem dX4_widen_10 : decode cX4_widen 10 = .ok (.bipush (-2), 2) := by decide +kernel
theorem dX4_widen_12 : decode cX4_widen 12 = .ok (.ireturn, 1) := by decide +kernel
theorem dX4_widen_13 : decode cX4_widen 13 = .ok (.aload_n 0, 1) := by decide +kernel
theorem dX4_widen_14 : decode cX4_widen 14 = .ok (.getfield 29, 3) := by decide +kernel
theorem dX4_widen_17 : decode cX4_widen 17 = .ok (.aload_n 0, 1) := by decide +kernel
theorem dX4_widen_18 : decode cX4_widen 18 = .ok (.getfield 19, 3) := by decide +kernel
theorem dX4_widen_21 : decode cX4_widen 21 = .ok (.invokevirtual 107, 3) := by decide +kernel
theorem dX4_widen_24 : decode cX4_widen 24 = .ok (.aload_n 0, 1) := by decide +kernel
theorem dX4_widen_25 : decode cX4_widen 25 = .ok (.getfield 19, 3) := by decide +kernel
theorem dX4_widen_28 : decode cX4_widen 28 = .ok (.invokevirtual 135, 3) := by decide +kernel
theorem dX4_widen_31 : decode cX4_widen 31 = .ok (.istore_n 2, 1) := by decide +kernel
theorem dX4_widen_32 : decode cX4_widen 32 = .ok (.aload_n 0, 1) := by decide +kernel
theorem dX4_widen_33 : decode cX4_widen 33 = .ok (.getfield 19, 3) := by decide +kernel
theorem dX4_widen_36 : decode cX4_widen 36 = .ok (.iload_n 1, 1) := by decide +kernel
theorem dX4_widen_37 : decode cX4_widen 37 = .ok (.invokevirtual 138, 3) := by decide +kernel
theorem dX4_widen_40 : decode cX4_widen 40 = .ok (.iload_n 2, 1) := by decide +kernel
theorem dX4_widen_41 : decode cX4_widen 41 = .ok (.ireturn, 1) := by decide +kernel
theorem dX4_undo_0 : decode cX4_undo 0 = .ok (.aload_n 0, 1) := by decide +kernel
theorem dX4_undo_1 : decode cX4_undo 1 = .ok (.getfield 29, 3) := by decide +kernel
theorem dX4_undo_4 : decode cX4_undo 4 = .ok (.aload_n 0, 1) := by decide +kernel
theorem dX4_undo_5 : decode cX4_undo 5 = .ok (.getfield 19, 3) := by decide +kernel
theorem dX4_undo_8 : decode cX4_undo 8 = .ok (.invokevirtual 142, 3) := by decide +kernel
theorem dX4_undo_11 : decode cX4_undo 11 = .ok (.ifCond .eq 13, 3) := by decide +kernel
theorem dX4_undo_14 : decode cX4_undo 14 = .ok (.aload_n 0, 1) := by decide +kernel
theorem dX4_undo_15 : decode cX4_undo 15 = .ok (.getfield 29, 3) := by decide +kernel
theorem dX4_undo_18 : decode cX4_undo 18 = .ok (.getfield 146, 3) := by decide +kernel
theorem dX4_undo_21 : decode cX4_undo 21 = .ok (.goto 5, 3) := by decide +kernel
theorem dX4_undo_24 : decode cX4_undo 24 = .ok (.bipush (-3), 2) := by decide +kernel
theorem dX4_undo_26 : decode cX4_undo 26 = .ok (.ireturn, 1) := by decide +kernel
theorem dX4_fits_0 : decode cX4_fits 0 = .ok (.aload_n 0, 1) := by decide +kernel
theorem dX4_fits_1 : decode cX4_fits 1 = .ok (.getfield 19, 3) := by decide +kernel
theorem dX4_fits_4 : decode cX4_fits 4 = .ok (.iload_n 1, 1) := by decide +kernel
theorem dX4_fits_5 : decode cX4_fits 5 = .ok (.invokevirtual 67, 3) := by decide +kernel
theorem dX4_fits_8 : decode cX4_fits 8 = .ok (.ifCond .ne 5, 3) := by decide +kernel
theorem dX4_fits_11 : decode cX4_fits 11 = .ok (.iconst (-1), 1) := by decide +kernel
theorem dX4_fits_12 : decode cX4_fits 12 = .ok (.ireturn, 1) := by decide +kernel
theorem dX4_fits_13 : decode cX4_fits 13 = .ok (.iload_n 2, 1) := by decide +kernel
theorem dX4_fits_14 : decode cX4_fits 14 = .ok (.invokestatic 93, 3) := by decide +kernel
theorem dX4_fits_17 : decode cX4_fits 17 = .ok (.ifCond .eq 15, 3) := by decide +kernel
theorem dX4_fits_20 : decode cX4_fits 20 = .ok (.aload_n 0, 1) := by decide +kernel
theorem dX4_fits_21 : decode cX4_fits 21 = .ok (.getfield 19, 3) := by decide +kernel
theorem dX4_fits_24 : decode cX4_fits 24 = .ok (.iload_n 1, 1) := by decide +kernel
theorem dX4_fits_25 : decode cX4_fits 25 = .ok (.iload_n 2, 1) := by decide +kernel
theorem dX4_fits_26 : decode cX4_fits 26 = .ok (.invokevirtual 149, 3) := by decide +kernel
theorem dX4_fits_29 : decode cX4_fits 29 = .ok (.goto 5, 3) := by decide +kernel
theorem dX4_fits_32 : decode cX4_fits 32 = .ok (.bipush (-2), 2) := by decide +kernel
theorem dX4_fits_34 : decode cX4_fits 34 = .ok (.ireturn, 1) := by decide +kernel
theorem dX4_fitting_0 : decode cX4_fitting 0 = .ok (.aload_n 0, 1) := by decide +kernel
theorem dX4_fitting_1 : decode cX4_fitting 1 = .ok (.getfield 19, 3) := by decide +kernel
theorem dX4_fitting_4 : decode cX4_fitting 4 = .ok (.iload_n 1, 1) := by decide +kernel
theorem dX4_fitting_5 : decode cX4_fitting 5 = .ok (.invokevirtual 67, 3) := by decide +kernel
theorem dX4_fitting_8 : decode cX4_fitting 8 = .ok (.ifCond .ne 5, 3) := by decide +kernel
theorem dX4_fitting_11 : decode cX4_fitting 11 = .ok (.iconst (-1), 1) := by decide +kernel
theorem dX4_fitting_12 : decode cX4_fitting 12 = .ok (.ireturn, 1) := by decide +kernel
theorem dX4_fitting_13 : decode cX4_fitting 13 = .ok (.iload_n 2, 1) := by decide +kernel
theorem dX4_fitting_14 : decode cX4_fitting 14 = .ok (.lookupswitch 44 #[(0, 26), (1, 35)], 26) := by decide +kernel
theorem dX4_fitting_40 : decode cX4_fitting 40 = .ok (.aload_n 0, 1) := by decide +kernel
theorem dX4_fitting_41 : decode cX4_fitting 41 = .ok (.getfield 19, 3) := by decide +kernel
theorem dX4_fitting_44 : decode cX4_fitting 44 = .ok (.iload_n 1, 1) := by decide +kernel
theorem dX4_fitting_45 : decode cX4_fitting 45 = .ok (.invokevirtual 152, 3) := by decide +kernel
theorem dX4_fitting_48 : decode cX4_fitting 48 = .ok (.ireturn, 1) := by decide +kernel
theorem dX4_fitting_49 : decode cX4_fitting 49 = .ok (.aload_n 0, 1) := by decide +kernel
theorem dX4_fitting_50 : decode cX4_fitting 50 = .ok (.getfield 19, 3) := by decide +kernel
theorem dX4_fitting_53 : decode cX4_fitting 53 = .ok (.iload_n 1, 1) := by decide +kernel
theorem dX4_fitting_54 : decode cX4_fitting 54 = .ok (.invokevirtual 155, 3) := by decide +kernel
theorem dX4_fitting_57 : decode cX4_fitting 57 = .ok (.ireturn, 1) := by decide +kernel
theorem dX4_fitting_58 : decode cX4_fitting 58 = .ok (.bipush (-2), 2) := by decide +kernel
theorem dX4_fitting_60 : decode cX4_fitting 60 = .ok (.ireturn, 1) := by decide +kernel
theorem dX4_thief_0 : decode cX4_thief 0 = .ok (.aload_n 0, 1) := by decide +kernel
theorem dX4_thief_1 : decode cX4_thief 1 = .ok (.getfield 19, 3) := by decide +kernel
theorem dX4_thief_4 : decode cX4_thief 4 = .ok (.iload_n 1, 1) := by decide +kernel
theorem dX4_thief_5 : decode cX4_thief 5 = .ok (.invokevirtual 67, 3) := by decide +kernel
theorem dX4_thief_8 : decode cX4_thief 8 = .ok (.ifCond .eq 14, 3) := by decide +kernel
theorem dX4_thief_11 : decode cX4_thief 11 = .ok (.aload_n 0, 1) := by decide +kernel
theorem dX4_thief_12 : decode cX4_thief 12 = .ok (.getfield 19, 3) := by decide +kernel
theorem dX4_thief_15 : decode cX4_thief 15 = .ok (.iload_n 1, 1) := by decide +kernel
theorem dX4_thief_16 : decode cX4_thief 16 = .ok (.invokevirtual 158, 3) := by decide +kernel
theorem dX4_thief_19 : decode cX4_thief 19 = .ok (.goto 4, 3) := by decide +kernel
theorem dX4_thief_22 : decode cX4_thief 22 = .ok (.iconst (-1), 1) := by decide +kernel
theorem dX4_thief_23 : decode cX4_thief 23 = .ok (.ireturn, 1) := by decide +kernel
theorem dX4_heard_0 : decode cX4_heard 0 = .ok (.aload_n 0, 1) := by decide +kernel
theorem dX4_heard_1 : decode cX4_heard 1 = .ok (.getfield 19, 3) := by decide +kernel
theorem dX4_heard_4 : decode cX4_heard 4 = .ok (.iload_n 1, 1) := by decide +kernel
theorem dX4_heard_5 : decode cX4_heard 5 = .ok (.invokevirtual 161, 3) := by decide +kernel
theorem dX4_heard_8 : decode cX4_heard 8 = .ok (.ireturn, 1) := by decide +kernel
theorem dX4_judge_0 : decode cX4_judge 0 = .ok (.iload_n 1, 1) := by decide +kernel
theorem dX4_judge_1 : decode cX4_judge 1 = .ok (.iconst 1, 1) := by decide +kernel
theorem dX4_judge_2 : decode cX4_judge 2 = .ok (.iconst 4, 1) := by decide +kernel
theorem dX4_judge_3 : decode cX4_judge 3 = .ok (.invokestatic 96, 3) := by decide +kernel
theorem dX4_judge_6 : decode cX4_judge 6 = .ok (.ifCond .eq 19, 3) := by decide +kernel
theorem dX4_judge_9 : decode cX4_judge 9 = .ok (.lload_n 2, 1) := by decide +kernel
theorem dX4_judge_10 : decode cX4_judge 10 = .ok (.lconst 0, 1) := by decide +kernel
theorem dX4_judge_11 : decode cX4_judge 11 = .ok (.lcmp, 1) := by decide +kernel
theorem dX4_judge_12 : decode cX4_judge 12 = .ok (.ifCond .lt 13, 3) := by decide +kernel
theorem dX4_judge_15 : decode cX4_judge 15 = .ok (.lload_n 2, 1) := by decide +kernel
theorem dX4_judge_16 : decode cX4_judge 16 = .ok (.iload_n 1, 1) := by decide +kernel
theorem dX4_judge_17 : decode cX4_judge 17 = .ok (.invokestatic 164, 3) := by decide +kernel
theorem dX4_judge_20 : decode cX4_judge 20 = .ok (.lconst 0, 1) := by decide +kernel
theorem dX4_judge_21 : decode cX4_judge 21 = .ok (.lcmp, 1) := by decide +kernel
theorem dX4_judge_22 : decode cX4_judge 22 = .ok (.ifCond .eq 6, 3) := by decide +kernel
theorem dX4_judge_25 : decode cX4_judge 25 = .ok (.bipush (-2), 2) := by decide +kernel
theorem dX4_judge_27 : decode cX4_judge 27 = .ok (.ireturn, 1) := by decide +kernel
theorem dX4_judge_28 : decode cX4_judge 28 = .ok (.aload_n 0, 1) := by decide +kernel
theorem dX4_judge_29 : decode cX4_judge 29 = .ok (.getfield 23, 3) := by decide +kernel
theorem dX4_judge_32 : decode cX4_judge 32 = .ok (.aload_n 0, 1) := by decide +kernel
theorem dX4_judge_33 : decode cX4_judge 33 = .ok (.getfield 19, 3) := by decide +kernel
theorem dX4_judge_36 : decode cX4_judge 36 = .ok (.invokevirtual 56, 3) := by decide +kernel
theorem dX4_judge_39 : decode cX4_judge 39 = .ok (.iconst 0, 1) := by decide +kernel
theorem dX4_judge_40 : decode cX4_judge 40 = .ok (.istore 4, 2) := by decide +kernel
theorem dX4_judge_42 : decode cX4_judge 42 = .ok (.iload 4, 2) := by decide +kernel
theorem dX4_judge_44 : decode cX4_judge 44 = .ok (.iload_n 1, 1) := by decide +kernel
theorem dX4_judge_45 : decode cX4_judge 45 = .ok (.if_icmp .ge 38, 3) := by decide +kernel
theorem dX4_judge_48 : decode cX4_judge 48 = .ok (.lload_n 2, 1) := by decide +kernel
theorem dX4_judge_49 : decode cX4_judge 49 = .ok (.iload_n 1, 1) := by decide +kernel
theorem dX4_judge_50 : decode cX4_judge 50 = .ok (.iconst 1, 1) := by decide +kernel
theorem dX4_judge_51 : decode cX4_judge 51 = .ok (.isub, 1) := by decide +kernel
theorem dX4_judge_52 : decode cX4_judge 52 = .ok (.iload 4, 2) := by decide +kernel
theorem dX4_judge_54 : decode cX4_judge 54 = .ok (.isub, 1) := by decide +kernel
theorem dX4_judge_55 : decode cX4_judge 55 = .ok (.invokestatic 164, 3) := by decide +kernel
theorem dX4_judge_58 : decode cX4_judge 58 = .ok (.ldc2_w 168, 3) := by decide +kernel
theorem dX4_judge_61 : decode cX4_judge 61 = .ok (.lrem, 1) := by decide +kernel
theorem dX4_judge_62 : decode cX4_judge 62 = .ok (.l2i, 1) := by decide +kernel
theorem dX4_judge_63 : decode cX4_judge 63 = .ok (.istore 5, 2) := by decide +kernel
theorem dX4_judge_65 : decode cX4_judge 65 = .ok (.aload_n 0, 1) := by decide +kernel
theorem dX4_judge_66 : decode cX4_judge 66 = .ok (.iload 5, 2) := by decide +kernel
theorem dX4_judge_68 : decode cX4_judge 68 = .ok (.invokevirtual 170, 3) := by decide +kernel
theorem dX4_judge_71 : decode cX4_judge 71 = .ok (.ifCond .ne 6, 3) := by decide +kernel
theorem dX4_judge_74 : decode cX4_judge 74 = .ok (.iload 4, 2) := by decide +kernel
theorem dX4_judge_76 : decode cX4_judge 76 = .ok (.ireturn, 1) := by decide +kernel
theorem dX4_judge_77 : decode cX4_judge 77 = .ok (.iinc 4 1, 3) := by decide +kernel
theorem dX4_judge_80 : decode cX4_judge 80 = .ok (.goto (-38), 3) := by decide +kernel
theorem dX4_judge_83 : decode cX4_judge 83 = .ok (.bipush (-9), 2) := by decide +kernel
theorem dX4_judge_85 : decode cX4_judge 85 = .ok (.ireturn, 1) := by decide +kernel
theorem dX4_see_0 : decode cX4_see 0 = .ok (.iload_n 1, 1) := by decide +kernel
theorem dX4_see_1 : decode cX4_see 1 = .ok (.iconst 0, 1) := by decide +kernel
theorem dX4_see_2 : decode cX4_see 2 = .ok (.iconst 3, 1) := by decide +kernel
theorem dX4_see_3 : decode cX4_see 3 = .ok (.invokestatic 96, 3) := by decide +kernel
theorem dX4_see_6 : decode cX4_see 6 = .ok (.ifCond .ne 5, 3) := by decide +kernel
theorem dX4_see_9 : decode cX4_see 9 = .ok (.iconst (-1), 1) := by decide +kernel
theorem dX4_see_10 : decode cX4_see 10 = .ok (.ireturn, 1) := by decide +kernel
theorem dX4_see_11 : decode cX4_see 11 = .ok (.iload_n 2, 1) := by decide +kernel
theorem dX4_see_12 : decode cX4_see 12 = .ok (.iconst 0, 1) := by decide +kernel
theorem dX4_see_13 : decode cX4_see 13 = .ok (.bipush 29, 2) := by decide +kernel
theorem dX4_see_15 : decode cX4_see 15 = .ok (.invokestatic 96, 3) := by decide +kernel
theorem dX4_see_18 : decode cX4_see 18 = .ok (.ifCond .eq 10, 3) := by decide +kernel
theorem dX4_see_21 : decode cX4_see 21 = .ok (.iload_n 3, 1) := by decide +kernel
theorem dX4_see_22 : decode cX4_see 22 = .ok (.invokestatic 93, 3) := by decide +kernel
theorem dX4_see_25 : decode cX4_see 25 = .ok (.ifCond .ne 6, 3) := by decide +kernel
theorem dX4_see_28 : decode cX4_see 28 = .ok (.bipush (-2), 2) := by decide +kernel
theorem dX4_see_30 : decode cX4_see 30 = .ok (.ireturn, 1) := by decide +kernel
theorem dX4_see_31 : decode cX4_see 31 = .ok (.aload_n 0, 1) := by decide +kernel
theorem dX4_see_32 : decode cX4_see 32 = .ok (.getfield 36, 3) := by decide +kernel
theorem dX4_see_35 : decode cX4_see 35 = .ok (.iload_n 1, 1) := by decide +kernel
theorem dX4_see_36 : decode cX4_see 36 = .ok (.iload_n 2, 1) := by decide +kernel
theorem dX4_see_37 : decode cX4_see 37 = .ok (.iload_n 3, 1) := by decide +kernel
theorem dX4_see_38 : decode cX4_see 38 = .ok (.invokevirtual 173, 3) := by decide +kernel
theorem dX4_see_41 : decode cX4_see 41 = .ok (.ifCond .eq 13, 3) := by decide +kernel
theorem dX4_see_44 : decode cX4_see 44 = .ok (.aload_n 0, 1) := by decide +kernel
theorem dX4_see_45 : decode cX4_see 45 = .ok (.getfield 36, 3) := by decide +kernel
theorem dX4_see_48 : decode cX4_see 48 = .ok (.getfield 176, 3) := by decide +kernel
theorem dX4_see_51 : decode cX4_see 51 = .ok (.goto 5, 3) := by decide +kernel
theorem dX4_see_54 : decode cX4_see 54 = .ok (.bipush (-4), 2) := by decide +kernel
theorem dX4_see_56 : decode cX4_see 56 = .ok (.ireturn, 1) := by decide +kernel
theorem dX4_unsee_0 : decode cX4_unsee 0 = .ok (.aload_n 0, 1) := by decide +kernel
theorem dX4_unsee_1 : decode cX4_unsee 1 = .ok (.getfield 36, 3) := by decide +kernel
theorem dX4_unsee_4 : decode cX4_unsee 4 = .ok (.getfield 176, 3) := by decide +kernel
theorem dX4_unsee_7 : decode cX4_unsee 7 = .ok (.istore_n 1, 1) := by decide +kernel
theorem dX4_unsee_8 : decode cX4_unsee 8 = .ok (.aload_n 0, 1) := by decide +kernel
theorem dX4_unsee_9 : decode cX4_unsee 9 = .ok (.getfield 36, 3) := by decide +kernel
theorem dX4_unsee_12 : decode cX4_unsee 12 = .ok (.iconst 0, 1) := by decide +kernel
theorem dX4_unsee_13 : decode cX4_unsee 13 = .ok (.putfield 176, 3) := by decide +kernel
theorem dX4_unsee_16 : decode cX4_unsee 16 = .ok (.iload_n 1, 1) := by decide +kernel
theorem dX4_unsee_17 : decode cX4_unsee 17 = .ok (.ireturn, 1) := by decide +kernel
theorem dX4_which_0 : decode cX4_which 0 = .ok (.iload_n 1, 1) := by decide +kernel
theorem dX4_which_1 : decode cX4_which 1 = .ok (.lookupswitch 51 #[(0, 27), (1, 39)], 27) := by decide +kernel
theorem dX4_which_28 : decode cX4_which 28 = .ok (.aload_n 0, 1) := by decide +kernel
theorem dX4_which_29 : decode cX4_which 29 = .ok (.getfield 36, 3) := by decide +kernel
theorem dX4_which_32 : decode cX4_which 32 = .ok (.aload_n 0, 1) := by decide +kernel
theorem dX4_which_33 : decode cX4_which 33 = .ok (.getfield 19, 3) := by decide +kernel
theorem dX4_which_36 : decode cX4_which 36 = .ok (.invokevirtual 179, 3) := by decide +kernel
theorem dX4_which_39 : decode cX4_which 39 = .ok (.ireturn, 1) := by decide +kernel
theorem dX4_which_40 : decode cX4_which 40 = .ok (.aload_n 0, 1) := by decide +kernel
theorem dX4_which_41 : decode cX4_which 41 = .ok (.getfield 36, 3) := by decide +kernel
theorem dX4_which_44 : decode cX4_which 44 = .ok (.aload_n 0, 1) := by decide +kernel
theorem dX4_which_45 : decode cX4_which 45 = .ok (.getfield 19, 3) := by decide +kernel
theorem dX4_which_48 : decode cX4_which 48 = .ok (.invokevirtual 182, 3) := by decide +kernel
theorem dX4_which_51 : decode cX4_which 51 = .ok (.ireturn, 1) := by decide +kernel
theorem dX4_which_52 : decode cX4_which 52 = .ok (.bipush (-2), 2) := by decide +kernel
theorem dX4_which_54 : decode cX4_which 54 = .ok (.ireturn, 1) := by decide +kernel
theorem dX4_share_0 : decode cX4_share 0 = .ok (.aload_n 0, 1) := by decide +kernel
theorem dX4_share_1 : decode cX4_share 1 = .ok (.getfield 19, 3) := by decide +kernel
theorem dX4_share_4 : decode cX4_share 4 = .ok (.iload_n 1, 1) := by decide +kernel
theorem dX4_share_5 : decode cX4_share 5 = .ok (.invokevirtual 67, 3) := by decide +kernel
theorem dX4_share_8 : decode cX4_share 8 = .ok (.ifCond .ne 5, 3) := by decide +kernel
theorem dX4_share_11 : decode cX4_share 11 = .ok (.iconst (-1), 1) := by decide +kernel
theorem dX4_share_12 : decode cX4_share 12 = .ok (.ireturn, 1) := by decide +kernel
theorem dX4_share_13 : decode cX4_share 13 = .ok (.lconst 0, 1) := by decide +kernel
theorem dX4_share_14 : decode cX4_share 14 = .ok (.lstore_n 3, 1) := by decide +kernel
theorem dX4_share_15 : decode cX4_share 15 = .ok (.iconst 0, 1) := by decide +kernel
theorem dX4_share_16 : decode cX4_share 16 = .ok (.istore 5, 2) := by decide +kernel
theorem dX4_share_18 : decode cX4_share 18 = .ok (.iload 5, 2) := by decide +kernel
theorem dX4_share_20 : decode cX4_share 20 = .ok (.sipush 251, 3) := by decide +kernel
theorem dX4_share_23 : decode cX4_share 23 = .ok (.if_icmp .ge 51, 3) := by decide +kernel
theorem dX4_share_26 : decode cX4_share 26 = .ok (.aload_n 0, 1) := by decide +kernel
theorem dX4_share_27 : decode cX4_share 27 = .ok (.getfield 19, 3) := by decide +kernel
theorem dX4_share_30 : decode cX4_share 30 = .ok (.iload_n 1, 1) := by decide +kernel
theorem dX4_share_31 : decode cX4_share 31 = .ok (.iload 5, 2) := by decide +kernel
theorem dX4_share_33 : decode cX4_share 33 = .ok (.invokevirtual 149, 3) := by decide +kernel
theorem dX4_share_36 : decode cX4_share 36 = .ok (.ifCond .le 15, 3) := by decide +kernel
theorem dX4_share_39 : decode cX4_share 39 = .ok (.aload_n 0, 1) := by decide +kernel
theorem dX4_share_40 : decode cX4_share 40 = .ok (.getfield 19, 3) := by decide +kernel
theorem dX4_share_43 : decode cX4_share 43 = .ok (.iload 5, 2) := by decide +kernel
theorem dX4_share_45 : decode cX4_share 45 = .ok (.invokevirtual 185, 3) := by decide +kernel
theorem dX4_share_48 : decode cX4_share 48 = .ok (.goto 4, 3) := by decide +kernel
theorem dX4_share_51 : decode cX4_share 51 = .ok (.iconst 0, 1) := by decide +kernel
theorem dX4_share_52 : decode cX4_share 52 = .ok (.istore 6, 2) := by decide +kernel
theorem dX4_share_54 : decode cX4_share 54 = .ok (.iload 6, 2) := by decide +kernel
theorem dX4_share_56 : decode cX4_share 56 = .ok (.ifCond .le 12, 3) := by decide +kernel
theorem dX4_share_59 : decode cX4_share 59 = .ok (.lload_n 3, 1) := by decide +kernel
theorem dX4_share_60 : decode cX4_share 60 = .ok (.bipush 12, 2) := by decide +kernel
theorem dX4_share_62 : decode cX4_share 62 = .ok (.iload 6, 2) := by decide +kernel
theorem dX4_share_64 : decode cX4_share 64 = .ok (.idiv, 1) := by decide +kernel
theorem dX4_share_65 : decode cX4_share 65 = .ok (.i2l, 1) := by decide +kernel
theorem dX4_share_66 : decode cX4_share 66 = .ok (.ladd, 1) := by decide +kernel
theorem dX4_share_67 : decode cX4_share 67 = .ok (.lstore_n 3, 1) := by decide +kernel
theorem dX4_share_68 : decode cX4_share 68 = .ok (.iinc 5 1, 3) := by decide +kernel
theorem dX4_share_71 : decode cX4_share 71 = .ok (.goto (-53), 3) := by decide +kernel
theorem dX4_share_74 : decode cX4_share 74 = .ok (.lload_n 3, 1) := by decide +kernel
theorem dX4_share_75 : decode cX4_share 75 = .ok (.ldc2_w 188, 3) := by decide +kernel
theorem dX4_share_78 : decode cX4_share 78 = .ok (.iload_n 2, 1) := by decide +kernel
theorem dX4_share_79 : decode cX4_share 79 = .ok (.invokestatic 190, 3) := by decide +kernel
theorem dX4_share_82 : decode cX4_share 82 = .ok (.ireturn, 1) := by decide +kernel
theorem dX4_guess_0 : decode cX4_guess 0 = .ok (.aload_n 0, 1) := by decide +kernel
theorem dX4_guess_1 : decode cX4_guess 1 = .ok (.getfield 19, 3) := by decide +kernel
theorem dX4_guess_4 : decode cX4_guess 4 = .ok (.iload_n 1, 1) := by decide +kernel
theorem dX4_guess_5 : decode cX4_guess 5 = .ok (.invokevirtual 67, 3) := by decide +kernel
theorem dX4_guess_8 : decode cX4_guess 8 = .ok (.ifCond .ne 5, 3) := by decide +kernel
theorem dX4_guess_11 : decode cX4_guess 11 = .ok (.iconst (-1), 1) := by decide +kernel
theorem dX4_guess_12 : decode cX4_guess 12 = .ok (.ireturn, 1) := by decide +kernel
theorem dX4_guess_13 : decode cX4_guess 13 = .ok (.iload_n 2, 1) := by decide +kernel
theorem dX4_guess_14 : decode cX4_guess 14 = .ok (.iconst 0, 1) := by decide +kernel
theorem dX4_guess_15 : decode cX4_guess 15 = .ok (.iconst 3, 1) := by decide +kernel
theorem dX4_guess_16 : decode cX4_guess 16 = .ok (.invokestatic 96, 3) := by decide +kernel
theorem dX4_guess_19 : decode cX4_guess 19 = .ok (.ifCond .ne 6, 3) := by decide +kernel
theorem dX4_guess_22 : decode cX4_guess 22 = .ok (.bipush (-2), 2) := by decide +kernel
theorem dX4_guess_24 : decode cX4_guess 24 = .ok (.ireturn, 1) := by decide +kernel
theorem dX4_guess_25 : decode cX4_guess 25 = .ok (.sipush 251, 3) := by decide +kernel
theorem dX4_guess_28 : decode cX4_guess 28 = .ok (.iload_n 2, 1) := by decide +kernel
theorem dX4_guess_29 : decode cX4_guess 29 = .ok (.invokestatic 194, 3) := by decide +kernel
theorem dX4_guess_32 : decode cX4_guess 32 = .ok (.lstore 4, 2) := by decide +kernel
theorem dX4_guess_34 : decode cX4_guess 34 = .ok (.sipush 251, 3) := by decide +kernel
theorem dX4_guess_37 : decode cX4_guess 37 = .ok (.aload_n 0, 1) := by decide +kernel
theorem dX4_guess_38 : decode cX4_guess 38 = .ok (.getfield 19, 3) := by decide +kernel
theorem dX4_guess_41 : decode cX4_guess 41 = .ok (.iload_n 1, 1) := by decide +kernel
theorem dX4_guess_42 : decode cX4_guess 42 = .ok (.invokevirtual 152, 3) := by decide +kernel
theorem dX4_guess_45 : decode cX4_guess 45 = .ok (.isub, 1) := by decide +kernel
theorem dX4_guess_46 : decode cX4_guess 46 = .ok (.iload_n 2, 1) := by decide +kernel
theorem dX4_guess_47 : decode cX4_guess 47 = .ok (.invokestatic 194, 3) := by decide +kernel
theorem dX4_guess_50 : decode cX4_guess 50 = .ok (.lstore 6, 2) := by decide +kernel
theorem dX4_guess_52 : decode cX4_guess 52 = .ok (.lload 4, 2) := by decide +kernel
theorem dX4_guess_54 : decode cX4_guess 54 = .ok (.lload 6, 2) := by decide +kernel
theorem dX4_guess_56 : decode cX4_guess 56 = .ok (.lsub, 1) := by decide +kernel
theorem dX4_guess_57 : decode cX4_guess 57 = .ok (.lload 4, 2) := by decide +kernel
theorem dX4_guess_59 : decode cX4_guess 59 = .ok (.iload_n 3, 1) := by decide +kernel
theorem dX4_guess_60 : decode cX4_guess 60 = .ok (.invokestatic 190, 3) := by decide +kernel
theorem dX4_guess_63 : decode cX4_guess 63 = .ok (.ireturn, 1) := by decide +kernel
theorem dX4_loss_0 : decode cX4_loss 0 = .ok (.aload_n 0, 1) := by decide +kernel
theorem dX4_loss_1 : decode cX4_loss 1 = .ok (.getfield 19, 3) := by decide +kernel
theorem dX4_loss_4 : decode cX4_loss 4 = .ok (.iload_n 1, 1) := by decide +kernel
theorem dX4_loss_5 : decode cX4_loss 5 = .ok (.invokevirtual 67, 3) := by decide +kernel
theorem dX4_loss_8 : decode cX4_loss 8 = .ok (.ifCond .ne 5, 3) := by decide +kernel
theorem dX4_loss_11 : decode cX4_loss 11 = .ok (.iconst (-1), 1) := by decide +kernel
theorem dX4_loss_12 : decode cX4_loss 12 = .ok (.ireturn, 1) := by decide +kernel
theorem dX4_loss_13 : decode cX4_loss 13 = .ok (.iload_n 2, 1) := by decide +kernel
theorem dX4_loss_14 : decode cX4_loss 14 = .ok (.iconst 0, 1) := by decide +kernel
theorem dX4_loss_15 : decode cX4_loss 15 = .ok (.bipush 6, 2) := by decide +kernel
theorem dX4_loss_17 : decode cX4_loss 17 = .ok (.invokestatic 96, 3) := by decide +kernel
theorem dX4_loss_20 : decode cX4_loss 20 = .ok (.ifCond .eq 13, 3) := by decide +kernel
theorem dX4_loss_23 : decode cX4_loss 23 = .ok (.iload_n 3, 1) := by decide +kernel
theorem dX4_loss_24 : decode cX4_loss 24 = .ok (.iconst 0, 1) := by decide +kernel
theorem dX4_loss_25 : decode cX4_loss 25 = .ok (.bipush 10, 2) := by decide +kernel
theorem dX4_loss_27 : decode cX4_loss 27 = .ok (.invokestatic 96, 3) := by decide +kernel
theorem dX4_loss_30 : decode cX4_loss 30 = .ok (.ifCond .ne 6, 3) := by decide +kernel
theorem dX4_loss_33 : decode cX4_loss 33 = .ok (.bipush (-2), 2) := by decide +kernel
theorem dX4_loss_35 : decode cX4_loss 35 = .ok (.ireturn, 1) := by decide +kernel
theorem dX4_loss_36 : decode cX4_loss 36 = .ok (.iload_n 2, 1) := by decide +kernel
theorem dX4_loss_37 : decode cX4_loss 37 = .ok (.aload_n 0, 1) := by decide +kernel
theorem dX4_loss_38 : decode cX4_loss 38 = .ok (.getfield 19, 3) := by decide +kernel
theorem dX4_loss_41 : decode cX4_loss 41 = .ok (.iload_n 1, 1) := by decide +kernel
theorem dX4_loss_42 : decode cX4_loss 42 = .ok (.iconst 3, 1) := by decide +kernel
theorem dX4_loss_43 : decode cX4_loss 43 = .ok (.invokevirtual 70, 3) := by decide +kernel
theorem dX4_loss_46 : decode cX4_loss 46 = .ok (.if_icmp .le 6, 3) := by decide +kernel
theorem dX4_loss_49 : decode cX4_loss 49 = .ok (.bipush (-3), 2) := by decide +kernel
theorem dX4_loss_51 : decode cX4_loss 51 = .ok (.ireturn, 1) := by decide +kernel
theorem dX4_loss_52 : decode cX4_loss 52 = .ok (.lconst 0, 1) := by decide +kernel
theorem dX4_loss_53 : decode cX4_loss 53 = .ok (.lstore 5, 2) := by decide +kernel
theorem dX4_loss_55 : decode cX4_loss 55 = .ok (.iconst 0, 1) := by decide +kernel
theorem dX4_loss_56 : decode cX4_loss 56 = .ok (.istore 7, 2) := by decide +kernel
theorem dX4_loss_58 : decode cX4_loss 58 = .ok (.iload 7, 2) := by decide +kernel
theorem dX4_loss_60 : decode cX4_loss 60 = .ok (.iconst 1, 1) := by decide +kernel
theorem dX4_loss_61 : decode cX4_loss 61 = .ok (.iload_n 2, 1) := by decide +kernel
theorem dX4_loss_62 : decode cX4_loss 62 = .ok (.ishl, 1) := by decide +kernel
theorem dX4_loss_63 : decode cX4_loss 63 = .ok (.if_icmp .ge 23, 3) := by decide +kernel
theorem dX4_loss_66 : decode cX4_loss 66 = .ok (.lload 5, 2) := by decide +kernel
theorem dX4_loss_68 : decode cX4_loss 68 = .ok (.aload_n 0, 1) := by decide +kernel
theorem dX4_loss_69 : decode cX4_loss 69 = .ok (.iload_n 1, 1) := by decide +kernel
theorem dX4_loss_70 : decode cX4_loss 70 = .ok (.iload_n 2, 1) := by decide +kernel
theorem dX4_loss_71 : decode cX4_loss 71 = .ok (.iload_n 3, 1) := by decide +kernel
theorem dX4_loss_72 : decode cX4_loss 72 = .ok (.iload 7, 2) := by decide +kernel
theorem dX4_loss_74 : decode cX4_loss 74 = .ok (.invokevirtual 198, 3) := by decide +kernel
theorem dX4_loss_77 : decode cX4_loss 77 = .ok (.ladd, 1) := by decide +kernel
theorem dX4_loss_78 : decode cX4_loss 78 = .ok (.lstore 5, 2) := by decide +kernel
theorem dX4_loss_80 : decode cX4_loss 80 = .ok (.iinc 7 1, 3) := by decide +kernel
theorem dX4_loss_83 : decode cX4_loss 83 = .ok (.goto (-25), 3) := by decide +kernel
theorem dX4_loss_86 : decode cX4_loss 86 = .ok (.lload 5, 2) := by decide +kernel
theorem dX4_loss_88 : decode cX4_loss 88 = .ok (.bipush 10, 2) := by decide +kernel
theorem dX4_loss_90 : decode cX4_loss 90 = .ok (.iload_n 2, 1) := by decide +kernel
theorem dX4_loss_91 : decode cX4_loss 91 = .ok (.invokestatic 194, 3) := by decide +kernel
theorem dX4_loss_94 : decode cX4_loss 94 = .ok (.iload 4, 2) := by decide +kernel
theorem dX4_loss_96 : decode cX4_loss 96 = .ok (.invokestatic 190, 3) := by decide +kernel
theorem dX4_loss_99 : decode cX4_loss 99 = .ok (.ireturn, 1) := by decide +kernel
theorem dX4_seed_0 : decode cX4_seed 0 = .ok (.aload_n 0, 1) := by decide +kernel
theorem dX4_seed_1 : decode cX4_seed 1 = .ok (.getfield 40, 3) := by decide +kernel
theorem dX4_seed_4 : decode cX4_seed 4 = .ok (.lstore_n 3, 1) := by decide +kernel
theorem dX4_seed_5 : decode cX4_seed 5 = .ok (.aload_n 0, 1) := by decide +kernel
theorem dX4_seed_6 : decode cX4_seed 6 = .ok (.lload_n 1, 1) := by decide +kernel
theorem dX4_seed_7 : decode cX4_seed 7 = .ok (.putfield 40, 3) := by decide +kernel
theorem dX4_seed_10 : decode cX4_seed 10 = .ok (.lload_n 3, 1) := by decide +kernel
theorem dX4_seed_11 : decode cX4_seed 11 = .ok (.lreturn, 1) := by decide +kernel
theorem dX4_drawn_0 : decode cX4_drawn 0 = .ok (.iload_n 1, 1) := by decide +kernel
theorem dX4_drawn_1 : decode cX4_drawn 1 = .ok (.iconst 1, 1) := by decide +kernel
theorem dX4_drawn_2 : decode cX4_drawn 2 = .ok (.bipush 60, 2) := by decide +kernel
theorem dX4_drawn_4 : decode cX4_drawn 4 = .ok (.invokestatic 96, 3) := by decide +kernel
theorem dX4_drawn_7 : decode cX4_drawn 7 = .ok (.ifCond .ne 6, 3) := by decide +kernel
theorem dX4_drawn_10 : decode cX4_drawn 10 = .ok (.bipush (-2), 2) := by decide +kernel
theorem dX4_drawn_12 : decode cX4_drawn 12 = .ok (.ireturn, 1) := by decide +kernel
theorem dX4_drawn_13 : decode cX4_drawn 13 = .ok (.aload_n 0, 1) := by decide +kernel
theorem dX4_drawn_14 : decode cX4_drawn 14 = .ok (.getfield 23, 3) := by decide +kernel
theorem dX4_drawn_17 : decode cX4_drawn 17 = .ok (.aload_n 0, 1) := by decide +kernel
theorem dX4_drawn_18 : decode cX4_drawn 18 = .ok (.getfield 19, 3) := by decide +kernel
theorem dX4_drawn_21 : decode cX4_drawn 21 = .ok (.invokevirtual 56, 3) := by decide +kernel
theorem dX4_drawn_24 : decode cX4_drawn 24 = .ok (.iconst 0, 1) := by decide +kernel
theorem dX4_drawn_25 : decode cX4_drawn 25 = .ok (.istore_n 2, 1) := by decide +kernel
theorem dX4_drawn_26 : decode cX4_drawn 26 = .ok (.iconst 0, 1) := by decide +kernel
theorem dX4_drawn_27 : decode cX4_drawn 27 = .ok (.istore_n 3, 1) := by decide +kernel
theorem dX4_drawn_28 : decode cX4_drawn 28 = .ok (.iload_n 3, 1) := by decide +kernel
theorem dX4_drawn_29 : decode cX4_drawn 29 = .ok (.iload_n 1, 1) := by decide +kernel
theorem dX4_drawn_30 : decode cX4_drawn 30 = .ok (.if_icmp .ge 43, 3) := by decide +kernel
theorem dX4_drawn_33 : decode cX4_drawn 33 = .ok (.aload_n 0, 1) := by decide +kernel
theorem dX4_drawn_34 : decode cX4_drawn 34 = .ok (.aload_n 0, 1) := by decide +kernel
theorem dX4_drawn_35 : decode cX4_drawn 35 = .ok (.getfield 40, 3) := by decide +kernel
theorem dX4_drawn_38 : decode cX4_drawn 38 = .ok (.ldc2_w 202, 3) := by decide +kernel
theorem dX4_drawn_41 : decode cX4_drawn 41 = .ok (.lmul, 1) := by decide +kernel
theorem dX4_drawn_42 : decode cX4_drawn 42 = .ok (.ldc2_w 204, 3) := by decide +kernel
theorem dX4_drawn_45 : decode cX4_drawn 45 = .ok (.ladd, 1) := by decide +kernel
theorem dX4_drawn_46 : decode cX4_drawn 46 = .ok (.putfield 40, 3) := by decide +kernel
theorem dX4_drawn_49 : decode cX4_drawn 49 = .ok (.aload_n 0, 1) := by decide +kernel
theorem dX4_drawn_50 : decode cX4_drawn 50 = .ok (.aload_n 0, 1) := by decide +kernel
theorem dX4_drawn_51 : decode cX4_drawn 51 = .ok (.getfield 40, 3) := by decide +kernel
theorem dX4_drawn_54 : decode cX4_drawn 54 = .ok (.bipush 33, 2) := by decide +kernel
theorem dX4_drawn_56 : decode cX4_drawn 56 = .ok (.lushr, 1) := by decide +kernel
theorem dX4_drawn_57 : decode cX4_drawn 57 = .ok (.l2i, 1) := by decide +kernel
theorem dX4_drawn_58 : decode cX4_drawn 58 = .ok (.invokevirtual 206, 3) := by decide +kernel
theorem dX4_drawn_61 : decode cX4_drawn 61 = .ok (.ifCond .eq 6, 3) := by decide +kernel
theorem dX4_drawn_64 : decode cX4_drawn 64 = .ok (.iinc 2 1, 3) := by decide +kernel
theorem dX4_drawn_67 : decode cX4_drawn 67 = .ok (.iinc 3 1, 3) := by decide +kernel
theorem dX4_drawn_70 : decode cX4_drawn 70 = .ok (.goto (-42), 3) := by decide +kernel
theorem dX4_drawn_73 : decode cX4_drawn 73 = .ok (.iload_n 2, 1) := by decide +kernel
theorem dX4_drawn_74 : decode cX4_drawn 74 = .ok (.ireturn, 1) := by decide +kernel
theorem dX4_keep_0 : decode cX4_keep 0 = .ok (.aload_n 0, 1) := by decide +kernel
theorem dX4_keep_1 : decode cX4_keep 1 = .ok (.getfield 29, 3) := by decide +kernel
theorem dX4_keep_4 : decode cX4_keep 4 = .ok (.iload_n 1, 1) := by decide +kernel
theorem dX4_keep_5 : decode cX4_keep 5 = .ok (.aload_n 0, 1) := by decide +kernel
theorem dX4_keep_6 : decode cX4_keep 6 = .ok (.getfield 19, 3) := by decide +kernel
theorem dX4_keep_9 : decode cX4_keep 9 = .ok (.invokevirtual 209, 3) := by decide +kernel
theorem dX4_keep_12 : decode cX4_keep 12 = .ok (.ifCond .eq 13, 3) := by decide +kernel
theorem dX4_keep_15 : decode cX4_keep 15 = .ok (.aload_n 0, 1) := by decide +kernel
theorem dX4_keep_16 : decode cX4_keep 16 = .ok (.getfield 19, 3) := by decide +kernel
theorem dX4_keep_19 : decode cX4_keep 19 = .ok (.invokevirtual 63, 3) := by decide +kernel
theorem dX4_keep_22 : decode cX4_keep 22 = .ok (.goto 4, 3) := by decide +kernel
theorem dX4_keep_25 : decode cX4_keep 25 = .ok (.iconst (-1), 1) := by decide +kernel
theorem dX4_keep_26 : decode cX4_keep 26 = .ok (.ireturn, 1) := by decide +kernel
theorem dX4_again_0 : decode cX4_again 0 = .ok (.iload_n 1, 1) := by decide +kernel
theorem dX4_again_1 : decode cX4_again 1 = .ok (.iconst 0, 1) := by decide +kernel
theorem dX4_again_2 : decode cX4_again 2 = .ok (.iconst 1, 1) := by decide +kernel
theorem dX4_again_3 : decode cX4_again 3 = .ok (.invokestatic 96, 3) := by decide +kernel
theorem dX4_again_6 : decode cX4_again 6 = .ok (.ifCond .ne 5, 3) := by decide +kernel
theorem dX4_again_9 : decode cX4_again 9 = .ok (.iconst (-1), 1) := by decide +kernel
theorem dX4_again_10 : decode cX4_again 10 = .ok (.ireturn, 1) := by decide +kernel
theorem dX4_again_11 : decode cX4_again 11 = .ok (.aload_n 0, 1) := by decide +kernel
theorem dX4_again_12 : decode cX4_again 12 = .ok (.getfield 29, 3) := by decide +kernel
theorem dX4_again_15 : decode cX4_again 15 = .ok (.iload_n 1, 1) := by decide +kernel
theorem dX4_again_16 : decode cX4_again 16 = .ok (.aload_n 0, 1) := by decide +kernel
theorem dX4_again_17 : decode cX4_again 17 = .ok (.getfield 19, 3) := by decide +kernel
theorem dX4_again_20 : decode cX4_again 20 = .ok (.invokevirtual 213, 3) := by decide +kernel
theorem dX4_again_23 : decode cX4_again 23 = .ok (.ifCond .eq 13, 3) := by decide +kernel
theorem dX4_again_26 : decode cX4_again 26 = .ok (.aload_n 0, 1) := by decide +kernel
theorem dX4_again_27 : decode cX4_again 27 = .ok (.getfield 19, 3) := by decide +kernel
theorem dX4_again_30 : decode cX4_again 30 = .ok (.invokevirtual 63, 3) := by decide +kernel
theorem dX4_again_33 : decode cX4_again 33 = .ok (.goto 5, 3) := by decide +kernel
theorem dX4_again_36 : decode cX4_again 36 = .ok (.bipush (-3), 2) := by decide +kernel
theorem dX4_again_38 : decode cX4_again 38 = .ok (.ireturn, 1) := by decide +kernel
theorem dX4_count_0 : decode cX4_count 0 = .ok (.iload_n 1, 1) := by decide +kernel
theorem dX4_count_1 : decode cX4_count 1 = .ok (.tableswitch 99 0 6 #[43, 51, 59, 67, 75, 83, 91], 43) := by decide +kernel
theorem dX4_count_44 : decode cX4_count 44 = .ok (.aload_n 0, 1) := by decide +kernel
theorem dX4_count_45 : decode cX4_count 45 = .ok (.getfield 10, 3) := by decide +kernel
theorem dX4_count_48 : decode cX4_count 48 = .ok (.getfield 48, 3) := by decide +kernel
theorem dX4_count_51 : decode cX4_count 51 = .ok (.ireturn, 1) := by decide +kernel
theorem dX4_count_52 : decode cX4_count 52 = .ok (.aload_n 0, 1) := by decide +kernel
theorem dX4_count_53 : decode cX4_count 53 = .ok (.getfield 19, 3) := by decide +kernel
theorem dX4_count_56 : decode cX4_count 56 = .ok (.invokevirtual 63, 3) := by decide +kernel
theorem dX4_count_59 : decode cX4_count 59 = .ok (.ireturn, 1) := by decide +kernel
theorem dX4_count_60 : decode cX4_count 60 = .ok (.aload_n 0, 1) := by decide +kernel
theorem dX4_count_61 : decode cX4_count 61 = .ok (.getfield 19, 3) := by decide +kernel
theorem dX4_count_64 : decode cX4_count 64 = .ok (.invokevirtual 135, 3) := by decide +kernel
theorem dX4_count_67 : decode cX4_count 67 = .ok (.ireturn, 1) := by decide +kernel
theorem dX4_count_68 : decode cX4_count 68 = .ok (.aload_n 0, 1) := by decide +kernel
theorem dX4_count_69 : decode cX4_count 69 = .ok (.getfield 19, 3) := by decide +kernel
theorem dX4_count_72 : decode cX4_count 72 = .ok (.invokevirtual 119, 3) := by decide +kernel
theorem dX4_count_75 : decode cX4_count 75 = .ok (.ireturn, 1) := by decide +kernel
theorem dX4_count_76 : decode cX4_count 76 = .ok (.aload_n 0, 1) := by decide +kernel
theorem dX4_count_77 : decode cX4_count 77 = .ok (.getfield 19, 3) := by decide +kernel
theorem dX4_count_80 : decode cX4_count 80 = .ok (.invokevirtual 122, 3) := by decide +kernel
theorem dX4_count_83 : decode cX4_count 83 = .ok (.ireturn, 1) := by decide +kernel
theorem dX4_count_84 : decode cX4_count 84 = .ok (.aload_n 0, 1) := by decide +kernel
theorem dX4_count_85 : decode cX4_count 85 = .ok (.getfield 29, 3) := by decide +kernel
theorem dX4_count_88 : decode cX4_count 88 = .ok (.getfield 146, 3) := by decide +kernel
theorem dX4_count_91 : decode cX4_count 91 = .ok (.ireturn, 1) := by decide +kernel
theorem dX4_count_92 : decode cX4_count 92 = .ok (.aload_n 0, 1) := by decide +kernel
theorem dX4_count_93 : decode cX4_count 93 = .ok (.getfield 36, 3) := by decide +kernel
theorem dX4_count_96 : decode cX4_count 96 = .ok (.getfield 176, 3) := by decide +kernel
theorem dX4_count_99 : decode cX4_count 99 = .ok (.ireturn, 1) := by decide +kernel
theorem dX4_count_100 : decode cX4_count 100 = .ok (.bipush (-2), 2) := by decide +kernel
theorem dX4_count_102 : decode cX4_count 102 = .ok (.ireturn, 1) := by decide +kernel
theorem dX4_isWithin_0 : decode cX4_isWithin 0 = .ok (.iload_n 0, 1) := by decide +kernel
theorem dX4_isWithin_1 : decode cX4_isWithin 1 = .ok (.iload_n 1, 1) := by decide +kernel
theorem dX4_isWithin_2 : decode cX4_isWithin 2 = .ok (.if_icmp .lt 12, 3) := by decide +kernel
theorem dX4_isWithin_5 : decode cX4_isWithin 5 = .ok (.iload_n 0, 1) := by decide +kernel
theorem dX4_isWithin_6 : decode cX4_isWithin 6 = .ok (.iload_n 2, 1) := by decide +kernel
theorem dX4_isWithin_7 : decode cX4_isWithin 7 = .ok (.if_icmp .gt 7, 3) := by decide +kernel
theorem dX4_isWithin_10 : decode cX4_isWithin 10 = .ok (.iconst 1, 1) := by decide +kernel
theorem dX4_isWithin_11 : decode cX4_isWithin 11 = .ok (.goto 4, 3) := by decide +kernel
theorem dX4_isWithin_14 : decode cX4_isWithin 14 = .ok (.iconst 0, 1) := by decide +kernel
theorem dX4_isWithin_15 : decode cX4_isWithin 15 = .ok (.ireturn, 1) := by decide +kernel
theorem dX4_isNumber_0 : decode cX4_isNumber 0 = .ok (.iload_n 0, 1) := by decide +kernel
theorem dX4_isNumber_1 : decode cX4_isNumber 1 = .ok (.iconst 0, 1) := by decide +kernel
theorem dX4_isNumber_2 : decode cX4_isNumber 2 = .ok (.sipush 250, 3) := by decide +kernel
theorem dX4_isNumber_5 : decode cX4_isNumber 5 = .ok (.invokestatic 96, 3) := by decide +kernel
theorem dX4_isNumber_8 : decode cX4_isNumber 8 = .ok (.ireturn, 1) := by decide +kernel
theorem dX4_stepsBehind_0 : decode cX4_stepsBehind 0 = .ok (.iload_n 0, 1) := by decide +kernel
theorem dX4_stepsBehind_1 : decode cX4_stepsBehind 1 = .ok (.istore_n 3, 1) := by decide +kernel
theorem dX4_stepsBehind_2 : decode cX4_stepsBehind 2 = .ok (.iconst 0, 1) := by decide +kernel
theorem dX4_stepsBehind_3 : decode cX4_stepsBehind 3 = .ok (.istore 4, 2) := by decide +kernel
theorem dX4_stepsBehind_5 : decode cX4_stepsBehind 5 = .ok (.iload 4, 2) := by decide +kernel
theorem dX4_stepsBehind_7 : decode cX4_stepsBehind 7 = .ok (.iload_n 2, 1) := by decide +kernel
theorem dX4_stepsBehind_8 : decode cX4_stepsBehind 8 = .ok (.if_icmp .ge 19, 3) := by decide +kernel
theorem dX4_stepsBehind_11 : decode cX4_stepsBehind 11 = .ok (.iload_n 3, 1) := by decide +kernel
theorem dX4_stepsBehind_12 : decode cX4_stepsBehind 12 = .ok (.iload_n 3, 1) := by decide +kernel
theorem dX4_stepsBehind_13 : decode cX4_stepsBehind 13 = .ok (.imul, 1) := by decide +kernel
theorem dX4_stepsBehind_14 : decode cX4_stepsBehind 14 = .ok (.iload_n 1, 1) := by decide +kernel
theorem dX4_stepsBehind_15 : decode cX4_stepsBehind 15 = .ok (.iadd, 1) := by decide +kernel
theorem dX4_stepsBehind_16 : decode cX4_stepsBehind 16 = .ok (.sipush 251, 3) := by decide +kernel
theorem dX4_stepsBehind_19 : decode cX4_stepsBehind 19 = .ok (.irem, 1) := by decide +kernel
theorem dX4_stepsBehind_20 : decode cX4_stepsBehind 20 = .ok (.istore_n 3, 1) := by decide +kernel
theorem dX4_stepsBehind_21 : decode cX4_stepsBehind 21 = .ok (.iinc 4 1, 3) := by decide +kernel
theorem dX4_stepsBehind_24 : decode cX4_stepsBehind 24 = .ok (.goto (-19), 3) := by decide +kernel
theorem dX4_stepsBehind_27 : decode cX4_stepsBehind 27 = .ok (.iload_n 3, 1) := by decide +kernel
theorem dX4_stepsBehind_28 : decode cX4_stepsBehind 28 = .ok (.ireturn, 1) := by decide +kernel
theorem dX4_returnOf_0 : decode cX4_returnOf 0 = .ok (.iload_n 0, 1) := by decide +kernel
theorem dX4_returnOf_1 : decode cX4_returnOf 1 = .ok (.istore_n 2, 1) := by decide +kernel
theorem dX4_returnOf_2 : decode cX4_returnOf 2 = .ok (.iconst 1, 1) := by decide +kernel
theorem dX4_returnOf_3 : decode cX4_returnOf 3 = .ok (.istore_n 3, 1) := by decide +kernel
theorem dX4_returnOf_4 : decode cX4_returnOf 4 = .ok (.iload_n 3, 1) := by decide +kernel
theorem dX4_returnOf_5 : decode cX4_returnOf 5 = .ok (.sipush 251, 3) := by decide +kernel
theorem dX4_returnOf_8 : decode cX4_returnOf 8 = .ok (.if_icmp .gt 23, 3) := by decide +kernel
theorem dX4_returnOf_11 : decode cX4_returnOf 11 = .ok (.iload_n 2, 1) := by decide +kernel
theorem dX4_returnOf_12 : decode cX4_returnOf 12 = .ok (.iload_n 1, 1) := by decide +kernel
theorem dX4_returnOf_13 : decode cX4_returnOf 13 = .ok (.iconst 1, 1) := by decide +kernel
theorem dX4_returnOf_14 : decode cX4_returnOf 14 = .ok (.invokestatic 100, 3) := by decide +kernel
theorem dX4_returnOf_17 : decode cX4_returnOf 17 = .ok (.istore_n 2, 1) := by decide +kernel
theorem dX4_returnOf_18 : decode cX4_returnOf 18 = .ok (.iload_n 2, 1) := by decide +kernel
theorem dX4_returnOf_19 : decode cX4_returnOf 19 = .ok (.iload_n 0, 1) := by decide +kernel
theorem dX4_returnOf_20 : decode cX4_returnOf 20 = .ok (.if_icmp .ne 5, 3) := by decide +kernel
theorem dX4_returnOf_23 : decode cX4_returnOf 23 = .ok (.iload_n 3, 1) := by decide +kernel
theorem dX4_returnOf_24 : decode cX4_returnOf 24 = .ok (.ireturn, 1) := by decide +kernel
theorem dX4_returnOf_25 : decode cX4_returnOf 25 = .ok (.iinc 3 1, 3) := by decide +kernel
theorem dX4_returnOf_28 : decode cX4_returnOf 28 = .ok (.goto (-24), 3) := by decide +kernel
theorem dX4_returnOf_31 : decode cX4_returnOf 31 = .ok (.iconst 0, 1) := by decide +kernel
theorem dX4_returnOf_32 : decode cX4_returnOf 32 = .ok (.ireturn, 1) := by decide +kernel
theorem dX4_tailOf_0 : decode cX4_tailOf 0 = .ok (.iload_n 0, 1) := by decide +kernel
theorem dX4_tailOf_1 : decode cX4_tailOf 1 = .ok (.istore_n 2, 1) := by decide +kernel
theorem dX4_tailOf_2 : decode cX4_tailOf 2 = .ok (.iconst 0, 1) := by decide +kernel
theorem dX4_tailOf_3 : decode cX4_tailOf 3 = .ok (.istore_n 3, 1) := by decide +kernel
theorem dX4_tailOf_4 : decode cX4_tailOf 4 = .ok (.iload_n 3, 1) := by decide +kernel
theorem dX4_tailOf_5 : decode cX4_tailOf 5 = .ok (.sipush 251, 3) := by decide +kernel
theorem dX4_tailOf_8 : decode cX4_tailOf 8 = .ok (.if_icmp .ge 26, 3) := by decide +kernel
theorem dX4_tailOf_11 : decode cX4_tailOf 11 = .ok (.iload_n 2, 1) := by decide +kernel
theorem dX4_tailOf_12 : decode cX4_tailOf 12 = .ok (.iload_n 1, 1) := by decide +kernel
theorem dX4_tailOf_13 : decode cX4_tailOf 13 = .ok (.invokestatic 216, 3) := by decide +kernel
theorem dX4_tailOf_16 : decode cX4_tailOf 16 = .ok (.ifCond .le 5, 3) := by decide +kernel
theorem dX4_tailOf_19 : decode cX4_tailOf 19 = .ok (.iload_n 3, 1) := by decide +kernel
theorem dX4_tailOf_20 : decode cX4_tailOf 20 = .ok (.ireturn, 1) := by decide +kernel
theorem dX4_tailOf_21 : decode cX4_tailOf 21 = .ok (.iload_n 2, 1) := by decide +kernel
theorem dX4_tailOf_22 : decode cX4_tailOf 22 = .ok (.iload_n 1, 1) := by decide +kernel
theorem dX4_tailOf_23 : decode cX4_tailOf 23 = .ok (.iconst 1, 1) := by decide +kernel
theorem dX4_tailOf_24 : decode cX4_tailOf 24 = .ok (.invokestatic 100, 3) := by decide +kernel
theorem dX4_tailOf_27 : decode cX4_tailOf 27 = .ok (.istore_n 2, 1) := by decide +kernel
theorem dX4_tailOf_28 : decode cX4_tailOf 28 = .ok (.iinc 3 1, 3) := by decide +kernel
theorem dX4_tailOf_31 : decode cX4_tailOf 31 = .ok (.goto (-27), 3) := by decide +kernel
theorem dX4_tailOf_34 : decode cX4_tailOf 34 = .ok (.sipush 251, 3) := by decide +kernel
theorem dX4_tailOf_37 : decode cX4_tailOf 37 = .ok (.ireturn, 1) := by decide +kernel
theorem dX4_loopOf_0 : decode cX4_loopOf 0 = .ok (.iload_n 0, 1) := by decide +kernel
theorem dX4_loopOf_1 : decode cX4_loopOf 1 = .ok (.iload_n 1, 1) := by decide +kernel
theorem dX4_loopOf_2 : decode cX4_loopOf 2 = .ok (.iload_n 0, 1) := by decide +kernel
theorem dX4_loopOf_3 : decode cX4_loopOf 3 = .ok (.iload_n 1, 1) := by decide +kernel
theorem dX4_loopOf_4 : decode cX4_loopOf 4 = .ok (.invokestatic 84, 3) := by decide +kernel
theorem dX4_loopOf_7 : decode cX4_loopOf 7 = .ok (.invokestatic 100, 3) := by decide +kernel
theorem dX4_loopOf_10 : decode cX4_loopOf 10 = .ok (.iload_n 1, 1) := by decide +kernel
theorem dX4_loopOf_11 : decode cX4_loopOf 11 = .ok (.invokestatic 216, 3) := by decide +kernel
theorem dX4_loopOf_14 : decode cX4_loopOf 14 = .ok (.ireturn, 1) := by decide +kernel
theorem dX4_power_0 : decode cX4_power 0 = .ok (.lconst 1, 1) := by decide +kernel
theorem dX4_power_1 : decode cX4_power 1 = .ok (.lstore_n 2, 1) := by decide +kernel
theorem dX4_power_2 : decode cX4_power 2 = .ok (.iconst 0, 1) := by decide +kernel
theorem dX4_power_3 : decode cX4_power 3 = .ok (.istore 4, 2) := by decide +kernel
theorem dX4_power_5 : decode cX4_power 5 = .ok (.iload 4, 2) := by decide +kernel
theorem dX4_power_7 : decode cX4_power 7 = .ok (.iload_n 1, 1) := by decide +kernel
theorem dX4_power_8 : decode cX4_power 8 = .ok (.if_icmp .ge 14, 3) := by decide +kernel
theorem dX4_power_11 : decode cX4_power 11 = .ok (.lload_n 2, 1) := by decide +kernel
theorem dX4_power_12 : decode cX4_power 12 = .ok (.iload_n 0, 1) := by decide +kernel
theorem dX4_power_13 : decode cX4_power 13 = .ok (.i2l, 1) := by decide +kernel
theorem dX4_power_14 : decode cX4_power 14 = .ok (.lmul, 1) := by decide +kernel
theorem dX4_power_15 : decode cX4_power 15 = .ok (.lstore_n 2, 1) := by decide +kernel
theorem dX4_power_16 : decode cX4_power 16 = .ok (.iinc 4 1, 3) := by decide +kernel
theorem dX4_power_19 : decode cX4_power 19 = .ok (.goto (-14), 3) := by decide +kernel
theorem dX4_power_22 : decode cX4_power 22 = .ok (.lload_n 2, 1) := by decide +kernel
theorem dX4_power_23 : decode cX4_power 23 = .ok (.lreturn, 1) := by decide +kernel
theorem dX4_toldFraction_0 : decode cX4_toldFraction 0 = .ok (.lload_n 0, 1) := by decide +kernel
theorem dX4_toldFraction_1 : decode cX4_toldFraction 1 = .ok (.lload_n 2, 1) := by decide +kernel
theorem dX4_toldFraction_2 : decode cX4_toldFraction 2 = .ok (.invokestatic 219, 3) := by decide +kernel
theorem dX4_toldFraction_5 : decode cX4_toldFraction 5 = .ok (.lstore 5, 2) := by decide +kernel
theorem dX4_toldFraction_7 : decode cX4_toldFraction 7 = .ok (.lload 5, 2) := by decide +kernel
theorem dX4_toldFraction_9 : decode cX4_toldFraction 9 = .ok (.lconst 0, 1) := by decide +kernel
theorem dX4_toldFraction_10 : decode cX4_toldFraction 10 = .ok (.lcmp, 1) := by decide +kernel
theorem dX4_toldFraction_11 : decode cX4_toldFraction 11 = .ok (.ifCond .ne 5, 3) := by decide +kernel
theorem dX4_toldFraction_14 : decode cX4_toldFraction 14 = .ok (.iconst 0, 1) := by decide +kernel
theorem dX4_toldFraction_15 : decode cX4_toldFraction 15 = .ok (.ireturn, 1) := by decide +kernel
theorem dX4_toldFraction_16 : decode cX4_toldFraction 16 = .ok (.iload 4, 2) := by decide +kernel
theorem dX4_toldFraction_18 : decode cX4_toldFraction 18 = .ok (.ifCond .eq 7, 3) := by decide +kernel
theorem dX4_toldFraction_21 : decode cX4_toldFraction 21 = .ok (.lload_n 0, 1) := by decide +kernel
theorem dX4_toldFraction_22 : decode cX4_toldFraction 22 = .ok (.goto 4, 3) := by decide +kernel
theorem dX4_toldFraction_25 : decode cX4_toldFraction 25 = .ok (.lload_n 2, 1) := by decide +kernel
theorem dX4_toldFraction_26 : decode cX4_toldFraction 26 = .ok (.lload 5, 2) := by decide +kernel
theorem dX4_toldFraction_28 : decode cX4_toldFraction 28 = .ok (.ldiv, 1) := by decide +kernel
theorem dX4_toldFraction_29 : decode cX4_toldFraction 29 = .ok (.l2i, 1) := by decide +kernel
theorem dX4_toldFraction_30 : decode cX4_toldFraction 30 = .ok (.ireturn, 1) := by decide +kernel
theorem dX4_commonDivisor_0 : decode cX4_commonDivisor 0 = .ok (.lload_n 0, 1) := by decide +kernel
theorem dX4_commonDivisor_1 : decode cX4_commonDivisor 1 = .ok (.lstore 4, 2) := by decide +kernel
theorem dX4_commonDivisor_3 : decode cX4_commonDivisor 3 = .ok (.lload_n 2, 1) := by decide +kernel
theorem dX4_commonDivisor_4 : decode cX4_commonDivisor 4 = .ok (.lstore 6, 2) := by decide +kernel
theorem dX4_commonDivisor_6 : decode cX4_commonDivisor 6 = .ok (.iconst 0, 1) := by decide +kernel
theorem dX4_commonDivisor_7 : decode cX4_commonDivisor 7 = .ok (.istore 8, 2) := by decide +kernel
theorem dX4_commonDivisor_9 : decode cX4_commonDivisor 9 = .ok (.iload 8, 2) := by decide +kernel
theorem dX4_commonDivisor_11 : decode cX4_commonDivisor 11 = .ok (.bipush 100, 2) := by decide +kernel
theorem dX4_commonDivisor_13 : decode cX4_commonDivisor 13 = .ok (.if_icmp .ge 31, 3) := by decide +kernel
theorem dX4_commonDivisor_16 : decode cX4_commonDivisor 16 = .ok (.lload 6, 2) := by decide +kernel
theorem dX4_commonDivisor_18 : decode cX4_commonDivisor 18 = .ok (.lconst 0, 1) := by decide +kernel
theorem dX4_commonDivisor_19 : decode cX4_commonDivisor 19 = .ok (.lcmp, 1) := by decide +kernel
theorem dX4_commonDivisor_20 : decode cX4_commonDivisor 20 = .ok (.ifCond .eq 24, 3) := by decide +kernel
theorem dX4_commonDivisor_23 : decode cX4_commonDivisor 23 = .ok (.lload 4, 2) := by decide +kernel
theorem dX4_commonDivisor_25 : decode cX4_commonDivisor 25 = .ok (.lload 6, 2) := by decide +kernel
theorem dX4_commonDivisor_27 : decode cX4_commonDivisor 27 = .ok (.lrem, 1) := by decide +kernel
theorem dX4_commonDivisor_28 : decode cX4_commonDivisor 28 = .ok (.lstore 9, 2) := by decide +kernel
theorem dX4_commonDivisor_30 : decode cX4_commonDivisor 30 = .ok (.lload 6, 2) := by decide +kernel
theorem dX4_commonDivisor_32 : decode cX4_commonDivisor 32 = .ok (.lstore 4, 2) := by decide +kernel
theorem dX4_commonDivisor_34 : decode cX4_commonDivisor 34 = .ok (.lload 9, 2) := by decide +kernel
theorem dX4_commonDivisor_36 : decode cX4_commonDivisor 36 = .ok (.lstore 6, 2) := by decide +kernel
theorem dX4_commonDivisor_38 : decode cX4_commonDivisor 38 = .ok (.iinc 8 1, 3) := by decide +kernel
theorem dX4_commonDivisor_41 : decode cX4_commonDivisor 41 = .ok (.goto (-32), 3) := by decide +kernel
theorem dX4_commonDivisor_44 : decode cX4_commonDivisor 44 = .ok (.lload 4, 2) := by decide +kernel
theorem dX4_commonDivisor_46 : decode cX4_commonDivisor 46 = .ok (.lreturn, 1) := by decide +kernel
theorem dX4_withoutDoings_0 : decode cX4_withoutDoings 0 = .ok (.lload_n 0, 1) := by decide +kernel
theorem dX4_withoutDoings_1 : decode cX4_withoutDoings 1 = .ok (.lstore_n 3, 1) := by decide +kernel
theorem dX4_withoutDoings_2 : decode cX4_withoutDoings 2 = .ok (.iconst 0, 1) := by decide +kernel
theorem dX4_withoutDoings_3 : decode cX4_withoutDoings 3 = .ok (.istore 5, 2) := by decide +kernel
theorem dX4_withoutDoings_5 : decode cX4_withoutDoings 5 = .ok (.iload 5, 2) := by decide +kernel
theorem dX4_withoutDoings_7 : decode cX4_withoutDoings 7 = .ok (.iload_n 2, 1) := by decide +kernel
theorem dX4_withoutDoings_8 : decode cX4_withoutDoings 8 = .ok (.if_icmp .ge 15, 3) := by decide +kernel
theorem dX4_withoutDoings_11 : decode cX4_withoutDoings 11 = .ok (.lload_n 3, 1) := by decide +kernel
theorem dX4_withoutDoings_12 : decode cX4_withoutDoings 12 = .ok (.ldc2_w 168, 3) := by decide +kernel
theorem dX4_withoutDoings_15 : decode cX4_withoutDoings 15 = .ok (.ldiv, 1) := by decide +kernel
theorem dX4_withoutDoings_16 : decode cX4_withoutDoings 16 = .ok (.lstore_n 3, 1) := by decide +kernel
theorem dX4_withoutDoings_17 : decode cX4_withoutDoings 17 = .ok (.iinc 5 1, 3) := by decide +kernel
theorem dX4_withoutDoings_20 : decode cX4_withoutDoings 20 = .ok (.goto (-15), 3) := by decide +kernel
theorem dX4_withoutDoings_23 : decode cX4_withoutDoings 23 = .ok (.lload_n 3, 1) := by decide +kernel
theorem dX4_withoutDoings_24 : decode cX4_withoutDoings 24 = .ok (.lreturn, 1) := by decide +kernel
theorem dX4_isSo_0 : decode cX4_isSo 0 = .ok (.iload_n 1, 1) := by decide +kernel
theorem dX4_isSo_1 : decode cX4_isSo 1 = .ok (.bipush 100, 2) := by decide +kernel
theorem dX4_isSo_3 : decode cX4_isSo 3 = .ok (.idiv, 1) := by decide +kernel
theorem dX4_isSo_4 : decode cX4_isSo 4 = .ok (.bipush 10, 2) := by decide +kernel
theorem dX4_isSo_6 : decode cX4_isSo 6 = .ok (.irem, 1) := by decide +kernel
theorem dX4_isSo_7 : decode cX4_isSo 7 = .ok (.istore_n 2, 1) := by decide +kernel
theorem dX4_isSo_8 : decode cX4_isSo 8 = .ok (.iload_n 1, 1) := by decide +kernel
theorem dX4_isSo_9 : decode cX4_isSo 9 = .ok (.bipush 100, 2) := by decide +kernel
theorem dX4_isSo_11 : decode cX4_isSo 11 = .ok (.irem, 1) := by decide +kernel
theorem dX4_isSo_12 : decode cX4_isSo 12 = .ok (.istore_n 3, 1) := by decide +kernel
theorem dX4_isSo_13 : decode cX4_isSo 13 = .ok (.iload_n 1, 1) := by decide +kernel
theorem dX4_isSo_14 : decode cX4_isSo 14 = .ok (.sipush 1000, 3) := by decide +kernel
theorem dX4_isSo_17 : decode cX4_isSo 17 = .ok (.idiv, 1) := by decide +kernel
theorem dX4_isSo_18 : decode cX4_isSo 18 = .ok (.tableswitch 234 1 7 #[42, 60, 81, 111, 141, 173, 216], 42) := by decide +kernel
theorem dX4_isSo_60 : decode cX4_isSo 60 = .ok (.iload_n 3, 1) := by decide +kernel
theorem dX4_isSo_61 : decode cX4_isSo 61 = .ok (.ifCond .ne 15, 3) := by decide +kernel
theorem dX4_isSo_64 : decode cX4_isSo 64 = .ok (.aload_n 0, 1) := by decide +kernel
theorem dX4_isSo_65 : decode cX4_isSo 65 = .ok (.iload_n 2, 1) := by decide +kernel
theorem dX4_isSo_66 : decode cX4_isSo 66 = .ok (.invokevirtual 223, 3) := by decide +kernel
theorem dX4_isSo_69 : decode cX4_isSo 69 = .ok (.ifCond .eq 7, 3) := by decide +kernel
theorem dX4_isSo_72 : decode cX4_isSo 72 = .ok (.iconst 1, 1) := by decide +kernel
theorem dX4_isSo_73 : decode cX4_isSo 73 = .ok (.goto 4, 3) := by decide +kernel
theorem dX4_isSo_76 : decode cX4_isSo 76 = .ok (.iconst 0, 1) := by decide +kernel
theorem dX4_isSo_77 : decode cX4_isSo 77 = .ok (.ireturn, 1) := by decide +kernel
theorem dX4_isSo_78 : decode cX4_isSo 78 = .ok (.iload_n 3, 1) := by decide +kernel
theorem dX4_isSo_79 : decode cX4_isSo 79 = .ok (.ifCond .ne 18, 3) := by decide +kernel
theorem dX4_isSo_82 : decode cX4_isSo 82 = .ok (.aload_n 0, 1) := by decide +kernel
theorem dX4_isSo_83 : decode cX4_isSo 83 = .ok (.getfield 23, 3) := by decide +kernel
theorem dX4_isSo_86 : decode cX4_isSo 86 = .ok (.iload_n 2, 1) := by decide +kernel
theorem dX4_isSo_87 : decode cX4_isSo 87 = .ok (.invokevirtual 113, 3) := by decide +kernel
theorem dX4_isSo_90 : decode cX4_isSo 90 = .ok (.ifCond .eq 7, 3) := by decide +kernel
theorem dX4_isSo_93 : decode cX4_isSo 93 = .ok (.iconst 1, 1) := by decide +kernel
theorem dX4_isSo_94 : decode cX4_isSo 94 = .ok (.goto 4, 3) := by decide +kernel
theorem dX4_isSo_97 : decode cX4_isSo 97 = .ok (.iconst 0, 1) := by decide +kernel
theorem dX4_isSo_98 : decode cX4_isSo 98 = .ok (.ireturn, 1) := by decide +kernel
theorem dX4_isSo_99 : decode cX4_isSo 99 = .ok (.aload_n 0, 1) := by decide +kernel
theorem dX4_isSo_100 : decode cX4_isSo 100 = .ok (.getfield 23, 3) := by decide +kernel
theorem dX4_isSo_103 : decode cX4_isSo 103 = .ok (.iload_n 2, 1) := by decide +kernel
theorem dX4_isSo_104 : decode cX4_isSo 104 = .ok (.invokevirtual 67, 3) := by decide +kernel
theorem dX4_isSo_107 : decode cX4_isSo 107 = .ok (.ifCond .eq 20, 3) := by decide +kernel
theorem dX4_isSo_110 : decode cX4_isSo 110 = .ok (.aload_n 0, 1) := by decide +kernel
theorem dX4_isSo_111 : decode cX4_isSo 111 = .ok (.getfield 23, 3) := by decide +kernel
theorem dX4_isSo_114 : decode cX4_isSo 114 = .ok (.iload_n 2, 1) := by decide +kernel
theorem dX4_isSo_115 : decode cX4_isSo 115 = .ok (.iconst 3, 1) := by decide +kernel
theorem dX4_isSo_116 : decode cX4_isSo 116 = .ok (.invokevirtual 70, 3) := by decide +kernel
theorem dX4_isSo_119 : decode cX4_isSo 119 = .ok (.iload_n 3, 1) := by decide +kernel
theorem dX4_isSo_120 : decode cX4_isSo 120 = .ok (.if_icmp .ne 7, 3) := by decide +kernel
theorem dX4_isSo_123 : decode cX4_isSo 123 = .ok (.iconst 1, 1) := by decide +kernel
theorem dX4_isSo_124 : decode cX4_isSo 124 = .ok (.goto 4, 3) := by decide +kernel
theorem dX4_isSo_127 : decode cX4_isSo 127 = .ok (.iconst 0, 1) := by decide +kernel
theorem dX4_isSo_128 : decode cX4_isSo 128 = .ok (.ireturn, 1) := by decide +kernel
theorem dX4_isSo_129 : decode cX4_isSo 129 = .ok (.aload_n 0, 1) := by decide +kernel
theorem dX4_isSo_130 : decode cX4_isSo 130 = .ok (.getfield 23, 3) := by decide +kernel
theorem dX4_isSo_133 : decode cX4_isSo 133 = .ok (.iload_n 2, 1) := by decide +kernel
theorem dX4_isSo_134 : decode cX4_isSo 134 = .ok (.invokevirtual 67, 3) := by decide +kernel
theorem dX4_isSo_137 : decode cX4_isSo 137 = .ok (.ifCond .eq 20, 3) := by decide +kernel
theorem dX4_isSo_140 : decode cX4_isSo 140 = .ok (.aload_n 0, 1) := by decide +kernel
theorem dX4_isSo_141 : decode cX4_isSo 141 = .ok (.getfield 23, 3) := by decide +kernel
theorem dX4_isSo_144 : decode cX4_isSo 144 = .ok (.iload_n 2, 1) := by decide +kernel
theorem dX4_isSo_145 : decode cX4_isSo 145 = .ok (.iconst 5, 1) := by decide +kernel
theorem dX4_isSo_146 : decode cX4_isSo 146 = .ok (.invokevirtual 70, 3) := by decide +kernel
theorem dX4_isSo_149 : decode cX4_isSo 149 = .ok (.iload_n 3, 1) := by decide +kernel
theorem dX4_isSo_150 : decode cX4_isSo 150 = .ok (.if_icmp .ne 7, 3) := by decide +kernel
theorem dX4_isSo_153 : decode cX4_isSo 153 = .ok (.iconst 1, 1) := by decide +kernel
theorem dX4_isSo_154 : decode cX4_isSo 154 = .ok (.goto 4, 3) := by decide +kernel
theorem dX4_isSo_157 : decode cX4_isSo 157 = .ok (.iconst 0, 1) := by decide +kernel
theorem dX4_isSo_158 : decode cX4_isSo 158 = .ok (.ireturn, 1) := by decide +kernel
theorem dX4_isSo_159 : decode cX4_isSo 159 = .ok (.iload_n 1, 1) := by decide +kernel
theorem dX4_isSo_160 : decode cX4_isSo 160 = .ok (.sipush 1000, 3) := by decide +kernel
theorem dX4_isSo_163 : decode cX4_isSo 163 = .ok (.irem, 1) := by decide +kernel
theorem dX4_isSo_164 : decode cX4_isSo 164 = .ok (.invokestatic 93, 3) := by decide +kernel
theorem dX4_isSo_167 : decode cX4_isSo 167 = .ok (.ifCond .eq 22, 3) := by decide +kernel
theorem dX4_isSo_170 : decode cX4_isSo 170 = .ok (.aload_n 0, 1) := by decide +kernel
theorem dX4_isSo_171 : decode cX4_isSo 171 = .ok (.getfield 23, 3) := by decide +kernel
theorem dX4_isSo_174 : decode cX4_isSo 174 = .ok (.iload_n 1, 1) := by decide +kernel
theorem dX4_isSo_175 : decode cX4_isSo 175 = .ok (.sipush 1000, 3) := by decide +kernel
theorem dX4_isSo_178 : decode cX4_isSo 178 = .ok (.irem, 1) := by decide +kernel
theorem dX4_isSo_179 : decode cX4_isSo 179 = .ok (.invokevirtual 185, 3) := by decide +kernel
theorem dX4_isSo_182 : decode cX4_isSo 182 = .ok (.ifCond .le 7, 3) := by decide +kernel
theorem dX4_isSo_185 : decode cX4_isSo 185 = .ok (.iconst 1, 1) := by decide +kernel
theorem dX4_isSo_186 : decode cX4_isSo 186 = .ok (.goto 4, 3) := by decide +kernel
theorem dX4_isSo_189 : decode cX4_isSo 189 = .ok (.iconst 0, 1) := by decide +kernel
theorem dX4_isSo_190 : decode cX4_isSo 190 = .ok (.ireturn, 1) := by decide +kernel
theorem dX4_isSo_191 : decode cX4_isSo 191 = .ok (.iload_n 3, 1) := by decide +kernel
theorem dX4_isSo_192 : decode cX4_isSo 192 = .ok (.iconst 1, 1) := by decide +kernel
theorem dX4_isSo_193 : decode cX4_isSo 193 = .ok (.if_icmp .gt 39, 3) := by decide +kernel
theorem dX4_isSo_196 : decode cX4_isSo 196 = .ok (.aload_n 0, 1) := by decide +kernel
theorem dX4_isSo_197 : decode cX4_isSo 197 = .ok (.getfield 23, 3) := by decide +kernel
theorem dX4_isSo_200 : decode cX4_isSo 200 = .ok (.iload_n 2, 1) := by decide +kernel
theorem dX4_isSo_201 : decode cX4_isSo 201 = .ok (.invokevirtual 67, 3) := by decide +kernel
theorem dX4_isSo_204 : decode cX4_isSo 204 = .ok (.ifCond .eq 28, 3) := by decide +kernel
theorem dX4_isSo_207 : decode cX4_isSo 207 = .ok (.aload_n 0, 1) := by decide +kernel
theorem dX4_isSo_208 : decode cX4_isSo 208 = .ok (.getfield 23, 3) := by decide +kernel
theorem dX4_isSo_211 : decode cX4_isSo 211 = .ok (.iload_n 2, 1) := by decide +kernel
theorem dX4_isSo_212 : decode cX4_isSo 212 = .ok (.invokevirtual 74, 3) := by decide +kernel
theorem dX4_isSo_215 : decode cX4_isSo 215 = .ok (.iload_n 3, 1) := by decide +kernel
theorem dX4_isSo_216 : decode cX4_isSo 216 = .ok (.iconst 1, 1) := by decide +kernel
theorem dX4_isSo_217 : decode cX4_isSo 217 = .ok (.if_icmp .ne 7, 3) := by decide +kernel
theorem dX4_isSo_220 : decode cX4_isSo 220 = .ok (.iconst 1, 1) := by decide +kernel
theorem dX4_isSo_221 : decode cX4_isSo 221 = .ok (.goto 4, 3) := by decide +kernel
theorem dX4_isSo_224 : decode cX4_isSo 224 = .ok (.iconst 0, 1) := by decide +kernel
theorem dX4_isSo_225 : decode cX4_isSo 225 = .ok (.if_icmp .ne 7, 3) := by decide +kernel
theorem dX4_isSo_228 : decode cX4_isSo 228 = .ok (.iconst 1, 1) := by decide +kernel
theorem dX4_isSo_229 : decode cX4_isSo 229 = .ok (.goto 4, 3) := by decide +kernel
theorem dX4_isSo_232 : decode cX4_isSo 232 = .ok (.iconst 0, 1) := by decide +kernel
theorem dX4_isSo_233 : decode cX4_isSo 233 = .ok (.ireturn, 1) := by decide +kernel
theorem dX4_isSo_234 : decode cX4_isSo 234 = .ok (.iload_n 3, 1) := by decide +kernel
theorem dX4_isSo_235 : decode cX4_isSo 235 = .ok (.ifCond .ne 15, 3) := by decide +kernel
theorem dX4_isSo_238 : decode cX4_isSo 238 = .ok (.aload_n 0, 1) := by decide +kernel
theorem dX4_isSo_239 : decode cX4_isSo 239 = .ok (.iload_n 2, 1) := by decide +kernel
theorem dX4_isSo_240 : decode cX4_isSo 240 = .ok (.invokevirtual 226, 3) := by decide +kernel
theorem dX4_isSo_243 : decode cX4_isSo 243 = .ok (.ifCond .eq 7, 3) := by decide +kernel
theorem dX4_isSo_246 : decode cX4_isSo 246 = .ok (.iconst 1, 1) := by decide +kernel
theorem dX4_isSo_247 : decode cX4_isSo 247 = .ok (.goto 4, 3) := by decide +kernel
theorem dX4_isSo_250 : decode cX4_isSo 250 = .ok (.iconst 0, 1) := by decide +kernel
theorem dX4_isSo_251 : decode cX4_isSo 251 = .ok (.ireturn, 1) := by decide +kernel
theorem dX4_isSo_252 : decode cX4_isSo 252 = .ok (.iconst 0, 1) := by decide +kernel
theorem dX4_isSo_253 : decode cX4_isSo 253 = .ok (.ireturn, 1) := by decide +kernel
theorem dX4_sendInMind_0 : decode cX4_sendInMind 0 = .ok (.aload_n 0, 1) := by decide +kernel
theorem dX4_sendInMind_1 : decode cX4_sendInMind 1 = .ok (.getfield 23, 3) := by decide +kernel
theorem dX4_sendInMind_4 : decode cX4_sendInMind 4 = .ok (.iload_n 1, 1) := by decide +kernel
theorem dX4_sendInMind_5 : decode cX4_sendInMind 5 = .ok (.invokevirtual 104, 3) := by decide +kernel
theorem dX4_sendInMind_8 : decode cX4_sendInMind 8 = .ok (.istore_n 2, 1) := by decide +kernel
theorem dX4_sendInMind_9 : decode cX4_sendInMind 9 = .ok (.iload_n 2, 1) := by decide +kernel
theorem dX4_sendInMind_10 : decode cX4_sendInMind 10 = .ok (.ifCond .eq 12, 3) := by decide +kernel
theorem dX4_sendInMind_13 : decode cX4_sendInMind 13 = .ok (.aload_n 0, 1) := by decide +kernel
theorem dX4_sendInMind_14 : decode cX4_sendInMind 14 = .ok (.getfield 23, 3) := by decide +kernel
theorem dX4_sendInMind_17 : decode cX4_sendInMind 17 = .ok (.iload_n 1, 1) := by decide +kernel
theorem dX4_sendInMind_18 : decode cX4_sendInMind 18 = .ok (.invokevirtual 110, 3) := by decide +kernel
theorem dX4_sendInMind_21 : decode cX4_sendInMind 21 = .ok (.pop, 1) := by decide +kernel
theorem dX4_sendInMind_22 : decode cX4_sendInMind 22 = .ok (.iload_n 2, 1) := by decide +kernel
theorem dX4_sendInMind_23 : decode cX4_sendInMind 23 = .ok (.ireturn, 1) := by decide +kernel
theorem dX4_widenInMind_0 : decode cX4_widenInMind 0 = .ok (.iload_n 1, 1) := by decide +kernel
theorem dX4_widenInMind_1 : decode cX4_widenInMind 1 = .ok (.iconst 1, 1) := by decide +kernel
theorem dX4_widenInMind_2 : decode cX4_widenInMind 2 = .ok (.bipush 6, 2) := by decide +kernel
theorem dX4_widenInMind_4 : decode cX4_widenInMind 4 = .ok (.invokestatic 96, 3) := by decide +kernel
theorem dX4_widenInMind_7 : decode cX4_widenInMind 7 = .ok (.istore_n 2, 1) := by decide +kernel
theorem dX4_widenInMind_8 : decode cX4_widenInMind 8 = .ok (.iload_n 2, 1) := by decide +kernel
theorem dX4_widenInMind_9 : decode cX4_widenInMind 9 = .ok (.ifCond .eq 11, 3) := by decide +kernel
theorem dX4_widenInMind_12 : decode cX4_widenInMind 12 = .ok (.aload_n 0, 1) := by decide +kernel
theorem dX4_widenInMind_13 : decode cX4_widenInMind 13 = .ok (.getfield 23, 3) := by decide +kernel
theorem dX4_widenInMind_16 : decode cX4_widenInMind 16 = .ok (.iload_n 1, 1) := by decide +kernel
theorem dX4_widenInMind_17 : decode cX4_widenInMind 17 = .ok (.invokevirtual 138, 3) := by decide +kernel
theorem dX4_widenInMind_20 : decode cX4_widenInMind 20 = .ok (.iload_n 2, 1) := by decide +kernel
theorem dX4_widenInMind_21 : decode cX4_widenInMind 21 = .ok (.ireturn, 1) := by decide +kernel
theorem dX4_weightInStep_0 : decode cX4_weightInStep 0 = .ok (.aload_n 0, 1) := by decide +kernel
theorem dX4_weightInStep_1 : decode cX4_weightInStep 1 = .ok (.getfield 23, 3) := by decide +kernel
theorem dX4_weightInStep_4 : decode cX4_weightInStep 4 = .ok (.aload_n 0, 1) := by decide +kernel
theorem dX4_weightInStep_5 : decode cX4_weightInStep 5 = .ok (.getfield 19, 3) := by decide +kernel
theorem dX4_weightInStep_8 : decode cX4_weightInStep 8 = .ok (.invokevirtual 56, 3) := by decide +kernel
theorem dX4_weightInStep_11 : decode cX4_weightInStep 11 = .ok (.lconst 1, 1) := by decide +kernel
theorem dX4_weightInStep_12 : decode cX4_weightInStep 12 = .ok (.lstore 5, 2) := by decide +kernel
theorem dX4_weightInStep_14 : decode cX4_weightInStep 14 = .ok (.iconst 0, 1) := by decide +kernel
theorem dX4_weightInStep_15 : decode cX4_weightInStep 15 = .ok (.istore 7, 2) := by decide +kernel
theorem dX4_weightInStep_17 : decode cX4_weightInStep 17 = .ok (.iload 7, 2) := by decide +kernel
theorem dX4_weightInStep_19 : decode cX4_weightInStep 19 = .ok (.iload_n 2, 1) := by decide +kernel
theorem dX4_weightInStep_20 : decode cX4_weightInStep 20 = .ok (.if_icmp .ge 58, 3) := by decide +kernel
theorem dX4_weightInStep_23 : decode cX4_weightInStep 23 = .ok (.iload 4, 2) := by decide +kernel
theorem dX4_weightInStep_25 : decode cX4_weightInStep 25 = .ok (.iload 7, 2) := by decide +kernel
theorem dX4_weightInStep_27 : decode cX4_weightInStep 27 = .ok (.ishr, 1) := by decide +kernel
theorem dX4_weightInStep_28 : decode cX4_weightInStep 28 = .ok (.iconst 1, 1) := by decide +kernel
theorem dX4_weightInStep_29 : decode cX4_weightInStep 29 = .ok (.iand, 1) := by decide +kernel
theorem dX4_weightInStep_30 : decode cX4_weightInStep 30 = .ok (.iconst 1, 1) := by decide +kernel
theorem dX4_weightInStep_31 : decode cX4_weightInStep 31 = .ok (.if_icmp .ne 22, 3) := by decide +kernel
theorem dX4_weightInStep_34 : decode cX4_weightInStep 34 = .ok (.aload_n 0, 1) := by decide +kernel
theorem dX4_weightInStep_35 : decode cX4_weightInStep 35 = .ok (.getfield 23, 3) := by decide +kernel
theorem dX4_weightInStep_38 : decode cX4_weightInStep 38 = .ok (.iload_n 1, 1) := by decide +kernel
theorem dX4_weightInStep_39 : decode cX4_weightInStep 39 = .ok (.invokevirtual 113, 3) := by decide +kernel
theorem dX4_weightInStep_42 : decode cX4_weightInStep 42 = .ok (.pop, 1) := by decide +kernel
theorem dX4_weightInStep_43 : decode cX4_weightInStep 43 = .ok (.lload 5, 2) := by decide +kernel
theorem dX4_weightInStep_45 : decode cX4_weightInStep 45 = .ok (.iload_n 3, 1) := by decide +kernel
theorem dX4_weightInStep_46 : decode cX4_weightInStep 46 = .ok (.i2l, 1) := by decide +kernel
theorem dX4_weightInStep_47 : decode cX4_weightInStep 47 = .ok (.lmul, 1) := by decide +kernel
theorem dX4_weightInStep_48 : decode cX4_weightInStep 48 = .ok (.lstore 5, 2) := by decide +kernel
theorem dX4_weightInStep_50 : decode cX4_weightInStep 50 = .ok (.goto 22, 3) := by decide +kernel
theorem dX4_weightInStep_53 : decode cX4_weightInStep 53 = .ok (.aload_n 0, 1) := by decide +kernel
theorem dX4_weightInStep_54 : decode cX4_weightInStep 54 = .ok (.getfield 23, 3) := by decide +kernel
theorem dX4_weightInStep_57 : decode cX4_weightInStep 57 = .ok (.iload_n 1, 1) := by decide +kernel
theorem dX4_weightInStep_58 : decode cX4_weightInStep 58 = .ok (.invokevirtual 110, 3) := by decide +kernel
theorem dX4_weightInStep_61 : decode cX4_weightInStep 61 = .ok (.pop, 1) := by decide +kernel
theorem dX4_weightInStep_62 : decode cX4_weightInStep 62 = .ok (.lload 5, 2) := by decide +kernel
theorem dX4_weightInStep_64 : decode cX4_weightInStep 64 = .ok (.bipush 10, 2) := by decide +kernel
theorem dX4_weightInStep_66 : decode cX4_weightInStep 66 = .ok (.iload_n 3, 1) := by decide +kernel
theorem dX4_weightInStep_67 : decode cX4_weightInStep 67 = .ok (.isub, 1) := by decide +kernel
theorem dX4_weightInStep_68 : decode cX4_weightInStep 68 = .ok (.i2l, 1) := by decide +kernel
theorem dX4_weightInStep_69 : decode cX4_weightInStep 69 = .ok (.lmul, 1) := by decide +kernel
theorem dX4_weightInStep_70 : decode cX4_weightInStep 70 = .ok (.lstore 5, 2) := by decide +kernel
theorem dX4_weightInStep_72 : decode cX4_weightInStep 72 = .ok (.iinc 7 1, 3) := by decide +kernel
theorem dX4_weightInStep_75 : decode cX4_weightInStep 75 = .ok (.goto (-58), 3) := by decide +kernel
theorem dX4_weightInStep_78 : decode cX4_weightInStep 78 = .ok (.aload_n 0, 1) := by decide +kernel
theorem dX4_weightInStep_79 : decode cX4_weightInStep 79 = .ok (.getfield 23, 3) := by decide +kernel
theorem dX4_weightInStep_82 : decode cX4_weightInStep 82 = .ok (.iload_n 1, 1) := by decide +kernel
theorem dX4_weightInStep_83 : decode cX4_weightInStep 83 = .ok (.invokevirtual 74, 3) := by decide +kernel
theorem dX4_weightInStep_86 : decode cX4_weightInStep 86 = .ok (.ifCond .eq 8, 3) := by decide +kernel
theorem dX4_weightInStep_89 : decode cX4_weightInStep 89 = .ok (.lload 5, 2) := by decide +kernel
theorem dX4_weightInStep_91 : decode cX4_weightInStep 91 = .ok (.goto 4, 3) := by decide +kernel
theorem dX4_weightInStep_94 : decode cX4_weightInStep 94 = .ok (.lconst 0, 1) := by decide +kernel
theorem dX4_weightInStep_95 : decode cX4_weightInStep 95 = .ok (.lreturn, 1) := by decide +kernel
theorem dX4_isTakenOnDay_0 : decode cX4_isTakenOnDay 0 = .ok (.iload_n 1, 1) := by decide +kernel
theorem dX4_isTakenOnDay_1 : decode cX4_isTakenOnDay 1 = .ok (.iconst 4, 1) := by decide +kernel
theorem dX4_isTakenOnDay_2 : decode cX4_isTakenOnDay 2 = .ok (.irem, 1) := by decide +kernel
theorem dX4_isTakenOnDay_3 : decode cX4_isTakenOnDay 3 = .ok (.istore_n 2, 1) := by decide +kernel
theorem dX4_isTakenOnDay_4 : decode cX4_isTakenOnDay 4 = .ok (.aload_n 0, 1) := by decide +kernel
theorem dX4_isTakenOnDay_5 : decode cX4_isTakenOnDay 5 = .ok (.getfield 23, 3) := by decide +kernel
theorem dX4_isTakenOnDay_8 : decode cX4_isTakenOnDay 8 = .ok (.iload_n 2, 1) := by decide +kernel
theorem dX4_isTakenOnDay_9 : decode cX4_isTakenOnDay 9 = .ok (.invokevirtual 104, 3) := by decide +kernel
theorem dX4_isTakenOnDay_12 : decode cX4_isTakenOnDay 12 = .ok (.ifCond .ne 5, 3) := by decide +kernel
theorem dX4_isTakenOnDay_15 : decode cX4_isTakenOnDay 15 = .ok (.iconst 0, 1) := by decide +kernel
theorem dX4_isTakenOnDay_16 : decode cX4_isTakenOnDay 16 = .ok (.ireturn, 1) := by decide +kernel
theorem dX4_isTakenOnDay_17 : decode cX4_isTakenOnDay 17 = .ok (.iload_n 1, 1) := by decide +kernel
theorem dX4_isTakenOnDay_18 : decode cX4_isTakenOnDay 18 = .ok (.iconst 4, 1) := by decide +kernel
theorem dX4_isTakenOnDay_19 : decode cX4_isTakenOnDay 19 = .ok (.idiv, 1) := by decide +kernel
theorem dX4_isTakenOnDay_20 : decode cX4_isTakenOnDay 20 = .ok (.iconst 4, 1) := by decide +kernel
theorem dX4_isTakenOnDay_21 : decode cX4_isTakenOnDay 21 = .ok (.irem, 1) := by decide +kernel
theorem dX4_isTakenOnDay_22 : decode cX4_isTakenOnDay 22 = .ok (.ifCond .ne 14, 3) := by decide +kernel
theorem dX4_isTakenOnDay_25 : decode cX4_isTakenOnDay 25 = .ok (.aload_n 0, 1) := by decide +kernel
theorem dX4_isTakenOnDay_26 : decode cX4_isTakenOnDay 26 = .ok (.getfield 23, 3) := by decide +kernel
theorem dX4_isTakenOnDay_29 : decode cX4_isTakenOnDay 29 = .ok (.iload_n 2, 1) := by decide +kernel
theorem dX4_isTakenOnDay_30 : decode cX4_isTakenOnDay 30 = .ok (.invokevirtual 113, 3) := by decide +kernel
theorem dX4_isTakenOnDay_33 : decode cX4_isTakenOnDay 33 = .ok (.pop, 1) := by decide +kernel
theorem dX4_isTakenOnDay_34 : decode cX4_isTakenOnDay 34 = .ok (.iconst 0, 1) := by decide +kernel
theorem dX4_isTakenOnDay_35 : decode cX4_isTakenOnDay 35 = .ok (.ireturn, 1) := by decide +kernel
theorem dX4_isTakenOnDay_36 : decode cX4_isTakenOnDay 36 = .ok (.aload_n 0, 1) := by decide +kernel
theorem dX4_isTakenOnDay_37 : decode cX4_isTakenOnDay 37 = .ok (.getfield 23, 3) := by decide +kernel
theorem dX4_isTakenOnDay_40 : decode cX4_isTakenOnDay 40 = .ok (.iload_n 2, 1) := by decide +kernel
theorem dX4_isTakenOnDay_41 : decode cX4_isTakenOnDay 41 = .ok (.invokevirtual 110, 3) := by decide +kernel
theorem dX4_isTakenOnDay_44 : decode cX4_isTakenOnDay 44 = .ok (.ifCond .le 7, 3) := by decide +kernel
theorem dX4_isTakenOnDay_47 : decode cX4_isTakenOnDay 47 = .ok (.iconst 1, 1) := by decide +kernel
theorem dX4_isTakenOnDay_48 : decode cX4_isTakenOnDay 48 = .ok (.goto 4, 3) := by decide +kernel
theorem dX4_isTakenOnDay_51 : decode cX4_isTakenOnDay 51 = .ok (.iconst 0, 1) := by decide +kernel
theorem dX4_isTakenOnDay_52 : decode cX4_isTakenOnDay 52 = .ok (.ireturn, 1) := by decide +kernel
end
section
theorem dX5_init_0 : decode cX5_init 0 = .ok (.aload_n 0, 1) := by decide +kernel
theorem dX5_init_1 : decode cX5_init 1 = .ok (.invokespecial 1, 3) := by decide +kernel
theorem dX5_init_4 : decode cX5_init 4 = .ok (.aload_n 0, 1) := by decide +kernel
theorem dX5_init_5 : decode cX5_init 5 = .ok (.bipush 80, 2) := by decide +kernel
theorem dX5_init_7 : decode cX5_init 7 = .ok (.newarray .int, 2) := by decide +kernel
theorem dX5_init_9 : decode cX5_init 9 = .ok (.putfield 7, 3) := by decide +kernel
theorem dX5_init_12 : decode cX5_init 12 = .ok (.aload_n 0, 1) := by decide +kernel
theorem dX5_init_13 : decode cX5_init 13 = .ok (.bipush 36, 2) := by decide +kernel
theorem dX5_init_15 : decode cX5_init 15 = .ok (.newarray .int, 2) := by decide +kernel
theorem dX5_init_17 : decode cX5_init 17 = .ok (.putfield 13, 3) := by decide +kernel
theorem dX5_init_20 : decode cX5_init 20 = .ok (.aload_n 0, 1) := by decide +kernel
theorem dX5_init_21 : decode cX5_init 21 = .ok (.bipush 80, 2) := by decide +kernel
theorem dX5_init_23 : decode cX5_init 23 = .ok (.newarray .int, 2) := by decide +kernel
theorem dX5_init_25 : decode cX5_init 25 = .ok (.putfield 16, 3) := by decide +kernel
theorem dX5_init_28 : decode cX5_init 28 = .ok (.aload_n 0, 1) := by decide +kernel
theorem dX5_init_29 : decode cX5_init 29 = .ok (.bipush 36, 2) := by decide +kernel
theorem dX5_init_31 : decode cX5_init 31 = .ok (.newarray .int, 2) := by decide +kernel
theorem dX5_init_33 : decode cX5_init 33 = .ok (.putfield 19, 3) := by decide +kernel
theorem dX5_init_36 : decode cX5_init 36 = .ok (.aload_n 0, 1) := by decide +kernel
theorem dX5_init_37 : decode cX5_init 37 = .ok (.bipush 36, 2) := by decide +kernel
theorem dX5_init_39 : decode cX5_init 39 = .ok (.newarray .int, 2) := by decide +kernel
theorem dX5_init_41 : decode cX5_init 41 = .ok (.putfield 22, 3) := by decide +kernel
theorem dX5_init_44 : decode cX5_init 44 = .ok (.aload_n 0, 1) := by decide +kernel
theorem dX5_init_45 : decode cX5_init 45 = .ok (.sipush 504, 3) := by decide +kernel
theorem dX5_init_48 : decode cX5_init 48 = .ok (.newarray .int, 2) := by decide +kernel
theorem dX5_init_50 : decode cX5_init 50 = .ok (.putfield 25, 3) := by decide +kernel
theorem dX5_init_53 : decode cX5_init 53 = .ok (.aload_n 0, 1) := by decide +kernel
theorem dX5_init_54 : decode cX5_init 54 = .ok (.bipush 72, 2) := by decide +kernel
theorem dX5_init_56 : decode cX5_init 56 = .ok (.newarray .int, 2) := by decide +kernel
theorem dX5_init_58 : decode cX5_init 58 = .ok (.putfield 28, 3) := by decide +kernel
theorem dX5_init_61 : decode cX5_init 61 = .ok (.aload_n 0, 1) := by decide +kernel
theorem dX5_init_62 : decode cX5_init 62 = .ok (.iconst 2, 1) := by decide +kernel
theorem dX5_init_63 : decode cX5_init 63 = .ok (.newarray .boolean, 2) := by decide +kernel
theorem dX5_init_65 : decode cX5_init 65 = .ok (.putfield 31, 3) := by decide +kernel
theorem dX5_init_68 : decode cX5_init 68 = .ok (.aload_n 0, 1) := by decide +kernel
theorem dX5_init_69 : decode cX5_init 69 = .ok (.bipush 6, 2) := by decide +kernel
theorem dX5_init_71 : decode cX5_init 71 = .ok (.newarray .int, 2) := by decide +kernel
theorem dX5_init_73 : decode cX5_init 73 = .ok (.putfield 35, 3) := by decide +kernel
theorem dX5_init_76 : decode cX5_init 76 = .ok (.aload_n 0, 1) := by decide +kernel
theorem dX5_init_77 : decode cX5_init 77 = .ok (.bipush 6, 2) := by decide +kernel
theorem dX5_init_79 : decode cX5_init 79 = .ok (.newarray .int, 2) := by decide +kernel
theorem dX5_init_81 : decode cX5_init 81 = .ok (.putfield 38, 3) := by decide +kernel
theorem dX5_init_84 : decode cX5_init 84 = .ok (.aload_n 0, 1) := by decide +kernel
theorem dX5_init_85 : decode cX5_init 85 = .ok (.bipush 6, 2) := by decide +kernel
theorem dX5_init_87 : decode cX5_init 87 = .ok (.newarray .int, 2) := by decide +kernel
theorem dX5_init_89 : decode cX5_init 89 = .ok (.putfield 41, 3) := by decide +kernel
theorem dX5_init_92 : decode cX5_init 92 = .ok (.aload_n 0, 1) := by decide +kernel
theorem dX5_init_93 : decode cX5_init 93 = .ok (.sipush 251, 3) := by decide +kernel
theorem dX5_init_96 : decode cX5_init 96 = .ok (.newarray .int, 2) := by decide +kernel
theorem dX5_init_98 : decode cX5_init 98 = .ok (.putfield 44, 3) := by decide +kernel
theorem dX5_init_101 : decode cX5_init 101 = .ok (.aload_n 0, 1) := by decide +kernel
theorem dX5_init_102 : decode cX5_init 102 = .ok (.getfield 19, 3) := by decide +kernel
theorem dX5_init_105 : decode cX5_init 105 = .ok (.invokestatic 47, 3) := by decide +kernel
theorem dX5_init_108 : decode cX5_init 108 = .ok (.return_, 1) := by decide +kernel
theorem dX5_in_0 : decode cX5_in 0 = .ok (.lload_n 0, 1) := by decide +kernel
theorem dX5_in_1 : decode cX5_in 1 = .ok (.lload_n 2, 1) := by decide +kernel
theorem dX5_in_2 : decode cX5_in 2 = .ok (.lcmp, 1) := by decide +kernel
theorem dX5_in_3 : decode cX5_in 3 = .ok (.ifCond .lt 14, 3) := by decide +kernel
theorem dX5_in_6 : decode cX5_in 6 = .ok (.lload_n 0, 1) := by decide +kernel
theorem dX5_in_7 : decode cX5_in 7 = .ok (.lload 4, 2) := by decide +kernel
theorem dX5_in_9 : decode cX5_in 9 = .ok (.lcmp, 1) := by decide +kernel
theorem dX5_in_10 : decode cX5_in 10 = .ok (.ifCond .gt 7, 3) := by decide +kernel
theorem dX5_in_13 : decode cX5_in 13 = .ok (.iconst 1, 1) := by decide +kernel
theorem dX5_in_14 : decode cX5_in 14 = .ok (.goto 4, 3) := by decide +kernel
theorem dX5_in_17 : decode cX5_in 17 = .ok (.iconst 0, 1) := by decide +kernel
theorem dX5_in_18 : decode cX5_in 18 = .ok (.ireturn, 1) := by decide +kernel
theorem dX5_has_0 : decode cX5_has 0 = .ok (.iload_n 0, 1) := by decide +kernel
theorem dX5_has_1 : decode cX5_has 1 = .ok (.iload_n 1, 1) := by decide +kernel
theorem dX5_has_2 : decode cX5_has 2 = .ok (.ishr, 1) := by decide +kernel
theorem dX5_has_3 : decode cX5_has 3 = .ok (.iconst 1, 1) := by decide +kernel
theorem dX5_has_4 : decode cX5_has 4 = .ok (.iand, 1) := by decide +kernel
theorem dX5_has_5 : decode cX5_has 5 = .ok (.iconst 1, 1) := by decide +kernel
theorem dX5_has_6 : decode cX5_has 6 = .ok (.if_icmp .ne 7, 3) := by decide +kernel
theorem dX5_has_9 : decode cX5_has 9 = .ok (.iconst 1, 1) := by decide +kernel
theorem dX5_has_10 : decode cX5_has 10 = .ok (.goto 4, 3) := by decide +kernel
theorem dX5_has_13 : decode cX5_has 13 = .ok (.iconst 0, 1) := by decide +kernel
theorem dX5_has_14 : decode cX5_has 14 = .ok (.ireturn, 1) := by decide +kernel
theorem dX5_ones_0 : decode cX5_ones 0 = .ok (.iconst 0, 1) := by decide +kernel
theorem dX5_ones_1 : decode cX5_ones 1 = .ok (.istore_n 1, 1) := by decide +kernel
theorem dX5_ones_2 : decode cX5_ones 2 = .ok (.iconst 0, 1) := by decide +kernel
theorem dX5_ones_3 : decode cX5_ones 3 = .ok (.istore_n 2, 1) := by decide +kernel
theorem dX5_ones_4 : decode cX5_ones 4 = .ok (.iload_n 2, 1) := by decide +kernel
theorem dX5_ones_5 : decode cX5_ones 5 = .ok (.bipush 12, 2) := by decide +kernel
theorem dX5_ones_7 : decode cX5_ones 7 = .ok (.if_icmp .ge 17, 3) := by decide +kernel
theorem dX5_ones_10 : decode cX5_ones 10 = .ok (.iload_n 1, 1) := by decide +kernel
theorem dX5_ones_11 : decode cX5_ones 11 = .ok (.iload_n 0, 1) := by decide +kernel
theorem dX5_ones_12 : decode cX5_ones 12 = .ok (.iload_n 2, 1) := by decide +kernel
theorem dX5_ones_13 : decode cX5_ones 13 = .ok (.ishr, 1) := by decide +kernel
theorem dX5_ones_14 : decode cX5_ones 14 = .ok (.iconst 1, 1) := by decide +kernel
theorem dX5_ones_15 : decode cX5_ones 15 = .ok (.iand, 1) := by decide +kernel
theorem dX5_ones_16 : decode cX5_ones 16 = .ok (.iadd, 1) := by decide +kernel
theorem dX5_ones_17 : decode cX5_ones 17 = .ok (.istore_n 1, 1) := by decide +kernel
theorem dX5_ones_18 : decode cX5_ones 18 = .ok (.iinc 2 1, 3) := by decide +kernel
theorem dX5_ones_21 : decode cX5_ones 21 = .ok (.goto (-17), 3) := by decide +kernel
theorem dX5_ones_24 : decode cX5_ones 24 = .ok (.iload_n 1, 1) := by decide +kernel
theorem dX5_ones_25 : decode cX5_ones 25 = .ok (.ireturn, 1) := by decide +kernel
theorem dX5_power_0 : decode cX5_power 0 = .ok (.iconst 1, 1) := by decide +kernel
theorem dX5_power_1 : decode cX5_power 1 = .ok (.istore_n 2, 1) := by decide +kernel
theorem dX5_power_2 : decode cX5_power 2 = .ok (.iconst 0, 1) := by decide +kernel
theorem dX5_power_3 : decode cX5_power 3 = .ok (.istore_n 3, 1) := by decide +kernel
theorem dX5_power_4 : decode cX5_power 4 = .ok (.iload_n 3, 1) := by decide +kernel
theorem dX5_power_5 : decode cX5_power 5 = .ok (.iload_n 1, 1) := by decide +kernel
theorem dX5_power_6 : decode cX5_power 6 = .ok (.if_icmp .ge 13, 3) := by decide +kernel
theorem dX5_power_9 : decode cX5_power 9 = .ok (.iload_n 2, 1) := by decide +kernel
theorem dX5_power_10 : decode cX5_power 10 = .ok (.iload_n 0, 1) := by decide +kernel
theorem dX5_power_11 : decode cX5_power 11 = .ok (.imul, 1) := by decide +kernel
theorem dX5_power_12 : decode cX5_power 12 = .ok (.istore_n 2, 1) := by decide +kernel
theorem dX5_power_13 : decode cX5_power 13 = .ok (.iinc 3 1, 3) := by decide +kernel
theorem dX5_power_16 : decode cX5_power 16 = .ok (.goto (-12), 3) := by decide +kernel
theorem dX5_power_19 : decode cX5_power 19 = .ok (.iload_n 2, 1) := by decide +kernel
theorem dX5_power_20 : decode cX5_power 20 = .ok (.ireturn, 1) := by decide +kernel
theorem dX5_layFirst_0 : decode cX5_layFirst 0 = .ok (.iconst 0, 1) := by decide +kernel
theorem dX5_layFirst_1 : decode cX5_layFirst 1 = .ok (.istore_n 1, 1) := by decide +kernel
theorem dX5_layFirst_2 : decode cX5_layFirst 2 = .ok (.iload_n 1, 1) := by decide +kernel
theorem dX5_layFirst_3 : decode cX5_layFirst 3 = .ok (.bipush 36, 2) := by decide +kernel
theorem dX5_layFirst_5 : decode cX5_layFirst 5 = .ok (.if_icmp .ge 13, 3) := by decide +kernel
theorem dX5_layFirst_8 : decode cX5_layFirst 8 = .ok (.aload_n 0, 1) := by decide +kernel
theorem dX5_layFirst_9 : decode cX5_layFirst 9 = .ok (.iload_n 1, 1) := by decide +kernel
theorem dX5_layFirst_10 : decode cX5_layFirst 10 = .ok (.iconst 0, 1) := by decide +kernel
theorem dX5_layFirst_11 : decode cX5_layFirst 11 = .ok (.iastore, 1) := by decide +kernel
theorem dX5_layFirst_12 : decode cX5_layFirst 12 = .ok (.iinc 1 1, 3) := by decide +kernel
theorem dX5_layFirst_15 : decode cX5_layFirst 15 = .ok (.goto (-13), 3) := by decide +kernel
theorem dX5_layFirst_18 : decode cX5_layFirst 18 = .ok (.aload_n 0, 1) := by decide +kernel
theorem dX5_layFirst_19 : decode cX5_layFirst 19 = .ok (.bipush 25, 2) := by decide +kernel
theorem dX5_layFirst_21 : decode cX5_layFirst 21 = .ok (.iconst 1, 1) := by decide +kernel
theorem dX5_layFirst_22 : decode cX5_layFirst 22 = .ok (.iastore, 1) := by decide +kernel
theorem dX5_layFirst_23 : decode cX5_layFirst 23 = .ok (.aload_n 0, 1) := by decide +kernel
theorem dX5_layFirst_24 : decode cX5_layFirst 24 = .ok (.bipush 26, 2) := by decide +kernel
theorem dX5_layFirst_26 : decode cX5_layFirst 26 = .ok (.bipush (-9), 2) := by decide +kernel
theorem dX5_layFirst_28 : decode cX5_layFirst 28 = .ok (.iastore, 1) := by decide +kernel
theorem dX5_layFirst_29 : decode cX5_layFirst 29 = .ok (.return_, 1) := by decide +kernel
theorem dX5_lay_0 : decode cX5_lay 0 = .ok (.iconst 0, 1) := by decide +kernel
theorem dX5_lay_1 : decode cX5_lay 1 = .ok (.istore_n 2, 1) := by decide +kernel
theorem dX5_lay_2 : decode cX5_lay 2 = .ok (.iload_n 2, 1) := by decide +kernel
theorem dX5_lay_3 : decode cX5_lay 3 = .ok (.bipush 36, 2) := by decide +kernel
theorem dX5_lay_5 : decode cX5_lay 5 = .ok (.if_icmp .ge 15, 3) := by decide +kernel
theorem dX5_lay_8 : decode cX5_lay 8 = .ok (.aload_n 1, 1) := by decide +kernel
theorem dX5_lay_9 : decode cX5_lay 9 = .ok (.iload_n 2, 1) := by decide +kernel
theorem dX5_lay_10 : decode cX5_lay 10 = .ok (.aload_n 0, 1) := by decide +kernel
theorem dX5_lay_11 : decode cX5_lay 11 = .ok (.iload_n 2, 1) := by decide +kernel
theorem dX5_lay_12 : decode cX5_lay 12 = .ok (.iaload, 1) := by decide +kernel
theorem dX5_lay_13 : decode cX5_lay 13 = .ok (.iastore, 1) := by decide +kernel
theorem dX5_lay_14 : decode cX5_lay 14 = .ok (.iinc 2 1, 3) := by decide +kernel
theorem dX5_lay_17 : decode cX5_lay 17 = .ok (.goto (-15), 3) := by decide +kernel
theorem dX5_lay_20 : decode cX5_lay 20 = .ok (.return_, 1) := by decide +kernel
theorem dX5_isNumber_0 : decode cX5_isNumber 0 = .ok (.iload_n 0, 1) := by decide +kernel
theorem dX5_isNumber_1 : decode cX5_isNumber 1 = .ok (.i2l, 1) := by decide +kernel
theorem dX5_isNumber_2 : decode cX5_isNumber 2 = .ok (.lconst 0, 1) := by decide +kernel
theorem dX5_isNumber_3 : decode cX5_isNumber 3 = .ok (.ldc2_w 55, 3) := by decide +kernel
theorem dX5_isNumber_6 : decode cX5_isNumber 6 = .ok (.invokestatic 57, 3) := by decide +kernel
theorem dX5_isNumber_9 : decode cX5_isNumber 9 = .ok (.ireturn, 1) := by decide +kernel
theorem dX5_after_0 : decode cX5_after 0 = .ok (.iload_n 0, 1) := by decide +kernel
theorem dX5_after_1 : decode cX5_after 1 = .ok (.istore_n 3, 1) := by decide +kernel
theorem dX5_after_2 : decode cX5_after 2 = .ok (.iconst 0, 1) := by decide +kernel
theorem dX5_after_3 : decode cX5_after 3 = .ok (.istore 4, 2) := by decide +kernel
theorem dX5_after_5 : decode cX5_after 5 = .ok (.iload 4, 2) := by decide +kernel
theorem dX5_after_7 : decode cX5_after 7 = .ok (.iload_n 2, 1) := by decide +kernel
theorem dX5_after_8 : decode cX5_after 8 = .ok (.if_icmp .ge 19, 3) := by decide +kernel
theorem dX5_after_11 : decode cX5_after 11 = .ok (.iload_n 3, 1) := by decide +kernel
theorem dX5_after_12 : decode cX5_after 12 = .ok (.iload_n 3, 1) := by decide +kernel
theorem dX5_after_13 : decode cX5_after 13 = .ok (.imul, 1) := by decide +kernel
theorem dX5_after_14 : decode cX5_after 14 = .ok (.iload_n 1, 1) := by decide +kernel
theorem dX5_after_15 : decode cX5_after 15 = .ok (.iadd, 1) := by decide +kernel
theorem dX5_after_16 : decode cX5_after 16 = .ok (.sipush 251, 3) := by decide +kernel
theorem dX5_after_19 : decode cX5_after 19 = .ok (.irem, 1) := by decide +kernel
theorem dX5_after_20 : decode cX5_after 20 = .ok (.istore_n 3, 1) := by decide +kernel
theorem dX5_after_21 : decode cX5_after 21 = .ok (.iinc 4 1, 3) := by decide +kernel
theorem dX5_after_24 : decode cX5_after 24 = .ok (.goto (-19), 3) := by decide +kernel
theorem dX5_after_27 : decode cX5_after 27 = .ok (.iload_n 3, 1) := by decide +kernel
theorem dX5_after_28 : decode cX5_after 28 = .ok (.ireturn, 1) := by decide +kernel
theorem dX5_noUser_0 : decode cX5_noUser 0 = .ok (.iload_n 1, 1) := by decide +kernel
theorem dX5_noUser_1 : decode cX5_noUser 1 = .ok (.i2l, 1) := by decide +kernel
theorem dX5_noUser_2 : decode cX5_noUser 2 = .ok (.lconst 0, 1) := by decide +kernel
theorem dX5_noUser_3 : decode cX5_noUser 3 = .ok (.aload_n 0, 1) := by decide +kernel
theorem dX5_noUser_4 : decode cX5_noUser 4 = .ok (.bipush 24, 2) := by decide +kernel
theorem dX5_noUser_6 : decode cX5_noUser 6 = .ok (.iaload, 1) := by decide +kernel
theorem dX5_noUser_7 : decode cX5_noUser 7 = .ok (.iconst 1, 1) := by decide +kernel
theorem dX5_noUser_8 : decode cX5_noUser 8 = .ok (.isub, 1) := by decide +kernel
theorem dX5_noUser_9 : decode cX5_noUser 9 = .ok (.i2l, 1) := by decide +kernel
theorem dX5_noUser_10 : decode cX5_noUser 10 = .ok (.invokestatic 57, 3) := by decide +kernel
theorem dX5_noUser_13 : decode cX5_noUser 13 = .ok (.ifCond .ne 7, 3) := by decide +kernel
theorem dX5_noUser_16 : decode cX5_noUser 16 = .ok (.iconst 1, 1) := by decide +kernel
theorem dX5_noUser_17 : decode cX5_noUser 17 = .ok (.goto 4, 3) := by decide +kernel
theorem dX5_noUser_20 : decode cX5_noUser 20 = .ok (.iconst 0, 1) := by decide +kernel
theorem dX5_noUser_21 : decode cX5_noUser 21 = .ok (.ireturn, 1) := by decide +kernel
theorem dX5_layUser_0 : decode cX5_layUser 0 = .ok (.aload_n 0, 1) := by decide +kernel
theorem dX5_layUser_1 : decode cX5_layUser 1 = .ok (.bipush 6, 2) := by decide +kernel
theorem dX5_layUser_3 : decode cX5_layUser 3 = .ok (.iload_n 1, 1) := by decide +kernel
theorem dX5_layUser_4 : decode cX5_layUser 4 = .ok (.imul, 1) := by decide +kernel
theorem dX5_layUser_5 : decode cX5_layUser 5 = .ok (.iload_n 2, 1) := by decide +kernel
theorem dX5_layUser_6 : decode cX5_layUser 6 = .ok (.iastore, 1) := by decide +kernel
theorem dX5_layUser_7 : decode cX5_layUser 7 = .ok (.aload_n 0, 1) := by decide +kernel
theorem dX5_layUser_8 : decode cX5_layUser 8 = .ok (.bipush 6, 2) := by decide +kernel
theorem dX5_layUser_10 : decode cX5_layUser 10 = .ok (.iload_n 1, 1) := by decide +kernel
theorem dX5_layUser_11 : decode cX5_layUser 11 = .ok (.imul, 1) := by decide +kernel
theorem dX5_layUser_12 : decode cX5_layUser 12 = .ok (.iconst 1, 1) := by decide +kernel
theorem dX5_layUser_13 : decode cX5_layUser 13 = .ok (.iadd, 1) := by decide +kernel
theorem dX5_layUser_14 : decode cX5_layUser 14 = .ok (.iload_n 3, 1) := by decide +kernel
theorem dX5_layUser_15 : decode cX5_layUser 15 = .ok (.iastore, 1) := by decide +kernel
theorem dX5_layUser_16 : decode cX5_layUser 16 = .ok (.aload_n 0, 1) := by decide +kernel
theorem dX5_layUser_17 : decode cX5_layUser 17 = .ok (.bipush 6, 2) := by decide +kernel
theorem dX5_layUser_19 : decode cX5_layUser 19 = .ok (.iload_n 1, 1) := by decide +kernel
theorem dX5_layUser_20 : decode cX5_layUser 20 = .ok (.imul, 1) := by decide +kernel
theorem dX5_layUser_21 : decode cX5_layUser 21 = .ok (.iconst 2, 1) := by decide +kernel
theorem dX5_layUser_22 : decode cX5_layUser 22 = .ok (.iadd, 1) := by decide +kernel
theorem dX5_layUser_23 : decode cX5_layUser 23 = .ok (.iload 4, 2) := by decide +kernel
theorem dX5_layUser_25 : decode cX5_layUser 25 = .ok (.iastore, 1) := by decide +kernel
theorem dX5_layUser_26 : decode cX5_layUser 26 = .ok (.aload_n 0, 1) := by decide +kernel
theorem dX5_layUser_27 : decode cX5_layUser 27 = .ok (.bipush 6, 2) := by decide +kernel
theorem dX5_layUser_29 : decode cX5_layUser 29 = .ok (.iload_n 1, 1) := by decide +kernel
theorem dX5_layUser_30 : decode cX5_layUser 30 = .ok (.imul, 1) := by decide +kernel
theorem dX5_layUser_31 : decode cX5_layUser 31 = .ok (.iconst 3, 1) := by decide +kernel
theorem dX5_layUser_32 : decode cX5_layUser 32 = .ok (.iadd, 1) := by decide +kernel
theorem dX5_layUser_33 : decode cX5_layUser 33 = .ok (.iload 4, 2) := by decide +kernel
theorem dX5_layUser_35 : decode cX5_layUser 35 = .ok (.iastore, 1) := by decide +kernel
theorem dX5_layUser_36 : decode cX5_layUser 36 = .ok (.aload_n 0, 1) := by decide +kernel
theorem dX5_layUser_37 : decode cX5_layUser 37 = .ok (.bipush 6, 2) := by decide +kernel
theorem dX5_layUser_39 : decode cX5_layUser 39 = .ok (.iload_n 1, 1) := by decide +kernel
theorem dX5_layUser_40 : decode cX5_layUser 40 = .ok (.imul, 1) := by decide +kernel
theorem dX5_layUser_41 : decode cX5_layUser 41 = .ok (.iconst 4, 1) := by decide +kernel
theorem dX5_layUser_42 : decode cX5_layUser 42 = .ok (.iadd, 1) := by decide +kernel
theorem dX5_layUser_43 : decode cX5_layUser 43 = .ok (.iload_n 2, 1) := by decide +kernel
theorem dX5_layUser_44 : decode cX5_layUser 44 = .ok (.iload_n 3, 1) := by decide +kernel
theorem dX5_layUser_45 : decode cX5_layUser 45 = .ok (.iload 4, 2) := by decide +kernel
theorem dX5_layUser_47 : decode cX5_layUser 47 = .ok (.invokestatic 61, 3) := by decide +kernel
theorem dX5_layUser_50 : decode cX5_layUser 50 = .ok (.iastore, 1) := by decide +kernel
theorem dX5_layUser_51 : decode cX5_layUser 51 = .ok (.aload_n 0, 1) := by decide +kernel
theorem dX5_layUser_52 : decode cX5_layUser 52 = .ok (.bipush 6, 2) := by decide +kernel
theorem dX5_layUser_54 : decode cX5_layUser 54 = .ok (.iload_n 1, 1) := by decide +kernel
theorem dX5_layUser_55 : decode cX5_layUser 55 = .ok (.imul, 1) := by decide +kernel
theorem dX5_layUser_56 : decode cX5_layUser 56 = .ok (.iconst 5, 1) := by decide +kernel
theorem dX5_layUser_57 : decode cX5_layUser 57 = .ok (.iadd, 1) := by decide +kernel
theorem dX5_layUser_58 : decode cX5_layUser 58 = .ok (.iload 4, 2) := by decide +kernel
theorem dX5_layUser_60 : decode cX5_layUser 60 = .ok (.iastore, 1) := by decide +kernel
theorem dX5_layUser_61 : decode cX5_layUser 61 = .ok (.return_, 1) := by decide +kernel
theorem dX5_passOf_0 : decode cX5_passOf 0 = .ok (.aload_n 0, 1) := by decide +kernel
theorem dX5_passOf_1 : decode cX5_passOf 1 = .ok (.bipush 6, 2) := by decide +kernel
theorem dX5_passOf_3 : decode cX5_passOf 3 = .ok (.iload_n 1, 1) := by decide +kernel
theorem dX5_passOf_4 : decode cX5_passOf 4 = .ok (.imul, 1) := by decide +kernel
theorem dX5_passOf_5 : decode cX5_passOf 5 = .ok (.iaload, 1) := by decide +kernel
theorem dX5_passOf_6 : decode cX5_passOf 6 = .ok (.aload_n 0, 1) := by decide +kernel
theorem dX5_passOf_7 : decode cX5_passOf 7 = .ok (.bipush 6, 2) := by decide +kernel
theorem dX5_passOf_9 : decode cX5_passOf 9 = .ok (.iload_n 1, 1) := by decide +kernel
theorem dX5_passOf_10 : decode cX5_passOf 10 = .ok (.imul, 1) := by decide +kernel
theorem dX5_passOf_11 : decode cX5_passOf 11 = .ok (.iconst 1, 1) := by decide +kernel
theorem dX5_passOf_12 : decode cX5_passOf 12 = .ok (.iadd, 1) := by decide +kernel
theorem dX5_passOf_13 : decode cX5_passOf 13 = .ok (.iaload, 1) := by decide +kernel
theorem dX5_passOf_14 : decode cX5_passOf 14 = .ok (.iload_n 2, 1) := by decide +kernel
theorem dX5_passOf_15 : decode cX5_passOf 15 = .ok (.invokestatic 61, 3) := by decide +kernel
theorem dX5_passOf_18 : decode cX5_passOf 18 = .ok (.ireturn, 1) := by decide +kernel
theorem dX5_fitsOn_0 : decode cX5_fitsOn 0 = .ok (.iload_n 2, 1) := by decide +kernel
theorem dX5_fitsOn_1 : decode cX5_fitsOn 1 = .ok (.istore_n 3, 1) := by decide +kernel
theorem dX5_fitsOn_2 : decode cX5_fitsOn 2 = .ok (.iconst 1, 1) := by decide +kernel
theorem dX5_fitsOn_3 : decode cX5_fitsOn 3 = .ok (.istore 4, 2) := by decide +kernel
theorem dX5_fitsOn_5 : decode cX5_fitsOn 5 = .ok (.iload 4, 2) := by decide +kernel
theorem dX5_fitsOn_7 : decode cX5_fitsOn 7 = .ok (.aload_n 0, 1) := by decide +kernel
theorem dX5_fitsOn_8 : decode cX5_fitsOn 8 = .ok (.bipush 25, 2) := by decide +kernel
theorem dX5_fitsOn_10 : decode cX5_fitsOn 10 = .ok (.iaload, 1) := by decide +kernel
theorem dX5_fitsOn_11 : decode cX5_fitsOn 11 = .ok (.if_icmp .gt 54, 3) := by decide +kernel
theorem dX5_fitsOn_14 : decode cX5_fitsOn 14 = .ok (.iload 4, 2) := by decide +kernel
theorem dX5_fitsOn_16 : decode cX5_fitsOn 16 = .ok (.aload_n 0, 1) := by decide +kernel
theorem dX5_fitsOn_17 : decode cX5_fitsOn 17 = .ok (.bipush 6, 2) := by decide +kernel
theorem dX5_fitsOn_19 : decode cX5_fitsOn 19 = .ok (.iload_n 1, 1) := by decide +kernel
theorem dX5_fitsOn_20 : decode cX5_fitsOn 20 = .ok (.imul, 1) := by decide +kernel
theorem dX5_fitsOn_21 : decode cX5_fitsOn 21 = .ok (.iconst 5, 1) := by decide +kernel
theorem dX5_fitsOn_22 : decode cX5_fitsOn 22 = .ok (.iadd, 1) := by decide +kernel
theorem dX5_fitsOn_23 : decode cX5_fitsOn 23 = .ok (.iaload, 1) := by decide +kernel
theorem dX5_fitsOn_24 : decode cX5_fitsOn 24 = .ok (.if_icmp .gt 41, 3) := by decide +kernel
theorem dX5_fitsOn_27 : decode cX5_fitsOn 27 = .ok (.iload_n 3, 1) := by decide +kernel
theorem dX5_fitsOn_28 : decode cX5_fitsOn 28 = .ok (.iload_n 3, 1) := by decide +kernel
theorem dX5_fitsOn_29 : decode cX5_fitsOn 29 = .ok (.imul, 1) := by decide +kernel
theorem dX5_fitsOn_30 : decode cX5_fitsOn 30 = .ok (.aload_n 0, 1) := by decide +kernel
theorem dX5_fitsOn_31 : decode cX5_fitsOn 31 = .ok (.bipush 6, 2) := by decide +kernel
theorem dX5_fitsOn_33 : decode cX5_fitsOn 33 = .ok (.iload_n 1, 1) := by decide +kernel
theorem dX5_fitsOn_34 : decode cX5_fitsOn 34 = .ok (.imul, 1) := by decide +kernel
theorem dX5_fitsOn_35 : decode cX5_fitsOn 35 = .ok (.iconst 1, 1) := by decide +kernel
theorem dX5_fitsOn_36 : decode cX5_fitsOn 36 = .ok (.iadd, 1) := by decide +kernel
theorem dX5_fitsOn_37 : decode cX5_fitsOn 37 = .ok (.iaload, 1) := by decide +kernel
theorem dX5_fitsOn_38 : decode cX5_fitsOn 38 = .ok (.iadd, 1) := by decide +kernel
theorem dX5_fitsOn_39 : decode cX5_fitsOn 39 = .ok (.sipush 251, 3) := by decide +kernel
theorem dX5_fitsOn_42 : decode cX5_fitsOn 42 = .ok (.irem, 1) := by decide +kernel
theorem dX5_fitsOn_43 : decode cX5_fitsOn 43 = .ok (.istore_n 3, 1) := by decide +kernel
theorem dX5_fitsOn_44 : decode cX5_fitsOn 44 = .ok (.iload_n 3, 1) := by decide +kernel
theorem dX5_fitsOn_45 : decode cX5_fitsOn 45 = .ok (.aload_n 0, 1) := by decide +kernel
theorem dX5_fitsOn_46 : decode cX5_fitsOn 46 = .ok (.bipush 6, 2) := by decide +kernel
theorem dX5_fitsOn_48 : decode cX5_fitsOn 48 = .ok (.iload_n 1, 1) := by decide +kernel
theorem dX5_fitsOn_49 : decode cX5_fitsOn 49 = .ok (.imul, 1) := by decide +kernel
theorem dX5_fitsOn_50 : decode cX5_fitsOn 50 = .ok (.iconst 4, 1) := by decide +kernel
theorem dX5_fitsOn_51 : decode cX5_fitsOn 51 = .ok (.iadd, 1) := by decide +kernel
theorem dX5_fitsOn_52 : decode cX5_fitsOn 52 = .ok (.iaload, 1) := by decide +kernel
theorem dX5_fitsOn_53 : decode cX5_fitsOn 53 = .ok (.if_icmp .ne 6, 3) := by decide +kernel
theorem dX5_fitsOn_56 : decode cX5_fitsOn 56 = .ok (.iload 4, 2) := by decide +kernel
theorem dX5_fitsOn_58 : decode cX5_fitsOn 58 = .ok (.ireturn, 1) := by decide +kernel
theorem dX5_fitsOn_59 : decode cX5_fitsOn 59 = .ok (.iinc 4 1, 3) := by decide +kernel
theorem dX5_fitsOn_62 : decode cX5_fitsOn 62 = .ok (.goto (-57), 3) := by decide +kernel
theorem dX5_fitsOn_65 : decode cX5_fitsOn 65 = .ok (.iconst 0, 1) := by decide +kernel
theorem dX5_fitsOn_66 : decode cX5_fitsOn 66 = .ok (.ireturn, 1) := by decide +kernel
theorem dX5_comeOn_0 : decode cX5_comeOn 0 = .ok (.aload_n 0, 1) := by decide +kernel
theorem dX5_comeOn_1 : decode cX5_comeOn 1 = .ok (.bipush 26, 2) := by decide +kernel
theorem dX5_comeOn_3 : decode cX5_comeOn 3 = .ok (.sipush 1000, 3) := by decide +kernel
theorem dX5_comeOn_6 : decode cX5_comeOn 6 = .ok (.iload_n 1, 1) := by decide +kernel
theorem dX5_comeOn_7 : decode cX5_comeOn 7 = .ok (.imul, 1) := by decide +kernel
theorem dX5_comeOn_8 : decode cX5_comeOn 8 = .ok (.iload_n 2, 1) := by decide +kernel
theorem dX5_comeOn_9 : decode cX5_comeOn 9 = .ok (.iadd, 1) := by decide +kernel
theorem dX5_comeOn_10 : decode cX5_comeOn 10 = .ok (.iastore, 1) := by decide +kernel
theorem dX5_comeOn_11 : decode cX5_comeOn 11 = .ok (.aload_n 0, 1) := by decide +kernel
theorem dX5_comeOn_12 : decode cX5_comeOn 12 = .ok (.iload_n 1, 1) := by decide +kernel
theorem dX5_comeOn_13 : decode cX5_comeOn 13 = .ok (.iload_n 2, 1) := by decide +kernel
theorem dX5_comeOn_14 : decode cX5_comeOn 14 = .ok (.invokestatic 65, 3) := by decide +kernel
theorem dX5_comeOn_17 : decode cX5_comeOn 17 = .ok (.istore_n 3, 1) := by decide +kernel
theorem dX5_comeOn_18 : decode cX5_comeOn 18 = .ok (.aload_n 0, 1) := by decide +kernel
theorem dX5_comeOn_19 : decode cX5_comeOn 19 = .ok (.bipush 6, 2) := by decide +kernel
theorem dX5_comeOn_21 : decode cX5_comeOn 21 = .ok (.iload_n 1, 1) := by decide +kernel
theorem dX5_comeOn_22 : decode cX5_comeOn 22 = .ok (.imul, 1) := by decide +kernel
theorem dX5_comeOn_23 : decode cX5_comeOn 23 = .ok (.iconst 4, 1) := by decide +kernel
theorem dX5_comeOn_24 : decode cX5_comeOn 24 = .ok (.iadd, 1) := by decide +kernel
theorem dX5_comeOn_25 : decode cX5_comeOn 25 = .ok (.iload_n 3, 1) := by decide +kernel
theorem dX5_comeOn_26 : decode cX5_comeOn 26 = .ok (.ifCond .le 7, 3) := by decide +kernel
theorem dX5_comeOn_29 : decode cX5_comeOn 29 = .ok (.iload_n 2, 1) := by decide +kernel
theorem dX5_comeOn_30 : decode cX5_comeOn 30 = .ok (.goto 11, 3) := by decide +kernel
theorem dX5_comeOn_33 : decode cX5_comeOn 33 = .ok (.aload_n 0, 1) := by decide +kernel
theorem dX5_comeOn_34 : decode cX5_comeOn 34 = .ok (.bipush 6, 2) := by decide +kernel
theorem dX5_comeOn_36 : decode cX5_comeOn 36 = .ok (.iload_n 1, 1) := by decide +kernel
theorem dX5_comeOn_37 : decode cX5_comeOn 37 = .ok (.imul, 1) := by decide +kernel
theorem dX5_comeOn_38 : decode cX5_comeOn 38 = .ok (.iconst 4, 1) := by decide +kernel
theorem dX5_comeOn_39 : decode cX5_comeOn 39 = .ok (.iadd, 1) := by decide +kernel
theorem dX5_comeOn_40 : decode cX5_comeOn 40 = .ok (.iaload, 1) := by decide +kernel
theorem dX5_comeOn_41 : decode cX5_comeOn 41 = .ok (.iastore, 1) := by decide +kernel
theorem dX5_comeOn_42 : decode cX5_comeOn 42 = .ok (.aload_n 0, 1) := by decide +kernel
theorem dX5_comeOn_43 : decode cX5_comeOn 43 = .ok (.bipush 6, 2) := by decide +kernel
theorem dX5_comeOn_45 : decode cX5_comeOn 45 = .ok (.iload_n 1, 1) := by decide +kernel
theorem dX5_comeOn_46 : decode cX5_comeOn 46 = .ok (.imul, 1) := by decide +kernel
theorem dX5_comeOn_47 : decode cX5_comeOn 47 = .ok (.iconst 5, 1) := by decide +kernel
theorem dX5_comeOn_48 : decode cX5_comeOn 48 = .ok (.iadd, 1) := by decide +kernel
theorem dX5_comeOn_49 : decode cX5_comeOn 49 = .ok (.dup2, 1) := by decide +kernel
theorem dX5_comeOn_50 : decode cX5_comeOn 50 = .ok (.iaload, 1) := by decide +kernel
theorem dX5_comeOn_51 : decode cX5_comeOn 51 = .ok (.iload_n 3, 1) := by decide +kernel
theorem dX5_comeOn_52 : decode cX5_comeOn 52 = .ok (.isub, 1) := by decide +kernel
theorem dX5_comeOn_53 : decode cX5_comeOn 53 = .ok (.iastore, 1) := by decide +kernel
theorem dX5_comeOn_54 : decode cX5_comeOn 54 = .ok (.iload_n 3, 1) := by decide +kernel
theorem dX5_comeOn_55 : decode cX5_comeOn 55 = .ok (.ireturn, 1) := by decide +kernel
theorem dX5_sendOn_0 : decode cX5_sendOn 0 = .ok (.aload_n 0, 1) := by decide +kernel
theorem dX5_sendOn_1 : decode cX5_sendOn 1 = .ok (.bipush 6, 2) := by decide +kernel
theorem dX5_sendOn_3 : decode cX5_sendOn 3 = .ok (.iload_n 1, 1) := by decide +kernel
theorem dX5_sendOn_4 : decode cX5_sendOn 4 = .ok (.imul, 1) := by decide +kernel
theorem dX5_sendOn_5 : decode cX5_sendOn 5 = .ok (.iconst 3, 1) := by decide +kernel
theorem dX5_sendOn_6 : decode cX5_sendOn 6 = .ok (.iadd, 1) := by decide +kernel
theorem dX5_sendOn_7 : decode cX5_sendOn 7 = .ok (.dup2, 1) := by decide +kernel
theorem dX5_sendOn_8 : decode cX5_sendOn 8 = .ok (.iaload, 1) := by decide +kernel
theorem dX5_sendOn_9 : decode cX5_sendOn 9 = .ok (.iconst 1, 1) := by decide +kernel
theorem dX5_sendOn_10 : decode cX5_sendOn 10 = .ok (.isub, 1) := by decide +kernel
theorem dX5_sendOn_11 : decode cX5_sendOn 11 = .ok (.iastore, 1) := by decide +kernel
theorem dX5_sendOn_12 : decode cX5_sendOn 12 = .ok (.aload_n 0, 1) := by decide +kernel
theorem dX5_sendOn_13 : decode cX5_sendOn 13 = .ok (.iload_n 1, 1) := by decide +kernel
theorem dX5_sendOn_14 : decode cX5_sendOn 14 = .ok (.aload_n 0, 1) := by decide +kernel
theorem dX5_sendOn_15 : decode cX5_sendOn 15 = .ok (.iload_n 1, 1) := by decide +kernel
theorem dX5_sendOn_16 : decode cX5_sendOn 16 = .ok (.aload_n 0, 1) := by decide +kernel
theorem dX5_sendOn_17 : decode cX5_sendOn 17 = .ok (.bipush 6, 2) := by decide +kernel
theorem dX5_sendOn_19 : decode cX5_sendOn 19 = .ok (.iload_n 1, 1) := by decide +kernel
theorem dX5_sendOn_20 : decode cX5_sendOn 20 = .ok (.imul, 1) := by decide +kernel
theorem dX5_sendOn_21 : decode cX5_sendOn 21 = .ok (.iconst 3, 1) := by decide +kernel
theorem dX5_sendOn_22 : decode cX5_sendOn 22 = .ok (.iadd, 1) := by decide +kernel
theorem dX5_sendOn_23 : decode cX5_sendOn 23 = .ok (.iaload, 1) := by decide +kernel
theorem dX5_sendOn_24 : decode cX5_sendOn 24 = .ok (.invokestatic 69, 3) := by decide +kernel
theorem dX5_sendOn_27 : decode cX5_sendOn 27 = .ok (.invokestatic 72, 3) := by decide +kernel
theorem dX5_sendOn_30 : decode cX5_sendOn 30 = .ok (.ireturn, 1) := by decide +kernel
theorem dX5_hasPass_0 : decode cX5_hasPass 0 = .ok (.aload_n 0, 1) := by decide +kernel
theorem dX5_hasPass_1 : decode cX5_hasPass 1 = .ok (.iload_n 1, 1) := by decide +kernel
theorem dX5_hasPass_2 : decode cX5_hasPass 2 = .ok (.invokestatic 75, 3) := by decide +kernel
theorem dX5_hasPass_5 : decode cX5_hasPass 5 = .ok (.ifCond .ne 18, 3) := by decide +kernel
theorem dX5_hasPass_8 : decode cX5_hasPass 8 = .ok (.aload_n 0, 1) := by decide +kernel
theorem dX5_hasPass_9 : decode cX5_hasPass 9 = .ok (.bipush 6, 2) := by decide +kernel
theorem dX5_hasPass_11 : decode cX5_hasPass 11 = .ok (.iload_n 1, 1) := by decide +kernel
theorem dX5_hasPass_12 : decode cX5_hasPass 12 = .ok (.imul, 1) := by decide +kernel
theorem dX5_hasPass_13 : decode cX5_hasPass 13 = .ok (.iconst 3, 1) := by decide +kernel
theorem dX5_hasPass_14 : decode cX5_hasPass 14 = .ok (.iadd, 1) := by decide +kernel
theorem dX5_hasPass_15 : decode cX5_hasPass 15 = .ok (.iaload, 1) := by decide +kernel
theorem dX5_hasPass_16 : decode cX5_hasPass 16 = .ok (.ifCond .le 7, 3) := by decide +kernel
theorem dX5_hasPass_19 : decode cX5_hasPass 19 = .ok (.iconst 1, 1) := by decide +kernel
theorem dX5_hasPass_20 : decode cX5_hasPass 20 = .ok (.goto 4, 3) := by decide +kernel
theorem dX5_hasPass_23 : decode cX5_hasPass 23 = .ok (.iconst 0, 1) := by decide +kernel
theorem dX5_hasPass_24 : decode cX5_hasPass 24 = .ok (.ireturn, 1) := by decide +kernel
theorem dX5_isInStep_0 : decode cX5_isInStep 0 = .ok (.aload_n 0, 1) := by decide +kernel
theorem dX5_isInStep_1 : decode cX5_isInStep 1 = .ok (.iload_n 1, 1) := by decide +kernel
theorem dX5_isInStep_2 : decode cX5_isInStep 2 = .ok (.invokestatic 79, 3) := by decide +kernel
theorem dX5_isInStep_5 : decode cX5_isInStep 5 = .ok (.ifCond .eq 30, 3) := by decide +kernel
theorem dX5_isInStep_8 : decode cX5_isInStep 8 = .ok (.aload_n 0, 1) := by decide +kernel
theorem dX5_isInStep_9 : decode cX5_isInStep 9 = .ok (.iload_n 1, 1) := by decide +kernel
theorem dX5_isInStep_10 : decode cX5_isInStep 10 = .ok (.aload_n 0, 1) := by decide +kernel
theorem dX5_isInStep_11 : decode cX5_isInStep 11 = .ok (.iload_n 1, 1) := by decide +kernel
theorem dX5_isInStep_12 : decode cX5_isInStep 12 = .ok (.aload_n 0, 1) := by decide +kernel
theorem dX5_isInStep_13 : decode cX5_isInStep 13 = .ok (.bipush 6, 2) := by decide +kernel
theorem dX5_isInStep_15 : decode cX5_isInStep 15 = .ok (.iload_n 1, 1) := by decide +kernel
theorem dX5_isInStep_16 : decode cX5_isInStep 16 = .ok (.imul, 1) := by decide +kernel
theorem dX5_isInStep_17 : decode cX5_isInStep 17 = .ok (.iconst 3, 1) := by decide +kernel
theorem dX5_isInStep_18 : decode cX5_isInStep 18 = .ok (.iadd, 1) := by decide +kernel
theorem dX5_isInStep_19 : decode cX5_isInStep 19 = .ok (.iaload, 1) := by decide +kernel
theorem dX5_isInStep_20 : decode cX5_isInStep 20 = .ok (.iconst 1, 1) := by decide +kernel
theorem dX5_isInStep_21 : decode cX5_isInStep 21 = .ok (.isub, 1) := by decide +kernel
theorem dX5_isInStep_22 : decode cX5_isInStep 22 = .ok (.invokestatic 69, 3) := by decide +kernel
theorem dX5_isInStep_25 : decode cX5_isInStep 25 = .ok (.invokestatic 65, 3) := by decide +kernel
theorem dX5_isInStep_28 : decode cX5_isInStep 28 = .ok (.ifCond .le 7, 3) := by decide +kernel
theorem dX5_isInStep_31 : decode cX5_isInStep 31 = .ok (.iconst 1, 1) := by decide +kernel
theorem dX5_isInStep_32 : decode cX5_isInStep 32 = .ok (.goto 4, 3) := by decide +kernel
theorem dX5_isInStep_35 : decode cX5_isInStep 35 = .ok (.iconst 0, 1) := by decide +kernel
theorem dX5_isInStep_36 : decode cX5_isInStep 36 = .ok (.ireturn, 1) := by decide +kernel
theorem dX5_write_0 : decode cX5_write 0 = .ok (.aload_n 0, 1) := by decide +kernel
theorem dX5_write_1 : decode cX5_write 1 = .ok (.iconst 0, 1) := by decide +kernel
theorem dX5_write_2 : decode cX5_write 2 = .ok (.putfield 51, 3) := by decide +kernel
theorem dX5_write_5 : decode cX5_write 5 = .ok (.iload_n 1, 1) := by decide +kernel
theorem dX5_write_6 : decode cX5_write 6 = .ok (.i2l, 1) := by decide +kernel
theorem dX5_write_7 : decode cX5_write 7 = .ok (.lconst 0, 1) := by decide +kernel
theorem dX5_write_8 : decode cX5_write 8 = .ok (.ldc2_w 82, 3) := by decide +kernel
theorem dX5_write_11 : decode cX5_write 11 = .ok (.invokestatic 57, 3) := by decide +kernel
theorem dX5_write_14 : decode cX5_write 14 = .ok (.ifCond .ne 6, 3) := by decide +kernel
theorem dX5_write_17 : decode cX5_write 17 = .ok (.bipush (-2), 2) := by decide +kernel
theorem dX5_write_19 : decode cX5_write 19 = .ok (.ireturn, 1) := by decide +kernel
theorem dX5_write_20 : decode cX5_write 20 = .ok (.aload_n 0, 1) := by decide +kernel
theorem dX5_write_21 : decode cX5_write 21 = .ok (.getfield 84, 3) := by decide +kernel
theorem dX5_write_24 : decode cX5_write 24 = .ok (.bipush 80, 2) := by decide +kernel
theorem dX5_write_26 : decode cX5_write 26 = .ok (.if_icmp .ne 6, 3) := by decide +kernel
theorem dX5_write_29 : decode cX5_write 29 = .ok (.bipush (-4), 2) := by decide +kernel
theorem dX5_write_31 : decode cX5_write 31 = .ok (.ireturn, 1) := by decide +kernel
theorem dX5_write_32 : decode cX5_write 32 = .ok (.aload_n 0, 1) := by decide +kernel
theorem dX5_write_33 : decode cX5_write 33 = .ok (.getfield 7, 3) := by decide +kernel
theorem dX5_write_36 : decode cX5_write 36 = .ok (.aload_n 0, 1) := by decide +kernel
theorem dX5_write_37 : decode cX5_write 37 = .ok (.getfield 84, 3) := by decide +kernel
theorem dX5_write_40 : decode cX5_write 40 = .ok (.iload_n 1, 1) := by decide +kernel
theorem dX5_write_41 : decode cX5_write 41 = .ok (.iastore, 1) := by decide +kernel
theorem dX5_write_42 : decode cX5_write 42 = .ok (.aload_n 0, 1) := by decide +kernel
theorem dX5_write_43 : decode cX5_write 43 = .ok (.dup, 1) := by decide +kernel
theorem dX5_write_44 : decode cX5_write 44 = .ok (.getfield 84, 3) := by decide +kernel
theorem dX5_write_47 : decode cX5_write 47 = .ok (.iconst 1, 1) := by decide +kernel
theorem dX5_write_48 : decode cX5_write 48 = .ok (.iadd, 1) := by decide +kernel
theorem dX5_write_49 : decode cX5_write 49 = .ok (.putfield 84, 3) := by decide +kernel
theorem dX5_write_52 : decode cX5_write 52 = .ok (.aload_n 0, 1) := by decide +kernel
theorem dX5_write_53 : decode cX5_write 53 = .ok (.getfield 84, 3) := by decide +kernel
theorem dX5_write_56 : decode cX5_write 56 = .ok (.ireturn, 1) := by decide +kernel
theorem dX5_wipe_0 : decode cX5_wipe 0 = .ok (.aload_n 0, 1) := by decide +kernel
theorem dX5_wipe_1 : decode cX5_wipe 1 = .ok (.iconst 0, 1) := by decide +kernel
theorem dX5_wipe_2 : decode cX5_wipe 2 = .ok (.putfield 51, 3) := by decide +kernel
theorem dX5_wipe_5 : decode cX5_wipe 5 = .ok (.aload_n 0, 1) := by decide +kernel
theorem dX5_wipe_6 : decode cX5_wipe 6 = .ok (.getfield 84, 3) := by decide +kernel
theorem dX5_wipe_9 : decode cX5_wipe 9 = .ok (.istore_n 1, 1) := by decide +kernel
theorem dX5_wipe_10 : decode cX5_wipe 10 = .ok (.aload_n 0, 1) := by decide +kernel
theorem dX5_wipe_11 : decode cX5_wipe 11 = .ok (.iconst 0, 1) := by decide +kernel
theorem dX5_wipe_12 : decode cX5_wipe 12 = .ok (.putfield 84, 3) := by decide +kernel
theorem dX5_wipe_15 : decode cX5_wipe 15 = .ok (.iload_n 1, 1) := by decide +kernel
theorem dX5_wipe_16 : decode cX5_wipe 16 = .ok (.ireturn, 1) := by decide +kernel
theorem dX5_figure_0 : decode cX5_figure 0 = .ok (.aload_n 0, 1) := by decide +kernel
theorem dX5_figure_1 : decode cX5_figure 1 = .ok (.getfield 87, 3) := by decide +kernel
theorem dX5_figure_4 : decode cX5_figure 4 = .ok (.aload_n 0, 1) := by decide +kernel
theorem dX5_figure_5 : decode cX5_figure 5 = .ok (.getfield 84, 3) := by decide +kernel
theorem dX5_figure_8 : decode cX5_figure 8 = .ok (.if_icmp .ge 18, 3) := by decide +kernel
theorem dX5_figure_11 : decode cX5_figure 11 = .ok (.aload_n 0, 1) := by decide +kernel
theorem dX5_figure_12 : decode cX5_figure 12 = .ok (.getfield 7, 3) := by decide +kernel
theorem dX5_figure_15 : decode cX5_figure 15 = .ok (.aload_n 0, 1) := by decide +kernel
theorem dX5_figure_16 : decode cX5_figure 16 = .ok (.getfield 87, 3) := by decide +kernel
theorem dX5_figure_19 : decode cX5_figure 19 = .ok (.iaload, 1) := by decide +kernel
theorem dX5_figure_20 : decode cX5_figure 20 = .ok (.bipush 48, 2) := by decide +kernel
theorem dX5_figure_22 : decode cX5_figure 22 = .ok (.isub, 1) := by decide +kernel
theorem dX5_figure_23 : decode cX5_figure 23 = .ok (.goto 5, 3) := by decide +kernel
theorem dX5_figure_26 : decode cX5_figure 26 = .ok (.bipush (-9), 2) := by decide +kernel
theorem dX5_figure_28 : decode cX5_figure 28 = .ok (.istore_n 3, 1) := by decide +kernel
theorem dX5_figure_29 : decode cX5_figure 29 = .ok (.iload_n 3, 1) := by decide +kernel
theorem dX5_figure_30 : decode cX5_figure 30 = .ok (.i2l, 1) := by decide +kernel
theorem dX5_figure_31 : decode cX5_figure 31 = .ok (.iload_n 1, 1) := by decide +kernel
theorem dX5_figure_32 : decode cX5_figure 32 = .ok (.i2l, 1) := by decide +kernel
theorem dX5_figure_33 : decode cX5_figure 33 = .ok (.iload_n 2, 1) := by decide +kernel
theorem dX5_figure_34 : decode cX5_figure 34 = .ok (.i2l, 1) := by decide +kernel
theorem dX5_figure_35 : decode cX5_figure 35 = .ok (.invokestatic 57, 3) := by decide +kernel
theorem dX5_figure_38 : decode cX5_figure 38 = .ok (.ifCond .ne 6, 3) := by decide +kernel
theorem dX5_figure_41 : decode cX5_figure 41 = .ok (.bipush (-9), 2) := by decide +kernel
theorem dX5_figure_43 : decode cX5_figure 43 = .ok (.ireturn, 1) := by decide +kernel
theorem dX5_figure_44 : decode cX5_figure 44 = .ok (.aload_n 0, 1) := by decide +kernel
theorem dX5_figure_45 : decode cX5_figure 45 = .ok (.dup, 1) := by decide +kernel
theorem dX5_figure_46 : decode cX5_figure 46 = .ok (.getfield 87, 3) := by decide +kernel
theorem dX5_figure_49 : decode cX5_figure 49 = .ok (.iconst 1, 1) := by decide +kernel
theorem dX5_figure_50 : decode cX5_figure 50 = .ok (.iadd, 1) := by decide +kernel
theorem dX5_figure_51 : decode cX5_figure 51 = .ok (.putfield 87, 3) := by decide +kernel
theorem dX5_figure_54 : decode cX5_figure 54 = .ok (.iload_n 3, 1) := by decide +kernel
theorem dX5_figure_55 : decode cX5_figure 55 = .ok (.ireturn, 1) := by decide +kernel
theorem dX5_readNumber_0 : decode cX5_readNumber 0 = .ok (.aload_n 0, 1) := by decide +kernel
theorem dX5_readNumber_1 : decode cX5_readNumber 1 = .ok (.iconst 0, 1) := by decide +kernel
theorem dX5_readNumber_2 : decode cX5_readNumber 2 = .ok (.iconst 2, 1) := by decide +kernel
theorem dX5_readNumber_3 : decode cX5_readNumber 3 = .ok (.invokevirtual 90, 3) := by decide +kernel
theorem dX5_readNumber_6 : decode cX5_readNumber 6 = .ok (.istore_n 1, 1) := by decide +kernel
theorem dX5_readNumber_7 : decode cX5_readNumber 7 = .ok (.iload_n 1, 1) := by decide +kernel
theorem dX5_readNumber_8 : decode cX5_readNumber 8 = .ok (.bipush (-9), 2) := by decide +kernel
theorem dX5_readNumber_10 : decode cX5_readNumber 10 = .ok (.if_icmp .ne 8, 3) := by decide +kernel
theorem dX5_readNumber_13 : decode cX5_readNumber 13 = .ok (.bipush (-9), 2) := by decide +kernel
theorem dX5_readNumber_15 : decode cX5_readNumber 15 = .ok (.goto 19, 3) := by decide +kernel
theorem dX5_readNumber_18 : decode cX5_readNumber 18 = .ok (.aload_n 0, 1) := by decide +kernel
theorem dX5_readNumber_19 : decode cX5_readNumber 19 = .ok (.iconst 0, 1) := by decide +kernel
theorem dX5_readNumber_20 : decode cX5_readNumber 20 = .ok (.iload_n 1, 1) := by decide +kernel
theorem dX5_readNumber_21 : decode cX5_readNumber 21 = .ok (.iconst 2, 1) := by decide +kernel
theorem dX5_readNumber_22 : decode cX5_readNumber 22 = .ok (.if_icmp .ne 7, 3) := by decide +kernel
theorem dX5_readNumber_25 : decode cX5_readNumber 25 = .ok (.iconst 5, 1) := by decide +kernel
theorem dX5_readNumber_26 : decode cX5_readNumber 26 = .ok (.goto 5, 3) := by decide +kernel
theorem dX5_readNumber_29 : decode cX5_readNumber 29 = .ok (.bipush 9, 2) := by decide +kernel
theorem dX5_readNumber_31 : decode cX5_readNumber 31 = .ok (.invokevirtual 90, 3) := by decide +kernel
theorem dX5_readNumber_34 : decode cX5_readNumber 34 = .ok (.istore_n 2, 1) := by decide +kernel
theorem dX5_readNumber_35 : decode cX5_readNumber 35 = .ok (.iload_n 2, 1) := by decide +kernel
theorem dX5_readNumber_36 : decode cX5_readNumber 36 = .ok (.bipush (-9), 2) := by decide +kernel
theorem dX5_readNumber_38 : decode cX5_readNumber 38 = .ok (.if_icmp .ne 8, 3) := by decide +kernel
theorem dX5_readNumber_41 : decode cX5_readNumber 41 = .ok (.bipush (-9), 2) := by decide +kernel
theorem dX5_readNumber_43 : decode cX5_readNumber 43 = .ok (.goto 24, 3) := by decide +kernel
theorem dX5_readNumber_46 : decode cX5_readNumber 46 = .ok (.aload_n 0, 1) := by decide +kernel
theorem dX5_readNumber_47 : decode cX5_readNumber 47 = .ok (.iconst 0, 1) := by decide +kernel
theorem dX5_readNumber_48 : decode cX5_readNumber 48 = .ok (.iload_n 1, 1) := by decide +kernel
theorem dX5_readNumber_49 : decode cX5_readNumber 49 = .ok (.iconst 2, 1) := by decide +kernel
theorem dX5_readNumber_50 : decode cX5_readNumber 50 = .ok (.if_icmp .ne 12, 3) := by decide +kernel
theorem dX5_readNumber_53 : decode cX5_readNumber 53 = .ok (.iload_n 2, 1) := by decide +kernel
theorem dX5_readNumber_54 : decode cX5_readNumber 54 = .ok (.iconst 5, 1) := by decide +kernel
theorem dX5_readNumber_55 : decode cX5_readNumber 55 = .ok (.if_icmp .ne 7, 3) := by decide +kernel
theorem dX5_readNumber_58 : decode cX5_readNumber 58 = .ok (.iconst 0, 1) := by decide +kernel
theorem dX5_readNumber_59 : decode cX5_readNumber 59 = .ok (.goto 5, 3) := by decide +kernel
theorem dX5_readNumber_62 : decode cX5_readNumber 62 = .ok (.bipush 9, 2) := by decide +kernel
theorem dX5_readNumber_64 : decode cX5_readNumber 64 = .ok (.invokevirtual 90, 3) := by decide +kernel
theorem dX5_readNumber_67 : decode cX5_readNumber 67 = .ok (.istore_n 3, 1) := by decide +kernel
theorem dX5_readNumber_68 : decode cX5_readNumber 68 = .ok (.iload_n 3, 1) := by decide +kernel
theorem dX5_readNumber_69 : decode cX5_readNumber 69 = .ok (.bipush (-9), 2) := by decide +kernel
theorem dX5_readNumber_71 : decode cX5_readNumber 71 = .ok (.if_icmp .ne 8, 3) := by decide +kernel
theorem dX5_readNumber_74 : decode cX5_readNumber 74 = .ok (.bipush (-9), 2) := by decide +kernel
theorem dX5_readNumber_76 : decode cX5_readNumber 76 = .ok (.goto 14, 3) := by decide +kernel
theorem dX5_readNumber_79 : decode cX5_readNumber 79 = .ok (.bipush 100, 2) := by decide +kernel
theorem dX5_readNumber_81 : decode cX5_readNumber 81 = .ok (.iload_n 1, 1) := by decide +kernel
theorem dX5_readNumber_82 : decode cX5_readNumber 82 = .ok (.imul, 1) := by decide +kernel
theorem dX5_readNumber_83 : decode cX5_readNumber 83 = .ok (.bipush 10, 2) := by decide +kernel
theorem dX5_readNumber_85 : decode cX5_readNumber 85 = .ok (.iload_n 2, 1) := by decide +kernel
theorem dX5_readNumber_86 : decode cX5_readNumber 86 = .ok (.imul, 1) := by decide +kernel
theorem dX5_readNumber_87 : decode cX5_readNumber 87 = .ok (.iadd, 1) := by decide +kernel
theorem dX5_readNumber_88 : decode cX5_readNumber 88 = .ok (.iload_n 3, 1) := by decide +kernel
theorem dX5_readNumber_89 : decode cX5_readNumber 89 = .ok (.iadd, 1) := by decide +kernel
theorem dX5_readNumber_90 : decode cX5_readNumber 90 = .ok (.ireturn, 1) := by decide +kernel
theorem dX5_readUser_0 : decode cX5_readUser 0 = .ok (.aload_n 0, 1) := by decide +kernel
theorem dX5_readUser_1 : decode cX5_readUser 1 = .ok (.getfield 13, 3) := by decide +kernel
theorem dX5_readUser_4 : decode cX5_readUser 4 = .ok (.bipush 24, 2) := by decide +kernel
theorem dX5_readUser_6 : decode cX5_readUser 6 = .ok (.iaload, 1) := by decide +kernel
theorem dX5_readUser_7 : decode cX5_readUser 7 = .ok (.iconst 4, 1) := by decide +kernel
theorem dX5_readUser_8 : decode cX5_readUser 8 = .ok (.if_icmp .eq 10, 3) := by decide +kernel
theorem dX5_readUser_11 : decode cX5_readUser 11 = .ok (.aload_n 0, 1) := by decide +kernel
theorem dX5_readUser_12 : decode cX5_readUser 12 = .ok (.getfield 94, 3) := by decide +kernel
theorem dX5_readUser_15 : decode cX5_readUser 15 = .ok (.ifCond .le 5, 3) := by decide +kernel
theorem dX5_readUser_18 : decode cX5_readUser 18 = .ok (.iconst 0, 1) := by decide +kernel
theorem dX5_readUser_19 : decode cX5_readUser 19 = .ok (.ireturn, 1) := by decide +kernel
theorem dX5_readUser_20 : decode cX5_readUser 20 = .ok (.aload_n 0, 1) := by decide +kernel
theorem dX5_readUser_21 : decode cX5_readUser 21 = .ok (.dup, 1) := by decide +kernel
theorem dX5_readUser_22 : decode cX5_readUser 22 = .ok (.getfield 87, 3) := by decide +kernel
theorem dX5_readUser_25 : decode cX5_readUser 25 = .ok (.iconst 1, 1) := by decide +kernel
theorem dX5_readUser_26 : decode cX5_readUser 26 = .ok (.iadd, 1) := by decide +kernel
theorem dX5_readUser_27 : decode cX5_readUser 27 = .ok (.putfield 87, 3) := by decide +kernel
theorem dX5_readUser_30 : decode cX5_readUser 30 = .ok (.aload_n 0, 1) := by decide +kernel
theorem dX5_readUser_31 : decode cX5_readUser 31 = .ok (.invokevirtual 97, 3) := by decide +kernel
theorem dX5_readUser_34 : decode cX5_readUser 34 = .ok (.istore_n 1, 1) := by decide +kernel
theorem dX5_readUser_35 : decode cX5_readUser 35 = .ok (.iload_n 1, 1) := by decide +kernel
theorem dX5_readUser_36 : decode cX5_readUser 36 = .ok (.bipush (-9), 2) := by decide +kernel
theorem dX5_readUser_38 : decode cX5_readUser 38 = .ok (.if_icmp .ne 8, 3) := by decide +kernel
theorem dX5_readUser_41 : decode cX5_readUser 41 = .ok (.bipush (-9), 2) := by decide +kernel
theorem dX5_readUser_43 : decode cX5_readUser 43 = .ok (.goto 7, 3) := by decide +kernel
theorem dX5_readUser_46 : decode cX5_readUser 46 = .ok (.aload_n 0, 1) := by decide +kernel
theorem dX5_readUser_47 : decode cX5_readUser 47 = .ok (.invokevirtual 97, 3) := by decide +kernel
theorem dX5_readUser_50 : decode cX5_readUser 50 = .ok (.istore_n 2, 1) := by decide +kernel
theorem dX5_readUser_51 : decode cX5_readUser 51 = .ok (.iload_n 2, 1) := by decide +kernel
theorem dX5_readUser_52 : decode cX5_readUser 52 = .ok (.bipush (-9), 2) := by decide +kernel
theorem dX5_readUser_54 : decode cX5_readUser 54 = .ok (.if_icmp .ne 8, 3) := by decide +kernel
theorem dX5_readUser_57 : decode cX5_readUser 57 = .ok (.bipush (-9), 2) := by decide +kernel
theorem dX5_readUser_59 : decode cX5_readUser 59 = .ok (.goto 9, 3) := by decide +kernel
theorem dX5_readUser_62 : decode cX5_readUser 62 = .ok (.aload_n 0, 1) := by decide +kernel
theorem dX5_readUser_63 : decode cX5_readUser 63 = .ok (.iconst 0, 1) := by decide +kernel
theorem dX5_readUser_64 : decode cX5_readUser 64 = .ok (.iconst 3, 1) := by decide +kernel
theorem dX5_readUser_65 : decode cX5_readUser 65 = .ok (.invokevirtual 90, 3) := by decide +kernel
theorem dX5_readUser_68 : decode cX5_readUser 68 = .ok (.istore_n 3, 1) := by decide +kernel
theorem dX5_readUser_69 : decode cX5_readUser 69 = .ok (.iload_n 3, 1) := by decide +kernel
theorem dX5_readUser_70 : decode cX5_readUser 70 = .ok (.bipush (-9), 2) := by decide +kernel
theorem dX5_readUser_72 : decode cX5_readUser 72 = .ok (.if_icmp .ne 8, 3) := by decide +kernel
theorem dX5_readUser_75 : decode cX5_readUser 75 = .ok (.bipush (-9), 2) := by decide +kernel
theorem dX5_readUser_77 : decode cX5_readUser 77 = .ok (.goto 27, 3) := by decide +kernel
theorem dX5_readUser_80 : decode cX5_readUser 80 = .ok (.aload_n 0, 1) := by decide +kernel
theorem dX5_readUser_81 : decode cX5_readUser 81 = .ok (.iload_n 3, 1) := by decide +kernel
theorem dX5_readUser_82 : decode cX5_readUser 82 = .ok (.ifCond .ne 7, 3) := by decide +kernel
theorem dX5_readUser_85 : decode cX5_readUser 85 = .ok (.iconst 1, 1) := by decide +kernel
theorem dX5_readUser_86 : decode cX5_readUser 86 = .ok (.goto 4, 3) := by decide +kernel
theorem dX5_readUser_89 : decode cX5_readUser 89 = .ok (.iconst 0, 1) := by decide +kernel
theorem dX5_readUser_90 : decode cX5_readUser 90 = .ok (.iload_n 3, 1) := by decide +kernel
theorem dX5_readUser_91 : decode cX5_readUser 91 = .ok (.iconst 3, 1) := by decide +kernel
theorem dX5_readUser_92 : decode cX5_readUser 92 = .ok (.if_icmp .ne 7, 3) := by decide +kernel
theorem dX5_readUser_95 : decode cX5_readUser 95 = .ok (.iconst 0, 1) := by decide +kernel
theorem dX5_readUser_96 : decode cX5_readUser 96 = .ok (.goto 5, 3) := by decide +kernel
theorem dX5_readUser_99 : decode cX5_readUser 99 = .ok (.bipush 9, 2) := by decide +kernel
theorem dX5_readUser_101 : decode cX5_readUser 101 = .ok (.invokevirtual 90, 3) := by decide +kernel
theorem dX5_readUser_104 : decode cX5_readUser 104 = .ok (.istore 4, 2) := by decide +kernel
theorem dX5_readUser_106 : decode cX5_readUser 106 = .ok (.iload 4, 2) := by decide +kernel
theorem dX5_readUser_108 : decode cX5_readUser 108 = .ok (.bipush (-9), 2) := by decide +kernel
theorem dX5_readUser_110 : decode cX5_readUser 110 = .ok (.if_icmp .ne 5, 3) := by decide +kernel
theorem dX5_readUser_113 : decode cX5_readUser 113 = .ok (.iconst 0, 1) := by decide +kernel
theorem dX5_readUser_114 : decode cX5_readUser 114 = .ok (.ireturn, 1) := by decide +kernel
theorem dX5_readUser_115 : decode cX5_readUser 115 = .ok (.aload_n 0, 1) := by decide +kernel
theorem dX5_readUser_116 : decode cX5_readUser 116 = .ok (.getfield 13, 3) := by decide +kernel
theorem dX5_readUser_119 : decode cX5_readUser 119 = .ok (.aload_n 0, 1) := by decide +kernel
theorem dX5_readUser_120 : decode cX5_readUser 120 = .ok (.getfield 13, 3) := by decide +kernel
theorem dX5_readUser_123 : decode cX5_readUser 123 = .ok (.bipush 24, 2) := by decide +kernel
theorem dX5_readUser_125 : decode cX5_readUser 125 = .ok (.iaload, 1) := by decide +kernel
theorem dX5_readUser_126 : decode cX5_readUser 126 = .ok (.iload_n 1, 1) := by decide +kernel
theorem dX5_readUser_127 : decode cX5_readUser 127 = .ok (.iload_n 2, 1) := by decide +kernel
theorem dX5_readUser_128 : decode cX5_readUser 128 = .ok (.bipush 10, 2) := by decide +kernel
theorem dX5_readUser_130 : decode cX5_readUser 130 = .ok (.iload_n 3, 1) := by decide +kernel
theorem dX5_readUser_131 : decode cX5_readUser 131 = .ok (.imul, 1) := by decide +kernel
theorem dX5_readUser_132 : decode cX5_readUser 132 = .ok (.iload 4, 2) := by decide +kernel
theorem dX5_readUser_134 : decode cX5_readUser 134 = .ok (.iadd, 1) := by decide +kernel
theorem dX5_readUser_135 : decode cX5_readUser 135 = .ok (.invokestatic 101, 3) := by decide +kernel
theorem dX5_readUser_138 : decode cX5_readUser 138 = .ok (.aload_n 0, 1) := by decide +kernel
theorem dX5_readUser_139 : decode cX5_readUser 139 = .ok (.getfield 13, 3) := by decide +kernel
theorem dX5_readUser_142 : decode cX5_readUser 142 = .ok (.bipush 24, 2) := by decide +kernel
theorem dX5_readUser_144 : decode cX5_readUser 144 = .ok (.dup2, 1) := by decide +kernel
theorem dX5_readUser_145 : decode cX5_readUser 145 = .ok (.iaload, 1) := by decide +kernel
theorem dX5_readUser_146 : decode cX5_readUser 146 = .ok (.iconst 1, 1) := by decide +kernel
theorem dX5_readUser_147 : decode cX5_readUser 147 = .ok (.iadd, 1) := by decide +kernel
theorem dX5_readUser_148 : decode cX5_readUser 148 = .ok (.iastore, 1) := by decide +kernel
theorem dX5_readUser_149 : decode cX5_readUser 149 = .ok (.iconst 1, 1) := by decide +kernel
theorem dX5_readUser_150 : decode cX5_readUser 150 = .ok (.ireturn, 1) := by decide +kernel
theorem dX5_readEvent_0 : decode cX5_readEvent 0 = .ok (.iconst 0, 1) := by decide +kernel
theorem dX5_readEvent_1 : decode cX5_readEvent 1 = .ok (.istore_n 2, 1) := by decide +kernel
theorem dX5_readEvent_2 : decode cX5_readEvent 2 = .ok (.iconst 0, 1) := by decide +kernel
theorem dX5_readEvent_3 : decode cX5_readEvent 3 = .ok (.istore_n 3, 1) := by decide +kernel
theorem dX5_readEvent_4 : decode cX5_readEvent 4 = .ok (.iload_n 3, 1) := by decide +kernel
theorem dX5_readEvent_5 : decode cX5_readEvent 5 = .ok (.aload_n 0, 1) := by decide +kernel
theorem dX5_readEvent_6 : decode cX5_readEvent 6 = .ok (.getfield 13, 3) := by decide +kernel
theorem dX5_readEvent_9 : decode cX5_readEvent 9 = .ok (.bipush 24, 2) := by decide +kernel
theorem dX5_readEvent_11 : decode cX5_readEvent 11 = .ok (.iaload, 1) := by decide +kernel
theorem dX5_readEvent_12 : decode cX5_readEvent 12 = .ok (.if_icmp .ge 33, 3) := by decide +kernel
theorem dX5_readEvent_15 : decode cX5_readEvent 15 = .ok (.iload_n 2, 1) := by decide +kernel
theorem dX5_readEvent_16 : decode cX5_readEvent 16 = .ok (.ifCond .ne 17, 3) := by decide +kernel
theorem dX5_readEvent_19 : decode cX5_readEvent 19 = .ok (.aload_n 0, 1) := by decide +kernel
theorem dX5_readEvent_20 : decode cX5_readEvent 20 = .ok (.getfield 13, 3) := by decide +kernel
theorem dX5_readEvent_23 : decode cX5_readEvent 23 = .ok (.bipush 6, 2) := by decide +kernel
theorem dX5_readEvent_25 : decode cX5_readEvent 25 = .ok (.iload_n 3, 1) := by decide +kernel
theorem dX5_readEvent_26 : decode cX5_readEvent 26 = .ok (.imul, 1) := by decide +kernel
theorem dX5_readEvent_27 : decode cX5_readEvent 27 = .ok (.iconst 3, 1) := by decide +kernel
theorem dX5_readEvent_28 : decode cX5_readEvent 28 = .ok (.iadd, 1) := by decide +kernel
theorem dX5_readEvent_29 : decode cX5_readEvent 29 = .ok (.iaload, 1) := by decide +kernel
theorem dX5_readEvent_30 : decode cX5_readEvent 30 = .ok (.ifCond .le 7, 3) := by decide +kernel
theorem dX5_readEvent_33 : decode cX5_readEvent 33 = .ok (.iconst 1, 1) := by decide +kernel
theorem dX5_readEvent_34 : decode cX5_readEvent 34 = .ok (.goto 4, 3) := by decide +kernel
theorem dX5_readEvent_37 : decode cX5_readEvent 37 = .ok (.iconst 0, 1) := by decide +kernel
theorem dX5_readEvent_38 : decode cX5_readEvent 38 = .ok (.istore_n 2, 1) := by decide +kernel
theorem dX5_readEvent_39 : decode cX5_readEvent 39 = .ok (.iinc 3 1, 3) := by decide +kernel
theorem dX5_readEvent_42 : decode cX5_readEvent 42 = .ok (.goto (-38), 3) := by decide +kernel
theorem dX5_readEvent_45 : decode cX5_readEvent 45 = .ok (.iload_n 2, 1) := by decide +kernel
theorem dX5_readEvent_46 : decode cX5_readEvent 46 = .ok (.ifCond .ne 5, 3) := by decide +kernel
theorem dX5_readEvent_49 : decode cX5_readEvent 49 = .ok (.iconst 0, 1) := by decide +kernel
theorem dX5_readEvent_50 : decode cX5_readEvent 50 = .ok (.ireturn, 1) := by decide +kernel
theorem dX5_readEvent_51 : decode cX5_readEvent 51 = .ok (.aload_n 0, 1) := by decide +kernel
theorem dX5_readEvent_52 : decode cX5_readEvent 52 = .ok (.dup, 1) := by decide +kernel
theorem dX5_readEvent_53 : decode cX5_readEvent 53 = .ok (.getfield 87, 3) := by decide +kernel
theorem dX5_readEvent_56 : decode cX5_readEvent 56 = .ok (.iconst 1, 1) := by decide +kernel
theorem dX5_readEvent_57 : decode cX5_readEvent 57 = .ok (.iadd, 1) := by decide +kernel
theorem dX5_readEvent_58 : decode cX5_readEvent 58 = .ok (.putfield 87, 3) := by decide +kernel
theorem dX5_readEvent_61 : decode cX5_readEvent 61 = .ok (.aload_n 0, 1) := by decide +kernel
theorem dX5_readEvent_62 : decode cX5_readEvent 62 = .ok (.getfield 87, 3) := by decide +kernel
theorem dX5_readEvent_65 : decode cX5_readEvent 65 = .ok (.aload_n 0, 1) := by decide +kernel
theorem dX5_readEvent_66 : decode cX5_readEvent 66 = .ok (.getfield 84, 3) := by decide +kernel
theorem dX5_readEvent_69 : decode cX5_readEvent 69 = .ok (.if_icmp .ge 18, 3) := by decide +kernel
theorem dX5_readEvent_72 : decode cX5_readEvent 72 = .ok (.aload_n 0, 1) := by decide +kernel
theorem dX5_readEvent_73 : decode cX5_readEvent 73 = .ok (.getfield 7, 3) := by decide +kernel
theorem dX5_readEvent_76 : decode cX5_readEvent 76 = .ok (.aload_n 0, 1) := by decide +kernel
theorem dX5_readEvent_77 : decode cX5_readEvent 77 = .ok (.getfield 87, 3) := by decide +kernel
theorem dX5_readEvent_80 : decode cX5_readEvent 80 = .ok (.iaload, 1) := by decide +kernel
theorem dX5_readEvent_81 : decode cX5_readEvent 81 = .ok (.bipush 48, 2) := by decide +kernel
theorem dX5_readEvent_83 : decode cX5_readEvent 83 = .ok (.isub, 1) := by decide +kernel
theorem dX5_readEvent_84 : decode cX5_readEvent 84 = .ok (.goto 5, 3) := by decide +kernel
theorem dX5_readEvent_87 : decode cX5_readEvent 87 = .ok (.bipush (-9), 2) := by decide +kernel
theorem dX5_readEvent_89 : decode cX5_readEvent 89 = .ok (.istore_n 3, 1) := by decide +kernel
theorem dX5_readEvent_90 : decode cX5_readEvent 90 = .ok (.aload_n 0, 1) := by decide +kernel
theorem dX5_readEvent_91 : decode cX5_readEvent 91 = .ok (.getfield 13, 3) := by decide +kernel
theorem dX5_readEvent_94 : decode cX5_readEvent 94 = .ok (.iload_n 3, 1) := by decide +kernel
theorem dX5_readEvent_95 : decode cX5_readEvent 95 = .ok (.invokestatic 79, 3) := by decide +kernel
theorem dX5_readEvent_98 : decode cX5_readEvent 98 = .ok (.ifCond .ne 5, 3) := by decide +kernel
theorem dX5_readEvent_101 : decode cX5_readEvent 101 = .ok (.iconst 0, 1) := by decide +kernel
theorem dX5_readEvent_102 : decode cX5_readEvent 102 = .ok (.ireturn, 1) := by decide +kernel
theorem dX5_readEvent_103 : decode cX5_readEvent 103 = .ok (.aload_n 0, 1) := by decide +kernel
theorem dX5_readEvent_104 : decode cX5_readEvent 104 = .ok (.dup, 1) := by decide +kernel
theorem dX5_readEvent_105 : decode cX5_readEvent 105 = .ok (.getfield 87, 3) := by decide +kernel
theorem dX5_readEvent_108 : decode cX5_readEvent 108 = .ok (.iconst 1, 1) := by decide +kernel
theorem dX5_readEvent_109 : decode cX5_readEvent 109 = .ok (.iadd, 1) := by decide +kernel
theorem dX5_readEvent_110 : decode cX5_readEvent 110 = .ok (.putfield 87, 3) := by decide +kernel
theorem dX5_readEvent_113 : decode cX5_readEvent 113 = .ok (.aload_n 0, 1) := by decide +kernel
theorem dX5_readEvent_114 : decode cX5_readEvent 114 = .ok (.getfield 16, 3) := by decide +kernel
theorem dX5_readEvent_117 : decode cX5_readEvent 117 = .ok (.aload_n 0, 1) := by decide +kernel
theorem dX5_readEvent_118 : decode cX5_readEvent 118 = .ok (.getfield 94, 3) := by decide +kernel
theorem dX5_readEvent_121 : decode cX5_readEvent 121 = .ok (.bipush 10, 2) := by decide +kernel
theorem dX5_readEvent_123 : decode cX5_readEvent 123 = .ok (.iload_n 3, 1) := by decide +kernel
theorem dX5_readEvent_124 : decode cX5_readEvent 124 = .ok (.imul, 1) := by decide +kernel
theorem dX5_readEvent_125 : decode cX5_readEvent 125 = .ok (.iload_n 1, 1) := by decide +kernel
theorem dX5_readEvent_126 : decode cX5_readEvent 126 = .ok (.ifCond .eq 7, 3) := by decide +kernel
theorem dX5_readEvent_129 : decode cX5_readEvent 129 = .ok (.iconst 1, 1) := by decide +kernel
theorem dX5_readEvent_130 : decode cX5_readEvent 130 = .ok (.goto 4, 3) := by decide +kernel
theorem dX5_readEvent_133 : decode cX5_readEvent 133 = .ok (.iconst 0, 1) := by decide +kernel
theorem dX5_readEvent_134 : decode cX5_readEvent 134 = .ok (.iadd, 1) := by decide +kernel
theorem dX5_readEvent_135 : decode cX5_readEvent 135 = .ok (.iastore, 1) := by decide +kernel
theorem dX5_readEvent_136 : decode cX5_readEvent 136 = .ok (.aload_n 0, 1) := by decide +kernel
theorem dX5_readEvent_137 : decode cX5_readEvent 137 = .ok (.dup, 1) := by decide +kernel
theorem dX5_readEvent_138 : decode cX5_readEvent 138 = .ok (.getfield 94, 3) := by decide +kernel
theorem dX5_readEvent_141 : decode cX5_readEvent 141 = .ok (.iconst 1, 1) := by decide +kernel
theorem dX5_readEvent_142 : decode cX5_readEvent 142 = .ok (.iadd, 1) := by decide +kernel
theorem dX5_readEvent_143 : decode cX5_readEvent 143 = .ok (.putfield 94, 3) := by decide +kernel
theorem dX5_readEvent_146 : decode cX5_readEvent 146 = .ok (.aload_n 0, 1) := by decide +kernel
theorem dX5_readEvent_147 : decode cX5_readEvent 147 = .ok (.getfield 13, 3) := by decide +kernel
theorem dX5_readEvent_150 : decode cX5_readEvent 150 = .ok (.bipush 6, 2) := by decide +kernel
theorem dX5_readEvent_152 : decode cX5_readEvent 152 = .ok (.iload_n 3, 1) := by decide +kernel
theorem dX5_readEvent_153 : decode cX5_readEvent 153 = .ok (.imul, 1) := by decide +kernel
theorem dX5_readEvent_154 : decode cX5_readEvent 154 = .ok (.iconst 3, 1) := by decide +kernel
theorem dX5_readEvent_155 : decode cX5_readEvent 155 = .ok (.iadd, 1) := by decide +kernel
theorem dX5_readEvent_156 : decode cX5_readEvent 156 = .ok (.dup2, 1) := by decide +kernel
theorem dX5_readEvent_157 : decode cX5_readEvent 157 = .ok (.iaload, 1) := by decide +kernel
theorem dX5_readEvent_158 : decode cX5_readEvent 158 = .ok (.iconst 1, 1) := by decide +kernel
theorem dX5_readEvent_159 : decode cX5_readEvent 159 = .ok (.isub, 1) := by decide +kernel
theorem dX5_readEvent_160 : decode cX5_readEvent 160 = .ok (.iastore, 1) := by decide +kernel
theorem dX5_readEvent_161 : decode cX5_readEvent 161 = .ok (.iconst 1, 1) := by decide +kernel
theorem dX5_readEvent_162 : decode cX5_readEvent 162 = .ok (.ireturn, 1) := by decide +kernel
theorem dX5_readDesk_0 : decode cX5_readDesk 0 = .ok (.aload_n 0, 1) := by decide +kernel
theorem dX5_readDesk_1 : decode cX5_readDesk 1 = .ok (.iconst 0, 1) := by decide +kernel
theorem dX5_readDesk_2 : decode cX5_readDesk 2 = .ok (.putfield 87, 3) := by decide +kernel
theorem dX5_readDesk_5 : decode cX5_readDesk 5 = .ok (.aload_n 0, 1) := by decide +kernel
theorem dX5_readDesk_6 : decode cX5_readDesk 6 = .ok (.iconst 0, 1) := by decide +kernel
theorem dX5_readDesk_7 : decode cX5_readDesk 7 = .ok (.putfield 94, 3) := by decide +kernel
theorem dX5_readDesk_10 : decode cX5_readDesk 10 = .ok (.aload_n 0, 1) := by decide +kernel
theorem dX5_readDesk_11 : decode cX5_readDesk 11 = .ok (.getfield 13, 3) := by decide +kernel
theorem dX5_readDesk_14 : decode cX5_readDesk 14 = .ok (.invokestatic 47, 3) := by decide +kernel
theorem dX5_readDesk_17 : decode cX5_readDesk 17 = .ok (.aload_n 0, 1) := by decide +kernel
theorem dX5_readDesk_18 : decode cX5_readDesk 18 = .ok (.getfield 84, 3) := by decide +kernel
theorem dX5_readDesk_21 : decode cX5_readDesk 21 = .ok (.ifCond .eq 14, 3) := by decide +kernel
theorem dX5_readDesk_24 : decode cX5_readDesk 24 = .ok (.aload_n 0, 1) := by decide +kernel
theorem dX5_readDesk_25 : decode cX5_readDesk 25 = .ok (.getfield 7, 3) := by decide +kernel
theorem dX5_readDesk_28 : decode cX5_readDesk 28 = .ok (.iconst 0, 1) := by decide +kernel
theorem dX5_readDesk_29 : decode cX5_readDesk 29 = .ok (.iaload, 1) := by decide +kernel
theorem dX5_readDesk_30 : decode cX5_readDesk 30 = .ok (.bipush 83, 2) := by decide +kernel
theorem dX5_readDesk_32 : decode cX5_readDesk 32 = .ok (.if_icmp .eq 5, 3) := by decide +kernel
theorem dX5_readDesk_35 : decode cX5_readDesk 35 = .ok (.iconst 0, 1) := by decide +kernel
theorem dX5_readDesk_36 : decode cX5_readDesk 36 = .ok (.ireturn, 1) := by decide +kernel
theorem dX5_readDesk_37 : decode cX5_readDesk 37 = .ok (.aload_n 0, 1) := by decide +kernel
theorem dX5_readDesk_38 : decode cX5_readDesk 38 = .ok (.iconst 1, 1) := by decide +kernel
theorem dX5_readDesk_39 : decode cX5_readDesk 39 = .ok (.putfield 87, 3) := by decide +kernel
theorem dX5_readDesk_42 : decode cX5_readDesk 42 = .ok (.aload_n 0, 1) := by decide +kernel
theorem dX5_readDesk_43 : decode cX5_readDesk 43 = .ok (.getfield 13, 3) := by decide +kernel
theorem dX5_readDesk_46 : decode cX5_readDesk 46 = .ok (.bipush 25, 2) := by decide +kernel
theorem dX5_readDesk_48 : decode cX5_readDesk 48 = .ok (.aload_n 0, 1) := by decide +kernel
theorem dX5_readDesk_49 : decode cX5_readDesk 49 = .ok (.iconst 1, 1) := by decide +kernel
theorem dX5_readDesk_50 : decode cX5_readDesk 50 = .ok (.bipush 6, 2) := by decide +kernel
theorem dX5_readDesk_52 : decode cX5_readDesk 52 = .ok (.invokevirtual 90, 3) := by decide +kernel
theorem dX5_readDesk_55 : decode cX5_readDesk 55 = .ok (.iastore, 1) := by decide +kernel
theorem dX5_readDesk_56 : decode cX5_readDesk 56 = .ok (.aload_n 0, 1) := by decide +kernel
theorem dX5_readDesk_57 : decode cX5_readDesk 57 = .ok (.getfield 13, 3) := by decide +kernel
theorem dX5_readDesk_60 : decode cX5_readDesk 60 = .ok (.bipush 25, 2) := by decide +kernel
theorem dX5_readDesk_62 : decode cX5_readDesk 62 = .ok (.iaload, 1) := by decide +kernel
theorem dX5_readDesk_63 : decode cX5_readDesk 63 = .ok (.bipush (-9), 2) := by decide +kernel
theorem dX5_readDesk_65 : decode cX5_readDesk 65 = .ok (.if_icmp .ne 8, 3) := by decide +kernel
theorem dX5_readDesk_68 : decode cX5_readDesk 68 = .ok (.aload_n 0, 1) := by decide +kernel
theorem dX5_readDesk_69 : decode cX5_readDesk 69 = .ok (.getfield 87, 3) := by decide +kernel
theorem dX5_readDesk_72 : decode cX5_readDesk 72 = .ok (.ireturn, 1) := by decide +kernel
theorem dX5_readDesk_73 : decode cX5_readDesk 73 = .ok (.aload_n 0, 1) := by decide +kernel
theorem dX5_readDesk_74 : decode cX5_readDesk 74 = .ok (.getfield 87, 3) := by decide +kernel
theorem dX5_readDesk_77 : decode cX5_readDesk 77 = .ok (.aload_n 0, 1) := by decide +kernel
theorem dX5_readDesk_78 : decode cX5_readDesk 78 = .ok (.getfield 84, 3) := by decide +kernel
theorem dX5_readDesk_81 : decode cX5_readDesk 81 = .ok (.if_icmp .ge 74, 3) := by decide +kernel
theorem dX5_readDesk_84 : decode cX5_readDesk 84 = .ok (.aload_n 0, 1) := by decide +kernel
theorem dX5_readDesk_85 : decode cX5_readDesk 85 = .ok (.getfield 7, 3) := by decide +kernel
theorem dX5_readDesk_88 : decode cX5_readDesk 88 = .ok (.aload_n 0, 1) := by decide +kernel
theorem dX5_readDesk_89 : decode cX5_readDesk 89 = .ok (.getfield 87, 3) := by decide +kernel
theorem dX5_readDesk_92 : decode cX5_readDesk 92 = .ok (.iaload, 1) := by decide +kernel
theorem dX5_readDesk_93 : decode cX5_readDesk 93 = .ok (.istore_n 1, 1) := by decide +kernel
theorem dX5_readDesk_94 : decode cX5_readDesk 94 = .ok (.iload_n 1, 1) := by decide +kernel
theorem dX5_readDesk_95 : decode cX5_readDesk 95 = .ok (.bipush 117, 2) := by decide +kernel
theorem dX5_readDesk_97 : decode cX5_readDesk 97 = .ok (.if_icmp .ne 10, 3) := by decide +kernel
theorem dX5_readDesk_100 : decode cX5_readDesk 100 = .ok (.aload_n 0, 1) := by decide +kernel
theorem dX5_readDesk_101 : decode cX5_readDesk 101 = .ok (.invokevirtual 105, 3) := by decide +kernel
theorem dX5_readDesk_104 : decode cX5_readDesk 104 = .ok (.goto 38, 3) := by decide +kernel
theorem dX5_readDesk_107 : decode cX5_readDesk 107 = .ok (.iload_n 1, 1) := by decide +kernel
theorem dX5_readDesk_108 : decode cX5_readDesk 108 = .ok (.bipush 115, 2) := by decide +kernel
theorem dX5_readDesk_110 : decode cX5_readDesk 110 = .ok (.if_icmp .eq 9, 3) := by decide +kernel
theorem dX5_readDesk_113 : decode cX5_readDesk 113 = .ok (.iload_n 1, 1) := by decide +kernel
theorem dX5_readDesk_114 : decode cX5_readDesk 114 = .ok (.bipush 109, 2) := by decide +kernel
theorem dX5_readDesk_116 : decode cX5_readDesk 116 = .ok (.if_icmp .ne 25, 3) := by decide +kernel
theorem dX5_readDesk_119 : decode cX5_readDesk 119 = .ok (.aload_n 0, 1) := by decide +kernel
theorem dX5_readDesk_120 : decode cX5_readDesk 120 = .ok (.iload_n 1, 1) := by decide +kernel
theorem dX5_readDesk_121 : decode cX5_readDesk 121 = .ok (.bipush 109, 2) := by decide +kernel
theorem dX5_readDesk_123 : decode cX5_readDesk 123 = .ok (.if_icmp .ne 7, 3) := by decide +kernel
theorem dX5_readDesk_126 : decode cX5_readDesk 126 = .ok (.iconst 1, 1) := by decide +kernel
theorem dX5_readDesk_127 : decode cX5_readDesk 127 = .ok (.goto 4, 3) := by decide +kernel
theorem dX5_readDesk_130 : decode cX5_readDesk 130 = .ok (.iconst 0, 1) := by decide +kernel
theorem dX5_readDesk_131 : decode cX5_readDesk 131 = .ok (.invokevirtual 109, 3) := by decide +kernel
theorem dX5_readDesk_134 : decode cX5_readDesk 134 = .ok (.ifCond .eq 7, 3) := by decide +kernel
theorem dX5_readDesk_137 : decode cX5_readDesk 137 = .ok (.iconst 1, 1) := by decide +kernel
theorem dX5_readDesk_138 : decode cX5_readDesk 138 = .ok (.goto 4, 3) := by decide +kernel
theorem dX5_readDesk_141 : decode cX5_readDesk 141 = .ok (.iconst 0, 1) := by decide +kernel
theorem dX5_readDesk_142 : decode cX5_readDesk 142 = .ok (.istore_n 2, 1) := by decide +kernel
theorem dX5_readDesk_143 : decode cX5_readDesk 143 = .ok (.iload_n 2, 1) := by decide +kernel
theorem dX5_readDesk_144 : decode cX5_readDesk 144 = .ok (.ifCond .ne 8, 3) := by decide +kernel
theorem dX5_readDesk_147 : decode cX5_readDesk 147 = .ok (.aload_n 0, 1) := by decide +kernel
theorem dX5_readDesk_148 : decode cX5_readDesk 148 = .ok (.getfield 87, 3) := by decide +kernel
theorem dX5_readDesk_151 : decode cX5_readDesk 151 = .ok (.ireturn, 1) := by decide +kernel
theorem dX5_readDesk_152 : decode cX5_readDesk 152 = .ok (.goto (-79), 3) := by decide +kernel
theorem dX5_readDesk_155 : decode cX5_readDesk 155 = .ok (.bipush (-9), 2) := by decide +kernel
theorem dX5_readDesk_157 : decode cX5_readDesk 157 = .ok (.ireturn, 1) := by decide +kernel
theorem dX5_fault_0 : decode cX5_fault 0 = .ok (.aload_n 0, 1) := by decide +kernel
theorem dX5_fault_1 : decode cX5_fault 1 = .ok (.iconst 0, 1) := by decide +kernel
theorem dX5_fault_2 : decode cX5_fault 2 = .ok (.putfield 51, 3) := by decide +kernel
theorem dX5_fault_5 : decode cX5_fault 5 = .ok (.aload_n 0, 1) := by decide +kernel
theorem dX5_fault_6 : decode cX5_fault 6 = .ok (.invokevirtual 113, 3) := by decide +kernel
theorem dX5_fault_9 : decode cX5_fault 9 = .ok (.ireturn, 1) := by decide +kernel
theorem dX5_desk_0 : decode cX5_desk 0 = .ok (.aload_n 0, 1) := by decide +kernel
theorem dX5_desk_1 : decode cX5_desk 1 = .ok (.iconst 0, 1) := by decide +kernel
theorem dX5_desk_2 : decode cX5_desk 2 = .ok (.putfield 51, 3) := by decide +kernel
theorem dX5_desk_5 : decode cX5_desk 5 = .ok (.aload_n 0, 1) := by decide +kernel
theorem dX5_desk_6 : decode cX5_desk 6 = .ok (.invokevirtual 113, 3) := by decide +kernel
theorem dX5_desk_9 : decode cX5_desk 9 = .ok (.bipush (-9), 2) := by decide +kernel
theorem dX5_desk_11 : decode cX5_desk 11 = .ok (.if_icmp .eq 6, 3) := by decide +kernel
theorem dX5_desk_14 : decode cX5_desk 14 = .ok (.bipush (-3), 2) := by decide +kernel
theorem dX5_desk_16 : decode cX5_desk 16 = .ok (.ireturn, 1) := by decide +kernel
theorem dX5_desk_17 : decode cX5_desk 17 = .ok (.aload_n 0, 1) := by decide +kernel
theorem dX5_desk_18 : decode cX5_desk 18 = .ok (.getfield 13, 3) := by decide +kernel
theorem dX5_desk_21 : decode cX5_desk 21 = .ok (.aload_n 0, 1) := by decide +kernel
theorem dX5_desk_22 : decode cX5_desk 22 = .ok (.getfield 19, 3) := by decide +kernel
theorem dX5_desk_25 : decode cX5_desk 25 = .ok (.invokestatic 116, 3) := by decide +kernel
theorem dX5_desk_28 : decode cX5_desk 28 = .ok (.iconst 0, 1) := by decide +kernel
theorem dX5_desk_29 : decode cX5_desk 29 = .ok (.istore_n 1, 1) := by decide +kernel
theorem dX5_desk_30 : decode cX5_desk 30 = .ok (.iload_n 1, 1) := by decide +kernel
theorem dX5_desk_31 : decode cX5_desk 31 = .ok (.aload_n 0, 1) := by decide +kernel
theorem dX5_desk_32 : decode cX5_desk 32 = .ok (.getfield 19, 3) := by decide +kernel
theorem dX5_desk_35 : decode cX5_desk 35 = .ok (.bipush 24, 2) := by decide +kernel
theorem dX5_desk_37 : decode cX5_desk 37 = .ok (.iaload, 1) := by decide +kernel
theorem dX5_desk_38 : decode cX5_desk 38 = .ok (.if_icmp .ge 31, 3) := by decide +kernel
theorem dX5_desk_41 : decode cX5_desk 41 = .ok (.aload_n 0, 1) := by decide +kernel
theorem dX5_desk_42 : decode cX5_desk 42 = .ok (.getfield 19, 3) := by decide +kernel
theorem dX5_desk_45 : decode cX5_desk 45 = .ok (.bipush 6, 2) := by decide +kernel
theorem dX5_desk_47 : decode cX5_desk 47 = .ok (.iload_n 1, 1) := by decide +kernel
theorem dX5_desk_48 : decode cX5_desk 48 = .ok (.imul, 1) := by decide +kernel
theorem dX5_desk_49 : decode cX5_desk 49 = .ok (.iconst 3, 1) := by decide +kernel
theorem dX5_desk_50 : decode cX5_desk 50 = .ok (.iadd, 1) := by decide +kernel
theorem dX5_desk_51 : decode cX5_desk 51 = .ok (.aload_n 0, 1) := by decide +kernel
theorem dX5_desk_52 : decode cX5_desk 52 = .ok (.getfield 19, 3) := by decide +kernel
theorem dX5_desk_55 : decode cX5_desk 55 = .ok (.bipush 6, 2) := by decide +kernel
theorem dX5_desk_57 : decode cX5_desk 57 = .ok (.iload_n 1, 1) := by decide +kernel
theorem dX5_desk_58 : decode cX5_desk 58 = .ok (.imul, 1) := by decide +kernel
theorem dX5_desk_59 : decode cX5_desk 59 = .ok (.iconst 2, 1) := by decide +kernel
theorem dX5_desk_60 : decode cX5_desk 60 = .ok (.iadd, 1) := by decide +kernel
theorem dX5_desk_61 : decode cX5_desk 61 = .ok (.iaload, 1) := by decide +kernel
theorem dX5_desk_62 : decode cX5_desk 62 = .ok (.iastore, 1) := by decide +kernel
theorem dX5_desk_63 : decode cX5_desk 63 = .ok (.iinc 1 1, 3) := by decide +kernel
theorem dX5_desk_66 : decode cX5_desk 66 = .ok (.goto (-36), 3) := by decide +kernel
theorem dX5_desk_69 : decode cX5_desk 69 = .ok (.iconst 0, 1) := by decide +kernel
theorem dX5_desk_70 : decode cX5_desk 70 = .ok (.istore_n 1, 1) := by decide +kernel
theorem dX5_desk_71 : decode cX5_desk 71 = .ok (.iload_n 1, 1) := by decide +kernel
theorem dX5_desk_72 : decode cX5_desk 72 = .ok (.aload_n 0, 1) := by decide +kernel
theorem dX5_desk_73 : decode cX5_desk 73 = .ok (.getfield 94, 3) := by decide +kernel
theorem dX5_desk_76 : decode cX5_desk 76 = .ok (.if_icmp .ge 59, 3) := by decide +kernel
theorem dX5_desk_79 : decode cX5_desk 79 = .ok (.aload_n 0, 1) := by decide +kernel
theorem dX5_desk_80 : decode cX5_desk 80 = .ok (.getfield 16, 3) := by decide +kernel
theorem dX5_desk_83 : decode cX5_desk 83 = .ok (.iload_n 1, 1) := by decide +kernel
theorem dX5_desk_84 : decode cX5_desk 84 = .ok (.iaload, 1) := by decide +kernel
theorem dX5_desk_85 : decode cX5_desk 85 = .ok (.bipush 10, 2) := by decide +kernel
theorem dX5_desk_87 : decode cX5_desk 87 = .ok (.idiv, 1) := by decide +kernel
theorem dX5_desk_88 : decode cX5_desk 88 = .ok (.istore_n 2, 1) := by decide +kernel
theorem dX5_desk_89 : decode cX5_desk 89 = .ok (.aload_n 0, 1) := by decide +kernel
theorem dX5_desk_90 : decode cX5_desk 90 = .ok (.getfield 16, 3) := by decide +kernel
theorem dX5_desk_93 : decode cX5_desk 93 = .ok (.iload_n 1, 1) := by decide +kernel
theorem dX5_desk_94 : decode cX5_desk 94 = .ok (.iaload, 1) := by decide +kernel
theorem dX5_desk_95 : decode cX5_desk 95 = .ok (.bipush 10, 2) := by decide +kernel
theorem dX5_desk_97 : decode cX5_desk 97 = .ok (.irem, 1) := by decide +kernel
theorem dX5_desk_98 : decode cX5_desk 98 = .ok (.iconst 1, 1) := by decide +kernel
theorem dX5_desk_99 : decode cX5_desk 99 = .ok (.if_icmp .ne 21, 3) := by decide +kernel
theorem dX5_desk_102 : decode cX5_desk 102 = .ok (.aload_n 0, 1) := by decide +kernel
theorem dX5_desk_103 : decode cX5_desk 103 = .ok (.getfield 19, 3) := by decide +kernel
theorem dX5_desk_106 : decode cX5_desk 106 = .ok (.bipush 6, 2) := by decide +kernel
theorem dX5_desk_108 : decode cX5_desk 108 = .ok (.iload_n 2, 1) := by decide +kernel
theorem dX5_desk_109 : decode cX5_desk 109 = .ok (.imul, 1) := by decide +kernel
theorem dX5_desk_110 : decode cX5_desk 110 = .ok (.iconst 3, 1) := by decide +kernel
theorem dX5_desk_111 : decode cX5_desk 111 = .ok (.iadd, 1) := by decide +kernel
theorem dX5_desk_112 : decode cX5_desk 112 = .ok (.dup2, 1) := by decide +kernel
theorem dX5_desk_113 : decode cX5_desk 113 = .ok (.iaload, 1) := by decide +kernel
theorem dX5_desk_114 : decode cX5_desk 114 = .ok (.iconst 1, 1) := by decide +kernel
theorem dX5_desk_115 : decode cX5_desk 115 = .ok (.isub, 1) := by decide +kernel
theorem dX5_desk_116 : decode cX5_desk 116 = .ok (.iastore, 1) := by decide +kernel
theorem dX5_desk_117 : decode cX5_desk 117 = .ok (.goto 12, 3) := by decide +kernel
theorem dX5_desk_120 : decode cX5_desk 120 = .ok (.aload_n 0, 1) := by decide +kernel
theorem dX5_desk_121 : decode cX5_desk 121 = .ok (.getfield 19, 3) := by decide +kernel
theorem dX5_desk_124 : decode cX5_desk 124 = .ok (.iload_n 2, 1) := by decide +kernel
theorem dX5_desk_125 : decode cX5_desk 125 = .ok (.invokestatic 120, 3) := by decide +kernel
theorem dX5_desk_128 : decode cX5_desk 128 = .ok (.pop, 1) := by decide +kernel
theorem dX5_desk_129 : decode cX5_desk 129 = .ok (.iinc 1 1, 3) := by decide +kernel
theorem dX5_desk_132 : decode cX5_desk 132 = .ok (.goto (-61), 3) := by decide +kernel
theorem dX5_desk_135 : decode cX5_desk 135 = .ok (.aload_n 0, 1) := by decide +kernel
theorem dX5_desk_136 : decode cX5_desk 136 = .ok (.iconst 0, 1) := by decide +kernel
theorem dX5_desk_137 : decode cX5_desk 137 = .ok (.putfield 124, 3) := by decide +kernel
theorem dX5_desk_140 : decode cX5_desk 140 = .ok (.aload_n 0, 1) := by decide +kernel
theorem dX5_desk_141 : decode cX5_desk 141 = .ok (.getfield 31, 3) := by decide +kernel
theorem dX5_desk_144 : decode cX5_desk 144 = .ok (.iconst 0, 1) := by decide +kernel
theorem dX5_desk_145 : decode cX5_desk 145 = .ok (.iconst 0, 1) := by decide +kernel
theorem dX5_desk_146 : decode cX5_desk 146 = .ok (.bastore, 1) := by decide +kernel
theorem dX5_desk_147 : decode cX5_desk 147 = .ok (.aload_n 0, 1) := by decide +kernel
theorem dX5_desk_148 : decode cX5_desk 148 = .ok (.getfield 31, 3) := by decide +kernel
theorem dX5_desk_151 : decode cX5_desk 151 = .ok (.iconst 1, 1) := by decide +kernel
theorem dX5_desk_152 : decode cX5_desk 152 = .ok (.iconst 0, 1) := by decide +kernel
theorem dX5_desk_153 : decode cX5_desk 153 = .ok (.bastore, 1) := by decide +kernel
theorem dX5_desk_154 : decode cX5_desk 154 = .ok (.aload_n 0, 1) := by decide +kernel
theorem dX5_desk_155 : decode cX5_desk 155 = .ok (.getfield 19, 3) := by decide +kernel
theorem dX5_desk_158 : decode cX5_desk 158 = .ok (.bipush 24, 2) := by decide +kernel
theorem dX5_desk_160 : decode cX5_desk 160 = .ok (.iaload, 1) := by decide +kernel
theorem dX5_desk_161 : decode cX5_desk 161 = .ok (.ireturn, 1) := by decide +kernel
theorem dX5_gap_0 : decode cX5_gap 0 = .ok (.aload_n 0, 1) := by decide +kernel
theorem dX5_gap_1 : decode cX5_gap 1 = .ok (.getfield 19, 3) := by decide +kernel
theorem dX5_gap_4 : decode cX5_gap 4 = .ok (.aload_n 0, 1) := by decide +kernel
theorem dX5_gap_5 : decode cX5_gap 5 = .ok (.getfield 22, 3) := by decide +kernel
theorem dX5_gap_8 : decode cX5_gap 8 = .ok (.invokestatic 116, 3) := by decide +kernel
theorem dX5_gap_11 : decode cX5_gap 11 = .ok (.bipush (-9), 2) := by decide +kernel
theorem dX5_gap_13 : decode cX5_gap 13 = .ok (.istore_n 2, 1) := by decide +kernel
theorem dX5_gap_14 : decode cX5_gap 14 = .ok (.iconst 0, 1) := by decide +kernel
theorem dX5_gap_15 : decode cX5_gap 15 = .ok (.istore_n 3, 1) := by decide +kernel
theorem dX5_gap_16 : decode cX5_gap 16 = .ok (.aload_n 0, 1) := by decide +kernel
theorem dX5_gap_17 : decode cX5_gap 17 = .ok (.getfield 22, 3) := by decide +kernel
theorem dX5_gap_20 : decode cX5_gap 20 = .ok (.bipush 6, 2) := by decide +kernel
theorem dX5_gap_22 : decode cX5_gap 22 = .ok (.iload_n 1, 1) := by decide +kernel
theorem dX5_gap_23 : decode cX5_gap 23 = .ok (.imul, 1) := by decide +kernel
theorem dX5_gap_24 : decode cX5_gap 24 = .ok (.iconst 3, 1) := by decide +kernel
theorem dX5_gap_25 : decode cX5_gap 25 = .ok (.iadd, 1) := by decide +kernel
theorem dX5_gap_26 : decode cX5_gap 26 = .ok (.iaload, 1) := by decide +kernel
theorem dX5_gap_27 : decode cX5_gap 27 = .ok (.ifCond .le 41, 3) := by decide +kernel
theorem dX5_gap_30 : decode cX5_gap 30 = .ok (.aload_n 0, 1) := by decide +kernel
theorem dX5_gap_31 : decode cX5_gap 31 = .ok (.getfield 22, 3) := by decide +kernel
theorem dX5_gap_34 : decode cX5_gap 34 = .ok (.iload_n 1, 1) := by decide +kernel
theorem dX5_gap_35 : decode cX5_gap 35 = .ok (.invokestatic 127, 3) := by decide +kernel
theorem dX5_gap_38 : decode cX5_gap 38 = .ok (.ifCond .eq 7, 3) := by decide +kernel
theorem dX5_gap_41 : decode cX5_gap 41 = .ok (.iload_n 3, 1) := by decide +kernel
theorem dX5_gap_42 : decode cX5_gap 42 = .ok (.goto 4, 3) := by decide +kernel
theorem dX5_gap_45 : decode cX5_gap 45 = .ok (.iload_n 2, 1) := by decide +kernel
theorem dX5_gap_46 : decode cX5_gap 46 = .ok (.istore_n 2, 1) := by decide +kernel
theorem dX5_gap_47 : decode cX5_gap 47 = .ok (.aload_n 0, 1) := by decide +kernel
theorem dX5_gap_48 : decode cX5_gap 48 = .ok (.getfield 22, 3) := by decide +kernel
theorem dX5_gap_51 : decode cX5_gap 51 = .ok (.bipush 6, 2) := by decide +kernel
theorem dX5_gap_53 : decode cX5_gap 53 = .ok (.iload_n 1, 1) := by decide +kernel
theorem dX5_gap_54 : decode cX5_gap 54 = .ok (.imul, 1) := by decide +kernel
theorem dX5_gap_55 : decode cX5_gap 55 = .ok (.iconst 3, 1) := by decide +kernel
theorem dX5_gap_56 : decode cX5_gap 56 = .ok (.iadd, 1) := by decide +kernel
theorem dX5_gap_57 : decode cX5_gap 57 = .ok (.dup2, 1) := by decide +kernel
theorem dX5_gap_58 : decode cX5_gap 58 = .ok (.iaload, 1) := by decide +kernel
theorem dX5_gap_59 : decode cX5_gap 59 = .ok (.iconst 1, 1) := by decide +kernel
theorem dX5_gap_60 : decode cX5_gap 60 = .ok (.isub, 1) := by decide +kernel
theorem dX5_gap_61 : decode cX5_gap 61 = .ok (.iastore, 1) := by decide +kernel
theorem dX5_gap_62 : decode cX5_gap 62 = .ok (.iinc 3 1, 3) := by decide +kernel
theorem dX5_gap_65 : decode cX5_gap 65 = .ok (.goto (-49), 3) := by decide +kernel
theorem dX5_gap_68 : decode cX5_gap 68 = .ok (.iload_n 2, 1) := by decide +kernel
theorem dX5_gap_69 : decode cX5_gap 69 = .ok (.ireturn, 1) := by decide +kernel
theorem dX5_layLoop_0 : decode cX5_layLoop 0 = .ok (.iconst 0, 1) := by decide +kernel
theorem dX5_layLoop_1 : decode cX5_layLoop 1 = .ok (.istore_n 2, 1) := by decide +kernel
theorem dX5_layLoop_2 : decode cX5_layLoop 2 = .ok (.iload_n 2, 1) := by decide +kernel
theorem dX5_layLoop_3 : decode cX5_layLoop 3 = .ok (.sipush 251, 3) := by decide +kernel
theorem dX5_layLoop_6 : decode cX5_layLoop 6 = .ok (.if_icmp .ge 17, 3) := by decide +kernel
theorem dX5_layLoop_9 : decode cX5_layLoop 9 = .ok (.aload_n 0, 1) := by decide +kernel
theorem dX5_layLoop_10 : decode cX5_layLoop 10 = .ok (.getfield 44, 3) := by decide +kernel
theorem dX5_layLoop_13 : decode cX5_layLoop 13 = .ok (.iload_n 2, 1) := by decide +kernel
theorem dX5_layLoop_14 : decode cX5_layLoop 14 = .ok (.bipush (-9), 2) := by decide +kernel
theorem dX5_layLoop_16 : decode cX5_layLoop 16 = .ok (.iastore, 1) := by decide +kernel
theorem dX5_layLoop_17 : decode cX5_layLoop 17 = .ok (.iinc 2 1, 3) := by decide +kernel
theorem dX5_layLoop_20 : decode cX5_layLoop 20 = .ok (.goto (-18), 3) := by decide +kernel
theorem dX5_layLoop_23 : decode cX5_layLoop 23 = .ok (.aload_n 0, 1) := by decide +kernel
theorem dX5_layLoop_24 : decode cX5_layLoop 24 = .ok (.getfield 19, 3) := by decide +kernel
theorem dX5_layLoop_27 : decode cX5_layLoop 27 = .ok (.bipush 6, 2) := by decide +kernel
theorem dX5_layLoop_29 : decode cX5_layLoop 29 = .ok (.iload_n 1, 1) := by decide +kernel
theorem dX5_layLoop_30 : decode cX5_layLoop 30 = .ok (.imul, 1) := by decide +kernel
theorem dX5_layLoop_31 : decode cX5_layLoop 31 = .ok (.iaload, 1) := by decide +kernel
theorem dX5_layLoop_32 : decode cX5_layLoop 32 = .ok (.istore_n 2, 1) := by decide +kernel
theorem dX5_layLoop_33 : decode cX5_layLoop 33 = .ok (.iconst 0, 1) := by decide +kernel
theorem dX5_layLoop_34 : decode cX5_layLoop 34 = .ok (.istore_n 3, 1) := by decide +kernel
theorem dX5_layLoop_35 : decode cX5_layLoop 35 = .ok (.aload_n 0, 1) := by decide +kernel
theorem dX5_layLoop_36 : decode cX5_layLoop 36 = .ok (.getfield 44, 3) := by decide +kernel
theorem dX5_layLoop_39 : decode cX5_layLoop 39 = .ok (.iload_n 2, 1) := by decide +kernel
theorem dX5_layLoop_40 : decode cX5_layLoop 40 = .ok (.iaload, 1) := by decide +kernel
theorem dX5_layLoop_41 : decode cX5_layLoop 41 = .ok (.bipush (-9), 2) := by decide +kernel
theorem dX5_layLoop_43 : decode cX5_layLoop 43 = .ok (.if_icmp .ne 33, 3) := by decide +kernel
theorem dX5_layLoop_46 : decode cX5_layLoop 46 = .ok (.aload_n 0, 1) := by decide +kernel
theorem dX5_layLoop_47 : decode cX5_layLoop 47 = .ok (.getfield 44, 3) := by decide +kernel
theorem dX5_layLoop_50 : decode cX5_layLoop 50 = .ok (.iload_n 2, 1) := by decide +kernel
theorem dX5_layLoop_51 : decode cX5_layLoop 51 = .ok (.iload_n 3, 1) := by decide +kernel
theorem dX5_layLoop_52 : decode cX5_layLoop 52 = .ok (.iastore, 1) := by decide +kernel
theorem dX5_layLoop_53 : decode cX5_layLoop 53 = .ok (.iload_n 2, 1) := by decide +kernel
theorem dX5_layLoop_54 : decode cX5_layLoop 54 = .ok (.aload_n 0, 1) := by decide +kernel
theorem dX5_layLoop_55 : decode cX5_layLoop 55 = .ok (.getfield 19, 3) := by decide +kernel
theorem dX5_layLoop_58 : decode cX5_layLoop 58 = .ok (.bipush 6, 2) := by decide +kernel
theorem dX5_layLoop_60 : decode cX5_layLoop 60 = .ok (.iload_n 1, 1) := by decide +kernel
theorem dX5_layLoop_61 : decode cX5_layLoop 61 = .ok (.imul, 1) := by decide +kernel
theorem dX5_layLoop_62 : decode cX5_layLoop 62 = .ok (.iconst 1, 1) := by decide +kernel
theorem dX5_layLoop_63 : decode cX5_layLoop 63 = .ok (.iadd, 1) := by decide +kernel
theorem dX5_layLoop_64 : decode cX5_layLoop 64 = .ok (.iaload, 1) := by decide +kernel
theorem dX5_layLoop_65 : decode cX5_layLoop 65 = .ok (.iconst 1, 1) := by decide +kernel
theorem dX5_layLoop_66 : decode cX5_layLoop 66 = .ok (.invokestatic 61, 3) := by decide +kernel
theorem dX5_layLoop_69 : decode cX5_layLoop 69 = .ok (.istore_n 2, 1) := by decide +kernel
theorem dX5_layLoop_70 : decode cX5_layLoop 70 = .ok (.iinc 3 1, 3) := by decide +kernel
theorem dX5_layLoop_73 : decode cX5_layLoop 73 = .ok (.goto (-38), 3) := by decide +kernel
theorem dX5_layLoop_76 : decode cX5_layLoop 76 = .ok (.sipush 1000, 3) := by decide +kernel
theorem dX5_layLoop_79 : decode cX5_layLoop 79 = .ok (.iload_n 3, 1) := by decide +kernel
theorem dX5_layLoop_80 : decode cX5_layLoop 80 = .ok (.aload_n 0, 1) := by decide +kernel
theorem dX5_layLoop_81 : decode cX5_layLoop 81 = .ok (.getfield 44, 3) := by decide +kernel
theorem dX5_layLoop_84 : decode cX5_layLoop 84 = .ok (.iload_n 2, 1) := by decide +kernel
theorem dX5_layLoop_85 : decode cX5_layLoop 85 = .ok (.iaload, 1) := by decide +kernel
theorem dX5_layLoop_86 : decode cX5_layLoop 86 = .ok (.isub, 1) := by decide +kernel
theorem dX5_layLoop_87 : decode cX5_layLoop 87 = .ok (.imul, 1) := by decide +kernel
theorem dX5_layLoop_88 : decode cX5_layLoop 88 = .ok (.aload_n 0, 1) := by decide +kernel
theorem dX5_layLoop_89 : decode cX5_layLoop 89 = .ok (.getfield 44, 3) := by decide +kernel
theorem dX5_layLoop_92 : decode cX5_layLoop 92 = .ok (.iload_n 2, 1) := by decide +kernel
theorem dX5_layLoop_93 : decode cX5_layLoop 93 = .ok (.iaload, 1) := by decide +kernel
theorem dX5_layLoop_94 : decode cX5_layLoop 94 = .ok (.iadd, 1) := by decide +kernel
theorem dX5_layLoop_95 : decode cX5_layLoop 95 = .ok (.ireturn, 1) := by decide +kernel
theorem dX5_user_0 : decode cX5_user 0 = .ok (.aload_n 0, 1) := by decide +kernel
theorem dX5_user_1 : decode cX5_user 1 = .ok (.iconst 0, 1) := by decide +kernel
theorem dX5_user_2 : decode cX5_user 2 = .ok (.putfield 51, 3) := by decide +kernel
theorem dX5_user_5 : decode cX5_user 5 = .ok (.aload_n 0, 1) := by decide +kernel
theorem dX5_user_6 : decode cX5_user 6 = .ok (.getfield 19, 3) := by decide +kernel
theorem dX5_user_9 : decode cX5_user 9 = .ok (.iload_n 1, 1) := by decide +kernel
theorem dX5_user_10 : decode cX5_user 10 = .ok (.invokestatic 75, 3) := by decide +kernel
theorem dX5_user_13 : decode cX5_user 13 = .ok (.ifCond .eq 5, 3) := by decide +kernel
theorem dX5_user_16 : decode cX5_user 16 = .ok (.iconst (-1), 1) := by decide +kernel
theorem dX5_user_17 : decode cX5_user 17 = .ok (.ireturn, 1) := by decide +kernel
theorem dX5_user_18 : decode cX5_user 18 = .ok (.iload_n 2, 1) := by decide +kernel
theorem dX5_user_19 : decode cX5_user 19 = .ok (.i2l, 1) := by decide +kernel
theorem dX5_user_20 : decode cX5_user 20 = .ok (.lconst 0, 1) := by decide +kernel
theorem dX5_user_21 : decode cX5_user 21 = .ok (.ldc2_w 130, 3) := by decide +kernel
theorem dX5_user_24 : decode cX5_user 24 = .ok (.invokestatic 57, 3) := by decide +kernel
theorem dX5_user_27 : decode cX5_user 27 = .ok (.ifCond .eq 15, 3) := by decide +kernel
theorem dX5_user_30 : decode cX5_user 30 = .ok (.aload_n 0, 1) := by decide +kernel
theorem dX5_user_31 : decode cX5_user 31 = .ok (.getfield 19, 3) := by decide +kernel
theorem dX5_user_34 : decode cX5_user 34 = .ok (.bipush 6, 2) := by decide +kernel
theorem dX5_user_36 : decode cX5_user 36 = .ok (.iload_n 1, 1) := by decide +kernel
theorem dX5_user_37 : decode cX5_user 37 = .ok (.imul, 1) := by decide +kernel
theorem dX5_user_38 : decode cX5_user 38 = .ok (.iload_n 2, 1) := by decide +kernel
theorem dX5_user_39 : decode cX5_user 39 = .ok (.iadd, 1) := by decide +kernel
theorem dX5_user_40 : decode cX5_user 40 = .ok (.iaload, 1) := by decide +kernel
theorem dX5_user_41 : decode cX5_user 41 = .ok (.ireturn, 1) := by decide +kernel
theorem dX5_user_42 : decode cX5_user 42 = .ok (.iload_n 2, 1) := by decide +kernel
theorem dX5_user_43 : decode cX5_user 43 = .ok (.tableswitch 97 6 10 #[33, 50, 71, 77, 87], 33) := by decide +kernel
theorem dX5_user_76 : decode cX5_user 76 = .ok (.aload_n 0, 1) := by decide +kernel
theorem dX5_user_77 : decode cX5_user 77 = .ok (.getfield 19, 3) := by decide +kernel
theorem dX5_user_80 : decode cX5_user 80 = .ok (.iload_n 1, 1) := by decide +kernel
theorem dX5_user_81 : decode cX5_user 81 = .ok (.invokestatic 127, 3) := by decide +kernel
theorem dX5_user_84 : decode cX5_user 84 = .ok (.ifCond .eq 7, 3) := by decide +kernel
theorem dX5_user_87 : decode cX5_user 87 = .ok (.iconst 1, 1) := by decide +kernel
theorem dX5_user_88 : decode cX5_user 88 = .ok (.goto 4, 3) := by decide +kernel
theorem dX5_user_91 : decode cX5_user 91 = .ok (.iconst 0, 1) := by decide +kernel
theorem dX5_user_92 : decode cX5_user 92 = .ok (.ireturn, 1) := by decide +kernel
theorem dX5_user_93 : decode cX5_user 93 = .ok (.aload_n 0, 1) := by decide +kernel
theorem dX5_user_94 : decode cX5_user 94 = .ok (.getfield 19, 3) := by decide +kernel
theorem dX5_user_97 : decode cX5_user 97 = .ok (.bipush 6, 2) := by decide +kernel
theorem dX5_user_99 : decode cX5_user 99 = .ok (.iload_n 1, 1) := by decide +kernel
theorem dX5_user_100 : decode cX5_user 100 = .ok (.imul, 1) := by decide +kernel
theorem dX5_user_101 : decode cX5_user 101 = .ok (.iconst 5, 1) := by decide +kernel
theorem dX5_user_102 : decode cX5_user 102 = .ok (.iadd, 1) := by decide +kernel
theorem dX5_user_103 : decode cX5_user 103 = .ok (.iaload, 1) := by decide +kernel
theorem dX5_user_104 : decode cX5_user 104 = .ok (.iconst 4, 1) := by decide +kernel
theorem dX5_user_105 : decode cX5_user 105 = .ok (.if_icmp .ge 7, 3) := by decide +kernel
theorem dX5_user_108 : decode cX5_user 108 = .ok (.iconst 1, 1) := by decide +kernel
theorem dX5_user_109 : decode cX5_user 109 = .ok (.goto 4, 3) := by decide +kernel
theorem dX5_user_112 : decode cX5_user 112 = .ok (.iconst 0, 1) := by decide +kernel
theorem dX5_user_113 : decode cX5_user 113 = .ok (.ireturn, 1) := by decide +kernel
theorem dX5_user_114 : decode cX5_user 114 = .ok (.aload_n 0, 1) := by decide +kernel
theorem dX5_user_115 : decode cX5_user 115 = .ok (.iload_n 1, 1) := by decide +kernel
theorem dX5_user_116 : decode cX5_user 116 = .ok (.invokevirtual 132, 3) := by decide +kernel
theorem dX5_user_119 : decode cX5_user 119 = .ok (.ireturn, 1) := by decide +kernel
theorem dX5_user_120 : decode cX5_user 120 = .ok (.aload_n 0, 1) := by decide +kernel
theorem dX5_user_121 : decode cX5_user 121 = .ok (.iload_n 1, 1) := by decide +kernel
theorem dX5_user_122 : decode cX5_user 122 = .ok (.invokevirtual 136, 3) := by decide +kernel
theorem dX5_user_125 : decode cX5_user 125 = .ok (.sipush 1000, 3) := by decide +kernel
theorem dX5_user_128 : decode cX5_user 128 = .ok (.irem, 1) := by decide +kernel
theorem dX5_user_129 : decode cX5_user 129 = .ok (.ireturn, 1) := by decide +kernel
theorem dX5_user_130 : decode cX5_user 130 = .ok (.aload_n 0, 1) := by decide +kernel
theorem dX5_user_131 : decode cX5_user 131 = .ok (.iload_n 1, 1) := by decide +kernel
theorem dX5_user_132 : decode cX5_user 132 = .ok (.invokevirtual 136, 3) := by decide +kernel
theorem dX5_user_135 : decode cX5_user 135 = .ok (.sipush 1000, 3) := by decide +kernel
theorem dX5_user_138 : decode cX5_user 138 = .ok (.idiv, 1) := by decide +kernel
theorem dX5_user_139 : decode cX5_user 139 = .ok (.ireturn, 1) := by decide +kernel
theorem dX5_user_140 : decode cX5_user 140 = .ok (.bipush (-2), 2) := by decide +kernel
theorem dX5_user_142 : decode cX5_user 142 = .ok (.ireturn, 1) := by decide +kernel
theorem dX5_pass_0 : decode cX5_pass 0 = .ok (.aload_n 0, 1) := by decide +kernel
theorem dX5_pass_1 : decode cX5_pass 1 = .ok (.iconst 0, 1) := by decide +kernel
theorem dX5_pass_2 : decode cX5_pass 2 = .ok (.putfield 51, 3) := by decide +kernel
theorem dX5_pass_5 : decode cX5_pass 5 = .ok (.aload_n 0, 1) := by decide +kernel
theorem dX5_pass_6 : decode cX5_pass 6 = .ok (.getfield 19, 3) := by decide +kernel
theorem dX5_pass_9 : decode cX5_pass 9 = .ok (.iload_n 1, 1) := by decide +kernel
theorem dX5_pass_10 : decode cX5_pass 10 = .ok (.invokestatic 75, 3) := by decide +kernel
theorem dX5_pass_13 : decode cX5_pass 13 = .ok (.ifCond .eq 5, 3) := by decide +kernel
theorem dX5_pass_16 : decode cX5_pass 16 = .ok (.iconst (-1), 1) := by decide +kernel
theorem dX5_pass_17 : decode cX5_pass 17 = .ok (.ireturn, 1) := by decide +kernel
theorem dX5_pass_18 : decode cX5_pass 18 = .ok (.iload_n 2, 1) := by decide +kernel
theorem dX5_pass_19 : decode cX5_pass 19 = .ok (.i2l, 1) := by decide +kernel
theorem dX5_pass_20 : decode cX5_pass 20 = .ok (.lconst 0, 1) := by decide +kernel
theorem dX5_pass_21 : decode cX5_pass 21 = .ok (.aload_n 0, 1) := by decide +kernel
theorem dX5_pass_22 : decode cX5_pass 22 = .ok (.getfield 19, 3) := by decide +kernel
theorem dX5_pass_25 : decode cX5_pass 25 = .ok (.bipush 6, 2) := by decide +kernel
theorem dX5_pass_27 : decode cX5_pass 27 = .ok (.iload_n 1, 1) := by decide +kernel
theorem dX5_pass_28 : decode cX5_pass 28 = .ok (.imul, 1) := by decide +kernel
theorem dX5_pass_29 : decode cX5_pass 29 = .ok (.iconst 2, 1) := by decide +kernel
theorem dX5_pass_30 : decode cX5_pass 30 = .ok (.iadd, 1) := by decide +kernel
theorem dX5_pass_31 : decode cX5_pass 31 = .ok (.iaload, 1) := by decide +kernel
theorem dX5_pass_32 : decode cX5_pass 32 = .ok (.iconst 1, 1) := by decide +kernel
theorem dX5_pass_33 : decode cX5_pass 33 = .ok (.isub, 1) := by decide +kernel
theorem dX5_pass_34 : decode cX5_pass 34 = .ok (.i2l, 1) := by decide +kernel
theorem dX5_pass_35 : decode cX5_pass 35 = .ok (.invokestatic 57, 3) := by decide +kernel
theorem dX5_pass_38 : decode cX5_pass 38 = .ok (.ifCond .eq 15, 3) := by decide +kernel
theorem dX5_pass_41 : decode cX5_pass 41 = .ok (.aload_n 0, 1) := by decide +kernel
theorem dX5_pass_42 : decode cX5_pass 42 = .ok (.getfield 19, 3) := by decide +kernel
theorem dX5_pass_45 : decode cX5_pass 45 = .ok (.iload_n 1, 1) := by decide +kernel
theorem dX5_pass_46 : decode cX5_pass 46 = .ok (.iload_n 2, 1) := by decide +kernel
theorem dX5_pass_47 : decode cX5_pass 47 = .ok (.invokestatic 69, 3) := by decide +kernel
theorem dX5_pass_50 : decode cX5_pass 50 = .ok (.goto 5, 3) := by decide +kernel
theorem dX5_pass_53 : decode cX5_pass 53 = .ok (.bipush (-9), 2) := by decide +kernel
theorem dX5_pass_55 : decode cX5_pass 55 = .ok (.ireturn, 1) := by decide +kernel
theorem dX5_behind_0 : decode cX5_behind 0 = .ok (.aload_n 0, 1) := by decide +kernel
theorem dX5_behind_1 : decode cX5_behind 1 = .ok (.iconst 0, 1) := by decide +kernel
theorem dX5_behind_2 : decode cX5_behind 2 = .ok (.putfield 51, 3) := by decide +kernel
theorem dX5_behind_5 : decode cX5_behind 5 = .ok (.iload_n 1, 1) := by decide +kernel
theorem dX5_behind_6 : decode cX5_behind 6 = .ok (.invokestatic 139, 3) := by decide +kernel
theorem dX5_behind_9 : decode cX5_behind 9 = .ok (.ifCond .eq 31, 3) := by decide +kernel
theorem dX5_behind_12 : decode cX5_behind 12 = .ok (.iload_n 2, 1) := by decide +kernel
theorem dX5_behind_13 : decode cX5_behind 13 = .ok (.invokestatic 139, 3) := by decide +kernel
theorem dX5_behind_16 : decode cX5_behind 16 = .ok (.ifCond .eq 24, 3) := by decide +kernel
theorem dX5_behind_19 : decode cX5_behind 19 = .ok (.iload_n 3, 1) := by decide +kernel
theorem dX5_behind_20 : decode cX5_behind 20 = .ok (.i2l, 1) := by decide +kernel
theorem dX5_behind_21 : decode cX5_behind 21 = .ok (.lconst 0, 1) := by decide +kernel
theorem dX5_behind_22 : decode cX5_behind 22 = .ok (.ldc2_w 143, 3) := by decide +kernel
theorem dX5_behind_25 : decode cX5_behind 25 = .ok (.invokestatic 57, 3) := by decide +kernel
theorem dX5_behind_28 : decode cX5_behind 28 = .ok (.ifCond .eq 12, 3) := by decide +kernel
theorem dX5_behind_31 : decode cX5_behind 31 = .ok (.iload_n 1, 1) := by decide +kernel
theorem dX5_behind_32 : decode cX5_behind 32 = .ok (.iload_n 2, 1) := by decide +kernel
theorem dX5_behind_33 : decode cX5_behind 33 = .ok (.iload_n 3, 1) := by decide +kernel
theorem dX5_behind_34 : decode cX5_behind 34 = .ok (.invokestatic 61, 3) := by decide +kernel
theorem dX5_behind_37 : decode cX5_behind 37 = .ok (.goto 5, 3) := by decide +kernel
theorem dX5_behind_40 : decode cX5_behind 40 = .ok (.bipush (-2), 2) := by decide +kernel
theorem dX5_behind_42 : decode cX5_behind 42 = .ok (.ireturn, 1) := by decide +kernel
theorem dX5_note_0 : decode cX5_note 0 = .ok (.aload_n 0, 1) := by decide +kernel
theorem dX5_note_1 : decode cX5_note 1 = .ok (.getfield 124, 3) := by decide +kernel
theorem dX5_note_4 : decode cX5_note 4 = .ok (.bipush 14, 2) := by decide +kernel
theorem dX5_note_6 : decode cX5_note 6 = .ok (.if_icmp .ne 43, 3) := by decide +kernel
theorem dX5_note_9 : decode cX5_note 9 = .ok (.iconst 0, 1) := by decide +kernel
theorem dX5_note_10 : decode cX5_note 10 = .ok (.istore_n 1, 1) := by decide +kernel
theorem dX5_note_11 : decode cX5_note 11 = .ok (.iload_n 1, 1) := by decide +kernel
theorem dX5_note_12 : decode cX5_note 12 = .ok (.sipush 468, 3) := by decide +kernel
theorem dX5_note_15 : decode cX5_note 15 = .ok (.if_icmp .ge 24, 3) := by decide +kernel
theorem dX5_note_18 : decode cX5_note 18 = .ok (.aload_n 0, 1) := by decide +kernel
theorem dX5_note_19 : decode cX5_note 19 = .ok (.getfield 25, 3) := by decide +kernel
theorem dX5_note_22 : decode cX5_note 22 = .ok (.iload_n 1, 1) := by decide +kernel
theorem dX5_note_23 : decode cX5_note 23 = .ok (.aload_n 0, 1) := by decide +kernel
theorem dX5_note_24 : decode cX5_note 24 = .ok (.getfield 25, 3) := by decide +kernel
theorem dX5_note_27 : decode cX5_note 27 = .ok (.iload_n 1, 1) := by decide +kernel
theorem dX5_note_28 : decode cX5_note 28 = .ok (.bipush 36, 2) := by decide +kernel
theorem dX5_note_30 : decode cX5_note 30 = .ok (.iadd, 1) := by decide +kernel
theorem dX5_note_31 : decode cX5_note 31 = .ok (.iaload, 1) := by decide +kernel
theorem dX5_note_32 : decode cX5_note 32 = .ok (.iastore, 1) := by decide +kernel
theorem dX5_note_33 : decode cX5_note 33 = .ok (.iinc 1 1, 3) := by decide +kernel
theorem dX5_note_36 : decode cX5_note 36 = .ok (.goto (-25), 3) := by decide +kernel
theorem dX5_note_39 : decode cX5_note 39 = .ok (.aload_n 0, 1) := by decide +kernel
theorem dX5_note_40 : decode cX5_note 40 = .ok (.dup, 1) := by decide +kernel
theorem dX5_note_41 : decode cX5_note 41 = .ok (.getfield 124, 3) := by decide +kernel
theorem dX5_note_44 : decode cX5_note 44 = .ok (.iconst 1, 1) := by decide +kernel
theorem dX5_note_45 : decode cX5_note 45 = .ok (.isub, 1) := by decide +kernel
theorem dX5_note_46 : decode cX5_note 46 = .ok (.putfield 124, 3) := by decide +kernel
theorem dX5_note_49 : decode cX5_note 49 = .ok (.iconst 0, 1) := by decide +kernel
theorem dX5_note_50 : decode cX5_note 50 = .ok (.istore_n 1, 1) := by decide +kernel
theorem dX5_note_51 : decode cX5_note 51 = .ok (.iload_n 1, 1) := by decide +kernel
theorem dX5_note_52 : decode cX5_note 52 = .ok (.bipush 36, 2) := by decide +kernel
theorem dX5_note_54 : decode cX5_note 54 = .ok (.if_icmp .ge 29, 3) := by decide +kernel
theorem dX5_note_57 : decode cX5_note 57 = .ok (.aload_n 0, 1) := by decide +kernel
theorem dX5_note_58 : decode cX5_note 58 = .ok (.getfield 25, 3) := by decide +kernel
theorem dX5_note_61 : decode cX5_note 61 = .ok (.bipush 36, 2) := by decide +kernel
theorem dX5_note_63 : decode cX5_note 63 = .ok (.aload_n 0, 1) := by decide +kernel
theorem dX5_note_64 : decode cX5_note 64 = .ok (.getfield 124, 3) := by decide +kernel
theorem dX5_note_67 : decode cX5_note 67 = .ok (.imul, 1) := by decide +kernel
theorem dX5_note_68 : decode cX5_note 68 = .ok (.iload_n 1, 1) := by decide +kernel
theorem dX5_note_69 : decode cX5_note 69 = .ok (.iadd, 1) := by decide +kernel
theorem dX5_note_70 : decode cX5_note 70 = .ok (.aload_n 0, 1) := by decide +kernel
theorem dX5_note_71 : decode cX5_note 71 = .ok (.getfield 19, 3) := by decide +kernel
theorem dX5_note_74 : decode cX5_note 74 = .ok (.iload_n 1, 1) := by decide +kernel
theorem dX5_note_75 : decode cX5_note 75 = .ok (.iaload, 1) := by decide +kernel
theorem dX5_note_76 : decode cX5_note 76 = .ok (.iastore, 1) := by decide +kernel
theorem dX5_note_77 : decode cX5_note 77 = .ok (.iinc 1 1, 3) := by decide +kernel
theorem dX5_note_80 : decode cX5_note 80 = .ok (.goto (-29), 3) := by decide +kernel
theorem dX5_note_83 : decode cX5_note 83 = .ok (.aload_n 0, 1) := by decide +kernel
theorem dX5_note_84 : decode cX5_note 84 = .ok (.dup, 1) := by decide +kernel
theorem dX5_note_85 : decode cX5_note 85 = .ok (.getfield 124, 3) := by decide +kernel
theorem dX5_note_88 : decode cX5_note 88 = .ok (.iconst 1, 1) := by decide +kernel
theorem dX5_note_89 : decode cX5_note 89 = .ok (.iadd, 1) := by decide +kernel
theorem dX5_note_90 : decode cX5_note 90 = .ok (.putfield 124, 3) := by decide +kernel
theorem dX5_note_93 : decode cX5_note 93 = .ok (.return_, 1) := by decide +kernel
theorem dX5_send_0 : decode cX5_send 0 = .ok (.aload_n 0, 1) := by decide +kernel
theorem dX5_send_1 : decode cX5_send 1 = .ok (.iconst 0, 1) := by decide +kernel
theorem dX5_send_2 : decode cX5_send 2 = .ok (.putfield 51, 3) := by decide +kernel
theorem dX5_send_5 : decode cX5_send 5 = .ok (.aload_n 0, 1) := by decide +kernel
theorem dX5_send_6 : decode cX5_send 6 = .ok (.getfield 19, 3) := by decide +kernel
theorem dX5_send_9 : decode cX5_send 9 = .ok (.iload_n 1, 1) := by decide +kernel
theorem dX5_send_10 : decode cX5_send 10 = .ok (.invokestatic 75, 3) := by decide +kernel
theorem dX5_send_13 : decode cX5_send 13 = .ok (.ifCond .eq 5, 3) := by decide +kernel
theorem dX5_send_16 : decode cX5_send 16 = .ok (.iconst (-1), 1) := by decide +kernel
theorem dX5_send_17 : decode cX5_send 17 = .ok (.ireturn, 1) := by decide +kernel
theorem dX5_send_18 : decode cX5_send 18 = .ok (.aload_n 0, 1) := by decide +kernel
theorem dX5_send_19 : decode cX5_send 19 = .ok (.getfield 19, 3) := by decide +kernel
theorem dX5_send_22 : decode cX5_send 22 = .ok (.iload_n 1, 1) := by decide +kernel
theorem dX5_send_23 : decode cX5_send 23 = .ok (.invokestatic 79, 3) := by decide +kernel
theorem dX5_send_26 : decode cX5_send 26 = .ok (.ifCond .ne 6, 3) := by decide +kernel
theorem dX5_send_29 : decode cX5_send 29 = .ok (.bipush (-3), 2) := by decide +kernel
theorem dX5_send_31 : decode cX5_send 31 = .ok (.ireturn, 1) := by decide +kernel
theorem dX5_send_32 : decode cX5_send 32 = .ok (.aload_n 0, 1) := by decide +kernel
theorem dX5_send_33 : decode cX5_send 33 = .ok (.invokevirtual 145, 3) := by decide +kernel
theorem dX5_send_36 : decode cX5_send 36 = .ok (.aload_n 0, 1) := by decide +kernel
theorem dX5_send_37 : decode cX5_send 37 = .ok (.getfield 19, 3) := by decide +kernel
theorem dX5_send_40 : decode cX5_send 40 = .ok (.iload_n 1, 1) := by decide +kernel
theorem dX5_send_41 : decode cX5_send 41 = .ok (.invokestatic 120, 3) := by decide +kernel
theorem dX5_send_44 : decode cX5_send 44 = .ok (.ireturn, 1) := by decide +kernel
theorem dX5_miss_0 : decode cX5_miss 0 = .ok (.aload_n 0, 1) := by decide +kernel
theorem dX5_miss_1 : decode cX5_miss 1 = .ok (.iconst 0, 1) := by decide +kernel
theorem dX5_miss_2 : decode cX5_miss 2 = .ok (.putfield 51, 3) := by decide +kernel
theorem dX5_miss_5 : decode cX5_miss 5 = .ok (.aload_n 0, 1) := by decide +kernel
theorem dX5_miss_6 : decode cX5_miss 6 = .ok (.getfield 19, 3) := by decide +kernel
theorem dX5_miss_9 : decode cX5_miss 9 = .ok (.iload_n 1, 1) := by decide +kernel
theorem dX5_miss_10 : decode cX5_miss 10 = .ok (.invokestatic 75, 3) := by decide +kernel
theorem dX5_miss_13 : decode cX5_miss 13 = .ok (.ifCond .eq 5, 3) := by decide +kernel
theorem dX5_miss_16 : decode cX5_miss 16 = .ok (.iconst (-1), 1) := by decide +kernel
theorem dX5_miss_17 : decode cX5_miss 17 = .ok (.ireturn, 1) := by decide +kernel
theorem dX5_miss_18 : decode cX5_miss 18 = .ok (.aload_n 0, 1) := by decide +kernel
theorem dX5_miss_19 : decode cX5_miss 19 = .ok (.getfield 19, 3) := by decide +kernel
theorem dX5_miss_22 : decode cX5_miss 22 = .ok (.iload_n 1, 1) := by decide +kernel
theorem dX5_miss_23 : decode cX5_miss 23 = .ok (.invokestatic 79, 3) := by decide +kernel
theorem dX5_miss_26 : decode cX5_miss 26 = .ok (.ifCond .ne 6, 3) := by decide +kernel
theorem dX5_miss_29 : decode cX5_miss 29 = .ok (.bipush (-3), 2) := by decide +kernel
theorem dX5_miss_31 : decode cX5_miss 31 = .ok (.ireturn, 1) := by decide +kernel
theorem dX5_miss_32 : decode cX5_miss 32 = .ok (.aload_n 0, 1) := by decide +kernel
theorem dX5_miss_33 : decode cX5_miss 33 = .ok (.invokevirtual 145, 3) := by decide +kernel
theorem dX5_miss_36 : decode cX5_miss 36 = .ok (.aload_n 0, 1) := by decide +kernel
theorem dX5_miss_37 : decode cX5_miss 37 = .ok (.getfield 19, 3) := by decide +kernel
theorem dX5_miss_40 : decode cX5_miss 40 = .ok (.bipush 6, 2) := by decide +kernel
theorem dX5_miss_42 : decode cX5_miss 42 = .ok (.iload_n 1, 1) := by decide +kernel
theorem dX5_miss_43 : decode cX5_miss 43 = .ok (.imul, 1) := by decide +kernel
theorem dX5_miss_44 : decode cX5_miss 44 = .ok (.iconst 3, 1) := by decide +kernel
theorem dX5_miss_45 : decode cX5_miss 45 = .ok (.iadd, 1) := by decide +kernel
theorem dX5_miss_46 : decode cX5_miss 46 = .ok (.dup2, 1) := by decide +kernel
theorem dX5_miss_47 : decode cX5_miss 47 = .ok (.iaload, 1) := by decide +kernel
theorem dX5_miss_48 : decode cX5_miss 48 = .ok (.iconst 1, 1) := by decide +kernel
theorem dX5_miss_49 : decode cX5_miss 49 = .ok (.isub, 1) := by decide +kernel
theorem dX5_miss_50 : decode cX5_miss 50 = .ok (.iastore, 1) := by decide +kernel
theorem dX5_miss_51 : decode cX5_miss 51 = .ok (.aload_n 0, 1) := by decide +kernel
theorem dX5_miss_52 : decode cX5_miss 52 = .ok (.getfield 19, 3) := by decide +kernel
theorem dX5_miss_55 : decode cX5_miss 55 = .ok (.bipush 6, 2) := by decide +kernel
theorem dX5_miss_57 : decode cX5_miss 57 = .ok (.iload_n 1, 1) := by decide +kernel
theorem dX5_miss_58 : decode cX5_miss 58 = .ok (.imul, 1) := by decide +kernel
theorem dX5_miss_59 : decode cX5_miss 59 = .ok (.iconst 3, 1) := by decide +kernel
theorem dX5_miss_60 : decode cX5_miss 60 = .ok (.iadd, 1) := by decide +kernel
theorem dX5_miss_61 : decode cX5_miss 61 = .ok (.iaload, 1) := by decide +kernel
theorem dX5_miss_62 : decode cX5_miss 62 = .ok (.ireturn, 1) := by decide +kernel
theorem dX5_attempt_0 : decode cX5_attempt 0 = .ok (.aload_n 0, 1) := by decide +kernel
theorem dX5_attempt_1 : decode cX5_attempt 1 = .ok (.iconst 0, 1) := by decide +kernel
theorem dX5_attempt_2 : decode cX5_attempt 2 = .ok (.putfield 51, 3) := by decide +kernel
theorem dX5_attempt_5 : decode cX5_attempt 5 = .ok (.aload_n 0, 1) := by decide +kernel
theorem dX5_attempt_6 : decode cX5_attempt 6 = .ok (.getfield 19, 3) := by decide +kernel
theorem dX5_attempt_9 : decode cX5_attempt 9 = .ok (.iload_n 1, 1) := by decide +kernel
theorem dX5_attempt_10 : decode cX5_attempt 10 = .ok (.invokestatic 75, 3) := by decide +kernel
theorem dX5_attempt_13 : decode cX5_attempt 13 = .ok (.ifCond .eq 5, 3) := by decide +kernel
theorem dX5_attempt_16 : decode cX5_attempt 16 = .ok (.iconst (-1), 1) := by decide +kernel
theorem dX5_attempt_17 : decode cX5_attempt 17 = .ok (.ireturn, 1) := by decide +kernel
theorem dX5_attempt_18 : decode cX5_attempt 18 = .ok (.iload_n 2, 1) := by decide +kernel
theorem dX5_attempt_19 : decode cX5_attempt 19 = .ok (.invokestatic 139, 3) := by decide +kernel
theorem dX5_attempt_22 : decode cX5_attempt 22 = .ok (.ifCond .ne 6, 3) := by decide +kernel
theorem dX5_attempt_25 : decode cX5_attempt 25 = .ok (.bipush (-2), 2) := by decide +kernel
theorem dX5_attempt_27 : decode cX5_attempt 27 = .ok (.ireturn, 1) := by decide +kernel
theorem dX5_attempt_28 : decode cX5_attempt 28 = .ok (.aload_n 0, 1) := by decide +kernel
theorem dX5_attempt_29 : decode cX5_attempt 29 = .ok (.invokevirtual 145, 3) := by decide +kernel
theorem dX5_attempt_32 : decode cX5_attempt 32 = .ok (.aload_n 0, 1) := by decide +kernel
theorem dX5_attempt_33 : decode cX5_attempt 33 = .ok (.getfield 19, 3) := by decide +kernel
theorem dX5_attempt_36 : decode cX5_attempt 36 = .ok (.iload_n 1, 1) := by decide +kernel
theorem dX5_attempt_37 : decode cX5_attempt 37 = .ok (.iload_n 2, 1) := by decide +kernel
theorem dX5_attempt_38 : decode cX5_attempt 38 = .ok (.invokestatic 72, 3) := by decide +kernel
theorem dX5_attempt_41 : decode cX5_attempt 41 = .ok (.ireturn, 1) := by decide +kernel
theorem dX5_hear_0 : decode cX5_hear 0 = .ok (.aload_n 0, 1) := by decide +kernel
theorem dX5_hear_1 : decode cX5_hear 1 = .ok (.iconst 0, 1) := by decide +kernel
theorem dX5_hear_2 : decode cX5_hear 2 = .ok (.putfield 51, 3) := by decide +kernel
theorem dX5_hear_5 : decode cX5_hear 5 = .ok (.aload_n 0, 1) := by decide +kernel
theorem dX5_hear_6 : decode cX5_hear 6 = .ok (.getfield 19, 3) := by decide +kernel
theorem dX5_hear_9 : decode cX5_hear 9 = .ok (.bipush 26, 2) := by decide +kernel
theorem dX5_hear_11 : decode cX5_hear 11 = .ok (.iaload, 1) := by decide +kernel
theorem dX5_hear_12 : decode cX5_hear 12 = .ok (.bipush (-9), 2) := by decide +kernel
theorem dX5_hear_14 : decode cX5_hear 14 = .ok (.if_icmp .ne 6, 3) := by decide +kernel
theorem dX5_hear_17 : decode cX5_hear 17 = .ok (.bipush (-3), 2) := by decide +kernel
theorem dX5_hear_19 : decode cX5_hear 19 = .ok (.ireturn, 1) := by decide +kernel
theorem dX5_hear_20 : decode cX5_hear 20 = .ok (.aload_n 0, 1) := by decide +kernel
theorem dX5_hear_21 : decode cX5_hear 21 = .ok (.getfield 19, 3) := by decide +kernel
theorem dX5_hear_24 : decode cX5_hear 24 = .ok (.bipush 27, 2) := by decide +kernel
theorem dX5_hear_26 : decode cX5_hear 26 = .ok (.iaload, 1) := by decide +kernel
theorem dX5_hear_27 : decode cX5_hear 27 = .ok (.bipush 8, 2) := by decide +kernel
theorem dX5_hear_29 : decode cX5_hear 29 = .ok (.if_icmp .ne 6, 3) := by decide +kernel
theorem dX5_hear_32 : decode cX5_hear 32 = .ok (.bipush (-4), 2) := by decide +kernel
theorem dX5_hear_34 : decode cX5_hear 34 = .ok (.ireturn, 1) := by decide +kernel
theorem dX5_hear_35 : decode cX5_hear 35 = .ok (.aload_n 0, 1) := by decide +kernel
theorem dX5_hear_36 : decode cX5_hear 36 = .ok (.invokevirtual 145, 3) := by decide +kernel
theorem dX5_hear_39 : decode cX5_hear 39 = .ok (.aload_n 0, 1) := by decide +kernel
theorem dX5_hear_40 : decode cX5_hear 40 = .ok (.getfield 19, 3) := by decide +kernel
theorem dX5_hear_43 : decode cX5_hear 43 = .ok (.bipush 28, 2) := by decide +kernel
theorem dX5_hear_45 : decode cX5_hear 45 = .ok (.aload_n 0, 1) := by decide +kernel
theorem dX5_hear_46 : decode cX5_hear 46 = .ok (.getfield 19, 3) := by decide +kernel
theorem dX5_hear_49 : decode cX5_hear 49 = .ok (.bipush 27, 2) := by decide +kernel
theorem dX5_hear_51 : decode cX5_hear 51 = .ok (.iaload, 1) := by decide +kernel
theorem dX5_hear_52 : decode cX5_hear 52 = .ok (.iadd, 1) := by decide +kernel
theorem dX5_hear_53 : decode cX5_hear 53 = .ok (.aload_n 0, 1) := by decide +kernel
theorem dX5_hear_54 : decode cX5_hear 54 = .ok (.getfield 19, 3) := by decide +kernel
theorem dX5_hear_57 : decode cX5_hear 57 = .ok (.bipush 26, 2) := by decide +kernel
theorem dX5_hear_59 : decode cX5_hear 59 = .ok (.iaload, 1) := by decide +kernel
theorem dX5_hear_60 : decode cX5_hear 60 = .ok (.iastore, 1) := by decide +kernel
theorem dX5_hear_61 : decode cX5_hear 61 = .ok (.aload_n 0, 1) := by decide +kernel
theorem dX5_hear_62 : decode cX5_hear 62 = .ok (.getfield 19, 3) := by decide +kernel
theorem dX5_hear_65 : decode cX5_hear 65 = .ok (.bipush 27, 2) := by decide +kernel
theorem dX5_hear_67 : decode cX5_hear 67 = .ok (.dup2, 1) := by decide +kernel
theorem dX5_hear_68 : decode cX5_hear 68 = .ok (.iaload, 1) := by decide +kernel
theorem dX5_hear_69 : decode cX5_hear 69 = .ok (.iconst 1, 1) := by decide +kernel
theorem dX5_hear_70 : decode cX5_hear 70 = .ok (.iadd, 1) := by decide +kernel
theorem dX5_hear_71 : decode cX5_hear 71 = .ok (.iastore, 1) := by decide +kernel
theorem dX5_hear_72 : decode cX5_hear 72 = .ok (.aload_n 0, 1) := by decide +kernel
theorem dX5_hear_73 : decode cX5_hear 73 = .ok (.getfield 19, 3) := by decide +kernel
theorem dX5_hear_76 : decode cX5_hear 76 = .ok (.bipush 26, 2) := by decide +kernel
theorem dX5_hear_78 : decode cX5_hear 78 = .ok (.iaload, 1) := by decide +kernel
theorem dX5_hear_79 : decode cX5_hear 79 = .ok (.sipush 1000, 3) := by decide +kernel
theorem dX5_hear_82 : decode cX5_hear 82 = .ok (.irem, 1) := by decide +kernel
theorem dX5_hear_83 : decode cX5_hear 83 = .ok (.ireturn, 1) := by decide +kernel
theorem dX5_renew_0 : decode cX5_renew 0 = .ok (.aload_n 0, 1) := by decide +kernel
theorem dX5_renew_1 : decode cX5_renew 1 = .ok (.iconst 0, 1) := by decide +kernel
theorem dX5_renew_2 : decode cX5_renew 2 = .ok (.putfield 51, 3) := by decide +kernel
theorem dX5_renew_5 : decode cX5_renew 5 = .ok (.aload_n 0, 1) := by decide +kernel
theorem dX5_renew_6 : decode cX5_renew 6 = .ok (.getfield 19, 3) := by decide +kernel
theorem dX5_renew_9 : decode cX5_renew 9 = .ok (.iload_n 1, 1) := by decide +kernel
theorem dX5_renew_10 : decode cX5_renew 10 = .ok (.invokestatic 75, 3) := by decide +kernel
theorem dX5_renew_13 : decode cX5_renew 13 = .ok (.ifCond .eq 5, 3) := by decide +kernel
theorem dX5_renew_16 : decode cX5_renew 16 = .ok (.iconst (-1), 1) := by decide +kernel
theorem dX5_renew_17 : decode cX5_renew 17 = .ok (.ireturn, 1) := by decide +kernel
theorem dX5_renew_18 : decode cX5_renew 18 = .ok (.iload_n 2, 1) := by decide +kernel
theorem dX5_renew_19 : decode cX5_renew 19 = .ok (.invokestatic 139, 3) := by decide +kernel
theorem dX5_renew_22 : decode cX5_renew 22 = .ok (.ifCond .eq 23, 3) := by decide +kernel
theorem dX5_renew_25 : decode cX5_renew 25 = .ok (.iload_n 3, 1) := by decide +kernel
theorem dX5_renew_26 : decode cX5_renew 26 = .ok (.invokestatic 139, 3) := by decide +kernel
theorem dX5_renew_29 : decode cX5_renew 29 = .ok (.ifCond .eq 16, 3) := by decide +kernel
theorem dX5_renew_32 : decode cX5_renew 32 = .ok (.iload 4, 2) := by decide +kernel
theorem dX5_renew_34 : decode cX5_renew 34 = .ok (.i2l, 1) := by decide +kernel
theorem dX5_renew_35 : decode cX5_renew 35 = .ok (.lconst 1, 1) := by decide +kernel
theorem dX5_renew_36 : decode cX5_renew 36 = .ok (.ldc2_w 148, 3) := by decide +kernel
theorem dX5_renew_39 : decode cX5_renew 39 = .ok (.invokestatic 57, 3) := by decide +kernel
theorem dX5_renew_42 : decode cX5_renew 42 = .ok (.ifCond .ne 6, 3) := by decide +kernel
theorem dX5_renew_45 : decode cX5_renew 45 = .ok (.bipush (-2), 2) := by decide +kernel
theorem dX5_renew_47 : decode cX5_renew 47 = .ok (.ireturn, 1) := by decide +kernel
theorem dX5_renew_48 : decode cX5_renew 48 = .ok (.aload_n 0, 1) := by decide +kernel
theorem dX5_renew_49 : decode cX5_renew 49 = .ok (.getfield 19, 3) := by decide +kernel
theorem dX5_renew_52 : decode cX5_renew 52 = .ok (.iload_n 1, 1) := by decide +kernel
theorem dX5_renew_53 : decode cX5_renew 53 = .ok (.invokestatic 79, 3) := by decide +kernel
theorem dX5_renew_56 : decode cX5_renew 56 = .ok (.ifCond .ne 6, 3) := by decide +kernel
theorem dX5_renew_59 : decode cX5_renew 59 = .ok (.bipush (-3), 2) := by decide +kernel
theorem dX5_renew_61 : decode cX5_renew 61 = .ok (.ireturn, 1) := by decide +kernel
theorem dX5_renew_62 : decode cX5_renew 62 = .ok (.aload_n 0, 1) := by decide +kernel
theorem dX5_renew_63 : decode cX5_renew 63 = .ok (.invokevirtual 145, 3) := by decide +kernel
theorem dX5_renew_66 : decode cX5_renew 66 = .ok (.aload_n 0, 1) := by decide +kernel
theorem dX5_renew_67 : decode cX5_renew 67 = .ok (.getfield 19, 3) := by decide +kernel
theorem dX5_renew_70 : decode cX5_renew 70 = .ok (.iload_n 1, 1) := by decide +kernel
theorem dX5_renew_71 : decode cX5_renew 71 = .ok (.invokestatic 120, 3) := by decide +kernel
theorem dX5_renew_74 : decode cX5_renew 74 = .ok (.istore 5, 2) := by decide +kernel
theorem dX5_renew_76 : decode cX5_renew 76 = .ok (.iload 5, 2) := by decide +kernel
theorem dX5_renew_78 : decode cX5_renew 78 = .ok (.ifCond .le 15, 3) := by decide +kernel
theorem dX5_renew_81 : decode cX5_renew 81 = .ok (.aload_n 0, 1) := by decide +kernel
theorem dX5_renew_82 : decode cX5_renew 82 = .ok (.getfield 19, 3) := by decide +kernel
theorem dX5_renew_85 : decode cX5_renew 85 = .ok (.iload_n 1, 1) := by decide +kernel
theorem dX5_renew_86 : decode cX5_renew 86 = .ok (.iload_n 2, 1) := by decide +kernel
theorem dX5_renew_87 : decode cX5_renew 87 = .ok (.iload_n 3, 1) := by decide +kernel
theorem dX5_renew_88 : decode cX5_renew 88 = .ok (.iload 4, 2) := by decide +kernel
theorem dX5_renew_90 : decode cX5_renew 90 = .ok (.invokestatic 101, 3) := by decide +kernel
theorem dX5_renew_93 : decode cX5_renew 93 = .ok (.iload 5, 2) := by decide +kernel
theorem dX5_renew_95 : decode cX5_renew 95 = .ok (.ireturn, 1) := by decide +kernel
theorem dX5_widen_0 : decode cX5_widen 0 = .ok (.aload_n 0, 1) := by decide +kernel
theorem dX5_widen_1 : decode cX5_widen 1 = .ok (.iconst 0, 1) := by decide +kernel
theorem dX5_widen_2 : decode cX5_widen 2 = .ok (.putfield 51, 3) := by decide +kernel
theorem dX5_widen_5 : decode cX5_widen 5 = .ok (.iload_n 1, 1) := by decide +kernel
theorem dX5_widen_6 : decode cX5_widen 6 = .ok (.i2l, 1) := by decide +kernel
theorem dX5_widen_7 : decode cX5_widen 7 = .ok (.lconst 1, 1) := by decide +kernel
theorem dX5_widen_8 : decode cX5_widen 8 = .ok (.ldc2_w 150, 3) := by decide +kernel
theorem dX5_widen_11 : decode cX5_widen 11 = .ok (.invokestatic 57, 3) := by decide +kernel
theorem dX5_widen_14 : decode cX5_widen 14 = .ok (.ifCond .ne 6, 3) := by decide +kernel
theorem dX5_widen_17 : decode cX5_widen 17 = .ok (.bipush (-2), 2) := by decide +kernel
theorem dX5_widen_19 : decode cX5_widen 19 = .ok (.ireturn, 1) := by decide +kernel
theorem dX5_widen_20 : decode cX5_widen 20 = .ok (.aload_n 0, 1) := by decide +kernel
theorem dX5_widen_21 : decode cX5_widen 21 = .ok (.invokevirtual 145, 3) := by decide +kernel
theorem dX5_widen_24 : decode cX5_widen 24 = .ok (.aload_n 0, 1) := by decide +kernel
theorem dX5_widen_25 : decode cX5_widen 25 = .ok (.getfield 19, 3) := by decide +kernel
theorem dX5_widen_28 : decode cX5_widen 28 = .ok (.bipush 25, 2) := by decide +kernel
theorem dX5_widen_30 : decode cX5_widen 30 = .ok (.iaload, 1) := by decide +kernel
theorem dX5_widen_31 : decode cX5_widen 31 = .ok (.istore_n 2, 1) := by decide +kernel
theorem dX5_widen_32 : decode cX5_widen 32 = .ok (.aload_n 0, 1) := by decide +kernel
theorem dX5_widen_33 : decode cX5_widen 33 = .ok (.getfield 19, 3) := by decide +kernel
theorem dX5_widen_36 : decode cX5_widen 36 = .ok (.bipush 25, 2) := by decide +kernel
theorem dX5_widen_38 : decode cX5_widen 38 = .ok (.iload_n 1, 1) := by decide +kernel
theorem dX5_widen_39 : decode cX5_widen 39 = .ok (.iastore, 1) := by decide +kernel
theorem dX5_widen_40 : decode cX5_widen 40 = .ok (.iload_n 2, 1) := by decide +kernel
theorem dX5_widen_41 : decode cX5_widen 41 = .ok (.ireturn, 1) := by decide +kernel
theorem dX5_undo_0 : decode cX5_undo 0 = .ok (.aload_n 0, 1) := by decide +kernel
theorem dX5_undo_1 : decode cX5_undo 1 = .ok (.iconst 0, 1) := by decide +kernel
theorem dX5_undo_2 : decode cX5_undo 2 = .ok (.putfield 51, 3) := by decide +kernel
theorem dX5_undo_5 : decode cX5_undo 5 = .ok (.aload_n 0, 1) := by decide +kernel
theorem dX5_undo_6 : decode cX5_undo 6 = .ok (.getfield 124, 3) := by decide +kernel
theorem dX5_undo_9 : decode cX5_undo 9 = .ok (.ifCond .ne 6, 3) := by decide +kernel
theorem dX5_undo_12 : decode cX5_undo 12 = .ok (.bipush (-3), 2) := by decide +kernel
theorem dX5_undo_14 : decode cX5_undo 14 = .ok (.ireturn, 1) := by decide +kernel
theorem dX5_undo_15 : decode cX5_undo 15 = .ok (.aload_n 0, 1) := by decide +kernel
theorem dX5_undo_16 : decode cX5_undo 16 = .ok (.dup, 1) := by decide +kernel
theorem dX5_undo_17 : decode cX5_undo 17 = .ok (.getfield 124, 3) := by decide +kernel
theorem dX5_undo_20 : decode cX5_undo 20 = .ok (.iconst 1, 1) := by decide +kernel
theorem dX5_undo_21 : decode cX5_undo 21 = .ok (.isub, 1) := by decide +kernel
theorem dX5_undo_22 : decode cX5_undo 22 = .ok (.putfield 124, 3) := by decide +kernel
theorem dX5_undo_25 : decode cX5_undo 25 = .ok (.iconst 0, 1) := by decide +kernel
theorem dX5_undo_26 : decode cX5_undo 26 = .ok (.istore_n 1, 1) := by decide +kernel
theorem dX5_undo_27 : decode cX5_undo 27 = .ok (.iload_n 1, 1) := by decide +kernel
theorem dX5_undo_28 : decode cX5_undo 28 = .ok (.bipush 36, 2) := by decide +kernel
theorem dX5_undo_30 : decode cX5_undo 30 = .ok (.if_icmp .ge 29, 3) := by decide +kernel
theorem dX5_undo_33 : decode cX5_undo 33 = .ok (.aload_n 0, 1) := by decide +kernel
theorem dX5_undo_34 : decode cX5_undo 34 = .ok (.getfield 19, 3) := by decide +kernel
theorem dX5_undo_37 : decode cX5_undo 37 = .ok (.iload_n 1, 1) := by decide +kernel
theorem dX5_undo_38 : decode cX5_undo 38 = .ok (.aload_n 0, 1) := by decide +kernel
theorem dX5_undo_39 : decode cX5_undo 39 = .ok (.getfield 25, 3) := by decide +kernel
theorem dX5_undo_42 : decode cX5_undo 42 = .ok (.bipush 36, 2) := by decide +kernel
theorem dX5_undo_44 : decode cX5_undo 44 = .ok (.aload_n 0, 1) := by decide +kernel
theorem dX5_undo_45 : decode cX5_undo 45 = .ok (.getfield 124, 3) := by decide +kernel
theorem dX5_undo_48 : decode cX5_undo 48 = .ok (.imul, 1) := by decide +kernel
theorem dX5_undo_49 : decode cX5_undo 49 = .ok (.iload_n 1, 1) := by decide +kernel
theorem dX5_undo_50 : decode cX5_undo 50 = .ok (.iadd, 1) := by decide +kernel
theorem dX5_undo_51 : decode cX5_undo 51 = .ok (.iaload, 1) := by decide +kernel
theorem dX5_undo_52 : decode cX5_undo 52 = .ok (.iastore, 1) := by decide +kernel
theorem dX5_undo_53 : decode cX5_undo 53 = .ok (.iinc 1 1, 3) := by decide +kernel
theorem dX5_undo_56 : decode cX5_undo 56 = .ok (.goto (-29), 3) := by decide +kernel
theorem dX5_undo_59 : decode cX5_undo 59 = .ok (.aload_n 0, 1) := by decide +kernel
theorem dX5_undo_60 : decode cX5_undo 60 = .ok (.getfield 124, 3) := by decide +kernel
theorem dX5_undo_63 : decode cX5_undo 63 = .ok (.ireturn, 1) := by decide +kernel
theorem dX5_fits_0 : decode cX5_fits 0 = .ok (.aload_n 0, 1) := by decide +kernel
theorem dX5_fits_1 : decode cX5_fits 1 = .ok (.iconst 0, 1) := by decide +kernel
theorem dX5_fits_2 : decode cX5_fits 2 = .ok (.putfield 51, 3) := by decide +kernel
theorem dX5_fits_5 : decode cX5_fits 5 = .ok (.aload_n 0, 1) := by decide +kernel
theorem dX5_fits_6 : decode cX5_fits 6 = .ok (.getfield 19, 3) := by decide +kernel
theorem dX5_fits_9 : decode cX5_fits 9 = .ok (.iload_n 1, 1) := by decide +kernel
theorem dX5_fits_10 : decode cX5_fits 10 = .ok (.invokestatic 75, 3) := by decide +kernel
theorem dX5_fits_13 : decode cX5_fits 13 = .ok (.ifCond .eq 5, 3) := by decide +kernel
theorem dX5_fits_16 : decode cX5_fits 16 = .ok (.iconst (-1), 1) := by decide +kernel
theorem dX5_fits_17 : decode cX5_fits 17 = .ok (.ireturn, 1) := by decide +kernel
theorem dX5_fits_18 : decode cX5_fits 18 = .ok (.iload_n 2, 1) := by decide +kernel
theorem dX5_fits_19 : decode cX5_fits 19 = .ok (.invokestatic 139, 3) := by decide +kernel
theorem dX5_fits_22 : decode cX5_fits 22 = .ok (.ifCond .eq 15, 3) := by decide +kernel
theorem dX5_fits_25 : decode cX5_fits 25 = .ok (.aload_n 0, 1) := by decide +kernel
theorem dX5_fits_26 : decode cX5_fits 26 = .ok (.getfield 19, 3) := by decide +kernel
theorem dX5_fits_29 : decode cX5_fits 29 = .ok (.iload_n 1, 1) := by decide +kernel
theorem dX5_fits_30 : decode cX5_fits 30 = .ok (.iload_n 2, 1) := by decide +kernel
theorem dX5_fits_31 : decode cX5_fits 31 = .ok (.invokestatic 65, 3) := by decide +kernel
theorem dX5_fits_34 : decode cX5_fits 34 = .ok (.goto 5, 3) := by decide +kernel
theorem dX5_fits_37 : decode cX5_fits 37 = .ok (.bipush (-2), 2) := by decide +kernel
theorem dX5_fits_39 : decode cX5_fits 39 = .ok (.ireturn, 1) := by decide +kernel
theorem dX5_fittingOf_0 : decode cX5_fittingOf 0 = .ok (.iconst 0, 1) := by decide +kernel
theorem dX5_fittingOf_1 : decode cX5_fittingOf 1 = .ok (.istore_n 2, 1) := by decide +kernel
theorem dX5_fittingOf_2 : decode cX5_fittingOf 2 = .ok (.iconst 0, 1) := by decide +kernel
theorem dX5_fittingOf_3 : decode cX5_fittingOf 3 = .ok (.istore_n 3, 1) := by decide +kernel
theorem dX5_fittingOf_4 : decode cX5_fittingOf 4 = .ok (.iload_n 3, 1) := by decide +kernel
theorem dX5_fittingOf_5 : decode cX5_fittingOf 5 = .ok (.sipush 251, 3) := by decide +kernel
theorem dX5_fittingOf_8 : decode cX5_fittingOf 8 = .ok (.if_icmp .ge 80, 3) := by decide +kernel
theorem dX5_fittingOf_11 : decode cX5_fittingOf 11 = .ok (.iconst 0, 1) := by decide +kernel
theorem dX5_fittingOf_12 : decode cX5_fittingOf 12 = .ok (.istore 4, 2) := by decide +kernel
theorem dX5_fittingOf_14 : decode cX5_fittingOf 14 = .ok (.iconst 0, 1) := by decide +kernel
theorem dX5_fittingOf_15 : decode cX5_fittingOf 15 = .ok (.istore 5, 2) := by decide +kernel
theorem dX5_fittingOf_17 : decode cX5_fittingOf 17 = .ok (.iload 5, 2) := by decide +kernel
theorem dX5_fittingOf_19 : decode cX5_fittingOf 19 = .ok (.aload_n 0, 1) := by decide +kernel
theorem dX5_fittingOf_20 : decode cX5_fittingOf 20 = .ok (.getfield 19, 3) := by decide +kernel
theorem dX5_fittingOf_23 : decode cX5_fittingOf 23 = .ok (.bipush 24, 2) := by decide +kernel
theorem dX5_fittingOf_25 : decode cX5_fittingOf 25 = .ok (.iaload, 1) := by decide +kernel
theorem dX5_fittingOf_26 : decode cX5_fittingOf 26 = .ok (.if_icmp .ge 43, 3) := by decide +kernel
theorem dX5_fittingOf_29 : decode cX5_fittingOf 29 = .ok (.iload 4, 2) := by decide +kernel
theorem dX5_fittingOf_31 : decode cX5_fittingOf 31 = .ok (.ifCond .ne 25, 3) := by decide +kernel
theorem dX5_fittingOf_34 : decode cX5_fittingOf 34 = .ok (.iload_n 1, 1) := by decide +kernel
theorem dX5_fittingOf_35 : decode cX5_fittingOf 35 = .ok (.iload 5, 2) := by decide +kernel
theorem dX5_fittingOf_37 : decode cX5_fittingOf 37 = .ok (.invokestatic 152, 3) := by decide +kernel
theorem dX5_fittingOf_40 : decode cX5_fittingOf 40 = .ok (.ifCond .eq 20, 3) := by decide +kernel
theorem dX5_fittingOf_43 : decode cX5_fittingOf 43 = .ok (.aload_n 0, 1) := by decide +kernel
theorem dX5_fittingOf_44 : decode cX5_fittingOf 44 = .ok (.getfield 19, 3) := by decide +kernel
theorem dX5_fittingOf_47 : decode cX5_fittingOf 47 = .ok (.iload 5, 2) := by decide +kernel
theorem dX5_fittingOf_49 : decode cX5_fittingOf 49 = .ok (.iload_n 3, 1) := by decide +kernel
theorem dX5_fittingOf_50 : decode cX5_fittingOf 50 = .ok (.invokestatic 65, 3) := by decide +kernel
theorem dX5_fittingOf_53 : decode cX5_fittingOf 53 = .ok (.ifCond .le 7, 3) := by decide +kernel
theorem dX5_fittingOf_56 : decode cX5_fittingOf 56 = .ok (.iconst 1, 1) := by decide +kernel
theorem dX5_fittingOf_57 : decode cX5_fittingOf 57 = .ok (.goto 4, 3) := by decide +kernel
theorem dX5_fittingOf_60 : decode cX5_fittingOf 60 = .ok (.iconst 0, 1) := by decide +kernel
theorem dX5_fittingOf_61 : decode cX5_fittingOf 61 = .ok (.istore 4, 2) := by decide +kernel
theorem dX5_fittingOf_63 : decode cX5_fittingOf 63 = .ok (.iinc 5 1, 3) := by decide +kernel
theorem dX5_fittingOf_66 : decode cX5_fittingOf 66 = .ok (.goto (-49), 3) := by decide +kernel
theorem dX5_fittingOf_69 : decode cX5_fittingOf 69 = .ok (.iload_n 2, 1) := by decide +kernel
theorem dX5_fittingOf_70 : decode cX5_fittingOf 70 = .ok (.iload 4, 2) := by decide +kernel
theorem dX5_fittingOf_72 : decode cX5_fittingOf 72 = .ok (.ifCond .eq 7, 3) := by decide +kernel
theorem dX5_fittingOf_75 : decode cX5_fittingOf 75 = .ok (.iconst 1, 1) := by decide +kernel
theorem dX5_fittingOf_76 : decode cX5_fittingOf 76 = .ok (.goto 4, 3) := by decide +kernel
theorem dX5_fittingOf_79 : decode cX5_fittingOf 79 = .ok (.iconst 0, 1) := by decide +kernel
theorem dX5_fittingOf_80 : decode cX5_fittingOf 80 = .ok (.iadd, 1) := by decide +kernel
theorem dX5_fittingOf_81 : decode cX5_fittingOf 81 = .ok (.istore_n 2, 1) := by decide +kernel
theorem dX5_fittingOf_82 : decode cX5_fittingOf 82 = .ok (.iinc 3 1, 3) := by decide +kernel
theorem dX5_fittingOf_85 : decode cX5_fittingOf 85 = .ok (.goto (-81), 3) := by decide +kernel
theorem dX5_fittingOf_88 : decode cX5_fittingOf 88 = .ok (.iload_n 2, 1) := by decide +kernel
theorem dX5_fittingOf_89 : decode cX5_fittingOf 89 = .ok (.ireturn, 1) := by decide +kernel
theorem dX5_fitting_0 : decode cX5_fitting 0 = .ok (.aload_n 0, 1) := by decide +kernel
theorem dX5_fitting_1 : decode cX5_fitting 1 = .ok (.iconst 0, 1) := by decide +kernel
theorem dX5_fitting_2 : decode cX5_fitting 2 = .ok (.putfield 51, 3) := by decide +kernel
theorem dX5_fitting_5 : decode cX5_fitting 5 = .ok (.aload_n 0, 1) := by decide +kernel
theorem dX5_fitting_6 : decode cX5_fitting 6 = .ok (.getfield 19, 3) := by decide +kernel
theorem dX5_fitting_9 : decode cX5_fitting 9 = .ok (.iload_n 1, 1) := by decide +kernel
theorem dX5_fitting_10 : decode cX5_fitting 10 = .ok (.invokestatic 75, 3) := by decide +kernel
theorem dX5_fitting_13 : decode cX5_fitting 13 = .ok (.ifCond .eq 5, 3) := by decide +kernel
theorem dX5_fitting_16 : decode cX5_fitting 16 = .ok (.iconst (-1), 1) := by decide +kernel
theorem dX5_fitting_17 : decode cX5_fitting 17 = .ok (.ireturn, 1) := by decide +kernel
theorem dX5_fitting_18 : decode cX5_fitting 18 = .ok (.iload_n 2, 1) := by decide +kernel
theorem dX5_fitting_19 : decode cX5_fitting 19 = .ok (.i2l, 1) := by decide +kernel
theorem dX5_fitting_20 : decode cX5_fitting 20 = .ok (.lconst 0, 1) := by decide +kernel
theorem dX5_fitting_21 : decode cX5_fitting 21 = .ok (.lconst 1, 1) := by decide +kernel
theorem dX5_fitting_22 : decode cX5_fitting 22 = .ok (.invokestatic 57, 3) := by decide +kernel
theorem dX5_fitting_25 : decode cX5_fitting 25 = .ok (.ifCond .ne 6, 3) := by decide +kernel
theorem dX5_fitting_28 : decode cX5_fitting 28 = .ok (.bipush (-2), 2) := by decide +kernel
theorem dX5_fitting_30 : decode cX5_fitting 30 = .ok (.ireturn, 1) := by decide +kernel
theorem dX5_fitting_31 : decode cX5_fitting 31 = .ok (.bipush (-9), 2) := by decide +kernel
theorem dX5_fitting_33 : decode cX5_fitting 33 = .ok (.istore_n 3, 1) := by decide +kernel
theorem dX5_fitting_34 : decode cX5_fitting 34 = .ok (.sipush 250, 3) := by decide +kernel
theorem dX5_fitting_37 : decode cX5_fitting 37 = .ok (.istore 4, 2) := by decide +kernel
theorem dX5_fitting_39 : decode cX5_fitting 39 = .ok (.iload 4, 2) := by decide +kernel
theorem dX5_fitting_41 : decode cX5_fitting 41 = .ok (.ifCond .lt 29, 3) := by decide +kernel
theorem dX5_fitting_44 : decode cX5_fitting 44 = .ok (.aload_n 0, 1) := by decide +kernel
theorem dX5_fitting_45 : decode cX5_fitting 45 = .ok (.getfield 19, 3) := by decide +kernel
theorem dX5_fitting_48 : decode cX5_fitting 48 = .ok (.iload_n 1, 1) := by decide +kernel
theorem dX5_fitting_49 : decode cX5_fitting 49 = .ok (.iload 4, 2) := by decide +kernel
theorem dX5_fitting_51 : decode cX5_fitting 51 = .ok (.invokestatic 65, 3) := by decide +kernel
theorem dX5_fitting_54 : decode cX5_fitting 54 = .ok (.ifCond .le 8, 3) := by decide +kernel
theorem dX5_fitting_57 : decode cX5_fitting 57 = .ok (.iload 4, 2) := by decide +kernel
theorem dX5_fitting_59 : decode cX5_fitting 59 = .ok (.goto 4, 3) := by decide +kernel
theorem dX5_fitting_62 : decode cX5_fitting 62 = .ok (.iload_n 3, 1) := by decide +kernel
theorem dX5_fitting_63 : decode cX5_fitting 63 = .ok (.istore_n 3, 1) := by decide +kernel
theorem dX5_fitting_64 : decode cX5_fitting 64 = .ok (.iinc 4 (-1), 3) := by decide +kernel
theorem dX5_fitting_67 : decode cX5_fitting 67 = .ok (.goto (-28), 3) := by decide +kernel
theorem dX5_fitting_70 : decode cX5_fitting 70 = .ok (.iload_n 2, 1) := by decide +kernel
theorem dX5_fitting_71 : decode cX5_fitting 71 = .ok (.ifCond .ne 13, 3) := by decide +kernel
theorem dX5_fitting_74 : decode cX5_fitting 74 = .ok (.aload_n 0, 1) := by decide +kernel
theorem dX5_fitting_75 : decode cX5_fitting 75 = .ok (.iconst 1, 1) := by decide +kernel
theorem dX5_fitting_76 : decode cX5_fitting 76 = .ok (.iload_n 1, 1) := by decide +kernel
theorem dX5_fitting_77 : decode cX5_fitting 77 = .ok (.ishl, 1) := by decide +kernel
theorem dX5_fitting_78 : decode cX5_fitting 78 = .ok (.invokevirtual 156, 3) := by decide +kernel
theorem dX5_fitting_81 : decode cX5_fitting 81 = .ok (.goto 4, 3) := by decide +kernel
theorem dX5_fitting_84 : decode cX5_fitting 84 = .ok (.iload_n 3, 1) := by decide +kernel
theorem dX5_fitting_85 : decode cX5_fitting 85 = .ok (.ireturn, 1) := by decide +kernel
theorem dX5_thief_0 : decode cX5_thief 0 = .ok (.aload_n 0, 1) := by decide +kernel
theorem dX5_thief_1 : decode cX5_thief 1 = .ok (.iconst 0, 1) := by decide +kernel
theorem dX5_thief_2 : decode cX5_thief 2 = .ok (.putfield 51, 3) := by decide +kernel
theorem dX5_thief_5 : decode cX5_thief 5 = .ok (.aload_n 0, 1) := by decide +kernel
theorem dX5_thief_6 : decode cX5_thief 6 = .ok (.getfield 19, 3) := by decide +kernel
theorem dX5_thief_9 : decode cX5_thief 9 = .ok (.iload_n 1, 1) := by decide +kernel
theorem dX5_thief_10 : decode cX5_thief 10 = .ok (.invokestatic 75, 3) := by decide +kernel
theorem dX5_thief_13 : decode cX5_thief 13 = .ok (.ifCond .eq 5, 3) := by decide +kernel
theorem dX5_thief_16 : decode cX5_thief 16 = .ok (.iconst (-1), 1) := by decide +kernel
theorem dX5_thief_17 : decode cX5_thief 17 = .ok (.ireturn, 1) := by decide +kernel
theorem dX5_thief_18 : decode cX5_thief 18 = .ok (.bipush (-9), 2) := by decide +kernel
theorem dX5_thief_20 : decode cX5_thief 20 = .ok (.istore_n 2, 1) := by decide +kernel
theorem dX5_thief_21 : decode cX5_thief 21 = .ok (.iconst 0, 1) := by decide +kernel
theorem dX5_thief_22 : decode cX5_thief 22 = .ok (.istore_n 3, 1) := by decide +kernel
theorem dX5_thief_23 : decode cX5_thief 23 = .ok (.iload_n 3, 1) := by decide +kernel
theorem dX5_thief_24 : decode cX5_thief 24 = .ok (.aload_n 0, 1) := by decide +kernel
theorem dX5_thief_25 : decode cX5_thief 25 = .ok (.getfield 19, 3) := by decide +kernel
theorem dX5_thief_28 : decode cX5_thief 28 = .ok (.bipush 27, 2) := by decide +kernel
theorem dX5_thief_30 : decode cX5_thief 30 = .ok (.iaload, 1) := by decide +kernel
theorem dX5_thief_31 : decode cX5_thief 31 = .ok (.if_icmp .ge 105, 3) := by decide +kernel
theorem dX5_thief_34 : decode cX5_thief 34 = .ok (.iconst 0, 1) := by decide +kernel
theorem dX5_thief_35 : decode cX5_thief 35 = .ok (.istore 4, 2) := by decide +kernel
theorem dX5_thief_37 : decode cX5_thief 37 = .ok (.iload 4, 2) := by decide +kernel
theorem dX5_thief_39 : decode cX5_thief 39 = .ok (.bipush 11, 2) := by decide +kernel
theorem dX5_thief_41 : decode cX5_thief 41 = .ok (.if_icmp .ge 89, 3) := by decide +kernel
theorem dX5_thief_44 : decode cX5_thief 44 = .ok (.aload_n 0, 1) := by decide +kernel
theorem dX5_thief_45 : decode cX5_thief 45 = .ok (.getfield 19, 3) := by decide +kernel
theorem dX5_thief_48 : decode cX5_thief 48 = .ok (.bipush 28, 2) := by decide +kernel
theorem dX5_thief_50 : decode cX5_thief 50 = .ok (.iload_n 3, 1) := by decide +kernel
theorem dX5_thief_51 : decode cX5_thief 51 = .ok (.iadd, 1) := by decide +kernel
theorem dX5_thief_52 : decode cX5_thief 52 = .ok (.iaload, 1) := by decide +kernel
theorem dX5_thief_53 : decode cX5_thief 53 = .ok (.sipush 1000, 3) := by decide +kernel
theorem dX5_thief_56 : decode cX5_thief 56 = .ok (.idiv, 1) := by decide +kernel
theorem dX5_thief_57 : decode cX5_thief 57 = .ok (.iload_n 1, 1) := by decide +kernel
theorem dX5_thief_58 : decode cX5_thief 58 = .ok (.if_icmp .ne 72, 3) := by decide +kernel
theorem dX5_thief_61 : decode cX5_thief 61 = .ok (.aload_n 0, 1) := by decide +kernel
theorem dX5_thief_62 : decode cX5_thief 62 = .ok (.getfield 19, 3) := by decide +kernel
theorem dX5_thief_65 : decode cX5_thief 65 = .ok (.bipush 28, 2) := by decide +kernel
theorem dX5_thief_67 : decode cX5_thief 67 = .ok (.iload_n 3, 1) := by decide +kernel
theorem dX5_thief_68 : decode cX5_thief 68 = .ok (.iadd, 1) := by decide +kernel
theorem dX5_thief_69 : decode cX5_thief 69 = .ok (.iaload, 1) := by decide +kernel
theorem dX5_thief_70 : decode cX5_thief 70 = .ok (.sipush 1000, 3) := by decide +kernel
theorem dX5_thief_73 : decode cX5_thief 73 = .ok (.irem, 1) := by decide +kernel
theorem dX5_thief_74 : decode cX5_thief 74 = .ok (.aload_n 0, 1) := by decide +kernel
theorem dX5_thief_75 : decode cX5_thief 75 = .ok (.getfield 19, 3) := by decide +kernel
theorem dX5_thief_78 : decode cX5_thief 78 = .ok (.bipush 6, 2) := by decide +kernel
theorem dX5_thief_80 : decode cX5_thief 80 = .ok (.iload_n 1, 1) := by decide +kernel
theorem dX5_thief_81 : decode cX5_thief 81 = .ok (.imul, 1) := by decide +kernel
theorem dX5_thief_82 : decode cX5_thief 82 = .ok (.iconst 1, 1) := by decide +kernel
theorem dX5_thief_83 : decode cX5_thief 83 = .ok (.iadd, 1) := by decide +kernel
theorem dX5_thief_84 : decode cX5_thief 84 = .ok (.iaload, 1) := by decide +kernel
theorem dX5_thief_85 : decode cX5_thief 85 = .ok (.iload 4, 2) := by decide +kernel
theorem dX5_thief_87 : decode cX5_thief 87 = .ok (.invokestatic 61, 3) := by decide +kernel
theorem dX5_thief_90 : decode cX5_thief 90 = .ok (.istore 5, 2) := by decide +kernel
theorem dX5_thief_92 : decode cX5_thief 92 = .ok (.aload_n 0, 1) := by decide +kernel
theorem dX5_thief_93 : decode cX5_thief 93 = .ok (.getfield 19, 3) := by decide +kernel
theorem dX5_thief_96 : decode cX5_thief 96 = .ok (.iload_n 1, 1) := by decide +kernel
theorem dX5_thief_97 : decode cX5_thief 97 = .ok (.iload 5, 2) := by decide +kernel
theorem dX5_thief_99 : decode cX5_thief 99 = .ok (.invokestatic 65, 3) := by decide +kernel
theorem dX5_thief_102 : decode cX5_thief 102 = .ok (.ifCond .le 20, 3) := by decide +kernel
theorem dX5_thief_105 : decode cX5_thief 105 = .ok (.iload_n 2, 1) := by decide +kernel
theorem dX5_thief_106 : decode cX5_thief 106 = .ok (.bipush (-9), 2) := by decide +kernel
theorem dX5_thief_108 : decode cX5_thief 108 = .ok (.if_icmp .eq 9, 3) := by decide +kernel
theorem dX5_thief_111 : decode cX5_thief 111 = .ok (.iload 5, 2) := by decide +kernel
theorem dX5_thief_113 : decode cX5_thief 113 = .ok (.iload_n 2, 1) := by decide +kernel
theorem dX5_thief_114 : decode cX5_thief 114 = .ok (.if_icmp .ge 8, 3) := by decide +kernel
theorem dX5_thief_117 : decode cX5_thief 117 = .ok (.iload 5, 2) := by decide +kernel
theorem dX5_thief_119 : decode cX5_thief 119 = .ok (.goto 4, 3) := by decide +kernel
theorem dX5_thief_122 : decode cX5_thief 122 = .ok (.iload_n 2, 1) := by decide +kernel
theorem dX5_thief_123 : decode cX5_thief 123 = .ok (.istore_n 2, 1) := by decide +kernel
theorem dX5_thief_124 : decode cX5_thief 124 = .ok (.iinc 4 1, 3) := by decide +kernel
theorem dX5_thief_127 : decode cX5_thief 127 = .ok (.goto (-90), 3) := by decide +kernel
theorem dX5_thief_130 : decode cX5_thief 130 = .ok (.iinc 3 1, 3) := by decide +kernel
theorem dX5_thief_133 : decode cX5_thief 133 = .ok (.goto (-110), 3) := by decide +kernel
theorem dX5_thief_136 : decode cX5_thief 136 = .ok (.iload_n 2, 1) := by decide +kernel
theorem dX5_thief_137 : decode cX5_thief 137 = .ok (.ireturn, 1) := by decide +kernel
theorem dX5_heard_0 : decode cX5_heard 0 = .ok (.aload_n 0, 1) := by decide +kernel
theorem dX5_heard_1 : decode cX5_heard 1 = .ok (.iconst 0, 1) := by decide +kernel
theorem dX5_heard_2 : decode cX5_heard 2 = .ok (.putfield 51, 3) := by decide +kernel
theorem dX5_heard_5 : decode cX5_heard 5 = .ok (.iload_n 1, 1) := by decide +kernel
theorem dX5_heard_6 : decode cX5_heard 6 = .ok (.i2l, 1) := by decide +kernel
theorem dX5_heard_7 : decode cX5_heard 7 = .ok (.lconst 0, 1) := by decide +kernel
theorem dX5_heard_8 : decode cX5_heard 8 = .ok (.aload_n 0, 1) := by decide +kernel
theorem dX5_heard_9 : decode cX5_heard 9 = .ok (.getfield 19, 3) := by decide +kernel
theorem dX5_heard_12 : decode cX5_heard 12 = .ok (.bipush 27, 2) := by decide +kernel
theorem dX5_heard_14 : decode cX5_heard 14 = .ok (.iaload, 1) := by decide +kernel
theorem dX5_heard_15 : decode cX5_heard 15 = .ok (.iconst 1, 1) := by decide +kernel
theorem dX5_heard_16 : decode cX5_heard 16 = .ok (.isub, 1) := by decide +kernel
theorem dX5_heard_17 : decode cX5_heard 17 = .ok (.i2l, 1) := by decide +kernel
theorem dX5_heard_18 : decode cX5_heard 18 = .ok (.invokestatic 57, 3) := by decide +kernel
theorem dX5_heard_21 : decode cX5_heard 21 = .ok (.ifCond .eq 15, 3) := by decide +kernel
theorem dX5_heard_24 : decode cX5_heard 24 = .ok (.aload_n 0, 1) := by decide +kernel
theorem dX5_heard_25 : decode cX5_heard 25 = .ok (.getfield 19, 3) := by decide +kernel
theorem dX5_heard_28 : decode cX5_heard 28 = .ok (.bipush 28, 2) := by decide +kernel
theorem dX5_heard_30 : decode cX5_heard 30 = .ok (.iload_n 1, 1) := by decide +kernel
theorem dX5_heard_31 : decode cX5_heard 31 = .ok (.iadd, 1) := by decide +kernel
theorem dX5_heard_32 : decode cX5_heard 32 = .ok (.iaload, 1) := by decide +kernel
theorem dX5_heard_33 : decode cX5_heard 33 = .ok (.goto 5, 3) := by decide +kernel
theorem dX5_heard_36 : decode cX5_heard 36 = .ok (.bipush (-9), 2) := by decide +kernel
theorem dX5_heard_38 : decode cX5_heard 38 = .ok (.ireturn, 1) := by decide +kernel
theorem dX5_does_0 : decode cX5_does 0 = .ok (.aload_n 0, 1) := by decide +kernel
theorem dX5_does_1 : decode cX5_does 1 = .ok (.getfield 22, 3) := by decide +kernel
theorem dX5_does_4 : decode cX5_does 4 = .ok (.iload_n 2, 1) := by decide +kernel
theorem dX5_does_5 : decode cX5_does 5 = .ok (.invokestatic 75, 3) := by decide +kernel
theorem dX5_does_8 : decode cX5_does 8 = .ok (.ifCond .ne 7, 3) := by decide +kernel
theorem dX5_does_11 : decode cX5_does 11 = .ok (.iconst 1, 1) := by decide +kernel
theorem dX5_does_12 : decode cX5_does 12 = .ok (.goto 4, 3) := by decide +kernel
theorem dX5_does_15 : decode cX5_does 15 = .ok (.iconst 0, 1) := by decide +kernel
theorem dX5_does_16 : decode cX5_does 16 = .ok (.istore 5, 2) := by decide +kernel
theorem dX5_does_18 : decode cX5_does 18 = .ok (.bipush 10, 2) := by decide +kernel
theorem dX5_does_20 : decode cX5_does 20 = .ok (.iload_n 3, 1) := by decide +kernel
theorem dX5_does_21 : decode cX5_does 21 = .ok (.imul, 1) := by decide +kernel
theorem dX5_does_22 : decode cX5_does 22 = .ok (.iload 4, 2) := by decide +kernel
theorem dX5_does_24 : decode cX5_does 24 = .ok (.iadd, 1) := by decide +kernel
theorem dX5_does_25 : decode cX5_does 25 = .ok (.istore 6, 2) := by decide +kernel
theorem dX5_does_27 : decode cX5_does 27 = .ok (.iload_n 1, 1) := by decide +kernel
theorem dX5_does_28 : decode cX5_does 28 = .ok (.tableswitch 301 1 7 #[44, 73, 108, 135, 162, 233, 272], 44) := by decide +kernel
theorem dX5_does_72 : decode cX5_does 72 = .ok (.iload 6, 2) := by decide +kernel
theorem dX5_does_74 : decode cX5_does 74 = .ok (.ifCond .ne 14, 3) := by decide +kernel
theorem dX5_does_77 : decode cX5_does 77 = .ok (.aload_n 0, 1) := by decide +kernel
theorem dX5_does_78 : decode cX5_does 78 = .ok (.getfield 22, 3) := by decide +kernel
theorem dX5_does_81 : decode cX5_does 81 = .ok (.iload_n 2, 1) := by decide +kernel
theorem dX5_does_82 : decode cX5_does 82 = .ok (.invokestatic 79, 3) := by decide +kernel
theorem dX5_does_85 : decode cX5_does 85 = .ok (.ifCond .ne 5, 3) := by decide +kernel
theorem dX5_does_88 : decode cX5_does 88 = .ok (.iconst 0, 1) := by decide +kernel
theorem dX5_does_89 : decode cX5_does 89 = .ok (.ireturn, 1) := by decide +kernel
theorem dX5_does_90 : decode cX5_does 90 = .ok (.aload_n 0, 1) := by decide +kernel
theorem dX5_does_91 : decode cX5_does 91 = .ok (.getfield 22, 3) := by decide +kernel
theorem dX5_does_94 : decode cX5_does 94 = .ok (.iload_n 2, 1) := by decide +kernel
theorem dX5_does_95 : decode cX5_does 95 = .ok (.invokestatic 120, 3) := by decide +kernel
theorem dX5_does_98 : decode cX5_does 98 = .ok (.pop, 1) := by decide +kernel
theorem dX5_does_99 : decode cX5_does 99 = .ok (.iconst 1, 1) := by decide +kernel
theorem dX5_does_100 : decode cX5_does 100 = .ok (.ireturn, 1) := by decide +kernel
theorem dX5_does_101 : decode cX5_does 101 = .ok (.iload 6, 2) := by decide +kernel
theorem dX5_does_103 : decode cX5_does 103 = .ok (.ifCond .ne 14, 3) := by decide +kernel
theorem dX5_does_106 : decode cX5_does 106 = .ok (.aload_n 0, 1) := by decide +kernel
theorem dX5_does_107 : decode cX5_does 107 = .ok (.getfield 22, 3) := by decide +kernel
theorem dX5_does_110 : decode cX5_does 110 = .ok (.iload_n 2, 1) := by decide +kernel
theorem dX5_does_111 : decode cX5_does 111 = .ok (.invokestatic 79, 3) := by decide +kernel
theorem dX5_does_114 : decode cX5_does 114 = .ok (.ifCond .ne 5, 3) := by decide +kernel
theorem dX5_does_117 : decode cX5_does 117 = .ok (.iconst 0, 1) := by decide +kernel
theorem dX5_does_118 : decode cX5_does 118 = .ok (.ireturn, 1) := by decide +kernel
theorem dX5_does_119 : decode cX5_does 119 = .ok (.aload_n 0, 1) := by decide +kernel
theorem dX5_does_120 : decode cX5_does 120 = .ok (.getfield 22, 3) := by decide +kernel
theorem dX5_does_123 : decode cX5_does 123 = .ok (.bipush 6, 2) := by decide +kernel
theorem dX5_does_125 : decode cX5_does 125 = .ok (.iload_n 2, 1) := by decide +kernel
theorem dX5_does_126 : decode cX5_does 126 = .ok (.imul, 1) := by decide +kernel
theorem dX5_does_127 : decode cX5_does 127 = .ok (.iconst 3, 1) := by decide +kernel
theorem dX5_does_128 : decode cX5_does 128 = .ok (.iadd, 1) := by decide +kernel
theorem dX5_does_129 : decode cX5_does 129 = .ok (.dup2, 1) := by decide +kernel
theorem dX5_does_130 : decode cX5_does 130 = .ok (.iaload, 1) := by decide +kernel
theorem dX5_does_131 : decode cX5_does 131 = .ok (.iconst 1, 1) := by decide +kernel
theorem dX5_does_132 : decode cX5_does 132 = .ok (.isub, 1) := by decide +kernel
theorem dX5_does_133 : decode cX5_does 133 = .ok (.iastore, 1) := by decide +kernel
theorem dX5_does_134 : decode cX5_does 134 = .ok (.iconst 1, 1) := by decide +kernel
theorem dX5_does_135 : decode cX5_does 135 = .ok (.ireturn, 1) := by decide +kernel
theorem dX5_does_136 : decode cX5_does 136 = .ok (.iload 5, 2) := by decide +kernel
theorem dX5_does_138 : decode cX5_does 138 = .ok (.ifCond .eq 23, 3) := by decide +kernel
theorem dX5_does_141 : decode cX5_does 141 = .ok (.aload_n 0, 1) := by decide +kernel
theorem dX5_does_142 : decode cX5_does 142 = .ok (.getfield 22, 3) := by decide +kernel
theorem dX5_does_145 : decode cX5_does 145 = .ok (.bipush 6, 2) := by decide +kernel
theorem dX5_does_147 : decode cX5_does 147 = .ok (.iload_n 2, 1) := by decide +kernel
theorem dX5_does_148 : decode cX5_does 148 = .ok (.imul, 1) := by decide +kernel
theorem dX5_does_149 : decode cX5_does 149 = .ok (.iconst 3, 1) := by decide +kernel
theorem dX5_does_150 : decode cX5_does 150 = .ok (.iadd, 1) := by decide +kernel
theorem dX5_does_151 : decode cX5_does 151 = .ok (.iaload, 1) := by decide +kernel
theorem dX5_does_152 : decode cX5_does 152 = .ok (.iload 6, 2) := by decide +kernel
theorem dX5_does_154 : decode cX5_does 154 = .ok (.if_icmp .ne 7, 3) := by decide +kernel
theorem dX5_does_157 : decode cX5_does 157 = .ok (.iconst 1, 1) := by decide +kernel
theorem dX5_does_158 : decode cX5_does 158 = .ok (.goto 4, 3) := by decide +kernel
theorem dX5_does_161 : decode cX5_does 161 = .ok (.iconst 0, 1) := by decide +kernel
theorem dX5_does_162 : decode cX5_does 162 = .ok (.ireturn, 1) := by decide +kernel
theorem dX5_does_163 : decode cX5_does 163 = .ok (.iload 5, 2) := by decide +kernel
theorem dX5_does_165 : decode cX5_does 165 = .ok (.ifCond .eq 23, 3) := by decide +kernel
theorem dX5_does_168 : decode cX5_does 168 = .ok (.aload_n 0, 1) := by decide +kernel
theorem dX5_does_169 : decode cX5_does 169 = .ok (.getfield 22, 3) := by decide +kernel
theorem dX5_does_172 : decode cX5_does 172 = .ok (.bipush 6, 2) := by decide +kernel
theorem dX5_does_174 : decode cX5_does 174 = .ok (.iload_n 2, 1) := by decide +kernel
theorem dX5_does_175 : decode cX5_does 175 = .ok (.imul, 1) := by decide +kernel
theorem dX5_does_176 : decode cX5_does 176 = .ok (.iconst 5, 1) := by decide +kernel
theorem dX5_does_177 : decode cX5_does 177 = .ok (.iadd, 1) := by decide +kernel
theorem dX5_does_178 : decode cX5_does 178 = .ok (.iaload, 1) := by decide +kernel
theorem dX5_does_179 : decode cX5_does 179 = .ok (.iload 6, 2) := by decide +kernel
theorem dX5_does_181 : decode cX5_does 181 = .ok (.if_icmp .ne 7, 3) := by decide +kernel
theorem dX5_does_184 : decode cX5_does 184 = .ok (.iconst 1, 1) := by decide +kernel
theorem dX5_does_185 : decode cX5_does 185 = .ok (.goto 4, 3) := by decide +kernel
theorem dX5_does_188 : decode cX5_does 188 = .ok (.iconst 0, 1) := by decide +kernel
theorem dX5_does_189 : decode cX5_does 189 = .ok (.ireturn, 1) := by decide +kernel
theorem dX5_does_190 : decode cX5_does 190 = .ok (.iconst 0, 1) := by decide +kernel
theorem dX5_does_191 : decode cX5_does 191 = .ok (.istore 7, 2) := by decide +kernel
theorem dX5_does_193 : decode cX5_does 193 = .ok (.iconst 0, 1) := by decide +kernel
theorem dX5_does_194 : decode cX5_does 194 = .ok (.istore 8, 2) := by decide +kernel
theorem dX5_does_196 : decode cX5_does 196 = .ok (.iload 8, 2) := by decide +kernel
theorem dX5_does_198 : decode cX5_does 198 = .ok (.aload_n 0, 1) := by decide +kernel
theorem dX5_does_199 : decode cX5_does 199 = .ok (.getfield 22, 3) := by decide +kernel
theorem dX5_does_202 : decode cX5_does 202 = .ok (.bipush 24, 2) := by decide +kernel
theorem dX5_does_204 : decode cX5_does 204 = .ok (.iaload, 1) := by decide +kernel
theorem dX5_does_205 : decode cX5_does 205 = .ok (.if_icmp .ge 53, 3) := by decide +kernel
theorem dX5_does_208 : decode cX5_does 208 = .ok (.bipush 100, 2) := by decide +kernel
theorem dX5_does_210 : decode cX5_does 210 = .ok (.iload_n 2, 1) := by decide +kernel
theorem dX5_does_211 : decode cX5_does 211 = .ok (.imul, 1) := by decide +kernel
theorem dX5_does_212 : decode cX5_does 212 = .ok (.iload 6, 2) := by decide +kernel
theorem dX5_does_214 : decode cX5_does 214 = .ok (.iadd, 1) := by decide +kernel
theorem dX5_does_215 : decode cX5_does 215 = .ok (.invokestatic 139, 3) := by decide +kernel
theorem dX5_does_218 : decode cX5_does 218 = .ok (.ifCond .eq 40, 3) := by decide +kernel
theorem dX5_does_221 : decode cX5_does 221 = .ok (.iload 7, 2) := by decide +kernel
theorem dX5_does_223 : decode cX5_does 223 = .ok (.ifCond .ne 22, 3) := by decide +kernel
theorem dX5_does_226 : decode cX5_does 226 = .ok (.aload_n 0, 1) := by decide +kernel
theorem dX5_does_227 : decode cX5_does 227 = .ok (.getfield 22, 3) := by decide +kernel
theorem dX5_does_230 : decode cX5_does 230 = .ok (.iload 8, 2) := by decide +kernel
theorem dX5_does_232 : decode cX5_does 232 = .ok (.bipush 100, 2) := by decide +kernel
theorem dX5_does_234 : decode cX5_does 234 = .ok (.iload_n 2, 1) := by decide +kernel
theorem dX5_does_235 : decode cX5_does 235 = .ok (.imul, 1) := by decide +kernel
theorem dX5_does_236 : decode cX5_does 236 = .ok (.iload 6, 2) := by decide +kernel
theorem dX5_does_238 : decode cX5_does 238 = .ok (.iadd, 1) := by decide +kernel
theorem dX5_does_239 : decode cX5_does 239 = .ok (.invokestatic 65, 3) := by decide +kernel
theorem dX5_does_242 : decode cX5_does 242 = .ok (.ifCond .le 7, 3) := by decide +kernel
theorem dX5_does_245 : decode cX5_does 245 = .ok (.iconst 1, 1) := by decide +kernel
theorem dX5_does_246 : decode cX5_does 246 = .ok (.goto 4, 3) := by decide +kernel
theorem dX5_does_249 : decode cX5_does 249 = .ok (.iconst 0, 1) := by decide +kernel
theorem dX5_does_250 : decode cX5_does 250 = .ok (.istore 7, 2) := by decide +kernel
theorem dX5_does_252 : decode cX5_does 252 = .ok (.iinc 8 1, 3) := by decide +kernel
theorem dX5_does_255 : decode cX5_does 255 = .ok (.goto (-59), 3) := by decide +kernel
theorem dX5_does_258 : decode cX5_does 258 = .ok (.iload 7, 2) := by decide +kernel
theorem dX5_does_260 : decode cX5_does 260 = .ok (.ireturn, 1) := by decide +kernel
theorem dX5_does_261 : decode cX5_does 261 = .ok (.iload 5, 2) := by decide +kernel
theorem dX5_does_263 : decode cX5_does 263 = .ok (.ifCond .eq 35, 3) := by decide +kernel
theorem dX5_does_266 : decode cX5_does 266 = .ok (.iload 6, 2) := by decide +kernel
theorem dX5_does_268 : decode cX5_does 268 = .ok (.iconst 2, 1) := by decide +kernel
theorem dX5_does_269 : decode cX5_does 269 = .ok (.if_icmp .ge 29, 3) := by decide +kernel
theorem dX5_does_272 : decode cX5_does 272 = .ok (.aload_n 0, 1) := by decide +kernel
theorem dX5_does_273 : decode cX5_does 273 = .ok (.getfield 22, 3) := by decide +kernel
theorem dX5_does_276 : decode cX5_does 276 = .ok (.iload_n 2, 1) := by decide +kernel
theorem dX5_does_277 : decode cX5_does 277 = .ok (.invokestatic 127, 3) := by decide +kernel
theorem dX5_does_280 : decode cX5_does 280 = .ok (.iload 6, 2) := by decide +kernel
theorem dX5_does_282 : decode cX5_does 282 = .ok (.iconst 1, 1) := by decide +kernel
theorem dX5_does_283 : decode cX5_does 283 = .ok (.if_icmp .ne 7, 3) := by decide +kernel
theorem dX5_does_286 : decode cX5_does 286 = .ok (.iconst 1, 1) := by decide +kernel
theorem dX5_does_287 : decode cX5_does 287 = .ok (.goto 4, 3) := by decide +kernel
theorem dX5_does_290 : decode cX5_does 290 = .ok (.iconst 0, 1) := by decide +kernel
theorem dX5_does_291 : decode cX5_does 291 = .ok (.if_icmp .ne 7, 3) := by decide +kernel
theorem dX5_does_294 : decode cX5_does 294 = .ok (.iconst 1, 1) := by decide +kernel
theorem dX5_does_295 : decode cX5_does 295 = .ok (.goto 4, 3) := by decide +kernel
theorem dX5_does_298 : decode cX5_does 298 = .ok (.iconst 0, 1) := by decide +kernel
theorem dX5_does_299 : decode cX5_does 299 = .ok (.ireturn, 1) := by decide +kernel
theorem dX5_does_300 : decode cX5_does 300 = .ok (.iload 6, 2) := by decide +kernel
theorem dX5_does_302 : decode cX5_does 302 = .ok (.ifCond .ne 15, 3) := by decide +kernel
theorem dX5_does_305 : decode cX5_does 305 = .ok (.iload_n 2, 1) := by decide +kernel
theorem dX5_does_306 : decode cX5_does 306 = .ok (.i2l, 1) := by decide +kernel
theorem dX5_does_307 : decode cX5_does 307 = .ok (.lconst 1, 1) := by decide +kernel
theorem dX5_does_308 : decode cX5_does 308 = .ok (.ldc2_w 150, 3) := by decide +kernel
theorem dX5_does_311 : decode cX5_does 311 = .ok (.invokestatic 57, 3) := by decide +kernel
theorem dX5_does_314 : decode cX5_does 314 = .ok (.ifCond .ne 5, 3) := by decide +kernel
theorem dX5_does_317 : decode cX5_does 317 = .ok (.iconst 0, 1) := by decide +kernel
theorem dX5_does_318 : decode cX5_does 318 = .ok (.ireturn, 1) := by decide +kernel
theorem dX5_does_319 : decode cX5_does 319 = .ok (.aload_n 0, 1) := by decide +kernel
theorem dX5_does_320 : decode cX5_does 320 = .ok (.getfield 22, 3) := by decide +kernel
theorem dX5_does_323 : decode cX5_does 323 = .ok (.bipush 25, 2) := by decide +kernel
theorem dX5_does_325 : decode cX5_does 325 = .ok (.iload_n 2, 1) := by decide +kernel
theorem dX5_does_326 : decode cX5_does 326 = .ok (.iastore, 1) := by decide +kernel
theorem dX5_does_327 : decode cX5_does 327 = .ok (.iconst 1, 1) := by decide +kernel
theorem dX5_does_328 : decode cX5_does 328 = .ok (.ireturn, 1) := by decide +kernel
theorem dX5_does_329 : decode cX5_does 329 = .ok (.iconst 0, 1) := by decide +kernel
theorem dX5_does_330 : decode cX5_does 330 = .ok (.ireturn, 1) := by decide +kernel
theorem dX5_longPower_0 : decode cX5_longPower 0 = .ok (.lconst 1, 1) := by decide +kernel
theorem dX5_longPower_1 : decode cX5_longPower 1 = .ok (.lstore_n 3, 1) := by decide +kernel
theorem dX5_longPower_2 : decode cX5_longPower 2 = .ok (.iconst 0, 1) := by decide +kernel
theorem dX5_longPower_3 : decode cX5_longPower 3 = .ok (.istore 5, 2) := by decide +kernel
theorem dX5_longPower_5 : decode cX5_longPower 5 = .ok (.iload 5, 2) := by decide +kernel
theorem dX5_longPower_7 : decode cX5_longPower 7 = .ok (.iload_n 2, 1) := by decide +kernel
theorem dX5_longPower_8 : decode cX5_longPower 8 = .ok (.if_icmp .ge 13, 3) := by decide +kernel
theorem dX5_longPower_11 : decode cX5_longPower 11 = .ok (.lload_n 3, 1) := by decide +kernel
theorem dX5_longPower_12 : decode cX5_longPower 12 = .ok (.lload_n 0, 1) := by decide +kernel
theorem dX5_longPower_13 : decode cX5_longPower 13 = .ok (.lmul, 1) := by decide +kernel
theorem dX5_longPower_14 : decode cX5_longPower 14 = .ok (.lstore_n 3, 1) := by decide +kernel
theorem dX5_longPower_15 : decode cX5_longPower 15 = .ok (.iinc 5 1, 3) := by decide +kernel
theorem dX5_longPower_18 : decode cX5_longPower 18 = .ok (.goto (-13), 3) := by decide +kernel
theorem dX5_longPower_21 : decode cX5_longPower 21 = .ok (.lload_n 3, 1) := by decide +kernel
theorem dX5_longPower_22 : decode cX5_longPower 22 = .ok (.lreturn, 1) := by decide +kernel
theorem dX5_judge_0 : decode cX5_judge 0 = .ok (.aload_n 0, 1) := by decide +kernel
theorem dX5_judge_1 : decode cX5_judge 1 = .ok (.iconst 0, 1) := by decide +kernel
theorem dX5_judge_2 : decode cX5_judge 2 = .ok (.putfield 51, 3) := by decide +kernel
theorem dX5_judge_5 : decode cX5_judge 5 = .ok (.iload_n 1, 1) := by decide +kernel
theorem dX5_judge_6 : decode cX5_judge 6 = .ok (.i2l, 1) := by decide +kernel
theorem dX5_judge_7 : decode cX5_judge 7 = .ok (.lconst 1, 1) := by decide +kernel
theorem dX5_judge_8 : decode cX5_judge 8 = .ok (.ldc2_w 159, 3) := by decide +kernel
theorem dX5_judge_11 : decode cX5_judge 11 = .ok (.invokestatic 57, 3) := by decide +kernel
theorem dX5_judge_14 : decode cX5_judge 14 = .ok (.ifCond .eq 20, 3) := by decide +kernel
theorem dX5_judge_17 : decode cX5_judge 17 = .ok (.lload_n 2, 1) := by decide +kernel
theorem dX5_judge_18 : decode cX5_judge 18 = .ok (.lconst 0, 1) := by decide +kernel
theorem dX5_judge_19 : decode cX5_judge 19 = .ok (.ldc2_w 161, 3) := by decide +kernel
theorem dX5_judge_22 : decode cX5_judge 22 = .ok (.iload_n 1, 1) := by decide +kernel
theorem dX5_judge_23 : decode cX5_judge 23 = .ok (.invokestatic 163, 3) := by decide +kernel
theorem dX5_judge_26 : decode cX5_judge 26 = .ok (.lconst 1, 1) := by decide +kernel
theorem dX5_judge_27 : decode cX5_judge 27 = .ok (.lsub, 1) := by decide +kernel
theorem dX5_judge_28 : decode cX5_judge 28 = .ok (.invokestatic 57, 3) := by decide +kernel
theorem dX5_judge_31 : decode cX5_judge 31 = .ok (.ifCond .ne 6, 3) := by decide +kernel
theorem dX5_judge_34 : decode cX5_judge 34 = .ok (.bipush (-2), 2) := by decide +kernel
theorem dX5_judge_36 : decode cX5_judge 36 = .ok (.ireturn, 1) := by decide +kernel
theorem dX5_judge_37 : decode cX5_judge 37 = .ok (.aload_n 0, 1) := by decide +kernel
theorem dX5_judge_38 : decode cX5_judge 38 = .ok (.getfield 19, 3) := by decide +kernel
theorem dX5_judge_41 : decode cX5_judge 41 = .ok (.aload_n 0, 1) := by decide +kernel
theorem dX5_judge_42 : decode cX5_judge 42 = .ok (.getfield 22, 3) := by decide +kernel
theorem dX5_judge_45 : decode cX5_judge 45 = .ok (.invokestatic 116, 3) := by decide +kernel
theorem dX5_judge_48 : decode cX5_judge 48 = .ok (.iconst 0, 1) := by decide +kernel
theorem dX5_judge_49 : decode cX5_judge 49 = .ok (.istore 4, 2) := by decide +kernel
theorem dX5_judge_51 : decode cX5_judge 51 = .ok (.iload 4, 2) := by decide +kernel
theorem dX5_judge_53 : decode cX5_judge 53 = .ok (.iload_n 1, 1) := by decide +kernel
theorem dX5_judge_54 : decode cX5_judge 54 = .ok (.if_icmp .ge 67, 3) := by decide +kernel
theorem dX5_judge_57 : decode cX5_judge 57 = .ok (.lload_n 2, 1) := by decide +kernel
theorem dX5_judge_58 : decode cX5_judge 58 = .ok (.ldc2_w 161, 3) := by decide +kernel
theorem dX5_judge_61 : decode cX5_judge 61 = .ok (.iload_n 1, 1) := by decide +kernel
theorem dX5_judge_62 : decode cX5_judge 62 = .ok (.iconst 1, 1) := by decide +kernel
theorem dX5_judge_63 : decode cX5_judge 63 = .ok (.isub, 1) := by decide +kernel
theorem dX5_judge_64 : decode cX5_judge 64 = .ok (.iload 4, 2) := by decide +kernel
theorem dX5_judge_66 : decode cX5_judge 66 = .ok (.isub, 1) := by decide +kernel
theorem dX5_judge_67 : decode cX5_judge 67 = .ok (.invokestatic 163, 3) := by decide +kernel
theorem dX5_judge_70 : decode cX5_judge 70 = .ok (.ldiv, 1) := by decide +kernel
theorem dX5_judge_71 : decode cX5_judge 71 = .ok (.ldc2_w 161, 3) := by decide +kernel
theorem dX5_judge_74 : decode cX5_judge 74 = .ok (.lrem, 1) := by decide +kernel
theorem dX5_judge_75 : decode cX5_judge 75 = .ok (.l2i, 1) := by decide +kernel
theorem dX5_judge_76 : decode cX5_judge 76 = .ok (.istore 5, 2) := by decide +kernel
theorem dX5_judge_78 : decode cX5_judge 78 = .ok (.aload_n 0, 1) := by decide +kernel
theorem dX5_judge_79 : decode cX5_judge 79 = .ok (.iload 5, 2) := by decide +kernel
theorem dX5_judge_81 : decode cX5_judge 81 = .ok (.sipush 1000, 3) := by decide +kernel
theorem dX5_judge_84 : decode cX5_judge 84 = .ok (.idiv, 1) := by decide +kernel
theorem dX5_judge_85 : decode cX5_judge 85 = .ok (.iload 5, 2) := by decide +kernel
theorem dX5_judge_87 : decode cX5_judge 87 = .ok (.bipush 100, 2) := by decide +kernel
theorem dX5_judge_89 : decode cX5_judge 89 = .ok (.idiv, 1) := by decide +kernel
theorem dX5_judge_90 : decode cX5_judge 90 = .ok (.bipush 10, 2) := by decide +kernel
theorem dX5_judge_92 : decode cX5_judge 92 = .ok (.irem, 1) := by decide +kernel
theorem dX5_judge_93 : decode cX5_judge 93 = .ok (.iload 5, 2) := by decide +kernel
theorem dX5_judge_95 : decode cX5_judge 95 = .ok (.bipush 10, 2) := by decide +kernel
theorem dX5_judge_97 : decode cX5_judge 97 = .ok (.idiv, 1) := by decide +kernel
theorem dX5_judge_98 : decode cX5_judge 98 = .ok (.bipush 10, 2) := by decide +kernel
theorem dX5_judge_100 : decode cX5_judge 100 = .ok (.irem, 1) := by decide +kernel
theorem dX5_judge_101 : decode cX5_judge 101 = .ok (.iload 5, 2) := by decide +kernel
theorem dX5_judge_103 : decode cX5_judge 103 = .ok (.bipush 10, 2) := by decide +kernel
theorem dX5_judge_105 : decode cX5_judge 105 = .ok (.irem, 1) := by decide +kernel
theorem dX5_judge_106 : decode cX5_judge 106 = .ok (.invokevirtual 167, 3) := by decide +kernel
theorem dX5_judge_109 : decode cX5_judge 109 = .ok (.ifCond .ne 6, 3) := by decide +kernel
theorem dX5_judge_112 : decode cX5_judge 112 = .ok (.iload 4, 2) := by decide +kernel
theorem dX5_judge_114 : decode cX5_judge 114 = .ok (.ireturn, 1) := by decide +kernel
theorem dX5_judge_115 : decode cX5_judge 115 = .ok (.iinc 4 1, 3) := by decide +kernel
theorem dX5_judge_118 : decode cX5_judge 118 = .ok (.goto (-67), 3) := by decide +kernel
theorem dX5_judge_121 : decode cX5_judge 121 = .ok (.bipush (-9), 2) := by decide +kernel
theorem dX5_judge_123 : decode cX5_judge 123 = .ok (.ireturn, 1) := by decide +kernel
theorem dX5_see_0 : decode cX5_see 0 = .ok (.aload_n 0, 1) := by decide +kernel
theorem dX5_see_1 : decode cX5_see 1 = .ok (.iconst 0, 1) := by decide +kernel
theorem dX5_see_2 : decode cX5_see 2 = .ok (.putfield 51, 3) := by decide +kernel
theorem dX5_see_5 : decode cX5_see 5 = .ok (.iload_n 1, 1) := by decide +kernel
theorem dX5_see_6 : decode cX5_see 6 = .ok (.i2l, 1) := by decide +kernel
theorem dX5_see_7 : decode cX5_see 7 = .ok (.lconst 0, 1) := by decide +kernel
theorem dX5_see_8 : decode cX5_see 8 = .ok (.ldc2_w 171, 3) := by decide +kernel
theorem dX5_see_11 : decode cX5_see 11 = .ok (.invokestatic 57, 3) := by decide +kernel
theorem dX5_see_14 : decode cX5_see 14 = .ok (.ifCond .ne 5, 3) := by decide +kernel
theorem dX5_see_17 : decode cX5_see 17 = .ok (.iconst (-1), 1) := by decide +kernel
theorem dX5_see_18 : decode cX5_see 18 = .ok (.ireturn, 1) := by decide +kernel
theorem dX5_see_19 : decode cX5_see 19 = .ok (.iload_n 2, 1) := by decide +kernel
theorem dX5_see_20 : decode cX5_see 20 = .ok (.i2l, 1) := by decide +kernel
theorem dX5_see_21 : decode cX5_see 21 = .ok (.lconst 0, 1) := by decide +kernel
theorem dX5_see_22 : decode cX5_see 22 = .ok (.ldc2_w 173, 3) := by decide +kernel
theorem dX5_see_25 : decode cX5_see 25 = .ok (.invokestatic 57, 3) := by decide +kernel
theorem dX5_see_28 : decode cX5_see 28 = .ok (.ifCond .eq 10, 3) := by decide +kernel
theorem dX5_see_31 : decode cX5_see 31 = .ok (.iload_n 3, 1) := by decide +kernel
theorem dX5_see_32 : decode cX5_see 32 = .ok (.invokestatic 139, 3) := by decide +kernel
theorem dX5_see_35 : decode cX5_see 35 = .ok (.ifCond .ne 6, 3) := by decide +kernel
theorem dX5_see_38 : decode cX5_see 38 = .ok (.bipush (-2), 2) := by decide +kernel
theorem dX5_see_40 : decode cX5_see 40 = .ok (.ireturn, 1) := by decide +kernel
theorem dX5_see_41 : decode cX5_see 41 = .ok (.aload_n 0, 1) := by decide +kernel
theorem dX5_see_42 : decode cX5_see 42 = .ok (.getfield 175, 3) := by decide +kernel
theorem dX5_see_45 : decode cX5_see 45 = .ok (.bipush 6, 2) := by decide +kernel
theorem dX5_see_47 : decode cX5_see 47 = .ok (.if_icmp .ne 6, 3) := by decide +kernel
theorem dX5_see_50 : decode cX5_see 50 = .ok (.bipush (-4), 2) := by decide +kernel
theorem dX5_see_52 : decode cX5_see 52 = .ok (.ireturn, 1) := by decide +kernel
theorem dX5_see_53 : decode cX5_see 53 = .ok (.aload_n 0, 1) := by decide +kernel
theorem dX5_see_54 : decode cX5_see 54 = .ok (.getfield 35, 3) := by decide +kernel
theorem dX5_see_57 : decode cX5_see 57 = .ok (.aload_n 0, 1) := by decide +kernel
theorem dX5_see_58 : decode cX5_see 58 = .ok (.getfield 175, 3) := by decide +kernel
theorem dX5_see_61 : decode cX5_see 61 = .ok (.iload_n 1, 1) := by decide +kernel
theorem dX5_see_62 : decode cX5_see 62 = .ok (.iastore, 1) := by decide +kernel
theorem dX5_see_63 : decode cX5_see 63 = .ok (.aload_n 0, 1) := by decide +kernel
theorem dX5_see_64 : decode cX5_see 64 = .ok (.getfield 38, 3) := by decide +kernel
theorem dX5_see_67 : decode cX5_see 67 = .ok (.aload_n 0, 1) := by decide +kernel
theorem dX5_see_68 : decode cX5_see 68 = .ok (.getfield 175, 3) := by decide +kernel
theorem dX5_see_71 : decode cX5_see 71 = .ok (.iload_n 2, 1) := by decide +kernel
theorem dX5_see_72 : decode cX5_see 72 = .ok (.iastore, 1) := by decide +kernel
theorem dX5_see_73 : decode cX5_see 73 = .ok (.aload_n 0, 1) := by decide +kernel
theorem dX5_see_74 : decode cX5_see 74 = .ok (.getfield 41, 3) := by decide +kernel
theorem dX5_see_77 : decode cX5_see 77 = .ok (.aload_n 0, 1) := by decide +kernel
theorem dX5_see_78 : decode cX5_see 78 = .ok (.getfield 175, 3) := by decide +kernel
theorem dX5_see_81 : decode cX5_see 81 = .ok (.iload_n 3, 1) := by decide +kernel
theorem dX5_see_82 : decode cX5_see 82 = .ok (.iastore, 1) := by decide +kernel
theorem dX5_see_83 : decode cX5_see 83 = .ok (.aload_n 0, 1) := by decide +kernel
theorem dX5_see_84 : decode cX5_see 84 = .ok (.dup, 1) := by decide +kernel
theorem dX5_see_85 : decode cX5_see 85 = .ok (.getfield 175, 3) := by decide +kernel
theorem dX5_see_88 : decode cX5_see 88 = .ok (.iconst 1, 1) := by decide +kernel
theorem dX5_see_89 : decode cX5_see 89 = .ok (.iadd, 1) := by decide +kernel
theorem dX5_see_90 : decode cX5_see 90 = .ok (.putfield 175, 3) := by decide +kernel
theorem dX5_see_93 : decode cX5_see 93 = .ok (.aload_n 0, 1) := by decide +kernel
theorem dX5_see_94 : decode cX5_see 94 = .ok (.getfield 175, 3) := by decide +kernel
theorem dX5_see_97 : decode cX5_see 97 = .ok (.ireturn, 1) := by decide +kernel
theorem dX5_unsee_0 : decode cX5_unsee 0 = .ok (.aload_n 0, 1) := by decide +kernel
theorem dX5_unsee_1 : decode cX5_unsee 1 = .ok (.iconst 0, 1) := by decide +kernel
theorem dX5_unsee_2 : decode cX5_unsee 2 = .ok (.putfield 51, 3) := by decide +kernel
theorem dX5_unsee_5 : decode cX5_unsee 5 = .ok (.aload_n 0, 1) := by decide +kernel
theorem dX5_unsee_6 : decode cX5_unsee 6 = .ok (.getfield 175, 3) := by decide +kernel
theorem dX5_unsee_9 : decode cX5_unsee 9 = .ok (.istore_n 1, 1) := by decide +kernel
theorem dX5_unsee_10 : decode cX5_unsee 10 = .ok (.aload_n 0, 1) := by decide +kernel
theorem dX5_unsee_11 : decode cX5_unsee 11 = .ok (.iconst 0, 1) := by decide +kernel
theorem dX5_unsee_12 : decode cX5_unsee 12 = .ok (.putfield 175, 3) := by decide +kernel
theorem dX5_unsee_15 : decode cX5_unsee 15 = .ok (.iload_n 1, 1) := by decide +kernel
theorem dX5_unsee_16 : decode cX5_unsee 16 = .ok (.ireturn, 1) := by decide +kernel
theorem dX5_which_0 : decode cX5_which 0 = .ok (.aload_n 0, 1) := by decide +kernel
theorem dX5_which_1 : decode cX5_which 1 = .ok (.iconst 0, 1) := by decide +kernel
theorem dX5_which_2 : decode cX5_which 2 = .ok (.putfield 51, 3) := by decide +kernel
theorem dX5_which_5 : decode cX5_which 5 = .ok (.iload_n 1, 1) := by decide +kernel
theorem dX5_which_6 : decode cX5_which 6 = .ok (.i2l, 1) := by decide +kernel
theorem dX5_which_7 : decode cX5_which 7 = .ok (.lconst 0, 1) := by decide +kernel
theorem dX5_which_8 : decode cX5_which 8 = .ok (.lconst 1, 1) := by decide +kernel
theorem dX5_which_9 : decode cX5_which 9 = .ok (.invokestatic 57, 3) := by decide +kernel
theorem dX5_which_12 : decode cX5_which 12 = .ok (.ifCond .ne 6, 3) := by decide +kernel
theorem dX5_which_15 : decode cX5_which 15 = .ok (.bipush (-2), 2) := by decide +kernel
theorem dX5_which_17 : decode cX5_which 17 = .ok (.ireturn, 1) := by decide +kernel
theorem dX5_which_18 : decode cX5_which 18 = .ok (.iconst 0, 1) := by decide +kernel
theorem dX5_which_19 : decode cX5_which 19 = .ok (.istore_n 2, 1) := by decide +kernel
theorem dX5_which_20 : decode cX5_which 20 = .ok (.bipush (-9), 2) := by decide +kernel
theorem dX5_which_22 : decode cX5_which 22 = .ok (.istore_n 3, 1) := by decide +kernel
theorem dX5_which_23 : decode cX5_which 23 = .ok (.sipush 250, 3) := by decide +kernel
theorem dX5_which_26 : decode cX5_which 26 = .ok (.istore 4, 2) := by decide +kernel
theorem dX5_which_28 : decode cX5_which 28 = .ok (.iload 4, 2) := by decide +kernel
theorem dX5_which_30 : decode cX5_which 30 = .ok (.ifCond .lt 135, 3) := by decide +kernel
theorem dX5_which_33 : decode cX5_which 33 = .ok (.iconst 1, 1) := by decide +kernel
theorem dX5_which_34 : decode cX5_which 34 = .ok (.istore 5, 2) := by decide +kernel
theorem dX5_which_36 : decode cX5_which 36 = .ok (.iconst 0, 1) := by decide +kernel
theorem dX5_which_37 : decode cX5_which 37 = .ok (.istore 6, 2) := by decide +kernel
theorem dX5_which_39 : decode cX5_which 39 = .ok (.iload 6, 2) := by decide +kernel
theorem dX5_which_41 : decode cX5_which 41 = .ok (.aload_n 0, 1) := by decide +kernel
theorem dX5_which_42 : decode cX5_which 42 = .ok (.getfield 175, 3) := by decide +kernel
theorem dX5_which_45 : decode cX5_which 45 = .ok (.if_icmp .ge 89, 3) := by decide +kernel
theorem dX5_which_48 : decode cX5_which 48 = .ok (.aload_n 0, 1) := by decide +kernel
theorem dX5_which_49 : decode cX5_which 49 = .ok (.getfield 19, 3) := by decide +kernel
theorem dX5_which_52 : decode cX5_which 52 = .ok (.aload_n 0, 1) := by decide +kernel
theorem dX5_which_53 : decode cX5_which 53 = .ok (.getfield 35, 3) := by decide +kernel
theorem dX5_which_56 : decode cX5_which 56 = .ok (.iload 6, 2) := by decide +kernel
theorem dX5_which_58 : decode cX5_which 58 = .ok (.iaload, 1) := by decide +kernel
theorem dX5_which_59 : decode cX5_which 59 = .ok (.invokestatic 75, 3) := by decide +kernel
theorem dX5_which_62 : decode cX5_which 62 = .ok (.ifCond .ne 7, 3) := by decide +kernel
theorem dX5_which_65 : decode cX5_which 65 = .ok (.iconst 1, 1) := by decide +kernel
theorem dX5_which_66 : decode cX5_which 66 = .ok (.goto 4, 3) := by decide +kernel
theorem dX5_which_69 : decode cX5_which 69 = .ok (.iconst 0, 1) := by decide +kernel
theorem dX5_which_70 : decode cX5_which 70 = .ok (.istore 7, 2) := by decide +kernel
theorem dX5_which_72 : decode cX5_which 72 = .ok (.iload 5, 2) := by decide +kernel
theorem dX5_which_74 : decode cX5_which 74 = .ok (.ifCond .eq 51, 3) := by decide +kernel
theorem dX5_which_77 : decode cX5_which 77 = .ok (.iload 7, 2) := by decide +kernel
theorem dX5_which_79 : decode cX5_which 79 = .ok (.ifCond .eq 42, 3) := by decide +kernel
theorem dX5_which_82 : decode cX5_which 82 = .ok (.iload 4, 2) := by decide +kernel
theorem dX5_which_84 : decode cX5_which 84 = .ok (.aload_n 0, 1) := by decide +kernel
theorem dX5_which_85 : decode cX5_which 85 = .ok (.getfield 19, 3) := by decide +kernel
theorem dX5_which_88 : decode cX5_which 88 = .ok (.bipush 6, 2) := by decide +kernel
theorem dX5_which_90 : decode cX5_which 90 = .ok (.aload_n 0, 1) := by decide +kernel
theorem dX5_which_91 : decode cX5_which 91 = .ok (.getfield 35, 3) := by decide +kernel
theorem dX5_which_94 : decode cX5_which 94 = .ok (.iload 6, 2) := by decide +kernel
theorem dX5_which_96 : decode cX5_which 96 = .ok (.iaload, 1) := by decide +kernel
theorem dX5_which_97 : decode cX5_which 97 = .ok (.imul, 1) := by decide +kernel
theorem dX5_which_98 : decode cX5_which 98 = .ok (.iconst 1, 1) := by decide +kernel
theorem dX5_which_99 : decode cX5_which 99 = .ok (.iadd, 1) := by decide +kernel
theorem dX5_which_100 : decode cX5_which 100 = .ok (.iaload, 1) := by decide +kernel
theorem dX5_which_101 : decode cX5_which 101 = .ok (.aload_n 0, 1) := by decide +kernel
theorem dX5_which_102 : decode cX5_which 102 = .ok (.getfield 38, 3) := by decide +kernel
theorem dX5_which_105 : decode cX5_which 105 = .ok (.iload 6, 2) := by decide +kernel
theorem dX5_which_107 : decode cX5_which 107 = .ok (.iaload, 1) := by decide +kernel
theorem dX5_which_108 : decode cX5_which 108 = .ok (.invokestatic 61, 3) := by decide +kernel
theorem dX5_which_111 : decode cX5_which 111 = .ok (.aload_n 0, 1) := by decide +kernel
theorem dX5_which_112 : decode cX5_which 112 = .ok (.getfield 41, 3) := by decide +kernel
theorem dX5_which_115 : decode cX5_which 115 = .ok (.iload 6, 2) := by decide +kernel
theorem dX5_which_117 : decode cX5_which 117 = .ok (.iaload, 1) := by decide +kernel
theorem dX5_which_118 : decode cX5_which 118 = .ok (.if_icmp .ne 7, 3) := by decide +kernel
theorem dX5_which_121 : decode cX5_which 121 = .ok (.iconst 1, 1) := by decide +kernel
theorem dX5_which_122 : decode cX5_which 122 = .ok (.goto 4, 3) := by decide +kernel
theorem dX5_which_125 : decode cX5_which 125 = .ok (.iconst 0, 1) := by decide +kernel
theorem dX5_which_126 : decode cX5_which 126 = .ok (.istore 5, 2) := by decide +kernel
theorem dX5_which_128 : decode cX5_which 128 = .ok (.iinc 6 1, 3) := by decide +kernel
theorem dX5_which_131 : decode cX5_which 131 = .ok (.goto (-92), 3) := by decide +kernel
theorem dX5_which_134 : decode cX5_which 134 = .ok (.iload_n 2, 1) := by decide +kernel
theorem dX5_which_135 : decode cX5_which 135 = .ok (.iload 5, 2) := by decide +kernel
theorem dX5_which_137 : decode cX5_which 137 = .ok (.ifCond .eq 7, 3) := by decide +kernel
theorem dX5_which_140 : decode cX5_which 140 = .ok (.iconst 1, 1) := by decide +kernel
theorem dX5_which_141 : decode cX5_which 141 = .ok (.goto 4, 3) := by decide +kernel
theorem dX5_which_144 : decode cX5_which 144 = .ok (.iconst 0, 1) := by decide +kernel
theorem dX5_which_145 : decode cX5_which 145 = .ok (.iadd, 1) := by decide +kernel
theorem dX5_which_146 : decode cX5_which 146 = .ok (.istore_n 2, 1) := by decide +kernel
theorem dX5_which_147 : decode cX5_which 147 = .ok (.iload 5, 2) := by decide +kernel
theorem dX5_which_149 : decode cX5_which 149 = .ok (.ifCond .eq 8, 3) := by decide +kernel
theorem dX5_which_152 : decode cX5_which 152 = .ok (.iload 4, 2) := by decide +kernel
theorem dX5_which_154 : decode cX5_which 154 = .ok (.goto 4, 3) := by decide +kernel
theorem dX5_which_157 : decode cX5_which 157 = .ok (.iload_n 3, 1) := by decide +kernel
theorem dX5_which_158 : decode cX5_which 158 = .ok (.istore_n 3, 1) := by decide +kernel
theorem dX5_which_159 : decode cX5_which 159 = .ok (.iinc 4 (-1), 3) := by decide +kernel
theorem dX5_which_162 : decode cX5_which 162 = .ok (.goto (-134), 3) := by decide +kernel
theorem dX5_which_165 : decode cX5_which 165 = .ok (.iload_n 1, 1) := by decide +kernel
theorem dX5_which_166 : decode cX5_which 166 = .ok (.ifCond .ne 7, 3) := by decide +kernel
theorem dX5_which_169 : decode cX5_which 169 = .ok (.iload_n 2, 1) := by decide +kernel
theorem dX5_which_170 : decode cX5_which 170 = .ok (.goto 4, 3) := by decide +kernel
theorem dX5_which_173 : decode cX5_which 173 = .ok (.iload_n 3, 1) := by decide +kernel
theorem dX5_which_174 : decode cX5_which 174 = .ok (.ireturn, 1) := by decide +kernel
theorem dX5_divisor_0 : decode cX5_divisor 0 = .ok (.iload_n 0, 1) := by decide +kernel
theorem dX5_divisor_1 : decode cX5_divisor 1 = .ok (.ifCond .ge 8, 3) := by decide +kernel
theorem dX5_divisor_4 : decode cX5_divisor 4 = .ok (.iload_n 0, 1) := by decide +kernel
theorem dX5_divisor_5 : decode cX5_divisor 5 = .ok (.ineg, 1) := by decide +kernel
theorem dX5_divisor_6 : decode cX5_divisor 6 = .ok (.goto 4, 3) := by decide +kernel
theorem dX5_divisor_9 : decode cX5_divisor 9 = .ok (.iload_n 0, 1) := by decide +kernel
theorem dX5_divisor_10 : decode cX5_divisor 10 = .ok (.istore_n 2, 1) := by decide +kernel
theorem dX5_divisor_11 : decode cX5_divisor 11 = .ok (.iload_n 1, 1) := by decide +kernel
theorem dX5_divisor_12 : decode cX5_divisor 12 = .ok (.istore_n 3, 1) := by decide +kernel
theorem dX5_divisor_13 : decode cX5_divisor 13 = .ok (.iload_n 3, 1) := by decide +kernel
theorem dX5_divisor_14 : decode cX5_divisor 14 = .ok (.ifCond .eq 16, 3) := by decide +kernel
theorem dX5_divisor_17 : decode cX5_divisor 17 = .ok (.iload_n 2, 1) := by decide +kernel
theorem dX5_divisor_18 : decode cX5_divisor 18 = .ok (.iload_n 3, 1) := by decide +kernel
theorem dX5_divisor_19 : decode cX5_divisor 19 = .ok (.irem, 1) := by decide +kernel
theorem dX5_divisor_20 : decode cX5_divisor 20 = .ok (.istore 4, 2) := by decide +kernel
theorem dX5_divisor_22 : decode cX5_divisor 22 = .ok (.iload_n 3, 1) := by decide +kernel
theorem dX5_divisor_23 : decode cX5_divisor 23 = .ok (.istore_n 2, 1) := by decide +kernel
theorem dX5_divisor_24 : decode cX5_divisor 24 = .ok (.iload 4, 2) := by decide +kernel
theorem dX5_divisor_26 : decode cX5_divisor 26 = .ok (.istore_n 3, 1) := by decide +kernel
theorem dX5_divisor_27 : decode cX5_divisor 27 = .ok (.goto (-14), 3) := by decide +kernel
theorem dX5_divisor_30 : decode cX5_divisor 30 = .ok (.iload_n 2, 1) := by decide +kernel
theorem dX5_divisor_31 : decode cX5_divisor 31 = .ok (.ireturn, 1) := by decide +kernel
theorem dX5_fraction_0 : decode cX5_fraction 0 = .ok (.iload_n 0, 1) := by decide +kernel
theorem dX5_fraction_1 : decode cX5_fraction 1 = .ok (.iload_n 1, 1) := by decide +kernel
theorem dX5_fraction_2 : decode cX5_fraction 2 = .ok (.invokestatic 178, 3) := by decide +kernel
theorem dX5_fraction_5 : decode cX5_fraction 5 = .ok (.istore_n 3, 1) := by decide +kernel
theorem dX5_fraction_6 : decode cX5_fraction 6 = .ok (.iload_n 2, 1) := by decide +kernel
theorem dX5_fraction_7 : decode cX5_fraction 7 = .ok (.ifCond .eq 9, 3) := by decide +kernel
theorem dX5_fraction_10 : decode cX5_fraction 10 = .ok (.iload_n 0, 1) := by decide +kernel
theorem dX5_fraction_11 : decode cX5_fraction 11 = .ok (.iload_n 3, 1) := by decide +kernel
theorem dX5_fraction_12 : decode cX5_fraction 12 = .ok (.idiv, 1) := by decide +kernel
theorem dX5_fraction_13 : decode cX5_fraction 13 = .ok (.goto 6, 3) := by decide +kernel
theorem dX5_fraction_16 : decode cX5_fraction 16 = .ok (.iload_n 1, 1) := by decide +kernel
theorem dX5_fraction_17 : decode cX5_fraction 17 = .ok (.iload_n 3, 1) := by decide +kernel
theorem dX5_fraction_18 : decode cX5_fraction 18 = .ok (.idiv, 1) := by decide +kernel
theorem dX5_fraction_19 : decode cX5_fraction 19 = .ok (.ireturn, 1) := by decide +kernel
theorem dX5_factorial_0 : decode cX5_factorial 0 = .ok (.iconst 1, 1) := by decide +kernel
theorem dX5_factorial_1 : decode cX5_factorial 1 = .ok (.istore_n 1, 1) := by decide +kernel
theorem dX5_factorial_2 : decode cX5_factorial 2 = .ok (.iconst 2, 1) := by decide +kernel
theorem dX5_factorial_3 : decode cX5_factorial 3 = .ok (.istore_n 2, 1) := by decide +kernel
theorem dX5_factorial_4 : decode cX5_factorial 4 = .ok (.iload_n 2, 1) := by decide +kernel
theorem dX5_factorial_5 : decode cX5_factorial 5 = .ok (.iload_n 0, 1) := by decide +kernel
theorem dX5_factorial_6 : decode cX5_factorial 6 = .ok (.if_icmp .gt 13, 3) := by decide +kernel
theorem dX5_factorial_9 : decode cX5_factorial 9 = .ok (.iload_n 1, 1) := by decide +kernel
theorem dX5_factorial_10 : decode cX5_factorial 10 = .ok (.iload_n 2, 1) := by decide +kernel
theorem dX5_factorial_11 : decode cX5_factorial 11 = .ok (.imul, 1) := by decide +kernel
theorem dX5_factorial_12 : decode cX5_factorial 12 = .ok (.istore_n 1, 1) := by decide +kernel
theorem dX5_factorial_13 : decode cX5_factorial 13 = .ok (.iinc 2 1, 3) := by decide +kernel
theorem dX5_factorial_16 : decode cX5_factorial 16 = .ok (.goto (-12), 3) := by decide +kernel
theorem dX5_factorial_19 : decode cX5_factorial 19 = .ok (.iload_n 1, 1) := by decide +kernel
theorem dX5_factorial_20 : decode cX5_factorial 20 = .ok (.ireturn, 1) := by decide +kernel
theorem dX5_share_0 : decode cX5_share 0 = .ok (.aload_n 0, 1) := by decide +kernel
theorem dX5_share_1 : decode cX5_share 1 = .ok (.iconst 0, 1) := by decide +kernel
theorem dX5_share_2 : decode cX5_share 2 = .ok (.putfield 51, 3) := by decide +kernel
theorem dX5_share_5 : decode cX5_share 5 = .ok (.aload_n 0, 1) := by decide +kernel
theorem dX5_share_6 : decode cX5_share 6 = .ok (.getfield 19, 3) := by decide +kernel
theorem dX5_share_9 : decode cX5_share 9 = .ok (.iload_n 1, 1) := by decide +kernel
theorem dX5_share_10 : decode cX5_share 10 = .ok (.invokestatic 75, 3) := by decide +kernel
theorem dX5_share_13 : decode cX5_share 13 = .ok (.ifCond .eq 5, 3) := by decide +kernel
theorem dX5_share_16 : decode cX5_share 16 = .ok (.iconst (-1), 1) := by decide +kernel
theorem dX5_share_17 : decode cX5_share 17 = .ok (.ireturn, 1) := by decide +kernel
theorem dX5_share_18 : decode cX5_share 18 = .ok (.aload_n 0, 1) := by decide +kernel
theorem dX5_share_19 : decode cX5_share 19 = .ok (.getfield 19, 3) := by decide +kernel
theorem dX5_share_22 : decode cX5_share 22 = .ok (.bipush 24, 2) := by decide +kernel
theorem dX5_share_24 : decode cX5_share 24 = .ok (.iaload, 1) := by decide +kernel
theorem dX5_share_25 : decode cX5_share 25 = .ok (.istore_n 3, 1) := by decide +kernel
theorem dX5_share_26 : decode cX5_share 26 = .ok (.iconst 0, 1) := by decide +kernel
theorem dX5_share_27 : decode cX5_share 27 = .ok (.istore 4, 2) := by decide +kernel
theorem dX5_share_29 : decode cX5_share 29 = .ok (.iconst 0, 1) := by decide +kernel
theorem dX5_share_30 : decode cX5_share 30 = .ok (.istore 5, 2) := by decide +kernel
theorem dX5_share_32 : decode cX5_share 32 = .ok (.iload 5, 2) := by decide +kernel
theorem dX5_share_34 : decode cX5_share 34 = .ok (.iconst 1, 1) := by decide +kernel
theorem dX5_share_35 : decode cX5_share 35 = .ok (.iload_n 3, 1) := by decide +kernel
theorem dX5_share_36 : decode cX5_share 36 = .ok (.ishl, 1) := by decide +kernel
theorem dX5_share_37 : decode cX5_share 37 = .ok (.if_icmp .ge 63, 3) := by decide +kernel
theorem dX5_share_40 : decode cX5_share 40 = .ok (.iload 5, 2) := by decide +kernel
theorem dX5_share_42 : decode cX5_share 42 = .ok (.iload_n 1, 1) := by decide +kernel
theorem dX5_share_43 : decode cX5_share 43 = .ok (.invokestatic 152, 3) := by decide +kernel
theorem dX5_share_46 : decode cX5_share 46 = .ok (.ifCond .ne 48, 3) := by decide +kernel
theorem dX5_share_49 : decode cX5_share 49 = .ok (.iload 5, 2) := by decide +kernel
theorem dX5_share_51 : decode cX5_share 51 = .ok (.invokestatic 181, 3) := by decide +kernel
theorem dX5_share_54 : decode cX5_share 54 = .ok (.istore 6, 2) := by decide +kernel
theorem dX5_share_56 : decode cX5_share 56 = .ok (.iload 4, 2) := by decide +kernel
theorem dX5_share_58 : decode cX5_share 58 = .ok (.iload 6, 2) := by decide +kernel
theorem dX5_share_60 : decode cX5_share 60 = .ok (.invokestatic 184, 3) := by decide +kernel
theorem dX5_share_63 : decode cX5_share 63 = .ok (.iload_n 3, 1) := by decide +kernel
theorem dX5_share_64 : decode cX5_share 64 = .ok (.iconst 1, 1) := by decide +kernel
theorem dX5_share_65 : decode cX5_share 65 = .ok (.isub, 1) := by decide +kernel
theorem dX5_share_66 : decode cX5_share 66 = .ok (.iload 6, 2) := by decide +kernel
theorem dX5_share_68 : decode cX5_share 68 = .ok (.isub, 1) := by decide +kernel
theorem dX5_share_69 : decode cX5_share 69 = .ok (.invokestatic 184, 3) := by decide +kernel
theorem dX5_share_72 : decode cX5_share 72 = .ok (.imul, 1) := by decide +kernel
theorem dX5_share_73 : decode cX5_share 73 = .ok (.aload_n 0, 1) := by decide +kernel
theorem dX5_share_74 : decode cX5_share 74 = .ok (.iload 5, 2) := by decide +kernel
theorem dX5_share_76 : decode cX5_share 76 = .ok (.iconst 1, 1) := by decide +kernel
theorem dX5_share_77 : decode cX5_share 77 = .ok (.iload_n 1, 1) := by decide +kernel
theorem dX5_share_78 : decode cX5_share 78 = .ok (.ishl, 1) := by decide +kernel
theorem dX5_share_79 : decode cX5_share 79 = .ok (.ior, 1) := by decide +kernel
theorem dX5_share_80 : decode cX5_share 80 = .ok (.invokevirtual 156, 3) := by decide +kernel
theorem dX5_share_83 : decode cX5_share 83 = .ok (.aload_n 0, 1) := by decide +kernel
theorem dX5_share_84 : decode cX5_share 84 = .ok (.iload 5, 2) := by decide +kernel
theorem dX5_share_86 : decode cX5_share 86 = .ok (.invokevirtual 156, 3) := by decide +kernel
theorem dX5_share_89 : decode cX5_share 89 = .ok (.isub, 1) := by decide +kernel
theorem dX5_share_90 : decode cX5_share 90 = .ok (.imul, 1) := by decide +kernel
theorem dX5_share_91 : decode cX5_share 91 = .ok (.iadd, 1) := by decide +kernel
theorem dX5_share_92 : decode cX5_share 92 = .ok (.istore 4, 2) := by decide +kernel
theorem dX5_share_94 : decode cX5_share 94 = .ok (.iinc 5 1, 3) := by decide +kernel
theorem dX5_share_97 : decode cX5_share 97 = .ok (.goto (-65), 3) := by decide +kernel
theorem dX5_share_100 : decode cX5_share 100 = .ok (.iload 4, 2) := by decide +kernel
theorem dX5_share_102 : decode cX5_share 102 = .ok (.iload_n 3, 1) := by decide +kernel
theorem dX5_share_103 : decode cX5_share 103 = .ok (.invokestatic 184, 3) := by decide +kernel
theorem dX5_share_106 : decode cX5_share 106 = .ok (.iload_n 2, 1) := by decide +kernel
theorem dX5_share_107 : decode cX5_share 107 = .ok (.invokestatic 187, 3) := by decide +kernel
theorem dX5_share_110 : decode cX5_share 110 = .ok (.ireturn, 1) := by decide +kernel
theorem dX5_guess_0 : decode cX5_guess 0 = .ok (.aload_n 0, 1) := by decide +kernel
theorem dX5_guess_1 : decode cX5_guess 1 = .ok (.iconst 0, 1) := by decide +kernel
theorem dX5_guess_2 : decode cX5_guess 2 = .ok (.putfield 51, 3) := by decide +kernel
theorem dX5_guess_5 : decode cX5_guess 5 = .ok (.aload_n 0, 1) := by decide +kernel
theorem dX5_guess_6 : decode cX5_guess 6 = .ok (.getfield 19, 3) := by decide +kernel
theorem dX5_guess_9 : decode cX5_guess 9 = .ok (.iload_n 1, 1) := by decide +kernel
theorem dX5_guess_10 : decode cX5_guess 10 = .ok (.invokestatic 75, 3) := by decide +kernel
theorem dX5_guess_13 : decode cX5_guess 13 = .ok (.ifCond .eq 5, 3) := by decide +kernel
theorem dX5_guess_16 : decode cX5_guess 16 = .ok (.iconst (-1), 1) := by decide +kernel
theorem dX5_guess_17 : decode cX5_guess 17 = .ok (.ireturn, 1) := by decide +kernel
theorem dX5_guess_18 : decode cX5_guess 18 = .ok (.iload_n 2, 1) := by decide +kernel
theorem dX5_guess_19 : decode cX5_guess 19 = .ok (.i2l, 1) := by decide +kernel
theorem dX5_guess_20 : decode cX5_guess 20 = .ok (.lconst 0, 1) := by decide +kernel
theorem dX5_guess_21 : decode cX5_guess 21 = .ok (.ldc2_w 171, 3) := by decide +kernel
theorem dX5_guess_24 : decode cX5_guess 24 = .ok (.invokestatic 57, 3) := by decide +kernel
theorem dX5_guess_27 : decode cX5_guess 27 = .ok (.ifCond .ne 6, 3) := by decide +kernel
theorem dX5_guess_30 : decode cX5_guess 30 = .ok (.bipush (-2), 2) := by decide +kernel
theorem dX5_guess_32 : decode cX5_guess 32 = .ok (.ireturn, 1) := by decide +kernel
theorem dX5_guess_33 : decode cX5_guess 33 = .ok (.sipush 251, 3) := by decide +kernel
theorem dX5_guess_36 : decode cX5_guess 36 = .ok (.iload_n 2, 1) := by decide +kernel
theorem dX5_guess_37 : decode cX5_guess 37 = .ok (.invokestatic 191, 3) := by decide +kernel
theorem dX5_guess_40 : decode cX5_guess 40 = .ok (.istore 4, 2) := by decide +kernel
theorem dX5_guess_42 : decode cX5_guess 42 = .ok (.iload 4, 2) := by decide +kernel
theorem dX5_guess_44 : decode cX5_guess 44 = .ok (.sipush 251, 3) := by decide +kernel
theorem dX5_guess_47 : decode cX5_guess 47 = .ok (.aload_n 0, 1) := by decide +kernel
theorem dX5_guess_48 : decode cX5_guess 48 = .ok (.iconst 1, 1) := by decide +kernel
theorem dX5_guess_49 : decode cX5_guess 49 = .ok (.iload_n 1, 1) := by decide +kernel
theorem dX5_guess_50 : decode cX5_guess 50 = .ok (.ishl, 1) := by decide +kernel
theorem dX5_guess_51 : decode cX5_guess 51 = .ok (.invokevirtual 156, 3) := by decide +kernel
theorem dX5_guess_54 : decode cX5_guess 54 = .ok (.isub, 1) := by decide +kernel
theorem dX5_guess_55 : decode cX5_guess 55 = .ok (.iload_n 2, 1) := by decide +kernel
theorem dX5_guess_56 : decode cX5_guess 56 = .ok (.invokestatic 191, 3) := by decide +kernel
theorem dX5_guess_59 : decode cX5_guess 59 = .ok (.isub, 1) := by decide +kernel
theorem dX5_guess_60 : decode cX5_guess 60 = .ok (.iload 4, 2) := by decide +kernel
theorem dX5_guess_62 : decode cX5_guess 62 = .ok (.iload_n 3, 1) := by decide +kernel
theorem dX5_guess_63 : decode cX5_guess 63 = .ok (.invokestatic 187, 3) := by decide +kernel
theorem dX5_guess_66 : decode cX5_guess 66 = .ok (.ireturn, 1) := by decide +kernel
theorem dX5_loss_0 : decode cX5_loss 0 = .ok (.aload_n 0, 1) := by decide +kernel
theorem dX5_loss_1 : decode cX5_loss 1 = .ok (.iconst 0, 1) := by decide +kernel
theorem dX5_loss_2 : decode cX5_loss 2 = .ok (.putfield 51, 3) := by decide +kernel
theorem dX5_loss_5 : decode cX5_loss 5 = .ok (.aload_n 0, 1) := by decide +kernel
theorem dX5_loss_6 : decode cX5_loss 6 = .ok (.getfield 19, 3) := by decide +kernel
theorem dX5_loss_9 : decode cX5_loss 9 = .ok (.iload_n 1, 1) := by decide +kernel
theorem dX5_loss_10 : decode cX5_loss 10 = .ok (.invokestatic 75, 3) := by decide +kernel
theorem dX5_loss_13 : decode cX5_loss 13 = .ok (.ifCond .eq 5, 3) := by decide +kernel
theorem dX5_loss_16 : decode cX5_loss 16 = .ok (.iconst (-1), 1) := by decide +kernel
theorem dX5_loss_17 : decode cX5_loss 17 = .ok (.ireturn, 1) := by decide +kernel
theorem dX5_loss_18 : decode cX5_loss 18 = .ok (.iload_n 2, 1) := by decide +kernel
theorem dX5_loss_19 : decode cX5_loss 19 = .ok (.i2l, 1) := by decide +kernel
theorem dX5_loss_20 : decode cX5_loss 20 = .ok (.lconst 0, 1) := by decide +kernel
theorem dX5_loss_21 : decode cX5_loss 21 = .ok (.ldc2_w 150, 3) := by decide +kernel
theorem dX5_loss_24 : decode cX5_loss 24 = .ok (.invokestatic 57, 3) := by decide +kernel
theorem dX5_loss_27 : decode cX5_loss 27 = .ok (.ifCond .eq 15, 3) := by decide +kernel
theorem dX5_loss_30 : decode cX5_loss 30 = .ok (.iload_n 3, 1) := by decide +kernel
theorem dX5_loss_31 : decode cX5_loss 31 = .ok (.i2l, 1) := by decide +kernel
theorem dX5_loss_32 : decode cX5_loss 32 = .ok (.lconst 0, 1) := by decide +kernel
theorem dX5_loss_33 : decode cX5_loss 33 = .ok (.ldc2_w 194, 3) := by decide +kernel
theorem dX5_loss_36 : decode cX5_loss 36 = .ok (.invokestatic 57, 3) := by decide +kernel
theorem dX5_loss_39 : decode cX5_loss 39 = .ok (.ifCond .ne 6, 3) := by decide +kernel
theorem dX5_loss_42 : decode cX5_loss 42 = .ok (.bipush (-2), 2) := by decide +kernel
theorem dX5_loss_44 : decode cX5_loss 44 = .ok (.ireturn, 1) := by decide +kernel
theorem dX5_loss_45 : decode cX5_loss 45 = .ok (.iload_n 2, 1) := by decide +kernel
theorem dX5_loss_46 : decode cX5_loss 46 = .ok (.aload_n 0, 1) := by decide +kernel
theorem dX5_loss_47 : decode cX5_loss 47 = .ok (.getfield 19, 3) := by decide +kernel
theorem dX5_loss_50 : decode cX5_loss 50 = .ok (.bipush 6, 2) := by decide +kernel
theorem dX5_loss_52 : decode cX5_loss 52 = .ok (.iload_n 1, 1) := by decide +kernel
theorem dX5_loss_53 : decode cX5_loss 53 = .ok (.imul, 1) := by decide +kernel
theorem dX5_loss_54 : decode cX5_loss 54 = .ok (.iconst 3, 1) := by decide +kernel
theorem dX5_loss_55 : decode cX5_loss 55 = .ok (.iadd, 1) := by decide +kernel
theorem dX5_loss_56 : decode cX5_loss 56 = .ok (.iaload, 1) := by decide +kernel
theorem dX5_loss_57 : decode cX5_loss 57 = .ok (.if_icmp .le 6, 3) := by decide +kernel
theorem dX5_loss_60 : decode cX5_loss 60 = .ok (.bipush (-3), 2) := by decide +kernel
theorem dX5_loss_62 : decode cX5_loss 62 = .ok (.ireturn, 1) := by decide +kernel
theorem dX5_loss_63 : decode cX5_loss 63 = .ok (.iconst 0, 1) := by decide +kernel
theorem dX5_loss_64 : decode cX5_loss 64 = .ok (.istore 5, 2) := by decide +kernel
theorem dX5_loss_66 : decode cX5_loss 66 = .ok (.iconst 0, 1) := by decide +kernel
theorem dX5_loss_67 : decode cX5_loss 67 = .ok (.istore 6, 2) := by decide +kernel
theorem dX5_loss_69 : decode cX5_loss 69 = .ok (.iload 6, 2) := by decide +kernel
theorem dX5_loss_71 : decode cX5_loss 71 = .ok (.iconst 1, 1) := by decide +kernel
theorem dX5_loss_72 : decode cX5_loss 72 = .ok (.iload_n 2, 1) := by decide +kernel
theorem dX5_loss_73 : decode cX5_loss 73 = .ok (.ishl, 1) := by decide +kernel
theorem dX5_loss_74 : decode cX5_loss 74 = .ok (.if_icmp .ge 116, 3) := by decide +kernel
theorem dX5_loss_77 : decode cX5_loss 77 = .ok (.aload_n 0, 1) := by decide +kernel
theorem dX5_loss_78 : decode cX5_loss 78 = .ok (.getfield 19, 3) := by decide +kernel
theorem dX5_loss_81 : decode cX5_loss 81 = .ok (.aload_n 0, 1) := by decide +kernel
theorem dX5_loss_82 : decode cX5_loss 82 = .ok (.getfield 22, 3) := by decide +kernel
theorem dX5_loss_85 : decode cX5_loss 85 = .ok (.invokestatic 116, 3) := by decide +kernel
theorem dX5_loss_88 : decode cX5_loss 88 = .ok (.iconst 0, 1) := by decide +kernel
theorem dX5_loss_89 : decode cX5_loss 89 = .ok (.istore 7, 2) := by decide +kernel
theorem dX5_loss_91 : decode cX5_loss 91 = .ok (.iload 7, 2) := by decide +kernel
theorem dX5_loss_93 : decode cX5_loss 93 = .ok (.iload_n 2, 1) := by decide +kernel
theorem dX5_loss_94 : decode cX5_loss 94 = .ok (.if_icmp .ge 46, 3) := by decide +kernel
theorem dX5_loss_97 : decode cX5_loss 97 = .ok (.iload 6, 2) := by decide +kernel
theorem dX5_loss_99 : decode cX5_loss 99 = .ok (.iload 7, 2) := by decide +kernel
theorem dX5_loss_101 : decode cX5_loss 101 = .ok (.invokestatic 152, 3) := by decide +kernel
theorem dX5_loss_104 : decode cX5_loss 104 = .ok (.ifCond .eq 21, 3) := by decide +kernel
theorem dX5_loss_107 : decode cX5_loss 107 = .ok (.aload_n 0, 1) := by decide +kernel
theorem dX5_loss_108 : decode cX5_loss 108 = .ok (.getfield 22, 3) := by decide +kernel
theorem dX5_loss_111 : decode cX5_loss 111 = .ok (.bipush 6, 2) := by decide +kernel
theorem dX5_loss_113 : decode cX5_loss 113 = .ok (.iload_n 1, 1) := by decide +kernel
theorem dX5_loss_114 : decode cX5_loss 114 = .ok (.imul, 1) := by decide +kernel
theorem dX5_loss_115 : decode cX5_loss 115 = .ok (.iconst 3, 1) := by decide +kernel
theorem dX5_loss_116 : decode cX5_loss 116 = .ok (.iadd, 1) := by decide +kernel
theorem dX5_loss_117 : decode cX5_loss 117 = .ok (.dup2, 1) := by decide +kernel
theorem dX5_loss_118 : decode cX5_loss 118 = .ok (.iaload, 1) := by decide +kernel
theorem dX5_loss_119 : decode cX5_loss 119 = .ok (.iconst 1, 1) := by decide +kernel
theorem dX5_loss_120 : decode cX5_loss 120 = .ok (.isub, 1) := by decide +kernel
theorem dX5_loss_121 : decode cX5_loss 121 = .ok (.iastore, 1) := by decide +kernel
theorem dX5_loss_122 : decode cX5_loss 122 = .ok (.goto 12, 3) := by decide +kernel
theorem dX5_loss_125 : decode cX5_loss 125 = .ok (.aload_n 0, 1) := by decide +kernel
theorem dX5_loss_126 : decode cX5_loss 126 = .ok (.getfield 22, 3) := by decide +kernel
theorem dX5_loss_129 : decode cX5_loss 129 = .ok (.iload_n 1, 1) := by decide +kernel
theorem dX5_loss_130 : decode cX5_loss 130 = .ok (.invokestatic 120, 3) := by decide +kernel
theorem dX5_loss_133 : decode cX5_loss 133 = .ok (.pop, 1) := by decide +kernel
theorem dX5_loss_134 : decode cX5_loss 134 = .ok (.iinc 7 1, 3) := by decide +kernel
theorem dX5_loss_137 : decode cX5_loss 137 = .ok (.goto (-46), 3) := by decide +kernel
theorem dX5_loss_140 : decode cX5_loss 140 = .ok (.iload 5, 2) := by decide +kernel
theorem dX5_loss_142 : decode cX5_loss 142 = .ok (.aload_n 0, 1) := by decide +kernel
theorem dX5_loss_143 : decode cX5_loss 143 = .ok (.getfield 22, 3) := by decide +kernel
theorem dX5_loss_146 : decode cX5_loss 146 = .ok (.iload_n 1, 1) := by decide +kernel
theorem dX5_loss_147 : decode cX5_loss 147 = .ok (.invokestatic 127, 3) := by decide +kernel
theorem dX5_loss_150 : decode cX5_loss 150 = .ok (.ifCond .eq 30, 3) := by decide +kernel
theorem dX5_loss_153 : decode cX5_loss 153 = .ok (.iload_n 3, 1) := by decide +kernel
theorem dX5_loss_154 : decode cX5_loss 154 = .ok (.iload 6, 2) := by decide +kernel
theorem dX5_loss_156 : decode cX5_loss 156 = .ok (.invokestatic 181, 3) := by decide +kernel
theorem dX5_loss_159 : decode cX5_loss 159 = .ok (.invokestatic 191, 3) := by decide +kernel
theorem dX5_loss_162 : decode cX5_loss 162 = .ok (.bipush 10, 2) := by decide +kernel
theorem dX5_loss_164 : decode cX5_loss 164 = .ok (.iload_n 3, 1) := by decide +kernel
theorem dX5_loss_165 : decode cX5_loss 165 = .ok (.isub, 1) := by decide +kernel
theorem dX5_loss_166 : decode cX5_loss 166 = .ok (.iload_n 2, 1) := by decide +kernel
theorem dX5_loss_167 : decode cX5_loss 167 = .ok (.iload 6, 2) := by decide +kernel
theorem dX5_loss_169 : decode cX5_loss 169 = .ok (.invokestatic 181, 3) := by decide +kernel
theorem dX5_loss_172 : decode cX5_loss 172 = .ok (.isub, 1) := by decide +kernel
theorem dX5_loss_173 : decode cX5_loss 173 = .ok (.invokestatic 191, 3) := by decide +kernel
theorem dX5_loss_176 : decode cX5_loss 176 = .ok (.imul, 1) := by decide +kernel
theorem dX5_loss_177 : decode cX5_loss 177 = .ok (.goto 4, 3) := by decide +kernel
theorem dX5_loss_180 : decode cX5_loss 180 = .ok (.iconst 0, 1) := by decide +kernel
theorem dX5_loss_181 : decode cX5_loss 181 = .ok (.iadd, 1) := by decide +kernel
theorem dX5_loss_182 : decode cX5_loss 182 = .ok (.istore 5, 2) := by decide +kernel
theorem dX5_loss_184 : decode cX5_loss 184 = .ok (.iinc 6 1, 3) := by decide +kernel
theorem dX5_loss_187 : decode cX5_loss 187 = .ok (.goto (-118), 3) := by decide +kernel
theorem dX5_loss_190 : decode cX5_loss 190 = .ok (.iload 5, 2) := by decide +kernel
theorem dX5_loss_192 : decode cX5_loss 192 = .ok (.bipush 10, 2) := by decide +kernel
theorem dX5_loss_194 : decode cX5_loss 194 = .ok (.iload_n 2, 1) := by decide +kernel
theorem dX5_loss_195 : decode cX5_loss 195 = .ok (.invokestatic 191, 3) := by decide +kernel
theorem dX5_loss_198 : decode cX5_loss 198 = .ok (.iload 4, 2) := by decide +kernel
theorem dX5_loss_200 : decode cX5_loss 200 = .ok (.invokestatic 187, 3) := by decide +kernel
theorem dX5_loss_203 : decode cX5_loss 203 = .ok (.ireturn, 1) := by decide +kernel
theorem dX5_seed_0 : decode cX5_seed 0 = .ok (.aload_n 0, 1) := by decide +kernel
theorem dX5_seed_1 : decode cX5_seed 1 = .ok (.iconst 0, 1) := by decide +kernel
theorem dX5_seed_2 : decode cX5_seed 2 = .ok (.putfield 51, 3) := by decide +kernel
theorem dX5_seed_5 : decode cX5_seed 5 = .ok (.aload_n 0, 1) := by decide +kernel
theorem dX5_seed_6 : decode cX5_seed 6 = .ok (.getfield 196, 3) := by decide +kernel
theorem dX5_seed_9 : decode cX5_seed 9 = .ok (.lstore_n 3, 1) := by decide +kernel
theorem dX5_seed_10 : decode cX5_seed 10 = .ok (.aload_n 0, 1) := by decide +kernel
theorem dX5_seed_11 : decode cX5_seed 11 = .ok (.lload_n 1, 1) := by decide +kernel
theorem dX5_seed_12 : decode cX5_seed 12 = .ok (.putfield 196, 3) := by decide +kernel
theorem dX5_seed_15 : decode cX5_seed 15 = .ok (.lload_n 3, 1) := by decide +kernel
theorem dX5_seed_16 : decode cX5_seed 16 = .ok (.lreturn, 1) := by decide +kernel
theorem dX5_drawn_0 : decode cX5_drawn 0 = .ok (.aload_n 0, 1) := by decide +kernel
theorem dX5_drawn_1 : decode cX5_drawn 1 = .ok (.iconst 0, 1) := by decide +kernel
theorem dX5_drawn_2 : decode cX5_drawn 2 = .ok (.putfield 51, 3) := by decide +kernel
theorem dX5_drawn_5 : decode cX5_drawn 5 = .ok (.iload_n 1, 1) := by decide +kernel
theorem dX5_drawn_6 : decode cX5_drawn 6 = .ok (.i2l, 1) := by decide +kernel
theorem dX5_drawn_7 : decode cX5_drawn 7 = .ok (.lconst 1, 1) := by decide +kernel
theorem dX5_drawn_8 : decode cX5_drawn 8 = .ok (.ldc2_w 200, 3) := by decide +kernel
theorem dX5_drawn_11 : decode cX5_drawn 11 = .ok (.invokestatic 57, 3) := by decide +kernel
theorem dX5_drawn_14 : decode cX5_drawn 14 = .ok (.ifCond .ne 6, 3) := by decide +kernel
theorem dX5_drawn_17 : decode cX5_drawn 17 = .ok (.bipush (-2), 2) := by decide +kernel
theorem dX5_drawn_19 : decode cX5_drawn 19 = .ok (.ireturn, 1) := by decide +kernel
theorem dX5_drawn_20 : decode cX5_drawn 20 = .ok (.aload_n 0, 1) := by decide +kernel
theorem dX5_drawn_21 : decode cX5_drawn 21 = .ok (.getfield 19, 3) := by decide +kernel
theorem dX5_drawn_24 : decode cX5_drawn 24 = .ok (.aload_n 0, 1) := by decide +kernel
theorem dX5_drawn_25 : decode cX5_drawn 25 = .ok (.getfield 22, 3) := by decide +kernel
theorem dX5_drawn_28 : decode cX5_drawn 28 = .ok (.invokestatic 116, 3) := by decide +kernel
theorem dX5_drawn_31 : decode cX5_drawn 31 = .ok (.iconst 0, 1) := by decide +kernel
theorem dX5_drawn_32 : decode cX5_drawn 32 = .ok (.istore_n 2, 1) := by decide +kernel
theorem dX5_drawn_33 : decode cX5_drawn 33 = .ok (.iconst 0, 1) := by decide +kernel
theorem dX5_drawn_34 : decode cX5_drawn 34 = .ok (.istore_n 3, 1) := by decide +kernel
theorem dX5_drawn_35 : decode cX5_drawn 35 = .ok (.iload_n 3, 1) := by decide +kernel
theorem dX5_drawn_36 : decode cX5_drawn 36 = .ok (.iload_n 1, 1) := by decide +kernel
theorem dX5_drawn_37 : decode cX5_drawn 37 = .ok (.if_icmp .ge 101, 3) := by decide +kernel
theorem dX5_drawn_40 : decode cX5_drawn 40 = .ok (.aload_n 0, 1) := by decide +kernel
theorem dX5_drawn_41 : decode cX5_drawn 41 = .ok (.aload_n 0, 1) := by decide +kernel
theorem dX5_drawn_42 : decode cX5_drawn 42 = .ok (.getfield 196, 3) := by decide +kernel
theorem dX5_drawn_45 : decode cX5_drawn 45 = .ok (.ldc2_w 202, 3) := by decide +kernel
theorem dX5_drawn_48 : decode cX5_drawn 48 = .ok (.lmul, 1) := by decide +kernel
theorem dX5_drawn_49 : decode cX5_drawn 49 = .ok (.ldc2_w 204, 3) := by decide +kernel
theorem dX5_drawn_52 : decode cX5_drawn 52 = .ok (.ladd, 1) := by decide +kernel
theorem dX5_drawn_53 : decode cX5_drawn 53 = .ok (.putfield 196, 3) := by decide +kernel
theorem dX5_drawn_56 : decode cX5_drawn 56 = .ok (.aload_n 0, 1) := by decide +kernel
theorem dX5_drawn_57 : decode cX5_drawn 57 = .ok (.getfield 196, 3) := by decide +kernel
theorem dX5_drawn_60 : decode cX5_drawn 60 = .ok (.bipush 33, 2) := by decide +kernel
theorem dX5_drawn_62 : decode cX5_drawn 62 = .ok (.lushr, 1) := by decide +kernel
theorem dX5_drawn_63 : decode cX5_drawn 63 = .ok (.l2i, 1) := by decide +kernel
theorem dX5_drawn_64 : decode cX5_drawn 64 = .ok (.istore 4, 2) := by decide +kernel
theorem dX5_drawn_66 : decode cX5_drawn 66 = .ok (.aload_n 0, 1) := by decide +kernel
theorem dX5_drawn_67 : decode cX5_drawn 67 = .ok (.getfield 22, 3) := by decide +kernel
theorem dX5_drawn_70 : decode cX5_drawn 70 = .ok (.iload 4, 2) := by decide +kernel
theorem dX5_drawn_72 : decode cX5_drawn 72 = .ok (.iconst 4, 1) := by decide +kernel
theorem dX5_drawn_73 : decode cX5_drawn 73 = .ok (.irem, 1) := by decide +kernel
theorem dX5_drawn_74 : decode cX5_drawn 74 = .ok (.invokestatic 79, 3) := by decide +kernel
theorem dX5_drawn_77 : decode cX5_drawn 77 = .ok (.ifCond .eq 55, 3) := by decide +kernel
theorem dX5_drawn_80 : decode cX5_drawn 80 = .ok (.iload 4, 2) := by decide +kernel
theorem dX5_drawn_82 : decode cX5_drawn 82 = .ok (.iconst 4, 1) := by decide +kernel
theorem dX5_drawn_83 : decode cX5_drawn 83 = .ok (.idiv, 1) := by decide +kernel
theorem dX5_drawn_84 : decode cX5_drawn 84 = .ok (.iconst 4, 1) := by decide +kernel
theorem dX5_drawn_85 : decode cX5_drawn 85 = .ok (.irem, 1) := by decide +kernel
theorem dX5_drawn_86 : decode cX5_drawn 86 = .ok (.ifCond .ne 24, 3) := by decide +kernel
theorem dX5_drawn_89 : decode cX5_drawn 89 = .ok (.aload_n 0, 1) := by decide +kernel
theorem dX5_drawn_90 : decode cX5_drawn 90 = .ok (.getfield 22, 3) := by decide +kernel
theorem dX5_drawn_93 : decode cX5_drawn 93 = .ok (.bipush 6, 2) := by decide +kernel
theorem dX5_drawn_95 : decode cX5_drawn 95 = .ok (.iload 4, 2) := by decide +kernel
theorem dX5_drawn_97 : decode cX5_drawn 97 = .ok (.iconst 4, 1) := by decide +kernel
theorem dX5_drawn_98 : decode cX5_drawn 98 = .ok (.irem, 1) := by decide +kernel
theorem dX5_drawn_99 : decode cX5_drawn 99 = .ok (.imul, 1) := by decide +kernel
theorem dX5_drawn_100 : decode cX5_drawn 100 = .ok (.iconst 3, 1) := by decide +kernel
theorem dX5_drawn_101 : decode cX5_drawn 101 = .ok (.iadd, 1) := by decide +kernel
theorem dX5_drawn_102 : decode cX5_drawn 102 = .ok (.dup2, 1) := by decide +kernel
theorem dX5_drawn_103 : decode cX5_drawn 103 = .ok (.iaload, 1) := by decide +kernel
theorem dX5_drawn_104 : decode cX5_drawn 104 = .ok (.iconst 1, 1) := by decide +kernel
theorem dX5_drawn_105 : decode cX5_drawn 105 = .ok (.isub, 1) := by decide +kernel
theorem dX5_drawn_106 : decode cX5_drawn 106 = .ok (.iastore, 1) := by decide +kernel
theorem dX5_drawn_107 : decode cX5_drawn 107 = .ok (.goto 25, 3) := by decide +kernel
theorem dX5_drawn_110 : decode cX5_drawn 110 = .ok (.iload_n 2, 1) := by decide +kernel
theorem dX5_drawn_111 : decode cX5_drawn 111 = .ok (.aload_n 0, 1) := by decide +kernel
theorem dX5_drawn_112 : decode cX5_drawn 112 = .ok (.getfield 22, 3) := by decide +kernel
theorem dX5_drawn_115 : decode cX5_drawn 115 = .ok (.iload 4, 2) := by decide +kernel
theorem dX5_drawn_117 : decode cX5_drawn 117 = .ok (.iconst 4, 1) := by decide +kernel
theorem dX5_drawn_118 : decode cX5_drawn 118 = .ok (.irem, 1) := by decide +kernel
theorem dX5_drawn_119 : decode cX5_drawn 119 = .ok (.invokestatic 120, 3) := by decide +kernel
theorem dX5_drawn_122 : decode cX5_drawn 122 = .ok (.ifCond .le 7, 3) := by decide +kernel
theorem dX5_drawn_125 : decode cX5_drawn 125 = .ok (.iconst 1, 1) := by decide +kernel
theorem dX5_drawn_126 : decode cX5_drawn 126 = .ok (.goto 4, 3) := by decide +kernel
theorem dX5_drawn_129 : decode cX5_drawn 129 = .ok (.iconst 0, 1) := by decide +kernel
theorem dX5_drawn_130 : decode cX5_drawn 130 = .ok (.iadd, 1) := by decide +kernel
theorem dX5_drawn_131 : decode cX5_drawn 131 = .ok (.istore_n 2, 1) := by decide +kernel
theorem dX5_drawn_132 : decode cX5_drawn 132 = .ok (.iinc 3 1, 3) := by decide +kernel
theorem dX5_drawn_135 : decode cX5_drawn 135 = .ok (.goto (-100), 3) := by decide +kernel
theorem dX5_drawn_138 : decode cX5_drawn 138 = .ok (.iload_n 2, 1) := by decide +kernel
theorem dX5_drawn_139 : decode cX5_drawn 139 = .ok (.ireturn, 1) := by decide +kernel
theorem dX5_keep_0 : decode cX5_keep 0 = .ok (.aload_n 0, 1) := by decide +kernel
theorem dX5_keep_1 : decode cX5_keep 1 = .ok (.iconst 0, 1) := by decide +kernel
theorem dX5_keep_2 : decode cX5_keep 2 = .ok (.putfield 51, 3) := by decide +kernel
theorem dX5_keep_5 : decode cX5_keep 5 = .ok (.iload_n 1, 1) := by decide +kernel
theorem dX5_keep_6 : decode cX5_keep 6 = .ok (.i2l, 1) := by decide +kernel
theorem dX5_keep_7 : decode cX5_keep 7 = .ok (.lconst 0, 1) := by decide +kernel
theorem dX5_keep_8 : decode cX5_keep 8 = .ok (.lconst 1, 1) := by decide +kernel
theorem dX5_keep_9 : decode cX5_keep 9 = .ok (.invokestatic 57, 3) := by decide +kernel
theorem dX5_keep_12 : decode cX5_keep 12 = .ok (.ifCond .ne 5, 3) := by decide +kernel
theorem dX5_keep_15 : decode cX5_keep 15 = .ok (.iconst (-1), 1) := by decide +kernel
theorem dX5_keep_16 : decode cX5_keep 16 = .ok (.ireturn, 1) := by decide +kernel
theorem dX5_keep_17 : decode cX5_keep 17 = .ok (.aload_n 0, 1) := by decide +kernel
theorem dX5_keep_18 : decode cX5_keep 18 = .ok (.getfield 31, 3) := by decide +kernel
theorem dX5_keep_21 : decode cX5_keep 21 = .ok (.iload_n 1, 1) := by decide +kernel
theorem dX5_keep_22 : decode cX5_keep 22 = .ok (.iconst 1, 1) := by decide +kernel
theorem dX5_keep_23 : decode cX5_keep 23 = .ok (.bastore, 1) := by decide +kernel
theorem dX5_keep_24 : decode cX5_keep 24 = .ok (.iconst 0, 1) := by decide +kernel
theorem dX5_keep_25 : decode cX5_keep 25 = .ok (.istore_n 2, 1) := by decide +kernel
theorem dX5_keep_26 : decode cX5_keep 26 = .ok (.iload_n 2, 1) := by decide +kernel
theorem dX5_keep_27 : decode cX5_keep 27 = .ok (.bipush 36, 2) := by decide +kernel
theorem dX5_keep_29 : decode cX5_keep 29 = .ok (.if_icmp .ge 26, 3) := by decide +kernel
theorem dX5_keep_32 : decode cX5_keep 32 = .ok (.aload_n 0, 1) := by decide +kernel
theorem dX5_keep_33 : decode cX5_keep 33 = .ok (.getfield 28, 3) := by decide +kernel
theorem dX5_keep_36 : decode cX5_keep 36 = .ok (.bipush 36, 2) := by decide +kernel
theorem dX5_keep_38 : decode cX5_keep 38 = .ok (.iload_n 1, 1) := by decide +kernel
theorem dX5_keep_39 : decode cX5_keep 39 = .ok (.imul, 1) := by decide +kernel
theorem dX5_keep_40 : decode cX5_keep 40 = .ok (.iload_n 2, 1) := by decide +kernel
theorem dX5_keep_41 : decode cX5_keep 41 = .ok (.iadd, 1) := by decide +kernel
theorem dX5_keep_42 : decode cX5_keep 42 = .ok (.aload_n 0, 1) := by decide +kernel
theorem dX5_keep_43 : decode cX5_keep 43 = .ok (.getfield 19, 3) := by decide +kernel
theorem dX5_keep_46 : decode cX5_keep 46 = .ok (.iload_n 2, 1) := by decide +kernel
theorem dX5_keep_47 : decode cX5_keep 47 = .ok (.iaload, 1) := by decide +kernel
theorem dX5_keep_48 : decode cX5_keep 48 = .ok (.iastore, 1) := by decide +kernel
theorem dX5_keep_49 : decode cX5_keep 49 = .ok (.iinc 2 1, 3) := by decide +kernel
theorem dX5_keep_52 : decode cX5_keep 52 = .ok (.goto (-26), 3) := by decide +kernel
theorem dX5_keep_55 : decode cX5_keep 55 = .ok (.aload_n 0, 1) := by decide +kernel
theorem dX5_keep_56 : decode cX5_keep 56 = .ok (.getfield 19, 3) := by decide +kernel
theorem dX5_keep_59 : decode cX5_keep 59 = .ok (.bipush 24, 2) := by decide +kernel
theorem dX5_keep_61 : decode cX5_keep 61 = .ok (.iaload, 1) := by decide +kernel
theorem dX5_keep_62 : decode cX5_keep 62 = .ok (.ireturn, 1) := by decide +kernel
theorem dX5_again_0 : decode cX5_again 0 = .ok (.aload_n 0, 1) := by decide +kernel
theorem dX5_again_1 : decode cX5_again 1 = .ok (.iconst 0, 1) := by decide +kernel
theorem dX5_again_2 : decode cX5_again 2 = .ok (.putfield 51, 3) := by decide +kernel
theorem dX5_again_5 : decode cX5_again 5 = .ok (.iload_n 1, 1) := by decide +kernel
theorem dX5_again_6 : decode cX5_again 6 = .ok (.i2l, 1) := by decide +kernel
theorem dX5_again_7 : decode cX5_again 7 = .ok (.lconst 0, 1) := by decide +kernel
theorem dX5_again_8 : decode cX5_again 8 = .ok (.lconst 1, 1) := by decide +kernel
theorem dX5_again_9 : decode cX5_again 9 = .ok (.invokestatic 57, 3) := by decide +kernel
theorem dX5_again_12 : decode cX5_again 12 = .ok (.ifCond .ne 5, 3) := by decide +kernel
theorem dX5_again_15 : decode cX5_again 15 = .ok (.iconst (-1), 1) := by decide +kernel
theorem dX5_again_16 : decode cX5_again 16 = .ok (.ireturn, 1) := by decide +kernel
theorem dX5_again_17 : decode cX5_again 17 = .ok (.aload_n 0, 1) := by decide +kernel
theorem dX5_again_18 : decode cX5_again 18 = .ok (.getfield 31, 3) := by decide +kernel
theorem dX5_again_21 : decode cX5_again 21 = .ok (.iload_n 1, 1) := by decide +kernel
theorem dX5_again_22 : decode cX5_again 22 = .ok (.baload, 1) := by decide +kernel
theorem dX5_again_23 : decode cX5_again 23 = .ok (.ifCond .ne 6, 3) := by decide +kernel
theorem dX5_again_26 : decode cX5_again 26 = .ok (.bipush (-3), 2) := by decide +kernel
theorem dX5_again_28 : decode cX5_again 28 = .ok (.ireturn, 1) := by decide +kernel
theorem dX5_again_29 : decode cX5_again 29 = .ok (.iconst 0, 1) := by decide +kernel
theorem dX5_again_30 : decode cX5_again 30 = .ok (.istore_n 2, 1) := by decide +kernel
theorem dX5_again_31 : decode cX5_again 31 = .ok (.iload_n 2, 1) := by decide +kernel
theorem dX5_again_32 : decode cX5_again 32 = .ok (.bipush 36, 2) := by decide +kernel
theorem dX5_again_34 : decode cX5_again 34 = .ok (.if_icmp .ge 26, 3) := by decide +kernel
theorem dX5_again_37 : decode cX5_again 37 = .ok (.aload_n 0, 1) := by decide +kernel
theorem dX5_again_38 : decode cX5_again 38 = .ok (.getfield 19, 3) := by decide +kernel
theorem dX5_again_41 : decode cX5_again 41 = .ok (.iload_n 2, 1) := by decide +kernel
theorem dX5_again_42 : decode cX5_again 42 = .ok (.aload_n 0, 1) := by decide +kernel
theorem dX5_again_43 : decode cX5_again 43 = .ok (.getfield 28, 3) := by decide +kernel
theorem dX5_again_46 : decode cX5_again 46 = .ok (.bipush 36, 2) := by decide +kernel
theorem dX5_again_48 : decode cX5_again 48 = .ok (.iload_n 1, 1) := by decide +kernel
theorem dX5_again_49 : decode cX5_again 49 = .ok (.imul, 1) := by decide +kernel
theorem dX5_again_50 : decode cX5_again 50 = .ok (.iload_n 2, 1) := by decide +kernel
theorem dX5_again_51 : decode cX5_again 51 = .ok (.iadd, 1) := by decide +kernel
theorem dX5_again_52 : decode cX5_again 52 = .ok (.iaload, 1) := by decide +kernel
theorem dX5_again_53 : decode cX5_again 53 = .ok (.iastore, 1) := by decide +kernel
theorem dX5_again_54 : decode cX5_again 54 = .ok (.iinc 2 1, 3) := by decide +kernel
theorem dX5_again_57 : decode cX5_again 57 = .ok (.goto (-26), 3) := by decide +kernel
theorem dX5_again_60 : decode cX5_again 60 = .ok (.aload_n 0, 1) := by decide +kernel
theorem dX5_again_61 : decode cX5_again 61 = .ok (.iconst 0, 1) := by decide +kernel
theorem dX5_again_62 : decode cX5_again 62 = .ok (.putfield 124, 3) := by decide +kernel
theorem dX5_again_65 : decode cX5_again 65 = .ok (.aload_n 0, 1) := by decide +kernel
theorem dX5_again_66 : decode cX5_again 66 = .ok (.getfield 19, 3) := by decide +kernel
theorem dX5_again_69 : decode cX5_again 69 = .ok (.bipush 24, 2) := by decide +kernel
theorem dX5_again_71 : decode cX5_again 71 = .ok (.iaload, 1) := by decide +kernel
theorem dX5_again_72 : decode cX5_again 72 = .ok (.ireturn, 1) := by decide +kernel
theorem dX5_count_0 : decode cX5_count 0 = .ok (.aload_n 0, 1) := by decide +kernel
theorem dX5_count_1 : decode cX5_count 1 = .ok (.iconst 0, 1) := by decide +kernel
theorem dX5_count_2 : decode cX5_count 2 = .ok (.putfield 51, 3) := by decide +kernel
theorem dX5_count_5 : decode cX5_count 5 = .ok (.iload_n 1, 1) := by decide +kernel
theorem dX5_count_6 : decode cX5_count 6 = .ok (.tableswitch 89 0 6 #[42, 47, 55, 63, 71, 79, 84], 42) := by decide +kernel
theorem dX5_count_48 : decode cX5_count 48 = .ok (.aload_n 0, 1) := by decide +kernel
theorem dX5_count_49 : decode cX5_count 49 = .ok (.getfield 84, 3) := by decide +kernel
theorem dX5_count_52 : decode cX5_count 52 = .ok (.ireturn, 1) := by decide +kernel
theorem dX5_count_53 : decode cX5_count 53 = .ok (.aload_n 0, 1) := by decide +kernel
theorem dX5_count_54 : decode cX5_count 54 = .ok (.getfield 19, 3) := by decide +kernel
theorem dX5_count_57 : decode cX5_count 57 = .ok (.bipush 24, 2) := by decide +kernel
theorem dX5_count_59 : decode cX5_count 59 = .ok (.iaload, 1) := by decide +kernel
theorem dX5_count_60 : decode cX5_count 60 = .ok (.ireturn, 1) := by decide +kernel
theorem dX5_count_61 : decode cX5_count 61 = .ok (.aload_n 0, 1) := by decide +kernel
theorem dX5_count_62 : decode cX5_count 62 = .ok (.getfield 19, 3) := by decide +kernel
theorem dX5_count_65 : decode cX5_count 65 = .ok (.bipush 25, 2) := by decide +kernel
theorem dX5_count_67 : decode cX5_count 67 = .ok (.iaload, 1) := by decide +kernel
theorem dX5_count_68 : decode cX5_count 68 = .ok (.ireturn, 1) := by decide +kernel
theorem dX5_count_69 : decode cX5_count 69 = .ok (.aload_n 0, 1) := by decide +kernel
theorem dX5_count_70 : decode cX5_count 70 = .ok (.getfield 19, 3) := by decide +kernel
theorem dX5_count_73 : decode cX5_count 73 = .ok (.bipush 26, 2) := by decide +kernel
theorem dX5_count_75 : decode cX5_count 75 = .ok (.iaload, 1) := by decide +kernel
theorem dX5_count_76 : decode cX5_count 76 = .ok (.ireturn, 1) := by decide +kernel
theorem dX5_count_77 : decode cX5_count 77 = .ok (.aload_n 0, 1) := by decide +kernel
theorem dX5_count_78 : decode cX5_count 78 = .ok (.getfield 19, 3) := by decide +kernel
theorem dX5_count_81 : decode cX5_count 81 = .ok (.bipush 27, 2) := by decide +kernel
theorem dX5_count_83 : decode cX5_count 83 = .ok (.iaload, 1) := by decide +kernel
theorem dX5_count_84 : decode cX5_count 84 = .ok (.ireturn, 1) := by decide +kernel
theorem dX5_count_85 : decode cX5_count 85 = .ok (.aload_n 0, 1) := by decide +kernel
theorem dX5_count_86 : decode cX5_count 86 = .ok (.getfield 124, 3) := by decide +kernel
theorem dX5_count_89 : decode cX5_count 89 = .ok (.ireturn, 1) := by decide +kernel
theorem dX5_count_90 : decode cX5_count 90 = .ok (.aload_n 0, 1) := by decide +kernel
theorem dX5_count_91 : decode cX5_count 91 = .ok (.getfield 175, 3) := by decide +kernel
theorem dX5_count_94 : decode cX5_count 94 = .ok (.ireturn, 1) := by decide +kernel
theorem dX5_count_95 : decode cX5_count 95 = .ok (.bipush (-2), 2) := by decide +kernel
theorem dX5_count_97 : decode cX5_count 97 = .ok (.ireturn, 1) := by decide +kernel
end
section
theorem dL_law_0 : decode cL_law 0 = .ok (.new 7, 3) := by decide +kernel
theorem dL_law_3 : decode cL_law 3 = .ok (.dup, 1) := by decide +kernel
theorem dL_law_4 : decode cL_law 4 = .ok (.invokespecial 9, 3) := by decide +kernel
theorem dL_law_7 : decode cL_law 7 = .ok (.astore_n 1, 1) := by decide +kernel
theorem dL_law_8 : decode cL_law 8 = .ok (.new 10, 3) := by decide +kernel
theorem dL_law_11 : decode cL_law 11 = .ok (.dup, 1) := by decide +kernel
theorem dL_law_12 : decode cL_law 12 = .ok (.invokespecial 12, 3) := by decide +kernel
theorem dL_law_15 : decode cL_law 15 = .ok (.astore_n 2, 1) := by decide +kernel
theorem dL_law_16 : decode cL_law 16 = .ok (.iconst 0, 1) := by decide +kernel
theorem dL_law_17 : decode cL_law 17 = .ok (.istore_n 3, 1) := by decide +kernel
theorem dL_law_18 : decode cL_law 18 = .ok (.iload_n 3, 1) := by decide +kernel
theorem dL_law_19 : decode cL_law 19 = .ok (.aload_n 0, 1) := by decide +kernel
theorem dL_law_20 : decode cL_law 20 = .ok (.arraylength, 1) := by decide +kernel
theorem dL_law_21 : decode cL_law 21 = .ok (.iconst 5, 1) := by decide +kernel
theorem dL_law_22 : decode cL_law 22 = .ok (.isub, 1) := by decide +kernel
theorem dL_law_23 : decode cL_law 23 = .ok (.if_icmp .gt 1080, 3) := by decide +kernel
theorem dL_law_26 : decode cL_law 26 = .ok (.aload_n 0, 1) := by decide +kernel
theorem dL_law_27 : decode cL_law 27 = .ok (.iload_n 3, 1) := by decide +kernel
theorem dL_law_28 : decode cL_law 28 = .ok (.iaload, 1) := by decide +kernel
theorem dL_law_29 : decode cL_law 29 = .ok (.bipush 31, 2) := by decide +kernel
theorem dL_law_31 : decode cL_law 31 = .ok (.iand, 1) := by decide +kernel
theorem dL_law_32 : decode cL_law 32 = .ok (.tableswitch 1065 0 29 #[136, 159, 172, 185, 198, 231, 264, 307, 330, 353, 386, 399, 452, 475, 488, 521, 554, 577, 600, 663, 706, 719, 742, 791, 850, 919, 973, 996, 1019, 1042], 136) := by decide +kernel
theorem dL_law_168 : decode cL_law 168 = .ok (.aload_n 1, 1) := by decide +kernel
theorem dL_law_169 : decode cL_law 169 = .ok (.aload_n 0, 1) := by decide +kernel
theorem dL_law_170 : decode cL_law 170 = .ok (.iload_n 3, 1) := by decide +kernel
theorem dL_law_171 : decode cL_law 171 = .ok (.iconst 1, 1) := by decide +kernel
theorem dL_law_172 : decode cL_law 172 = .ok (.iadd, 1) := by decide +kernel
theorem dL_law_173 : decode cL_law 173 = .ok (.iaload, 1) := by decide +kernel
theorem dL_law_174 : decode cL_law 174 = .ok (.invokevirtual 13, 3) := by decide +kernel
theorem dL_law_177 : decode cL_law 177 = .ok (.aload_n 2, 1) := by decide +kernel
theorem dL_law_178 : decode cL_law 178 = .ok (.aload_n 0, 1) := by decide +kernel
theorem dL_law_179 : decode cL_law 179 = .ok (.iload_n 3, 1) := by decide +kernel
theorem dL_law_180 : decode cL_law 180 = .ok (.iconst 1, 1) := by decide +kernel
theorem dL_law_181 : decode cL_law 181 = .ok (.iadd, 1) := by decide +kernel
theorem dL_law_182 : decode cL_law 182 = .ok (.iaload, 1) := by decide +kernel
theorem dL_law_183 : decode cL_law 183 = .ok (.invokevirtual 17, 3) := by decide +kernel
theorem dL_law_186 : decode cL_law 186 = .ok (.if_icmp .eq 911, 3) := by decide +kernel
theorem dL_law_189 : decode cL_law 189 = .ok (.iconst 0, 1) := by decide +kernel
theorem dL_law_190 : decode cL_law 190 = .ok (.ireturn, 1) := by decide +kernel
theorem dL_law_191 : decode cL_law 191 = .ok (.aload_n 1, 1) := by decide +kernel
theorem dL_law_192 : decode cL_law 192 = .ok (.invokevirtual 18, 3) := by decide +kernel
theorem dL_law_195 : decode cL_law 195 = .ok (.aload_n 2, 1) := by decide +kernel
theorem dL_law_196 : decode cL_law 196 = .ok (.invokevirtual 22, 3) := by decide +kernel
theorem dL_law_199 : decode cL_law 199 = .ok (.if_icmp .eq 898, 3) := by decide +kernel
theorem dL_law_202 : decode cL_law 202 = .ok (.iconst 0, 1) := by decide +kernel
theorem dL_law_203 : decode cL_law 203 = .ok (.ireturn, 1) := by decide +kernel
theorem dL_law_204 : decode cL_law 204 = .ok (.aload_n 1, 1) := by decide +kernel
theorem dL_law_205 : decode cL_law 205 = .ok (.invokevirtual 23, 3) := by decide +kernel
theorem dL_law_208 : decode cL_law 208 = .ok (.aload_n 2, 1) := by decide +kernel
theorem dL_law_209 : decode cL_law 209 = .ok (.invokevirtual 26, 3) := by decide +kernel
theorem dL_law_212 : decode cL_law 212 = .ok (.if_icmp .eq 885, 3) := by decide +kernel
theorem dL_law_215 : decode cL_law 215 = .ok (.iconst 0, 1) := by decide +kernel
theorem dL_law_216 : decode cL_law 216 = .ok (.ireturn, 1) := by decide +kernel
theorem dL_law_217 : decode cL_law 217 = .ok (.aload_n 1, 1) := by decide +kernel
theorem dL_law_218 : decode cL_law 218 = .ok (.invokevirtual 27, 3) := by decide +kernel
theorem dL_law_221 : decode cL_law 221 = .ok (.aload_n 2, 1) := by decide +kernel
theorem dL_law_222 : decode cL_law 222 = .ok (.invokevirtual 30, 3) := by decide +kernel
theorem dL_law_225 : decode cL_law 225 = .ok (.if_icmp .eq 872, 3) := by decide +kernel
theorem dL_law_228 : decode cL_law 228 = .ok (.iconst 0, 1) := by decide +kernel
theorem dL_law_229 : decode cL_law 229 = .ok (.ireturn, 1) := by decide +kernel
theorem dL_law_230 : decode cL_law 230 = .ok (.aload_n 1, 1) := by decide +kernel
theorem dL_law_231 : decode cL_law 231 = .ok (.aload_n 0, 1) := by decide +kernel
theorem dL_law_232 : decode cL_law 232 = .ok (.iload_n 3, 1) := by decide +kernel
theorem dL_law_233 : decode cL_law 233 = .ok (.iconst 1, 1) := by decide +kernel
theorem dL_law_234 : decode cL_law 234 = .ok (.iadd, 1) := by decide +kernel
theorem dL_law_235 : decode cL_law 235 = .ok (.iaload, 1) := by decide +kernel
theorem dL_law_236 : decode cL_law 236 = .ok (.aload_n 0, 1) := by decide +kernel
theorem dL_law_237 : decode cL_law 237 = .ok (.iload_n 3, 1) := by decide +kernel
theorem dL_law_238 : decode cL_law 238 = .ok (.iconst 2, 1) := by decide +kernel
theorem dL_law_239 : decode cL_law 239 = .ok (.iadd, 1) := by decide +kernel
theorem dL_law_240 : decode cL_law 240 = .ok (.iaload, 1) := by decide +kernel
theorem dL_law_241 : decode cL_law 241 = .ok (.invokevirtual 31, 3) := by decide +kernel
theorem dL_law_244 : decode cL_law 244 = .ok (.aload_n 2, 1) := by decide +kernel
theorem dL_law_245 : decode cL_law 245 = .ok (.aload_n 0, 1) := by decide +kernel
theorem dL_law_246 : decode cL_law 246 = .ok (.iload_n 3, 1) := by decide +kernel
theorem dL_law_247 : decode cL_law 247 = .ok (.iconst 1, 1) := by decide +kernel
theorem dL_law_248 : decode cL_law 248 = .ok (.iadd, 1) := by decide +kernel
theorem dL_law_249 : decode cL_law 249 = .ok (.iaload, 1) := by decide +kernel
theorem dL_law_250 : decode cL_law 250 = .ok (.aload_n 0, 1) := by decide +kernel
theorem dL_law_251 : decode cL_law 251 = .ok (.iload_n 3, 1) := by decide +kernel
theorem dL_law_252 : decode cL_law 252 = .ok (.iconst 2, 1) := by decide +kernel
theorem dL_law_253 : decode cL_law 253 = .ok (.iadd, 1) := by decide +kernel
theorem dL_law_254 : decode cL_law 254 = .ok (.iaload, 1) := by decide +kernel
theorem dL_law_255 : decode cL_law 255 = .ok (.invokevirtual 35, 3) := by decide +kernel
theorem dL_law_258 : decode cL_law 258 = .ok (.if_icmp .eq 839, 3) := by decide +kernel
theorem dL_law_261 : decode cL_law 261 = .ok (.iconst 0, 1) := by decide +kernel
theorem dL_law_262 : decode cL_law 262 = .ok (.ireturn, 1) := by decide +kernel
theorem dL_law_263 : decode cL_law 263 = .ok (.aload_n 1, 1) := by decide +kernel
theorem dL_law_264 : decode cL_law 264 = .ok (.aload_n 0, 1) := by decide +kernel
theorem dL_law_265 : decode cL_law 265 = .ok (.iload_n 3, 1) := by decide +kernel
theorem dL_law_266 : decode cL_law 266 = .ok (.iconst 1, 1) := by decide +kernel
theorem dL_law_267 : decode cL_law 267 = .ok (.iadd, 1) := by decide +kernel
theorem dL_law_268 : decode cL_law 268 = .ok (.iaload, 1) := by decide +kernel
theorem dL_law_269 : decode cL_law 269 = .ok (.aload_n 0, 1) := by decide +kernel
theorem dL_law_270 : decode cL_law 270 = .ok (.iload_n 3, 1) := by decide +kernel
theorem dL_law_271 : decode cL_law 271 = .ok (.iconst 2, 1) := by decide +kernel
theorem dL_law_272 : decode cL_law 272 = .ok (.iadd, 1) := by decide +kernel
theorem dL_law_273 : decode cL_law 273 = .ok (.iaload, 1) := by decide +kernel
theorem dL_law_274 : decode cL_law 274 = .ok (.invokevirtual 36, 3) := by decide +kernel
theorem dL_law_277 : decode cL_law 277 = .ok (.aload_n 2, 1) := by decide +kernel
theorem dL_law_278 : decode cL_law 278 = .ok (.aload_n 0, 1) := by decide +kernel
theorem dL_law_279 : decode cL_law 279 = .ok (.iload_n 3, 1) := by decide +kernel
theorem dL_law_280 : decode cL_law 280 = .ok (.iconst 1, 1) := by decide +kernel
theorem dL_law_281 : decode cL_law 281 = .ok (.iadd, 1) := by decide +kernel
theorem dL_law_282 : decode cL_law 282 = .ok (.iaload, 1) := by decide +kernel
theorem dL_law_283 : decode cL_law 283 = .ok (.aload_n 0, 1) := by decide +kernel
theorem dL_law_284 : decode cL_law 284 = .ok (.iload_n 3, 1) := by decide +kernel
theorem dL_law_285 : decode cL_law 285 = .ok (.iconst 2, 1) := by decide +kernel
theorem dL_law_286 : decode cL_law 286 = .ok (.iadd, 1) := by decide +kernel
theorem dL_law_287 : decode cL_law 287 = .ok (.iaload, 1) := by decide +kernel
theorem dL_law_288 : decode cL_law 288 = .ok (.invokevirtual 39, 3) := by decide +kernel
theorem dL_law_291 : decode cL_law 291 = .ok (.if_icmp .eq 806, 3) := by decide +kernel
theorem dL_law_294 : decode cL_law 294 = .ok (.iconst 0, 1) := by decide +kernel
theorem dL_law_295 : decode cL_law 295 = .ok (.ireturn, 1) := by decide +kernel
theorem dL_law_296 : decode cL_law 296 = .ok (.aload_n 1, 1) := by decide +kernel
theorem dL_law_297 : decode cL_law 297 = .ok (.aload_n 0, 1) := by decide +kernel
theorem dL_law_298 : decode cL_law 298 = .ok (.iload_n 3, 1) := by decide +kernel
theorem dL_law_299 : decode cL_law 299 = .ok (.iconst 1, 1) := by decide +kernel
theorem dL_law_300 : decode cL_law 300 = .ok (.iadd, 1) := by decide +kernel
theorem dL_law_301 : decode cL_law 301 = .ok (.iaload, 1) := by decide +kernel
theorem dL_law_302 : decode cL_law 302 = .ok (.aload_n 0, 1) := by decide +kernel
theorem dL_law_303 : decode cL_law 303 = .ok (.iload_n 3, 1) := by decide +kernel
theorem dL_law_304 : decode cL_law 304 = .ok (.iconst 2, 1) := by decide +kernel
theorem dL_law_305 : decode cL_law 305 = .ok (.iadd, 1) := by decide +kernel
theorem dL_law_306 : decode cL_law 306 = .ok (.iaload, 1) := by decide +kernel
theorem dL_law_307 : decode cL_law 307 = .ok (.aload_n 0, 1) := by decide +kernel
theorem dL_law_308 : decode cL_law 308 = .ok (.iload_n 3, 1) := by decide +kernel
theorem dL_law_309 : decode cL_law 309 = .ok (.iconst 3, 1) := by decide +kernel
theorem dL_law_310 : decode cL_law 310 = .ok (.iadd, 1) := by decide +kernel
theorem dL_law_311 : decode cL_law 311 = .ok (.iaload, 1) := by decide +kernel
theorem dL_law_312 : decode cL_law 312 = .ok (.invokevirtual 40, 3) := by decide +kernel
theorem dL_law_315 : decode cL_law 315 = .ok (.aload_n 2, 1) := by decide +kernel
theorem dL_law_316 : decode cL_law 316 = .ok (.aload_n 0, 1) := by decide +kernel
theorem dL_law_317 : decode cL_law 317 = .ok (.iload_n 3, 1) := by decide +kernel
theorem dL_law_318 : decode cL_law 318 = .ok (.iconst 1, 1) := by decide +kernel
theorem dL_law_319 : decode cL_law 319 = .ok (.iadd, 1) := by decide +kernel
theorem dL_law_320 : decode cL_law 320 = .ok (.iaload, 1) := by decide +kernel
theorem dL_law_321 : decode cL_law 321 = .ok (.aload_n 0, 1) := by decide +kernel
theorem dL_law_322 : decode cL_law 322 = .ok (.iload_n 3, 1) := by decide +kernel
theorem dL_law_323 : decode cL_law 323 = .ok (.iconst 2, 1) := by decide +kernel
theorem dL_law_324 : decode cL_law 324 = .ok (.iadd, 1) := by decide +kernel
theorem dL_law_325 : decode cL_law 325 = .ok (.iaload, 1) := by decide +kernel
theorem dL_law_326 : decode cL_law 326 = .ok (.aload_n 0, 1) := by decide +kernel
theorem dL_law_327 : decode cL_law 327 = .ok (.iload_n 3, 1) := by decide +kernel
theorem dL_law_328 : decode cL_law 328 = .ok (.iconst 3, 1) := by decide +kernel
theorem dL_law_329 : decode cL_law 329 = .ok (.iadd, 1) := by decide +kernel
theorem dL_law_330 : decode cL_law 330 = .ok (.iaload, 1) := by decide +kernel
theorem dL_law_331 : decode cL_law 331 = .ok (.invokevirtual 44, 3) := by decide +kernel
theorem dL_law_334 : decode cL_law 334 = .ok (.if_icmp .eq 763, 3) := by decide +kernel
theorem dL_law_337 : decode cL_law 337 = .ok (.iconst 0, 1) := by decide +kernel
theorem dL_law_338 : decode cL_law 338 = .ok (.ireturn, 1) := by decide +kernel
theorem dL_law_339 : decode cL_law 339 = .ok (.aload_n 1, 1) := by decide +kernel
theorem dL_law_340 : decode cL_law 340 = .ok (.aload_n 0, 1) := by decide +kernel
theorem dL_law_341 : decode cL_law 341 = .ok (.iload_n 3, 1) := by decide +kernel
theorem dL_law_342 : decode cL_law 342 = .ok (.iconst 1, 1) := by decide +kernel
theorem dL_law_343 : decode cL_law 343 = .ok (.iadd, 1) := by decide +kernel
theorem dL_law_344 : decode cL_law 344 = .ok (.iaload, 1) := by decide +kernel
theorem dL_law_345 : decode cL_law 345 = .ok (.invokevirtual 45, 3) := by decide +kernel
theorem dL_law_348 : decode cL_law 348 = .ok (.aload_n 2, 1) := by decide +kernel
theorem dL_law_349 : decode cL_law 349 = .ok (.aload_n 0, 1) := by decide +kernel
theorem dL_law_350 : decode cL_law 350 = .ok (.iload_n 3, 1) := by decide +kernel
theorem dL_law_351 : decode cL_law 351 = .ok (.iconst 1, 1) := by decide +kernel
theorem dL_law_352 : decode cL_law 352 = .ok (.iadd, 1) := by decide +kernel
theorem dL_law_353 : decode cL_law 353 = .ok (.iaload, 1) := by decide +kernel
theorem dL_law_354 : decode cL_law 354 = .ok (.invokevirtual 48, 3) := by decide +kernel
theorem dL_law_357 : decode cL_law 357 = .ok (.if_icmp .eq 740, 3) := by decide +kernel
theorem dL_law_360 : decode cL_law 360 = .ok (.iconst 0, 1) := by decide +kernel
theorem dL_law_361 : decode cL_law 361 = .ok (.ireturn, 1) := by decide +kernel
theorem dL_law_362 : decode cL_law 362 = .ok (.aload_n 1, 1) := by decide +kernel
theorem dL_law_363 : decode cL_law 363 = .ok (.aload_n 0, 1) := by decide +kernel
theorem dL_law_364 : decode cL_law 364 = .ok (.iload_n 3, 1) := by decide +kernel
theorem dL_law_365 : decode cL_law 365 = .ok (.iconst 1, 1) := by decide +kernel
theorem dL_law_366 : decode cL_law 366 = .ok (.iadd, 1) := by decide +kernel
theorem dL_law_367 : decode cL_law 367 = .ok (.iaload, 1) := by decide +kernel
theorem dL_law_368 : decode cL_law 368 = .ok (.invokevirtual 49, 3) := by decide +kernel
theorem dL_law_371 : decode cL_law 371 = .ok (.aload_n 2, 1) := by decide +kernel
theorem dL_law_372 : decode cL_law 372 = .ok (.aload_n 0, 1) := by decide +kernel
theorem dL_law_373 : decode cL_law 373 = .ok (.iload_n 3, 1) := by decide +kernel
theorem dL_law_374 : decode cL_law 374 = .ok (.iconst 1, 1) := by decide +kernel
theorem dL_law_375 : decode cL_law 375 = .ok (.iadd, 1) := by decide +kernel
theorem dL_law_376 : decode cL_law 376 = .ok (.iaload, 1) := by decide +kernel
theorem dL_law_377 : decode cL_law 377 = .ok (.invokevirtual 52, 3) := by decide +kernel
theorem dL_law_380 : decode cL_law 380 = .ok (.if_icmp .eq 717, 3) := by decide +kernel
theorem dL_law_383 : decode cL_law 383 = .ok (.iconst 0, 1) := by decide +kernel
theorem dL_law_384 : decode cL_law 384 = .ok (.ireturn, 1) := by decide +kernel
end
section
theorem dL_law_385 : decode cL_law 385 = .ok (.aload_n 1, 1) := by decide +kernel
theorem dL_law_386 : decode cL_law 386 = .ok (.aload_n 0, 1) := by decide +kernel
theorem dL_law_387 : decode cL_law 387 = .ok (.iload_n 3, 1) := by decide +kernel
theorem dL_law_388 : decode cL_law 388 = .ok (.iconst 1, 1) := by decide +kernel
theorem dL_law_389 : decode cL_law 389 = .ok (.iadd, 1) := by decide +kernel
theorem dL_law_390 : decode cL_law 390 = .ok (.iaload, 1) := by decide +kernel
theorem dL_law_391 : decode cL_law 391 = .ok (.aload_n 0, 1) := by decide +kernel
theorem dL_law_392 : decode cL_law 392 = .ok (.iload_n 3, 1) := by decide +kernel
theorem dL_law_393 : decode cL_law 393 = .ok (.iconst 2, 1) := by decide +kernel
theorem dL_law_394 : decode cL_law 394 = .ok (.iadd, 1) := by decide +kernel
theorem dL_law_395 : decode cL_law 395 = .ok (.iaload, 1) := by decide +kernel
theorem dL_law_396 : decode cL_law 396 = .ok (.invokevirtual 53, 3) := by decide +kernel
theorem dL_law_399 : decode cL_law 399 = .ok (.aload_n 2, 1) := by decide +kernel
theorem dL_law_400 : decode cL_law 400 = .ok (.aload_n 0, 1) := by decide +kernel
theorem dL_law_401 : decode cL_law 401 = .ok (.iload_n 3, 1) := by decide +kernel
theorem dL_law_402 : decode cL_law 402 = .ok (.iconst 1, 1) := by decide +kernel
theorem dL_law_403 : decode cL_law 403 = .ok (.iadd, 1) := by decide +kernel
theorem dL_law_404 : decode cL_law 404 = .ok (.iaload, 1) := by decide +kernel
theorem dL_law_405 : decode cL_law 405 = .ok (.aload_n 0, 1) := by decide +kernel
theorem dL_law_406 : decode cL_law 406 = .ok (.iload_n 3, 1) := by decide +kernel
theorem dL_law_407 : decode cL_law 407 = .ok (.iconst 2, 1) := by decide +kernel
theorem dL_law_408 : decode cL_law 408 = .ok (.iadd, 1) := by decide +kernel
theorem dL_law_409 : decode cL_law 409 = .ok (.iaload, 1) := by decide +kernel
theorem dL_law_410 : decode cL_law 410 = .ok (.invokevirtual 56, 3) := by decide +kernel
theorem dL_law_413 : decode cL_law 413 = .ok (.if_icmp .eq 684, 3) := by decide +kernel
theorem dL_law_416 : decode cL_law 416 = .ok (.iconst 0, 1) := by decide +kernel
theorem dL_law_417 : decode cL_law 417 = .ok (.ireturn, 1) := by decide +kernel
theorem dL_law_418 : decode cL_law 418 = .ok (.aload_n 1, 1) := by decide +kernel
theorem dL_law_419 : decode cL_law 419 = .ok (.invokevirtual 57, 3) := by decide +kernel
theorem dL_law_422 : decode cL_law 422 = .ok (.aload_n 2, 1) := by decide +kernel
theorem dL_law_423 : decode cL_law 423 = .ok (.invokevirtual 60, 3) := by decide +kernel
theorem dL_law_426 : decode cL_law 426 = .ok (.if_icmp .eq 671, 3) := by decide +kernel
theorem dL_law_429 : decode cL_law 429 = .ok (.iconst 0, 1) := by decide +kernel
theorem dL_law_430 : decode cL_law 430 = .ok (.ireturn, 1) := by decide +kernel
theorem dL_law_431 : decode cL_law 431 = .ok (.aload_n 1, 1) := by decide +kernel
theorem dL_law_432 : decode cL_law 432 = .ok (.aload_n 0, 1) := by decide +kernel
theorem dL_law_433 : decode cL_law 433 = .ok (.iload_n 3, 1) := by decide +kernel
theorem dL_law_434 : decode cL_law 434 = .ok (.iconst 1, 1) := by decide +kernel
theorem dL_law_435 : decode cL_law 435 = .ok (.iadd, 1) := by decide +kernel
theorem dL_law_436 : decode cL_law 436 = .ok (.iaload, 1) := by decide +kernel
theorem dL_law_437 : decode cL_law 437 = .ok (.aload_n 0, 1) := by decide +kernel
theorem dL_law_438 : decode cL_law 438 = .ok (.iload_n 3, 1) := by decide +kernel
theorem dL_law_439 : decode cL_law 439 = .ok (.iconst 2, 1) := by decide +kernel
theorem dL_law_440 : decode cL_law 440 = .ok (.iadd, 1) := by decide +kernel
theorem dL_law_441 : decode cL_law 441 = .ok (.iaload, 1) := by decide +kernel
theorem dL_law_442 : decode cL_law 442 = .ok (.aload_n 0, 1) := by decide +kernel
theorem dL_law_443 : decode cL_law 443 = .ok (.iload_n 3, 1) := by decide +kernel
theorem dL_law_444 : decode cL_law 444 = .ok (.iconst 3, 1) := by decide +kernel
theorem dL_law_445 : decode cL_law 445 = .ok (.iadd, 1) := by decide +kernel
theorem dL_law_446 : decode cL_law 446 = .ok (.iaload, 1) := by decide +kernel
theorem dL_law_447 : decode cL_law 447 = .ok (.aload_n 0, 1) := by decide +kernel
theorem dL_law_448 : decode cL_law 448 = .ok (.iload_n 3, 1) := by decide +kernel
theorem dL_law_449 : decode cL_law 449 = .ok (.iconst 4, 1) := by decide +kernel
theorem dL_law_450 : decode cL_law 450 = .ok (.iadd, 1) := by decide +kernel
theorem dL_law_451 : decode cL_law 451 = .ok (.iaload, 1) := by decide +kernel
theorem dL_law_452 : decode cL_law 452 = .ok (.invokevirtual 61, 3) := by decide +kernel
theorem dL_law_455 : decode cL_law 455 = .ok (.aload_n 2, 1) := by decide +kernel
theorem dL_law_456 : decode cL_law 456 = .ok (.aload_n 0, 1) := by decide +kernel
theorem dL_law_457 : decode cL_law 457 = .ok (.iload_n 3, 1) := by decide +kernel
theorem dL_law_458 : decode cL_law 458 = .ok (.iconst 1, 1) := by decide +kernel
theorem dL_law_459 : decode cL_law 459 = .ok (.iadd, 1) := by decide +kernel
theorem dL_law_460 : decode cL_law 460 = .ok (.iaload, 1) := by decide +kernel
theorem dL_law_461 : decode cL_law 461 = .ok (.aload_n 0, 1) := by decide +kernel
theorem dL_law_462 : decode cL_law 462 = .ok (.iload_n 3, 1) := by decide +kernel
theorem dL_law_463 : decode cL_law 463 = .ok (.iconst 2, 1) := by decide +kernel
theorem dL_law_464 : decode cL_law 464 = .ok (.iadd, 1) := by decide +kernel
theorem dL_law_465 : decode cL_law 465 = .ok (.iaload, 1) := by decide +kernel
theorem dL_law_466 : decode cL_law 466 = .ok (.aload_n 0, 1) := by decide +kernel
theorem dL_law_467 : decode cL_law 467 = .ok (.iload_n 3, 1) := by decide +kernel
theorem dL_law_468 : decode cL_law 468 = .ok (.iconst 3, 1) := by decide +kernel
theorem dL_law_469 : decode cL_law 469 = .ok (.iadd, 1) := by decide +kernel
theorem dL_law_470 : decode cL_law 470 = .ok (.iaload, 1) := by decide +kernel
theorem dL_law_471 : decode cL_law 471 = .ok (.aload_n 0, 1) := by decide +kernel
theorem dL_law_472 : decode cL_law 472 = .ok (.iload_n 3, 1) := by decide +kernel
theorem dL_law_473 : decode cL_law 473 = .ok (.iconst 4, 1) := by decide +kernel
theorem dL_law_474 : decode cL_law 474 = .ok (.iadd, 1) := by decide +kernel
theorem dL_law_475 : decode cL_law 475 = .ok (.iaload, 1) := by decide +kernel
theorem dL_law_476 : decode cL_law 476 = .ok (.invokevirtual 65, 3) := by decide +kernel
theorem dL_law_479 : decode cL_law 479 = .ok (.if_icmp .eq 618, 3) := by decide +kernel
theorem dL_law_482 : decode cL_law 482 = .ok (.iconst 0, 1) := by decide +kernel
theorem dL_law_483 : decode cL_law 483 = .ok (.ireturn, 1) := by decide +kernel
theorem dL_law_484 : decode cL_law 484 = .ok (.aload_n 1, 1) := by decide +kernel
theorem dL_law_485 : decode cL_law 485 = .ok (.aload_n 0, 1) := by decide +kernel
theorem dL_law_486 : decode cL_law 486 = .ok (.iload_n 3, 1) := by decide +kernel
theorem dL_law_487 : decode cL_law 487 = .ok (.iconst 1, 1) := by decide +kernel
theorem dL_law_488 : decode cL_law 488 = .ok (.iadd, 1) := by decide +kernel
theorem dL_law_489 : decode cL_law 489 = .ok (.iaload, 1) := by decide +kernel
theorem dL_law_490 : decode cL_law 490 = .ok (.invokevirtual 66, 3) := by decide +kernel
theorem dL_law_493 : decode cL_law 493 = .ok (.aload_n 2, 1) := by decide +kernel
theorem dL_law_494 : decode cL_law 494 = .ok (.aload_n 0, 1) := by decide +kernel
theorem dL_law_495 : decode cL_law 495 = .ok (.iload_n 3, 1) := by decide +kernel
theorem dL_law_496 : decode cL_law 496 = .ok (.iconst 1, 1) := by decide +kernel
theorem dL_law_497 : decode cL_law 497 = .ok (.iadd, 1) := by decide +kernel
theorem dL_law_498 : decode cL_law 498 = .ok (.iaload, 1) := by decide +kernel
theorem dL_law_499 : decode cL_law 499 = .ok (.invokevirtual 69, 3) := by decide +kernel
theorem dL_law_502 : decode cL_law 502 = .ok (.if_icmp .eq 595, 3) := by decide +kernel
theorem dL_law_505 : decode cL_law 505 = .ok (.iconst 0, 1) := by decide +kernel
theorem dL_law_506 : decode cL_law 506 = .ok (.ireturn, 1) := by decide +kernel
theorem dL_law_507 : decode cL_law 507 = .ok (.aload_n 1, 1) := by decide +kernel
theorem dL_law_508 : decode cL_law 508 = .ok (.invokevirtual 70, 3) := by decide +kernel
theorem dL_law_511 : decode cL_law 511 = .ok (.aload_n 2, 1) := by decide +kernel
theorem dL_law_512 : decode cL_law 512 = .ok (.invokevirtual 73, 3) := by decide +kernel
theorem dL_law_515 : decode cL_law 515 = .ok (.if_icmp .eq 582, 3) := by decide +kernel
theorem dL_law_518 : decode cL_law 518 = .ok (.iconst 0, 1) := by decide +kernel
theorem dL_law_519 : decode cL_law 519 = .ok (.ireturn, 1) := by decide +kernel
theorem dL_law_520 : decode cL_law 520 = .ok (.aload_n 1, 1) := by decide +kernel
theorem dL_law_521 : decode cL_law 521 = .ok (.aload_n 0, 1) := by decide +kernel
theorem dL_law_522 : decode cL_law 522 = .ok (.iload_n 3, 1) := by decide +kernel
theorem dL_law_523 : decode cL_law 523 = .ok (.iconst 1, 1) := by decide +kernel
theorem dL_law_524 : decode cL_law 524 = .ok (.iadd, 1) := by decide +kernel
theorem dL_law_525 : decode cL_law 525 = .ok (.iaload, 1) := by decide +kernel
theorem dL_law_526 : decode cL_law 526 = .ok (.aload_n 0, 1) := by decide +kernel
theorem dL_law_527 : decode cL_law 527 = .ok (.iload_n 3, 1) := by decide +kernel
theorem dL_law_528 : decode cL_law 528 = .ok (.iconst 2, 1) := by decide +kernel
theorem dL_law_529 : decode cL_law 529 = .ok (.iadd, 1) := by decide +kernel
theorem dL_law_530 : decode cL_law 530 = .ok (.iaload, 1) := by decide +kernel
theorem dL_law_531 : decode cL_law 531 = .ok (.invokevirtual 74, 3) := by decide +kernel
theorem dL_law_534 : decode cL_law 534 = .ok (.aload_n 2, 1) := by decide +kernel
theorem dL_law_535 : decode cL_law 535 = .ok (.aload_n 0, 1) := by decide +kernel
theorem dL_law_536 : decode cL_law 536 = .ok (.iload_n 3, 1) := by decide +kernel
theorem dL_law_537 : decode cL_law 537 = .ok (.iconst 1, 1) := by decide +kernel
theorem dL_law_538 : decode cL_law 538 = .ok (.iadd, 1) := by decide +kernel
theorem dL_law_539 : decode cL_law 539 = .ok (.iaload, 1) := by decide +kernel
theorem dL_law_540 : decode cL_law 540 = .ok (.aload_n 0, 1) := by decide +kernel
theorem dL_law_541 : decode cL_law 541 = .ok (.iload_n 3, 1) := by decide +kernel
theorem dL_law_542 : decode cL_law 542 = .ok (.iconst 2, 1) := by decide +kernel
theorem dL_law_543 : decode cL_law 543 = .ok (.iadd, 1) := by decide +kernel
theorem dL_law_544 : decode cL_law 544 = .ok (.iaload, 1) := by decide +kernel
theorem dL_law_545 : decode cL_law 545 = .ok (.invokevirtual 77, 3) := by decide +kernel
theorem dL_law_548 : decode cL_law 548 = .ok (.if_icmp .eq 549, 3) := by decide +kernel
theorem dL_law_551 : decode cL_law 551 = .ok (.iconst 0, 1) := by decide +kernel
theorem dL_law_552 : decode cL_law 552 = .ok (.ireturn, 1) := by decide +kernel
theorem dL_law_553 : decode cL_law 553 = .ok (.aload_n 1, 1) := by decide +kernel
theorem dL_law_554 : decode cL_law 554 = .ok (.aload_n 0, 1) := by decide +kernel
theorem dL_law_555 : decode cL_law 555 = .ok (.iload_n 3, 1) := by decide +kernel
theorem dL_law_556 : decode cL_law 556 = .ok (.iconst 1, 1) := by decide +kernel
theorem dL_law_557 : decode cL_law 557 = .ok (.iadd, 1) := by decide +kernel
theorem dL_law_558 : decode cL_law 558 = .ok (.iaload, 1) := by decide +kernel
theorem dL_law_559 : decode cL_law 559 = .ok (.aload_n 0, 1) := by decide +kernel
theorem dL_law_560 : decode cL_law 560 = .ok (.iload_n 3, 1) := by decide +kernel
theorem dL_law_561 : decode cL_law 561 = .ok (.iconst 2, 1) := by decide +kernel
theorem dL_law_562 : decode cL_law 562 = .ok (.iadd, 1) := by decide +kernel
theorem dL_law_563 : decode cL_law 563 = .ok (.iaload, 1) := by decide +kernel
theorem dL_law_564 : decode cL_law 564 = .ok (.invokevirtual 78, 3) := by decide +kernel
theorem dL_law_567 : decode cL_law 567 = .ok (.aload_n 2, 1) := by decide +kernel
theorem dL_law_568 : decode cL_law 568 = .ok (.aload_n 0, 1) := by decide +kernel
theorem dL_law_569 : decode cL_law 569 = .ok (.iload_n 3, 1) := by decide +kernel
theorem dL_law_570 : decode cL_law 570 = .ok (.iconst 1, 1) := by decide +kernel
theorem dL_law_571 : decode cL_law 571 = .ok (.iadd, 1) := by decide +kernel
theorem dL_law_572 : decode cL_law 572 = .ok (.iaload, 1) := by decide +kernel
theorem dL_law_573 : decode cL_law 573 = .ok (.aload_n 0, 1) := by decide +kernel
theorem dL_law_574 : decode cL_law 574 = .ok (.iload_n 3, 1) := by decide +kernel
theorem dL_law_575 : decode cL_law 575 = .ok (.iconst 2, 1) := by decide +kernel
theorem dL_law_576 : decode cL_law 576 = .ok (.iadd, 1) := by decide +kernel
theorem dL_law_577 : decode cL_law 577 = .ok (.iaload, 1) := by decide +kernel
theorem dL_law_578 : decode cL_law 578 = .ok (.invokevirtual 81, 3) := by decide +kernel
theorem dL_law_581 : decode cL_law 581 = .ok (.if_icmp .eq 516, 3) := by decide +kernel
theorem dL_law_584 : decode cL_law 584 = .ok (.iconst 0, 1) := by decide +kernel
theorem dL_law_585 : decode cL_law 585 = .ok (.ireturn, 1) := by decide +kernel
theorem dL_law_586 : decode cL_law 586 = .ok (.aload_n 1, 1) := by decide +kernel
theorem dL_law_587 : decode cL_law 587 = .ok (.aload_n 0, 1) := by decide +kernel
theorem dL_law_588 : decode cL_law 588 = .ok (.iload_n 3, 1) := by decide +kernel
theorem dL_law_589 : decode cL_law 589 = .ok (.iconst 1, 1) := by decide +kernel
theorem dL_law_590 : decode cL_law 590 = .ok (.iadd, 1) := by decide +kernel
theorem dL_law_591 : decode cL_law 591 = .ok (.iaload, 1) := by decide +kernel
theorem dL_law_592 : decode cL_law 592 = .ok (.invokevirtual 82, 3) := by decide +kernel
theorem dL_law_595 : decode cL_law 595 = .ok (.aload_n 2, 1) := by decide +kernel
theorem dL_law_596 : decode cL_law 596 = .ok (.aload_n 0, 1) := by decide +kernel
theorem dL_law_597 : decode cL_law 597 = .ok (.iload_n 3, 1) := by decide +kernel
theorem dL_law_598 : decode cL_law 598 = .ok (.iconst 1, 1) := by decide +kernel
theorem dL_law_599 : decode cL_law 599 = .ok (.iadd, 1) := by decide +kernel
theorem dL_law_600 : decode cL_law 600 = .ok (.iaload, 1) := by decide +kernel
theorem dL_law_601 : decode cL_law 601 = .ok (.invokevirtual 85, 3) := by decide +kernel
theorem dL_law_604 : decode cL_law 604 = .ok (.if_icmp .eq 493, 3) := by decide +kernel
theorem dL_law_607 : decode cL_law 607 = .ok (.iconst 0, 1) := by decide +kernel
theorem dL_law_608 : decode cL_law 608 = .ok (.ireturn, 1) := by decide +kernel
theorem dL_law_609 : decode cL_law 609 = .ok (.aload_n 1, 1) := by decide +kernel
theorem dL_law_610 : decode cL_law 610 = .ok (.aload_n 0, 1) := by decide +kernel
theorem dL_law_611 : decode cL_law 611 = .ok (.iload_n 3, 1) := by decide +kernel
theorem dL_law_612 : decode cL_law 612 = .ok (.iconst 1, 1) := by decide +kernel
theorem dL_law_613 : decode cL_law 613 = .ok (.iadd, 1) := by decide +kernel
theorem dL_law_614 : decode cL_law 614 = .ok (.iaload, 1) := by decide +kernel
theorem dL_law_615 : decode cL_law 615 = .ok (.invokevirtual 86, 3) := by decide +kernel
theorem dL_law_618 : decode cL_law 618 = .ok (.aload_n 2, 1) := by decide +kernel
theorem dL_law_619 : decode cL_law 619 = .ok (.aload_n 0, 1) := by decide +kernel
end
section
theorem dL_law_620 : decode cL_law 620 = .ok (.iload_n 3, 1) := by decide +kernel
theorem dL_law_621 : decode cL_law 621 = .ok (.iconst 1, 1) := by decide +kernel
theorem dL_law_622 : decode cL_law 622 = .ok (.iadd, 1) := by decide +kernel
theorem dL_law_623 : decode cL_law 623 = .ok (.iaload, 1) := by decide +kernel
theorem dL_law_624 : decode cL_law 624 = .ok (.invokevirtual 89, 3) := by decide +kernel
theorem dL_law_627 : decode cL_law 627 = .ok (.if_icmp .eq 470, 3) := by decide +kernel
theorem dL_law_630 : decode cL_law 630 = .ok (.iconst 0, 1) := by decide +kernel
theorem dL_law_631 : decode cL_law 631 = .ok (.ireturn, 1) := by decide +kernel
theorem dL_law_632 : decode cL_law 632 = .ok (.aload_n 1, 1) := by decide +kernel
theorem dL_law_633 : decode cL_law 633 = .ok (.aload_n 0, 1) := by decide +kernel
theorem dL_law_634 : decode cL_law 634 = .ok (.iload_n 3, 1) := by decide +kernel
theorem dL_law_635 : decode cL_law 635 = .ok (.iconst 1, 1) := by decide +kernel
theorem dL_law_636 : decode cL_law 636 = .ok (.iadd, 1) := by decide +kernel
theorem dL_law_637 : decode cL_law 637 = .ok (.iaload, 1) := by decide +kernel
theorem dL_law_638 : decode cL_law 638 = .ok (.aload_n 0, 1) := by decide +kernel
theorem dL_law_639 : decode cL_law 639 = .ok (.iload_n 3, 1) := by decide +kernel
theorem dL_law_640 : decode cL_law 640 = .ok (.iconst 2, 1) := by decide +kernel
theorem dL_law_641 : decode cL_law 641 = .ok (.iadd, 1) := by decide +kernel
theorem dL_law_642 : decode cL_law 642 = .ok (.iaload, 1) := by decide +kernel
theorem dL_law_643 : decode cL_law 643 = .ok (.i2l, 1) := by decide +kernel
theorem dL_law_644 : decode cL_law 644 = .ok (.bipush 32, 2) := by decide +kernel
theorem dL_law_646 : decode cL_law 646 = .ok (.lshl, 1) := by decide +kernel
theorem dL_law_647 : decode cL_law 647 = .ok (.aload_n 0, 1) := by decide +kernel
theorem dL_law_648 : decode cL_law 648 = .ok (.iload_n 3, 1) := by decide +kernel
theorem dL_law_649 : decode cL_law 649 = .ok (.iconst 3, 1) := by decide +kernel
theorem dL_law_650 : decode cL_law 650 = .ok (.iadd, 1) := by decide +kernel
theorem dL_law_651 : decode cL_law 651 = .ok (.iaload, 1) := by decide +kernel
theorem dL_law_652 : decode cL_law 652 = .ok (.i2l, 1) := by decide +kernel
theorem dL_law_653 : decode cL_law 653 = .ok (.ldc2_w 90, 3) := by decide +kernel
theorem dL_law_656 : decode cL_law 656 = .ok (.land, 1) := by decide +kernel
theorem dL_law_657 : decode cL_law 657 = .ok (.lor, 1) := by decide +kernel
theorem dL_law_658 : decode cL_law 658 = .ok (.invokevirtual 92, 3) := by decide +kernel
theorem dL_law_661 : decode cL_law 661 = .ok (.aload_n 2, 1) := by decide +kernel
theorem dL_law_662 : decode cL_law 662 = .ok (.aload_n 0, 1) := by decide +kernel
theorem dL_law_663 : decode cL_law 663 = .ok (.iload_n 3, 1) := by decide +kernel
theorem dL_law_664 : decode cL_law 664 = .ok (.iconst 1, 1) := by decide +kernel
theorem dL_law_665 : decode cL_law 665 = .ok (.iadd, 1) := by decide +kernel
theorem dL_law_666 : decode cL_law 666 = .ok (.iaload, 1) := by decide +kernel
theorem dL_law_667 : decode cL_law 667 = .ok (.aload_n 0, 1) := by decide +kernel
theorem dL_law_668 : decode cL_law 668 = .ok (.iload_n 3, 1) := by decide +kernel
theorem dL_law_669 : decode cL_law 669 = .ok (.iconst 2, 1) := by decide +kernel
theorem dL_law_670 : decode cL_law 670 = .ok (.iadd, 1) := by decide +kernel
theorem dL_law_671 : decode cL_law 671 = .ok (.iaload, 1) := by decide +kernel
theorem dL_law_672 : decode cL_law 672 = .ok (.i2l, 1) := by decide +kernel
theorem dL_law_673 : decode cL_law 673 = .ok (.bipush 32, 2) := by decide +kernel
theorem dL_law_675 : decode cL_law 675 = .ok (.lshl, 1) := by decide +kernel
theorem dL_law_676 : decode cL_law 676 = .ok (.aload_n 0, 1) := by decide +kernel
theorem dL_law_677 : decode cL_law 677 = .ok (.iload_n 3, 1) := by decide +kernel
theorem dL_law_678 : decode cL_law 678 = .ok (.iconst 3, 1) := by decide +kernel
theorem dL_law_679 : decode cL_law 679 = .ok (.iadd, 1) := by decide +kernel
theorem dL_law_680 : decode cL_law 680 = .ok (.iaload, 1) := by decide +kernel
theorem dL_law_681 : decode cL_law 681 = .ok (.i2l, 1) := by decide +kernel
theorem dL_law_682 : decode cL_law 682 = .ok (.ldc2_w 90, 3) := by decide +kernel
theorem dL_law_685 : decode cL_law 685 = .ok (.land, 1) := by decide +kernel
theorem dL_law_686 : decode cL_law 686 = .ok (.lor, 1) := by decide +kernel
theorem dL_law_687 : decode cL_law 687 = .ok (.invokevirtual 96, 3) := by decide +kernel
theorem dL_law_690 : decode cL_law 690 = .ok (.if_icmp .eq 407, 3) := by decide +kernel
theorem dL_law_693 : decode cL_law 693 = .ok (.iconst 0, 1) := by decide +kernel
theorem dL_law_694 : decode cL_law 694 = .ok (.ireturn, 1) := by decide +kernel
theorem dL_law_695 : decode cL_law 695 = .ok (.aload_n 1, 1) := by decide +kernel
theorem dL_law_696 : decode cL_law 696 = .ok (.aload_n 0, 1) := by decide +kernel
theorem dL_law_697 : decode cL_law 697 = .ok (.iload_n 3, 1) := by decide +kernel
theorem dL_law_698 : decode cL_law 698 = .ok (.iconst 1, 1) := by decide +kernel
theorem dL_law_699 : decode cL_law 699 = .ok (.iadd, 1) := by decide +kernel
theorem dL_law_700 : decode cL_law 700 = .ok (.iaload, 1) := by decide +kernel
theorem dL_law_701 : decode cL_law 701 = .ok (.aload_n 0, 1) := by decide +kernel
theorem dL_law_702 : decode cL_law 702 = .ok (.iload_n 3, 1) := by decide +kernel
theorem dL_law_703 : decode cL_law 703 = .ok (.iconst 2, 1) := by decide +kernel
theorem dL_law_704 : decode cL_law 704 = .ok (.iadd, 1) := by decide +kernel
theorem dL_law_705 : decode cL_law 705 = .ok (.iaload, 1) := by decide +kernel
theorem dL_law_706 : decode cL_law 706 = .ok (.aload_n 0, 1) := by decide +kernel
theorem dL_law_707 : decode cL_law 707 = .ok (.iload_n 3, 1) := by decide +kernel
theorem dL_law_708 : decode cL_law 708 = .ok (.iconst 3, 1) := by decide +kernel
theorem dL_law_709 : decode cL_law 709 = .ok (.iadd, 1) := by decide +kernel
theorem dL_law_710 : decode cL_law 710 = .ok (.iaload, 1) := by decide +kernel
theorem dL_law_711 : decode cL_law 711 = .ok (.invokevirtual 97, 3) := by decide +kernel
theorem dL_law_714 : decode cL_law 714 = .ok (.aload_n 2, 1) := by decide +kernel
theorem dL_law_715 : decode cL_law 715 = .ok (.aload_n 0, 1) := by decide +kernel
theorem dL_law_716 : decode cL_law 716 = .ok (.iload_n 3, 1) := by decide +kernel
theorem dL_law_717 : decode cL_law 717 = .ok (.iconst 1, 1) := by decide +kernel
theorem dL_law_718 : decode cL_law 718 = .ok (.iadd, 1) := by decide +kernel
theorem dL_law_719 : decode cL_law 719 = .ok (.iaload, 1) := by decide +kernel
theorem dL_law_720 : decode cL_law 720 = .ok (.aload_n 0, 1) := by decide +kernel
theorem dL_law_721 : decode cL_law 721 = .ok (.iload_n 3, 1) := by decide +kernel
theorem dL_law_722 : decode cL_law 722 = .ok (.iconst 2, 1) := by decide +kernel
theorem dL_law_723 : decode cL_law 723 = .ok (.iadd, 1) := by decide +kernel
theorem dL_law_724 : decode cL_law 724 = .ok (.iaload, 1) := by decide +kernel
theorem dL_law_725 : decode cL_law 725 = .ok (.aload_n 0, 1) := by decide +kernel
theorem dL_law_726 : decode cL_law 726 = .ok (.iload_n 3, 1) := by decide +kernel
theorem dL_law_727 : decode cL_law 727 = .ok (.iconst 3, 1) := by decide +kernel
theorem dL_law_728 : decode cL_law 728 = .ok (.iadd, 1) := by decide +kernel
theorem dL_law_729 : decode cL_law 729 = .ok (.iaload, 1) := by decide +kernel
theorem dL_law_730 : decode cL_law 730 = .ok (.invokevirtual 100, 3) := by decide +kernel
theorem dL_law_733 : decode cL_law 733 = .ok (.if_icmp .eq 364, 3) := by decide +kernel
theorem dL_law_736 : decode cL_law 736 = .ok (.iconst 0, 1) := by decide +kernel
theorem dL_law_737 : decode cL_law 737 = .ok (.ireturn, 1) := by decide +kernel
theorem dL_law_738 : decode cL_law 738 = .ok (.aload_n 1, 1) := by decide +kernel
theorem dL_law_739 : decode cL_law 739 = .ok (.invokevirtual 101, 3) := by decide +kernel
theorem dL_law_742 : decode cL_law 742 = .ok (.aload_n 2, 1) := by decide +kernel
theorem dL_law_743 : decode cL_law 743 = .ok (.invokevirtual 104, 3) := by decide +kernel
theorem dL_law_746 : decode cL_law 746 = .ok (.if_icmp .eq 351, 3) := by decide +kernel
theorem dL_law_749 : decode cL_law 749 = .ok (.iconst 0, 1) := by decide +kernel
theorem dL_law_750 : decode cL_law 750 = .ok (.ireturn, 1) := by decide +kernel
theorem dL_law_751 : decode cL_law 751 = .ok (.aload_n 1, 1) := by decide +kernel
theorem dL_law_752 : decode cL_law 752 = .ok (.aload_n 0, 1) := by decide +kernel
theorem dL_law_753 : decode cL_law 753 = .ok (.iload_n 3, 1) := by decide +kernel
theorem dL_law_754 : decode cL_law 754 = .ok (.iconst 1, 1) := by decide +kernel
theorem dL_law_755 : decode cL_law 755 = .ok (.iadd, 1) := by decide +kernel
theorem dL_law_756 : decode cL_law 756 = .ok (.iaload, 1) := by decide +kernel
theorem dL_law_757 : decode cL_law 757 = .ok (.invokevirtual 105, 3) := by decide +kernel
theorem dL_law_760 : decode cL_law 760 = .ok (.aload_n 2, 1) := by decide +kernel
theorem dL_law_761 : decode cL_law 761 = .ok (.aload_n 0, 1) := by decide +kernel
theorem dL_law_762 : decode cL_law 762 = .ok (.iload_n 3, 1) := by decide +kernel
theorem dL_law_763 : decode cL_law 763 = .ok (.iconst 1, 1) := by decide +kernel
theorem dL_law_764 : decode cL_law 764 = .ok (.iadd, 1) := by decide +kernel
theorem dL_law_765 : decode cL_law 765 = .ok (.iaload, 1) := by decide +kernel
theorem dL_law_766 : decode cL_law 766 = .ok (.invokevirtual 108, 3) := by decide +kernel
theorem dL_law_769 : decode cL_law 769 = .ok (.if_icmp .eq 328, 3) := by decide +kernel
theorem dL_law_772 : decode cL_law 772 = .ok (.iconst 0, 1) := by decide +kernel
theorem dL_law_773 : decode cL_law 773 = .ok (.ireturn, 1) := by decide +kernel
theorem dL_law_774 : decode cL_law 774 = .ok (.aload_n 1, 1) := by decide +kernel
theorem dL_law_775 : decode cL_law 775 = .ok (.aload_n 0, 1) := by decide +kernel
theorem dL_law_776 : decode cL_law 776 = .ok (.iload_n 3, 1) := by decide +kernel
theorem dL_law_777 : decode cL_law 777 = .ok (.iconst 1, 1) := by decide +kernel
theorem dL_law_778 : decode cL_law 778 = .ok (.iadd, 1) := by decide +kernel
theorem dL_law_779 : decode cL_law 779 = .ok (.iaload, 1) := by decide +kernel
theorem dL_law_780 : decode cL_law 780 = .ok (.aload_n 0, 1) := by decide +kernel
theorem dL_law_781 : decode cL_law 781 = .ok (.iload_n 3, 1) := by decide +kernel
theorem dL_law_782 : decode cL_law 782 = .ok (.iconst 2, 1) := by decide +kernel
theorem dL_law_783 : decode cL_law 783 = .ok (.iadd, 1) := by decide +kernel
theorem dL_law_784 : decode cL_law 784 = .ok (.iaload, 1) := by decide +kernel
theorem dL_law_785 : decode cL_law 785 = .ok (.ifCond .eq 7, 3) := by decide +kernel
theorem dL_law_788 : decode cL_law 788 = .ok (.iconst 1, 1) := by decide +kernel
theorem dL_law_789 : decode cL_law 789 = .ok (.goto 4, 3) := by decide +kernel
theorem dL_law_792 : decode cL_law 792 = .ok (.iconst 0, 1) := by decide +kernel
theorem dL_law_793 : decode cL_law 793 = .ok (.invokevirtual 109, 3) := by decide +kernel
theorem dL_law_796 : decode cL_law 796 = .ok (.aload_n 2, 1) := by decide +kernel
theorem dL_law_797 : decode cL_law 797 = .ok (.aload_n 0, 1) := by decide +kernel
theorem dL_law_798 : decode cL_law 798 = .ok (.iload_n 3, 1) := by decide +kernel
theorem dL_law_799 : decode cL_law 799 = .ok (.iconst 1, 1) := by decide +kernel
theorem dL_law_800 : decode cL_law 800 = .ok (.iadd, 1) := by decide +kernel
theorem dL_law_801 : decode cL_law 801 = .ok (.iaload, 1) := by decide +kernel
theorem dL_law_802 : decode cL_law 802 = .ok (.aload_n 0, 1) := by decide +kernel
theorem dL_law_803 : decode cL_law 803 = .ok (.iload_n 3, 1) := by decide +kernel
theorem dL_law_804 : decode cL_law 804 = .ok (.iconst 2, 1) := by decide +kernel
theorem dL_law_805 : decode cL_law 805 = .ok (.iadd, 1) := by decide +kernel
theorem dL_law_806 : decode cL_law 806 = .ok (.iaload, 1) := by decide +kernel
theorem dL_law_807 : decode cL_law 807 = .ok (.ifCond .eq 7, 3) := by decide +kernel
theorem dL_law_810 : decode cL_law 810 = .ok (.iconst 1, 1) := by decide +kernel
theorem dL_law_811 : decode cL_law 811 = .ok (.goto 4, 3) := by decide +kernel
theorem dL_law_814 : decode cL_law 814 = .ok (.iconst 0, 1) := by decide +kernel
theorem dL_law_815 : decode cL_law 815 = .ok (.invokevirtual 113, 3) := by decide +kernel
theorem dL_law_818 : decode cL_law 818 = .ok (.if_icmp .eq 279, 3) := by decide +kernel
theorem dL_law_821 : decode cL_law 821 = .ok (.iconst 0, 1) := by decide +kernel
theorem dL_law_822 : decode cL_law 822 = .ok (.ireturn, 1) := by decide +kernel
theorem dL_law_823 : decode cL_law 823 = .ok (.aload_n 1, 1) := by decide +kernel
theorem dL_law_824 : decode cL_law 824 = .ok (.aload_n 0, 1) := by decide +kernel
theorem dL_law_825 : decode cL_law 825 = .ok (.iload_n 3, 1) := by decide +kernel
theorem dL_law_826 : decode cL_law 826 = .ok (.iconst 1, 1) := by decide +kernel
theorem dL_law_827 : decode cL_law 827 = .ok (.iadd, 1) := by decide +kernel
theorem dL_law_828 : decode cL_law 828 = .ok (.iaload, 1) := by decide +kernel
theorem dL_law_829 : decode cL_law 829 = .ok (.aload_n 0, 1) := by decide +kernel
theorem dL_law_830 : decode cL_law 830 = .ok (.iload_n 3, 1) := by decide +kernel
theorem dL_law_831 : decode cL_law 831 = .ok (.iconst 2, 1) := by decide +kernel
theorem dL_law_832 : decode cL_law 832 = .ok (.iadd, 1) := by decide +kernel
theorem dL_law_833 : decode cL_law 833 = .ok (.iaload, 1) := by decide +kernel
theorem dL_law_834 : decode cL_law 834 = .ok (.aload_n 0, 1) := by decide +kernel
theorem dL_law_835 : decode cL_law 835 = .ok (.iload_n 3, 1) := by decide +kernel
theorem dL_law_836 : decode cL_law 836 = .ok (.iconst 3, 1) := by decide +kernel
theorem dL_law_837 : decode cL_law 837 = .ok (.iadd, 1) := by decide +kernel
theorem dL_law_838 : decode cL_law 838 = .ok (.iaload, 1) := by decide +kernel
theorem dL_law_839 : decode cL_law 839 = .ok (.ifCond .eq 7, 3) := by decide +kernel
theorem dL_law_842 : decode cL_law 842 = .ok (.iconst 1, 1) := by decide +kernel
theorem dL_law_843 : decode cL_law 843 = .ok (.goto 4, 3) := by decide +kernel
theorem dL_law_846 : decode cL_law 846 = .ok (.iconst 0, 1) := by decide +kernel
theorem dL_law_847 : decode cL_law 847 = .ok (.invokevirtual 114, 3) := by decide +kernel
theorem dL_law_850 : decode cL_law 850 = .ok (.aload_n 2, 1) := by decide +kernel
theorem dL_law_851 : decode cL_law 851 = .ok (.aload_n 0, 1) := by decide +kernel
theorem dL_law_852 : decode cL_law 852 = .ok (.iload_n 3, 1) := by decide +kernel
theorem dL_law_853 : decode cL_law 853 = .ok (.iconst 1, 1) := by decide +kernel
theorem dL_law_854 : decode cL_law 854 = .ok (.iadd, 1) := by decide +kernel
theorem dL_law_855 : decode cL_law 855 = .ok (.iaload, 1) := by decide +kernel
theorem dL_law_856 : decode cL_law 856 = .ok (.aload_n 0, 1) := by decide +kernel
theorem dL_law_857 : decode cL_law 857 = .ok (.iload_n 3, 1) := by decide +kernel
theorem dL_law_858 : decode cL_law 858 = .ok (.iconst 2, 1) := by decide +kernel
end
section
theorem dL_law_859 : decode cL_law 859 = .ok (.iadd, 1) := by decide +kernel
theorem dL_law_860 : decode cL_law 860 = .ok (.iaload, 1) := by decide +kernel
theorem dL_law_861 : decode cL_law 861 = .ok (.aload_n 0, 1) := by decide +kernel
theorem dL_law_862 : decode cL_law 862 = .ok (.iload_n 3, 1) := by decide +kernel
theorem dL_law_863 : decode cL_law 863 = .ok (.iconst 3, 1) := by decide +kernel
theorem dL_law_864 : decode cL_law 864 = .ok (.iadd, 1) := by decide +kernel
theorem dL_law_865 : decode cL_law 865 = .ok (.iaload, 1) := by decide +kernel
theorem dL_law_866 : decode cL_law 866 = .ok (.ifCond .eq 7, 3) := by decide +kernel
theorem dL_law_869 : decode cL_law 869 = .ok (.iconst 1, 1) := by decide +kernel
theorem dL_law_870 : decode cL_law 870 = .ok (.goto 4, 3) := by decide +kernel
theorem dL_law_873 : decode cL_law 873 = .ok (.iconst 0, 1) := by decide +kernel
theorem dL_law_874 : decode cL_law 874 = .ok (.invokevirtual 118, 3) := by decide +kernel
theorem dL_law_877 : decode cL_law 877 = .ok (.if_icmp .eq 220, 3) := by decide +kernel
theorem dL_law_880 : decode cL_law 880 = .ok (.iconst 0, 1) := by decide +kernel
theorem dL_law_881 : decode cL_law 881 = .ok (.ireturn, 1) := by decide +kernel
theorem dL_law_882 : decode cL_law 882 = .ok (.aload_n 1, 1) := by decide +kernel
theorem dL_law_883 : decode cL_law 883 = .ok (.aload_n 0, 1) := by decide +kernel
theorem dL_law_884 : decode cL_law 884 = .ok (.iload_n 3, 1) := by decide +kernel
theorem dL_law_885 : decode cL_law 885 = .ok (.iconst 1, 1) := by decide +kernel
theorem dL_law_886 : decode cL_law 886 = .ok (.iadd, 1) := by decide +kernel
theorem dL_law_887 : decode cL_law 887 = .ok (.iaload, 1) := by decide +kernel
theorem dL_law_888 : decode cL_law 888 = .ok (.aload_n 0, 1) := by decide +kernel
theorem dL_law_889 : decode cL_law 889 = .ok (.iload_n 3, 1) := by decide +kernel
theorem dL_law_890 : decode cL_law 890 = .ok (.iconst 2, 1) := by decide +kernel
theorem dL_law_891 : decode cL_law 891 = .ok (.iadd, 1) := by decide +kernel
theorem dL_law_892 : decode cL_law 892 = .ok (.iaload, 1) := by decide +kernel
theorem dL_law_893 : decode cL_law 893 = .ok (.aload_n 0, 1) := by decide +kernel
theorem dL_law_894 : decode cL_law 894 = .ok (.iload_n 3, 1) := by decide +kernel
theorem dL_law_895 : decode cL_law 895 = .ok (.iconst 3, 1) := by decide +kernel
theorem dL_law_896 : decode cL_law 896 = .ok (.iadd, 1) := by decide +kernel
theorem dL_law_897 : decode cL_law 897 = .ok (.iaload, 1) := by decide +kernel
theorem dL_law_898 : decode cL_law 898 = .ok (.aload_n 0, 1) := by decide +kernel
theorem dL_law_899 : decode cL_law 899 = .ok (.iload_n 3, 1) := by decide +kernel
theorem dL_law_900 : decode cL_law 900 = .ok (.iconst 4, 1) := by decide +kernel
theorem dL_law_901 : decode cL_law 901 = .ok (.iadd, 1) := by decide +kernel
theorem dL_law_902 : decode cL_law 902 = .ok (.iaload, 1) := by decide +kernel
theorem dL_law_903 : decode cL_law 903 = .ok (.ifCond .eq 7, 3) := by decide +kernel
theorem dL_law_906 : decode cL_law 906 = .ok (.iconst 1, 1) := by decide +kernel
theorem dL_law_907 : decode cL_law 907 = .ok (.goto 4, 3) := by decide +kernel
theorem dL_law_910 : decode cL_law 910 = .ok (.iconst 0, 1) := by decide +kernel
theorem dL_law_911 : decode cL_law 911 = .ok (.invokevirtual 119, 3) := by decide +kernel
theorem dL_law_914 : decode cL_law 914 = .ok (.aload_n 2, 1) := by decide +kernel
theorem dL_law_915 : decode cL_law 915 = .ok (.aload_n 0, 1) := by decide +kernel
theorem dL_law_916 : decode cL_law 916 = .ok (.iload_n 3, 1) := by decide +kernel
theorem dL_law_917 : decode cL_law 917 = .ok (.iconst 1, 1) := by decide +kernel
theorem dL_law_918 : decode cL_law 918 = .ok (.iadd, 1) := by decide +kernel
theorem dL_law_919 : decode cL_law 919 = .ok (.iaload, 1) := by decide +kernel
theorem dL_law_920 : decode cL_law 920 = .ok (.aload_n 0, 1) := by decide +kernel
theorem dL_law_921 : decode cL_law 921 = .ok (.iload_n 3, 1) := by decide +kernel
theorem dL_law_922 : decode cL_law 922 = .ok (.iconst 2, 1) := by decide +kernel
theorem dL_law_923 : decode cL_law 923 = .ok (.iadd, 1) := by decide +kernel
theorem dL_law_924 : decode cL_law 924 = .ok (.iaload, 1) := by decide +kernel
theorem dL_law_925 : decode cL_law 925 = .ok (.aload_n 0, 1) := by decide +kernel
theorem dL_law_926 : decode cL_law 926 = .ok (.iload_n 3, 1) := by decide +kernel
theorem dL_law_927 : decode cL_law 927 = .ok (.iconst 3, 1) := by decide +kernel
theorem dL_law_928 : decode cL_law 928 = .ok (.iadd, 1) := by decide +kernel
theorem dL_law_929 : decode cL_law 929 = .ok (.iaload, 1) := by decide +kernel
theorem dL_law_930 : decode cL_law 930 = .ok (.aload_n 0, 1) := by decide +kernel
theorem dL_law_931 : decode cL_law 931 = .ok (.iload_n 3, 1) := by decide +kernel
theorem dL_law_932 : decode cL_law 932 = .ok (.iconst 4, 1) := by decide +kernel
theorem dL_law_933 : decode cL_law 933 = .ok (.iadd, 1) := by decide +kernel
theorem dL_law_934 : decode cL_law 934 = .ok (.iaload, 1) := by decide +kernel
theorem dL_law_935 : decode cL_law 935 = .ok (.ifCond .eq 7, 3) := by decide +kernel
theorem dL_law_938 : decode cL_law 938 = .ok (.iconst 1, 1) := by decide +kernel
theorem dL_law_939 : decode cL_law 939 = .ok (.goto 4, 3) := by decide +kernel
theorem dL_law_942 : decode cL_law 942 = .ok (.iconst 0, 1) := by decide +kernel
theorem dL_law_943 : decode cL_law 943 = .ok (.invokevirtual 123, 3) := by decide +kernel
theorem dL_law_946 : decode cL_law 946 = .ok (.if_icmp .eq 151, 3) := by decide +kernel
theorem dL_law_949 : decode cL_law 949 = .ok (.iconst 0, 1) := by decide +kernel
theorem dL_law_950 : decode cL_law 950 = .ok (.ireturn, 1) := by decide +kernel
theorem dL_law_951 : decode cL_law 951 = .ok (.aload_n 1, 1) := by decide +kernel
theorem dL_law_952 : decode cL_law 952 = .ok (.aload_n 0, 1) := by decide +kernel
theorem dL_law_953 : decode cL_law 953 = .ok (.iload_n 3, 1) := by decide +kernel
theorem dL_law_954 : decode cL_law 954 = .ok (.iconst 1, 1) := by decide +kernel
theorem dL_law_955 : decode cL_law 955 = .ok (.iadd, 1) := by decide +kernel
theorem dL_law_956 : decode cL_law 956 = .ok (.iaload, 1) := by decide +kernel
theorem dL_law_957 : decode cL_law 957 = .ok (.i2l, 1) := by decide +kernel
theorem dL_law_958 : decode cL_law 958 = .ok (.bipush 32, 2) := by decide +kernel
theorem dL_law_960 : decode cL_law 960 = .ok (.lshl, 1) := by decide +kernel
theorem dL_law_961 : decode cL_law 961 = .ok (.aload_n 0, 1) := by decide +kernel
theorem dL_law_962 : decode cL_law 962 = .ok (.iload_n 3, 1) := by decide +kernel
theorem dL_law_963 : decode cL_law 963 = .ok (.iconst 2, 1) := by decide +kernel
theorem dL_law_964 : decode cL_law 964 = .ok (.iadd, 1) := by decide +kernel
theorem dL_law_965 : decode cL_law 965 = .ok (.iaload, 1) := by decide +kernel
theorem dL_law_966 : decode cL_law 966 = .ok (.i2l, 1) := by decide +kernel
theorem dL_law_967 : decode cL_law 967 = .ok (.ldc2_w 90, 3) := by decide +kernel
theorem dL_law_970 : decode cL_law 970 = .ok (.land, 1) := by decide +kernel
theorem dL_law_971 : decode cL_law 971 = .ok (.lor, 1) := by decide +kernel
theorem dL_law_972 : decode cL_law 972 = .ok (.invokevirtual 124, 3) := by decide +kernel
theorem dL_law_975 : decode cL_law 975 = .ok (.aload_n 2, 1) := by decide +kernel
theorem dL_law_976 : decode cL_law 976 = .ok (.aload_n 0, 1) := by decide +kernel
theorem dL_law_977 : decode cL_law 977 = .ok (.iload_n 3, 1) := by decide +kernel
theorem dL_law_978 : decode cL_law 978 = .ok (.iconst 1, 1) := by decide +kernel
theorem dL_law_979 : decode cL_law 979 = .ok (.iadd, 1) := by decide +kernel
theorem dL_law_980 : decode cL_law 980 = .ok (.iaload, 1) := by decide +kernel
theorem dL_law_981 : decode cL_law 981 = .ok (.i2l, 1) := by decide +kernel
theorem dL_law_982 : decode cL_law 982 = .ok (.bipush 32, 2) := by decide +kernel
theorem dL_law_984 : decode cL_law 984 = .ok (.lshl, 1) := by decide +kernel
theorem dL_law_985 : decode cL_law 985 = .ok (.aload_n 0, 1) := by decide +kernel
theorem dL_law_986 : decode cL_law 986 = .ok (.iload_n 3, 1) := by decide +kernel
theorem dL_law_987 : decode cL_law 987 = .ok (.iconst 2, 1) := by decide +kernel
theorem dL_law_988 : decode cL_law 988 = .ok (.iadd, 1) := by decide +kernel
theorem dL_law_989 : decode cL_law 989 = .ok (.iaload, 1) := by decide +kernel
theorem dL_law_990 : decode cL_law 990 = .ok (.i2l, 1) := by decide +kernel
theorem dL_law_991 : decode cL_law 991 = .ok (.ldc2_w 90, 3) := by decide +kernel
theorem dL_law_994 : decode cL_law 994 = .ok (.land, 1) := by decide +kernel
theorem dL_law_995 : decode cL_law 995 = .ok (.lor, 1) := by decide +kernel
theorem dL_law_996 : decode cL_law 996 = .ok (.invokevirtual 128, 3) := by decide +kernel
theorem dL_law_999 : decode cL_law 999 = .ok (.lcmp, 1) := by decide +kernel
theorem dL_law_1000 : decode cL_law 1000 = .ok (.ifCond .eq 97, 3) := by decide +kernel
theorem dL_law_1003 : decode cL_law 1003 = .ok (.iconst 0, 1) := by decide +kernel
theorem dL_law_1004 : decode cL_law 1004 = .ok (.ireturn, 1) := by decide +kernel
theorem dL_law_1005 : decode cL_law 1005 = .ok (.aload_n 1, 1) := by decide +kernel
theorem dL_law_1006 : decode cL_law 1006 = .ok (.aload_n 0, 1) := by decide +kernel
theorem dL_law_1007 : decode cL_law 1007 = .ok (.iload_n 3, 1) := by decide +kernel
theorem dL_law_1008 : decode cL_law 1008 = .ok (.iconst 1, 1) := by decide +kernel
theorem dL_law_1009 : decode cL_law 1009 = .ok (.iadd, 1) := by decide +kernel
theorem dL_law_1010 : decode cL_law 1010 = .ok (.iaload, 1) := by decide +kernel
theorem dL_law_1011 : decode cL_law 1011 = .ok (.invokevirtual 129, 3) := by decide +kernel
theorem dL_law_1014 : decode cL_law 1014 = .ok (.aload_n 2, 1) := by decide +kernel
theorem dL_law_1015 : decode cL_law 1015 = .ok (.aload_n 0, 1) := by decide +kernel
theorem dL_law_1016 : decode cL_law 1016 = .ok (.iload_n 3, 1) := by decide +kernel
theorem dL_law_1017 : decode cL_law 1017 = .ok (.iconst 1, 1) := by decide +kernel
theorem dL_law_1018 : decode cL_law 1018 = .ok (.iadd, 1) := by decide +kernel
theorem dL_law_1019 : decode cL_law 1019 = .ok (.iaload, 1) := by decide +kernel
theorem dL_law_1020 : decode cL_law 1020 = .ok (.invokevirtual 132, 3) := by decide +kernel
theorem dL_law_1023 : decode cL_law 1023 = .ok (.if_icmp .eq 74, 3) := by decide +kernel
theorem dL_law_1026 : decode cL_law 1026 = .ok (.iconst 0, 1) := by decide +kernel
theorem dL_law_1027 : decode cL_law 1027 = .ok (.ireturn, 1) := by decide +kernel
theorem dL_law_1028 : decode cL_law 1028 = .ok (.aload_n 1, 1) := by decide +kernel
theorem dL_law_1029 : decode cL_law 1029 = .ok (.aload_n 0, 1) := by decide +kernel
theorem dL_law_1030 : decode cL_law 1030 = .ok (.iload_n 3, 1) := by decide +kernel
theorem dL_law_1031 : decode cL_law 1031 = .ok (.iconst 1, 1) := by decide +kernel
theorem dL_law_1032 : decode cL_law 1032 = .ok (.iadd, 1) := by decide +kernel
theorem dL_law_1033 : decode cL_law 1033 = .ok (.iaload, 1) := by decide +kernel
theorem dL_law_1034 : decode cL_law 1034 = .ok (.invokevirtual 133, 3) := by decide +kernel
theorem dL_law_1037 : decode cL_law 1037 = .ok (.aload_n 2, 1) := by decide +kernel
theorem dL_law_1038 : decode cL_law 1038 = .ok (.aload_n 0, 1) := by decide +kernel
theorem dL_law_1039 : decode cL_law 1039 = .ok (.iload_n 3, 1) := by decide +kernel
theorem dL_law_1040 : decode cL_law 1040 = .ok (.iconst 1, 1) := by decide +kernel
theorem dL_law_1041 : decode cL_law 1041 = .ok (.iadd, 1) := by decide +kernel
theorem dL_law_1042 : decode cL_law 1042 = .ok (.iaload, 1) := by decide +kernel
theorem dL_law_1043 : decode cL_law 1043 = .ok (.invokevirtual 136, 3) := by decide +kernel
theorem dL_law_1046 : decode cL_law 1046 = .ok (.if_icmp .eq 51, 3) := by decide +kernel
theorem dL_law_1049 : decode cL_law 1049 = .ok (.iconst 0, 1) := by decide +kernel
theorem dL_law_1050 : decode cL_law 1050 = .ok (.ireturn, 1) := by decide +kernel
theorem dL_law_1051 : decode cL_law 1051 = .ok (.aload_n 1, 1) := by decide +kernel
theorem dL_law_1052 : decode cL_law 1052 = .ok (.aload_n 0, 1) := by decide +kernel
theorem dL_law_1053 : decode cL_law 1053 = .ok (.iload_n 3, 1) := by decide +kernel
theorem dL_law_1054 : decode cL_law 1054 = .ok (.iconst 1, 1) := by decide +kernel
theorem dL_law_1055 : decode cL_law 1055 = .ok (.iadd, 1) := by decide +kernel
theorem dL_law_1056 : decode cL_law 1056 = .ok (.iaload, 1) := by decide +kernel
theorem dL_law_1057 : decode cL_law 1057 = .ok (.invokevirtual 137, 3) := by decide +kernel
theorem dL_law_1060 : decode cL_law 1060 = .ok (.aload_n 2, 1) := by decide +kernel
theorem dL_law_1061 : decode cL_law 1061 = .ok (.aload_n 0, 1) := by decide +kernel
theorem dL_law_1062 : decode cL_law 1062 = .ok (.iload_n 3, 1) := by decide +kernel
theorem dL_law_1063 : decode cL_law 1063 = .ok (.iconst 1, 1) := by decide +kernel
theorem dL_law_1064 : decode cL_law 1064 = .ok (.iadd, 1) := by decide +kernel
theorem dL_law_1065 : decode cL_law 1065 = .ok (.iaload, 1) := by decide +kernel
theorem dL_law_1066 : decode cL_law 1066 = .ok (.invokevirtual 140, 3) := by decide +kernel
theorem dL_law_1069 : decode cL_law 1069 = .ok (.if_icmp .eq 28, 3) := by decide +kernel
theorem dL_law_1072 : decode cL_law 1072 = .ok (.iconst 0, 1) := by decide +kernel
theorem dL_law_1073 : decode cL_law 1073 = .ok (.ireturn, 1) := by decide +kernel
theorem dL_law_1074 : decode cL_law 1074 = .ok (.aload_n 1, 1) := by decide +kernel
theorem dL_law_1075 : decode cL_law 1075 = .ok (.aload_n 0, 1) := by decide +kernel
theorem dL_law_1076 : decode cL_law 1076 = .ok (.iload_n 3, 1) := by decide +kernel
theorem dL_law_1077 : decode cL_law 1077 = .ok (.iconst 1, 1) := by decide +kernel
theorem dL_law_1078 : decode cL_law 1078 = .ok (.iadd, 1) := by decide +kernel
theorem dL_law_1079 : decode cL_law 1079 = .ok (.iaload, 1) := by decide +kernel
theorem dL_law_1080 : decode cL_law 1080 = .ok (.invokevirtual 141, 3) := by decide +kernel
theorem dL_law_1083 : decode cL_law 1083 = .ok (.aload_n 2, 1) := by decide +kernel
theorem dL_law_1084 : decode cL_law 1084 = .ok (.aload_n 0, 1) := by decide +kernel
theorem dL_law_1085 : decode cL_law 1085 = .ok (.iload_n 3, 1) := by decide +kernel
theorem dL_law_1086 : decode cL_law 1086 = .ok (.iconst 1, 1) := by decide +kernel
theorem dL_law_1087 : decode cL_law 1087 = .ok (.iadd, 1) := by decide +kernel
theorem dL_law_1088 : decode cL_law 1088 = .ok (.iaload, 1) := by decide +kernel
theorem dL_law_1089 : decode cL_law 1089 = .ok (.invokevirtual 144, 3) := by decide +kernel
theorem dL_law_1092 : decode cL_law 1092 = .ok (.if_icmp .eq 5, 3) := by decide +kernel
theorem dL_law_1095 : decode cL_law 1095 = .ok (.iconst 0, 1) := by decide +kernel
theorem dL_law_1096 : decode cL_law 1096 = .ok (.ireturn, 1) := by decide +kernel
theorem dL_law_1097 : decode cL_law 1097 = .ok (.iinc 3 5, 3) := by decide +kernel
theorem dL_law_1100 : decode cL_law 1100 = .ok (.goto (-1082), 3) := by decide +kernel
theorem dL_law_1103 : decode cL_law 1103 = .ok (.iconst 1, 1) := by decide +kernel
theorem dL_law_1104 : decode cL_law 1104 = .ok (.ireturn, 1) := by decide +kernel
end
section
theorem ic_m1 : Int32.ofInt (-1) = (-1) := by decide +kernel
theorem ic_0 : Int32.ofInt (0) = nI 0 := by decide +kernel
theorem ic_1 : Int32.ofInt (1) = nI 1 := by decide +kernel
theorem ic_2 : Int32.ofInt (2) = nI 2 := by decide +kernel
theorem ic_3 : Int32.ofInt (3) = nI 3 := by decide +kernel
theorem ic_4 : Int32.ofInt (4) = nI 4 := by decide +kernel
theorem ic_5 : Int32.ofInt (5) = nI 5 := by decide +kernel
theorem bp_m9 : (Int8.ofInt (-9)).toInt32 = (-9) := by decide +kernel
theorem bp_m4 : (Int8.ofInt (-4)).toInt32 = (-4) := by decide +kernel
theorem bp_m3 : (Int8.ofInt (-3)).toInt32 = (-3) := by decide +kernel
theorem bp_m2 : (Int8.ofInt (-2)).toInt32 = (-2) := by decide +kernel
theorem bp_6 : (Int8.ofInt (6)).toInt32 = nI 6 := by decide +kernel
theorem bp_7 : (Int8.ofInt (7)).toInt32 = nI 7 := by decide +kernel
theorem bp_8 : (Int8.ofInt (8)).toInt32 = nI 8 := by decide +kernel
theorem bp_9 : (Int8.ofInt (9)).toInt32 = nI 9 := by decide +kernel
theorem bp_10 : (Int8.ofInt (10)).toInt32 = nI 10 := by decide +kernel
theorem bp_11 : (Int8.ofInt (11)).toInt32 = nI 11 := by decide +kernel
theorem bp_12 : (Int8.ofInt (12)).toInt32 = nI 12 := by decide +kernel
theorem bp_13 : (Int8.ofInt (13)).toInt32 = nI 13 := by decide +kernel
theorem bp_14 : (Int8.ofInt (14)).toInt32 = nI 14 := by decide +kernel
theorem bp_15 : (Int8.ofInt (15)).toInt32 = nI 15 := by decide +kernel
theorem bp_16 : (Int8.ofInt (16)).toInt32 = nI 16 := by decide +kernel
theorem bp_17 : (Int8.ofInt (17)).toInt32 = nI 17 := by decide +kernel
theorem bp_18 : (Int8.ofInt (18)).toInt32 = nI 18 := by decide +kernel
theorem bp_19 : (Int8.ofInt (19)).toInt32 = nI 19 := by decide +kernel
theorem bp_20 : (Int8.ofInt (20)).toInt32 = nI 20 := by decide +kernel
theorem bp_21 : (Int8.ofInt (21)).toInt32 = nI 21 := by decide +kernel
theorem bp_22 : (Int8.ofInt (22)).toInt32 = nI 22 := by decide +kernel
theorem bp_23 : (Int8.ofInt (23)).toInt32 = nI 23 := by decide +kernel
theorem bp_24 : (Int8.ofInt (24)).toInt32 = nI 24 := by decide +kernel
theorem bp_25 : (Int8.ofInt (25)).toInt32 = nI 25 := by decide +kernel
theorem bp_26 : (Int8.ofInt (26)).toInt32 = nI 26 := by decide +kernel
theorem bp_27 : (Int8.ofInt (27)).toInt32 = nI 27 := by decide +kernel
theorem bp_28 : (Int8.ofInt (28)).toInt32 = nI 28 := by decide +kernel
theorem bp_29 : (Int8.ofInt (29)).toInt32 = nI 29 := by decide +kernel
theorem bp_30 : (Int8.ofInt (30)).toInt32 = nI 30 := by decide +kernel
theorem bp_31 : (Int8.ofInt (31)).toInt32 = nI 31 := by decide +kernel
theorem bp_32 : (Int8.ofInt (32)).toInt32 = nI 32 := by decide +kernel
theorem bp_33 : (Int8.ofInt (33)).toInt32 = nI 33 := by decide +kernel
theorem bp_34 : (Int8.ofInt (34)).toInt32 = nI 34 := by decide +kernel
theorem bp_35 : (Int8.ofInt (35)).toInt32 = nI 35 := by decide +kernel
theorem bp_36 : (Int8.ofInt (36)).toInt32 = nI 36 := by decide +kernel
theorem bp_37 : (Int8.ofInt (37)).toInt32 = nI 37 := by decide +kernel
theorem bp_43 : (Int8.ofInt (43)).toInt32 = nI 43 := by decide +kernel
theorem bp_45 : (Int8.ofInt (45)).toInt32 = nI 45 := by decide +kernel
theorem bp_46 : (Int8.ofInt (46)).toInt32 = nI 46 := by decide +kernel
theorem bp_47 : (Int8.ofInt (47)).toInt32 = nI 47 := by decide +kernel
theorem bp_48 : (Int8.ofInt (48)).toInt32 = nI 48 := by decide +kernel
theorem bp_49 : (Int8.ofInt (49)).toInt32 = nI 49 := by decide +kernel
theorem bp_50 : (Int8.ofInt (50)).toInt32 = nI 50 := by decide +kernel
theorem bp_53 : (Int8.ofInt (53)).toInt32 = nI 53 := by decide +kernel
theorem bp_57 : (Int8.ofInt (57)).toInt32 = nI 57 := by decide +kernel
theorem bp_60 : (Int8.ofInt (60)).toInt32 = nI 60 := by decide +kernel
theorem bp_63 : (Int8.ofInt (63)).toInt32 = nI 63 := by decide +kernel
theorem bp_72 : (Int8.ofInt (72)).toInt32 = nI 72 := by decide +kernel
theorem bp_80 : (Int8.ofInt (80)).toInt32 = nI 80 := by decide +kernel
theorem bp_83 : (Int8.ofInt (83)).toInt32 = nI 83 := by decide +kernel
theorem bp_99 : (Int8.ofInt (99)).toInt32 = nI 99 := by decide +kernel
theorem bp_100 : (Int8.ofInt (100)).toInt32 = nI 100 := by decide +kernel
theorem bp_109 : (Int8.ofInt (109)).toInt32 = nI 109 := by decide +kernel
theorem bp_115 : (Int8.ofInt (115)).toInt32 = nI 115 := by decide +kernel
theorem bp_117 : (Int8.ofInt (117)).toInt32 = nI 117 := by decide +kernel
theorem sp_250 : (Int16.ofInt (250)).toInt32 = nI 250 := by decide +kernel
theorem sp_251 : (Int16.ofInt (251)).toInt32 = nI 251 := by decide +kernel
theorem sp_255 : (Int16.ofInt (255)).toInt32 = nI 255 := by decide +kernel
theorem sp_504 : (Int16.ofInt (504)).toInt32 = nI 504 := by decide +kernel
theorem sp_1000 : (Int16.ofInt (1000)).toInt32 = nI 1000 := by decide +kernel
theorem sp_10000 : (Int16.ofInt (10000)).toInt32 = nI 10000 := by decide +kernel
theorem sp_468 : (Int16.ofInt (468)).toInt32 = nI 468 := by decide +kernel
/-! ===== rows over numbers nI n, and the numbers' own words ===== -/
def bi (b : Bool) : Int32 := if b then 1 else 0
theorem bi_01 (b : Bool) : bi b = 0 ∨ bi b = 1 := by cases b <;> decide
theorem bi_t : bi true = nI 1 := by decide
theorem bi_f : bi false = nI 0 := by decide
theorem bi_eq0 (b : Bool) : bi b = 0 ↔ b = false := by cases b <;> decide
theorem bi_ne0 (b : Bool) : ¬ bi b = 0 ↔ b = true := by cases b <;> decide
theorem nI_mod {a d : Nat} (ha : a < 2147483648) (h0 : 0 < d) (hd : d < 2147483648) : nI a - nI a / nI d * nI d = nI (a % d) := pk_rem ha h0 hd
theorem rn_fin {Q : Option Value → rHp → Prop} {v v' : Option Value} {h h' : rHp} (k : Q v h) (hv : v' = v) (hh : h' = h) : Q v' h' := by subst hv; subst hh; exact k
section RNN
variable {K : rK} {Q : Option Value → rHp → Prop} {pc pc' : Nat} {lv : List (Nat × Value)} {st : List Value} {h : rHp}
theorem Rn.top {x y : Int32} (e : x = y) (k : Rn K Q pc lv (.int y :: st) h) : Rn K Q pc lv (.int x :: st) h := by subst e; exact k
theorem Rn.topl {x y : Int64} (e : x = y) (k : Rn K Q pc lv (.long y :: st) h) : Rn K Q pc lv (.long x :: st) h := by subst e; exact k
theorem Rn.heap {h' : rHp} (e : h = h') (k : Rn K Q pc lv st h') : Rn K Q pc lv st h := by subst e; exact k
theorem Rn.iaddN {a b : Nat} (hd : decode K.1.2.1 pc = .ok (.iadd, 1)) (hp : pc + 1 = pc') (k : Rn K Q pc' lv (.int (nI (a + b)) :: st) h) : Rn K Q pc lv (.int (nI b) :: .int (nI a) :: st) h := Rn.iadd hd hp (Rn.top (nI_add a b) k)
theorem Rn.imulN {a b : Nat} (hd : decode K.1.2.1 pc = .ok (.imul, 1)) (hp : pc + 1 = pc') (k : Rn K Q pc' lv (.int (nI (a * b)) :: st) h) : Rn K Q pc lv (.int (nI b) :: .int (nI a) :: st) h := Rn.imul hd hp (Rn.top (pk_mul a b) k)
theorem Rn.isubN {a b : Nat} (hd : decode K.1.2.1 pc = .ok (.isub, 1)) (hp : pc + 1 = pc') (hb : b ≤ a) (k : Rn K Q pc' lv (.int (nI (a - b)) :: st) h) : Rn K Q pc lv (.int (nI b) :: .int (nI a) :: st) h := Rn.isub hd hp (Rn.top (pk_sub hb) k)
theorem Rn.idivN {a b : Nat} (hd : decode K.1.2.1 pc = .ok (.idiv, 1)) (hp : pc + 1 = pc') (h1 : a < 2147483648) (h2 : 0 < b) (h3 : b < 2147483648) (k : Rn K Q pc' lv (.int (nI (a / b)) :: st) h) : Rn K Q pc lv (.int (nI b) :: .int (nI a) :: st) h := Rn.idiv hd hp (nI_ne0 h2 h3) (Rn.top (pk_div h1 h2 h3) k)
theorem Rn.iremN {a b : Nat} (hd : decode K.1.2.1 pc = .ok (.irem, 1)) (hp : pc + 1 = pc') (h1 : a < 2147483648) (h2 : 0 < b) (h3 : b < 2147483648) (k : Rn K Q pc' lv (.int (nI (a % b)) :: st) h) : Rn K Q pc lv (.int (nI b) :: .int (nI a) :: st) h := Rn.irem hd hp (nI_ne0 h2 h3) (Rn.top (pk_rem h1 h2 h3) k)
theorem Rn.iincN {i x : Nat} (hd : decode K.1.2.1 pc = .ok (.iinc i 1, 3)) (hp : pc + 3 = pc') (hl : rl lv i = some (.int (nI x))) (hb : i < K.1.2.2.1) (k : Rn K Q pc' (sl1 lv i (.int (nI (x + 1)))) st h) : Rn K Q pc lv st h := Rn.iinc hd hp hl (nI_1 x) hb k
theorem Rn.idecN {i x : Nat} (hd : decode K.1.2.1 pc = .ok (.iinc i (-1), 3)) (hp : pc + 3 = pc') (hl : rl lv i = some (.int (nI x))) (hx : 0 < x) (hb : i < K.1.2.2.1) (k : Rn K Q pc' (sl1 lv i (.int (nI (x - 1)))) st h) : Rn K Q pc lv st h := Rn.iinc hd hp hl (by obtain ⟨y, rfl⟩ : ∃ y, x = y + 1 := ⟨x - 1, by omega⟩; exact pk_m1 y) hb k
theorem Rn.if_eqN {a : Nat} {off : Int} {tgt : Nat} (hd : decode K.1.2.1 pc = .ok (.ifCond .eq off, 3)) (hp : pc + 3 = pc') (ht : (pc : Int) + off = (tgt : Int)) (ha : a < 2147483648) (kt : a = 0 → Rn K Q tgt lv st h) (kf : ¬ a = 0 → Rn K Q pc' lv st h) : Rn K Q pc lv (.int (nI a) :: st) h := Rn.if_eq hd hp ht (fun q => kt ((nI_eq ha (by omega)).mp (q.trans nI_0.symm))) (fun q => kf (fun z => q (by rw [z]; exact nI_0)))
theorem Rn.if_neN {a : Nat} {off : Int} {tgt : Nat} (hd : decode K.1.2.1 pc = .ok (.ifCond .ne off, 3)) (hp : pc + 3 = pc') (ht : (pc : Int) + off = (tgt : Int)) (ha : a < 2147483648) (kt : ¬ a = 0 → Rn K Q tgt lv st h) (kf : a = 0 → Rn K Q pc' lv st h) : Rn K Q pc lv (.int (nI a) :: st) h := Rn.if_ne hd hp ht (fun q => kt (fun z => q (by rw [z]; exact nI_0))) (fun q => kf ((nI_eq ha (by omega)).mp (q.trans nI_0.symm)))
theorem Rn.if_ltN {a : Nat} {off : Int} {tgt : Nat} (hd : decode K.1.2.1 pc = .ok (.ifCond .lt off, 3)) (hp : pc + 3 = pc') (ht : (pc : Int) + off = (tgt : Int)) (ha : a < 2147483648) (kt : False → Rn K Q tgt lv st h) (kf : True → Rn K Q pc' lv st h) : Rn K Q pc lv (.int (nI a) :: st) h := Rn.if_lt hd hp ht (fun q => kt (nI_pos ha q)) (fun _ => kf trivial)
theorem Rn.if_geN {a : Nat} {off : Int} {tgt : Nat} (hd : decode K.1.2.1 pc = .ok (.ifCond .ge off, 3)) (hp : pc + 3 = pc') (ht : (pc : Int) + off = (tgt : Int)) (ha : a < 2147483648) (kt : True → Rn K Q tgt lv st h) (kf : False → Rn K Q pc' lv st h) : Rn K Q pc lv (.int (nI a) :: st) h := Rn.if_ge hd hp ht (fun _ => kt trivial) (fun q => kf (q (nI_pos' ha)))
theorem nI_gt0 {a : Nat} (ha : a < 2147483648) : 0 < nI a ↔ 0 < a := by rw [← nI_0]; exact nI_ltI (by omega) ha
theorem nI_le0 {a : Nat} (ha : a < 2147483648) : nI a ≤ 0 ↔ a = 0 := by rw [← nI_0, nI_leI ha (by omega)]; omega
theorem Rn.if_gtN {a : Nat} {off : Int} {tgt : Nat} (hd : decode K.1.2.1 pc = .ok (.ifCond .gt off, 3)) (hp : pc + 3 = pc') (ht : (pc : Int) + off = (tgt : Int)) (ha : a < 2147483648) (kt : 0 < a → Rn K Q tgt lv st h) (kf : ¬ 0 < a → Rn K Q pc' lv st h) : Rn K Q pc lv (.int (nI a) :: st) h := Rn.if_gt hd hp ht (fun q => kt ((nI_gt0 ha).mp q)) (fun q => kf (fun z => q ((nI_gt0 ha).mpr z)))
theorem Rn.if_leN {a : Nat} {off : Int} {tgt : Nat} (hd : decode K.1.2.1 pc = .ok (.ifCond .le off, 3)) (hp : pc + 3 = pc') (ht : (pc : Int) + off = (tgt : Int)) (ha : a < 2147483648) (kt : a = 0 → Rn K Q tgt lv st h) (kf : ¬ a = 0 → Rn K Q pc' lv st h) : Rn K Q pc lv (.int (nI a) :: st) h := Rn.if_le hd hp ht (fun q => kt ((nI_le0 ha).mp q)) (fun q => kf (fun z => q ((nI_le0 ha).mpr z)))
theorem Rn.if_eqB {b : Bool} {off : Int} {tgt : Nat} (hd : decode K.1.2.1 pc = .ok (.ifCond .eq off, 3)) (hp : pc + 3 = pc') (ht : (pc : Int) + off = (tgt : Int)) (kt : b = false → Rn K Q tgt lv st h) (kf : b = true → Rn K Q pc' lv st h) : Rn K Q pc lv (.int (bi b) :: st) h := Rn.if_eq hd hp ht (fun q => kt ((bi_eq0 b).mp q)) (fun q => kf ((bi_ne0 b).mp q))
theorem Rn.if_neB {b : Bool} {off : Int} {tgt : Nat} (hd : decode K.1.2.1 pc = .ok (.ifCond .ne off, 3)) (hp : pc + 3 = pc') (ht : (pc : Int) + off = (tgt : Int)) (kt : b = true → Rn K Q tgt lv st h) (kf : b = false → Rn K Q pc' lv st h) : Rn K Q pc lv (.int (bi b) :: st) h := Rn.if_ne hd hp ht (fun q => kt ((bi_ne0 b).mp q)) (fun q => kf ((bi_eq0 b).mp q))
theorem Rn.icmp_eqN {a b : Nat} {off : Int} {tgt : Nat} (hd : decode K.1.2.1 pc = .ok (.if_icmp .eq off, 3)) (hp : pc + 3 = pc') (ht : (pc : Int) + off = (tgt : Int)) (ha : a < 2147483648) (hb : b < 2147483648) (kt : a = b → Rn K Q tgt lv st h) (kf : ¬ a = b → Rn K Q pc' lv st h) : Rn K Q pc lv (.int (nI b) :: .int (nI a) :: st) h := Rn.icmp_eq hd hp ht (fun q => kt ((nI_eq ha hb).mp q)) (fun q => kf (fun z => q ((nI_eq ha hb).mpr z)))
theorem Rn.icmp_neN {a b : Nat} {off : Int} {tgt : Nat} (hd : decode K.1.2.1 pc = .ok (.if_icmp .ne off, 3)) (hp : pc + 3 = pc') (ht : (pc : Int) + off = (tgt : Int)) (ha : a < 2147483648) (hb : b < 2147483648) (kt : ¬ a = b → Rn K Q tgt lv st h) (kf : a = b → Rn K Q pc' lv st h) : Rn K Q pc lv (.int (nI b) :: .int (nI a) :: st) h := Rn.icmp_ne hd hp ht (fun q => kt (fun z => q ((nI_eq ha hb).mpr z))) (fun q => kf ((nI_eq ha hb).mp q))
theorem Rn.icmp_ltN {a b : Nat} {off : Int} {tgt : Nat} (hd : decode K.1.2.1 pc = .ok (.if_icmp .lt off, 3)) (hp : pc + 3 = pc') (ht : (pc : Int) + off = (tgt : Int)) (ha : a < 2147483648) (hb : b < 2147483648) (kt : a < b → Rn K Q tgt lv st h) (kf : ¬ a < b → Rn K Q pc' lv st h) : Rn K Q pc lv (.int (nI b) :: .int (nI a) :: st) h := Rn.icmp_lt hd hp ht (fun q => kt ((nI_ltI ha hb).mp q)) (fun q => kf (fun z => q ((nI_ltI ha hb).mpr z)))
theorem Rn.icmp_geN {a b : Nat} {off : Int} {tgt : Nat} (hd : decode K.1.2.1 pc = .ok (.if_icmp .ge off, 3)) (hp : pc + 3 = pc') (ht : (pc : Int) + off = (tgt : Int)) (ha : a < 2147483648) (hb : b < 2147483648) (kt : b ≤ a → Rn K Q tgt lv st h) (kf : ¬ b ≤ a → Rn K Q pc' lv st h) : Rn K Q pc lv (.int (nI b) :: .int (nI a) :: st) h := Rn.icmp_ge hd hp ht (fun q => kt ((nI_leI hb ha).mp q)) (fun q => kf (fun z => q ((nI_leI hb ha).mpr z)))
theorem Rn.icmp_gtN {a b : Nat} {off : Int} {tgt : Nat} (hd : decode K.1.2.1 pc = .ok (.if_icmp .gt off, 3)) (hp : pc + 3 = pc') (ht : (pc : Int) + off = (tgt : Int)) (ha : a < 2147483648) (hb : b < 2147483648) (kt : b < a → Rn K Q tgt lv st h) (kf : ¬ b < a → Rn K Q pc' lv st h) : Rn K Q pc lv (.int (nI b) :: .int (nI a) :: st) h := Rn.icmp_gt hd hp ht (fun q => kt ((nI_ltI hb ha).mp q)) (fun q => kf (fun z => q ((nI_ltI hb ha).mpr z)))
theorem Rn.icmp_leN {a b : Nat} {off : Int} {tgt : Nat} (hd : decode K.1.2.1 pc = .ok (.if_icmp .le off, 3)) (hp : pc + 3 = pc') (ht : (pc : Int) + off = (tgt : Int)) (ha : a < 2147483648) (hb : b < 2147483648) (kt : a ≤ b → Rn K Q tgt lv st h) (kf : ¬ a ≤ b → Rn K Q pc' lv st h) : Rn K Q pc lv (.int (nI b) :: .int (nI a) :: st) h := Rn.icmp_le hd hp ht (fun q => kt ((nI_leI ha hb).mp q)) (fun q => kf (fun z => q ((nI_leI ha hb).mpr z)))
theorem Rn.ialdN {o n j : Nat} {f : Nat → Int32} (hd : decode K.1.2.1 pc = .ok (.iaload, 1)) (hp : pc + 1 = pc') (ho : h.2.2 o = .inl (n, f)) (hlt : o < h.1) (hj : j < n) (hn : n < 2147483648) (k : Rn K Q pc' lv (.int (f j) :: st) h) : Rn K Q pc lv (.int (nI j) :: .ref o :: st) h := Rn.iald hd hp ho hlt (vp_in_nI hj hn) (by rw [nI_clamp (show j < 2 ^ 31 by omega)]; exact k)
theorem Rn.zaldN {o n j : Nat} {f : Nat → Int32} (hd : decode K.1.2.1 pc = .ok (.baload, 1)) (hp : pc + 1 = pc') (ho : h.2.2 o = .inr (.inl (n, f))) (hlt : o < h.1) (hj : j < n) (hn : n < 2147483648) (k : Rn K Q pc' lv (.int (f j) :: st) h) : Rn K Q pc lv (.int (nI j) :: .ref o :: st) h := Rn.zald hd hp ho hlt (vp_in_nI hj hn) (by rw [nI_clamp (show j < 2 ^ 31 by omega)]; exact k)
theorem Rn.iastN {o n j : Nat} {f : Nat → Int32} {x : Int32} (hd : decode K.1.2.1 pc = .ok (.iastore, 1)) (hp : pc + 1 = pc') (ho : h.2.2 o = .inl (n, f)) (hlt : o < h.1) (hj : j < n) (hn : n < 2147483648) (k : Rn K Q pc' lv st (hs h o (.inl (n, upd f j x)))) : Rn K Q pc lv (.int x :: .int (nI j) :: .ref o :: st) h := Rn.iast hd hp ho hlt (vp_in_nI hj hn) (by rw [nI_clamp (show j < 2 ^ 31 by omega)]; exact k)
theorem Rn.zastN {o n j : Nat} {f : Nat → Int32} {x : Int32} (hd : decode K.1.2.1 pc = .ok (.bastore, 1)) (hp : pc + 1 = pc') (ho : h.2.2 o = .inr (.inl (n, f))) (hlt : o < h.1) (hj : j < n) (hn : n < 2147483648) (k : Rn K Q pc' lv st (hs h o (.inr (.inl (n, upd f j (vp_nar .boolean x)))))) : Rn K Q pc lv (.int x :: .int (nI j) :: .ref o :: st) h := Rn.zast hd hp ho hlt (vp_in_nI hj hn) (by rw [nI_clamp (show j < 2 ^ 31 by omega)]; exact k)
theorem Rn.sldN {L0 j : Nat} {xs : Nat → Int32} {b : UInt32} (hX : K.2.1 = some (L0, xs)) (hd : decode K.1.2.1 pc = .ok (.iaload, 1)) (hp : pc + 1 = pc') (hj : j < L0) (hn : L0 < 2147483648) (k : Rn K Q pc' lv (.int (xs j) :: st) h) : Rn K Q pc lv (.int (nI j) :: .float b :: st) h := Rn.sld hX hd hp (vp_in_nI hj hn) (by rw [nI_clamp (show j < 2 ^ 31 by omega)]; exact k)
theorem Rn.mminN {a b idx : Nat} (hw : Cond.methodLink K.1.1.cls idx Lib.Math.min.name ∈ rn_ws) (hw2 : Cond.static Lib.Math.min.name ∈ rn_ws) (hw3 : Cond.initialized "java/lang/Math" ∈ rn_ws) (hw4 : Cond.code Lib.Math.min.name Lib.Math.min.code 2 (some .int) ∈ rn_ws) (hfr : 1 ≤ K.1.2.2.2.2.1) (hlo : (st.map fun v => v.category).sum + 13 ≤ K.1.2.2.2.2.2) (hd : decode K.1.2.1 pc = .ok (.invokestatic idx, 3)) (hp : pc + 3 = pc') (ha : a < 2147483648) (hb : b < 2147483648) (k : Rn K Q pc' lv (.int (nI (min a b)) :: st) h) : Rn K Q pc lv (.int (nI b) :: .int (nI a) :: st) h := by
  refine Rn.mmin hw hw2 hw3 hw4 hfr hlo hd hp (Rn.top ?_ k)
  by_cases hc : b < a
  · rw [if_pos ((nI_ltI hb ha).mpr hc), Nat.min_eq_right (by omega)]
  · rw [if_neg (fun z => hc ((nI_ltI hb ha).mp z)), Nat.min_eq_left (by omega)]
end RNN
theorem lc_0 : Int64.ofNat ((0 : Fin 2) : Nat) = lN 0 := rfl
theorem lc_1 : Int64.ofNat ((1 : Fin 2) : Nat) = lN 1 := rfl
theorem pl_X0 : plainName RX0 = true := by decide
theorem pl_X1 : plainName RX1 = true := by decide
theorem pl_X2 : plainName RX2 = true := by decide
theorem pl_X3 : plainName RX3 = true := by decide
theorem pl_X4 : plainName RX4 = true := by decide
theorem pl_X5 : plainName RX5 = true := by decide
theorem pl_J7 : plainName RJ7 = true := by decide
/-! ===== a page: users, desk, window, wire, heard, as Nats ===== -/
def un (p : Nat → Nat) (i x : Nat) : Nat → Nat := fun j => if j = i then x else p j
theorem un_eq (p : Nat → Nat) (i x : Nat) : un p i x i = x := if_pos rfl
theorem un_ne (p : Nat → Nat) {i j : Nat} (x : Nat) (h : j ≠ i) : un p i x j = p j := if_neg h
theorem un_at (p : Nat → Nat) (i x j : Nat) : un p i x j = if j = i then x else p j := rfl
theorem un_un (p : Nat → Nat) (i x y : Nat) : un (un p i x) i y = un p i y := by
  funext j
  unfold un
  by_cases h : j = i
  · rw [if_pos h, if_pos h]
  · rw [if_neg h, if_neg h, if_neg h]
def wi (x : Nat) : Int32 := if x = 0 then -9 else nI (x - 1)
def pg (p : Nat → Nat) (i : Nat) : Int32 := if i < 36 then (if i = 26 then wi (p 26) else nI (p i)) else 0
def cl (p : Nat → Nat) (i : Nat) : Int32 := if i < 12 then pg p (i + 24) else if i < 36 then pg p (i - 12) else 0
theorem pg_n (p : Nat → Nat) {i : Nat} (h : i < 36) (h2 : i ≠ 26) : pg p i = nI (p i) := by unfold pg; rw [if_pos h, if_neg h2]
theorem pg_26 (p : Nat → Nat) : pg p 26 = wi (p 26) := rfl
theorem cl_us (p : Nat → Nat) {u k : Nat} (hu : u < 4) (hk : k < 6) : cl p (12 + u * 6 + k) = nI (p (6 * u + k)) := by
  unfold cl
  rw [if_neg (by omega), if_pos (by omega), pg_n p (by omega) (by omega)]
  congr 2
  omega
theorem cl_0 (p : Nat → Nat) : cl p 0 = nI (p 24) := rfl
theorem cl_1 (p : Nat → Nat) : cl p 1 = nI (p 25) := rfl
theorem cl_2 (p : Nat → Nat) : cl p 2 = wi (p 26) := rfl
theorem cl_3 (p : Nat → Nat) : cl p 3 = nI (p 27) := rfl
theorem cl_hd (p : Nat → Nat) {i : Nat} (h : i < 8) : cl p (4 + i) = nI (p (28 + i)) := by
  unfold cl
  rw [if_pos (by omega), pg_n p (by omega) (by omega)]
  congr 2
  omega
theorem upd_pg (p : Nat → Nat) {i : Nat} (x : Nat) (h : i < 36) (h2 : i ≠ 26) : upd (pg p) i (nI x) = pg (un p i x) := by
  funext j
  show (if j = i then nI x else pg p j) = pg (un p i x) j
  unfold pg un
  by_cases h3 : j = i
  · subst h3; rw [if_pos rfl, if_pos h, if_neg h2, if_pos rfl]
  · rw [if_neg h3, if_neg h3, if_neg (Ne.symm h2)]
theorem upd_pg26 (p : Nat → Nat) (x : Nat) : upd (pg p) 26 (nI x) = pg (un p 26 (x + 1)) := by
  funext j
  show (if j = 26 then nI x else pg p j) = pg (un p 26 (x + 1)) j
  unfold pg un
  by_cases h3 : j = 26
  · subst h3; rfl
  · rw [if_neg h3, if_neg h3, if_neg h3, if_neg h3]
theorem cl_ext {p : Nat → Nat} {f : Nat → Int32} (h1 : ∀ i, i < 12 → f i = pg p (i + 24)) (h2 : ∀ i, i < 24 → f (12 + i) = pg p i) (h3 : ∀ i, 36 ≤ i → f i = 0) : f = cl p := by
  funext i
  unfold cl
  by_cases a : i < 12
  · rw [if_pos a]; exact h1 i a
  · by_cases b : i < 36
    · rw [if_neg a, if_pos b, ← h2 (i - 12) (by omega)]; congr 1; omega
    · rw [if_neg a, if_neg b]; exact h3 i (by omega)
theorem cl_lo (p : Nat → Nat) {i : Nat} (h : i < 12) : cl p i = pg p (i + 24) := by unfold cl; rw [if_pos h]
theorem cl_hi (p : Nat → Nat) {i : Nat} (h : i < 24) : cl p (12 + i) = pg p i := by unfold cl; rw [if_neg (by omega), if_pos (by omega)]; congr 1; omega
theorem cl_out (p : Nat → Nat) {i : Nat} (h : 36 ≤ i) : cl p i = 0 := by unfold cl; rw [if_neg (by omega), if_neg (by omega)]
theorem upd_cl (p : Nat → Nat) {i j : Nat} {x : Int32} {y : Nat} (h : (i < 12 ∧ j = i + 24) ∨ (12 ≤ i ∧ i < 36 ∧ j = i - 12)) (hx : upd (pg p) j x = pg (un p j y)) : upd (cl p) i x = cl (un p j y) := by
  refine cl_ext (fun a ha => ?_) (fun a ha => ?_) (fun a ha => ?_)
  · rw [← hx]
    show (if a = i then x else cl p a) = if a + 24 = j then x else pg p (a + 24)
    by_cases e : a = i
    · rw [if_pos e, if_pos (by omega)]
    · rw [if_neg e, if_neg (by omega), cl_lo p ha]
  · rw [← hx]
    show (if 12 + a = i then x else cl p (12 + a)) = if a = j then x else pg p a
    by_cases e : 12 + a = i
    · rw [if_pos e, if_pos (by omega)]
    · rw [if_neg e, if_neg (by omega), cl_hi p ha]
  · show (if a = i then x else cl p a) = 0
    rw [if_neg (by omega), cl_out p ha]
theorem upd_us (p : Nat → Nat) {u k : Nat} (x : Nat) (hu : u < 4) (hk : k < 6) : upd (cl p) (12 + u * 6 + k) (nI x) = cl (un p (6 * u + k) x) := upd_cl p (Or.inr ⟨by omega, by omega, by omega⟩) (upd_pg p x (by omega) (by omega))
theorem upd_c0 (p : Nat → Nat) (x : Nat) : upd (cl p) 0 (nI x) = cl (un p 24 x) := upd_cl p (Or.inl ⟨by omega, rfl⟩) (upd_pg p x (by omega) (by omega))
theorem upd_c1 (p : Nat → Nat) (x : Nat) : upd (cl p) 1 (nI x) = cl (un p 25 x) := upd_cl p (Or.inl ⟨by omega, rfl⟩) (upd_pg p x (by omega) (by omega))
theorem upd_c2 (p : Nat → Nat) (x : Nat) : upd (cl p) 2 (nI x) = cl (un p 26 (x + 1)) := upd_cl p (Or.inl ⟨by omega, rfl⟩) (upd_pg26 p x)
theorem upd_c3 (p : Nat → Nat) (x : Nat) : upd (cl p) 3 (nI x) = cl (un p 27 x) := upd_cl p (Or.inl ⟨by omega, rfl⟩) (upd_pg p x (by omega) (by omega))
theorem upd_hd (p : Nat → Nat) {i : Nat} (x : Nat) (h : i < 8) : upd (cl p) (4 + i) (nI x) = cl (un p (28 + i) x) := upd_cl p (Or.inl ⟨by omega, by omega⟩) (upd_pg p x (by omega) (by omega))
/-- what every page keeps to -/
def OKp (p : Nat → Nat) : Prop := p 24 ≤ 4 ∧ 1 ≤ p 25 ∧ p 25 ≤ 6 ∧ p 27 ≤ 8 ∧ (∀ u, u < 4 → p (6 * u) < 251 ∧ p (6 * u + 1) < 251 ∧ p (6 * u + 2) ≤ 30 ∧ p (6 * u + 3) ≤ 30 ∧ p (6 * u + 4) < 251 ∧ p (6 * u + 5) ≤ 30) ∧ (∀ i, i < 8 → p (28 + i) % 1000 < 251 ∧ p (28 + i) / 1000 < 4) ∧ (p 26 = 0 ∨ ((p 26 - 1) % 1000 < 251 ∧ (p 26 - 1) / 1000 < 4))
theorem OKp.us {p : Nat → Nat} (O : OKp p) {u : Nat} (hu : u < 4) : p (6 * u) < 251 ∧ p (6 * u + 1) < 251 ∧ p (6 * u + 2) ≤ 30 ∧ p (6 * u + 3) ≤ 30 ∧ p (6 * u + 4) < 251 ∧ p (6 * u + 5) ≤ 30 := O.2.2.2.2.1 u hu
theorem OKp.lt {p : Nat → Nat} (O : OKp p) {u k : Nat} (hu : u < 4) (hk : k < 6) : p (6 * u + k) < 251 := by
  obtain ⟨h0, h1, h2, h3, h4, h5⟩ := O.us hu
  match k, hk with
  | 0, _ => exact h0
  | 1, _ => exact h1
  | 2, _ => omega
  | 3, _ => omega
  | 4, _ => exact h4
  | 5, _ => omega
  | k + 6, hk => omega
/-- is there such a user -/
def hasB (m : Nat) (x : Int32) : Bool := decide (0 ≤ x.toInt ∧ x.toInt < (m : Int))
theorem hasB_nI {m u : Nat} (hu : u < 2147483648) : hasB m (nI u) = decide (u < m) := by
  unfold hasB
  rw [nI_toInt hu]
  by_cases h : u < m
  · rw [decide_eq_true (⟨by omega, by omega⟩ : (0:Int) ≤ (u : Int) ∧ (u : Int) < (m : Int)), decide_eq_true h]
  · rw [decide_eq_false (fun z : (0:Int) ≤ (u : Int) ∧ (u : Int) < (m : Int) => h (by omega)), decide_eq_false h]
theorem hasB_of {m : Nat} {x : Int32} (h : hasB m x = true) : ∃ u, u < m ∧ x = nI u := by
  unfold hasB at h
  have h := of_decide_eq_true h
  obtain ⟨j, hj, e⟩ := nI_of (x := x) (by rw [Int32.lt_iff_toInt_lt]; simp; omega)
  subst e
  rw [nI_toInt hj] at h
  exact ⟨j, by omega, rfl⟩
/-- is it within -/
def isW (v lo hi : Int32) : Bool := decide (lo.toInt ≤ v.toInt ∧ v.toInt ≤ hi.toInt)
theorem isW_of {v : Int32} {hi : Nat} (h : isW v (nI 0) (nI hi) = true) (hh : hi < 2147483648) : ∃ a, a ≤ hi ∧ v = nI a := by
  unfold isW at h
  have h := of_decide_eq_true h
  rw [nI_toInt hh, nI_toInt (by omega)] at h
  obtain ⟨j, hj, e⟩ := nI_of (x := v) (by rw [Int32.lt_iff_toInt_lt]; simp; omega)
  subst e
  rw [nI_toInt hj] at h
  exact ⟨j, by omega, rfl⟩
theorem isW_nI {a lo hi : Nat} (ha : a < 2147483648) (hl : lo < 2147483648) (hh : hi < 2147483648) : isW (nI a) (nI lo) (nI hi) = decide (lo ≤ a ∧ a ≤ hi) := by
  unfold isW
  rw [nI_toInt ha, nI_toInt hl, nI_toInt hh]
  by_cases h : lo ≤ a ∧ a ≤ hi
  · rw [decide_eq_true (⟨by omega, by omega⟩ : (lo:Int) ≤ (a : Int) ∧ (a : Int) ≤ (hi : Int)), decide_eq_true h]
  · rw [decide_eq_false (fun z : (lo:Int) ≤ (a : Int) ∧ (a : Int) ≤ (hi : Int) => h ⟨by omega, by omega⟩), decide_eq_false h]
/-- the rule, so many times -/
def nx (s v : Nat) : Nat := (v * v + s) % 251
def bh (s v : Nat) : Nat → Nat
  | 0 => v
  | k + 1 => nx s (bh s v k)
theorem nx_lt (s v : Nat) : nx s v < 251 := Nat.mod_lt _ (by omega)
theorem bh_lt {s v : Nat} (hv : v < 251) : ∀ k, bh s v k < 251
  | 0 => hv
  | _ + 1 => nx_lt _ _
theorem bh_nx (s v : Nat) : ∀ k, bh s (nx s v) k = bh s v (k + 1)
  | 0 => rfl
  | k + 1 => congrArg (nx s) (bh_nx s v k)
/-- by which k it fits: the rule is tried up to n times more, k the next number, x what it has come to -/
def ftL (s last : Nat) : Nat → Nat → Nat → Nat
  | 0, _, _ => 0
  | n + 1, k, x => if nx s x = last then k else ftL s last n (k + 1) (nx s x)
def fit (s last most v : Nat) : Nat := ftL s last most 1 v
def fitP (p : Nat → Nat) (u v : Nat) : Nat := fit (p (6 * u + 1)) (p (6 * u + 4)) (min (p 25) (p (6 * u + 5))) v
theorem ftL_le (s last : Nat) : ∀ n k x, ftL s last n k x ≤ k + n - 1
  | 0, k, x => by unfold ftL; omega
  | n + 1, k, x => by
    unfold ftL
    split
    · omega
    · have := ftL_le s last n (k + 1) (nx s x); omega
theorem fit_le (s last most v : Nat) : fit s last most v ≤ most := by have := ftL_le s last most 1 v; unfold fit; omega
/-- a hall at q: its cells at q + 1 -/
def Hl (h : rHp) (q : Nat) (p : Nat → Nat) : Prop := h.2.2 q = .inr (.inr (0, [.ref (q + 1)])) ∧ h.2.2 (q + 1) = .inl (36, cl p) ∧ q < h.1 ∧ q + 1 < h.1
def hp (h : rHp) (q : Nat) (p : Nat → Nat) : rHp := hs h (q + 1) (.inl (36, cl p))
theorem Hl.put {h : rHp} {q : Nat} {p : Nat → Nat} (H : Hl h q p) (p' : Nat → Nat) : Hl (hp h q p') q p' := ⟨(hs_ne h _ (by omega)).trans H.1, hs_eq _ _ _, H.2.2.1, H.2.2.2⟩
theorem hp_hp (h : rHp) (q : Nat) (p p' : Nat → Nat) : hp (hp h q p) q p' = hp h q p' := hs_hs _ _ _ _
theorem Hl.same {h : rHp} {q : Nat} {p : Nat → Nat} (H : Hl h q p) : hp h q p = h := hs_self h H.2.1
theorem Hl.upd {h : rHp} {q : Nat} {p' : Nat → Nat} {f : Nat → Int32} (e : f = cl p') : hs h (q + 1) (.inl (36, f)) = hp h q p' := by subst e; rfl
end
section
theorem Rn.pick {K : rK} {Q : Option Value → rHp → Prop} {pc : Nat} {lv lv' : List (Nat × Value)} {st : List Value} {h : rHp} (ks : List Nat) (hl : lv_pick lv ks = lv') (k : Rn K Q pc lv' st h) : Rn K Q pc lv st h := by
  refine Rn.sub lv' (fun q hq => ?_) k
  rw [← hl] at hq
  obtain ⟨i, -, hi⟩ := List.mem_filterMap.mp hq
  exact List.mem_of_getElem? hi
theorem hasB_neg {m : Nat} {x : Int32} (h : x < 0) : hasB m x = false := by
  unfold hasB
  rw [Int32.lt_iff_toInt_lt] at h
  exact decide_eq_false (fun z => by have : (0 : Int32).toInt = 0 := rfl; omega)
theorem hasB_big {m : Nat} {x : Int32} (h : nI m ≤ x) (hm : m < 2147483648) : hasB m x = false := by
  unfold hasB
  rw [Int32.le_iff_toInt_le, nI_toInt hm] at h
  exact decide_eq_false (fun z => by omega)
theorem hasB_ok {m : Nat} {x : Int32} (h0 : ¬ x < 0) (h : ¬ nI m ≤ x) (hm : m < 2147483648) : hasB m x = true := by
  unfold hasB
  rw [Int32.le_iff_toInt_le, nI_toInt hm] at h
  rw [Int32.lt_iff_toInt_lt] at h0
  exact decide_eq_true (by have : (0 : Int32).toInt = 0 := rfl; omega)
theorem isW_lo {v lo hi : Int32} (h : v < lo) : isW v lo hi = false := by
  unfold isW
  rw [Int32.lt_iff_toInt_lt] at h
  exact decide_eq_false (fun z => by omega)
theorem isW_hi {v lo hi : Int32} (h : hi < v) : isW v lo hi = false := by
  unfold isW
  rw [Int32.lt_iff_toInt_lt] at h
  exact decide_eq_false (fun z => by omega)
theorem isW_ok {v lo hi : Int32} (h : ¬ v < lo) (h2 : ¬ hi < v) : isW v lo hi = true := by
  unfold isW
  rw [Int32.lt_iff_toInt_lt] at h h2
  exact decide_eq_true (by omega)
theorem t_X4_isWithin {h : rHp} {Q : Option Value → rHp → Prop} {v lo hi : Int32} (k : Q (some (.int (bi (isW v lo hi)))) h) : Cl M_X4_isWithin h.1 h.2.1 [.int v, .int lo, .int hi] h Q := by
  refine Cl.of pl_X4 (Nat.le_of_ble_eq_true rfl) (by first | exact Nat.le_refl _ | omega) (by first | exact Nat.le_refl _ | omega) ?_
  refine Rn.iload_n dX4_isWithin_0 rfl rfl ?_
  refine Rn.iload_n dX4_isWithin_1 rfl rfl ?_
  refine Rn.icmp_lt (tgt := 14) dX4_isWithin_2 rfl (by decide) (fun c2 => ?_) (fun c2 => ?_)
  · refine Rn.iconst dX4_isWithin_14 rfl ic_0 ?_
    refine Rn.zret dX4_isWithin_15 rfl (by decide) rfl rfl ?_
    first | exact rn_fin k (by rw [isW_lo c2, bi_f]) rfl | exact rn_fin k (by rw [isW_hi c7, bi_f]) rfl | exact rn_fin k (by rw [isW_ok c2 c7, bi_t]) rfl
  · refine Rn.iload_n dX4_isWithin_5 rfl rfl ?_
    refine Rn.iload_n dX4_isWithin_6 rfl rfl ?_
    refine Rn.icmp_gt (tgt := 14) dX4_isWithin_7 rfl (by decide) (fun c7 => ?_) (fun c7 => ?_)
    · refine Rn.iconst dX4_isWithin_14 rfl ic_0 ?_
      refine Rn.zret dX4_isWithin_15 rfl (by decide) rfl rfl ?_
      first | exact rn_fin k (by rw [isW_lo c2, bi_f]) rfl | exact rn_fin k (by rw [isW_hi c7, bi_f]) rfl | exact rn_fin k (by rw [isW_ok c2 c7, bi_t]) rfl
    · refine Rn.iconst dX4_isWithin_10 rfl ic_1 ?_
      refine Rn.goto (tgt := 15) dX4_isWithin_11 (by decide) ?_
      refine Rn.zret dX4_isWithin_15 rfl (by decide) rfl rfl ?_
      first | exact rn_fin k (by rw [isW_lo c2, bi_f]) rfl | exact rn_fin k (by rw [isW_hi c7, bi_f]) rfl | exact rn_fin k (by rw [isW_ok c2 c7, bi_t]) rfl
theorem t_X4_isNumber {h : rHp} {Q : Option Value → rHp → Prop} {v : Int32} (k : Q (some (.int (bi (isW v (nI 0) (nI 250))))) h) : Cl M_X4_isNumber h.1 h.2.1 [.int v] h Q := by
  refine Cl.of pl_X4 (Nat.le_of_ble_eq_true rfl) (by first | exact Nat.le_refl _ | omega) (by first | exact Nat.le_refl _ | omega) ?_
  refine Rn.iload_n dX4_isNumber_0 rfl rfl ?_
  refine Rn.iconst dX4_isNumber_1 rfl ic_0 ?_
  refine Rn.sipush dX4_isNumber_2 rfl sp_250 ?_
  refine Rn.callS (as := [_, _, _]) s_X4_isWithin l_X4_96 ⟨Nat.le_of_ble_eq_true rfl, Nat.le_of_ble_eq_true rfl⟩ dX4_isNumber_5 rfl rfl (Nat.le_of_ble_eq_true rfl) (Nat.le_refl _) (Nat.le_refl _) (t_X4_isWithin ?_)
  refine Rn.zret dX4_isNumber_8 rfl (bi_01 _) rfl rfl ?_
  exact k
theorem t_X4_stepsBehind {h : rHp} {Q : Option Value → rHp → Prop} {a s n : Nat} (ha : a < 251) (hs : s < 251) (hn : n < 100000) (k : Q (some (.int (nI (bh s a n)))) h) : Cl M_X4_stepsBehind h.1 h.2.1 [.int (nI a), .int (nI s), .int (nI n)] h Q := by
  refine Cl.of pl_X4 (Nat.le_of_ble_eq_true rfl) (by first | exact Nat.le_refl _ | omega) (by first | exact Nat.le_refl _ | omega) ?_
  refine Rn.iload_n dX4_stepsBehind_0 rfl rfl ?_
  refine Rn.istore_n dX4_stepsBehind_1 rfl (Nat.le_of_ble_eq_true rfl) ?_
  refine Rn.iconst dX4_stepsBehind_2 rfl ic_0 ?_
  refine Rn.istore dX4_stepsBehind_3 rfl (Nat.le_of_ble_eq_true rfl) ?_
  have hloop : ∀ (m : Nat) (i : Nat), n - i < m → i ≤ n → Rn (M_X4_stepsBehind, none, h.1, h.2.1) Q 5 [(1, .int (nI s)), (2, .int (nI n)), (3, .int (nI (bh s a i))), (4, .int (nI i))] [] h := by
    intro m
    induction m with
    | zero => intro i h0 h1; exact absurd h0 (Nat.not_lt_zero _)
    | succ m ih =>
      intro i h0 h1
      have hb : bh s a i < 251 := bh_lt ha i
      have hb2 : bh s a i * bh s a i ≤ 250 * 250 := Nat.mul_le_mul (by omega) (by omega)
      refine Rn.iload dX4_stepsBehind_5 rfl rfl ?_
      refine Rn.iload_n dX4_stepsBehind_7 rfl rfl ?_
      refine Rn.icmp_geN (tgt := 27) dX4_stepsBehind_8 rfl (by decide) (by omega) (by omega) (fun c8 => ?_) (fun c8 => ?_)
      · refine Rn.iload_n dX4_stepsBehind_27 rfl rfl ?_
        refine Rn.iret dX4_stepsBehind_28 rfl rfl rfl ?_
        rw [show i = n by omega]
        exact k
      · refine Rn.iload_n dX4_stepsBehind_11 rfl rfl ?_
        refine Rn.iload_n dX4_stepsBehind_12 rfl rfl ?_
        refine Rn.imulN dX4_stepsBehind_13 rfl ?_
        refine Rn.iload_n dX4_stepsBehind_14 rfl rfl ?_
        refine Rn.iaddN dX4_stepsBehind_15 rfl ?_
        refine Rn.sipush dX4_stepsBehind_16 rfl sp_251 ?_
        refine Rn.iremN dX4_stepsBehind_19 rfl (by omega) (by omega) (by omega) ?_
        refine Rn.istore_n dX4_stepsBehind_20 rfl (Nat.le_of_ble_eq_true rfl) ?_
        refine Rn.iincN dX4_stepsBehind_21 rfl rfl (Nat.le_of_ble_eq_true rfl) ?_
        refine Rn.goto (tgt := 5) dX4_stepsBehind_24 (by decide) ?_
        exact Rn.pick [2, 3, 1, 0] rfl (ih (i + 1) (by omega) (by omega))
  exact Rn.pick [3, 4, 1, 0] rfl (hloop (n + 1) 0 (by omega) (by omega))
theorem t_X0_has {h : rHp} {Q : Option Value → rHp → Prop} {q : Nat} {p : Nat → Nat} (H : Hl h q p) (hm : p 24 ≤ 4) {x : Int32} (k : Q (some (.int (bi (hasB (p 24) x)))) h) : Cl M_X0_has h.1 h.2.1 [.ref q, .int x] h Q := by
  refine Cl.of pl_X0 (Nat.le_of_ble_eq_true rfl) (by first | exact Nat.le_refl _ | omega) (by first | exact Nat.le_refl _ | omega) ?_
  refine Rn.iload_n dX0_has_0 rfl rfl ?_
  refine Rn.if_lt (tgt := 18) dX0_has_1 rfl (by decide) (fun c1 => ?_) (fun c1 => ?_)
  · refine Rn.iconst dX0_has_18 rfl ic_0 ?_
    refine Rn.zret dX0_has_19 rfl (by decide) rfl rfl ?_
    first | exact rn_fin k (by rw [hasB_neg c1, bi_f]) rfl | exact rn_fin k (by rw [hasB_big c11 (by omega), bi_f]) rfl | exact rn_fin k (by rw [hasB_ok c1 c11 (by omega), bi_t]) rfl
  · refine Rn.iload_n dX0_has_4 rfl rfl ?_
    refine Rn.aload_n dX0_has_5 rfl rfl ?_
    refine Rn.getf f_X0_11 dX0_has_6 rfl H.1 H.2.2.1 rfl ?_
    refine Rn.iconst dX0_has_9 rfl ic_0 ?_
    refine Rn.ialdN dX0_has_10 rfl H.2.1 H.2.2.2 (by omega) (by omega) ?_
    refine Rn.top (cl_0 p) ?_
    refine Rn.icmp_ge (tgt := 18) dX0_has_11 rfl (by decide) (fun c11 => ?_) (fun c11 => ?_)
    · refine Rn.iconst dX0_has_18 rfl ic_0 ?_
      refine Rn.zret dX0_has_19 rfl (by decide) rfl rfl ?_
      first | exact rn_fin k (by rw [hasB_neg c1, bi_f]) rfl | exact rn_fin k (by rw [hasB_big c11 (by omega), bi_f]) rfl | exact rn_fin k (by rw [hasB_ok c1 c11 (by omega), bi_t]) rfl
    · refine Rn.iconst dX0_has_14 rfl ic_1 ?_
      refine Rn.goto (tgt := 19) dX0_has_15 (by decide) ?_
      refine Rn.zret dX0_has_19 rfl (by decide) rfl rfl ?_
      first | exact rn_fin k (by rw [hasB_neg c1, bi_f]) rfl | exact rn_fin k (by rw [hasB_big c11 (by omega), bi_f]) rfl | exact rn_fin k (by rw [hasB_ok c1 c11 (by omega), bi_t]) rfl
theorem t_X0_of {h : rHp} {Q : Option Value → rHp → Prop} {q : Nat} {p : Nat → Nat} (H : Hl h q p) {u w : Nat} (hu : u < 4) (hw : w < 6) (k : Q (some (.int (nI (p (6 * u + w))))) h) : Cl M_X0_of h.1 h.2.1 [.ref q, .int (nI u), .int (nI w)] h Q := by
  refine Cl.of pl_X0 (Nat.le_of_ble_eq_true rfl) (by first | exact Nat.le_refl _ | omega) (by first | exact Nat.le_refl _ | omega) ?_
  refine Rn.iload_n dX0_of_0 rfl rfl ?_
  refine Rn.if_ltN (tgt := 23) dX0_of_1 rfl (by decide) (by omega) (fun c1 => ?_) (fun c1 => ?_)
  · first | omega | exact False.elim c1
  · refine Rn.iload_n dX0_of_4 rfl rfl ?_
    refine Rn.iconst dX0_of_5 rfl ic_4 ?_
    refine Rn.icmp_geN (tgt := 23) dX0_of_6 rfl (by decide) (by omega) (by omega) (fun c6 => ?_) (fun c6 => ?_)
    · first | omega | exact False.elim c6
    · refine Rn.iload_n dX0_of_9 rfl rfl ?_
      refine Rn.if_ltN (tgt := 23) dX0_of_10 rfl (by decide) (by omega) (fun c10 => ?_) (fun c10 => ?_)
      · first | omega | exact False.elim c10
      · refine Rn.iload_n dX0_of_13 rfl rfl ?_
        refine Rn.bipush dX0_of_14 rfl bp_6 ?_
        refine Rn.icmp_geN (tgt := 23) dX0_of_16 rfl (by decide) (by omega) (by omega) (fun c16 => ?_) (fun c16 => ?_)
        · first | omega | exact False.elim c16
        · refine Rn.iconst dX0_of_19 rfl ic_1 ?_
          refine Rn.goto (tgt := 24) dX0_of_20 (by decide) ?_
          refine Rn.istore_n dX0_of_24 rfl (Nat.le_of_ble_eq_true rfl) ?_
          refine Rn.iload_n dX0_of_25 rfl rfl ?_
          refine Rn.if_eqN (tgt := 46) dX0_of_26 rfl (by decide) (by omega) (fun c26 => ?_) (fun c26 => ?_)
          · first | omega | exact False.elim c26
          · refine Rn.aload_n dX0_of_29 rfl rfl ?_
            refine Rn.getf f_X0_11 dX0_of_30 rfl H.1 H.2.2.1 rfl ?_
            refine Rn.bipush dX0_of_33 rfl bp_12 ?_
            refine Rn.iload_n dX0_of_35 rfl rfl ?_
            refine Rn.bipush dX0_of_36 rfl bp_6 ?_
            refine Rn.imulN dX0_of_38 rfl ?_
            refine Rn.iaddN dX0_of_39 rfl ?_
            refine Rn.iload_n dX0_of_40 rfl rfl ?_
            refine Rn.iaddN dX0_of_41 rfl ?_
            refine Rn.ialdN dX0_of_42 rfl H.2.1 H.2.2.2 (by omega) (by omega) ?_
            refine Rn.top (cl_us p hu hw) ?_
            refine Rn.goto (tgt := 47) dX0_of_43 (by decide) ?_
            refine Rn.iret dX0_of_47 rfl rfl rfl ?_
            exact k
theorem t_X0_put {h : rHp} {Q : Option Value → rHp → Prop} {q : Nat} {p : Nat → Nat} (H : Hl h q p) {u w x : Nat} (hu : u < 4) (hw : w < 6) (k : Q none (hp h q (un p (6 * u + w) x))) : Cl M_X0_put h.1 h.2.1 [.ref q, .int (nI u), .int (nI w), .int (nI x)] h Q := by
  refine Cl.of pl_X0 (Nat.le_of_ble_eq_true rfl) (by first | exact Nat.le_refl _ | omega) (by first | exact Nat.le_refl _ | omega) ?_
  refine Rn.iload_n dX0_put_0 rfl rfl ?_
  refine Rn.if_ltN (tgt := 34) dX0_put_1 rfl (by decide) (by omega) (fun c1 => ?_) (fun c1 => ?_)
  · first | omega | exact False.elim c1
  · refine Rn.iload_n dX0_put_4 rfl rfl ?_
    refine Rn.iconst dX0_put_5 rfl ic_4 ?_
    refine Rn.icmp_geN (tgt := 34) dX0_put_6 rfl (by decide) (by omega) (by omega) (fun c6 => ?_) (fun c6 => ?_)
    · first | omega | exact False.elim c6
    · refine Rn.iload_n dX0_put_9 rfl rfl ?_
      refine Rn.if_ltN (tgt := 34) dX0_put_10 rfl (by decide) (by omega) (fun c10 => ?_) (fun c10 => ?_)
      · first | omega | exact False.elim c10
      · refine Rn.iload_n dX0_put_13 rfl rfl ?_
        refine Rn.bipush dX0_put_14 rfl bp_6 ?_
        refine Rn.icmp_geN (tgt := 34) dX0_put_16 rfl (by decide) (by omega) (by omega) (fun c16 => ?_) (fun c16 => ?_)
        · first | omega | exact False.elim c16
        · refine Rn.aload_n dX0_put_19 rfl rfl ?_
          refine Rn.getf f_X0_11 dX0_put_20 rfl H.1 H.2.2.1 rfl ?_
          refine Rn.bipush dX0_put_23 rfl bp_12 ?_
          refine Rn.iload_n dX0_put_25 rfl rfl ?_
          refine Rn.bipush dX0_put_26 rfl bp_6 ?_
          refine Rn.imulN dX0_put_28 rfl ?_
          refine Rn.iaddN dX0_put_29 rfl ?_
          refine Rn.iload_n dX0_put_30 rfl rfl ?_
          refine Rn.iaddN dX0_put_31 rfl ?_
          refine Rn.iload_n dX0_put_32 rfl rfl ?_
          refine Rn.iastN dX0_put_33 rfl H.2.1 H.2.2.2 (by omega) (by omega) ?_
          refine Rn.heap (Hl.upd (upd_us p x hu hw)) ?_
          refine Rn.ret dX0_put_34 rfl rfl rfl ?_
          exact k
theorem t_X0_users {h : rHp} {Q : Option Value → rHp → Prop} {q : Nat} {p : Nat → Nat} (H : Hl h q p) (k : Q (some (.int (nI (p 24)))) h) : Cl M_X0_users h.1 h.2.1 [.ref q] h Q := by
  refine Cl.of pl_X0 (Nat.le_of_ble_eq_true rfl) (by first | exact Nat.le_refl _ | omega) (by first | exact Nat.le_refl _ | omega) ?_
  refine Rn.aload_n dX0_users_0 rfl rfl ?_
  refine Rn.getf f_X0_11 dX0_users_1 rfl H.1 H.2.2.1 rfl ?_
  refine Rn.iconst dX0_users_4 rfl ic_0 ?_
  refine Rn.ialdN dX0_users_5 rfl H.2.1 H.2.2.2 (by omega) (by omega) ?_
  refine Rn.top (cl_0 p) ?_
  refine Rn.iret dX0_users_6 rfl rfl rfl ?_
  exact k
theorem t_X0_window {h : rHp} {Q : Option Value → rHp → Prop} {q : Nat} {p : Nat → Nat} (H : Hl h q p) (k : Q (some (.int (nI (p 25)))) h) : Cl M_X0_window h.1 h.2.1 [.ref q] h Q := by
  refine Cl.of pl_X0 (Nat.le_of_ble_eq_true rfl) (by first | exact Nat.le_refl _ | omega) (by first | exact Nat.le_refl _ | omega) ?_
  refine Rn.aload_n dX0_window_0 rfl rfl ?_
  refine Rn.getf f_X0_11 dX0_window_1 rfl H.1 H.2.2.1 rfl ?_
  refine Rn.iconst dX0_window_4 rfl ic_1 ?_
  refine Rn.ialdN dX0_window_5 rfl H.2.1 H.2.2.2 (by omega) (by omega) ?_
  refine Rn.top (cl_1 p) ?_
  refine Rn.iret dX0_window_6 rfl rfl rfl ?_
  exact k
theorem t_X0_wire {h : rHp} {Q : Option Value → rHp → Prop} {q : Nat} {p : Nat → Nat} (H : Hl h q p) (k : Q (some (.int (wi (p 26)))) h) : Cl M_X0_wire h.1 h.2.1 [.ref q] h Q := by
  refine Cl.of pl_X0 (Nat.le_of_ble_eq_true rfl) (by first | exact Nat.le_refl _ | omega) (by first | exact Nat.le_refl _ | omega) ?_
  refine Rn.aload_n dX0_wire_0 rfl rfl ?_
  refine Rn.getf f_X0_11 dX0_wire_1 rfl H.1 H.2.2.1 rfl ?_
  refine Rn.iconst dX0_wire_4 rfl ic_2 ?_
  refine Rn.ialdN dX0_wire_5 rfl H.2.1 H.2.2.2 (by omega) (by omega) ?_
  refine Rn.top (cl_2 p) ?_
  refine Rn.iret dX0_wire_6 rfl rfl rfl ?_
  exact k
theorem t_X0_heardCount {h : rHp} {Q : Option Value → rHp → Prop} {q : Nat} {p : Nat → Nat} (H : Hl h q p) (k : Q (some (.int (nI (p 27)))) h) : Cl M_X0_heardCount h.1 h.2.1 [.ref q] h Q := by
  refine Cl.of pl_X0 (Nat.le_of_ble_eq_true rfl) (by first | exact Nat.le_refl _ | omega) (by first | exact Nat.le_refl _ | omega) ?_
  refine Rn.aload_n dX0_heardCount_0 rfl rfl ?_
  refine Rn.getf f_X0_11 dX0_heardCount_1 rfl H.1 H.2.2.1 rfl ?_
  refine Rn.iconst dX0_heardCount_4 rfl ic_3 ?_
  refine Rn.ialdN dX0_heardCount_5 rfl H.2.1 H.2.2.2 (by omega) (by omega) ?_
  refine Rn.top (cl_3 p) ?_
  refine Rn.iret dX0_heardCount_6 rfl rfl rfl ?_
  exact k
theorem t_X0_setWindow {h : rHp} {Q : Option Value → rHp → Prop} {q : Nat} {p : Nat → Nat} (H : Hl h q p) {x : Nat} (k : Q none (hp h q (un p 25 x))) : Cl M_X0_setWindow h.1 h.2.1 [.ref q, .int (nI x)] h Q := by
  refine Cl.of pl_X0 (Nat.le_of_ble_eq_true rfl) (by first | exact Nat.le_refl _ | omega) (by first | exact Nat.le_refl _ | omega) ?_
  refine Rn.aload_n dX0_setWindow_0 rfl rfl ?_
  refine Rn.getf f_X0_11 dX0_setWindow_1 rfl H.1 H.2.2.1 rfl ?_
  refine Rn.iconst dX0_setWindow_4 rfl ic_1 ?_
  refine Rn.iload_n dX0_setWindow_5 rfl rfl ?_
  refine Rn.iastN dX0_setWindow_6 rfl H.2.1 H.2.2.2 (by omega) (by omega) ?_
  refine Rn.heap (Hl.upd (upd_c1 p x)) ?_
  refine Rn.ret dX0_setWindow_7 rfl rfl rfl ?_
  exact k
/-! ===== what the hall's methods answer, in Nats ===== -/
def ow (p : Nat → Nat) (u : Nat) : Bool := decide (u < p 24) && decide (0 < p (6 * u + 3))
def ownB (p : Nat → Nat) (x : Int32) : Bool := hasB (p 24) x && decide (0 < p (6 * x.toNatClampNeg + 3))
theorem ownB_nI {p : Nat → Nat} {u : Nat} (hu : u < 2147483648) : ownB p (nI u) = ow p u := by
  unfold ownB ow
  rw [hasB_nI hu, nI_clamp hu]
theorem ow_t {p : Nat → Nat} {u : Nat} (h : ow p u = true) : u < p 24 ∧ 0 < p (6 * u + 3) := by
  unfold ow at h
  rw [Bool.and_eq_true] at h
  exact ⟨of_decide_eq_true h.1, of_decide_eq_true h.2⟩
theorem ow_mk {p : Nat → Nat} {u : Nat} (h : u < p 24) (h2 : 0 < p (6 * u + 3)) : ow p u = true := by
  unfold ow
  rw [decide_eq_true h, decide_eq_true h2]; rfl
theorem ow_no {p : Nat → Nat} {u : Nat} (h2 : p (6 * u + 3) = 0) : ow p u = false := by
  unfold ow
  rw [h2, Bool.and_comm]; rfl
theorem ow_hn {p : Nat → Nat} {u : Nat} (h : ¬ u < p 24) : ow p u = false := by
  unfold ow
  rw [decide_eq_false h]; rfl
theorem ownB_hn {p : Nat → Nat} {x : Int32} (h : hasB (p 24) x = false) : ownB p x = false := by
  unfold ownB
  rw [h]; rfl
theorem ownB_t {p : Nat → Nat} {x : Int32} (O : OKp p) (h : ownB p x = true) : ∃ u, u < 4 ∧ u < p 24 ∧ 0 < p (6 * u + 3) ∧ x = nI u := by
  unfold ownB at h
  rw [Bool.and_eq_true] at h
  obtain ⟨u, hu, rfl⟩ := hasB_of h.1
  have := O.1
  rw [nI_clamp (by omega)] at h
  exact ⟨u, by omega, hu, of_decide_eq_true h.2, rfl⟩
def anyU (p : Nat → Nat) : Nat → Bool
  | 0 => false
  | i + 1 => anyU p i || ow p i
theorem anyU_l {p : Nat → Nat} {i : Nat} (h : anyU p i = true) : nI 1 = bi (anyU p (i + 1)) := by
  show nI 1 = bi (anyU p i || ow p i)
  rw [h, Bool.true_or, bi_t]
theorem anyU_r {p : Nat → Nat} {i : Nat} (h : ow p i = true) : nI 1 = bi (anyU p (i + 1)) := by
  show nI 1 = bi (anyU p i || ow p i)
  rw [h, Bool.or_true, bi_t]
theorem anyU_n {p : Nat → Nat} {i : Nat} (h : anyU p i = false) (h2 : ow p i = false) : nI 0 = bi (anyU p (i + 1)) := by
  show nI 0 = bi (anyU p i || ow p i)
  rw [h, h2, Bool.or_false, bi_f]
def spP (p : Nat → Nat) (u : Nat) : Nat → Nat := if ow p u then un p (6 * u + 3) (p (6 * u + 3) - 1) else p
def brP (p : Nat → Nat) (u v : Nat) : Nat → Nat := if 0 < fitP p u v then un (un (un p 26 (1000 * u + v + 1)) (6 * u + 4) v) (6 * u + 5) (p (6 * u + 5) - fitP p u v) else un p 26 (1000 * u + v + 1)
/-- pass i of a user -/
def psP (p : Nat → Nat) (u i : Nat) : Nat := bh (p (6 * u + 1)) (p (6 * u)) i
def seP (p : Nat → Nat) (u : Nat) : Nat → Nat := if ow p u then brP (spP p u) u (psP p u (p (6 * u + 3) - 1)) else p
def seK (p : Nat → Nat) (u : Nat) : Nat := if ow p u then fitP p u (psP p u (p (6 * u + 3) - 1)) else 0
def stp (p : Nat → Nat) (u : Nat) : Bool := ow p u && decide (0 < fitP p u (psP p u (p (6 * u + 3) - 1)))
theorem fitP_cong {p p' : Nat → Nat} {u v : Nat} (h1 : p' (6 * u + 1) = p (6 * u + 1)) (h4 : p' (6 * u + 4) = p (6 * u + 4)) (h5 : p' (6 * u + 5) = p (6 * u + 5)) (hw : p' 25 = p 25) : fitP p' u v = fitP p u v := by
  unfold fitP
  rw [h1, h4, h5, hw]
theorem fitP_26 (p : Nat → Nat) {u : Nat} (hu : u < 4) (x v : Nat) : fitP (un p 26 x) u v = fitP p u v := fitP_cong (un_ne p x (by omega)) (un_ne p x (by omega)) (un_ne p x (by omega)) (un_ne p x (by omega))
theorem fitP_own (p : Nat → Nat) {u : Nat} (hu : u < 4) (x v w : Nat) (hw : w < 4) : fitP (un p (6 * w + 3) x) u v = fitP p u v := fitP_cong (un_ne p x (by omega)) (un_ne p x (by omega)) (un_ne p x (by omega)) (un_ne p x (by omega))
theorem fitP_le (p : Nat → Nat) (u v : Nat) : fitP p u v ≤ p (6 * u + 5) := Nat.le_trans (fit_le _ _ _ _) (Nat.min_le_right _ _)
theorem psP_own (p : Nat → Nat) {u : Nat} (hu : u < 4) (x i w : Nat) (hw : w < 4) : psP (un p (6 * w + 3) x) u i = psP p u i := by
  unfold psP
  rw [un_ne p x (by omega), un_ne p x (by omega)]
theorem psP_lt {p : Nat → Nat} (O : OKp p) {u : Nat} (hu : u < 4) (i : Nat) : psP p u i < 251 := bh_lt (O.us hu).1 i
/-- the first of own passes that fits, as a gap -/
def gpL (p : Nat → Nat) (u : Nat) : Nat → Nat → Int32
  | 0, _ => -9
  | n + 1, i => if 0 < fitP p u (psP p u i) then nI (p (6 * u + 3) - 1 - i) else gpL p u n (i + 1)
/-- how many there are; the first one -/
def cnt (f : Nat → Bool) : Nat → Nat
  | 0 => 0
  | n + 1 => cnt f n + if f n then 1 else 0
theorem cnt_le (f : Nat → Bool) : ∀ n, cnt f n ≤ n
  | 0 => Nat.le_refl _
  | n + 1 => by have := cnt_le f n; show cnt f n + (if f n then 1 else 0) ≤ n + 1; split <;> omega
theorem cnt_cong {f g : Nat → Bool} : ∀ n, (∀ i, i < n → f i = g i) → cnt f n = cnt g n
  | 0, _ => rfl
  | n + 1, h => by
    show cnt f n + _ = cnt g n + _
    rw [cnt_cong n (fun i hi => h i (by omega)), h n (by omega)]
def lsL (f : Nat → Bool) : Nat → Nat → Int32
  | 0, _ => -9
  | n + 1, v => if f v then nI v else lsL f n (v + 1)
def fB (p : Nat → Nat) (u v : Nat) : Bool := decide (0 < fitP p u v)
def hdI (p : Nat → Nat) (x : Int32) : Int32 := if hasB (p 27) x then nI (p (28 + x.toNatClampNeg)) else -9
def ovP (p : Nat → Nat) : Nat → Nat := un (un p (28 + p 27) (p 26 - 1)) 27 (p 27 + 1)
def lsr (a b : Nat) : Nat := if a = 0 then b else if b = 0 then a else min a b
/-- the least of x and what is behind it, n of them, that fits; none: 0; else one more than it -/
def lfL (p : Nat → Nat) (u : Nat) : Nat → Nat → Nat → Nat
  | 0, _, acc => acc
  | n + 1, x, acc => lfL p u n (nx (p (6 * u + 1)) x) (if 0 < fitP p u x then lsr acc (x + 1) else acc)
def lfP (p : Nat → Nat) (u v : Nat) : Nat := lfL p u 11 v 0
def stL (p : Nat → Nat) (u : Nat) : Nat → Nat → Nat → Nat
  | 0, _, acc => acc
  | n + 1, i, acc => stL p u n (i + 1) (if i < p 27 ∧ p (28 + i) / 1000 = u then lsr acc (lfP p u (p (28 + i) % 1000)) else acc)
def bgP (p : Nat → Nat) (u s t n : Nat) : Nat → Nat := un (un (un (un (un (un p (6 * u) s) (6 * u + 1) t) (6 * u + 2) n) (6 * u + 3) n) (6 * u + 4) (bh t s n)) (6 * u + 5) n
def adP (p : Nat → Nat) (s t n : Nat) : Nat → Nat := bgP (un p 24 (p 24 + 1)) (p 24) s t n
def p0 : Nat → Nat := fun i => if i = 25 then 1 else 0
theorem wi_0 : wi 0 = -9 := rfl
theorem wi_s (x : Nat) : wi (x + 1) = nI x := rfl
theorem wi_ne {x : Nat} (hx : x < 100000) (h : x ≠ 0) : ¬ wi x = -9 := by
  obtain ⟨y, rfl⟩ : ∃ y, x = y + 1 := ⟨x - 1, by omega⟩
  intro e
  have e1 : nI y = -9 := e
  have e2 := congrArg Int32.toInt e1
  rw [nI_toInt (by omega)] at e2
  have : (-9 : Int32).toInt = -9 := by decide
  omega
theorem wi_m9 {x : Nat} (hx : x < 100000) : wi x = -9 ↔ x = 0 := ⟨fun e => Classical.byContradiction fun h => wi_ne hx h e, fun e => by rw [e]; rfl⟩
end
section
theorem t_X0_hasOwn {h : rHp} {Q : Option Value → rHp → Prop} {q : Nat} {p : Nat → Nat} (H : Hl h q p) (O : OKp p) {x : Int32} (k : Q (some (.int (bi (ownB p x)))) h) : Cl M_X0_hasOwn h.1 h.2.1 [.ref q, .int x] h Q := by
  refine Cl.of pl_X0 (Nat.le_of_ble_eq_true rfl) (by first | exact Nat.le_refl _ | omega) (by first | exact Nat.le_refl _ | omega) ?_
  refine Rn.aload_n dX0_hasOwn_0 rfl rfl ?_
  refine Rn.iload_n dX0_hasOwn_1 rfl rfl ?_
  refine Rn.callV (as := [_]) v_X0_has l_X0_42 ⟨Nat.le_of_ble_eq_true rfl, Nat.le_of_ble_eq_true rfl⟩ dX0_hasOwn_2 rfl rfl (Nat.le_of_ble_eq_true rfl) H.1 H.2.2.1 rfl (Nat.le_refl _) (Nat.le_refl _) (t_X0_has H O.1 ?_) 
  refine Rn.if_eqB (tgt := 21) dX0_hasOwn_5 rfl (by decide) (fun c5 => ?_) (fun c5 => ?_)
  · refine Rn.iconst dX0_hasOwn_21 rfl ic_0 ?_
    refine Rn.zret dX0_hasOwn_22 rfl (by decide) rfl rfl ?_
    first | exact rn_fin k (by rw [ownB_hn c5, bi_f]) rfl | exact rn_fin k (by rw [ownB_nI (by omega), ow_no c14, bi_f]) rfl | exact rn_fin k (by rw [ownB_nI (by omega), ow_mk hu (by omega), bi_t]) rfl
  · obtain ⟨u, hu, rfl⟩ := hasB_of c5
    have hu4 := O.1
    refine Rn.aload_n dX0_hasOwn_8 rfl rfl ?_
    refine Rn.iload_n dX0_hasOwn_9 rfl rfl ?_
    refine Rn.iconst dX0_hasOwn_10 rfl ic_3 ?_
    refine Rn.callV (as := [_, _]) v_X0_of l_X0_46 ⟨Nat.le_of_ble_eq_true rfl, Nat.le_of_ble_eq_true rfl⟩ dX0_hasOwn_11 rfl rfl (Nat.le_of_ble_eq_true rfl) H.1 H.2.2.1 rfl (Nat.le_refl _) (Nat.le_refl _) (t_X0_of H (by omega) (by omega) ?_) 
    have hown := (O.us (show u < 4 by omega)).2.2.2.1
    refine Rn.if_leN (tgt := 21) dX0_hasOwn_14 rfl (by decide) (by omega) (fun c14 => ?_) (fun c14 => ?_)
    · refine Rn.iconst dX0_hasOwn_21 rfl ic_0 ?_
      refine Rn.zret dX0_hasOwn_22 rfl (by decide) rfl rfl ?_
      first | exact rn_fin k (by rw [ownB_hn c5, bi_f]) rfl | exact rn_fin k (by rw [ownB_nI (by omega), ow_no c14, bi_f]) rfl | exact rn_fin k (by rw [ownB_nI (by omega), ow_mk hu (by omega), bi_t]) rfl
    · refine Rn.iconst dX0_hasOwn_17 rfl ic_1 ?_
      refine Rn.goto (tgt := 22) dX0_hasOwn_18 (by decide) ?_
      refine Rn.zret dX0_hasOwn_22 rfl (by decide) rfl rfl ?_
      first | exact rn_fin k (by rw [ownB_hn c5, bi_f]) rfl | exact rn_fin k (by rw [ownB_nI (by omega), ow_no c14, bi_f]) rfl | exact rn_fin k (by rw [ownB_nI (by omega), ow_mk hu (by omega), bi_t]) rfl
theorem t_X0_anyHasOwn {h : rHp} {Q : Option Value → rHp → Prop} {q : Nat} {p : Nat → Nat} (H : Hl h q p) (O : OKp p) (k : Q (some (.int (bi (anyU p 4)))) h) : Cl M_X0_anyHasOwn h.1 h.2.1 [.ref q] h Q := by
  refine Cl.of pl_X0 (Nat.le_of_ble_eq_true rfl) (by first | exact Nat.le_refl _ | omega) (by first | exact Nat.le_refl _ | omega) ?_
  refine Rn.iconst dX0_anyHasOwn_0 rfl ic_0 ?_
  refine Rn.istore_n dX0_anyHasOwn_1 rfl (Nat.le_of_ble_eq_true rfl) ?_
  refine Rn.iconst dX0_anyHasOwn_2 rfl ic_0 ?_
  refine Rn.istore_n dX0_anyHasOwn_3 rfl (Nat.le_of_ble_eq_true rfl) ?_
  have hloop : ∀ (m : Nat) (i : Nat), 4 - i < m → i ≤ 4 → Rn (M_X0_anyHasOwn, none, h.1, h.2.1) Q 4 [(0, .ref q), (1, .int (bi (anyU p i))), (2, .int (nI i))] [] h := by
    intro m
    induction m with
    | zero => intro i h0 h1; exact absurd h0 (Nat.not_lt_zero _)
    | succ m ih =>
      intro i h0 h1
      refine Rn.iload_n dX0_anyHasOwn_4 rfl rfl ?_
      refine Rn.iconst dX0_anyHasOwn_5 rfl ic_4 ?_
      refine Rn.icmp_geN (tgt := 33) dX0_anyHasOwn_6 rfl (by decide) (by omega) (by omega) (fun c6 => ?_) (fun c6 => ?_)
      · refine Rn.iload_n dX0_anyHasOwn_33 rfl rfl ?_
        refine Rn.zret dX0_anyHasOwn_34 rfl (bi_01 _) rfl rfl ?_
        rw [show i = 4 by omega]
        exact k
      · refine Rn.iload_n dX0_anyHasOwn_9 rfl rfl ?_
        refine Rn.if_neB (tgt := 21) dX0_anyHasOwn_10 rfl (by decide) (fun c10 => ?_) (fun c10 => ?_)
        · refine Rn.iconst dX0_anyHasOwn_21 rfl ic_1 ?_
          refine Rn.top (y := bi (anyU p (i + 1))) (by first | exact anyU_l c10 | exact anyU_r c18) ?_
          refine Rn.goto (tgt := 26) dX0_anyHasOwn_22 (by decide) ?_
          refine Rn.istore_n dX0_anyHasOwn_26 rfl (Nat.le_of_ble_eq_true rfl) ?_
          refine Rn.iincN dX0_anyHasOwn_27 rfl rfl (Nat.le_of_ble_eq_true rfl) ?_
          refine Rn.goto (tgt := 4) dX0_anyHasOwn_30 (by decide) ?_
          exact Rn.pick [2, 1, 0] rfl (ih (i + 1) (by omega) (by omega))
        · refine Rn.aload_n dX0_anyHasOwn_13 rfl rfl ?_
          refine Rn.iload_n dX0_anyHasOwn_14 rfl rfl ?_
          refine Rn.callV (as := [_]) v_X0_hasOwn l_X0_50 ⟨Nat.le_of_ble_eq_true rfl, Nat.le_of_ble_eq_true rfl⟩ dX0_anyHasOwn_15 rfl rfl (Nat.le_of_ble_eq_true rfl) H.1 H.2.2.1 rfl (Nat.le_refl _) (Nat.le_refl _) (t_X0_hasOwn H O ?_) 
          refine Rn.top (congrArg bi (ownB_nI (by omega))) ?_
          refine Rn.if_eqB (tgt := 25) dX0_anyHasOwn_18 rfl (by decide) (fun c18 => ?_) (fun c18 => ?_)
          · refine Rn.iconst dX0_anyHasOwn_25 rfl ic_0 ?_
            refine Rn.top (y := bi (anyU p (i + 1))) (anyU_n c10 c18) ?_
            refine Rn.istore_n dX0_anyHasOwn_26 rfl (Nat.le_of_ble_eq_true rfl) ?_
            refine Rn.iincN dX0_anyHasOwn_27 rfl rfl (Nat.le_of_ble_eq_true rfl) ?_
            refine Rn.goto (tgt := 4) dX0_anyHasOwn_30 (by decide) ?_
            exact Rn.pick [2, 1, 0] rfl (ih (i + 1) (by omega) (by omega))
          · refine Rn.iconst dX0_anyHasOwn_21 rfl ic_1 ?_
            refine Rn.top (y := bi (anyU p (i + 1))) (by first | exact anyU_l c10 | exact anyU_r c18) ?_
            refine Rn.goto (tgt := 26) dX0_anyHasOwn_22 (by decide) ?_
            refine Rn.istore_n dX0_anyHasOwn_26 rfl (Nat.le_of_ble_eq_true rfl) ?_
            refine Rn.iincN dX0_anyHasOwn_27 rfl rfl (Nat.le_of_ble_eq_true rfl) ?_
            refine Rn.goto (tgt := 4) dX0_anyHasOwn_30 (by decide) ?_
            exact Rn.pick [2, 1, 0] rfl (ih (i + 1) (by omega) (by omega))
  exact Rn.pick [2, 1, 0] rfl (hloop 5 0 (by omega) (by omega))
end
section
theorem t_X0_passOf {h : rHp} {Q : Option Value → rHp → Prop} {q : Nat} {p : Nat → Nat} (H : Hl h q p) (O : OKp p) {u i : Nat} (hu : u < 4) (hi : i < 100000) (k : Q (some (.int (nI (psP p u i)))) h) : Cl M_X0_passOf h.1 h.2.1 [.ref q, .int (nI u), .int (nI i)] h Q := by
  refine Cl.of pl_X0 (Nat.le_of_ble_eq_true rfl) (by first | exact Nat.le_refl _ | omega) (by first | exact Nat.le_refl _ | omega) ?_
  refine Rn.aload_n dX0_passOf_0 rfl rfl ?_
  refine Rn.iload_n dX0_passOf_1 rfl rfl ?_
  refine Rn.iconst dX0_passOf_2 rfl ic_0 ?_
  refine Rn.callV (as := [_, _]) v_X0_of l_X0_46 ⟨Nat.le_of_ble_eq_true rfl, Nat.le_of_ble_eq_true rfl⟩ dX0_passOf_3 rfl rfl (Nat.le_of_ble_eq_true rfl) H.1 H.2.2.1 rfl (Nat.le_refl _) (Nat.le_refl _) (t_X0_of H (by omega) (by omega) ?_) 
  refine Rn.aload_n dX0_passOf_6 rfl rfl ?_
  refine Rn.iload_n dX0_passOf_7 rfl rfl ?_
  refine Rn.iconst dX0_passOf_8 rfl ic_1 ?_
  refine Rn.callV (as := [_, _]) v_X0_of l_X0_46 ⟨Nat.le_of_ble_eq_true rfl, Nat.le_of_ble_eq_true rfl⟩ dX0_passOf_9 rfl rfl (Nat.le_of_ble_eq_true rfl) H.1 H.2.2.1 rfl (Nat.le_refl _) (Nat.le_refl _) (t_X0_of H (by omega) (by omega) ?_) 
  refine Rn.iload_n dX0_passOf_12 rfl rfl ?_
  refine Rn.callSN (as := [_, _, _]) s_X4_stepsBehind n_X0_38 ⟨Nat.le_of_ble_eq_true rfl, Nat.le_of_ble_eq_true rfl⟩ dX0_passOf_13 rfl rfl (Nat.le_of_ble_eq_true rfl) (Nat.le_refl _) (Nat.le_refl _) (t_X4_stepsBehind (O.us hu).1 (O.us hu).2.1 hi ?_)
  refine Rn.iret dX0_passOf_16 rfl rfl rfl ?_
  exact k
theorem t_X0_fitOf {h : rHp} {Q : Option Value → rHp → Prop} {q : Nat} {p : Nat → Nat} (H : Hl h q p) (O : OKp p) {u v : Nat} (hu : u < 4) (hv : v < 251) (k : Q (some (.int (nI (fitP p u v)))) h) : Cl M_X0_fitOf h.1 h.2.1 [.ref q, .int (nI u), .int (nI v)] h Q := by
  refine Cl.of pl_X0 (Nat.le_of_ble_eq_true rfl) (by first | exact Nat.le_refl _ | omega) (by first | exact Nat.le_refl _ | omega) ?_
  refine Rn.aload_n dX0_fitOf_0 rfl rfl ?_
  refine Rn.getf f_X0_11 dX0_fitOf_1 rfl H.1 H.2.2.1 rfl ?_
  refine Rn.iconst dX0_fitOf_4 rfl ic_1 ?_
  refine Rn.ialdN dX0_fitOf_5 rfl H.2.1 H.2.2.2 (by omega) (by omega) ?_
  refine Rn.top (cl_1 p) ?_
  have hw6 := O.2.2.1
  have hl30 := (O.us hu).2.2.2.2.2
  refine Rn.aload_n dX0_fitOf_6 rfl rfl ?_
  refine Rn.iload_n dX0_fitOf_7 rfl rfl ?_
  refine Rn.iconst dX0_fitOf_8 rfl ic_5 ?_
  refine Rn.callV (as := [_, _]) v_X0_of l_X0_46 ⟨Nat.le_of_ble_eq_true rfl, Nat.le_of_ble_eq_true rfl⟩ dX0_fitOf_9 rfl rfl (Nat.le_of_ble_eq_true rfl) H.1 H.2.2.1 rfl (Nat.le_refl _) (Nat.le_refl _) (t_X0_of H (by omega) (by omega) ?_) 
  refine Rn.mminN l_X0_53 w_min2 w_min3 w_min4 (Nat.le_of_ble_eq_true rfl) (Nat.le_of_ble_eq_true rfl) dX0_fitOf_12 rfl (by omega) (by omega) ?_
  refine Rn.istore_n dX0_fitOf_15 rfl (Nat.le_of_ble_eq_true rfl) ?_
  refine Rn.aload_n dX0_fitOf_16 rfl rfl ?_
  refine Rn.iload_n dX0_fitOf_17 rfl rfl ?_
  refine Rn.iconst dX0_fitOf_18 rfl ic_1 ?_
  refine Rn.callV (as := [_, _]) v_X0_of l_X0_46 ⟨Nat.le_of_ble_eq_true rfl, Nat.le_of_ble_eq_true rfl⟩ dX0_fitOf_19 rfl rfl (Nat.le_of_ble_eq_true rfl) H.1 H.2.2.1 rfl (Nat.le_refl _) (Nat.le_refl _) (t_X0_of H (by omega) (by omega) ?_) 
  refine Rn.istore dX0_fitOf_22 rfl (Nat.le_of_ble_eq_true rfl) ?_
  refine Rn.aload_n dX0_fitOf_24 rfl rfl ?_
  refine Rn.iload_n dX0_fitOf_25 rfl rfl ?_
  refine Rn.iconst dX0_fitOf_26 rfl ic_4 ?_
  refine Rn.callV (as := [_, _]) v_X0_of l_X0_46 ⟨Nat.le_of_ble_eq_true rfl, Nat.le_of_ble_eq_true rfl⟩ dX0_fitOf_27 rfl rfl (Nat.le_of_ble_eq_true rfl) H.1 H.2.2.1 rfl (Nat.le_refl _) (Nat.le_refl _) (t_X0_of H (by omega) (by omega) ?_) 
  refine Rn.istore dX0_fitOf_30 rfl (Nat.le_of_ble_eq_true rfl) ?_
  refine Rn.iload_n dX0_fitOf_32 rfl rfl ?_
  refine Rn.istore dX0_fitOf_33 rfl (Nat.le_of_ble_eq_true rfl) ?_
  refine Rn.iconst dX0_fitOf_35 rfl ic_1 ?_
  refine Rn.istore dX0_fitOf_36 rfl (Nat.le_of_ble_eq_true rfl) ?_
  have hloop : ∀ (m : Nat) (n kk x : Nat), n < m → x < 251 → kk + n = min (p 25) (p (6 * u + 5)) + 1 → ftL (p (6 * u + 1)) (p (6 * u + 4)) n kk x = fitP p u v → Rn (M_X0_fitOf, none, h.1, h.2.1) Q 38 [(3, .int (nI (min (p 25) (p (6 * u + 5))))), (4, .int (nI (p (6 * u + 1)))), (5, .int (nI (p (6 * u + 4)))), (6, .int (nI x)), (7, .int (nI kk))] [] h := by
    intro m
    induction m with
    | zero => intro n kk x h0 h1 h2 h3; exact absurd h0 (Nat.not_lt_zero _)
    | succ m ih =>
      intro n kk x h0 h1 h2 h3
      have hmn : min (p 25) (p (6 * u + 5)) ≤ 30 := Nat.le_trans (Nat.min_le_right _ _) (O.us hu).2.2.2.2.2
      have hlt := (O.us hu).2.2.2.2.1
      have hsl := (O.us hu).2.1
      refine Rn.iload dX0_fitOf_38 rfl rfl ?_
      refine Rn.iload_n dX0_fitOf_40 rfl rfl ?_
      refine Rn.icmp_gtN (tgt := 70) dX0_fitOf_41 rfl (by decide) (by omega) (by omega) (fun c41 => ?_) (fun c41 => ?_)
      · obtain rfl : n = 0 := by omega
        refine Rn.iconst dX0_fitOf_70 rfl ic_0 ?_
        refine Rn.iret dX0_fitOf_71 rfl rfl rfl ?_
        exact rn_fin k (by rw [← h3]; rfl) rfl
      · obtain ⟨n, rfl⟩ : ∃ n', n = n' + 1 := ⟨n - 1, by omega⟩
        refine Rn.iload dX0_fitOf_44 rfl rfl ?_
        refine Rn.iload dX0_fitOf_46 rfl rfl ?_
        refine Rn.iconst dX0_fitOf_48 rfl ic_1 ?_
        refine Rn.callSN (as := [_, _, _]) s_X4_stepsBehind n_X0_38 ⟨Nat.le_of_ble_eq_true rfl, Nat.le_of_ble_eq_true rfl⟩ dX0_fitOf_49 rfl rfl (Nat.le_of_ble_eq_true rfl) (Nat.le_refl _) (Nat.le_refl _) (t_X4_stepsBehind h1 hsl (by omega) ?_)
        have hnx : bh (p (6 * u + 1)) x 1 < 251 := nx_lt _ _
        refine Rn.istore dX0_fitOf_52 rfl (Nat.le_of_ble_eq_true rfl) ?_
        refine Rn.iload dX0_fitOf_54 rfl rfl ?_
        refine Rn.iload dX0_fitOf_56 rfl rfl ?_
        refine Rn.icmp_neN (tgt := 64) dX0_fitOf_58 rfl (by decide) (by omega) (by omega) (fun c58 => ?_) (fun c58 => ?_)
        · refine Rn.iincN dX0_fitOf_64 rfl rfl (Nat.le_of_ble_eq_true rfl) ?_
          refine Rn.goto (tgt := 38) dX0_fitOf_67 (by decide) ?_
          exact Rn.pick [2, 3, 4, 1, 0] rfl (ih n (kk + 1) _ (by omega) (nx_lt _ _) (by omega) (by rw [← h3]; exact (if_neg c58).symm))
        · refine Rn.iload dX0_fitOf_61 rfl rfl ?_
          refine Rn.iret dX0_fitOf_63 rfl rfl rfl ?_
          exact rn_fin k (by rw [← h3]; exact congrArg (fun z => some (Value.int (nI z))) (if_pos c58).symm) rfl
  exact Rn.pick [4, 3, 2, 1, 0] rfl (hloop (min (p 25) (p (6 * u + 5)) + 1) _ 1 v (by omega) hv (by omega) rfl)
end
section
theorem t_X0_bring {h : rHp} {Q : Option Value → rHp → Prop} {q : Nat} {p : Nat → Nat} (H : Hl h q p) (O : OKp p) (O1 : ∀ x, x < 4 → ∀ v, v < 251 → OKp (un p 26 (1000 * x + v + 1))) {u v : Nat} (hu : u < 4) (hv : v < 251) (k : Q (some (.int (nI (fitP p u v)))) (hp h q (brP p u v))) : Cl M_X0_bring h.1 h.2.1 [.ref q, .int (nI u), .int (nI v)] h Q := by
  refine Cl.of pl_X0 (Nat.le_of_ble_eq_true rfl) (by first | exact Nat.le_refl _ | omega) (by first | exact Nat.le_refl _ | omega) ?_
  refine Rn.aload_n dX0_bring_0 rfl rfl ?_
  refine Rn.getf f_X0_11 dX0_bring_1 rfl H.1 H.2.2.1 rfl ?_
  refine Rn.iconst dX0_bring_4 rfl ic_2 ?_
  refine Rn.sipush dX0_bring_5 rfl sp_1000 ?_
  refine Rn.iload_n dX0_bring_8 rfl rfl ?_
  refine Rn.imulN dX0_bring_9 rfl ?_
  refine Rn.iload_n dX0_bring_10 rfl rfl ?_
  refine Rn.iaddN dX0_bring_11 rfl ?_
  refine Rn.iastN dX0_bring_12 rfl H.2.1 H.2.2.2 (by omega) (by omega) ?_
  refine Rn.heap (Hl.upd (upd_c2 p (1000 * u + v))) ?_
  refine Rn.aload_n dX0_bring_13 rfl rfl ?_
  refine Rn.iload_n dX0_bring_14 rfl rfl ?_
  refine Rn.iload_n dX0_bring_15 rfl rfl ?_
  refine Rn.callV (as := [_, _]) v_X0_fitOf l_X0_58 ⟨Nat.le_of_ble_eq_true rfl, Nat.le_of_ble_eq_true rfl⟩ dX0_bring_16 rfl rfl (Nat.le_of_ble_eq_true rfl) (H.put _).1 (H.put _).2.2.1 rfl (Nat.le_refl _) (Nat.le_refl _) (t_X0_fitOf (H.put _) (O1 u hu v hv) hu hv ?_) 
  refine Rn.top (congrArg nI (fitP_26 p hu _ v)) ?_
  have hf30 : fitP p u v ≤ p (6 * u + 5) := fitP_le p u v
  have hl30 := (O.us hu).2.2.2.2.2
  refine Rn.istore_n dX0_bring_19 rfl (Nat.le_of_ble_eq_true rfl) ?_
  refine Rn.iload_n dX0_bring_20 rfl rfl ?_
  refine Rn.if_leN (tgt := 45) dX0_bring_21 rfl (by decide) (by omega) (fun c21 => ?_) (fun c21 => ?_)
  · refine Rn.iload_n dX0_bring_45 rfl rfl ?_
    refine Rn.iret dX0_bring_46 rfl rfl rfl ?_
    first | exact rn_fin k rfl (by unfold brP; rw [if_neg (by omega)]) | exact rn_fin k rfl (by unfold brP; rw [if_pos (by omega)])
  · refine Rn.aload_n dX0_bring_24 rfl rfl ?_
    refine Rn.iload_n dX0_bring_25 rfl rfl ?_
    refine Rn.iconst dX0_bring_26 rfl ic_4 ?_
    refine Rn.iload_n dX0_bring_27 rfl rfl ?_
    refine Rn.callV (as := [_, _, _]) v_X0_put l_X0_34 ⟨Nat.le_of_ble_eq_true rfl, Nat.le_of_ble_eq_true rfl⟩ dX0_bring_28 rfl rfl (Nat.le_of_ble_eq_true rfl) (H.put _).1 (H.put _).2.2.1 rfl (Nat.le_refl _) (Nat.le_refl _) (t_X0_put (H.put _) (by omega) (by omega) ?_) 
    refine Rn.heap (hp_hp _ _ _ _) ?_
    refine Rn.aload_n dX0_bring_31 rfl rfl ?_
    refine Rn.iload_n dX0_bring_32 rfl rfl ?_
    refine Rn.iconst dX0_bring_33 rfl ic_5 ?_
    refine Rn.aload_n dX0_bring_34 rfl rfl ?_
    refine Rn.iload_n dX0_bring_35 rfl rfl ?_
    refine Rn.iconst dX0_bring_36 rfl ic_5 ?_
    refine Rn.callV (as := [_, _]) v_X0_of l_X0_46 ⟨Nat.le_of_ble_eq_true rfl, Nat.le_of_ble_eq_true rfl⟩ dX0_bring_37 rfl rfl (Nat.le_of_ble_eq_true rfl) (H.put _).1 (H.put _).2.2.1 rfl (Nat.le_refl _) (Nat.le_refl _) (t_X0_of (H.put _) (by omega) (by omega) ?_) 
    refine Rn.top (congrArg nI ((un_ne _ _ (by omega)).trans (un_ne p _ (by omega)))) ?_
    refine Rn.iload_n dX0_bring_40 rfl rfl ?_
    refine Rn.isubN dX0_bring_41 rfl (by omega) ?_
    refine Rn.callV (as := [_, _, _]) v_X0_put l_X0_34 ⟨Nat.le_of_ble_eq_true rfl, Nat.le_of_ble_eq_true rfl⟩ dX0_bring_42 rfl rfl (Nat.le_of_ble_eq_true rfl) (H.put _).1 (H.put _).2.2.1 rfl (Nat.le_refl _) (Nat.le_refl _) (t_X0_put (H.put _) (by omega) (by omega) ?_) 
    refine Rn.heap (hp_hp _ _ _ _) ?_
    refine Rn.iload_n dX0_bring_45 rfl rfl ?_
    refine Rn.iret dX0_bring_46 rfl rfl rfl ?_
    first | exact rn_fin k rfl (by unfold brP; rw [if_neg (by omega)]) | exact rn_fin k rfl (by unfold brP; rw [if_pos (by omega)])
theorem t_X0_spendPass {h : rHp} {Q : Option Value → rHp → Prop} {q : Nat} {p : Nat → Nat} (H : Hl h q p) (O : OKp p) {u : Nat} (hu : u < 2147483648) (k : Q (some (.int (bi (ow p u)))) (hp h q (spP p u))) : Cl M_X0_spendPass h.1 h.2.1 [.ref q, .int (nI u)] h Q := by
  refine Cl.of pl_X0 (Nat.le_of_ble_eq_true rfl) (by first | exact Nat.le_refl _ | omega) (by first | exact Nat.le_refl _ | omega) ?_
  refine Rn.aload_n dX0_spendPass_0 rfl rfl ?_
  refine Rn.iload_n dX0_spendPass_1 rfl rfl ?_
  refine Rn.callV (as := [_]) v_X0_hasOwn l_X0_50 ⟨Nat.le_of_ble_eq_true rfl, Nat.le_of_ble_eq_true rfl⟩ dX0_spendPass_2 rfl rfl (Nat.le_of_ble_eq_true rfl) H.1 H.2.2.1 rfl (Nat.le_refl _) (Nat.le_refl _) (t_X0_hasOwn H O ?_) 
  refine Rn.top (congrArg bi (ownB_nI hu)) ?_
  refine Rn.istore_n dX0_spendPass_5 rfl (Nat.le_of_ble_eq_true rfl) ?_
  refine Rn.iload_n dX0_spendPass_6 rfl rfl ?_
  refine Rn.if_eqB (tgt := 24) dX0_spendPass_7 rfl (by decide) (fun c7 => ?_) (fun c7 => ?_)
  · refine Rn.iload_n dX0_spendPass_24 rfl rfl ?_
    refine Rn.zret dX0_spendPass_25 rfl (bi_01 _) rfl rfl ?_
    first | exact rn_fin k rfl (by unfold spP; rw [c7]; exact H.same.symm) | exact rn_fin k rfl (by unfold spP; rw [c7]; rfl)
  · obtain ⟨hu2, hu3⟩ := ow_t c7
    have hu4 := O.1
    have hown := (O.us (show u < 4 by omega)).2.2.2.1
    refine Rn.aload_n dX0_spendPass_10 rfl rfl ?_
    refine Rn.iload_n dX0_spendPass_11 rfl rfl ?_
    refine Rn.iconst dX0_spendPass_12 rfl ic_3 ?_
    refine Rn.aload_n dX0_spendPass_13 rfl rfl ?_
    refine Rn.iload_n dX0_spendPass_14 rfl rfl ?_
    refine Rn.iconst dX0_spendPass_15 rfl ic_3 ?_
    refine Rn.callV (as := [_, _]) v_X0_of l_X0_46 ⟨Nat.le_of_ble_eq_true rfl, Nat.le_of_ble_eq_true rfl⟩ dX0_spendPass_16 rfl rfl (Nat.le_of_ble_eq_true rfl) H.1 H.2.2.1 rfl (Nat.le_refl _) (Nat.le_refl _) (t_X0_of H (by omega) (by omega) ?_) 
    refine Rn.iconst dX0_spendPass_19 rfl ic_1 ?_
    refine Rn.isubN dX0_spendPass_20 rfl (by omega) ?_
    refine Rn.callV (as := [_, _, _]) v_X0_put l_X0_34 ⟨Nat.le_of_ble_eq_true rfl, Nat.le_of_ble_eq_true rfl⟩ dX0_spendPass_21 rfl rfl (Nat.le_of_ble_eq_true rfl) H.1 H.2.2.1 rfl (Nat.le_refl _) (Nat.le_refl _) (t_X0_put H (by omega) (by omega) ?_) 
    refine Rn.iload_n dX0_spendPass_24 rfl rfl ?_
    refine Rn.zret dX0_spendPass_25 rfl (bi_01 _) rfl rfl ?_
    first | exact rn_fin k rfl (by unfold spP; rw [c7]; exact H.same.symm) | exact rn_fin k rfl (by unfold spP; rw [c7]; rfl)
end
section
theorem OKp.un26 {p : Nat → Nat} (O : OKp p) : ∀ x, x < 4 → ∀ v, v < 251 → OKp (un p 26 (1000 * x + v + 1)) := by
  intro x hx v hv
  obtain ⟨a, b, c, d, e, f, g⟩ := O
  refine ⟨by rw [un_ne _ _ (by omega)]; exact a, by rw [un_ne _ _ (by omega)]; exact b, by rw [un_ne _ _ (by omega)]; exact c, by rw [un_ne _ _ (by omega)]; exact d, fun u hu => ?_, fun i hi => ?_, ?_⟩
  · rw [un_ne _ _ (by omega), un_ne _ _ (by omega), un_ne _ _ (by omega), un_ne _ _ (by omega), un_ne _ _ (by omega), un_ne _ _ (by omega)]; exact e u hu
  · rw [un_ne _ _ (by omega)]; exact f i hi
  · rw [un_eq]; right; omega
/-- a user's cell changes within its bounds -/
theorem OKp.put {p : Nat → Nat} (O : OKp p) {u k x : Nat} (hu : u < 4) (hk : k < 6) (hx : x < 251) (h30 : k = 2 ∨ k = 3 ∨ k = 5 → x ≤ 30) : OKp (un p (6 * u + k) x) := by
  obtain ⟨a, b, c, d, e, f, g⟩ := O
  refine ⟨by rw [un_ne _ _ (by omega)]; exact a, by rw [un_ne _ _ (by omega)]; exact b, by rw [un_ne _ _ (by omega)]; exact c, by rw [un_ne _ _ (by omega)]; exact d, fun w hw => ?_, fun i hi => ?_, ?_⟩
  · obtain ⟨e0, e1, e2, e3, e4, e5⟩ := e w hw
    simp only [un_at]
    refine ⟨?_, ?_, ?_, ?_, ?_, ?_⟩ <;> split <;> omega
  · rw [un_ne _ _ (by omega)]; exact f i hi
  · rw [un_ne _ _ (by omega)]; exact g
theorem OK_sp {p : Nat → Nat} (O : OKp p) {u : Nat} (hu : u < 4) : OKp (spP p u) := by
  show OKp (if ow p u then un p (6 * u + 3) (p (6 * u + 3) - 1) else p)
  split
  · have := O.us hu
    exact O.put hu (by omega) (by omega) (by omega)
  · exact O
theorem OK_br {p : Nat → Nat} (O : OKp p) {u v : Nat} (hu : u < 4) (hv : v < 251) : OKp (brP p u v) := by
  have O1 := O.un26 u hu v hv
  have h5 := (O.us hu).2.2.2.2.2
  show OKp (if 0 < fitP p u v then un (un (un p 26 (1000 * u + v + 1)) (6 * u + 4) v) (6 * u + 5) (p (6 * u + 5) - fitP p u v) else un p 26 (1000 * u + v + 1))
  split
  · exact (O1.put hu (k := 4) (by omega) hv (by omega)).put hu (k := 5) (by omega) (by omega) (by omega)
  · exact O1
theorem OK_se {p : Nat → Nat} (O : OKp p) {u : Nat} (hu : u < 4) : OKp (seP p u) := by
  show OKp (if ow p u then brP (spP p u) u (psP p u (p (6 * u + 3) - 1)) else p)
  split
  · exact OK_br (OK_sp O hu) hu (psP_lt O hu _)
  · exact O
theorem t_X0_sendPass {h : rHp} {Q : Option Value → rHp → Prop} {q : Nat} {p : Nat → Nat} (H : Hl h q p) (O : OKp p) {u : Nat} (hu : u < 2147483648) (k : Q (some (.int (nI (seK p u)))) (hp h q (seP p u))) : Cl M_X0_sendPass h.1 h.2.1 [.ref q, .int (nI u)] h Q := by
  refine Cl.of pl_X0 (Nat.le_of_ble_eq_true rfl) (by first | exact Nat.le_refl _ | omega) (by first | exact Nat.le_refl _ | omega) ?_
  refine Rn.aload_n dX0_sendPass_0 rfl rfl ?_
  refine Rn.iload_n dX0_sendPass_1 rfl rfl ?_
  refine Rn.callV (as := [_]) v_X0_spendPass l_X0_61 ⟨Nat.le_of_ble_eq_true rfl, Nat.le_of_ble_eq_true rfl⟩ dX0_sendPass_2 rfl rfl (Nat.le_of_ble_eq_true rfl) H.1 H.2.2.1 rfl (Nat.le_refl _) (Nat.le_refl _) (t_X0_spendPass H O hu ?_) 
  refine Rn.if_eqB (tgt := 27) dX0_sendPass_5 rfl (by decide) (fun c5 => ?_) (fun c5 => ?_)
  · refine Rn.iconst dX0_sendPass_27 rfl ic_0 ?_
    refine Rn.iret dX0_sendPass_28 rfl rfl rfl ?_
    first | exact rn_fin k (by unfold seK; rw [c5]; rfl) (by unfold seP spP; rw [c5]; rfl) | exact rn_fin k rfl (by unfold seP; rw [if_pos c5])
  · obtain ⟨hu2, hu3⟩ := ow_t c5
    have hu4 : u < 4 := by have := O.1; omega
    have hown := (O.us hu4).2.2.2.1
    have esp : spP p u = un p (6 * u + 3) (p (6 * u + 3) - 1) := if_pos c5
    refine Rn.aload_n dX0_sendPass_8 rfl rfl ?_
    refine Rn.iload_n dX0_sendPass_9 rfl rfl ?_
    refine Rn.aload_n dX0_sendPass_10 rfl rfl ?_
    refine Rn.iload_n dX0_sendPass_11 rfl rfl ?_
    refine Rn.aload_n dX0_sendPass_12 rfl rfl ?_
    refine Rn.iload_n dX0_sendPass_13 rfl rfl ?_
    refine Rn.iconst dX0_sendPass_14 rfl ic_3 ?_
    refine Rn.callV (as := [_, _]) v_X0_of l_X0_46 ⟨Nat.le_of_ble_eq_true rfl, Nat.le_of_ble_eq_true rfl⟩ dX0_sendPass_15 rfl rfl (Nat.le_of_ble_eq_true rfl) (H.put _).1 (H.put _).2.2.1 rfl (Nat.le_refl _) (Nat.le_refl _) (t_X0_of (H.put _) hu4 (by omega) ?_) 
    refine Rn.top (y := nI (p (6 * u + 3) - 1)) (by rw [esp, un_eq]) ?_
    refine Rn.callV (as := [_, _]) v_X0_passOf l_X0_64 ⟨Nat.le_of_ble_eq_true rfl, Nat.le_of_ble_eq_true rfl⟩ dX0_sendPass_18 rfl rfl (Nat.le_of_ble_eq_true rfl) (H.put _).1 (H.put _).2.2.1 rfl (Nat.le_refl _) (Nat.le_refl _) (t_X0_passOf (H.put _) (OK_sp O hu4) hu4 (by omega) ?_) 
    refine Rn.top (y := nI (psP p u (p (6 * u + 3) - 1))) (by rw [esp, psP_own p hu4 _ _ u hu4]) ?_
    refine Rn.callV (as := [_, _]) v_X0_bring l_X0_67 ⟨Nat.le_of_ble_eq_true rfl, Nat.le_of_ble_eq_true rfl⟩ dX0_sendPass_21 rfl rfl (Nat.le_of_ble_eq_true rfl) (H.put _).1 (H.put _).2.2.1 rfl (Nat.le_refl _) (Nat.le_refl _) (t_X0_bring (H.put _) (OK_sp O hu4) (OK_sp O hu4).un26 hu4 (psP_lt O hu4 _) ?_) 
    refine Rn.heap (hp_hp _ _ _ _) ?_
    refine Rn.top (y := nI (seK p u)) (by rw [esp, fitP_own p hu4 _ _ u hu4]; unfold seK; rw [if_pos c5]) ?_
    refine Rn.goto (tgt := 28) dX0_sendPass_24 (by decide) ?_
    refine Rn.iret dX0_sendPass_28 rfl rfl rfl ?_
    first | exact rn_fin k (by unfold seK; rw [c5]; rfl) (by unfold seP spP; rw [c5]; rfl) | exact rn_fin k rfl (by unfold seP; rw [if_pos c5])
theorem stp_n1 {p : Nat → Nat} {u : Nat} (h : ow p u = false) : stp p u = false := by unfold stp; rw [h]; rfl
theorem stp_n2 {p : Nat → Nat} {u : Nat} (h : fitP p u (psP p u (p (6 * u + 3) - 1)) = 0) : stp p u = false := by unfold stp; rw [h, Bool.and_comm]; rfl
theorem stp_y {p : Nat → Nat} {u : Nat} (h : ow p u = true) (h2 : ¬ fitP p u (psP p u (p (6 * u + 3) - 1)) = 0) : stp p u = true := by unfold stp; rw [h, decide_eq_true (show 0 < fitP p u (psP p u (p (6 * u + 3) - 1)) by omega)]; rfl
theorem t_X0_isInStep {h : rHp} {Q : Option Value → rHp → Prop} {q : Nat} {p : Nat → Nat} (H : Hl h q p) (O : OKp p) {u : Nat} (hu : u < 2147483648) (k : Q (some (.int (bi (stp p u)))) h) : Cl M_X0_isInStep h.1 h.2.1 [.ref q, .int (nI u)] h Q := by
  refine Cl.of pl_X0 (Nat.le_of_ble_eq_true rfl) (by first | exact Nat.le_refl _ | omega) (by first | exact Nat.le_refl _ | omega) ?_
  refine Rn.aload_n dX0_isInStep_0 rfl rfl ?_
  refine Rn.iload_n dX0_isInStep_1 rfl rfl ?_
  refine Rn.callV (as := [_]) v_X0_hasOwn l_X0_50 ⟨Nat.le_of_ble_eq_true rfl, Nat.le_of_ble_eq_true rfl⟩ dX0_isInStep_2 rfl rfl (Nat.le_of_ble_eq_true rfl) H.1 H.2.2.1 rfl (Nat.le_refl _) (Nat.le_refl _) (t_X0_hasOwn H O ?_) 
  refine Rn.top (congrArg bi (ownB_nI hu)) ?_
  refine Rn.if_eqB (tgt := 33) dX0_isInStep_5 rfl (by decide) (fun c5 => ?_) (fun c5 => ?_)
  · refine Rn.iconst dX0_isInStep_33 rfl ic_0 ?_
    refine Rn.zret dX0_isInStep_34 rfl (by decide) rfl rfl ?_
    first | exact rn_fin k (by rw [stp_n1 c5, bi_f]) rfl | exact rn_fin k (by rw [stp_n2 c26, bi_f]) rfl | exact rn_fin k (by rw [stp_y c5 c26, bi_t]) rfl
  · obtain ⟨hu2, hu3⟩ := ow_t c5
    have hu4 : u < 4 := by have := O.1; omega
    have hown := (O.us hu4).2.2.2.1
    refine Rn.aload_n dX0_isInStep_8 rfl rfl ?_
    refine Rn.iload_n dX0_isInStep_9 rfl rfl ?_
    refine Rn.aload_n dX0_isInStep_10 rfl rfl ?_
    refine Rn.iload_n dX0_isInStep_11 rfl rfl ?_
    refine Rn.aload_n dX0_isInStep_12 rfl rfl ?_
    refine Rn.iload_n dX0_isInStep_13 rfl rfl ?_
    refine Rn.iconst dX0_isInStep_14 rfl ic_3 ?_
    refine Rn.callV (as := [_, _]) v_X0_of l_X0_46 ⟨Nat.le_of_ble_eq_true rfl, Nat.le_of_ble_eq_true rfl⟩ dX0_isInStep_15 rfl rfl (Nat.le_of_ble_eq_true rfl) H.1 H.2.2.1 rfl (Nat.le_refl _) (Nat.le_refl _) (t_X0_of H hu4 (by omega) ?_) 
    refine Rn.iconst dX0_isInStep_18 rfl ic_1 ?_
    refine Rn.isubN dX0_isInStep_19 rfl (by omega) ?_
    refine Rn.callV (as := [_, _]) v_X0_passOf l_X0_64 ⟨Nat.le_of_ble_eq_true rfl, Nat.le_of_ble_eq_true rfl⟩ dX0_isInStep_20 rfl rfl (Nat.le_of_ble_eq_true rfl) H.1 H.2.2.1 rfl (Nat.le_refl _) (Nat.le_refl _) (t_X0_passOf H O hu4 (by omega) ?_) 
    refine Rn.callV (as := [_, _]) v_X0_fitOf l_X0_58 ⟨Nat.le_of_ble_eq_true rfl, Nat.le_of_ble_eq_true rfl⟩ dX0_isInStep_23 rfl rfl (Nat.le_of_ble_eq_true rfl) H.1 H.2.2.1 rfl (Nat.le_refl _) (Nat.le_refl _) (t_X0_fitOf H O hu4 (psP_lt O hu4 _) ?_) 
    have hfl := fitP_le p u (psP p u (p (6 * u + 3) - 1))
    have hl30 := (O.us hu4).2.2.2.2.2
    refine Rn.if_leN (tgt := 33) dX0_isInStep_26 rfl (by decide) (by omega) (fun c26 => ?_) (fun c26 => ?_)
    · refine Rn.iconst dX0_isInStep_33 rfl ic_0 ?_
      refine Rn.zret dX0_isInStep_34 rfl (by decide) rfl rfl ?_
      first | exact rn_fin k (by rw [stp_n1 c5, bi_f]) rfl | exact rn_fin k (by rw [stp_n2 c26, bi_f]) rfl | exact rn_fin k (by rw [stp_y c5 c26, bi_t]) rfl
    · refine Rn.iconst dX0_isInStep_29 rfl ic_1 ?_
      refine Rn.goto (tgt := 34) dX0_isInStep_30 (by decide) ?_
      refine Rn.zret dX0_isInStep_34 rfl (by decide) rfl rfl ?_
      first | exact rn_fin k (by rw [stp_n1 c5, bi_f]) rfl | exact rn_fin k (by rw [stp_n2 c26, bi_f]) rfl | exact rn_fin k (by rw [stp_y c5 c26, bi_t]) rfl
theorem t_X0_isWarned {h : rHp} {Q : Option Value → rHp → Prop} {q : Nat} {p : Nat → Nat} (H : Hl h q p) (O : OKp p) {u : Nat} (hu : u < 4) (k : Q (some (.int (bi (decide (p (6 * u + 5) ≤ 3))))) h) : Cl M_X0_isWarned h.1 h.2.1 [.ref q, .int (nI u)] h Q := by
  refine Cl.of pl_X0 (Nat.le_of_ble_eq_true rfl) (by first | exact Nat.le_refl _ | omega) (by first | exact Nat.le_refl _ | omega) ?_
  refine Rn.aload_n dX0_isWarned_0 rfl rfl ?_
  refine Rn.iload_n dX0_isWarned_1 rfl rfl ?_
  refine Rn.iconst dX0_isWarned_2 rfl ic_5 ?_
  refine Rn.callV (as := [_, _]) v_X0_of l_X0_46 ⟨Nat.le_of_ble_eq_true rfl, Nat.le_of_ble_eq_true rfl⟩ dX0_isWarned_3 rfl rfl (Nat.le_of_ble_eq_true rfl) H.1 H.2.2.1 rfl (Nat.le_refl _) (Nat.le_refl _) (t_X0_of H (by omega) (by omega) ?_) 
  have hl30 := (O.us hu).2.2.2.2.2
  refine Rn.iconst dX0_isWarned_6 rfl ic_3 ?_
  refine Rn.icmp_gtN (tgt := 14) dX0_isWarned_7 rfl (by decide) (by omega) (by omega) (fun c7 => ?_) (fun c7 => ?_)
  · refine Rn.iconst dX0_isWarned_14 rfl ic_0 ?_
    refine Rn.zret dX0_isWarned_15 rfl (by decide) rfl rfl ?_
    first | exact rn_fin k (by rw [decide_eq_false (by omega), bi_f]) rfl | exact rn_fin k (by rw [decide_eq_true (by omega), bi_t]) rfl
  · refine Rn.iconst dX0_isWarned_10 rfl ic_1 ?_
    refine Rn.goto (tgt := 15) dX0_isWarned_11 (by decide) ?_
    refine Rn.zret dX0_isWarned_15 rfl (by decide) rfl rfl ?_
    first | exact rn_fin k (by rw [decide_eq_false (by omega), bi_f]) rfl | exact rn_fin k (by rw [decide_eq_true (by omega), bi_t]) rfl
theorem t_X0_gapOf {h : rHp} {Q : Option Value → rHp → Prop} {q : Nat} {p : Nat → Nat} (H : Hl h q p) (O : OKp p) {u : Nat} (hu : u < 4) (k : Q (some (.int (gpL p u (p (6 * u + 3)) 0))) h) : Cl M_X0_gapOf h.1 h.2.1 [.ref q, .int (nI u)] h Q := by
  refine Cl.of pl_X0 (Nat.le_of_ble_eq_true rfl) (by first | exact Nat.le_refl _ | omega) (by first | exact Nat.le_refl _ | omega) ?_
  refine Rn.aload_n dX0_gapOf_0 rfl rfl ?_
  refine Rn.iload_n dX0_gapOf_1 rfl rfl ?_
  refine Rn.iconst dX0_gapOf_2 rfl ic_3 ?_
  refine Rn.callV (as := [_, _]) v_X0_of l_X0_46 ⟨Nat.le_of_ble_eq_true rfl, Nat.le_of_ble_eq_true rfl⟩ dX0_gapOf_3 rfl rfl (Nat.le_of_ble_eq_true rfl) H.1 H.2.2.1 rfl (Nat.le_refl _) (Nat.le_refl _) (t_X0_of H (by omega) (by omega) ?_) 
  refine Rn.istore_n dX0_gapOf_6 rfl (Nat.le_of_ble_eq_true rfl) ?_
  refine Rn.iconst dX0_gapOf_7 rfl ic_0 ?_
  refine Rn.istore_n dX0_gapOf_8 rfl (Nat.le_of_ble_eq_true rfl) ?_
  have hloop : ∀ (m : Nat) (n i : Nat), n < m → i + n = p (6 * u + 3) → gpL p u n i = gpL p u (p (6 * u + 3)) 0 → Rn (M_X0_gapOf, none, h.1, h.2.1) Q 9 [(0, .ref q), (1, .int (nI u)), (2, .int (nI (p (6 * u + 3)))), (3, .int (nI i))] [] h := by
    intro m
    induction m with
    | zero => intro n i h0 h1 h2; exact absurd h0 (Nat.not_lt_zero _)
    | succ m ih =>
      intro n i h0 h1 h2
      have hown := (O.us hu).2.2.2.1
      refine Rn.iload_n dX0_gapOf_9 rfl rfl ?_
      refine Rn.iload_n dX0_gapOf_10 rfl rfl ?_
      refine Rn.icmp_geN (tgt := 40) dX0_gapOf_11 rfl (by decide) (by omega) (by omega) (fun c11 => ?_) (fun c11 => ?_)
      · obtain rfl : n = 0 := by omega
        refine Rn.bipush dX0_gapOf_40 rfl bp_m9 ?_
        refine Rn.iret dX0_gapOf_42 rfl rfl rfl ?_
        exact rn_fin k (by rw [← h2]; rfl) rfl
      · obtain ⟨n, rfl⟩ : ∃ n', n = n' + 1 := ⟨n - 1, by omega⟩
        refine Rn.aload_n dX0_gapOf_14 rfl rfl ?_
        refine Rn.iload_n dX0_gapOf_15 rfl rfl ?_
        refine Rn.aload_n dX0_gapOf_16 rfl rfl ?_
        refine Rn.iload_n dX0_gapOf_17 rfl rfl ?_
        refine Rn.iload_n dX0_gapOf_18 rfl rfl ?_
        refine Rn.callV (as := [_, _]) v_X0_passOf l_X0_64 ⟨Nat.le_of_ble_eq_true rfl, Nat.le_of_ble_eq_true rfl⟩ dX0_gapOf_19 rfl rfl (Nat.le_of_ble_eq_true rfl) H.1 H.2.2.1 rfl (Nat.le_refl _) (Nat.le_refl _) (t_X0_passOf H O (by omega) (by omega) ?_) 
        refine Rn.callV (as := [_, _]) v_X0_fitOf l_X0_58 ⟨Nat.le_of_ble_eq_true rfl, Nat.le_of_ble_eq_true rfl⟩ dX0_gapOf_22 rfl rfl (Nat.le_of_ble_eq_true rfl) H.1 H.2.2.1 rfl (Nat.le_refl _) (Nat.le_refl _) (t_X0_fitOf H O hu (psP_lt O hu _) ?_) 
        have hfl := fitP_le p u (psP p u i)
        have hl30 := (O.us hu).2.2.2.2.2
        refine Rn.if_leN (tgt := 34) dX0_gapOf_25 rfl (by decide) (by omega) (fun c25 => ?_) (fun c25 => ?_)
        · refine Rn.iincN dX0_gapOf_34 rfl rfl (Nat.le_of_ble_eq_true rfl) ?_
          refine Rn.goto (tgt := 9) dX0_gapOf_37 (by decide) ?_
          exact Rn.pick [1, 2, 3, 0] rfl (ih n (i + 1) (by omega) (by omega) (by rw [← h2]; exact (if_neg (by omega)).symm))
        · refine Rn.iload_n dX0_gapOf_28 rfl rfl ?_
          refine Rn.iconst dX0_gapOf_29 rfl ic_1 ?_
          refine Rn.isubN dX0_gapOf_30 rfl (by omega) ?_
          refine Rn.iload_n dX0_gapOf_31 rfl rfl ?_
          refine Rn.isubN dX0_gapOf_32 rfl (by omega) ?_
          refine Rn.iret dX0_gapOf_33 rfl rfl rfl ?_
          exact rn_fin k (by rw [← h2]; exact congrArg (fun z => some (Value.int z)) (if_pos (by omega)).symm) rfl
  exact Rn.pick [2, 3, 1, 0] rfl (hloop (p (6 * u + 3) + 1) _ 0 (by omega) (by omega) rfl)
theorem t_X0_countFitting {h : rHp} {Q : Option Value → rHp → Prop} {q : Nat} {p : Nat → Nat} (H : Hl h q p) (O : OKp p) {u : Nat} (hu : u < 4) (k : Q (some (.int (nI (cnt (fB p u) 251)))) h) : Cl M_X0_countFitting h.1 h.2.1 [.ref q, .int (nI u)] h Q := by
  refine Cl.of pl_X0 (Nat.le_of_ble_eq_true rfl) (by first | exact Nat.le_refl _ | omega) (by first | exact Nat.le_refl _ | omega) ?_
  refine Rn.iconst dX0_countFitting_0 rfl ic_0 ?_
  refine Rn.istore_n dX0_countFitting_1 rfl (Nat.le_of_ble_eq_true rfl) ?_
  refine Rn.iconst dX0_countFitting_2 rfl ic_0 ?_
  refine Rn.istore_n dX0_countFitting_3 rfl (Nat.le_of_ble_eq_true rfl) ?_
  have hloop : ∀ (m : Nat) (i : Nat), 251 - i < m → i ≤ 251 → Rn (M_X0_countFitting, none, h.1, h.2.1) Q 4 [(0, .ref q), (1, .int (nI u)), (2, .int (nI (cnt (fB p u) i))), (3, .int (nI i))] [] h := by
    intro m
    induction m with
    | zero => intro i h0 h1; exact absurd h0 (Nat.not_lt_zero _)
    | succ m ih =>
      intro i h0 h1
      have hc := cnt_le (fB p u) i
      refine Rn.iload_n dX0_countFitting_4 rfl rfl ?_
      refine Rn.sipush dX0_countFitting_5 rfl sp_251 ?_
      refine Rn.icmp_geN (tgt := 29) dX0_countFitting_8 rfl (by decide) (by omega) (by omega) (fun c8 => ?_) (fun c8 => ?_)
      · refine Rn.iload_n dX0_countFitting_29 rfl rfl ?_
        refine Rn.iret dX0_countFitting_30 rfl rfl rfl ?_
        rw [show i = 251 by omega]
        exact k
      · refine Rn.aload_n dX0_countFitting_11 rfl rfl ?_
        refine Rn.iload_n dX0_countFitting_12 rfl rfl ?_
        refine Rn.iload_n dX0_countFitting_13 rfl rfl ?_
        refine Rn.callV (as := [_, _]) v_X0_fitOf l_X0_58 ⟨Nat.le_of_ble_eq_true rfl, Nat.le_of_ble_eq_true rfl⟩ dX0_countFitting_14 rfl rfl (Nat.le_of_ble_eq_true rfl) H.1 H.2.2.1 rfl (Nat.le_refl _) (Nat.le_refl _) (t_X0_fitOf H O (by omega) (by omega) ?_) 
        have hfl := fitP_le p u i
        have hl30 := (O.us hu).2.2.2.2.2
        refine Rn.if_leN (tgt := 23) dX0_countFitting_17 rfl (by decide) (by omega) (fun c17 => ?_) (fun c17 => ?_)
        · refine Rn.iincN dX0_countFitting_23 rfl rfl (Nat.le_of_ble_eq_true rfl) ?_
          refine Rn.goto (tgt := 4) dX0_countFitting_26 (by decide) ?_
          have ec : cnt (fB p u) (i + 1) = cnt (fB p u) i := by show _ + (if fB p u i then 1 else 0) = _; unfold fB; rw [decide_eq_false (by omega)]; rfl
          have := ih (i + 1) (by omega) (by omega)
          rw [ec] at this
          exact Rn.pick [1, 2, 3, 0] rfl (this)
        · refine Rn.iincN dX0_countFitting_20 rfl rfl (Nat.le_of_ble_eq_true rfl) ?_
          refine Rn.iincN dX0_countFitting_23 rfl rfl (Nat.le_of_ble_eq_true rfl) ?_
          refine Rn.goto (tgt := 4) dX0_countFitting_26 (by decide) ?_
          have ec : cnt (fB p u) (i + 1) = cnt (fB p u) i + 1 := by show _ + (if fB p u i then 1 else 0) = _; unfold fB; rw [decide_eq_true (by omega)]; rfl
          have := ih (i + 1) (by omega) (by omega)
          rw [ec] at this
          exact Rn.pick [2, 3, 1, 0] rfl (this)
  exact Rn.pick [2, 3, 1, 0] rfl (hloop 252 0 (by omega) (by omega))
theorem t_X0_leastFitting {h : rHp} {Q : Option Value → rHp → Prop} {q : Nat} {p : Nat → Nat} (H : Hl h q p) (O : OKp p) {u : Nat} (hu : u < 4) (k : Q (some (.int (lsL (fB p u) 251 0))) h) : Cl M_X0_leastFitting h.1 h.2.1 [.ref q, .int (nI u)] h Q := by
  refine Cl.of pl_X0 (Nat.le_of_ble_eq_true rfl) (by first | exact Nat.le_refl _ | omega) (by first | exact Nat.le_refl _ | omega) ?_
  refine Rn.iconst dX0_leastFitting_0 rfl ic_0 ?_
  refine Rn.istore_n dX0_leastFitting_1 rfl (Nat.le_of_ble_eq_true rfl) ?_
  have hloop : ∀ (m : Nat) (n i : Nat), n < m → i + n = 251 → lsL (fB p u) n i = lsL (fB p u) 251 0 → Rn (M_X0_leastFitting, none, h.1, h.2.1) Q 2 [(0, .ref q), (1, .int (nI u)), (2, .int (nI i))] [] h := by
    intro m
    induction m with
    | zero => intro n i h0 h1 h2; exact absurd h0 (Nat.not_lt_zero _)
    | succ m ih =>
      intro n i h0 h1 h2
      refine Rn.iload_n dX0_leastFitting_2 rfl rfl ?_
      refine Rn.sipush dX0_leastFitting_3 rfl sp_251 ?_
      refine Rn.icmp_geN (tgt := 26) dX0_leastFitting_6 rfl (by decide) (by omega) (by omega) (fun c6 => ?_) (fun c6 => ?_)
      · obtain rfl : n = 0 := by omega
        refine Rn.bipush dX0_leastFitting_26 rfl bp_m9 ?_
        refine Rn.iret dX0_leastFitting_28 rfl rfl rfl ?_
        exact rn_fin k (by rw [← h2]; rfl) rfl
      · obtain ⟨n, rfl⟩ : ∃ n', n = n' + 1 := ⟨n - 1, by omega⟩
        refine Rn.aload_n dX0_leastFitting_9 rfl rfl ?_
        refine Rn.iload_n dX0_leastFitting_10 rfl rfl ?_
        refine Rn.iload_n dX0_leastFitting_11 rfl rfl ?_
        refine Rn.callV (as := [_, _]) v_X0_fitOf l_X0_58 ⟨Nat.le_of_ble_eq_true rfl, Nat.le_of_ble_eq_true rfl⟩ dX0_leastFitting_12 rfl rfl (Nat.le_of_ble_eq_true rfl) H.1 H.2.2.1 rfl (Nat.le_refl _) (Nat.le_refl _) (t_X0_fitOf H O (by omega) (by omega) ?_) 
        have hfl := fitP_le p u i
        have hl30 := (O.us hu).2.2.2.2.2
        refine Rn.if_leN (tgt := 20) dX0_leastFitting_15 rfl (by decide) (by omega) (fun c15 => ?_) (fun c15 => ?_)
        · refine Rn.iincN dX0_leastFitting_20 rfl rfl (Nat.le_of_ble_eq_true rfl) ?_
          refine Rn.goto (tgt := 2) dX0_leastFitting_23 (by decide) ?_
          exact Rn.pick [1, 2, 0] rfl (ih n (i + 1) (by omega) (by omega) (by rw [← h2]; exact (if_neg (by unfold fB; rw [decide_eq_false (by omega)]; decide)).symm))
        · refine Rn.iload_n dX0_leastFitting_18 rfl rfl ?_
          refine Rn.iret dX0_leastFitting_19 rfl rfl rfl ?_
          exact rn_fin k (by rw [← h2]; exact congrArg (fun z => some (Value.int z)) (if_pos (by unfold fB; exact decide_eq_true (by omega))).symm) rfl
  exact Rn.pick [1, 2, 0] rfl (hloop 252 251 0 (by omega) (by omega) rfl)
def ftd (p : Nat → Nat) (v u : Nat) : Bool := decide (u < p 24) && fB p u v
theorem ftd_hn {p : Nat → Nat} {v u : Nat} (h : ¬ u < p 24) : ftd p v u = false := by unfold ftd; rw [decide_eq_false h]; rfl
theorem ftd_n {p : Nat → Nat} {v u : Nat} (h : fitP p u v = 0) : ftd p v u = false := by unfold ftd fB; rw [h, Bool.and_comm]; rfl
theorem ftd_y {p : Nat → Nat} {v u : Nat} (h : u < p 24) (h2 : ¬ fitP p u v = 0) : ftd p v u = true := by unfold ftd fB; rw [decide_eq_true h, decide_eq_true (show 0 < fitP p u v by omega)]; rfl
theorem cnt_y {f : Nat → Bool} {n : Nat} (h : f n = true) : cnt f (n + 1) = cnt f n + 1 := by show cnt f n + (if f n then 1 else 0) = _; rw [h]; rfl
theorem cnt_n {f : Nat → Bool} {n : Nat} (h : f n = false) : cnt f (n + 1) = cnt f n := by show cnt f n + (if f n then 1 else 0) = _; rw [h]; rfl
theorem t_X0_countFitted {h : rHp} {Q : Option Value → rHp → Prop} {q : Nat} {p : Nat → Nat} (H : Hl h q p) (O : OKp p) {v : Nat} (hv : v < 251) (k : Q (some (.int (nI (cnt (ftd p v) 4)))) h) : Cl M_X0_countFitted h.1 h.2.1 [.ref q, .int (nI v)] h Q := by
  refine Cl.of pl_X0 (Nat.le_of_ble_eq_true rfl) (by first | exact Nat.le_refl _ | omega) (by first | exact Nat.le_refl _ | omega) ?_
  refine Rn.iconst dX0_countFitted_0 rfl ic_0 ?_
  refine Rn.istore_n dX0_countFitted_1 rfl (Nat.le_of_ble_eq_true rfl) ?_
  refine Rn.iconst dX0_countFitted_2 rfl ic_0 ?_
  refine Rn.istore_n dX0_countFitted_3 rfl (Nat.le_of_ble_eq_true rfl) ?_
  have hloop : ∀ (m : Nat) (i : Nat), 4 - i < m → i ≤ 4 → Rn (M_X0_countFitted, none, h.1, h.2.1) Q 4 [(0, .ref q), (1, .int (nI v)), (2, .int (nI (cnt (ftd p v) i))), (3, .int (nI i))] [] h := by
    intro m
    induction m with
    | zero => intro i h0 h1; exact absurd h0 (Nat.not_lt_zero _)
    | succ m ih =>
      intro i h0 h1
      have hc := cnt_le (ftd p v) i
      refine Rn.iload_n dX0_countFitted_4 rfl rfl ?_
      refine Rn.iconst dX0_countFitted_5 rfl ic_4 ?_
      refine Rn.icmp_geN (tgt := 35) dX0_countFitted_6 rfl (by decide) (by omega) (by omega) (fun c6 => ?_) (fun c6 => ?_)
      · refine Rn.iload_n dX0_countFitted_35 rfl rfl ?_
        refine Rn.iret dX0_countFitted_36 rfl rfl rfl ?_
        rw [show i = 4 by omega]
        exact k
      · refine Rn.aload_n dX0_countFitted_9 rfl rfl ?_
        refine Rn.iload_n dX0_countFitted_10 rfl rfl ?_
        refine Rn.callV (as := [_]) v_X0_has l_X0_42 ⟨Nat.le_of_ble_eq_true rfl, Nat.le_of_ble_eq_true rfl⟩ dX0_countFitted_11 rfl rfl (Nat.le_of_ble_eq_true rfl) H.1 H.2.2.1 rfl (Nat.le_refl _) (Nat.le_refl _) (t_X0_has H O.1 ?_) 
        refine Rn.top (congrArg bi (hasB_nI (by omega))) ?_
        refine Rn.if_eqB (tgt := 29) dX0_countFitted_14 rfl (by decide) (fun c14 => ?_) (fun c14 => ?_)
        · refine Rn.iincN dX0_countFitted_29 rfl rfl (Nat.le_of_ble_eq_true rfl) ?_
          refine Rn.goto (tgt := 4) dX0_countFitted_32 (by decide) ?_
          have ec := cnt_n (ftd_hn (v := v) (of_decide_eq_false c14))
          have := ih (i + 1) (by omega) (by omega)
          rw [ec] at this
          exact Rn.pick [1, 2, 3, 0] rfl (this)
        · refine Rn.aload_n dX0_countFitted_17 rfl rfl ?_
          refine Rn.iload_n dX0_countFitted_18 rfl rfl ?_
          refine Rn.iload_n dX0_countFitted_19 rfl rfl ?_
          refine Rn.callV (as := [_, _]) v_X0_fitOf l_X0_58 ⟨Nat.le_of_ble_eq_true rfl, Nat.le_of_ble_eq_true rfl⟩ dX0_countFitted_20 rfl rfl (Nat.le_of_ble_eq_true rfl) H.1 H.2.2.1 rfl (Nat.le_refl _) (Nat.le_refl _) (t_X0_fitOf H O (by omega) (by omega) ?_) 
          have hfl := fitP_le p i v
          have hl30 := (O.us (show i < 4 by omega)).2.2.2.2.2
          refine Rn.if_leN (tgt := 29) dX0_countFitted_23 rfl (by decide) (by omega) (fun c23 => ?_) (fun c23 => ?_)
          · refine Rn.iincN dX0_countFitted_29 rfl rfl (Nat.le_of_ble_eq_true rfl) ?_
            refine Rn.goto (tgt := 4) dX0_countFitted_32 (by decide) ?_
            have ec := cnt_n (ftd_n c23)
            have := ih (i + 1) (by omega) (by omega)
            rw [ec] at this
            exact Rn.pick [1, 2, 3, 0] rfl (this)
          · refine Rn.iincN dX0_countFitted_26 rfl rfl (Nat.le_of_ble_eq_true rfl) ?_
            refine Rn.iincN dX0_countFitted_29 rfl rfl (Nat.le_of_ble_eq_true rfl) ?_
            refine Rn.goto (tgt := 4) dX0_countFitted_32 (by decide) ?_
            have ec := cnt_y (ftd_y (of_decide_eq_true c14) c23)
            have := ih (i + 1) (by omega) (by omega)
            rw [ec] at this
            exact Rn.pick [2, 3, 1, 0] rfl (this)
  exact Rn.pick [2, 3, 1, 0] rfl (hloop 5 0 (by omega) (by omega))
theorem t_X0_userIn {h : rHp} {Q : Option Value → rHp → Prop} {a : Nat} (ha : a < 100000) (k : Q (some (.int (nI (a / 1000)))) h) : Cl M_X0_userIn h.1 h.2.1 [.int (nI a)] h Q := by
  refine Cl.of pl_X0 (Nat.le_of_ble_eq_true rfl) (by first | exact Nat.le_refl _ | omega) (by first | exact Nat.le_refl _ | omega) ?_
  refine Rn.iload_n dX0_userIn_0 rfl rfl ?_
  refine Rn.sipush dX0_userIn_1 rfl sp_1000 ?_
  refine Rn.idivN dX0_userIn_4 rfl (by omega) (by omega) (by omega) ?_
  refine Rn.iret dX0_userIn_5 rfl rfl rfl ?_
  exact k
theorem t_X0_numberIn {h : rHp} {Q : Option Value → rHp → Prop} {a : Nat} (ha : a < 100000) (k : Q (some (.int (nI (a % 1000)))) h) : Cl M_X0_numberIn h.1 h.2.1 [.int (nI a)] h Q := by
  refine Cl.of pl_X0 (Nat.le_of_ble_eq_true rfl) (by first | exact Nat.le_refl _ | omega) (by first | exact Nat.le_refl _ | omega) ?_
  refine Rn.iload_n dX0_numberIn_0 rfl rfl ?_
  refine Rn.sipush dX0_numberIn_1 rfl sp_1000 ?_
  refine Rn.iremN dX0_numberIn_4 rfl (by omega) (by omega) (by omega) ?_
  refine Rn.iret dX0_numberIn_5 rfl rfl rfl ?_
  exact k
theorem hdI_neg {p : Nat → Nat} {x : Int32} (h : hasB (p 27) x = false) : hdI p x = -9 := by unfold hdI; rw [h]; rfl
theorem hdI_y {p : Nat → Nat} {i : Nat} (h : i < p 27) (hi : i < 2147483648) : hdI p (nI i) = nI (p (28 + i)) := by unfold hdI; rw [hasB_nI hi, decide_eq_true h, if_pos rfl, nI_clamp hi]
theorem hasB_lt8 {m : Nat} {x : Int32} (hm : m ≤ 8) (h : nI 8 ≤ x) : hasB m x = false := by
  unfold hasB
  rw [Int32.le_iff_toInt_le, nI_toInt (by omega)] at h
  exact decide_eq_false (fun z => by omega)
theorem t_X0_heardAt {h : rHp} {Q : Option Value → rHp → Prop} {q : Nat} {p : Nat → Nat} (H : Hl h q p) (O : OKp p) {x : Int32} (k : Q (some (.int (hdI p x))) h) : Cl M_X0_heardAt h.1 h.2.1 [.ref q, .int x] h Q := by
  refine Cl.of pl_X0 (Nat.le_of_ble_eq_true rfl) (by first | exact Nat.le_refl _ | omega) (by first | exact Nat.le_refl _ | omega) ?_
  refine Rn.iload_n dX0_heardAt_0 rfl rfl ?_
  refine Rn.if_lt (tgt := 24) dX0_heardAt_1 rfl (by decide) (fun c1 => ?_) (fun c1 => ?_)
  · refine Rn.iconst dX0_heardAt_24 rfl ic_0 ?_
    refine Rn.istore_n dX0_heardAt_25 rfl (Nat.le_of_ble_eq_true rfl) ?_
    refine Rn.iload_n dX0_heardAt_26 rfl rfl ?_
    refine Rn.if_eqN (tgt := 41) dX0_heardAt_27 rfl (by decide) (by omega) (fun c27 => ?_) (fun c27 => ?_)
    · refine Rn.bipush dX0_heardAt_41 rfl bp_m9 ?_
      refine Rn.iret dX0_heardAt_43 rfl rfl rfl ?_
      first | exact rn_fin k (by rw [hdI_neg (hasB_neg c1)]) rfl | exact rn_fin k (by rw [hdI_neg (hasB_big c11 (by omega))]) rfl | exact rn_fin k (by rw [hdI_neg (hasB_lt8 (by omega) c17)]) rfl | exact rn_fin k (by rw [hdI_y hi (by omega)]) rfl
    · first | omega | exact False.elim c27
  · refine Rn.iload_n dX0_heardAt_4 rfl rfl ?_
    refine Rn.aload_n dX0_heardAt_5 rfl rfl ?_
    refine Rn.getf f_X0_11 dX0_heardAt_6 rfl H.1 H.2.2.1 rfl ?_
    refine Rn.iconst dX0_heardAt_9 rfl ic_3 ?_
    refine Rn.ialdN dX0_heardAt_10 rfl H.2.1 H.2.2.2 (by omega) (by omega) ?_
    refine Rn.top (cl_3 p) ?_
    have h8 := O.2.2.2.1
    refine Rn.icmp_ge (tgt := 24) dX0_heardAt_11 rfl (by decide) (fun c11 => ?_) (fun c11 => ?_)
    · refine Rn.iconst dX0_heardAt_24 rfl ic_0 ?_
      refine Rn.istore_n dX0_heardAt_25 rfl (Nat.le_of_ble_eq_true rfl) ?_
      refine Rn.iload_n dX0_heardAt_26 rfl rfl ?_
      refine Rn.if_eqN (tgt := 41) dX0_heardAt_27 rfl (by decide) (by omega) (fun c27 => ?_) (fun c27 => ?_)
      · refine Rn.bipush dX0_heardAt_41 rfl bp_m9 ?_
        refine Rn.iret dX0_heardAt_43 rfl rfl rfl ?_
        first | exact rn_fin k (by rw [hdI_neg (hasB_neg c1)]) rfl | exact rn_fin k (by rw [hdI_neg (hasB_big c11 (by omega))]) rfl | exact rn_fin k (by rw [hdI_neg (hasB_lt8 (by omega) c17)]) rfl | exact rn_fin k (by rw [hdI_y hi (by omega)]) rfl
      · first | omega | exact False.elim c27
    · refine Rn.iload_n dX0_heardAt_14 rfl rfl ?_
      refine Rn.bipush dX0_heardAt_15 rfl bp_8 ?_
      refine Rn.icmp_ge (tgt := 24) dX0_heardAt_17 rfl (by decide) (fun c17 => ?_) (fun c17 => ?_)
      · refine Rn.iconst dX0_heardAt_24 rfl ic_0 ?_
        refine Rn.istore_n dX0_heardAt_25 rfl (Nat.le_of_ble_eq_true rfl) ?_
        refine Rn.iload_n dX0_heardAt_26 rfl rfl ?_
        refine Rn.if_eqN (tgt := 41) dX0_heardAt_27 rfl (by decide) (by omega) (fun c27 => ?_) (fun c27 => ?_)
        · refine Rn.bipush dX0_heardAt_41 rfl bp_m9 ?_
          refine Rn.iret dX0_heardAt_43 rfl rfl rfl ?_
          first | exact rn_fin k (by rw [hdI_neg (hasB_neg c1)]) rfl | exact rn_fin k (by rw [hdI_neg (hasB_big c11 (by omega))]) rfl | exact rn_fin k (by rw [hdI_neg (hasB_lt8 (by omega) c17)]) rfl | exact rn_fin k (by rw [hdI_y hi (by omega)]) rfl
        · first | omega | exact False.elim c27
      · obtain ⟨i, hi, rfl⟩ := hasB_of (hasB_ok c1 c11 (by omega))
        refine Rn.iconst dX0_heardAt_20 rfl ic_1 ?_
        refine Rn.goto (tgt := 25) dX0_heardAt_21 (by decide) ?_
        refine Rn.istore_n dX0_heardAt_25 rfl (Nat.le_of_ble_eq_true rfl) ?_
        refine Rn.iload_n dX0_heardAt_26 rfl rfl ?_
        refine Rn.if_eqN (tgt := 41) dX0_heardAt_27 rfl (by decide) (by omega) (fun c27 => ?_) (fun c27 => ?_)
        · first | omega | exact False.elim c27
        · refine Rn.aload_n dX0_heardAt_30 rfl rfl ?_
          refine Rn.getf f_X0_11 dX0_heardAt_31 rfl H.1 H.2.2.1 rfl ?_
          refine Rn.iconst dX0_heardAt_34 rfl ic_4 ?_
          refine Rn.iload_n dX0_heardAt_35 rfl rfl ?_
          refine Rn.iaddN dX0_heardAt_36 rfl ?_
          refine Rn.ialdN dX0_heardAt_37 rfl H.2.1 H.2.2.2 (by omega) (by omega) ?_
          refine Rn.top (cl_hd p (by omega)) ?_
          refine Rn.goto (tgt := 43) dX0_heardAt_38 (by decide) ?_
          refine Rn.iret dX0_heardAt_43 rfl rfl rfl ?_
          first | exact rn_fin k (by rw [hdI_neg (hasB_neg c1)]) rfl | exact rn_fin k (by rw [hdI_neg (hasB_big c11 (by omega))]) rfl | exact rn_fin k (by rw [hdI_neg (hasB_lt8 (by omega) c17)]) rfl | exact rn_fin k (by rw [hdI_y hi (by omega)]) rfl
end
section
theorem lsr_0l (b : Nat) : lsr 0 b = b := rfl
theorem lsr_0r {a : Nat} : lsr a 0 = a := by unfold lsr; split <;> simp_all
theorem wi_min {a b : Nat} (ha : a < 100000) (hb : b < 100000) (h1 : ¬ a = 0) (h2 : ¬ b = 0) : (if wi b < wi a then wi b else wi a) = wi (lsr a b) := by
  obtain ⟨a, rfl⟩ : ∃ a', a = a' + 1 := ⟨a - 1, by omega⟩
  obtain ⟨b, rfl⟩ : ∃ b', b = b' + 1 := ⟨b - 1, by omega⟩
  rw [wi_s, wi_s]
  unfold lsr
  rw [if_neg h1, if_neg h2]
  by_cases hc : b < a
  · rw [if_pos ((nI_ltI (by omega) (by omega)).mpr hc), Nat.min_eq_right (by omega), wi_s]
  · rw [if_neg (fun z => hc ((nI_ltI (by omega) (by omega)).mp z)), Nat.min_eq_left (by omega), wi_s]
theorem lsr_le {a b n : Nat} (ha : a ≤ n) (hb : b ≤ n) : lsr a b ≤ n := by
  unfold lsr
  split
  · exact hb
  · split
    · exact ha
    · exact Nat.le_trans (Nat.min_le_left _ _) ha
theorem lfL_le (p : Nat → Nat) (u : Nat) : ∀ n x acc, x < 251 → acc ≤ 251 → lfL p u n x acc ≤ 251
  | 0, _, _, _, h => h
  | n + 1, x, acc, hx, h => by
    refine lfL_le p u n _ _ (nx_lt _ _) ?_
    split
    · exact lsr_le h (by omega)
    · exact h
theorem lfP_le (p : Nat → Nat) {u v : Nat} (hv : v < 251) : lfP p u v ≤ 251 := lfL_le p u 11 v 0 hv (by omega)
/-- the i-th that was heard, one more; 0: there is none -/
def hdN (p : Nat → Nat) (i : Nat) : Nat := if i < p 27 then p (28 + i) + 1 else 0
theorem hdI_N {p : Nat → Nat} {i : Nat} (hi : i < 2147483648) : hdI p (nI i) = wi (hdN p i) := by
  unfold hdN
  by_cases h : i < p 27
  · rw [hdI_y h hi, if_pos h, wi_s]
  · rw [if_neg h, hdI_neg (by rw [hasB_nI hi, decide_eq_false h])]; rfl
theorem hdN_lt {p : Nat → Nat} (O : OKp p) {i : Nat} (hi : i < 8) : p (28 + i) < 4000 := by have := O.2.2.2.2.2.1 i hi; omega
theorem stL_0 {p : Nat → Nat} {u n i acc : Nat} (h : ¬ (i < p 27 ∧ p (28 + i) / 1000 = u)) : stL p u (n + 1) i acc = stL p u n (i + 1) acc := by show stL p u n (i + 1) _ = _; rw [if_neg h]
theorem stL_1 {p : Nat → Nat} {u n i acc : Nat} (h : i < p 27 ∧ p (28 + i) / 1000 = u) : stL p u (n + 1) i acc = stL p u n (i + 1) (lsr acc (lfP p u (p (28 + i) % 1000))) := by show stL p u n (i + 1) _ = _; rw [if_pos h]
theorem wi_t {a : Nat} (ha : a < 100000) (h : ¬ wi a = -9) : ¬ a = 0 := fun z => h (by rw [z]; rfl)
theorem wi_f {a : Nat} (ha : a < 100000) (h : wi a = -9) : a = 0 := (wi_m9 ha).mp h
theorem t_X0_lesser {h : rHp} {Q : Option Value → rHp → Prop} {a b : Nat} (ha : a < 100000) (hb : b < 100000) (k : Q (some (.int (wi (lsr a b)))) h) : Cl M_X0_lesser h.1 h.2.1 [.int (wi a), .int (wi b)] h Q := by
  refine Cl.of pl_X0 (Nat.le_of_ble_eq_true rfl) (by first | exact Nat.le_refl _ | omega) (by first | exact Nat.le_refl _ | omega) ?_
  refine Rn.iload_n dX0_lesser_0 rfl rfl ?_
  refine Rn.bipush dX0_lesser_1 rfl bp_m9 ?_
  refine Rn.icmp_ne (tgt := 8) dX0_lesser_3 rfl (by decide) (fun c3 => ?_) (fun c3 => ?_)
  · refine Rn.iload_n dX0_lesser_8 rfl rfl ?_
    refine Rn.bipush dX0_lesser_9 rfl bp_m9 ?_
    refine Rn.icmp_ne (tgt := 18) dX0_lesser_11 rfl (by decide) (fun c11 => ?_) (fun c11 => ?_)
    · refine Rn.iload_n dX0_lesser_18 rfl rfl ?_
      refine Rn.iload_n dX0_lesser_19 rfl rfl ?_
      refine Rn.mmin l_X0_53 w_min2 w_min3 w_min4 (Nat.le_of_ble_eq_true rfl) (Nat.le_of_ble_eq_true rfl) dX0_lesser_20 rfl ?_
      refine Rn.iret dX0_lesser_23 rfl rfl rfl ?_
      first | exact rn_fin k (by rw [wi_f hb c11, lsr_0r]) rfl | exact rn_fin k (by rw [wi_min ha hb (wi_t ha c3) (wi_t hb c11)]) rfl
    · refine Rn.iload_n dX0_lesser_14 rfl rfl ?_
      refine Rn.goto (tgt := 23) dX0_lesser_15 (by decide) ?_
      refine Rn.iret dX0_lesser_23 rfl rfl rfl ?_
      first | exact rn_fin k (by rw [wi_f hb c11, lsr_0r]) rfl | exact rn_fin k (by rw [wi_min ha hb (wi_t ha c3) (wi_t hb c11)]) rfl
  · refine Rn.iload_n dX0_lesser_6 rfl rfl ?_
    refine Rn.iret dX0_lesser_7 rfl rfl rfl ?_
    exact rn_fin k (by rw [wi_f ha c3, lsr_0l]) rfl
theorem t_X0_leastFrom {h : rHp} {Q : Option Value → rHp → Prop} {q : Nat} {p : Nat → Nat} (H : Hl h q p) (O : OKp p) {u v : Nat} (hu : u < 4) (hv : v < 251) (k : Q (some (.int (wi (lfP p u v)))) h) : Cl M_X0_leastFrom h.1 h.2.1 [.ref q, .int (nI u), .int (nI v)] h Q := by
  refine Cl.of pl_X0 (Nat.le_of_ble_eq_true rfl) (by first | exact Nat.le_refl _ | omega) (by first | exact Nat.le_refl _ | omega) ?_
  refine Rn.bipush dX0_leastFrom_0 rfl bp_m9 ?_
  refine Rn.istore_n dX0_leastFrom_2 rfl (Nat.le_of_ble_eq_true rfl) ?_
  refine Rn.iload_n dX0_leastFrom_3 rfl rfl ?_
  refine Rn.istore dX0_leastFrom_4 rfl (Nat.le_of_ble_eq_true rfl) ?_
  refine Rn.iconst dX0_leastFrom_6 rfl ic_0 ?_
  refine Rn.istore dX0_leastFrom_7 rfl (Nat.le_of_ble_eq_true rfl) ?_
  have hloop : ∀ (m : Nat) (n kk x acc : Nat), n < m → kk + n = 11 → x < 251 → acc ≤ 251 → lfL p u n x acc = lfP p u v → Rn (M_X0_leastFrom, none, h.1, h.2.1) Q 9 [(0, .ref q), (1, .int (nI u)), (3, .int (wi acc)), (4, .int (nI x)), (5, .int (nI kk))] [] h := by
    intro m
    induction m with
    | zero => intro n kk x acc h0 h1 h2 h3 h4; exact absurd h0 (Nat.not_lt_zero _)
    | succ m ih =>
      intro n kk x acc h0 h1 h2 h3 h4
      refine Rn.iload dX0_leastFrom_9 rfl rfl ?_
      refine Rn.bipush dX0_leastFrom_11 rfl bp_10 ?_
      refine Rn.icmp_gtN (tgt := 53) dX0_leastFrom_13 rfl (by decide) (by omega) (by omega) (fun c13 => ?_) (fun c13 => ?_)
      · obtain rfl : n = 0 := by omega
        refine Rn.iload_n dX0_leastFrom_53 rfl rfl ?_
        refine Rn.iret dX0_leastFrom_54 rfl rfl rfl ?_
        exact rn_fin k (by rw [← h4]; rfl) rfl
      · obtain ⟨n, rfl⟩ : ∃ n', n = n' + 1 := ⟨n - 1, by omega⟩
        refine Rn.aload_n dX0_leastFrom_16 rfl rfl ?_
        refine Rn.iload_n dX0_leastFrom_17 rfl rfl ?_
        refine Rn.iload dX0_leastFrom_18 rfl rfl ?_
        refine Rn.callV (as := [_, _]) v_X0_fitOf l_X0_58 ⟨Nat.le_of_ble_eq_true rfl, Nat.le_of_ble_eq_true rfl⟩ dX0_leastFrom_20 rfl rfl (Nat.le_of_ble_eq_true rfl) H.1 H.2.2.1 rfl (Nat.le_refl _) (Nat.le_refl _) (t_X0_fitOf H O (by omega) (by omega) ?_) 
        have hfl := fitP_le p u x
        have hl30 := (O.us hu).2.2.2.2.2
        refine Rn.if_leN (tgt := 33) dX0_leastFrom_23 rfl (by decide) (by omega) (fun c23 => ?_) (fun c23 => ?_)
        · refine Rn.iload dX0_leastFrom_33 rfl rfl ?_
          refine Rn.aload_n dX0_leastFrom_35 rfl rfl ?_
          refine Rn.iload_n dX0_leastFrom_36 rfl rfl ?_
          refine Rn.iconst dX0_leastFrom_37 rfl ic_1 ?_
          refine Rn.callV (as := [_, _]) v_X0_of l_X0_46 ⟨Nat.le_of_ble_eq_true rfl, Nat.le_of_ble_eq_true rfl⟩ dX0_leastFrom_38 rfl rfl (Nat.le_of_ble_eq_true rfl) H.1 H.2.2.1 rfl (Nat.le_refl _) (Nat.le_refl _) (t_X0_of H (by omega) (by omega) ?_) 
          refine Rn.iconst dX0_leastFrom_41 rfl ic_1 ?_
          refine Rn.callSN (as := [_, _, _]) s_X4_stepsBehind n_X0_38 ⟨Nat.le_of_ble_eq_true rfl, Nat.le_of_ble_eq_true rfl⟩ dX0_leastFrom_42 rfl rfl (Nat.le_of_ble_eq_true rfl) (Nat.le_refl _) (Nat.le_refl _) (t_X4_stepsBehind h2 (O.us hu).2.1 (by omega) ?_)
          refine Rn.istore dX0_leastFrom_45 rfl (Nat.le_of_ble_eq_true rfl) ?_
          refine Rn.iincN dX0_leastFrom_47 rfl rfl (Nat.le_of_ble_eq_true rfl) ?_
          refine Rn.goto (tgt := 9) dX0_leastFrom_50 (by decide) ?_
          exact Rn.pick [2, 3, 4, 1, 0] rfl (ih n (kk + 1) _ acc (by omega) (by omega) (nx_lt _ _) h3 (by rw [← h4]; show _ = lfL p u n _ (if 0 < fitP p u x then lsr acc (x + 1) else acc); rw [if_neg (by omega)]; rfl))
        · refine Rn.iload_n dX0_leastFrom_26 rfl rfl ?_
          refine Rn.iload dX0_leastFrom_27 rfl rfl ?_
          refine Rn.callS (as := [_, _]) s_X0_lesser l_X0_83 ⟨Nat.le_of_ble_eq_true rfl, Nat.le_of_ble_eq_true rfl⟩ dX0_leastFrom_29 rfl rfl (Nat.le_of_ble_eq_true rfl) (Nat.le_refl _) (Nat.le_refl _) (t_X0_lesser (b := x + 1) (by omega) (by omega) ?_)
          refine Rn.istore_n dX0_leastFrom_32 rfl (Nat.le_of_ble_eq_true rfl) ?_
          refine Rn.iload dX0_leastFrom_33 rfl rfl ?_
          refine Rn.aload_n dX0_leastFrom_35 rfl rfl ?_
          refine Rn.iload_n dX0_leastFrom_36 rfl rfl ?_
          refine Rn.iconst dX0_leastFrom_37 rfl ic_1 ?_
          refine Rn.callV (as := [_, _]) v_X0_of l_X0_46 ⟨Nat.le_of_ble_eq_true rfl, Nat.le_of_ble_eq_true rfl⟩ dX0_leastFrom_38 rfl rfl (Nat.le_of_ble_eq_true rfl) H.1 H.2.2.1 rfl (Nat.le_refl _) (Nat.le_refl _) (t_X0_of H (by omega) (by omega) ?_) 
          refine Rn.iconst dX0_leastFrom_41 rfl ic_1 ?_
          refine Rn.callSN (as := [_, _, _]) s_X4_stepsBehind n_X0_38 ⟨Nat.le_of_ble_eq_true rfl, Nat.le_of_ble_eq_true rfl⟩ dX0_leastFrom_42 rfl rfl (Nat.le_of_ble_eq_true rfl) (Nat.le_refl _) (Nat.le_refl _) (t_X4_stepsBehind h2 (O.us hu).2.1 (by omega) ?_)
          refine Rn.istore dX0_leastFrom_45 rfl (Nat.le_of_ble_eq_true rfl) ?_
          refine Rn.iincN dX0_leastFrom_47 rfl rfl (Nat.le_of_ble_eq_true rfl) ?_
          refine Rn.goto (tgt := 9) dX0_leastFrom_50 (by decide) ?_
          exact Rn.pick [3, 4, 2, 1, 0] rfl (ih n (kk + 1) _ _ (by omega) (by omega) (nx_lt _ _) (lsr_le h3 (show x + 1 ≤ 251 by omega)) (by rw [← h4]; show _ = lfL p u n _ (if 0 < fitP p u x then lsr acc (x + 1) else acc); rw [if_pos (by omega)]; rfl))
  exact Rn.pick [3, 4, 2, 1, 0] rfl (hloop 12 11 0 v 0 (by omega) (by omega) hv (by omega) rfl)
theorem t_X0_leastStolen {h : rHp} {Q : Option Value → rHp → Prop} {q : Nat} {p : Nat → Nat} (H : Hl h q p) (O : OKp p) {u : Nat} (hu : u < 4) (k : Q (some (.int (wi (stL p u 8 0 0)))) h) : Cl M_X0_leastStolen h.1 h.2.1 [.ref q, .int (nI u)] h Q := by
  refine Cl.of pl_X0 (Nat.le_of_ble_eq_true rfl) (by first | exact Nat.le_refl _ | omega) (by first | exact Nat.le_refl _ | omega) ?_
  refine Rn.bipush dX0_leastStolen_0 rfl bp_m9 ?_
  refine Rn.istore_n dX0_leastStolen_2 rfl (Nat.le_of_ble_eq_true rfl) ?_
  refine Rn.iconst dX0_leastStolen_3 rfl ic_0 ?_
  refine Rn.istore_n dX0_leastStolen_4 rfl (Nat.le_of_ble_eq_true rfl) ?_
  have hloop : ∀ (m : Nat) (n i acc : Nat), n < m → i + n = 8 → acc ≤ 251 → stL p u n i acc = stL p u 8 0 0 → Rn (M_X0_leastStolen, none, h.1, h.2.1) Q 5 [(0, .ref q), (1, .int (nI u)), (2, .int (wi acc)), (3, .int (nI i))] [] h := by
    intro m
    induction m with
    | zero => intro n i acc h0 h1 h2 h3; exact absurd h0 (Nat.not_lt_zero _)
    | succ m ih =>
      intro n i acc h0 h1 h2 h3
      refine Rn.iload_n dX0_leastStolen_5 rfl rfl ?_
      refine Rn.bipush dX0_leastStolen_6 rfl bp_8 ?_
      refine Rn.icmp_geN (tgt := 55) dX0_leastStolen_8 rfl (by decide) (by omega) (by omega) (fun c8 => ?_) (fun c8 => ?_)
      · obtain rfl : n = 0 := by omega
        refine Rn.iload_n dX0_leastStolen_55 rfl rfl ?_
        refine Rn.iret dX0_leastStolen_56 rfl rfl rfl ?_
        exact rn_fin k (by rw [← h3]; rfl) rfl
      · obtain ⟨n, rfl⟩ : ∃ n', n = n' + 1 := ⟨n - 1, by omega⟩
        have hlt := hdN_lt O (show i < 8 by omega)
        have hdl : hdN p i < 100000 := by unfold hdN; split <;> omega
        refine Rn.aload_n dX0_leastStolen_11 rfl rfl ?_
        refine Rn.iload_n dX0_leastStolen_12 rfl rfl ?_
        refine Rn.callV (as := [_]) v_X0_heardAt l_X0_70 ⟨Nat.le_of_ble_eq_true rfl, Nat.le_of_ble_eq_true rfl⟩ dX0_leastStolen_13 rfl rfl (Nat.le_of_ble_eq_true rfl) H.1 H.2.2.1 rfl (Nat.le_refl _) (Nat.le_refl _) (t_X0_heardAt H O ?_) 
        refine Rn.top (hdI_N (by omega)) ?_
        refine Rn.istore dX0_leastStolen_16 rfl (Nat.le_of_ble_eq_true rfl) ?_
        refine Rn.iload dX0_leastStolen_18 rfl rfl ?_
        refine Rn.bipush dX0_leastStolen_20 rfl bp_m9 ?_
        refine Rn.icmp_eq (tgt := 49) dX0_leastStolen_22 rfl (by decide) (fun c22 => ?_) (fun c22 => ?_)
        · refine Rn.iincN dX0_leastStolen_49 rfl rfl (Nat.le_of_ble_eq_true rfl) ?_
          refine Rn.goto (tgt := 5) dX0_leastStolen_52 (by decide) ?_
          exact Rn.pick [2, 3, 4, 0] rfl (ih n (i + 1) acc (by omega) (by omega) h2 (by rw [← h3]; exact (stL_0 (fun z => by have e := wi_f hdl c22; unfold hdN at e; rw [if_pos z.1] at e; omega)).symm))
        · have hi27 : i < p 27 := Classical.byContradiction fun z => wi_t hdl c22 (if_neg z)
          have et : hdN p i = p (28 + i) + 1 := if_pos hi27
          rw [et, wi_s]
          refine Rn.iload dX0_leastStolen_25 rfl rfl ?_
          refine Rn.callS (as := [_]) s_X0_userIn l_X0_74 ⟨Nat.le_of_ble_eq_true rfl, Nat.le_of_ble_eq_true rfl⟩ dX0_leastStolen_27 rfl rfl (Nat.le_of_ble_eq_true rfl) (Nat.le_refl _) (Nat.le_refl _) (t_X0_userIn (by omega) ?_)
          refine Rn.iload_n dX0_leastStolen_30 rfl rfl ?_
          refine Rn.icmp_neN (tgt := 49) dX0_leastStolen_31 rfl (by decide) (by omega) (by omega) (fun c31 => ?_) (fun c31 => ?_)
          · refine Rn.iincN dX0_leastStolen_49 rfl rfl (Nat.le_of_ble_eq_true rfl) ?_
            refine Rn.goto (tgt := 5) dX0_leastStolen_52 (by decide) ?_
            exact Rn.pick [2, 3, 4, 0] rfl (ih n (i + 1) acc (by omega) (by omega) h2 (by rw [← h3]; exact (stL_0 (fun z => c31 z.2)).symm))
          · refine Rn.iload_n dX0_leastStolen_34 rfl rfl ?_
            refine Rn.aload_n dX0_leastStolen_35 rfl rfl ?_
            refine Rn.iload_n dX0_leastStolen_36 rfl rfl ?_
            refine Rn.iload dX0_leastStolen_37 rfl rfl ?_
            refine Rn.callS (as := [_]) s_X0_numberIn l_X0_77 ⟨Nat.le_of_ble_eq_true rfl, Nat.le_of_ble_eq_true rfl⟩ dX0_leastStolen_39 rfl rfl (Nat.le_of_ble_eq_true rfl) (Nat.le_refl _) (Nat.le_refl _) (t_X0_numberIn (by omega) ?_)
            refine Rn.callV (as := [_, _]) v_X0_leastFrom l_X0_80 ⟨Nat.le_of_ble_eq_true rfl, Nat.le_of_ble_eq_true rfl⟩ dX0_leastStolen_42 rfl rfl (Nat.le_of_ble_eq_true rfl) H.1 H.2.2.1 rfl (Nat.le_refl _) (Nat.le_refl _) (t_X0_leastFrom H O hu (O.2.2.2.2.2.1 i (by omega)).1 ?_) 
            refine Rn.callS (as := [_, _]) s_X0_lesser l_X0_83 ⟨Nat.le_of_ble_eq_true rfl, Nat.le_of_ble_eq_true rfl⟩ dX0_leastStolen_45 rfl rfl (Nat.le_of_ble_eq_true rfl) (Nat.le_refl _) (Nat.le_refl _) (t_X0_lesser (by omega) (Nat.lt_of_le_of_lt (lfP_le p (O.2.2.2.2.2.1 i (by omega)).1) (by omega)) ?_)
            refine Rn.istore_n dX0_leastStolen_48 rfl (Nat.le_of_ble_eq_true rfl) ?_
            refine Rn.iincN dX0_leastStolen_49 rfl rfl (Nat.le_of_ble_eq_true rfl) ?_
            refine Rn.goto (tgt := 5) dX0_leastStolen_52 (by decide) ?_
            exact Rn.pick [3, 4, 1, 0] rfl (ih n (i + 1) _ (by omega) (by omega) (lsr_le h2 (lfP_le p (O.2.2.2.2.2.1 i (by omega)).1)) (by rw [← h3]; exact (stL_1 ⟨hi27, c31⟩).symm))
  exact Rn.pick [2, 3, 1, 0] rfl (hloop 9 8 0 0 (by omega) (by omega) (by omega) rfl)
theorem t_X0_beginRow {h : rHp} {Q : Option Value → rHp → Prop} {q : Nat} {p : Nat → Nat} (H : Hl h q p) {u s t n : Nat} (hu : u < 4) (hs : s < 251) (ht : t < 251) (hn : n < 100000) (k : Q none (hp h q (bgP p u s t n))) : Cl M_X0_beginRow h.1 h.2.1 [.ref q, .int (nI u), .int (nI s), .int (nI t), .int (nI n)] h Q := by
  refine Cl.of pl_X0 (Nat.le_of_ble_eq_true rfl) (by first | exact Nat.le_refl _ | omega) (by first | exact Nat.le_refl _ | omega) ?_
  refine Rn.aload_n dX0_beginRow_0 rfl rfl ?_
  refine Rn.iload_n dX0_beginRow_1 rfl rfl ?_
  refine Rn.iconst dX0_beginRow_2 rfl ic_0 ?_
  refine Rn.iload_n dX0_beginRow_3 rfl rfl ?_
  refine Rn.callV (as := [_, _, _]) v_X0_put l_X0_34 ⟨Nat.le_of_ble_eq_true rfl, Nat.le_of_ble_eq_true rfl⟩ dX0_beginRow_4 rfl rfl (Nat.le_of_ble_eq_true rfl) H.1 H.2.2.1 rfl (Nat.le_refl _) (Nat.le_refl _) (t_X0_put H (by omega) (by omega) ?_) 
  refine Rn.aload_n dX0_beginRow_7 rfl rfl ?_
  refine Rn.iload_n dX0_beginRow_8 rfl rfl ?_
  refine Rn.iconst dX0_beginRow_9 rfl ic_1 ?_
  refine Rn.iload_n dX0_beginRow_10 rfl rfl ?_
  refine Rn.callV (as := [_, _, _]) v_X0_put l_X0_34 ⟨Nat.le_of_ble_eq_true rfl, Nat.le_of_ble_eq_true rfl⟩ dX0_beginRow_11 rfl rfl (Nat.le_of_ble_eq_true rfl) (H.put _).1 (H.put _).2.2.1 rfl (Nat.le_refl _) (Nat.le_refl _) (t_X0_put (H.put _) (by omega) (by omega) ?_) 
  refine Rn.heap (hp_hp _ _ _ _) ?_
  refine Rn.aload_n dX0_beginRow_14 rfl rfl ?_
  refine Rn.iload_n dX0_beginRow_15 rfl rfl ?_
  refine Rn.iconst dX0_beginRow_16 rfl ic_2 ?_
  refine Rn.iload dX0_beginRow_17 rfl rfl ?_
  refine Rn.callV (as := [_, _, _]) v_X0_put l_X0_34 ⟨Nat.le_of_ble_eq_true rfl, Nat.le_of_ble_eq_true rfl⟩ dX0_beginRow_19 rfl rfl (Nat.le_of_ble_eq_true rfl) (H.put _).1 (H.put _).2.2.1 rfl (Nat.le_refl _) (Nat.le_refl _) (t_X0_put (H.put _) (by omega) (by omega) ?_) 
  refine Rn.heap (hp_hp _ _ _ _) ?_
  refine Rn.aload_n dX0_beginRow_22 rfl rfl ?_
  refine Rn.iload_n dX0_beginRow_23 rfl rfl ?_
  refine Rn.iconst dX0_beginRow_24 rfl ic_3 ?_
  refine Rn.iload dX0_beginRow_25 rfl rfl ?_
  refine Rn.callV (as := [_, _, _]) v_X0_put l_X0_34 ⟨Nat.le_of_ble_eq_true rfl, Nat.le_of_ble_eq_true rfl⟩ dX0_beginRow_27 rfl rfl (Nat.le_of_ble_eq_true rfl) (H.put _).1 (H.put _).2.2.1 rfl (Nat.le_refl _) (Nat.le_refl _) (t_X0_put (H.put _) (by omega) (by omega) ?_) 
  refine Rn.heap (hp_hp _ _ _ _) ?_
  refine Rn.aload_n dX0_beginRow_30 rfl rfl ?_
  refine Rn.iload_n dX0_beginRow_31 rfl rfl ?_
  refine Rn.iconst dX0_beginRow_32 rfl ic_4 ?_
  refine Rn.iload_n dX0_beginRow_33 rfl rfl ?_
  refine Rn.iload_n dX0_beginRow_34 rfl rfl ?_
  refine Rn.iload dX0_beginRow_35 rfl rfl ?_
  refine Rn.callSN (as := [_, _, _]) s_X4_stepsBehind n_X0_38 ⟨Nat.le_of_ble_eq_true rfl, Nat.le_of_ble_eq_true rfl⟩ dX0_beginRow_37 rfl rfl (Nat.le_of_ble_eq_true rfl) (Nat.le_refl _) (Nat.le_refl _) (t_X4_stepsBehind hs ht hn ?_)
  refine Rn.callV (as := [_, _, _]) v_X0_put l_X0_34 ⟨Nat.le_of_ble_eq_true rfl, Nat.le_of_ble_eq_true rfl⟩ dX0_beginRow_40 rfl rfl (Nat.le_of_ble_eq_true rfl) (H.put _).1 (H.put _).2.2.1 rfl (Nat.le_refl _) (Nat.le_refl _) (t_X0_put (H.put _) (by omega) (by omega) ?_) 
  refine Rn.heap (hp_hp _ _ _ _) ?_
  refine Rn.aload_n dX0_beginRow_43 rfl rfl ?_
  refine Rn.iload_n dX0_beginRow_44 rfl rfl ?_
  refine Rn.iconst dX0_beginRow_45 rfl ic_5 ?_
  refine Rn.iload dX0_beginRow_46 rfl rfl ?_
  refine Rn.callV (as := [_, _, _]) v_X0_put l_X0_34 ⟨Nat.le_of_ble_eq_true rfl, Nat.le_of_ble_eq_true rfl⟩ dX0_beginRow_48 rfl rfl (Nat.le_of_ble_eq_true rfl) (H.put _).1 (H.put _).2.2.1 rfl (Nat.le_refl _) (Nat.le_refl _) (t_X0_put (H.put _) (by omega) (by omega) ?_) 
  refine Rn.heap (hp_hp _ _ _ _) ?_
  refine Rn.ret dX0_beginRow_51 rfl rfl rfl ?_
  exact k
theorem t_X0_addUser {h : rHp} {Q : Option Value → rHp → Prop} {q : Nat} {p : Nat → Nat} (H : Hl h q p) (h24 : p 24 < 4) {s t n : Nat} (hs : s < 251) (ht : t < 251) (hn : n < 100000) (k : Q none (hp h q (adP p s t n))) : Cl M_X0_addUser h.1 h.2.1 [.ref q, .int (nI s), .int (nI t), .int (nI n)] h Q := by
  refine Cl.of pl_X0 (Nat.le_of_ble_eq_true rfl) (by first | exact Nat.le_refl _ | omega) (by first | exact Nat.le_refl _ | omega) ?_
  refine Rn.aload_n dX0_addUser_0 rfl rfl ?_
  refine Rn.getf f_X0_11 dX0_addUser_1 rfl H.1 H.2.2.1 rfl ?_
  refine Rn.iconst dX0_addUser_4 rfl ic_0 ?_
  refine Rn.ialdN dX0_addUser_5 rfl H.2.1 H.2.2.2 (by omega) (by omega) ?_
  refine Rn.top (cl_0 p) ?_
  refine Rn.istore dX0_addUser_6 rfl (Nat.le_of_ble_eq_true rfl) ?_
  refine Rn.iload dX0_addUser_8 rfl rfl ?_
  refine Rn.iconst dX0_addUser_10 rfl ic_4 ?_
  refine Rn.icmp_geN (tgt := 33) dX0_addUser_11 rfl (by decide) (by omega) (by omega) (fun c11 => ?_) (fun c11 => ?_)
  · first | omega | exact False.elim c11
  · refine Rn.aload_n dX0_addUser_14 rfl rfl ?_
    refine Rn.getf f_X0_11 dX0_addUser_15 rfl H.1 H.2.2.1 rfl ?_
    refine Rn.iconst dX0_addUser_18 rfl ic_0 ?_
    refine Rn.iload dX0_addUser_19 rfl rfl ?_
    refine Rn.iconst dX0_addUser_21 rfl ic_1 ?_
    refine Rn.iaddN dX0_addUser_22 rfl ?_
    refine Rn.iastN dX0_addUser_23 rfl H.2.1 H.2.2.2 (by omega) (by omega) ?_
    refine Rn.heap (Hl.upd (upd_c0 p _)) ?_
    refine Rn.aload_n dX0_addUser_24 rfl rfl ?_
    refine Rn.iload dX0_addUser_25 rfl rfl ?_
    refine Rn.iload_n dX0_addUser_27 rfl rfl ?_
    refine Rn.iload_n dX0_addUser_28 rfl rfl ?_
    refine Rn.iload_n dX0_addUser_29 rfl rfl ?_
    refine Rn.callV (as := [_, _, _, _]) v_X0_beginRow l_X0_30 ⟨Nat.le_of_ble_eq_true rfl, Nat.le_of_ble_eq_true rfl⟩ dX0_addUser_30 rfl rfl (Nat.le_of_ble_eq_true rfl) (H.put _).1 (H.put _).2.2.1 rfl (Nat.le_refl _) (Nat.le_refl _) (t_X0_beginRow (H.put _) h24 hs ht hn ?_) 
    refine Rn.heap (hp_hp _ _ _ _) ?_
    refine Rn.ret dX0_addUser_33 rfl rfl rfl ?_
    exact k
def ffill (f : Nat → Int32) (x : Int32) (i : Nat) : Nat → Int32 := fun j => if j < i then x else f j
theorem ffill_s (f : Nat → Int32) (x : Int32) (i : Nat) : upd (ffill f x i) i x = ffill f x (i + 1) := by
  funext j
  show (if j = i then x else if j < i then x else f j) = if j < i + 1 then x else f j
  by_cases h : j = i
  · rw [if_pos h, if_pos (by omega)]
  · by_cases h2 : j < i
    · rw [if_neg h, if_pos h2, if_pos (by omega)]
    · rw [if_neg h, if_neg h2, if_neg (by omega)]
theorem ffill_0 (f : Nat → Int32) (x : Int32) : ffill f x 0 = f := by
  funext j
  show (if j < 0 then x else f j) = f j
  rw [if_neg (by omega)]
theorem clear_eq (f : Nat → Int32) (hf : ∀ j, 36 ≤ j → f j = 0) : upd (upd (ffill f (nI 0) 36) 1 (nI 1)) 2 (-9) = cl p0 := by
  refine cl_ext (fun i hi => ?_) (fun i hi => ?_) (fun i hi => ?_)
  · show (if i = 2 then (-9 : Int32) else if i = 1 then nI 1 else if i < 36 then nI 0 else f i) = _
    by_cases h2 : i = 2
    · subst h2; rfl
    · rw [if_neg h2]
      by_cases h1 : i = 1
      · subst h1; rfl
      · rw [if_neg h1, if_pos (by omega), pg_n _ (by omega) (by omega)]
        show nI 0 = nI (if i + 24 = 25 then 1 else 0)
        rw [if_neg (by omega)]
  · show (if 12 + i = 2 then (-9 : Int32) else if 12 + i = 1 then nI 1 else if 12 + i < 36 then nI 0 else f (12 + i)) = _
    rw [if_neg (by omega), if_neg (by omega), if_pos (by omega), pg_n _ (by omega) (by omega)]
    show nI 0 = nI (if i = 25 then 1 else 0)
    rw [if_neg (by omega)]
  · show (if i = 2 then (-9 : Int32) else if i = 1 then nI 1 else if i < 36 then nI 0 else f i) = _
    rw [if_neg (by omega), if_neg (by omega), if_neg (by omega), hf i hi]
theorem cpy_cl (p p2 : Nat → Nat) : va_cpy (cl p2) (cl p) 0 0 36 = cl p2 := by
  funext k
  unfold va_cpy
  by_cases h : k < 36
  · rw [if_pos ⟨by omega, by omega⟩]; congr 1; omega
  · rw [if_neg (fun z => h (by omega)), cl_out p (by omega), cl_out p2 (by omega)]
theorem t_J7_fill_53178 {h : rHp} {Q : Option Value → rHp → Prop} {o n : Nat} {f : Nat → Int32} {x : Int32} (ho : h.2.2 o = .inl (n, f)) (hlt : o < h.1) (hn : n < 100000) (k : Q none (hs h o (.inl (n, ffill f x n)))) : Cl M_J7_fill_53178 h.1 h.2.1 [.ref o, .int x] h Q := by
  refine Cl.of pl_J7 (Nat.le_of_ble_eq_true rfl) (by first | exact Nat.le_refl _ | omega) (by first | exact Nat.le_refl _ | omega) ?_
  refine Rn.iconst dJ7_fill_53178_0 rfl ic_0 ?_
  refine Rn.istore_n dJ7_fill_53178_1 rfl (Nat.le_of_ble_eq_true rfl) ?_
  refine Rn.aload_n dJ7_fill_53178_2 rfl rfl ?_
  refine Rn.alen dJ7_fill_53178_3 rfl ho hlt ?_
  refine Rn.istore_n dJ7_fill_53178_4 rfl (Nat.le_of_ble_eq_true rfl) ?_
  have hloop : ∀ (m : Nat) (i : Nat), n - i < m → i ≤ n → Rn (M_J7_fill_53178, none, h.1, h.2.1) Q 5 [(0, .ref o), (1, .int x), (2, .int (nI i)), (3, .int (nI n))] [] (hs h o (.inl (n, ffill f x i))) := by
    intro m
    induction m with
    | zero => intro i h0 h1; exact absurd h0 (Nat.not_lt_zero _)
    | succ m ih =>
      intro i h0 h1
      refine Rn.iload_n dJ7_fill_53178_5 rfl rfl ?_
      refine Rn.iload_n dJ7_fill_53178_6 rfl rfl ?_
      refine Rn.icmp_geN (tgt := 20) dJ7_fill_53178_7 rfl (by decide) (by omega) (by omega) (fun c7 => ?_) (fun c7 => ?_)
      · refine Rn.ret dJ7_fill_53178_20 rfl rfl rfl ?_
        rw [show i = n by omega]
        exact k
      · refine Rn.aload_n dJ7_fill_53178_10 rfl rfl ?_
        refine Rn.iload_n dJ7_fill_53178_11 rfl rfl ?_
        refine Rn.iload_n dJ7_fill_53178_12 rfl rfl ?_
        refine Rn.iastN dJ7_fill_53178_13 rfl (hs_eq _ _ _) hlt (by omega) (by omega) ?_
        refine Rn.heap ((hs_hs _ _ _ _).trans (by rw [ffill_s])) ?_
        refine Rn.iincN dJ7_fill_53178_14 rfl rfl (Nat.le_of_ble_eq_true rfl) ?_
        refine Rn.goto (tgt := 5) dJ7_fill_53178_17 (by decide) ?_
        exact Rn.pick [1, 2, 0, 3] rfl (ih (i + 1) (by omega) (by omega))
  exact Rn.pick [2, 3, 1, 0] rfl (by have := hloop (n + 1) 0 (by omega) (by omega); rw [ffill_0, hs_self h ho] at this; exact this)
theorem t_X0_clear {h : rHp} {Q : Option Value → rHp → Prop} {q : Nat} {p : Nat → Nat} (H : Hl h q p) (k : Q none (hp h q p0)) : Cl M_X0_clear h.1 h.2.1 [.ref q] h Q := by
  refine Cl.of pl_X0 (Nat.le_of_ble_eq_true rfl) (by first | exact Nat.le_refl _ | omega) (by first | exact Nat.le_refl _ | omega) ?_
  refine Rn.aload_n dX0_clear_0 rfl rfl ?_
  refine Rn.getf f_X0_11 dX0_clear_1 rfl H.1 H.2.2.1 rfl ?_
  refine Rn.iconst dX0_clear_4 rfl ic_0 ?_
  refine Rn.callS (as := [_, _]) s_J7_fill_53178 l_X0_18 ⟨Nat.le_of_ble_eq_true rfl, Nat.le_of_ble_eq_true rfl⟩ dX0_clear_5 rfl rfl (Nat.le_of_ble_eq_true rfl) (Nat.le_refl _) (Nat.le_refl _) (t_J7_fill_53178 H.2.1 H.2.2.2 (by omega) ?_)
  refine Rn.aload_n dX0_clear_8 rfl rfl ?_
  refine Rn.getf f_X0_11 dX0_clear_9 rfl ((hs_ne _ _ (by omega)).trans H.1) H.2.2.1 rfl ?_
  refine Rn.iconst dX0_clear_12 rfl ic_1 ?_
  refine Rn.iconst dX0_clear_13 rfl ic_1 ?_
  refine Rn.iastN dX0_clear_14 rfl (hs_eq _ _ _) H.2.2.2 (by omega) (by omega) ?_
  refine Rn.heap (hs_hs _ _ _ _) ?_
  refine Rn.aload_n dX0_clear_15 rfl rfl ?_
  refine Rn.getf f_X0_11 dX0_clear_16 rfl ((hs_ne _ _ (by omega)).trans H.1) H.2.2.1 rfl ?_
  refine Rn.iconst dX0_clear_19 rfl ic_2 ?_
  refine Rn.bipush dX0_clear_20 rfl bp_m9 ?_
  refine Rn.iastN dX0_clear_22 rfl (hs_eq _ _ _) H.2.2.2 (by omega) (by omega) ?_
  refine Rn.heap (hs_hs _ _ _ _) ?_
  refine Rn.ret dX0_clear_23 rfl rfl rfl ?_
  exact rn_fin k rfl (Hl.upd (clear_eq _ (fun j hj => cl_out p hj)))
theorem t_X0_copyFrom {h : rHp} {Q : Option Value → rHp → Prop} {q q2 : Nat} {p p2 : Nat → Nat} (H : Hl h q p) (H2 : Hl h q2 p2) (k : Q none (hp h q p2)) : Cl M_X0_copyFrom h.1 h.2.1 [.ref q, .ref q2] h Q := by
  refine Cl.of pl_X0 (Nat.le_of_ble_eq_true rfl) (by first | exact Nat.le_refl _ | omega) (by first | exact Nat.le_refl _ | omega) ?_
  refine Rn.aload_n dX0_copyFrom_0 rfl rfl ?_
  refine Rn.getf f_X0_11 dX0_copyFrom_1 rfl H2.1 H2.2.2.1 rfl ?_
  refine Rn.iconst dX0_copyFrom_4 rfl ic_0 ?_
  refine Rn.aload_n dX0_copyFrom_5 rfl rfl ?_
  refine Rn.getf f_X0_11 dX0_copyFrom_6 rfl H.1 H.2.2.1 rfl ?_
  refine Rn.iconst dX0_copyFrom_9 rfl ic_0 ?_
  refine Rn.bipush dX0_copyFrom_10 rfl bp_36 ?_
  refine Rn.copy l_X0_24 w_cpy2 w_cpy3 w_cpy4 (Nat.le_of_ble_eq_true rfl) (Nat.le_of_ble_eq_true rfl) dX0_copyFrom_12 rfl H2.2.1 H2.2.2.2 H.2.1 H.2.2.2 rfl rfl rfl (by omega) (by omega) (by decide) (by decide) ?_
  refine Rn.heap (Hl.upd (cpy_cl _ _)) ?_
  refine Rn.ret dX0_copyFrom_15 rfl rfl rfl ?_
  exact k
theorem t_X0_overhear {h : rHp} {Q : Option Value → rHp → Prop} {q : Nat} {p : Nat → Nat} (H : Hl h q p) (h27 : p 27 < 8) {y : Nat} (h26 : p 26 = y + 1) (k : Q none (hp h q (ovP p))) : Cl M_X0_overhear h.1 h.2.1 [.ref q] h Q := by
  refine Cl.of pl_X0 (Nat.le_of_ble_eq_true rfl) (by first | exact Nat.le_refl _ | omega) (by first | exact Nat.le_refl _ | omega) ?_
  refine Rn.aload_n dX0_overhear_0 rfl rfl ?_
  refine Rn.getf f_X0_11 dX0_overhear_1 rfl H.1 H.2.2.1 rfl ?_
  refine Rn.iconst dX0_overhear_4 rfl ic_3 ?_
  refine Rn.ialdN dX0_overhear_5 rfl H.2.1 H.2.2.2 (by omega) (by omega) ?_
  refine Rn.top (cl_3 p) ?_
  refine Rn.istore_n dX0_overhear_6 rfl (Nat.le_of_ble_eq_true rfl) ?_
  refine Rn.iload_n dX0_overhear_7 rfl rfl ?_
  refine Rn.if_ltN (tgt := 40) dX0_overhear_8 rfl (by decide) (by omega) (fun c8 => ?_) (fun c8 => ?_)
  · first | omega | exact False.elim c8
  · refine Rn.iload_n dX0_overhear_11 rfl rfl ?_
    refine Rn.bipush dX0_overhear_12 rfl bp_8 ?_
    refine Rn.icmp_geN (tgt := 40) dX0_overhear_14 rfl (by decide) (by omega) (by omega) (fun c14 => ?_) (fun c14 => ?_)
    · first | omega | exact False.elim c14
    · refine Rn.aload_n dX0_overhear_17 rfl rfl ?_
      refine Rn.getf f_X0_11 dX0_overhear_18 rfl H.1 H.2.2.1 rfl ?_
      refine Rn.iconst dX0_overhear_21 rfl ic_4 ?_
      refine Rn.iload_n dX0_overhear_22 rfl rfl ?_
      refine Rn.iaddN dX0_overhear_23 rfl ?_
      refine Rn.aload_n dX0_overhear_24 rfl rfl ?_
      refine Rn.getf f_X0_11 dX0_overhear_25 rfl H.1 H.2.2.1 rfl ?_
      refine Rn.iconst dX0_overhear_28 rfl ic_2 ?_
      refine Rn.ialdN dX0_overhear_29 rfl H.2.1 H.2.2.2 (by omega) (by omega) ?_
      refine Rn.top (y := nI y) ((cl_2 p).trans (by rw [h26, wi_s])) ?_
      refine Rn.iastN dX0_overhear_30 rfl H.2.1 H.2.2.2 (by omega) (by omega) ?_
      refine Rn.heap (Hl.upd (upd_hd p y h27)) ?_
      refine Rn.aload_n dX0_overhear_31 rfl rfl ?_
      refine Rn.getf f_X0_11 dX0_overhear_32 rfl (H.put _).1 (H.put _).2.2.1 rfl ?_
      refine Rn.iconst dX0_overhear_35 rfl ic_3 ?_
      refine Rn.iload_n dX0_overhear_36 rfl rfl ?_
      refine Rn.iconst dX0_overhear_37 rfl ic_1 ?_
      refine Rn.iaddN dX0_overhear_38 rfl ?_
      refine Rn.iastN dX0_overhear_39 rfl (H.put _).2.1 (H.put _).2.2.2 (by omega) (by omega) ?_
      refine Rn.heap ((Hl.upd (upd_c3 _ _)).trans (hp_hp _ _ _ _)) ?_
      refine Rn.ret dX0_overhear_40 rfl rfl rfl ?_
      exact rn_fin k rfl (by unfold ovP; rw [h26]; rfl)
end
section
/-! ===== the text and its reading ===== -/
theorem nI_m9 {a : Nat} (ha : a < 2147483648) : ¬ nI a = -9 := by
  intro e
  have e2 := congrArg Int32.toInt e
  rw [nI_toInt ha] at e2
  have : (-9 : Int32).toInt = -9 := by decide
  omega
def na (f : Nat → Nat) : Nat → Int32 := fun i => nI (f i)
theorem upd_na (f : Nat → Nat) (i x : Nat) : upd (na f) i (nI x) = na (un f i x) := by
  funext j
  show (if j = i then nI x else nI (f j)) = nI (if j = i then x else f j)
  split <;> rfl
def Tx (h : rHp) (t : Nat → Nat) (ln pl : Nat) : Prop := h.2.2 1 = .inr (.inr (3, [.ref 2, .int (nI ln), .int (nI pl)])) ∧ h.2.2 2 = .inl (80, na t) ∧ 1 < h.1 ∧ 2 < h.1
def tp (h : rHp) (ln pl : Nat) : rHp := hs h 1 (.inr (.inr (3, [.ref 2, .int (nI ln), .int (nI pl)])))
theorem Tx.put {h : rHp} {t : Nat → Nat} {ln pl : Nat} (T : Tx h t ln pl) (ln' pl' : Nat) : Tx (tp h ln' pl') t ln' pl' := ⟨hs_eq _ _ _, (hs_ne h _ (by decide)).trans T.2.1, T.2.2.1, T.2.2.2⟩
theorem tp_tp (h : rHp) (a b c d : Nat) : tp (tp h a b) c d = tp h c d := hs_hs _ _ _ _
theorem Tx.same {h : rHp} {t : Nat → Nat} {ln pl : Nat} (T : Tx h t ln pl) : tp h ln pl = h := hs_self h T.1
theorem hs_comm (h : rHp) {i j : Nat} (c d : rCell) (hij : i ≠ j) : hs (hs h i c) j d = hs (hs h j d) i c := by
  show (h.1, h.2.1, _) = (h.1, h.2.1, _)
  congr 2
  funext k
  show (if k = j then d else if k = i then c else h.2.2 k) = if k = i then c else if k = j then d else h.2.2 k
  by_cases h1 : k = j
  · rw [if_pos h1, if_neg (by omega), if_pos h1]
  · rw [if_neg h1, if_neg h1]
theorem Tx.other {h : rHp} {t : Nat → Nat} {ln pl i : Nat} {c : rCell} (T : Tx h t ln pl) (h1 : 1 ≠ i) (h2 : 2 ≠ i) : Tx (hs h i c) t ln pl := ⟨(hs_ne h _ h1).trans T.1, (hs_ne h _ h2).trans T.2.1, T.2.2.1, T.2.2.2⟩
theorem Hl.other {h : rHp} {q i : Nat} {p : Nat → Nat} {c : rCell} (H : Hl h q p) (h1 : q ≠ i) (h2 : q + 1 ≠ i) : Hl (hs h i c) q p := ⟨(hs_ne h _ h1).trans H.1, (hs_ne h _ h2).trans H.2.1, H.2.2.1, H.2.2.2⟩
/-- text and hall together -/
def ht (h : rHp) (q ln pl : Nat) (p : Nat → Nat) : rHp := hp (tp h ln pl) q p
theorem ht_tp (h : rHp) {q : Nat} (hq : 1 < q) (ln pl : Nat) (p : Nat → Nat) (ln' pl' : Nat) : tp (ht h q ln pl p) ln' pl' = ht h q ln' pl' p := by
  show hs (hs (hs h 1 _) (q + 1) _) 1 _ = hs (hs h 1 _) (q + 1) _
  rw [hs_comm (hs h 1 _) _ _ (by omega), hs_hs]
theorem ht_hp (h : rHp) (q ln pl : Nat) (p p' : Nat → Nat) : hp (ht h q ln pl p) q p' = ht h q ln pl p' := hp_hp _ _ _ _
theorem ht_T {h : rHp} {q : Nat} (hq : 1 < q) {t : Nat → Nat} {ln pl : Nat} (T : Tx h t ln pl) (ln' pl' : Nat) (p : Nat → Nat) : Tx (ht h q ln' pl' p) t ln' pl' := (T.put ln' pl').other (by omega) (by omega)
theorem ht_H {h : rHp} {q : Nat} (hq : 1 < q) {p : Nat → Nat} (H : Hl h q p) (ln' pl' : Nat) (p' : Nat → Nat) : Hl (ht h q ln' pl' p') q p' := Hl.put (H.other (by omega) (by omega)) p'
/-- the letter where reading stands, one more; 0 at the end -/
def nlN (t : Nat → Nat) (ln pl : Nat) : Nat := if pl < ln then t pl + 1 else 0
/-- a figure, one more; 0: there is none -/
def fgN (t : Nat → Nat) (ln pl lo hi : Nat) : Nat := if pl < ln ∧ 48 + lo ≤ t pl ∧ t pl ≤ 48 + hi then t pl - 48 + 1 else 0
theorem wi_toInt {x : Nat} (hx : x < 100000) : (wi x).toInt = if x = 0 then -9 else (x : Int) - 1 := by
  by_cases h : x = 0
  · rw [if_pos h, h]; decide
  · obtain ⟨y, rfl⟩ : ∃ y, x = y + 1 := ⟨x - 1, by omega⟩
    rw [if_neg h, wi_s, nI_toInt (by omega)]
    omega
theorem wi_sub {x : Nat} (hx : x < 100000) : (wi x - nI 48).toInt = (wi x).toInt - 48 := by
  have h1 := wi_toInt hx
  have h2 : (nI 48).toInt = 48 := nI_toInt (by omega)
  rw [Jvm.Kit.i32_sub (by rw [h1, h2]; split <;> omega) (by rw [h1, h2]; split <;> omega), h2]
theorem fg_isW {t : Nat → Nat} {ln pl lo hi : Nat} (ht : ∀ i, t i < 256) (hlo : lo < 10) (hhi : hi < 10) : isW (wi (nlN t ln pl) - nI 48) (nI lo) (nI hi) = decide (fgN t ln pl lo hi ≠ 0) := by
  have h1 := ht pl
  have h2 : nlN t ln pl < 100000 := by unfold nlN; split <;> omega
  unfold isW
  rw [wi_sub h2, wi_toInt h2, nI_toInt (by omega), nI_toInt (by omega)]
  congr 1
  apply propext
  unfold nlN fgN
  by_cases h3 : pl < ln
  · rw [if_pos h3, if_neg (by omega)]
    by_cases h4 : 48 + lo ≤ t pl ∧ t pl ≤ 48 + hi
    · rw [if_pos ⟨h3, h4⟩]; constructor
      · intro _; omega
      · intro _; omega
    · rw [if_neg (fun z => h4 z.2)]; constructor
      · intro z; exact absurd ⟨by omega, by omega⟩ h4
      · intro z; exact absurd rfl z
  · rw [if_neg h3, if_pos rfl, if_neg (fun z => h3 z.1)]; constructor
    · intro z; omega
    · intro z; exact absurd rfl z
theorem fg_val {t : Nat → Nat} {ln pl lo hi a : Nat} (ht : ∀ i, t i < 256) (h : fgN t ln pl lo hi = a + 1) : wi (nlN t ln pl) - nI 48 = nI a ∧ a ≤ hi ∧ lo ≤ a ∧ pl < ln := by
  unfold fgN at h
  split at h
  · rename_i h1
    have e : t pl = 48 + a := by omega
    unfold nlN
    rw [if_pos h1.1, wi_s, e, pk_sub (by omega)]
    exact ⟨by congr 1; omega, by omega, by omega, h1.1⟩
  · omega
def rdN (t : Nat → Nat) (ln pl : Nat) : Nat × Nat :=
  if fgN t ln pl 0 2 = 0 then (0, pl) else
  if fgN t ln (pl + 1) 0 (if fgN t ln pl 0 2 = 3 then 5 else 9) = 0 then (0, pl + 1) else
  if fgN t ln (pl + 2) 0 (if fgN t ln pl 0 2 = 3 ∧ fgN t ln (pl + 1) 0 5 = 6 then 0 else 9) = 0 then (0, pl + 2) else
  (100 * (fgN t ln pl 0 2 - 1) + 10 * (fgN t ln (pl + 1) 0 (if fgN t ln pl 0 2 = 3 then 5 else 9) - 1) + (fgN t ln (pl + 2) 0 (if fgN t ln pl 0 2 = 3 ∧ fgN t ln (pl + 1) 0 5 = 6 then 0 else 9) - 1) + 1, pl + 3)
theorem rdN_0 {t : Nat → Nat} {ln pl : Nat} (e : fgN t ln pl 0 2 = 0) : rdN t ln pl = (0, pl) := by unfold rdN; rw [if_pos e]
theorem rdN_1 {t : Nat → Nat} {ln pl a hb : Nat} (e : fgN t ln pl 0 2 = a + 1) (hh : hb = if a = 2 then 5 else 9) (e2 : fgN t ln (pl + 1) 0 hb = 0) : rdN t ln pl = (0, pl + 1) := by
  unfold rdN
  have : (if fgN t ln pl 0 2 = 3 then 5 else 9) = hb := by rw [e, hh]; by_cases h : a = 2 <;> simp [h]
  rw [if_neg (by omega), this, if_pos e2]
theorem rdN_2 {t : Nat → Nat} {ln pl a b hb hc : Nat} (e : fgN t ln pl 0 2 = a + 1) (hh : hb = if a = 2 then 5 else 9) (e2 : fgN t ln (pl + 1) 0 hb = b + 1) (hh2 : hc = if a = 2 ∧ b = 5 then 0 else 9) (e3 : fgN t ln (pl + 2) 0 hc = 0) : rdN t ln pl = (0, pl + 2) := by
  unfold rdN
  have h1 : (if fgN t ln pl 0 2 = 3 then 5 else 9) = hb := by rw [e, hh]; by_cases h : a = 2 <;> simp [h]
  have h2 : (if fgN t ln pl 0 2 = 3 ∧ fgN t ln (pl + 1) 0 5 = 6 then 0 else 9) = hc := by
    rw [e, hh2]
    by_cases h : a = 2
    · rw [if_pos h] at hh; rw [hh] at e2; rw [e2]; simp [h]
    · rw [if_neg (fun z => h (by omega)), if_neg (fun z => h z.1)]
  rw [if_neg (by omega), h1, if_neg (by omega), h2, if_pos e3]
theorem rdN_3 {t : Nat → Nat} {ln pl a b c hb hc : Nat} (e : fgN t ln pl 0 2 = a + 1) (hh : hb = if a = 2 then 5 else 9) (e2 : fgN t ln (pl + 1) 0 hb = b + 1) (hh2 : hc = if a = 2 ∧ b = 5 then 0 else 9) (e3 : fgN t ln (pl + 2) 0 hc = c + 1) : rdN t ln pl = (100 * a + 10 * b + c + 1, pl + 3) := by
  unfold rdN
  have h1 : (if fgN t ln pl 0 2 = 3 then 5 else 9) = hb := by rw [e, hh]; by_cases h : a = 2 <;> simp [h]
  have h2 : (if fgN t ln pl 0 2 = 3 ∧ fgN t ln (pl + 1) 0 5 = 6 then 0 else 9) = hc := by
    rw [e, hh2]
    by_cases h : a = 2
    · rw [if_pos h] at hh; rw [hh] at e2; rw [e2]; simp [h]
    · rw [if_neg (fun z => h (by omega)), if_neg (fun z => h z.1)]
  rw [if_neg (by omega), h1, if_neg (by omega), h2, if_neg (by omega), e, e2, e3]
  congr 1
theorem rd_lt {a b c hb hc : Nat} (ha : a ≤ 2) (hb1 : b ≤ hb) (hc1 : c ≤ hc) (hh : hb = if a = 2 then 5 else 9) (hh2 : hc = if a = 2 ∧ b = 5 then 0 else 9) : 100 * a + 10 * b + c < 251 := by
  by_cases h : a = 2
  · rw [if_pos h] at hh
    by_cases h2 : b = 5
    · rw [if_pos ⟨h, h2⟩] at hh2; omega
    · rw [if_neg (fun z => h2 z.2)] at hh2; omega
  · rw [if_neg h] at hh
    rw [if_neg (fun z => h z.1)] at hh2; omega
/-- a row's length: two figures, 01 to 30 -/
def rlN (t : Nat → Nat) (ln pl : Nat) : Nat × Nat :=
  if fgN t ln pl 0 3 = 0 then (0, pl) else
  if fgN t ln (pl + 1) (if fgN t ln pl 0 3 = 1 then 1 else 0) (if fgN t ln pl 0 3 = 4 then 0 else 9) = 0 then (0, pl + 1) else
  (10 * (fgN t ln pl 0 3 - 1) + (fgN t ln (pl + 1) (if fgN t ln pl 0 3 = 1 then 1 else 0) (if fgN t ln pl 0 3 = 4 then 0 else 9) - 1) + 1, pl + 2)
theorem rlN_0 {t : Nat → Nat} {ln pl : Nat} (e : fgN t ln pl 0 3 = 0) : rlN t ln pl = (0, pl) := by unfold rlN; rw [if_pos e]
theorem rlN_1 {t : Nat → Nat} {ln pl a lo hi : Nat} (e : fgN t ln pl 0 3 = a + 1) (h1 : lo = if a = 0 then 1 else 0) (h2 : hi = if a = 3 then 0 else 9) (e2 : fgN t ln (pl + 1) lo hi = 0) : rlN t ln pl = (0, pl + 1) := by
  unfold rlN
  have g1 : (if fgN t ln pl 0 3 = 1 then 1 else 0) = lo := by rw [e, h1]; by_cases h : a = 0 <;> simp [h]
  have g2 : (if fgN t ln pl 0 3 = 4 then 0 else 9) = hi := by rw [e, h2]; by_cases h : a = 3 <;> simp [h]
  rw [if_neg (by omega), g1, g2, if_pos e2]
theorem rlN_2 {t : Nat → Nat} {ln pl a b lo hi : Nat} (e : fgN t ln pl 0 3 = a + 1) (h1 : lo = if a = 0 then 1 else 0) (h2 : hi = if a = 3 then 0 else 9) (e2 : fgN t ln (pl + 1) lo hi = b + 1) : rlN t ln pl = (10 * a + b + 1, pl + 2) := by
  unfold rlN
  have g1 : (if fgN t ln pl 0 3 = 1 then 1 else 0) = lo := by rw [e, h1]; by_cases h : a = 0 <;> simp [h]
  have g2 : (if fgN t ln pl 0 3 = 4 then 0 else 9) = hi := by rw [e, h2]; by_cases h : a = 3 <;> simp [h]
  rw [if_neg (by omega), g1, g2, if_neg (by omega), e, e2]
  congr 1
theorem rl_bd {a b lo hi : Nat} (ha : a ≤ 3) (hb1 : lo ≤ b) (hb2 : b ≤ hi) (h1 : lo = if a = 0 then 1 else 0) (h2 : hi = if a = 3 then 0 else 9) : 1 ≤ 10 * a + b ∧ 10 * a + b ≤ 30 := by
  by_cases h : a = 0
  · rw [if_pos h] at h1; rw [if_neg (by omega)] at h2; omega
  · by_cases h3 : a = 3
    · rw [if_pos h3] at h2; rw [if_neg h] at h1; omega
    · rw [if_neg h3] at h2; omega
theorem t_X3_nextLetter {h : rHp} {Q : Option Value → rHp → Prop} {t : Nat → Nat} {ln pl : Nat} (T : Tx h t ln pl) (hln : ln ≤ 80) (htl : ∀ i, t i < 256) (hpl : pl < 1000) (k : Q (some (.int (wi (nlN t ln pl)))) h) : Cl M_X3_nextLetter h.1 h.2.1 [.ref 1] h Q := by
  refine Cl.of pl_X3 (Nat.le_of_ble_eq_true rfl) (by first | exact Nat.le_refl _ | omega) (by first | exact Nat.le_refl _ | omega) ?_
  refine Rn.aload_n dX3_nextLetter_0 rfl rfl ?_
  refine Rn.getf f_X3_19 dX3_nextLetter_1 rfl T.1 T.2.2.1 rfl ?_
  refine Rn.if_ltN (tgt := 39) dX3_nextLetter_4 rfl (by decide) (by omega) (fun c4 => ?_) (fun c4 => ?_)
  · first | omega | exact False.elim c4
  · refine Rn.aload_n dX3_nextLetter_7 rfl rfl ?_
    refine Rn.getf f_X3_19 dX3_nextLetter_8 rfl T.1 T.2.2.1 rfl ?_
    refine Rn.aload_n dX3_nextLetter_11 rfl rfl ?_
    refine Rn.getf f_X3_15 dX3_nextLetter_12 rfl T.1 T.2.2.1 rfl ?_
    refine Rn.icmp_geN (tgt := 39) dX3_nextLetter_15 rfl (by decide) (by omega) (by omega) (fun c15 => ?_) (fun c15 => ?_)
    · refine Rn.bipush dX3_nextLetter_39 rfl bp_m9 ?_
      refine Rn.iret dX3_nextLetter_41 rfl rfl rfl ?_
      first | exact rn_fin k (by unfold nlN; rw [if_neg (by omega)]; rfl) rfl | exact rn_fin k (by unfold nlN; rw [if_pos (by omega)]; rfl) rfl
    · refine Rn.aload_n dX3_nextLetter_18 rfl rfl ?_
      refine Rn.getf f_X3_19 dX3_nextLetter_19 rfl T.1 T.2.2.1 rfl ?_
      refine Rn.bipush dX3_nextLetter_22 rfl bp_80 ?_
      refine Rn.icmp_geN (tgt := 39) dX3_nextLetter_24 rfl (by decide) (by omega) (by omega) (fun c24 => ?_) (fun c24 => ?_)
      · first | omega | exact False.elim c24
      · refine Rn.aload_n dX3_nextLetter_27 rfl rfl ?_
        refine Rn.getf f_X3_11 dX3_nextLetter_28 rfl T.1 T.2.2.1 rfl ?_
        refine Rn.aload_n dX3_nextLetter_31 rfl rfl ?_
        refine Rn.getf f_X3_19 dX3_nextLetter_32 rfl T.1 T.2.2.1 rfl ?_
        refine Rn.ialdN dX3_nextLetter_35 rfl T.2.1 T.2.2.2 (by omega) (by omega) ?_
        refine Rn.top (show na t pl = nI (t pl) from rfl) ?_
        refine Rn.goto (tgt := 41) dX3_nextLetter_36 (by decide) ?_
        refine Rn.iret dX3_nextLetter_41 rfl rfl rfl ?_
        first | exact rn_fin k (by unfold nlN; rw [if_neg (by omega)]; rfl) rfl | exact rn_fin k (by unfold nlN; rw [if_pos (by omega)]; rfl) rfl
theorem nl_lt {t : Nat → Nat} (htl : ∀ i, t i < 256) (ln pl : Nat) : nlN t ln pl ≤ 256 := by unfold nlN; have := htl pl; split <;> omega
theorem nl_eq {t : Nat → Nat} (htl : ∀ i, t i < 256) {ln pl c : Nat} (hc : c < 1000) : wi (nlN t ln pl) = nI c ↔ nlN t ln pl = c + 1 := by
  have h := nl_lt htl ln pl
  constructor
  · intro e
    by_cases h0 : nlN t ln pl = 0
    · rw [h0] at e; exact absurd e.symm (nI_m9 (by omega))
    · obtain ⟨y, hy⟩ : ∃ y, nlN t ln pl = y + 1 := ⟨nlN t ln pl - 1, by omega⟩
      rw [hy, wi_s, nI_eq (by omega) (by omega)] at e
      omega
  · intro e
    rw [e, wi_s]
theorem t_X3_isNext {h : rHp} {Q : Option Value → rHp → Prop} {t : Nat → Nat} {ln pl : Nat} (T : Tx h t ln pl) (hln : ln ≤ 80) (htl : ∀ i, t i < 256) (hpl : pl < 1000) {c : Nat} (hc : c < 1000) (k : Q (some (.int (bi (decide (nlN t ln pl = c + 1))))) h) : Cl M_X3_isNext h.1 h.2.1 [.ref 1, .int (nI c)] h Q := by
  refine Cl.of pl_X3 (Nat.le_of_ble_eq_true rfl) (by first | exact Nat.le_refl _ | omega) (by first | exact Nat.le_refl _ | omega) ?_
  refine Rn.aload_n dX3_isNext_0 rfl rfl ?_
  refine Rn.callV (as := []) v_X3_nextLetter l_X3_50 ⟨Nat.le_of_ble_eq_true rfl, Nat.le_of_ble_eq_true rfl⟩ dX3_isNext_1 rfl rfl (Nat.le_of_ble_eq_true rfl) T.1 T.2.2.1 rfl (Nat.le_refl _) (Nat.le_refl _) (t_X3_nextLetter T hln htl hpl ?_) 
  refine Rn.iload_n dX3_isNext_4 rfl rfl ?_
  refine Rn.icmp_ne (tgt := 12) dX3_isNext_5 rfl (by decide) (fun c5 => ?_) (fun c5 => ?_)
  · refine Rn.iconst dX3_isNext_12 rfl ic_0 ?_
    refine Rn.zret dX3_isNext_13 rfl (by decide) rfl rfl ?_
    first | exact rn_fin k (by rw [decide_eq_false (fun z => c5 ((nl_eq htl hc).mpr z)), bi_f]) rfl | exact rn_fin k (by rw [decide_eq_true ((nl_eq htl hc).mp c5), bi_t]) rfl
  · refine Rn.iconst dX3_isNext_8 rfl ic_1 ?_
    refine Rn.goto (tgt := 13) dX3_isNext_9 (by decide) ?_
    refine Rn.zret dX3_isNext_13 rfl (by decide) rfl rfl ?_
    first | exact rn_fin k (by rw [decide_eq_false (fun z => c5 ((nl_eq htl hc).mpr z)), bi_f]) rfl | exact rn_fin k (by rw [decide_eq_true ((nl_eq htl hc).mp c5), bi_t]) rfl
theorem t_X3_readFigure {h : rHp} {Q : Option Value → rHp → Prop} {t : Nat → Nat} {ln pl : Nat} (T : Tx h t ln pl) (hln : ln ≤ 80) (htl : ∀ i, t i < 256) (hpl : pl < 1000) {lo hi : Nat} (hlo : lo < 10) (hhi : hi < 10) (k0 : fgN t ln pl lo hi = 0 → Q (some (.int (-9))) h) (k : ∀ a, a ≤ hi → lo ≤ a → pl < ln → fgN t ln pl lo hi = a + 1 → Q (some (.int (nI a))) (tp h ln (pl + 1))) : Cl M_X3_readFigure h.1 h.2.1 [.ref 1, .int (nI lo), .int (nI hi)] h Q := by
  refine Cl.of pl_X3 (Nat.le_of_ble_eq_true rfl) (by first | exact Nat.le_refl _ | omega) (by first | exact Nat.le_refl _ | omega) ?_
  refine Rn.aload_n dX3_readFigure_0 rfl rfl ?_
  refine Rn.callV (as := []) v_X3_nextLetter l_X3_50 ⟨Nat.le_of_ble_eq_true rfl, Nat.le_of_ble_eq_true rfl⟩ dX3_readFigure_1 rfl rfl (Nat.le_of_ble_eq_true rfl) T.1 T.2.2.1 rfl (Nat.le_refl _) (Nat.le_refl _) (t_X3_nextLetter T hln htl hpl ?_) 
  refine Rn.bipush dX3_readFigure_4 rfl bp_48 ?_
  refine Rn.isub dX3_readFigure_6 rfl ?_
  refine Rn.istore_n dX3_readFigure_7 rfl (Nat.le_of_ble_eq_true rfl) ?_
  refine Rn.iload_n dX3_readFigure_8 rfl rfl ?_
  refine Rn.iload_n dX3_readFigure_9 rfl rfl ?_
  refine Rn.iload_n dX3_readFigure_10 rfl rfl ?_
  refine Rn.callSN (as := [_, _, _]) s_X4_isWithin n_X3_77 ⟨Nat.le_of_ble_eq_true rfl, Nat.le_of_ble_eq_true rfl⟩ dX3_readFigure_11 rfl rfl (Nat.le_of_ble_eq_true rfl) (Nat.le_refl _) (Nat.le_refl _) (t_X4_isWithin ?_)
  refine Rn.top (congrArg bi (fg_isW htl hlo hhi)) ?_
  refine Rn.if_neB (tgt := 20) dX3_readFigure_14 rfl (by decide) (fun c14 => ?_) (fun c14 => ?_)
  · obtain ⟨a, ea⟩ : ∃ a, fgN t ln pl lo hi = a + 1 := ⟨fgN t ln pl lo hi - 1, by have := of_decide_eq_true c14; omega⟩
    refine Rn.aload_n dX3_readFigure_20 rfl rfl ?_
    refine Rn.dup dX3_readFigure_21 rfl rfl ?_
    refine Rn.getf f_X3_19 dX3_readFigure_22 rfl T.1 T.2.2.1 rfl ?_
    refine Rn.iconst dX3_readFigure_25 rfl ic_1 ?_
    refine Rn.iaddN dX3_readFigure_26 rfl ?_
    refine Rn.putf p_X3_19 (fun h => by cases h) dX3_readFigure_27 rfl T.1 T.2.2.1 (fun g => ⟨rfl, rfl⟩) (Nat.le_of_ble_eq_true rfl) ?_
    refine Rn.iload_n dX3_readFigure_30 rfl rfl ?_
    refine Rn.iret dX3_readFigure_31 rfl rfl rfl ?_
    exact rn_fin (k a (fg_val htl ea).2.1 (fg_val htl ea).2.2.1 (fg_val htl ea).2.2.2 ea) (by rw [(fg_val htl ea).1]) rfl
  · refine Rn.bipush dX3_readFigure_17 rfl bp_m9 ?_
    refine Rn.iret dX3_readFigure_19 rfl rfl rfl ?_
    exact k0 (Classical.byContradiction fun z => absurd (decide_eq_true z) (by rw [c14]; decide))
theorem t_X3_readNumber {h : rHp} {Q : Option Value → rHp → Prop} {t : Nat → Nat} {ln pl : Nat} (T : Tx h t ln pl) (hln : ln ≤ 80) (htl : ∀ i, t i < 256) (hpl : pl < 1000) (k0 : ∀ pl', rdN t ln pl = (0, pl') → pl' ≤ pl + 2 → Q (some (.int (-9))) (tp h ln pl')) (k : ∀ a, a < 251 → rdN t ln pl = (a + 1, pl + 3) → pl + 2 < ln → Q (some (.int (nI a))) (tp h ln (pl + 3))) : Cl M_X3_readNumber h.1 h.2.1 [.ref 1] h Q := by
  refine Cl.of pl_X3 (Nat.le_of_ble_eq_true rfl) (by first | exact Nat.le_refl _ | omega) (by first | exact Nat.le_refl _ | omega) ?_
  refine Rn.aload_n dX3_readNumber_0 rfl rfl ?_
  refine Rn.iconst dX3_readNumber_1 rfl ic_0 ?_
  refine Rn.iconst dX3_readNumber_2 rfl ic_2 ?_
  refine Rn.callV (as := [_, _]) v_X3_readFigure l_X3_31 ⟨Nat.le_of_ble_eq_true rfl, Nat.le_of_ble_eq_true rfl⟩ dX3_readNumber_3 rfl rfl (Nat.le_of_ble_eq_true rfl) T.1 T.2.2.1 rfl (Nat.le_refl _) (Nat.le_refl _) (t_X3_readFigure T hln htl (by omega) (by omega) (by omega) (fun ea => ?_) (fun a ha ga qa ea => ?_)) 
  · refine Rn.istore_n dX3_readNumber_6 rfl (Nat.le_of_ble_eq_true rfl) ?_
    refine Rn.iload_n dX3_readNumber_7 rfl rfl ?_
    refine Rn.bipush dX3_readNumber_8 rfl bp_m9 ?_
    refine Rn.icmp_ne (tgt := 16) dX3_readNumber_10 rfl (by decide) (fun c10 => ?_) (fun c10 => ?_)
    · exact absurd rfl c10
    · refine Rn.bipush dX3_readNumber_13 rfl bp_m9 ?_
      refine Rn.iret dX3_readNumber_15 rfl rfl rfl ?_
      exact rn_fin (k0 pl (rdN_0 ea) (by omega)) rfl T.same.symm
  · refine Rn.istore_n dX3_readNumber_6 rfl (Nat.le_of_ble_eq_true rfl) ?_
    refine Rn.iload_n dX3_readNumber_7 rfl rfl ?_
    refine Rn.bipush dX3_readNumber_8 rfl bp_m9 ?_
    refine Rn.icmp_ne (tgt := 16) dX3_readNumber_10 rfl (by decide) (fun c10 => ?_) (fun c10 => ?_)
    · refine Rn.aload_n dX3_readNumber_16 rfl rfl ?_
      refine Rn.iconst dX3_readNumber_17 rfl ic_0 ?_
      refine Rn.iload_n dX3_readNumber_18 rfl rfl ?_
      refine Rn.iconst dX3_readNumber_19 rfl ic_2 ?_
      refine Rn.icmp_neN (tgt := 27) dX3_readNumber_20 rfl (by decide) (by omega) (by omega) (fun c20 => ?_) (fun c20 => ?_)
      · refine Rn.bipush dX3_readNumber_27 rfl bp_9 ?_
        refine Rn.callV (as := [_, _]) v_X3_readFigure l_X3_31 ⟨Nat.le_of_ble_eq_true rfl, Nat.le_of_ble_eq_true rfl⟩ dX3_readNumber_29 rfl rfl (Nat.le_of_ble_eq_true rfl) (T.put _ _).1 (T.put _ _).2.2.1 rfl (Nat.le_refl _) (Nat.le_refl _) (t_X3_readFigure (T.put _ _) hln htl (by omega) (by omega) (by omega) (fun eb => ?_) (fun b hb gb qb eb => ?_)) 
        · refine Rn.istore_n dX3_readNumber_32 rfl (Nat.le_of_ble_eq_true rfl) ?_
          refine Rn.iload_n dX3_readNumber_33 rfl rfl ?_
          refine Rn.bipush dX3_readNumber_34 rfl bp_m9 ?_
          refine Rn.icmp_ne (tgt := 42) dX3_readNumber_36 rfl (by decide) (fun c36 => ?_) (fun c36 => ?_)
          · exact absurd rfl c36
          · refine Rn.bipush dX3_readNumber_39 rfl bp_m9 ?_
            refine Rn.iret dX3_readNumber_41 rfl rfl rfl ?_
            exact k0 _ (rdN_1 ea (by split <;> omega) eb) (by omega)
        · refine Rn.heap (tp_tp _ _ _ _ _) ?_
          refine Rn.istore_n dX3_readNumber_32 rfl (Nat.le_of_ble_eq_true rfl) ?_
          refine Rn.iload_n dX3_readNumber_33 rfl rfl ?_
          refine Rn.bipush dX3_readNumber_34 rfl bp_m9 ?_
          refine Rn.icmp_ne (tgt := 42) dX3_readNumber_36 rfl (by decide) (fun c36 => ?_) (fun c36 => ?_)
          · refine Rn.aload_n dX3_readNumber_42 rfl rfl ?_
            refine Rn.iconst dX3_readNumber_43 rfl ic_0 ?_
            refine Rn.iload_n dX3_readNumber_44 rfl rfl ?_
            refine Rn.iconst dX3_readNumber_45 rfl ic_2 ?_
            refine Rn.icmp_neN (tgt := 58) dX3_readNumber_46 rfl (by decide) (by omega) (by omega) (fun c46 => ?_) (fun c46 => ?_)
            · refine Rn.bipush dX3_readNumber_58 rfl bp_9 ?_
              refine Rn.callV (as := [_, _]) v_X3_readFigure l_X3_31 ⟨Nat.le_of_ble_eq_true rfl, Nat.le_of_ble_eq_true rfl⟩ dX3_readNumber_60 rfl rfl (Nat.le_of_ble_eq_true rfl) (T.put _ _).1 (T.put _ _).2.2.1 rfl (Nat.le_refl _) (Nat.le_refl _) (t_X3_readFigure (T.put _ _) hln htl (by omega) (by omega) (by omega) (fun ec => ?_) (fun c hc gc qc ec => ?_)) 
              · refine Rn.istore_n dX3_readNumber_63 rfl (Nat.le_of_ble_eq_true rfl) ?_
                refine Rn.iload_n dX3_readNumber_64 rfl rfl ?_
                refine Rn.bipush dX3_readNumber_65 rfl bp_m9 ?_
                refine Rn.icmp_ne (tgt := 75) dX3_readNumber_67 rfl (by decide) (fun c67 => ?_) (fun c67 => ?_)
                · exact absurd rfl c67
                · refine Rn.bipush dX3_readNumber_70 rfl bp_m9 ?_
                  refine Rn.goto (tgt := 86) dX3_readNumber_72 (by decide) ?_
                  refine Rn.iret dX3_readNumber_86 rfl rfl rfl ?_
                  exact k0 _ (rdN_2 ea (by split <;> omega) eb (by split <;> omega) ec) (by omega)
              · refine Rn.heap (tp_tp _ _ _ _ _) ?_
                refine Rn.istore_n dX3_readNumber_63 rfl (Nat.le_of_ble_eq_true rfl) ?_
                refine Rn.iload_n dX3_readNumber_64 rfl rfl ?_
                refine Rn.bipush dX3_readNumber_65 rfl bp_m9 ?_
                refine Rn.icmp_ne (tgt := 75) dX3_readNumber_67 rfl (by decide) (fun c67 => ?_) (fun c67 => ?_)
                · refine Rn.bipush dX3_readNumber_75 rfl bp_100 ?_
                  refine Rn.iload_n dX3_readNumber_77 rfl rfl ?_
                  refine Rn.imulN dX3_readNumber_78 rfl ?_
                  refine Rn.bipush dX3_readNumber_79 rfl bp_10 ?_
                  refine Rn.iload_n dX3_readNumber_81 rfl rfl ?_
                  refine Rn.imulN dX3_readNumber_82 rfl ?_
                  refine Rn.iaddN dX3_readNumber_83 rfl ?_
                  refine Rn.iload_n dX3_readNumber_84 rfl rfl ?_
                  refine Rn.iaddN dX3_readNumber_85 rfl ?_
                  refine Rn.iret dX3_readNumber_86 rfl rfl rfl ?_
                  exact k (100 * a + 10 * b + c) (rd_lt ha hb hc (by split <;> omega) (by split <;> omega)) (rdN_3 ea (by split <;> omega) eb (by split <;> omega) ec) (by omega)
                · exact absurd c67 (nI_m9 (by omega))
            · refine Rn.iload_n dX3_readNumber_49 rfl rfl ?_
              refine Rn.iconst dX3_readNumber_50 rfl ic_5 ?_
              refine Rn.icmp_neN (tgt := 58) dX3_readNumber_51 rfl (by decide) (by omega) (by omega) (fun c51 => ?_) (fun c51 => ?_)
              · refine Rn.bipush dX3_readNumber_58 rfl bp_9 ?_
                refine Rn.callV (as := [_, _]) v_X3_readFigure l_X3_31 ⟨Nat.le_of_ble_eq_true rfl, Nat.le_of_ble_eq_true rfl⟩ dX3_readNumber_60 rfl rfl (Nat.le_of_ble_eq_true rfl) (T.put _ _).1 (T.put _ _).2.2.1 rfl (Nat.le_refl _) (Nat.le_refl _) (t_X3_readFigure (T.put _ _) hln htl (by omega) (by omega) (by omega) (fun ec => ?_) (fun c hc gc qc ec => ?_)) 
                · refine Rn.istore_n dX3_readNumber_63 rfl (Nat.le_of_ble_eq_true rfl) ?_
                  refine Rn.iload_n dX3_readNumber_64 rfl rfl ?_
                  refine Rn.bipush dX3_readNumber_65 rfl bp_m9 ?_
                  refine Rn.icmp_ne (tgt := 75) dX3_readNumber_67 rfl (by decide) (fun c67 => ?_) (fun c67 => ?_)
                  · exact absurd rfl c67
                  · refine Rn.bipush dX3_readNumber_70 rfl bp_m9 ?_
                    refine Rn.goto (tgt := 86) dX3_readNumber_72 (by decide) ?_
                    refine Rn.iret dX3_readNumber_86 rfl rfl rfl ?_
                    exact k0 _ (rdN_2 ea (by split <;> omega) eb (by split <;> omega) ec) (by omega)
                · refine Rn.heap (tp_tp _ _ _ _ _) ?_
                  refine Rn.istore_n dX3_readNumber_63 rfl (Nat.le_of_ble_eq_true rfl) ?_
                  refine Rn.iload_n dX3_readNumber_64 rfl rfl ?_
                  refine Rn.bipush dX3_readNumber_65 rfl bp_m9 ?_
                  refine Rn.icmp_ne (tgt := 75) dX3_readNumber_67 rfl (by decide) (fun c67 => ?_) (fun c67 => ?_)
                  · refine Rn.bipush dX3_readNumber_75 rfl bp_100 ?_
                    refine Rn.iload_n dX3_readNumber_77 rfl rfl ?_
                    refine Rn.imulN dX3_readNumber_78 rfl ?_
                    refine Rn.bipush dX3_readNumber_79 rfl bp_10 ?_
                    refine Rn.iload_n dX3_readNumber_81 rfl rfl ?_
                    refine Rn.imulN dX3_readNumber_82 rfl ?_
                    refine Rn.iaddN dX3_readNumber_83 rfl ?_
                    refine Rn.iload_n dX3_readNumber_84 rfl rfl ?_
                    refine Rn.iaddN dX3_readNumber_85 rfl ?_
                    refine Rn.iret dX3_readNumber_86 rfl rfl rfl ?_
                    exact k (100 * a + 10 * b + c) (rd_lt ha hb hc (by split <;> omega) (by split <;> omega)) (rdN_3 ea (by split <;> omega) eb (by split <;> omega) ec) (by omega)
                  · exact absurd c67 (nI_m9 (by omega))
              · refine Rn.iconst dX3_readNumber_54 rfl ic_0 ?_
                refine Rn.goto (tgt := 60) dX3_readNumber_55 (by decide) ?_
                refine Rn.callV (as := [_, _]) v_X3_readFigure l_X3_31 ⟨Nat.le_of_ble_eq_true rfl, Nat.le_of_ble_eq_true rfl⟩ dX3_readNumber_60 rfl rfl (Nat.le_of_ble_eq_true rfl) (T.put _ _).1 (T.put _ _).2.2.1 rfl (Nat.le_refl _) (Nat.le_refl _) (t_X3_readFigure (T.put _ _) hln htl (by omega) (by omega) (by omega) (fun ec => ?_) (fun c hc gc qc ec => ?_)) 
                · refine Rn.istore_n dX3_readNumber_63 rfl (Nat.le_of_ble_eq_true rfl) ?_
                  refine Rn.iload_n dX3_readNumber_64 rfl rfl ?_
                  refine Rn.bipush dX3_readNumber_65 rfl bp_m9 ?_
                  refine Rn.icmp_ne (tgt := 75) dX3_readNumber_67 rfl (by decide) (fun c67 => ?_) (fun c67 => ?_)
                  · exact absurd rfl c67
                  · refine Rn.bipush dX3_readNumber_70 rfl bp_m9 ?_
                    refine Rn.goto (tgt := 86) dX3_readNumber_72 (by decide) ?_
                    refine Rn.iret dX3_readNumber_86 rfl rfl rfl ?_
                    exact k0 _ (rdN_2 ea (by split <;> omega) eb (by split <;> omega) ec) (by omega)
                · refine Rn.heap (tp_tp _ _ _ _ _) ?_
                  refine Rn.istore_n dX3_readNumber_63 rfl (Nat.le_of_ble_eq_true rfl) ?_
                  refine Rn.iload_n dX3_readNumber_64 rfl rfl ?_
                  refine Rn.bipush dX3_readNumber_65 rfl bp_m9 ?_
                  refine Rn.icmp_ne (tgt := 75) dX3_readNumber_67 rfl (by decide) (fun c67 => ?_) (fun c67 => ?_)
                  · refine Rn.bipush dX3_readNumber_75 rfl bp_100 ?_
                    refine Rn.iload_n dX3_readNumber_77 rfl rfl ?_
                    refine Rn.imulN dX3_readNumber_78 rfl ?_
                    refine Rn.bipush dX3_readNumber_79 rfl bp_10 ?_
                    refine Rn.iload_n dX3_readNumber_81 rfl rfl ?_
                    refine Rn.imulN dX3_readNumber_82 rfl ?_
                    refine Rn.iaddN dX3_readNumber_83 rfl ?_
                    refine Rn.iload_n dX3_readNumber_84 rfl rfl ?_
                    refine Rn.iaddN dX3_readNumber_85 rfl ?_
                    refine Rn.iret dX3_readNumber_86 rfl rfl rfl ?_
                    exact k (100 * a + 10 * b + c) (rd_lt ha hb hc (by split <;> omega) (by split <;> omega)) (rdN_3 ea (by split <;> omega) eb (by split <;> omega) ec) (by omega)
                  · exact absurd c67 (nI_m9 (by omega))
          · exact absurd c36 (nI_m9 (by omega))
      · refine Rn.iconst dX3_readNumber_23 rfl ic_5 ?_
        refine Rn.goto (tgt := 29) dX3_readNumber_24 (by decide) ?_
        refine Rn.callV (as := [_, _]) v_X3_readFigure l_X3_31 ⟨Nat.le_of_ble_eq_true rfl, Nat.le_of_ble_eq_true rfl⟩ dX3_readNumber_29 rfl rfl (Nat.le_of_ble_eq_true rfl) (T.put _ _).1 (T.put _ _).2.2.1 rfl (Nat.le_refl _) (Nat.le_refl _) (t_X3_readFigure (T.put _ _) hln htl (by omega) (by omega) (by omega) (fun eb => ?_) (fun b hb gb qb eb => ?_)) 
        · refine Rn.istore_n dX3_readNumber_32 rfl (Nat.le_of_ble_eq_true rfl) ?_
          refine Rn.iload_n dX3_readNumber_33 rfl rfl ?_
          refine Rn.bipush dX3_readNumber_34 rfl bp_m9 ?_
          refine Rn.icmp_ne (tgt := 42) dX3_readNumber_36 rfl (by decide) (fun c36 => ?_) (fun c36 => ?_)
          · exact absurd rfl c36
          · refine Rn.bipush dX3_readNumber_39 rfl bp_m9 ?_
            refine Rn.iret dX3_readNumber_41 rfl rfl rfl ?_
            exact k0 _ (rdN_1 ea (by split <;> omega) eb) (by omega)
        · refine Rn.heap (tp_tp _ _ _ _ _) ?_
          refine Rn.istore_n dX3_readNumber_32 rfl (Nat.le_of_ble_eq_true rfl) ?_
          refine Rn.iload_n dX3_readNumber_33 rfl rfl ?_
          refine Rn.bipush dX3_readNumber_34 rfl bp_m9 ?_
          refine Rn.icmp_ne (tgt := 42) dX3_readNumber_36 rfl (by decide) (fun c36 => ?_) (fun c36 => ?_)
          · refine Rn.aload_n dX3_readNumber_42 rfl rfl ?_
            refine Rn.iconst dX3_readNumber_43 rfl ic_0 ?_
            refine Rn.iload_n dX3_readNumber_44 rfl rfl ?_
            refine Rn.iconst dX3_readNumber_45 rfl ic_2 ?_
            refine Rn.icmp_neN (tgt := 58) dX3_readNumber_46 rfl (by decide) (by omega) (by omega) (fun c46 => ?_) (fun c46 => ?_)
            · refine Rn.bipush dX3_readNumber_58 rfl bp_9 ?_
              refine Rn.callV (as := [_, _]) v_X3_readFigure l_X3_31 ⟨Nat.le_of_ble_eq_true rfl, Nat.le_of_ble_eq_true rfl⟩ dX3_readNumber_60 rfl rfl (Nat.le_of_ble_eq_true rfl) (T.put _ _).1 (T.put _ _).2.2.1 rfl (Nat.le_refl _) (Nat.le_refl _) (t_X3_readFigure (T.put _ _) hln htl (by omega) (by omega) (by omega) (fun ec => ?_) (fun c hc gc qc ec => ?_)) 
              · refine Rn.istore_n dX3_readNumber_63 rfl (Nat.le_of_ble_eq_true rfl) ?_
                refine Rn.iload_n dX3_readNumber_64 rfl rfl ?_
                refine Rn.bipush dX3_readNumber_65 rfl bp_m9 ?_
                refine Rn.icmp_ne (tgt := 75) dX3_readNumber_67 rfl (by decide) (fun c67 => ?_) (fun c67 => ?_)
                · exact absurd rfl c67
                · refine Rn.bipush dX3_readNumber_70 rfl bp_m9 ?_
                  refine Rn.goto (tgt := 86) dX3_readNumber_72 (by decide) ?_
                  refine Rn.iret dX3_readNumber_86 rfl rfl rfl ?_
                  exact k0 _ (rdN_2 ea (by split <;> omega) eb (by split <;> omega) ec) (by omega)
              · refine Rn.heap (tp_tp _ _ _ _ _) ?_
                refine Rn.istore_n dX3_readNumber_63 rfl (Nat.le_of_ble_eq_true rfl) ?_
                refine Rn.iload_n dX3_readNumber_64 rfl rfl ?_
                refine Rn.bipush dX3_readNumber_65 rfl bp_m9 ?_
                refine Rn.icmp_ne (tgt := 75) dX3_readNumber_67 rfl (by decide) (fun c67 => ?_) (fun c67 => ?_)
                · refine Rn.bipush dX3_readNumber_75 rfl bp_100 ?_
                  refine Rn.iload_n dX3_readNumber_77 rfl rfl ?_
                  refine Rn.imulN dX3_readNumber_78 rfl ?_
                  refine Rn.bipush dX3_readNumber_79 rfl bp_10 ?_
                  refine Rn.iload_n dX3_readNumber_81 rfl rfl ?_
                  refine Rn.imulN dX3_readNumber_82 rfl ?_
                  refine Rn.iaddN dX3_readNumber_83 rfl ?_
                  refine Rn.iload_n dX3_readNumber_84 rfl rfl ?_
                  refine Rn.iaddN dX3_readNumber_85 rfl ?_
                  refine Rn.iret dX3_readNumber_86 rfl rfl rfl ?_
                  exact k (100 * a + 10 * b + c) (rd_lt ha hb hc (by split <;> omega) (by split <;> omega)) (rdN_3 ea (by split <;> omega) eb (by split <;> omega) ec) (by omega)
                · exact absurd c67 (nI_m9 (by omega))
            · refine Rn.iload_n dX3_readNumber_49 rfl rfl ?_
              refine Rn.iconst dX3_readNumber_50 rfl ic_5 ?_
              refine Rn.icmp_neN (tgt := 58) dX3_readNumber_51 rfl (by decide) (by omega) (by omega) (fun c51 => ?_) (fun c51 => ?_)
              · refine Rn.bipush dX3_readNumber_58 rfl bp_9 ?_
                refine Rn.callV (as := [_, _]) v_X3_readFigure l_X3_31 ⟨Nat.le_of_ble_eq_true rfl, Nat.le_of_ble_eq_true rfl⟩ dX3_readNumber_60 rfl rfl (Nat.le_of_ble_eq_true rfl) (T.put _ _).1 (T.put _ _).2.2.1 rfl (Nat.le_refl _) (Nat.le_refl _) (t_X3_readFigure (T.put _ _) hln htl (by omega) (by omega) (by omega) (fun ec => ?_) (fun c hc gc qc ec => ?_)) 
                · refine Rn.istore_n dX3_readNumber_63 rfl (Nat.le_of_ble_eq_true rfl) ?_
                  refine Rn.iload_n dX3_readNumber_64 rfl rfl ?_
                  refine Rn.bipush dX3_readNumber_65 rfl bp_m9 ?_
                  refine Rn.icmp_ne (tgt := 75) dX3_readNumber_67 rfl (by decide) (fun c67 => ?_) (fun c67 => ?_)
                  · exact absurd rfl c67
                  · refine Rn.bipush dX3_readNumber_70 rfl bp_m9 ?_
                    refine Rn.goto (tgt := 86) dX3_readNumber_72 (by decide) ?_
                    refine Rn.iret dX3_readNumber_86 rfl rfl rfl ?_
                    exact k0 _ (rdN_2 ea (by split <;> omega) eb (by split <;> omega) ec) (by omega)
                · refine Rn.heap (tp_tp _ _ _ _ _) ?_
                  refine Rn.istore_n dX3_readNumber_63 rfl (Nat.le_of_ble_eq_true rfl) ?_
                  refine Rn.iload_n dX3_readNumber_64 rfl rfl ?_
                  refine Rn.bipush dX3_readNumber_65 rfl bp_m9 ?_
                  refine Rn.icmp_ne (tgt := 75) dX3_readNumber_67 rfl (by decide) (fun c67 => ?_) (fun c67 => ?_)
                  · refine Rn.bipush dX3_readNumber_75 rfl bp_100 ?_
                    refine Rn.iload_n dX3_readNumber_77 rfl rfl ?_
                    refine Rn.imulN dX3_readNumber_78 rfl ?_
                    refine Rn.bipush dX3_readNumber_79 rfl bp_10 ?_
                    refine Rn.iload_n dX3_readNumber_81 rfl rfl ?_
                    refine Rn.imulN dX3_readNumber_82 rfl ?_
                    refine Rn.iaddN dX3_readNumber_83 rfl ?_
                    refine Rn.iload_n dX3_readNumber_84 rfl rfl ?_
                    refine Rn.iaddN dX3_readNumber_85 rfl ?_
                    refine Rn.iret dX3_readNumber_86 rfl rfl rfl ?_
                    exact k (100 * a + 10 * b + c) (rd_lt ha hb hc (by split <;> omega) (by split <;> omega)) (rdN_3 ea (by split <;> omega) eb (by split <;> omega) ec) (by omega)
                  · exact absurd c67 (nI_m9 (by omega))
              · refine Rn.iconst dX3_readNumber_54 rfl ic_0 ?_
                refine Rn.goto (tgt := 60) dX3_readNumber_55 (by decide) ?_
                refine Rn.callV (as := [_, _]) v_X3_readFigure l_X3_31 ⟨Nat.le_of_ble_eq_true rfl, Nat.le_of_ble_eq_true rfl⟩ dX3_readNumber_60 rfl rfl (Nat.le_of_ble_eq_true rfl) (T.put _ _).1 (T.put _ _).2.2.1 rfl (Nat.le_refl _) (Nat.le_refl _) (t_X3_readFigure (T.put _ _) hln htl (by omega) (by omega) (by omega) (fun ec => ?_) (fun c hc gc qc ec => ?_)) 
                · refine Rn.istore_n dX3_readNumber_63 rfl (Nat.le_of_ble_eq_true rfl) ?_
                  refine Rn.iload_n dX3_readNumber_64 rfl rfl ?_
                  refine Rn.bipush dX3_readNumber_65 rfl bp_m9 ?_
                  refine Rn.icmp_ne (tgt := 75) dX3_readNumber_67 rfl (by decide) (fun c67 => ?_) (fun c67 => ?_)
                  · exact absurd rfl c67
                  · refine Rn.bipush dX3_readNumber_70 rfl bp_m9 ?_
                    refine Rn.goto (tgt := 86) dX3_readNumber_72 (by decide) ?_
                    refine Rn.iret dX3_readNumber_86 rfl rfl rfl ?_
                    exact k0 _ (rdN_2 ea (by split <;> omega) eb (by split <;> omega) ec) (by omega)
                · refine Rn.heap (tp_tp _ _ _ _ _) ?_
                  refine Rn.istore_n dX3_readNumber_63 rfl (Nat.le_of_ble_eq_true rfl) ?_
                  refine Rn.iload_n dX3_readNumber_64 rfl rfl ?_
                  refine Rn.bipush dX3_readNumber_65 rfl bp_m9 ?_
                  refine Rn.icmp_ne (tgt := 75) dX3_readNumber_67 rfl (by decide) (fun c67 => ?_) (fun c67 => ?_)
                  · refine Rn.bipush dX3_readNumber_75 rfl bp_100 ?_
                    refine Rn.iload_n dX3_readNumber_77 rfl rfl ?_
                    refine Rn.imulN dX3_readNumber_78 rfl ?_
                    refine Rn.bipush dX3_readNumber_79 rfl bp_10 ?_
                    refine Rn.iload_n dX3_readNumber_81 rfl rfl ?_
                    refine Rn.imulN dX3_readNumber_82 rfl ?_
                    refine Rn.iaddN dX3_readNumber_83 rfl ?_
                    refine Rn.iload_n dX3_readNumber_84 rfl rfl ?_
                    refine Rn.iaddN dX3_readNumber_85 rfl ?_
                    refine Rn.iret dX3_readNumber_86 rfl rfl rfl ?_
                    exact k (100 * a + 10 * b + c) (rd_lt ha hb hc (by split <;> omega) (by split <;> omega)) (rdN_3 ea (by split <;> omega) eb (by split <;> omega) ec) (by omega)
                  · exact absurd c67 (nI_m9 (by omega))
          · exact absurd c36 (nI_m9 (by omega))
    · exact absurd c10 (nI_m9 (by omega))
end
section
theorem t_X3_readRowLength {h : rHp} {Q : Option Value → rHp → Prop} {t : Nat → Nat} {ln pl : Nat} (T : Tx h t ln pl) (hln : ln ≤ 80) (htl : ∀ i, t i < 256) (hpl : pl < 1000) (k0 : ∀ pl', rlN t ln pl = (0, pl') → pl' ≤ pl + 1 → Q (some (.int (-9))) (tp h ln pl')) (k : ∀ a, 1 ≤ a → a ≤ 30 → rlN t ln pl = (a + 1, pl + 2) → pl + 1 < ln → Q (some (.int (nI a))) (tp h ln (pl + 2))) : Cl M_X3_readRowLength h.1 h.2.1 [.ref 1] h Q := by
  refine Cl.of pl_X3 (Nat.le_of_ble_eq_true rfl) (by first | exact Nat.le_refl _ | omega) (by first | exact Nat.le_refl _ | omega) ?_
  refine Rn.aload_n dX3_readRowLength_0 rfl rfl ?_
  refine Rn.iconst dX3_readRowLength_1 rfl ic_0 ?_
  refine Rn.iconst dX3_readRowLength_2 rfl ic_3 ?_
  refine Rn.callV (as := [_, _]) v_X3_readFigure l_X3_31 ⟨Nat.le_of_ble_eq_true rfl, Nat.le_of_ble_eq_true rfl⟩ dX3_readRowLength_3 rfl rfl (Nat.le_of_ble_eq_true rfl) T.1 T.2.2.1 rfl (Nat.le_refl _) (Nat.le_refl _) (t_X3_readFigure T hln htl (by omega) (by omega) (by omega) (fun ea => ?_) (fun a ha ga qa ea => ?_)) 
  · refine Rn.istore_n dX3_readRowLength_6 rfl (Nat.le_of_ble_eq_true rfl) ?_
    refine Rn.iload_n dX3_readRowLength_7 rfl rfl ?_
    refine Rn.bipush dX3_readRowLength_8 rfl bp_m9 ?_
    refine Rn.icmp_ne (tgt := 16) dX3_readRowLength_10 rfl (by decide) (fun c10 => ?_) (fun c10 => ?_)
    · exact absurd rfl c10
    · refine Rn.bipush dX3_readRowLength_13 rfl bp_m9 ?_
      refine Rn.iret dX3_readRowLength_15 rfl rfl rfl ?_
      exact rn_fin (k0 pl (rlN_0 ea) (by omega)) rfl T.same.symm
  · refine Rn.istore_n dX3_readRowLength_6 rfl (Nat.le_of_ble_eq_true rfl) ?_
    refine Rn.iload_n dX3_readRowLength_7 rfl rfl ?_
    refine Rn.bipush dX3_readRowLength_8 rfl bp_m9 ?_
    refine Rn.icmp_ne (tgt := 16) dX3_readRowLength_10 rfl (by decide) (fun c10 => ?_) (fun c10 => ?_)
    · refine Rn.aload_n dX3_readRowLength_16 rfl rfl ?_
      refine Rn.iload_n dX3_readRowLength_17 rfl rfl ?_
      refine Rn.if_neN (tgt := 25) dX3_readRowLength_18 rfl (by decide) (by omega) (fun c18 => ?_) (fun c18 => ?_)
      · refine Rn.iconst dX3_readRowLength_25 rfl ic_0 ?_
        refine Rn.iload_n dX3_readRowLength_26 rfl rfl ?_
        refine Rn.iconst dX3_readRowLength_27 rfl ic_3 ?_
        refine Rn.icmp_neN (tgt := 35) dX3_readRowLength_28 rfl (by decide) (by omega) (by omega) (fun c28 => ?_) (fun c28 => ?_)
        · refine Rn.bipush dX3_readRowLength_35 rfl bp_9 ?_
          refine Rn.callV (as := [_, _]) v_X3_readFigure l_X3_31 ⟨Nat.le_of_ble_eq_true rfl, Nat.le_of_ble_eq_true rfl⟩ dX3_readRowLength_37 rfl rfl (Nat.le_of_ble_eq_true rfl) (T.put _ _).1 (T.put _ _).2.2.1 rfl (Nat.le_refl _) (Nat.le_refl _) (t_X3_readFigure (T.put _ _) hln htl (by omega) (by omega) (by omega) (fun eb => ?_) (fun b hb gb qb eb => ?_)) 
          · refine Rn.istore_n dX3_readRowLength_40 rfl (Nat.le_of_ble_eq_true rfl) ?_
            refine Rn.iload_n dX3_readRowLength_41 rfl rfl ?_
            refine Rn.bipush dX3_readRowLength_42 rfl bp_m9 ?_
            refine Rn.icmp_ne (tgt := 52) dX3_readRowLength_44 rfl (by decide) (fun c44 => ?_) (fun c44 => ?_)
            · exact absurd rfl c44
            · refine Rn.bipush dX3_readRowLength_47 rfl bp_m9 ?_
              refine Rn.goto (tgt := 58) dX3_readRowLength_49 (by decide) ?_
              refine Rn.iret dX3_readRowLength_58 rfl rfl rfl ?_
              exact k0 _ (rlN_1 ea (by split <;> omega) (by split <;> omega) eb) (by omega)
          · refine Rn.heap (tp_tp _ _ _ _ _) ?_
            refine Rn.istore_n dX3_readRowLength_40 rfl (Nat.le_of_ble_eq_true rfl) ?_
            refine Rn.iload_n dX3_readRowLength_41 rfl rfl ?_
            refine Rn.bipush dX3_readRowLength_42 rfl bp_m9 ?_
            refine Rn.icmp_ne (tgt := 52) dX3_readRowLength_44 rfl (by decide) (fun c44 => ?_) (fun c44 => ?_)
            · refine Rn.bipush dX3_readRowLength_52 rfl bp_10 ?_
              refine Rn.iload_n dX3_readRowLength_54 rfl rfl ?_
              refine Rn.imulN dX3_readRowLength_55 rfl ?_
              refine Rn.iload_n dX3_readRowLength_56 rfl rfl ?_
              refine Rn.iaddN dX3_readRowLength_57 rfl ?_
              refine Rn.iret dX3_readRowLength_58 rfl rfl rfl ?_
              exact k (10 * a + b) (rl_bd ha gb hb (by split <;> omega) (by split <;> omega)).1 (rl_bd ha gb hb (by split <;> omega) (by split <;> omega)).2 (rlN_2 ea (by split <;> omega) (by split <;> omega) eb) (by omega)
            · exact absurd c44 (nI_m9 (by omega))
        · refine Rn.iconst dX3_readRowLength_31 rfl ic_0 ?_
          refine Rn.goto (tgt := 37) dX3_readRowLength_32 (by decide) ?_
          refine Rn.callV (as := [_, _]) v_X3_readFigure l_X3_31 ⟨Nat.le_of_ble_eq_true rfl, Nat.le_of_ble_eq_true rfl⟩ dX3_readRowLength_37 rfl rfl (Nat.le_of_ble_eq_true rfl) (T.put _ _).1 (T.put _ _).2.2.1 rfl (Nat.le_refl _) (Nat.le_refl _) (t_X3_readFigure (T.put _ _) hln htl (by omega) (by omega) (by omega) (fun eb => ?_) (fun b hb gb qb eb => ?_)) 
          · refine Rn.istore_n dX3_readRowLength_40 rfl (Nat.le_of_ble_eq_true rfl) ?_
            refine Rn.iload_n dX3_readRowLength_41 rfl rfl ?_
            refine Rn.bipush dX3_readRowLength_42 rfl bp_m9 ?_
            refine Rn.icmp_ne (tgt := 52) dX3_readRowLength_44 rfl (by decide) (fun c44 => ?_) (fun c44 => ?_)
            · exact absurd rfl c44
            · refine Rn.bipush dX3_readRowLength_47 rfl bp_m9 ?_
              refine Rn.goto (tgt := 58) dX3_readRowLength_49 (by decide) ?_
              refine Rn.iret dX3_readRowLength_58 rfl rfl rfl ?_
              exact k0 _ (rlN_1 ea (by split <;> omega) (by split <;> omega) eb) (by omega)
          · refine Rn.heap (tp_tp _ _ _ _ _) ?_
            refine Rn.istore_n dX3_readRowLength_40 rfl (Nat.le_of_ble_eq_true rfl) ?_
            refine Rn.iload_n dX3_readRowLength_41 rfl rfl ?_
            refine Rn.bipush dX3_readRowLength_42 rfl bp_m9 ?_
            refine Rn.icmp_ne (tgt := 52) dX3_readRowLength_44 rfl (by decide) (fun c44 => ?_) (fun c44 => ?_)
            · refine Rn.bipush dX3_readRowLength_52 rfl bp_10 ?_
              refine Rn.iload_n dX3_readRowLength_54 rfl rfl ?_
              refine Rn.imulN dX3_readRowLength_55 rfl ?_
              refine Rn.iload_n dX3_readRowLength_56 rfl rfl ?_
              refine Rn.iaddN dX3_readRowLength_57 rfl ?_
              refine Rn.iret dX3_readRowLength_58 rfl rfl rfl ?_
              exact k (10 * a + b) (rl_bd ha gb hb (by split <;> omega) (by split <;> omega)).1 (rl_bd ha gb hb (by split <;> omega) (by split <;> omega)).2 (rlN_2 ea (by split <;> omega) (by split <;> omega) eb) (by omega)
            · exact absurd c44 (nI_m9 (by omega))
      · refine Rn.iconst dX3_readRowLength_21 rfl ic_1 ?_
        refine Rn.goto (tgt := 26) dX3_readRowLength_22 (by decide) ?_
        refine Rn.iload_n dX3_readRowLength_26 rfl rfl ?_
        refine Rn.iconst dX3_readRowLength_27 rfl ic_3 ?_
        refine Rn.icmp_neN (tgt := 35) dX3_readRowLength_28 rfl (by decide) (by omega) (by omega) (fun c28 => ?_) (fun c28 => ?_)
        · refine Rn.bipush dX3_readRowLength_35 rfl bp_9 ?_
          refine Rn.callV (as := [_, _]) v_X3_readFigure l_X3_31 ⟨Nat.le_of_ble_eq_true rfl, Nat.le_of_ble_eq_true rfl⟩ dX3_readRowLength_37 rfl rfl (Nat.le_of_ble_eq_true rfl) (T.put _ _).1 (T.put _ _).2.2.1 rfl (Nat.le_refl _) (Nat.le_refl _) (t_X3_readFigure (T.put _ _) hln htl (by omega) (by omega) (by omega) (fun eb => ?_) (fun b hb gb qb eb => ?_)) 
          · refine Rn.istore_n dX3_readRowLength_40 rfl (Nat.le_of_ble_eq_true rfl) ?_
            refine Rn.iload_n dX3_readRowLength_41 rfl rfl ?_
            refine Rn.bipush dX3_readRowLength_42 rfl bp_m9 ?_
            refine Rn.icmp_ne (tgt := 52) dX3_readRowLength_44 rfl (by decide) (fun c44 => ?_) (fun c44 => ?_)
            · exact absurd rfl c44
            · refine Rn.bipush dX3_readRowLength_47 rfl bp_m9 ?_
              refine Rn.goto (tgt := 58) dX3_readRowLength_49 (by decide) ?_
              refine Rn.iret dX3_readRowLength_58 rfl rfl rfl ?_
              exact k0 _ (rlN_1 ea (by split <;> omega) (by split <;> omega) eb) (by omega)
          · refine Rn.heap (tp_tp _ _ _ _ _) ?_
            refine Rn.istore_n dX3_readRowLength_40 rfl (Nat.le_of_ble_eq_true rfl) ?_
            refine Rn.iload_n dX3_readRowLength_41 rfl rfl ?_
            refine Rn.bipush dX3_readRowLength_42 rfl bp_m9 ?_
            refine Rn.icmp_ne (tgt := 52) dX3_readRowLength_44 rfl (by decide) (fun c44 => ?_) (fun c44 => ?_)
            · refine Rn.bipush dX3_readRowLength_52 rfl bp_10 ?_
              refine Rn.iload_n dX3_readRowLength_54 rfl rfl ?_
              refine Rn.imulN dX3_readRowLength_55 rfl ?_
              refine Rn.iload_n dX3_readRowLength_56 rfl rfl ?_
              refine Rn.iaddN dX3_readRowLength_57 rfl ?_
              refine Rn.iret dX3_readRowLength_58 rfl rfl rfl ?_
              exact k (10 * a + b) (rl_bd ha gb hb (by split <;> omega) (by split <;> omega)).1 (rl_bd ha gb hb (by split <;> omega) (by split <;> omega)).2 (rlN_2 ea (by split <;> omega) (by split <;> omega) eb) (by omega)
            · exact absurd c44 (nI_m9 (by omega))
        · refine Rn.iconst dX3_readRowLength_31 rfl ic_0 ?_
          refine Rn.goto (tgt := 37) dX3_readRowLength_32 (by decide) ?_
          refine Rn.callV (as := [_, _]) v_X3_readFigure l_X3_31 ⟨Nat.le_of_ble_eq_true rfl, Nat.le_of_ble_eq_true rfl⟩ dX3_readRowLength_37 rfl rfl (Nat.le_of_ble_eq_true rfl) (T.put _ _).1 (T.put _ _).2.2.1 rfl (Nat.le_refl _) (Nat.le_refl _) (t_X3_readFigure (T.put _ _) hln htl (by omega) (by omega) (by omega) (fun eb => ?_) (fun b hb gb qb eb => ?_)) 
          · refine Rn.istore_n dX3_readRowLength_40 rfl (Nat.le_of_ble_eq_true rfl) ?_
            refine Rn.iload_n dX3_readRowLength_41 rfl rfl ?_
            refine Rn.bipush dX3_readRowLength_42 rfl bp_m9 ?_
            refine Rn.icmp_ne (tgt := 52) dX3_readRowLength_44 rfl (by decide) (fun c44 => ?_) (fun c44 => ?_)
            · exact absurd rfl c44
            · refine Rn.bipush dX3_readRowLength_47 rfl bp_m9 ?_
              refine Rn.goto (tgt := 58) dX3_readRowLength_49 (by decide) ?_
              refine Rn.iret dX3_readRowLength_58 rfl rfl rfl ?_
              exact k0 _ (rlN_1 ea (by split <;> omega) (by split <;> omega) eb) (by omega)
          · refine Rn.heap (tp_tp _ _ _ _ _) ?_
            refine Rn.istore_n dX3_readRowLength_40 rfl (Nat.le_of_ble_eq_true rfl) ?_
            refine Rn.iload_n dX3_readRowLength_41 rfl rfl ?_
            refine Rn.bipush dX3_readRowLength_42 rfl bp_m9 ?_
            refine Rn.icmp_ne (tgt := 52) dX3_readRowLength_44 rfl (by decide) (fun c44 => ?_) (fun c44 => ?_)
            · refine Rn.bipush dX3_readRowLength_52 rfl bp_10 ?_
              refine Rn.iload_n dX3_readRowLength_54 rfl rfl ?_
              refine Rn.imulN dX3_readRowLength_55 rfl ?_
              refine Rn.iload_n dX3_readRowLength_56 rfl rfl ?_
              refine Rn.iaddN dX3_readRowLength_57 rfl ?_
              refine Rn.iret dX3_readRowLength_58 rfl rfl rfl ?_
              exact k (10 * a + b) (rl_bd ha gb hb (by split <;> omega) (by split <;> omega)).1 (rl_bd ha gb hb (by split <;> omega) (by split <;> omega)).2 (rlN_2 ea (by split <;> omega) (by split <;> omega) eb) (by omega)
            · exact absurd c44 (nI_m9 (by omega))
    · exact absurd c10 (nI_m9 (by omega))
/-- a user's part: done or not, where reading stands, seed, salt, length -/
def ruN (t : Nat → Nat) (ln pl : Nat) : Nat × Nat × Nat × Nat × Nat :=
  if (rdN t ln (pl + 1)).1 = 0 then (0, (rdN t ln (pl + 1)).2, 0, 0, 0) else
  if (rdN t ln (pl + 4)).1 = 0 then (0, (rdN t ln (pl + 4)).2, 0, 0, 0) else
  if (rlN t ln (pl + 7)).1 = 0 then (0, (rlN t ln (pl + 7)).2, 0, 0, 0) else
  (1, pl + 9, (rdN t ln (pl + 1)).1 - 1, (rdN t ln (pl + 4)).1 - 1, (rlN t ln (pl + 7)).1 - 1)
theorem ruN_0 {t : Nat → Nat} {ln pl a : Nat} (e : rdN t ln (pl + 1) = (0, a)) : ruN t ln pl = (0, a, 0, 0, 0) := by unfold ruN; rw [e]; rfl
theorem ruN_1 {t : Nat → Nat} {ln pl a b c : Nat} (e : rdN t ln (pl + 1) = (a + 1, b)) (e2 : rdN t ln (pl + 4) = (0, c)) : ruN t ln pl = (0, c, 0, 0, 0) := by
  unfold ruN; rw [e, e2, if_neg (by show ¬ a + 1 = 0; omega)]; rfl
theorem ruN_2 {t : Nat → Nat} {ln pl a b c d f : Nat} (e : rdN t ln (pl + 1) = (a + 1, b)) (e2 : rdN t ln (pl + 4) = (c + 1, d)) (e3 : rlN t ln (pl + 7) = (0, f)) : ruN t ln pl = (0, f, 0, 0, 0) := by
  unfold ruN; rw [e, e2, e3, if_neg (by show ¬ a + 1 = 0; omega), if_neg (by show ¬ c + 1 = 0; omega)]; rfl
theorem ruN_3 {t : Nat → Nat} {ln pl a b c d f g : Nat} (e : rdN t ln (pl + 1) = (a + 1, b)) (e2 : rdN t ln (pl + 4) = (c + 1, d)) (e3 : rlN t ln (pl + 7) = (f + 1, g)) : ruN t ln pl = (1, pl + 9, a, c, f) := by
  unfold ruN; rw [e, e2, e3, if_neg (by show ¬ a + 1 = 0; omega), if_neg (by show ¬ c + 1 = 0; omega), if_neg (by show ¬ f + 1 = 0; omega)]; rfl
/-- a user's figure with passes left, one more; 0: there is none -/
def uNo (t : Nat → Nat) (ln pl : Nat) (p : Nat → Nat) : Nat := if pl < ln ∧ 48 ≤ t pl ∧ ow p (t pl - 48) = true then t pl - 48 + 1 else 0
theorem uNo_B {t : Nat → Nat} {ln pl : Nat} {p : Nat → Nat} (O : OKp p) (htl : ∀ i, t i < 256) : ownB p (wi (nlN t ln pl) - nI 48) = decide (uNo t ln pl p ≠ 0) := by
  have h1 := htl pl
  unfold uNo nlN
  by_cases h : pl < ln
  · rw [if_pos h, wi_s]
    by_cases h2 : 48 ≤ t pl
    · rw [pk_sub h2, ownB_nI (by omega)]
      by_cases h3 : ow p (t pl - 48) = true
      · rw [if_pos ⟨h, h2, h3⟩, h3, decide_eq_true (by omega)]
      · rw [if_neg (fun z => h3 z.2.2), decide_eq_false (by omega)]
        exact Bool.eq_false_iff.mpr h3
    · rw [if_neg (fun z => h2 z.2.1), decide_eq_false (by omega)]
      refine ownB_hn (hasB_neg ?_)
      rw [Int32.lt_iff_toInt_lt, Jvm.Kit.i32_sub (by rw [nI_toInt (by omega), nI_toInt (by omega)]; omega) (by rw [nI_toInt (by omega), nI_toInt (by omega)]; omega), nI_toInt (by omega), nI_toInt (by omega)]
      show _ < (0 : Int)
      omega
  · rw [if_neg h, if_neg (fun z => h z.1), decide_eq_false (by omega)]
    exact ownB_hn (hasB_neg (by decide))
theorem uNo_val {t : Nat → Nat} {ln pl a : Nat} {p : Nat → Nat} (O : OKp p) (htl : ∀ i, t i < 256) (h : uNo t ln pl p = a + 1) : wi (nlN t ln pl) - nI 48 = nI a ∧ pl < ln ∧ a < 4 ∧ ow p a = true := by
  unfold uNo at h
  split at h
  · rename_i h1
    have e : t pl = 48 + a := by omega
    have ea : t pl - 48 = a := by omega
    unfold nlN
    rw [ea] at h1
    have h4 := O.1
    have := (ow_t h1.2.2).1
    rw [if_pos h1.1, wi_s, e, pk_sub (by omega)]
    exact ⟨by congr 1; omega, h1.1, by omega, h1.2.2⟩
  · omega
/-- a doing's part: done or not, where reading stands, the page -/
def dgN (t : Nat → Nat) (ln pl : Nat) (p : Nat → Nat) : Nat × Nat × (Nat → Nat) :=
  if (nlN t ln pl = 116 ∨ nlN t ln pl = 110) ∧ anyU p 4 = true then
    (if uNo t ln (pl + 1) p = 0 then (0, pl + 1, p) else (1, pl + 2, if nlN t ln pl = 116 then seP p (uNo t ln (pl + 1) p - 1) else spP p (uNo t ln (pl + 1) p - 1)))
  else (0, pl, p)
theorem dgN_0 {t : Nat → Nat} {ln pl : Nat} {p : Nat → Nat} (h : ¬ ((nlN t ln pl = 116 ∨ nlN t ln pl = 110) ∧ anyU p 4 = true)) : dgN t ln pl p = (0, pl, p) := by unfold dgN; rw [if_neg h]
theorem dgN_1 {t : Nat → Nat} {ln pl : Nat} {p : Nat → Nat} (h : (nlN t ln pl = 116 ∨ nlN t ln pl = 110) ∧ anyU p 4 = true) (h2 : uNo t ln (pl + 1) p = 0) : dgN t ln pl p = (0, pl + 1, p) := by unfold dgN; rw [if_pos h, if_pos h2]
theorem dgN_2 {t : Nat → Nat} {ln pl a : Nat} {p : Nat → Nat} (h : nlN t ln pl = 116) (h1 : anyU p 4 = true) (h2 : uNo t ln (pl + 1) p = a + 1) : dgN t ln pl p = (1, pl + 2, seP p a) := by unfold dgN; rw [if_pos ⟨Or.inl h, h1⟩, if_neg (by omega), if_pos h, h2]; rfl
theorem dgN_3 {t : Nat → Nat} {ln pl a : Nat} {p : Nat → Nat} (h : nlN t ln pl = 110) (h1 : anyU p 4 = true) (h2 : uNo t ln (pl + 1) p = a + 1) : dgN t ln pl p = (1, pl + 2, spP p a) := by unfold dgN; rw [if_pos ⟨Or.inr h, h1⟩, if_neg (by omega), if_neg (by omega), h2]; rfl
/-- the parts: the fault (one more; 0: none), where reading stands, the page -/
def lpR (t : Nat → Nat) (ln : Nat) : Nat → Nat → (Nat → Nat) → Bool → Nat × Nat × (Nat → Nat)
  | 0, pl, p, _ => (0, pl, p)
  | n + 1, pl, p, ou => if ln ≤ pl then (0, pl, p) else
      if ou = true ∧ p 24 < 4 ∧ nlN t ln pl = 118 then
        (if (ruN t ln pl).1 = 0 then ((ruN t ln pl).2.1 + 1, (ruN t ln pl).2.1, p) else lpR t ln n (pl + 9) (adP p (ruN t ln pl).2.2.1 (ruN t ln pl).2.2.2.1 (ruN t ln pl).2.2.2.2) true)
      else (if (dgN t ln pl p).1 = 0 then ((dgN t ln pl p).2.1 + 1, (dgN t ln pl p).2.1, p) else lpR t ln n (dgN t ln pl p).2.1 (dgN t ln pl p).2.2 false)
def rIn (t : Nat → Nat) (ln : Nat) : Nat × Nat × (Nat → Nat) :=
  if nlN t ln 0 = 84 then (if fgN t ln 1 1 6 = 0 then (2, 1, p0) else lpR t ln 80 2 (un p0 25 (fgN t ln 1 1 6 - 1)) true) else (1, 0, p0)
theorem lpR_e {t : Nat → Nat} {ln n pl : Nat} {p : Nat → Nat} {ou : Bool} (h : ln ≤ pl) : lpR t ln n pl p ou = (0, pl, p) := by
  cases n with
  | zero => rfl
  | succ n => show (if ln ≤ pl then _ else _) = _; rw [if_pos h]
theorem lpR_u0 {t : Nat → Nat} {ln n pl a : Nat} {p : Nat → Nat} (h : ¬ ln ≤ pl) (h1 : p 24 < 4) (h2 : nlN t ln pl = 118) (e : ruN t ln pl = (0, a, 0, 0, 0)) : lpR t ln (n + 1) pl p true = (a + 1, a, p) := by
  show (if ln ≤ pl then _ else _) = _
  rw [if_neg h, if_pos ⟨rfl, h1, h2⟩, e]; rfl
theorem lpR_u1 {t : Nat → Nat} {ln n pl a b c d : Nat} {p : Nat → Nat} (h : ¬ ln ≤ pl) (h1 : p 24 < 4) (h2 : nlN t ln pl = 118) (e : ruN t ln pl = (1, a, b, c, d)) : lpR t ln (n + 1) pl p true = lpR t ln n (pl + 9) (adP p b c d) true := by
  show (if ln ≤ pl then _ else _) = _
  rw [if_neg h, if_pos ⟨rfl, h1, h2⟩, e]; rfl
theorem lpR_d0 {t : Nat → Nat} {ln n pl a : Nat} {p p' : Nat → Nat} {ou : Bool} (h : ¬ ln ≤ pl) (h1 : ¬ (ou = true ∧ p 24 < 4 ∧ nlN t ln pl = 118)) (e : dgN t ln pl p = (0, a, p')) : lpR t ln (n + 1) pl p ou = (a + 1, a, p) := by
  show (if ln ≤ pl then _ else _) = _
  rw [if_neg h, if_neg h1, e]; rfl
theorem lpR_d1 {t : Nat → Nat} {ln n pl a : Nat} {p p' : Nat → Nat} {ou : Bool} (h : ¬ ln ≤ pl) (h1 : ¬ (ou = true ∧ p 24 < 4 ∧ nlN t ln pl = 118)) (e : dgN t ln pl p = (1, a, p')) : lpR t ln (n + 1) pl p ou = lpR t ln n a p' false := by
  show (if ln ≤ pl then _ else _) = _
  rw [if_neg h, if_neg h1, e]; rfl
theorem OK_p0 : OKp p0 := by
  have e : ∀ i, i ≠ 25 → p0 i = 0 := fun i hi => if_neg hi
  refine ⟨by decide, by decide, by decide, by decide, fun u hu => ?_, fun i hi => ?_, by decide⟩
  · rw [e _ (by omega), e _ (by omega), e _ (by omega), e _ (by omega), e _ (by omega), e _ (by omega)]; omega
  · rw [e _ (by omega)]; omega
theorem OK_win {p : Nat → Nat} (O : OKp p) {w : Nat} (h1 : 1 ≤ w) (h2 : w ≤ 6) : OKp (un p 25 w) := by
  obtain ⟨a, b, c, d, e, f, g⟩ := O
  refine ⟨by rw [un_ne _ _ (by omega)]; exact a, by rw [un_eq]; exact h1, by rw [un_eq]; exact h2, by rw [un_ne _ _ (by omega)]; exact d, fun u hu => ?_, fun i hi => ?_, by rw [un_ne _ _ (by omega)]; exact g⟩
  · rw [un_ne _ _ (by omega), un_ne _ _ (by omega), un_ne _ _ (by omega), un_ne _ _ (by omega), un_ne _ _ (by omega), un_ne _ _ (by omega)]; exact e u hu
  · rw [un_ne _ _ (by omega)]; exact f i hi
theorem OK_24 {p : Nat → Nat} (O : OKp p) {w : Nat} (h2 : w ≤ 4) : OKp (un p 24 w) := by
  obtain ⟨a, b, c, d, e, f, g⟩ := O
  refine ⟨by rw [un_eq]; exact h2, by rw [un_ne _ _ (by omega)]; exact b, by rw [un_ne _ _ (by omega)]; exact c, by rw [un_ne _ _ (by omega)]; exact d, fun u hu => ?_, fun i hi => ?_, by rw [un_ne _ _ (by omega)]; exact g⟩
  · rw [un_ne _ _ (by omega), un_ne _ _ (by omega), un_ne _ _ (by omega), un_ne _ _ (by omega), un_ne _ _ (by omega), un_ne _ _ (by omega)]; exact e u hu
  · rw [un_ne _ _ (by omega)]; exact f i hi
theorem OK_bg {p : Nat → Nat} (O : OKp p) {u s t n : Nat} (hu : u < 4) (hs : s < 251) (ht : t < 251) (hn : n ≤ 30) : OKp (bgP p u s t n) :=
  (((((O.put (k := 0) hu (by omega) hs (by omega)).put (k := 1) hu (by omega) ht (by omega)).put (k := 2) hu (by omega) (by omega) (by omega)).put (k := 3) hu (by omega) (by omega) (by omega)).put (k := 4) hu (by omega) (bh_lt hs n) (by omega)).put (k := 5) hu (by omega) (by omega) (by omega)
theorem OK_ad {p : Nat → Nat} (O : OKp p) {s t n : Nat} (h : p 24 < 4) (hs : s < 251) (ht : t < 251) (hn : n ≤ 30) : OKp (adP p s t n) := OK_bg (OK_24 O (by omega)) h hs ht hn
theorem t_X3_readUser {h : rHp} {Q : Option Value → rHp → Prop} {q : Nat} (hq : 1 < q) {t : Nat → Nat} {ln l1 l2 pl : Nat} {pb p : Nat → Nat} (T : Tx h t l1 l2) (H : Hl h q pb) (hln : ln ≤ 80) (htl : ∀ i, t i < 256) (hpl : pl < 200) (h24 : p 24 < 4) (k0 : ∀ pl', ruN t ln pl = (0, pl', 0, 0, 0) → pl' ≤ pl + 8 → Q (some (.int (bi false))) (ht h q ln pl' p)) (k : ∀ a b c, a < 251 → b < 251 → 1 ≤ c → c ≤ 30 → ruN t ln pl = (1, pl + 9, a, b, c) → pl + 8 < ln → Q (some (.int (bi true))) (ht h q ln (pl + 9) (adP p a b c))) : Cl M_X3_readUser h.1 h.2.1 [.ref 1, .ref q] (ht h q ln pl p) Q := by
  refine Cl.of pl_X3 (Nat.le_of_ble_eq_true rfl) (by first | exact Nat.le_refl _ | omega) (by first | exact Nat.le_refl _ | omega) ?_
  refine Rn.aload_n dX3_readUser_0 rfl rfl ?_
  refine Rn.dup dX3_readUser_1 rfl rfl ?_
  refine Rn.getf f_X3_19 dX3_readUser_2 rfl (ht_T hq T _ _ _).1 (ht_T hq T _ _ _).2.2.1 rfl ?_
  refine Rn.iconst dX3_readUser_5 rfl ic_1 ?_
  refine Rn.iaddN dX3_readUser_6 rfl ?_
  refine Rn.putf p_X3_19 (fun h => by cases h) dX3_readUser_7 rfl (ht_T hq T _ _ _).1 (ht_T hq T _ _ _).2.2.1 (fun g => ⟨rfl, rfl⟩) (Nat.le_of_ble_eq_true rfl) ?_
  refine Rn.heap (ht_tp h hq _ _ _ _ _) ?_
  refine Rn.aload_n dX3_readUser_10 rfl rfl ?_
  refine Rn.callV (as := []) v_X3_readNumber l_X3_53 ⟨Nat.le_of_ble_eq_true rfl, Nat.le_of_ble_eq_true rfl⟩ dX3_readUser_11 rfl rfl (Nat.le_of_ble_eq_true rfl) (ht_T hq T _ _ _).1 (ht_T hq T _ _ _).2.2.1 rfl (Nat.le_refl _) (Nat.le_refl _) (t_X3_readNumber (ht_T hq T _ _ _) hln htl (by omega) (fun la ea ga => ?_) (fun a ha ea qa => ?_)) 
  · refine Rn.heap (ht_tp h hq _ _ _ _ _) ?_
    refine Rn.istore_n dX3_readUser_14 rfl (Nat.le_of_ble_eq_true rfl) ?_
    refine Rn.iload_n dX3_readUser_15 rfl rfl ?_
    refine Rn.bipush dX3_readUser_16 rfl bp_m9 ?_
    refine Rn.icmp_ne (tgt := 26) dX3_readUser_18 rfl (by decide) (fun c18 => ?_) (fun c18 => ?_)
    · exact absurd rfl c18
    · refine Rn.bipush dX3_readUser_21 rfl bp_m9 ?_
      refine Rn.goto (tgt := 30) dX3_readUser_23 (by decide) ?_
      refine Rn.istore_n dX3_readUser_30 rfl (Nat.le_of_ble_eq_true rfl) ?_
      refine Rn.iload_n dX3_readUser_31 rfl rfl ?_
      refine Rn.bipush dX3_readUser_32 rfl bp_m9 ?_
      refine Rn.icmp_ne (tgt := 42) dX3_readUser_34 rfl (by decide) (fun c34 => ?_) (fun c34 => ?_)
      · exact absurd rfl c34
      · refine Rn.bipush dX3_readUser_37 rfl bp_m9 ?_
        refine Rn.goto (tgt := 46) dX3_readUser_39 (by decide) ?_
        refine Rn.istore dX3_readUser_46 rfl (Nat.le_of_ble_eq_true rfl) ?_
        refine Rn.iload dX3_readUser_48 rfl rfl ?_
        refine Rn.bipush dX3_readUser_50 rfl bp_m9 ?_
        refine Rn.icmp_ne (tgt := 57) dX3_readUser_52 rfl (by decide) (fun c52 => ?_) (fun c52 => ?_)
        · exact absurd rfl c52
        · refine Rn.iconst dX3_readUser_55 rfl ic_0 ?_
          refine Rn.zret dX3_readUser_56 rfl (by decide) rfl rfl ?_
          first | exact k0 _ (ruN_0 ea) (by omega) | exact k0 _ (ruN_1 ea eb) (by omega) | exact k0 _ (ruN_2 ea eb ec) (by omega)
  · refine Rn.heap (ht_tp h hq _ _ _ _ _) ?_
    refine Rn.istore_n dX3_readUser_14 rfl (Nat.le_of_ble_eq_true rfl) ?_
    refine Rn.iload_n dX3_readUser_15 rfl rfl ?_
    refine Rn.bipush dX3_readUser_16 rfl bp_m9 ?_
    refine Rn.icmp_ne (tgt := 26) dX3_readUser_18 rfl (by decide) (fun c18 => ?_) (fun c18 => ?_)
    · refine Rn.aload_n dX3_readUser_26 rfl rfl ?_
      refine Rn.callV (as := []) v_X3_readNumber l_X3_53 ⟨Nat.le_of_ble_eq_true rfl, Nat.le_of_ble_eq_true rfl⟩ dX3_readUser_27 rfl rfl (Nat.le_of_ble_eq_true rfl) (ht_T hq T _ _ _).1 (ht_T hq T _ _ _).2.2.1 rfl (Nat.le_refl _) (Nat.le_refl _) (t_X3_readNumber (ht_T hq T _ _ _) hln htl (by omega) (fun lb eb gb => ?_) (fun b hb eb qb => ?_)) 
      · refine Rn.heap (ht_tp h hq _ _ _ _ _) ?_
        refine Rn.istore_n dX3_readUser_30 rfl (Nat.le_of_ble_eq_true rfl) ?_
        refine Rn.iload_n dX3_readUser_31 rfl rfl ?_
        refine Rn.bipush dX3_readUser_32 rfl bp_m9 ?_
        refine Rn.icmp_ne (tgt := 42) dX3_readUser_34 rfl (by decide) (fun c34 => ?_) (fun c34 => ?_)
        · exact absurd rfl c34
        · refine Rn.bipush dX3_readUser_37 rfl bp_m9 ?_
          refine Rn.goto (tgt := 46) dX3_readUser_39 (by decide) ?_
          refine Rn.istore dX3_readUser_46 rfl (Nat.le_of_ble_eq_true rfl) ?_
          refine Rn.iload dX3_readUser_48 rfl rfl ?_
          refine Rn.bipush dX3_readUser_50 rfl bp_m9 ?_
          refine Rn.icmp_ne (tgt := 57) dX3_readUser_52 rfl (by decide) (fun c52 => ?_) (fun c52 => ?_)
          · exact absurd rfl c52
          · refine Rn.iconst dX3_readUser_55 rfl ic_0 ?_
            refine Rn.zret dX3_readUser_56 rfl (by decide) rfl rfl ?_
            first | exact k0 _ (ruN_0 ea) (by omega) | exact k0 _ (ruN_1 ea eb) (by omega) | exact k0 _ (ruN_2 ea eb ec) (by omega)
      · refine Rn.heap (ht_tp h hq _ _ _ _ _) ?_
        refine Rn.istore_n dX3_readUser_30 rfl (Nat.le_of_ble_eq_true rfl) ?_
        refine Rn.iload_n dX3_readUser_31 rfl rfl ?_
        refine Rn.bipush dX3_readUser_32 rfl bp_m9 ?_
        refine Rn.icmp_ne (tgt := 42) dX3_readUser_34 rfl (by decide) (fun c34 => ?_) (fun c34 => ?_)
        · refine Rn.aload_n dX3_readUser_42 rfl rfl ?_
          refine Rn.callV (as := []) v_X3_readRowLength l_X3_56 ⟨Nat.le_of_ble_eq_true rfl, Nat.le_of_ble_eq_true rfl⟩ dX3_readUser_43 rfl rfl (Nat.le_of_ble_eq_true rfl) (ht_T hq T _ _ _).1 (ht_T hq T _ _ _).2.2.1 rfl (Nat.le_refl _) (Nat.le_refl _) (t_X3_readRowLength (ht_T hq T _ _ _) hln htl (by omega) (fun lc ec gc => ?_) (fun c gc hc ec qc => ?_)) 
          · refine Rn.heap (ht_tp h hq _ _ _ _ _) ?_
            refine Rn.istore dX3_readUser_46 rfl (Nat.le_of_ble_eq_true rfl) ?_
            refine Rn.iload dX3_readUser_48 rfl rfl ?_
            refine Rn.bipush dX3_readUser_50 rfl bp_m9 ?_
            refine Rn.icmp_ne (tgt := 57) dX3_readUser_52 rfl (by decide) (fun c52 => ?_) (fun c52 => ?_)
            · exact absurd rfl c52
            · refine Rn.iconst dX3_readUser_55 rfl ic_0 ?_
              refine Rn.zret dX3_readUser_56 rfl (by decide) rfl rfl ?_
              first | exact k0 _ (ruN_0 ea) (by omega) | exact k0 _ (ruN_1 ea eb) (by omega) | exact k0 _ (ruN_2 ea eb ec) (by omega)
          · refine Rn.heap (ht_tp h hq _ _ _ _ _) ?_
            refine Rn.istore dX3_readUser_46 rfl (Nat.le_of_ble_eq_true rfl) ?_
            refine Rn.iload dX3_readUser_48 rfl rfl ?_
            refine Rn.bipush dX3_readUser_50 rfl bp_m9 ?_
            refine Rn.icmp_ne (tgt := 57) dX3_readUser_52 rfl (by decide) (fun c52 => ?_) (fun c52 => ?_)
            · refine Rn.aload_n dX3_readUser_57 rfl rfl ?_
              refine Rn.iload_n dX3_readUser_58 rfl rfl ?_
              refine Rn.iload_n dX3_readUser_59 rfl rfl ?_
              refine Rn.iload dX3_readUser_60 rfl rfl ?_
              refine Rn.callV (as := [_, _, _]) v_X0_addUser l_X3_59 ⟨Nat.le_of_ble_eq_true rfl, Nat.le_of_ble_eq_true rfl⟩ dX3_readUser_62 rfl rfl (Nat.le_of_ble_eq_true rfl) (ht_H hq H _ _ _).1 (ht_H hq H _ _ _).2.2.1 rfl (Nat.le_refl _) (Nat.le_refl _) (t_X0_addUser (ht_H hq H _ _ _) h24 ha hb (by omega) ?_) 
              refine Rn.heap (ht_hp _ _ _ _ _ _) ?_
              refine Rn.iconst dX3_readUser_65 rfl ic_1 ?_
              refine Rn.zret dX3_readUser_66 rfl (by decide) rfl rfl ?_
              exact k a b c ha hb gc hc (ruN_3 ea eb ec) (by omega)
            · exact absurd c52 (nI_m9 (by omega))
        · exact absurd c34 (nI_m9 (by omega))
    · exact absurd c18 (nI_m9 (by omega))
theorem t_X3_readDoing {h : rHp} {Q : Option Value → rHp → Prop} {q : Nat} (hq : 1 < q) {t : Nat → Nat} {ln l1 l2 pl : Nat} {pb p : Nat → Nat} (T : Tx h t l1 l2) (H : Hl h q pb) (hln : ln ≤ 80) (htl : ∀ i, t i < 256) (hpl : pl < 200) (O : OKp p) (k0 : ∀ pl', dgN t ln pl p = (0, pl', p) → pl' ≤ pl + 1 → Q (some (.int (bi false))) (ht h q ln pl' p)) (k : ∀ p', dgN t ln pl p = (1, pl + 2, p') → OKp p' → pl + 1 < ln → Q (some (.int (bi true))) (ht h q ln (pl + 2) p')) : Cl M_X3_readDoing h.1 h.2.1 [.ref 1, .ref q] (ht h q ln pl p) Q := by
  refine Cl.of pl_X3 (Nat.le_of_ble_eq_true rfl) (by first | exact Nat.le_refl _ | omega) (by first | exact Nat.le_refl _ | omega) ?_
  refine Rn.aload_n dX3_readDoing_0 rfl rfl ?_
  refine Rn.bipush dX3_readDoing_1 rfl bp_115 ?_
  refine Rn.callV (as := [_]) v_X3_isNext l_X3_27 ⟨Nat.le_of_ble_eq_true rfl, Nat.le_of_ble_eq_true rfl⟩ dX3_readDoing_3 rfl rfl (Nat.le_of_ble_eq_true rfl) (ht_T hq T _ _ _).1 (ht_T hq T _ _ _).2.2.1 rfl (Nat.le_refl _) (Nat.le_refl _) (t_X3_isNext (ht_T hq T _ _ _) hln htl (by omega) (by omega) ?_) 
  refine Rn.istore_n dX3_readDoing_6 rfl (Nat.le_of_ble_eq_true rfl) ?_
  refine Rn.iload_n dX3_readDoing_7 rfl rfl ?_
  refine Rn.if_neB (tgt := 20) dX3_readDoing_8 rfl (by decide) (fun c8 => ?_) (fun c8 => ?_)
  · refine Rn.aload_n dX3_readDoing_20 rfl rfl ?_
    refine Rn.callV (as := []) v_X0_anyHasOwn l_X3_63 ⟨Nat.le_of_ble_eq_true rfl, Nat.le_of_ble_eq_true rfl⟩ dX3_readDoing_21 rfl rfl (Nat.le_of_ble_eq_true rfl) (ht_H hq H _ _ _).1 (ht_H hq H _ _ _).2.2.1 rfl (Nat.le_refl _) (Nat.le_refl _) (t_X0_anyHasOwn (ht_H hq H _ _ _) O ?_) 
    refine Rn.if_neB (tgt := 29) dX3_readDoing_24 rfl (by decide) (fun c24 => ?_) (fun c24 => ?_)
    · refine Rn.aload_n dX3_readDoing_29 rfl rfl ?_
      refine Rn.dup dX3_readDoing_30 rfl rfl ?_
      refine Rn.getf f_X3_19 dX3_readDoing_31 rfl (ht_T hq T _ _ _).1 (ht_T hq T _ _ _).2.2.1 rfl ?_
      refine Rn.iconst dX3_readDoing_34 rfl ic_1 ?_
      refine Rn.iaddN dX3_readDoing_35 rfl ?_
      refine Rn.putf p_X3_19 (fun h => by cases h) dX3_readDoing_36 rfl (ht_T hq T _ _ _).1 (ht_T hq T _ _ _).2.2.1 (fun g => ⟨rfl, rfl⟩) (Nat.le_of_ble_eq_true rfl) ?_
      refine Rn.heap (ht_tp h hq _ _ _ _ _) ?_
      refine Rn.aload_n dX3_readDoing_39 rfl rfl ?_
      refine Rn.callV (as := []) v_X3_nextLetter l_X3_50 ⟨Nat.le_of_ble_eq_true rfl, Nat.le_of_ble_eq_true rfl⟩ dX3_readDoing_40 rfl rfl (Nat.le_of_ble_eq_true rfl) (ht_T hq T _ _ _).1 (ht_T hq T _ _ _).2.2.1 rfl (Nat.le_refl _) (Nat.le_refl _) (t_X3_nextLetter (ht_T hq T _ _ _) hln htl (by omega) ?_) 
      refine Rn.bipush dX3_readDoing_43 rfl bp_48 ?_
      refine Rn.isub dX3_readDoing_45 rfl ?_
      refine Rn.istore_n dX3_readDoing_46 rfl (Nat.le_of_ble_eq_true rfl) ?_
      refine Rn.aload_n dX3_readDoing_47 rfl rfl ?_
      refine Rn.iload_n dX3_readDoing_48 rfl rfl ?_
      refine Rn.callV (as := [_]) v_X0_hasOwn l_X3_67 ⟨Nat.le_of_ble_eq_true rfl, Nat.le_of_ble_eq_true rfl⟩ dX3_readDoing_49 rfl rfl (Nat.le_of_ble_eq_true rfl) (ht_H hq H _ _ _).1 (ht_H hq H _ _ _).2.2.1 rfl (Nat.le_refl _) (Nat.le_refl _) (t_X0_hasOwn (ht_H hq H _ _ _) O ?_) 
      refine Rn.top (congrArg bi (uNo_B O htl)) ?_
      refine Rn.if_neB (tgt := 57) dX3_readDoing_52 rfl (by decide) (fun c52 => ?_) (fun c52 => ?_)
      · obtain ⟨a, ea⟩ : ∃ a, uNo t ln (pl + 1) p = a + 1 := ⟨uNo t ln (pl + 1) p - 1, by have := of_decide_eq_true c52; omega⟩
        obtain ⟨va, vl, v4, vo⟩ := uNo_val O htl ea
        rw [va]
        refine Rn.aload_n dX3_readDoing_57 rfl rfl ?_
        refine Rn.dup dX3_readDoing_58 rfl rfl ?_
        refine Rn.getf f_X3_19 dX3_readDoing_59 rfl (ht_T hq T _ _ _).1 (ht_T hq T _ _ _).2.2.1 rfl ?_
        refine Rn.iconst dX3_readDoing_62 rfl ic_1 ?_
        refine Rn.iaddN dX3_readDoing_63 rfl ?_
        refine Rn.putf p_X3_19 (fun h => by cases h) dX3_readDoing_64 rfl (ht_T hq T _ _ _).1 (ht_T hq T _ _ _).2.2.1 (fun g => ⟨rfl, rfl⟩) (Nat.le_of_ble_eq_true rfl) ?_
        refine Rn.heap (ht_tp h hq _ _ _ _ _) ?_
        refine Rn.iload_n dX3_readDoing_67 rfl rfl ?_
        refine Rn.if_eqB (tgt := 80) dX3_readDoing_68 rfl (by decide) (fun c68 => ?_) (fun c68 => ?_)
        · refine Rn.aload_n dX3_readDoing_80 rfl rfl ?_
          refine Rn.iload_n dX3_readDoing_81 rfl rfl ?_
          refine Rn.callV (as := [_]) v_X0_spendPass l_X3_74 ⟨Nat.le_of_ble_eq_true rfl, Nat.le_of_ble_eq_true rfl⟩ dX3_readDoing_82 rfl rfl (Nat.le_of_ble_eq_true rfl) (ht_H hq H _ _ _).1 (ht_H hq H _ _ _).2.2.1 rfl (Nat.le_refl _) (Nat.le_refl _) (t_X0_spendPass (ht_H hq H _ _ _) O (by omega) ?_) 
          refine Rn.heap (ht_hp _ _ _ _ _ _) ?_
          refine Rn.pop dX3_readDoing_85 rfl rfl ?_
          refine Rn.iconst dX3_readDoing_86 rfl ic_1 ?_
          refine Rn.zret dX3_readDoing_87 rfl (by decide) rfl rfl ?_
          first | exact k _ (dgN_2 (of_decide_eq_true c8) c24 ea) (OK_se O v4) (by omega) | exact k _ (dgN_3 (of_decide_eq_true c17) c24 ea) (OK_sp O v4) (by omega) | exact absurd (c8.symm.trans c68) (by decide)
        · refine Rn.aload_n dX3_readDoing_71 rfl rfl ?_
          refine Rn.iload_n dX3_readDoing_72 rfl rfl ?_
          refine Rn.callV (as := [_]) v_X0_sendPass l_X3_70 ⟨Nat.le_of_ble_eq_true rfl, Nat.le_of_ble_eq_true rfl⟩ dX3_readDoing_73 rfl rfl (Nat.le_of_ble_eq_true rfl) (ht_H hq H _ _ _).1 (ht_H hq H _ _ _).2.2.1 rfl (Nat.le_refl _) (Nat.le_refl _) (t_X0_sendPass (ht_H hq H _ _ _) O (by omega) ?_) 
          refine Rn.heap (ht_hp _ _ _ _ _ _) ?_
          refine Rn.pop dX3_readDoing_76 rfl rfl ?_
          refine Rn.goto (tgt := 86) dX3_readDoing_77 (by decide) ?_
          refine Rn.iconst dX3_readDoing_86 rfl ic_1 ?_
          refine Rn.zret dX3_readDoing_87 rfl (by decide) rfl rfl ?_
          first | exact k _ (dgN_2 (of_decide_eq_true c8) c24 ea) (OK_se O v4) (by omega) | exact k _ (dgN_3 (of_decide_eq_true c17) c24 ea) (OK_sp O v4) (by omega) | exact absurd (c8.symm.trans c68) (by decide)
      · refine Rn.iconst dX3_readDoing_55 rfl ic_0 ?_
        refine Rn.zret dX3_readDoing_56 rfl (by decide) rfl rfl ?_
        first | exact k0 _ (dgN_0 (fun z => by have z1 := z.2; rw [c24] at z1; cases z1)) (by omega) | exact k0 _ (dgN_0 (fun z => z.1.elim (of_decide_eq_false c8) (of_decide_eq_false c17))) (by omega) | exact k0 _ (dgN_1 ⟨Or.inl (of_decide_eq_true c8), c24⟩ (Classical.byContradiction fun z => absurd (decide_eq_true z) (by rw [c52]; decide))) (by omega) | exact k0 _ (dgN_1 ⟨Or.inr (of_decide_eq_true c17), c24⟩ (Classical.byContradiction fun z => absurd (decide_eq_true z) (by rw [c52]; decide))) (by omega)
    · refine Rn.iconst dX3_readDoing_27 rfl ic_0 ?_
      refine Rn.zret dX3_readDoing_28 rfl (by decide) rfl rfl ?_
      first | exact k0 _ (dgN_0 (fun z => by have z1 := z.2; rw [c24] at z1; cases z1)) (by omega) | exact k0 _ (dgN_0 (fun z => z.1.elim (of_decide_eq_false c8) (of_decide_eq_false c17))) (by omega) | exact k0 _ (dgN_1 ⟨Or.inl (of_decide_eq_true c8), c24⟩ (Classical.byContradiction fun z => absurd (decide_eq_true z) (by rw [c52]; decide))) (by omega) | exact k0 _ (dgN_1 ⟨Or.inr (of_decide_eq_true c17), c24⟩ (Classical.byContradiction fun z => absurd (decide_eq_true z) (by rw [c52]; decide))) (by omega)
  · refine Rn.aload_n dX3_readDoing_11 rfl rfl ?_
    refine Rn.bipush dX3_readDoing_12 rfl bp_109 ?_
    refine Rn.callV (as := [_]) v_X3_isNext l_X3_27 ⟨Nat.le_of_ble_eq_true rfl, Nat.le_of_ble_eq_true rfl⟩ dX3_readDoing_14 rfl rfl (Nat.le_of_ble_eq_true rfl) (ht_T hq T _ _ _).1 (ht_T hq T _ _ _).2.2.1 rfl (Nat.le_refl _) (Nat.le_refl _) (t_X3_isNext (ht_T hq T _ _ _) hln htl (by omega) (by omega) ?_) 
    refine Rn.if_eqB (tgt := 27) dX3_readDoing_17 rfl (by decide) (fun c17 => ?_) (fun c17 => ?_)
    · refine Rn.iconst dX3_readDoing_27 rfl ic_0 ?_
      refine Rn.zret dX3_readDoing_28 rfl (by decide) rfl rfl ?_
      first | exact k0 _ (dgN_0 (fun z => by have z1 := z.2; rw [c24] at z1; cases z1)) (by omega) | exact k0 _ (dgN_0 (fun z => z.1.elim (of_decide_eq_false c8) (of_decide_eq_false c17))) (by omega) | exact k0 _ (dgN_1 ⟨Or.inl (of_decide_eq_true c8), c24⟩ (Classical.byContradiction fun z => absurd (decide_eq_true z) (by rw [c52]; decide))) (by omega) | exact k0 _ (dgN_1 ⟨Or.inr (of_decide_eq_true c17), c24⟩ (Classical.byContradiction fun z => absurd (decide_eq_true z) (by rw [c52]; decide))) (by omega)
    · refine Rn.aload_n dX3_readDoing_20 rfl rfl ?_
      refine Rn.callV (as := []) v_X0_anyHasOwn l_X3_63 ⟨Nat.le_of_ble_eq_true rfl, Nat.le_of_ble_eq_true rfl⟩ dX3_readDoing_21 rfl rfl (Nat.le_of_ble_eq_true rfl) (ht_H hq H _ _ _).1 (ht_H hq H _ _ _).2.2.1 rfl (Nat.le_refl _) (Nat.le_refl _) (t_X0_anyHasOwn (ht_H hq H _ _ _) O ?_) 
      refine Rn.if_neB (tgt := 29) dX3_readDoing_24 rfl (by decide) (fun c24 => ?_) (fun c24 => ?_)
      · refine Rn.aload_n dX3_readDoing_29 rfl rfl ?_
        refine Rn.dup dX3_readDoing_30 rfl rfl ?_
        refine Rn.getf f_X3_19 dX3_readDoing_31 rfl (ht_T hq T _ _ _).1 (ht_T hq T _ _ _).2.2.1 rfl ?_
        refine Rn.iconst dX3_readDoing_34 rfl ic_1 ?_
        refine Rn.iaddN dX3_readDoing_35 rfl ?_
        refine Rn.putf p_X3_19 (fun h => by cases h) dX3_readDoing_36 rfl (ht_T hq T _ _ _).1 (ht_T hq T _ _ _).2.2.1 (fun g => ⟨rfl, rfl⟩) (Nat.le_of_ble_eq_true rfl) ?_
        refine Rn.heap (ht_tp h hq _ _ _ _ _) ?_
        refine Rn.aload_n dX3_readDoing_39 rfl rfl ?_
        refine Rn.callV (as := []) v_X3_nextLetter l_X3_50 ⟨Nat.le_of_ble_eq_true rfl, Nat.le_of_ble_eq_true rfl⟩ dX3_readDoing_40 rfl rfl (Nat.le_of_ble_eq_true rfl) (ht_T hq T _ _ _).1 (ht_T hq T _ _ _).2.2.1 rfl (Nat.le_refl _) (Nat.le_refl _) (t_X3_nextLetter (ht_T hq T _ _ _) hln htl (by omega) ?_) 
        refine Rn.bipush dX3_readDoing_43 rfl bp_48 ?_
        refine Rn.isub dX3_readDoing_45 rfl ?_
        refine Rn.istore_n dX3_readDoing_46 rfl (Nat.le_of_ble_eq_true rfl) ?_
        refine Rn.aload_n dX3_readDoing_47 rfl rfl ?_
        refine Rn.iload_n dX3_readDoing_48 rfl rfl ?_
        refine Rn.callV (as := [_]) v_X0_hasOwn l_X3_67 ⟨Nat.le_of_ble_eq_true rfl, Nat.le_of_ble_eq_true rfl⟩ dX3_readDoing_49 rfl rfl (Nat.le_of_ble_eq_true rfl) (ht_H hq H _ _ _).1 (ht_H hq H _ _ _).2.2.1 rfl (Nat.le_refl _) (Nat.le_refl _) (t_X0_hasOwn (ht_H hq H _ _ _) O ?_) 
        refine Rn.top (congrArg bi (uNo_B O htl)) ?_
        refine Rn.if_neB (tgt := 57) dX3_readDoing_52 rfl (by decide) (fun c52 => ?_) (fun c52 => ?_)
        · obtain ⟨a, ea⟩ : ∃ a, uNo t ln (pl + 1) p = a + 1 := ⟨uNo t ln (pl + 1) p - 1, by have := of_decide_eq_true c52; omega⟩
          obtain ⟨va, vl, v4, vo⟩ := uNo_val O htl ea
          rw [va]
          refine Rn.aload_n dX3_readDoing_57 rfl rfl ?_
          refine Rn.dup dX3_readDoing_58 rfl rfl ?_
          refine Rn.getf f_X3_19 dX3_readDoing_59 rfl (ht_T hq T _ _ _).1 (ht_T hq T _ _ _).2.2.1 rfl ?_
          refine Rn.iconst dX3_readDoing_62 rfl ic_1 ?_
          refine Rn.iaddN dX3_readDoing_63 rfl ?_
          refine Rn.putf p_X3_19 (fun h => by cases h) dX3_readDoing_64 rfl (ht_T hq T _ _ _).1 (ht_T hq T _ _ _).2.2.1 (fun g => ⟨rfl, rfl⟩) (Nat.le_of_ble_eq_true rfl) ?_
          refine Rn.heap (ht_tp h hq _ _ _ _ _) ?_
          refine Rn.iload_n dX3_readDoing_67 rfl rfl ?_
          refine Rn.if_eqB (tgt := 80) dX3_readDoing_68 rfl (by decide) (fun c68 => ?_) (fun c68 => ?_)
          · refine Rn.aload_n dX3_readDoing_80 rfl rfl ?_
            refine Rn.iload_n dX3_readDoing_81 rfl rfl ?_
            refine Rn.callV (as := [_]) v_X0_spendPass l_X3_74 ⟨Nat.le_of_ble_eq_true rfl, Nat.le_of_ble_eq_true rfl⟩ dX3_readDoing_82 rfl rfl (Nat.le_of_ble_eq_true rfl) (ht_H hq H _ _ _).1 (ht_H hq H _ _ _).2.2.1 rfl (Nat.le_refl _) (Nat.le_refl _) (t_X0_spendPass (ht_H hq H _ _ _) O (by omega) ?_) 
            refine Rn.heap (ht_hp _ _ _ _ _ _) ?_
            refine Rn.pop dX3_readDoing_85 rfl rfl ?_
            refine Rn.iconst dX3_readDoing_86 rfl ic_1 ?_
            refine Rn.zret dX3_readDoing_87 rfl (by decide) rfl rfl ?_
            first | exact k _ (dgN_2 (of_decide_eq_true c8) c24 ea) (OK_se O v4) (by omega) | exact k _ (dgN_3 (of_decide_eq_true c17) c24 ea) (OK_sp O v4) (by omega) | exact absurd (c8.symm.trans c68) (by decide)
          · refine Rn.aload_n dX3_readDoing_71 rfl rfl ?_
            refine Rn.iload_n dX3_readDoing_72 rfl rfl ?_
            refine Rn.callV (as := [_]) v_X0_sendPass l_X3_70 ⟨Nat.le_of_ble_eq_true rfl, Nat.le_of_ble_eq_true rfl⟩ dX3_readDoing_73 rfl rfl (Nat.le_of_ble_eq_true rfl) (ht_H hq H _ _ _).1 (ht_H hq H _ _ _).2.2.1 rfl (Nat.le_refl _) (Nat.le_refl _) (t_X0_sendPass (ht_H hq H _ _ _) O (by omega) ?_) 
            refine Rn.heap (ht_hp _ _ _ _ _ _) ?_
            refine Rn.pop dX3_readDoing_76 rfl rfl ?_
            refine Rn.goto (tgt := 86) dX3_readDoing_77 (by decide) ?_
            refine Rn.iconst dX3_readDoing_86 rfl ic_1 ?_
            refine Rn.zret dX3_readDoing_87 rfl (by decide) rfl rfl ?_
            first | exact k _ (dgN_2 (of_decide_eq_true c8) c24 ea) (OK_se O v4) (by omega) | exact k _ (dgN_3 (of_decide_eq_true c17) c24 ea) (OK_sp O v4) (by omega) | exact absurd (c8.symm.trans c68) (by decide)
        · refine Rn.iconst dX3_readDoing_55 rfl ic_0 ?_
          refine Rn.zret dX3_readDoing_56 rfl (by decide) rfl rfl ?_
          first | exact k0 _ (dgN_0 (fun z => by have z1 := z.2; rw [c24] at z1; cases z1)) (by omega) | exact k0 _ (dgN_0 (fun z => z.1.elim (of_decide_eq_false c8) (of_decide_eq_false c17))) (by omega) | exact k0 _ (dgN_1 ⟨Or.inl (of_decide_eq_true c8), c24⟩ (Classical.byContradiction fun z => absurd (decide_eq_true z) (by rw [c52]; decide))) (by omega) | exact k0 _ (dgN_1 ⟨Or.inr (of_decide_eq_true c17), c24⟩ (Classical.byContradiction fun z => absurd (decide_eq_true z) (by rw [c52]; decide))) (by omega)
      · refine Rn.iconst dX3_readDoing_27 rfl ic_0 ?_
        refine Rn.zret dX3_readDoing_28 rfl (by decide) rfl rfl ?_
        first | exact k0 _ (dgN_0 (fun z => by have z1 := z.2; rw [c24] at z1; cases z1)) (by omega) | exact k0 _ (dgN_0 (fun z => z.1.elim (of_decide_eq_false c8) (of_decide_eq_false c17))) (by omega) | exact k0 _ (dgN_1 ⟨Or.inl (of_decide_eq_true c8), c24⟩ (Classical.byContradiction fun z => absurd (decide_eq_true z) (by rw [c52]; decide))) (by omega) | exact k0 _ (dgN_1 ⟨Or.inr (of_decide_eq_true c17), c24⟩ (Classical.byContradiction fun z => absurd (decide_eq_true z) (by rw [c52]; decide))) (by omega)
theorem t_X3_readInto {h : rHp} {Q : Option Value → rHp → Prop} {q : Nat} (hq : 1 < q) {t : Nat → Nat} {ln l1 l2 pl0 : Nat} {pb pp : Nat → Nat} (T : Tx h t l1 l2) (H : Hl h q pb) (hln : ln ≤ 80) (htl : ∀ i, t i < 256) (k : Q (some (.int (wi (rIn t ln).1))) (ht h q ln (rIn t ln).2.1 (rIn t ln).2.2)) : Cl M_X3_readInto h.1 h.2.1 [.ref 1, .ref q] (ht h q ln pl0 pp) Q := by
  refine Cl.of pl_X3 (Nat.le_of_ble_eq_true rfl) (by first | exact Nat.le_refl _ | omega) (by first | exact Nat.le_refl _ | omega) ?_
  refine Rn.aload_n dX3_readInto_0 rfl rfl ?_
  refine Rn.callV (as := []) v_X0_clear l_X3_22 ⟨Nat.le_of_ble_eq_true rfl, Nat.le_of_ble_eq_true rfl⟩ dX3_readInto_1 rfl rfl (Nat.le_of_ble_eq_true rfl) (ht_H hq H _ _ _).1 (ht_H hq H _ _ _).2.2.1 rfl (Nat.le_refl _) (Nat.le_refl _) (t_X0_clear (ht_H hq H _ _ _) ?_) 
  refine Rn.heap (ht_hp _ _ _ _ _ _) ?_
  refine Rn.aload_n dX3_readInto_4 rfl rfl ?_
  refine Rn.iconst dX3_readInto_5 rfl ic_0 ?_
  refine Rn.putf p_X3_19 (fun h => by cases h) dX3_readInto_6 rfl (ht_T hq T _ _ _).1 (ht_T hq T _ _ _).2.2.1 (fun g => ⟨rfl, rfl⟩) (Nat.le_of_ble_eq_true rfl) ?_
  refine Rn.heap (ht_tp h hq _ _ _ _ _) ?_
  refine Rn.aload_n dX3_readInto_9 rfl rfl ?_
  refine Rn.bipush dX3_readInto_10 rfl bp_83 ?_
  refine Rn.callV (as := [_]) v_X3_isNext l_X3_27 ⟨Nat.le_of_ble_eq_true rfl, Nat.le_of_ble_eq_true rfl⟩ dX3_readInto_12 rfl rfl (Nat.le_of_ble_eq_true rfl) (ht_T hq T _ _ _).1 (ht_T hq T _ _ _).2.2.1 rfl (Nat.le_refl _) (Nat.le_refl _) (t_X3_isNext (ht_T hq T _ _ _) hln htl (by omega) (by omega) ?_) 
  refine Rn.if_neB (tgt := 23) dX3_readInto_15 rfl (by decide) (fun c15 => ?_) (fun c15 => ?_)
  · refine Rn.aload_n dX3_readInto_23 rfl rfl ?_
    refine Rn.dup dX3_readInto_24 rfl rfl ?_
    refine Rn.getf f_X3_19 dX3_readInto_25 rfl (ht_T hq T _ _ _).1 (ht_T hq T _ _ _).2.2.1 rfl ?_
    refine Rn.iconst dX3_readInto_28 rfl ic_1 ?_
    refine Rn.iaddN dX3_readInto_29 rfl ?_
    refine Rn.putf p_X3_19 (fun h => by cases h) dX3_readInto_30 rfl (ht_T hq T _ _ _).1 (ht_T hq T _ _ _).2.2.1 (fun g => ⟨rfl, rfl⟩) (Nat.le_of_ble_eq_true rfl) ?_
    refine Rn.heap (ht_tp h hq _ _ _ _ _) ?_
    refine Rn.aload_n dX3_readInto_33 rfl rfl ?_
    refine Rn.iconst dX3_readInto_34 rfl ic_1 ?_
    refine Rn.bipush dX3_readInto_35 rfl bp_6 ?_
    refine Rn.callV (as := [_, _]) v_X3_readFigure l_X3_31 ⟨Nat.le_of_ble_eq_true rfl, Nat.le_of_ble_eq_true rfl⟩ dX3_readInto_37 rfl rfl (Nat.le_of_ble_eq_true rfl) (ht_T hq T _ _ _).1 (ht_T hq T _ _ _).2.2.1 rfl (Nat.le_refl _) (Nat.le_refl _) (t_X3_readFigure (ht_T hq T _ _ _) hln htl (by omega) (by omega) (by omega) (fun e1 => ?_) (fun a ha ga qa e1 => ?_)) 
    · refine Rn.istore_n dX3_readInto_40 rfl (Nat.le_of_ble_eq_true rfl) ?_
      refine Rn.iload_n dX3_readInto_41 rfl rfl ?_
      refine Rn.bipush dX3_readInto_42 rfl bp_m9 ?_
      refine Rn.icmp_ne (tgt := 52) dX3_readInto_44 rfl (by decide) (fun c44 => ?_) (fun c44 => ?_)
      · exact absurd rfl c44
      · refine Rn.aload_n dX3_readInto_47 rfl rfl ?_
        refine Rn.getf f_X3_19 dX3_readInto_48 rfl (ht_T hq T _ _ _).1 (ht_T hq T _ _ _).2.2.1 rfl ?_
        refine Rn.iret dX3_readInto_51 rfl rfl rfl ?_
        have e9 : rIn t ln = (2, 1, p0) := by unfold rIn; rw [if_pos (of_decide_eq_true c15), if_pos e1]
        rw [e9] at k
        exact k
    · refine Rn.heap (ht_tp h hq _ _ _ _ _) ?_
      refine Rn.istore_n dX3_readInto_40 rfl (Nat.le_of_ble_eq_true rfl) ?_
      refine Rn.iload_n dX3_readInto_41 rfl rfl ?_
      refine Rn.bipush dX3_readInto_42 rfl bp_m9 ?_
      refine Rn.icmp_ne (tgt := 52) dX3_readInto_44 rfl (by decide) (fun c44 => ?_) (fun c44 => ?_)
      · refine Rn.aload_n dX3_readInto_52 rfl rfl ?_
        refine Rn.iload_n dX3_readInto_53 rfl rfl ?_
        refine Rn.callV (as := [_]) v_X0_setWindow l_X3_35 ⟨Nat.le_of_ble_eq_true rfl, Nat.le_of_ble_eq_true rfl⟩ dX3_readInto_54 rfl rfl (Nat.le_of_ble_eq_true rfl) (ht_H hq H _ _ _).1 (ht_H hq H _ _ _).2.2.1 rfl (Nat.le_refl _) (Nat.le_refl _) (t_X0_setWindow (ht_H hq H _ _ _) ?_) 
        refine Rn.heap (ht_hp _ _ _ _ _ _) ?_
        refine Rn.iconst dX3_readInto_57 rfl ic_1 ?_
        refine Rn.istore_n dX3_readInto_58 rfl (Nat.le_of_ble_eq_true rfl) ?_
        refine Rn.iconst dX3_readInto_59 rfl ic_0 ?_
        refine Rn.istore dX3_readInto_60 rfl (Nat.le_of_ble_eq_true rfl) ?_
        have hloop : ∀ (m : Nat) (n kk pl : Nat) (p : Nat → Nat) (ou : Bool), n < m → kk + n = 80 → pl ≤ ln → OKp p → lpR t ln n pl p ou = rIn t ln → Rn (M_X3_readInto, none, h.1, h.2.1) Q 62 [(0, .ref 1), (1, .ref q), (3, .int (bi ou)), (4, .int (nI kk))] [] (ht h q ln pl p) := by
          intro m
          induction m with
          | zero => intro n kk pl p ou h0 h1 h2 h3 h4; exact absurd h0 (Nat.not_lt_zero _)
          | succ m ih =>
            intro n kk pl p ou h0 h1 h2 h3 h4
            refine Rn.iload dX3_readInto_62 rfl rfl ?_
            refine Rn.bipush dX3_readInto_64 rfl bp_80 ?_
            refine Rn.icmp_geN (tgt := 141) dX3_readInto_66 rfl (by decide) (by omega) (by omega) (fun c66 => ?_) (fun c66 => ?_)
            · obtain rfl : n = 0 := by omega
              refine Rn.bipush dX3_readInto_141 rfl bp_m9 ?_
              refine Rn.iret dX3_readInto_143 rfl rfl rfl ?_
              have e9 : rIn t ln = (0, pl, p) := by rw [← h4]; first | rfl | exact lpR_e c77
              rw [e9] at k
              exact k
            · obtain ⟨n, rfl⟩ : ∃ n', n = n' + 1 := ⟨n - 1, by omega⟩
              refine Rn.aload_n dX3_readInto_69 rfl rfl ?_
              refine Rn.getf f_X3_19 dX3_readInto_70 rfl (ht_T hq T _ _ _).1 (ht_T hq T _ _ _).2.2.1 rfl ?_
              refine Rn.aload_n dX3_readInto_73 rfl rfl ?_
              refine Rn.getf f_X3_15 dX3_readInto_74 rfl (ht_T hq T _ _ _).1 (ht_T hq T _ _ _).2.2.1 rfl ?_
              refine Rn.icmp_geN (tgt := 141) dX3_readInto_77 rfl (by decide) (by omega) (by omega) (fun c77 => ?_) (fun c77 => ?_)
              · refine Rn.bipush dX3_readInto_141 rfl bp_m9 ?_
                refine Rn.iret dX3_readInto_143 rfl rfl rfl ?_
                have e9 : rIn t ln = (0, pl, p) := by rw [← h4]; first | rfl | exact lpR_e c77
                rw [e9] at k
                exact k
              · refine Rn.iload_n dX3_readInto_80 rfl rfl ?_
                refine Rn.if_eqB (tgt := 105) dX3_readInto_81 rfl (by decide) (fun c81 => ?_) (fun c81 => ?_)
                · refine Rn.iconst dX3_readInto_105 rfl ic_0 ?_
                  have OP := h3
                  refine Rn.istore_n dX3_readInto_106 rfl (Nat.le_of_ble_eq_true rfl) ?_
                  refine Rn.iload_n dX3_readInto_107 rfl rfl ?_
                  refine Rn.if_eqN (tgt := 122) dX3_readInto_108 rfl (by decide) (by omega) (fun c108 => ?_) (fun c108 => ?_)
                  · refine Rn.aload_n dX3_readInto_122 rfl rfl ?_
                    refine Rn.aload_n dX3_readInto_123 rfl rfl ?_
                    refine Rn.callV (as := [_]) v_X3_readDoing l_X3_47 ⟨Nat.le_of_ble_eq_true rfl, Nat.le_of_ble_eq_true rfl⟩ dX3_readInto_124 rfl rfl (Nat.le_of_ble_eq_true rfl) (ht_T hq T _ _ _).1 (ht_T hq T _ _ _).2.2.1 rfl (Nat.le_refl _) (Nat.le_refl _) (t_X3_readDoing hq T H hln htl (by omega) OP (fun le ee ge => ?_) (fun p' ee OP' qe => ?_)) 
                    · refine Rn.if_neB (tgt := 135) dX3_readInto_127 rfl (by decide) (fun c127 => ?_) (fun c127 => ?_)
                      · exact absurd c127 (by decide)
                      · refine Rn.aload_n dX3_readInto_130 rfl rfl ?_
                        refine Rn.getf f_X3_19 dX3_readInto_131 rfl (ht_T hq T _ _ _).1 (ht_T hq T _ _ _).2.2.1 rfl ?_
                        refine Rn.iret dX3_readInto_134 rfl rfl rfl ?_
                        have e9 : rIn t ln = (le + 1, le, p) := by rw [← h4]; exact lpR_d0 c77 (fun z => by first | omega | exact absurd z.1 (by rw [c81]; decide) | exact absurd z.2.2 (of_decide_eq_false c98)) ee
                        rw [e9] at k
                        exact k
                    · refine Rn.if_neB (tgt := 135) dX3_readInto_127 rfl (by decide) (fun c127 => ?_) (fun c127 => ?_)
                      · refine Rn.iincN dX3_readInto_135 rfl rfl (Nat.le_of_ble_eq_true rfl) ?_
                        refine Rn.goto (tgt := 62) dX3_readInto_138 (by decide) ?_
                        exact Rn.pick [2, 3, 1, 0] rfl (ih n (kk + 1) _ _ false (by omega) (by omega) (by omega) OP' (by rw [← h4]; exact (lpR_d1 c77 (fun z => by first | omega | exact absurd z.1 (by rw [c81]; decide) | exact absurd z.2.2 (of_decide_eq_false c98)) ee).symm))
                      · exact absurd c127 (by decide)
                  · first | omega | exact False.elim c108
                · have h24 := h3.1
                  refine Rn.aload_n dX3_readInto_84 rfl rfl ?_
                  refine Rn.callV (as := []) v_X0_users l_X3_39 ⟨Nat.le_of_ble_eq_true rfl, Nat.le_of_ble_eq_true rfl⟩ dX3_readInto_85 rfl rfl (Nat.le_of_ble_eq_true rfl) (ht_H hq H _ _ _).1 (ht_H hq H _ _ _).2.2.1 rfl (Nat.le_refl _) (Nat.le_refl _) (t_X0_users (ht_H hq H _ _ _) ?_) 
                  refine Rn.iconst dX3_readInto_88 rfl ic_4 ?_
                  refine Rn.icmp_geN (tgt := 105) dX3_readInto_89 rfl (by decide) (by omega) (by omega) (fun c89 => ?_) (fun c89 => ?_)
                  · refine Rn.iconst dX3_readInto_105 rfl ic_0 ?_
                    have OP := h3
                    refine Rn.istore_n dX3_readInto_106 rfl (Nat.le_of_ble_eq_true rfl) ?_
                    refine Rn.iload_n dX3_readInto_107 rfl rfl ?_
                    refine Rn.if_eqN (tgt := 122) dX3_readInto_108 rfl (by decide) (by omega) (fun c108 => ?_) (fun c108 => ?_)
                    · refine Rn.aload_n dX3_readInto_122 rfl rfl ?_
                      refine Rn.aload_n dX3_readInto_123 rfl rfl ?_
                      refine Rn.callV (as := [_]) v_X3_readDoing l_X3_47 ⟨Nat.le_of_ble_eq_true rfl, Nat.le_of_ble_eq_true rfl⟩ dX3_readInto_124 rfl rfl (Nat.le_of_ble_eq_true rfl) (ht_T hq T _ _ _).1 (ht_T hq T _ _ _).2.2.1 rfl (Nat.le_refl _) (Nat.le_refl _) (t_X3_readDoing hq T H hln htl (by omega) OP (fun le ee ge => ?_) (fun p' ee OP' qe => ?_)) 
                      · refine Rn.if_neB (tgt := 135) dX3_readInto_127 rfl (by decide) (fun c127 => ?_) (fun c127 => ?_)
                        · exact absurd c127 (by decide)
                        · refine Rn.aload_n dX3_readInto_130 rfl rfl ?_
                          refine Rn.getf f_X3_19 dX3_readInto_131 rfl (ht_T hq T _ _ _).1 (ht_T hq T _ _ _).2.2.1 rfl ?_
                          refine Rn.iret dX3_readInto_134 rfl rfl rfl ?_
                          have e9 : rIn t ln = (le + 1, le, p) := by rw [← h4]; exact lpR_d0 c77 (fun z => by first | omega | exact absurd z.1 (by rw [c81]; decide) | exact absurd z.2.2 (of_decide_eq_false c98)) ee
                          rw [e9] at k
                          exact k
                      · refine Rn.if_neB (tgt := 135) dX3_readInto_127 rfl (by decide) (fun c127 => ?_) (fun c127 => ?_)
                        · refine Rn.iincN dX3_readInto_135 rfl rfl (Nat.le_of_ble_eq_true rfl) ?_
                          refine Rn.goto (tgt := 62) dX3_readInto_138 (by decide) ?_
                          exact Rn.pick [2, 3, 1, 0] rfl (ih n (kk + 1) _ _ false (by omega) (by omega) (by omega) OP' (by rw [← h4]; exact (lpR_d1 c77 (fun z => by first | omega | exact absurd z.1 (by rw [c81]; decide) | exact absurd z.2.2 (of_decide_eq_false c98)) ee).symm))
                        · exact absurd c127 (by decide)
                    · first | omega | exact False.elim c108
                  · have c89' : p 24 < 4 := by omega
                    refine Rn.aload_n dX3_readInto_92 rfl rfl ?_
                    refine Rn.bipush dX3_readInto_93 rfl bp_117 ?_
                    refine Rn.callV (as := [_]) v_X3_isNext l_X3_27 ⟨Nat.le_of_ble_eq_true rfl, Nat.le_of_ble_eq_true rfl⟩ dX3_readInto_95 rfl rfl (Nat.le_of_ble_eq_true rfl) (ht_T hq T _ _ _).1 (ht_T hq T _ _ _).2.2.1 rfl (Nat.le_refl _) (Nat.le_refl _) (t_X3_isNext (ht_T hq T _ _ _) hln htl (by omega) (by omega) ?_) 
                    refine Rn.if_eqB (tgt := 105) dX3_readInto_98 rfl (by decide) (fun c98 => ?_) (fun c98 => ?_)
                    · refine Rn.iconst dX3_readInto_105 rfl ic_0 ?_
                      have OP := h3
                      refine Rn.istore_n dX3_readInto_106 rfl (Nat.le_of_ble_eq_true rfl) ?_
                      refine Rn.iload_n dX3_readInto_107 rfl rfl ?_
                      refine Rn.if_eqN (tgt := 122) dX3_readInto_108 rfl (by decide) (by omega) (fun c108 => ?_) (fun c108 => ?_)
                      · refine Rn.aload_n dX3_readInto_122 rfl rfl ?_
                        refine Rn.aload_n dX3_readInto_123 rfl rfl ?_
                        refine Rn.callV (as := [_]) v_X3_readDoing l_X3_47 ⟨Nat.le_of_ble_eq_true rfl, Nat.le_of_ble_eq_true rfl⟩ dX3_readInto_124 rfl rfl (Nat.le_of_ble_eq_true rfl) (ht_T hq T _ _ _).1 (ht_T hq T _ _ _).2.2.1 rfl (Nat.le_refl _) (Nat.le_refl _) (t_X3_readDoing hq T H hln htl (by omega) OP (fun le ee ge => ?_) (fun p' ee OP' qe => ?_)) 
                        · refine Rn.if_neB (tgt := 135) dX3_readInto_127 rfl (by decide) (fun c127 => ?_) (fun c127 => ?_)
                          · exact absurd c127 (by decide)
                          · refine Rn.aload_n dX3_readInto_130 rfl rfl ?_
                            refine Rn.getf f_X3_19 dX3_readInto_131 rfl (ht_T hq T _ _ _).1 (ht_T hq T _ _ _).2.2.1 rfl ?_
                            refine Rn.iret dX3_readInto_134 rfl rfl rfl ?_
                            have e9 : rIn t ln = (le + 1, le, p) := by rw [← h4]; exact lpR_d0 c77 (fun z => by first | omega | exact absurd z.1 (by rw [c81]; decide) | exact absurd z.2.2 (of_decide_eq_false c98)) ee
                            rw [e9] at k
                            exact k
                        · refine Rn.if_neB (tgt := 135) dX3_readInto_127 rfl (by decide) (fun c127 => ?_) (fun c127 => ?_)
                          · refine Rn.iincN dX3_readInto_135 rfl rfl (Nat.le_of_ble_eq_true rfl) ?_
                            refine Rn.goto (tgt := 62) dX3_readInto_138 (by decide) ?_
                            exact Rn.pick [2, 3, 1, 0] rfl (ih n (kk + 1) _ _ false (by omega) (by omega) (by omega) OP' (by rw [← h4]; exact (lpR_d1 c77 (fun z => by first | omega | exact absurd z.1 (by rw [c81]; decide) | exact absurd z.2.2 (of_decide_eq_false c98)) ee).symm))
                          · exact absurd c127 (by decide)
                      · first | omega | exact False.elim c108
                    · refine Rn.iconst dX3_readInto_101 rfl ic_1 ?_
                      refine Rn.goto (tgt := 106) dX3_readInto_102 (by decide) ?_
                      refine Rn.istore_n dX3_readInto_106 rfl (Nat.le_of_ble_eq_true rfl) ?_
                      refine Rn.iload_n dX3_readInto_107 rfl rfl ?_
                      refine Rn.if_eqN (tgt := 122) dX3_readInto_108 rfl (by decide) (by omega) (fun c108 => ?_) (fun c108 => ?_)
                      · first | omega | exact False.elim c108
                      · refine Rn.aload_n dX3_readInto_111 rfl rfl ?_
                        refine Rn.aload_n dX3_readInto_112 rfl rfl ?_
                        refine Rn.callV (as := [_]) v_X3_readUser l_X3_43 ⟨Nat.le_of_ble_eq_true rfl, Nat.le_of_ble_eq_true rfl⟩ dX3_readInto_113 rfl rfl (Nat.le_of_ble_eq_true rfl) (ht_T hq T _ _ _).1 (ht_T hq T _ _ _).2.2.1 rfl (Nat.le_refl _) (Nat.le_refl _) (t_X3_readUser hq T H hln htl (by omega) c89' (fun le ee ge => ?_) (fun a b c ha hb gc hc ee qe => ?_)) 
                        · refine Rn.if_neB (tgt := 135) dX3_readInto_116 rfl (by decide) (fun c116 => ?_) (fun c116 => ?_)
                          · exact absurd c116 (by decide)
                          · refine Rn.goto (tgt := 130) dX3_readInto_119 (by decide) ?_
                            refine Rn.aload_n dX3_readInto_130 rfl rfl ?_
                            refine Rn.getf f_X3_19 dX3_readInto_131 rfl (ht_T hq T _ _ _).1 (ht_T hq T _ _ _).2.2.1 rfl ?_
                            refine Rn.iret dX3_readInto_134 rfl rfl rfl ?_
                            have e9 : rIn t ln = (le + 1, le, p) := by rw [← h4, c81]; exact lpR_u0 c77 c89' (of_decide_eq_true c98) ee
                            rw [e9] at k
                            exact k
                        · refine Rn.if_neB (tgt := 135) dX3_readInto_116 rfl (by decide) (fun c116 => ?_) (fun c116 => ?_)
                          · refine Rn.iincN dX3_readInto_135 rfl rfl (Nat.le_of_ble_eq_true rfl) ?_
                            refine Rn.goto (tgt := 62) dX3_readInto_138 (by decide) ?_
                            exact Rn.pick [2, 3, 1, 0] rfl (ih n (kk + 1) _ _ true (by omega) (by omega) (by omega) (OK_ad h3 c89' ha hb hc) (by rw [← h4, c81]; exact (lpR_u1 c77 c89' (of_decide_eq_true c98) ee).symm))
                          · exact absurd c116 (by decide)
        exact Rn.pick [3, 4, 1, 0] rfl (hloop 81 80 0 2 _ true (by omega) (by omega) (by omega) (OK_win OK_p0 ga ha) (by have e2 : fgN t ln 1 1 6 = a + 1 := e1; unfold rIn; rw [if_pos (of_decide_eq_true c15), if_neg (by omega), e2]; rfl))
      · exact absurd c44 (nI_m9 (by omega))
  · refine Rn.aload_n dX3_readInto_18 rfl rfl ?_
    refine Rn.getf f_X3_19 dX3_readInto_19 rfl (ht_T hq T _ _ _).1 (ht_T hq T _ _ _).2.2.1 rfl ?_
    refine Rn.iret dX3_readInto_22 rfl rfl rfl ?_
    have e9 : rIn t ln = (1, 0, p0) := by unfold rIn; rw [if_neg (of_decide_eq_false c15)]
    rw [e9] at k
    exact k
end
section
section RNL
variable {K : rK} {Q : Option Value → rHp → Prop} {pc pc' : Nat} {lv : List (Nat × Value)} {st : List Value} {h : rHp}
theorem Rn.if_eqL {x y : Int64} {off : Int} {tgt : Nat} (hd : decode K.1.2.1 pc = .ok (.ifCond .eq off, 3)) (hp : pc + 3 = pc') (ht : (pc : Int) + off = (tgt : Int)) (kt : x = y → Rn K Q tgt lv st h) (kf : ¬ x = y → Rn K Q pc' lv st h) : Rn K Q pc lv (.int (lg_cmp x y) :: st) h := Rn.if_eq hd hp ht (fun q => kt ((lg_cmp_eq x y).mp q)) (fun q => kf (fun z => q ((lg_cmp_eq x y).mpr z)))
theorem Rn.if_eqLJ {a b : Nat} {off : Int} {tgt : Nat} (hd : decode K.1.2.1 pc = .ok (.ifCond .eq off, 3)) (hp : pc + 3 = pc') (ht : (pc : Int) + off = (tgt : Int)) (ha : a < 9223372036854775808) (hb : b < 9223372036854775808) (kt : a = b → Rn K Q tgt lv st h) (kf : ¬ a = b → Rn K Q pc' lv st h) : Rn K Q pc lv (.int (lg_cmp (lN a) (lN b)) :: st) h := Rn.if_eqL hd hp ht (fun q => kt ((pk_lEQ ha hb).mp q)) (fun q => kf (fun z => q ((pk_lEQ ha hb).mpr z)))
theorem Rn.if_ltL {x y : Int64} {off : Int} {tgt : Nat} (hd : decode K.1.2.1 pc = .ok (.ifCond .lt off, 3)) (hp : pc + 3 = pc') (ht : (pc : Int) + off = (tgt : Int)) (kt : x < y → Rn K Q tgt lv st h) (kf : ¬ x < y → Rn K Q pc' lv st h) : Rn K Q pc lv (.int (lg_cmp x y) :: st) h := Rn.if_lt hd hp ht (fun q => kt ((lg_cmp_lt x y).mp q)) (fun q => kf (fun z => q ((lg_cmp_lt x y).mpr z)))
theorem Rn.if_ltLJ {a b : Nat} {off : Int} {tgt : Nat} (hd : decode K.1.2.1 pc = .ok (.ifCond .lt off, 3)) (hp : pc + 3 = pc') (ht : (pc : Int) + off = (tgt : Int)) (ha : a < 9223372036854775808) (hb : b < 9223372036854775808) (kt : a < b → Rn K Q tgt lv st h) (kf : ¬ a < b → Rn K Q pc' lv st h) : Rn K Q pc lv (.int (lg_cmp (lN a) (lN b)) :: st) h := Rn.if_ltL hd hp ht (fun q => kt ((pk_lLT ha hb).mp q)) (fun q => kf (fun z => q ((pk_lLT ha hb).mpr z)))
theorem Rn.if_geL {x y : Int64} {off : Int} {tgt : Nat} (hd : decode K.1.2.1 pc = .ok (.ifCond .ge off, 3)) (hp : pc + 3 = pc') (ht : (pc : Int) + off = (tgt : Int)) (kt : y ≤ x → Rn K Q tgt lv st h) (kf : ¬ y ≤ x → Rn K Q pc' lv st h) : Rn K Q pc lv (.int (lg_cmp x y) :: st) h := Rn.if_ge hd hp ht (fun q => kt ((lg_cmp_ge x y).mp q)) (fun q => kf (fun z => q ((lg_cmp_ge x y).mpr z)))
theorem Rn.if_geLJ {a b : Nat} {off : Int} {tgt : Nat} (hd : decode K.1.2.1 pc = .ok (.ifCond .ge off, 3)) (hp : pc + 3 = pc') (ht : (pc : Int) + off = (tgt : Int)) (ha : a < 9223372036854775808) (hb : b < 9223372036854775808) (kt : b ≤ a → Rn K Q tgt lv st h) (kf : ¬ b ≤ a → Rn K Q pc' lv st h) : Rn K Q pc lv (.int (lg_cmp (lN a) (lN b)) :: st) h := Rn.if_geL hd hp ht (fun q => kt ((pk_lLE hb ha).mp q)) (fun q => kf (fun z => q ((pk_lLE hb ha).mpr z)))
theorem Rn.if_gtL {x y : Int64} {off : Int} {tgt : Nat} (hd : decode K.1.2.1 pc = .ok (.ifCond .gt off, 3)) (hp : pc + 3 = pc') (ht : (pc : Int) + off = (tgt : Int)) (kt : y < x → Rn K Q tgt lv st h) (kf : ¬ y < x → Rn K Q pc' lv st h) : Rn K Q pc lv (.int (lg_cmp x y) :: st) h := Rn.if_gt hd hp ht (fun q => kt ((lg_cmp_gt x y).mp q)) (fun q => kf (fun z => q ((lg_cmp_gt x y).mpr z)))
theorem Rn.if_gtLJ {a b : Nat} {off : Int} {tgt : Nat} (hd : decode K.1.2.1 pc = .ok (.ifCond .gt off, 3)) (hp : pc + 3 = pc') (ht : (pc : Int) + off = (tgt : Int)) (ha : a < 9223372036854775808) (hb : b < 9223372036854775808) (kt : b < a → Rn K Q tgt lv st h) (kf : ¬ b < a → Rn K Q pc' lv st h) : Rn K Q pc lv (.int (lg_cmp (lN a) (lN b)) :: st) h := Rn.if_gtL hd hp ht (fun q => kt ((pk_lLT hb ha).mp q)) (fun q => kf (fun z => q ((pk_lLT hb ha).mpr z)))
theorem Rn.if_leL {x y : Int64} {off : Int} {tgt : Nat} (hd : decode K.1.2.1 pc = .ok (.ifCond .le off, 3)) (hp : pc + 3 = pc') (ht : (pc : Int) + off = (tgt : Int)) (kt : x ≤ y → Rn K Q tgt lv st h) (kf : ¬ x ≤ y → Rn K Q pc' lv st h) : Rn K Q pc lv (.int (lg_cmp x y) :: st) h := Rn.if_le hd hp ht (fun q => kt ((lg_cmp_le x y).mp q)) (fun q => kf (fun z => q ((lg_cmp_le x y).mpr z)))
theorem Rn.if_leLJ {a b : Nat} {off : Int} {tgt : Nat} (hd : decode K.1.2.1 pc = .ok (.ifCond .le off, 3)) (hp : pc + 3 = pc') (ht : (pc : Int) + off = (tgt : Int)) (ha : a < 9223372036854775808) (hb : b < 9223372036854775808) (kt : a ≤ b → Rn K Q tgt lv st h) (kf : ¬ a ≤ b → Rn K Q pc' lv st h) : Rn K Q pc lv (.int (lg_cmp (lN a) (lN b)) :: st) h := Rn.if_leL hd hp ht (fun q => kt ((pk_lLE ha hb).mp q)) (fun q => kf (fun z => q ((pk_lLE ha hb).mpr z)))
theorem Rn.if_neL {x y : Int64} {off : Int} {tgt : Nat} (hd : decode K.1.2.1 pc = .ok (.ifCond .ne off, 3)) (hp : pc + 3 = pc') (ht : (pc : Int) + off = (tgt : Int)) (kt : ¬ x = y → Rn K Q tgt lv st h) (kf : x = y → Rn K Q pc' lv st h) : Rn K Q pc lv (.int (lg_cmp x y) :: st) h := Rn.if_ne hd hp ht (fun q => kt (fun z => q ((lg_cmp_eq x y).mpr z))) (fun q => kf ((lg_cmp_eq x y).mp q))
theorem Rn.if_neLJ {a b : Nat} {off : Int} {tgt : Nat} (hd : decode K.1.2.1 pc = .ok (.ifCond .ne off, 3)) (hp : pc + 3 = pc') (ht : (pc : Int) + off = (tgt : Int)) (ha : a < 9223372036854775808) (hb : b < 9223372036854775808) (kt : ¬ a = b → Rn K Q tgt lv st h) (kf : a = b → Rn K Q pc' lv st h) : Rn K Q pc lv (.int (lg_cmp (lN a) (lN b)) :: st) h := Rn.if_neL hd hp ht (fun q => kt (fun z => q ((pk_lEQ ha hb).mpr z))) (fun q => kf ((pk_lEQ ha hb).mp q))
theorem Rn.lmulN {a b : Nat} (hd : decode K.1.2.1 pc = .ok (.lmul, 1)) (hp : pc + 1 = pc') (k : Rn K Q pc' lv (.long (lN (a * b)) :: st) h) : Rn K Q pc lv (.long (lN b) :: .long (lN a) :: st) h := Rn.lmul hd hp (Rn.topl (lN_mul a b) k)
theorem Rn.laddN {a b : Nat} (hd : decode K.1.2.1 pc = .ok (.ladd, 1)) (hp : pc + 1 = pc') (k : Rn K Q pc' lv (.long (lN (a + b)) :: st) h) : Rn K Q pc lv (.long (lN b) :: .long (lN a) :: st) h := Rn.ladd hd hp (Rn.topl (lN_add a b) k)
theorem Rn.lsubN {a b : Nat} (hd : decode K.1.2.1 pc = .ok (.lsub, 1)) (hp : pc + 1 = pc') (hb : b ≤ a) (k : Rn K Q pc' lv (.long (lN (a - b)) :: st) h) : Rn K Q pc lv (.long (lN b) :: .long (lN a) :: st) h := Rn.lsub hd hp (Rn.topl (lN_sub hb) k)
theorem lN_ne0 {b : Nat} (h0 : 0 < b) (hb : b < 9223372036854775808) : ¬ lN b = 0 := fun e => by have := (pk_lEQ hb (show 0 < 2 ^ 63 by decide)).mp e; omega
theorem Rn.ldivN {a b : Nat} (hd : decode K.1.2.1 pc = .ok (.ldiv, 1)) (hp : pc + 1 = pc') (h1 : a < 9223372036854775808) (h2 : 0 < b) (h3 : b < 9223372036854775808) (k : Rn K Q pc' lv (.long (lN (a / b)) :: st) h) : Rn K Q pc lv (.long (lN b) :: .long (lN a) :: st) h := Rn.ldiv hd hp (lN_ne0 h2 h3) (Rn.topl (pk_lDiv h1 h2 h3) k)
theorem Rn.lremN {a b : Nat} (hd : decode K.1.2.1 pc = .ok (.lrem, 1)) (hp : pc + 1 = pc') (h1 : a < 9223372036854775808) (h2 : 0 < b) (h3 : b < 9223372036854775808) (k : Rn K Q pc' lv (.long (lN (a % b)) :: st) h) : Rn K Q pc lv (.long (lN b) :: .long (lN a) :: st) h := Rn.lrem hd hp (lN_ne0 h2 h3) (Rn.topl (pk_lRem h1 h2 h3) k)
theorem Rn.i2lN {a : Nat} (hd : decode K.1.2.1 pc = .ok (.i2l, 1)) (hp : pc + 1 = pc') (ha : a < 2147483648) (k : Rn K Q pc' lv (.long (lN a) :: st) h) : Rn K Q pc lv (.int (nI a) :: st) h := Rn.i2l hd hp (Rn.topl (nI_l ha) k)
theorem Rn.l2iN {a : Nat} (hd : decode K.1.2.1 pc = .ok (.l2i, 1)) (hp : pc + 1 = pc') (k : Rn K Q pc' lv (.int (nI a) :: st) h) : Rn K Q pc lv (.long (lN a) :: st) h := Rn.l2i hd hp (Rn.top (lN_i a) k)
end RNL
theorem lL_10000 : (10000 : Int64) = lN 10000 := by decide +kernel
theorem lL_12 : (12 : Int64) = lN 12 := by decide +kernel
theorem lL_255 : (255 : Int64) = lN 255 := by decide +kernel
theorem lL_5 : (5 : Int64) = lN 5 := by decide +kernel
theorem lL_250 : (250 : Int64) = lN 250 := by decide +kernel
theorem lL_99 : (99 : Int64) = lN 99 := by decide +kernel
theorem lL_30 : (30 : Int64) = lN 30 := by decide +kernel
theorem lL_6 : (6 : Int64) = lN 6 := by decide +kernel
theorem lL_4 : (4 : Int64) = lN 4 := by decide +kernel
theorem lL_3 : (3 : Int64) = lN 3 := by decide +kernel
theorem lL_29 : (29 : Int64) = lN 29 := by decide +kernel
theorem lL_10 : (10 : Int64) = lN 10 := by decide +kernel
theorem lL_60 : (60 : Int64) = lN 60 := by decide +kernel
theorem lL_4294967295 : (4294967295 : Int64) = lN 4294967295 := by decide +kernel
/-- the loop of the common divisor -/
def glo : Nat → Nat → Nat → Nat
  | 0, a, _ => a
  | n + 1, a, b => if b = 0 then a else glo n b (a % b)
theorem mod_half {b r : Nat} (hr : 0 < r) (h : r < b) : 2 * (b % r) < b := by
  have h1 := Nat.mod_lt b hr
  have h2 := Nat.div_add_mod b r
  have h3 : 1 ≤ b / r := by rw [Nat.le_div_iff_mul_le hr]; omega
  have h4 : r * 1 ≤ r * (b / r) := Nat.mul_le_mul_left r h3
  omega
theorem glo_gcd : ∀ (k n a b : Nat), b < 2 ^ k → 2 * k < n → glo n a b = Nat.gcd a b := by
  intro k
  induction k with
  | zero =>
    intro n a b hb hn
    obtain ⟨n, rfl⟩ : ∃ m, n = m + 1 := ⟨n - 1, by omega⟩
    have : b = 0 := by simpa using hb
    subst this
    show (if 0 = 0 then a else _) = _
    rw [if_pos rfl, Nat.gcd_zero_right]
  | succ k ih =>
    intro n a b hb hn
    obtain ⟨n, rfl⟩ : ∃ m, n = m + 2 := ⟨n - 2, by omega⟩
    show (if b = 0 then a else glo (n + 1) b (a % b)) = _
    by_cases h0 : b = 0
    · rw [if_pos h0, h0, Nat.gcd_zero_right]
    · rw [if_neg h0]
      show (if a % b = 0 then b else glo n (a % b) (b % (a % b))) = _
      have hg : Nat.gcd a b = Nat.gcd b (a % b) := by rw [Nat.gcd_comm a b, Nat.gcd_rec, Nat.gcd_comm]
      by_cases h1 : a % b = 0
      · rw [if_pos h1, hg, h1, Nat.gcd_zero_right]
      · rw [if_neg h1, ih n (a % b) (b % (a % b)) (by have := mod_half (Nat.pos_of_ne_zero h1) (Nat.mod_lt a (Nat.pos_of_ne_zero h0)); rw [Nat.pow_succ] at hb; omega) (by omega), hg, Nat.gcd_comm b, Nat.gcd_rec (a % b) b, Nat.gcd_comm]
theorem t_X4_power {h : rHp} {Q : Option Value → rHp → Prop} {b n : Nat} (hb : b < 2147483648) (hn : n < 100000) (k : Q (some (.long (lN (b ^ n)))) h) : Cl M_X4_power h.1 h.2.1 [.int (nI b), .int (nI n)] h Q := by
  refine Cl.of pl_X4 (Nat.le_of_ble_eq_true rfl) (by first | exact Nat.le_refl _ | omega) (by first | exact Nat.le_refl _ | omega) ?_
  refine Rn.lconst dX4_power_0 rfl lc_1 ?_
  refine Rn.lstore_n dX4_power_1 rfl (Nat.le_of_ble_eq_true rfl) ?_
  refine Rn.iconst dX4_power_2 rfl ic_0 ?_
  refine Rn.istore dX4_power_3 rfl (Nat.le_of_ble_eq_true rfl) ?_
  have hloop : ∀ (m : Nat) (i : Nat), n - i < m → i ≤ n → Rn (M_X4_power, none, h.1, h.2.1) Q 5 [(0, .int (nI b)), (1, .int (nI n)), (2, .long (lN (b ^ i))), (4, .int (nI i))] [] h := by
    intro m
    induction m with
    | zero => intro i h0 h1; exact absurd h0 (Nat.not_lt_zero _)
    | succ m ih =>
      intro i h0 h1
      refine Rn.iload dX4_power_5 rfl rfl ?_
      refine Rn.iload_n dX4_power_7 rfl rfl ?_
      refine Rn.icmp_geN (tgt := 22) dX4_power_8 rfl (by decide) (by omega) (by omega) (fun c8 => ?_) (fun c8 => ?_)
      · refine Rn.lload_n dX4_power_22 rfl rfl ?_
        refine Rn.lret dX4_power_23 rfl rfl rfl ?_
        rw [show i = n by omega]
        exact k
      · refine Rn.lload_n dX4_power_11 rfl rfl ?_
        refine Rn.iload_n dX4_power_12 rfl rfl ?_
        refine Rn.i2lN dX4_power_13 rfl (by omega) ?_
        refine Rn.lmulN dX4_power_14 rfl ?_
        refine Rn.lstore_n dX4_power_15 rfl (Nat.le_of_ble_eq_true rfl) ?_
        refine Rn.iincN dX4_power_16 rfl rfl (Nat.le_of_ble_eq_true rfl) ?_
        refine Rn.goto (tgt := 5) dX4_power_19 (by decide) ?_
        exact Rn.pick [2, 3, 1, 0] rfl (ih (i + 1) (by omega) (by omega))
  exact Rn.pick [2, 3, 1, 0] rfl (hloop (n + 1) 0 (by omega) (by omega))
theorem t_X4_commonDivisor {h : rHp} {Q : Option Value → rHp → Prop} {a0 b0 : Nat} (ha : a0 < 9223372036854775808) (hb : b0 < 1099511627776) (k : Q (some (.long (lN (Nat.gcd a0 b0)))) h) : Cl M_X4_commonDivisor h.1 h.2.1 [.long (lN a0), .long (lN b0)] h Q := by
  refine Cl.of pl_X4 (Nat.le_of_ble_eq_true rfl) (by first | exact Nat.le_refl _ | omega) (by first | exact Nat.le_refl _ | omega) ?_
  refine Rn.lload_n dX4_commonDivisor_0 rfl rfl ?_
  refine Rn.lstore dX4_commonDivisor_1 rfl (Nat.le_of_ble_eq_true rfl) ?_
  refine Rn.lload_n dX4_commonDivisor_3 rfl rfl ?_
  refine Rn.lstore dX4_commonDivisor_4 rfl (Nat.le_of_ble_eq_true rfl) ?_
  refine Rn.iconst dX4_commonDivisor_6 rfl ic_0 ?_
  refine Rn.istore dX4_commonDivisor_7 rfl (Nat.le_of_ble_eq_true rfl) ?_
  have hloop : ∀ (m : Nat) (n kk a b : Nat), n < m → kk + n = 100 → a < 9223372036854775808 → b < 9223372036854775808 → glo n a b = Nat.gcd a0 b0 → Rn (M_X4_commonDivisor, none, h.1, h.2.1) Q 9 [(4, .long (lN a)), (6, .long (lN b)), (8, .int (nI kk))] [] h := by
    intro m
    induction m with
    | zero => intro n kk a b h0 h1 h2 h3 h4; exact absurd h0 (Nat.not_lt_zero _)
    | succ m ih =>
      intro n kk a b h0 h1 h2 h3 h4
      refine Rn.iload dX4_commonDivisor_9 rfl rfl ?_
      refine Rn.bipush dX4_commonDivisor_11 rfl bp_100 ?_
      refine Rn.icmp_geN (tgt := 44) dX4_commonDivisor_13 rfl (by decide) (by omega) (by omega) (fun c13 => ?_) (fun c13 => ?_)
      · obtain rfl : n = 0 := by omega
        refine Rn.lload dX4_commonDivisor_44 rfl rfl ?_
        refine Rn.lret dX4_commonDivisor_46 rfl rfl rfl ?_
        exact rn_fin k (by rw [← h4]; first | rfl | exact congrArg (fun z => some (Value.long (lN z))) (if_pos c20).symm) rfl
      · obtain ⟨n, rfl⟩ : ∃ n', n = n' + 1 := ⟨n - 1, by omega⟩
        refine Rn.lload dX4_commonDivisor_16 rfl rfl ?_
        refine Rn.lconst dX4_commonDivisor_18 rfl lc_0 ?_
        refine Rn.lcmp dX4_commonDivisor_19 rfl ?_
        refine Rn.if_eqLJ (tgt := 44) dX4_commonDivisor_20 rfl (by decide) (by omega) (by omega) (fun c20 => ?_) (fun c20 => ?_)
        · refine Rn.lload dX4_commonDivisor_44 rfl rfl ?_
          refine Rn.lret dX4_commonDivisor_46 rfl rfl rfl ?_
          exact rn_fin k (by rw [← h4]; first | rfl | exact congrArg (fun z => some (Value.long (lN z))) (if_pos c20).symm) rfl
        · refine Rn.lload dX4_commonDivisor_23 rfl rfl ?_
          refine Rn.lload dX4_commonDivisor_25 rfl rfl ?_
          refine Rn.lremN dX4_commonDivisor_27 rfl (by omega) (by omega) (by omega) ?_
          refine Rn.lstore dX4_commonDivisor_28 rfl (Nat.le_of_ble_eq_true rfl) ?_
          refine Rn.lload dX4_commonDivisor_30 rfl rfl ?_
          refine Rn.lstore dX4_commonDivisor_32 rfl (Nat.le_of_ble_eq_true rfl) ?_
          refine Rn.lload dX4_commonDivisor_34 rfl rfl ?_
          refine Rn.lstore dX4_commonDivisor_36 rfl (Nat.le_of_ble_eq_true rfl) ?_
          refine Rn.iincN dX4_commonDivisor_38 rfl rfl (Nat.le_of_ble_eq_true rfl) ?_
          refine Rn.goto (tgt := 9) dX4_commonDivisor_41 (by decide) ?_
          exact Rn.pick [2, 1, 0] rfl (ih n (kk + 1) b (a % b) (by omega) (by omega) h3 (Nat.lt_of_le_of_lt (Nat.mod_le _ _) h2) (by rw [← h4]; exact (if_neg c20).symm))
  exact Rn.pick [2, 1, 0] rfl (hloop 101 100 0 a0 b0 (by omega) (by omega) ha (by omega) (glo_gcd 40 100 a0 b0 (Nat.lt_of_lt_of_le hb (by decide)) (by omega)))
theorem t_X4_toldFraction {h : rHp} {Q : Option Value → rHp → Prop} {a b : Nat} {up : Bool} (ha : a < 9223372036854775808) (hb0 : 0 < b) (hb : b < 1099511627776) (k : Q (some (.int (nI ((if up then a else b) / Nat.gcd a b)))) h) : Cl M_X4_toldFraction h.1 h.2.1 [.long (lN a), .long (lN b), .int (bi up)] h Q := by
  refine Cl.of pl_X4 (Nat.le_of_ble_eq_true rfl) (by first | exact Nat.le_refl _ | omega) (by first | exact Nat.le_refl _ | omega) ?_
  refine Rn.lload_n dX4_toldFraction_0 rfl rfl ?_
  refine Rn.lload_n dX4_toldFraction_1 rfl rfl ?_
  refine Rn.callS (as := [_, _]) s_X4_commonDivisor l_X4_219 ⟨Nat.le_of_ble_eq_true rfl, Nat.le_of_ble_eq_true rfl⟩ dX4_toldFraction_2 rfl rfl (Nat.le_of_ble_eq_true rfl) (Nat.le_refl _) (Nat.le_refl _) (t_X4_commonDivisor ha hb ?_)
  have hg : 0 < Nat.gcd a b := Nat.gcd_pos_of_pos_right a hb0
  have hg2 : Nat.gcd a b ≤ b := Nat.gcd_le_right a hb0
  refine Rn.lstore dX4_toldFraction_5 rfl (Nat.le_of_ble_eq_true rfl) ?_
  refine Rn.lload dX4_toldFraction_7 rfl rfl ?_
  refine Rn.lconst dX4_toldFraction_9 rfl lc_0 ?_
  refine Rn.lcmp dX4_toldFraction_10 rfl ?_
  refine Rn.if_neLJ (tgt := 16) dX4_toldFraction_11 rfl (by decide) (by omega) (by omega) (fun c11 => ?_) (fun c11 => ?_)
  · refine Rn.iload dX4_toldFraction_16 rfl rfl ?_
    refine Rn.if_eqB (tgt := 25) dX4_toldFraction_18 rfl (by decide) (fun c18 => ?_) (fun c18 => ?_)
    · refine Rn.lload_n dX4_toldFraction_25 rfl rfl ?_
      refine Rn.lload dX4_toldFraction_26 rfl rfl ?_
      refine Rn.ldivN dX4_toldFraction_28 rfl (by omega) (by omega) (by omega) ?_
      refine Rn.l2iN dX4_toldFraction_29 rfl ?_
      refine Rn.iret dX4_toldFraction_30 rfl rfl rfl ?_
      first | exact rn_fin k (by rw [c18]; rfl) rfl
    · refine Rn.lload_n dX4_toldFraction_21 rfl rfl ?_
      refine Rn.goto (tgt := 26) dX4_toldFraction_22 (by decide) ?_
      refine Rn.lload dX4_toldFraction_26 rfl rfl ?_
      refine Rn.ldivN dX4_toldFraction_28 rfl (by omega) (by omega) (by omega) ?_
      refine Rn.l2iN dX4_toldFraction_29 rfl ?_
      refine Rn.iret dX4_toldFraction_30 rfl rfl rfl ?_
      first | exact rn_fin k (by rw [c18]; rfl) rfl
  · omega
theorem t_X4_withoutDoings {h : rHp} {Q : Option Value → rHp → Prop} {r n : Nat} (hr : r < 9223372036854775808) (hn : n < 100000) (k : Q (some (.long (lN (r / 10000 ^ n)))) h) : Cl M_X4_withoutDoings h.1 h.2.1 [.long (lN r), .int (nI n)] h Q := by
  refine Cl.of pl_X4 (Nat.le_of_ble_eq_true rfl) (by first | exact Nat.le_refl _ | omega) (by first | exact Nat.le_refl _ | omega) ?_
  refine Rn.lload_n dX4_withoutDoings_0 rfl rfl ?_
  refine Rn.lstore_n dX4_withoutDoings_1 rfl (Nat.le_of_ble_eq_true rfl) ?_
  refine Rn.iconst dX4_withoutDoings_2 rfl ic_0 ?_
  refine Rn.istore dX4_withoutDoings_3 rfl (Nat.le_of_ble_eq_true rfl) ?_
  have hloop : ∀ (m : Nat) (i : Nat), n - i < m → i ≤ n → Rn (M_X4_withoutDoings, none, h.1, h.2.1) Q 5 [(2, .int (nI n)), (3, .long (lN (r / 10000 ^ i))), (5, .int (nI i))] [] h := by
    intro m
    induction m with
    | zero => intro i h0 h1; exact absurd h0 (Nat.not_lt_zero _)
    | succ m ih =>
      intro i h0 h1
      have hr2 : r / 10000 ^ i ≤ r := Nat.div_le_self _ _
      refine Rn.iload dX4_withoutDoings_5 rfl rfl ?_
      refine Rn.iload_n dX4_withoutDoings_7 rfl rfl ?_
      refine Rn.icmp_geN (tgt := 23) dX4_withoutDoings_8 rfl (by decide) (by omega) (by omega) (fun c8 => ?_) (fun c8 => ?_)
      · refine Rn.lload_n dX4_withoutDoings_23 rfl rfl ?_
        refine Rn.lret dX4_withoutDoings_24 rfl rfl rfl ?_
        rw [show i = n by omega]
        exact k
      · refine Rn.lload_n dX4_withoutDoings_11 rfl rfl ?_
        refine Rn.ldc2 dX4_withoutDoings_12 rfl k_X4_168 ?_
        refine Rn.topl lL_10000 ?_
        refine Rn.ldivN dX4_withoutDoings_15 rfl (by omega) (by omega) (by omega) ?_
        refine Rn.lstore_n dX4_withoutDoings_16 rfl (Nat.le_of_ble_eq_true rfl) ?_
        refine Rn.iincN dX4_withoutDoings_17 rfl rfl (Nat.le_of_ble_eq_true rfl) ?_
        refine Rn.goto (tgt := 5) dX4_withoutDoings_20 (by decide) ?_
        have e : r / 10000 ^ i / 10000 = r / 10000 ^ (i + 1) := by rw [Nat.div_div_eq_div_mul, Nat.pow_succ]
        rw [e]
        exact Rn.pick [2, 1, 0] rfl (ih (i + 1) (by omega) (by omega))
  exact Rn.pick [3, 1, 0] rfl (by have := hloop (n + 1) 0 (by omega) (by omega); rw [Nat.pow_zero, Nat.div_one] at this; exact this)
/-- after how many steps it comes again -/
def rtL (s v : Nat) : Nat → Nat → Nat → Nat
  | 0, _, _ => 0
  | n + 1, i, x => if nx s x = v then i else rtL s v n (i + 1) (nx s x)
def rtN (s v : Nat) : Nat := rtL s v 251 1 v
theorem rtL_le (s v : Nat) : ∀ n i x, rtL s v n i x ≤ i + n - 1
  | 0, i, x => by unfold rtL; omega
  | n + 1, i, x => by
    unfold rtL
    split
    · omega
    · have := rtL_le s v n (i + 1) (nx s x); omega
theorem rtN_le (s v : Nat) : rtN s v ≤ 251 := by have := rtL_le s v 251 1 v; unfold rtN; omega
def tlL (s : Nat) : Nat → Nat → Nat → Nat
  | 0, _, _ => 251
  | n + 1, i, x => if 0 < rtN s x then i else tlL s n (i + 1) (nx s x)
def tlN (s v : Nat) : Nat := tlL s 251 0 v
theorem tlL_le (s : Nat) : ∀ n i x, i + n = 251 → tlL s n i x ≤ 251
  | 0, _, _, _ => Nat.le_refl _
  | n + 1, i, x, h => by
    unfold tlL
    split
    · omega
    · exact tlL_le s n (i + 1) (nx s x) (by omega)
theorem tlN_le (s v : Nat) : tlN s v ≤ 251 := tlL_le s 251 0 v rfl
theorem t_X4_returnOf {h : rHp} {Q : Option Value → rHp → Prop} {v s : Nat} (hv : v < 251) (hs : s < 251) (k : Q (some (.int (nI (rtN s v)))) h) : Cl M_X4_returnOf h.1 h.2.1 [.int (nI v), .int (nI s)] h Q := by
  refine Cl.of pl_X4 (Nat.le_of_ble_eq_true rfl) (by first | exact Nat.le_refl _ | omega) (by first | exact Nat.le_refl _ | omega) ?_
  refine Rn.iload_n dX4_returnOf_0 rfl rfl ?_
  refine Rn.istore_n dX4_returnOf_1 rfl (Nat.le_of_ble_eq_true rfl) ?_
  refine Rn.iconst dX4_returnOf_2 rfl ic_1 ?_
  refine Rn.istore_n dX4_returnOf_3 rfl (Nat.le_of_ble_eq_true rfl) ?_
  have hloop : ∀ (m : Nat) (n i x : Nat), n < m → i + n = 252 → x < 251 → rtL s v n i x = rtN s v → Rn (M_X4_returnOf, none, h.1, h.2.1) Q 4 [(0, .int (nI v)), (1, .int (nI s)), (2, .int (nI x)), (3, .int (nI i))] [] h := by
    intro m
    induction m with
    | zero => intro n i x h0 h1 h2 h3; exact absurd h0 (Nat.not_lt_zero _)
    | succ m ih =>
      intro n i x h0 h1 h2 h3
      refine Rn.iload_n dX4_returnOf_4 rfl rfl ?_
      refine Rn.sipush dX4_returnOf_5 rfl sp_251 ?_
      refine Rn.icmp_gtN (tgt := 31) dX4_returnOf_8 rfl (by decide) (by omega) (by omega) (fun c8 => ?_) (fun c8 => ?_)
      · obtain rfl : n = 0 := by omega
        refine Rn.iconst dX4_returnOf_31 rfl ic_0 ?_
        refine Rn.iret dX4_returnOf_32 rfl rfl rfl ?_
        exact rn_fin k (by rw [← h3]; rfl) rfl
      · obtain ⟨n, rfl⟩ : ∃ n', n = n' + 1 := ⟨n - 1, by omega⟩
        refine Rn.iload_n dX4_returnOf_11 rfl rfl ?_
        refine Rn.iload_n dX4_returnOf_12 rfl rfl ?_
        refine Rn.iconst dX4_returnOf_13 rfl ic_1 ?_
        refine Rn.callS (as := [_, _, _]) s_X4_stepsBehind l_X4_100 ⟨Nat.le_of_ble_eq_true rfl, Nat.le_of_ble_eq_true rfl⟩ dX4_returnOf_14 rfl rfl (Nat.le_of_ble_eq_true rfl) (Nat.le_refl _) (Nat.le_refl _) (t_X4_stepsBehind h2 hs (by omega) ?_)
        have hnx : bh s x 1 < 251 := nx_lt _ _
        refine Rn.istore_n dX4_returnOf_17 rfl (Nat.le_of_ble_eq_true rfl) ?_
        refine Rn.iload_n dX4_returnOf_18 rfl rfl ?_
        refine Rn.iload_n dX4_returnOf_19 rfl rfl ?_
        refine Rn.icmp_neN (tgt := 25) dX4_returnOf_20 rfl (by decide) (by omega) (by omega) (fun c20 => ?_) (fun c20 => ?_)
        · refine Rn.iincN dX4_returnOf_25 rfl rfl (Nat.le_of_ble_eq_true rfl) ?_
          refine Rn.goto (tgt := 4) dX4_returnOf_28 (by decide) ?_
          exact Rn.pick [2, 3, 1, 0] rfl (ih n (i + 1) _ (by omega) (by omega) (nx_lt _ _) (by rw [← h3]; exact (if_neg c20).symm))
        · refine Rn.iload_n dX4_returnOf_23 rfl rfl ?_
          refine Rn.iret dX4_returnOf_24 rfl rfl rfl ?_
          exact rn_fin k (by rw [← h3]; exact congrArg (fun z => some (Value.int (nI z))) (if_pos c20).symm) rfl
  exact Rn.pick [2, 3, 1, 0] rfl (hloop 252 251 1 v (by omega) (by omega) hv rfl)
theorem t_X4_tailOf {h : rHp} {Q : Option Value → rHp → Prop} {v s : Nat} (hv : v < 251) (hs : s < 251) (k : Q (some (.int (nI (tlN s v)))) h) : Cl M_X4_tailOf h.1 h.2.1 [.int (nI v), .int (nI s)] h Q := by
  refine Cl.of pl_X4 (Nat.le_of_ble_eq_true rfl) (by first | exact Nat.le_refl _ | omega) (by first | exact Nat.le_refl _ | omega) ?_
  refine Rn.iload_n dX4_tailOf_0 rfl rfl ?_
  refine Rn.istore_n dX4_tailOf_1 rfl (Nat.le_of_ble_eq_true rfl) ?_
  refine Rn.iconst dX4_tailOf_2 rfl ic_0 ?_
  refine Rn.istore_n dX4_tailOf_3 rfl (Nat.le_of_ble_eq_true rfl) ?_
  have hloop : ∀ (m : Nat) (n i x : Nat), n < m → i + n = 251 → x < 251 → tlL s n i x = tlN s v → Rn (M_X4_tailOf, none, h.1, h.2.1) Q 4 [(1, .int (nI s)), (2, .int (nI x)), (3, .int (nI i))] [] h := by
    intro m
    induction m with
    | zero => intro n i x h0 h1 h2 h3; exact absurd h0 (Nat.not_lt_zero _)
    | succ m ih =>
      intro n i x h0 h1 h2 h3
      refine Rn.iload_n dX4_tailOf_4 rfl rfl ?_
      refine Rn.sipush dX4_tailOf_5 rfl sp_251 ?_
      refine Rn.icmp_geN (tgt := 34) dX4_tailOf_8 rfl (by decide) (by omega) (by omega) (fun c8 => ?_) (fun c8 => ?_)
      · obtain rfl : n = 0 := by omega
        refine Rn.sipush dX4_tailOf_34 rfl sp_251 ?_
        refine Rn.iret dX4_tailOf_37 rfl rfl rfl ?_
        exact rn_fin k (by rw [← h3]; rfl) rfl
      · obtain ⟨n, rfl⟩ : ∃ n', n = n' + 1 := ⟨n - 1, by omega⟩
        refine Rn.iload_n dX4_tailOf_11 rfl rfl ?_
        refine Rn.iload_n dX4_tailOf_12 rfl rfl ?_
        refine Rn.callS (as := [_, _]) s_X4_returnOf l_X4_216 ⟨Nat.le_of_ble_eq_true rfl, Nat.le_of_ble_eq_true rfl⟩ dX4_tailOf_13 rfl rfl (Nat.le_of_ble_eq_true rfl) (Nat.le_refl _) (Nat.le_refl _) (t_X4_returnOf h2 hs ?_)
        have hrl := rtN_le s x
        refine Rn.if_leN (tgt := 21) dX4_tailOf_16 rfl (by decide) (by omega) (fun c16 => ?_) (fun c16 => ?_)
        · refine Rn.iload_n dX4_tailOf_21 rfl rfl ?_
          refine Rn.iload_n dX4_tailOf_22 rfl rfl ?_
          refine Rn.iconst dX4_tailOf_23 rfl ic_1 ?_
          refine Rn.callS (as := [_, _, _]) s_X4_stepsBehind l_X4_100 ⟨Nat.le_of_ble_eq_true rfl, Nat.le_of_ble_eq_true rfl⟩ dX4_tailOf_24 rfl rfl (Nat.le_of_ble_eq_true rfl) (Nat.le_refl _) (Nat.le_refl _) (t_X4_stepsBehind h2 hs (by omega) ?_)
          refine Rn.istore_n dX4_tailOf_27 rfl (Nat.le_of_ble_eq_true rfl) ?_
          refine Rn.iincN dX4_tailOf_28 rfl rfl (Nat.le_of_ble_eq_true rfl) ?_
          refine Rn.goto (tgt := 4) dX4_tailOf_31 (by decide) ?_
          exact Rn.pick [2, 1, 0] rfl (ih n (i + 1) _ (by omega) (by omega) (nx_lt _ _) (by rw [← h3]; exact (if_neg (by omega)).symm))
        · refine Rn.iload_n dX4_tailOf_19 rfl rfl ?_
          refine Rn.iret dX4_tailOf_20 rfl rfl rfl ?_
          exact rn_fin k (by rw [← h3]; exact congrArg (fun z => some (Value.int (nI z))) (if_pos (by omega)).symm) rfl
  exact Rn.pick [3, 1, 0] rfl (hloop 252 251 0 v (by omega) (by omega) hv rfl)
theorem t_X4_loopOf {h : rHp} {Q : Option Value → rHp → Prop} {v s : Nat} (hv : v < 251) (hs : s < 251) (k : Q (some (.int (nI (rtN s (bh s v (tlN s v)))))) h) : Cl M_X4_loopOf h.1 h.2.1 [.int (nI v), .int (nI s)] h Q := by
  refine Cl.of pl_X4 (Nat.le_of_ble_eq_true rfl) (by first | exact Nat.le_refl _ | omega) (by first | exact Nat.le_refl _ | omega) ?_
  refine Rn.iload_n dX4_loopOf_0 rfl rfl ?_
  refine Rn.iload_n dX4_loopOf_1 rfl rfl ?_
  refine Rn.iload_n dX4_loopOf_2 rfl rfl ?_
  refine Rn.iload_n dX4_loopOf_3 rfl rfl ?_
  refine Rn.callS (as := [_, _]) s_X4_tailOf l_X4_84 ⟨Nat.le_of_ble_eq_true rfl, Nat.le_of_ble_eq_true rfl⟩ dX4_loopOf_4 rfl rfl (Nat.le_of_ble_eq_true rfl) (Nat.le_refl _) (Nat.le_refl _) (t_X4_tailOf hv hs ?_)
  refine Rn.callS (as := [_, _, _]) s_X4_stepsBehind l_X4_100 ⟨Nat.le_of_ble_eq_true rfl, Nat.le_of_ble_eq_true rfl⟩ dX4_loopOf_7 rfl rfl (Nat.le_of_ble_eq_true rfl) (Nat.le_refl _) (Nat.le_refl _) (t_X4_stepsBehind hv hs (by have := tlN_le s v; omega) ?_)
  refine Rn.iload_n dX4_loopOf_10 rfl rfl ?_
  refine Rn.callS (as := [_, _]) s_X4_returnOf l_X4_216 ⟨Nat.le_of_ble_eq_true rfl, Nat.le_of_ble_eq_true rfl⟩ dX4_loopOf_11 rfl rfl (Nat.le_of_ble_eq_true rfl) (Nat.le_refl _) (Nat.le_refl _) (t_X4_returnOf (bh_lt hv _) hs ?_)
  refine Rn.iret dX4_loopOf_14 rfl rfl rfl ?_
  exact k
end
