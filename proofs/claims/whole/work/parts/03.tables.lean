theorem in_X0 : ∀ w ∈ u_ws RX0 TX0 1, w ∈ rn_ws := by
  show ∀ w ∈ [u_lay RX0 TX0 0], w ∈ rn_ws
  exact List.forall_mem_cons.mpr ⟨rn_mem (i := 76) (by decide +kernel) (by decide +kernel), fun _ h => absurd h List.not_mem_nil⟩
theorem in_X1 : ∀ w ∈ u_ws RX1 TX1 4, w ∈ rn_ws := by
  show ∀ w ∈ [u_lay RX1 TX1 0, u_lay RX1 TX1 1, u_lay RX1 TX1 2, u_lay RX1 TX1 3], w ∈ rn_ws
  exact List.forall_mem_cons.mpr ⟨rn_mem (i := 114) (by decide +kernel) (by decide +kernel), List.forall_mem_cons.mpr ⟨rn_mem (i := 116) (by decide +kernel) (by decide +kernel), List.forall_mem_cons.mpr ⟨rn_mem (i := 118) (by decide +kernel) (by decide +kernel), List.forall_mem_cons.mpr ⟨rn_mem (i := 120) (by decide +kernel) (by decide +kernel), fun _ h => absurd h List.not_mem_nil⟩⟩⟩⟩
theorem in_X2 : ∀ w ∈ u_ws RX2 TX2 5, w ∈ rn_ws := by
  show ∀ w ∈ [u_lay RX2 TX2 0, u_lay RX2 TX2 1, u_lay RX2 TX2 2, u_lay RX2 TX2 3, u_lay RX2 TX2 4], w ∈ rn_ws
  exact List.forall_mem_cons.mpr ⟨rn_mem (i := 91) (by decide +kernel) (by decide +kernel), List.forall_mem_cons.mpr ⟨rn_mem (i := 93) (by decide +kernel) (by decide +kernel), List.forall_mem_cons.mpr ⟨rn_mem (i := 95) (by decide +kernel) (by decide +kernel), List.forall_mem_cons.mpr ⟨rn_mem (i := 97) (by decide +kernel) (by decide +kernel), List.forall_mem_cons.mpr ⟨rn_mem (i := 99) (by decide +kernel) (by decide +kernel), fun _ h => absurd h List.not_mem_nil⟩⟩⟩⟩⟩
theorem in_X3 : ∀ w ∈ u_ws RX3 TX3 3, w ∈ rn_ws := by
  show ∀ w ∈ [u_lay RX3 TX3 0, u_lay RX3 TX3 1, u_lay RX3 TX3 2], w ∈ rn_ws
  exact List.forall_mem_cons.mpr ⟨rn_mem (i := 53) (by decide +kernel) (by decide +kernel), List.forall_mem_cons.mpr ⟨rn_mem (i := 55) (by decide +kernel) (by decide +kernel), List.forall_mem_cons.mpr ⟨rn_mem (i := 57) (by decide +kernel) (by decide +kernel), fun _ h => absurd h List.not_mem_nil⟩⟩⟩
theorem in_X4 : ∀ w ∈ u_ws RX4 TX4 6, w ∈ rn_ws := by
  show ∀ w ∈ [u_lay RX4 TX4 0, u_lay RX4 TX4 1, u_lay RX4 TX4 2, u_lay RX4 TX4 3, u_lay RX4 TX4 4, u_lay RX4 TX4 5], w ∈ rn_ws
  exact List.forall_mem_cons.mpr ⟨rn_mem (i := 129) (by decide +kernel) (by decide +kernel), List.forall_mem_cons.mpr ⟨rn_mem (i := 131) (by decide +kernel) (by decide +kernel), List.forall_mem_cons.mpr ⟨rn_mem (i := 133) (by decide +kernel) (by decide +kernel), List.forall_mem_cons.mpr ⟨rn_mem (i := 135) (by decide +kernel) (by decide +kernel), List.forall_mem_cons.mpr ⟨rn_mem (i := 137) (by decide +kernel) (by decide +kernel), List.forall_mem_cons.mpr ⟨rn_mem (i := 139) (by decide +kernel) (by decide +kernel), fun _ h => absurd h List.not_mem_nil⟩⟩⟩⟩⟩⟩
theorem in_X5 : ∀ w ∈ u_ws RX5 TX5 19, w ∈ rn_ws := by
  show ∀ w ∈ [u_lay RX5 TX5 0, u_lay RX5 TX5 1, u_lay RX5 TX5 2, u_lay RX5 TX5 3, u_lay RX5 TX5 4, u_lay RX5 TX5 5, u_lay RX5 TX5 6, u_lay RX5 TX5 7, u_lay RX5 TX5 8, u_lay RX5 TX5 9, u_lay RX5 TX5 10, u_lay RX5 TX5 11, u_lay RX5 TX5 12, u_lay RX5 TX5 13, u_lay RX5 TX5 14, u_lay RX5 TX5 15, u_lay RX5 TX5 16, u_lay RX5 TX5 17, u_lay RX5 TX5 18], w ∈ rn_ws
  exact List.forall_mem_cons.mpr ⟨rn_mem (i := 567) (by decide +kernel) (by decide +kernel), List.forall_mem_cons.mpr ⟨rn_mem (i := 569) (by decide +kernel) (by decide +kernel), List.forall_mem_cons.mpr ⟨rn_mem (i := 571) (by decide +kernel) (by decide +kernel), List.forall_mem_cons.mpr ⟨rn_mem (i := 573) (by decide +kernel) (by decide +kernel), List.forall_mem_cons.mpr ⟨rn_mem (i := 575) (by decide +kernel) (by decide +kernel), List.forall_mem_cons.mpr ⟨rn_mem (i := 577) (by decide +kernel) (by decide +kernel), List.forall_mem_cons.mpr ⟨rn_mem (i := 579) (by decide +kernel) (by decide +kernel), List.forall_mem_cons.mpr ⟨rn_mem (i := 581) (by decide +kernel) (by decide +kernel), List.forall_mem_cons.mpr ⟨rn_mem (i := 583) (by decide +kernel) (by decide +kernel), List.forall_mem_cons.mpr ⟨rn_mem (i := 585) (by decide +kernel) (by decide +kernel), List.forall_mem_cons.mpr ⟨rn_mem (i := 587) (by decide +kernel) (by decide +kernel), List.forall_mem_cons.mpr ⟨rn_mem (i := 589) (by decide +kernel) (by decide +kernel), List.forall_mem_cons.mpr ⟨rn_mem (i := 591) (by decide +kernel) (by decide +kernel), List.forall_mem_cons.mpr ⟨rn_mem (i := 593) (by decide +kernel) (by decide +kernel), List.forall_mem_cons.mpr ⟨rn_mem (i := 595) (by decide +kernel) (by decide +kernel), List.forall_mem_cons.mpr ⟨rn_mem (i := 597) (by decide +kernel) (by decide +kernel), List.forall_mem_cons.mpr ⟨rn_mem (i := 599) (by decide +kernel) (by decide +kernel), List.forall_mem_cons.mpr ⟨rn_mem (i := 601) (by decide +kernel) (by decide +kernel), List.forall_mem_cons.mpr ⟨rn_mem (i := 603) (by decide +kernel) (by decide +kernel), fun _ h => absurd h List.not_mem_nil⟩⟩⟩⟩⟩⟩⟩⟩⟩⟩⟩⟩⟩⟩⟩⟩⟩⟩⟩
abbrev M_J7_fill_53178 : rMd := (yJ7_fill_53178, cJ7_fill_53178, 4, none, 0, 0)
abbrev M_J9_min_7cf53 : rMd := (yJ9_min_7cf53, cJ9_min_7cf53, 2, some .int, 0, 0)
abbrev M_L_law : rMd := (yL_law, cL_law, 4, some .boolean, 9, 332)
abbrev M_X0_addUser : rMd := (yX0_addUser, cX0_addUser, 5, none, 2, 48)
abbrev M_X0_anyHasOwn : rMd := (yX0_anyHasOwn, cX0_anyHasOwn, 3, some .boolean, 2, 44)
abbrev M_X0_beginRow : rMd := (yX0_beginRow, cX0_beginRow, 5, none, 1, 24)
abbrev M_X0_bring : rMd := (yX0_bring, cX0_bring, 4, some .int, 2, 51)
abbrev M_X0_clear : rMd := (yX0_clear, cX0_clear, 1, none, 1, 23)
abbrev M_X0_copyFrom : rMd := (yX0_copyFrom, cX0_copyFrom, 2, none, 1, 38)
abbrev M_X0_countFitted : rMd := (yX0_countFitted, cX0_countFitted, 4, some .int, 2, 51)
abbrev M_X0_countFitting : rMd := (yX0_countFitting, cX0_countFitting, 4, some .int, 2, 51)
abbrev M_X0_fitOf : rMd := (yX0_fitOf, cX0_fitOf, 8, some .int, 1, 24)
abbrev M_X0_gapOf : rMd := (yX0_gapOf, cX0_gapOf, 4, some .int, 2, 51)
abbrev M_X0_has : rMd := (yX0_has, cX0_has, 2, some .boolean, 0, 0)
abbrev M_X0_hasOwn : rMd := (yX0_hasOwn, cX0_hasOwn, 2, some .boolean, 1, 23)
abbrev M_X0_heardAt : rMd := (yX0_heardAt, cX0_heardAt, 3, some .int, 0, 0)
abbrev M_X0_heardCount : rMd := (yX0_heardCount, cX0_heardCount, 1, some .int, 0, 0)
abbrev M_X0_init : rMd := (yX0_init, cX0_init, 1, none, 2, 43)
abbrev M_X0_isInStep : rMd := (yX0_isInStep, cX0_isInStep, 2, some .boolean, 2, 51)
abbrev M_X0_isWarned : rMd := (yX0_isWarned, cX0_isWarned, 2, some .boolean, 1, 23)
abbrev M_X0_leastFitting : rMd := (yX0_leastFitting, cX0_leastFitting, 3, some .int, 2, 51)
abbrev M_X0_leastFrom : rMd := (yX0_leastFrom, cX0_leastFrom, 6, some .int, 2, 51)
abbrev M_X0_leastStolen : rMd := (yX0_leastStolen, cX0_leastStolen, 5, some .int, 3, 76)
abbrev M_X0_lesser : rMd := (yX0_lesser, cX0_lesser, 2, some .int, 1, 21)
abbrev M_X0_numberIn : rMd := (yX0_numberIn, cX0_numberIn, 1, some .int, 0, 0)
abbrev M_X0_of : rMd := (yX0_of, cX0_of, 4, some .int, 0, 0)
abbrev M_X0_overhear : rMd := (yX0_overhear, cX0_overhear, 2, none, 0, 0)
abbrev M_X0_passOf : rMd := (yX0_passOf, cX0_passOf, 3, some .int, 1, 24)
abbrev M_X0_put : rMd := (yX0_put, cX0_put, 4, none, 0, 0)
abbrev M_X0_sendPass : rMd := (yX0_sendPass, cX0_sendPass, 2, some .int, 3, 74)
abbrev M_X0_setWindow : rMd := (yX0_setWindow, cX0_setWindow, 2, none, 0, 0)
abbrev M_X0_spendPass : rMd := (yX0_spendPass, cX0_spendPass, 3, some .boolean, 2, 44)
abbrev M_X0_userIn : rMd := (yX0_userIn, cX0_userIn, 1, some .int, 0, 0)
abbrev M_X0_users : rMd := (yX0_users, cX0_users, 1, some .int, 0, 0)
abbrev M_X0_window : rMd := (yX0_window, cX0_window, 1, some .int, 0, 0)
abbrev M_X0_wire : rMd := (yX0_wire, cX0_wire, 1, some .int, 0, 0)
abbrev M_X1_add : rMd := (yX1_add, cX1_add, 5, some .boolean, 0, 0)
abbrev M_X1_agrees : rMd := (yX1_agrees, cX1_agrees, 5, some .boolean, 1, 24)
abbrev M_X1_countSeeds : rMd := (yX1_countSeeds, cX1_countSeeds, 4, some .int, 2, 48)
abbrev M_X1_init : rMd := (yX1_init, cX1_init, 1, none, 1, 20)
abbrev M_X1_leastSeed : rMd := (yX1_leastSeed, cX1_leastSeed, 3, some .int, 2, 48)
abbrev M_X2_bringBack : rMd := (yX2_bringBack, cX2_bringBack, 4, some .boolean, 1, 38)
abbrev M_X2_forgetAll : rMd := (yX2_forgetAll, cX2_forgetAll, 2, none, 0, 0)
abbrev M_X2_init : rMd := (yX2_init, cX2_init, 1, none, 1, 20)
abbrev M_X2_keepIn : rMd := (yX2_keepIn, cX2_keepIn, 4, some .boolean, 1, 38)
abbrev M_X2_remember : rMd := (yX2_remember, cX2_remember, 2, none, 1, 38)
abbrev M_X2_takeBack : rMd := (yX2_takeBack, cX2_takeBack, 4, some .boolean, 1, 38)
abbrev M_X3_append : rMd := (yX3_append, cX3_append, 3, some .boolean, 0, 0)
abbrev M_X3_init : rMd := (yX3_init, cX3_init, 1, none, 1, 20)
abbrev M_X3_isNext : rMd := (yX3_isNext, cX3_isNext, 2, some .boolean, 1, 20)
abbrev M_X3_nextLetter : rMd := (yX3_nextLetter, cX3_nextLetter, 1, some .int, 0, 0)
abbrev M_X3_readDoing : rMd := (yX3_readDoing, cX3_readDoing, 4, some .boolean, 4, 95)
abbrev M_X3_readFigure : rMd := (yX3_readFigure, cX3_readFigure, 4, some .int, 1, 22)
abbrev M_X3_readInto : rMd := (yX3_readInto, cX3_readInto, 5, some .int, 5, 118)
abbrev M_X3_readNumber : rMd := (yX3_readNumber, cX3_readNumber, 4, some .int, 2, 45)
abbrev M_X3_readRowLength : rMd := (yX3_readRowLength, cX3_readRowLength, 3, some .int, 2, 45)
abbrev M_X3_readUser : rMd := (yX3_readUser, cX3_readUser, 5, some .boolean, 3, 72)
abbrev M_X4_again : rMd := (yX4_again, cX4_again, 2, some .int, 2, 61)
abbrev M_X4_attempt : rMd := (yX4_attempt, cX4_attempt, 3, some .int, 3, 74)
abbrev M_X4_behind : rMd := (yX4_behind, cX4_behind, 4, some .int, 2, 42)
abbrev M_X4_commonDivisor : rMd := (yX4_commonDivisor, cX4_commonDivisor, 11, some .long, 0, 0)
abbrev M_X4_count : rMd := (yX4_count, cX4_count, 2, some .int, 1, 20)
abbrev M_X4_desk : rMd := (yX4_desk, cX4_desk, 1, some .int, 6, 142)
abbrev M_X4_drawn : rMd := (yX4_drawn, cX4_drawn, 4, some .int, 5, 117)
abbrev M_X4_fault : rMd := (yX4_fault, cX4_fault, 1, some .int, 6, 142)
abbrev M_X4_fits : rMd := (yX4_fits, cX4_fits, 3, some .int, 2, 51)
abbrev M_X4_fitting : rMd := (yX4_fitting, cX4_fitting, 3, some .int, 3, 74)
abbrev M_X4_guess : rMd := (yX4_guess, cX4_guess, 8, some .int, 3, 74)
abbrev M_X4_hear : rMd := (yX4_hear, cX4_hear, 1, some .int, 2, 59)
abbrev M_X4_heard : rMd := (yX4_heard, cX4_heard, 2, some .int, 1, 22)
abbrev M_X4_init : rMd := (yX4_init, cX4_init, 1, none, 3, 63)
abbrev M_X4_isNumber : rMd := (yX4_isNumber, cX4_isNumber, 1, some .boolean, 1, 22)
abbrev M_X4_isSo : rMd := (yX4_isSo, cX4_isSo, 4, some .boolean, 5, 117)
abbrev M_X4_isTakenOnDay : rMd := (yX4_isTakenOnDay, cX4_isTakenOnDay, 3, some .boolean, 4, 95)
abbrev M_X4_isWithin : rMd := (yX4_isWithin, cX4_isWithin, 3, some .boolean, 0, 0)
abbrev M_X4_judge : rMd := (yX4_judge, cX4_judge, 6, some .int, 6, 140)
abbrev M_X4_keep : rMd := (yX4_keep, cX4_keep, 2, some .int, 2, 61)
abbrev M_X4_loopOf : rMd := (yX4_loopOf, cX4_loopOf, 2, some .int, 3, 70)
abbrev M_X4_loss : rMd := (yX4_loss, cX4_loss, 8, some .int, 5, 122)
abbrev M_X4_miss : rMd := (yX4_miss, cX4_miss, 2, some .int, 3, 66)
abbrev M_X4_pass : rMd := (yX4_pass, cX4_pass, 3, some .int, 2, 46)
abbrev M_X4_power : rMd := (yX4_power, cX4_power, 5, some .long, 0, 0)
abbrev M_X4_renew : rMd := (yX4_renew, cX4_renew, 6, some .int, 4, 95)
abbrev M_X4_returnOf : rMd := (yX4_returnOf, cX4_returnOf, 4, some .int, 1, 24)
abbrev M_X4_see : rMd := (yX4_see, cX4_see, 4, some .int, 2, 42)
abbrev M_X4_seed : rMd := (yX4_seed, cX4_seed, 5, some .long, 0, 0)
abbrev M_X4_send : rMd := (yX4_send, cX4_send, 2, some .int, 4, 95)
abbrev M_X4_sendInMind : rMd := (yX4_sendInMind, cX4_sendInMind, 3, some .boolean, 4, 95)
abbrev M_X4_share : rMd := (yX4_share, cX4_share, 7, some .int, 3, 74)
abbrev M_X4_stepsBehind : rMd := (yX4_stepsBehind, cX4_stepsBehind, 5, some .int, 0, 0)
abbrev M_X4_tailOf : rMd := (yX4_tailOf, cX4_tailOf, 4, some .int, 2, 47)
abbrev M_X4_thief : rMd := (yX4_thief, cX4_thief, 2, some .int, 4, 100)
abbrev M_X4_toldFraction : rMd := (yX4_toldFraction, cX4_toldFraction, 7, some .int, 1, 30)
abbrev M_X4_undo : rMd := (yX4_undo, cX4_undo, 1, some .int, 2, 61)
abbrev M_X4_unsee : rMd := (yX4_unsee, cX4_unsee, 2, some .int, 0, 0)
abbrev M_X4_user : rMd := (yX4_user, cX4_user, 3, some .int, 4, 91)
abbrev M_X4_weightInStep : rMd := (yX4_weightInStep, cX4_weightInStep, 8, some .long, 4, 95)
abbrev M_X4_which : rMd := (yX4_which, cX4_which, 2, some .int, 3, 71)
abbrev M_X4_widen : rMd := (yX4_widen, cX4_widen, 3, some .int, 2, 59)
abbrev M_X4_widenInMind : rMd := (yX4_widenInMind, cX4_widenInMind, 3, some .boolean, 1, 22)
abbrev M_X4_wipe : rMd := (yX4_wipe, cX4_wipe, 2, some .int, 0, 0)
abbrev M_X4_withoutDoings : rMd := (yX4_withoutDoings, cX4_withoutDoings, 6, some .long, 0, 0)
abbrev M_X4_write : rMd := (yX4_write, cX4_write, 2, some .int, 1, 22)
abbrev M_X5_after : rMd := (yX5_after, cX5_after, 5, some .int, 0, 0)
abbrev M_X5_again : rMd := (yX5_again, cX5_again, 3, some .int, 1, 25)
abbrev M_X5_attempt : rMd := (yX5_attempt, cX5_attempt, 3, some .int, 2, 47)
abbrev M_X5_behind : rMd := (yX5_behind, cX5_behind, 4, some .int, 2, 45)
abbrev M_X5_comeOn : rMd := (yX5_comeOn, cX5_comeOn, 4, some .int, 1, 24)
abbrev M_X5_count : rMd := (yX5_count, cX5_count, 2, some .int, 0, 0)
abbrev M_X5_desk : rMd := (yX5_desk, cX5_desk, 3, some .int, 5, 117)
abbrev M_X5_divisor : rMd := (yX5_divisor, cX5_divisor, 5, some .int, 0, 0)
abbrev M_X5_does : rMd := (yX5_does, cX5_does, 9, some .boolean, 4, 88)
abbrev M_X5_drawn : rMd := (yX5_drawn, cX5_drawn, 5, some .int, 3, 68)
abbrev M_X5_factorial : rMd := (yX5_factorial, cX5_factorial, 3, some .int, 0, 0)
abbrev M_X5_fault : rMd := (yX5_fault, cX5_fault, 1, some .int, 5, 117)
abbrev M_X5_figure : rMd := (yX5_figure, cX5_figure, 4, some .int, 1, 25)
abbrev M_X5_fits : rMd := (yX5_fits, cX5_fits, 3, some .int, 2, 46)
abbrev M_X5_fitsOn : rMd := (yX5_fitsOn, cX5_fitsOn, 5, some .int, 0, 0)
abbrev M_X5_fitting : rMd := (yX5_fitting, cX5_fitting, 5, some .int, 2, 49)
abbrev M_X5_fittingOf : rMd := (yX5_fittingOf, cX5_fittingOf, 6, some .int, 1, 24)
abbrev M_X5_fraction : rMd := (yX5_fraction, cX5_fraction, 4, some .int, 1, 24)
abbrev M_X5_gap : rMd := (yX5_gap, cX5_gap, 4, some .int, 4, 88)
abbrev M_X5_guess : rMd := (yX5_guess, cX5_guess, 5, some .int, 2, 49)
abbrev M_X5_has : rMd := (yX5_has, cX5_has, 2, some .boolean, 0, 0)
abbrev M_X5_hasPass : rMd := (yX5_hasPass, cX5_hasPass, 2, some .boolean, 2, 46)
abbrev M_X5_hear : rMd := (yX5_hear, cX5_hear, 1, some .int, 1, 21)
abbrev M_X5_heard : rMd := (yX5_heard, cX5_heard, 2, some .int, 1, 25)
abbrev M_X5_in : rMd := (yX5_in, cX5_in, 6, some .boolean, 0, 0)
abbrev M_X5_init : rMd := (yX5_init, cX5_init, 1, none, 1, 21)
abbrev M_X5_isInStep : rMd := (yX5_isInStep, cX5_isInStep, 2, some .boolean, 3, 67)
abbrev M_X5_isNumber : rMd := (yX5_isNumber, cX5_isNumber, 1, some .boolean, 1, 25)
abbrev M_X5_judge : rMd := (yX5_judge, cX5_judge, 6, some .int, 5, 116)
abbrev M_X5_keep : rMd := (yX5_keep, cX5_keep, 3, some .int, 1, 25)
abbrev M_X5_lay : rMd := (yX5_lay, cX5_lay, 3, none, 0, 0)
abbrev M_X5_layFirst : rMd := (yX5_layFirst, cX5_layFirst, 2, none, 0, 0)
abbrev M_X5_layLoop : rMd := (yX5_layLoop, cX5_layLoop, 4, some .int, 1, 24)
abbrev M_X5_layUser : rMd := (yX5_layUser, cX5_layUser, 5, none, 1, 24)
abbrev M_X5_longPower : rMd := (yX5_longPower, cX5_longPower, 6, some .long, 0, 0)
abbrev M_X5_loss : rMd := (yX5_loss, cX5_loss, 8, some .int, 4, 88)
abbrev M_X5_miss : rMd := (yX5_miss, cX5_miss, 2, some .int, 3, 67)
abbrev M_X5_noUser : rMd := (yX5_noUser, cX5_noUser, 2, some .boolean, 1, 25)
abbrev M_X5_note : rMd := (yX5_note, cX5_note, 2, none, 0, 0)
abbrev M_X5_ones : rMd := (yX5_ones, cX5_ones, 3, some .int, 0, 0)
abbrev M_X5_pass : rMd := (yX5_pass, cX5_pass, 3, some .int, 2, 46)
abbrev M_X5_passOf : rMd := (yX5_passOf, cX5_passOf, 3, some .int, 1, 24)
abbrev M_X5_power : rMd := (yX5_power, cX5_power, 4, some .int, 0, 0)
abbrev M_X5_readDesk : rMd := (yX5_readDesk, cX5_readDesk, 3, some .int, 4, 95)
abbrev M_X5_readEvent : rMd := (yX5_readEvent, cX5_readEvent, 4, some .boolean, 3, 67)
abbrev M_X5_readNumber : rMd := (yX5_readNumber, cX5_readNumber, 4, some .int, 2, 48)
abbrev M_X5_readUser : rMd := (yX5_readUser, cX5_readUser, 5, some .boolean, 3, 71)
abbrev M_X5_renew : rMd := (yX5_renew, cX5_renew, 6, some .int, 3, 68)
abbrev M_X5_see : rMd := (yX5_see, cX5_see, 4, some .int, 2, 45)
abbrev M_X5_seed : rMd := (yX5_seed, cX5_seed, 5, some .long, 0, 0)
abbrev M_X5_send : rMd := (yX5_send, cX5_send, 2, some .int, 3, 68)
abbrev M_X5_sendOn : rMd := (yX5_sendOn, cX5_sendOn, 2, some .int, 2, 47)
abbrev M_X5_share : rMd := (yX5_share, cX5_share, 7, some .int, 2, 49)
abbrev M_X5_thief : rMd := (yX5_thief, cX5_thief, 6, some .int, 2, 46)
abbrev M_X5_undo : rMd := (yX5_undo, cX5_undo, 2, some .int, 0, 0)
abbrev M_X5_unsee : rMd := (yX5_unsee, cX5_unsee, 2, some .int, 0, 0)
abbrev M_X5_user : rMd := (yX5_user, cX5_user, 3, some .int, 5, 111)
abbrev M_X5_which : rMd := (yX5_which, cX5_which, 8, some .int, 2, 46)
abbrev M_X5_widen : rMd := (yX5_widen, cX5_widen, 3, some .int, 1, 25)
abbrev M_X5_wipe : rMd := (yX5_wipe, cX5_wipe, 2, some .int, 0, 0)
abbrev M_X5_write : rMd := (yX5_write, cX5_write, 2, some .int, 1, 25)
theorem s_J7_fill_53178 : rSm M_J7_fill_53178 2 := ⟨⟨rn_mem (i := 29) (by decide +kernel) (by decide +kernel), rn_mem (i := 73) (by decide +kernel) (by decide +kernel), by decide +kernel, by decide +kernel, by decide +kernel⟩, rn_mem (i := 72) (by decide +kernel) (by decide +kernel)⟩
theorem v_X0_addUser : rVm M_X0_addUser 3 := ⟨⟨rn_mem (i := 28) (by decide +kernel) (by decide +kernel), rn_mem (i := 201) (by decide +kernel) (by decide +kernel), by decide +kernel, by decide +kernel, by decide +kernel⟩, rn_mem (i := 199) (by decide +kernel) (by decide +kernel), rn_mem (i := 200) (by decide +kernel) (by decide +kernel)⟩
theorem v_X0_anyHasOwn : rVm M_X0_anyHasOwn 0 := ⟨⟨rn_mem (i := 28) (by decide +kernel) (by decide +kernel), rn_mem (i := 220) (by decide +kernel) (by decide +kernel), by decide +kernel, by decide +kernel, by decide +kernel⟩, rn_mem (i := 218) (by decide +kernel) (by decide +kernel), rn_mem (i := 219) (by decide +kernel) (by decide +kernel)⟩
theorem v_X0_beginRow : rVm M_X0_beginRow 4 := ⟨⟨rn_mem (i := 28) (by decide +kernel) (by decide +kernel), rn_mem (i := 205) (by decide +kernel) (by decide +kernel), by decide +kernel, by decide +kernel, by decide +kernel⟩, rn_mem (i := 203) (by decide +kernel) (by decide +kernel), rn_mem (i := 204) (by decide +kernel) (by decide +kernel)⟩
theorem v_X0_bring : rVm M_X0_bring 2 := ⟨⟨rn_mem (i := 28) (by decide +kernel) (by decide +kernel), rn_mem (i := 249) (by decide +kernel) (by decide +kernel), by decide +kernel, by decide +kernel, by decide +kernel⟩, rn_mem (i := 247) (by decide +kernel) (by decide +kernel), rn_mem (i := 248) (by decide +kernel) (by decide +kernel)⟩
theorem v_X0_clear : rVm M_X0_clear 0 := ⟨⟨rn_mem (i := 28) (by decide +kernel) (by decide +kernel), rn_mem (i := 70) (by decide +kernel) (by decide +kernel), by decide +kernel, by decide +kernel, by decide +kernel⟩, rn_mem (i := 68) (by decide +kernel) (by decide +kernel), rn_mem (i := 69) (by decide +kernel) (by decide +kernel)⟩
theorem v_X0_copyFrom : rVm M_X0_copyFrom 1 := ⟨⟨rn_mem (i := 28) (by decide +kernel) (by decide +kernel), rn_mem (i := 265) (by decide +kernel) (by decide +kernel), by decide +kernel, by decide +kernel, by decide +kernel⟩, rn_mem (i := 263) (by decide +kernel) (by decide +kernel), rn_mem (i := 264) (by decide +kernel) (by decide +kernel)⟩
theorem v_X0_countFitted : rVm M_X0_countFitted 1 := ⟨⟨rn_mem (i := 28) (by decide +kernel) (by decide +kernel), rn_mem (i := 443) (by decide +kernel) (by decide +kernel), by decide +kernel, by decide +kernel, by decide +kernel⟩, rn_mem (i := 441) (by decide +kernel) (by decide +kernel), rn_mem (i := 442) (by decide +kernel) (by decide +kernel)⟩
theorem v_X0_countFitting : rVm M_X0_countFitting 1 := ⟨⟨rn_mem (i := 28) (by decide +kernel) (by decide +kernel), rn_mem (i := 391) (by decide +kernel) (by decide +kernel), by decide +kernel, by decide +kernel, by decide +kernel⟩, rn_mem (i := 389) (by decide +kernel) (by decide +kernel), rn_mem (i := 390) (by decide +kernel) (by decide +kernel)⟩
theorem v_X0_fitOf : rVm M_X0_fitOf 2 := ⟨⟨rn_mem (i := 28) (by decide +kernel) (by decide +kernel), rn_mem (i := 253) (by decide +kernel) (by decide +kernel), by decide +kernel, by decide +kernel, by decide +kernel⟩, rn_mem (i := 251) (by decide +kernel) (by decide +kernel), rn_mem (i := 252) (by decide +kernel) (by decide +kernel)⟩
theorem v_X0_gapOf : rVm M_X0_gapOf 1 := ⟨⟨rn_mem (i := 28) (by decide +kernel) (by decide +kernel), rn_mem (i := 291) (by decide +kernel) (by decide +kernel), by decide +kernel, by decide +kernel, by decide +kernel⟩, rn_mem (i := 289) (by decide +kernel) (by decide +kernel), rn_mem (i := 290) (by decide +kernel) (by decide +kernel)⟩
theorem v_X0_has : rVm M_X0_has 1 := ⟨⟨rn_mem (i := 28) (by decide +kernel) (by decide +kernel), rn_mem (i := 228) (by decide +kernel) (by decide +kernel), by decide +kernel, by decide +kernel, by decide +kernel⟩, rn_mem (i := 226) (by decide +kernel) (by decide +kernel), rn_mem (i := 227) (by decide +kernel) (by decide +kernel)⟩
theorem v_X0_hasOwn : rVm M_X0_hasOwn 1 := ⟨⟨rn_mem (i := 28) (by decide +kernel) (by decide +kernel), rn_mem (i := 224) (by decide +kernel) (by decide +kernel), by decide +kernel, by decide +kernel, by decide +kernel⟩, rn_mem (i := 222) (by decide +kernel) (by decide +kernel), rn_mem (i := 223) (by decide +kernel) (by decide +kernel)⟩
theorem v_X0_heardAt : rVm M_X0_heardAt 1 := ⟨⟨rn_mem (i := 28) (by decide +kernel) (by decide +kernel), rn_mem (i := 407) (by decide +kernel) (by decide +kernel), by decide +kernel, by decide +kernel, by decide +kernel⟩, rn_mem (i := 405) (by decide +kernel) (by decide +kernel), rn_mem (i := 406) (by decide +kernel) (by decide +kernel)⟩
theorem v_X0_heardCount : rVm M_X0_heardCount 0 := ⟨⟨rn_mem (i := 28) (by decide +kernel) (by decide +kernel), rn_mem (i := 349) (by decide +kernel) (by decide +kernel), by decide +kernel, by decide +kernel, by decide +kernel⟩, rn_mem (i := 347) (by decide +kernel) (by decide +kernel), rn_mem (i := 348) (by decide +kernel) (by decide +kernel)⟩
theorem i_X0_init : rIm M_X0_init 0 := ⟨⟨rn_mem (i := 28) (by decide +kernel) (by decide +kernel), rn_mem (i := 65) (by decide +kernel) (by decide +kernel), by decide +kernel, by decide +kernel, by decide +kernel⟩, rn_mem (i := 64) (by decide +kernel) (by decide +kernel), rfl, rfl⟩
theorem v_X0_isInStep : rVm M_X0_isInStep 1 := ⟨⟨rn_mem (i := 28) (by decide +kernel) (by decide +kernel), rn_mem (i := 283) (by decide +kernel) (by decide +kernel), by decide +kernel, by decide +kernel, by decide +kernel⟩, rn_mem (i := 281) (by decide +kernel) (by decide +kernel), rn_mem (i := 282) (by decide +kernel) (by decide +kernel)⟩
theorem v_X0_isWarned : rVm M_X0_isWarned 1 := ⟨⟨rn_mem (i := 28) (by decide +kernel) (by decide +kernel), rn_mem (i := 287) (by decide +kernel) (by decide +kernel), by decide +kernel, by decide +kernel, by decide +kernel⟩, rn_mem (i := 285) (by decide +kernel) (by decide +kernel), rn_mem (i := 286) (by decide +kernel) (by decide +kernel)⟩
theorem v_X0_leastFitting : rVm M_X0_leastFitting 1 := ⟨⟨rn_mem (i := 28) (by decide +kernel) (by decide +kernel), rn_mem (i := 395) (by decide +kernel) (by decide +kernel), by decide +kernel, by decide +kernel, by decide +kernel⟩, rn_mem (i := 393) (by decide +kernel) (by decide +kernel), rn_mem (i := 394) (by decide +kernel) (by decide +kernel)⟩
theorem v_X0_leastFrom : rVm M_X0_leastFrom 2 := ⟨⟨rn_mem (i := 28) (by decide +kernel) (by decide +kernel), rn_mem (i := 415) (by decide +kernel) (by decide +kernel), by decide +kernel, by decide +kernel, by decide +kernel⟩, rn_mem (i := 414) (by decide +kernel) (by decide +kernel), rn_mem (i := 8) (by decide +kernel) (by decide +kernel)⟩
theorem v_X0_leastStolen : rVm M_X0_leastStolen 1 := ⟨⟨rn_mem (i := 28) (by decide +kernel) (by decide +kernel), rn_mem (i := 403) (by decide +kernel) (by decide +kernel), by decide +kernel, by decide +kernel, by decide +kernel⟩, rn_mem (i := 401) (by decide +kernel) (by decide +kernel), rn_mem (i := 402) (by decide +kernel) (by decide +kernel)⟩
theorem s_X0_lesser : rSm M_X0_lesser 2 := ⟨⟨rn_mem (i := 28) (by decide +kernel) (by decide +kernel), rn_mem (i := 418) (by decide +kernel) (by decide +kernel), by decide +kernel, by decide +kernel, by decide +kernel⟩, rn_mem (i := 417) (by decide +kernel) (by decide +kernel)⟩
theorem s_X0_numberIn : rSm M_X0_numberIn 1 := ⟨⟨rn_mem (i := 28) (by decide +kernel) (by decide +kernel), rn_mem (i := 356) (by decide +kernel) (by decide +kernel), by decide +kernel, by decide +kernel, by decide +kernel⟩, rn_mem (i := 355) (by decide +kernel) (by decide +kernel)⟩
theorem v_X0_of : rVm M_X0_of 2 := ⟨⟨rn_mem (i := 28) (by decide +kernel) (by decide +kernel), rn_mem (i := 232) (by decide +kernel) (by decide +kernel), by decide +kernel, by decide +kernel, by decide +kernel⟩, rn_mem (i := 230) (by decide +kernel) (by decide +kernel), rn_mem (i := 231) (by decide +kernel) (by decide +kernel)⟩
theorem v_X0_overhear : rVm M_X0_overhear 0 := ⟨⟨rn_mem (i := 28) (by decide +kernel) (by decide +kernel), rn_mem (i := 353) (by decide +kernel) (by decide +kernel), by decide +kernel, by decide +kernel, by decide +kernel⟩, rn_mem (i := 351) (by decide +kernel) (by decide +kernel), rn_mem (i := 352) (by decide +kernel) (by decide +kernel)⟩
theorem v_X0_passOf : rVm M_X0_passOf 2 := ⟨⟨rn_mem (i := 28) (by decide +kernel) (by decide +kernel), rn_mem (i := 245) (by decide +kernel) (by decide +kernel), by decide +kernel, by decide +kernel, by decide +kernel⟩, rn_mem (i := 243) (by decide +kernel) (by decide +kernel), rn_mem (i := 244) (by decide +kernel) (by decide +kernel)⟩
theorem v_X0_put : rVm M_X0_put 3 := ⟨⟨rn_mem (i := 28) (by decide +kernel) (by decide +kernel), rn_mem (i := 209) (by decide +kernel) (by decide +kernel), by decide +kernel, by decide +kernel, by decide +kernel⟩, rn_mem (i := 208) (by decide +kernel) (by decide +kernel), rn_mem (i := 6) (by decide +kernel) (by decide +kernel)⟩
theorem v_X0_sendPass : rVm M_X0_sendPass 1 := ⟨⟨rn_mem (i := 28) (by decide +kernel) (by decide +kernel), rn_mem (i := 237) (by decide +kernel) (by decide +kernel), by decide +kernel, by decide +kernel, by decide +kernel⟩, rn_mem (i := 235) (by decide +kernel) (by decide +kernel), rn_mem (i := 236) (by decide +kernel) (by decide +kernel)⟩
theorem v_X0_setWindow : rVm M_X0_setWindow 1 := ⟨⟨rn_mem (i := 28) (by decide +kernel) (by decide +kernel), rn_mem (i := 181) (by decide +kernel) (by decide +kernel), by decide +kernel, by decide +kernel, by decide +kernel⟩, rn_mem (i := 179) (by decide +kernel) (by decide +kernel), rn_mem (i := 180) (by decide +kernel) (by decide +kernel)⟩
theorem v_X0_spendPass : rVm M_X0_spendPass 1 := ⟨⟨rn_mem (i := 28) (by decide +kernel) (by decide +kernel), rn_mem (i := 241) (by decide +kernel) (by decide +kernel), by decide +kernel, by decide +kernel, by decide +kernel⟩, rn_mem (i := 239) (by decide +kernel) (by decide +kernel), rn_mem (i := 240) (by decide +kernel) (by decide +kernel)⟩
theorem s_X0_userIn : rSm M_X0_userIn 1 := ⟨⟨rn_mem (i := 28) (by decide +kernel) (by decide +kernel), rn_mem (i := 410) (by decide +kernel) (by decide +kernel), by decide +kernel, by decide +kernel, by decide +kernel⟩, rn_mem (i := 409) (by decide +kernel) (by decide +kernel)⟩
theorem v_X0_users : rVm M_X0_users 0 := ⟨⟨rn_mem (i := 28) (by decide +kernel) (by decide +kernel), rn_mem (i := 185) (by decide +kernel) (by decide +kernel), by decide +kernel, by decide +kernel, by decide +kernel⟩, rn_mem (i := 183) (by decide +kernel) (by decide +kernel), rn_mem (i := 184) (by decide +kernel) (by decide +kernel)⟩
theorem v_X0_window : rVm M_X0_window 0 := ⟨⟨rn_mem (i := 28) (by decide +kernel) (by decide +kernel), rn_mem (i := 369) (by decide +kernel) (by decide +kernel), by decide +kernel, by decide +kernel, by decide +kernel⟩, rn_mem (i := 367) (by decide +kernel) (by decide +kernel), rn_mem (i := 368) (by decide +kernel) (by decide +kernel)⟩
theorem v_X0_wire : rVm M_X0_wire 0 := ⟨⟨rn_mem (i := 28) (by decide +kernel) (by decide +kernel), rn_mem (i := 345) (by decide +kernel) (by decide +kernel), by decide +kernel, by decide +kernel, by decide +kernel⟩, rn_mem (i := 343) (by decide +kernel) (by decide +kernel), rn_mem (i := 344) (by decide +kernel) (by decide +kernel)⟩
theorem v_X1_add : rVm M_X1_add 3 := ⟨⟨rn_mem (i := 31) (by decide +kernel) (by decide +kernel), rn_mem (i := 455) (by decide +kernel) (by decide +kernel), by decide +kernel, by decide +kernel, by decide +kernel⟩, rn_mem (i := 453) (by decide +kernel) (by decide +kernel), rn_mem (i := 454) (by decide +kernel) (by decide +kernel)⟩
theorem v_X1_agrees : rVm M_X1_agrees 2 := ⟨⟨rn_mem (i := 31) (by decide +kernel) (by decide +kernel), rn_mem (i := 471) (by decide +kernel) (by decide +kernel), by decide +kernel, by decide +kernel, by decide +kernel⟩, rn_mem (i := 470) (by decide +kernel) (by decide +kernel), rn_mem (i := 12) (by decide +kernel) (by decide +kernel)⟩
theorem v_X1_countSeeds : rVm M_X1_countSeeds 1 := ⟨⟨rn_mem (i := 31) (by decide +kernel) (by decide +kernel), rn_mem (i := 467) (by decide +kernel) (by decide +kernel), by decide +kernel, by decide +kernel, by decide +kernel⟩, rn_mem (i := 465) (by decide +kernel) (by decide +kernel), rn_mem (i := 466) (by decide +kernel) (by decide +kernel)⟩
theorem i_X1_init : rIm M_X1_init 0 := ⟨⟨rn_mem (i := 31) (by decide +kernel) (by decide +kernel), rn_mem (i := 107) (by decide +kernel) (by decide +kernel), by decide +kernel, by decide +kernel, by decide +kernel⟩, rn_mem (i := 106) (by decide +kernel) (by decide +kernel), rfl, rfl⟩
theorem v_X1_leastSeed : rVm M_X1_leastSeed 1 := ⟨⟨rn_mem (i := 31) (by decide +kernel) (by decide +kernel), rn_mem (i := 478) (by decide +kernel) (by decide +kernel), by decide +kernel, by decide +kernel, by decide +kernel⟩, rn_mem (i := 476) (by decide +kernel) (by decide +kernel), rn_mem (i := 477) (by decide +kernel) (by decide +kernel)⟩
theorem v_X2_bringBack : rVm M_X2_bringBack 2 := ⟨⟨rn_mem (i := 30) (by decide +kernel) (by decide +kernel), rn_mem (i := 534) (by decide +kernel) (by decide +kernel), by decide +kernel, by decide +kernel, by decide +kernel⟩, rn_mem (i := 532) (by decide +kernel) (by decide +kernel), rn_mem (i := 533) (by decide +kernel) (by decide +kernel)⟩
theorem v_X2_forgetAll : rVm M_X2_forgetAll 0 := ⟨⟨rn_mem (i := 30) (by decide +kernel) (by decide +kernel), rn_mem (i := 272) (by decide +kernel) (by decide +kernel), by decide +kernel, by decide +kernel, by decide +kernel⟩, rn_mem (i := 270) (by decide +kernel) (by decide +kernel), rn_mem (i := 271) (by decide +kernel) (by decide +kernel)⟩
theorem i_X2_init : rIm M_X2_init 0 := ⟨⟨rn_mem (i := 30) (by decide +kernel) (by decide +kernel), rn_mem (i := 83) (by decide +kernel) (by decide +kernel), by decide +kernel, by decide +kernel, by decide +kernel⟩, rn_mem (i := 82) (by decide +kernel) (by decide +kernel), rfl, rfl⟩
theorem v_X2_keepIn : rVm M_X2_keepIn 2 := ⟨⟨rn_mem (i := 30) (by decide +kernel) (by decide +kernel), rn_mem (i := 526) (by decide +kernel) (by decide +kernel), by decide +kernel, by decide +kernel, by decide +kernel⟩, rn_mem (i := 524) (by decide +kernel) (by decide +kernel), rn_mem (i := 525) (by decide +kernel) (by decide +kernel)⟩
theorem v_X2_remember : rVm M_X2_remember 1 := ⟨⟨rn_mem (i := 30) (by decide +kernel) (by decide +kernel), rn_mem (i := 323) (by decide +kernel) (by decide +kernel), by decide +kernel, by decide +kernel, by decide +kernel⟩, rn_mem (i := 321) (by decide +kernel) (by decide +kernel), rn_mem (i := 322) (by decide +kernel) (by decide +kernel)⟩
theorem v_X2_takeBack : rVm M_X2_takeBack 1 := ⟨⟨rn_mem (i := 30) (by decide +kernel) (by decide +kernel), rn_mem (i := 378) (by decide +kernel) (by decide +kernel), by decide +kernel, by decide +kernel, by decide +kernel⟩, rn_mem (i := 376) (by decide +kernel) (by decide +kernel), rn_mem (i := 377) (by decide +kernel) (by decide +kernel)⟩
theorem v_X3_append : rVm M_X3_append 1 := ⟨⟨rn_mem (i := 27) (by decide +kernel) (by decide +kernel), rn_mem (i := 149) (by decide +kernel) (by decide +kernel), by decide +kernel, by decide +kernel, by decide +kernel⟩, rn_mem (i := 147) (by decide +kernel) (by decide +kernel), rn_mem (i := 148) (by decide +kernel) (by decide +kernel)⟩
theorem i_X3_init : rIm M_X3_init 0 := ⟨⟨rn_mem (i := 27) (by decide +kernel) (by decide +kernel), rn_mem (i := 47) (by decide +kernel) (by decide +kernel), by decide +kernel, by decide +kernel, by decide +kernel⟩, rn_mem (i := 46) (by decide +kernel) (by decide +kernel), rfl, rfl⟩
theorem v_X3_isNext : rVm M_X3_isNext 1 := ⟨⟨rn_mem (i := 27) (by decide +kernel) (by decide +kernel), rn_mem (i := 166) (by decide +kernel) (by decide +kernel), by decide +kernel, by decide +kernel, by decide +kernel⟩, rn_mem (i := 165) (by decide +kernel) (by decide +kernel), rn_mem (i := 0) (by decide +kernel) (by decide +kernel)⟩
theorem v_X3_nextLetter : rVm M_X3_nextLetter 0 := ⟨⟨rn_mem (i := 27) (by decide +kernel) (by decide +kernel), rn_mem (i := 170) (by decide +kernel) (by decide +kernel), by decide +kernel, by decide +kernel, by decide +kernel⟩, rn_mem (i := 169) (by decide +kernel) (by decide +kernel), rn_mem (i := 1) (by decide +kernel) (by decide +kernel)⟩
theorem v_X3_readDoing : rVm M_X3_readDoing 1 := ⟨⟨rn_mem (i := 27) (by decide +kernel) (by decide +kernel), rn_mem (i := 216) (by decide +kernel) (by decide +kernel), by decide +kernel, by decide +kernel, by decide +kernel⟩, rn_mem (i := 215) (by decide +kernel) (by decide +kernel), rn_mem (i := 7) (by decide +kernel) (by decide +kernel)⟩
theorem v_X3_readFigure : rVm M_X3_readFigure 2 := ⟨⟨rn_mem (i := 27) (by decide +kernel) (by decide +kernel), rn_mem (i := 174) (by decide +kernel) (by decide +kernel), by decide +kernel, by decide +kernel, by decide +kernel⟩, rn_mem (i := 173) (by decide +kernel) (by decide +kernel), rn_mem (i := 2) (by decide +kernel) (by decide +kernel)⟩
theorem v_X3_readInto : rVm M_X3_readInto 1 := ⟨⟨rn_mem (i := 27) (by decide +kernel) (by decide +kernel), rn_mem (i := 161) (by decide +kernel) (by decide +kernel), by decide +kernel, by decide +kernel, by decide +kernel⟩, rn_mem (i := 159) (by decide +kernel) (by decide +kernel), rn_mem (i := 160) (by decide +kernel) (by decide +kernel)⟩
theorem v_X3_readNumber : rVm M_X3_readNumber 0 := ⟨⟨rn_mem (i := 27) (by decide +kernel) (by decide +kernel), rn_mem (i := 193) (by decide +kernel) (by decide +kernel), by decide +kernel, by decide +kernel, by decide +kernel⟩, rn_mem (i := 192) (by decide +kernel) (by decide +kernel), rn_mem (i := 4) (by decide +kernel) (by decide +kernel)⟩
theorem v_X3_readRowLength : rVm M_X3_readRowLength 0 := ⟨⟨rn_mem (i := 27) (by decide +kernel) (by decide +kernel), rn_mem (i := 197) (by decide +kernel) (by decide +kernel), by decide +kernel, by decide +kernel, by decide +kernel⟩, rn_mem (i := 196) (by decide +kernel) (by decide +kernel), rn_mem (i := 5) (by decide +kernel) (by decide +kernel)⟩
theorem v_X3_readUser : rVm M_X3_readUser 1 := ⟨⟨rn_mem (i := 27) (by decide +kernel) (by decide +kernel), rn_mem (i := 189) (by decide +kernel) (by decide +kernel), by decide +kernel, by decide +kernel, by decide +kernel⟩, rn_mem (i := 188) (by decide +kernel) (by decide +kernel), rn_mem (i := 3) (by decide +kernel) (by decide +kernel)⟩
theorem v_X4_again : rVm M_X4_again 1 := ⟨⟨rn_mem (i := 26) (by decide +kernel) (by decide +kernel), rn_mem (i := 530) (by decide +kernel) (by decide +kernel), by decide +kernel, by decide +kernel, by decide +kernel⟩, rn_mem (i := 528) (by decide +kernel) (by decide +kernel), rn_mem (i := 529) (by decide +kernel) (by decide +kernel)⟩
theorem v_X4_attempt : rVm M_X4_attempt 2 := ⟨⟨rn_mem (i := 26) (by decide +kernel) (by decide +kernel), rn_mem (i := 336) (by decide +kernel) (by decide +kernel), by decide +kernel, by decide +kernel, by decide +kernel⟩, rn_mem (i := 334) (by decide +kernel) (by decide +kernel), rn_mem (i := 335) (by decide +kernel) (by decide +kernel)⟩
theorem v_X4_behind : rVm M_X4_behind 3 := ⟨⟨rn_mem (i := 26) (by decide +kernel) (by decide +kernel), rn_mem (i := 310) (by decide +kernel) (by decide +kernel), by decide +kernel, by decide +kernel, by decide +kernel⟩, rn_mem (i := 308) (by decide +kernel) (by decide +kernel), rn_mem (i := 309) (by decide +kernel) (by decide +kernel)⟩
theorem s_X4_commonDivisor : rSm M_X4_commonDivisor 2 := ⟨⟨rn_mem (i := 26) (by decide +kernel) (by decide +kernel), rn_mem (i := 489) (by decide +kernel) (by decide +kernel), by decide +kernel, by decide +kernel, by decide +kernel⟩, rn_mem (i := 488) (by decide +kernel) (by decide +kernel)⟩
theorem v_X4_count : rVm M_X4_count 1 := ⟨⟨rn_mem (i := 26) (by decide +kernel) (by decide +kernel), rn_mem (i := 538) (by decide +kernel) (by decide +kernel), by decide +kernel, by decide +kernel, by decide +kernel⟩, rn_mem (i := 536) (by decide +kernel) (by decide +kernel), rn_mem (i := 537) (by decide +kernel) (by decide +kernel)⟩
theorem v_X4_desk : rVm M_X4_desk 0 := ⟨⟨rn_mem (i := 26) (by decide +kernel) (by decide +kernel), rn_mem (i := 261) (by decide +kernel) (by decide +kernel), by decide +kernel, by decide +kernel, by decide +kernel⟩, rn_mem (i := 259) (by decide +kernel) (by decide +kernel), rn_mem (i := 260) (by decide +kernel) (by decide +kernel)⟩
theorem v_X4_drawn : rVm M_X4_drawn 1 := ⟨⟨rn_mem (i := 26) (by decide +kernel) (by decide +kernel), rn_mem (i := 512) (by decide +kernel) (by decide +kernel), by decide +kernel, by decide +kernel, by decide +kernel⟩, rn_mem (i := 510) (by decide +kernel) (by decide +kernel), rn_mem (i := 511) (by decide +kernel) (by decide +kernel)⟩
theorem v_X4_fault : rVm M_X4_fault 0 := ⟨⟨rn_mem (i := 26) (by decide +kernel) (by decide +kernel), rn_mem (i := 157) (by decide +kernel) (by decide +kernel), by decide +kernel, by decide +kernel, by decide +kernel⟩, rn_mem (i := 155) (by decide +kernel) (by decide +kernel), rn_mem (i := 156) (by decide +kernel) (by decide +kernel)⟩
theorem v_X4_fits : rVm M_X4_fits 2 := ⟨⟨rn_mem (i := 26) (by decide +kernel) (by decide +kernel), rn_mem (i := 382) (by decide +kernel) (by decide +kernel), by decide +kernel, by decide +kernel, by decide +kernel⟩, rn_mem (i := 380) (by decide +kernel) (by decide +kernel), rn_mem (i := 381) (by decide +kernel) (by decide +kernel)⟩
theorem v_X4_fitting : rVm M_X4_fitting 2 := ⟨⟨rn_mem (i := 26) (by decide +kernel) (by decide +kernel), rn_mem (i := 387) (by decide +kernel) (by decide +kernel), by decide +kernel, by decide +kernel, by decide +kernel⟩, rn_mem (i := 385) (by decide +kernel) (by decide +kernel), rn_mem (i := 386) (by decide +kernel) (by decide +kernel)⟩
theorem v_X4_guess : rVm M_X4_guess 3 := ⟨⟨rn_mem (i := 26) (by decide +kernel) (by decide +kernel), rn_mem (i := 493) (by decide +kernel) (by decide +kernel), by decide +kernel, by decide +kernel, by decide +kernel⟩, rn_mem (i := 491) (by decide +kernel) (by decide +kernel), rn_mem (i := 492) (by decide +kernel) (by decide +kernel)⟩
theorem v_X4_hear : rVm M_X4_hear 0 := ⟨⟨rn_mem (i := 26) (by decide +kernel) (by decide +kernel), rn_mem (i := 341) (by decide +kernel) (by decide +kernel), by decide +kernel, by decide +kernel, by decide +kernel⟩, rn_mem (i := 339) (by decide +kernel) (by decide +kernel), rn_mem (i := 340) (by decide +kernel) (by decide +kernel)⟩
theorem v_X4_heard : rVm M_X4_heard 1 := ⟨⟨rn_mem (i := 26) (by decide +kernel) (by decide +kernel), rn_mem (i := 422) (by decide +kernel) (by decide +kernel), by decide +kernel, by decide +kernel, by decide +kernel⟩, rn_mem (i := 420) (by decide +kernel) (by decide +kernel), rn_mem (i := 421) (by decide +kernel) (by decide +kernel)⟩
theorem i_X4_init : rIm M_X4_init 0 := ⟨⟨rn_mem (i := 26) (by decide +kernel) (by decide +kernel), rn_mem (i := 39) (by decide +kernel) (by decide +kernel), by decide +kernel, by decide +kernel, by decide +kernel⟩, rn_mem (i := 38) (by decide +kernel) (by decide +kernel), rfl, rfl⟩
theorem s_X4_isNumber : rSm M_X4_isNumber 1 := ⟨⟨rn_mem (i := 26) (by decide +kernel) (by decide +kernel), rn_mem (i := 313) (by decide +kernel) (by decide +kernel), by decide +kernel, by decide +kernel, by decide +kernel⟩, rn_mem (i := 312) (by decide +kernel) (by decide +kernel)⟩
theorem v_X4_isSo : rVm M_X4_isSo 1 := ⟨⟨rn_mem (i := 26) (by decide +kernel) (by decide +kernel), rn_mem (i := 435) (by decide +kernel) (by decide +kernel), by decide +kernel, by decide +kernel, by decide +kernel⟩, rn_mem (i := 434) (by decide +kernel) (by decide +kernel), rn_mem (i := 9) (by decide +kernel) (by decide +kernel)⟩
theorem v_X4_isTakenOnDay : rVm M_X4_isTakenOnDay 1 := ⟨⟨rn_mem (i := 26) (by decide +kernel) (by decide +kernel), rn_mem (i := 518) (by decide +kernel) (by decide +kernel), by decide +kernel, by decide +kernel, by decide +kernel⟩, rn_mem (i := 517) (by decide +kernel) (by decide +kernel), rn_mem (i := 14) (by decide +kernel) (by decide +kernel)⟩
theorem s_X4_isWithin : rSm M_X4_isWithin 3 := ⟨⟨rn_mem (i := 26) (by decide +kernel) (by decide +kernel), rn_mem (i := 177) (by decide +kernel) (by decide +kernel), by decide +kernel, by decide +kernel, by decide +kernel⟩, rn_mem (i := 176) (by decide +kernel) (by decide +kernel)⟩
theorem v_X4_judge : rVm M_X4_judge 2 := ⟨⟨rn_mem (i := 26) (by decide +kernel) (by decide +kernel), rn_mem (i := 427) (by decide +kernel) (by decide +kernel), by decide +kernel, by decide +kernel, by decide +kernel⟩, rn_mem (i := 425) (by decide +kernel) (by decide +kernel), rn_mem (i := 426) (by decide +kernel) (by decide +kernel)⟩
theorem v_X4_keep : rVm M_X4_keep 1 := ⟨⟨rn_mem (i := 26) (by decide +kernel) (by decide +kernel), rn_mem (i := 522) (by decide +kernel) (by decide +kernel), by decide +kernel, by decide +kernel, by decide +kernel⟩, rn_mem (i := 520) (by decide +kernel) (by decide +kernel), rn_mem (i := 521) (by decide +kernel) (by decide +kernel)⟩
theorem s_X4_loopOf : rSm M_X4_loopOf 2 := ⟨⟨rn_mem (i := 26) (by decide +kernel) (by decide +kernel), rn_mem (i := 301) (by decide +kernel) (by decide +kernel), by decide +kernel, by decide +kernel, by decide +kernel⟩, rn_mem (i := 300) (by decide +kernel) (by decide +kernel)⟩
theorem v_X4_loss : rVm M_X4_loss 4 := ⟨⟨rn_mem (i := 26) (by decide +kernel) (by decide +kernel), rn_mem (i := 500) (by decide +kernel) (by decide +kernel), by decide +kernel, by decide +kernel, by decide +kernel⟩, rn_mem (i := 498) (by decide +kernel) (by decide +kernel), rn_mem (i := 499) (by decide +kernel) (by decide +kernel)⟩
theorem v_X4_miss : rVm M_X4_miss 1 := ⟨⟨rn_mem (i := 26) (by decide +kernel) (by decide +kernel), rn_mem (i := 331) (by decide +kernel) (by decide +kernel), by decide +kernel, by decide +kernel, by decide +kernel⟩, rn_mem (i := 329) (by decide +kernel) (by decide +kernel), rn_mem (i := 330) (by decide +kernel) (by decide +kernel)⟩
theorem v_X4_pass : rVm M_X4_pass 2 := ⟨⟨rn_mem (i := 26) (by decide +kernel) (by decide +kernel), rn_mem (i := 305) (by decide +kernel) (by decide +kernel), by decide +kernel, by decide +kernel, by decide +kernel⟩, rn_mem (i := 303) (by decide +kernel) (by decide +kernel), rn_mem (i := 304) (by decide +kernel) (by decide +kernel)⟩
theorem s_X4_power : rSm M_X4_power 2 := ⟨⟨rn_mem (i := 26) (by decide +kernel) (by decide +kernel), rn_mem (i := 496) (by decide +kernel) (by decide +kernel), by decide +kernel, by decide +kernel, by decide +kernel⟩, rn_mem (i := 495) (by decide +kernel) (by decide +kernel)⟩
theorem v_X4_renew : rVm M_X4_renew 4 := ⟨⟨rn_mem (i := 26) (by decide +kernel) (by decide +kernel), rn_mem (i := 360) (by decide +kernel) (by decide +kernel), by decide +kernel, by decide +kernel, by decide +kernel⟩, rn_mem (i := 358) (by decide +kernel) (by decide +kernel), rn_mem (i := 359) (by decide +kernel) (by decide +kernel)⟩
theorem s_X4_returnOf : rSm M_X4_returnOf 2 := ⟨⟨rn_mem (i := 26) (by decide +kernel) (by decide +kernel), rn_mem (i := 297) (by decide +kernel) (by decide +kernel), by decide +kernel, by decide +kernel, by decide +kernel⟩, rn_mem (i := 296) (by decide +kernel) (by decide +kernel)⟩
theorem v_X4_see : rVm M_X4_see 3 := ⟨⟨rn_mem (i := 26) (by decide +kernel) (by decide +kernel), rn_mem (i := 451) (by decide +kernel) (by decide +kernel), by decide +kernel, by decide +kernel, by decide +kernel⟩, rn_mem (i := 449) (by decide +kernel) (by decide +kernel), rn_mem (i := 450) (by decide +kernel) (by decide +kernel)⟩
theorem v_X4_seed : rVm M_X4_seed 1 := ⟨⟨rn_mem (i := 26) (by decide +kernel) (by decide +kernel), rn_mem (i := 508) (by decide +kernel) (by decide +kernel), by decide +kernel, by decide +kernel, by decide +kernel⟩, rn_mem (i := 506) (by decide +kernel) (by decide +kernel), rn_mem (i := 507) (by decide +kernel) (by decide +kernel)⟩
theorem v_X4_send : rVm M_X4_send 1 := ⟨⟨rn_mem (i := 26) (by decide +kernel) (by decide +kernel), rn_mem (i := 318) (by decide +kernel) (by decide +kernel), by decide +kernel, by decide +kernel, by decide +kernel⟩, rn_mem (i := 316) (by decide +kernel) (by decide +kernel), rn_mem (i := 317) (by decide +kernel) (by decide +kernel)⟩
theorem v_X4_sendInMind : rVm M_X4_sendInMind 1 := ⟨⟨rn_mem (i := 26) (by decide +kernel) (by decide +kernel), rn_mem (i := 439) (by decide +kernel) (by decide +kernel), by decide +kernel, by decide +kernel, by decide +kernel⟩, rn_mem (i := 438) (by decide +kernel) (by decide +kernel), rn_mem (i := 10) (by decide +kernel) (by decide +kernel)⟩
theorem v_X4_share : rVm M_X4_share 2 := ⟨⟨rn_mem (i := 26) (by decide +kernel) (by decide +kernel), rn_mem (i := 482) (by decide +kernel) (by decide +kernel), by decide +kernel, by decide +kernel, by decide +kernel⟩, rn_mem (i := 480) (by decide +kernel) (by decide +kernel), rn_mem (i := 481) (by decide +kernel) (by decide +kernel)⟩
theorem s_X4_stepsBehind : rSm M_X4_stepsBehind 3 := ⟨⟨rn_mem (i := 26) (by decide +kernel) (by decide +kernel), rn_mem (i := 212) (by decide +kernel) (by decide +kernel), by decide +kernel, by decide +kernel, by decide +kernel⟩, rn_mem (i := 211) (by decide +kernel) (by decide +kernel)⟩
theorem s_X4_tailOf : rSm M_X4_tailOf 2 := ⟨⟨rn_mem (i := 26) (by decide +kernel) (by decide +kernel), rn_mem (i := 294) (by decide +kernel) (by decide +kernel), by decide +kernel, by decide +kernel, by decide +kernel⟩, rn_mem (i := 293) (by decide +kernel) (by decide +kernel)⟩
theorem v_X4_thief : rVm M_X4_thief 1 := ⟨⟨rn_mem (i := 26) (by decide +kernel) (by decide +kernel), rn_mem (i := 399) (by decide +kernel) (by decide +kernel), by decide +kernel, by decide +kernel, by decide +kernel⟩, rn_mem (i := 397) (by decide +kernel) (by decide +kernel), rn_mem (i := 398) (by decide +kernel) (by decide +kernel)⟩
theorem s_X4_toldFraction : rSm M_X4_toldFraction 3 := ⟨⟨rn_mem (i := 26) (by decide +kernel) (by decide +kernel), rn_mem (i := 486) (by decide +kernel) (by decide +kernel), by decide +kernel, by decide +kernel, by decide +kernel⟩, rn_mem (i := 485) (by decide +kernel) (by decide +kernel)⟩
theorem v_X4_undo : rVm M_X4_undo 0 := ⟨⟨rn_mem (i := 26) (by decide +kernel) (by decide +kernel), rn_mem (i := 374) (by decide +kernel) (by decide +kernel), by decide +kernel, by decide +kernel, by decide +kernel⟩, rn_mem (i := 372) (by decide +kernel) (by decide +kernel), rn_mem (i := 373) (by decide +kernel) (by decide +kernel)⟩
theorem v_X4_unsee : rVm M_X4_unsee 0 := ⟨⟨rn_mem (i := 26) (by decide +kernel) (by decide +kernel), rn_mem (i := 459) (by decide +kernel) (by decide +kernel), by decide +kernel, by decide +kernel, by decide +kernel⟩, rn_mem (i := 457) (by decide +kernel) (by decide +kernel), rn_mem (i := 458) (by decide +kernel) (by decide +kernel)⟩
theorem v_X4_user : rVm M_X4_user 2 := ⟨⟨rn_mem (i := 26) (by decide +kernel) (by decide +kernel), rn_mem (i := 277) (by decide +kernel) (by decide +kernel), by decide +kernel, by decide +kernel, by decide +kernel⟩, rn_mem (i := 275) (by decide +kernel) (by decide +kernel), rn_mem (i := 276) (by decide +kernel) (by decide +kernel)⟩
theorem v_X4_weightInStep : rVm M_X4_weightInStep 4 := ⟨⟨rn_mem (i := 26) (by decide +kernel) (by decide +kernel), rn_mem (i := 504) (by decide +kernel) (by decide +kernel), by decide +kernel, by decide +kernel, by decide +kernel⟩, rn_mem (i := 503) (by decide +kernel) (by decide +kernel), rn_mem (i := 13) (by decide +kernel) (by decide +kernel)⟩
theorem v_X4_which : rVm M_X4_which 1 := ⟨⟨rn_mem (i := 26) (by decide +kernel) (by decide +kernel), rn_mem (i := 463) (by decide +kernel) (by decide +kernel), by decide +kernel, by decide +kernel, by decide +kernel⟩, rn_mem (i := 461) (by decide +kernel) (by decide +kernel), rn_mem (i := 462) (by decide +kernel) (by decide +kernel)⟩
theorem v_X4_widen : rVm M_X4_widen 1 := ⟨⟨rn_mem (i := 26) (by decide +kernel) (by decide +kernel), rn_mem (i := 365) (by decide +kernel) (by decide +kernel), by decide +kernel, by decide +kernel, by decide +kernel⟩, rn_mem (i := 363) (by decide +kernel) (by decide +kernel), rn_mem (i := 364) (by decide +kernel) (by decide +kernel)⟩
theorem v_X4_widenInMind : rVm M_X4_widenInMind 1 := ⟨⟨rn_mem (i := 26) (by decide +kernel) (by decide +kernel), rn_mem (i := 447) (by decide +kernel) (by decide +kernel), by decide +kernel, by decide +kernel, by decide +kernel⟩, rn_mem (i := 446) (by decide +kernel) (by decide +kernel), rn_mem (i := 11) (by decide +kernel) (by decide +kernel)⟩
theorem v_X4_wipe : rVm M_X4_wipe 0 := ⟨⟨rn_mem (i := 26) (by decide +kernel) (by decide +kernel), rn_mem (i := 153) (by decide +kernel) (by decide +kernel), by decide +kernel, by decide +kernel, by decide +kernel⟩, rn_mem (i := 151) (by decide +kernel) (by decide +kernel), rn_mem (i := 152) (by decide +kernel) (by decide +kernel)⟩
theorem s_X4_withoutDoings : rSm M_X4_withoutDoings 2 := ⟨⟨rn_mem (i := 26) (by decide +kernel) (by decide +kernel), rn_mem (i := 430) (by decide +kernel) (by decide +kernel), by decide +kernel, by decide +kernel, by decide +kernel⟩, rn_mem (i := 429) (by decide +kernel) (by decide +kernel)⟩
theorem v_X4_write : rVm M_X4_write 1 := ⟨⟨rn_mem (i := 26) (by decide +kernel) (by decide +kernel), rn_mem (i := 145) (by decide +kernel) (by decide +kernel), by decide +kernel, by decide +kernel, by decide +kernel⟩, rn_mem (i := 143) (by decide +kernel) (by decide +kernel), rn_mem (i := 144) (by decide +kernel) (by decide +kernel)⟩
theorem s_X5_after : rSm M_X5_after 3 := ⟨⟨rn_mem (i := 32) (by decide +kernel) (by decide +kernel), rn_mem (i := 643) (by decide +kernel) (by decide +kernel), by decide +kernel, by decide +kernel, by decide +kernel⟩, rn_mem (i := 642) (by decide +kernel) (by decide +kernel)⟩
theorem v_X5_again : rVm M_X5_again 1 := ⟨⟨rn_mem (i := 32) (by decide +kernel) (by decide +kernel), rn_mem (i := 832) (by decide +kernel) (by decide +kernel), by decide +kernel, by decide +kernel, by decide +kernel⟩, rn_mem (i := 830) (by decide +kernel) (by decide +kernel), rn_mem (i := 831) (by decide +kernel) (by decide +kernel)⟩
theorem v_X5_attempt : rVm M_X5_attempt 2 := ⟨⟨rn_mem (i := 32) (by decide +kernel) (by decide +kernel), rn_mem (i := 717) (by decide +kernel) (by decide +kernel), by decide +kernel, by decide +kernel, by decide +kernel⟩, rn_mem (i := 715) (by decide +kernel) (by decide +kernel), rn_mem (i := 716) (by decide +kernel) (by decide +kernel)⟩
theorem v_X5_behind : rVm M_X5_behind 3 := ⟨⟨rn_mem (i := 32) (by decide +kernel) (by decide +kernel), rn_mem (i := 696) (by decide +kernel) (by decide +kernel), by decide +kernel, by decide +kernel, by decide +kernel⟩, rn_mem (i := 694) (by decide +kernel) (by decide +kernel), rn_mem (i := 695) (by decide +kernel) (by decide +kernel)⟩
theorem s_X5_comeOn : rSm M_X5_comeOn 3 := ⟨⟨rn_mem (i := 32) (by decide +kernel) (by decide +kernel), rn_mem (i := 669) (by decide +kernel) (by decide +kernel), by decide +kernel, by decide +kernel, by decide +kernel⟩, rn_mem (i := 668) (by decide +kernel) (by decide +kernel)⟩
theorem v_X5_count : rVm M_X5_count 1 := ⟨⟨rn_mem (i := 32) (by decide +kernel) (by decide +kernel), rn_mem (i := 836) (by decide +kernel) (by decide +kernel), by decide +kernel, by decide +kernel, by decide +kernel⟩, rn_mem (i := 834) (by decide +kernel) (by decide +kernel), rn_mem (i := 835) (by decide +kernel) (by decide +kernel)⟩
theorem v_X5_desk : rVm M_X5_desk 0 := ⟨⟨rn_mem (i := 32) (by decide +kernel) (by decide +kernel), rn_mem (i := 657) (by decide +kernel) (by decide +kernel), by decide +kernel, by decide +kernel, by decide +kernel⟩, rn_mem (i := 655) (by decide +kernel) (by decide +kernel), rn_mem (i := 656) (by decide +kernel) (by decide +kernel)⟩
theorem s_X5_divisor : rSm M_X5_divisor 2 := ⟨⟨rn_mem (i := 32) (by decide +kernel) (by decide +kernel), rn_mem (i := 801) (by decide +kernel) (by decide +kernel), by decide +kernel, by decide +kernel, by decide +kernel⟩, rn_mem (i := 800) (by decide +kernel) (by decide +kernel)⟩
theorem v_X5_does : rVm M_X5_does 4 := ⟨⟨rn_mem (i := 32) (by decide +kernel) (by decide +kernel), rn_mem (i := 771) (by decide +kernel) (by decide +kernel), by decide +kernel, by decide +kernel, by decide +kernel⟩, rn_mem (i := 770) (by decide +kernel) (by decide +kernel), rn_mem (i := 24) (by decide +kernel) (by decide +kernel)⟩
theorem v_X5_drawn : rVm M_X5_drawn 1 := ⟨⟨rn_mem (i := 32) (by decide +kernel) (by decide +kernel), rn_mem (i := 821) (by decide +kernel) (by decide +kernel), by decide +kernel, by decide +kernel, by decide +kernel⟩, rn_mem (i := 819) (by decide +kernel) (by decide +kernel), rn_mem (i := 820) (by decide +kernel) (by decide +kernel)⟩
theorem s_X5_factorial : rSm M_X5_factorial 1 := ⟨⟨rn_mem (i := 32) (by decide +kernel) (by decide +kernel), rn_mem (i := 795) (by decide +kernel) (by decide +kernel), by decide +kernel, by decide +kernel, by decide +kernel⟩, rn_mem (i := 794) (by decide +kernel) (by decide +kernel)⟩
theorem v_X5_fault : rVm M_X5_fault 0 := ⟨⟨rn_mem (i := 32) (by decide +kernel) (by decide +kernel), rn_mem (i := 621) (by decide +kernel) (by decide +kernel), by decide +kernel, by decide +kernel, by decide +kernel⟩, rn_mem (i := 619) (by decide +kernel) (by decide +kernel), rn_mem (i := 620) (by decide +kernel) (by decide +kernel)⟩
theorem v_X5_figure : rVm M_X5_figure 2 := ⟨⟨rn_mem (i := 32) (by decide +kernel) (by decide +kernel), rn_mem (i := 629) (by decide +kernel) (by decide +kernel), by decide +kernel, by decide +kernel, by decide +kernel⟩, rn_mem (i := 628) (by decide +kernel) (by decide +kernel), rn_mem (i := 16) (by decide +kernel) (by decide +kernel)⟩
theorem v_X5_fits : rVm M_X5_fits 2 := ⟨⟨rn_mem (i := 32) (by decide +kernel) (by decide +kernel), rn_mem (i := 739) (by decide +kernel) (by decide +kernel), by decide +kernel, by decide +kernel, by decide +kernel⟩, rn_mem (i := 737) (by decide +kernel) (by decide +kernel), rn_mem (i := 738) (by decide +kernel) (by decide +kernel)⟩
theorem s_X5_fitsOn : rSm M_X5_fitsOn 3 := ⟨⟨rn_mem (i := 32) (by decide +kernel) (by decide +kernel), rn_mem (i := 672) (by decide +kernel) (by decide +kernel), by decide +kernel, by decide +kernel, by decide +kernel⟩, rn_mem (i := 671) (by decide +kernel) (by decide +kernel)⟩
theorem v_X5_fitting : rVm M_X5_fitting 2 := ⟨⟨rn_mem (i := 32) (by decide +kernel) (by decide +kernel), rn_mem (i := 743) (by decide +kernel) (by decide +kernel), by decide +kernel, by decide +kernel, by decide +kernel⟩, rn_mem (i := 741) (by decide +kernel) (by decide +kernel), rn_mem (i := 742) (by decide +kernel) (by decide +kernel)⟩
theorem v_X5_fittingOf : rVm M_X5_fittingOf 1 := ⟨⟨rn_mem (i := 32) (by decide +kernel) (by decide +kernel), rn_mem (i := 747) (by decide +kernel) (by decide +kernel), by decide +kernel, by decide +kernel, by decide +kernel⟩, rn_mem (i := 746) (by decide +kernel) (by decide +kernel), rn_mem (i := 23) (by decide +kernel) (by decide +kernel)⟩
theorem s_X5_fraction : rSm M_X5_fraction 3 := ⟨⟨rn_mem (i := 32) (by decide +kernel) (by decide +kernel), rn_mem (i := 798) (by decide +kernel) (by decide +kernel), by decide +kernel, by decide +kernel, by decide +kernel⟩, rn_mem (i := 797) (by decide +kernel) (by decide +kernel)⟩
theorem v_X5_gap : rVm M_X5_gap 1 := ⟨⟨rn_mem (i := 32) (by decide +kernel) (by decide +kernel), rn_mem (i := 684) (by decide +kernel) (by decide +kernel), by decide +kernel, by decide +kernel, by decide +kernel⟩, rn_mem (i := 683) (by decide +kernel) (by decide +kernel), rn_mem (i := 20) (by decide +kernel) (by decide +kernel)⟩
theorem v_X5_guess : rVm M_X5_guess 3 := ⟨⟨rn_mem (i := 32) (by decide +kernel) (by decide +kernel), rn_mem (i := 805) (by decide +kernel) (by decide +kernel), by decide +kernel, by decide +kernel, by decide +kernel⟩, rn_mem (i := 803) (by decide +kernel) (by decide +kernel), rn_mem (i := 804) (by decide +kernel) (by decide +kernel)⟩
theorem s_X5_has : rSm M_X5_has 2 := ⟨⟨rn_mem (i := 32) (by decide +kernel) (by decide +kernel), rn_mem (i := 750) (by decide +kernel) (by decide +kernel), by decide +kernel, by decide +kernel, by decide +kernel⟩, rn_mem (i := 749) (by decide +kernel) (by decide +kernel)⟩
theorem s_X5_hasPass : rSm M_X5_hasPass 2 := ⟨⟨rn_mem (i := 32) (by decide +kernel) (by decide +kernel), rn_mem (i := 650) (by decide +kernel) (by decide +kernel), by decide +kernel, by decide +kernel, by decide +kernel⟩, rn_mem (i := 649) (by decide +kernel) (by decide +kernel)⟩
theorem v_X5_hear : rVm M_X5_hear 0 := ⟨⟨rn_mem (i := 32) (by decide +kernel) (by decide +kernel), rn_mem (i := 721) (by decide +kernel) (by decide +kernel), by decide +kernel, by decide +kernel, by decide +kernel⟩, rn_mem (i := 719) (by decide +kernel) (by decide +kernel), rn_mem (i := 720) (by decide +kernel) (by decide +kernel)⟩
theorem v_X5_heard : rVm M_X5_heard 1 := ⟨⟨rn_mem (i := 32) (by decide +kernel) (by decide +kernel), rn_mem (i := 758) (by decide +kernel) (by decide +kernel), by decide +kernel, by decide +kernel, by decide +kernel⟩, rn_mem (i := 756) (by decide +kernel) (by decide +kernel), rn_mem (i := 757) (by decide +kernel) (by decide +kernel)⟩
theorem s_X5_in : rSm M_X5_in 3 := ⟨⟨rn_mem (i := 32) (by decide +kernel) (by decide +kernel), rn_mem (i := 613) (by decide +kernel) (by decide +kernel), by decide +kernel, by decide +kernel, by decide +kernel⟩, rn_mem (i := 612) (by decide +kernel) (by decide +kernel)⟩
theorem i_X5_init : rIm M_X5_init 0 := ⟨⟨rn_mem (i := 32) (by decide +kernel) (by decide +kernel), rn_mem (i := 543) (by decide +kernel) (by decide +kernel), by decide +kernel, by decide +kernel, by decide +kernel⟩, rn_mem (i := 542) (by decide +kernel) (by decide +kernel), rfl, rfl⟩
theorem s_X5_isInStep : rSm M_X5_isInStep 2 := ⟨⟨rn_mem (i := 32) (by decide +kernel) (by decide +kernel), rn_mem (i := 680) (by decide +kernel) (by decide +kernel), by decide +kernel, by decide +kernel, by decide +kernel⟩, rn_mem (i := 679) (by decide +kernel) (by decide +kernel)⟩
theorem s_X5_isNumber : rSm M_X5_isNumber 1 := ⟨⟨rn_mem (i := 32) (by decide +kernel) (by decide +kernel), rn_mem (i := 699) (by decide +kernel) (by decide +kernel), by decide +kernel, by decide +kernel, by decide +kernel⟩, rn_mem (i := 698) (by decide +kernel) (by decide +kernel)⟩
theorem v_X5_judge : rVm M_X5_judge 2 := ⟨⟨rn_mem (i := 32) (by decide +kernel) (by decide +kernel), rn_mem (i := 762) (by decide +kernel) (by decide +kernel), by decide +kernel, by decide +kernel, by decide +kernel⟩, rn_mem (i := 760) (by decide +kernel) (by decide +kernel), rn_mem (i := 761) (by decide +kernel) (by decide +kernel)⟩
theorem v_X5_keep : rVm M_X5_keep 1 := ⟨⟨rn_mem (i := 32) (by decide +kernel) (by decide +kernel), rn_mem (i := 828) (by decide +kernel) (by decide +kernel), by decide +kernel, by decide +kernel, by decide +kernel⟩, rn_mem (i := 826) (by decide +kernel) (by decide +kernel), rn_mem (i := 827) (by decide +kernel) (by decide +kernel)⟩
theorem s_X5_lay : rSm M_X5_lay 2 := ⟨⟨rn_mem (i := 32) (by decide +kernel) (by decide +kernel), rn_mem (i := 660) (by decide +kernel) (by decide +kernel), by decide +kernel, by decide +kernel, by decide +kernel⟩, rn_mem (i := 659) (by decide +kernel) (by decide +kernel)⟩
theorem s_X5_layFirst : rSm M_X5_layFirst 1 := ⟨⟨rn_mem (i := 32) (by decide +kernel) (by decide +kernel), rn_mem (i := 547) (by decide +kernel) (by decide +kernel), by decide +kernel, by decide +kernel, by decide +kernel⟩, rn_mem (i := 546) (by decide +kernel) (by decide +kernel)⟩
theorem v_X5_layLoop : rVm M_X5_layLoop 1 := ⟨⟨rn_mem (i := 32) (by decide +kernel) (by decide +kernel), rn_mem (i := 688) (by decide +kernel) (by decide +kernel), by decide +kernel, by decide +kernel, by decide +kernel⟩, rn_mem (i := 687) (by decide +kernel) (by decide +kernel), rn_mem (i := 21) (by decide +kernel) (by decide +kernel)⟩
theorem s_X5_layUser : rSm M_X5_layUser 5 := ⟨⟨rn_mem (i := 32) (by decide +kernel) (by decide +kernel), rn_mem (i := 640) (by decide +kernel) (by decide +kernel), by decide +kernel, by decide +kernel, by decide +kernel⟩, rn_mem (i := 639) (by decide +kernel) (by decide +kernel)⟩
theorem s_X5_longPower : rSm M_X5_longPower 2 := ⟨⟨rn_mem (i := 32) (by decide +kernel) (by decide +kernel), rn_mem (i := 767) (by decide +kernel) (by decide +kernel), by decide +kernel, by decide +kernel, by decide +kernel⟩, rn_mem (i := 766) (by decide +kernel) (by decide +kernel)⟩
theorem v_X5_loss : rVm M_X5_loss 4 := ⟨⟨rn_mem (i := 32) (by decide +kernel) (by decide +kernel), rn_mem (i := 812) (by decide +kernel) (by decide +kernel), by decide +kernel, by decide +kernel, by decide +kernel⟩, rn_mem (i := 810) (by decide +kernel) (by decide +kernel), rn_mem (i := 811) (by decide +kernel) (by decide +kernel)⟩
theorem v_X5_miss : rVm M_X5_miss 1 := ⟨⟨rn_mem (i := 32) (by decide +kernel) (by decide +kernel), rn_mem (i := 713) (by decide +kernel) (by decide +kernel), by decide +kernel, by decide +kernel, by decide +kernel⟩, rn_mem (i := 711) (by decide +kernel) (by decide +kernel), rn_mem (i := 712) (by decide +kernel) (by decide +kernel)⟩
theorem s_X5_noUser : rSm M_X5_noUser 2 := ⟨⟨rn_mem (i := 32) (by decide +kernel) (by decide +kernel), rn_mem (i := 653) (by decide +kernel) (by decide +kernel), by decide +kernel, by decide +kernel, by decide +kernel⟩, rn_mem (i := 652) (by decide +kernel) (by decide +kernel)⟩
theorem v_X5_note : rVm M_X5_note 0 := ⟨⟨rn_mem (i := 32) (by decide +kernel) (by decide +kernel), rn_mem (i := 709) (by decide +kernel) (by decide +kernel), by decide +kernel, by decide +kernel, by decide +kernel⟩, rn_mem (i := 708) (by decide +kernel) (by decide +kernel), rn_mem (i := 22) (by decide +kernel) (by decide +kernel)⟩
theorem s_X5_ones : rSm M_X5_ones 1 := ⟨⟨rn_mem (i := 32) (by decide +kernel) (by decide +kernel), rn_mem (i := 792) (by decide +kernel) (by decide +kernel), by decide +kernel, by decide +kernel, by decide +kernel⟩, rn_mem (i := 791) (by decide +kernel) (by decide +kernel)⟩
theorem v_X5_pass : rVm M_X5_pass 2 := ⟨⟨rn_mem (i := 32) (by decide +kernel) (by decide +kernel), rn_mem (i := 692) (by decide +kernel) (by decide +kernel), by decide +kernel, by decide +kernel, by decide +kernel⟩, rn_mem (i := 690) (by decide +kernel) (by decide +kernel), rn_mem (i := 691) (by decide +kernel) (by decide +kernel)⟩
theorem s_X5_passOf : rSm M_X5_passOf 3 := ⟨⟨rn_mem (i := 32) (by decide +kernel) (by decide +kernel), rn_mem (i := 666) (by decide +kernel) (by decide +kernel), by decide +kernel, by decide +kernel, by decide +kernel⟩, rn_mem (i := 665) (by decide +kernel) (by decide +kernel)⟩
theorem s_X5_power : rSm M_X5_power 2 := ⟨⟨rn_mem (i := 32) (by decide +kernel) (by decide +kernel), rn_mem (i := 808) (by decide +kernel) (by decide +kernel), by decide +kernel, by decide +kernel, by decide +kernel⟩, rn_mem (i := 807) (by decide +kernel) (by decide +kernel)⟩
theorem v_X5_readDesk : rVm M_X5_readDesk 0 := ⟨⟨rn_mem (i := 32) (by decide +kernel) (by decide +kernel), rn_mem (i := 625) (by decide +kernel) (by decide +kernel), by decide +kernel, by decide +kernel, by decide +kernel⟩, rn_mem (i := 624) (by decide +kernel) (by decide +kernel), rn_mem (i := 15) (by decide +kernel) (by decide +kernel)⟩
theorem v_X5_readEvent : rVm M_X5_readEvent 1 := ⟨⟨rn_mem (i := 32) (by decide +kernel) (by decide +kernel), rn_mem (i := 647) (by decide +kernel) (by decide +kernel), by decide +kernel, by decide +kernel, by decide +kernel⟩, rn_mem (i := 646) (by decide +kernel) (by decide +kernel), rn_mem (i := 19) (by decide +kernel) (by decide +kernel)⟩
theorem v_X5_readNumber : rVm M_X5_readNumber 0 := ⟨⟨rn_mem (i := 32) (by decide +kernel) (by decide +kernel), rn_mem (i := 637) (by decide +kernel) (by decide +kernel), by decide +kernel, by decide +kernel, by decide +kernel⟩, rn_mem (i := 636) (by decide +kernel) (by decide +kernel), rn_mem (i := 18) (by decide +kernel) (by decide +kernel)⟩
theorem v_X5_readUser : rVm M_X5_readUser 0 := ⟨⟨rn_mem (i := 32) (by decide +kernel) (by decide +kernel), rn_mem (i := 633) (by decide +kernel) (by decide +kernel), by decide +kernel, by decide +kernel, by decide +kernel⟩, rn_mem (i := 632) (by decide +kernel) (by decide +kernel), rn_mem (i := 17) (by decide +kernel) (by decide +kernel)⟩
theorem v_X5_renew : rVm M_X5_renew 4 := ⟨⟨rn_mem (i := 32) (by decide +kernel) (by decide +kernel), rn_mem (i := 725) (by decide +kernel) (by decide +kernel), by decide +kernel, by decide +kernel, by decide +kernel⟩, rn_mem (i := 723) (by decide +kernel) (by decide +kernel), rn_mem (i := 724) (by decide +kernel) (by decide +kernel)⟩
theorem v_X5_see : rVm M_X5_see 3 := ⟨⟨rn_mem (i := 32) (by decide +kernel) (by decide +kernel), rn_mem (i := 775) (by decide +kernel) (by decide +kernel), by decide +kernel, by decide +kernel, by decide +kernel⟩, rn_mem (i := 773) (by decide +kernel) (by decide +kernel), rn_mem (i := 774) (by decide +kernel) (by decide +kernel)⟩
theorem v_X5_seed : rVm M_X5_seed 1 := ⟨⟨rn_mem (i := 32) (by decide +kernel) (by decide +kernel), rn_mem (i := 817) (by decide +kernel) (by decide +kernel), by decide +kernel, by decide +kernel, by decide +kernel⟩, rn_mem (i := 815) (by decide +kernel) (by decide +kernel), rn_mem (i := 816) (by decide +kernel) (by decide +kernel)⟩
theorem v_X5_send : rVm M_X5_send 1 := ⟨⟨rn_mem (i := 32) (by decide +kernel) (by decide +kernel), rn_mem (i := 705) (by decide +kernel) (by decide +kernel), by decide +kernel, by decide +kernel, by decide +kernel⟩, rn_mem (i := 703) (by decide +kernel) (by decide +kernel), rn_mem (i := 704) (by decide +kernel) (by decide +kernel)⟩
theorem s_X5_sendOn : rSm M_X5_sendOn 2 := ⟨⟨rn_mem (i := 32) (by decide +kernel) (by decide +kernel), rn_mem (i := 663) (by decide +kernel) (by decide +kernel), by decide +kernel, by decide +kernel, by decide +kernel⟩, rn_mem (i := 662) (by decide +kernel) (by decide +kernel)⟩
theorem v_X5_share : rVm M_X5_share 2 := ⟨⟨rn_mem (i := 32) (by decide +kernel) (by decide +kernel), rn_mem (i := 789) (by decide +kernel) (by decide +kernel), by decide +kernel, by decide +kernel, by decide +kernel⟩, rn_mem (i := 787) (by decide +kernel) (by decide +kernel), rn_mem (i := 788) (by decide +kernel) (by decide +kernel)⟩
theorem v_X5_thief : rVm M_X5_thief 1 := ⟨⟨rn_mem (i := 32) (by decide +kernel) (by decide +kernel), rn_mem (i := 754) (by decide +kernel) (by decide +kernel), by decide +kernel, by decide +kernel, by decide +kernel⟩, rn_mem (i := 752) (by decide +kernel) (by decide +kernel), rn_mem (i := 753) (by decide +kernel) (by decide +kernel)⟩
theorem v_X5_undo : rVm M_X5_undo 0 := ⟨⟨rn_mem (i := 32) (by decide +kernel) (by decide +kernel), rn_mem (i := 735) (by decide +kernel) (by decide +kernel), by decide +kernel, by decide +kernel, by decide +kernel⟩, rn_mem (i := 733) (by decide +kernel) (by decide +kernel), rn_mem (i := 734) (by decide +kernel) (by decide +kernel)⟩
theorem v_X5_unsee : rVm M_X5_unsee 0 := ⟨⟨rn_mem (i := 32) (by decide +kernel) (by decide +kernel), rn_mem (i := 781) (by decide +kernel) (by decide +kernel), by decide +kernel, by decide +kernel, by decide +kernel⟩, rn_mem (i := 779) (by decide +kernel) (by decide +kernel), rn_mem (i := 780) (by decide +kernel) (by decide +kernel)⟩
theorem v_X5_user : rVm M_X5_user 2 := ⟨⟨rn_mem (i := 32) (by decide +kernel) (by decide +kernel), rn_mem (i := 676) (by decide +kernel) (by decide +kernel), by decide +kernel, by decide +kernel, by decide +kernel⟩, rn_mem (i := 674) (by decide +kernel) (by decide +kernel), rn_mem (i := 675) (by decide +kernel) (by decide +kernel)⟩
theorem v_X5_which : rVm M_X5_which 1 := ⟨⟨rn_mem (i := 32) (by decide +kernel) (by decide +kernel), rn_mem (i := 785) (by decide +kernel) (by decide +kernel), by decide +kernel, by decide +kernel, by decide +kernel⟩, rn_mem (i := 783) (by decide +kernel) (by decide +kernel), rn_mem (i := 784) (by decide +kernel) (by decide +kernel)⟩
theorem v_X5_widen : rVm M_X5_widen 1 := ⟨⟨rn_mem (i := 32) (by decide +kernel) (by decide +kernel), rn_mem (i := 730) (by decide +kernel) (by decide +kernel), by decide +kernel, by decide +kernel, by decide +kernel⟩, rn_mem (i := 728) (by decide +kernel) (by decide +kernel), rn_mem (i := 729) (by decide +kernel) (by decide +kernel)⟩
theorem v_X5_wipe : rVm M_X5_wipe 0 := ⟨⟨rn_mem (i := 32) (by decide +kernel) (by decide +kernel), rn_mem (i := 617) (by decide +kernel) (by decide +kernel), by decide +kernel, by decide +kernel, by decide +kernel⟩, rn_mem (i := 615) (by decide +kernel) (by decide +kernel), rn_mem (i := 616) (by decide +kernel) (by decide +kernel)⟩
theorem v_X5_write : rVm M_X5_write 1 := ⟨⟨rn_mem (i := 32) (by decide +kernel) (by decide +kernel), rn_mem (i := 609) (by decide +kernel) (by decide +kernel), by decide +kernel, by decide +kernel, by decide +kernel⟩, rn_mem (i := 607) (by decide +kernel) (by decide +kernel), rn_mem (i := 608) (by decide +kernel) (by decide +kernel)⟩
theorem l_L_9 : Cond.methodLink RL 9 yX4_init ∈ rn_ws := rn_mem (i := 37) (by decide +kernel) (by decide +kernel)
theorem l_X4_1 : Cond.methodLink RX4 1 Lib.objectInit ∈ rn_ws := rn_mem (i := 40) (by decide +kernel) (by decide +kernel)
theorem l_X4_9 : Cond.methodLink RX4 9 yX3_init ∈ rn_ws := rn_mem (i := 45) (by decide +kernel) (by decide +kernel)
theorem l_X3_3 : Cond.methodLink RX3 3 Lib.objectInit ∈ rn_ws := rn_mem (i := 48) (by decide +kernel) (by decide +kernel)
theorem l_X4_18 : Cond.methodLink RX4 18 yX0_init ∈ rn_ws := rn_mem (i := 63) (by decide +kernel) (by decide +kernel)
theorem l_X0_5 : Cond.methodLink RX0 5 Lib.objectInit ∈ rn_ws := rn_mem (i := 66) (by decide +kernel) (by decide +kernel)
theorem l_X0_15 : Cond.methodLink RX0 15 yX0_clear ∈ rn_ws := rn_mem (i := 67) (by decide +kernel) (by decide +kernel)
theorem l_X0_18 : Cond.methodLink RX0 18 yJ7_fill_53178 ∈ rn_ws := rn_mem (i := 71) (by decide +kernel) (by decide +kernel)
theorem l_X4_28 : Cond.methodLink RX4 28 yX2_init ∈ rn_ws := rn_mem (i := 81) (by decide +kernel) (by decide +kernel)
theorem l_X2_1 : Cond.methodLink RX2 1 Lib.objectInit ∈ rn_ws := rn_mem (i := 84) (by decide +kernel) (by decide +kernel)
theorem l_X4_35 : Cond.methodLink RX4 35 yX1_init ∈ rn_ws := rn_mem (i := 105) (by decide +kernel) (by decide +kernel)
theorem l_X1_3 : Cond.methodLink RX1 3 Lib.objectInit ∈ rn_ws := rn_mem (i := 108) (by decide +kernel) (by decide +kernel)
theorem l_L_13 : Cond.methodLink RL 13 yX4_write ∈ rn_ws := rn_mem (i := 142) (by decide +kernel) (by decide +kernel)
theorem l_X4_44 : Cond.methodLink RX4 44 yX3_append ∈ rn_ws := rn_mem (i := 146) (by decide +kernel) (by decide +kernel)
theorem l_L_18 : Cond.methodLink RL 18 yX4_wipe ∈ rn_ws := rn_mem (i := 150) (by decide +kernel) (by decide +kernel)
theorem l_L_23 : Cond.methodLink RL 23 yX4_fault ∈ rn_ws := rn_mem (i := 154) (by decide +kernel) (by decide +kernel)
theorem l_X4_52 : Cond.methodLink RX4 52 yX3_readInto ∈ rn_ws := rn_mem (i := 158) (by decide +kernel) (by decide +kernel)
theorem l_X3_22 : Cond.methodLink RX3 22 yX0_clear ∈ rn_ws := rn_mem (i := 162) (by decide +kernel) (by decide +kernel)
theorem l_X3_27 : Cond.methodLink RX3 27 yX3_isNext ∈ rn_ws := rn_mem (i := 163) (by decide +kernel) (by decide +kernel)
theorem l_X3_50 : Cond.methodLink RX3 50 yX3_nextLetter ∈ rn_ws := rn_mem (i := 167) (by decide +kernel) (by decide +kernel)
theorem l_X3_31 : Cond.methodLink RX3 31 yX3_readFigure ∈ rn_ws := rn_mem (i := 171) (by decide +kernel) (by decide +kernel)
theorem n_X3_77 : Cond.methodLinkNest RX3 77 yX4_isWithin "SpentPasses" ∈ rn_nest := rn_memN (i := 175) (by decide +kernel) (by decide +kernel)
theorem l_X3_35 : Cond.methodLink RX3 35 yX0_setWindow ∈ rn_ws := rn_mem (i := 178) (by decide +kernel) (by decide +kernel)
theorem l_X3_39 : Cond.methodLink RX3 39 yX0_users ∈ rn_ws := rn_mem (i := 182) (by decide +kernel) (by decide +kernel)
theorem l_X3_43 : Cond.methodLink RX3 43 yX3_readUser ∈ rn_ws := rn_mem (i := 186) (by decide +kernel) (by decide +kernel)
theorem l_X3_53 : Cond.methodLink RX3 53 yX3_readNumber ∈ rn_ws := rn_mem (i := 190) (by decide +kernel) (by decide +kernel)
theorem l_X3_56 : Cond.methodLink RX3 56 yX3_readRowLength ∈ rn_ws := rn_mem (i := 194) (by decide +kernel) (by decide +kernel)
theorem l_X3_59 : Cond.methodLink RX3 59 yX0_addUser ∈ rn_ws := rn_mem (i := 198) (by decide +kernel) (by decide +kernel)
theorem l_X0_30 : Cond.methodLink RX0 30 yX0_beginRow ∈ rn_ws := rn_mem (i := 202) (by decide +kernel) (by decide +kernel)
theorem l_X0_34 : Cond.methodLink RX0 34 yX0_put ∈ rn_ws := rn_mem (i := 206) (by decide +kernel) (by decide +kernel)
theorem n_X0_38 : Cond.methodLinkNest RX0 38 yX4_stepsBehind "SpentPasses" ∈ rn_nest := rn_memN (i := 210) (by decide +kernel) (by decide +kernel)
theorem l_X3_47 : Cond.methodLink RX3 47 yX3_readDoing ∈ rn_ws := rn_mem (i := 213) (by decide +kernel) (by decide +kernel)
theorem l_X3_63 : Cond.methodLink RX3 63 yX0_anyHasOwn ∈ rn_ws := rn_mem (i := 217) (by decide +kernel) (by decide +kernel)
theorem l_X0_50 : Cond.methodLink RX0 50 yX0_hasOwn ∈ rn_ws := rn_mem (i := 221) (by decide +kernel) (by decide +kernel)
theorem l_X0_42 : Cond.methodLink RX0 42 yX0_has ∈ rn_ws := rn_mem (i := 225) (by decide +kernel) (by decide +kernel)
theorem l_X0_46 : Cond.methodLink RX0 46 yX0_of ∈ rn_ws := rn_mem (i := 229) (by decide +kernel) (by decide +kernel)
theorem l_X3_67 : Cond.methodLink RX3 67 yX0_hasOwn ∈ rn_ws := rn_mem (i := 233) (by decide +kernel) (by decide +kernel)
theorem l_X3_70 : Cond.methodLink RX3 70 yX0_sendPass ∈ rn_ws := rn_mem (i := 234) (by decide +kernel) (by decide +kernel)
theorem l_X0_61 : Cond.methodLink RX0 61 yX0_spendPass ∈ rn_ws := rn_mem (i := 238) (by decide +kernel) (by decide +kernel)
theorem l_X0_64 : Cond.methodLink RX0 64 yX0_passOf ∈ rn_ws := rn_mem (i := 242) (by decide +kernel) (by decide +kernel)
theorem l_X0_67 : Cond.methodLink RX0 67 yX0_bring ∈ rn_ws := rn_mem (i := 246) (by decide +kernel) (by decide +kernel)
theorem l_X0_58 : Cond.methodLink RX0 58 yX0_fitOf ∈ rn_ws := rn_mem (i := 250) (by decide +kernel) (by decide +kernel)
theorem l_X0_53 : Cond.methodLink RX0 53 Lib.Math.min.name ∈ rn_ws := rn_mem (i := 254) (by decide +kernel) (by decide +kernel)
theorem l_X3_74 : Cond.methodLink RX3 74 yX0_spendPass ∈ rn_ws := rn_mem (i := 257) (by decide +kernel) (by decide +kernel)
theorem l_L_27 : Cond.methodLink RL 27 yX4_desk ∈ rn_ws := rn_mem (i := 258) (by decide +kernel) (by decide +kernel)
theorem l_X4_56 : Cond.methodLink RX4 56 yX0_copyFrom ∈ rn_ws := rn_mem (i := 262) (by decide +kernel) (by decide +kernel)
theorem l_X0_24 : Cond.methodLink RX0 24 arraycopyName ∈ rn_ws := rn_mem (i := 266) (by decide +kernel) (by decide +kernel)
theorem l_X4_60 : Cond.methodLink RX4 60 yX2_forgetAll ∈ rn_ws := rn_mem (i := 269) (by decide +kernel) (by decide +kernel)
theorem l_X4_63 : Cond.methodLink RX4 63 yX0_users ∈ rn_ws := rn_mem (i := 273) (by decide +kernel) (by decide +kernel)
theorem l_L_31 : Cond.methodLink RL 31 yX4_user ∈ rn_ws := rn_mem (i := 274) (by decide +kernel) (by decide +kernel)
theorem l_X4_67 : Cond.methodLink RX4 67 yX0_has ∈ rn_ws := rn_mem (i := 278) (by decide +kernel) (by decide +kernel)
theorem l_X4_70 : Cond.methodLink RX4 70 yX0_of ∈ rn_ws := rn_mem (i := 279) (by decide +kernel) (by decide +kernel)
theorem l_X4_74 : Cond.methodLink RX4 74 yX0_isInStep ∈ rn_ws := rn_mem (i := 280) (by decide +kernel) (by decide +kernel)
theorem l_X4_77 : Cond.methodLink RX4 77 yX0_isWarned ∈ rn_ws := rn_mem (i := 284) (by decide +kernel) (by decide +kernel)
theorem l_X4_80 : Cond.methodLink RX4 80 yX0_gapOf ∈ rn_ws := rn_mem (i := 288) (by decide +kernel) (by decide +kernel)
theorem l_X4_84 : Cond.methodLink RX4 84 yX4_tailOf ∈ rn_ws := rn_mem (i := 292) (by decide +kernel) (by decide +kernel)
theorem l_X4_216 : Cond.methodLink RX4 216 yX4_returnOf ∈ rn_ws := rn_mem (i := 295) (by decide +kernel) (by decide +kernel)
theorem l_X4_100 : Cond.methodLink RX4 100 yX4_stepsBehind ∈ rn_ws := rn_mem (i := 298) (by decide +kernel) (by decide +kernel)
theorem l_X4_87 : Cond.methodLink RX4 87 yX4_loopOf ∈ rn_ws := rn_mem (i := 299) (by decide +kernel) (by decide +kernel)
theorem l_L_36 : Cond.methodLink RL 36 yX4_pass ∈ rn_ws := rn_mem (i := 302) (by decide +kernel) (by decide +kernel)
theorem l_X4_90 : Cond.methodLink RX4 90 yX0_passOf ∈ rn_ws := rn_mem (i := 306) (by decide +kernel) (by decide +kernel)
theorem l_L_40 : Cond.methodLink RL 40 yX4_behind ∈ rn_ws := rn_mem (i := 307) (by decide +kernel) (by decide +kernel)
theorem l_X4_93 : Cond.methodLink RX4 93 yX4_isNumber ∈ rn_ws := rn_mem (i := 311) (by decide +kernel) (by decide +kernel)
theorem l_X4_96 : Cond.methodLink RX4 96 yX4_isWithin ∈ rn_ws := rn_mem (i := 314) (by decide +kernel) (by decide +kernel)
theorem l_L_45 : Cond.methodLink RL 45 yX4_send ∈ rn_ws := rn_mem (i := 315) (by decide +kernel) (by decide +kernel)
theorem l_X4_104 : Cond.methodLink RX4 104 yX0_hasOwn ∈ rn_ws := rn_mem (i := 319) (by decide +kernel) (by decide +kernel)
theorem l_X4_107 : Cond.methodLink RX4 107 yX2_remember ∈ rn_ws := rn_mem (i := 320) (by decide +kernel) (by decide +kernel)
theorem n_X2_29 : Cond.methodLinkNest RX2 29 yX4_isWithin "SpentPasses" ∈ rn_nest := rn_memN (i := 324) (by decide +kernel) (by decide +kernel)
theorem l_X2_38 : Cond.methodLink RX2 38 arraycopyName ∈ rn_ws := rn_mem (i := 325) (by decide +kernel) (by decide +kernel)
theorem l_X2_44 : Cond.methodLink RX2 44 Lib.Math.min.name ∈ rn_ws := rn_mem (i := 326) (by decide +kernel) (by decide +kernel)
theorem l_X4_110 : Cond.methodLink RX4 110 yX0_sendPass ∈ rn_ws := rn_mem (i := 327) (by decide +kernel) (by decide +kernel)
theorem l_L_49 : Cond.methodLink RL 49 yX4_miss ∈ rn_ws := rn_mem (i := 328) (by decide +kernel) (by decide +kernel)
theorem l_X4_113 : Cond.methodLink RX4 113 yX0_spendPass ∈ rn_ws := rn_mem (i := 332) (by decide +kernel) (by decide +kernel)
theorem l_L_53 : Cond.methodLink RL 53 yX4_attempt ∈ rn_ws := rn_mem (i := 333) (by decide +kernel) (by decide +kernel)
theorem l_X4_116 : Cond.methodLink RX4 116 yX0_bring ∈ rn_ws := rn_mem (i := 337) (by decide +kernel) (by decide +kernel)
theorem l_L_57 : Cond.methodLink RL 57 yX4_hear ∈ rn_ws := rn_mem (i := 338) (by decide +kernel) (by decide +kernel)
theorem l_X4_119 : Cond.methodLink RX4 119 yX0_wire ∈ rn_ws := rn_mem (i := 342) (by decide +kernel) (by decide +kernel)
theorem l_X4_122 : Cond.methodLink RX4 122 yX0_heardCount ∈ rn_ws := rn_mem (i := 346) (by decide +kernel) (by decide +kernel)
theorem l_X4_125 : Cond.methodLink RX4 125 yX0_overhear ∈ rn_ws := rn_mem (i := 350) (by decide +kernel) (by decide +kernel)
theorem l_X4_128 : Cond.methodLink RX4 128 yX0_numberIn ∈ rn_ws := rn_mem (i := 354) (by decide +kernel) (by decide +kernel)
theorem l_L_61 : Cond.methodLink RL 61 yX4_renew ∈ rn_ws := rn_mem (i := 357) (by decide +kernel) (by decide +kernel)
theorem l_X4_131 : Cond.methodLink RX4 131 yX0_beginRow ∈ rn_ws := rn_mem (i := 361) (by decide +kernel) (by decide +kernel)
theorem l_L_66 : Cond.methodLink RL 66 yX4_widen ∈ rn_ws := rn_mem (i := 362) (by decide +kernel) (by decide +kernel)
theorem l_X4_135 : Cond.methodLink RX4 135 yX0_window ∈ rn_ws := rn_mem (i := 366) (by decide +kernel) (by decide +kernel)
theorem l_X4_138 : Cond.methodLink RX4 138 yX0_setWindow ∈ rn_ws := rn_mem (i := 370) (by decide +kernel) (by decide +kernel)
theorem l_L_70 : Cond.methodLink RL 70 yX4_undo ∈ rn_ws := rn_mem (i := 371) (by decide +kernel) (by decide +kernel)
theorem l_X4_142 : Cond.methodLink RX4 142 yX2_takeBack ∈ rn_ws := rn_mem (i := 375) (by decide +kernel) (by decide +kernel)
theorem l_L_74 : Cond.methodLink RL 74 yX4_fits ∈ rn_ws := rn_mem (i := 379) (by decide +kernel) (by decide +kernel)
theorem l_X4_149 : Cond.methodLink RX4 149 yX0_fitOf ∈ rn_ws := rn_mem (i := 383) (by decide +kernel) (by decide +kernel)
theorem l_L_78 : Cond.methodLink RL 78 yX4_fitting ∈ rn_ws := rn_mem (i := 384) (by decide +kernel) (by decide +kernel)
theorem l_X4_152 : Cond.methodLink RX4 152 yX0_countFitting ∈ rn_ws := rn_mem (i := 388) (by decide +kernel) (by decide +kernel)
theorem l_X4_155 : Cond.methodLink RX4 155 yX0_leastFitting ∈ rn_ws := rn_mem (i := 392) (by decide +kernel) (by decide +kernel)
theorem l_L_82 : Cond.methodLink RL 82 yX4_thief ∈ rn_ws := rn_mem (i := 396) (by decide +kernel) (by decide +kernel)
theorem l_X4_158 : Cond.methodLink RX4 158 yX0_leastStolen ∈ rn_ws := rn_mem (i := 400) (by decide +kernel) (by decide +kernel)
theorem l_X0_70 : Cond.methodLink RX0 70 yX0_heardAt ∈ rn_ws := rn_mem (i := 404) (by decide +kernel) (by decide +kernel)
theorem l_X0_74 : Cond.methodLink RX0 74 yX0_userIn ∈ rn_ws := rn_mem (i := 408) (by decide +kernel) (by decide +kernel)
theorem l_X0_77 : Cond.methodLink RX0 77 yX0_numberIn ∈ rn_ws := rn_mem (i := 411) (by decide +kernel) (by decide +kernel)
theorem l_X0_80 : Cond.methodLink RX0 80 yX0_leastFrom ∈ rn_ws := rn_mem (i := 412) (by decide +kernel) (by decide +kernel)
theorem l_X0_83 : Cond.methodLink RX0 83 yX0_lesser ∈ rn_ws := rn_mem (i := 416) (by decide +kernel) (by decide +kernel)
theorem l_L_86 : Cond.methodLink RL 86 yX4_heard ∈ rn_ws := rn_mem (i := 419) (by decide +kernel) (by decide +kernel)
theorem l_X4_161 : Cond.methodLink RX4 161 yX0_heardAt ∈ rn_ws := rn_mem (i := 423) (by decide +kernel) (by decide +kernel)
theorem l_L_92 : Cond.methodLink RL 92 yX4_judge ∈ rn_ws := rn_mem (i := 424) (by decide +kernel) (by decide +kernel)
theorem l_X4_164 : Cond.methodLink RX4 164 yX4_withoutDoings ∈ rn_ws := rn_mem (i := 428) (by decide +kernel) (by decide +kernel)
theorem k_X4_168 : Cond.constantLong RX4 168 (10000) ∈ rn_ws := rn_mem (i := 431) (by decide +kernel) (by decide +kernel)
theorem l_X4_170 : Cond.methodLink RX4 170 yX4_isSo ∈ rn_ws := rn_mem (i := 432) (by decide +kernel) (by decide +kernel)
theorem l_X4_223 : Cond.methodLink RX4 223 yX4_sendInMind ∈ rn_ws := rn_mem (i := 436) (by decide +kernel) (by decide +kernel)
theorem l_X4_185 : Cond.methodLink RX4 185 yX0_countFitted ∈ rn_ws := rn_mem (i := 440) (by decide +kernel) (by decide +kernel)
theorem l_X4_226 : Cond.methodLink RX4 226 yX4_widenInMind ∈ rn_ws := rn_mem (i := 444) (by decide +kernel) (by decide +kernel)
theorem l_L_97 : Cond.methodLink RL 97 yX4_see ∈ rn_ws := rn_mem (i := 448) (by decide +kernel) (by decide +kernel)
theorem l_X4_173 : Cond.methodLink RX4 173 yX1_add ∈ rn_ws := rn_mem (i := 452) (by decide +kernel) (by decide +kernel)
theorem l_L_101 : Cond.methodLink RL 101 yX4_unsee ∈ rn_ws := rn_mem (i := 456) (by decide +kernel) (by decide +kernel)
theorem l_L_105 : Cond.methodLink RL 105 yX4_which ∈ rn_ws := rn_mem (i := 460) (by decide +kernel) (by decide +kernel)
theorem l_X4_179 : Cond.methodLink RX4 179 yX1_countSeeds ∈ rn_ws := rn_mem (i := 464) (by decide +kernel) (by decide +kernel)
theorem l_X1_25 : Cond.methodLink RX1 25 yX1_agrees ∈ rn_ws := rn_mem (i := 468) (by decide +kernel) (by decide +kernel)
theorem l_X1_31 : Cond.methodLink RX1 31 yX0_of ∈ rn_ws := rn_mem (i := 472) (by decide +kernel) (by decide +kernel)
theorem l_X1_35 : Cond.methodLink RX1 35 yX0_has ∈ rn_ws := rn_mem (i := 473) (by decide +kernel) (by decide +kernel)
theorem n_X1_39 : Cond.methodLinkNest RX1 39 yX4_stepsBehind "SpentPasses" ∈ rn_nest := rn_memN (i := 474) (by decide +kernel) (by decide +kernel)
theorem l_X4_182 : Cond.methodLink RX4 182 yX1_leastSeed ∈ rn_ws := rn_mem (i := 475) (by decide +kernel) (by decide +kernel)
theorem l_L_109 : Cond.methodLink RL 109 yX4_share ∈ rn_ws := rn_mem (i := 479) (by decide +kernel) (by decide +kernel)
theorem k_X4_188 : Cond.constantLong RX4 188 (12) ∈ rn_ws := rn_mem (i := 483) (by decide +kernel) (by decide +kernel)
theorem l_X4_190 : Cond.methodLink RX4 190 yX4_toldFraction ∈ rn_ws := rn_mem (i := 484) (by decide +kernel) (by decide +kernel)
theorem l_X4_219 : Cond.methodLink RX4 219 yX4_commonDivisor ∈ rn_ws := rn_mem (i := 487) (by decide +kernel) (by decide +kernel)
theorem l_L_114 : Cond.methodLink RL 114 yX4_guess ∈ rn_ws := rn_mem (i := 490) (by decide +kernel) (by decide +kernel)
theorem l_X4_194 : Cond.methodLink RX4 194 yX4_power ∈ rn_ws := rn_mem (i := 494) (by decide +kernel) (by decide +kernel)
theorem l_L_119 : Cond.methodLink RL 119 yX4_loss ∈ rn_ws := rn_mem (i := 497) (by decide +kernel) (by decide +kernel)
theorem l_X4_198 : Cond.methodLink RX4 198 yX4_weightInStep ∈ rn_ws := rn_mem (i := 501) (by decide +kernel) (by decide +kernel)
theorem l_L_124 : Cond.methodLink RL 124 yX4_seed ∈ rn_ws := rn_mem (i := 505) (by decide +kernel) (by decide +kernel)
theorem l_L_129 : Cond.methodLink RL 129 yX4_drawn ∈ rn_ws := rn_mem (i := 509) (by decide +kernel) (by decide +kernel)
theorem k_X4_202 : Cond.constantLong RX4 202 (6364136223846793005) ∈ rn_ws := rn_mem (i := 513) (by decide +kernel) (by decide +kernel)
theorem k_X4_204 : Cond.constantLong RX4 204 (1442695040888963407) ∈ rn_ws := rn_mem (i := 514) (by decide +kernel) (by decide +kernel)
theorem l_X4_206 : Cond.methodLink RX4 206 yX4_isTakenOnDay ∈ rn_ws := rn_mem (i := 515) (by decide +kernel) (by decide +kernel)
theorem l_L_133 : Cond.methodLink RL 133 yX4_keep ∈ rn_ws := rn_mem (i := 519) (by decide +kernel) (by decide +kernel)
theorem l_X4_209 : Cond.methodLink RX4 209 yX2_keepIn ∈ rn_ws := rn_mem (i := 523) (by decide +kernel) (by decide +kernel)
theorem l_L_137 : Cond.methodLink RL 137 yX4_again ∈ rn_ws := rn_mem (i := 527) (by decide +kernel) (by decide +kernel)
theorem l_X4_213 : Cond.methodLink RX4 213 yX2_bringBack ∈ rn_ws := rn_mem (i := 531) (by decide +kernel) (by decide +kernel)
theorem l_L_141 : Cond.methodLink RL 141 yX4_count ∈ rn_ws := rn_mem (i := 535) (by decide +kernel) (by decide +kernel)
theorem l_L_12 : Cond.methodLink RL 12 yX5_init ∈ rn_ws := rn_mem (i := 541) (by decide +kernel) (by decide +kernel)
theorem l_X5_1 : Cond.methodLink RX5 1 Lib.objectInit ∈ rn_ws := rn_mem (i := 544) (by decide +kernel) (by decide +kernel)
theorem l_X5_47 : Cond.methodLink RX5 47 yX5_layFirst ∈ rn_ws := rn_mem (i := 545) (by decide +kernel) (by decide +kernel)
theorem l_L_17 : Cond.methodLink RL 17 yX5_write ∈ rn_ws := rn_mem (i := 606) (by decide +kernel) (by decide +kernel)
theorem k_X5_82 : Cond.constantLong RX5 82 (255) ∈ rn_ws := rn_mem (i := 610) (by decide +kernel) (by decide +kernel)
theorem l_X5_57 : Cond.methodLink RX5 57 yX5_in ∈ rn_ws := rn_mem (i := 611) (by decide +kernel) (by decide +kernel)
theorem l_L_22 : Cond.methodLink RL 22 yX5_wipe ∈ rn_ws := rn_mem (i := 614) (by decide +kernel) (by decide +kernel)
theorem l_L_26 : Cond.methodLink RL 26 yX5_fault ∈ rn_ws := rn_mem (i := 618) (by decide +kernel) (by decide +kernel)
theorem l_X5_113 : Cond.methodLink RX5 113 yX5_readDesk ∈ rn_ws := rn_mem (i := 622) (by decide +kernel) (by decide +kernel)
theorem l_X5_90 : Cond.methodLink RX5 90 yX5_figure ∈ rn_ws := rn_mem (i := 626) (by decide +kernel) (by decide +kernel)
theorem l_X5_105 : Cond.methodLink RX5 105 yX5_readUser ∈ rn_ws := rn_mem (i := 630) (by decide +kernel) (by decide +kernel)
theorem l_X5_97 : Cond.methodLink RX5 97 yX5_readNumber ∈ rn_ws := rn_mem (i := 634) (by decide +kernel) (by decide +kernel)
theorem l_X5_101 : Cond.methodLink RX5 101 yX5_layUser ∈ rn_ws := rn_mem (i := 638) (by decide +kernel) (by decide +kernel)
theorem l_X5_61 : Cond.methodLink RX5 61 yX5_after ∈ rn_ws := rn_mem (i := 641) (by decide +kernel) (by decide +kernel)
theorem l_X5_109 : Cond.methodLink RX5 109 yX5_readEvent ∈ rn_ws := rn_mem (i := 644) (by decide +kernel) (by decide +kernel)
theorem l_X5_79 : Cond.methodLink RX5 79 yX5_hasPass ∈ rn_ws := rn_mem (i := 648) (by decide +kernel) (by decide +kernel)
theorem l_X5_75 : Cond.methodLink RX5 75 yX5_noUser ∈ rn_ws := rn_mem (i := 651) (by decide +kernel) (by decide +kernel)
theorem l_L_30 : Cond.methodLink RL 30 yX5_desk ∈ rn_ws := rn_mem (i := 654) (by decide +kernel) (by decide +kernel)
theorem l_X5_116 : Cond.methodLink RX5 116 yX5_lay ∈ rn_ws := rn_mem (i := 658) (by decide +kernel) (by decide +kernel)
theorem l_X5_120 : Cond.methodLink RX5 120 yX5_sendOn ∈ rn_ws := rn_mem (i := 661) (by decide +kernel) (by decide +kernel)
theorem l_X5_69 : Cond.methodLink RX5 69 yX5_passOf ∈ rn_ws := rn_mem (i := 664) (by decide +kernel) (by decide +kernel)
theorem l_X5_72 : Cond.methodLink RX5 72 yX5_comeOn ∈ rn_ws := rn_mem (i := 667) (by decide +kernel) (by decide +kernel)
theorem l_X5_65 : Cond.methodLink RX5 65 yX5_fitsOn ∈ rn_ws := rn_mem (i := 670) (by decide +kernel) (by decide +kernel)
theorem l_L_35 : Cond.methodLink RL 35 yX5_user ∈ rn_ws := rn_mem (i := 673) (by decide +kernel) (by decide +kernel)
theorem k_X5_130 : Cond.constantLong RX5 130 (5) ∈ rn_ws := rn_mem (i := 677) (by decide +kernel) (by decide +kernel)
theorem l_X5_127 : Cond.methodLink RX5 127 yX5_isInStep ∈ rn_ws := rn_mem (i := 678) (by decide +kernel) (by decide +kernel)
theorem l_X5_132 : Cond.methodLink RX5 132 yX5_gap ∈ rn_ws := rn_mem (i := 681) (by decide +kernel) (by decide +kernel)
theorem l_X5_136 : Cond.methodLink RX5 136 yX5_layLoop ∈ rn_ws := rn_mem (i := 685) (by decide +kernel) (by decide +kernel)
theorem l_L_39 : Cond.methodLink RL 39 yX5_pass ∈ rn_ws := rn_mem (i := 689) (by decide +kernel) (by decide +kernel)
theorem l_L_44 : Cond.methodLink RL 44 yX5_behind ∈ rn_ws := rn_mem (i := 693) (by decide +kernel) (by decide +kernel)
theorem l_X5_139 : Cond.methodLink RX5 139 yX5_isNumber ∈ rn_ws := rn_mem (i := 697) (by decide +kernel) (by decide +kernel)
theorem k_X5_55 : Cond.constantLong RX5 55 (250) ∈ rn_ws := rn_mem (i := 700) (by decide +kernel) (by decide +kernel)
theorem k_X5_143 : Cond.constantLong RX5 143 (99) ∈ rn_ws := rn_mem (i := 701) (by decide +kernel) (by decide +kernel)
theorem l_L_48 : Cond.methodLink RL 48 yX5_send ∈ rn_ws := rn_mem (i := 702) (by decide +kernel) (by decide +kernel)
theorem l_X5_145 : Cond.methodLink RX5 145 yX5_note ∈ rn_ws := rn_mem (i := 706) (by decide +kernel) (by decide +kernel)
theorem l_L_52 : Cond.methodLink RL 52 yX5_miss ∈ rn_ws := rn_mem (i := 710) (by decide +kernel) (by decide +kernel)
theorem l_L_56 : Cond.methodLink RL 56 yX5_attempt ∈ rn_ws := rn_mem (i := 714) (by decide +kernel) (by decide +kernel)
theorem l_L_60 : Cond.methodLink RL 60 yX5_hear ∈ rn_ws := rn_mem (i := 718) (by decide +kernel) (by decide +kernel)
theorem l_L_65 : Cond.methodLink RL 65 yX5_renew ∈ rn_ws := rn_mem (i := 722) (by decide +kernel) (by decide +kernel)
theorem k_X5_148 : Cond.constantLong RX5 148 (30) ∈ rn_ws := rn_mem (i := 726) (by decide +kernel) (by decide +kernel)
theorem l_L_69 : Cond.methodLink RL 69 yX5_widen ∈ rn_ws := rn_mem (i := 727) (by decide +kernel) (by decide +kernel)
theorem k_X5_150 : Cond.constantLong RX5 150 (6) ∈ rn_ws := rn_mem (i := 731) (by decide +kernel) (by decide +kernel)
theorem l_L_73 : Cond.methodLink RL 73 yX5_undo ∈ rn_ws := rn_mem (i := 732) (by decide +kernel) (by decide +kernel)
theorem l_L_77 : Cond.methodLink RL 77 yX5_fits ∈ rn_ws := rn_mem (i := 736) (by decide +kernel) (by decide +kernel)
theorem l_L_81 : Cond.methodLink RL 81 yX5_fitting ∈ rn_ws := rn_mem (i := 740) (by decide +kernel) (by decide +kernel)
theorem l_X5_156 : Cond.methodLink RX5 156 yX5_fittingOf ∈ rn_ws := rn_mem (i := 744) (by decide +kernel) (by decide +kernel)
theorem l_X5_152 : Cond.methodLink RX5 152 yX5_has ∈ rn_ws := rn_mem (i := 748) (by decide +kernel) (by decide +kernel)
theorem l_L_85 : Cond.methodLink RL 85 yX5_thief ∈ rn_ws := rn_mem (i := 751) (by decide +kernel) (by decide +kernel)
theorem l_L_89 : Cond.methodLink RL 89 yX5_heard ∈ rn_ws := rn_mem (i := 755) (by decide +kernel) (by decide +kernel)
theorem l_L_96 : Cond.methodLink RL 96 yX5_judge ∈ rn_ws := rn_mem (i := 759) (by decide +kernel) (by decide +kernel)
theorem k_X5_159 : Cond.constantLong RX5 159 (4) ∈ rn_ws := rn_mem (i := 763) (by decide +kernel) (by decide +kernel)
theorem k_X5_161 : Cond.constantLong RX5 161 (10000) ∈ rn_ws := rn_mem (i := 764) (by decide +kernel) (by decide +kernel)
theorem l_X5_163 : Cond.methodLink RX5 163 yX5_longPower ∈ rn_ws := rn_mem (i := 765) (by decide +kernel) (by decide +kernel)
theorem l_X5_167 : Cond.methodLink RX5 167 yX5_does ∈ rn_ws := rn_mem (i := 768) (by decide +kernel) (by decide +kernel)
theorem l_L_100 : Cond.methodLink RL 100 yX5_see ∈ rn_ws := rn_mem (i := 772) (by decide +kernel) (by decide +kernel)
theorem k_X5_171 : Cond.constantLong RX5 171 (3) ∈ rn_ws := rn_mem (i := 776) (by decide +kernel) (by decide +kernel)
theorem k_X5_173 : Cond.constantLong RX5 173 (29) ∈ rn_ws := rn_mem (i := 777) (by decide +kernel) (by decide +kernel)
theorem l_L_104 : Cond.methodLink RL 104 yX5_unsee ∈ rn_ws := rn_mem (i := 778) (by decide +kernel) (by decide +kernel)
theorem l_L_108 : Cond.methodLink RL 108 yX5_which ∈ rn_ws := rn_mem (i := 782) (by decide +kernel) (by decide +kernel)
theorem l_L_113 : Cond.methodLink RL 113 yX5_share ∈ rn_ws := rn_mem (i := 786) (by decide +kernel) (by decide +kernel)
theorem l_X5_181 : Cond.methodLink RX5 181 yX5_ones ∈ rn_ws := rn_mem (i := 790) (by decide +kernel) (by decide +kernel)
theorem l_X5_184 : Cond.methodLink RX5 184 yX5_factorial ∈ rn_ws := rn_mem (i := 793) (by decide +kernel) (by decide +kernel)
theorem l_X5_187 : Cond.methodLink RX5 187 yX5_fraction ∈ rn_ws := rn_mem (i := 796) (by decide +kernel) (by decide +kernel)
theorem l_X5_178 : Cond.methodLink RX5 178 yX5_divisor ∈ rn_ws := rn_mem (i := 799) (by decide +kernel) (by decide +kernel)
theorem l_L_118 : Cond.methodLink RL 118 yX5_guess ∈ rn_ws := rn_mem (i := 802) (by decide +kernel) (by decide +kernel)
theorem l_X5_191 : Cond.methodLink RX5 191 yX5_power ∈ rn_ws := rn_mem (i := 806) (by decide +kernel) (by decide +kernel)
theorem l_L_123 : Cond.methodLink RL 123 yX5_loss ∈ rn_ws := rn_mem (i := 809) (by decide +kernel) (by decide +kernel)
theorem k_X5_194 : Cond.constantLong RX5 194 (10) ∈ rn_ws := rn_mem (i := 813) (by decide +kernel) (by decide +kernel)
theorem l_L_128 : Cond.methodLink RL 128 yX5_seed ∈ rn_ws := rn_mem (i := 814) (by decide +kernel) (by decide +kernel)
theorem l_L_132 : Cond.methodLink RL 132 yX5_drawn ∈ rn_ws := rn_mem (i := 818) (by decide +kernel) (by decide +kernel)
theorem k_X5_200 : Cond.constantLong RX5 200 (60) ∈ rn_ws := rn_mem (i := 822) (by decide +kernel) (by decide +kernel)
theorem k_X5_202 : Cond.constantLong RX5 202 (6364136223846793005) ∈ rn_ws := rn_mem (i := 823) (by decide +kernel) (by decide +kernel)
theorem k_X5_204 : Cond.constantLong RX5 204 (1442695040888963407) ∈ rn_ws := rn_mem (i := 824) (by decide +kernel) (by decide +kernel)
theorem l_L_136 : Cond.methodLink RL 136 yX5_keep ∈ rn_ws := rn_mem (i := 825) (by decide +kernel) (by decide +kernel)
theorem l_L_140 : Cond.methodLink RL 140 yX5_again ∈ rn_ws := rn_mem (i := 829) (by decide +kernel) (by decide +kernel)
theorem l_L_144 : Cond.methodLink RL 144 yX5_count ∈ rn_ws := rn_mem (i := 833) (by decide +kernel) (by decide +kernel)
theorem k_L_90 : Cond.constantLong RL 90 (4294967295) ∈ rn_ws := rn_mem (i := 837) (by decide +kernel) (by decide +kernel)
theorem w_obj2 : Cond.instanceMethod Lib.objectInit ∈ rn_ws := rn_mem (i := 41) (by decide +kernel) (by decide +kernel)
theorem w_obj3 : Cond.code Lib.objectInit ⟨#[0xb1]⟩ 1 none ∈ rn_ws := rn_mem (i := 42) (by decide +kernel) (by decide +kernel)
theorem w_min2 : Cond.static Lib.Math.min.name ∈ rn_ws := rn_mem (i := 255) (by decide +kernel) (by decide +kernel)
theorem w_min3 : Cond.initialized "java/lang/Math" ∈ rn_ws := rn_mem (i := 33) (by decide +kernel) (by decide +kernel)
theorem w_min4 : Cond.code Lib.Math.min.name Lib.Math.min.code 2 (some .int) ∈ rn_ws := rn_mem (i := 256) (by decide +kernel) (by decide +kernel)
theorem w_cpy2 : Cond.native arraycopyName ∈ rn_ws := rn_mem (i := 268) (by decide +kernel) (by decide +kernel)
theorem w_cpy3 : Cond.static arraycopyName ∈ rn_ws := rn_mem (i := 267) (by decide +kernel) (by decide +kernel)
theorem w_cpy4 : Cond.initialized "java/lang/System" ∈ rn_ws := rn_mem (i := 34) (by decide +kernel) (by decide +kernel)
theorem w_arI : Cond.arrayClass .int ∈ rn_ws := rn_mem (i := 60) (by decide +kernel) (by decide +kernel)
theorem w_arZ : Cond.arrayClass .boolean ∈ rn_ws := rn_mem (i := 102) (by decide +kernel) (by decide +kernel)
theorem f_X3_11 : rFl RX3 11 3 0 := ⟨_, _, _, rfl, by decide, rfl, in_X3, Or.inl (rn_mem (i := 49) (by decide +kernel) (by decide +kernel))⟩
theorem p_X3_11 : rFp RX3 11 3 0 (.array .int) true := ⟨_, _, _, rfl, by decide, rfl, in_X3, Or.inl (rn_mem (i := 49) (by decide +kernel) (by decide +kernel)), ⟨tyX3, tyX3_ok⟩, nmX3, by decide +kernel, rfl, fun h => by first | rfl | cases h⟩
theorem f_X3_15 : rFl RX3 15 3 1 := ⟨_, _, _, rfl, by decide, rfl, in_X3, Or.inl (rn_mem (i := 50) (by decide +kernel) (by decide +kernel))⟩
theorem p_X3_15 : rFp RX3 15 3 1 (.int) false := ⟨_, _, _, rfl, by decide, rfl, in_X3, Or.inl (rn_mem (i := 50) (by decide +kernel) (by decide +kernel)), ⟨tyX3, tyX3_ok⟩, nmX3, by decide +kernel, rfl, fun h => by first | rfl | cases h⟩
theorem f_X4_48 : rFl RX4 48 3 1 := ⟨_, _, _, rfl, by decide, rfl, in_X3, Or.inr ⟨"SpentPasses", rn_memN (i := 51) (by decide +kernel) (by decide +kernel)⟩⟩
theorem p_X4_48 : rFp RX4 48 3 1 (.int) false := ⟨_, _, _, rfl, by decide, rfl, in_X3, Or.inr ⟨rfl, "SpentPasses", rn_memN (i := 51) (by decide +kernel) (by decide +kernel)⟩, ⟨tyX3, tyX3_ok⟩, nmX3, by decide +kernel, rfl, fun h => by first | rfl | cases h⟩
theorem f_X3_19 : rFl RX3 19 3 2 := ⟨_, _, _, rfl, by decide, rfl, in_X3, Or.inl (rn_mem (i := 52) (by decide +kernel) (by decide +kernel))⟩
theorem p_X3_19 : rFp RX3 19 3 2 (.int) false := ⟨_, _, _, rfl, by decide, rfl, in_X3, Or.inl (rn_mem (i := 52) (by decide +kernel) (by decide +kernel)), ⟨tyX3, tyX3_ok⟩, nmX3, by decide +kernel, rfl, fun h => by first | rfl | cases h⟩
theorem f_X0_11 : rFl RX0 11 0 0 := ⟨_, _, _, rfl, by decide, rfl, in_X0, Or.inl (rn_mem (i := 74) (by decide +kernel) (by decide +kernel))⟩
theorem p_X0_11 : rFp RX0 11 0 0 (.array .int) true := ⟨_, _, _, rfl, by decide, rfl, in_X0, Or.inl (rn_mem (i := 74) (by decide +kernel) (by decide +kernel)), ⟨tyX0, tyX0_ok⟩, nmX0, by decide +kernel, rfl, fun h => by first | rfl | cases h⟩
theorem f_X2_35 : rFl RX2 35 0 0 := ⟨_, _, _, rfl, by decide, rfl, in_X0, Or.inr ⟨"SpentPasses", rn_memN (i := 75) (by decide +kernel) (by decide +kernel)⟩⟩
theorem f_X2_11 : rFl RX2 11 2 0 := ⟨_, _, _, rfl, by decide, rfl, in_X2, Or.inl (rn_mem (i := 85) (by decide +kernel) (by decide +kernel))⟩
theorem p_X2_11 : rFp RX2 11 2 0 (.array .int) true := ⟨_, _, _, rfl, by decide, rfl, in_X2, Or.inl (rn_mem (i := 85) (by decide +kernel) (by decide +kernel)), ⟨tyX2, tyX2_ok⟩, nmX2, by decide +kernel, rfl, fun h => by first | rfl | cases h⟩
theorem f_X2_15 : rFl RX2 15 2 1 := ⟨_, _, _, rfl, by decide, rfl, in_X2, Or.inl (rn_mem (i := 86) (by decide +kernel) (by decide +kernel))⟩
theorem p_X2_15 : rFp RX2 15 2 1 (.array .int) true := ⟨_, _, _, rfl, by decide, rfl, in_X2, Or.inl (rn_mem (i := 86) (by decide +kernel) (by decide +kernel)), ⟨tyX2, tyX2_ok⟩, nmX2, by decide +kernel, rfl, fun h => by first | rfl | cases h⟩
theorem f_X2_18 : rFl RX2 18 2 2 := ⟨_, _, _, rfl, by decide, rfl, in_X2, Or.inl (rn_mem (i := 87) (by decide +kernel) (by decide +kernel))⟩
theorem p_X2_18 : rFp RX2 18 2 2 (.array .boolean) true := ⟨_, _, _, rfl, by decide, rfl, in_X2, Or.inl (rn_mem (i := 87) (by decide +kernel) (by decide +kernel)), ⟨tyX2, tyX2_ok⟩, nmX2, by decide +kernel, rfl, fun h => by first | rfl | cases h⟩
theorem f_X2_22 : rFl RX2 22 2 3 := ⟨_, _, _, rfl, by decide, rfl, in_X2, Or.inl (rn_mem (i := 88) (by decide +kernel) (by decide +kernel))⟩
theorem p_X2_22 : rFp RX2 22 2 3 (.int) false := ⟨_, _, _, rfl, by decide, rfl, in_X2, Or.inl (rn_mem (i := 88) (by decide +kernel) (by decide +kernel)), ⟨tyX2, tyX2_ok⟩, nmX2, by decide +kernel, rfl, fun h => by first | rfl | cases h⟩
theorem f_X4_146 : rFl RX4 146 2 3 := ⟨_, _, _, rfl, by decide, rfl, in_X2, Or.inr ⟨"SpentPasses", rn_memN (i := 89) (by decide +kernel) (by decide +kernel)⟩⟩
theorem p_X4_146 : rFp RX4 146 2 3 (.int) false := ⟨_, _, _, rfl, by decide, rfl, in_X2, Or.inr ⟨rfl, "SpentPasses", rn_memN (i := 89) (by decide +kernel) (by decide +kernel)⟩, ⟨tyX2, tyX2_ok⟩, nmX2, by decide +kernel, rfl, fun h => by first | rfl | cases h⟩
theorem f_X2_26 : rFl RX2 26 2 4 := ⟨_, _, _, rfl, by decide, rfl, in_X2, Or.inl (rn_mem (i := 90) (by decide +kernel) (by decide +kernel))⟩
theorem p_X2_26 : rFp RX2 26 2 4 (.int) false := ⟨_, _, _, rfl, by decide, rfl, in_X2, Or.inl (rn_mem (i := 90) (by decide +kernel) (by decide +kernel)), ⟨tyX2, tyX2_ok⟩, nmX2, by decide +kernel, rfl, fun h => by first | rfl | cases h⟩
theorem f_X1_11 : rFl RX1 11 1 0 := ⟨_, _, _, rfl, by decide, rfl, in_X1, Or.inl (rn_mem (i := 109) (by decide +kernel) (by decide +kernel))⟩
theorem p_X1_11 : rFp RX1 11 1 0 (.array .int) true := ⟨_, _, _, rfl, by decide, rfl, in_X1, Or.inl (rn_mem (i := 109) (by decide +kernel) (by decide +kernel)), ⟨tyX1, tyX1_ok⟩, nmX1, by decide +kernel, rfl, fun h => by first | rfl | cases h⟩
theorem f_X1_15 : rFl RX1 15 1 1 := ⟨_, _, _, rfl, by decide, rfl, in_X1, Or.inl (rn_mem (i := 110) (by decide +kernel) (by decide +kernel))⟩
theorem p_X1_15 : rFp RX1 15 1 1 (.array .int) true := ⟨_, _, _, rfl, by decide, rfl, in_X1, Or.inl (rn_mem (i := 110) (by decide +kernel) (by decide +kernel)), ⟨tyX1, tyX1_ok⟩, nmX1, by decide +kernel, rfl, fun h => by first | rfl | cases h⟩
theorem f_X1_18 : rFl RX1 18 1 2 := ⟨_, _, _, rfl, by decide, rfl, in_X1, Or.inl (rn_mem (i := 111) (by decide +kernel) (by decide +kernel))⟩
theorem p_X1_18 : rFp RX1 18 1 2 (.array .int) true := ⟨_, _, _, rfl, by decide, rfl, in_X1, Or.inl (rn_mem (i := 111) (by decide +kernel) (by decide +kernel)), ⟨tyX1, tyX1_ok⟩, nmX1, by decide +kernel, rfl, fun h => by first | rfl | cases h⟩
theorem f_X1_21 : rFl RX1 21 1 3 := ⟨_, _, _, rfl, by decide, rfl, in_X1, Or.inl (rn_mem (i := 112) (by decide +kernel) (by decide +kernel))⟩
theorem p_X1_21 : rFp RX1 21 1 3 (.int) false := ⟨_, _, _, rfl, by decide, rfl, in_X1, Or.inl (rn_mem (i := 112) (by decide +kernel) (by decide +kernel)), ⟨tyX1, tyX1_ok⟩, nmX1, by decide +kernel, rfl, fun h => by first | rfl | cases h⟩
theorem f_X4_176 : rFl RX4 176 1 3 := ⟨_, _, _, rfl, by decide, rfl, in_X1, Or.inr ⟨"SpentPasses", rn_memN (i := 113) (by decide +kernel) (by decide +kernel)⟩⟩
theorem p_X4_176 : rFp RX4 176 1 3 (.int) false := ⟨_, _, _, rfl, by decide, rfl, in_X1, Or.inr ⟨rfl, "SpentPasses", rn_memN (i := 113) (by decide +kernel) (by decide +kernel)⟩, ⟨tyX1, tyX1_ok⟩, nmX1, by decide +kernel, rfl, fun h => by first | rfl | cases h⟩
theorem f_X4_10 : rFl RX4 10 4 0 := ⟨_, _, _, rfl, by decide, rfl, in_X4, Or.inl (rn_mem (i := 123) (by decide +kernel) (by decide +kernel))⟩
theorem p_X4_10 : rFp RX4 10 4 0 (.object "SpentPasses$Text") true := ⟨_, _, _, rfl, by decide, rfl, in_X4, Or.inl (rn_mem (i := 123) (by decide +kernel) (by decide +kernel)), ⟨tyX4, tyX4_ok⟩, nmX4, by decide +kernel, rfl, fun h => by first | rfl | cases h⟩
theorem f_X4_19 : rFl RX4 19 4 1 := ⟨_, _, _, rfl, by decide, rfl, in_X4, Or.inl (rn_mem (i := 124) (by decide +kernel) (by decide +kernel))⟩
theorem p_X4_19 : rFp RX4 19 4 1 (.object "SpentPasses$Hall") true := ⟨_, _, _, rfl, by decide, rfl, in_X4, Or.inl (rn_mem (i := 124) (by decide +kernel) (by decide +kernel)), ⟨tyX4, tyX4_ok⟩, nmX4, by decide +kernel, rfl, fun h => by first | rfl | cases h⟩
theorem f_X4_23 : rFl RX4 23 4 2 := ⟨_, _, _, rfl, by decide, rfl, in_X4, Or.inl (rn_mem (i := 125) (by decide +kernel) (by decide +kernel))⟩
theorem p_X4_23 : rFp RX4 23 4 2 (.object "SpentPasses$Hall") true := ⟨_, _, _, rfl, by decide, rfl, in_X4, Or.inl (rn_mem (i := 125) (by decide +kernel) (by decide +kernel)), ⟨tyX4, tyX4_ok⟩, nmX4, by decide +kernel, rfl, fun h => by first | rfl | cases h⟩
theorem f_X4_29 : rFl RX4 29 4 3 := ⟨_, _, _, rfl, by decide, rfl, in_X4, Or.inl (rn_mem (i := 126) (by decide +kernel) (by decide +kernel))⟩
theorem p_X4_29 : rFp RX4 29 4 3 (.object "SpentPasses$Shelf") true := ⟨_, _, _, rfl, by decide, rfl, in_X4, Or.inl (rn_mem (i := 126) (by decide +kernel) (by decide +kernel)), ⟨tyX4, tyX4_ok⟩, nmX4, by decide +kernel, rfl, fun h => by first | rfl | cases h⟩
theorem f_X4_36 : rFl RX4 36 4 4 := ⟨_, _, _, rfl, by decide, rfl, in_X4, Or.inl (rn_mem (i := 127) (by decide +kernel) (by decide +kernel))⟩
theorem p_X4_36 : rFp RX4 36 4 4 (.object "SpentPasses$Seen") true := ⟨_, _, _, rfl, by decide, rfl, in_X4, Or.inl (rn_mem (i := 127) (by decide +kernel) (by decide +kernel)), ⟨tyX4, tyX4_ok⟩, nmX4, by decide +kernel, rfl, fun h => by first | rfl | cases h⟩
theorem f_X4_40 : rFl RX4 40 4 5 := ⟨_, _, _, rfl, by decide, rfl, in_X4, Or.inl (rn_mem (i := 128) (by decide +kernel) (by decide +kernel))⟩
theorem p_X4_40 : rFp RX4 40 4 5 (.long) false := ⟨_, _, _, rfl, by decide, rfl, in_X4, Or.inl (rn_mem (i := 128) (by decide +kernel) (by decide +kernel)), ⟨tyX4, tyX4_ok⟩, nmX4, by decide +kernel, rfl, fun h => by first | rfl | cases h⟩
theorem f_X5_51 : rFl RX5 51 5 0 := ⟨_, _, _, rfl, by decide, rfl, in_X5, Or.inl (rn_mem (i := 548) (by decide +kernel) (by decide +kernel))⟩
theorem p_X5_51 : rFp RX5 51 5 0 (.int) false := ⟨_, _, _, rfl, by decide, rfl, in_X5, Or.inl (rn_mem (i := 548) (by decide +kernel) (by decide +kernel)), ⟨tyX5, tyX5_ok⟩, nmX5, by decide +kernel, rfl, fun h => by first | rfl | cases h⟩
theorem f_X5_7 : rFl RX5 7 5 1 := ⟨_, _, _, rfl, by decide, rfl, in_X5, Or.inl (rn_mem (i := 549) (by decide +kernel) (by decide +kernel))⟩
theorem p_X5_7 : rFp RX5 7 5 1 (.array .int) true := ⟨_, _, _, rfl, by decide, rfl, in_X5, Or.inl (rn_mem (i := 549) (by decide +kernel) (by decide +kernel)), ⟨tyX5, tyX5_ok⟩, nmX5, by decide +kernel, rfl, fun h => by first | rfl | cases h⟩
theorem f_X5_84 : rFl RX5 84 5 2 := ⟨_, _, _, rfl, by decide, rfl, in_X5, Or.inl (rn_mem (i := 550) (by decide +kernel) (by decide +kernel))⟩
theorem p_X5_84 : rFp RX5 84 5 2 (.int) false := ⟨_, _, _, rfl, by decide, rfl, in_X5, Or.inl (rn_mem (i := 550) (by decide +kernel) (by decide +kernel)), ⟨tyX5, tyX5_ok⟩, nmX5, by decide +kernel, rfl, fun h => by first | rfl | cases h⟩
theorem f_X5_87 : rFl RX5 87 5 3 := ⟨_, _, _, rfl, by decide, rfl, in_X5, Or.inl (rn_mem (i := 551) (by decide +kernel) (by decide +kernel))⟩
theorem p_X5_87 : rFp RX5 87 5 3 (.int) false := ⟨_, _, _, rfl, by decide, rfl, in_X5, Or.inl (rn_mem (i := 551) (by decide +kernel) (by decide +kernel)), ⟨tyX5, tyX5_ok⟩, nmX5, by decide +kernel, rfl, fun h => by first | rfl | cases h⟩
theorem f_X5_13 : rFl RX5 13 5 4 := ⟨_, _, _, rfl, by decide, rfl, in_X5, Or.inl (rn_mem (i := 552) (by decide +kernel) (by decide +kernel))⟩
theorem p_X5_13 : rFp RX5 13 5 4 (.array .int) true := ⟨_, _, _, rfl, by decide, rfl, in_X5, Or.inl (rn_mem (i := 552) (by decide +kernel) (by decide +kernel)), ⟨tyX5, tyX5_ok⟩, nmX5, by decide +kernel, rfl, fun h => by first | rfl | cases h⟩
theorem f_X5_16 : rFl RX5 16 5 5 := ⟨_, _, _, rfl, by decide, rfl, in_X5, Or.inl (rn_mem (i := 553) (by decide +kernel) (by decide +kernel))⟩
theorem p_X5_16 : rFp RX5 16 5 5 (.array .int) true := ⟨_, _, _, rfl, by decide, rfl, in_X5, Or.inl (rn_mem (i := 553) (by decide +kernel) (by decide +kernel)), ⟨tyX5, tyX5_ok⟩, nmX5, by decide +kernel, rfl, fun h => by first | rfl | cases h⟩
theorem f_X5_94 : rFl RX5 94 5 6 := ⟨_, _, _, rfl, by decide, rfl, in_X5, Or.inl (rn_mem (i := 554) (by decide +kernel) (by decide +kernel))⟩
theorem p_X5_94 : rFp RX5 94 5 6 (.int) false := ⟨_, _, _, rfl, by decide, rfl, in_X5, Or.inl (rn_mem (i := 554) (by decide +kernel) (by decide +kernel)), ⟨tyX5, tyX5_ok⟩, nmX5, by decide +kernel, rfl, fun h => by first | rfl | cases h⟩
theorem f_X5_19 : rFl RX5 19 5 7 := ⟨_, _, _, rfl, by decide, rfl, in_X5, Or.inl (rn_mem (i := 555) (by decide +kernel) (by decide +kernel))⟩
theorem p_X5_19 : rFp RX5 19 5 7 (.array .int) true := ⟨_, _, _, rfl, by decide, rfl, in_X5, Or.inl (rn_mem (i := 555) (by decide +kernel) (by decide +kernel)), ⟨tyX5, tyX5_ok⟩, nmX5, by decide +kernel, rfl, fun h => by first | rfl | cases h⟩
theorem f_X5_22 : rFl RX5 22 5 8 := ⟨_, _, _, rfl, by decide, rfl, in_X5, Or.inl (rn_mem (i := 556) (by decide +kernel) (by decide +kernel))⟩
theorem p_X5_22 : rFp RX5 22 5 8 (.array .int) true := ⟨_, _, _, rfl, by decide, rfl, in_X5, Or.inl (rn_mem (i := 556) (by decide +kernel) (by decide +kernel)), ⟨tyX5, tyX5_ok⟩, nmX5, by decide +kernel, rfl, fun h => by first | rfl | cases h⟩
theorem f_X5_25 : rFl RX5 25 5 9 := ⟨_, _, _, rfl, by decide, rfl, in_X5, Or.inl (rn_mem (i := 557) (by decide +kernel) (by decide +kernel))⟩
theorem p_X5_25 : rFp RX5 25 5 9 (.array .int) true := ⟨_, _, _, rfl, by decide, rfl, in_X5, Or.inl (rn_mem (i := 557) (by decide +kernel) (by decide +kernel)), ⟨tyX5, tyX5_ok⟩, nmX5, by decide +kernel, rfl, fun h => by first | rfl | cases h⟩
theorem f_X5_124 : rFl RX5 124 5 10 := ⟨_, _, _, rfl, by decide, rfl, in_X5, Or.inl (rn_mem (i := 558) (by decide +kernel) (by decide +kernel))⟩
theorem p_X5_124 : rFp RX5 124 5 10 (.int) false := ⟨_, _, _, rfl, by decide, rfl, in_X5, Or.inl (rn_mem (i := 558) (by decide +kernel) (by decide +kernel)), ⟨tyX5, tyX5_ok⟩, nmX5, by decide +kernel, rfl, fun h => by first | rfl | cases h⟩
theorem f_X5_28 : rFl RX5 28 5 11 := ⟨_, _, _, rfl, by decide, rfl, in_X5, Or.inl (rn_mem (i := 559) (by decide +kernel) (by decide +kernel))⟩
theorem p_X5_28 : rFp RX5 28 5 11 (.array .int) true := ⟨_, _, _, rfl, by decide, rfl, in_X5, Or.inl (rn_mem (i := 559) (by decide +kernel) (by decide +kernel)), ⟨tyX5, tyX5_ok⟩, nmX5, by decide +kernel, rfl, fun h => by first | rfl | cases h⟩
theorem f_X5_31 : rFl RX5 31 5 12 := ⟨_, _, _, rfl, by decide, rfl, in_X5, Or.inl (rn_mem (i := 560) (by decide +kernel) (by decide +kernel))⟩
theorem p_X5_31 : rFp RX5 31 5 12 (.array .boolean) true := ⟨_, _, _, rfl, by decide, rfl, in_X5, Or.inl (rn_mem (i := 560) (by decide +kernel) (by decide +kernel)), ⟨tyX5, tyX5_ok⟩, nmX5, by decide +kernel, rfl, fun h => by first | rfl | cases h⟩
theorem f_X5_175 : rFl RX5 175 5 13 := ⟨_, _, _, rfl, by decide, rfl, in_X5, Or.inl (rn_mem (i := 561) (by decide +kernel) (by decide +kernel))⟩
theorem p_X5_175 : rFp RX5 175 5 13 (.int) false := ⟨_, _, _, rfl, by decide, rfl, in_X5, Or.inl (rn_mem (i := 561) (by decide +kernel) (by decide +kernel)), ⟨tyX5, tyX5_ok⟩, nmX5, by decide +kernel, rfl, fun h => by first | rfl | cases h⟩
theorem f_X5_35 : rFl RX5 35 5 14 := ⟨_, _, _, rfl, by decide, rfl, in_X5, Or.inl (rn_mem (i := 562) (by decide +kernel) (by decide +kernel))⟩
theorem p_X5_35 : rFp RX5 35 5 14 (.array .int) true := ⟨_, _, _, rfl, by decide, rfl, in_X5, Or.inl (rn_mem (i := 562) (by decide +kernel) (by decide +kernel)), ⟨tyX5, tyX5_ok⟩, nmX5, by decide +kernel, rfl, fun h => by first | rfl | cases h⟩
theorem f_X5_38 : rFl RX5 38 5 15 := ⟨_, _, _, rfl, by decide, rfl, in_X5, Or.inl (rn_mem (i := 563) (by decide +kernel) (by decide +kernel))⟩
theorem p_X5_38 : rFp RX5 38 5 15 (.array .int) true := ⟨_, _, _, rfl, by decide, rfl, in_X5, Or.inl (rn_mem (i := 563) (by decide +kernel) (by decide +kernel)), ⟨tyX5, tyX5_ok⟩, nmX5, by decide +kernel, rfl, fun h => by first | rfl | cases h⟩
theorem f_X5_41 : rFl RX5 41 5 16 := ⟨_, _, _, rfl, by decide, rfl, in_X5, Or.inl (rn_mem (i := 564) (by decide +kernel) (by decide +kernel))⟩
theorem p_X5_41 : rFp RX5 41 5 16 (.array .int) true := ⟨_, _, _, rfl, by decide, rfl, in_X5, Or.inl (rn_mem (i := 564) (by decide +kernel) (by decide +kernel)), ⟨tyX5, tyX5_ok⟩, nmX5, by decide +kernel, rfl, fun h => by first | rfl | cases h⟩
theorem f_X5_196 : rFl RX5 196 5 17 := ⟨_, _, _, rfl, by decide, rfl, in_X5, Or.inl (rn_mem (i := 565) (by decide +kernel) (by decide +kernel))⟩
theorem p_X5_196 : rFp RX5 196 5 17 (.long) false := ⟨_, _, _, rfl, by decide, rfl, in_X5, Or.inl (rn_mem (i := 565) (by decide +kernel) (by decide +kernel)), ⟨tyX5, tyX5_ok⟩, nmX5, by decide +kernel, rfl, fun h => by first | rfl | cases h⟩
theorem f_X5_44 : rFl RX5 44 5 18 := ⟨_, _, _, rfl, by decide, rfl, in_X5, Or.inl (rn_mem (i := 566) (by decide +kernel) (by decide +kernel))⟩
theorem p_X5_44 : rFp RX5 44 5 18 (.array .int) true := ⟨_, _, _, rfl, by decide, rfl, in_X5, Or.inl (rn_mem (i := 566) (by decide +kernel) (by decide +kernel)), ⟨tyX5, tyX5_ok⟩, nmX5, by decide +kernel, rfl, fun h => by first | rfl | cases h⟩
theorem c_L_7 : rNw RL 7 4 [.null, .null, .null, .null, .null, .long 0] := ⟨_, _, _, rfl, in_X4, rn_mem (i := 35) (by decide +kernel) (by decide +kernel), rn_mem (i := 36) (by decide +kernel) (by decide +kernel), rn_mem (i := 26) (by decide +kernel) (by decide +kernel), rfl, ⟨tyX4, tyX4_ok, by decide +kernel⟩, fun g => rfl⟩
theorem c_X4_7 : rNw RX4 7 3 [.null, .int 0, .int 0] := ⟨_, _, _, rfl, in_X3, rn_mem (i := 43) (by decide +kernel) (by decide +kernel), rn_mem (i := 44) (by decide +kernel) (by decide +kernel), rn_mem (i := 27) (by decide +kernel) (by decide +kernel), rfl, ⟨tyX3, tyX3_ok, by decide +kernel⟩, fun g => rfl⟩
theorem c_X4_16 : rNw RX4 16 0 [.null] := ⟨_, _, _, rfl, in_X0, rn_mem (i := 61) (by decide +kernel) (by decide +kernel), rn_mem (i := 62) (by decide +kernel) (by decide +kernel), rn_mem (i := 28) (by decide +kernel) (by decide +kernel), rfl, ⟨tyX0, tyX0_ok, by decide +kernel⟩, fun g => rfl⟩
theorem c_X4_26 : rNw RX4 26 2 [.null, .null, .null, .int 0, .int 0] := ⟨_, _, _, rfl, in_X2, rn_mem (i := 79) (by decide +kernel) (by decide +kernel), rn_mem (i := 80) (by decide +kernel) (by decide +kernel), rn_mem (i := 30) (by decide +kernel) (by decide +kernel), rfl, ⟨tyX2, tyX2_ok, by decide +kernel⟩, fun g => rfl⟩
theorem c_X4_33 : rNw RX4 33 1 [.null, .null, .null, .int 0] := ⟨_, _, _, rfl, in_X1, rn_mem (i := 103) (by decide +kernel) (by decide +kernel), rn_mem (i := 104) (by decide +kernel) (by decide +kernel), rn_mem (i := 31) (by decide +kernel) (by decide +kernel), rfl, ⟨tyX1, tyX1_ok, by decide +kernel⟩, fun g => rfl⟩
theorem c_L_10 : rNw RL 10 5 [.int 0, .null, .int 0, .int 0, .null, .null, .int 0, .null, .null, .null, .int 0, .null, .null, .int 0, .null, .null, .null, .long 0, .null] := ⟨_, _, _, rfl, in_X5, rn_mem (i := 539) (by decide +kernel) (by decide +kernel), rn_mem (i := 540) (by decide +kernel) (by decide +kernel), rn_mem (i := 32) (by decide +kernel) (by decide +kernel), rfl, ⟨tyX5, tyX5_ok, by decide +kernel⟩, fun g => rfl⟩
