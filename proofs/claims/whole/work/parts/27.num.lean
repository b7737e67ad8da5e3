section RNL
variable {K : rK} {Q : Option Value → rHp → Prop} {pc pc' : Nat} {lv : List (Nat × Value)} {st : List Value} {h : rHp}
theorem Rn.if_eqL {x y : Int64} {off : Int} {tgt : Nat} (hd : decode K.1.2.1 pc = .ok (.ifCond .eq off, 3)) (hp : pc + 3 = pc') (ht : (pc : Int) + off = (tgt : Int)) (kt : x = y → Rn K Q tgt lv st h) (kf : ¬ x = y → Rn K Q pc' lv st h) : Rn K Q pc lv (.int (lg_cmp x y) :: st) h := Rn.if_eq hd hp ht (fun q => kt ((lg_cmp_eq x y).mp q)) (fun q => kf (fun z => q ((lg_cmp_eq x y).mpr z)))
theorem Rn.if_eqLJ {a b : Nat} {off : Int} {tgt : Nat} (hd : decode K.1.2.1 pc = .ok (.ifCond .eq off, 3)) (hp : pc + 3 = pc') (ht : (pc : Int) + off = (tgt : Int)) (ha : a < 9223372036854775808) (hb : b < 9223372036854775808) (kt : a = b → Rn K Q tgt lv st h) (kf : ¬ a = b → Rn K Q pc' lv st h) : Rn K Q pc lv (.int (lg_cmp (lN a) (lN b)) :: st) h := Rn.if_eqL hd hp ht (fun q => kt ((pk_lEQ ha hb).mp q)) (fun q => kf (fun z => q ((pk_lEQ ha hb).mpr z)))
theorem Rn.if_ltL {x y : Int64} {off : Int} {tgt : Nat} (hd : decode K.1.2.1 pc = .ok (.ifCond .lt off, 3)) (hp : pc + 3 = pc') (ht : (pc : Int) + off = (tgt : Int)) (kt : x < y → Rn K Q tgt lv st h) (kf : ¬ x < y → Rn K Q pc' lv st h) : Rn K Q pc lv (.int (lg_cmp x y) :: st) h := Rn.if_lt hd hp ht (fun q => kt ((lg_cmp_lt x y).mp q)) (fun q => kf (fun z => q ((lg_cmp_lt x y).mpr z)))
theorem Rn.if_ltLJ {a b : Nat} {off : Int} {tgt : Nat} (hd : decode K.1.2.1 pc = .ok (.ifCond .lt off, 3)) (hp : pc + 3 = pc') (ht : (pc : Int) + off = (tgt : Int)) (ha : a < 9223372036854775808) (hb : b < 9223372036854775808) (kt : a < b → Rn K Q tgt lv st h) (kf : ¬ a < b → Rn K Q pc' lv st h) : Rn K Q pc lv (.int (lg_cmp (lN a) (lN b)) :: st) h := Rn.if_ltL hd hp ht (fun q => kt ((pk_lLT ha hb).mp q)) (fun q => kf (fun z => q ((pk_lLT ha hb).mpr z)))
theorem Rn.if_geL {x y : Int64} {off : Int} {tgt : Nat} (hd : decode K.1.2.1 pc = .ok (.ifCond .ge off, 3)) (hp : pc + 3 = pc') (ht : (pc : Int) + off = (tgt : Int)) (kt : y ≤ x → Rn K Q tgt lv st h) (kf : ¬ y ≤ x → Rn K Q pc' lv st h) : Rn K Q pc lv (.int (lg_cmp x y) :: st) h := Rn.if_ge hd hp ht (fun q => kt ((lg_cmp_ge x y).mp q)) (fun q => kf (fun z => q ((lg_cmp_ge x y).mpr z)))
theorem Rn.if_geLJ {a b : Nat} {off : Int} {tgt : Nat} (hd : decode K.1.2.1 pc = .ok (.ifCond .ge off, 3)) (hp : pc + 3 = pc') (ht : (pc : Int) + off = (tgt : Int)) (ha : a < 9223372036854775808) (hb : b < 9223372036854775808) (kt : b ≤ a → Rn K Q tgt lv st h) (kf : ¬ b ≤ a → Rn K Q pc' lv st h) : Rn K Q pc lv (.int (lg_cmp (lN a) (lN b)) :: st) h := Rn.if_geL hd hp ht (fun q => kt ((pk_lLE hb ha).mp q)) (fun q => kf (fun z => q ((pk_lLE hb ha).mpr z)))
theorem Rn.if_gtL {x y : Int64} {off : Int} {tgt : Nat} (hd : decode K.1.2.1 pc = .ok (.ifCond .gt off, 3)) (hp : pc + 3 = pc') (ht : (pc : Int) + off = (tgt : Int)) (kt : y < x → Rn K Q tgt lv st h) (kf : ¬ y < x → Rn K Q pc' lv st h) : Rn K Q pc lv (.int (lg_cmp x y) :: st) h := Rn.if_gt hd hp ht (fun q => kt ((lg_cmp_gt x y).mp q)) (fun q => kf (fun z => q ((lg_cmp_gt x y).mpr z)))
theorem Rn.if_gtLJ {a b : Nat} {off : Int} {tgt : Nat} (hd : decode K.1.2.1 pc = .ok (.ifCond .gt off, 3)) (hp : pc + 3 = pc') (ht : (pc : Int) + off = (tgt : Int)) (ha : a < 9223372036854775808) (hb : b < 9223372036854775808) (kt : b < a → Rn K Q tgt lv st h) (kf : ¬ b < a → Rn K Q pc' lv st h) : Rn K Q pc lv (.int (lg_cmp (lN a) (lN b)) :: st) h := Rn.if_gtL hd hp ht (fun q => kt ((pk_lLT hb ha).mp q)) (fun q => kf (fun z => q ((pk_lLT hb ha).mpr z)))
theorem Rn.if_leL {x y : Int64} {off : Int} {tgt : Nat} (hd : decode K.1.2.1 pc = .ok (.ifCond .le off, 3)) (hp : pc + 3 = pc') (ht : (pc : Int) + off = (tgt : Int)) (kt : x ≤ y → Rn K Q tgt lv st h) (kf : ¬ x ≤ y → Rn K Q pc' lv st h) : Rn K Q pc lv (.int (lg_cmp x y) :: st) h := Rn.if_le hd hp ht (fun q => kt ((lg_cmp_le x y).mp q)) (fun q => kf (fun z => q ((lg_cmp_le x y).mpr z)))
theorem Rn.if_leLJ {a b : Nat} {off : Int} {tgt : Nat} (hd : decode K.1.2.1 pc = .ok (.ifCond .le off, 3)) (hp : pc + 3 = pc') (ht : (pc : Int) + off = (tgt : Int)) (ha : a < 9223372036854775808) (hb : b < 9223372036854775808) (kt : a ≤ b → Rn K Q tgt lv st h) (kf : ¬ a ≤ b → Rn K Q pc' lv st h) : Rn K Q pc lv (.int (lg_cmp (lN a) (lN b)) :: st) h := Rn.if_leL hd hp ht (fun q => kt ((pk_lLE ha hb).mp q)) (fun q => kf (fun z => q ((pk_lLE ha hb).mpr z)))
theorem Rn.if_neL {x y : Int64} {off : Int} {tgt : Nat} (hd : decode K.1.2.1 pc = .ok (.ifCond .ne off, 3)) (hp : pc + 3 = pc') (ht : (pc : Int) + off = (tgt : Int)) (kt : ¬ x = y → Rn K Q tgt lv st h) (kf : x = y → Rn K Q pc' lv st h) : Rn K Q pc lv (.int (lg_cmp x y) :: st) h := Rn.if_ne hd hp ht (fun q => kt (fun z => q ((lg_cmp_eq x y).mpr z))) (fun q => kf ((lg_cmp_eq x y).mp q))
theorem Rn.if_neLJ {a b : Nat} {off : Int} {tgt : Nat} (hd : decode K.1.2.1 pc = .ok (.ifCond .ne off, 3)) (hp : pc + 3 = pc') (ht : (pc : Int) + off = (tgt : Int)) (ha : a < 9223372036854775808) (hb : b < 9223372036854775808) (kt : ¬ a = b → Rn K Q tgt lv st h) (kf : a = b → Rn K Q pc' lv st h) : Rn K Q pc lv (.int (lg_cmp (lN a) (lN b)) :: st) h := Rn.if_neL hd hp ht (fun q => kt (fun z => q ((pk_lEQ ha hb).mpr z))) (fun q => kf ((pk_lEQ ha hb).mp q))
theorem Rn.lmulN {a b : Nat} (hd : decode K.1.2.1 pc = .ok (.lmul, 1)) (hp : pc + 1 = pc') (k : Rn K Q pc' lv (.long (lN (a * b)) :: st) h) : Rn K Q pc lv (.long (lN b) :: .long (lN a) :: st) h := Rn.lmul hd hp (Rn.topl (lN_mul a b) k)
theorem Rn.laddN {a b : Nat} (hd : decode K.1.2.1 pc = .ok (.ladd, 1)) (hp : pc + 1 = pc') (k : Rn K Q pc' lv (.long (lN (a + b)) :: st) h) : Rn K Q pc lv (.long (lN b) :: .long (lN a) :: st) h := Rn.ladd hd hp (Rn.topl (lN_add a b) k)
theorem Rn.lsubN {a b : Nat} (hd : decode K.1.2.1 pc = .ok (.lsub, 1)) (hp : pc + 1 = pc') (hb : b ≤ a) (k : Rn K Q pc' lv (.long (lN (a - b)) :: st) h) : Rn K Q pc lv (.long (lN b) :: .long (lN a) :: st) h := Rn.lsub hd hp (Rn.topl (lN_sub hb) k)
theorem lN_ne0 {b : Nat} (h0 : 0 < b) (hb : b < 9223372036854775808) : ¬ lN b = 0 := fun e => by have := (pk_lEQ hb (show 0 < 2 ^ 63 by decide)).mp e; omega
theorem Rn.ldivN {a b : Nat} (hd : decode K.1.2.1 pc = .ok (.ldiv, 1)) (hp : pc + 1 = pc') (h1 : a < 9223372036854775808) (h2 : 0 < b) (h3 : b < 9223372036854775808) (k : Rn K Q pc' lv (.long (lN (a / b)) :: st) h) : Rn K Q pc lv (.long (lN b) :: .long (lN a) :: st) h := Rn.ldiv hd hp (lN_ne0 h2 h3) (Rn.topl (pk_lDiv h1 h2 h3) k)
theorem Rn.lremN {a b : Nat} (hd : decode K.1.2.1 pc = .ok (.lrem, 1)) (hp : pc + 1 = pc') (h1 : a < 9223372036854775808) (h2 : 0 < b) (h3 : b < 9223372036854775808) (k : Rn K Q pc' lv (.long (lN (a % b)) :: st) h) : Rn K Q pc lv (.long (lN b) :: .long (lN a) :: st) h := Rn.lrem hd hp (lN_ne0 h2 h3) (Rn.topl (pk_lRem h1 h2 h3) k)
theorem Rn.i2lN {a : Nat} (hd : decode K.1.2.1 pc = .ok (.i2l, 1)) (hp : pc + 1 = pc') (ha : a < 2147483648) (k : Rn K Q pc' lv (.long (lN a) :: st) h) : Rn K Q pc lv (.int (nI a) :: st) h := Rn.i2l hd hp (Rn.topl (nI_l ha) k)
theorem Rn.l2iN {a : Nat} (hd : decode K.1.2.1 pc = .ok (.l2i, 1)) (hp : pc + 1 = pc') (k : Rn K Q pc' lv (.int (nI a) :: st) h) : Rn K Q pc lv (.long (lN a) :: st) h := Rn.l2i hd hp (Rn.top (lN_i a) k)
end RNL
theorem lL_10000 : (10000 : Int64) = lN 10000 := by decide +kernel
theorem lL_12 : (12 : Int64) = lN 12 := by decide +kernel
theorem lL_255 : (255 : Int64) = lN 255 := by decide +kernel
theorem lL_5 : (5 : Int64) = lN 5 := by decide +kernel
theorem lL_250 : (250 : Int64) = lN 250 := by decide +kernel
theorem lL_99 : (99 : Int64) = lN 99 := by decide +kernel
theorem lL_30 : (30 : Int64) = lN 30 := by decide +kernel
theorem lL_6 : (6 : Int64) = lN 6 := by decide +kernel
theorem lL_4 : (4 : Int64) = lN 4 := by decide +kernel
theorem lL_3 : (3 : Int64) = lN 3 := by decide +kernel
theorem lL_29 : (29 : Int64) = lN 29 := by decide +kernel
theorem lL_10 : (10 : Int64) = lN 10 := by decide +kernel
theorem lL_60 : (60 : Int64) = lN 60 := by decide +kernel
theorem lL_4294967295 : (4294967295 : Int64) = lN 4294967295 := by decide +kernel
/-- the loop of the common divisor -/
def glo : Nat → Nat → Nat → Nat
  | 0, a, _ => a
  | n + 1, a, b => if b = 0 then a else glo n b (a % b)
theorem mod_half {b r : Nat} (hr : 0 < r) (h : r < b) : 2 * (b % r) < b := by
  have h1 := Nat.mod_lt b hr
  have h2 := Nat.div_add_mod b r
  have h3 : 1 ≤ b / r := by rw [Nat.le_div_iff_mul_le hr]; omega
  have h4 : r * 1 ≤ r * (b / r) := Nat.mul_le_mul_left r h3
  omega
theorem glo_gcd : ∀ (k n a b : Nat), b < 2 ^ k → 2 * k < n → glo n a b = Nat.gcd a b := by
  intro k
  induction k with
  | zero =>
    intro n a b hb hn
    obtain ⟨n, rfl⟩ : ∃ m, n = m + 1 := ⟨n - 1, by omega⟩
    have : b = 0 := by simpa using hb
    subst this
    show (if 0 = 0 then a else _) = _
    rw [if_pos rfl, Nat.gcd_zero_right]
  | succ k ih =>
    intro n a b hb hn
    obtain ⟨n, rfl⟩ : ∃ m, n = m + 2 := ⟨n - 2, by omega⟩
    show (if b = 0 then a else glo (n + 1) b (a % b)) = _
    by_cases h0 : b = 0
    · rw [if_pos h0, h0, Nat.gcd_zero_right]
    · rw [if_neg h0]
      show (if a % b = 0 then b else glo n (a % b) (b % (a % b))) = _
      have hg : Nat.gcd a b = Nat.gcd b (a % b) := by rw [Nat.gcd_comm a b, Nat.gcd_rec, Nat.gcd_comm]
      by_cases h1 : a % b = 0
      · rw [if_pos h1, hg, h1, Nat.gcd_zero_right]
      · rw [if_neg h1, ih n (a % b) (b % (a % b)) (by have := mod_half (Nat.pos_of_ne_zero h1) (Nat.mod_lt a (Nat.pos_of_ne_zero h0)); rw [Nat.pow_succ] at hb; omega) (by omega), hg, Nat.gcd_comm b, Nat.gcd_rec (a % b) b, Nat.gcd_comm]
theorem t_X4_power {h : rHp} {Q : Option Value → rHp → Prop} {b n : Nat} (hb : b < 2147483648) (hn : n < 100000) (k : Q (some (.long (lN (b ^ n)))) h) : Cl M_X4_power h.1 h.2.1 [.int (nI b), .int (nI n)] h Q := by
  refine Cl.of pl_X4 (Nat.le_of_ble_eq_true rfl) (by first | exact Nat.le_refl _ | omega) (by first | exact Nat.le_refl _ | omega) ?_
  refine Rn.lconst dX4_power_0 rfl lc_1 ?_
  refine Rn.lstore_n dX4_power_1 rfl (Nat.le_of_ble_eq_true rfl) ?_
  refine Rn.iconst dX4_power_2 rfl ic_0 ?_
  refine Rn.istore dX4_power_3 rfl (Nat.le_of_ble_eq_true rfl) ?_
  have hloop : ∀ (m : Nat) (i : Nat), n - i < m → i ≤ n → Rn (M_X4_power, none, h.1, h.2.1) Q 5 [(0, .int (nI b)), (1, .int (nI n)), (2, .long (lN (b ^ i))), (4, .int (nI i))] [] h := by
    intro m
    induction m with
    | zero => intro i h0 h1; exact absurd h0 (Nat.not_lt_zero _)
    | succ m ih =>
      intro i h0 h1
      refine Rn.iload dX4_power_5 rfl rfl ?_
      refine Rn.iload_n dX4_power_7 rfl rfl ?_
      refine Rn.icmp_geN (tgt := 22) dX4_power_8 rfl (by decide) (by omega) (by omega) (fun c8 => ?_) (fun c8 => ?_)
      · refine Rn.lload_n dX4_power_22 rfl rfl ?_
        refine Rn.lret dX4_power_23 rfl rfl rfl ?_
        rw [show i = n by omega]
        exact k
      · refine Rn.lload_n dX4_power_11 rfl rfl ?_
        refine Rn.iload_n dX4_power_12 rfl rfl ?_
        refine Rn.i2lN dX4_power_13 rfl (by omega) ?_
        refine Rn.lmulN dX4_power_14 rfl ?_
        refine Rn.lstore_n dX4_power_15 rfl (Nat.le_of_ble_eq_true rfl) ?_
        refine Rn.iincN dX4_power_16 rfl rfl (Nat.le_of_ble_eq_true rfl) ?_
        refine Rn.goto (tgt := 5) dX4_power_19 (by decide) ?_
        exact Rn.pick [2, 3, 1, 0] rfl (ih (i + 1) (by omega) (by omega))
  exact Rn.pick [2, 3, 1, 0] rfl (hloop (n + 1) 0 (by omega) (by omega))
theorem t_X4_commonDivisor {h : rHp} {Q : Option Value → rHp → Prop} {a0 b0 : Nat} (ha : a0 < 9223372036854775808) (hb : b0 < 1099511627776) (k : Q (some (.long (lN (Nat.gcd a0 b0)))) h) : Cl M_X4_commonDivisor h.1 h.2.1 [.long (lN a0), .long (lN b0)] h Q := by
  refine Cl.of pl_X4 (Nat.le_of_ble_eq_true rfl) (by first | exact Nat.le_refl _ | omega) (by first | exact Nat.le_refl _ | omega) ?_
  refine Rn.lload_n dX4_commonDivisor_0 rfl rfl ?_
  refine Rn.lstore dX4_commonDivisor_1 rfl (Nat.le_of_ble_eq_true rfl) ?_
  refine Rn.lload_n dX4_commonDivisor_3 rfl rfl ?_
  refine Rn.lstore dX4_commonDivisor_4 rfl (Nat.le_of_ble_eq_true rfl) ?_
  refine Rn.iconst dX4_commonDivisor_6 rfl ic_0 ?_
  refine Rn.istore dX4_commonDivisor_7 rfl (Nat.le_of_ble_eq_true rfl) ?_
  have hloop : ∀ (m : Nat) (n kk a b : Nat), n < m → kk + n = 100 → a < 9223372036854775808 → b < 9223372036854775808 → glo n a b = Nat.gcd a0 b0 → Rn (M_X4_commonDivisor, none, h.1, h.2.1) Q 9 [(4, .long (lN a)), (6, .long (lN b)), (8, .int (nI kk))] [] h := by
    intro m
    induction m with
    | zero => intro n kk a b h0 h1 h2 h3 h4; exact absurd h0 (Nat.not_lt_zero _)
    | succ m ih =>
      intro n kk a b h0 h1 h2 h3 h4
      refine Rn.iload dX4_commonDivisor_9 rfl rfl ?_
      refine Rn.bipush dX4_commonDivisor_11 rfl bp_100 ?_
      refine Rn.icmp_geN (tgt := 44) dX4_commonDivisor_13 rfl (by decide) (by omega) (by omega) (fun c13 => ?_) (fun c13 => ?_)
      · obtain rfl : n = 0 := by omega
        refine Rn.lload dX4_commonDivisor_44 rfl rfl ?_
        refine Rn.lret dX4_commonDivisor_46 rfl rfl rfl ?_
        exact rn_fin k (by rw [← h4]; first | rfl | exact congrArg (fun z => some (Value.long (lN z))) (if_pos c20).symm) rfl
      · obtain ⟨n, rfl⟩ : ∃ n', n = n' + 1 := ⟨n - 1, by omega⟩
        refine Rn.lload dX4_commonDivisor_16 rfl rfl ?_
        refine Rn.lconst dX4_commonDivisor_18 rfl lc_0 ?_
        refine Rn.lcmp dX4_commonDivisor_19 rfl ?_
        refine Rn.if_eqLJ (tgt := 44) dX4_commonDivisor_20 rfl (by decide) (by omega) (by omega) (fun c20 => ?_) (fun c20 => ?_)
        · refine Rn.lload dX4_commonDivisor_44 rfl rfl ?_
          refine Rn.lret dX4_commonDivisor_46 rfl rfl rfl ?_
          exact rn_fin k (by rw [← h4]; first | rfl | exact congrArg (fun z => some (Value.long (lN z))) (if_pos c20).symm) rfl
        · refine Rn.lload dX4_commonDivisor_23 rfl rfl ?_
          refine Rn.lload dX4_commonDivisor_25 rfl rfl ?_
          refine Rn.lremN dX4_commonDivisor_27 rfl (by omega) (by omega) (by omega) ?_
          refine Rn.lstore dX4_commonDivisor_28 rfl (Nat.le_of_ble_eq_true rfl) ?_
          refine Rn.lload dX4_commonDivisor_30 rfl rfl ?_
          refine Rn.lstore dX4_commonDivisor_32 rfl (Nat.le_of_ble_eq_true rfl) ?_
          refine Rn.lload dX4_commonDivisor_34 rfl rfl ?_
          refine Rn.lstore dX4_commonDivisor_36 rfl (Nat.le_of_ble_eq_true rfl) ?_
          refine Rn.iincN dX4_commonDivisor_38 rfl rfl (Nat.le_of_ble_eq_true rfl) ?_
          refine Rn.goto (tgt := 9) dX4_commonDivisor_41 (by decide) ?_
          exact Rn.pick [2, 1, 0] rfl (ih n (kk + 1) b (a % b) (by omega) (by omega) h3 (Nat.lt_of_le_of_lt (Nat.mod_le _ _) h2) (by rw [← h4]; exact (if_neg c20).symm))
  exact Rn.pick [2, 1, 0] rfl (hloop 101 100 0 a0 b0 (by omega) (by omega) ha (by omega) (glo_gcd 40 100 a0 b0 (Nat.lt_of_lt_of_le hb (by decide)) (by omega)))
theorem t_X4_toldFraction {h : rHp} {Q : Option Value → rHp → Prop} {a b : Nat} {up : Bool} (ha : a < 9223372036854775808) (hb0 : 0 < b) (hb : b < 1099511627776) (k : Q (some (.int (nI ((if up then a else b) / Nat.gcd a b)))) h) : Cl M_X4_toldFraction h.1 h.2.1 [.long (lN a), .long (lN b), .int (bi up)] h Q := by
  refine Cl.of pl_X4 (Nat.le_of_ble_eq_true rfl) (by first | exact Nat.le_refl _ | omega) (by first | exact Nat.le_refl _ | omega) ?_
  refine Rn.lload_n dX4_toldFraction_0 rfl rfl ?_
  refine Rn.lload_n dX4_toldFraction_1 rfl rfl ?_
  refine Rn.callS (as := [_, _]) s_X4_commonDivisor l_X4_219 ⟨Nat.le_of_ble_eq_true rfl, Nat.le_of_ble_eq_true rfl⟩ dX4_toldFraction_2 rfl rfl (Nat.le_of_ble_eq_true rfl) (Nat.le_refl _) (Nat.le_refl _) (t_X4_commonDivisor ha hb ?_)
  have hg : 0 < Nat.gcd a b := Nat.gcd_pos_of_pos_right a hb0
  have hg2 : Nat.gcd a b ≤ b := Nat.gcd_le_right a hb0
  refine Rn.lstore dX4_toldFraction_5 rfl (Nat.le_of_ble_eq_true rfl) ?_
  refine Rn.lload dX4_toldFraction_7 rfl rfl ?_
  refine Rn.lconst dX4_toldFraction_9 rfl lc_0 ?_
  refine Rn.lcmp dX4_toldFraction_10 rfl ?_
  refine Rn.if_neLJ (tgt := 16) dX4_toldFraction_11 rfl (by decide) (by omega) (by omega) (fun c11 => ?_) (fun c11 => ?_)
  · refine Rn.iload dX4_toldFraction_16 rfl rfl ?_
    refine Rn.if_eqB (tgt := 25) dX4_toldFraction_18 rfl (by decide) (fun c18 => ?_) (fun c18 => ?_)
    · refine Rn.lload_n dX4_toldFraction_25 rfl rfl ?_
      refine Rn.lload dX4_toldFraction_26 rfl rfl ?_
      refine Rn.ldivN dX4_toldFraction_28 rfl (by omega) (by omega) (by omega) ?_
      refine Rn.l2iN dX4_toldFraction_29 rfl ?_
      refine Rn.iret dX4_toldFraction_30 rfl rfl rfl ?_
      first | exact rn_fin k (by rw [c18]; rfl) rfl
    · refine Rn.lload_n dX4_toldFraction_21 rfl rfl ?_
      refine Rn.goto (tgt := 26) dX4_toldFraction_22 (by decide) ?_
      refine Rn.lload dX4_toldFraction_26 rfl rfl ?_
      refine Rn.ldivN dX4_toldFraction_28 rfl (by omega) (by omega) (by omega) ?_
      refine Rn.l2iN dX4_toldFraction_29 rfl ?_
      refine Rn.iret dX4_toldFraction_30 rfl rfl rfl ?_
      first | exact rn_fin k (by rw [c18]; rfl) rfl
  · omega
theorem t_X4_withoutDoings {h : rHp} {Q : Option Value → rHp → Prop} {r n : Nat} (hr : r < 9223372036854775808) (hn : n < 100000) (k : Q (some (.long (lN (r / 10000 ^ n)))) h) : Cl M_X4_withoutDoings h.1 h.2.1 [.long (lN r), .int (nI n)] h Q := by
  refine Cl.of pl_X4 (Nat.le_of_ble_eq_true rfl) (by first | exact Nat.le_refl _ | omega) (by first | exact Nat.le_refl _ | omega) ?_
  refine Rn.lload_n dX4_withoutDoings_0 rfl rfl ?_
  refine Rn.lstore_n dX4_withoutDoings_1 rfl (Nat.le_of_ble_eq_true rfl) ?_
  refine Rn.iconst dX4_withoutDoings_2 rfl ic_0 ?_
  refine Rn.istore dX4_withoutDoings_3 rfl (Nat.le_of_ble_eq_true rfl) ?_
  have hloop : ∀ (m : Nat) (i : Nat), n - i < m → i ≤ n → Rn (M_X4_withoutDoings, none, h.1, h.2.1) Q 5 [(2, .int (nI n)), (3, .long (lN (r / 10000 ^ i))), (5, .int (nI i))] [] h := by
    intro m
    induction m with
    | zero => intro i h0 h1; exact absurd h0 (Nat.not_lt_zero _)
    | succ m ih =>
      intro i h0 h1
      have hr2 : r / 10000 ^ i ≤ r := Nat.div_le_self _ _
      refine Rn.iload dX4_withoutDoings_5 rfl rfl ?_
      refine Rn.iload_n dX4_withoutDoings_7 rfl rfl ?_
      refine Rn.icmp_geN (tgt := 23) dX4_withoutDoings_8 rfl (by decide) (by omega) (by omega) (fun c8 => ?_) (fun c8 => ?_)
      · refine Rn.lload_n dX4_withoutDoings_23 rfl rfl ?_
        refine Rn.lret dX4_withoutDoings_24 rfl rfl rfl ?_
        rw [show i = n by omega]
        exact k
      · refine Rn.lload_n dX4_withoutDoings_11 rfl rfl ?_
        refine Rn.ldc2 dX4_withoutDoings_12 rfl k_X4_168 ?_
        refine Rn.topl lL_10000 ?_
        refine Rn.ldivN dX4_withoutDoings_15 rfl (by omega) (by omega) (by omega) ?_
        refine Rn.lstore_n dX4_withoutDoings_16 rfl (Nat.le_of_ble_eq_true rfl) ?_
        refine Rn.iincN dX4_withoutDoings_17 rfl rfl (Nat.le_of_ble_eq_true rfl) ?_
        refine Rn.goto (tgt := 5) dX4_withoutDoings_20 (by decide) ?_
        have e : r / 10000 ^ i / 10000 = r / 10000 ^ (i + 1) := by rw [Nat.div_div_eq_div_mul, Nat.pow_succ]
        rw [e]
        exact Rn.pick [2, 1, 0] rfl (ih (i + 1) (by omega) (by omega))
  exact Rn.pick [3, 1, 0] rfl (by have := hloop (n + 1) 0 (by omega) (by omega); rw [Nat.pow_zero, Nat.div_one] at this; exact this)
/-- after how many steps it comes again -/
def rtL (s v : Nat) : Nat → Nat → Nat → Nat
  | 0, _, _ => 0
  | n + 1, i, x => if nx s x = v then i else rtL s v n (i + 1) (nx s x)
def rtN (s v : Nat) : Nat := rtL s v 251 1 v
theorem rtL_le (s v : Nat) : ∀ n i x, rtL s v n i x ≤ i + n - 1
  | 0, i, x => by unfold rtL; omega
  | n + 1, i, x => by
    unfold rtL
    split
    · omega
    · have := rtL_le s v n (i + 1) (nx s x); omega
theorem rtN_le (s v : Nat) : rtN s v ≤ 251 := by have := rtL_le s v 251 1 v; unfold rtN; omega
def tlL (s : Nat) : Nat → Nat → Nat → Nat
  | 0, _, _ => 251
  | n + 1, i, x => if 0 < rtN s x then i else tlL s n (i + 1) (nx s x)
def tlN (s v : Nat) : Nat := tlL s 251 0 v
theorem tlL_le (s : Nat) : ∀ n i x, i + n = 251 → tlL s n i x ≤ 251
  | 0, _, _, _ => Nat.le_refl _
  | n + 1, i, x, h => by
    unfold tlL
    split
    · omega
    · exact tlL_le s n (i + 1) (nx s x) (by omega)
theorem tlN_le (s v : Nat) : tlN s v ≤ 251 := tlL_le s 251 0 v rfl
theorem t_X4_returnOf {h : rHp} {Q : Option Value → rHp → Prop} {v s : Nat} (hv : v < 251) (hs : s < 251) (k : Q (some (.int (nI (rtN s v)))) h) : Cl M_X4_returnOf h.1 h.2.1 [.int (nI v), .int (nI s)] h Q := by
  refine Cl.of pl_X4 (Nat.le_of_ble_eq_true rfl) (by first | exact Nat.le_refl _ | omega) (by first | exact Nat.le_refl _ | omega) ?_
  refine Rn.iload_n dX4_returnOf_0 rfl rfl ?_
  refine Rn.istore_n dX4_returnOf_1 rfl (Nat.le_of_ble_eq_true rfl) ?_
  refine Rn.iconst dX4_returnOf_2 rfl ic_1 ?_
  refine Rn.istore_n dX4_returnOf_3 rfl (Nat.le_of_ble_eq_true rfl) ?_
  have hloop : ∀ (m : Nat) (n i x : Nat), n < m → i + n = 252 → x < 251 → rtL s v n i x = rtN s v → Rn (M_X4_returnOf, none, h.1, h.2.1) Q 4 [(0, .int (nI v)), (1, .int (nI s)), (2, .int (nI x)), (3, .int (nI i))] [] h := by
    intro m
    induction m with
    | zero => intro n i x h0 h1 h2 h3; exact absurd h0 (Nat.not_lt_zero _)
    | succ m ih =>
      intro n i x h0 h1 h2 h3
      refine Rn.iload_n dX4_returnOf_4 rfl rfl ?_
      refine Rn.sipush dX4_returnOf_5 rfl sp_251 ?_
      refine Rn.icmp_gtN (tgt := 31) dX4_returnOf_8 rfl (by decide) (by omega) (by omega) (fun c8 => ?_) (fun c8 => ?_)
      · obtain rfl : n = 0 := by omega
        refine Rn.iconst dX4_returnOf_31 rfl ic_0 ?_
        refine Rn.iret dX4_returnOf_32 rfl rfl rfl ?_
        exact rn_fin k (by rw [← h3]; rfl) rfl
      · obtain ⟨n, rfl⟩ : ∃ n', n = n' + 1 := ⟨n - 1, by omega⟩
        refine Rn.iload_n dX4_returnOf_11 rfl rfl ?_
        refine Rn.iload_n dX4_returnOf_12 rfl rfl ?_
        refine Rn.iconst dX4_returnOf_13 rfl ic_1 ?_
        refine Rn.callS (as := [_, _, _]) s_X4_stepsBehind l_X4_100 ⟨Nat.le_of_ble_eq_true rfl, Nat.le_of_ble_eq_true rfl⟩ dX4_returnOf_14 rfl rfl (Nat.le_of_ble_eq_true rfl) (Nat.le_refl _) (Nat.le_refl _) (t_X4_stepsBehind h2 hs (by omega) ?_)
        have hnx : bh s x 1 < 251 := nx_lt _ _
        refine Rn.istore_n dX4_returnOf_17 rfl (Nat.le_of_ble_eq_true rfl) ?_
        refine Rn.iload_n dX4_returnOf_18 rfl rfl ?_
        refine Rn.iload_n dX4_returnOf_19 rfl rfl ?_
        refine Rn.icmp_neN (tgt := 25) dX4_returnOf_20 rfl (by decide) (by omega) (by omega) (fun c20 => ?_) (fun c20 => ?_)
        · refine Rn.iincN dX4_returnOf_25 rfl rfl (Nat.le_of_ble_eq_true rfl) ?_
          refine Rn.goto (tgt := 4) dX4_returnOf_28 (by decide) ?_
          exact Rn.pick [2, 3, 1, 0] rfl (ih n (i + 1) _ (by omega) (by omega) (nx_lt _ _) (by rw [← h3]; exact (if_neg c20).symm))
        · refine Rn.iload_n dX4_returnOf_23 rfl rfl ?_
          refine Rn.iret dX4_returnOf_24 rfl rfl rfl ?_
          exact rn_fin k (by rw [← h3]; exact congrArg (fun z => some (Value.int (nI z))) (if_pos c20).symm) rfl
  exact Rn.pick [2, 3, 1, 0] rfl (hloop 252 251 1 v (by omega) (by omega) hv rfl)
theorem t_X4_tailOf {h : rHp} {Q : Option Value → rHp → Prop} {v s : Nat} (hv : v < 251) (hs : s < 251) (k : Q (some (.int (nI (tlN s v)))) h) : Cl M_X4_tailOf h.1 h.2.1 [.int (nI v), .int (nI s)] h Q := by
  refine Cl.of pl_X4 (Nat.le_of_ble_eq_true rfl) (by first | exact Nat.le_refl _ | omega) (by first | exact Nat.le_refl _ | omega) ?_
  refine Rn.iload_n dX4_tailOf_0 rfl rfl ?_
  refine Rn.istore_n dX4_tailOf_1 rfl (Nat.le_of_ble_eq_true rfl) ?_
  refine Rn.iconst dX4_tailOf_2 rfl ic_0 ?_
  refine Rn.istore_n dX4_tailOf_3 rfl (Nat.le_of_ble_eq_true rfl) ?_
  have hloop : ∀ (m : Nat) (n i x : Nat), n < m → i + n = 251 → x < 251 → tlL s n i x = tlN s v → Rn (M_X4_tailOf, none, h.1, h.2.1) Q 4 [(1, .int (nI s)), (2, .int (nI x)), (3, .int (nI i))] [] h := by
    intro m
    induction m with
    | zero => intro n i x h0 h1 h2 h3; exact absurd h0 (Nat.not_lt_zero _)
    | succ m ih =>
      intro n i x h0 h1 h2 h3
      refine Rn.iload_n dX4_tailOf_4 rfl rfl ?_
      refine Rn.sipush dX4_tailOf_5 rfl sp_251 ?_
      refine Rn.icmp_geN (tgt := 34) dX4_tailOf_8 rfl (by decide) (by omega) (by omega) (fun c8 => ?_) (fun c8 => ?_)
      · obtain rfl : n = 0 := by omega
        refine Rn.sipush dX4_tailOf_34 rfl sp_251 ?_
        refine Rn.iret dX4_tailOf_37 rfl rfl rfl ?_
        exact rn_fin k (by rw [← h3]; rfl) rfl
      · obtain ⟨n, rfl⟩ : ∃ n', n = n' + 1 := ⟨n - 1, by omega⟩
        refine Rn.iload_n dX4_tailOf_11 rfl rfl ?_
        refine Rn.iload_n dX4_tailOf_12 rfl rfl ?_
        refine Rn.callS (as := [_, _]) s_X4_returnOf l_X4_216 ⟨Nat.le_of_ble_eq_true rfl, Nat.le_of_ble_eq_true rfl⟩ dX4_tailOf_13 rfl rfl (Nat.le_of_ble_eq_true rfl) (Nat.le_refl _) (Nat.le_refl _) (t_X4_returnOf h2 hs ?_)
        have hrl := rtN_le s x
        refine Rn.if_leN (tgt := 21) dX4_tailOf_16 rfl (by decide) (by omega) (fun c16 => ?_) (fun c16 => ?_)
        · refine Rn.iload_n dX4_tailOf_21 rfl rfl ?_
          refine Rn.iload_n dX4_tailOf_22 rfl rfl ?_
          refine Rn.iconst dX4_tailOf_23 rfl ic_1 ?_
          refine Rn.callS (as := [_, _, _]) s_X4_stepsBehind l_X4_100 ⟨Nat.le_of_ble_eq_true rfl, Nat.le_of_ble_eq_true rfl⟩ dX4_tailOf_24 rfl rfl (Nat.le_of_ble_eq_true rfl) (Nat.le_refl _) (Nat.le_refl _) (t_X4_stepsBehind h2 hs (by omega) ?_)
          refine Rn.istore_n dX4_tailOf_27 rfl (Nat.le_of_ble_eq_true rfl) ?_
          refine Rn.iincN dX4_tailOf_28 rfl rfl (Nat.le_of_ble_eq_true rfl) ?_
          refine Rn.goto (tgt := 4) dX4_tailOf_31 (by decide) ?_
          exact Rn.pick [2, 1, 0] rfl (ih n (i + 1) _ (by omega) (by omega) (nx_lt _ _) (by rw [← h3]; exact (if_neg (by omega)).symm))
        · refine Rn.iload_n dX4_tailOf_19 rfl rfl ?_
          refine Rn.iret dX4_tailOf_20 rfl rfl rfl ?_
          exact rn_fin k (by rw [← h3]; exact congrArg (fun z => some (Value.int (nI z))) (if_pos (by omega)).symm) rfl
  exact Rn.pick [3, 1, 0] rfl (hloop 252 251 0 v (by omega) (by omega) hv rfl)
theorem t_X4_loopOf {h : rHp} {Q : Option Value → rHp → Prop} {v s : Nat} (hv : v < 251) (hs : s < 251) (k : Q (some (.int (nI (rtN s (bh s v (tlN s v)))))) h) : Cl M_X4_loopOf h.1 h.2.1 [.int (nI v), .int (nI s)] h Q := by
  refine Cl.of pl_X4 (Nat.le_of_ble_eq_true rfl) (by first | exact Nat.le_refl _ | omega) (by first | exact Nat.le_refl _ | omega) ?_
  refine Rn.iload_n dX4_loopOf_0 rfl rfl ?_
  refine Rn.iload_n dX4_loopOf_1 rfl rfl ?_
  refine Rn.iload_n dX4_loopOf_2 rfl rfl ?_
  refine Rn.iload_n dX4_loopOf_3 rfl rfl ?_
  refine Rn.callS (as := [_, _]) s_X4_tailOf l_X4_84 ⟨Nat.le_of_ble_eq_true rfl, Nat.le_of_ble_eq_true rfl⟩ dX4_loopOf_4 rfl rfl (Nat.le_of_ble_eq_true rfl) (Nat.le_refl _) (Nat.le_refl _) (t_X4_tailOf hv hs ?_)
  refine Rn.callS (as := [_, _, _]) s_X4_stepsBehind l_X4_100 ⟨Nat.le_of_ble_eq_true rfl, Nat.le_of_ble_eq_true rfl⟩ dX4_loopOf_7 rfl rfl (Nat.le_of_ble_eq_true rfl) (Nat.le_refl _) (Nat.le_refl _) (t_X4_stepsBehind hv hs (by have := tlN_le s v; omega) ?_)
  refine Rn.iload_n dX4_loopOf_10 rfl rfl ?_
  refine Rn.callS (as := [_, _]) s_X4_returnOf l_X4_216 ⟨Nat.le_of_ble_eq_true rfl, Nat.le_of_ble_eq_true rfl⟩ dX4_loopOf_11 rfl rfl (Nat.le_of_ble_eq_true rfl) (Nat.le_refl _) (Nat.le_refl _) (t_X4_returnOf (bh_lt hv _) hs ?_)
  refine Rn.iret dX4_loopOf_14 rfl rfl rfl ?_
  exact k
