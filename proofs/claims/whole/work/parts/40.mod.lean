/-! ===== the reference: pages as rows, its statics ===== -/
def inL (v lo hi : Int64) : Bool := decide (lo.toInt ≤ v.toInt ∧ v.toInt ≤ hi.toInt)
theorem inL_lo {v lo hi : Int64} (h : v < lo) : inL v lo hi = false := by
  rw [Int64.lt_iff_toInt_lt] at h
  exact decide_eq_false (fun z => by omega)
theorem inL_hi {v lo hi : Int64} (h : hi < v) : inL v lo hi = false := by
  rw [Int64.lt_iff_toInt_lt] at h
  exact decide_eq_false (fun z => by omega)
theorem inL_ok {v lo hi : Int64} (h : ¬ v < lo) (h2 : ¬ hi < v) : inL v lo hi = true := by
  rw [Int64.lt_iff_toInt_lt] at h h2
  exact decide_eq_true (by omega)
theorem i2l_toInt (x : Int32) : x.toInt64.toInt = x.toInt := Int32.toInt_toInt64 x
theorem inL_W {x : Int32} {lo hi : Nat} (h1 : lo < 2147483648) (h2 : hi < 2147483648) : inL x.toInt64 (lN lo) (lN hi) = isW x (nI lo) (nI hi) := by
  unfold inL isW
  rw [i2l_toInt, lN_toInt h1, lN_toInt h2, nI_toInt h1, nI_toInt h2]
theorem inL_has {x : Int32} {m : Nat} (hm : m ≤ 1000) : inL x.toInt64 (lN 0) (nI m - nI 1).toInt64 = hasB m x := by
  unfold inL hasB
  have e : (nI m - nI 1).toInt = (m : Int) - 1 := by
    rw [Jvm.Kit.i32_sub (by rw [nI_toInt (by omega), nI_toInt (by omega)]; omega) (by rw [nI_toInt (by omega), nI_toInt (by omega)]; omega), nI_toInt (by omega), nI_toInt (by omega)]; rfl
  rw [i2l_toInt, i2l_toInt, e, lN_toInt (by omega)]
  congr 1
  apply propext
  constructor
  · intro z; omega
  · intro z; omega
theorem shr_N12 {n i : Nat} (hn : n < 2147483648) (hi : i < 12) : nI n >>> (nI i &&& 31) = nI (n / 2 ^ i) := by
  rcases (show i < 7 ∨ i = 7 ∨ i = 8 ∨ i = 9 ∨ i = 10 ∨ i = 11 by omega) with h | rfl | rfl | rfl | rfl | rfl
  · exact shr_N hn h
  · exact pk_shrN hn _ 7 (by decide)
  · exact pk_shrN hn _ 8 (by decide)
  · exact pk_shrN hn _ 9 (by decide)
  · exact pk_shrN hn _ 10 (by decide)
  · exact pk_shrN hn _ 11 (by decide)
def bt (n i : Nat) : Bool := decide (n / 2 ^ i % 2 = 1)
def onN (n : Nat) : Nat → Nat
  | 0 => 0
  | i + 1 => onN n i + n / 2 ^ i % 2
theorem onN_le (n : Nat) : ∀ i, onN n i ≤ i
  | 0 => Nat.le_refl _
  | i + 1 => by have := onN_le n i; show onN n i + n / 2 ^ i % 2 ≤ i + 1; omega
def Pa (h : rHp) (o : Nat) (p : Nat → Nat) : Prop := h.2.2 o = .inl (36, pg p) ∧ o < h.1
def ph (h : rHp) (o : Nat) (p : Nat → Nat) : rHp := hs h o (.inl (36, pg p))
theorem Pa.put {h : rHp} {o : Nat} {p : Nat → Nat} (A : Pa h o p) (p' : Nat → Nat) : Pa (ph h o p') o p' := ⟨hs_eq _ _ _, A.2⟩
theorem ph_ph (h : rHp) (o : Nat) (p p' : Nat → Nat) : ph (ph h o p) o p' = ph h o p' := hs_hs _ _ _ _
theorem Pa.same {h : rHp} {o : Nat} {p : Nat → Nat} (A : Pa h o p) : ph h o p = h := hs_self h A.1
theorem Pa.upd {h : rHp} {o : Nat} {p' : Nat → Nat} {f : Nat → Int32} (e : f = pg p') : hs h o (.inl (36, f)) = ph h o p' := by subst e; rfl
theorem pg_us (p : Nat → Nat) {u k : Nat} (hu : u < 4) (hk : k < 6) : pg p (6 * u + k) = nI (p (6 * u + k)) := pg_n p (by omega) (by omega)
theorem un_self (p : Nat → Nat) (i : Nat) : un p i (p i) = p := by
  funext j
  unfold un
  by_cases h : j = i
  · rw [if_pos h, h]
  · rw [if_neg h]
theorem brP_y {p : Nat → Nat} {u v : Nat} (h : ¬ fitP p u v = 0) : un (un (un p 26 (1000 * u + v + 1)) (6 * u + 4) v) (6 * u + 5) (p (6 * u + 5) - fitP p u v) = brP p u v := by unfold brP; rw [if_pos (by omega)]
theorem brP_n {p : Nat → Nat} {u v : Nat} (hu : u < 4) (h : fitP p u v = 0) : un (un (un p 26 (1000 * u + v + 1)) (6 * u + 4) (p (6 * u + 4))) (6 * u + 5) (p (6 * u + 5) - 0) = brP p u v := by
  unfold brP
  rw [if_neg (by omega)]
  have e4 : un p 26 (1000 * u + v + 1) (6 * u + 4) = p (6 * u + 4) := un_ne _ _ (by omega)
  have e5 : un p 26 (1000 * u + v + 1) (6 * u + 5) = p (6 * u + 5) := un_ne _ _ (by omega)
  have h1 : un (un p 26 (1000 * u + v + 1)) (6 * u + 4) (p (6 * u + 4)) = un p 26 (1000 * u + v + 1) := by
    rw [← e4]; exact un_self _ _
  rw [h1, Nat.sub_zero, ← e5]
  exact un_self _ _
theorem pg_out (p : Nat → Nat) {i : Nat} (h : 36 ≤ i) : pg p i = 0 := by unfold pg; rw [if_neg (by omega)]
theorem layF_eq (f : Nat → Int32) (hf : ∀ j, 36 ≤ j → f j = 0) : upd (upd (ffill f (nI 0) 36) 25 (nI 1)) 26 (-9) = pg p0 := by
  funext i
  show (if i = 26 then (-9 : Int32) else if i = 25 then nI 1 else if i < 36 then nI 0 else f i) = pg p0 i
  by_cases h26 : i = 26
  · subst h26; rfl
  · rw [if_neg h26]
    by_cases h25 : i = 25
    · subst h25; rfl
    · rw [if_neg h25]
      by_cases h : i < 36
      · rw [if_pos h, pg_n _ h h26]
        show nI 0 = nI (if i = 25 then 1 else 0)
        rw [if_neg h25]
      · rw [if_neg h, pg_out _ (by omega), hf i (by omega)]
/-- a row laid over another, up to i -/
def lay2 (f g : Nat → Int32) (i : Nat) : Nat → Int32 := fun j => if j < i then f j else g j
theorem lay2_s (f g : Nat → Int32) (i : Nat) : upd (lay2 f g i) i (f i) = lay2 f g (i + 1) := by
  funext j
  show (if j = i then f i else if j < i then f j else g j) = if j < i + 1 then f j else g j
  by_cases h : j = i
  · rw [if_pos h, if_pos (by omega), h]
  · by_cases h2 : j < i
    · rw [if_neg h, if_pos h2, if_pos (by omega)]
    · rw [if_neg h, if_neg h2, if_neg (by omega)]
theorem lay2_0 (f g : Nat → Int32) : lay2 f g 0 = g := by
  funext j
  show (if j < 0 then f j else g j) = g j
  rw [if_neg (by omega)]
theorem lay2_pg (p1 p2 : Nat → Nat) : lay2 (pg p1) (pg p2) 36 = pg p1 := by
  funext j
  show (if j < 36 then pg p1 j else pg p2 j) = pg p1 j
  by_cases h : j < 36
  · rw [if_pos h]
  · rw [if_neg h, pg_out _ (by omega), pg_out _ (by omega)]
theorem bn_f {b : Bool} (h : (!b) = false) : b = true := by cases b <;> first | rfl | cases h
theorem bn_t {b : Bool} (h : (!b) = true) : b = false := by cases b <;> first | rfl | cases h
theorem t_X5_in {h : rHp} {Q : Option Value → rHp → Prop} {v lo hi : Int64} (k : Q (some (.int (bi (inL v lo hi)))) h) : Cl M_X5_in h.1 h.2.1 [.long v, .long lo, .long hi] h Q := by
  refine Cl.of pl_X5 (Nat.le_of_ble_eq_true rfl) (by first | exact Nat.le_refl _ | omega) (by first | exact Nat.le_refl _ | omega) ?_
  refine Rn.lload_n dX5_in_0 rfl rfl ?_
  refine Rn.lload_n dX5_in_1 rfl rfl ?_
  refine Rn.lcmp dX5_in_2 rfl ?_
  refine Rn.if_ltL (tgt := 17) dX5_in_3 rfl (by decide) (fun c3 => ?_) (fun c3 => ?_)
  · refine Rn.iconst dX5_in_17 rfl ic_0 ?_
    refine Rn.zret dX5_in_18 rfl (by decide) rfl rfl ?_
    first | exact rn_fin k (by rw [inL_lo c3, bi_f]) rfl | exact rn_fin k (by rw [inL_hi c10, bi_f]) rfl | exact rn_fin k (by rw [inL_ok c3 c10, bi_t]) rfl
  · refine Rn.lload_n dX5_in_6 rfl rfl ?_
    refine Rn.lload dX5_in_7 rfl rfl ?_
    refine Rn.lcmp dX5_in_9 rfl ?_
    refine Rn.if_gtL (tgt := 17) dX5_in_10 rfl (by decide) (fun c10 => ?_) (fun c10 => ?_)
    · refine Rn.iconst dX5_in_17 rfl ic_0 ?_
      refine Rn.zret dX5_in_18 rfl (by decide) rfl rfl ?_
      first | exact rn_fin k (by rw [inL_lo c3, bi_f]) rfl | exact rn_fin k (by rw [inL_hi c10, bi_f]) rfl | exact rn_fin k (by rw [inL_ok c3 c10, bi_t]) rfl
    · refine Rn.iconst dX5_in_13 rfl ic_1 ?_
      refine Rn.goto (tgt := 18) dX5_in_14 (by decide) ?_
      refine Rn.zret dX5_in_18 rfl (by decide) rfl rfl ?_
      first | exact rn_fin k (by rw [inL_lo c3, bi_f]) rfl | exact rn_fin k (by rw [inL_hi c10, bi_f]) rfl | exact rn_fin k (by rw [inL_ok c3 c10, bi_t]) rfl
theorem t_X5_has {h : rHp} {Q : Option Value → rHp → Prop} {n i : Nat} (hn : n < 2147483648) (hi : i < 12) (k : Q (some (.int (bi (bt n i)))) h) : Cl M_X5_has h.1 h.2.1 [.int (nI n), .int (nI i)] h Q := by
  refine Cl.of pl_X5 (Nat.le_of_ble_eq_true rfl) (by first | exact Nat.le_refl _ | omega) (by first | exact Nat.le_refl _ | omega) ?_
  refine Rn.iload_n dX5_has_0 rfl rfl ?_
  refine Rn.iload_n dX5_has_1 rfl rfl ?_
  refine Rn.ishr dX5_has_2 rfl ?_
  have hdl : n / 2 ^ i ≤ n := Nat.div_le_self _ _
  refine Rn.top (shr_N12 hn hi) ?_
  refine Rn.iconst dX5_has_3 rfl ic_1 ?_
  refine Rn.iand dX5_has_4 rfl ?_
  refine Rn.top (and_1 (by omega)) ?_
  refine Rn.iconst dX5_has_5 rfl ic_1 ?_
  refine Rn.icmp_neN (tgt := 13) dX5_has_6 rfl (by decide) (by omega) (by omega) (fun c6 => ?_) (fun c6 => ?_)
  · refine Rn.iconst dX5_has_13 rfl ic_0 ?_
    refine Rn.zret dX5_has_14 rfl (by decide) rfl rfl ?_
    first | exact rn_fin k (some_int (bi_df c6)) rfl | exact rn_fin k (some_int (bi_dt c6)) rfl
  · refine Rn.iconst dX5_has_9 rfl ic_1 ?_
    refine Rn.goto (tgt := 14) dX5_has_10 (by decide) ?_
    refine Rn.zret dX5_has_14 rfl (by decide) rfl rfl ?_
    first | exact rn_fin k (some_int (bi_df c6)) rfl | exact rn_fin k (some_int (bi_dt c6)) rfl
theorem t_X5_ones {h : rHp} {Q : Option Value → rHp → Prop} {n : Nat} (hn : n < 2147483648) (k : Q (some (.int (nI (onN n 12)))) h) : Cl M_X5_ones h.1 h.2.1 [.int (nI n)] h Q := by
  refine Cl.of pl_X5 (Nat.le_of_ble_eq_true rfl) (by first | exact Nat.le_refl _ | omega) (by first | exact Nat.le_refl _ | omega) ?_
  refine Rn.iconst dX5_ones_0 rfl ic_0 ?_
  refine Rn.istore_n dX5_ones_1 rfl (Nat.le_of_ble_eq_true rfl) ?_
  refine Rn.iconst dX5_ones_2 rfl ic_0 ?_
  refine Rn.istore_n dX5_ones_3 rfl (Nat.le_of_ble_eq_true rfl) ?_
  have hloop : ∀ (m : Nat) (i : Nat), 12 - i < m → i ≤ 12 → Rn (M_X5_ones, none, h.1, h.2.1) Q 4 [(0, .int (nI n)), (1, .int (nI (onN n i))), (2, .int (nI i))] [] h := by
    intro m
    induction m with
    | zero => intro i h0 h1; exact absurd h0 (Nat.not_lt_zero _)
    | succ m ih =>
      intro i h0 h1
      have hdl : n / 2 ^ i ≤ n := Nat.div_le_self _ _
      refine Rn.iload_n dX5_ones_4 rfl rfl ?_
      refine Rn.bipush dX5_ones_5 rfl bp_12 ?_
      refine Rn.icmp_geN (tgt := 24) dX5_ones_7 rfl (by decide) (by omega) (by omega) (fun c7 => ?_) (fun c7 => ?_)
      · refine Rn.iload_n dX5_ones_24 rfl rfl ?_
        refine Rn.iret dX5_ones_25 rfl rfl rfl ?_
        rw [show i = 12 by omega]
        exact k
      · refine Rn.iload_n dX5_ones_10 rfl rfl ?_
        refine Rn.iload_n dX5_ones_11 rfl rfl ?_
        refine Rn.iload_n dX5_ones_12 rfl rfl ?_
        refine Rn.ishr dX5_ones_13 rfl ?_
        refine Rn.top (shr_N12 hn (by omega)) ?_
        refine Rn.iconst dX5_ones_14 rfl ic_1 ?_
        refine Rn.iand dX5_ones_15 rfl ?_
        refine Rn.top (and_1 (by omega)) ?_
        refine Rn.iaddN dX5_ones_16 rfl ?_
        refine Rn.istore_n dX5_ones_17 rfl (Nat.le_of_ble_eq_true rfl) ?_
        refine Rn.iincN dX5_ones_18 rfl rfl (Nat.le_of_ble_eq_true rfl) ?_
        refine Rn.goto (tgt := 4) dX5_ones_21 (by decide) ?_
        exact Rn.pick [2, 1, 0] rfl (ih (i + 1) (by omega) (by omega))
  exact Rn.pick [2, 1, 0] rfl (hloop 13 0 (by omega) (by omega))
theorem t_X5_power {h : rHp} {Q : Option Value → rHp → Prop} {b n : Nat} (hn : n < 100000) (k : Q (some (.int (nI (b ^ n)))) h) : Cl M_X5_power h.1 h.2.1 [.int (nI b), .int (nI n)] h Q := by
  refine Cl.of pl_X5 (Nat.le_of_ble_eq_true rfl) (by first | exact Nat.le_refl _ | omega) (by first | exact Nat.le_refl _ | omega) ?_
  refine Rn.iconst dX5_power_0 rfl ic_1 ?_
  refine Rn.istore_n dX5_power_1 rfl (Nat.le_of_ble_eq_true rfl) ?_
  refine Rn.iconst dX5_power_2 rfl ic_0 ?_
  refine Rn.istore_n dX5_power_3 rfl (Nat.le_of_ble_eq_true rfl) ?_
  have hloop : ∀ (m : Nat) (i : Nat), n - i < m → i ≤ n → Rn (M_X5_power, none, h.1, h.2.1) Q 4 [(0, .int (nI b)), (1, .int (nI n)), (2, .int (nI (b ^ i))), (3, .int (nI i))] [] h := by
    intro m
    induction m with
    | zero => intro i h0 h1; exact absurd h0 (Nat.not_lt_zero _)
    | succ m ih =>
      intro i h0 h1
      refine Rn.iload_n dX5_power_4 rfl rfl ?_
      refine Rn.iload_n dX5_power_5 rfl rfl ?_
      refine Rn.icmp_geN (tgt := 19) dX5_power_6 rfl (by decide) (by omega) (by omega) (fun c6 => ?_) (fun c6 => ?_)
      · refine Rn.iload_n dX5_power_19 rfl rfl ?_
        refine Rn.iret dX5_power_20 rfl rfl rfl ?_
        rw [show i = n by omega]
        exact k
      · refine Rn.iload_n dX5_power_9 rfl rfl ?_
        refine Rn.iload_n dX5_power_10 rfl rfl ?_
        refine Rn.imulN dX5_power_11 rfl ?_
        refine Rn.istore_n dX5_power_12 rfl (Nat.le_of_ble_eq_true rfl) ?_
        refine Rn.iincN dX5_power_13 rfl rfl (Nat.le_of_ble_eq_true rfl) ?_
        refine Rn.goto (tgt := 4) dX5_power_16 (by decide) ?_
        exact Rn.pick [2, 3, 1, 0] rfl (ih (i + 1) (by omega) (by omega))
  exact Rn.pick [2, 3, 1, 0] rfl (hloop (n + 1) 0 (by omega) (by omega))
theorem t_X5_longPower {h : rHp} {Q : Option Value → rHp → Prop} {b n : Nat} (hn : n < 100000) (k : Q (some (.long (lN (b ^ n)))) h) : Cl M_X5_longPower h.1 h.2.1 [.long (lN b), .int (nI n)] h Q := by
  refine Cl.of pl_X5 (Nat.le_of_ble_eq_true rfl) (by first | exact Nat.le_refl _ | omega) (by first | exact Nat.le_refl _ | omega) ?_
  refine Rn.lconst dX5_longPower_0 rfl lc_1 ?_
  refine Rn.lstore_n dX5_longPower_1 rfl (Nat.le_of_ble_eq_true rfl) ?_
  refine Rn.iconst dX5_longPower_2 rfl ic_0 ?_
  refine Rn.istore dX5_longPower_3 rfl (Nat.le_of_ble_eq_true rfl) ?_
  have hloop : ∀ (m : Nat) (i : Nat), n - i < m → i ≤ n → Rn (M_X5_longPower, none, h.1, h.2.1) Q 5 [(0, .long (lN b)), (2, .int (nI n)), (3, .long (lN (b ^ i))), (5, .int (nI i))] [] h := by
    intro m
    induction m with
    | zero => intro i h0 h1; exact absurd h0 (Nat.not_lt_zero _)
    | succ m ih =>
      intro i h0 h1
      refine Rn.iload dX5_longPower_5 rfl rfl ?_
      refine Rn.iload_n dX5_longPower_7 rfl rfl ?_
      refine Rn.icmp_geN (tgt := 21) dX5_longPower_8 rfl (by decide) (by omega) (by omega) (fun c8 => ?_) (fun c8 => ?_)
      · refine Rn.lload_n dX5_longPower_21 rfl rfl ?_
        refine Rn.lret dX5_longPower_22 rfl rfl rfl ?_
        rw [show i = n by omega]
        exact k
      · refine Rn.lload_n dX5_longPower_11 rfl rfl ?_
        refine Rn.lload_n dX5_longPower_12 rfl rfl ?_
        refine Rn.lmulN dX5_longPower_13 rfl ?_
        refine Rn.lstore_n dX5_longPower_14 rfl (Nat.le_of_ble_eq_true rfl) ?_
        refine Rn.iincN dX5_longPower_15 rfl rfl (Nat.le_of_ble_eq_true rfl) ?_
        refine Rn.goto (tgt := 5) dX5_longPower_18 (by decide) ?_
        exact Rn.pick [2, 3, 1, 0] rfl (ih (i + 1) (by omega) (by omega))
  exact Rn.pick [2, 3, 1, 0] rfl (hloop (n + 1) 0 (by omega) (by omega))
theorem t_X5_layFirst {h : rHp} {Q : Option Value → rHp → Prop} {o : Nat} {f : Nat → Int32} (ho : h.2.2 o = .inl (36, f)) (hlt : o < h.1) (hf : ∀ j, 36 ≤ j → f j = 0) (k : Q none (ph h o p0)) : Cl M_X5_layFirst h.1 h.2.1 [.ref o] h Q := by
  refine Cl.of pl_X5 (Nat.le_of_ble_eq_true rfl) (by first | exact Nat.le_refl _ | omega) (by first | exact Nat.le_refl _ | omega) ?_
  refine Rn.iconst dX5_layFirst_0 rfl ic_0 ?_
  refine Rn.istore_n dX5_layFirst_1 rfl (Nat.le_of_ble_eq_true rfl) ?_
  have hloop : ∀ (m : Nat) (i : Nat), 36 - i < m → i ≤ 36 → Rn (M_X5_layFirst, none, h.1, h.2.1) Q 2 [(0, .ref o), (1, .int (nI i))] [] (hs h o (.inl (36, ffill f (nI 0) i))) := by
    intro m
    induction m with
    | zero => intro i h0 h1; exact absurd h0 (Nat.not_lt_zero _)
    | succ m ih =>
      intro i h0 h1
      refine Rn.iload_n dX5_layFirst_2 rfl rfl ?_
      refine Rn.bipush dX5_layFirst_3 rfl bp_36 ?_
      refine Rn.icmp_geN (tgt := 18) dX5_layFirst_5 rfl (by decide) (by omega) (by omega) (fun c5 => ?_) (fun c5 => ?_)
      · obtain rfl : i = 36 := by omega
        refine Rn.aload_n dX5_layFirst_18 rfl rfl ?_
        refine Rn.bipush dX5_layFirst_19 rfl bp_25 ?_
        refine Rn.iconst dX5_layFirst_21 rfl ic_1 ?_
        refine Rn.iastN dX5_layFirst_22 rfl (hs_eq _ _ _) hlt (by omega) (by omega) ?_
        refine Rn.heap (hs_hs _ _ _ _) ?_
        refine Rn.aload_n dX5_layFirst_23 rfl rfl ?_
        refine Rn.bipush dX5_layFirst_24 rfl bp_26 ?_
        refine Rn.bipush dX5_layFirst_26 rfl bp_m9 ?_
        refine Rn.iastN dX5_layFirst_28 rfl (hs_eq _ _ _) hlt (by omega) (by omega) ?_
        refine Rn.heap (hs_hs _ _ _ _) ?_
        refine Rn.ret dX5_layFirst_29 rfl rfl rfl ?_
        exact rn_fin k rfl (Pa.upd (layF_eq f hf))
      · refine Rn.aload_n dX5_layFirst_8 rfl rfl ?_
        refine Rn.iload_n dX5_layFirst_9 rfl rfl ?_
        refine Rn.iconst dX5_layFirst_10 rfl ic_0 ?_
        refine Rn.iastN dX5_layFirst_11 rfl (hs_eq _ _ _) hlt (by omega) (by omega) ?_
        refine Rn.heap ((hs_hs _ _ _ _).trans (by rw [ffill_s])) ?_
        refine Rn.iincN dX5_layFirst_12 rfl rfl (Nat.le_of_ble_eq_true rfl) ?_
        refine Rn.goto (tgt := 2) dX5_layFirst_15 (by decide) ?_
        exact Rn.pick [1, 0] rfl (ih (i + 1) (by omega) (by omega))
  exact Rn.pick [1, 0] rfl (by have := hloop 37 0 (by omega) (by omega); rw [ffill_0, hs_self h ho] at this; exact this)
theorem t_X5_lay {h : rHp} {Q : Option Value → rHp → Prop} {o1 o : Nat} {p1 p : Nat → Nat} (A1 : Pa h o1 p1) (A : Pa h o p) (hne : o1 ≠ o) (k : Q none (ph h o p1)) : Cl M_X5_lay h.1 h.2.1 [.ref o1, .ref o] h Q := by
  refine Cl.of pl_X5 (Nat.le_of_ble_eq_true rfl) (by first | exact Nat.le_refl _ | omega) (by first | exact Nat.le_refl _ | omega) ?_
  refine Rn.iconst dX5_lay_0 rfl ic_0 ?_
  refine Rn.istore_n dX5_lay_1 rfl (Nat.le_of_ble_eq_true rfl) ?_
  have hloop : ∀ (m : Nat) (i : Nat), 36 - i < m → i ≤ 36 → Rn (M_X5_lay, none, h.1, h.2.1) Q 2 [(0, .ref o1), (1, .ref o), (2, .int (nI i))] [] (hs h o (.inl (36, lay2 (pg p1) (pg p) i))) := by
    intro m
    induction m with
    | zero => intro i h0 h1; exact absurd h0 (Nat.not_lt_zero _)
    | succ m ih =>
      intro i h0 h1
      refine Rn.iload_n dX5_lay_2 rfl rfl ?_
      refine Rn.bipush dX5_lay_3 rfl bp_36 ?_
      refine Rn.icmp_geN (tgt := 20) dX5_lay_5 rfl (by decide) (by omega) (by omega) (fun c5 => ?_) (fun c5 => ?_)
      · refine Rn.ret dX5_lay_20 rfl rfl rfl ?_
        obtain rfl : i = 36 := by omega
        exact rn_fin k rfl (Pa.upd (lay2_pg _ _))
      · refine Rn.aload_n dX5_lay_8 rfl rfl ?_
        refine Rn.iload_n dX5_lay_9 rfl rfl ?_
        refine Rn.aload_n dX5_lay_10 rfl rfl ?_
        refine Rn.iload_n dX5_lay_11 rfl rfl ?_
        refine Rn.ialdN dX5_lay_12 rfl ((hs_ne _ _ hne).trans A1.1) A1.2 (by omega) (by omega) ?_
        refine Rn.iastN dX5_lay_13 rfl (hs_eq _ _ _) A.2 (by omega) (by omega) ?_
        refine Rn.heap ((hs_hs _ _ _ _).trans (by rw [lay2_s])) ?_
        refine Rn.iincN dX5_lay_14 rfl rfl (Nat.le_of_ble_eq_true rfl) ?_
        refine Rn.goto (tgt := 2) dX5_lay_17 (by decide) ?_
        exact Rn.pick [1, 2, 0] rfl (ih (i + 1) (by omega) (by omega))
  exact Rn.pick [1, 2, 0] rfl (by have := hloop 37 0 (by omega) (by omega); rw [lay2_0, hs_self h A.1] at this; exact this)
theorem t_X5_isNumber {h : rHp} {Q : Option Value → rHp → Prop} {v : Int32} (k : Q (some (.int (bi (isW v (nI 0) (nI 250))))) h) : Cl M_X5_isNumber h.1 h.2.1 [.int v] h Q := by
  refine Cl.of pl_X5 (Nat.le_of_ble_eq_true rfl) (by first | exact Nat.le_refl _ | omega) (by first | exact Nat.le_refl _ | omega) ?_
  refine Rn.iload_n dX5_isNumber_0 rfl rfl ?_
  refine Rn.i2l dX5_isNumber_1 rfl ?_
  refine Rn.lconst dX5_isNumber_2 rfl lc_0 ?_
  refine Rn.ldc2 dX5_isNumber_3 rfl k_X5_55 ?_
  refine Rn.topl lL_250 ?_
  refine Rn.callS (as := [_, _, _]) s_X5_in l_X5_57 ⟨Nat.le_of_ble_eq_true rfl, Nat.le_of_ble_eq_true rfl⟩ dX5_isNumber_6 rfl rfl (Nat.le_of_ble_eq_true rfl) (Nat.le_refl _) (Nat.le_refl _) (t_X5_in ?_)
  refine Rn.zret dX5_isNumber_9 rfl (bi_01 _) rfl rfl ?_
  exact rn_fin k (by rw [inL_W (by omega) (by omega)]) rfl
theorem t_X5_after {h : rHp} {Q : Option Value → rHp → Prop} {a s n : Nat} (ha : a < 251) (hs : s < 251) (hn : n < 100000) (k : Q (some (.int (nI (bh s a n)))) h) : Cl M_X5_after h.1 h.2.1 [.int (nI a), .int (nI s), .int (nI n)] h Q := by
  refine Cl.of pl_X5 (Nat.le_of_ble_eq_true rfl) (by first | exact Nat.le_refl _ | omega) (by first | exact Nat.le_refl _ | omega) ?_
  refine Rn.iload_n dX5_after_0 rfl rfl ?_
  refine Rn.istore_n dX5_after_1 rfl (Nat.le_of_ble_eq_true rfl) ?_
  refine Rn.iconst dX5_after_2 rfl ic_0 ?_
  refine Rn.istore dX5_after_3 rfl (Nat.le_of_ble_eq_true rfl) ?_
  have hloop : ∀ (m : Nat) (i : Nat), n - i < m → i ≤ n → Rn (M_X5_after, none, h.1, h.2.1) Q 5 [(1, .int (nI s)), (2, .int (nI n)), (3, .int (nI (bh s a i))), (4, .int (nI i))] [] h := by
    intro m
    induction m with
    | zero => intro i h0 h1; exact absurd h0 (Nat.not_lt_zero _)
    | succ m ih =>
      intro i h0 h1
      have hb : bh s a i < 251 := bh_lt ha i
      have hb2 : bh s a i * bh s a i ≤ 250 * 250 := Nat.mul_le_mul (by omega) (by omega)
      refine Rn.iload dX5_after_5 rfl rfl ?_
      refine Rn.iload_n dX5_after_7 rfl rfl ?_
      refine Rn.icmp_geN (tgt := 27) dX5_after_8 rfl (by decide) (by omega) (by omega) (fun c8 => ?_) (fun c8 => ?_)
      · refine Rn.iload_n dX5_after_27 rfl rfl ?_
        refine Rn.iret dX5_after_28 rfl rfl rfl ?_
        rw [show i = n by omega]
        exact k
      · refine Rn.iload_n dX5_after_11 rfl rfl ?_
        refine Rn.iload_n dX5_after_12 rfl rfl ?_
        refine Rn.imulN dX5_after_13 rfl ?_
        refine Rn.iload_n dX5_after_14 rfl rfl ?_
        refine Rn.iaddN dX5_after_15 rfl ?_
        refine Rn.sipush dX5_after_16 rfl sp_251 ?_
        refine Rn.iremN dX5_after_19 rfl (by omega) (by omega) (by omega) ?_
        refine Rn.istore_n dX5_after_20 rfl (Nat.le_of_ble_eq_true rfl) ?_
        refine Rn.iincN dX5_after_21 rfl rfl (Nat.le_of_ble_eq_true rfl) ?_
        refine Rn.goto (tgt := 5) dX5_after_24 (by decide) ?_
        exact Rn.pick [2, 3, 1, 0] rfl (ih (i + 1) (by omega) (by omega))
  exact Rn.pick [3, 4, 1, 0] rfl (hloop (n + 1) 0 (by omega) (by omega))
theorem t_X5_noUser {h : rHp} {Q : Option Value → rHp → Prop} {o : Nat} {p : Nat → Nat} (A : Pa h o p) (hm : p 24 ≤ 4) {x : Int32} (k : Q (some (.int (bi (!hasB (p 24) x)))) h) : Cl M_X5_noUser h.1 h.2.1 [.ref o, .int x] h Q := by
  refine Cl.of pl_X5 (Nat.le_of_ble_eq_true rfl) (by first | exact Nat.le_refl _ | omega) (by first | exact Nat.le_refl _ | omega) ?_
  refine Rn.iload_n dX5_noUser_0 rfl rfl ?_
  refine Rn.i2l dX5_noUser_1 rfl ?_
  refine Rn.lconst dX5_noUser_2 rfl lc_0 ?_
  refine Rn.aload_n dX5_noUser_3 rfl rfl ?_
  refine Rn.bipush dX5_noUser_4 rfl bp_24 ?_
  refine Rn.ialdN dX5_noUser_6 rfl A.1 A.2 (by omega) (by omega) ?_
  refine Rn.top (pg_n p (by omega) (by omega)) ?_
  refine Rn.iconst dX5_noUser_7 rfl ic_1 ?_
  refine Rn.isub dX5_noUser_8 rfl ?_
  refine Rn.i2l dX5_noUser_9 rfl ?_
  refine Rn.callS (as := [_, _, _]) s_X5_in l_X5_57 ⟨Nat.le_of_ble_eq_true rfl, Nat.le_of_ble_eq_true rfl⟩ dX5_noUser_10 rfl rfl (Nat.le_of_ble_eq_true rfl) (Nat.le_refl _) (Nat.le_refl _) (t_X5_in ?_)
  refine Rn.top (congrArg bi (inL_has (by omega))) ?_
  refine Rn.if_neB (tgt := 20) dX5_noUser_13 rfl (by decide) (fun c13 => ?_) (fun c13 => ?_)
  · refine Rn.iconst dX5_noUser_20 rfl ic_0 ?_
    refine Rn.zret dX5_noUser_21 rfl (by decide) rfl rfl ?_
    first | exact rn_fin k (by rw [c13]; exact bi_f') rfl | exact rn_fin k (by rw [c13]; exact bi_t') rfl
  · refine Rn.iconst dX5_noUser_16 rfl ic_1 ?_
    refine Rn.goto (tgt := 21) dX5_noUser_17 (by decide) ?_
    refine Rn.zret dX5_noUser_21 rfl (by decide) rfl rfl ?_
    first | exact rn_fin k (by rw [c13]; exact bi_f') rfl | exact rn_fin k (by rw [c13]; exact bi_t') rfl
theorem t_X5_layUser {h : rHp} {Q : Option Value → rHp → Prop} {o : Nat} {p : Nat → Nat} (A : Pa h o p) {u s t n : Nat} (hu : u < 4) (hs : s < 251) (ht : t < 251) (hn : n < 100000) (k : Q none (ph h o (bgP p u s t n))) : Cl M_X5_layUser h.1 h.2.1 [.ref o, .int (nI u), .int (nI s), .int (nI t), .int (nI n)] h Q := by
  refine Cl.of pl_X5 (Nat.le_of_ble_eq_true rfl) (by first | exact Nat.le_refl _ | omega) (by first | exact Nat.le_refl _ | omega) ?_
  refine Rn.aload_n dX5_layUser_0 rfl rfl ?_
  refine Rn.bipush dX5_layUser_1 rfl bp_6 ?_
  refine Rn.iload_n dX5_layUser_3 rfl rfl ?_
  refine Rn.imulN dX5_layUser_4 rfl ?_
  refine Rn.iload_n dX5_layUser_5 rfl rfl ?_
  refine Rn.iastN dX5_layUser_6 rfl A.1 A.2 (by omega) (by omega) ?_
  refine Rn.heap (Pa.upd (upd_pg _ _ (by omega) (by omega))) ?_
  refine Rn.aload_n dX5_layUser_7 rfl rfl ?_
  refine Rn.bipush dX5_layUser_8 rfl bp_6 ?_
  refine Rn.iload_n dX5_layUser_10 rfl rfl ?_
  refine Rn.imulN dX5_layUser_11 rfl ?_
  refine Rn.iconst dX5_layUser_12 rfl ic_1 ?_
  refine Rn.iaddN dX5_layUser_13 rfl ?_
  refine Rn.iload_n dX5_layUser_14 rfl rfl ?_
  refine Rn.iastN dX5_layUser_15 rfl (A.put _).1 (A.put _).2 (by omega) (by omega) ?_
  refine Rn.heap ((Pa.upd (upd_pg _ _ (by omega) (by omega))).trans (ph_ph _ _ _ _)) ?_
  refine Rn.aload_n dX5_layUser_16 rfl rfl ?_
  refine Rn.bipush dX5_layUser_17 rfl bp_6 ?_
  refine Rn.iload_n dX5_layUser_19 rfl rfl ?_
  refine Rn.imulN dX5_layUser_20 rfl ?_
  refine Rn.iconst dX5_layUser_21 rfl ic_2 ?_
  refine Rn.iaddN dX5_layUser_22 rfl ?_
  refine Rn.iload dX5_layUser_23 rfl rfl ?_
  refine Rn.iastN dX5_layUser_25 rfl (A.put _).1 (A.put _).2 (by omega) (by omega) ?_
  refine Rn.heap ((Pa.upd (upd_pg _ _ (by omega) (by omega))).trans (ph_ph _ _ _ _)) ?_
  refine Rn.aload_n dX5_layUser_26 rfl rfl ?_
  refine Rn.bipush dX5_layUser_27 rfl bp_6 ?_
  refine Rn.iload_n dX5_layUser_29 rfl rfl ?_
  refine Rn.imulN dX5_layUser_30 rfl ?_
  refine Rn.iconst dX5_layUser_31 rfl ic_3 ?_
  refine Rn.iaddN dX5_layUser_32 rfl ?_
  refine Rn.iload dX5_layUser_33 rfl rfl ?_
  refine Rn.iastN dX5_layUser_35 rfl (A.put _).1 (A.put _).2 (by omega) (by omega) ?_
  refine Rn.heap ((Pa.upd (upd_pg _ _ (by omega) (by omega))).trans (ph_ph _ _ _ _)) ?_
  refine Rn.aload_n dX5_layUser_36 rfl rfl ?_
  refine Rn.bipush dX5_layUser_37 rfl bp_6 ?_
  refine Rn.iload_n dX5_layUser_39 rfl rfl ?_
  refine Rn.imulN dX5_layUser_40 rfl ?_
  refine Rn.iconst dX5_layUser_41 rfl ic_4 ?_
  refine Rn.iaddN dX5_layUser_42 rfl ?_
  refine Rn.iload_n dX5_layUser_43 rfl rfl ?_
  refine Rn.iload_n dX5_layUser_44 rfl rfl ?_
  refine Rn.iload dX5_layUser_45 rfl rfl ?_
  refine Rn.callS (as := [_, _, _]) s_X5_after l_X5_61 ⟨Nat.le_of_ble_eq_true rfl, Nat.le_of_ble_eq_true rfl⟩ dX5_layUser_47 rfl rfl (Nat.le_of_ble_eq_true rfl) (Nat.le_refl _) (Nat.le_refl _) (t_X5_after hs ht hn ?_)
  refine Rn.iastN dX5_layUser_50 rfl (A.put _).1 (A.put _).2 (by omega) (by omega) ?_
  refine Rn.heap ((Pa.upd (upd_pg _ _ (by omega) (by omega))).trans (ph_ph _ _ _ _)) ?_
  refine Rn.aload_n dX5_layUser_51 rfl rfl ?_
  refine Rn.bipush dX5_layUser_52 rfl bp_6 ?_
  refine Rn.iload_n dX5_layUser_54 rfl rfl ?_
  refine Rn.imulN dX5_layUser_55 rfl ?_
  refine Rn.iconst dX5_layUser_56 rfl ic_5 ?_
  refine Rn.iaddN dX5_layUser_57 rfl ?_
  refine Rn.iload dX5_layUser_58 rfl rfl ?_
  refine Rn.iastN dX5_layUser_60 rfl (A.put _).1 (A.put _).2 (by omega) (by omega) ?_
  refine Rn.heap ((Pa.upd (upd_pg _ _ (by omega) (by omega))).trans (ph_ph _ _ _ _)) ?_
  refine Rn.ret dX5_layUser_61 rfl rfl rfl ?_
  exact k
theorem t_X5_passOf {h : rHp} {Q : Option Value → rHp → Prop} {o : Nat} {p : Nat → Nat} (A : Pa h o p) (O : OKp p) {u i : Nat} (hu : u < 4) (hi : i < 100000) (k : Q (some (.int (nI (psP p u i)))) h) : Cl M_X5_passOf h.1 h.2.1 [.ref o, .int (nI u), .int (nI i)] h Q := by
  refine Cl.of pl_X5 (Nat.le_of_ble_eq_true rfl) (by first | exact Nat.le_refl _ | omega) (by first | exact Nat.le_refl _ | omega) ?_
  refine Rn.aload_n dX5_passOf_0 rfl rfl ?_
  refine Rn.bipush dX5_passOf_1 rfl bp_6 ?_
  refine Rn.iload_n dX5_passOf_3 rfl rfl ?_
  refine Rn.imulN dX5_passOf_4 rfl ?_
  refine Rn.ialdN dX5_passOf_5 rfl A.1 A.2 (by omega) (by omega) ?_
  refine Rn.top (pg_us p hu (show 0 < 6 by omega)) ?_
  refine Rn.aload_n dX5_passOf_6 rfl rfl ?_
  refine Rn.bipush dX5_passOf_7 rfl bp_6 ?_
  refine Rn.iload_n dX5_passOf_9 rfl rfl ?_
  refine Rn.imulN dX5_passOf_10 rfl ?_
  refine Rn.iconst dX5_passOf_11 rfl ic_1 ?_
  refine Rn.iaddN dX5_passOf_12 rfl ?_
  refine Rn.ialdN dX5_passOf_13 rfl A.1 A.2 (by omega) (by omega) ?_
  refine Rn.top (pg_us _ (by omega) (show 1 < 6 by omega)) ?_
  refine Rn.iload_n dX5_passOf_14 rfl rfl ?_
  refine Rn.callS (as := [_, _, _]) s_X5_after l_X5_61 ⟨Nat.le_of_ble_eq_true rfl, Nat.le_of_ble_eq_true rfl⟩ dX5_passOf_15 rfl rfl (Nat.le_of_ble_eq_true rfl) (Nat.le_refl _) (Nat.le_refl _) (t_X5_after (O.us hu).1 (O.us hu).2.1 hi ?_)
  refine Rn.iret dX5_passOf_18 rfl rfl rfl ?_
  exact k
theorem t_X5_fitsOn {h : rHp} {Q : Option Value → rHp → Prop} {o : Nat} {p : Nat → Nat} (A : Pa h o p) (O : OKp p) {u v : Nat} (hu : u < 4) (hv : v < 251) (k : Q (some (.int (nI (fitP p u v)))) h) : Cl M_X5_fitsOn h.1 h.2.1 [.ref o, .int (nI u), .int (nI v)] h Q := by
  refine Cl.of pl_X5 (Nat.le_of_ble_eq_true rfl) (by first | exact Nat.le_refl _ | omega) (by first | exact Nat.le_refl _ | omega) ?_
  refine Rn.iload_n dX5_fitsOn_0 rfl rfl ?_
  refine Rn.istore_n dX5_fitsOn_1 rfl (Nat.le_of_ble_eq_true rfl) ?_
  refine Rn.iconst dX5_fitsOn_2 rfl ic_1 ?_
  refine Rn.istore dX5_fitsOn_3 rfl (Nat.le_of_ble_eq_true rfl) ?_
  have hloop : ∀ (m : Nat) (n kk x : Nat), n < m → x < 251 → kk + n = min (p 25) (p (6 * u + 5)) + 1 → ftL (p (6 * u + 1)) (p (6 * u + 4)) n kk x = fitP p u v → Rn (M_X5_fitsOn, none, h.1, h.2.1) Q 5 [(0, .ref o), (1, .int (nI u)), (3, .int (nI x)), (4, .int (nI kk))] [] h := by
    intro m
    induction m with
    | zero => intro n kk x h0 h1 h2 h3; exact absurd h0 (Nat.not_lt_zero _)
    | succ m ih =>
      intro n kk x h0 h1 h2 h3
      obtain ⟨hu0, hu1, hu2, hu3, hu4, hu5⟩ := O.us hu
      have hw6 := O.2.2.1
      have hx2 : x * x ≤ 250 * 250 := Nat.mul_le_mul (by omega) (by omega)
      refine Rn.iload dX5_fitsOn_5 rfl rfl ?_
      refine Rn.aload_n dX5_fitsOn_7 rfl rfl ?_
      refine Rn.bipush dX5_fitsOn_8 rfl bp_25 ?_
      refine Rn.ialdN dX5_fitsOn_10 rfl A.1 A.2 (by omega) (by omega) ?_
      refine Rn.top (pg_n p (by omega) (by omega)) ?_
      refine Rn.icmp_gtN (tgt := 65) dX5_fitsOn_11 rfl (by decide) (by omega) (by omega) (fun c11 => ?_) (fun c11 => ?_)
      · obtain rfl : n = 0 := by omega
        refine Rn.iconst dX5_fitsOn_65 rfl ic_0 ?_
        refine Rn.iret dX5_fitsOn_66 rfl rfl rfl ?_
        exact rn_fin k (by rw [← h3]; rfl) rfl
      · refine Rn.iload dX5_fitsOn_14 rfl rfl ?_
        refine Rn.aload_n dX5_fitsOn_16 rfl rfl ?_
        refine Rn.bipush dX5_fitsOn_17 rfl bp_6 ?_
        refine Rn.iload_n dX5_fitsOn_19 rfl rfl ?_
        refine Rn.imulN dX5_fitsOn_20 rfl ?_
        refine Rn.iconst dX5_fitsOn_21 rfl ic_5 ?_
        refine Rn.iaddN dX5_fitsOn_22 rfl ?_
        refine Rn.ialdN dX5_fitsOn_23 rfl A.1 A.2 (by omega) (by omega) ?_
        refine Rn.top (pg_us _ (by omega) (show 5 < 6 by omega)) ?_
        refine Rn.icmp_gtN (tgt := 65) dX5_fitsOn_24 rfl (by decide) (by omega) (by omega) (fun c24 => ?_) (fun c24 => ?_)
        · obtain rfl : n = 0 := by omega
          refine Rn.iconst dX5_fitsOn_65 rfl ic_0 ?_
          refine Rn.iret dX5_fitsOn_66 rfl rfl rfl ?_
          exact rn_fin k (by rw [← h3]; rfl) rfl
        · obtain ⟨n, rfl⟩ : ∃ n', n = n' + 1 := ⟨n - 1, by omega⟩
          refine Rn.iload_n dX5_fitsOn_27 rfl rfl ?_
          refine Rn.iload_n dX5_fitsOn_28 rfl rfl ?_
          refine Rn.imulN dX5_fitsOn_29 rfl ?_
          refine Rn.aload_n dX5_fitsOn_30 rfl rfl ?_
          refine Rn.bipush dX5_fitsOn_31 rfl bp_6 ?_
          refine Rn.iload_n dX5_fitsOn_33 rfl rfl ?_
          refine Rn.imulN dX5_fitsOn_34 rfl ?_
          refine Rn.iconst dX5_fitsOn_35 rfl ic_1 ?_
          refine Rn.iaddN dX5_fitsOn_36 rfl ?_
          refine Rn.ialdN dX5_fitsOn_37 rfl A.1 A.2 (by omega) (by omega) ?_
          refine Rn.top (pg_us _ (by omega) (show 1 < 6 by omega)) ?_
          refine Rn.iaddN dX5_fitsOn_38 rfl ?_
          refine Rn.sipush dX5_fitsOn_39 rfl sp_251 ?_
          refine Rn.iremN dX5_fitsOn_42 rfl (by omega) (by omega) (by omega) ?_
          refine Rn.istore_n dX5_fitsOn_43 rfl (Nat.le_of_ble_eq_true rfl) ?_
          refine Rn.iload_n dX5_fitsOn_44 rfl rfl ?_
          refine Rn.aload_n dX5_fitsOn_45 rfl rfl ?_
          refine Rn.bipush dX5_fitsOn_46 rfl bp_6 ?_
          refine Rn.iload_n dX5_fitsOn_48 rfl rfl ?_
          refine Rn.imulN dX5_fitsOn_49 rfl ?_
          refine Rn.iconst dX5_fitsOn_50 rfl ic_4 ?_
          refine Rn.iaddN dX5_fitsOn_51 rfl ?_
          refine Rn.ialdN dX5_fitsOn_52 rfl A.1 A.2 (by omega) (by omega) ?_
          refine Rn.top (pg_us _ (by omega) (show 4 < 6 by omega)) ?_
          refine Rn.icmp_neN (tgt := 59) dX5_fitsOn_53 rfl (by decide) (by omega) (by omega) (fun c53 => ?_) (fun c53 => ?_)
          · refine Rn.iincN dX5_fitsOn_59 rfl rfl (Nat.le_of_ble_eq_true rfl) ?_
            refine Rn.goto (tgt := 5) dX5_fitsOn_62 (by decide) ?_
            exact Rn.pick [2, 3, 1, 0] rfl (ih n (kk + 1) _ (by omega) (nx_lt _ _) (by omega) (by rw [← h3]; exact (if_neg c53).symm))
          · refine Rn.iload dX5_fitsOn_56 rfl rfl ?_
            refine Rn.iret dX5_fitsOn_58 rfl rfl rfl ?_
            exact rn_fin k (by rw [← h3]; exact congrArg (fun z => some (Value.int (nI z))) (if_pos c53).symm) rfl
  exact Rn.pick [2, 3, 1, 0] rfl (hloop (min (p 25) (p (6 * u + 5)) + 1) _ 1 v (by omega) hv (by omega) rfl)
theorem t_X5_comeOn {h : rHp} {Q : Option Value → rHp → Prop} {o : Nat} {p : Nat → Nat} (A : Pa h o p) (O : OKp p) {u v : Nat} (hu : u < 4) (hv : v < 251) (k : Q (some (.int (nI (fitP p u v)))) (ph h o (brP p u v))) : Cl M_X5_comeOn h.1 h.2.1 [.ref o, .int (nI u), .int (nI v)] h Q := by
  refine Cl.of pl_X5 (Nat.le_of_ble_eq_true rfl) (by first | exact Nat.le_refl _ | omega) (by first | exact Nat.le_refl _ | omega) ?_
  refine Rn.aload_n dX5_comeOn_0 rfl rfl ?_
  refine Rn.bipush dX5_comeOn_1 rfl bp_26 ?_
  refine Rn.sipush dX5_comeOn_3 rfl sp_1000 ?_
  refine Rn.iload_n dX5_comeOn_6 rfl rfl ?_
  refine Rn.imulN dX5_comeOn_7 rfl ?_
  refine Rn.iload_n dX5_comeOn_8 rfl rfl ?_
  refine Rn.iaddN dX5_comeOn_9 rfl ?_
  refine Rn.iastN dX5_comeOn_10 rfl A.1 A.2 (by omega) (by omega) ?_
  refine Rn.heap (Pa.upd (upd_pg26 _ _)) ?_
  refine Rn.aload_n dX5_comeOn_11 rfl rfl ?_
  refine Rn.iload_n dX5_comeOn_12 rfl rfl ?_
  refine Rn.iload_n dX5_comeOn_13 rfl rfl ?_
  refine Rn.callS (as := [_, _, _]) s_X5_fitsOn l_X5_65 ⟨Nat.le_of_ble_eq_true rfl, Nat.le_of_ble_eq_true rfl⟩ dX5_comeOn_14 rfl rfl (Nat.le_of_ble_eq_true rfl) (Nat.le_refl _) (Nat.le_refl _) (t_X5_fitsOn (A.put _) (O.un26 u hu v hv) hu hv ?_)
  refine Rn.top (congrArg nI (fitP_26 p hu _ v)) ?_
  have hf30 : fitP p u v ≤ p (6 * u + 5) := fitP_le p u v
  have hl30 := (O.us hu).2.2.2.2.2
  refine Rn.istore_n dX5_comeOn_17 rfl (Nat.le_of_ble_eq_true rfl) ?_
  refine Rn.aload_n dX5_comeOn_18 rfl rfl ?_
  refine Rn.bipush dX5_comeOn_19 rfl bp_6 ?_
  refine Rn.iload_n dX5_comeOn_21 rfl rfl ?_
  refine Rn.imulN dX5_comeOn_22 rfl ?_
  refine Rn.iconst dX5_comeOn_23 rfl ic_4 ?_
  refine Rn.iaddN dX5_comeOn_24 rfl ?_
  refine Rn.iload_n dX5_comeOn_25 rfl rfl ?_
  refine Rn.if_leN (tgt := 33) dX5_comeOn_26 rfl (by decide) (by omega) (fun c26 => ?_) (fun c26 => ?_)
  · refine Rn.aload_n dX5_comeOn_33 rfl rfl ?_
    refine Rn.bipush dX5_comeOn_34 rfl bp_6 ?_
    refine Rn.iload_n dX5_comeOn_36 rfl rfl ?_
    refine Rn.imulN dX5_comeOn_37 rfl ?_
    refine Rn.iconst dX5_comeOn_38 rfl ic_4 ?_
    refine Rn.iaddN dX5_comeOn_39 rfl ?_
    refine Rn.ialdN dX5_comeOn_40 rfl (A.put _).1 (A.put _).2 (by omega) (by omega) ?_
    refine Rn.top (pg_us _ (by omega) (show 4 < 6 by omega)) ?_
    refine Rn.top (congrArg nI (un_ne _ _ (by omega))) ?_
    refine Rn.iastN dX5_comeOn_41 rfl (A.put _).1 (A.put _).2 (by omega) (by omega) ?_
    refine Rn.heap ((Pa.upd (upd_pg _ _ (by omega) (by omega))).trans (ph_ph _ _ _ _)) ?_
    refine Rn.aload_n dX5_comeOn_42 rfl rfl ?_
    refine Rn.bipush dX5_comeOn_43 rfl bp_6 ?_
    refine Rn.iload_n dX5_comeOn_45 rfl rfl ?_
    refine Rn.imulN dX5_comeOn_46 rfl ?_
    refine Rn.iconst dX5_comeOn_47 rfl ic_5 ?_
    refine Rn.iaddN dX5_comeOn_48 rfl ?_
    refine Rn.dup2 dX5_comeOn_49 rfl rfl rfl ?_
    refine Rn.ialdN dX5_comeOn_50 rfl (A.put _).1 (A.put _).2 (by omega) (by omega) ?_
    refine Rn.top (pg_us _ (by omega) (show 5 < 6 by omega)) ?_
    refine Rn.top (congrArg nI ((un_ne _ _ (by omega)).trans (un_ne _ _ (by omega)))) ?_
    refine Rn.iload_n dX5_comeOn_51 rfl rfl ?_
    refine Rn.isubN dX5_comeOn_52 rfl (by omega) ?_
    refine Rn.iastN dX5_comeOn_53 rfl (A.put _).1 (A.put _).2 (by omega) (by omega) ?_
    refine Rn.heap ((Pa.upd (upd_pg _ _ (by omega) (by omega))).trans (ph_ph _ _ _ _)) ?_
    refine Rn.iload_n dX5_comeOn_54 rfl rfl ?_
    refine Rn.iret dX5_comeOn_55 rfl rfl rfl ?_
    first | exact rn_fin k rfl (congrArg (ph h o) ((by rw [c26] : un _ _ (p (6 * u + 5) - fitP p u v) = un _ _ (p (6 * u + 5) - 0)).trans (brP_n hu c26))) | exact rn_fin k rfl (congrArg (ph h o) (brP_y c26))
  · refine Rn.iload_n dX5_comeOn_29 rfl rfl ?_
    refine Rn.goto (tgt := 41) dX5_comeOn_30 (by decide) ?_
    refine Rn.iastN dX5_comeOn_41 rfl (A.put _).1 (A.put _).2 (by omega) (by omega) ?_
    refine Rn.heap ((Pa.upd (upd_pg _ _ (by omega) (by omega))).trans (ph_ph _ _ _ _)) ?_
    refine Rn.aload_n dX5_comeOn_42 rfl rfl ?_
    refine Rn.bipush dX5_comeOn_43 rfl bp_6 ?_
    refine Rn.iload_n dX5_comeOn_45 rfl rfl ?_
    refine Rn.imulN dX5_comeOn_46 rfl ?_
    refine Rn.iconst dX5_comeOn_47 rfl ic_5 ?_
    refine Rn.iaddN dX5_comeOn_48 rfl ?_
    refine Rn.dup2 dX5_comeOn_49 rfl rfl rfl ?_
    refine Rn.ialdN dX5_comeOn_50 rfl (A.put _).1 (A.put _).2 (by omega) (by omega) ?_
    refine Rn.top (pg_us _ (by omega) (show 5 < 6 by omega)) ?_
    refine Rn.top (congrArg nI ((un_ne _ _ (by omega)).trans (un_ne _ _ (by omega)))) ?_
    refine Rn.iload_n dX5_comeOn_51 rfl rfl ?_
    refine Rn.isubN dX5_comeOn_52 rfl (by omega) ?_
    refine Rn.iastN dX5_comeOn_53 rfl (A.put _).1 (A.put _).2 (by omega) (by omega) ?_
    refine Rn.heap ((Pa.upd (upd_pg _ _ (by omega) (by omega))).trans (ph_ph _ _ _ _)) ?_
    refine Rn.iload_n dX5_comeOn_54 rfl rfl ?_
    refine Rn.iret dX5_comeOn_55 rfl rfl rfl ?_
    first | exact rn_fin k rfl (congrArg (ph h o) ((by rw [c26] : un _ _ (p (6 * u + 5) - fitP p u v) = un _ _ (p (6 * u + 5) - 0)).trans (brP_n hu c26))) | exact rn_fin k rfl (congrArg (ph h o) (brP_y c26))
theorem t_X5_sendOn {h : rHp} {Q : Option Value → rHp → Prop} {o : Nat} {p : Nat → Nat} (A : Pa h o p) (O : OKp p) {u : Nat} (hu : u < 4) (ho : ow p u = true) (k : Q (some (.int (nI (seK p u)))) (ph h o (seP p u))) : Cl M_X5_sendOn h.1 h.2.1 [.ref o, .int (nI u)] h Q := by
  refine Cl.of pl_X5 (Nat.le_of_ble_eq_true rfl) (by first | exact Nat.le_refl _ | omega) (by first | exact Nat.le_refl _ | omega) ?_
  obtain ⟨hu2, hu3⟩ := ow_t ho
  have hown := (O.us hu).2.2.2.1
  have esp : spP p u = un p (6 * u + 3) (p (6 * u + 3) - 1) := if_pos ho
  have Osp : OKp (un p (6 * u + 3) (p (6 * u + 3) - 1)) := esp ▸ OK_sp O hu
  refine Rn.aload_n dX5_sendOn_0 rfl rfl ?_
  refine Rn.bipush dX5_sendOn_1 rfl bp_6 ?_
  refine Rn.iload_n dX5_sendOn_3 rfl rfl ?_
  refine Rn.imulN dX5_sendOn_4 rfl ?_
  refine Rn.iconst dX5_sendOn_5 rfl ic_3 ?_
  refine Rn.iaddN dX5_sendOn_6 rfl ?_
  refine Rn.dup2 dX5_sendOn_7 rfl rfl rfl ?_
  refine Rn.ialdN dX5_sendOn_8 rfl A.1 A.2 (by omega) (by omega) ?_
  refine Rn.top (pg_us _ (by omega) (show 3 < 6 by omega)) ?_
  refine Rn.iconst dX5_sendOn_9 rfl ic_1 ?_
  refine Rn.isubN dX5_sendOn_10 rfl (by omega) ?_
  refine Rn.iastN dX5_sendOn_11 rfl A.1 A.2 (by omega) (by omega) ?_
  refine Rn.heap (Pa.upd (upd_pg _ _ (by omega) (by omega))) ?_
  refine Rn.aload_n dX5_sendOn_12 rfl rfl ?_
  refine Rn.iload_n dX5_sendOn_13 rfl rfl ?_
  refine Rn.aload_n dX5_sendOn_14 rfl rfl ?_
  refine Rn.iload_n dX5_sendOn_15 rfl rfl ?_
  refine Rn.aload_n dX5_sendOn_16 rfl rfl ?_
  refine Rn.bipush dX5_sendOn_17 rfl bp_6 ?_
  refine Rn.iload_n dX5_sendOn_19 rfl rfl ?_
  refine Rn.imulN dX5_sendOn_20 rfl ?_
  refine Rn.iconst dX5_sendOn_21 rfl ic_3 ?_
  refine Rn.iaddN dX5_sendOn_22 rfl ?_
  refine Rn.ialdN dX5_sendOn_23 rfl (A.put _).1 (A.put _).2 (by omega) (by omega) ?_
  refine Rn.top (pg_us _ (by omega) (show 3 < 6 by omega)) ?_
  refine Rn.top (congrArg nI (un_eq _ _ _)) ?_
  refine Rn.callS (as := [_, _, _]) s_X5_passOf l_X5_69 ⟨Nat.le_of_ble_eq_true rfl, Nat.le_of_ble_eq_true rfl⟩ dX5_sendOn_24 rfl rfl (Nat.le_of_ble_eq_true rfl) (Nat.le_refl _) (Nat.le_refl _) (t_X5_passOf (A.put _) Osp hu (by omega) ?_)
  refine Rn.top (congrArg nI (psP_own p hu _ _ u hu)) ?_
  refine Rn.callS (as := [_, _, _]) s_X5_comeOn l_X5_72 ⟨Nat.le_of_ble_eq_true rfl, Nat.le_of_ble_eq_true rfl⟩ dX5_sendOn_27 rfl rfl (Nat.le_of_ble_eq_true rfl) (Nat.le_refl _) (Nat.le_refl _) (t_X5_comeOn (A.put _) Osp hu (psP_lt O hu _) ?_)
  refine Rn.heap (ph_ph _ _ _ _) ?_
  refine Rn.top (congrArg nI (fitP_own p hu _ _ u hu)) ?_
  refine Rn.iret dX5_sendOn_30 rfl rfl rfl ?_
  exact rn_fin k (some_int (by unfold seK; rw [if_pos ho])) (by unfold seP; rw [if_pos ho, esp])
theorem t_X5_hasPass {h : rHp} {Q : Option Value → rHp → Prop} {o : Nat} {p : Nat → Nat} (A : Pa h o p) (O : OKp p) {x : Int32} (k : Q (some (.int (bi (ownB p x)))) h) : Cl M_X5_hasPass h.1 h.2.1 [.ref o, .int x] h Q := by
  refine Cl.of pl_X5 (Nat.le_of_ble_eq_true rfl) (by first | exact Nat.le_refl _ | omega) (by first | exact Nat.le_refl _ | omega) ?_
  refine Rn.aload_n dX5_hasPass_0 rfl rfl ?_
  refine Rn.iload_n dX5_hasPass_1 rfl rfl ?_
  refine Rn.callS (as := [_, _]) s_X5_noUser l_X5_75 ⟨Nat.le_of_ble_eq_true rfl, Nat.le_of_ble_eq_true rfl⟩ dX5_hasPass_2 rfl rfl (Nat.le_of_ble_eq_true rfl) (Nat.le_refl _) (Nat.le_refl _) (t_X5_noUser A O.1 ?_)
  refine Rn.if_neB (tgt := 23) dX5_hasPass_5 rfl (by decide) (fun c5 => ?_) (fun c5 => ?_)
  · refine Rn.iconst dX5_hasPass_23 rfl ic_0 ?_
    refine Rn.zret dX5_hasPass_24 rfl (by decide) rfl rfl ?_
    first | exact rn_fin k (by rw [ownB_hn (bn_t c5), bi_f]) rfl | exact rn_fin k (by rw [ownB_nI (by omega), ow_no c16, bi_f]) rfl | exact rn_fin k (by rw [ownB_nI (by omega), ow_mk hu (by omega), bi_t]) rfl
  · obtain ⟨u, hu, rfl⟩ := hasB_of (bn_f c5)
    have hu4 := O.1
    refine Rn.aload_n dX5_hasPass_8 rfl rfl ?_
    refine Rn.bipush dX5_hasPass_9 rfl bp_6 ?_
    refine Rn.iload_n dX5_hasPass_11 rfl rfl ?_
    refine Rn.imulN dX5_hasPass_12 rfl ?_
    refine Rn.iconst dX5_hasPass_13 rfl ic_3 ?_
    refine Rn.iaddN dX5_hasPass_14 rfl ?_
    refine Rn.ialdN dX5_hasPass_15 rfl A.1 A.2 (by omega) (by omega) ?_
    refine Rn.top (pg_us _ (by omega) (show 3 < 6 by omega)) ?_
    have hown := (O.us (show u < 4 by omega)).2.2.2.1
    refine Rn.if_leN (tgt := 23) dX5_hasPass_16 rfl (by decide) (by omega) (fun c16 => ?_) (fun c16 => ?_)
    · refine Rn.iconst dX5_hasPass_23 rfl ic_0 ?_
      refine Rn.zret dX5_hasPass_24 rfl (by decide) rfl rfl ?_
      first | exact rn_fin k (by rw [ownB_hn (bn_t c5), bi_f]) rfl | exact rn_fin k (by rw [ownB_nI (by omega), ow_no c16, bi_f]) rfl | exact rn_fin k (by rw [ownB_nI (by omega), ow_mk hu (by omega), bi_t]) rfl
    · refine Rn.iconst dX5_hasPass_19 rfl ic_1 ?_
      refine Rn.goto (tgt := 24) dX5_hasPass_20 (by decide) ?_
      refine Rn.zret dX5_hasPass_24 rfl (by decide) rfl rfl ?_
      first | exact rn_fin k (by rw [ownB_hn (bn_t c5), bi_f]) rfl | exact rn_fin k (by rw [ownB_nI (by omega), ow_no c16, bi_f]) rfl | exact rn_fin k (by rw [ownB_nI (by omega), ow_mk hu (by omega), bi_t]) rfl
theorem t_X5_isInStep {h : rHp} {Q : Option Value → rHp → Prop} {o : Nat} {p : Nat → Nat} (A : Pa h o p) (O : OKp p) {u : Nat} (hu : u < 2147483648) (k : Q (some (.int (bi (stp p u)))) h) : Cl M_X5_isInStep h.1 h.2.1 [.ref o, .int (nI u)] h Q := by
  refine Cl.of pl_X5 (Nat.le_of_ble_eq_true rfl) (by first | exact Nat.le_refl _ | omega) (by first | exact Nat.le_refl _ | omega) ?_
  refine Rn.aload_n dX5_isInStep_0 rfl rfl ?_
  refine Rn.iload_n dX5_isInStep_1 rfl rfl ?_
  refine Rn.callS (as := [_, _]) s_X5_hasPass l_X5_79 ⟨Nat.le_of_ble_eq_true rfl, Nat.le_of_ble_eq_true rfl⟩ dX5_isInStep_2 rfl rfl (Nat.le_of_ble_eq_true rfl) (Nat.le_refl _) (Nat.le_refl _) (t_X5_hasPass A O ?_)
  refine Rn.top (congrArg bi (ownB_nI hu)) ?_
  refine Rn.if_eqB (tgt := 35) dX5_isInStep_5 rfl (by decide) (fun c5 => ?_) (fun c5 => ?_)
  · refine Rn.iconst dX5_isInStep_35 rfl ic_0 ?_
    refine Rn.zret dX5_isInStep_36 rfl (by decide) rfl rfl ?_
    first | exact rn_fin k (by rw [stp_n1 c5, bi_f]) rfl | exact rn_fin k (by rw [stp_n2 c28, bi_f]) rfl | exact rn_fin k (by rw [stp_y c5 c28, bi_t]) rfl
  · obtain ⟨hu2, hu3⟩ := ow_t c5
    have hu4 : u < 4 := by have := O.1; omega
    have hown := (O.us hu4).2.2.2.1
    refine Rn.aload_n dX5_isInStep_8 rfl rfl ?_
    refine Rn.iload_n dX5_isInStep_9 rfl rfl ?_
    refine Rn.aload_n dX5_isInStep_10 rfl rfl ?_
    refine Rn.iload_n dX5_isInStep_11 rfl rfl ?_
    refine Rn.aload_n dX5_isInStep_12 rfl rfl ?_
    refine Rn.bipush dX5_isInStep_13 rfl bp_6 ?_
    refine Rn.iload_n dX5_isInStep_15 rfl rfl ?_
    refine Rn.imulN dX5_isInStep_16 rfl ?_
    refine Rn.iconst dX5_isInStep_17 rfl ic_3 ?_
    refine Rn.iaddN dX5_isInStep_18 rfl ?_
    refine Rn.ialdN dX5_isInStep_19 rfl A.1 A.2 (by omega) (by omega) ?_
    refine Rn.top (pg_us _ (by omega) (show 3 < 6 by omega)) ?_
    refine Rn.iconst dX5_isInStep_20 rfl ic_1 ?_
    refine Rn.isubN dX5_isInStep_21 rfl (by omega) ?_
    refine Rn.callS (as := [_, _, _]) s_X5_passOf l_X5_69 ⟨Nat.le_of_ble_eq_true rfl, Nat.le_of_ble_eq_true rfl⟩ dX5_isInStep_22 rfl rfl (Nat.le_of_ble_eq_true rfl) (Nat.le_refl _) (Nat.le_refl _) (t_X5_passOf A O hu4 (by omega) ?_)
    refine Rn.callS (as := [_, _, _]) s_X5_fitsOn l_X5_65 ⟨Nat.le_of_ble_eq_true rfl, Nat.le_of_ble_eq_true rfl⟩ dX5_isInStep_25 rfl rfl (Nat.le_of_ble_eq_true rfl) (Nat.le_refl _) (Nat.le_refl _) (t_X5_fitsOn A O hu4 (psP_lt O hu4 _) ?_)
    have hfl := fitP_le p u (psP p u (p (6 * u + 3) - 1))
    have hl30 := (O.us hu4).2.2.2.2.2
    refine Rn.if_leN (tgt := 35) dX5_isInStep_28 rfl (by decide) (by omega) (fun c28 => ?_) (fun c28 => ?_)
    · refine Rn.iconst dX5_isInStep_35 rfl ic_0 ?_
      refine Rn.zret dX5_isInStep_36 rfl (by decide) rfl rfl ?_
      first | exact rn_fin k (by rw [stp_n1 c5, bi_f]) rfl | exact rn_fin k (by rw [stp_n2 c28, bi_f]) rfl | exact rn_fin k (by rw [stp_y c5 c28, bi_t]) rfl
    · refine Rn.iconst dX5_isInStep_31 rfl ic_1 ?_
      refine Rn.goto (tgt := 36) dX5_isInStep_32 (by decide) ?_
      refine Rn.zret dX5_isInStep_36 rfl (by decide) rfl rfl ?_
      first | exact rn_fin k (by rw [stp_n1 c5, bi_f]) rfl | exact rn_fin k (by rw [stp_n2 c28, bi_f]) rfl | exact rn_fin k (by rw [stp_y c5 c28, bi_t]) rfl
