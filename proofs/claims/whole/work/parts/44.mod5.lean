/-! ===== fractions; shares over sets of users ===== -/
theorem fr_eq {a b c d : Nat} (hb : 0 < b) (hd : 0 < d) (h : a * d = b * c) (up : Bool) : frN a b up = frN c d up := by
  have e : Nat.gcd a b * d = b * Nat.gcd c d := by rw [← Nat.gcd_mul_right, h, Nat.gcd_mul_left]
  have h1 : a / Nat.gcd a b = c / Nat.gcd c d := by rw [← Nat.mul_div_mul_right a (Nat.gcd a b) hd, e, h, Nat.mul_div_mul_left _ _ hb]
  have h2 : b / Nat.gcd a b = d / Nat.gcd c d := by rw [← Nat.mul_div_mul_right b (Nat.gcd a b) hd, e, Nat.mul_div_mul_left _ _ hb]
  unfold frN
  cases up
  · exact h2
  · exact h1
def fac : Nat → Nat
  | 0 => 1
  | n + 1 => fac n * (n + 1)
theorem fac_b : ∀ m, m < 5 → fac m ≤ 24 ∧ 0 < fac m := by decide
def sm (f : Nat → Nat) : Nat → Nat
  | 0 => 0
  | n + 1 => sm f n + f n
theorem sm_add (f g : Nat → Nat) : ∀ n, sm (fun j => f j + g j) n = sm f n + sm g n
  | 0 => rfl
  | n + 1 => by
    show sm (fun j => f j + g j) n + (f n + g n) = sm f n + f n + (sm g n + g n)
    rw [sm_add f g n]; omega
theorem sm_cong {f g : Nat → Nat} : ∀ n, (∀ j, j < n → f j = g j) → sm f n = sm g n
  | 0, _ => rfl
  | n + 1, h => by
    show sm f n + f n = sm g n + g n
    rw [sm_cong n (fun j hj => h j (by omega)), h n (by omega)]
theorem sm_0 {f : Nat → Nat} : ∀ n, (∀ j, j < n → f j = 0) → sm f n = 0
  | 0, _ => rfl
  | n + 1, h => by
    show sm f n + f n = 0
    rw [sm_0 n (fun j hj => h j (by omega)), h n (by omega)]
def shT (p : Nat → Nat) (u N j : Nat) : Nat := if bt j u then 0 else fac (onN j 12) * fac (p 24 - 1 - onN j 12) * (cnt (anS p (j + 2 ^ u)) N - cnt (anS p j) N)
def gB (b0 b1 b2 b3 : Bool) : Nat → Bool
  | 0 => b0
  | 1 => b1
  | 2 => b2
  | _ => b3
def dT (m u : Nat) (g : Nat → Bool) (j : Nat) : Nat := if bt j u then 0 else fac (onN j 12) * fac (m - 1 - onN j 12) * ((if anyB (fun w => bt (j + 2 ^ u) w && g w) m then 1 else 0) - (if anyB (fun w => bt j w && g w) m then 1 else 0))
theorem dT_all : ∀ m, m < 5 → ∀ u, u < m → ∀ b0 b1 b2 b3 : Bool, 12 * sm (dT m u (gB b0 b1 b2 b3)) (2 ^ m) = fac m * (if gB b0 b1 b2 b3 u then 12 / cnt (fun w => decide (w < m) && gB b0 b1 b2 b3 w) 4 else 0) := by decide +kernel
theorem bt_up : ∀ j, j < 16 → ∀ u, u < 4 → ∀ w, w < 4 → bt j u = false → bt j w = true → bt (j + 2 ^ u) w = true := by decide +kernel
theorem on_lt : ∀ m, m < 5 → ∀ u, u < m → ∀ j, j < 2 ^ m → bt j u = false → onN j 12 ≤ m - 1 := by decide +kernel
theorem or_N : ∀ j, j < 16 → ∀ u, u < 4 → bt j u = false → nI j ||| nI (2 ^ u) = nI (j + 2 ^ u) := by decide +kernel
theorem p2_4 : ∀ m, m < 5 → 2 ^ m ≤ 16 := by decide
theorem anyB_mono {f g : Nat → Bool} : ∀ n, (∀ i, i < n → f i = true → g i = true) → anyB f n = true → anyB g n = true
  | 0, _, h => h
  | n + 1, hi, h => by
    have h1 : (anyB f n || f n) = true := h
    show (anyB g n || g n) = true
    rw [Bool.or_eq_true] at h1 ⊢
    cases h1 with
    | inl z => exact Or.inl (anyB_mono n (fun i hj => hi i (by omega)) z)
    | inr z => exact Or.inr (hi n (by omega) z)
theorem anS_up {p : Nat → Nat} (O : OKp p) {u j v : Nat} (hu : u < 4) (hj : j < 16) (hb : bt j u = false) (h : anS p j v = true) : anS p (j + 2 ^ u) v = true := by
  refine anyB_mono _ (fun w hw z => ?_) h
  have z1 : (bt j w && fB p w v) = true := z
  show (bt (j + 2 ^ u) w && fB p w v) = true
  rw [Bool.and_eq_true] at z1 ⊢
  exact ⟨bt_up j hj u hu w (by have := O.1; omega) hb z1.1, z1.2⟩
theorem cnt_up {p : Nat → Nat} (O : OKp p) {u j : Nat} (hu : u < 4) (hj : j < 16) (hb : bt j u = false) : ∀ N, cnt (anS p j) N ≤ cnt (anS p (j + 2 ^ u)) N
  | 0 => Nat.le_refl _
  | N + 1 => by
    have h := cnt_up O hu hj hb N
    rw [cnt_s, cnt_s]
    by_cases c : anS p j N = true
    · rw [if_pos c, if_pos (anS_up O hu hj hb c)]; omega
    · rw [if_neg c]; split <;> omega
theorem gB_f (p : Nat → Nat) (v w : Nat) (hw : w < 4) : gB (fB p 0 v) (fB p 1 v) (fB p 2 v) (fB p 3 v) w = fB p w v := by
  match w, hw with
  | 0, _ => rfl
  | 1, _ => rfl
  | 2, _ => rfl
  | 3, _ => rfl
  | k + 4, h => exact absurd h (by omega)
theorem shT_s {p : Nat → Nat} (O : OKp p) {u j : Nat} (hu : u < 4) (hj : j < 16) (N : Nat) : shT p u (N + 1) j = shT p u N j + dT (p 24) u (gB (fB p 0 N) (fB p 1 N) (fB p 2 N) (fB p 3 N)) j := by
  have hs (s : Nat) : anyB (fun w => bt s w && gB (fB p 0 N) (fB p 1 N) (fB p 2 N) (fB p 3 N) w) (p 24) = anS p s N := by
    unfold anS
    exact anyB_cong _ (fun i hi => by have := O.1; rw [gB_f p N i (by omega)])
  unfold shT dT
  rw [hs, hs]
  by_cases c : bt j u = true
  · rw [if_pos c, if_pos c, if_pos c]
  · have c' := Bool.eq_false_iff.mpr c
    have h1 := cnt_up O hu hj c' N
    rw [if_neg c, if_neg c, if_neg c, ← Nat.mul_add, cnt_s, cnt_s]
    congr 1
    by_cases c2 : anS p j N = true
    · rw [if_pos c2, if_pos (anS_up O hu hj c' c2)]; omega
    · rw [if_neg c2]; split <;> omega
theorem sh_eq {p : Nat → Nat} (O : OKp p) {u : Nat} (hu : u < p 24) : ∀ N, 12 * sm (shT p u N) (2 ^ p 24) = fac (p 24) * shS p u N
  | 0 => by
    rw [sm_0 _ (fun j _ => ?_)]
    · rfl
    · unfold shT
      split
      · rfl
      · exact Nat.mul_zero _
  | N + 1 => by
    have h24 := O.1
    have hp := p2_4 (p 24) (by omega)
    have e : sm (shT p u (N + 1)) (2 ^ p 24) = sm (shT p u N) (2 ^ p 24) + sm (dT (p 24) u (gB (fB p 0 N) (fB p 1 N) (fB p 2 N) (fB p 3 N))) (2 ^ p 24) := (sm_cong _ (fun j hj => shT_s O (by omega) (by omega) N)).trans (sm_add _ _ _)
    have e2 : cnt (fun w => decide (w < p 24) && gB (fB p 0 N) (fB p 1 N) (fB p 2 N) (fB p 3 N) w) 4 = cnt (ftd p N) 4 := cnt_cong 4 (fun i hi => by unfold ftd; rw [gB_f p N i hi])
    have e3 := dT_all (p 24) (by omega) u hu (fB p 0 N) (fB p 1 N) (fB p 2 N) (fB p 3 N)
    rw [e2, gB_f p N u (by omega)] at e3
    rw [e, Nat.mul_add, sh_eq O hu N, e3, ← Nat.mul_add]
    rfl
theorem sm_t {p : Nat → Nat} {u i : Nat} (c : bt i u = true) : sm (shT p u 251) i = sm (shT p u 251) (i + 1) := by
  show _ = sm (shT p u 251) i + (if bt i u = true then 0 else _)
  rw [if_pos c]; rfl
theorem sm_f {p : Nat → Nat} {u i : Nat} (c : bt i u = false) : sm (shT p u 251) i + fac (onN i 12) * fac (p 24 - 1 - onN i 12) * (cnt (anS p (i + 2 ^ u)) 251 - cnt (anS p i) 251) = sm (shT p u 251) (i + 1) := by
  show _ = sm (shT p u 251) i + (if bt i u = true then 0 else _)
  rw [if_neg (by rw [c]; decide)]
/-- the page behind some sends and misses -/
def lpP (u lost : Nat) (p : Nat → Nat) : Nat → Nat → Nat
  | 0 => p
  | i + 1 => if lost / 2 ^ i % 2 = 1 then spP (lpP u lost p i) u else seP (lpP u lost p i) u
theorem sp_y {p : Nat → Nat} {u : Nat} (h : ow p u = true) : un p (6 * u + 3) (p (6 * u + 3) - 1) = spP p u := (if_pos h).symm
theorem sp_24 {p : Nat → Nat} {u : Nat} (hu : u < 4) (h : ow p u = true) : spP p u 24 = p 24 ∧ spP p u (6 * u + 3) = p (6 * u + 3) - 1 := by
  rw [← sp_y h]
  exact ⟨un_ne _ _ (by omega), un_eq _ _ _⟩
theorem se_24 {p : Nat → Nat} {u : Nat} (hu : u < 4) (h : ow p u = true) : seP p u 24 = p 24 ∧ seP p u (6 * u + 3) = p (6 * u + 3) - 1 := by
  have e := sp_24 hu h
  unfold seP
  rw [if_pos h]
  unfold brP
  split
  · rw [un_ne _ _ (by omega), un_ne _ _ (by omega), un_ne _ _ (by omega), un_ne _ _ (by omega), un_ne _ _ (by omega), un_ne _ _ (by omega)]; exact e
  · rw [un_ne _ _ (by omega), un_ne _ _ (by omega)]; exact e
theorem lp_own {p : Nat → Nat} {u lost : Nat} (hu4 : u < 4) (hu : u < p 24) : ∀ i, i ≤ p (6 * u + 3) → lpP u lost p i 24 = p 24 ∧ lpP u lost p i (6 * u + 3) = p (6 * u + 3) - i
  | 0, _ => ⟨rfl, rfl⟩
  | i + 1, h => by
    have e := lp_own (lost := lost) hu4 hu i (by omega)
    have ho : ow (lpP u lost p i) u = true := ow_mk (by omega) (by omega)
    unfold lpP
    split
    · have := sp_24 hu4 ho; omega
    · have := se_24 hu4 ho; omega
theorem lp_ow {p : Nat → Nat} {u lost : Nat} (hu4 : u < 4) (hu : u < p 24) {i : Nat} (h : i < p (6 * u + 3)) : ow (lpP u lost p i) u = true := by
  have e := lp_own (lost := lost) hu4 hu i (by omega)
  exact ow_mk (by omega) (by omega)
theorem lp_ok {p : Nat → Nat} (O : OKp p) {u lost : Nat} (hu4 : u < 4) : ∀ i, OKp (lpP u lost p i)
  | 0 => O
  | i + 1 => by
    unfold lpP
    split
    · exact OK_sp (lp_ok O hu4 i) hu4
    · exact OK_se (lp_ok O hu4 i) hu4
theorem bt_t {n i : Nat} (h : bt n i = true) : n / 2 ^ i % 2 = 1 := of_decide_eq_true h
theorem bt_f {n i : Nat} (h : bt n i = false) : ¬ n / 2 ^ i % 2 = 1 := of_decide_eq_false h
theorem wt_eq (u x lost : Nat) (p : Nat → Nat) : ∀ n i, wtL u x lost n i (lpP u lost p i) (x ^ onN lost i * (10 - x) ^ (i - onN lost i)) = if stp (lpP u lost p (i + n)) u then x ^ onN lost (i + n) * (10 - x) ^ (i + n - onN lost (i + n)) else 0
  | 0, i => rfl
  | n + 1, i => by
    have ih := wt_eq u x lost p n (i + 1)
    have hl := onN_le lost i
    rw [show i + 1 + n = i + (n + 1) by omega] at ih
    rw [← ih]
    have eo : onN lost (i + 1) = onN lost i + lost / 2 ^ i % 2 := rfl
    show (if lost / 2 ^ i % 2 = 1 then wtL u x lost n (i + 1) (spP (lpP u lost p i) u) (x ^ onN lost i * (10 - x) ^ (i - onN lost i) * x) else wtL u x lost n (i + 1) (seP (lpP u lost p i) u) (x ^ onN lost i * (10 - x) ^ (i - onN lost i) * (10 - x))) = wtL u x lost n (i + 1) (lpP u lost p (i + 1)) (x ^ onN lost (i + 1) * (10 - x) ^ (i + 1 - onN lost (i + 1)))
    by_cases c : lost / 2 ^ i % 2 = 1
    · rw [if_pos c, eo, c, Nat.pow_succ, show i + 1 - (onN lost i + 1) = i - onN lost i by omega]
      have el : lpP u lost p (i + 1) = spP (lpP u lost p i) u := if_pos c
      rw [el]
      congr 1
      rw [Nat.mul_assoc, Nat.mul_assoc, Nat.mul_comm ((10 - x) ^ _) x]
    · have c0 : lost / 2 ^ i % 2 = 0 := by omega
      rw [if_neg c, eo, c0, Nat.add_zero (onN lost i), show i + 1 - onN lost i = (i - onN lost i) + 1 by omega, Nat.pow_succ]
      have el : lpP u lost p (i + 1) = seP (lpP u lost p i) u := if_neg c
      rw [el]
      congr 1
      rw [Nat.mul_assoc]
theorem on_eq {lost r : Nat} (h : lost < 2 ^ r) : ∀ k, onN lost (r + k) = onN lost r
  | 0 => rfl
  | k + 1 => by
    show onN lost (r + k) + lost / 2 ^ (r + k) % 2 = _
    rw [on_eq h k, Nat.div_eq_of_lt (Nat.lt_of_lt_of_le h (Nat.pow_le_pow_right (by omega) (by omega)))]
    rfl
theorem on12 {lost r : Nat} (h : lost < 2 ^ r) (hr : r ≤ 12) : onN lost 12 = onN lost r := by
  have := on_eq h (12 - r)
  rw [show r + (12 - r) = 12 by omega] at this
  exact this
theorem ls_y {p : Nat → Nat} {u r x i : Nat} (h : i < 2 ^ r) (hr : r ≤ 12) (c : stp (lpP u i p r) u = true) : lsS p u r x i + x ^ onN i 12 * (10 - x) ^ (r - onN i 12) = lsS p u r x (i + 1) := by
  have e := wt_eq u x i p r 0
  rw [Nat.zero_add, c, if_pos rfl] at e
  have e2 : wtL u x i r 0 p 1 = x ^ onN i r * (10 - x) ^ (r - onN i r) := e
  show _ = lsS p u r x i + wtL u x i r 0 p 1
  rw [e2, on12 h hr]
theorem ls_n {p : Nat → Nat} {u r x i : Nat} (c : stp (lpP u i p r) u = false) : lsS p u r x i + 0 = lsS p u r x (i + 1) := by
  have e := wt_eq u x i p r 0
  rw [Nat.zero_add, c] at e
  have e2 : wtL u x i r 0 p 1 = 0 := e
  show _ = lsS p u r x i + wtL u x i r 0 p 1
  rw [e2]
theorem dy_sp {p : Nat → Nat} {w : Nat} (h : ow p (w % 4) = true) (h2 : w / 4 % 4 = 0) : spP p (w % 4) = dyP p w ∧ dyB p w = false := by
  unfold dyP dyB
  rw [h, if_pos rfl, if_pos h2, decide_eq_true h2]
  exact ⟨rfl, rfl⟩
theorem dy_no {p : Nat → Nat} {w : Nat} (h : ow p (w % 4) = false) : p = dyP p w ∧ dyB p w = false := by
  unfold dyP dyB
  rw [h]
  exact ⟨rfl, rfl⟩
theorem dy_se {p : Nat → Nat} {w : Nat} (h : ow p (w % 4) = true) (h2 : ¬ w / 4 % 4 = 0) : seP p (w % 4) = dyP p w ∧ dyB p w = decide (0 < seK p (w % 4)) := by
  unfold dyP dyB
  rw [h, if_pos rfl, if_neg h2, decide_eq_false h2]
  exact ⟨rfl, rfl⟩
theorem t_X5_divisor {h : rHp} {Q : Option Value → rHp → Prop} {a b : Nat} (ha : a < 2147483648) (hb : b < 2147483648) (k : Q (some (.int (nI (Nat.gcd a b)))) h) : Cl M_X5_divisor h.1 h.2.1 [.int (nI a), .int (nI b)] h Q := by
  refine Cl.of pl_X5 (Nat.le_of_ble_eq_true rfl) (by first | exact Nat.le_refl _ | omega) (by first | exact Nat.le_refl _ | omega) ?_
  refine Rn.iload_n dX5_divisor_0 rfl rfl ?_
  refine Rn.if_geN (tgt := 9) dX5_divisor_1 rfl (by decide) (by omega) (fun c1 => ?_) (fun c1 => ?_)
  · refine Rn.iload_n dX5_divisor_9 rfl rfl ?_
    refine Rn.istore_n dX5_divisor_10 rfl (Nat.le_of_ble_eq_true rfl) ?_
    refine Rn.iload_n dX5_divisor_11 rfl rfl ?_
    refine Rn.istore_n dX5_divisor_12 rfl (Nat.le_of_ble_eq_true rfl) ?_
    have hloop : ∀ (m : Nat) (x y : Nat), y < m → x < 2147483648 → y < 2147483648 → Nat.gcd x y = Nat.gcd a b → Rn (M_X5_divisor, none, h.1, h.2.1) Q 13 [(2, .int (nI x)), (3, .int (nI y))] [] h := by
      intro m
      induction m with
      | zero => intro x y h0 h1 h2 h3; exact absurd h0 (Nat.not_lt_zero _)
      | succ m ih =>
        intro x y h0 h1 h2 h3
        refine Rn.iload_n dX5_divisor_13 rfl rfl ?_
        refine Rn.if_eqN (tgt := 30) dX5_divisor_14 rfl (by decide) (by omega) (fun c14 => ?_) (fun c14 => ?_)
        · obtain rfl : y = 0 := c14
          refine Rn.iload_n dX5_divisor_30 rfl rfl ?_
          refine Rn.iret dX5_divisor_31 rfl rfl rfl ?_
          rw [← h3, Nat.gcd_zero_right] at k
          exact k
        · refine Rn.iload_n dX5_divisor_17 rfl rfl ?_
          refine Rn.iload_n dX5_divisor_18 rfl rfl ?_
          refine Rn.iremN dX5_divisor_19 rfl (by omega) (by omega) (by omega) ?_
          refine Rn.istore dX5_divisor_20 rfl (Nat.le_of_ble_eq_true rfl) ?_
          refine Rn.iload_n dX5_divisor_22 rfl rfl ?_
          refine Rn.istore_n dX5_divisor_23 rfl (Nat.le_of_ble_eq_true rfl) ?_
          refine Rn.iload dX5_divisor_24 rfl rfl ?_
          refine Rn.istore_n dX5_divisor_26 rfl (Nat.le_of_ble_eq_true rfl) ?_
          refine Rn.goto (tgt := 13) dX5_divisor_27 (by decide) ?_
          exact Rn.pick [1, 0] rfl (ih y (x % y) (by have := Nat.mod_lt x (show 0 < y by omega); omega) h2 (by have := Nat.mod_lt x (show 0 < y by omega); omega) ((gcd_step x).trans h3))
    exact Rn.pick [1, 0] rfl (hloop (b + 1) a b (by omega) ha hb rfl)
  · first | omega | exact False.elim c1
theorem t_X5_fraction {h : rHp} {Q : Option Value → rHp → Prop} {a b : Nat} {up : Bool} (ha : a < 2147483648) (hb0 : 0 < b) (hb : b < 2147483648) (k : Q (some (.int (nI (frN a b up)))) h) : Cl M_X5_fraction h.1 h.2.1 [.int (nI a), .int (nI b), .int (bi up)] h Q := by
  refine Cl.of pl_X5 (Nat.le_of_ble_eq_true rfl) (by first | exact Nat.le_refl _ | omega) (by first | exact Nat.le_refl _ | omega) ?_
  refine Rn.iload_n dX5_fraction_0 rfl rfl ?_
  refine Rn.iload_n dX5_fraction_1 rfl rfl ?_
  refine Rn.callS (as := [_, _]) s_X5_divisor l_X5_178 ⟨Nat.le_of_ble_eq_true rfl, Nat.le_of_ble_eq_true rfl⟩ dX5_fraction_2 rfl rfl (Nat.le_of_ble_eq_true rfl) (Nat.le_refl _) (Nat.le_refl _) (t_X5_divisor ha hb ?_)
  have hg := Nat.gcd_pos_of_pos_right a hb0
  have hg2 := Nat.le_of_dvd hb0 (Nat.gcd_dvd_right a b)
  refine Rn.istore_n dX5_fraction_5 rfl (Nat.le_of_ble_eq_true rfl) ?_
  refine Rn.iload_n dX5_fraction_6 rfl rfl ?_
  refine Rn.if_eqB (tgt := 16) dX5_fraction_7 rfl (by decide) (fun c7 => ?_) (fun c7 => ?_)
  · refine Rn.iload_n dX5_fraction_16 rfl rfl ?_
    refine Rn.iload_n dX5_fraction_17 rfl rfl ?_
    refine Rn.idivN dX5_fraction_18 rfl (by omega) (by omega) (by omega) ?_
    refine Rn.iret dX5_fraction_19 rfl rfl rfl ?_
    first | exact rn_fin k (some_int (by unfold frN; rw [c7]; rfl)) rfl
  · refine Rn.iload_n dX5_fraction_10 rfl rfl ?_
    refine Rn.iload_n dX5_fraction_11 rfl rfl ?_
    refine Rn.idivN dX5_fraction_12 rfl (by omega) (by omega) (by omega) ?_
    refine Rn.goto (tgt := 19) dX5_fraction_13 (by decide) ?_
    refine Rn.iret dX5_fraction_19 rfl rfl rfl ?_
    first | exact rn_fin k (some_int (by unfold frN; rw [c7]; rfl)) rfl
theorem t_X5_factorial {h : rHp} {Q : Option Value → rHp → Prop} {n : Nat} (hn : n ≤ 100) (k : Q (some (.int (nI (fac n)))) h) : Cl M_X5_factorial h.1 h.2.1 [.int (nI n)] h Q := by
  refine Cl.of pl_X5 (Nat.le_of_ble_eq_true rfl) (by first | exact Nat.le_refl _ | omega) (by first | exact Nat.le_refl _ | omega) ?_
  refine Rn.iconst dX5_factorial_0 rfl ic_1 ?_
  refine Rn.istore_n dX5_factorial_1 rfl (Nat.le_of_ble_eq_true rfl) ?_
  refine Rn.iconst dX5_factorial_2 rfl ic_2 ?_
  refine Rn.istore_n dX5_factorial_3 rfl (Nat.le_of_ble_eq_true rfl) ?_
  have hloop : ∀ (m : Nat) (i : Nat), n - i < m → 1 ≤ i → (i ≤ n ∨ i = 1) → Rn (M_X5_factorial, none, h.1, h.2.1) Q 4 [(0, .int (nI n)), (1, .int (nI (fac i))), (2, .int (nI (i + 1)))] [] h := by
    intro m
    induction m with
    | zero => intro i h0 h1 h2; exact absurd h0 (Nat.not_lt_zero _)
    | succ m ih =>
      intro i h0 h1 h2
      refine Rn.iload_n dX5_factorial_4 rfl rfl ?_
      refine Rn.iload_n dX5_factorial_5 rfl rfl ?_
      refine Rn.icmp_gtN (tgt := 19) dX5_factorial_6 rfl (by decide) (by omega) (by omega) (fun c6 => ?_) (fun c6 => ?_)
      · refine Rn.iload_n dX5_factorial_19 rfl rfl ?_
        refine Rn.iret dX5_factorial_20 rfl rfl rfl ?_
        have e : fac i = fac n := by
          by_cases c : i = n
          · rw [c]
          · rw [show i = 1 by omega, show n = 0 by omega]; rfl
        rw [e]
        exact k
      · refine Rn.iload_n dX5_factorial_9 rfl rfl ?_
        refine Rn.iload_n dX5_factorial_10 rfl rfl ?_
        refine Rn.imulN dX5_factorial_11 rfl ?_
        refine Rn.istore_n dX5_factorial_12 rfl (Nat.le_of_ble_eq_true rfl) ?_
        refine Rn.iincN dX5_factorial_13 rfl rfl (Nat.le_of_ble_eq_true rfl) ?_
        refine Rn.goto (tgt := 4) dX5_factorial_16 (by decide) ?_
        exact Rn.pick [2, 1, 0] rfl (ih (i + 1) (by omega) (by omega) (by omega))
  exact Rn.pick [2, 1, 0] rfl (hloop (n + 1) 1 (by omega) (by omega) (by omega))
theorem t_X5_guess {h : rHp} {Q : Option Value → rHp → Prop} {t : Nat → Nat} {ln : Nat} {p : Nat → Nat} {U : Nat → Nat → Nat} {a : Nat} {Kp : Nat → Nat → Nat} {ik : Nat → Bool} {su sp sn : Nat → Nat} {sz : Nat} {d : Int64} (I : MI h t ln p U a Kp ik su sp sn sz d) (O : OKs t ln p U a Kp ik su sp sn sz) {x y : Int32} {up : Bool} (k : ∀ h', MI h' t ln p U a Kp ik su sp sn sz d → Fm h h' → Q (some (.int (guI p x y up))) h') : Cl M_X5_guess h.1 h.2.1 [.ref 15, .int x, .int y, .int (bi up)] h Q := by
  obtain ⟨th, pl, rm, rp, ev, tp, BK, KM, IK, FF, M15, M16, M17, M18, M19, M20, M21, M22, M23, M24, M25, M26, M27, ML, RMh, RKh⟩ := id I
  obtain ⟨Ot, Oln, Op, OU, OK2, Osz, Osu, Osp, Osn⟩ := id O
  refine Cl.of pl_X5 (Nat.le_of_ble_eq_true rfl) (by first | exact Nat.le_refl _ | omega) (by first | exact Nat.le_refl _ | omega) ?_
  refine Rn.aload_n dX5_guess_0 rfl rfl ?_
  refine Rn.iconst dX5_guess_1 rfl ic_0 ?_
  refine Rn.putf p_X5_51 (fun h => by cases h) dX5_guess_2 rfl M15 (Nat.lt_of_le_of_lt (Nat.le_of_ble_eq_true rfl) ML) (fun g => ⟨rfl, rfl⟩) (Nat.le_of_ble_eq_true rfl) ?_
  refine Rn.aload_n dX5_guess_5 rfl rfl ?_
  refine Rn.getf f_X5_19 dX5_guess_6 rfl (hs_eq _ _ _) (Nat.lt_of_le_of_lt (Nat.le_of_ble_eq_true rfl) ML) rfl ?_
  refine Rn.iload_n dX5_guess_9 rfl rfl ?_
  refine Rn.callS (as := [_, _]) s_X5_noUser l_X5_75 ⟨Nat.le_of_ble_eq_true rfl, Nat.le_of_ble_eq_true rfl⟩ dX5_guess_10 rfl rfl (Nat.le_of_ble_eq_true rfl) (Nat.le_refl _) (Nat.le_refl _) (t_X5_noUser ⟨((hs_ne _ _ (by decide)).trans M19), by exact (Nat.lt_of_le_of_lt (Nat.le_of_ble_eq_true rfl) ML)⟩ Op.1 ?_)
  refine Rn.if_eqB (tgt := 18) dX5_guess_13 rfl (by decide) (fun c13 => ?_) (fun c13 => ?_)
  · obtain ⟨u, hu, rfl⟩ := hasB_of (bn_f c13)
    have hu4 : u < 4 := by have := Op.1; omega
    have hus := Op.us hu4
    have c0 := bn_f c13
    refine Rn.iload_n dX5_guess_18 rfl rfl ?_
    refine Rn.i2l dX5_guess_19 rfl ?_
    refine Rn.lconst dX5_guess_20 rfl lc_0 ?_
    refine Rn.ldc2 dX5_guess_21 rfl k_X5_171 ?_
    refine Rn.topl lL_3 ?_
    refine Rn.callS (as := [_, _, _]) s_X5_in l_X5_57 ⟨Nat.le_of_ble_eq_true rfl, Nat.le_of_ble_eq_true rfl⟩ dX5_guess_24 rfl rfl (Nat.le_of_ble_eq_true rfl) (Nat.le_refl _) (Nat.le_refl _) (t_X5_in ?_)
    refine Rn.top (congrArg bi (inL_W (by omega) (by omega))) ?_
    refine Rn.if_neB (tgt := 33) dX5_guess_27 rfl (by decide) (fun c27 => ?_) (fun c27 => ?_)
    · obtain ⟨z, hz, rfl⟩ := isW_of c27 (by omega)
      refine Rn.sipush dX5_guess_33 rfl sp_251 ?_
      refine Rn.iload_n dX5_guess_36 rfl rfl ?_
      refine Rn.callS (as := [_, _]) s_X5_power l_X5_191 ⟨Nat.le_of_ble_eq_true rfl, Nat.le_of_ble_eq_true rfl⟩ dX5_guess_37 rfl rfl (Nat.le_of_ble_eq_true rfl) (Nat.le_refl _) (Nat.le_refl _) (t_X5_power (by omega) ?_)
      refine Rn.istore dX5_guess_40 rfl (Nat.le_of_ble_eq_true rfl) ?_
      refine Rn.iload dX5_guess_42 rfl rfl ?_
      refine Rn.sipush dX5_guess_44 rfl sp_251 ?_
      refine Rn.aload_n dX5_guess_47 rfl rfl ?_
      refine Rn.iconst dX5_guess_48 rfl ic_1 ?_
      refine Rn.iload_n dX5_guess_49 rfl rfl ?_
      refine Rn.ishl dX5_guess_50 rfl ?_
      refine Rn.top (shl_N (by omega)) ?_
      refine Rn.callV (as := [_]) v_X5_fittingOf l_X5_156 ⟨Nat.le_of_ble_eq_true rfl, Nat.le_of_ble_eq_true rfl⟩ dX5_guess_51 rfl rfl (Nat.le_of_ble_eq_true rfl) (hs_eq _ _ _) (Nat.lt_of_le_of_lt (Nat.le_of_ble_eq_true rfl) ML) rfl (Nat.le_refl _) (Nat.le_refl _) (t_X5_fittingOf (hs_eq _ _ _) ((hs_ne _ _ (by decide)).trans M19) ML Op (by have := Nat.pow_le_pow_right (n := 2) (by omega) (show u ≤ 3 by omega); omega) ?_) 
      refine Rn.top (congrArg nI (cnt_one Op hu)) ?_
      have hcl := cnt_le (fB p u) 251
      refine Rn.isubN dX5_guess_54 rfl (by omega) ?_
      refine Rn.iload_n dX5_guess_55 rfl rfl ?_
      refine Rn.callS (as := [_, _]) s_X5_power l_X5_191 ⟨Nat.le_of_ble_eq_true rfl, Nat.le_of_ble_eq_true rfl⟩ dX5_guess_56 rfl rfl (Nat.le_of_ble_eq_true rfl) (Nat.le_refl _) (Nat.le_refl _) (t_X5_power (by omega) ?_)
      have hp1 : 251 ^ z ≤ 15813251 := pow_le251 hz
      have hp2 : (251 - cnt (fB p u) 251) ^ z ≤ 251 ^ z := Nat.pow_le_pow_left (by omega) z
      refine Rn.isubN dX5_guess_59 rfl (by omega) ?_
      refine Rn.iload dX5_guess_60 rfl rfl ?_
      refine Rn.iload_n dX5_guess_62 rfl rfl ?_
      refine Rn.callS (as := [_, _, _]) s_X5_fraction l_X5_187 ⟨Nat.le_of_ble_eq_true rfl, Nat.le_of_ble_eq_true rfl⟩ dX5_guess_63 rfl rfl (Nat.le_of_ble_eq_true rfl) (Nat.le_refl _) (Nat.le_refl _) (t_X5_fraction (by omega) (Nat.pow_pos (by omega)) (by omega) ?_)
      refine Rn.iret dX5_guess_66 rfl rfl rfl ?_
      exact rn_fin (k _ ⟨_, _, _, _, _, _, _, _, _, _, (hs_eq _ _ _), ((hs_ne _ _ (by decide)).trans M16), ((hs_ne _ _ (by decide)).trans M17), ((hs_ne _ _ (by decide)).trans M18), ((hs_ne _ _ (by decide)).trans M19), ((hs_ne _ _ (by decide)).trans M20), ((hs_ne _ _ (by decide)).trans M21), ((hs_ne _ _ (by decide)).trans M22), ((hs_ne _ _ (by decide)).trans M23), ((hs_ne _ _ (by decide)).trans M24), ((hs_ne _ _ (by decide)).trans M25), ((hs_ne _ _ (by decide)).trans M26), ((hs_ne _ _ (by decide)).trans M27), ML, RMh, RKh⟩ ((Fm.rf h).hs _ (by decide))) (some_int (by unfold guI; rw [c0, c27, xn_nI (by omega), xn_nI (by omega)]; rfl)) rfl
    · refine Rn.bipush dX5_guess_30 rfl bp_m2 ?_
      refine Rn.iret dX5_guess_32 rfl rfl rfl ?_
      exact rn_fin (k _ ⟨_, _, _, _, _, _, _, _, _, _, (hs_eq _ _ _), ((hs_ne _ _ (by decide)).trans M16), ((hs_ne _ _ (by decide)).trans M17), ((hs_ne _ _ (by decide)).trans M18), ((hs_ne _ _ (by decide)).trans M19), ((hs_ne _ _ (by decide)).trans M20), ((hs_ne _ _ (by decide)).trans M21), ((hs_ne _ _ (by decide)).trans M22), ((hs_ne _ _ (by decide)).trans M23), ((hs_ne _ _ (by decide)).trans M24), ((hs_ne _ _ (by decide)).trans M25), ((hs_ne _ _ (by decide)).trans M26), ((hs_ne _ _ (by decide)).trans M27), ML, RMh, RKh⟩ ((Fm.rf h).hs _ (by decide))) (some_int (by unfold guI; rw [c0, c27]; rfl)) rfl
  · refine Rn.iconst dX5_guess_16 rfl ic_m1 ?_
    refine Rn.iret dX5_guess_17 rfl rfl rfl ?_
    exact rn_fin (k _ ⟨_, _, _, _, _, _, _, _, _, _, (hs_eq _ _ _), ((hs_ne _ _ (by decide)).trans M16), ((hs_ne _ _ (by decide)).trans M17), ((hs_ne _ _ (by decide)).trans M18), ((hs_ne _ _ (by decide)).trans M19), ((hs_ne _ _ (by decide)).trans M20), ((hs_ne _ _ (by decide)).trans M21), ((hs_ne _ _ (by decide)).trans M22), ((hs_ne _ _ (by decide)).trans M23), ((hs_ne _ _ (by decide)).trans M24), ((hs_ne _ _ (by decide)).trans M25), ((hs_ne _ _ (by decide)).trans M26), ((hs_ne _ _ (by decide)).trans M27), ML, RMh, RKh⟩ ((Fm.rf h).hs _ (by decide))) (some_int (by unfold guI; rw [bn_t c13]; rfl)) rfl
theorem t_X5_share {h : rHp} {Q : Option Value → rHp → Prop} {t : Nat → Nat} {ln : Nat} {p : Nat → Nat} {U : Nat → Nat → Nat} {a : Nat} {Kp : Nat → Nat → Nat} {ik : Nat → Bool} {su sp sn : Nat → Nat} {sz : Nat} {d : Int64} (I : MI h t ln p U a Kp ik su sp sn sz d) (O : OKs t ln p U a Kp ik su sp sn sz) {x : Int32} {up : Bool} (k : ∀ h', MI h' t ln p U a Kp ik su sp sn sz d → Fm h h' → Q (some (.int (shI p x up))) h') : Cl M_X5_share h.1 h.2.1 [.ref 15, .int x, .int (bi up)] h Q := by
  obtain ⟨th, pl, rm, rp, ev, tp, BK, KM, IK, FF, M15, M16, M17, M18, M19, M20, M21, M22, M23, M24, M25, M26, M27, ML, RMh, RKh⟩ := id I
  obtain ⟨Ot, Oln, Op, OU, OK2, Osz, Osu, Osp, Osn⟩ := id O
  refine Cl.of pl_X5 (Nat.le_of_ble_eq_true rfl) (by first | exact Nat.le_refl _ | omega) (by first | exact Nat.le_refl _ | omega) ?_
  refine Rn.aload_n dX5_share_0 rfl rfl ?_
  refine Rn.iconst dX5_share_1 rfl ic_0 ?_
  refine Rn.putf p_X5_51 (fun h => by cases h) dX5_share_2 rfl M15 (Nat.lt_of_le_of_lt (Nat.le_of_ble_eq_true rfl) ML) (fun g => ⟨rfl, rfl⟩) (Nat.le_of_ble_eq_true rfl) ?_
  refine Rn.aload_n dX5_share_5 rfl rfl ?_
  refine Rn.getf f_X5_19 dX5_share_6 rfl (hs_eq _ _ _) (Nat.lt_of_le_of_lt (Nat.le_of_ble_eq_true rfl) ML) rfl ?_
  refine Rn.iload_n dX5_share_9 rfl rfl ?_
  refine Rn.callS (as := [_, _]) s_X5_noUser l_X5_75 ⟨Nat.le_of_ble_eq_true rfl, Nat.le_of_ble_eq_true rfl⟩ dX5_share_10 rfl rfl (Nat.le_of_ble_eq_true rfl) (Nat.le_refl _) (Nat.le_refl _) (t_X5_noUser ⟨((hs_ne _ _ (by decide)).trans M19), by exact (Nat.lt_of_le_of_lt (Nat.le_of_ble_eq_true rfl) ML)⟩ Op.1 ?_)
  refine Rn.if_eqB (tgt := 18) dX5_share_13 rfl (by decide) (fun c13 => ?_) (fun c13 => ?_)
  · obtain ⟨u, hu, rfl⟩ := hasB_of (bn_f c13)
    have hu4 : u < 4 := by have := Op.1; omega
    have hus := Op.us hu4
    have c0 := bn_f c13
    refine Rn.aload_n dX5_share_18 rfl rfl ?_
    refine Rn.getf f_X5_19 dX5_share_19 rfl (hs_eq _ _ _) (Nat.lt_of_le_of_lt (Nat.le_of_ble_eq_true rfl) ML) rfl ?_
    refine Rn.bipush dX5_share_22 rfl bp_24 ?_
    refine Rn.ialdN dX5_share_24 rfl ((hs_ne _ _ (by decide)).trans M19) (Nat.lt_of_le_of_lt (Nat.le_of_ble_eq_true rfl) ML) (by omega) (by omega) ?_
    refine Rn.top (pg_n _ (by omega) (by omega)) ?_
    have h24 := Op.1
    refine Rn.istore_n dX5_share_25 rfl (Nat.le_of_ble_eq_true rfl) ?_
    refine Rn.iconst dX5_share_26 rfl ic_0 ?_
    refine Rn.istore dX5_share_27 rfl (Nat.le_of_ble_eq_true rfl) ?_
    refine Rn.iconst dX5_share_29 rfl ic_0 ?_
    refine Rn.istore dX5_share_30 rfl (Nat.le_of_ble_eq_true rfl) ?_
    have hloop : ∀ (m : Nat) (i : Nat), 2 ^ p 24 - i < m → i ≤ 2 ^ p 24 → Rn (M_X5_share, none, h.1, h.2.1) Q 32 [(0, .ref 15), (1, .int (nI u)), (2, .int (bi up)), (3, .int (nI (p 24))), (4, .int (nI (sm (shT p u 251) i))), (5, .int (nI i))] [] (hs h 15 (moO 0 ln pl rm a sz d)) := by
      intro m
      induction m with
      | zero => intro i h0 h1; exact absurd h0 (Nat.not_lt_zero _)
      | succ m ih =>
        intro i h0 h1
        have h24 := Op.1
        have hp16 := p2_4 (p 24) (by omega)
        refine Rn.iload dX5_share_32 rfl rfl ?_
        refine Rn.iconst dX5_share_34 rfl ic_1 ?_
        refine Rn.iload_n dX5_share_35 rfl rfl ?_
        refine Rn.ishl dX5_share_36 rfl ?_
        refine Rn.top (shl_N (by omega)) ?_
        refine Rn.icmp_geN (tgt := 100) dX5_share_37 rfl (by decide) (by omega) (by omega) (fun c37 => ?_) (fun c37 => ?_)
        · obtain rfl : i = 2 ^ p 24 := by omega
          refine Rn.iload dX5_share_100 rfl rfl ?_
          refine Rn.iload_n dX5_share_102 rfl rfl ?_
          refine Rn.callS (as := [_]) s_X5_factorial l_X5_184 ⟨Nat.le_of_ble_eq_true rfl, Nat.le_of_ble_eq_true rfl⟩ dX5_share_103 rfl rfl (Nat.le_of_ble_eq_true rfl) (Nat.le_refl _) (Nat.le_refl _) (t_X5_factorial (by omega) ?_)
          have hf := fac_b (p 24) (by omega)
          have hse := sh_eq Op hu 251
          have hsl := Nat.mul_le_mul hf.1 (shS_le p u 251)
          refine Rn.iload_n dX5_share_106 rfl rfl ?_
          refine Rn.callS (as := [_, _, _]) s_X5_fraction l_X5_187 ⟨Nat.le_of_ble_eq_true rfl, Nat.le_of_ble_eq_true rfl⟩ dX5_share_107 rfl rfl (Nat.le_of_ble_eq_true rfl) (Nat.le_refl _) (Nat.le_refl _) (t_X5_fraction (by omega) hf.2 (by omega) ?_)
          refine Rn.iret dX5_share_110 rfl rfl rfl ?_
          exact rn_fin (k _ ⟨_, _, _, _, _, _, _, _, _, _, (hs_eq _ _ _), ((hs_ne _ _ (by decide)).trans M16), ((hs_ne _ _ (by decide)).trans M17), ((hs_ne _ _ (by decide)).trans M18), ((hs_ne _ _ (by decide)).trans M19), ((hs_ne _ _ (by decide)).trans M20), ((hs_ne _ _ (by decide)).trans M21), ((hs_ne _ _ (by decide)).trans M22), ((hs_ne _ _ (by decide)).trans M23), ((hs_ne _ _ (by decide)).trans M24), ((hs_ne _ _ (by decide)).trans M25), ((hs_ne _ _ (by decide)).trans M26), ((hs_ne _ _ (by decide)).trans M27), ML, RMh, RKh⟩ ((Fm.rf h).hs _ (by decide))) (some_int (by unfold shI; rw [c0, xn_nI (by omega), if_pos rfl, fr_eq hf.2 (show 0 < 12 by omega) ((Nat.mul_comm _ _).trans hse)])) rfl
        · refine Rn.iload dX5_share_40 rfl rfl ?_
          refine Rn.iload_n dX5_share_42 rfl rfl ?_
          refine Rn.callS (as := [_, _]) s_X5_has l_X5_152 ⟨Nat.le_of_ble_eq_true rfl, Nat.le_of_ble_eq_true rfl⟩ dX5_share_43 rfl rfl (Nat.le_of_ble_eq_true rfl) (Nat.le_refl _) (Nat.le_refl _) (t_X5_has (by omega) (by omega) ?_)
          refine Rn.if_neB (tgt := 94) dX5_share_46 rfl (by decide) (fun c46 => ?_) (fun c46 => ?_)
          · refine Rn.iincN dX5_share_94 rfl rfl (Nat.le_of_ble_eq_true rfl) ?_
            refine Rn.goto (tgt := 32) dX5_share_97 (by decide) ?_
            have := ih (i + 1) (by omega) (by omega)
            rw [← sm_t c46] at this
            exact Rn.pick [1, 2, 3, 4, 5, 0] rfl (this)
          · refine Rn.iload dX5_share_49 rfl rfl ?_
            refine Rn.callS (as := [_]) s_X5_ones l_X5_181 ⟨Nat.le_of_ble_eq_true rfl, Nat.le_of_ble_eq_true rfl⟩ dX5_share_51 rfl rfl (Nat.le_of_ble_eq_true rfl) (Nat.le_refl _) (Nat.le_refl _) (t_X5_ones (by omega) ?_)
            have hon := on_lt (p 24) (by omega) u hu i (by omega) c46
            refine Rn.istore dX5_share_54 rfl (Nat.le_of_ble_eq_true rfl) ?_
            refine Rn.iload dX5_share_56 rfl rfl ?_
            refine Rn.iload dX5_share_58 rfl rfl ?_
            refine Rn.callS (as := [_]) s_X5_factorial l_X5_184 ⟨Nat.le_of_ble_eq_true rfl, Nat.le_of_ble_eq_true rfl⟩ dX5_share_60 rfl rfl (Nat.le_of_ble_eq_true rfl) (Nat.le_refl _) (Nat.le_refl _) (t_X5_factorial (by omega) ?_)
            refine Rn.iload_n dX5_share_63 rfl rfl ?_
            refine Rn.iconst dX5_share_64 rfl ic_1 ?_
            refine Rn.isubN dX5_share_65 rfl (by omega) ?_
            refine Rn.iload dX5_share_66 rfl rfl ?_
            refine Rn.isubN dX5_share_68 rfl (by omega) ?_
            refine Rn.callS (as := [_]) s_X5_factorial l_X5_184 ⟨Nat.le_of_ble_eq_true rfl, Nat.le_of_ble_eq_true rfl⟩ dX5_share_69 rfl rfl (Nat.le_of_ble_eq_true rfl) (Nat.le_refl _) (Nat.le_refl _) (t_X5_factorial (by omega) ?_)
            refine Rn.imulN dX5_share_72 rfl ?_
            refine Rn.aload_n dX5_share_73 rfl rfl ?_
            refine Rn.iload dX5_share_74 rfl rfl ?_
            have h2u := p2_4 u (by omega)
            have hup := cnt_up Op hu4 (show i < 16 by omega) c46 251
            refine Rn.iconst dX5_share_76 rfl ic_1 ?_
            refine Rn.iload_n dX5_share_77 rfl rfl ?_
            refine Rn.ishl dX5_share_78 rfl ?_
            refine Rn.top (shl_N (by omega)) ?_
            refine Rn.ior dX5_share_79 rfl ?_
            refine Rn.top (or_N i (by omega) u hu4 c46) ?_
            refine Rn.callV (as := [_]) v_X5_fittingOf l_X5_156 ⟨Nat.le_of_ble_eq_true rfl, Nat.le_of_ble_eq_true rfl⟩ dX5_share_80 rfl rfl (Nat.le_of_ble_eq_true rfl) (hs_eq _ _ _) (Nat.lt_of_le_of_lt (Nat.le_of_ble_eq_true rfl) ML) rfl (Nat.le_refl _) (Nat.le_refl _) (t_X5_fittingOf (s := i + 2 ^ u) (hs_eq _ _ _) ((hs_ne _ _ (by decide)).trans M19) ML Op (by omega) ?_) 
            refine Rn.aload_n dX5_share_83 rfl rfl ?_
            refine Rn.iload dX5_share_84 rfl rfl ?_
            refine Rn.callV (as := [_]) v_X5_fittingOf l_X5_156 ⟨Nat.le_of_ble_eq_true rfl, Nat.le_of_ble_eq_true rfl⟩ dX5_share_86 rfl rfl (Nat.le_of_ble_eq_true rfl) (hs_eq _ _ _) (Nat.lt_of_le_of_lt (Nat.le_of_ble_eq_true rfl) ML) rfl (Nat.le_refl _) (Nat.le_refl _) (t_X5_fittingOf (s := i) (hs_eq _ _ _) ((hs_ne _ _ (by decide)).trans M19) ML Op (by omega) ?_) 
            refine Rn.isubN dX5_share_89 rfl (by omega) ?_
            refine Rn.imulN dX5_share_90 rfl ?_
            refine Rn.iaddN dX5_share_91 rfl ?_
            refine Rn.top (congrArg nI (sm_f c46)) ?_
            refine Rn.istore dX5_share_92 rfl (Nat.le_of_ble_eq_true rfl) ?_
            refine Rn.iincN dX5_share_94 rfl rfl (Nat.le_of_ble_eq_true rfl) ?_
            refine Rn.goto (tgt := 32) dX5_share_97 (by decide) ?_
            exact Rn.pick [3, 4, 5, 6, 1, 0] rfl (ih (i + 1) (by omega) (by omega))
    exact Rn.pick [3, 4, 5, 2, 1, 0] rfl (hloop (2 ^ p 24 + 1) 0 (Nat.lt_succ_of_le (Nat.sub_le _ _)) (Nat.zero_le _))
  · refine Rn.iconst dX5_share_16 rfl ic_m1 ?_
    refine Rn.iret dX5_share_17 rfl rfl rfl ?_
    exact rn_fin (k _ ⟨_, _, _, _, _, _, _, _, _, _, (hs_eq _ _ _), ((hs_ne _ _ (by decide)).trans M16), ((hs_ne _ _ (by decide)).trans M17), ((hs_ne _ _ (by decide)).trans M18), ((hs_ne _ _ (by decide)).trans M19), ((hs_ne _ _ (by decide)).trans M20), ((hs_ne _ _ (by decide)).trans M21), ((hs_ne _ _ (by decide)).trans M22), ((hs_ne _ _ (by decide)).trans M23), ((hs_ne _ _ (by decide)).trans M24), ((hs_ne _ _ (by decide)).trans M25), ((hs_ne _ _ (by decide)).trans M26), ((hs_ne _ _ (by decide)).trans M27), ML, RMh, RKh⟩ ((Fm.rf h).hs _ (by decide))) (some_int (by unfold shI; rw [bn_t c13]; rfl)) rfl
theorem t_X5_loss {h : rHp} {Q : Option Value → rHp → Prop} {t : Nat → Nat} {ln : Nat} {p : Nat → Nat} {U : Nat → Nat → Nat} {a : Nat} {Kp : Nat → Nat → Nat} {ik : Nat → Bool} {su sp sn : Nat → Nat} {sz : Nat} {d : Int64} (I : MI h t ln p U a Kp ik su sp sn sz d) (O : OKs t ln p U a Kp ik su sp sn sz) {x y z : Int32} {up : Bool} (k : ∀ h', MI h' t ln p U a Kp ik su sp sn sz d → Fm h h' → Q (some (.int (loI p x y z up))) h') : Cl M_X5_loss h.1 h.2.1 [.ref 15, .int x, .int y, .int z, .int (bi up)] h Q := by
  obtain ⟨th, pl, rm, rp, ev, tp, BK, KM, IK, FF, M15, M16, M17, M18, M19, M20, M21, M22, M23, M24, M25, M26, M27, ML, RMh, RKh⟩ := id I
  obtain ⟨Ot, Oln, Op, OU, OK2, Osz, Osu, Osp, Osn⟩ := id O
  refine Cl.of pl_X5 (Nat.le_of_ble_eq_true rfl) (by first | exact Nat.le_refl _ | omega) (by first | exact Nat.le_refl _ | omega) ?_
  refine Rn.aload_n dX5_loss_0 rfl rfl ?_
  refine Rn.iconst dX5_loss_1 rfl ic_0 ?_
  refine Rn.putf p_X5_51 (fun h => by cases h) dX5_loss_2 rfl M15 (Nat.lt_of_le_of_lt (Nat.le_of_ble_eq_true rfl) ML) (fun g => ⟨rfl, rfl⟩) (Nat.le_of_ble_eq_true rfl) ?_
  refine Rn.aload_n dX5_loss_5 rfl rfl ?_
  refine Rn.getf f_X5_19 dX5_loss_6 rfl (hs_eq _ _ _) (Nat.lt_of_le_of_lt (Nat.le_of_ble_eq_true rfl) ML) rfl ?_
  refine Rn.iload_n dX5_loss_9 rfl rfl ?_
  refine Rn.callS (as := [_, _]) s_X5_noUser l_X5_75 ⟨Nat.le_of_ble_eq_true rfl, Nat.le_of_ble_eq_true rfl⟩ dX5_loss_10 rfl rfl (Nat.le_of_ble_eq_true rfl) (Nat.le_refl _) (Nat.le_refl _) (t_X5_noUser ⟨((hs_ne _ _ (by decide)).trans M19), by exact (Nat.lt_of_le_of_lt (Nat.le_of_ble_eq_true rfl) ML)⟩ Op.1 ?_)
  refine Rn.if_eqB (tgt := 18) dX5_loss_13 rfl (by decide) (fun c13 => ?_) (fun c13 => ?_)
  · obtain ⟨u, hu, rfl⟩ := hasB_of (bn_f c13)
    have hu4 : u < 4 := by have := Op.1; omega
    have hus := Op.us hu4
    have c0 := bn_f c13
    refine Rn.iload_n dX5_loss_18 rfl rfl ?_
    refine Rn.i2l dX5_loss_19 rfl ?_
    refine Rn.lconst dX5_loss_20 rfl lc_0 ?_
    refine Rn.ldc2 dX5_loss_21 rfl k_X5_150 ?_
    refine Rn.topl lL_6 ?_
    refine Rn.callS (as := [_, _, _]) s_X5_in l_X5_57 ⟨Nat.le_of_ble_eq_true rfl, Nat.le_of_ble_eq_true rfl⟩ dX5_loss_24 rfl rfl (Nat.le_of_ble_eq_true rfl) (Nat.le_refl _) (Nat.le_refl _) (t_X5_in ?_)
    refine Rn.top (congrArg bi (inL_W (by omega) (by omega))) ?_
    refine Rn.if_eqB (tgt := 42) dX5_loss_27 rfl (by decide) (fun c27 => ?_) (fun c27 => ?_)
    · refine Rn.bipush dX5_loss_42 rfl bp_m2 ?_
      refine Rn.iret dX5_loss_44 rfl rfl rfl ?_
      first | exact rn_fin (k _ ⟨_, _, _, _, _, _, _, _, _, _, (hs_eq _ _ _), ((hs_ne _ _ (by decide)).trans M16), ((hs_ne _ _ (by decide)).trans M17), ((hs_ne _ _ (by decide)).trans M18), ((hs_ne _ _ (by decide)).trans M19), ((hs_ne _ _ (by decide)).trans M20), ((hs_ne _ _ (by decide)).trans M21), ((hs_ne _ _ (by decide)).trans M22), ((hs_ne _ _ (by decide)).trans M23), ((hs_ne _ _ (by decide)).trans M24), ((hs_ne _ _ (by decide)).trans M25), ((hs_ne _ _ (by decide)).trans M26), ((hs_ne _ _ (by decide)).trans M27), ML, RMh, RKh⟩ ((Fm.rf h).hs _ (by decide))) (some_int (by unfold loI; rw [c0, c27]; rfl)) rfl | exact rn_fin (k _ ⟨_, _, _, _, _, _, _, _, _, _, (hs_eq _ _ _), ((hs_ne _ _ (by decide)).trans M16), ((hs_ne _ _ (by decide)).trans M17), ((hs_ne _ _ (by decide)).trans M18), ((hs_ne _ _ (by decide)).trans M19), ((hs_ne _ _ (by decide)).trans M20), ((hs_ne _ _ (by decide)).trans M21), ((hs_ne _ _ (by decide)).trans M22), ((hs_ne _ _ (by decide)).trans M23), ((hs_ne _ _ (by decide)).trans M24), ((hs_ne _ _ (by decide)).trans M25), ((hs_ne _ _ (by decide)).trans M26), ((hs_ne _ _ (by decide)).trans M27), ML, RMh, RKh⟩ ((Fm.rf h).hs _ (by decide))) (some_int (by unfold loI; rw [c0, c39, Bool.and_false]; rfl)) rfl
    · refine Rn.iload_n dX5_loss_30 rfl rfl ?_
      refine Rn.i2l dX5_loss_31 rfl ?_
      refine Rn.lconst dX5_loss_32 rfl lc_0 ?_
      refine Rn.ldc2 dX5_loss_33 rfl k_X5_194 ?_
      refine Rn.topl lL_10 ?_
      refine Rn.callS (as := [_, _, _]) s_X5_in l_X5_57 ⟨Nat.le_of_ble_eq_true rfl, Nat.le_of_ble_eq_true rfl⟩ dX5_loss_36 rfl rfl (Nat.le_of_ble_eq_true rfl) (Nat.le_refl _) (Nat.le_refl _) (t_X5_in ?_)
      refine Rn.top (congrArg bi (inL_W (by omega) (by omega))) ?_
      refine Rn.if_neB (tgt := 45) dX5_loss_39 rfl (by decide) (fun c39 => ?_) (fun c39 => ?_)
      · obtain ⟨y1, hy1, rfl⟩ := isW_of c27 (by omega)
        obtain ⟨y2, hy2, rfl⟩ := isW_of c39 (by omega)
        refine Rn.iload_n dX5_loss_45 rfl rfl ?_
        refine Rn.aload_n dX5_loss_46 rfl rfl ?_
        refine Rn.getf f_X5_19 dX5_loss_47 rfl (hs_eq _ _ _) (Nat.lt_of_le_of_lt (Nat.le_of_ble_eq_true rfl) ML) rfl ?_
        refine Rn.bipush dX5_loss_50 rfl bp_6 ?_
        refine Rn.iload_n dX5_loss_52 rfl rfl ?_
        refine Rn.imulN dX5_loss_53 rfl ?_
        refine Rn.iconst dX5_loss_54 rfl ic_3 ?_
        refine Rn.iaddN dX5_loss_55 rfl ?_
        refine Rn.ialdN dX5_loss_56 rfl ((hs_ne _ _ (by decide)).trans M19) (Nat.lt_of_le_of_lt (Nat.le_of_ble_eq_true rfl) ML) (by omega) (by omega) ?_
        refine Rn.top (pg_us _ (by omega) (show 3 < 6 by omega)) ?_
        refine Rn.icmp_leN (tgt := 63) dX5_loss_57 rfl (by decide) (by omega) (by omega) (fun c57 => ?_) (fun c57 => ?_)
        · refine Rn.iconst dX5_loss_63 rfl ic_0 ?_
          refine Rn.istore dX5_loss_64 rfl (Nat.le_of_ble_eq_true rfl) ?_
          refine Rn.iconst dX5_loss_66 rfl ic_0 ?_
          refine Rn.istore dX5_loss_67 rfl (Nat.le_of_ble_eq_true rfl) ?_
          have hloop : ∀ (m : Nat) (i : Nat) (tq : Nat → Nat), 2 ^ y1 - i < m → i ≤ 2 ^ y1 → Rn (M_X5_loss, none, h.1, h.2.1) Q 69 [(0, .ref 15), (1, .int (nI u)), (2, .int (nI y1)), (3, .int (nI y2)), (4, .int (bi up)), (5, .int (nI (lsS p u y1 y2 i))), (6, .int (nI i))] [] (hs (hs h 15 (moO 0 ln pl rm a sz d)) 20 (.inl (36, pg tq))) := by
            intro m
            induction m with
            | zero => intro i tq h0 h1; exact absurd h0 (Nat.not_lt_zero _)
            | succ m ih =>
              intro i tq h0 h1
              have hp2 := pow_le2 hy1
              refine Rn.iload dX5_loss_69 rfl rfl ?_
              refine Rn.iconst dX5_loss_71 rfl ic_1 ?_
              refine Rn.iload_n dX5_loss_72 rfl rfl ?_
              refine Rn.ishl dX5_loss_73 rfl ?_
              refine Rn.top (shl_N (by omega)) ?_
              refine Rn.icmp_geN (tgt := 190) dX5_loss_74 rfl (by decide) (by omega) (by omega) (fun c74 => ?_) (fun c74 => ?_)
              · obtain rfl : i = 2 ^ y1 := by omega
                refine Rn.iload dX5_loss_190 rfl rfl ?_
                refine Rn.bipush dX5_loss_192 rfl bp_10 ?_
                refine Rn.iload_n dX5_loss_194 rfl rfl ?_
                refine Rn.callS (as := [_, _]) s_X5_power l_X5_191 ⟨Nat.le_of_ble_eq_true rfl, Nat.le_of_ble_eq_true rfl⟩ dX5_loss_195 rfl rfl (Nat.le_of_ble_eq_true rfl) (Nat.le_refl _) (Nat.le_refl _) (t_X5_power (by omega) ?_)
                have hp10 := pow_le10 hy1
                have hls := lsS_le (p := p) (u := u) (r := y1) hy2 (2 ^ y1)
                have hls2 : 2 ^ y1 * 10 ^ y1 ≤ 64 * 1000000 := Nat.mul_le_mul (by omega) hp10
                refine Rn.iload dX5_loss_198 rfl rfl ?_
                refine Rn.callS (as := [_, _, _]) s_X5_fraction l_X5_187 ⟨Nat.le_of_ble_eq_true rfl, Nat.le_of_ble_eq_true rfl⟩ dX5_loss_200 rfl rfl (Nat.le_of_ble_eq_true rfl) (Nat.le_refl _) (Nat.le_refl _) (t_X5_fraction (by omega) (Nat.pow_pos (by omega)) (by omega) ?_)
                refine Rn.iret dX5_loss_203 rfl rfl rfl ?_
                exact rn_fin (k _ ⟨_, _, _, _, _, _, _, _, _, _, ((hs_ne _ _ (by decide)).trans (hs_eq _ _ _)), ((hs_ne _ _ (by decide)).trans ((hs_ne _ _ (by decide)).trans M16)), ((hs_ne _ _ (by decide)).trans ((hs_ne _ _ (by decide)).trans M17)), ((hs_ne _ _ (by decide)).trans ((hs_ne _ _ (by decide)).trans M18)), ((hs_ne _ _ (by decide)).trans ((hs_ne _ _ (by decide)).trans M19)), (hs_eq _ _ _), ((hs_ne _ _ (by decide)).trans ((hs_ne _ _ (by decide)).trans M21)), ((hs_ne _ _ (by decide)).trans ((hs_ne _ _ (by decide)).trans M22)), ((hs_ne _ _ (by decide)).trans ((hs_ne _ _ (by decide)).trans M23)), ((hs_ne _ _ (by decide)).trans ((hs_ne _ _ (by decide)).trans M24)), ((hs_ne _ _ (by decide)).trans ((hs_ne _ _ (by decide)).trans M25)), ((hs_ne _ _ (by decide)).trans ((hs_ne _ _ (by decide)).trans M26)), ((hs_ne _ _ (by decide)).trans ((hs_ne _ _ (by decide)).trans M27)), ML, RMh, RKh⟩ (((Fm.rf h).hs _ (by decide)).hs _ (by decide))) (some_int (by unfold loI; rw [c0, c27, c39, xn_nI (by omega), xn_nI (by omega), xn_nI (by omega)]; exact (if_neg (show ¬ p (6 * u + 3) < y1 by omega)).symm)) rfl
              · refine Rn.aload_n dX5_loss_77 rfl rfl ?_
                refine Rn.getf f_X5_19 dX5_loss_78 rfl ((hs_ne _ _ (by decide)).trans (hs_eq _ _ _)) (Nat.lt_of_le_of_lt (Nat.le_of_ble_eq_true rfl) ML) rfl ?_
                refine Rn.aload_n dX5_loss_81 rfl rfl ?_
                refine Rn.getf f_X5_22 dX5_loss_82 rfl ((hs_ne _ _ (by decide)).trans (hs_eq _ _ _)) (Nat.lt_of_le_of_lt (Nat.le_of_ble_eq_true rfl) ML) rfl ?_
                refine Rn.callS (as := [_, _]) s_X5_lay l_X5_116 ⟨Nat.le_of_ble_eq_true rfl, Nat.le_of_ble_eq_true rfl⟩ dX5_loss_85 rfl rfl (Nat.le_of_ble_eq_true rfl) (Nat.le_refl _) (Nat.le_refl _) (t_X5_lay ⟨((hs_ne _ _ (by decide)).trans ((hs_ne _ _ (by decide)).trans M19)), by exact (Nat.lt_of_le_of_lt (Nat.le_of_ble_eq_true rfl) ML)⟩ ⟨(hs_eq _ _ _), by exact (Nat.lt_of_le_of_lt (Nat.le_of_ble_eq_true rfl) ML)⟩ (by decide) ?_)
                refine Rn.heap (hs_hs _ _ _ _) ?_
                refine Rn.iconst dX5_loss_88 rfl ic_0 ?_
                refine Rn.istore dX5_loss_89 rfl (Nat.le_of_ble_eq_true rfl) ?_
                have hloop2 : ∀ (m : Nat) (j : Nat), y1 - j < m → j ≤ y1 → Rn (M_X5_loss, none, h.1, h.2.1) Q 91 [(0, .ref 15), (1, .int (nI u)), (2, .int (nI y1)), (3, .int (nI y2)), (4, .int (bi up)), (5, .int (nI (lsS p u y1 y2 i))), (6, .int (nI i)), (7, .int (nI j))] [] (hs (hs h 15 (moO 0 ln pl rm a sz d)) 20 (.inl (36, pg (lpP u i p j)))) := by
                  intro m
                  induction m with
                  | zero => intro j h0 h1; exact absurd h0 (Nat.not_lt_zero _)
                  | succ m ih2 =>
                    intro j h0 h1
                    have Oj := lp_ok (lost := i) Op hu4 j
                    refine Rn.iload dX5_loss_91 rfl rfl ?_
                    refine Rn.iload_n dX5_loss_93 rfl rfl ?_
                    refine Rn.icmp_geN (tgt := 140) dX5_loss_94 rfl (by decide) (by omega) (by omega) (fun c94 => ?_) (fun c94 => ?_)
                    · obtain rfl : y1 = j := by omega
                      refine Rn.iload dX5_loss_140 rfl rfl ?_
                      refine Rn.aload_n dX5_loss_142 rfl rfl ?_
                      refine Rn.getf f_X5_22 dX5_loss_143 rfl ((hs_ne _ _ (by decide)).trans (hs_eq _ _ _)) (Nat.lt_of_le_of_lt (Nat.le_of_ble_eq_true rfl) ML) rfl ?_
                      refine Rn.iload_n dX5_loss_146 rfl rfl ?_
                      refine Rn.callS (as := [_, _]) s_X5_isInStep l_X5_127 ⟨Nat.le_of_ble_eq_true rfl, Nat.le_of_ble_eq_true rfl⟩ dX5_loss_147 rfl rfl (Nat.le_of_ble_eq_true rfl) (Nat.le_refl _) (Nat.le_refl _) (t_X5_isInStep ⟨(hs_eq _ _ _), by exact (Nat.lt_of_le_of_lt (Nat.le_of_ble_eq_true rfl) ML)⟩ Oj (by omega) ?_)
                      refine Rn.if_eqB (tgt := 180) dX5_loss_150 rfl (by decide) (fun c150 => ?_) (fun c150 => ?_)
                      · refine Rn.iconst dX5_loss_180 rfl ic_0 ?_
                        refine Rn.iaddN dX5_loss_181 rfl ?_
                        refine Rn.top (congrArg nI (by first | exact ls_y (by omega) (by omega) c150 | exact ls_n c150)) ?_
                        refine Rn.istore dX5_loss_182 rfl (Nat.le_of_ble_eq_true rfl) ?_
                        refine Rn.iincN dX5_loss_184 rfl rfl (Nat.le_of_ble_eq_true rfl) ?_
                        refine Rn.goto (tgt := 69) dX5_loss_187 (by decide) ?_
                        exact Rn.pick [2, 3, 4, 5, 6, 1, 0] rfl (ih (i + 1) (lpP u i p y1) (by omega) (by omega))
                      · refine Rn.iload_n dX5_loss_153 rfl rfl ?_
                        refine Rn.iload dX5_loss_154 rfl rfl ?_
                        refine Rn.callS (as := [_]) s_X5_ones l_X5_181 ⟨Nat.le_of_ble_eq_true rfl, Nat.le_of_ble_eq_true rfl⟩ dX5_loss_156 rfl rfl (Nat.le_of_ble_eq_true rfl) (Nat.le_refl _) (Nat.le_refl _) (t_X5_ones (by omega) ?_)
                        have ho12 := onN_le i 12
                        refine Rn.callS (as := [_, _]) s_X5_power l_X5_191 ⟨Nat.le_of_ble_eq_true rfl, Nat.le_of_ble_eq_true rfl⟩ dX5_loss_159 rfl rfl (Nat.le_of_ble_eq_true rfl) (Nat.le_refl _) (Nat.le_refl _) (t_X5_power (by omega) ?_)
                        refine Rn.bipush dX5_loss_162 rfl bp_10 ?_
                        refine Rn.iload_n dX5_loss_164 rfl rfl ?_
                        refine Rn.isubN dX5_loss_165 rfl (by omega) ?_
                        refine Rn.iload_n dX5_loss_166 rfl rfl ?_
                        refine Rn.iload dX5_loss_167 rfl rfl ?_
                        refine Rn.callS (as := [_]) s_X5_ones l_X5_181 ⟨Nat.le_of_ble_eq_true rfl, Nat.le_of_ble_eq_true rfl⟩ dX5_loss_169 rfl rfl (Nat.le_of_ble_eq_true rfl) (Nat.le_refl _) (Nat.le_refl _) (t_X5_ones (by omega) ?_)
                        have ho2 : onN i 12 ≤ y1 := by rw [on12 (show i < 2 ^ y1 by omega) (by omega)]; exact onN_le i y1
                        refine Rn.isubN dX5_loss_172 rfl (by omega) ?_
                        refine Rn.callS (as := [_, _]) s_X5_power l_X5_191 ⟨Nat.le_of_ble_eq_true rfl, Nat.le_of_ble_eq_true rfl⟩ dX5_loss_173 rfl rfl (Nat.le_of_ble_eq_true rfl) (Nat.le_refl _) (Nat.le_refl _) (t_X5_power (by omega) ?_)
                        refine Rn.imulN dX5_loss_176 rfl ?_
                        refine Rn.goto (tgt := 181) dX5_loss_177 (by decide) ?_
                        refine Rn.iaddN dX5_loss_181 rfl ?_
                        refine Rn.top (congrArg nI (by first | exact ls_y (by omega) (by omega) c150 | exact ls_n c150)) ?_
                        refine Rn.istore dX5_loss_182 rfl (Nat.le_of_ble_eq_true rfl) ?_
                        refine Rn.iincN dX5_loss_184 rfl rfl (Nat.le_of_ble_eq_true rfl) ?_
                        refine Rn.goto (tgt := 69) dX5_loss_187 (by decide) ?_
                        exact Rn.pick [2, 3, 4, 5, 6, 1, 0] rfl (ih (i + 1) (lpP u i p y1) (by omega) (by omega))
                    · have hO : ow (lpP u i p j) u = true := lp_ow hu4 hu (by omega)
                      have hO3 := (ow_t hO).2
                      have ho3 := (Oj.us hu4).2.2.2.1
                      refine Rn.iload dX5_loss_97 rfl rfl ?_
                      refine Rn.iload dX5_loss_99 rfl rfl ?_
                      refine Rn.callS (as := [_, _]) s_X5_has l_X5_152 ⟨Nat.le_of_ble_eq_true rfl, Nat.le_of_ble_eq_true rfl⟩ dX5_loss_101 rfl rfl (Nat.le_of_ble_eq_true rfl) (Nat.le_refl _) (Nat.le_refl _) (t_X5_has (by omega) (by omega) ?_)
                      refine Rn.if_eqB (tgt := 125) dX5_loss_104 rfl (by decide) (fun c104 => ?_) (fun c104 => ?_)
                      · refine Rn.aload_n dX5_loss_125 rfl rfl ?_
                        refine Rn.getf f_X5_22 dX5_loss_126 rfl ((hs_ne _ _ (by decide)).trans (hs_eq _ _ _)) (Nat.lt_of_le_of_lt (Nat.le_of_ble_eq_true rfl) ML) rfl ?_
                        refine Rn.iload_n dX5_loss_129 rfl rfl ?_
                        refine Rn.callS (as := [_, _]) s_X5_sendOn l_X5_120 ⟨Nat.le_of_ble_eq_true rfl, Nat.le_of_ble_eq_true rfl⟩ dX5_loss_130 rfl rfl (Nat.le_of_ble_eq_true rfl) (Nat.le_refl _) (Nat.le_refl _) (t_X5_sendOn ⟨(hs_eq _ _ _), by exact (Nat.lt_of_le_of_lt (Nat.le_of_ble_eq_true rfl) ML)⟩ Oj hu4 hO ?_)
                        refine Rn.heap (hs_hs _ _ _ _) ?_
                        refine Rn.pop dX5_loss_133 rfl rfl ?_
                        refine Rn.iincN dX5_loss_134 rfl rfl (Nat.le_of_ble_eq_true rfl) ?_
                        refine Rn.goto (tgt := 91) dX5_loss_137 (by decide) ?_
                        refine Rn.heap (hs_in (congrArg pg (show _ = lpP u i p (j + 1) from (if_neg (bt_f c104)).symm))) ?_
                        exact Rn.pick [1, 2, 3, 4, 5, 6, 7, 0] rfl (ih2 (j + 1) (by omega) (by omega))
                      · refine Rn.aload_n dX5_loss_107 rfl rfl ?_
                        refine Rn.getf f_X5_22 dX5_loss_108 rfl ((hs_ne _ _ (by decide)).trans (hs_eq _ _ _)) (Nat.lt_of_le_of_lt (Nat.le_of_ble_eq_true rfl) ML) rfl ?_
                        refine Rn.bipush dX5_loss_111 rfl bp_6 ?_
                        refine Rn.iload_n dX5_loss_113 rfl rfl ?_
                        refine Rn.imulN dX5_loss_114 rfl ?_
                        refine Rn.iconst dX5_loss_115 rfl ic_3 ?_
                        refine Rn.iaddN dX5_loss_116 rfl ?_
                        refine Rn.dup2 dX5_loss_117 rfl rfl rfl ?_
                        refine Rn.ialdN dX5_loss_118 rfl (hs_eq _ _ _) (Nat.lt_of_le_of_lt (Nat.le_of_ble_eq_true rfl) ML) (by omega) (by omega) ?_
                        refine Rn.top (pg_us _ (by omega) (show 3 < 6 by omega)) ?_
                        refine Rn.iconst dX5_loss_119 rfl ic_1 ?_
                        refine Rn.isubN dX5_loss_120 rfl (by omega) ?_
                        refine Rn.iastN dX5_loss_121 rfl (hs_eq _ _ _) (Nat.lt_of_le_of_lt (Nat.le_of_ble_eq_true rfl) ML) (by omega) (by omega) ?_
                        refine Rn.heap (Pa.upd ((upd_pg _ _ (by omega) (by omega)).trans (congrArg pg (sp_y hO)))) ?_
                        refine Rn.heap (hs_hs _ _ _ _) ?_
                        refine Rn.goto (tgt := 134) dX5_loss_122 (by decide) ?_
                        refine Rn.iincN dX5_loss_134 rfl rfl (Nat.le_of_ble_eq_true rfl) ?_
                        refine Rn.goto (tgt := 91) dX5_loss_137 (by decide) ?_
                        refine Rn.heap (hs_in (congrArg pg (show _ = lpP u i p (j + 1) from (if_pos (bt_t c104)).symm))) ?_
                        exact Rn.pick [1, 2, 3, 4, 5, 6, 7, 0] rfl (ih2 (j + 1) (by omega) (by omega))
                exact Rn.pick [1, 2, 3, 4, 5, 6, 7, 0] rfl (hloop2 (y1 + 1) 0 (by omega) (by omega))
          exact Rn.pick [2, 3, 4, 5, 6, 1, 0] rfl (by have := hloop (2 ^ y1 + 1) 0 tp (Nat.lt_succ_of_le (Nat.sub_le _ _)) (Nat.zero_le _); rw [hs_self _ ((hs_ne _ _ (by decide)).trans M20)] at this; exact this)
        · refine Rn.bipush dX5_loss_60 rfl bp_m3 ?_
          refine Rn.iret dX5_loss_62 rfl rfl rfl ?_
          exact rn_fin (k _ ⟨_, _, _, _, _, _, _, _, _, _, (hs_eq _ _ _), ((hs_ne _ _ (by decide)).trans M16), ((hs_ne _ _ (by decide)).trans M17), ((hs_ne _ _ (by decide)).trans M18), ((hs_ne _ _ (by decide)).trans M19), ((hs_ne _ _ (by decide)).trans M20), ((hs_ne _ _ (by decide)).trans M21), ((hs_ne _ _ (by decide)).trans M22), ((hs_ne _ _ (by decide)).trans M23), ((hs_ne _ _ (by decide)).trans M24), ((hs_ne _ _ (by decide)).trans M25), ((hs_ne _ _ (by decide)).trans M26), ((hs_ne _ _ (by decide)).trans M27), ML, RMh, RKh⟩ ((Fm.rf h).hs _ (by decide))) (some_int (by unfold loI; rw [c0, c27, c39, xn_nI (by omega), xn_nI (by omega)]; exact (if_pos (show p (6 * u + 3) < y1 by omega)).symm)) rfl
      · refine Rn.bipush dX5_loss_42 rfl bp_m2 ?_
        refine Rn.iret dX5_loss_44 rfl rfl rfl ?_
        first | exact rn_fin (k _ ⟨_, _, _, _, _, _, _, _, _, _, (hs_eq _ _ _), ((hs_ne _ _ (by decide)).trans M16), ((hs_ne _ _ (by decide)).trans M17), ((hs_ne _ _ (by decide)).trans M18), ((hs_ne _ _ (by decide)).trans M19), ((hs_ne _ _ (by decide)).trans M20), ((hs_ne _ _ (by decide)).trans M21), ((hs_ne _ _ (by decide)).trans M22), ((hs_ne _ _ (by decide)).trans M23), ((hs_ne _ _ (by decide)).trans M24), ((hs_ne _ _ (by decide)).trans M25), ((hs_ne _ _ (by decide)).trans M26), ((hs_ne _ _ (by decide)).trans M27), ML, RMh, RKh⟩ ((Fm.rf h).hs _ (by decide))) (some_int (by unfold loI; rw [c0, c27]; rfl)) rfl | exact rn_fin (k _ ⟨_, _, _, _, _, _, _, _, _, _, (hs_eq _ _ _), ((hs_ne _ _ (by decide)).trans M16), ((hs_ne _ _ (by decide)).trans M17), ((hs_ne _ _ (by decide)).trans M18), ((hs_ne _ _ (by decide)).trans M19), ((hs_ne _ _ (by decide)).trans M20), ((hs_ne _ _ (by decide)).trans M21), ((hs_ne _ _ (by decide)).trans M22), ((hs_ne _ _ (by decide)).trans M23), ((hs_ne _ _ (by decide)).trans M24), ((hs_ne _ _ (by decide)).trans M25), ((hs_ne _ _ (by decide)).trans M26), ((hs_ne _ _ (by decide)).trans M27), ML, RMh, RKh⟩ ((Fm.rf h).hs _ (by decide))) (some_int (by unfold loI; rw [c0, c39, Bool.and_false]; rfl)) rfl
  · refine Rn.iconst dX5_loss_16 rfl ic_m1 ?_
    refine Rn.iret dX5_loss_17 rfl rfl rfl ?_
    exact rn_fin (k _ ⟨_, _, _, _, _, _, _, _, _, _, (hs_eq _ _ _), ((hs_ne _ _ (by decide)).trans M16), ((hs_ne _ _ (by decide)).trans M17), ((hs_ne _ _ (by decide)).trans M18), ((hs_ne _ _ (by decide)).trans M19), ((hs_ne _ _ (by decide)).trans M20), ((hs_ne _ _ (by decide)).trans M21), ((hs_ne _ _ (by decide)).trans M22), ((hs_ne _ _ (by decide)).trans M23), ((hs_ne _ _ (by decide)).trans M24), ((hs_ne _ _ (by decide)).trans M25), ((hs_ne _ _ (by decide)).trans M26), ((hs_ne _ _ (by decide)).trans M27), ML, RMh, RKh⟩ ((Fm.rf h).hs _ (by decide))) (some_int (by unfold loI; rw [bn_t c13]; rfl)) rfl
theorem t_X5_drawn {h : rHp} {Q : Option Value → rHp → Prop} {t : Nat → Nat} {ln : Nat} {p : Nat → Nat} {U : Nat → Nat → Nat} {a : Nat} {Kp : Nat → Nat → Nat} {ik : Nat → Bool} {su sp sn : Nat → Nat} {sz : Nat} {d : Int64} (I : MI h t ln p U a Kp ik su sp sn sz d) (O : OKs t ln p U a Kp ik su sp sn sz) {x : Int32} (k : ∀ h', MI h' t ln p U a Kp ik su sp sn sz (drA p d x).2 → Fm h h' → Q (some (.int ((drA p d x).1))) h') : Cl M_X5_drawn h.1 h.2.1 [.ref 15, .int x] h Q := by
  obtain ⟨th, pl, rm, rp, ev, tp, BK, KM, IK, FF, M15, M16, M17, M18, M19, M20, M21, M22, M23, M24, M25, M26, M27, ML, RMh, RKh⟩ := id I
  obtain ⟨Ot, Oln, Op, OU, OK2, Osz, Osu, Osp, Osn⟩ := id O
  refine Cl.of pl_X5 (Nat.le_of_ble_eq_true rfl) (by first | exact Nat.le_refl _ | omega) (by first | exact Nat.le_refl _ | omega) ?_
  refine Rn.aload_n dX5_drawn_0 rfl rfl ?_
  refine Rn.iconst dX5_drawn_1 rfl ic_0 ?_
  refine Rn.putf p_X5_51 (fun h => by cases h) dX5_drawn_2 rfl M15 (Nat.lt_of_le_of_lt (Nat.le_of_ble_eq_true rfl) ML) (fun g => ⟨rfl, rfl⟩) (Nat.le_of_ble_eq_true rfl) ?_
  refine Rn.iload_n dX5_drawn_5 rfl rfl ?_
  refine Rn.i2l dX5_drawn_6 rfl ?_
  refine Rn.lconst dX5_drawn_7 rfl lc_1 ?_
  refine Rn.ldc2 dX5_drawn_8 rfl k_X5_200 ?_
  refine Rn.topl lL_60 ?_
  refine Rn.callS (as := [_, _, _]) s_X5_in l_X5_57 ⟨Nat.le_of_ble_eq_true rfl, Nat.le_of_ble_eq_true rfl⟩ dX5_drawn_11 rfl rfl (Nat.le_of_ble_eq_true rfl) (Nat.le_refl _) (Nat.le_refl _) (t_X5_in ?_)
  refine Rn.top (congrArg bi (inL_W (by omega) (by omega))) ?_
  refine Rn.if_neB (tgt := 20) dX5_drawn_14 rfl (by decide) (fun c14 => ?_) (fun c14 => ?_)
  · obtain ⟨y, hy1, hy2, rfl⟩ := isW_of2 c14 (by omega) (by omega)
    refine Rn.aload_n dX5_drawn_20 rfl rfl ?_
    refine Rn.getf f_X5_19 dX5_drawn_21 rfl (hs_eq _ _ _) (Nat.lt_of_le_of_lt (Nat.le_of_ble_eq_true rfl) ML) rfl ?_
    refine Rn.aload_n dX5_drawn_24 rfl rfl ?_
    refine Rn.getf f_X5_22 dX5_drawn_25 rfl (hs_eq _ _ _) (Nat.lt_of_le_of_lt (Nat.le_of_ble_eq_true rfl) ML) rfl ?_
    refine Rn.callS (as := [_, _]) s_X5_lay l_X5_116 ⟨Nat.le_of_ble_eq_true rfl, Nat.le_of_ble_eq_true rfl⟩ dX5_drawn_28 rfl rfl (Nat.le_of_ble_eq_true rfl) (Nat.le_refl _) (Nat.le_refl _) (t_X5_lay ⟨((hs_ne _ _ (by decide)).trans M19), by exact (Nat.lt_of_le_of_lt (Nat.le_of_ble_eq_true rfl) ML)⟩ ⟨((hs_ne _ _ (by decide)).trans M20), by exact (Nat.lt_of_le_of_lt (Nat.le_of_ble_eq_true rfl) ML)⟩ (by decide) ?_)
    refine Rn.iconst dX5_drawn_31 rfl ic_0 ?_
    refine Rn.istore_n dX5_drawn_32 rfl (Nat.le_of_ble_eq_true rfl) ?_
    refine Rn.iconst dX5_drawn_33 rfl ic_0 ?_
    refine Rn.istore_n dX5_drawn_34 rfl (Nat.le_of_ble_eq_true rfl) ?_
    have hloop : ∀ (m : Nat) (f i : Nat) (dd : Int64) (pp : Nat → Nat) (acc : Nat), f < m → i + f = y → OKp pp → acc ≤ i → drG nxD dvN f dd pp acc = drG nxD dvN y d p 0 → Rn (M_X5_drawn, none, h.1, h.2.1) Q 35 [(0, .ref 15), (1, .int (nI y)), (2, .int (nI acc)), (3, .int (nI i))] [] (hs (hs h 15 (moO 0 ln pl rm a sz dd)) 20 (.inl (36, pg pp))) := by
      intro m
      induction m with
      | zero => intro f i dd pp acc h0 h1 h2 h3 h4; exact absurd h0 (Nat.not_lt_zero _)
      | succ m ih =>
        intro f i dd pp acc h0 h1 h2 h3 h4
        refine Rn.iload_n dX5_drawn_35 rfl rfl ?_
        refine Rn.iload_n dX5_drawn_36 rfl rfl ?_
        refine Rn.icmp_geN (tgt := 138) dX5_drawn_37 rfl (by decide) (by omega) (by omega) (fun c37 => ?_) (fun c37 => ?_)
        · obtain rfl : f = 0 := by omega
          refine Rn.iload_n dX5_drawn_138 rfl rfl ?_
          refine Rn.iret dX5_drawn_139 rfl rfl rfl ?_
          have e9 : drA p d (nI y) = (nI acc, dd) := by unfold drA; rw [c14, xn_nI (by omega), ← h4, drG_0, if_pos rfl]
          rw [e9] at k
          exact (k _ ⟨_, _, _, _, _, _, _, _, _, _, ((hs_ne _ _ (by decide)).trans (hs_eq _ _ _)), ((hs_ne _ _ (by decide)).trans ((hs_ne _ _ (by decide)).trans M16)), ((hs_ne _ _ (by decide)).trans ((hs_ne _ _ (by decide)).trans M17)), ((hs_ne _ _ (by decide)).trans ((hs_ne _ _ (by decide)).trans M18)), ((hs_ne _ _ (by decide)).trans ((hs_ne _ _ (by decide)).trans M19)), (hs_eq _ _ _), ((hs_ne _ _ (by decide)).trans ((hs_ne _ _ (by decide)).trans M21)), ((hs_ne _ _ (by decide)).trans ((hs_ne _ _ (by decide)).trans M22)), ((hs_ne _ _ (by decide)).trans ((hs_ne _ _ (by decide)).trans M23)), ((hs_ne _ _ (by decide)).trans ((hs_ne _ _ (by decide)).trans M24)), ((hs_ne _ _ (by decide)).trans ((hs_ne _ _ (by decide)).trans M25)), ((hs_ne _ _ (by decide)).trans ((hs_ne _ _ (by decide)).trans M26)), ((hs_ne _ _ (by decide)).trans ((hs_ne _ _ (by decide)).trans M27)), ML, RMh, RKh⟩ (((Fm.rf h).hs _ (by decide)).hs _ (by decide)))
        · obtain ⟨f, rfl⟩ : ∃ f', f = f' + 1 := ⟨f - 1, by omega⟩
          refine Rn.aload_n dX5_drawn_40 rfl rfl ?_
          refine Rn.aload_n dX5_drawn_41 rfl rfl ?_
          refine Rn.getf f_X5_196 dX5_drawn_42 rfl ((hs_ne _ _ (by decide)).trans (hs_eq _ _ _)) (Nat.lt_of_le_of_lt (Nat.le_of_ble_eq_true rfl) ML) rfl ?_
          refine Rn.ldc2 dX5_drawn_45 rfl k_X5_202 ?_
          refine Rn.lmul dX5_drawn_48 rfl ?_
          refine Rn.ldc2 dX5_drawn_49 rfl k_X5_204 ?_
          refine Rn.ladd dX5_drawn_52 rfl ?_
          refine Rn.topl (nxD_eq dd) ?_
          refine Rn.putf p_X5_196 (fun h => by cases h) dX5_drawn_53 rfl ((hs_ne _ _ (by decide)).trans (hs_eq _ _ _)) (Nat.lt_of_le_of_lt (Nat.le_of_ble_eq_true rfl) ML) (fun g => ⟨rfl, rfl⟩) (Nat.le_of_ble_eq_true rfl) ?_
          refine Rn.heap (hs_d1 _ _ _ _ (by decide)) ?_
          refine Rn.aload_n dX5_drawn_56 rfl rfl ?_
          refine Rn.getf f_X5_196 dX5_drawn_57 rfl ((hs_ne _ _ (by decide)).trans (hs_eq _ _ _)) (Nat.lt_of_le_of_lt (Nat.le_of_ble_eq_true rfl) ML) rfl ?_
          refine Rn.bipush dX5_drawn_60 rfl bp_33 ?_
          refine Rn.lushr dX5_drawn_62 rfl ?_
          refine Rn.l2i dX5_drawn_63 rfl ?_
          refine Rn.top (y := nI (dvN (nxD dd))) (dv_nI (nxD dd)) ?_
          have hW := dvN_lt (nxD dd)
          refine Rn.istore dX5_drawn_64 rfl (Nat.le_of_ble_eq_true rfl) ?_
          refine Rn.aload_n dX5_drawn_66 rfl rfl ?_
          refine Rn.getf f_X5_22 dX5_drawn_67 rfl ((hs_ne _ _ (by decide)).trans (hs_eq _ _ _)) (Nat.lt_of_le_of_lt (Nat.le_of_ble_eq_true rfl) ML) rfl ?_
          refine Rn.iload dX5_drawn_70 rfl rfl ?_
          refine Rn.iconst dX5_drawn_72 rfl ic_4 ?_
          refine Rn.iremN dX5_drawn_73 rfl (by omega) (by omega) (by omega) ?_
          refine Rn.callS (as := [_, _]) s_X5_hasPass l_X5_79 ⟨Nat.le_of_ble_eq_true rfl, Nat.le_of_ble_eq_true rfl⟩ dX5_drawn_74 rfl rfl (Nat.le_of_ble_eq_true rfl) (Nat.le_refl _) (Nat.le_refl _) (t_X5_hasPass ⟨(hs_eq _ _ _), by exact (Nat.lt_of_le_of_lt (Nat.le_of_ble_eq_true rfl) ML)⟩ h2 ?_)
          refine Rn.top (congrArg bi (ownB_nI (by omega))) ?_
          refine Rn.if_eqB (tgt := 132) dX5_drawn_77 rfl (by decide) (fun c77 => ?_) (fun c77 => ?_)
          · refine Rn.iincN dX5_drawn_132 rfl rfl (Nat.le_of_ble_eq_true rfl) ?_
            refine Rn.goto (tgt := 35) dX5_drawn_135 (by decide) ?_
            refine Rn.heap (hs_in (congrArg pg (dy_no c77).1)) ?_
            exact Rn.pick [2, 3, 4, 0] rfl (ih f (i + 1) (nxD dd) (dyP pp (dvN (nxD dd))) acc (by omega) (by omega) (OK_dy h2 _) (by omega) ((drG_n (dy_no c77).2).symm.trans h4))
          · refine Rn.iload dX5_drawn_80 rfl rfl ?_
            refine Rn.iconst dX5_drawn_82 rfl ic_4 ?_
            refine Rn.idivN dX5_drawn_83 rfl (by omega) (by omega) (by omega) ?_
            refine Rn.iconst dX5_drawn_84 rfl ic_4 ?_
            refine Rn.iremN dX5_drawn_85 rfl (by omega) (by omega) (by omega) ?_
            refine Rn.if_neN (tgt := 110) dX5_drawn_86 rfl (by decide) (by omega) (fun c86 => ?_) (fun c86 => ?_)
            · refine Rn.iload_n dX5_drawn_110 rfl rfl ?_
              refine Rn.aload_n dX5_drawn_111 rfl rfl ?_
              refine Rn.getf f_X5_22 dX5_drawn_112 rfl ((hs_ne _ _ (by decide)).trans (hs_eq _ _ _)) (Nat.lt_of_le_of_lt (Nat.le_of_ble_eq_true rfl) ML) rfl ?_
              refine Rn.iload dX5_drawn_115 rfl rfl ?_
              refine Rn.iconst dX5_drawn_117 rfl ic_4 ?_
              refine Rn.iremN dX5_drawn_118 rfl (by omega) (by omega) (by omega) ?_
              refine Rn.callS (as := [_, _]) s_X5_sendOn l_X5_120 ⟨Nat.le_of_ble_eq_true rfl, Nat.le_of_ble_eq_true rfl⟩ dX5_drawn_119 rfl rfl (Nat.le_of_ble_eq_true rfl) (Nat.le_refl _) (Nat.le_refl _) (t_X5_sendOn ⟨(hs_eq _ _ _), by exact (Nat.lt_of_le_of_lt (Nat.le_of_ble_eq_true rfl) ML)⟩ h2 (by omega) c77 ?_)
              refine Rn.heap (hs_hs _ _ _ _) ?_
              have hk30 : seK pp ((dvN (nxD dd)) % 4) ≤ 30 := seK_le h2 (by omega)
              refine Rn.if_leN (tgt := 129) dX5_drawn_122 rfl (by decide) (by omega) (fun c122 => ?_) (fun c122 => ?_)
              · refine Rn.iconst dX5_drawn_129 rfl ic_0 ?_
                refine Rn.iaddN dX5_drawn_130 rfl ?_
                refine Rn.istore_n dX5_drawn_131 rfl (Nat.le_of_ble_eq_true rfl) ?_
                refine Rn.iincN dX5_drawn_132 rfl rfl (Nat.le_of_ble_eq_true rfl) ?_
                refine Rn.goto (tgt := 35) dX5_drawn_135 (by decide) ?_
                refine Rn.heap (hs_in (congrArg pg (dy_se c77 c86).1)) ?_
                exact Rn.pick [3, 4, 1, 0] rfl (ih f (i + 1) (nxD dd) (dyP pp (dvN (nxD dd))) acc (by omega) (by omega) (OK_dy h2 _) (by omega) ((drG_n ((dy_se c77 c86).2.trans (decide_eq_false (by omega)))).symm.trans h4))
              · refine Rn.iconst dX5_drawn_125 rfl ic_1 ?_
                refine Rn.goto (tgt := 130) dX5_drawn_126 (by decide) ?_
                refine Rn.iaddN dX5_drawn_130 rfl ?_
                refine Rn.istore_n dX5_drawn_131 rfl (Nat.le_of_ble_eq_true rfl) ?_
                refine Rn.iincN dX5_drawn_132 rfl rfl (Nat.le_of_ble_eq_true rfl) ?_
                refine Rn.goto (tgt := 35) dX5_drawn_135 (by decide) ?_
                refine Rn.heap (hs_in (congrArg pg (dy_se c77 c86).1)) ?_
                exact Rn.pick [3, 4, 1, 0] rfl (ih f (i + 1) (nxD dd) (dyP pp (dvN (nxD dd))) (acc + 1) (by omega) (by omega) (OK_dy h2 _) (by omega) ((drG_y ((dy_se c77 c86).2.trans (decide_eq_true (by omega)))).symm.trans h4))
            · refine Rn.aload_n dX5_drawn_89 rfl rfl ?_
              refine Rn.getf f_X5_22 dX5_drawn_90 rfl ((hs_ne _ _ (by decide)).trans (hs_eq _ _ _)) (Nat.lt_of_le_of_lt (Nat.le_of_ble_eq_true rfl) ML) rfl ?_
              refine Rn.bipush dX5_drawn_93 rfl bp_6 ?_
              refine Rn.iload dX5_drawn_95 rfl rfl ?_
              refine Rn.iconst dX5_drawn_97 rfl ic_4 ?_
              refine Rn.iremN dX5_drawn_98 rfl (by omega) (by omega) (by omega) ?_
              refine Rn.imulN dX5_drawn_99 rfl ?_
              refine Rn.iconst dX5_drawn_100 rfl ic_3 ?_
              refine Rn.iaddN dX5_drawn_101 rfl ?_
              refine Rn.dup2 dX5_drawn_102 rfl rfl rfl ?_
              refine Rn.ialdN dX5_drawn_103 rfl (hs_eq _ _ _) (Nat.lt_of_le_of_lt (Nat.le_of_ble_eq_true rfl) ML) (by omega) (by omega) ?_
              refine Rn.top (pg_us _ (by omega) (show 3 < 6 by omega)) ?_
              have hO3 := (ow_t c77).2
              have ho3 := (h2.us (show (dvN (nxD dd)) % 4 < 4 by omega)).2.2.2.1
              refine Rn.iconst dX5_drawn_104 rfl ic_1 ?_
              refine Rn.isubN dX5_drawn_105 rfl (by omega) ?_
              refine Rn.iastN dX5_drawn_106 rfl (hs_eq _ _ _) (Nat.lt_of_le_of_lt (Nat.le_of_ble_eq_true rfl) ML) (by omega) (by omega) ?_
              refine Rn.heap (Pa.upd ((upd_pg _ _ (by omega) (by omega)).trans (congrArg pg (sp_y c77)))) ?_
              refine Rn.heap (hs_hs _ _ _ _) ?_
              refine Rn.goto (tgt := 132) dX5_drawn_107 (by decide) ?_
              refine Rn.iincN dX5_drawn_132 rfl rfl (Nat.le_of_ble_eq_true rfl) ?_
              refine Rn.goto (tgt := 35) dX5_drawn_135 (by decide) ?_
              refine Rn.heap (hs_in (congrArg pg (dy_sp c77 c86).1)) ?_
              exact Rn.pick [2, 3, 4, 0] rfl (ih f (i + 1) (nxD dd) (dyP pp (dvN (nxD dd))) acc (by omega) (by omega) (OK_dy h2 _) (by omega) ((drG_n (dy_sp c77 c86).2).symm.trans h4))
    exact Rn.pick [2, 3, 1, 0] rfl (hloop (y + 1) y 0 d p 0 (by omega) (by omega) Op (by omega) rfl)
  · refine Rn.bipush dX5_drawn_17 rfl bp_m2 ?_
    refine Rn.iret dX5_drawn_19 rfl rfl rfl ?_
    have e9 : drA p d x = (-2, d) := by unfold drA; rw [c14]; rfl
    rw [e9] at k
    exact (k _ ⟨_, _, _, _, _, _, _, _, _, _, (hs_eq _ _ _), ((hs_ne _ _ (by decide)).trans M16), ((hs_ne _ _ (by decide)).trans M17), ((hs_ne _ _ (by decide)).trans M18), ((hs_ne _ _ (by decide)).trans M19), ((hs_ne _ _ (by decide)).trans M20), ((hs_ne _ _ (by decide)).trans M21), ((hs_ne _ _ (by decide)).trans M22), ((hs_ne _ _ (by decide)).trans M23), ((hs_ne _ _ (by decide)).trans M24), ((hs_ne _ _ (by decide)).trans M25), ((hs_ne _ _ (by decide)).trans M26), ((hs_ne _ _ (by decide)).trans M27), ML, RMh, RKh⟩ ((Fm.rf h).hs _ (by decide)))
