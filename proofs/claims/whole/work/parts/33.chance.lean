/-! ===== shares, guesses, losses, days, judged doings: what the class answers ===== -/
def shS (p : Nat → Nat) (u : Nat) : Nat → Nat
  | 0 => 0
  | i + 1 => shS p u i + if fB p u i then 12 / cnt (ftd p i) 4 else 0
theorem shS_le (p : Nat → Nat) (u : Nat) : ∀ i, shS p u i ≤ 12 * i
  | 0 => Nat.le_refl _
  | i + 1 => by
    have h1 := shS_le p u i
    have h2 : 12 / cnt (ftd p i) 4 ≤ 12 := Nat.div_le_self _ _
    show shS p u i + (if fB p u i then 12 / cnt (ftd p i) 4 else 0) ≤ 12 * (i + 1)
    split <;> omega
theorem shS_n {p : Nat → Nat} {u i : Nat} (h : fitP p u i = 0) : shS p u (i + 1) = shS p u i := by
  show shS p u i + (if fB p u i then 12 / cnt (ftd p i) 4 else 0) = _
  unfold fB
  rw [h]; rfl
theorem shS_y {p : Nat → Nat} {u i : Nat} (h : ¬ fitP p u i = 0) : shS p u (i + 1) = shS p u i + 12 / cnt (ftd p i) 4 := by
  show shS p u i + (if fB p u i then 12 / cnt (ftd p i) 4 else 0) = _
  unfold fB
  rw [decide_eq_true (show 0 < fitP p u i by omega), if_pos rfl]
/-- a fraction in least terms -/
def frN (a b : Nat) (up : Bool) : Nat := (if up then a else b) / Nat.gcd a b
def shI (p : Nat → Nat) (x : Int32) (up : Bool) : Int32 := if hasB (p 24) x then nI (frN (shS p (xn x) 251) 12 up) else -1
def guI (p : Nat → Nat) (x n : Int32) (up : Bool) : Int32 := if hasB (p 24) x then (if isW n (nI 0) (nI 3) then nI (frN (251 ^ xn n - (251 - cnt (fB p (xn x)) 251) ^ xn n) (251 ^ xn n) up) else -2) else -1
/-- the weight of one way of losses, if the user is in step then -/
def wtL (u x lost : Nat) : Nat → Nat → (Nat → Nat) → Nat → Nat
  | 0, _, p, w => if stp p u then w else 0
  | n + 1, i, p, w => if lost / 2 ^ i % 2 = 1 then wtL u x lost n (i + 1) (spP p u) (w * x) else wtL u x lost n (i + 1) (seP p u) (w * (10 - x))
def lsS (p : Nat → Nat) (u r x : Nat) : Nat → Nat
  | 0 => 0
  | i + 1 => lsS p u r x i + wtL u x i r 0 p 1
theorem wtL_le {u x lost : Nat} (hx : x ≤ 10) : ∀ n i p w, wtL u x lost n i p w ≤ w * 10 ^ n
  | 0, i, p, w => by
    unfold wtL
    split
    · simp
    · omega
  | n + 1, i, p, w => by
    unfold wtL
    have e : w * 10 ^ (n + 1) = w * 10 * 10 ^ n := by rw [Nat.pow_succ, Nat.mul_assoc, Nat.mul_comm (10 ^ n) 10]
    rw [e]
    split
    · exact Nat.le_trans (wtL_le hx n _ _ _) (Nat.mul_le_mul_right _ (Nat.mul_le_mul_left w hx))
    · exact Nat.le_trans (wtL_le hx n _ _ _) (Nat.mul_le_mul_right _ (Nat.mul_le_mul_left w (by omega)))
theorem lsS_le {p : Nat → Nat} {u r x : Nat} (hx : x ≤ 10) : ∀ i, lsS p u r x i ≤ i * 10 ^ r
  | 0 => by simp [lsS]
  | i + 1 => by
    have h1 := lsS_le (p := p) (u := u) (r := r) hx i
    have h2 := wtL_le (u := u) (lost := i) hx r 0 p 1
    show lsS p u r x i + wtL u x i r 0 p 1 ≤ (i + 1) * 10 ^ r
    rw [Nat.succ_mul]
    omega
def loI (p : Nat → Nat) (x r y : Int32) (up : Bool) : Int32 := if hasB (p 24) x then (if isW r (nI 0) (nI 6) && isW y (nI 0) (nI 10) then (if p (6 * xn x + 3) < xn r then -3 else nI (frN (lsS p (xn x) (xn r) (xn y) (2 ^ xn r)) (10 ^ xn r) up)) else -2) else -1
theorem shr_N {n i : Nat} (hn : n < 2147483648) (hi : i < 7) : nI n >>> (nI i &&& 31) = nI (n / 2 ^ i) := by
  rcases (show i = 0 ∨ i = 1 ∨ i = 2 ∨ i = 3 ∨ i = 4 ∨ i = 5 ∨ i = 6 by omega) with rfl | rfl | rfl | rfl | rfl | rfl | rfl
  · exact pk_shrN hn _ 0 (by decide)
  · exact pk_shrN hn _ 1 (by decide)
  · exact pk_shrN hn _ 2 (by decide)
  · exact pk_shrN hn _ 3 (by decide)
  · exact pk_shrN hn _ 4 (by decide)
  · exact pk_shrN hn _ 5 (by decide)
  · exact pk_shrN hn _ 6 (by decide)
theorem and_1 {n : Nat} (hn : n < 4294967296) : nI n &&& nI 1 = nI (n % 2) := pk_andN hn 1 (by decide)
theorem shl_N {i : Nat} (hi : i < 7) : nI 1 <<< (nI i &&& 31) = nI (2 ^ i) := by
  rcases (show i = 0 ∨ i = 1 ∨ i = 2 ∨ i = 3 ∨ i = 4 ∨ i = 5 ∨ i = 6 by omega) with rfl | rfl | rfl | rfl | rfl | rfl | rfl <;> decide +kernel
theorem pow_le2 {r : Nat} (h : r ≤ 6) : 2 ^ r ≤ 64 := Nat.pow_le_pow_right (n := 2) (by omega) h
theorem pow_le10 {r : Nat} (h : r ≤ 6) : 10 ^ r ≤ 1000000 := Nat.pow_le_pow_right (n := 10) (by omega) h
theorem pow_le251 {r : Nat} (h : r ≤ 3) : 251 ^ r ≤ 15813251 := Nat.pow_le_pow_right (n := 251) (by omega) h
/-- the number of a day -/
def dv (d : Int64) : Int32 := ((d.toUInt64 >>> ((nI 33).toInt64.toUInt64 &&& Int64.toUInt64 63)).toInt64).toInt32
def dvN (d : Int64) : Nat := d.toUInt64.toNat / 8589934592
theorem dvN_lt (d : Int64) : dvN d < 2147483648 := by
  have := d.toUInt64.toNat_lt
  unfold dvN
  omega
theorem dv_nI (d : Int64) : dv d = nI (dvN d) := by
  have h1 : ((nI 33).toInt64.toUInt64 &&& Int64.toUInt64 63) = 33 := by decide +kernel
  have h2 : (d.toUInt64 >>> (33 : UInt64)).toNat = dvN d := by
    rw [UInt64.toNat_shiftRight]
    show d.toUInt64.toNat >>> (33 % 64) = d.toUInt64.toNat / 8589934592
    rw [Nat.shiftRight_eq_div_pow]
  have h3 : (d.toUInt64 >>> (33 : UInt64)).toInt64 = lN (dvN d) := by
    rw [← h2]
    generalize d.toUInt64 >>> (33 : UInt64) = y
    apply Int64.toBitVec_inj.mp
    apply BitVec.eq_of_toNat_eq
    show y.toNat = (BitVec.ofNat 64 y.toNat).toNat
    rw [BitVec.toNat_ofNat, Nat.mod_eq_of_lt y.toNat_lt]
  unfold dv
  rw [h1, h3, lN_i]
def nxD (d : Int64) : Int64 := d * 6364136223846793005 + 1442695040888963407
def dyP (p : Nat → Nat) (w : Nat) : Nat → Nat := if ow p (w % 4) then (if w / 4 % 4 = 0 then spP p (w % 4) else seP p (w % 4)) else p
def dyB (p : Nat → Nat) (w : Nat) : Bool := ow p (w % 4) && (!decide (w / 4 % 4 = 0) && decide (0 < seK p (w % 4)))
def drG (g : Int64 → Int64) (v : Int64 → Nat) : Nat → Int64 → (Nat → Nat) → Nat → Nat × Int64
  | 0, d, _, acc => (acc, d)
  | n + 1, d, p, acc => drG g v n (g d) (dyP p (v (g d))) (if dyB p (v (g d)) then acc + 1 else acc)
theorem drG_y {g : Int64 → Int64} {v : Int64 → Nat} {f : Nat} {d : Int64} {p : Nat → Nat} {acc : Nat} (h : dyB p (v (g d)) = true) : drG g v (f + 1) d p acc = drG g v f (g d) (dyP p (v (g d))) (acc + 1) := by
  rw [drG, h, if_pos rfl]
theorem drG_n {g : Int64 → Int64} {v : Int64 → Nat} {f : Nat} {d : Int64} {p : Nat → Nat} {acc : Nat} (h : dyB p (v (g d)) = false) : drG g v (f + 1) d p acc = drG g v f (g d) (dyP p (v (g d))) acc := by
  rw [drG, h, if_neg (by decide)]
theorem drG_0 {g : Int64 → Int64} {v : Int64 → Nat} {d : Int64} {p : Nat → Nat} {acc : Nat} : drG g v 0 d p acc = (acc, d) := rfl
def drA (p : Nat → Nat) (d : Int64) (m : Int32) : Int32 × Int64 := if isW m (nI 1) (nI 60) then (nI (drG nxD dvN (xn m) d p 0).1, (drG nxD dvN (xn m) d p 0).2) else (-2, d)
/-- a told doing of four figures: whether it can be, or is so; the page then -/
def soA (p : Nat → Nat) (c : Nat) : Bool × (Nat → Nat) :=
  if c / 1000 = 1 then (if c % 100 = 0 ∧ ow p (c / 100 % 10) = true then (true, seP p (c / 100 % 10)) else (false, p)) else
  if c / 1000 = 2 then (if c % 100 = 0 ∧ ow p (c / 100 % 10) = true then (true, spP p (c / 100 % 10)) else (false, p)) else
  if c / 1000 = 3 then (decide (c / 100 % 10 < p 24 ∧ p (6 * (c / 100 % 10) + 3) = c % 100), p) else
  if c / 1000 = 4 then (decide (c / 100 % 10 < p 24 ∧ p (6 * (c / 100 % 10) + 5) = c % 100), p) else
  if c / 1000 = 5 then (decide (c % 1000 ≤ 250 ∧ 0 < cnt (ftd p (c % 1000)) 4), p) else
  if c / 1000 = 6 then (decide (c % 100 ≤ 1 ∧ c / 100 % 10 < p 24 ∧ stp p (c / 100 % 10) = decide (c % 100 = 1)), p) else
  if c / 1000 = 7 then (if c % 100 = 0 ∧ 1 ≤ c / 100 % 10 ∧ c / 100 % 10 ≤ 6 then (true, un p 25 (c / 100 % 10)) else (false, p)) else (false, p)
def juL (r n : Nat) : Nat → Nat → (Nat → Nat) → Int32
  | 0, _, _ => -9
  | f + 1, i, p => if (soA p (r / 10000 ^ (n - 1 - i) % 10000)).1 then juL r n f (i + 1) (soA p (r / 10000 ^ (n - 1 - i) % 10000)).2 else nI i
def juI (p : Nat → Nat) (n : Int32) (row : Int64) : Int32 := if isW n (nI 1) (nI 4) = true ∧ 0 ≤ row ∧ row.toInt.toNat / 10000 ^ xn n = 0 then juL row.toInt.toNat (xn n) (xn n) 0 p else -2
theorem t_X4_share {h : rHp} {Q : Option Value → rHp → Prop} {t : Nat → Nat} {ln : Nat} {p : Nat → Nat} {U : Nat → Nat → Nat} {a : Nat} {Kp : Nat → Nat → Nat} {ik : Nat → Bool} {su sp sn : Nat → Nat} {sz : Nat} {d : Int64} (I : CI h t ln p U a Kp ik su sp sn sz d) (O : OKs t ln p U a Kp ik su sp sn sz) {x : Int32} {up : Bool} (k : Q (some (.int (shI p x up))) h) : Cl M_X4_share h.1 h.2.1 [.ref 0, .int x, .int (bi up)] h Q := by
  obtain ⟨pl, pt, B, KP, IK, n, C, T, H, G, S, E, RBh, RKh⟩ := id I
  obtain ⟨Ot, Oln, Op, OU, OK2, Osz, Osu, Osp, Osn⟩ := id O
  refine Cl.of pl_X4 (Nat.le_of_ble_eq_true rfl) (by first | exact Nat.le_refl _ | omega) (by first | exact Nat.le_refl _ | omega) ?_
  refine Rn.aload_n dX4_share_0 rfl rfl ?_
  refine Rn.getf f_X4_19 dX4_share_1 rfl C.1 C.2 rfl ?_
  refine Rn.iload_n dX4_share_4 rfl rfl ?_
  refine Rn.callV (as := [_]) v_X0_has l_X4_67 ⟨Nat.le_of_ble_eq_true rfl, Nat.le_of_ble_eq_true rfl⟩ dX4_share_5 rfl rfl (Nat.le_of_ble_eq_true rfl) H.1 H.2.2.1 rfl (Nat.le_refl _) (Nat.le_refl _) (t_X0_has H Op.1 ?_) 
  refine Rn.if_neB (tgt := 13) dX4_share_8 rfl (by decide) (fun c8 => ?_) (fun c8 => ?_)
  · obtain ⟨u, hu, rfl⟩ := hasB_of c8
    have hu4 : u < 4 := by have := Op.1; omega
    refine Rn.lconst dX4_share_13 rfl lc_0 ?_
    refine Rn.lstore_n dX4_share_14 rfl (Nat.le_of_ble_eq_true rfl) ?_
    refine Rn.iconst dX4_share_15 rfl ic_0 ?_
    refine Rn.istore dX4_share_16 rfl (Nat.le_of_ble_eq_true rfl) ?_
    have hloop : ∀ (m : Nat) (i : Nat), 251 - i < m → i ≤ 251 → Rn (M_X4_share, none, h.1, h.2.1) Q 18 [(0, .ref 0), (1, .int (nI u)), (2, .int (bi up)), (3, .long (lN (shS p u i))), (5, .int (nI i))] [] h := by
      intro m
      induction m with
      | zero => intro i h0 h1; exact absurd h0 (Nat.not_lt_zero _)
      | succ m ih =>
        intro i h0 h1
        have hsl := shS_le p u i
        refine Rn.iload dX4_share_18 rfl rfl ?_
        refine Rn.sipush dX4_share_20 rfl sp_251 ?_
        refine Rn.icmp_geN (tgt := 74) dX4_share_23 rfl (by decide) (by omega) (by omega) (fun c23 => ?_) (fun c23 => ?_)
        · refine Rn.lload_n dX4_share_74 rfl rfl ?_
          refine Rn.ldc2 dX4_share_75 rfl k_X4_188 ?_
          refine Rn.topl lL_12 ?_
          refine Rn.iload_n dX4_share_78 rfl rfl ?_
          refine Rn.callS (as := [_, _, _]) s_X4_toldFraction l_X4_190 ⟨Nat.le_of_ble_eq_true rfl, Nat.le_of_ble_eq_true rfl⟩ dX4_share_79 rfl rfl (Nat.le_of_ble_eq_true rfl) (Nat.le_refl _) (Nat.le_refl _) (t_X4_toldFraction (by omega) (by omega) (by omega) ?_)
          refine Rn.iret dX4_share_82 rfl rfl rfl ?_
          rw [show i = 251 by omega]
          exact rn_fin k (some_int (by unfold shI frN; rw [c8, xn_nI (by omega)]; rfl)) rfl
        · refine Rn.aload_n dX4_share_26 rfl rfl ?_
          refine Rn.getf f_X4_19 dX4_share_27 rfl C.1 C.2 rfl ?_
          refine Rn.iload_n dX4_share_30 rfl rfl ?_
          refine Rn.iload dX4_share_31 rfl rfl ?_
          refine Rn.callV (as := [_, _]) v_X0_fitOf l_X4_149 ⟨Nat.le_of_ble_eq_true rfl, Nat.le_of_ble_eq_true rfl⟩ dX4_share_33 rfl rfl (Nat.le_of_ble_eq_true rfl) H.1 H.2.2.1 rfl (Nat.le_refl _) (Nat.le_refl _) (t_X0_fitOf H Op hu4 (by omega) ?_) 
          have hfl := fitP_le p u i
          have hl30 := (Op.us hu4).2.2.2.2.2
          refine Rn.if_leN (tgt := 51) dX4_share_36 rfl (by decide) (by omega) (fun c36 => ?_) (fun c36 => ?_)
          · refine Rn.iconst dX4_share_51 rfl ic_0 ?_
            refine Rn.istore dX4_share_52 rfl (Nat.le_of_ble_eq_true rfl) ?_
            refine Rn.iload dX4_share_54 rfl rfl ?_
            refine Rn.if_leN (tgt := 68) dX4_share_56 rfl (by decide) (by omega) (fun c56 => ?_) (fun c56 => ?_)
            · refine Rn.iincN dX4_share_68 rfl rfl (Nat.le_of_ble_eq_true rfl) ?_
              refine Rn.goto (tgt := 18) dX4_share_71 (by decide) ?_
              have ec := shS_n c36
              have := ih (i + 1) (by omega) (by omega)
              rw [ec] at this
              exact Rn.pick [2, 3, 4, 5, 0] rfl (this)
            · first | omega | exact False.elim c56
          · refine Rn.aload_n dX4_share_39 rfl rfl ?_
            refine Rn.getf f_X4_19 dX4_share_40 rfl C.1 C.2 rfl ?_
            refine Rn.iload dX4_share_43 rfl rfl ?_
            refine Rn.callV (as := [_]) v_X0_countFitted l_X4_185 ⟨Nat.le_of_ble_eq_true rfl, Nat.le_of_ble_eq_true rfl⟩ dX4_share_45 rfl rfl (Nat.le_of_ble_eq_true rfl) H.1 H.2.2.1 rfl (Nat.le_refl _) (Nat.le_refl _) (t_X0_countFitted H Op (by omega) ?_) 
            have hcl := cnt_le (ftd p i) 4
            refine Rn.goto (tgt := 52) dX4_share_48 (by decide) ?_
            refine Rn.istore dX4_share_52 rfl (Nat.le_of_ble_eq_true rfl) ?_
            refine Rn.iload dX4_share_54 rfl rfl ?_
            refine Rn.if_leN (tgt := 68) dX4_share_56 rfl (by decide) (by omega) (fun c56 => ?_) (fun c56 => ?_)
            · refine Rn.iincN dX4_share_68 rfl rfl (Nat.le_of_ble_eq_true rfl) ?_
              refine Rn.goto (tgt := 18) dX4_share_71 (by decide) ?_
              have ec := (shS_y c36).trans (by rw [c56])
              have := ih (i + 1) (by omega) (by omega)
              rw [ec] at this
              exact Rn.pick [2, 3, 4, 5, 0] rfl (this)
            · refine Rn.lload_n dX4_share_59 rfl rfl ?_
              refine Rn.bipush dX4_share_60 rfl bp_12 ?_
              refine Rn.iload dX4_share_62 rfl rfl ?_
              refine Rn.idivN dX4_share_64 rfl (by omega) (by omega) (by omega) ?_
              have hd12 : 12 / cnt (ftd p i) 4 ≤ 12 := Nat.div_le_self _ _
              refine Rn.i2lN dX4_share_65 rfl (by omega) ?_
              refine Rn.laddN dX4_share_66 rfl ?_
              refine Rn.lstore_n dX4_share_67 rfl (Nat.le_of_ble_eq_true rfl) ?_
              refine Rn.iincN dX4_share_68 rfl rfl (Nat.le_of_ble_eq_true rfl) ?_
              refine Rn.goto (tgt := 18) dX4_share_71 (by decide) ?_
              have ec := shS_y c36
              have := ih (i + 1) (by omega) (by omega)
              rw [ec] at this
              exact Rn.pick [3, 4, 5, 1, 0] rfl (this)
    exact Rn.pick [2, 3, 4, 1, 0] rfl (hloop 252 0 (by omega) (by omega))
  · refine Rn.iconst dX4_share_11 rfl ic_m1 ?_
    refine Rn.iret dX4_share_12 rfl rfl rfl ?_
    exact rn_fin k (some_int (by unfold shI; rw [c8]; rfl)) rfl
theorem t_X4_guess {h : rHp} {Q : Option Value → rHp → Prop} {t : Nat → Nat} {ln : Nat} {p : Nat → Nat} {U : Nat → Nat → Nat} {a : Nat} {Kp : Nat → Nat → Nat} {ik : Nat → Bool} {su sp sn : Nat → Nat} {sz : Nat} {d : Int64} (I : CI h t ln p U a Kp ik su sp sn sz d) (O : OKs t ln p U a Kp ik su sp sn sz) {x y : Int32} {up : Bool} (k : Q (some (.int (guI p x y up))) h) : Cl M_X4_guess h.1 h.2.1 [.ref 0, .int x, .int y, .int (bi up)] h Q := by
  obtain ⟨pl, pt, B, KP, IK, n, C, T, H, G, S, E, RBh, RKh⟩ := id I
  obtain ⟨Ot, Oln, Op, OU, OK2, Osz, Osu, Osp, Osn⟩ := id O
  refine Cl.of pl_X4 (Nat.le_of_ble_eq_true rfl) (by first | exact Nat.le_refl _ | omega) (by first | exact Nat.le_refl _ | omega) ?_
  refine Rn.aload_n dX4_guess_0 rfl rfl ?_
  refine Rn.getf f_X4_19 dX4_guess_1 rfl C.1 C.2 rfl ?_
  refine Rn.iload_n dX4_guess_4 rfl rfl ?_
  refine Rn.callV (as := [_]) v_X0_has l_X4_67 ⟨Nat.le_of_ble_eq_true rfl, Nat.le_of_ble_eq_true rfl⟩ dX4_guess_5 rfl rfl (Nat.le_of_ble_eq_true rfl) H.1 H.2.2.1 rfl (Nat.le_refl _) (Nat.le_refl _) (t_X0_has H Op.1 ?_) 
  refine Rn.if_neB (tgt := 13) dX4_guess_8 rfl (by decide) (fun c8 => ?_) (fun c8 => ?_)
  · obtain ⟨u, hu, rfl⟩ := hasB_of c8
    have hu4 : u < 4 := by have := Op.1; omega
    refine Rn.iload_n dX4_guess_13 rfl rfl ?_
    refine Rn.iconst dX4_guess_14 rfl ic_0 ?_
    refine Rn.iconst dX4_guess_15 rfl ic_3 ?_
    refine Rn.callS (as := [_, _, _]) s_X4_isWithin l_X4_96 ⟨Nat.le_of_ble_eq_true rfl, Nat.le_of_ble_eq_true rfl⟩ dX4_guess_16 rfl rfl (Nat.le_of_ble_eq_true rfl) (Nat.le_refl _) (Nat.le_refl _) (t_X4_isWithin ?_)
    refine Rn.if_neB (tgt := 25) dX4_guess_19 rfl (by decide) (fun c19 => ?_) (fun c19 => ?_)
    · obtain ⟨z, hz, rfl⟩ := isW_of c19 (by omega)
      refine Rn.sipush dX4_guess_25 rfl sp_251 ?_
      refine Rn.iload_n dX4_guess_28 rfl rfl ?_
      refine Rn.callS (as := [_, _]) s_X4_power l_X4_194 ⟨Nat.le_of_ble_eq_true rfl, Nat.le_of_ble_eq_true rfl⟩ dX4_guess_29 rfl rfl (Nat.le_of_ble_eq_true rfl) (Nat.le_refl _) (Nat.le_refl _) (t_X4_power (by omega) (by omega) ?_)
      refine Rn.lstore dX4_guess_32 rfl (Nat.le_of_ble_eq_true rfl) ?_
      refine Rn.sipush dX4_guess_34 rfl sp_251 ?_
      refine Rn.aload_n dX4_guess_37 rfl rfl ?_
      refine Rn.getf f_X4_19 dX4_guess_38 rfl C.1 C.2 rfl ?_
      refine Rn.iload_n dX4_guess_41 rfl rfl ?_
      refine Rn.callV (as := [_]) v_X0_countFitting l_X4_152 ⟨Nat.le_of_ble_eq_true rfl, Nat.le_of_ble_eq_true rfl⟩ dX4_guess_42 rfl rfl (Nat.le_of_ble_eq_true rfl) H.1 H.2.2.1 rfl (Nat.le_refl _) (Nat.le_refl _) (t_X0_countFitting H Op hu4 ?_) 
      have hcl := cnt_le (fB p u) 251
      refine Rn.isubN dX4_guess_45 rfl (by omega) ?_
      refine Rn.iload_n dX4_guess_46 rfl rfl ?_
      refine Rn.callS (as := [_, _]) s_X4_power l_X4_194 ⟨Nat.le_of_ble_eq_true rfl, Nat.le_of_ble_eq_true rfl⟩ dX4_guess_47 rfl rfl (Nat.le_of_ble_eq_true rfl) (Nat.le_refl _) (Nat.le_refl _) (t_X4_power (by omega) (by omega) ?_)
      have hp1 : 251 ^ z ≤ 15813251 := pow_le251 hz
      have hp2 : (251 - cnt (fB p u) 251) ^ z ≤ 251 ^ z := Nat.pow_le_pow_left (by omega) z
      refine Rn.lstore dX4_guess_50 rfl (Nat.le_of_ble_eq_true rfl) ?_
      refine Rn.lload dX4_guess_52 rfl rfl ?_
      refine Rn.lload dX4_guess_54 rfl rfl ?_
      refine Rn.lsubN dX4_guess_56 rfl (by omega) ?_
      refine Rn.lload dX4_guess_57 rfl rfl ?_
      refine Rn.iload_n dX4_guess_59 rfl rfl ?_
      refine Rn.callS (as := [_, _, _]) s_X4_toldFraction l_X4_190 ⟨Nat.le_of_ble_eq_true rfl, Nat.le_of_ble_eq_true rfl⟩ dX4_guess_60 rfl rfl (Nat.le_of_ble_eq_true rfl) (Nat.le_refl _) (Nat.le_refl _) (t_X4_toldFraction (by omega) (Nat.pow_pos (by omega)) (by omega) ?_)
      refine Rn.iret dX4_guess_63 rfl rfl rfl ?_
      exact rn_fin k (some_int (by unfold guI frN; rw [c8, c19, xn_nI (by omega), xn_nI (by omega)]; rfl)) rfl
    · refine Rn.bipush dX4_guess_22 rfl bp_m2 ?_
      refine Rn.iret dX4_guess_24 rfl rfl rfl ?_
      exact rn_fin k (some_int (by unfold guI; rw [c8, c19]; rfl)) rfl
  · refine Rn.iconst dX4_guess_11 rfl ic_m1 ?_
    refine Rn.iret dX4_guess_12 rfl rfl rfl ?_
    exact rn_fin k (some_int (by unfold guI; rw [c8]; rfl)) rfl
theorem t_X4_sendInMind {h : rHp} {Q : Option Value → rHp → Prop} {p pt : Nat → Nat} {d : Int64} (C : Cx h d) (H : Hl h 3 p) (G : Hl h 5 pt) {p1 : Nat → Nat} (O1 : OKp p1) {u : Nat} (hu : u < 2147483648) (k : Q (some (.int (bi (ow p1 u)))) (hp h 5 (seP p1 u))) : Cl M_X4_sendInMind h.1 h.2.1 [.ref 0, .int (nI u)] (hp h 5 p1) Q := by
  refine Cl.of pl_X4 (Nat.le_of_ble_eq_true rfl) (by first | exact Nat.le_refl _ | omega) (by first | exact Nat.le_refl _ | omega) ?_
  refine Rn.aload_n dX4_sendInMind_0 rfl rfl ?_
  refine Rn.getf f_X4_23 dX4_sendInMind_1 rfl ((hs_ne _ _ (by decide)).trans C.1) C.2 rfl ?_
  refine Rn.iload_n dX4_sendInMind_4 rfl rfl ?_
  refine Rn.callV (as := [_]) v_X0_hasOwn l_X4_104 ⟨Nat.le_of_ble_eq_true rfl, Nat.le_of_ble_eq_true rfl⟩ dX4_sendInMind_5 rfl rfl (Nat.le_of_ble_eq_true rfl) ((hs_ne _ _ (by decide)).trans G.1) G.2.2.1 rfl (Nat.le_refl _) (Nat.le_refl _) (t_X0_hasOwn (G.put _) O1 ?_) 
  refine Rn.top (congrArg bi (ownB_nI hu)) ?_
  refine Rn.istore_n dX4_sendInMind_8 rfl (Nat.le_of_ble_eq_true rfl) ?_
  refine Rn.iload_n dX4_sendInMind_9 rfl rfl ?_
  refine Rn.if_eqB (tgt := 22) dX4_sendInMind_10 rfl (by decide) (fun c10 => ?_) (fun c10 => ?_)
  · refine Rn.iload_n dX4_sendInMind_22 rfl rfl ?_
    refine Rn.zret dX4_sendInMind_23 rfl (bi_01 _) rfl rfl ?_
    first | exact rn_fin k rfl (by unfold seP; rw [c10]; rfl) | exact k
  · refine Rn.aload_n dX4_sendInMind_13 rfl rfl ?_
    refine Rn.getf f_X4_23 dX4_sendInMind_14 rfl ((hs_ne _ _ (by decide)).trans C.1) C.2 rfl ?_
    refine Rn.iload_n dX4_sendInMind_17 rfl rfl ?_
    refine Rn.callV (as := [_]) v_X0_sendPass l_X4_110 ⟨Nat.le_of_ble_eq_true rfl, Nat.le_of_ble_eq_true rfl⟩ dX4_sendInMind_18 rfl rfl (Nat.le_of_ble_eq_true rfl) ((hs_ne _ _ (by decide)).trans G.1) G.2.2.1 rfl (Nat.le_refl _) (Nat.le_refl _) (t_X0_sendPass (G.put _) O1 hu ?_) 
    refine Rn.heap (hp_hp _ _ _ _) ?_
    refine Rn.pop dX4_sendInMind_21 rfl rfl ?_
    refine Rn.iload_n dX4_sendInMind_22 rfl rfl ?_
    refine Rn.zret dX4_sendInMind_23 rfl (bi_01 _) rfl rfl ?_
    first | exact rn_fin k rfl (by unfold seP; rw [c10]; rfl) | exact k
theorem t_X4_widenInMind {h : rHp} {Q : Option Value → rHp → Prop} {p pt : Nat → Nat} {d : Int64} (C : Cx h d) (H : Hl h 3 p) (G : Hl h 5 pt) {p1 : Nat → Nat} {u : Nat} (hu : u < 2147483648) (k : Q (some (.int (bi (isW (nI u) (nI 1) (nI 6))))) (hp h 5 (if isW (nI u) (nI 1) (nI 6) then un p1 25 u else p1))) : Cl M_X4_widenInMind h.1 h.2.1 [.ref 0, .int (nI u)] (hp h 5 p1) Q := by
  refine Cl.of pl_X4 (Nat.le_of_ble_eq_true rfl) (by first | exact Nat.le_refl _ | omega) (by first | exact Nat.le_refl _ | omega) ?_
  refine Rn.iload_n dX4_widenInMind_0 rfl rfl ?_
  refine Rn.iconst dX4_widenInMind_1 rfl ic_1 ?_
  refine Rn.bipush dX4_widenInMind_2 rfl bp_6 ?_
  refine Rn.callS (as := [_, _, _]) s_X4_isWithin l_X4_96 ⟨Nat.le_of_ble_eq_true rfl, Nat.le_of_ble_eq_true rfl⟩ dX4_widenInMind_4 rfl rfl (Nat.le_of_ble_eq_true rfl) (Nat.le_refl _) (Nat.le_refl _) (t_X4_isWithin ?_)
  refine Rn.istore_n dX4_widenInMind_7 rfl (Nat.le_of_ble_eq_true rfl) ?_
  refine Rn.iload_n dX4_widenInMind_8 rfl rfl ?_
  refine Rn.if_eqB (tgt := 20) dX4_widenInMind_9 rfl (by decide) (fun c9 => ?_) (fun c9 => ?_)
  · refine Rn.iload_n dX4_widenInMind_20 rfl rfl ?_
    refine Rn.zret dX4_widenInMind_21 rfl (bi_01 _) rfl rfl ?_
    first | exact rn_fin k rfl (by rw [c9]; rfl)
  · refine Rn.aload_n dX4_widenInMind_12 rfl rfl ?_
    refine Rn.getf f_X4_23 dX4_widenInMind_13 rfl ((hs_ne _ _ (by decide)).trans C.1) C.2 rfl ?_
    refine Rn.iload_n dX4_widenInMind_16 rfl rfl ?_
    refine Rn.callV (as := [_]) v_X0_setWindow l_X4_138 ⟨Nat.le_of_ble_eq_true rfl, Nat.le_of_ble_eq_true rfl⟩ dX4_widenInMind_17 rfl rfl (Nat.le_of_ble_eq_true rfl) ((hs_ne _ _ (by decide)).trans G.1) G.2.2.1 rfl (Nat.le_refl _) (Nat.le_refl _) (t_X0_setWindow (G.put _) ?_) 
    refine Rn.heap (hp_hp _ _ _ _) ?_
    refine Rn.iload_n dX4_widenInMind_20 rfl rfl ?_
    refine Rn.zret dX4_widenInMind_21 rfl (bi_01 _) rfl rfl ?_
    first | exact rn_fin k rfl (by rw [c9]; rfl)
theorem t_X4_isTakenOnDay {h : rHp} {Q : Option Value → rHp → Prop} {p pt : Nat → Nat} {d : Int64} (C : Cx h d) (H : Hl h 3 p) (G : Hl h 5 pt) {p1 : Nat → Nat} (O1 : OKp p1) {w : Nat} (hw : w < 2147483648) (k : Q (some (.int (bi (dyB p1 w)))) (hp h 5 (dyP p1 w))) : Cl M_X4_isTakenOnDay h.1 h.2.1 [.ref 0, .int (nI w)] (hp h 5 p1) Q := by
  refine Cl.of pl_X4 (Nat.le_of_ble_eq_true rfl) (by first | exact Nat.le_refl _ | omega) (by first | exact Nat.le_refl _ | omega) ?_
  refine Rn.iload_n dX4_isTakenOnDay_0 rfl rfl ?_
  refine Rn.iconst dX4_isTakenOnDay_1 rfl ic_4 ?_
  refine Rn.iremN dX4_isTakenOnDay_2 rfl (by omega) (by omega) (by omega) ?_
  refine Rn.istore_n dX4_isTakenOnDay_3 rfl (Nat.le_of_ble_eq_true rfl) ?_
  refine Rn.aload_n dX4_isTakenOnDay_4 rfl rfl ?_
  refine Rn.getf f_X4_23 dX4_isTakenOnDay_5 rfl ((hs_ne _ _ (by decide)).trans C.1) C.2 rfl ?_
  refine Rn.iload_n dX4_isTakenOnDay_8 rfl rfl ?_
  refine Rn.callV (as := [_]) v_X0_hasOwn l_X4_104 ⟨Nat.le_of_ble_eq_true rfl, Nat.le_of_ble_eq_true rfl⟩ dX4_isTakenOnDay_9 rfl rfl (Nat.le_of_ble_eq_true rfl) ((hs_ne _ _ (by decide)).trans G.1) G.2.2.1 rfl (Nat.le_refl _) (Nat.le_refl _) (t_X0_hasOwn (G.put _) O1 ?_) 
  refine Rn.top (congrArg bi (ownB_nI (by omega))) ?_
  refine Rn.if_neB (tgt := 17) dX4_isTakenOnDay_12 rfl (by decide) (fun c12 => ?_) (fun c12 => ?_)
  · refine Rn.iload_n dX4_isTakenOnDay_17 rfl rfl ?_
    refine Rn.iconst dX4_isTakenOnDay_18 rfl ic_4 ?_
    refine Rn.idivN dX4_isTakenOnDay_19 rfl (by omega) (by omega) (by omega) ?_
    refine Rn.iconst dX4_isTakenOnDay_20 rfl ic_4 ?_
    refine Rn.iremN dX4_isTakenOnDay_21 rfl (by omega) (by omega) (by omega) ?_
    refine Rn.if_neN (tgt := 36) dX4_isTakenOnDay_22 rfl (by decide) (by omega) (fun c22 => ?_) (fun c22 => ?_)
    · refine Rn.aload_n dX4_isTakenOnDay_36 rfl rfl ?_
      refine Rn.getf f_X4_23 dX4_isTakenOnDay_37 rfl ((hs_ne _ _ (by decide)).trans C.1) C.2 rfl ?_
      refine Rn.iload_n dX4_isTakenOnDay_40 rfl rfl ?_
      refine Rn.callV (as := [_]) v_X0_sendPass l_X4_110 ⟨Nat.le_of_ble_eq_true rfl, Nat.le_of_ble_eq_true rfl⟩ dX4_isTakenOnDay_41 rfl rfl (Nat.le_of_ble_eq_true rfl) ((hs_ne _ _ (by decide)).trans G.1) G.2.2.1 rfl (Nat.le_refl _) (Nat.le_refl _) (t_X0_sendPass (G.put _) O1 (by omega) ?_) 
      refine Rn.heap (hp_hp _ _ _ _) ?_
      have hk30 : seK p1 (w % 4) ≤ 30 := seK_le O1 (by omega)
      refine Rn.if_leN (tgt := 51) dX4_isTakenOnDay_44 rfl (by decide) (by omega) (fun c44 => ?_) (fun c44 => ?_)
      · refine Rn.iconst dX4_isTakenOnDay_51 rfl ic_0 ?_
        refine Rn.zret dX4_isTakenOnDay_52 rfl (by decide) rfl rfl ?_
        first | exact rn_fin k (some_int (by unfold dyB; rw [c12]; exact bi_f.symm)) (by unfold dyP; rw [c12]; rfl) | exact rn_fin k (some_int (by unfold dyB; rw [c22, Bool.and_comm]; exact bi_f.symm)) (by unfold dyP; rw [c12, if_pos rfl, if_pos c22]) | exact rn_fin k (some_int (by unfold dyB; rw [c12, decide_eq_false c22, c44]; exact bi_f.symm)) (by unfold dyP; rw [c12, if_pos rfl, if_neg c22]) | exact rn_fin k (some_int (by unfold dyB; rw [c12, decide_eq_false c22, decide_eq_true (show 0 < seK p1 (w % 4) by omega)]; exact bi_t.symm)) (by unfold dyP; rw [c12, if_pos rfl, if_neg c22])
      · refine Rn.iconst dX4_isTakenOnDay_47 rfl ic_1 ?_
        refine Rn.goto (tgt := 52) dX4_isTakenOnDay_48 (by decide) ?_
        refine Rn.zret dX4_isTakenOnDay_52 rfl (by decide) rfl rfl ?_
        first | exact rn_fin k (some_int (by unfold dyB; rw [c12]; exact bi_f.symm)) (by unfold dyP; rw [c12]; rfl) | exact rn_fin k (some_int (by unfold dyB; rw [c22, Bool.and_comm]; exact bi_f.symm)) (by unfold dyP; rw [c12, if_pos rfl, if_pos c22]) | exact rn_fin k (some_int (by unfold dyB; rw [c12, decide_eq_false c22, c44]; exact bi_f.symm)) (by unfold dyP; rw [c12, if_pos rfl, if_neg c22]) | exact rn_fin k (some_int (by unfold dyB; rw [c12, decide_eq_false c22, decide_eq_true (show 0 < seK p1 (w % 4) by omega)]; exact bi_t.symm)) (by unfold dyP; rw [c12, if_pos rfl, if_neg c22])
    · refine Rn.aload_n dX4_isTakenOnDay_25 rfl rfl ?_
      refine Rn.getf f_X4_23 dX4_isTakenOnDay_26 rfl ((hs_ne _ _ (by decide)).trans C.1) C.2 rfl ?_
      refine Rn.iload_n dX4_isTakenOnDay_29 rfl rfl ?_
      refine Rn.callV (as := [_]) v_X0_spendPass l_X4_113 ⟨Nat.le_of_ble_eq_true rfl, Nat.le_of_ble_eq_true rfl⟩ dX4_isTakenOnDay_30 rfl rfl (Nat.le_of_ble_eq_true rfl) ((hs_ne _ _ (by decide)).trans G.1) G.2.2.1 rfl (Nat.le_refl _) (Nat.le_refl _) (t_X0_spendPass (G.put _) O1 (by omega) ?_) 
      refine Rn.heap (hp_hp _ _ _ _) ?_
      refine Rn.pop dX4_isTakenOnDay_33 rfl rfl ?_
      refine Rn.iconst dX4_isTakenOnDay_34 rfl ic_0 ?_
      refine Rn.zret dX4_isTakenOnDay_35 rfl (by decide) rfl rfl ?_
      first | exact rn_fin k (some_int (by unfold dyB; rw [c12]; exact bi_f.symm)) (by unfold dyP; rw [c12]; rfl) | exact rn_fin k (some_int (by unfold dyB; rw [c22, Bool.and_comm]; exact bi_f.symm)) (by unfold dyP; rw [c12, if_pos rfl, if_pos c22]) | exact rn_fin k (some_int (by unfold dyB; rw [c12, decide_eq_false c22, c44]; exact bi_f.symm)) (by unfold dyP; rw [c12, if_pos rfl, if_neg c22]) | exact rn_fin k (some_int (by unfold dyB; rw [c12, decide_eq_false c22, decide_eq_true (show 0 < seK p1 (w % 4) by omega)]; exact bi_t.symm)) (by unfold dyP; rw [c12, if_pos rfl, if_neg c22])
  · refine Rn.iconst dX4_isTakenOnDay_15 rfl ic_0 ?_
    refine Rn.zret dX4_isTakenOnDay_16 rfl (by decide) rfl rfl ?_
    first | exact rn_fin k (some_int (by unfold dyB; rw [c12]; exact bi_f.symm)) (by unfold dyP; rw [c12]; rfl) | exact rn_fin k (some_int (by unfold dyB; rw [c22, Bool.and_comm]; exact bi_f.symm)) (by unfold dyP; rw [c12, if_pos rfl, if_pos c22]) | exact rn_fin k (some_int (by unfold dyB; rw [c12, decide_eq_false c22, c44]; exact bi_f.symm)) (by unfold dyP; rw [c12, if_pos rfl, if_neg c22]) | exact rn_fin k (some_int (by unfold dyB; rw [c12, decide_eq_false c22, decide_eq_true (show 0 < seK p1 (w % 4) by omega)]; exact bi_t.symm)) (by unfold dyP; rw [c12, if_pos rfl, if_neg c22])
theorem t_X4_weightInStep {h : rHp} {Q : Option Value → rHp → Prop} {p pt : Nat → Nat} {d : Int64} (C : Cx h d) (H : Hl h 3 p) (G : Hl h 5 pt) {p1 : Nat → Nat} (O : OKp p) {u r x lost : Nat} (hu : u < 4) (hr : r ≤ 6) (hx : x ≤ 10) (hl : lost < 64) (k : ∀ pt', Q (some (.long (lN (wtL u x lost r 0 p 1)))) (hp h 5 pt')) : Cl M_X4_weightInStep h.1 h.2.1 [.ref 0, .int (nI u), .int (nI r), .int (nI x), .int (nI lost)] (hp h 5 p1) Q := by
  refine Cl.of pl_X4 (Nat.le_of_ble_eq_true rfl) (by first | exact Nat.le_refl _ | omega) (by first | exact Nat.le_refl _ | omega) ?_
  refine Rn.aload_n dX4_weightInStep_0 rfl rfl ?_
  refine Rn.getf f_X4_23 dX4_weightInStep_1 rfl ((hs_ne _ _ (by decide)).trans C.1) C.2 rfl ?_
  refine Rn.aload_n dX4_weightInStep_4 rfl rfl ?_
  refine Rn.getf f_X4_19 dX4_weightInStep_5 rfl ((hs_ne _ _ (by decide)).trans C.1) C.2 rfl ?_
  refine Rn.callV (as := [_]) v_X0_copyFrom l_X4_56 ⟨Nat.le_of_ble_eq_true rfl, Nat.le_of_ble_eq_true rfl⟩ dX4_weightInStep_8 rfl rfl (Nat.le_of_ble_eq_true rfl) ((hs_ne _ _ (by decide)).trans G.1) G.2.2.1 rfl (Nat.le_refl _) (Nat.le_refl _) (t_X0_copyFrom (G.put _) (H.other (by decide) (by decide)) ?_) 
  refine Rn.heap (hp_hp _ _ _ _) ?_
  refine Rn.lconst dX4_weightInStep_11 rfl lc_1 ?_
  refine Rn.lstore dX4_weightInStep_12 rfl (Nat.le_of_ble_eq_true rfl) ?_
  refine Rn.iconst dX4_weightInStep_14 rfl ic_0 ?_
  refine Rn.istore dX4_weightInStep_15 rfl (Nat.le_of_ble_eq_true rfl) ?_
  have hloop : ∀ (m : Nat) (n i : Nat) (pp : Nat → Nat) (ww : Nat), n < m → i + n = r → OKp pp → wtL u x lost n i pp ww = wtL u x lost r 0 p 1 → Rn (M_X4_weightInStep, none, h.1, h.2.1) Q 17 [(0, .ref 0), (1, .int (nI u)), (2, .int (nI r)), (3, .int (nI x)), (4, .int (nI lost)), (5, .long (lN ww)), (7, .int (nI i))] [] (hp h 5 pp) := by
    intro m
    induction m with
    | zero => intro n i pp ww h0 h1 h2 h3; exact absurd h0 (Nat.not_lt_zero _)
    | succ m ih =>
      intro n i pp ww h0 h1 h2 h3
      have hdl : lost / 2 ^ i ≤ lost := Nat.div_le_self _ _
      refine Rn.iload dX4_weightInStep_17 rfl rfl ?_
      refine Rn.iload_n dX4_weightInStep_19 rfl rfl ?_
      refine Rn.icmp_geN (tgt := 78) dX4_weightInStep_20 rfl (by decide) (by omega) (by omega) (fun c20 => ?_) (fun c20 => ?_)
      · obtain rfl : n = 0 := by omega
        refine Rn.aload_n dX4_weightInStep_78 rfl rfl ?_
        refine Rn.getf f_X4_23 dX4_weightInStep_79 rfl ((hs_ne _ _ (by decide)).trans C.1) C.2 rfl ?_
        refine Rn.iload_n dX4_weightInStep_82 rfl rfl ?_
        refine Rn.callV (as := [_]) v_X0_isInStep l_X4_74 ⟨Nat.le_of_ble_eq_true rfl, Nat.le_of_ble_eq_true rfl⟩ dX4_weightInStep_83 rfl rfl (Nat.le_of_ble_eq_true rfl) ((hs_ne _ _ (by decide)).trans G.1) G.2.2.1 rfl (Nat.le_refl _) (Nat.le_refl _) (t_X0_isInStep (G.put _) h2 (by omega) ?_) 
        refine Rn.if_eqB (tgt := 94) dX4_weightInStep_86 rfl (by decide) (fun c86 => ?_) (fun c86 => ?_)
        · refine Rn.lconst dX4_weightInStep_94 rfl lc_0 ?_
          refine Rn.lret dX4_weightInStep_95 rfl rfl rfl ?_
          first | exact rn_fin (k pp) (by rw [← h3]; unfold wtL; rw [c86]; rfl) rfl
        · refine Rn.lload dX4_weightInStep_89 rfl rfl ?_
          refine Rn.goto (tgt := 95) dX4_weightInStep_91 (by decide) ?_
          refine Rn.lret dX4_weightInStep_95 rfl rfl rfl ?_
          first | exact rn_fin (k pp) (by rw [← h3]; unfold wtL; rw [c86]; rfl) rfl
      · obtain ⟨n, rfl⟩ : ∃ n', n = n' + 1 := ⟨n - 1, by omega⟩
        refine Rn.iload dX4_weightInStep_23 rfl rfl ?_
        refine Rn.iload dX4_weightInStep_25 rfl rfl ?_
        refine Rn.ishr dX4_weightInStep_27 rfl ?_
        refine Rn.top (shr_N (by omega) (by omega)) ?_
        refine Rn.iconst dX4_weightInStep_28 rfl ic_1 ?_
        refine Rn.iand dX4_weightInStep_29 rfl ?_
        refine Rn.top (and_1 (by omega)) ?_
        refine Rn.iconst dX4_weightInStep_30 rfl ic_1 ?_
        refine Rn.icmp_neN (tgt := 53) dX4_weightInStep_31 rfl (by decide) (by omega) (by omega) (fun c31 => ?_) (fun c31 => ?_)
        · refine Rn.aload_n dX4_weightInStep_53 rfl rfl ?_
          refine Rn.getf f_X4_23 dX4_weightInStep_54 rfl ((hs_ne _ _ (by decide)).trans C.1) C.2 rfl ?_
          refine Rn.iload_n dX4_weightInStep_57 rfl rfl ?_
          refine Rn.callV (as := [_]) v_X0_sendPass l_X4_110 ⟨Nat.le_of_ble_eq_true rfl, Nat.le_of_ble_eq_true rfl⟩ dX4_weightInStep_58 rfl rfl (Nat.le_of_ble_eq_true rfl) ((hs_ne _ _ (by decide)).trans G.1) G.2.2.1 rfl (Nat.le_refl _) (Nat.le_refl _) (t_X0_sendPass (G.put _) h2 (by omega) ?_) 
          refine Rn.heap (hp_hp _ _ _ _) ?_
          refine Rn.pop dX4_weightInStep_61 rfl rfl ?_
          refine Rn.lload dX4_weightInStep_62 rfl rfl ?_
          refine Rn.bipush dX4_weightInStep_64 rfl bp_10 ?_
          refine Rn.iload_n dX4_weightInStep_66 rfl rfl ?_
          refine Rn.isubN dX4_weightInStep_67 rfl (by omega) ?_
          refine Rn.i2lN dX4_weightInStep_68 rfl (by omega) ?_
          refine Rn.lmulN dX4_weightInStep_69 rfl ?_
          refine Rn.lstore dX4_weightInStep_70 rfl (Nat.le_of_ble_eq_true rfl) ?_
          refine Rn.iincN dX4_weightInStep_72 rfl rfl (Nat.le_of_ble_eq_true rfl) ?_
          refine Rn.goto (tgt := 17) dX4_weightInStep_75 (by decide) ?_
          exact Rn.pick [2, 3, 4, 5, 6, 1, 0] rfl (ih n (i + 1) _ _ (by omega) (by omega) (OK_se h2 hu) (by rw [← h3]; exact (if_neg c31).symm))
        · refine Rn.aload_n dX4_weightInStep_34 rfl rfl ?_
          refine Rn.getf f_X4_23 dX4_weightInStep_35 rfl ((hs_ne _ _ (by decide)).trans C.1) C.2 rfl ?_
          refine Rn.iload_n dX4_weightInStep_38 rfl rfl ?_
          refine Rn.callV (as := [_]) v_X0_spendPass l_X4_113 ⟨Nat.le_of_ble_eq_true rfl, Nat.le_of_ble_eq_true rfl⟩ dX4_weightInStep_39 rfl rfl (Nat.le_of_ble_eq_true rfl) ((hs_ne _ _ (by decide)).trans G.1) G.2.2.1 rfl (Nat.le_refl _) (Nat.le_refl _) (t_X0_spendPass (G.put _) h2 (by omega) ?_) 
          refine Rn.heap (hp_hp _ _ _ _) ?_
          refine Rn.pop dX4_weightInStep_42 rfl rfl ?_
          refine Rn.lload dX4_weightInStep_43 rfl rfl ?_
          refine Rn.iload_n dX4_weightInStep_45 rfl rfl ?_
          refine Rn.i2lN dX4_weightInStep_46 rfl (by omega) ?_
          refine Rn.lmulN dX4_weightInStep_47 rfl ?_
          refine Rn.lstore dX4_weightInStep_48 rfl (Nat.le_of_ble_eq_true rfl) ?_
          refine Rn.goto (tgt := 72) dX4_weightInStep_50 (by decide) ?_
          refine Rn.iincN dX4_weightInStep_72 rfl rfl (Nat.le_of_ble_eq_true rfl) ?_
          refine Rn.goto (tgt := 17) dX4_weightInStep_75 (by decide) ?_
          exact Rn.pick [2, 3, 4, 5, 6, 1, 0] rfl (ih n (i + 1) _ _ (by omega) (by omega) (OK_sp h2 hu) (by rw [← h3]; exact (if_pos c31).symm))
  exact Rn.pick [2, 3, 4, 5, 6, 1, 0] rfl (hloop (r + 1) r 0 p 1 (by omega) (by omega) O rfl)
theorem t_X4_loss {h : rHp} {Q : Option Value → rHp → Prop} {t : Nat → Nat} {ln : Nat} {p : Nat → Nat} {U : Nat → Nat → Nat} {a : Nat} {Kp : Nat → Nat → Nat} {ik : Nat → Bool} {su sp sn : Nat → Nat} {sz : Nat} {d : Int64} (I : CI h t ln p U a Kp ik su sp sn sz d) (O : OKs t ln p U a Kp ik su sp sn sz) {x y z : Int32} {up : Bool} (k : ∀ h', CI h' t ln p U a Kp ik su sp sn sz d → Fr h h' → Q (some (.int (loI p x y z up))) h') : Cl M_X4_loss h.1 h.2.1 [.ref 0, .int x, .int y, .int z, .int (bi up)] h Q := by
  obtain ⟨pl, pt, B, KP, IK, n, C, T, H, G, S, E, RBh, RKh⟩ := id I
  obtain ⟨Ot, Oln, Op, OU, OK2, Osz, Osu, Osp, Osn⟩ := id O
  refine Cl.of pl_X4 (Nat.le_of_ble_eq_true rfl) (by first | exact Nat.le_refl _ | omega) (by first | exact Nat.le_refl _ | omega) ?_
  refine Rn.aload_n dX4_loss_0 rfl rfl ?_
  refine Rn.getf f_X4_19 dX4_loss_1 rfl C.1 C.2 rfl ?_
  refine Rn.iload_n dX4_loss_4 rfl rfl ?_
  refine Rn.callV (as := [_]) v_X0_has l_X4_67 ⟨Nat.le_of_ble_eq_true rfl, Nat.le_of_ble_eq_true rfl⟩ dX4_loss_5 rfl rfl (Nat.le_of_ble_eq_true rfl) H.1 H.2.2.1 rfl (Nat.le_refl _) (Nat.le_refl _) (t_X0_has H Op.1 ?_) 
  refine Rn.if_neB (tgt := 13) dX4_loss_8 rfl (by decide) (fun c8 => ?_) (fun c8 => ?_)
  · obtain ⟨u, hu, rfl⟩ := hasB_of c8
    have hu4 : u < 4 := by have := Op.1; omega
    refine Rn.iload_n dX4_loss_13 rfl rfl ?_
    refine Rn.iconst dX4_loss_14 rfl ic_0 ?_
    refine Rn.bipush dX4_loss_15 rfl bp_6 ?_
    refine Rn.callS (as := [_, _, _]) s_X4_isWithin l_X4_96 ⟨Nat.le_of_ble_eq_true rfl, Nat.le_of_ble_eq_true rfl⟩ dX4_loss_17 rfl rfl (Nat.le_of_ble_eq_true rfl) (Nat.le_refl _) (Nat.le_refl _) (t_X4_isWithin ?_)
    refine Rn.if_eqB (tgt := 33) dX4_loss_20 rfl (by decide) (fun c20 => ?_) (fun c20 => ?_)
    · refine Rn.bipush dX4_loss_33 rfl bp_m2 ?_
      refine Rn.iret dX4_loss_35 rfl rfl rfl ?_
      first | exact rn_fin (k h I (Fr.rf h)) (some_int (by unfold loI; rw [c8, c20]; rfl)) rfl | exact rn_fin (k h I (Fr.rf h)) (some_int (by unfold loI; rw [c8, c30, Bool.and_false]; rfl)) rfl
    · refine Rn.iload_n dX4_loss_23 rfl rfl ?_
      refine Rn.iconst dX4_loss_24 rfl ic_0 ?_
      refine Rn.bipush dX4_loss_25 rfl bp_10 ?_
      refine Rn.callS (as := [_, _, _]) s_X4_isWithin l_X4_96 ⟨Nat.le_of_ble_eq_true rfl, Nat.le_of_ble_eq_true rfl⟩ dX4_loss_27 rfl rfl (Nat.le_of_ble_eq_true rfl) (Nat.le_refl _) (Nat.le_refl _) (t_X4_isWithin ?_)
      refine Rn.if_neB (tgt := 36) dX4_loss_30 rfl (by decide) (fun c30 => ?_) (fun c30 => ?_)
      · obtain ⟨y1, hy1, rfl⟩ := isW_of c20 (by omega)
        obtain ⟨y2, hy2, rfl⟩ := isW_of c30 (by omega)
        refine Rn.iload_n dX4_loss_36 rfl rfl ?_
        refine Rn.aload_n dX4_loss_37 rfl rfl ?_
        refine Rn.getf f_X4_19 dX4_loss_38 rfl C.1 C.2 rfl ?_
        refine Rn.iload_n dX4_loss_41 rfl rfl ?_
        refine Rn.iconst dX4_loss_42 rfl ic_3 ?_
        refine Rn.callV (as := [_, _]) v_X0_of l_X4_70 ⟨Nat.le_of_ble_eq_true rfl, Nat.le_of_ble_eq_true rfl⟩ dX4_loss_43 rfl rfl (Nat.le_of_ble_eq_true rfl) H.1 H.2.2.1 rfl (Nat.le_refl _) (Nat.le_refl _) (t_X0_of H hu4 (by omega) ?_) 
        have hown := (Op.us hu4).2.2.2.1
        refine Rn.icmp_leN (tgt := 52) dX4_loss_46 rfl (by decide) (by omega) (by omega) (fun c46 => ?_) (fun c46 => ?_)
        · refine Rn.lconst dX4_loss_52 rfl lc_0 ?_
          refine Rn.lstore dX4_loss_53 rfl (Nat.le_of_ble_eq_true rfl) ?_
          refine Rn.iconst dX4_loss_55 rfl ic_0 ?_
          refine Rn.istore dX4_loss_56 rfl (Nat.le_of_ble_eq_true rfl) ?_
          have hloop : ∀ (m : Nat) (i : Nat) (pp : Nat → Nat), 2 ^ y1 - i < m → i ≤ 2 ^ y1 → Rn (M_X4_loss, none, h.1, h.2.1) Q 58 [(0, .ref 0), (1, .int (nI u)), (2, .int (nI y1)), (3, .int (nI y2)), (4, .int (bi up)), (5, .long (lN (lsS p u y1 y2 i))), (7, .int (nI i))] [] (hp h 5 pp) := by
            intro m
            induction m with
            | zero => intro i pp h0 h1; exact absurd h0 (Nat.not_lt_zero _)
            | succ m ih =>
              intro i pp h0 h1
              have hp2 := pow_le2 hy1
              refine Rn.iload dX4_loss_58 rfl rfl ?_
              refine Rn.iconst dX4_loss_60 rfl ic_1 ?_
              refine Rn.iload_n dX4_loss_61 rfl rfl ?_
              refine Rn.ishl dX4_loss_62 rfl ?_
              refine Rn.top (shl_N (by omega)) ?_
              refine Rn.icmp_geN (tgt := 86) dX4_loss_63 rfl (by decide) (by omega) (by omega) (fun c63 => ?_) (fun c63 => ?_)
              · refine Rn.lload dX4_loss_86 rfl rfl ?_
                refine Rn.bipush dX4_loss_88 rfl bp_10 ?_
                refine Rn.iload_n dX4_loss_90 rfl rfl ?_
                refine Rn.callS (as := [_, _]) s_X4_power l_X4_194 ⟨Nat.le_of_ble_eq_true rfl, Nat.le_of_ble_eq_true rfl⟩ dX4_loss_91 rfl rfl (Nat.le_of_ble_eq_true rfl) (Nat.le_refl _) (Nat.le_refl _) (t_X4_power (by omega) (by omega) ?_)
                have hp10 := pow_le10 hy1
                have hls := lsS_le (p := p) (u := u) (r := y1) hy2 i
                have hls2 : i * 10 ^ y1 ≤ 64 * 1000000 := Nat.mul_le_mul (by omega) hp10
                refine Rn.iload dX4_loss_94 rfl rfl ?_
                refine Rn.callS (as := [_, _, _]) s_X4_toldFraction l_X4_190 ⟨Nat.le_of_ble_eq_true rfl, Nat.le_of_ble_eq_true rfl⟩ dX4_loss_96 rfl rfl (Nat.le_of_ble_eq_true rfl) (Nat.le_refl _) (Nat.le_refl _) (t_X4_toldFraction (by omega) (Nat.pow_pos (by omega)) (by omega) ?_)
                refine Rn.iret dX4_loss_99 rfl rfl rfl ?_
                obtain rfl : i = 2 ^ y1 := by omega
                exact rn_fin (k _ ⟨pl, pp, B, KP, IK, n, C.other (by decide), T.other (by decide) (by decide), H.other (by decide) (by decide), G.put _, S.other (by decide), E.other (by decide), RBh, RKh⟩ ((Fr.rf h).hs _ (by decide))) (some_int (by unfold loI frN; rw [c8, c20, c30, xn_nI (by omega), xn_nI (by omega), xn_nI (by omega)]; exact (if_neg (show ¬ p (6 * u + 3) < y1 by omega)).symm)) rfl
              · refine Rn.lload dX4_loss_66 rfl rfl ?_
                refine Rn.aload_n dX4_loss_68 rfl rfl ?_
                refine Rn.iload_n dX4_loss_69 rfl rfl ?_
                refine Rn.iload_n dX4_loss_70 rfl rfl ?_
                refine Rn.iload_n dX4_loss_71 rfl rfl ?_
                refine Rn.iload dX4_loss_72 rfl rfl ?_
                refine Rn.callV (as := [_, _, _, _]) v_X4_weightInStep l_X4_198 ⟨Nat.le_of_ble_eq_true rfl, Nat.le_of_ble_eq_true rfl⟩ dX4_loss_74 rfl rfl (Nat.le_of_ble_eq_true rfl) ((hs_ne _ _ (by decide)).trans C.1) C.2 rfl (Nat.le_refl _) (Nat.le_refl _) (t_X4_weightInStep C H G Op hu4 hy1 hy2 (by omega) (fun pt' => ?_)) 
                · refine Rn.laddN dX4_loss_77 rfl ?_
                  refine Rn.lstore dX4_loss_78 rfl (Nat.le_of_ble_eq_true rfl) ?_
                  refine Rn.iincN dX4_loss_80 rfl rfl (Nat.le_of_ble_eq_true rfl) ?_
                  refine Rn.goto (tgt := 58) dX4_loss_83 (by decide) ?_
                  exact Rn.pick [2, 3, 4, 5, 6, 1, 0] rfl (ih (i + 1) pt' (by omega) (by omega))
          exact Rn.pick [2, 3, 4, 5, 6, 1, 0] rfl (by have := hloop (2 ^ y1 + 1) 0 pt (Nat.lt_succ_of_le (Nat.sub_le _ _)) (Nat.zero_le _); rw [G.same] at this; exact this)
        · refine Rn.bipush dX4_loss_49 rfl bp_m3 ?_
          refine Rn.iret dX4_loss_51 rfl rfl rfl ?_
          exact rn_fin (k h I (Fr.rf h)) (some_int (by unfold loI; rw [c8, c20, c30, xn_nI (by omega), xn_nI (by omega)]; exact (if_pos (show p (6 * u + 3) < y1 by omega)).symm)) rfl
      · refine Rn.bipush dX4_loss_33 rfl bp_m2 ?_
        refine Rn.iret dX4_loss_35 rfl rfl rfl ?_
        first | exact rn_fin (k h I (Fr.rf h)) (some_int (by unfold loI; rw [c8, c20]; rfl)) rfl | exact rn_fin (k h I (Fr.rf h)) (some_int (by unfold loI; rw [c8, c30, Bool.and_false]; rfl)) rfl
  · refine Rn.iconst dX4_loss_11 rfl ic_m1 ?_
    refine Rn.iret dX4_loss_12 rfl rfl rfl ?_
    exact rn_fin (k h I (Fr.rf h)) (some_int (by unfold loI; rw [c8]; rfl)) rfl
