/-! ===== the reference's state ===== -/
def moO (th ts pl rm dg sn : Nat) (sd : Int64) : rCell := .inr (.inr (5, [.int (nI th), .ref 16, .int (nI ts), .int (nI pl), .ref 17, .ref 18, .int (nI rm), .ref 19, .ref 20, .ref 21, .int (nI dg), .ref 22, .ref 23, .int (nI sn), .ref 24, .ref 25, .ref 26, .long sd, .ref 27]))
def RM (BK : Nat → Int32) (a : Nat) (U : Nat → Nat → Nat) : Prop := a ≤ 14 ∧ ∀ j, j < a → ∀ i, i < 36 → BK (36 * j + i) = pg (U j) i
def RL2 (KM IK : Nat → Int32) (Kp : Nat → Nat → Nat) (ik : Nat → Bool) : Prop := ∀ s, s ≤ 1 → IK s = bi (ik s) ∧ (ik s = true → ∀ i, i < 36 → KM (36 * s + i) = pg (Kp s) i)
def MI (h : rHp) (t : Nat → Nat) (ln : Nat) (p : Nat → Nat) (U : Nat → Nat → Nat) (a : Nat) (Kp : Nat → Nat → Nat) (ik : Nat → Bool) (su sp sn : Nat → Nat) (sz : Nat) (d : Int64) : Prop :=
  ∃ (th pl rm : Nat) (rp ev tp : Nat → Nat) (BK KM IK FF : Nat → Int32), h.2.2 15 = moO th ln pl rm a sz d ∧ h.2.2 16 = .inl (80, na t) ∧ h.2.2 17 = .inl (36, pg rp) ∧ h.2.2 18 = .inl (80, na ev) ∧ h.2.2 19 = .inl (36, pg p) ∧ h.2.2 20 = .inl (36, pg tp) ∧ h.2.2 21 = .inl (504, BK) ∧ h.2.2 22 = .inl (72, KM) ∧ h.2.2 23 = .inr (.inl (2, IK)) ∧ h.2.2 24 = .inl (6, na su) ∧ h.2.2 25 = .inl (6, na sp) ∧ h.2.2 26 = .inl (6, na sn) ∧ h.2.2 27 = .inl (251, FF) ∧ 27 < h.1 ∧ RM BK a U ∧ RL2 KM IK Kp ik
def Fm (h h' : rHp) : Prop := h'.1 = h.1 ∧ h'.2.1 = h.2.1 ∧ ∀ i, i < 15 → h'.2.2 i = h.2.2 i
theorem Fm.rf (h : rHp) : Fm h h := ⟨rfl, rfl, fun _ _ => rfl⟩
theorem Fm.hs {h h' : rHp} (F : Fm h h') {i : Nat} (c : rCell) (hi : 15 ≤ i) : Fm h (hs h' i c) := ⟨F.1, F.2.1, fun j hj => (hs_ne h' c (by omega)).trans (F.2.2 j hj)⟩
theorem hs_d1 (h : rHp) {i j : Nat} (a b c : rCell) (hij : i ≠ j) : hs (hs (hs h i a) j b) i c = hs (hs h i c) j b := by rw [hs_comm (hs h i a) _ _ (Ne.symm hij), hs_hs]
theorem hs_d2 (h : rHp) {i j k : Nat} (a b d c : rCell) (hij : i ≠ j) (hik : i ≠ k) : hs (hs (hs (hs h i a) j b) k d) i c = hs (hs (hs h i c) j b) k d := by rw [hs_comm _ _ _ (Ne.symm hik), hs_d1 h a b c hij]
theorem hs_d3 (h : rHp) {i j k l : Nat} (a b d e c : rCell) (hij : i ≠ j) (hik : i ≠ k) (hil : i ≠ l) : hs (hs (hs (hs (hs h i a) j b) k d) l e) i c = hs (hs (hs (hs h i c) j b) k d) l e := by rw [hs_comm _ _ _ (Ne.symm hil), hs_d2 h a b d c hij hik]
/-- the first one, one more; 0: there is none -/
def ff (f : Nat → Bool) : Nat → Nat
  | 0 => 0
  | n + 1 => if ff f n = 0 then (if f n then n + 1 else 0) else ff f n
theorem ff_le (f : Nat → Bool) : ∀ n, ff f n ≤ n
  | 0 => Nat.le_refl _
  | n + 1 => by
    have := ff_le f n
    unfold ff
    split
    · split <;> omega
    · omega
theorem ff_none {f : Nat → Bool} : ∀ n, (∀ i, i < n → f i = false) → ff f n = 0
  | 0, _ => rfl
  | n + 1, h => by
    unfold ff
    rw [ff_none n (fun i hi => h i (by omega)), h n (by omega)]; rfl
theorem ff_first {f : Nat → Bool} {i : Nat} (h : ∀ j, j < i → f j = false) (hi : f i = true) : ∀ n, i < n → ff f n = i + 1
  | 0, hn => absurd hn (Nat.not_lt_zero _)
  | n + 1, hn => by
    unfold ff
    by_cases e : n = i
    · subst e
      rw [ff_none n h, if_pos rfl, hi]; rfl
    · rw [ff_first h hi n (by omega), if_neg (by omega)]
theorem ff_cong {f g : Nat → Bool} : ∀ n, (∀ i, i < n → f i = g i) → ff f n = ff g n
  | 0, _ => rfl
  | n + 1, h => by
    unfold ff
    rw [ff_cong n (fun i hi => h i (by omega)), h n (by omega)]
/-- the loop from above -/
def dn (f : Nat → Bool) : Nat → Nat → Nat
  | 0, b => b
  | n + 1, b => dn f n (if f n then n + 1 else b)
theorem dn_ff (f : Nat → Bool) : ∀ n b, dn f n b = if ff f n = 0 then b else ff f n
  | 0, b => rfl
  | n + 1, b => by
    unfold dn ff
    rw [dn_ff f n]
    by_cases h : ff f n = 0
    · rw [if_pos h, if_pos h]
      by_cases h2 : f n = true
      · rw [h2]; simp
      · rw [Bool.eq_false_iff.mpr h2]; simp
    · rw [if_neg h, if_neg h, if_neg h]
theorem lsL_ff (f : Nat → Bool) (N : Nat) : ∀ n i, i + n = N → (∀ j, j < i → f j = false) → lsL f n i = wi (ff f N)
  | 0, i, h, hf => by
    rw [ff_none N (fun j hj => hf j (by omega))]; rfl
  | n + 1, i, h, hf => by
    unfold lsL
    by_cases hi : f i = true
    · rw [if_pos hi, ff_first hf hi N (by omega), wi_s]
    · rw [if_neg hi]
      exact lsL_ff f N n (i + 1) (by omega) (fun j hj => by
        by_cases e : j = i
        · rw [e]; exact Bool.eq_false_iff.mpr hi
        · exact hf j (by omega))
def gF (p : Nat → Nat) (u i : Nat) : Bool := decide (0 < fitP p u (psP p u i))
theorem gpL_ff (p : Nat → Nat) (u : Nat) : ∀ n i, i + n = p (6 * u + 3) → (∀ j, j < i → gF p u j = false) → gpL p u n i = if ff (gF p u) (p (6 * u + 3)) = 0 then -9 else nI (p (6 * u + 3) - ff (gF p u) (p (6 * u + 3)))
  | 0, i, h, hf => by
    rw [ff_none _ (fun j hj => hf j (by omega))]; rfl
  | n + 1, i, h, hf => by
    unfold gpL
    by_cases hi : 0 < fitP p u (psP p u i)
    · rw [if_pos hi, ff_first hf (decide_eq_true hi) _ (by omega), if_neg (by omega)]
      congr 1; omega
    · rw [if_neg hi]
      exact gpL_ff p u n (i + 1) (by omega) (fun j hj => by
        by_cases e : j = i
        · rw [e]; exact decide_eq_false hi
        · exact hf j (by omega))
/-- any of them -/
def anyB (f : Nat → Bool) : Nat → Bool
  | 0 => false
  | n + 1 => anyB f n || f n
theorem anyB_l {f : Nat → Bool} {i : Nat} (h : anyB f i = true) : nI 1 = bi (anyB f (i + 1)) := by
  show nI 1 = bi (anyB f i || f i)
  rw [h, Bool.true_or, bi_t]
theorem anyB_r {f : Nat → Bool} {i : Nat} (h : f i = true) : nI 1 = bi (anyB f (i + 1)) := by
  show nI 1 = bi (anyB f i || f i)
  rw [h, Bool.or_true, bi_t]
theorem anyB_n {f : Nat → Bool} {i : Nat} (h : anyB f i = false) (h2 : f i = false) : nI 0 = bi (anyB f (i + 1)) := by
  show nI 0 = bi (anyB f i || f i)
  rw [h, h2, Bool.or_false, bi_f]
theorem anyB_cong {f g : Nat → Bool} : ∀ n, (∀ i, i < n → f i = g i) → anyB f n = anyB g n
  | 0, _ => rfl
  | n + 1, h => by
    show (anyB f n || f n) = (anyB g n || g n)
    rw [anyB_cong n (fun i hi => h i (by omega)), h n (by omega)]
theorem anyB_one {f : Nat → Bool} {u : Nat} (hf : ∀ i, i ≠ u → f i = false) : ∀ n, u < n → anyB f n = f u
  | 0, h => absurd h (Nat.not_lt_zero _)
  | n + 1, h => by
    show (anyB f n || f n) = f u
    by_cases e : n = u
    · subst e
      have : anyB f n = false := by
        have g : ∀ m, m ≤ n → anyB f m = false := by
          intro m
          induction m with
          | zero => intro _; rfl
          | succ m ih => intro hm; show (anyB f m || f m) = false; rw [ih (by omega), hf m (by omega)]; rfl
        exact g n (Nat.le_refl _)
      rw [this, Bool.false_or]
    · rw [anyB_one hf n (by omega), hf n e, Bool.or_false]
/-- does a number fit some of a set of users -/
def anS (p : Nat → Nat) (s v : Nat) : Bool := anyB (fun w => bt s w && fB p w v) (p 24)
theorem bt_pow {u w : Nat} (hu : u < 4) (hw : w < 4) : bt (2 ^ u) w = decide (w = u) := by
  rcases (show u = 0 ∨ u = 1 ∨ u = 2 ∨ u = 3 by omega) with rfl | rfl | rfl | rfl <;> rcases (show w = 0 ∨ w = 1 ∨ w = 2 ∨ w = 3 by omega) with rfl | rfl | rfl | rfl <;> decide
theorem anS_one {p : Nat → Nat} (O : OKp p) {u : Nat} (hu : u < p 24) (v : Nat) : anS p (2 ^ u) v = fB p u v := by
  have h4 := O.1
  unfold anS
  rw [anyB_cong (g := fun w => decide (w = u) && fB p w v) _ (fun w hw => by show (bt (2 ^ u) w && _) = _; rw [bt_pow (by omega) (by omega)])]
  rw [anyB_one (u := u) (fun i hi => by show (decide (i = u) && _) = false; rw [decide_eq_false hi]; rfl) _ hu]
  show (decide (u = u) && fB p u v) = fB p u v
  rw [decide_eq_true rfl, Bool.true_and]
theorem cnt_one {p : Nat → Nat} (O : OKp p) {u : Nat} (hu : u < p 24) : cnt (anS p (2 ^ u)) 251 = cnt (fB p u) 251 := cnt_cong _ (fun i _ => anS_one O hu i)
theorem bi_n (b : Bool) : bi b = nI (if b then 1 else 0) := by cases b <;> decide
theorem cnt_s (f : Nat → Bool) (n : Nat) : cnt f (n + 1) = cnt f n + if f n then 1 else 0 := rfl
/-- lsr is a least with 0 as none -/
theorem lsr_assoc (a b c : Nat) : lsr (lsr a b) c = lsr a (lsr b c) := by
  unfold lsr
  by_cases ha : a = 0
  · simp [ha]
  · by_cases hb : b = 0
    · simp [ha, hb]
    · by_cases hc : c = 0
      · simp [ha, hb, hc]
      · have h1 : min a b ≠ 0 := by omega
        have h2 : min b c ≠ 0 := by omega
        simp only [ha, hb, hc, h1, h2, if_false]
        omega
theorem lfL_acc (p : Nat → Nat) (u : Nat) : ∀ n x acc, lfL p u n x acc = lsr acc (lfL p u n x 0)
  | 0, x, acc => by show acc = lsr acc 0; rw [lsr_0r]
  | n + 1, x, acc => by
    show lfL p u n _ (if 0 < fitP p u x then lsr acc (x + 1) else acc) = lsr acc (lfL p u n _ (if 0 < fitP p u x then lsr 0 (x + 1) else 0))
    rw [lfL_acc p u n _ (if 0 < fitP p u x then lsr acc (x + 1) else acc), lfL_acc p u n _ (if 0 < fitP p u x then lsr 0 (x + 1) else 0)]
    by_cases h : 0 < fitP p u x
    · rw [if_pos h, if_pos h, lsr_0l, lsr_assoc]
    · rw [if_neg h, if_neg h, lsr_0l]
theorem t_X5_pass {h : rHp} {Q : Option Value → rHp → Prop} {t : Nat → Nat} {ln : Nat} {p : Nat → Nat} {U : Nat → Nat → Nat} {a : Nat} {Kp : Nat → Nat → Nat} {ik : Nat → Bool} {su sp sn : Nat → Nat} {sz : Nat} {d : Int64} (I : MI h t ln p U a Kp ik su sp sn sz d) (O : OKs t ln p U a Kp ik su sp sn sz) {x i : Int32} (k : ∀ h', MI h' t ln p U a Kp ik su sp sn sz d → Fm h h' → Q (some (.int (paI p x i))) h') : Cl M_X5_pass h.1 h.2.1 [.ref 15, .int x, .int i] h Q := by
  obtain ⟨th, pl, rm, rp, ev, tp, BK, KM, IK, FF, M15, M16, M17, M18, M19, M20, M21, M22, M23, M24, M25, M26, M27, ML, RMh, RKh⟩ := id I
  obtain ⟨Ot, Oln, Op, OU, OK2, Osz, Osu, Osp, Osn⟩ := id O
  refine Cl.of pl_X5 (Nat.le_of_ble_eq_true rfl) (by first | exact Nat.le_refl _ | omega) (by first | exact Nat.le_refl _ | omega) ?_
  refine Rn.aload_n dX5_pass_0 rfl rfl ?_
  refine Rn.iconst dX5_pass_1 rfl ic_0 ?_
  refine Rn.putf p_X5_51 (fun h => by cases h) dX5_pass_2 rfl M15 (Nat.lt_of_le_of_lt (Nat.le_of_ble_eq_true rfl) ML) (fun g => ⟨rfl, rfl⟩) (Nat.le_of_ble_eq_true rfl) ?_
  refine Rn.aload_n dX5_pass_5 rfl rfl ?_
  refine Rn.getf f_X5_19 dX5_pass_6 rfl (hs_eq _ _ _) (Nat.lt_of_le_of_lt (Nat.le_of_ble_eq_true rfl) ML) rfl ?_
  refine Rn.iload_n dX5_pass_9 rfl rfl ?_
  refine Rn.callS (as := [_, _]) s_X5_noUser l_X5_75 ⟨Nat.le_of_ble_eq_true rfl, Nat.le_of_ble_eq_true rfl⟩ dX5_pass_10 rfl rfl (Nat.le_of_ble_eq_true rfl) (Nat.le_refl _) (Nat.le_refl _) (t_X5_noUser ⟨((hs_ne _ _ (by decide)).trans M19), by exact (Nat.lt_of_le_of_lt (Nat.le_of_ble_eq_true rfl) ML)⟩ Op.1 ?_)
  refine Rn.if_eqB (tgt := 18) dX5_pass_13 rfl (by decide) (fun c13 => ?_) (fun c13 => ?_)
  · obtain ⟨u, hu, rfl⟩ := hasB_of (bn_f c13)
    have hu4 : u < 4 := by have := Op.1; omega
    have hus := Op.us hu4
    have c0 := bn_f c13
    refine Rn.iload_n dX5_pass_18 rfl rfl ?_
    refine Rn.i2l dX5_pass_19 rfl ?_
    refine Rn.lconst dX5_pass_20 rfl lc_0 ?_
    refine Rn.aload_n dX5_pass_21 rfl rfl ?_
    refine Rn.getf f_X5_19 dX5_pass_22 rfl (hs_eq _ _ _) (Nat.lt_of_le_of_lt (Nat.le_of_ble_eq_true rfl) ML) rfl ?_
    refine Rn.bipush dX5_pass_25 rfl bp_6 ?_
    refine Rn.iload_n dX5_pass_27 rfl rfl ?_
    refine Rn.imulN dX5_pass_28 rfl ?_
    refine Rn.iconst dX5_pass_29 rfl ic_2 ?_
    refine Rn.iaddN dX5_pass_30 rfl ?_
    refine Rn.ialdN dX5_pass_31 rfl ((hs_ne _ _ (by decide)).trans M19) (Nat.lt_of_le_of_lt (Nat.le_of_ble_eq_true rfl) ML) (by omega) (by omega) ?_
    refine Rn.top (pg_us _ (by omega) (show 2 < 6 by omega)) ?_
    refine Rn.iconst dX5_pass_32 rfl ic_1 ?_
    refine Rn.isub dX5_pass_33 rfl ?_
    refine Rn.i2l dX5_pass_34 rfl ?_
    refine Rn.callS (as := [_, _, _]) s_X5_in l_X5_57 ⟨Nat.le_of_ble_eq_true rfl, Nat.le_of_ble_eq_true rfl⟩ dX5_pass_35 rfl rfl (Nat.le_of_ble_eq_true rfl) (Nat.le_refl _) (Nat.le_refl _) (t_X5_in ?_)
    refine Rn.top (congrArg bi (inL_has (by omega))) ?_
    refine Rn.if_eqB (tgt := 53) dX5_pass_38 rfl (by decide) (fun c38 => ?_) (fun c38 => ?_)
    · refine Rn.bipush dX5_pass_53 rfl bp_m9 ?_
      refine Rn.iret dX5_pass_55 rfl rfl rfl ?_
      first | exact rn_fin (k _ ⟨_, _, _, _, _, _, _, _, _, _, (hs_eq _ _ _), ((hs_ne _ _ (by decide)).trans M16), ((hs_ne _ _ (by decide)).trans M17), ((hs_ne _ _ (by decide)).trans M18), ((hs_ne _ _ (by decide)).trans M19), ((hs_ne _ _ (by decide)).trans M20), ((hs_ne _ _ (by decide)).trans M21), ((hs_ne _ _ (by decide)).trans M22), ((hs_ne _ _ (by decide)).trans M23), ((hs_ne _ _ (by decide)).trans M24), ((hs_ne _ _ (by decide)).trans M25), ((hs_ne _ _ (by decide)).trans M26), ((hs_ne _ _ (by decide)).trans M27), ML, RMh, RKh⟩ ((Fm.rf h).hs _ (by decide))) (some_int (by unfold paI; rw [c0, xn_nI (by omega), c38, xn_nI (by omega)]; rfl)) rfl | exact rn_fin (k _ ⟨_, _, _, _, _, _, _, _, _, _, (hs_eq _ _ _), ((hs_ne _ _ (by decide)).trans M16), ((hs_ne _ _ (by decide)).trans M17), ((hs_ne _ _ (by decide)).trans M18), ((hs_ne _ _ (by decide)).trans M19), ((hs_ne _ _ (by decide)).trans M20), ((hs_ne _ _ (by decide)).trans M21), ((hs_ne _ _ (by decide)).trans M22), ((hs_ne _ _ (by decide)).trans M23), ((hs_ne _ _ (by decide)).trans M24), ((hs_ne _ _ (by decide)).trans M25), ((hs_ne _ _ (by decide)).trans M26), ((hs_ne _ _ (by decide)).trans M27), ML, RMh, RKh⟩ ((Fm.rf h).hs _ (by decide))) (some_int (by unfold paI; rw [c0, xn_nI (by omega), c38]; rfl)) rfl
    · obtain ⟨j, hj, rfl⟩ := hasB_of c38
      refine Rn.aload_n dX5_pass_41 rfl rfl ?_
      refine Rn.getf f_X5_19 dX5_pass_42 rfl (hs_eq _ _ _) (Nat.lt_of_le_of_lt (Nat.le_of_ble_eq_true rfl) ML) rfl ?_
      refine Rn.iload_n dX5_pass_45 rfl rfl ?_
      refine Rn.iload_n dX5_pass_46 rfl rfl ?_
      refine Rn.callS (as := [_, _, _]) s_X5_passOf l_X5_69 ⟨Nat.le_of_ble_eq_true rfl, Nat.le_of_ble_eq_true rfl⟩ dX5_pass_47 rfl rfl (Nat.le_of_ble_eq_true rfl) (Nat.le_refl _) (Nat.le_refl _) (t_X5_passOf ⟨((hs_ne _ _ (by decide)).trans M19), by exact (Nat.lt_of_le_of_lt (Nat.le_of_ble_eq_true rfl) ML)⟩ Op hu4 (by omega) ?_)
      refine Rn.goto (tgt := 55) dX5_pass_50 (by decide) ?_
      refine Rn.iret dX5_pass_55 rfl rfl rfl ?_
      first | exact rn_fin (k _ ⟨_, _, _, _, _, _, _, _, _, _, (hs_eq _ _ _), ((hs_ne _ _ (by decide)).trans M16), ((hs_ne _ _ (by decide)).trans M17), ((hs_ne _ _ (by decide)).trans M18), ((hs_ne _ _ (by decide)).trans M19), ((hs_ne _ _ (by decide)).trans M20), ((hs_ne _ _ (by decide)).trans M21), ((hs_ne _ _ (by decide)).trans M22), ((hs_ne _ _ (by decide)).trans M23), ((hs_ne _ _ (by decide)).trans M24), ((hs_ne _ _ (by decide)).trans M25), ((hs_ne _ _ (by decide)).trans M26), ((hs_ne _ _ (by decide)).trans M27), ML, RMh, RKh⟩ ((Fm.rf h).hs _ (by decide))) (some_int (by unfold paI; rw [c0, xn_nI (by omega), c38, xn_nI (by omega)]; rfl)) rfl | exact rn_fin (k _ ⟨_, _, _, _, _, _, _, _, _, _, (hs_eq _ _ _), ((hs_ne _ _ (by decide)).trans M16), ((hs_ne _ _ (by decide)).trans M17), ((hs_ne _ _ (by decide)).trans M18), ((hs_ne _ _ (by decide)).trans M19), ((hs_ne _ _ (by decide)).trans M20), ((hs_ne _ _ (by decide)).trans M21), ((hs_ne _ _ (by decide)).trans M22), ((hs_ne _ _ (by decide)).trans M23), ((hs_ne _ _ (by decide)).trans M24), ((hs_ne _ _ (by decide)).trans M25), ((hs_ne _ _ (by decide)).trans M26), ((hs_ne _ _ (by decide)).trans M27), ML, RMh, RKh⟩ ((Fm.rf h).hs _ (by decide))) (some_int (by unfold paI; rw [c0, xn_nI (by omega), c38]; rfl)) rfl
  · refine Rn.iconst dX5_pass_16 rfl ic_m1 ?_
    refine Rn.iret dX5_pass_17 rfl rfl rfl ?_
    exact rn_fin (k _ ⟨_, _, _, _, _, _, _, _, _, _, (hs_eq _ _ _), ((hs_ne _ _ (by decide)).trans M16), ((hs_ne _ _ (by decide)).trans M17), ((hs_ne _ _ (by decide)).trans M18), ((hs_ne _ _ (by decide)).trans M19), ((hs_ne _ _ (by decide)).trans M20), ((hs_ne _ _ (by decide)).trans M21), ((hs_ne _ _ (by decide)).trans M22), ((hs_ne _ _ (by decide)).trans M23), ((hs_ne _ _ (by decide)).trans M24), ((hs_ne _ _ (by decide)).trans M25), ((hs_ne _ _ (by decide)).trans M26), ((hs_ne _ _ (by decide)).trans M27), ML, RMh, RKh⟩ ((Fm.rf h).hs _ (by decide))) (some_int (by unfold paI; rw [bn_t c13]; rfl)) rfl
theorem t_X5_behind {h : rHp} {Q : Option Value → rHp → Prop} {t : Nat → Nat} {ln : Nat} {p : Nat → Nat} {U : Nat → Nat → Nat} {a : Nat} {Kp : Nat → Nat → Nat} {ik : Nat → Bool} {su sp sn : Nat → Nat} {sz : Nat} {d : Int64} (I : MI h t ln p U a Kp ik su sp sn sz d) (O : OKs t ln p U a Kp ik su sp sn sz) {v s kk : Int32} (k : ∀ h', MI h' t ln p U a Kp ik su sp sn sz d → Fm h h' → Q (some (.int (beI v s kk))) h') : Cl M_X5_behind h.1 h.2.1 [.ref 15, .int v, .int s, .int kk] h Q := by
  obtain ⟨th, pl, rm, rp, ev, tp, BK, KM, IK, FF, M15, M16, M17, M18, M19, M20, M21, M22, M23, M24, M25, M26, M27, ML, RMh, RKh⟩ := id I
  obtain ⟨Ot, Oln, Op, OU, OK2, Osz, Osu, Osp, Osn⟩ := id O
  refine Cl.of pl_X5 (Nat.le_of_ble_eq_true rfl) (by first | exact Nat.le_refl _ | omega) (by first | exact Nat.le_refl _ | omega) ?_
  refine Rn.aload_n dX5_behind_0 rfl rfl ?_
  refine Rn.iconst dX5_behind_1 rfl ic_0 ?_
  refine Rn.putf p_X5_51 (fun h => by cases h) dX5_behind_2 rfl M15 (Nat.lt_of_le_of_lt (Nat.le_of_ble_eq_true rfl) ML) (fun g => ⟨rfl, rfl⟩) (Nat.le_of_ble_eq_true rfl) ?_
  refine Rn.iload_n dX5_behind_5 rfl rfl ?_
  refine Rn.callS (as := [_]) s_X5_isNumber l_X5_139 ⟨Nat.le_of_ble_eq_true rfl, Nat.le_of_ble_eq_true rfl⟩ dX5_behind_6 rfl rfl (Nat.le_of_ble_eq_true rfl) (Nat.le_refl _) (Nat.le_refl _) (t_X5_isNumber ?_)
  refine Rn.if_eqB (tgt := 40) dX5_behind_9 rfl (by decide) (fun c9 => ?_) (fun c9 => ?_)
  · refine Rn.bipush dX5_behind_40 rfl bp_m2 ?_
    refine Rn.iret dX5_behind_42 rfl rfl rfl ?_
    first | exact rn_fin (k _ ⟨_, _, _, _, _, _, _, _, _, _, (hs_eq _ _ _), ((hs_ne _ _ (by decide)).trans M16), ((hs_ne _ _ (by decide)).trans M17), ((hs_ne _ _ (by decide)).trans M18), ((hs_ne _ _ (by decide)).trans M19), ((hs_ne _ _ (by decide)).trans M20), ((hs_ne _ _ (by decide)).trans M21), ((hs_ne _ _ (by decide)).trans M22), ((hs_ne _ _ (by decide)).trans M23), ((hs_ne _ _ (by decide)).trans M24), ((hs_ne _ _ (by decide)).trans M25), ((hs_ne _ _ (by decide)).trans M26), ((hs_ne _ _ (by decide)).trans M27), ML, RMh, RKh⟩ ((Fm.rf h).hs _ (by decide))) (some_int (by unfold beI; rw [c9]; rfl)) rfl | exact rn_fin (k _ ⟨_, _, _, _, _, _, _, _, _, _, (hs_eq _ _ _), ((hs_ne _ _ (by decide)).trans M16), ((hs_ne _ _ (by decide)).trans M17), ((hs_ne _ _ (by decide)).trans M18), ((hs_ne _ _ (by decide)).trans M19), ((hs_ne _ _ (by decide)).trans M20), ((hs_ne _ _ (by decide)).trans M21), ((hs_ne _ _ (by decide)).trans M22), ((hs_ne _ _ (by decide)).trans M23), ((hs_ne _ _ (by decide)).trans M24), ((hs_ne _ _ (by decide)).trans M25), ((hs_ne _ _ (by decide)).trans M26), ((hs_ne _ _ (by decide)).trans M27), ML, RMh, RKh⟩ ((Fm.rf h).hs _ (by decide))) (some_int (by unfold beI; rw [c16, Bool.false_and, Bool.and_false]; rfl)) rfl | exact rn_fin (k _ ⟨_, _, _, _, _, _, _, _, _, _, (hs_eq _ _ _), ((hs_ne _ _ (by decide)).trans M16), ((hs_ne _ _ (by decide)).trans M17), ((hs_ne _ _ (by decide)).trans M18), ((hs_ne _ _ (by decide)).trans M19), ((hs_ne _ _ (by decide)).trans M20), ((hs_ne _ _ (by decide)).trans M21), ((hs_ne _ _ (by decide)).trans M22), ((hs_ne _ _ (by decide)).trans M23), ((hs_ne _ _ (by decide)).trans M24), ((hs_ne _ _ (by decide)).trans M25), ((hs_ne _ _ (by decide)).trans M26), ((hs_ne _ _ (by decide)).trans M27), ML, RMh, RKh⟩ ((Fm.rf h).hs _ (by decide))) (some_int (by unfold beI; rw [c28, Bool.and_false, Bool.and_false]; rfl)) rfl
  · refine Rn.iload_n dX5_behind_12 rfl rfl ?_
    refine Rn.callS (as := [_]) s_X5_isNumber l_X5_139 ⟨Nat.le_of_ble_eq_true rfl, Nat.le_of_ble_eq_true rfl⟩ dX5_behind_13 rfl rfl (Nat.le_of_ble_eq_true rfl) (Nat.le_refl _) (Nat.le_refl _) (t_X5_isNumber ?_)
    refine Rn.if_eqB (tgt := 40) dX5_behind_16 rfl (by decide) (fun c16 => ?_) (fun c16 => ?_)
    · refine Rn.bipush dX5_behind_40 rfl bp_m2 ?_
      refine Rn.iret dX5_behind_42 rfl rfl rfl ?_
      first | exact rn_fin (k _ ⟨_, _, _, _, _, _, _, _, _, _, (hs_eq _ _ _), ((hs_ne _ _ (by decide)).trans M16), ((hs_ne _ _ (by decide)).trans M17), ((hs_ne _ _ (by decide)).trans M18), ((hs_ne _ _ (by decide)).trans M19), ((hs_ne _ _ (by decide)).trans M20), ((hs_ne _ _ (by decide)).trans M21), ((hs_ne _ _ (by decide)).trans M22), ((hs_ne _ _ (by decide)).trans M23), ((hs_ne _ _ (by decide)).trans M24), ((hs_ne _ _ (by decide)).trans M25), ((hs_ne _ _ (by decide)).trans M26), ((hs_ne _ _ (by decide)).trans M27), ML, RMh, RKh⟩ ((Fm.rf h).hs _ (by decide))) (some_int (by unfold beI; rw [c9]; rfl)) rfl | exact rn_fin (k _ ⟨_, _, _, _, _, _, _, _, _, _, (hs_eq _ _ _), ((hs_ne _ _ (by decide)).trans M16), ((hs_ne _ _ (by decide)).trans M17), ((hs_ne _ _ (by decide)).trans M18), ((hs_ne _ _ (by decide)).trans M19), ((hs_ne _ _ (by decide)).trans M20), ((hs_ne _ _ (by decide)).trans M21), ((hs_ne _ _ (by decide)).trans M22), ((hs_ne _ _ (by decide)).trans M23), ((hs_ne _ _ (by decide)).trans M24), ((hs_ne _ _ (by decide)).trans M25), ((hs_ne _ _ (by decide)).trans M26), ((hs_ne _ _ (by decide)).trans M27), ML, RMh, RKh⟩ ((Fm.rf h).hs _ (by decide))) (some_int (by unfold beI; rw [c16, Bool.false_and, Bool.and_false]; rfl)) rfl | exact rn_fin (k _ ⟨_, _, _, _, _, _, _, _, _, _, (hs_eq _ _ _), ((hs_ne _ _ (by decide)).trans M16), ((hs_ne _ _ (by decide)).trans M17), ((hs_ne _ _ (by decide)).trans M18), ((hs_ne _ _ (by decide)).trans M19), ((hs_ne _ _ (by decide)).trans M20), ((hs_ne _ _ (by decide)).trans M21), ((hs_ne _ _ (by decide)).trans M22), ((hs_ne _ _ (by decide)).trans M23), ((hs_ne _ _ (by decide)).trans M24), ((hs_ne _ _ (by decide)).trans M25), ((hs_ne _ _ (by decide)).trans M26), ((hs_ne _ _ (by decide)).trans M27), ML, RMh, RKh⟩ ((Fm.rf h).hs _ (by decide))) (some_int (by unfold beI; rw [c28, Bool.and_false, Bool.and_false]; rfl)) rfl
    · refine Rn.iload_n dX5_behind_19 rfl rfl ?_
      refine Rn.i2l dX5_behind_20 rfl ?_
      refine Rn.lconst dX5_behind_21 rfl lc_0 ?_
      refine Rn.ldc2 dX5_behind_22 rfl k_X5_143 ?_
      refine Rn.topl lL_99 ?_
      refine Rn.callS (as := [_, _, _]) s_X5_in l_X5_57 ⟨Nat.le_of_ble_eq_true rfl, Nat.le_of_ble_eq_true rfl⟩ dX5_behind_25 rfl rfl (Nat.le_of_ble_eq_true rfl) (Nat.le_refl _) (Nat.le_refl _) (t_X5_in ?_)
      refine Rn.top (congrArg bi (inL_W (by omega) (by omega))) ?_
      refine Rn.if_eqB (tgt := 40) dX5_behind_28 rfl (by decide) (fun c28 => ?_) (fun c28 => ?_)
      · refine Rn.bipush dX5_behind_40 rfl bp_m2 ?_
        refine Rn.iret dX5_behind_42 rfl rfl rfl ?_
        first | exact rn_fin (k _ ⟨_, _, _, _, _, _, _, _, _, _, (hs_eq _ _ _), ((hs_ne _ _ (by decide)).trans M16), ((hs_ne _ _ (by decide)).trans M17), ((hs_ne _ _ (by decide)).trans M18), ((hs_ne _ _ (by decide)).trans M19), ((hs_ne _ _ (by decide)).trans M20), ((hs_ne _ _ (by decide)).trans M21), ((hs_ne _ _ (by decide)).trans M22), ((hs_ne _ _ (by decide)).trans M23), ((hs_ne _ _ (by decide)).trans M24), ((hs_ne _ _ (by decide)).trans M25), ((hs_ne _ _ (by decide)).trans M26), ((hs_ne _ _ (by decide)).trans M27), ML, RMh, RKh⟩ ((Fm.rf h).hs _ (by decide))) (some_int (by unfold beI; rw [c9]; rfl)) rfl | exact rn_fin (k _ ⟨_, _, _, _, _, _, _, _, _, _, (hs_eq _ _ _), ((hs_ne _ _ (by decide)).trans M16), ((hs_ne _ _ (by decide)).trans M17), ((hs_ne _ _ (by decide)).trans M18), ((hs_ne _ _ (by decide)).trans M19), ((hs_ne _ _ (by decide)).trans M20), ((hs_ne _ _ (by decide)).trans M21), ((hs_ne _ _ (by decide)).trans M22), ((hs_ne _ _ (by decide)).trans M23), ((hs_ne _ _ (by decide)).trans M24), ((hs_ne _ _ (by decide)).trans M25), ((hs_ne _ _ (by decide)).trans M26), ((hs_ne _ _ (by decide)).trans M27), ML, RMh, RKh⟩ ((Fm.rf h).hs _ (by decide))) (some_int (by unfold beI; rw [c16, Bool.false_and, Bool.and_false]; rfl)) rfl | exact rn_fin (k _ ⟨_, _, _, _, _, _, _, _, _, _, (hs_eq _ _ _), ((hs_ne _ _ (by decide)).trans M16), ((hs_ne _ _ (by decide)).trans M17), ((hs_ne _ _ (by decide)).trans M18), ((hs_ne _ _ (by decide)).trans M19), ((hs_ne _ _ (by decide)).trans M20), ((hs_ne _ _ (by decide)).trans M21), ((hs_ne _ _ (by decide)).trans M22), ((hs_ne _ _ (by decide)).trans M23), ((hs_ne _ _ (by decide)).trans M24), ((hs_ne _ _ (by decide)).trans M25), ((hs_ne _ _ (by decide)).trans M26), ((hs_ne _ _ (by decide)).trans M27), ML, RMh, RKh⟩ ((Fm.rf h).hs _ (by decide))) (some_int (by unfold beI; rw [c28, Bool.and_false, Bool.and_false]; rfl)) rfl
      · have e0 : beI v s kk = nI (bh (xn s) (xn v) (xn kk)) := by unfold beI; rw [c9, c16, c28]; rfl
        rw [e0] at k
        obtain ⟨x1, hx1, rfl⟩ := isW_of c9 (by omega)
        obtain ⟨x2, hx2, rfl⟩ := isW_of c16 (by omega)
        obtain ⟨x3, hx3, rfl⟩ := isW_of c28 (by omega)
        rw [xn_nI (by omega), xn_nI (by omega), xn_nI (by omega)] at k
        refine Rn.iload_n dX5_behind_31 rfl rfl ?_
        refine Rn.iload_n dX5_behind_32 rfl rfl ?_
        refine Rn.iload_n dX5_behind_33 rfl rfl ?_
        refine Rn.callS (as := [_, _, _]) s_X5_after l_X5_61 ⟨Nat.le_of_ble_eq_true rfl, Nat.le_of_ble_eq_true rfl⟩ dX5_behind_34 rfl rfl (Nat.le_of_ble_eq_true rfl) (Nat.le_refl _) (Nat.le_refl _) (t_X5_after (by omega) (by omega) (by omega) ?_)
        refine Rn.goto (tgt := 42) dX5_behind_37 (by decide) ?_
        refine Rn.iret dX5_behind_42 rfl rfl rfl ?_
        exact (k _ ⟨_, _, _, _, _, _, _, _, _, _, (hs_eq _ _ _), ((hs_ne _ _ (by decide)).trans M16), ((hs_ne _ _ (by decide)).trans M17), ((hs_ne _ _ (by decide)).trans M18), ((hs_ne _ _ (by decide)).trans M19), ((hs_ne _ _ (by decide)).trans M20), ((hs_ne _ _ (by decide)).trans M21), ((hs_ne _ _ (by decide)).trans M22), ((hs_ne _ _ (by decide)).trans M23), ((hs_ne _ _ (by decide)).trans M24), ((hs_ne _ _ (by decide)).trans M25), ((hs_ne _ _ (by decide)).trans M26), ((hs_ne _ _ (by decide)).trans M27), ML, RMh, RKh⟩ ((Fm.rf h).hs _ (by decide)))
theorem t_X5_fits {h : rHp} {Q : Option Value → rHp → Prop} {t : Nat → Nat} {ln : Nat} {p : Nat → Nat} {U : Nat → Nat → Nat} {a : Nat} {Kp : Nat → Nat → Nat} {ik : Nat → Bool} {su sp sn : Nat → Nat} {sz : Nat} {d : Int64} (I : MI h t ln p U a Kp ik su sp sn sz d) (O : OKs t ln p U a Kp ik su sp sn sz) {x v : Int32} (k : ∀ h', MI h' t ln p U a Kp ik su sp sn sz d → Fm h h' → Q (some (.int (fiI p x v))) h') : Cl M_X5_fits h.1 h.2.1 [.ref 15, .int x, .int v] h Q := by
  obtain ⟨th, pl, rm, rp, ev, tp, BK, KM, IK, FF, M15, M16, M17, M18, M19, M20, M21, M22, M23, M24, M25, M26, M27, ML, RMh, RKh⟩ := id I
  obtain ⟨Ot, Oln, Op, OU, OK2, Osz, Osu, Osp, Osn⟩ := id O
  refine Cl.of pl_X5 (Nat.le_of_ble_eq_true rfl) (by first | exact Nat.le_refl _ | omega) (by first | exact Nat.le_refl _ | omega) ?_
  refine Rn.aload_n dX5_fits_0 rfl rfl ?_
  refine Rn.iconst dX5_fits_1 rfl ic_0 ?_
  refine Rn.putf p_X5_51 (fun h => by cases h) dX5_fits_2 rfl M15 (Nat.lt_of_le_of_lt (Nat.le_of_ble_eq_true rfl) ML) (fun g => ⟨rfl, rfl⟩) (Nat.le_of_ble_eq_true rfl) ?_
  refine Rn.aload_n dX5_fits_5 rfl rfl ?_
  refine Rn.getf f_X5_19 dX5_fits_6 rfl (hs_eq _ _ _) (Nat.lt_of_le_of_lt (Nat.le_of_ble_eq_true rfl) ML) rfl ?_
  refine Rn.iload_n dX5_fits_9 rfl rfl ?_
  refine Rn.callS (as := [_, _]) s_X5_noUser l_X5_75 ⟨Nat.le_of_ble_eq_true rfl, Nat.le_of_ble_eq_true rfl⟩ dX5_fits_10 rfl rfl (Nat.le_of_ble_eq_true rfl) (Nat.le_refl _) (Nat.le_refl _) (t_X5_noUser ⟨((hs_ne _ _ (by decide)).trans M19), by exact (Nat.lt_of_le_of_lt (Nat.le_of_ble_eq_true rfl) ML)⟩ Op.1 ?_)
  refine Rn.if_eqB (tgt := 18) dX5_fits_13 rfl (by decide) (fun c13 => ?_) (fun c13 => ?_)
  · obtain ⟨u, hu, rfl⟩ := hasB_of (bn_f c13)
    have hu4 : u < 4 := by have := Op.1; omega
    have hus := Op.us hu4
    have c0 := bn_f c13
    refine Rn.iload_n dX5_fits_18 rfl rfl ?_
    refine Rn.callS (as := [_]) s_X5_isNumber l_X5_139 ⟨Nat.le_of_ble_eq_true rfl, Nat.le_of_ble_eq_true rfl⟩ dX5_fits_19 rfl rfl (Nat.le_of_ble_eq_true rfl) (Nat.le_refl _) (Nat.le_refl _) (t_X5_isNumber ?_)
    refine Rn.if_eqB (tgt := 37) dX5_fits_22 rfl (by decide) (fun c22 => ?_) (fun c22 => ?_)
    · refine Rn.bipush dX5_fits_37 rfl bp_m2 ?_
      refine Rn.iret dX5_fits_39 rfl rfl rfl ?_
      exact rn_fin (k _ ⟨_, _, _, _, _, _, _, _, _, _, (hs_eq _ _ _), ((hs_ne _ _ (by decide)).trans M16), ((hs_ne _ _ (by decide)).trans M17), ((hs_ne _ _ (by decide)).trans M18), ((hs_ne _ _ (by decide)).trans M19), ((hs_ne _ _ (by decide)).trans M20), ((hs_ne _ _ (by decide)).trans M21), ((hs_ne _ _ (by decide)).trans M22), ((hs_ne _ _ (by decide)).trans M23), ((hs_ne _ _ (by decide)).trans M24), ((hs_ne _ _ (by decide)).trans M25), ((hs_ne _ _ (by decide)).trans M26), ((hs_ne _ _ (by decide)).trans M27), ML, RMh, RKh⟩ ((Fm.rf h).hs _ (by decide))) (some_int (by unfold fiI; rw [c0, c22]; rfl)) rfl
    · have e0 : fiI p (nI u) v = nI (fitP p u (xn v)) := by unfold fiI; rw [c0, c22, xn_nI (by omega)]; rfl
      rw [e0] at k
      obtain ⟨y, hy, rfl⟩ := isW_of c22 (by omega)
      rw [xn_nI (by omega)] at k
      refine Rn.aload_n dX5_fits_25 rfl rfl ?_
      refine Rn.getf f_X5_19 dX5_fits_26 rfl (hs_eq _ _ _) (Nat.lt_of_le_of_lt (Nat.le_of_ble_eq_true rfl) ML) rfl ?_
      refine Rn.iload_n dX5_fits_29 rfl rfl ?_
      refine Rn.iload_n dX5_fits_30 rfl rfl ?_
      refine Rn.callS (as := [_, _, _]) s_X5_fitsOn l_X5_65 ⟨Nat.le_of_ble_eq_true rfl, Nat.le_of_ble_eq_true rfl⟩ dX5_fits_31 rfl rfl (Nat.le_of_ble_eq_true rfl) (Nat.le_refl _) (Nat.le_refl _) (t_X5_fitsOn ⟨((hs_ne _ _ (by decide)).trans M19), by exact (Nat.lt_of_le_of_lt (Nat.le_of_ble_eq_true rfl) ML)⟩ Op hu4 (by omega) ?_)
      refine Rn.goto (tgt := 39) dX5_fits_34 (by decide) ?_
      refine Rn.iret dX5_fits_39 rfl rfl rfl ?_
      exact (k _ ⟨_, _, _, _, _, _, _, _, _, _, (hs_eq _ _ _), ((hs_ne _ _ (by decide)).trans M16), ((hs_ne _ _ (by decide)).trans M17), ((hs_ne _ _ (by decide)).trans M18), ((hs_ne _ _ (by decide)).trans M19), ((hs_ne _ _ (by decide)).trans M20), ((hs_ne _ _ (by decide)).trans M21), ((hs_ne _ _ (by decide)).trans M22), ((hs_ne _ _ (by decide)).trans M23), ((hs_ne _ _ (by decide)).trans M24), ((hs_ne _ _ (by decide)).trans M25), ((hs_ne _ _ (by decide)).trans M26), ((hs_ne _ _ (by decide)).trans M27), ML, RMh, RKh⟩ ((Fm.rf h).hs _ (by decide)))
  · refine Rn.iconst dX5_fits_16 rfl ic_m1 ?_
    refine Rn.iret dX5_fits_17 rfl rfl rfl ?_
    exact rn_fin (k _ ⟨_, _, _, _, _, _, _, _, _, _, (hs_eq _ _ _), ((hs_ne _ _ (by decide)).trans M16), ((hs_ne _ _ (by decide)).trans M17), ((hs_ne _ _ (by decide)).trans M18), ((hs_ne _ _ (by decide)).trans M19), ((hs_ne _ _ (by decide)).trans M20), ((hs_ne _ _ (by decide)).trans M21), ((hs_ne _ _ (by decide)).trans M22), ((hs_ne _ _ (by decide)).trans M23), ((hs_ne _ _ (by decide)).trans M24), ((hs_ne _ _ (by decide)).trans M25), ((hs_ne _ _ (by decide)).trans M26), ((hs_ne _ _ (by decide)).trans M27), ML, RMh, RKh⟩ ((Fm.rf h).hs _ (by decide))) (some_int (by unfold fiI; rw [bn_t c13]; rfl)) rfl
theorem t_X5_heard {h : rHp} {Q : Option Value → rHp → Prop} {t : Nat → Nat} {ln : Nat} {p : Nat → Nat} {U : Nat → Nat → Nat} {a : Nat} {Kp : Nat → Nat → Nat} {ik : Nat → Bool} {su sp sn : Nat → Nat} {sz : Nat} {d : Int64} (I : MI h t ln p U a Kp ik su sp sn sz d) (O : OKs t ln p U a Kp ik su sp sn sz) {x : Int32} (k : ∀ h', MI h' t ln p U a Kp ik su sp sn sz d → Fm h h' → Q (some (.int (hdI p x))) h') : Cl M_X5_heard h.1 h.2.1 [.ref 15, .int x] h Q := by
  obtain ⟨th, pl, rm, rp, ev, tp, BK, KM, IK, FF, M15, M16, M17, M18, M19, M20, M21, M22, M23, M24, M25, M26, M27, ML, RMh, RKh⟩ := id I
  obtain ⟨Ot, Oln, Op, OU, OK2, Osz, Osu, Osp, Osn⟩ := id O
  refine Cl.of pl_X5 (Nat.le_of_ble_eq_true rfl) (by first | exact Nat.le_refl _ | omega) (by first | exact Nat.le_refl _ | omega) ?_
  refine Rn.aload_n dX5_heard_0 rfl rfl ?_
  refine Rn.iconst dX5_heard_1 rfl ic_0 ?_
  refine Rn.putf p_X5_51 (fun h => by cases h) dX5_heard_2 rfl M15 (Nat.lt_of_le_of_lt (Nat.le_of_ble_eq_true rfl) ML) (fun g => ⟨rfl, rfl⟩) (Nat.le_of_ble_eq_true rfl) ?_
  refine Rn.iload_n dX5_heard_5 rfl rfl ?_
  refine Rn.i2l dX5_heard_6 rfl ?_
  refine Rn.lconst dX5_heard_7 rfl lc_0 ?_
  refine Rn.aload_n dX5_heard_8 rfl rfl ?_
  refine Rn.getf f_X5_19 dX5_heard_9 rfl (hs_eq _ _ _) (Nat.lt_of_le_of_lt (Nat.le_of_ble_eq_true rfl) ML) rfl ?_
  refine Rn.bipush dX5_heard_12 rfl bp_27 ?_
  refine Rn.ialdN dX5_heard_14 rfl ((hs_ne _ _ (by decide)).trans M19) (Nat.lt_of_le_of_lt (Nat.le_of_ble_eq_true rfl) ML) (by omega) (by omega) ?_
  refine Rn.top (pg_n _ (by omega) (by omega)) ?_
  have h8 := Op.2.2.2.1
  refine Rn.iconst dX5_heard_15 rfl ic_1 ?_
  refine Rn.isub dX5_heard_16 rfl ?_
  refine Rn.i2l dX5_heard_17 rfl ?_
  refine Rn.callS (as := [_, _, _]) s_X5_in l_X5_57 ⟨Nat.le_of_ble_eq_true rfl, Nat.le_of_ble_eq_true rfl⟩ dX5_heard_18 rfl rfl (Nat.le_of_ble_eq_true rfl) (Nat.le_refl _) (Nat.le_refl _) (t_X5_in ?_)
  refine Rn.top (congrArg bi (inL_has (by omega))) ?_
  refine Rn.if_eqB (tgt := 36) dX5_heard_21 rfl (by decide) (fun c21 => ?_) (fun c21 => ?_)
  · refine Rn.bipush dX5_heard_36 rfl bp_m9 ?_
    refine Rn.iret dX5_heard_38 rfl rfl rfl ?_
    exact rn_fin (k _ ⟨_, _, _, _, _, _, _, _, _, _, (hs_eq _ _ _), ((hs_ne _ _ (by decide)).trans M16), ((hs_ne _ _ (by decide)).trans M17), ((hs_ne _ _ (by decide)).trans M18), ((hs_ne _ _ (by decide)).trans M19), ((hs_ne _ _ (by decide)).trans M20), ((hs_ne _ _ (by decide)).trans M21), ((hs_ne _ _ (by decide)).trans M22), ((hs_ne _ _ (by decide)).trans M23), ((hs_ne _ _ (by decide)).trans M24), ((hs_ne _ _ (by decide)).trans M25), ((hs_ne _ _ (by decide)).trans M26), ((hs_ne _ _ (by decide)).trans M27), ML, RMh, RKh⟩ ((Fm.rf h).hs _ (by decide))) (some_int (by rw [hdI_neg c21])) rfl
  · obtain ⟨j, hj, rfl⟩ := hasB_of c21
    refine Rn.aload_n dX5_heard_24 rfl rfl ?_
    refine Rn.getf f_X5_19 dX5_heard_25 rfl (hs_eq _ _ _) (Nat.lt_of_le_of_lt (Nat.le_of_ble_eq_true rfl) ML) rfl ?_
    refine Rn.bipush dX5_heard_28 rfl bp_28 ?_
    refine Rn.iload_n dX5_heard_30 rfl rfl ?_
    refine Rn.iaddN dX5_heard_31 rfl ?_
    refine Rn.ialdN dX5_heard_32 rfl ((hs_ne _ _ (by decide)).trans M19) (Nat.lt_of_le_of_lt (Nat.le_of_ble_eq_true rfl) ML) (by omega) (by omega) ?_
    refine Rn.top (pg_n _ (by omega) (by omega)) ?_
    refine Rn.goto (tgt := 38) dX5_heard_33 (by decide) ?_
    refine Rn.iret dX5_heard_38 rfl rfl rfl ?_
    exact rn_fin (k _ ⟨_, _, _, _, _, _, _, _, _, _, (hs_eq _ _ _), ((hs_ne _ _ (by decide)).trans M16), ((hs_ne _ _ (by decide)).trans M17), ((hs_ne _ _ (by decide)).trans M18), ((hs_ne _ _ (by decide)).trans M19), ((hs_ne _ _ (by decide)).trans M20), ((hs_ne _ _ (by decide)).trans M21), ((hs_ne _ _ (by decide)).trans M22), ((hs_ne _ _ (by decide)).trans M23), ((hs_ne _ _ (by decide)).trans M24), ((hs_ne _ _ (by decide)).trans M25), ((hs_ne _ _ (by decide)).trans M26), ((hs_ne _ _ (by decide)).trans M27), ML, RMh, RKh⟩ ((Fm.rf h).hs _ (by decide))) (some_int (by rw [hdI_y hj (by omega)])) rfl
theorem t_X5_wipe {h : rHp} {Q : Option Value → rHp → Prop} {t : Nat → Nat} {ln : Nat} {p : Nat → Nat} {U : Nat → Nat → Nat} {a : Nat} {Kp : Nat → Nat → Nat} {ik : Nat → Bool} {su sp sn : Nat → Nat} {sz : Nat} {d : Int64} (I : MI h t ln p U a Kp ik su sp sn sz d) (O : OKs t ln p U a Kp ik su sp sn sz) (k : ∀ h', MI h' t 0 p U a Kp ik su sp sn sz d → Fm h h' → Q (some (.int (nI ln))) h') : Cl M_X5_wipe h.1 h.2.1 [.ref 15] h Q := by
  obtain ⟨th, pl, rm, rp, ev, tp, BK, KM, IK, FF, M15, M16, M17, M18, M19, M20, M21, M22, M23, M24, M25, M26, M27, ML, RMh, RKh⟩ := id I
  obtain ⟨Ot, Oln, Op, OU, OK2, Osz, Osu, Osp, Osn⟩ := id O
  refine Cl.of pl_X5 (Nat.le_of_ble_eq_true rfl) (by first | exact Nat.le_refl _ | omega) (by first | exact Nat.le_refl _ | omega) ?_
  refine Rn.aload_n dX5_wipe_0 rfl rfl ?_
  refine Rn.iconst dX5_wipe_1 rfl ic_0 ?_
  refine Rn.putf p_X5_51 (fun h => by cases h) dX5_wipe_2 rfl M15 (Nat.lt_of_le_of_lt (Nat.le_of_ble_eq_true rfl) ML) (fun g => ⟨rfl, rfl⟩) (Nat.le_of_ble_eq_true rfl) ?_
  refine Rn.aload_n dX5_wipe_5 rfl rfl ?_
  refine Rn.getf f_X5_84 dX5_wipe_6 rfl (hs_eq _ _ _) (Nat.lt_of_le_of_lt (Nat.le_of_ble_eq_true rfl) ML) rfl ?_
  refine Rn.istore_n dX5_wipe_9 rfl (Nat.le_of_ble_eq_true rfl) ?_
  refine Rn.aload_n dX5_wipe_10 rfl rfl ?_
  refine Rn.iconst dX5_wipe_11 rfl ic_0 ?_
  refine Rn.putf p_X5_84 (fun h => by cases h) dX5_wipe_12 rfl (hs_eq _ _ _) (Nat.lt_of_le_of_lt (Nat.le_of_ble_eq_true rfl) ML) (fun g => ⟨rfl, rfl⟩) (Nat.le_of_ble_eq_true rfl) ?_
  refine Rn.heap (hs_hs _ _ _ _) ?_
  refine Rn.iload_n dX5_wipe_15 rfl rfl ?_
  refine Rn.iret dX5_wipe_16 rfl rfl rfl ?_
  exact (k _ ⟨_, _, _, _, _, _, _, _, _, _, (hs_eq _ _ _), ((hs_ne _ _ (by decide)).trans M16), ((hs_ne _ _ (by decide)).trans M17), ((hs_ne _ _ (by decide)).trans M18), ((hs_ne _ _ (by decide)).trans M19), ((hs_ne _ _ (by decide)).trans M20), ((hs_ne _ _ (by decide)).trans M21), ((hs_ne _ _ (by decide)).trans M22), ((hs_ne _ _ (by decide)).trans M23), ((hs_ne _ _ (by decide)).trans M24), ((hs_ne _ _ (by decide)).trans M25), ((hs_ne _ _ (by decide)).trans M26), ((hs_ne _ _ (by decide)).trans M27), ML, RMh, RKh⟩ ((Fm.rf h).hs _ (by decide)))
theorem t_X5_unsee {h : rHp} {Q : Option Value → rHp → Prop} {t : Nat → Nat} {ln : Nat} {p : Nat → Nat} {U : Nat → Nat → Nat} {a : Nat} {Kp : Nat → Nat → Nat} {ik : Nat → Bool} {su sp sn : Nat → Nat} {sz : Nat} {d : Int64} (I : MI h t ln p U a Kp ik su sp sn sz d) (O : OKs t ln p U a Kp ik su sp sn sz) (k : ∀ h', MI h' t ln p U a Kp ik su sp sn 0 d → Fm h h' → Q (some (.int (nI sz))) h') : Cl M_X5_unsee h.1 h.2.1 [.ref 15] h Q := by
  obtain ⟨th, pl, rm, rp, ev, tp, BK, KM, IK, FF, M15, M16, M17, M18, M19, M20, M21, M22, M23, M24, M25, M26, M27, ML, RMh, RKh⟩ := id I
  obtain ⟨Ot, Oln, Op, OU, OK2, Osz, Osu, Osp, Osn⟩ := id O
  refine Cl.of pl_X5 (Nat.le_of_ble_eq_true rfl) (by first | exact Nat.le_refl _ | omega) (by first | exact Nat.le_refl _ | omega) ?_
  refine Rn.aload_n dX5_unsee_0 rfl rfl ?_
  refine Rn.iconst dX5_unsee_1 rfl ic_0 ?_
  refine Rn.putf p_X5_51 (fun h => by cases h) dX5_unsee_2 rfl M15 (Nat.lt_of_le_of_lt (Nat.le_of_ble_eq_true rfl) ML) (fun g => ⟨rfl, rfl⟩) (Nat.le_of_ble_eq_true rfl) ?_
  refine Rn.aload_n dX5_unsee_5 rfl rfl ?_
  refine Rn.getf f_X5_175 dX5_unsee_6 rfl (hs_eq _ _ _) (Nat.lt_of_le_of_lt (Nat.le_of_ble_eq_true rfl) ML) rfl ?_
  refine Rn.istore_n dX5_unsee_9 rfl (Nat.le_of_ble_eq_true rfl) ?_
  refine Rn.aload_n dX5_unsee_10 rfl rfl ?_
  refine Rn.iconst dX5_unsee_11 rfl ic_0 ?_
  refine Rn.putf p_X5_175 (fun h => by cases h) dX5_unsee_12 rfl (hs_eq _ _ _) (Nat.lt_of_le_of_lt (Nat.le_of_ble_eq_true rfl) ML) (fun g => ⟨rfl, rfl⟩) (Nat.le_of_ble_eq_true rfl) ?_
  refine Rn.heap (hs_hs _ _ _ _) ?_
  refine Rn.iload_n dX5_unsee_15 rfl rfl ?_
  refine Rn.iret dX5_unsee_16 rfl rfl rfl ?_
  exact (k _ ⟨_, _, _, _, _, _, _, _, _, _, (hs_eq _ _ _), ((hs_ne _ _ (by decide)).trans M16), ((hs_ne _ _ (by decide)).trans M17), ((hs_ne _ _ (by decide)).trans M18), ((hs_ne _ _ (by decide)).trans M19), ((hs_ne _ _ (by decide)).trans M20), ((hs_ne _ _ (by decide)).trans M21), ((hs_ne _ _ (by decide)).trans M22), ((hs_ne _ _ (by decide)).trans M23), ((hs_ne _ _ (by decide)).trans M24), ((hs_ne _ _ (by decide)).trans M25), ((hs_ne _ _ (by decide)).trans M26), ((hs_ne _ _ (by decide)).trans M27), ML, RMh, RKh⟩ ((Fm.rf h).hs _ (by decide)))
theorem t_X5_seed {h : rHp} {Q : Option Value → rHp → Prop} {t : Nat → Nat} {ln : Nat} {p : Nat → Nat} {U : Nat → Nat → Nat} {a : Nat} {Kp : Nat → Nat → Nat} {ik : Nat → Bool} {su sp sn : Nat → Nat} {sz : Nat} {d : Int64} (I : MI h t ln p U a Kp ik su sp sn sz d) (O : OKs t ln p U a Kp ik su sp sn sz) {v : Int64} (k : ∀ h', MI h' t ln p U a Kp ik su sp sn sz v → Fm h h' → Q (some (.long (d))) h') : Cl M_X5_seed h.1 h.2.1 [.ref 15, .long v] h Q := by
  obtain ⟨th, pl, rm, rp, ev, tp, BK, KM, IK, FF, M15, M16, M17, M18, M19, M20, M21, M22, M23, M24, M25, M26, M27, ML, RMh, RKh⟩ := id I
  obtain ⟨Ot, Oln, Op, OU, OK2, Osz, Osu, Osp, Osn⟩ := id O
  refine Cl.of pl_X5 (Nat.le_of_ble_eq_true rfl) (by first | exact Nat.le_refl _ | omega) (by first | exact Nat.le_refl _ | omega) ?_
  refine Rn.aload_n dX5_seed_0 rfl rfl ?_
  refine Rn.iconst dX5_seed_1 rfl ic_0 ?_
  refine Rn.putf p_X5_51 (fun h => by cases h) dX5_seed_2 rfl M15 (Nat.lt_of_le_of_lt (Nat.le_of_ble_eq_true rfl) ML) (fun g => ⟨rfl, rfl⟩) (Nat.le_of_ble_eq_true rfl) ?_
  refine Rn.aload_n dX5_seed_5 rfl rfl ?_
  refine Rn.getf f_X5_196 dX5_seed_6 rfl (hs_eq _ _ _) (Nat.lt_of_le_of_lt (Nat.le_of_ble_eq_true rfl) ML) rfl ?_
  refine Rn.lstore_n dX5_seed_9 rfl (Nat.le_of_ble_eq_true rfl) ?_
  refine Rn.aload_n dX5_seed_10 rfl rfl ?_
  refine Rn.lload_n dX5_seed_11 rfl rfl ?_
  refine Rn.putf p_X5_196 (fun h => by cases h) dX5_seed_12 rfl (hs_eq _ _ _) (Nat.lt_of_le_of_lt (Nat.le_of_ble_eq_true rfl) ML) (fun g => ⟨rfl, rfl⟩) (Nat.le_of_ble_eq_true rfl) ?_
  refine Rn.heap (hs_hs _ _ _ _) ?_
  refine Rn.lload_n dX5_seed_15 rfl rfl ?_
  refine Rn.lret dX5_seed_16 rfl rfl rfl ?_
  exact (k _ ⟨_, _, _, _, _, _, _, _, _, _, (hs_eq _ _ _), ((hs_ne _ _ (by decide)).trans M16), ((hs_ne _ _ (by decide)).trans M17), ((hs_ne _ _ (by decide)).trans M18), ((hs_ne _ _ (by decide)).trans M19), ((hs_ne _ _ (by decide)).trans M20), ((hs_ne _ _ (by decide)).trans M21), ((hs_ne _ _ (by decide)).trans M22), ((hs_ne _ _ (by decide)).trans M23), ((hs_ne _ _ (by decide)).trans M24), ((hs_ne _ _ (by decide)).trans M25), ((hs_ne _ _ (by decide)).trans M26), ((hs_ne _ _ (by decide)).trans M27), ML, RMh, RKh⟩ ((Fm.rf h).hs _ (by decide)))
theorem t_X5_count {h : rHp} {Q : Option Value → rHp → Prop} {t : Nat → Nat} {ln : Nat} {p : Nat → Nat} {U : Nat → Nat → Nat} {a : Nat} {Kp : Nat → Nat → Nat} {ik : Nat → Bool} {su sp sn : Nat → Nat} {sz : Nat} {d : Int64} (I : MI h t ln p U a Kp ik su sp sn sz d) (O : OKs t ln p U a Kp ik su sp sn sz) {y : Int32} (k : ∀ h', MI h' t ln p U a Kp ik su sp sn sz d → Fm h h' → Q (some (.int (coI ln p a sz y))) h') : Cl M_X5_count h.1 h.2.1 [.ref 15, .int y] h Q := by
  obtain ⟨th, pl, rm, rp, ev, tp, BK, KM, IK, FF, M15, M16, M17, M18, M19, M20, M21, M22, M23, M24, M25, M26, M27, ML, RMh, RKh⟩ := id I
  obtain ⟨Ot, Oln, Op, OU, OK2, Osz, Osu, Osp, Osn⟩ := id O
  refine Cl.of pl_X5 (Nat.le_of_ble_eq_true rfl) (by first | exact Nat.le_refl _ | omega) (by first | exact Nat.le_refl _ | omega) ?_
  refine Rn.aload_n dX5_count_0 rfl rfl ?_
  refine Rn.iconst dX5_count_1 rfl ic_0 ?_
  refine Rn.putf p_X5_51 (fun h => by cases h) dX5_count_2 rfl M15 (Nat.lt_of_le_of_lt (Nat.le_of_ble_eq_true rfl) ML) (fun g => ⟨rfl, rfl⟩) (Nat.le_of_ble_eq_true rfl) ?_
  refine Rn.iload_n dX5_count_5 rfl rfl ?_
  refine Rn.tswR (n := 6) (tgtD := 95) dX5_count_6 rfl (by decide) (by decide) (fun cy => ?_) (fun j hj ey => ?_)
  · refine Rn.bipush dX5_count_95 rfl bp_m2 ?_
    refine Rn.iret dX5_count_97 rfl rfl rfl ?_
    exact rn_fin (k _ ⟨_, _, _, _, _, _, _, _, _, _, (hs_eq _ _ _), ((hs_ne _ _ (by decide)).trans M16), ((hs_ne _ _ (by decide)).trans M17), ((hs_ne _ _ (by decide)).trans M18), ((hs_ne _ _ (by decide)).trans M19), ((hs_ne _ _ (by decide)).trans M20), ((hs_ne _ _ (by decide)).trans M21), ((hs_ne _ _ (by decide)).trans M22), ((hs_ne _ _ (by decide)).trans M23), ((hs_ne _ _ (by decide)).trans M24), ((hs_ne _ _ (by decide)).trans M25), ((hs_ne _ _ (by decide)).trans M26), ((hs_ne _ _ (by decide)).trans M27), ML, RMh, RKh⟩ ((Fm.rf h).hs _ (by decide))) (some_int (by unfold coI; rw [cy]; rfl)) rfl
  · subst ey
    rcases (show j = 0 ∨ j = 1 ∨ j = 2 ∨ j = 3 ∨ j = 4 ∨ j = 5 ∨ j = 6 by omega) with rfl | rfl | rfl | rfl | rfl | rfl | rfl
    · refine ⟨42, 48, rfl, by decide, ?_⟩
      refine Rn.aload_n dX5_count_48 rfl rfl ?_
      refine Rn.getf f_X5_84 dX5_count_49 rfl (hs_eq _ _ _) (Nat.lt_of_le_of_lt (Nat.le_of_ble_eq_true rfl) ML) rfl ?_
      refine Rn.iret dX5_count_52 rfl rfl rfl ?_
      exact (k _ ⟨_, _, _, _, _, _, _, _, _, _, (hs_eq _ _ _), ((hs_ne _ _ (by decide)).trans M16), ((hs_ne _ _ (by decide)).trans M17), ((hs_ne _ _ (by decide)).trans M18), ((hs_ne _ _ (by decide)).trans M19), ((hs_ne _ _ (by decide)).trans M20), ((hs_ne _ _ (by decide)).trans M21), ((hs_ne _ _ (by decide)).trans M22), ((hs_ne _ _ (by decide)).trans M23), ((hs_ne _ _ (by decide)).trans M24), ((hs_ne _ _ (by decide)).trans M25), ((hs_ne _ _ (by decide)).trans M26), ((hs_ne _ _ (by decide)).trans M27), ML, RMh, RKh⟩ ((Fm.rf h).hs _ (by decide)))
    · refine ⟨47, 53, rfl, by decide, ?_⟩
      refine Rn.aload_n dX5_count_53 rfl rfl ?_
      refine Rn.getf f_X5_19 dX5_count_54 rfl (hs_eq _ _ _) (Nat.lt_of_le_of_lt (Nat.le_of_ble_eq_true rfl) ML) rfl ?_
      refine Rn.bipush dX5_count_57 rfl bp_24 ?_
      refine Rn.ialdN dX5_count_59 rfl ((hs_ne _ _ (by decide)).trans M19) (Nat.lt_of_le_of_lt (Nat.le_of_ble_eq_true rfl) ML) (by omega) (by omega) ?_
      refine Rn.top (pg_n _ (by omega) (by omega)) ?_
      refine Rn.iret dX5_count_60 rfl rfl rfl ?_
      exact (k _ ⟨_, _, _, _, _, _, _, _, _, _, (hs_eq _ _ _), ((hs_ne _ _ (by decide)).trans M16), ((hs_ne _ _ (by decide)).trans M17), ((hs_ne _ _ (by decide)).trans M18), ((hs_ne _ _ (by decide)).trans M19), ((hs_ne _ _ (by decide)).trans M20), ((hs_ne _ _ (by decide)).trans M21), ((hs_ne _ _ (by decide)).trans M22), ((hs_ne _ _ (by decide)).trans M23), ((hs_ne _ _ (by decide)).trans M24), ((hs_ne _ _ (by decide)).trans M25), ((hs_ne _ _ (by decide)).trans M26), ((hs_ne _ _ (by decide)).trans M27), ML, RMh, RKh⟩ ((Fm.rf h).hs _ (by decide)))
    · refine ⟨55, 61, rfl, by decide, ?_⟩
      refine Rn.aload_n dX5_count_61 rfl rfl ?_
      refine Rn.getf f_X5_19 dX5_count_62 rfl (hs_eq _ _ _) (Nat.lt_of_le_of_lt (Nat.le_of_ble_eq_true rfl) ML) rfl ?_
      refine Rn.bipush dX5_count_65 rfl bp_25 ?_
      refine Rn.ialdN dX5_count_67 rfl ((hs_ne _ _ (by decide)).trans M19) (Nat.lt_of_le_of_lt (Nat.le_of_ble_eq_true rfl) ML) (by omega) (by omega) ?_
      refine Rn.top (pg_n _ (by omega) (by omega)) ?_
      refine Rn.iret dX5_count_68 rfl rfl rfl ?_
      exact (k _ ⟨_, _, _, _, _, _, _, _, _, _, (hs_eq _ _ _), ((hs_ne _ _ (by decide)).trans M16), ((hs_ne _ _ (by decide)).trans M17), ((hs_ne _ _ (by decide)).trans M18), ((hs_ne _ _ (by decide)).trans M19), ((hs_ne _ _ (by decide)).trans M20), ((hs_ne _ _ (by decide)).trans M21), ((hs_ne _ _ (by decide)).trans M22), ((hs_ne _ _ (by decide)).trans M23), ((hs_ne _ _ (by decide)).trans M24), ((hs_ne _ _ (by decide)).trans M25), ((hs_ne _ _ (by decide)).trans M26), ((hs_ne _ _ (by decide)).trans M27), ML, RMh, RKh⟩ ((Fm.rf h).hs _ (by decide)))
    · refine ⟨63, 69, rfl, by decide, ?_⟩
      refine Rn.aload_n dX5_count_69 rfl rfl ?_
      refine Rn.getf f_X5_19 dX5_count_70 rfl (hs_eq _ _ _) (Nat.lt_of_le_of_lt (Nat.le_of_ble_eq_true rfl) ML) rfl ?_
      refine Rn.bipush dX5_count_73 rfl bp_26 ?_
      refine Rn.ialdN dX5_count_75 rfl ((hs_ne _ _ (by decide)).trans M19) (Nat.lt_of_le_of_lt (Nat.le_of_ble_eq_true rfl) ML) (by omega) (by omega) ?_
      refine Rn.top (pg_26 _) ?_
      refine Rn.iret dX5_count_76 rfl rfl rfl ?_
      exact (k _ ⟨_, _, _, _, _, _, _, _, _, _, (hs_eq _ _ _), ((hs_ne _ _ (by decide)).trans M16), ((hs_ne _ _ (by decide)).trans M17), ((hs_ne _ _ (by decide)).trans M18), ((hs_ne _ _ (by decide)).trans M19), ((hs_ne _ _ (by decide)).trans M20), ((hs_ne _ _ (by decide)).trans M21), ((hs_ne _ _ (by decide)).trans M22), ((hs_ne _ _ (by decide)).trans M23), ((hs_ne _ _ (by decide)).trans M24), ((hs_ne _ _ (by decide)).trans M25), ((hs_ne _ _ (by decide)).trans M26), ((hs_ne _ _ (by decide)).trans M27), ML, RMh, RKh⟩ ((Fm.rf h).hs _ (by decide)))
    · refine ⟨71, 77, rfl, by decide, ?_⟩
      refine Rn.aload_n dX5_count_77 rfl rfl ?_
      refine Rn.getf f_X5_19 dX5_count_78 rfl (hs_eq _ _ _) (Nat.lt_of_le_of_lt (Nat.le_of_ble_eq_true rfl) ML) rfl ?_
      refine Rn.bipush dX5_count_81 rfl bp_27 ?_
      refine Rn.ialdN dX5_count_83 rfl ((hs_ne _ _ (by decide)).trans M19) (Nat.lt_of_le_of_lt (Nat.le_of_ble_eq_true rfl) ML) (by omega) (by omega) ?_
      refine Rn.top (pg_n _ (by omega) (by omega)) ?_
      refine Rn.iret dX5_count_84 rfl rfl rfl ?_
      exact (k _ ⟨_, _, _, _, _, _, _, _, _, _, (hs_eq _ _ _), ((hs_ne _ _ (by decide)).trans M16), ((hs_ne _ _ (by decide)).trans M17), ((hs_ne _ _ (by decide)).trans M18), ((hs_ne _ _ (by decide)).trans M19), ((hs_ne _ _ (by decide)).trans M20), ((hs_ne _ _ (by decide)).trans M21), ((hs_ne _ _ (by decide)).trans M22), ((hs_ne _ _ (by decide)).trans M23), ((hs_ne _ _ (by decide)).trans M24), ((hs_ne _ _ (by decide)).trans M25), ((hs_ne _ _ (by decide)).trans M26), ((hs_ne _ _ (by decide)).trans M27), ML, RMh, RKh⟩ ((Fm.rf h).hs _ (by decide)))
    · refine ⟨79, 85, rfl, by decide, ?_⟩
      refine Rn.aload_n dX5_count_85 rfl rfl ?_
      refine Rn.getf f_X5_124 dX5_count_86 rfl (hs_eq _ _ _) (Nat.lt_of_le_of_lt (Nat.le_of_ble_eq_true rfl) ML) rfl ?_
      refine Rn.iret dX5_count_89 rfl rfl rfl ?_
      exact (k _ ⟨_, _, _, _, _, _, _, _, _, _, (hs_eq _ _ _), ((hs_ne _ _ (by decide)).trans M16), ((hs_ne _ _ (by decide)).trans M17), ((hs_ne _ _ (by decide)).trans M18), ((hs_ne _ _ (by decide)).trans M19), ((hs_ne _ _ (by decide)).trans M20), ((hs_ne _ _ (by decide)).trans M21), ((hs_ne _ _ (by decide)).trans M22), ((hs_ne _ _ (by decide)).trans M23), ((hs_ne _ _ (by decide)).trans M24), ((hs_ne _ _ (by decide)).trans M25), ((hs_ne _ _ (by decide)).trans M26), ((hs_ne _ _ (by decide)).trans M27), ML, RMh, RKh⟩ ((Fm.rf h).hs _ (by decide)))
    · refine ⟨84, 90, rfl, by decide, ?_⟩
      refine Rn.aload_n dX5_count_90 rfl rfl ?_
      refine Rn.getf f_X5_175 dX5_count_91 rfl (hs_eq _ _ _) (Nat.lt_of_le_of_lt (Nat.le_of_ble_eq_true rfl) ML) rfl ?_
      refine Rn.iret dX5_count_94 rfl rfl rfl ?_
      exact (k _ ⟨_, _, _, _, _, _, _, _, _, _, (hs_eq _ _ _), ((hs_ne _ _ (by decide)).trans M16), ((hs_ne _ _ (by decide)).trans M17), ((hs_ne _ _ (by decide)).trans M18), ((hs_ne _ _ (by decide)).trans M19), ((hs_ne _ _ (by decide)).trans M20), ((hs_ne _ _ (by decide)).trans M21), ((hs_ne _ _ (by decide)).trans M22), ((hs_ne _ _ (by decide)).trans M23), ((hs_ne _ _ (by decide)).trans M24), ((hs_ne _ _ (by decide)).trans M25), ((hs_ne _ _ (by decide)).trans M26), ((hs_ne _ _ (by decide)).trans M27), ML, RMh, RKh⟩ ((Fm.rf h).hs _ (by decide)))
theorem t_X5_write {h : rHp} {Q : Option Value → rHp → Prop} {t : Nat → Nat} {ln : Nat} {p : Nat → Nat} {U : Nat → Nat → Nat} {a : Nat} {Kp : Nat → Nat → Nat} {ik : Nat → Bool} {su sp sn : Nat → Nat} {sz : Nat} {d : Int64} (I : MI h t ln p U a Kp ik su sp sn sz d) (O : OKs t ln p U a Kp ik su sp sn sz) {x : Int32} (k : ∀ h', MI h' (wrA t ln x).2.1 (wrA t ln x).2.2 p U a Kp ik su sp sn sz d → Fm h h' → Q (some (.int ((wrA t ln x).1))) h') : Cl M_X5_write h.1 h.2.1 [.ref 15, .int x] h Q := by
  obtain ⟨th, pl, rm, rp, ev, tp, BK, KM, IK, FF, M15, M16, M17, M18, M19, M20, M21, M22, M23, M24, M25, M26, M27, ML, RMh, RKh⟩ := id I
  obtain ⟨Ot, Oln, Op, OU, OK2, Osz, Osu, Osp, Osn⟩ := id O
  refine Cl.of pl_X5 (Nat.le_of_ble_eq_true rfl) (by first | exact Nat.le_refl _ | omega) (by first | exact Nat.le_refl _ | omega) ?_
  refine Rn.aload_n dX5_write_0 rfl rfl ?_
  refine Rn.iconst dX5_write_1 rfl ic_0 ?_
  refine Rn.putf p_X5_51 (fun h => by cases h) dX5_write_2 rfl M15 (Nat.lt_of_le_of_lt (Nat.le_of_ble_eq_true rfl) ML) (fun g => ⟨rfl, rfl⟩) (Nat.le_of_ble_eq_true rfl) ?_
  refine Rn.iload_n dX5_write_5 rfl rfl ?_
  refine Rn.i2l dX5_write_6 rfl ?_
  refine Rn.lconst dX5_write_7 rfl lc_0 ?_
  refine Rn.ldc2 dX5_write_8 rfl k_X5_82 ?_
  refine Rn.topl lL_255 ?_
  refine Rn.callS (as := [_, _, _]) s_X5_in l_X5_57 ⟨Nat.le_of_ble_eq_true rfl, Nat.le_of_ble_eq_true rfl⟩ dX5_write_11 rfl rfl (Nat.le_of_ble_eq_true rfl) (Nat.le_refl _) (Nat.le_refl _) (t_X5_in ?_)
  refine Rn.top (congrArg bi (inL_W (by omega) (by omega))) ?_
  refine Rn.if_neB (tgt := 20) dX5_write_14 rfl (by decide) (fun c14 => ?_) (fun c14 => ?_)
  · obtain ⟨y, hy, rfl⟩ := isW_of c14 (by omega)
    refine Rn.aload_n dX5_write_20 rfl rfl ?_
    refine Rn.getf f_X5_84 dX5_write_21 rfl (hs_eq _ _ _) (Nat.lt_of_le_of_lt (Nat.le_of_ble_eq_true rfl) ML) rfl ?_
    refine Rn.bipush dX5_write_24 rfl bp_80 ?_
    refine Rn.icmp_neN (tgt := 32) dX5_write_26 rfl (by decide) (by omega) (by omega) (fun c26 => ?_) (fun c26 => ?_)
    · refine Rn.aload_n dX5_write_32 rfl rfl ?_
      refine Rn.getf f_X5_7 dX5_write_33 rfl (hs_eq _ _ _) (Nat.lt_of_le_of_lt (Nat.le_of_ble_eq_true rfl) ML) rfl ?_
      refine Rn.aload_n dX5_write_36 rfl rfl ?_
      refine Rn.getf f_X5_84 dX5_write_37 rfl (hs_eq _ _ _) (Nat.lt_of_le_of_lt (Nat.le_of_ble_eq_true rfl) ML) rfl ?_
      refine Rn.iload_n dX5_write_40 rfl rfl ?_
      refine Rn.iastN dX5_write_41 rfl ((hs_ne _ _ (by decide)).trans M16) (Nat.lt_of_le_of_lt (Nat.le_of_ble_eq_true rfl) ML) (by omega) (by omega) ?_
      rw [upd_na]
      refine Rn.aload_n dX5_write_42 rfl rfl ?_
      refine Rn.dup dX5_write_43 rfl rfl ?_
      refine Rn.getf f_X5_84 dX5_write_44 rfl ((hs_ne _ _ (by decide)).trans (hs_eq _ _ _)) (Nat.lt_of_le_of_lt (Nat.le_of_ble_eq_true rfl) ML) rfl ?_
      refine Rn.iconst dX5_write_47 rfl ic_1 ?_
      refine Rn.iaddN dX5_write_48 rfl ?_
      refine Rn.putf p_X5_84 (fun h => by cases h) dX5_write_49 rfl ((hs_ne _ _ (by decide)).trans (hs_eq _ _ _)) (Nat.lt_of_le_of_lt (Nat.le_of_ble_eq_true rfl) ML) (fun g => ⟨rfl, rfl⟩) (Nat.le_of_ble_eq_true rfl) ?_
      refine Rn.heap (hs_d1 _ _ _ _ (by decide)) ?_
      refine Rn.aload_n dX5_write_52 rfl rfl ?_
      refine Rn.getf f_X5_84 dX5_write_53 rfl ((hs_ne _ _ (by decide)).trans (hs_eq _ _ _)) (Nat.lt_of_le_of_lt (Nat.le_of_ble_eq_true rfl) ML) rfl ?_
      refine Rn.iret dX5_write_56 rfl rfl rfl ?_
      have e0 : wrA t ln (nI y) = (nI (ln + 1), un t ln y, ln + 1) := by unfold wrA; rw [c14, if_pos rfl, if_neg c26, xn_nI (by omega)]
      rw [e0] at k
      exact (k _ ⟨_, _, _, _, _, _, _, _, _, _, ((hs_ne _ _ (by decide)).trans (hs_eq _ _ _)), (hs_eq _ _ _), ((hs_ne _ _ (by decide)).trans ((hs_ne _ _ (by decide)).trans M17)), ((hs_ne _ _ (by decide)).trans ((hs_ne _ _ (by decide)).trans M18)), ((hs_ne _ _ (by decide)).trans ((hs_ne _ _ (by decide)).trans M19)), ((hs_ne _ _ (by decide)).trans ((hs_ne _ _ (by decide)).trans M20)), ((hs_ne _ _ (by decide)).trans ((hs_ne _ _ (by decide)).trans M21)), ((hs_ne _ _ (by decide)).trans ((hs_ne _ _ (by decide)).trans M22)), ((hs_ne _ _ (by decide)).trans ((hs_ne _ _ (by decide)).trans M23)), ((hs_ne _ _ (by decide)).trans ((hs_ne _ _ (by decide)).trans M24)), ((hs_ne _ _ (by decide)).trans ((hs_ne _ _ (by decide)).trans M25)), ((hs_ne _ _ (by decide)).trans ((hs_ne _ _ (by decide)).trans M26)), ((hs_ne _ _ (by decide)).trans ((hs_ne _ _ (by decide)).trans M27)), ML, RMh, RKh⟩ (((Fm.rf h).hs _ (by decide)).hs _ (by decide)))
    · refine Rn.bipush dX5_write_29 rfl bp_m4 ?_
      refine Rn.iret dX5_write_31 rfl rfl rfl ?_
      have e0 : wrA t ln (nI y) = (-4, t, ln) := by unfold wrA; rw [c14, if_pos rfl, if_pos c26]
      rw [e0] at k
      exact (k _ ⟨_, _, _, _, _, _, _, _, _, _, (hs_eq _ _ _), ((hs_ne _ _ (by decide)).trans M16), ((hs_ne _ _ (by decide)).trans M17), ((hs_ne _ _ (by decide)).trans M18), ((hs_ne _ _ (by decide)).trans M19), ((hs_ne _ _ (by decide)).trans M20), ((hs_ne _ _ (by decide)).trans M21), ((hs_ne _ _ (by decide)).trans M22), ((hs_ne _ _ (by decide)).trans M23), ((hs_ne _ _ (by decide)).trans M24), ((hs_ne _ _ (by decide)).trans M25), ((hs_ne _ _ (by decide)).trans M26), ((hs_ne _ _ (by decide)).trans M27), ML, RMh, RKh⟩ ((Fm.rf h).hs _ (by decide)))
  · refine Rn.bipush dX5_write_17 rfl bp_m2 ?_
    refine Rn.iret dX5_write_19 rfl rfl rfl ?_
    have e0 : wrA t ln x = (-2, t, ln) := by unfold wrA; rw [c14]; rfl
    rw [e0] at k
    exact (k _ ⟨_, _, _, _, _, _, _, _, _, _, (hs_eq _ _ _), ((hs_ne _ _ (by decide)).trans M16), ((hs_ne _ _ (by decide)).trans M17), ((hs_ne _ _ (by decide)).trans M18), ((hs_ne _ _ (by decide)).trans M19), ((hs_ne _ _ (by decide)).trans M20), ((hs_ne _ _ (by decide)).trans M21), ((hs_ne _ _ (by decide)).trans M22), ((hs_ne _ _ (by decide)).trans M23), ((hs_ne _ _ (by decide)).trans M24), ((hs_ne _ _ (by decide)).trans M25), ((hs_ne _ _ (by decide)).trans M26), ((hs_ne _ _ (by decide)).trans M27), ML, RMh, RKh⟩ ((Fm.rf h).hs _ (by decide)))
theorem t_X5_see {h : rHp} {Q : Option Value → rHp → Prop} {t : Nat → Nat} {ln : Nat} {p : Nat → Nat} {U : Nat → Nat → Nat} {a : Nat} {Kp : Nat → Nat → Nat} {ik : Nat → Bool} {su sp sn : Nat → Nat} {sz : Nat} {d : Int64} (I : MI h t ln p U a Kp ik su sp sn sz d) (O : OKs t ln p U a Kp ik su sp sn sz) {x i v : Int32} (k : ∀ h', MI h' t ln p U a Kp ik (syA su sp sn sz x i v).2.1 (syA su sp sn sz x i v).2.2.1 (syA su sp sn sz x i v).2.2.2.1 (syA su sp sn sz x i v).2.2.2.2 d → Fm h h' → Q (some (.int ((syA su sp sn sz x i v).1))) h') : Cl M_X5_see h.1 h.2.1 [.ref 15, .int x, .int i, .int v] h Q := by
  obtain ⟨th, pl, rm, rp, ev, tp, BK, KM, IK, FF, M15, M16, M17, M18, M19, M20, M21, M22, M23, M24, M25, M26, M27, ML, RMh, RKh⟩ := id I
  obtain ⟨Ot, Oln, Op, OU, OK2, Osz, Osu, Osp, Osn⟩ := id O
  refine Cl.of pl_X5 (Nat.le_of_ble_eq_true rfl) (by first | exact Nat.le_refl _ | omega) (by first | exact Nat.le_refl _ | omega) ?_
  refine Rn.aload_n dX5_see_0 rfl rfl ?_
  refine Rn.iconst dX5_see_1 rfl ic_0 ?_
  refine Rn.putf p_X5_51 (fun h => by cases h) dX5_see_2 rfl M15 (Nat.lt_of_le_of_lt (Nat.le_of_ble_eq_true rfl) ML) (fun g => ⟨rfl, rfl⟩) (Nat.le_of_ble_eq_true rfl) ?_
  refine Rn.iload_n dX5_see_5 rfl rfl ?_
  refine Rn.i2l dX5_see_6 rfl ?_
  refine Rn.lconst dX5_see_7 rfl lc_0 ?_
  refine Rn.ldc2 dX5_see_8 rfl k_X5_171 ?_
  refine Rn.topl lL_3 ?_
  refine Rn.callS (as := [_, _, _]) s_X5_in l_X5_57 ⟨Nat.le_of_ble_eq_true rfl, Nat.le_of_ble_eq_true rfl⟩ dX5_see_11 rfl rfl (Nat.le_of_ble_eq_true rfl) (Nat.le_refl _) (Nat.le_refl _) (t_X5_in ?_)
  refine Rn.top (congrArg bi (inL_W (by omega) (by omega))) ?_
  refine Rn.if_neB (tgt := 19) dX5_see_14 rfl (by decide) (fun c14 => ?_) (fun c14 => ?_)
  · refine Rn.iload_n dX5_see_19 rfl rfl ?_
    refine Rn.i2l dX5_see_20 rfl ?_
    refine Rn.lconst dX5_see_21 rfl lc_0 ?_
    refine Rn.ldc2 dX5_see_22 rfl k_X5_173 ?_
    refine Rn.topl lL_29 ?_
    refine Rn.callS (as := [_, _, _]) s_X5_in l_X5_57 ⟨Nat.le_of_ble_eq_true rfl, Nat.le_of_ble_eq_true rfl⟩ dX5_see_25 rfl rfl (Nat.le_of_ble_eq_true rfl) (Nat.le_refl _) (Nat.le_refl _) (t_X5_in ?_)
    refine Rn.top (congrArg bi (inL_W (by omega) (by omega))) ?_
    refine Rn.if_eqB (tgt := 38) dX5_see_28 rfl (by decide) (fun c28 => ?_) (fun c28 => ?_)
    · refine Rn.bipush dX5_see_38 rfl bp_m2 ?_
      refine Rn.iret dX5_see_40 rfl rfl rfl ?_
      first | (have e1 : syA su sp sn sz x i v = (-2, su, sp, sn, sz) := by unfold syA; rw [c14, c28]; rfl); rw [e1] at k; exact (k _ ⟨_, _, _, _, _, _, _, _, _, _, (hs_eq _ _ _), ((hs_ne _ _ (by decide)).trans M16), ((hs_ne _ _ (by decide)).trans M17), ((hs_ne _ _ (by decide)).trans M18), ((hs_ne _ _ (by decide)).trans M19), ((hs_ne _ _ (by decide)).trans M20), ((hs_ne _ _ (by decide)).trans M21), ((hs_ne _ _ (by decide)).trans M22), ((hs_ne _ _ (by decide)).trans M23), ((hs_ne _ _ (by decide)).trans M24), ((hs_ne _ _ (by decide)).trans M25), ((hs_ne _ _ (by decide)).trans M26), ((hs_ne _ _ (by decide)).trans M27), ML, RMh, RKh⟩ ((Fm.rf h).hs _ (by decide))) | (have e1 : syA su sp sn sz x i v = (-2, su, sp, sn, sz) := by unfold syA; rw [c14, c35, Bool.and_false]; rfl); rw [e1] at k; exact (k _ ⟨_, _, _, _, _, _, _, _, _, _, (hs_eq _ _ _), ((hs_ne _ _ (by decide)).trans M16), ((hs_ne _ _ (by decide)).trans M17), ((hs_ne _ _ (by decide)).trans M18), ((hs_ne _ _ (by decide)).trans M19), ((hs_ne _ _ (by decide)).trans M20), ((hs_ne _ _ (by decide)).trans M21), ((hs_ne _ _ (by decide)).trans M22), ((hs_ne _ _ (by decide)).trans M23), ((hs_ne _ _ (by decide)).trans M24), ((hs_ne _ _ (by decide)).trans M25), ((hs_ne _ _ (by decide)).trans M26), ((hs_ne _ _ (by decide)).trans M27), ML, RMh, RKh⟩ ((Fm.rf h).hs _ (by decide)))
    · refine Rn.iload_n dX5_see_31 rfl rfl ?_
      refine Rn.callS (as := [_]) s_X5_isNumber l_X5_139 ⟨Nat.le_of_ble_eq_true rfl, Nat.le_of_ble_eq_true rfl⟩ dX5_see_32 rfl rfl (Nat.le_of_ble_eq_true rfl) (Nat.le_refl _) (Nat.le_refl _) (t_X5_isNumber ?_)
      refine Rn.if_neB (tgt := 41) dX5_see_35 rfl (by decide) (fun c35 => ?_) (fun c35 => ?_)
      · obtain ⟨y1, hy1, rfl⟩ := isW_of c14 (by omega)
        obtain ⟨y2, hy2, rfl⟩ := isW_of c28 (by omega)
        obtain ⟨y3, hy3, rfl⟩ := isW_of c35 (by omega)
        refine Rn.aload_n dX5_see_41 rfl rfl ?_
        refine Rn.getf f_X5_175 dX5_see_42 rfl (hs_eq _ _ _) (Nat.lt_of_le_of_lt (Nat.le_of_ble_eq_true rfl) ML) rfl ?_
        refine Rn.bipush dX5_see_45 rfl bp_6 ?_
        refine Rn.icmp_neN (tgt := 53) dX5_see_47 rfl (by decide) (by omega) (by omega) (fun c47 => ?_) (fun c47 => ?_)
        · refine Rn.aload_n dX5_see_53 rfl rfl ?_
          refine Rn.getf f_X5_35 dX5_see_54 rfl (hs_eq _ _ _) (Nat.lt_of_le_of_lt (Nat.le_of_ble_eq_true rfl) ML) rfl ?_
          refine Rn.aload_n dX5_see_57 rfl rfl ?_
          refine Rn.getf f_X5_175 dX5_see_58 rfl (hs_eq _ _ _) (Nat.lt_of_le_of_lt (Nat.le_of_ble_eq_true rfl) ML) rfl ?_
          refine Rn.iload_n dX5_see_61 rfl rfl ?_
          refine Rn.iastN dX5_see_62 rfl ((hs_ne _ _ (by decide)).trans M24) (Nat.lt_of_le_of_lt (Nat.le_of_ble_eq_true rfl) ML) (by omega) (by omega) ?_
          rw [upd_na]
          refine Rn.aload_n dX5_see_63 rfl rfl ?_
          refine Rn.getf f_X5_38 dX5_see_64 rfl ((hs_ne _ _ (by decide)).trans (hs_eq _ _ _)) (Nat.lt_of_le_of_lt (Nat.le_of_ble_eq_true rfl) ML) rfl ?_
          refine Rn.aload_n dX5_see_67 rfl rfl ?_
          refine Rn.getf f_X5_175 dX5_see_68 rfl ((hs_ne _ _ (by decide)).trans (hs_eq _ _ _)) (Nat.lt_of_le_of_lt (Nat.le_of_ble_eq_true rfl) ML) rfl ?_
          refine Rn.iload_n dX5_see_71 rfl rfl ?_
          refine Rn.iastN dX5_see_72 rfl ((hs_ne _ _ (by decide)).trans ((hs_ne _ _ (by decide)).trans M25)) (Nat.lt_of_le_of_lt (Nat.le_of_ble_eq_true rfl) ML) (by omega) (by omega) ?_
          rw [upd_na]
          refine Rn.aload_n dX5_see_73 rfl rfl ?_
          refine Rn.getf f_X5_41 dX5_see_74 rfl ((hs_ne _ _ (by decide)).trans ((hs_ne _ _ (by decide)).trans (hs_eq _ _ _))) (Nat.lt_of_le_of_lt (Nat.le_of_ble_eq_true rfl) ML) rfl ?_
          refine Rn.aload_n dX5_see_77 rfl rfl ?_
          refine Rn.getf f_X5_175 dX5_see_78 rfl ((hs_ne _ _ (by decide)).trans ((hs_ne _ _ (by decide)).trans (hs_eq _ _ _))) (Nat.lt_of_le_of_lt (Nat.le_of_ble_eq_true rfl) ML) rfl ?_
          refine Rn.iload_n dX5_see_81 rfl rfl ?_
          refine Rn.iastN dX5_see_82 rfl ((hs_ne _ _ (by decide)).trans ((hs_ne _ _ (by decide)).trans ((hs_ne _ _ (by decide)).trans M26))) (Nat.lt_of_le_of_lt (Nat.le_of_ble_eq_true rfl) ML) (by omega) (by omega) ?_
          rw [upd_na]
          refine Rn.aload_n dX5_see_83 rfl rfl ?_
          refine Rn.dup dX5_see_84 rfl rfl ?_
          refine Rn.getf f_X5_175 dX5_see_85 rfl ((hs_ne _ _ (by decide)).trans ((hs_ne _ _ (by decide)).trans ((hs_ne _ _ (by decide)).trans (hs_eq _ _ _)))) (Nat.lt_of_le_of_lt (Nat.le_of_ble_eq_true rfl) ML) rfl ?_
          refine Rn.iconst dX5_see_88 rfl ic_1 ?_
          refine Rn.iaddN dX5_see_89 rfl ?_
          refine Rn.putf p_X5_175 (fun h => by cases h) dX5_see_90 rfl ((hs_ne _ _ (by decide)).trans ((hs_ne _ _ (by decide)).trans ((hs_ne _ _ (by decide)).trans (hs_eq _ _ _)))) (Nat.lt_of_le_of_lt (Nat.le_of_ble_eq_true rfl) ML) (fun g => ⟨rfl, rfl⟩) (Nat.le_of_ble_eq_true rfl) ?_
          refine Rn.heap (hs_d3 _ _ _ _ _ _ (by decide) (by decide) (by decide)) ?_
          refine Rn.aload_n dX5_see_93 rfl rfl ?_
          refine Rn.getf f_X5_175 dX5_see_94 rfl ((hs_ne _ _ (by decide)).trans ((hs_ne _ _ (by decide)).trans ((hs_ne _ _ (by decide)).trans (hs_eq _ _ _)))) (Nat.lt_of_le_of_lt (Nat.le_of_ble_eq_true rfl) ML) rfl ?_
          refine Rn.iret dX5_see_97 rfl rfl rfl ?_
          have e1 : syA su sp sn sz (nI y1) (nI y2) (nI y3) = (nI (sz + 1), un su sz y1, un sp sz y2, un sn sz y3, sz + 1) := by unfold syA; rw [c14, c28, c35, if_pos rfl, Bool.and_self, if_pos rfl, if_neg c47, xn_nI (by omega), xn_nI (by omega), xn_nI (by omega)]
          rw [e1] at k
          exact (k _ ⟨_, _, _, _, _, _, _, _, _, _, ((hs_ne _ _ (by decide)).trans ((hs_ne _ _ (by decide)).trans ((hs_ne _ _ (by decide)).trans (hs_eq _ _ _)))), ((hs_ne _ _ (by decide)).trans ((hs_ne _ _ (by decide)).trans ((hs_ne _ _ (by decide)).trans ((hs_ne _ _ (by decide)).trans M16)))), ((hs_ne _ _ (by decide)).trans ((hs_ne _ _ (by decide)).trans ((hs_ne _ _ (by decide)).trans ((hs_ne _ _ (by decide)).trans M17)))), ((hs_ne _ _ (by decide)).trans ((hs_ne _ _ (by decide)).trans ((hs_ne _ _ (by decide)).trans ((hs_ne _ _ (by decide)).trans M18)))), ((hs_ne _ _ (by decide)).trans ((hs_ne _ _ (by decide)).trans ((hs_ne _ _ (by decide)).trans ((hs_ne _ _ (by decide)).trans M19)))), ((hs_ne _ _ (by decide)).trans ((hs_ne _ _ (by decide)).trans ((hs_ne _ _ (by decide)).trans ((hs_ne _ _ (by decide)).trans M20)))), ((hs_ne _ _ (by decide)).trans ((hs_ne _ _ (by decide)).trans ((hs_ne _ _ (by decide)).trans ((hs_ne _ _ (by decide)).trans M21)))), ((hs_ne _ _ (by decide)).trans ((hs_ne _ _ (by decide)).trans ((hs_ne _ _ (by decide)).trans ((hs_ne _ _ (by decide)).trans M22)))), ((hs_ne _ _ (by decide)).trans ((hs_ne _ _ (by decide)).trans ((hs_ne _ _ (by decide)).trans ((hs_ne _ _ (by decide)).trans M23)))), ((hs_ne _ _ (by decide)).trans ((hs_ne _ _ (by decide)).trans (hs_eq _ _ _))), ((hs_ne _ _ (by decide)).trans (hs_eq _ _ _)), (hs_eq _ _ _), ((hs_ne _ _ (by decide)).trans ((hs_ne _ _ (by decide)).trans ((hs_ne _ _ (by decide)).trans ((hs_ne _ _ (by decide)).trans M27)))), ML, RMh, RKh⟩ (((((Fm.rf h).hs _ (by decide)).hs _ (by decide)).hs _ (by decide)).hs _ (by decide)))
        · refine Rn.bipush dX5_see_50 rfl bp_m4 ?_
          refine Rn.iret dX5_see_52 rfl rfl rfl ?_
          have e1 : syA su sp sn sz (nI y1) (nI y2) (nI y3) = (-4, su, sp, sn, sz) := by unfold syA; rw [c14, c28, c35, if_pos rfl, Bool.and_self, if_pos rfl, if_pos c47]
          rw [e1] at k
          exact (k _ ⟨_, _, _, _, _, _, _, _, _, _, (hs_eq _ _ _), ((hs_ne _ _ (by decide)).trans M16), ((hs_ne _ _ (by decide)).trans M17), ((hs_ne _ _ (by decide)).trans M18), ((hs_ne _ _ (by decide)).trans M19), ((hs_ne _ _ (by decide)).trans M20), ((hs_ne _ _ (by decide)).trans M21), ((hs_ne _ _ (by decide)).trans M22), ((hs_ne _ _ (by decide)).trans M23), ((hs_ne _ _ (by decide)).trans M24), ((hs_ne _ _ (by decide)).trans M25), ((hs_ne _ _ (by decide)).trans M26), ((hs_ne _ _ (by decide)).trans M27), ML, RMh, RKh⟩ ((Fm.rf h).hs _ (by decide)))
      · refine Rn.bipush dX5_see_38 rfl bp_m2 ?_
        refine Rn.iret dX5_see_40 rfl rfl rfl ?_
        first | (have e1 : syA su sp sn sz x i v = (-2, su, sp, sn, sz) := by unfold syA; rw [c14, c28]; rfl); rw [e1] at k; exact (k _ ⟨_, _, _, _, _, _, _, _, _, _, (hs_eq _ _ _), ((hs_ne _ _ (by decide)).trans M16), ((hs_ne _ _ (by decide)).trans M17), ((hs_ne _ _ (by decide)).trans M18), ((hs_ne _ _ (by decide)).trans M19), ((hs_ne _ _ (by decide)).trans M20), ((hs_ne _ _ (by decide)).trans M21), ((hs_ne _ _ (by decide)).trans M22), ((hs_ne _ _ (by decide)).trans M23), ((hs_ne _ _ (by decide)).trans M24), ((hs_ne _ _ (by decide)).trans M25), ((hs_ne _ _ (by decide)).trans M26), ((hs_ne _ _ (by decide)).trans M27), ML, RMh, RKh⟩ ((Fm.rf h).hs _ (by decide))) | (have e1 : syA su sp sn sz x i v = (-2, su, sp, sn, sz) := by unfold syA; rw [c14, c35, Bool.and_false]; rfl); rw [e1] at k; exact (k _ ⟨_, _, _, _, _, _, _, _, _, _, (hs_eq _ _ _), ((hs_ne _ _ (by decide)).trans M16), ((hs_ne _ _ (by decide)).trans M17), ((hs_ne _ _ (by decide)).trans M18), ((hs_ne _ _ (by decide)).trans M19), ((hs_ne _ _ (by decide)).trans M20), ((hs_ne _ _ (by decide)).trans M21), ((hs_ne _ _ (by decide)).trans M22), ((hs_ne _ _ (by decide)).trans M23), ((hs_ne _ _ (by decide)).trans M24), ((hs_ne _ _ (by decide)).trans M25), ((hs_ne _ _ (by decide)).trans M26), ((hs_ne _ _ (by decide)).trans M27), ML, RMh, RKh⟩ ((Fm.rf h).hs _ (by decide)))
  · refine Rn.iconst dX5_see_17 rfl ic_m1 ?_
    refine Rn.iret dX5_see_18 rfl rfl rfl ?_
    have e1 : syA su sp sn sz x i v = (-1, su, sp, sn, sz) := by unfold syA; rw [c14]; rfl
    rw [e1] at k
    exact (k _ ⟨_, _, _, _, _, _, _, _, _, _, (hs_eq _ _ _), ((hs_ne _ _ (by decide)).trans M16), ((hs_ne _ _ (by decide)).trans M17), ((hs_ne _ _ (by decide)).trans M18), ((hs_ne _ _ (by decide)).trans M19), ((hs_ne _ _ (by decide)).trans M20), ((hs_ne _ _ (by decide)).trans M21), ((hs_ne _ _ (by decide)).trans M22), ((hs_ne _ _ (by decide)).trans M23), ((hs_ne _ _ (by decide)).trans M24), ((hs_ne _ _ (by decide)).trans M25), ((hs_ne _ _ (by decide)).trans M26), ((hs_ne _ _ (by decide)).trans M27), ML, RMh, RKh⟩ ((Fm.rf h).hs _ (by decide)))
theorem t_X5_fittingOf {h : rHp} {Q : Option Value → rHp → Prop} {th ts pl rm dg sz : Nat} {sd : Int64} {p : Nat → Nat} (M15 : h.2.2 15 = moO th ts pl rm dg sz sd) (M19 : h.2.2 19 = .inl (36, pg p)) (ML : 27 < h.1) (Op : OKp p) {s : Nat} (hs : s < 100000) (k : Q (some (.int (nI (cnt (anS p s) 251)))) h) : Cl M_X5_fittingOf h.1 h.2.1 [.ref 15, .int (nI s)] h Q := by
  refine Cl.of pl_X5 (Nat.le_of_ble_eq_true rfl) (by first | exact Nat.le_refl _ | omega) (by first | exact Nat.le_refl _ | omega) ?_
  refine Rn.iconst dX5_fittingOf_0 rfl ic_0 ?_
  refine Rn.istore_n dX5_fittingOf_1 rfl (Nat.le_of_ble_eq_true rfl) ?_
  refine Rn.iconst dX5_fittingOf_2 rfl ic_0 ?_
  refine Rn.istore_n dX5_fittingOf_3 rfl (Nat.le_of_ble_eq_true rfl) ?_
  have hloop : ∀ (m : Nat) (i : Nat), 251 - i < m → i ≤ 251 → Rn (M_X5_fittingOf, none, h.1, h.2.1) Q 4 [(0, .ref 15), (1, .int (nI s)), (2, .int (nI (cnt (anS p s) i))), (3, .int (nI i))] [] h := by
    intro m
    induction m with
    | zero => intro i h0 h1; exact absurd h0 (Nat.not_lt_zero _)
    | succ m ih =>
      intro i h0 h1
      have hc := cnt_le (anS p s) i
      have h24 := Op.1
      refine Rn.iload_n dX5_fittingOf_4 rfl rfl ?_
      refine Rn.sipush dX5_fittingOf_5 rfl sp_251 ?_
      refine Rn.icmp_geN (tgt := 88) dX5_fittingOf_8 rfl (by decide) (by omega) (by omega) (fun c8 => ?_) (fun c8 => ?_)
      · refine Rn.iload_n dX5_fittingOf_88 rfl rfl ?_
        refine Rn.iret dX5_fittingOf_89 rfl rfl rfl ?_
        rw [show i = 251 by omega]
        exact k
      · refine Rn.iconst dX5_fittingOf_11 rfl ic_0 ?_
        refine Rn.istore dX5_fittingOf_12 rfl (Nat.le_of_ble_eq_true rfl) ?_
        refine Rn.iconst dX5_fittingOf_14 rfl ic_0 ?_
        refine Rn.istore dX5_fittingOf_15 rfl (Nat.le_of_ble_eq_true rfl) ?_
        have hloop2 : ∀ (m : Nat) (w : Nat), p 24 - w < m → w ≤ p 24 → Rn (M_X5_fittingOf, none, h.1, h.2.1) Q 17 [(0, .ref 15), (1, .int (nI s)), (2, .int (nI (cnt (anS p s) i))), (3, .int (nI i)), (4, .int (bi (anyB (fun w => bt s w && fB p w i) w))), (5, .int (nI w))] [] h := by
          intro m
          induction m with
          | zero => intro w h0 h1; exact absurd h0 (Nat.not_lt_zero _)
          | succ m ih2 =>
            intro w h0 h1
            have h24 := Op.1
            refine Rn.iload dX5_fittingOf_17 rfl rfl ?_
            refine Rn.aload_n dX5_fittingOf_19 rfl rfl ?_
            refine Rn.getf f_X5_19 dX5_fittingOf_20 rfl M15 (Nat.lt_of_le_of_lt (Nat.le_of_ble_eq_true rfl) ML) rfl ?_
            refine Rn.bipush dX5_fittingOf_23 rfl bp_24 ?_
            refine Rn.ialdN dX5_fittingOf_25 rfl M19 (Nat.lt_of_le_of_lt (Nat.le_of_ble_eq_true rfl) ML) (by omega) (by omega) ?_
            refine Rn.top (pg_n _ (by omega) (by omega)) ?_
            refine Rn.icmp_geN (tgt := 69) dX5_fittingOf_26 rfl (by decide) (by omega) (by omega) (fun c26 => ?_) (fun c26 => ?_)
            · obtain rfl : w = p 24 := by omega
              refine Rn.iload_n dX5_fittingOf_69 rfl rfl ?_
              refine Rn.iload dX5_fittingOf_70 rfl rfl ?_
              refine Rn.if_eqB (tgt := 79) dX5_fittingOf_72 rfl (by decide) (fun c72 => ?_) (fun c72 => ?_)
              · refine Rn.iconst dX5_fittingOf_79 rfl ic_0 ?_
                refine Rn.top (y := nI (if anS p s i then 1 else 0)) (by unfold anS; rw [c72]; rfl) ?_
                refine Rn.iaddN dX5_fittingOf_80 rfl ?_
                refine Rn.istore_n dX5_fittingOf_81 rfl (Nat.le_of_ble_eq_true rfl) ?_
                refine Rn.iincN dX5_fittingOf_82 rfl rfl (Nat.le_of_ble_eq_true rfl) ?_
                refine Rn.goto (tgt := 4) dX5_fittingOf_85 (by decide) ?_
                exact Rn.pick [2, 3, 1, 0] rfl (ih (i + 1) (by omega) (by omega))
              · refine Rn.iconst dX5_fittingOf_75 rfl ic_1 ?_
                refine Rn.top (y := nI (if anS p s i then 1 else 0)) (by unfold anS; rw [c72]; rfl) ?_
                refine Rn.goto (tgt := 80) dX5_fittingOf_76 (by decide) ?_
                refine Rn.iaddN dX5_fittingOf_80 rfl ?_
                refine Rn.istore_n dX5_fittingOf_81 rfl (Nat.le_of_ble_eq_true rfl) ?_
                refine Rn.iincN dX5_fittingOf_82 rfl rfl (Nat.le_of_ble_eq_true rfl) ?_
                refine Rn.goto (tgt := 4) dX5_fittingOf_85 (by decide) ?_
                exact Rn.pick [2, 3, 1, 0] rfl (ih (i + 1) (by omega) (by omega))
            · refine Rn.iload dX5_fittingOf_29 rfl rfl ?_
              refine Rn.if_neB (tgt := 56) dX5_fittingOf_31 rfl (by decide) (fun c31 => ?_) (fun c31 => ?_)
              · refine Rn.iconst dX5_fittingOf_56 rfl ic_1 ?_
                refine Rn.top (y := bi (anyB (fun w => bt s w && fB p w i) (w + 1))) (by first | exact anyB_l c31 | exact anyB_r (f := fun w => bt s w && fB p w i) (by show (bt s w && fB p w i) = true; unfold fB; rw [c40, decide_eq_true (show 0 < fitP p w i by omega)]; rfl)) ?_
                refine Rn.goto (tgt := 61) dX5_fittingOf_57 (by decide) ?_
                refine Rn.istore dX5_fittingOf_61 rfl (Nat.le_of_ble_eq_true rfl) ?_
                refine Rn.iincN dX5_fittingOf_63 rfl rfl (Nat.le_of_ble_eq_true rfl) ?_
                refine Rn.goto (tgt := 17) dX5_fittingOf_66 (by decide) ?_
                exact Rn.pick [2, 3, 4, 5, 1, 0] rfl (ih2 (w + 1) (by omega) (by omega))
              · refine Rn.iload_n dX5_fittingOf_34 rfl rfl ?_
                refine Rn.iload dX5_fittingOf_35 rfl rfl ?_
                refine Rn.callS (as := [_, _]) s_X5_has l_X5_152 ⟨Nat.le_of_ble_eq_true rfl, Nat.le_of_ble_eq_true rfl⟩ dX5_fittingOf_37 rfl rfl (Nat.le_of_ble_eq_true rfl) (Nat.le_refl _) (Nat.le_refl _) (t_X5_has (by omega) (by omega) ?_)
                refine Rn.if_eqB (tgt := 60) dX5_fittingOf_40 rfl (by decide) (fun c40 => ?_) (fun c40 => ?_)
                · refine Rn.iconst dX5_fittingOf_60 rfl ic_0 ?_
                  refine Rn.top (y := bi (anyB (fun w => bt s w && fB p w i) (w + 1))) (anyB_n (f := fun w => bt s w && fB p w i) c31 (by first | (show (bt s w && fB p w i) = false; rw [c40]; rfl) | (show (bt s w && fB p w i) = false; unfold fB; rw [c53, Bool.and_comm]; rfl))) ?_
                  refine Rn.istore dX5_fittingOf_61 rfl (Nat.le_of_ble_eq_true rfl) ?_
                  refine Rn.iincN dX5_fittingOf_63 rfl rfl (Nat.le_of_ble_eq_true rfl) ?_
                  refine Rn.goto (tgt := 17) dX5_fittingOf_66 (by decide) ?_
                  exact Rn.pick [2, 3, 4, 5, 1, 0] rfl (ih2 (w + 1) (by omega) (by omega))
                · refine Rn.aload_n dX5_fittingOf_43 rfl rfl ?_
                  refine Rn.getf f_X5_19 dX5_fittingOf_44 rfl M15 (Nat.lt_of_le_of_lt (Nat.le_of_ble_eq_true rfl) ML) rfl ?_
                  refine Rn.iload dX5_fittingOf_47 rfl rfl ?_
                  refine Rn.iload_n dX5_fittingOf_49 rfl rfl ?_
                  refine Rn.callS (as := [_, _, _]) s_X5_fitsOn l_X5_65 ⟨Nat.le_of_ble_eq_true rfl, Nat.le_of_ble_eq_true rfl⟩ dX5_fittingOf_50 rfl rfl (Nat.le_of_ble_eq_true rfl) (Nat.le_refl _) (Nat.le_refl _) (t_X5_fitsOn ⟨M19, (Nat.lt_of_le_of_lt (Nat.le_of_ble_eq_true rfl) ML)⟩ Op (by omega) (by omega) ?_)
                  have hfl := fitP_le p w i
                  have hl30 := (Op.us (show w < 4 by omega)).2.2.2.2.2
                  refine Rn.if_leN (tgt := 60) dX5_fittingOf_53 rfl (by decide) (by omega) (fun c53 => ?_) (fun c53 => ?_)
                  · refine Rn.iconst dX5_fittingOf_60 rfl ic_0 ?_
                    refine Rn.top (y := bi (anyB (fun w => bt s w && fB p w i) (w + 1))) (anyB_n (f := fun w => bt s w && fB p w i) c31 (by first | (show (bt s w && fB p w i) = false; rw [c40]; rfl) | (show (bt s w && fB p w i) = false; unfold fB; rw [c53, Bool.and_comm]; rfl))) ?_
                    refine Rn.istore dX5_fittingOf_61 rfl (Nat.le_of_ble_eq_true rfl) ?_
                    refine Rn.iincN dX5_fittingOf_63 rfl rfl (Nat.le_of_ble_eq_true rfl) ?_
                    refine Rn.goto (tgt := 17) dX5_fittingOf_66 (by decide) ?_
                    exact Rn.pick [2, 3, 4, 5, 1, 0] rfl (ih2 (w + 1) (by omega) (by omega))
                  · refine Rn.iconst dX5_fittingOf_56 rfl ic_1 ?_
                    refine Rn.top (y := bi (anyB (fun w => bt s w && fB p w i) (w + 1))) (by first | exact anyB_l c31 | exact anyB_r (f := fun w => bt s w && fB p w i) (by show (bt s w && fB p w i) = true; unfold fB; rw [c40, decide_eq_true (show 0 < fitP p w i by omega)]; rfl)) ?_
                    refine Rn.goto (tgt := 61) dX5_fittingOf_57 (by decide) ?_
                    refine Rn.istore dX5_fittingOf_61 rfl (Nat.le_of_ble_eq_true rfl) ?_
                    refine Rn.iincN dX5_fittingOf_63 rfl rfl (Nat.le_of_ble_eq_true rfl) ?_
                    refine Rn.goto (tgt := 17) dX5_fittingOf_66 (by decide) ?_
                    exact Rn.pick [2, 3, 4, 5, 1, 0] rfl (ih2 (w + 1) (by omega) (by omega))
        exact Rn.pick [2, 3, 4, 5, 1, 0] rfl (hloop2 (p 24 + 1) 0 (by omega) (by omega))
  exact Rn.pick [2, 3, 1, 0] rfl (hloop 252 0 (by omega) (by omega))
