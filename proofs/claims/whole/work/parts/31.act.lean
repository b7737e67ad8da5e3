/-! ===== what the class's acts answer and do ===== -/
theorem isW_of2 {v : Int32} {lo hi : Nat} (h : isW v (nI lo) (nI hi) = true) (hl : lo < 2147483648) (hh : hi < 2147483648) : ∃ a, lo ≤ a ∧ a ≤ hi ∧ v = nI a := by
  unfold isW at h
  have h := of_decide_eq_true h
  rw [nI_toInt hh, nI_toInt hl] at h
  obtain ⟨j, hj, e⟩ := nI_of (x := v) (by rw [Int32.lt_iff_toInt_lt]; simp; omega)
  subst e
  rw [nI_toInt hj] at h
  exact ⟨j, by omega, by omega, rfl⟩
theorem isW_0n {x hi : Int32} (h : x < 0) : isW x (nI 0) hi = false := isW_lo (by rw [nI_0]; exact h)
theorem isW_0y {x hi : Int32} (h : ¬ x < 0) (h2 : x ≤ hi) : isW x (nI 0) hi = true := isW_ok (by rw [nI_0]; exact h) (by rw [Int32.lt_iff_toInt_lt]; rw [Int32.le_iff_toInt_le] at h2; omega)
theorem isW_0h {x hi : Int32} (h2 : ¬ x ≤ hi) : isW x (nI 0) hi = false := isW_hi (by rw [Int32.lt_iff_toInt_lt]; rw [Int32.le_iff_toInt_le] at h2; omega)
def seA (p : Nat → Nat) (x : Int32) : Int32 × Option (Nat → Nat) := if hasB (p 24) x then (if ownB p x then (nI (seK p (xn x)), some (seP p (xn x))) else (-3, none)) else (-1, none)
def miA (p : Nat → Nat) (x : Int32) : Int32 × Option (Nat → Nat) := if hasB (p 24) x then (if ownB p x then (nI (p (6 * xn x + 3) - 1), some (spP p (xn x))) else (-3, none)) else (-1, none)
def atA (p : Nat → Nat) (x v : Int32) : Int32 × Option (Nat → Nat) := if hasB (p 24) x then (if isW v (nI 0) (nI 250) then (nI (fitP p (xn x) (xn v)), some (brP p (xn x) (xn v))) else (-2, none)) else (-1, none)
def heA (p : Nat → Nat) : Int32 × Option (Nat → Nat) := if p 26 = 0 then (-3, none) else (if 8 ≤ p 27 then (-4, none) else (nI ((p 26 - 1) % 1000), some (ovP p)))
def reA (p : Nat → Nat) (x s t n : Int32) : Int32 × Option (Nat → Nat) := if hasB (p 24) x then (if isW s (nI 0) (nI 250) && (isW t (nI 0) (nI 250) && isW n (nI 1) (nI 30)) then (if ownB p x then (nI (seK p (xn x)), some (if 0 < seK p (xn x) then bgP (seP p (xn x)) (xn x) (xn s) (xn t) (xn n) else seP p (xn x))) else (-3, none)) else (-2, none)) else (-1, none)
def wdA (p : Nat → Nat) (w : Int32) : Int32 × Option (Nat → Nat) := if isW w (nI 1) (nI 6) then (nI (p 25), some (un p 25 (xn w))) else (-2, none)
/-- the state behind an act that was refused (none) or done -/
def CIA (h : rHp) (t : Nat → Nat) (ln : Nat) (p : Nat → Nat) (U : Nat → Nat → Nat) (a : Nat) (Kp : Nat → Nat → Nat) (ik : Nat → Bool) (su sp sn : Nat → Nat) (sz : Nat) (d : Int64) : Option (Nat → Nat) → Prop
  | none => CI h t ln p U a Kp ik su sp sn sz d
  | some p' => CI h t ln p' (pushU U a p) (min (a + 1) 14) Kp ik su sp sn sz d
theorem RB_push {B : Nat → Int32} {a n : Nat} {U : Nat → Nat → Nat} (R : RB B a n U) (p : Nat → Nat) : RB (va_cpy (cl p) B 0 (n * 36) 36) (min (a + 1) 14) ((n + 1) % 14) (pushU U a p) := by
  obtain ⟨hn, ha, hB⟩ := R
  refine ⟨by omega, by omega, fun j hj i hi => ?_⟩
  unfold pushU va_cpy
  by_cases h14 : a < 14
  · rw [Nat.min_eq_left (by omega)] at hj ⊢
    rw [if_pos h14]
    have es : ((n + 1) % 14 + 14 - (a + 1) + j) % 14 = (n + 14 - a + j) % 14 := by omega
    rw [es]
    by_cases e : j = a
    · rw [if_pos e]
      have e2 : (n + 14 - a + j) % 14 = n := by omega
      rw [e2, if_pos ⟨by omega, by omega⟩]
      congr 1; omega
    · rw [if_neg e]
      have e2 : (n + 14 - a + j) % 14 ≠ n := by omega
      generalize hs : (n + 14 - a + j) % 14 = s at e2
      rw [if_neg (by omega), ← hs]
      exact hB j (by omega) i hi
  · have e14 : a = 14 := by omega
    subst e14
    rw [if_neg h14]
    have hj : j < 14 := hj
    have es : ((n + 1) % 14 + 14 - min (14 + 1) 14 + j) % 14 = (n + 1 + j) % 14 := by
      rw [Nat.min_eq_right (by omega)]; omega
    rw [es]
    by_cases e : j = 13
    · rw [if_pos e]
      have e2 : (n + 1 + j) % 14 = n := by omega
      rw [e2, if_pos ⟨by omega, by omega⟩]
      congr 1; omega
    · rw [if_neg e]
      have e2 : (n + 1 + j) % 14 ≠ n := by omega
      generalize hs : (n + 1 + j) % 14 = s at e2
      rw [if_neg (by omega), ← hs]
      have := hB (j + 1) (by omega) i hi
      rw [show (n + 14 - 14 + (j + 1)) % 14 = (n + 1 + j) % 14 by omega] at this
      exact this
theorem Sh.rem {h : rHp} {B KP IK : Nat → Int32} {a n : Nat} (S : Sh h B KP IK a n) (B' : Nat → Int32) (a' n' : Nat) : Sh (hs (hs h 8 (.inl (504, B'))) 7 (shO a' n')) B' KP IK a' n' := ⟨hs_eq _ _ _, (hs_ne _ _ (by decide)).trans (hs_eq _ _ _), (hs_ne _ _ (by decide)).trans ((hs_ne _ _ (by decide)).trans S.2.2.1), (hs_ne _ _ (by decide)).trans ((hs_ne _ _ (by decide)).trans S.2.2.2.1), S.2.2.2.2⟩
theorem CI_act {h : rHp} {t : Nat → Nat} {ln : Nat} {p : Nat → Nat} {U : Nat → Nat → Nat} {a : Nat} {Kp : Nat → Nat → Nat} {ik : Nat → Bool} {su sp sn : Nat → Nat} {sz : Nat} {d : Int64} {pl : Nat} {pt : Nat → Nat} {B KP IK : Nat → Int32} {n : Nat} (C : Cx h d) (T : Tx h t ln pl) (H : Hl h 3 p) (G : Hl h 5 pt) (S : Sh h B KP IK a n) (E : Se h su sp sn sz) (R : RB B a n U) (RKh : RK KP IK Kp ik) (p' : Nat → Nat) :
    CI (hp (hs (hs h 8 (.inl (504, va_cpy (cl p) B 0 (n * 36) 36))) 7 (shO (min (a + 1) 14) ((n + 1) % 14))) 3 p') t ln p' (pushU U a p) (min (a + 1) 14) Kp ik su sp sn sz d :=
  ⟨pl, pt, _, KP, IK, _, ((C.other (by decide)).other (by decide)).other (by decide), ((T.other (by decide) (by decide)).other (by decide) (by decide)).other (by decide) (by decide), ((H.other (by decide) (by decide)).other (by decide) (by decide)).put p', ((G.other (by decide) (by decide)).other (by decide) (by decide)).other (by decide) (by decide), (S.rem _ _ _).other (by decide), ((E.other (by decide)).other (by decide)).other (by decide), RB_push R p, RKh⟩
theorem Fr_act {h : rHp} (c8 c7 c4 : rCell) : Fr h (hs (hs (hs h 8 c8) 7 c7) 4 c4) := (((Fr.rf h).hs _ (by decide)).hs _ (by decide)).hs _ (by decide)
def wrA (t : Nat → Nat) (ln : Nat) (x : Int32) : Int32 × (Nat → Nat) × Nat := if isW x (nI 0) (nI 255) then (if ln = 80 then (-4, t, ln) else (nI (ln + 1), un t ln (xn x), ln + 1)) else (-2, t, ln)
def unA (p : Nat → Nat) (U : Nat → Nat → Nat) (a : Nat) : Int32 × (Nat → Nat) × Nat := if a = 0 then (-3, p, a) else (nI (a - 1), U (a - 1), a - 1)
def syA (su sp sn : Nat → Nat) (sz : Nat) (u i v : Int32) : Int32 × (Nat → Nat) × (Nat → Nat) × (Nat → Nat) × Nat := if isW u (nI 0) (nI 3) then (if isW i (nI 0) (nI 29) && isW v (nI 0) (nI 250) then (if sz = 6 then (-4, su, sp, sn, sz) else (nI (sz + 1), un su sz (xn u), un sp sz (xn i), un sn sz (xn v), sz + 1)) else (-2, su, sp, sn, sz)) else (-1, su, sp, sn, sz)
def uK (K : Nat → Nat → Nat) (s : Nat) (p : Nat → Nat) : Nat → Nat → Nat := fun j => if j = s then p else K j
def uB (f : Nat → Bool) (s : Nat) (b : Bool) : Nat → Bool := fun j => if j = s then b else f j
def kpA (p : Nat → Nat) (Kp : Nat → Nat → Nat) (ik : Nat → Bool) (x : Int32) : Int32 × (Nat → Nat → Nat) × (Nat → Bool) := if isW x (nI 0) (nI 1) then (nI (p 24), uK Kp (xn x) p, uB ik (xn x) true) else (-1, Kp, ik)
def agA (p : Nat → Nat) (a : Nat) (Kp : Nat → Nat → Nat) (ik : Nat → Bool) (x : Int32) : Int32 × (Nat → Nat) × Nat := if isW x (nI 0) (nI 1) then (if ik (xn x) then (nI (Kp (xn x) 24), Kp (xn x), 0) else (-3, p, a)) else (-1, p, a)
def dkA (t : Nat → Nat) (ln : Nat) (p : Nat → Nat) (a : Nat) (ik : Nat → Bool) : Int32 × (Nat → Nat) × Nat × (Nat → Bool) := if (rIn t ln).1 = 0 then (nI ((rIn t ln).2.2 24), (rIn t ln).2.2, 0, fun _ => false) else (-3, p, a, ik)
theorem RB_back {B : Nat → Int32} {a n : Nat} {U : Nat → Nat → Nat} (R : RB B a n U) (h0 : 0 < a) : RB B (a - 1) ((n + 14 - 1) % 14) U := by
  obtain ⟨hn, ha, hB⟩ := R
  refine ⟨by omega, by omega, fun j hj i hi => ?_⟩
  have := hB j (by omega) i hi
  rw [show ((n + 14 - 1) % 14 + 14 - (a - 1) + j) % 14 = (n + 14 - a + j) % 14 by omega]
  exact this
theorem RB_top {B : Nat → Int32} {a n : Nat} {U : Nat → Nat → Nat} (R : RB B a n U) (h0 : 0 < a) : ∀ i, i < 36 → B ((n + 14 - 1) % 14 * 36 + i) = cl (U (a - 1)) i := by
  intro i hi
  have ha := R.2.1
  have hn := R.1
  have := R.2.2 (a - 1) (by omega) i hi
  rw [show (n + 14 - a + (a - 1)) % 14 = (n + 14 - 1) % 14 by omega] at this
  exact this
theorem RB_0 {B : Nat → Int32} {a n : Nat} {U : Nat → Nat → Nat} (R : RB B a n U) : RB B 0 n U := ⟨R.1, by omega, fun j hj => absurd hj (Nat.not_lt_zero _)⟩
theorem RK_keep {KP IK : Nat → Int32} {Kp : Nat → Nat → Nat} {ik : Nat → Bool} (R : RK KP IK Kp ik) (p : Nat → Nat) {s : Nat} (hs1 : s ≤ 1) : RK (va_cpy (cl p) KP 0 (s * 36) 36) (upd IK s (nI 1)) (uK Kp s p) (uB ik s true) := by
  intro j hj
  unfold uK uB
  show (if j = s then nI 1 else IK j) = _ ∧ _
  by_cases e : j = s
  · subst e
    rw [if_pos rfl, if_pos rfl, if_pos rfl]
    refine ⟨bi_t.symm, fun _ i hi => ?_⟩
    unfold va_cpy
    rw [if_pos ⟨by omega, by omega⟩]; congr 1; omega
  · rw [if_neg e, if_neg e, if_neg e]
    refine ⟨(R j hj).1, fun hb i hi => ?_⟩
    unfold va_cpy
    rw [if_neg (by omega)]
    exact (R j hj).2 hb i hi
theorem RK_no (KP IK : Nat → Int32) (Kp : Nat → Nat → Nat) : RK KP (upd (upd IK 0 (nI 0)) 1 (nI 0)) Kp (fun _ => false) := by
  intro j hj
  refine ⟨?_, fun h => by cases h⟩
  show (if j = 1 then nI 0 else if j = 0 then nI 0 else IK j) = bi false
  rw [bi_f]
  by_cases e : j = 1
  · rw [if_pos e]
  · rw [if_neg e, if_pos (by omega)]
theorem ht_self {h : rHp} {q : Nat} {t p : Nat → Nat} {ln pl : Nat} (hq : 1 < q) (T : Tx h t ln pl) (H : Hl h q p) : ht h q ln pl p = h := by
  unfold ht
  rw [T.same]
  exact H.same
theorem wi_z {x : Nat} (hx : x < 100000) (h : wi x = -9) : x = 0 := (wi_m9 hx).mp h
theorem rdN_le (t : Nat → Nat) (ln pl : Nat) : (rdN t ln pl).2 ≤ pl + 3 := by
  unfold rdN
  by_cases h1 : fgN t ln pl 0 2 = 0
  · rw [if_pos h1]; show pl ≤ _; omega
  · rw [if_neg h1]
    by_cases h2 : fgN t ln (pl + 1) 0 (if fgN t ln pl 0 2 = 3 then 5 else 9) = 0
    · rw [if_pos h2]; show pl + 1 ≤ _; omega
    · rw [if_neg h2]
      by_cases h3 : fgN t ln (pl + 2) 0 (if fgN t ln pl 0 2 = 3 ∧ fgN t ln (pl + 1) 0 5 = 6 then 0 else 9) = 0
      · rw [if_pos h3]; show pl + 2 ≤ _; omega
      · rw [if_neg h3]; exact Nat.le_refl _
theorem rlN_le (t : Nat → Nat) (ln pl : Nat) : (rlN t ln pl).2 ≤ pl + 2 := by
  unfold rlN
  by_cases h1 : fgN t ln pl 0 3 = 0
  · rw [if_pos h1]; show pl ≤ _; omega
  · rw [if_neg h1]
    by_cases h2 : fgN t ln (pl + 1) (if fgN t ln pl 0 3 = 1 then 1 else 0) (if fgN t ln pl 0 3 = 4 then 0 else 9) = 0
    · rw [if_pos h2]; show pl + 1 ≤ _; omega
    · rw [if_neg h2]; exact Nat.le_refl _
theorem ruN_le (t : Nat → Nat) (ln pl : Nat) : (ruN t ln pl).2.1 ≤ pl + 10 := by
  have a1 := rdN_le t ln (pl + 1)
  have a2 := rdN_le t ln (pl + 4)
  have a3 := rlN_le t ln (pl + 7)
  unfold ruN
  by_cases h1 : (rdN t ln (pl + 1)).1 = 0
  · rw [if_pos h1]; show (rdN t ln (pl + 1)).2 ≤ _; omega
  · rw [if_neg h1]
    by_cases h2 : (rdN t ln (pl + 4)).1 = 0
    · rw [if_pos h2]; show (rdN t ln (pl + 4)).2 ≤ _; omega
    · rw [if_neg h2]
      by_cases h3 : (rlN t ln (pl + 7)).1 = 0
      · rw [if_pos h3]; show (rlN t ln (pl + 7)).2 ≤ _; omega
      · rw [if_neg h3]; show pl + 9 ≤ _; omega
theorem dgN_le (t : Nat → Nat) (ln pl : Nat) (p : Nat → Nat) : (dgN t ln pl p).2.1 ≤ pl + 2 := by
  unfold dgN
  by_cases h1 : (nlN t ln pl = 116 ∨ nlN t ln pl = 110) ∧ anyU p 4 = true
  · rw [if_pos h1]
    by_cases h2 : uNo t ln (pl + 1) p = 0
    · rw [if_pos h2]; show pl + 1 ≤ _; omega
    · rw [if_neg h2]; exact Nat.le_refl _
  · rw [if_neg h1]; show pl ≤ _; omega
theorem lpR_le {t : Nat → Nat} {ln : Nat} : ∀ (n pl : Nat) (p : Nat → Nat) (ou : Bool), pl ≤ 80 + 9 * (80 - n) → n ≤ 80 → (lpR t ln n pl p ou).1 < 100000 := by
  intro n
  induction n with
  | zero => intro pl p ou _ _; show 0 < 100000; omega
  | succ n ih =>
    intro pl p ou hp hn
    have b1 := ruN_le t ln pl
    have b2 := dgN_le t ln pl p
    rw [lpR]
    by_cases g1 : ln ≤ pl
    · rw [if_pos g1]; show 0 < 100000; omega
    · rw [if_neg g1]
      by_cases g2 : ou = true ∧ p 24 < 4 ∧ nlN t ln pl = 118
      · rw [if_pos g2]
        by_cases g3 : (ruN t ln pl).1 = 0
        · rw [if_pos g3]; show (ruN t ln pl).2.1 + 1 < 100000; omega
        · rw [if_neg g3]; exact ih _ _ _ (by omega) (by omega)
      · rw [if_neg g2]
        by_cases g3 : (dgN t ln pl p).1 = 0
        · rw [if_pos g3]; show (dgN t ln pl p).2.1 + 1 < 100000; omega
        · rw [if_neg g3]; exact ih _ _ _ (by omega) (by omega)
theorem rIn_lt (t : Nat → Nat) (ln : Nat) : (rIn t ln).1 < 100000 := by
  unfold rIn
  split
  · split
    · show 2 < 100000; omega
    · exact lpR_le 80 2 _ _ (by omega) (by omega)
  · show 1 < 100000; omega
theorem seK_le {p : Nat → Nat} (O : OKp p) {u : Nat} (hu : u < 4) : seK p u ≤ 30 := by
  unfold seK
  split
  · exact Nat.le_trans (fitP_le _ _ _) (O.us hu).2.2.2.2.2
  · omega
theorem t_X4_send {h : rHp} {Q : Option Value → rHp → Prop} {t : Nat → Nat} {ln : Nat} {p : Nat → Nat} {U : Nat → Nat → Nat} {a : Nat} {Kp : Nat → Nat → Nat} {ik : Nat → Bool} {su sp sn : Nat → Nat} {sz : Nat} {d : Int64} (I : CI h t ln p U a Kp ik su sp sn sz d) (O : OKs t ln p U a Kp ik su sp sn sz) {x : Int32} (k : ∀ h', CIA h' t ln p U a Kp ik su sp sn sz d (seA p x).2 → Fr h h' → Q (some (.int (seA p x).1)) h') : Cl M_X4_send h.1 h.2.1 [.ref 0, .int x] h Q := by
  obtain ⟨pl, pt, B, KP, IK, n, C, T, H, G, S, E, RBh, RKh⟩ := id I
  obtain ⟨Ot, Oln, Op, OU, OK2, Osz, Osu, Osp, Osn⟩ := id O
  refine Cl.of pl_X4 (Nat.le_of_ble_eq_true rfl) (by first | exact Nat.le_refl _ | omega) (by first | exact Nat.le_refl _ | omega) ?_
  refine Rn.aload_n dX4_send_0 rfl rfl ?_
  refine Rn.getf f_X4_19 dX4_send_1 rfl C.1 C.2 rfl ?_
  refine Rn.iload_n dX4_send_4 rfl rfl ?_
  refine Rn.callV (as := [_]) v_X0_has l_X4_67 ⟨Nat.le_of_ble_eq_true rfl, Nat.le_of_ble_eq_true rfl⟩ dX4_send_5 rfl rfl (Nat.le_of_ble_eq_true rfl) H.1 H.2.2.1 rfl (Nat.le_refl _) (Nat.le_refl _) (t_X0_has H Op.1 ?_) 
  refine Rn.if_neB (tgt := 13) dX4_send_8 rfl (by decide) (fun c8 => ?_) (fun c8 => ?_)
  · obtain ⟨u, hu, rfl⟩ := hasB_of c8
    have hu4 : u < 4 := by have := Op.1; omega
    refine Rn.aload_n dX4_send_13 rfl rfl ?_
    refine Rn.getf f_X4_19 dX4_send_14 rfl C.1 C.2 rfl ?_
    refine Rn.iload_n dX4_send_17 rfl rfl ?_
    refine Rn.callV (as := [_]) v_X0_hasOwn l_X4_104 ⟨Nat.le_of_ble_eq_true rfl, Nat.le_of_ble_eq_true rfl⟩ dX4_send_18 rfl rfl (Nat.le_of_ble_eq_true rfl) H.1 H.2.2.1 rfl (Nat.le_refl _) (Nat.le_refl _) (t_X0_hasOwn H Op ?_) 
    refine Rn.if_neB (tgt := 27) dX4_send_21 rfl (by decide) (fun c21 => ?_) (fun c21 => ?_)
    · refine Rn.aload_n dX4_send_27 rfl rfl ?_
      refine Rn.getf f_X4_29 dX4_send_28 rfl C.1 C.2 rfl ?_
      refine Rn.aload_n dX4_send_31 rfl rfl ?_
      refine Rn.getf f_X4_19 dX4_send_32 rfl C.1 C.2 rfl ?_
      refine Rn.callV (as := [_]) v_X2_remember l_X4_107 ⟨Nat.le_of_ble_eq_true rfl, Nat.le_of_ble_eq_true rfl⟩ dX4_send_35 rfl rfl (Nat.le_of_ble_eq_true rfl) S.1 (Nat.lt_of_le_of_lt (Nat.le_of_ble_eq_true rfl) S.2.2.2.2) rfl (Nat.le_refl _) (Nat.le_refl _) (t_X2_remember S H RBh.1 RBh.2.1 ?_) 
      refine Rn.aload_n dX4_send_38 rfl rfl ?_
      refine Rn.getf f_X4_19 dX4_send_39 rfl ((hs_ne _ _ (by decide)).trans ((hs_ne _ _ (by decide)).trans C.1)) C.2 rfl ?_
      refine Rn.iload_n dX4_send_42 rfl rfl ?_
      refine Rn.callV (as := [_]) v_X0_sendPass l_X4_110 ⟨Nat.le_of_ble_eq_true rfl, Nat.le_of_ble_eq_true rfl⟩ dX4_send_43 rfl rfl (Nat.le_of_ble_eq_true rfl) ((hs_ne _ _ (by decide)).trans ((hs_ne _ _ (by decide)).trans H.1)) H.2.2.1 rfl (Nat.le_refl _) (Nat.le_refl _) (t_X0_sendPass ((H.other (by decide) (by decide)).other (by decide) (by decide)) Op (by omega) ?_) 
      refine Rn.iret dX4_send_46 rfl rfl rfl ?_
      have e0 : seA p (nI u) = (nI (seK p u), some (seP p u)) := by unfold seA; rw [c8, c21, xn_nI (by omega)]; rfl
      rw [e0] at k
      exact k _ (CI_act C T H G S E RBh RKh _) (Fr_act _ _ _)
    · refine Rn.bipush dX4_send_24 rfl bp_m3 ?_
      refine Rn.iret dX4_send_26 rfl rfl rfl ?_
      have e0 : seA p (nI u) = (-3, none) := by unfold seA; rw [c8, c21]; rfl
      rw [e0] at k
      exact k h I (Fr.rf h)
  · refine Rn.iconst dX4_send_11 rfl ic_m1 ?_
    refine Rn.iret dX4_send_12 rfl rfl rfl ?_
    have e0 : seA p x = (-1, none) := by unfold seA; rw [c8]; rfl
    rw [e0] at k
    exact k h I (Fr.rf h)
theorem t_X4_miss {h : rHp} {Q : Option Value → rHp → Prop} {t : Nat → Nat} {ln : Nat} {p : Nat → Nat} {U : Nat → Nat → Nat} {a : Nat} {Kp : Nat → Nat → Nat} {ik : Nat → Bool} {su sp sn : Nat → Nat} {sz : Nat} {d : Int64} (I : CI h t ln p U a Kp ik su sp sn sz d) (O : OKs t ln p U a Kp ik su sp sn sz) {x : Int32} (k : ∀ h', CIA h' t ln p U a Kp ik su sp sn sz d (miA p x).2 → Fr h h' → Q (some (.int (miA p x).1)) h') : Cl M_X4_miss h.1 h.2.1 [.ref 0, .int x] h Q := by
  obtain ⟨pl, pt, B, KP, IK, n, C, T, H, G, S, E, RBh, RKh⟩ := id I
  obtain ⟨Ot, Oln, Op, OU, OK2, Osz, Osu, Osp, Osn⟩ := id O
  refine Cl.of pl_X4 (Nat.le_of_ble_eq_true rfl) (by first | exact Nat.le_refl _ | omega) (by first | exact Nat.le_refl _ | omega) ?_
  refine Rn.aload_n dX4_miss_0 rfl rfl ?_
  refine Rn.getf f_X4_19 dX4_miss_1 rfl C.1 C.2 rfl ?_
  refine Rn.iload_n dX4_miss_4 rfl rfl ?_
  refine Rn.callV (as := [_]) v_X0_has l_X4_67 ⟨Nat.le_of_ble_eq_true rfl, Nat.le_of_ble_eq_true rfl⟩ dX4_miss_5 rfl rfl (Nat.le_of_ble_eq_true rfl) H.1 H.2.2.1 rfl (Nat.le_refl _) (Nat.le_refl _) (t_X0_has H Op.1 ?_) 
  refine Rn.if_neB (tgt := 13) dX4_miss_8 rfl (by decide) (fun c8 => ?_) (fun c8 => ?_)
  · obtain ⟨u, hu, rfl⟩ := hasB_of c8
    have hu4 : u < 4 := by have := Op.1; omega
    refine Rn.aload_n dX4_miss_13 rfl rfl ?_
    refine Rn.getf f_X4_19 dX4_miss_14 rfl C.1 C.2 rfl ?_
    refine Rn.iload_n dX4_miss_17 rfl rfl ?_
    refine Rn.callV (as := [_]) v_X0_hasOwn l_X4_104 ⟨Nat.le_of_ble_eq_true rfl, Nat.le_of_ble_eq_true rfl⟩ dX4_miss_18 rfl rfl (Nat.le_of_ble_eq_true rfl) H.1 H.2.2.1 rfl (Nat.le_refl _) (Nat.le_refl _) (t_X0_hasOwn H Op ?_) 
    refine Rn.if_neB (tgt := 27) dX4_miss_21 rfl (by decide) (fun c21 => ?_) (fun c21 => ?_)
    · refine Rn.aload_n dX4_miss_27 rfl rfl ?_
      refine Rn.getf f_X4_29 dX4_miss_28 rfl C.1 C.2 rfl ?_
      refine Rn.aload_n dX4_miss_31 rfl rfl ?_
      refine Rn.getf f_X4_19 dX4_miss_32 rfl C.1 C.2 rfl ?_
      refine Rn.callV (as := [_]) v_X2_remember l_X4_107 ⟨Nat.le_of_ble_eq_true rfl, Nat.le_of_ble_eq_true rfl⟩ dX4_miss_35 rfl rfl (Nat.le_of_ble_eq_true rfl) S.1 (Nat.lt_of_le_of_lt (Nat.le_of_ble_eq_true rfl) S.2.2.2.2) rfl (Nat.le_refl _) (Nat.le_refl _) (t_X2_remember S H RBh.1 RBh.2.1 ?_) 
      refine Rn.aload_n dX4_miss_38 rfl rfl ?_
      refine Rn.getf f_X4_19 dX4_miss_39 rfl ((hs_ne _ _ (by decide)).trans ((hs_ne _ _ (by decide)).trans C.1)) C.2 rfl ?_
      refine Rn.iload_n dX4_miss_42 rfl rfl ?_
      refine Rn.callV (as := [_]) v_X0_spendPass l_X4_113 ⟨Nat.le_of_ble_eq_true rfl, Nat.le_of_ble_eq_true rfl⟩ dX4_miss_43 rfl rfl (Nat.le_of_ble_eq_true rfl) ((hs_ne _ _ (by decide)).trans ((hs_ne _ _ (by decide)).trans H.1)) H.2.2.1 rfl (Nat.le_refl _) (Nat.le_refl _) (t_X0_spendPass ((H.other (by decide) (by decide)).other (by decide) (by decide)) Op (by omega) ?_) 
      refine Rn.pop dX4_miss_46 rfl rfl ?_
      refine Rn.aload_n dX4_miss_47 rfl rfl ?_
      refine Rn.getf f_X4_19 dX4_miss_48 rfl ((hs_ne _ _ (by decide)).trans ((hs_ne _ _ (by decide)).trans ((hs_ne _ _ (by decide)).trans C.1))) C.2 rfl ?_
      refine Rn.iload_n dX4_miss_51 rfl rfl ?_
      refine Rn.iconst dX4_miss_52 rfl ic_3 ?_
      refine Rn.callV (as := [_, _]) v_X0_of l_X4_70 ⟨Nat.le_of_ble_eq_true rfl, Nat.le_of_ble_eq_true rfl⟩ dX4_miss_53 rfl rfl (Nat.le_of_ble_eq_true rfl) ((hs_ne _ _ (by decide)).trans ((hs_ne _ _ (by decide)).trans ((hs_ne _ _ (by decide)).trans H.1))) H.2.2.1 rfl (Nat.le_refl _) (Nat.le_refl _) (t_X0_of (((H.other (by decide) (by decide)).other (by decide) (by decide)).put _) hu4 (by omega) ?_) 
      have eo := (ownB_nI (show u < 2147483648 by omega)).symm.trans c21
      refine Rn.top (y := nI (p (6 * u + 3) - 1)) (by unfold spP; rw [eo, if_pos rfl, un_eq]) ?_
      refine Rn.iret dX4_miss_56 rfl rfl rfl ?_
      have e0 : miA p (nI u) = (nI (p (6 * u + 3) - 1), some (spP p u)) := by unfold miA; rw [c8, c21, xn_nI (by omega)]; rfl
      rw [e0] at k
      exact k _ (CI_act C T H G S E RBh RKh _) (Fr_act _ _ _)
    · refine Rn.bipush dX4_miss_24 rfl bp_m3 ?_
      refine Rn.iret dX4_miss_26 rfl rfl rfl ?_
      have e0 : miA p (nI u) = (-3, none) := by unfold miA; rw [c8, c21]; rfl
      rw [e0] at k
      exact k h I (Fr.rf h)
  · refine Rn.iconst dX4_miss_11 rfl ic_m1 ?_
    refine Rn.iret dX4_miss_12 rfl rfl rfl ?_
    have e0 : miA p x = (-1, none) := by unfold miA; rw [c8]; rfl
    rw [e0] at k
    exact k h I (Fr.rf h)
theorem t_X4_attempt {h : rHp} {Q : Option Value → rHp → Prop} {t : Nat → Nat} {ln : Nat} {p : Nat → Nat} {U : Nat → Nat → Nat} {a : Nat} {Kp : Nat → Nat → Nat} {ik : Nat → Bool} {su sp sn : Nat → Nat} {sz : Nat} {d : Int64} (I : CI h t ln p U a Kp ik su sp sn sz d) (O : OKs t ln p U a Kp ik su sp sn sz) {x v : Int32} (k : ∀ h', CIA h' t ln p U a Kp ik su sp sn sz d (atA p x v).2 → Fr h h' → Q (some (.int (atA p x v).1)) h') : Cl M_X4_attempt h.1 h.2.1 [.ref 0, .int x, .int v] h Q := by
  obtain ⟨pl, pt, B, KP, IK, n, C, T, H, G, S, E, RBh, RKh⟩ := id I
  obtain ⟨Ot, Oln, Op, OU, OK2, Osz, Osu, Osp, Osn⟩ := id O
  refine Cl.of pl_X4 (Nat.le_of_ble_eq_true rfl) (by first | exact Nat.le_refl _ | omega) (by first | exact Nat.le_refl _ | omega) ?_
  refine Rn.aload_n dX4_attempt_0 rfl rfl ?_
  refine Rn.getf f_X4_19 dX4_attempt_1 rfl C.1 C.2 rfl ?_
  refine Rn.iload_n dX4_attempt_4 rfl rfl ?_
  refine Rn.callV (as := [_]) v_X0_has l_X4_67 ⟨Nat.le_of_ble_eq_true rfl, Nat.le_of_ble_eq_true rfl⟩ dX4_attempt_5 rfl rfl (Nat.le_of_ble_eq_true rfl) H.1 H.2.2.1 rfl (Nat.le_refl _) (Nat.le_refl _) (t_X0_has H Op.1 ?_) 
  refine Rn.if_neB (tgt := 13) dX4_attempt_8 rfl (by decide) (fun c8 => ?_) (fun c8 => ?_)
  · obtain ⟨u, hu, rfl⟩ := hasB_of c8
    have hu4 : u < 4 := by have := Op.1; omega
    refine Rn.iload_n dX4_attempt_13 rfl rfl ?_
    refine Rn.callS (as := [_]) s_X4_isNumber l_X4_93 ⟨Nat.le_of_ble_eq_true rfl, Nat.le_of_ble_eq_true rfl⟩ dX4_attempt_14 rfl rfl (Nat.le_of_ble_eq_true rfl) (Nat.le_refl _) (Nat.le_refl _) (t_X4_isNumber ?_)
    refine Rn.if_neB (tgt := 23) dX4_attempt_17 rfl (by decide) (fun c17 => ?_) (fun c17 => ?_)
    · obtain ⟨y, hy, rfl⟩ := isW_of c17 (by omega)
      refine Rn.aload_n dX4_attempt_23 rfl rfl ?_
      refine Rn.getf f_X4_29 dX4_attempt_24 rfl C.1 C.2 rfl ?_
      refine Rn.aload_n dX4_attempt_27 rfl rfl ?_
      refine Rn.getf f_X4_19 dX4_attempt_28 rfl C.1 C.2 rfl ?_
      refine Rn.callV (as := [_]) v_X2_remember l_X4_107 ⟨Nat.le_of_ble_eq_true rfl, Nat.le_of_ble_eq_true rfl⟩ dX4_attempt_31 rfl rfl (Nat.le_of_ble_eq_true rfl) S.1 (Nat.lt_of_le_of_lt (Nat.le_of_ble_eq_true rfl) S.2.2.2.2) rfl (Nat.le_refl _) (Nat.le_refl _) (t_X2_remember S H RBh.1 RBh.2.1 ?_) 
      refine Rn.aload_n dX4_attempt_34 rfl rfl ?_
      refine Rn.getf f_X4_19 dX4_attempt_35 rfl ((hs_ne _ _ (by decide)).trans ((hs_ne _ _ (by decide)).trans C.1)) C.2 rfl ?_
      refine Rn.iload_n dX4_attempt_38 rfl rfl ?_
      refine Rn.iload_n dX4_attempt_39 rfl rfl ?_
      refine Rn.callV (as := [_, _]) v_X0_bring l_X4_116 ⟨Nat.le_of_ble_eq_true rfl, Nat.le_of_ble_eq_true rfl⟩ dX4_attempt_40 rfl rfl (Nat.le_of_ble_eq_true rfl) ((hs_ne _ _ (by decide)).trans ((hs_ne _ _ (by decide)).trans H.1)) H.2.2.1 rfl (Nat.le_refl _) (Nat.le_refl _) (t_X0_bring ((H.other (by decide) (by decide)).other (by decide) (by decide)) Op Op.un26 hu4 (by omega) ?_) 
      refine Rn.iret dX4_attempt_43 rfl rfl rfl ?_
      have e0 : atA p (nI u) (nI y) = (nI (fitP p u y), some (brP p u y)) := by unfold atA; rw [c8, c17, xn_nI (by omega), xn_nI (by omega)]; rfl
      rw [e0] at k
      exact k _ (CI_act C T H G S E RBh RKh _) (Fr_act _ _ _)
    · refine Rn.bipush dX4_attempt_20 rfl bp_m2 ?_
      refine Rn.iret dX4_attempt_22 rfl rfl rfl ?_
      have e0 : atA p (nI u) v = (-2, none) := by unfold atA; rw [c8, c17]; rfl
      rw [e0] at k
      exact k h I (Fr.rf h)
  · refine Rn.iconst dX4_attempt_11 rfl ic_m1 ?_
    refine Rn.iret dX4_attempt_12 rfl rfl rfl ?_
    have e0 : atA p x v = (-1, none) := by unfold atA; rw [c8]; rfl
    rw [e0] at k
    exact k h I (Fr.rf h)
theorem t_X4_hear {h : rHp} {Q : Option Value → rHp → Prop} {t : Nat → Nat} {ln : Nat} {p : Nat → Nat} {U : Nat → Nat → Nat} {a : Nat} {Kp : Nat → Nat → Nat} {ik : Nat → Bool} {su sp sn : Nat → Nat} {sz : Nat} {d : Int64} (I : CI h t ln p U a Kp ik su sp sn sz d) (O : OKs t ln p U a Kp ik su sp sn sz) (k : ∀ h', CIA h' t ln p U a Kp ik su sp sn sz d (heA p).2 → Fr h h' → Q (some (.int (heA p).1)) h') : Cl M_X4_hear h.1 h.2.1 [.ref 0] h Q := by
  obtain ⟨pl, pt, B, KP, IK, n, C, T, H, G, S, E, RBh, RKh⟩ := id I
  obtain ⟨Ot, Oln, Op, OU, OK2, Osz, Osu, Osp, Osn⟩ := id O
  refine Cl.of pl_X4 (Nat.le_of_ble_eq_true rfl) (by first | exact Nat.le_refl _ | omega) (by first | exact Nat.le_refl _ | omega) ?_
  refine Rn.aload_n dX4_hear_0 rfl rfl ?_
  refine Rn.getf f_X4_19 dX4_hear_1 rfl C.1 C.2 rfl ?_
  refine Rn.callV (as := []) v_X0_wire l_X4_119 ⟨Nat.le_of_ble_eq_true rfl, Nat.le_of_ble_eq_true rfl⟩ dX4_hear_4 rfl rfl (Nat.le_of_ble_eq_true rfl) H.1 H.2.2.1 rfl (Nat.le_refl _) (Nat.le_refl _) (t_X0_wire H ?_) 
  have h26l : p 26 < 100000 := by have := Op.2.2.2.2.2.2; omega
  have h27 := Op.2.2.2.1
  refine Rn.bipush dX4_hear_7 rfl bp_m9 ?_
  refine Rn.icmp_ne (tgt := 15) dX4_hear_9 rfl (by decide) (fun c9 => ?_) (fun c9 => ?_)
  · obtain ⟨y, ey⟩ : ∃ y, p 26 = y + 1 := ⟨p 26 - 1, by have : ¬ p 26 = 0 := fun z => c9 (by rw [z]; rfl); omega⟩
    refine Rn.aload_n dX4_hear_15 rfl rfl ?_
    refine Rn.getf f_X4_19 dX4_hear_16 rfl C.1 C.2 rfl ?_
    refine Rn.callV (as := []) v_X0_heardCount l_X4_122 ⟨Nat.le_of_ble_eq_true rfl, Nat.le_of_ble_eq_true rfl⟩ dX4_hear_19 rfl rfl (Nat.le_of_ble_eq_true rfl) H.1 H.2.2.1 rfl (Nat.le_refl _) (Nat.le_refl _) (t_X0_heardCount H ?_) 
    refine Rn.bipush dX4_hear_22 rfl bp_8 ?_
    refine Rn.icmp_ltN (tgt := 30) dX4_hear_24 rfl (by decide) (by omega) (by omega) (fun c24 => ?_) (fun c24 => ?_)
    · refine Rn.aload_n dX4_hear_30 rfl rfl ?_
      refine Rn.getf f_X4_29 dX4_hear_31 rfl C.1 C.2 rfl ?_
      refine Rn.aload_n dX4_hear_34 rfl rfl ?_
      refine Rn.getf f_X4_19 dX4_hear_35 rfl C.1 C.2 rfl ?_
      refine Rn.callV (as := [_]) v_X2_remember l_X4_107 ⟨Nat.le_of_ble_eq_true rfl, Nat.le_of_ble_eq_true rfl⟩ dX4_hear_38 rfl rfl (Nat.le_of_ble_eq_true rfl) S.1 (Nat.lt_of_le_of_lt (Nat.le_of_ble_eq_true rfl) S.2.2.2.2) rfl (Nat.le_refl _) (Nat.le_refl _) (t_X2_remember S H RBh.1 RBh.2.1 ?_) 
      refine Rn.aload_n dX4_hear_41 rfl rfl ?_
      refine Rn.getf f_X4_19 dX4_hear_42 rfl ((hs_ne _ _ (by decide)).trans ((hs_ne _ _ (by decide)).trans C.1)) C.2 rfl ?_
      refine Rn.callV (as := []) v_X0_overhear l_X4_125 ⟨Nat.le_of_ble_eq_true rfl, Nat.le_of_ble_eq_true rfl⟩ dX4_hear_45 rfl rfl (Nat.le_of_ble_eq_true rfl) ((hs_ne _ _ (by decide)).trans ((hs_ne _ _ (by decide)).trans H.1)) H.2.2.1 rfl (Nat.le_refl _) (Nat.le_refl _) (t_X0_overhear ((H.other (by decide) (by decide)).other (by decide) (by decide)) (by omega) ey ?_) 
      refine Rn.aload_n dX4_hear_48 rfl rfl ?_
      refine Rn.getf f_X4_19 dX4_hear_49 rfl ((hs_ne _ _ (by decide)).trans ((hs_ne _ _ (by decide)).trans ((hs_ne _ _ (by decide)).trans C.1))) C.2 rfl ?_
      refine Rn.callV (as := []) v_X0_wire l_X4_119 ⟨Nat.le_of_ble_eq_true rfl, Nat.le_of_ble_eq_true rfl⟩ dX4_hear_52 rfl rfl (Nat.le_of_ble_eq_true rfl) ((hs_ne _ _ (by decide)).trans ((hs_ne _ _ (by decide)).trans ((hs_ne _ _ (by decide)).trans H.1))) H.2.2.1 rfl (Nat.le_refl _) (Nat.le_refl _) (t_X0_wire (((H.other (by decide) (by decide)).other (by decide) (by decide)).put _) ?_) 
      refine Rn.top (y := nI y) (by unfold ovP; rw [un_ne _ _ (by omega), un_ne _ _ (by omega), ey, wi_s]) ?_
      refine Rn.callS (as := [_]) s_X0_numberIn l_X4_128 ⟨Nat.le_of_ble_eq_true rfl, Nat.le_of_ble_eq_true rfl⟩ dX4_hear_55 rfl rfl (Nat.le_of_ble_eq_true rfl) (Nat.le_refl _) (Nat.le_refl _) (t_X0_numberIn (by omega) ?_)
      refine Rn.iret dX4_hear_58 rfl rfl rfl ?_
      have e0 : heA p = (nI (y % 1000), some (ovP p)) := by unfold heA; rw [if_neg (fun z => c9 (by rw [z]; rfl)), if_neg (by omega), ey]; rfl
      rw [e0] at k
      exact k _ (CI_act C T H G S E RBh RKh _) (Fr_act _ _ _)
    · refine Rn.bipush dX4_hear_27 rfl bp_m4 ?_
      refine Rn.iret dX4_hear_29 rfl rfl rfl ?_
      have e0 : heA p = (-4, none) := by unfold heA; rw [if_neg (fun z => c9 (by rw [z]; rfl)), if_pos (by omega)]
      rw [e0] at k
      exact k h I (Fr.rf h)
  · refine Rn.bipush dX4_hear_12 rfl bp_m3 ?_
    refine Rn.iret dX4_hear_14 rfl rfl rfl ?_
    have e0 : heA p = (-3, none) := by unfold heA; rw [if_pos (wi_z h26l c9)]
    rw [e0] at k
    exact k h I (Fr.rf h)
theorem t_X4_widen {h : rHp} {Q : Option Value → rHp → Prop} {t : Nat → Nat} {ln : Nat} {p : Nat → Nat} {U : Nat → Nat → Nat} {a : Nat} {Kp : Nat → Nat → Nat} {ik : Nat → Bool} {su sp sn : Nat → Nat} {sz : Nat} {d : Int64} (I : CI h t ln p U a Kp ik su sp sn sz d) (O : OKs t ln p U a Kp ik su sp sn sz) {x : Int32} (k : ∀ h', CIA h' t ln p U a Kp ik su sp sn sz d (wdA p x).2 → Fr h h' → Q (some (.int (wdA p x).1)) h') : Cl M_X4_widen h.1 h.2.1 [.ref 0, .int x] h Q := by
  obtain ⟨pl, pt, B, KP, IK, n, C, T, H, G, S, E, RBh, RKh⟩ := id I
  obtain ⟨Ot, Oln, Op, OU, OK2, Osz, Osu, Osp, Osn⟩ := id O
  refine Cl.of pl_X4 (Nat.le_of_ble_eq_true rfl) (by first | exact Nat.le_refl _ | omega) (by first | exact Nat.le_refl _ | omega) ?_
  refine Rn.iload_n dX4_widen_0 rfl rfl ?_
  refine Rn.iconst dX4_widen_1 rfl ic_1 ?_
  refine Rn.bipush dX4_widen_2 rfl bp_6 ?_
  refine Rn.callS (as := [_, _, _]) s_X4_isWithin l_X4_96 ⟨Nat.le_of_ble_eq_true rfl, Nat.le_of_ble_eq_true rfl⟩ dX4_widen_4 rfl rfl (Nat.le_of_ble_eq_true rfl) (Nat.le_refl _) (Nat.le_refl _) (t_X4_isWithin ?_)
  refine Rn.if_neB (tgt := 13) dX4_widen_7 rfl (by decide) (fun c7 => ?_) (fun c7 => ?_)
  · obtain ⟨y, hy1, hy2, rfl⟩ := isW_of2 c7 (by omega) (by omega)
    refine Rn.aload_n dX4_widen_13 rfl rfl ?_
    refine Rn.getf f_X4_29 dX4_widen_14 rfl C.1 C.2 rfl ?_
    refine Rn.aload_n dX4_widen_17 rfl rfl ?_
    refine Rn.getf f_X4_19 dX4_widen_18 rfl C.1 C.2 rfl ?_
    refine Rn.callV (as := [_]) v_X2_remember l_X4_107 ⟨Nat.le_of_ble_eq_true rfl, Nat.le_of_ble_eq_true rfl⟩ dX4_widen_21 rfl rfl (Nat.le_of_ble_eq_true rfl) S.1 (Nat.lt_of_le_of_lt (Nat.le_of_ble_eq_true rfl) S.2.2.2.2) rfl (Nat.le_refl _) (Nat.le_refl _) (t_X2_remember S H RBh.1 RBh.2.1 ?_) 
    refine Rn.aload_n dX4_widen_24 rfl rfl ?_
    refine Rn.getf f_X4_19 dX4_widen_25 rfl ((hs_ne _ _ (by decide)).trans ((hs_ne _ _ (by decide)).trans C.1)) C.2 rfl ?_
    refine Rn.callV (as := []) v_X0_window l_X4_135 ⟨Nat.le_of_ble_eq_true rfl, Nat.le_of_ble_eq_true rfl⟩ dX4_widen_28 rfl rfl (Nat.le_of_ble_eq_true rfl) ((hs_ne _ _ (by decide)).trans ((hs_ne _ _ (by decide)).trans H.1)) H.2.2.1 rfl (Nat.le_refl _) (Nat.le_refl _) (t_X0_window ((H.other (by decide) (by decide)).other (by decide) (by decide)) ?_) 
    refine Rn.istore_n dX4_widen_31 rfl (Nat.le_of_ble_eq_true rfl) ?_
    refine Rn.aload_n dX4_widen_32 rfl rfl ?_
    refine Rn.getf f_X4_19 dX4_widen_33 rfl ((hs_ne _ _ (by decide)).trans ((hs_ne _ _ (by decide)).trans C.1)) C.2 rfl ?_
    refine Rn.iload_n dX4_widen_36 rfl rfl ?_
    refine Rn.callV (as := [_]) v_X0_setWindow l_X4_138 ⟨Nat.le_of_ble_eq_true rfl, Nat.le_of_ble_eq_true rfl⟩ dX4_widen_37 rfl rfl (Nat.le_of_ble_eq_true rfl) ((hs_ne _ _ (by decide)).trans ((hs_ne _ _ (by decide)).trans H.1)) H.2.2.1 rfl (Nat.le_refl _) (Nat.le_refl _) (t_X0_setWindow ((H.other (by decide) (by decide)).other (by decide) (by decide)) ?_) 
    refine Rn.iload_n dX4_widen_40 rfl rfl ?_
    refine Rn.iret dX4_widen_41 rfl rfl rfl ?_
    have e0 : wdA p (nI y) = (nI (p 25), some (un p 25 y)) := by unfold wdA; rw [c7, xn_nI (by omega)]; rfl
    rw [e0] at k
    exact k _ (CI_act C T H G S E RBh RKh _) (Fr_act _ _ _)
  · refine Rn.bipush dX4_widen_10 rfl bp_m2 ?_
    refine Rn.iret dX4_widen_12 rfl rfl rfl ?_
    have e0 : wdA p x = (-2, none) := by unfold wdA; rw [c7]; rfl
    rw [e0] at k
    exact k h I (Fr.rf h)
theorem t_X4_renew {h : rHp} {Q : Option Value → rHp → Prop} {t : Nat → Nat} {ln : Nat} {p : Nat → Nat} {U : Nat → Nat → Nat} {a : Nat} {Kp : Nat → Nat → Nat} {ik : Nat → Bool} {su sp sn : Nat → Nat} {sz : Nat} {d : Int64} (I : CI h t ln p U a Kp ik su sp sn sz d) (O : OKs t ln p U a Kp ik su sp sn sz) {x s tt nn : Int32} (k : ∀ h', CIA h' t ln p U a Kp ik su sp sn sz d (reA p x s tt nn).2 → Fr h h' → Q (some (.int (reA p x s tt nn).1)) h') : Cl M_X4_renew h.1 h.2.1 [.ref 0, .int x, .int s, .int tt, .int nn] h Q := by
  obtain ⟨pl, pt, B, KP, IK, n, C, T, H, G, S, E, RBh, RKh⟩ := id I
  obtain ⟨Ot, Oln, Op, OU, OK2, Osz, Osu, Osp, Osn⟩ := id O
  refine Cl.of pl_X4 (Nat.le_of_ble_eq_true rfl) (by first | exact Nat.le_refl _ | omega) (by first | exact Nat.le_refl _ | omega) ?_
  refine Rn.aload_n dX4_renew_0 rfl rfl ?_
  refine Rn.getf f_X4_19 dX4_renew_1 rfl C.1 C.2 rfl ?_
  refine Rn.iload_n dX4_renew_4 rfl rfl ?_
  refine Rn.callV (as := [_]) v_X0_has l_X4_67 ⟨Nat.le_of_ble_eq_true rfl, Nat.le_of_ble_eq_true rfl⟩ dX4_renew_5 rfl rfl (Nat.le_of_ble_eq_true rfl) H.1 H.2.2.1 rfl (Nat.le_refl _) (Nat.le_refl _) (t_X0_has H Op.1 ?_) 
  refine Rn.if_neB (tgt := 13) dX4_renew_8 rfl (by decide) (fun c8 => ?_) (fun c8 => ?_)
  · obtain ⟨u, hu, rfl⟩ := hasB_of c8
    have hu4 : u < 4 := by have := Op.1; omega
    refine Rn.iload_n dX4_renew_13 rfl rfl ?_
    refine Rn.callS (as := [_]) s_X4_isNumber l_X4_93 ⟨Nat.le_of_ble_eq_true rfl, Nat.le_of_ble_eq_true rfl⟩ dX4_renew_14 rfl rfl (Nat.le_of_ble_eq_true rfl) (Nat.le_refl _) (Nat.le_refl _) (t_X4_isNumber ?_)
    refine Rn.if_eqB (tgt := 38) dX4_renew_17 rfl (by decide) (fun c17 => ?_) (fun c17 => ?_)
    · refine Rn.bipush dX4_renew_38 rfl bp_m2 ?_
      refine Rn.iret dX4_renew_40 rfl rfl rfl ?_
      first | (have e0 : reA p (nI u) s tt nn = (-2, none) := by unfold reA; rw [c8, c17]; rfl); rw [e0] at k; exact k h I (Fr.rf h) | (have e0 : reA p (nI u) s tt nn = (-2, none) := by unfold reA; rw [c8, c24, Bool.false_and, Bool.and_false]; rfl); rw [e0] at k; exact k h I (Fr.rf h) | (have e0 : reA p (nI u) s tt nn = (-2, none) := by unfold reA; rw [c8, c35, Bool.and_false, Bool.and_false]; rfl); rw [e0] at k; exact k h I (Fr.rf h)
    · refine Rn.iload_n dX4_renew_20 rfl rfl ?_
      refine Rn.callS (as := [_]) s_X4_isNumber l_X4_93 ⟨Nat.le_of_ble_eq_true rfl, Nat.le_of_ble_eq_true rfl⟩ dX4_renew_21 rfl rfl (Nat.le_of_ble_eq_true rfl) (Nat.le_refl _) (Nat.le_refl _) (t_X4_isNumber ?_)
      refine Rn.if_eqB (tgt := 38) dX4_renew_24 rfl (by decide) (fun c24 => ?_) (fun c24 => ?_)
      · refine Rn.bipush dX4_renew_38 rfl bp_m2 ?_
        refine Rn.iret dX4_renew_40 rfl rfl rfl ?_
        first | (have e0 : reA p (nI u) s tt nn = (-2, none) := by unfold reA; rw [c8, c17]; rfl); rw [e0] at k; exact k h I (Fr.rf h) | (have e0 : reA p (nI u) s tt nn = (-2, none) := by unfold reA; rw [c8, c24, Bool.false_and, Bool.and_false]; rfl); rw [e0] at k; exact k h I (Fr.rf h) | (have e0 : reA p (nI u) s tt nn = (-2, none) := by unfold reA; rw [c8, c35, Bool.and_false, Bool.and_false]; rfl); rw [e0] at k; exact k h I (Fr.rf h)
      · refine Rn.iload dX4_renew_27 rfl rfl ?_
        refine Rn.iconst dX4_renew_29 rfl ic_1 ?_
        refine Rn.bipush dX4_renew_30 rfl bp_30 ?_
        refine Rn.callS (as := [_, _, _]) s_X4_isWithin l_X4_96 ⟨Nat.le_of_ble_eq_true rfl, Nat.le_of_ble_eq_true rfl⟩ dX4_renew_32 rfl rfl (Nat.le_of_ble_eq_true rfl) (Nat.le_refl _) (Nat.le_refl _) (t_X4_isWithin ?_)
        refine Rn.if_neB (tgt := 41) dX4_renew_35 rfl (by decide) (fun c35 => ?_) (fun c35 => ?_)
        · obtain ⟨y1, hy1, rfl⟩ := isW_of c17 (by omega)
          obtain ⟨y2, hy2, rfl⟩ := isW_of c24 (by omega)
          obtain ⟨y3, hy3, hy4, rfl⟩ := isW_of2 c35 (by omega) (by omega)
          refine Rn.aload_n dX4_renew_41 rfl rfl ?_
          refine Rn.getf f_X4_19 dX4_renew_42 rfl C.1 C.2 rfl ?_
          refine Rn.iload_n dX4_renew_45 rfl rfl ?_
          refine Rn.callV (as := [_]) v_X0_hasOwn l_X4_104 ⟨Nat.le_of_ble_eq_true rfl, Nat.le_of_ble_eq_true rfl⟩ dX4_renew_46 rfl rfl (Nat.le_of_ble_eq_true rfl) H.1 H.2.2.1 rfl (Nat.le_refl _) (Nat.le_refl _) (t_X0_hasOwn H Op ?_) 
          refine Rn.if_neB (tgt := 55) dX4_renew_49 rfl (by decide) (fun c49 => ?_) (fun c49 => ?_)
          · refine Rn.aload_n dX4_renew_55 rfl rfl ?_
            refine Rn.getf f_X4_29 dX4_renew_56 rfl C.1 C.2 rfl ?_
            refine Rn.aload_n dX4_renew_59 rfl rfl ?_
            refine Rn.getf f_X4_19 dX4_renew_60 rfl C.1 C.2 rfl ?_
            refine Rn.callV (as := [_]) v_X2_remember l_X4_107 ⟨Nat.le_of_ble_eq_true rfl, Nat.le_of_ble_eq_true rfl⟩ dX4_renew_63 rfl rfl (Nat.le_of_ble_eq_true rfl) S.1 (Nat.lt_of_le_of_lt (Nat.le_of_ble_eq_true rfl) S.2.2.2.2) rfl (Nat.le_refl _) (Nat.le_refl _) (t_X2_remember S H RBh.1 RBh.2.1 ?_) 
            refine Rn.aload_n dX4_renew_66 rfl rfl ?_
            refine Rn.getf f_X4_19 dX4_renew_67 rfl ((hs_ne _ _ (by decide)).trans ((hs_ne _ _ (by decide)).trans C.1)) C.2 rfl ?_
            refine Rn.iload_n dX4_renew_70 rfl rfl ?_
            refine Rn.callV (as := [_]) v_X0_sendPass l_X4_110 ⟨Nat.le_of_ble_eq_true rfl, Nat.le_of_ble_eq_true rfl⟩ dX4_renew_71 rfl rfl (Nat.le_of_ble_eq_true rfl) ((hs_ne _ _ (by decide)).trans ((hs_ne _ _ (by decide)).trans H.1)) H.2.2.1 rfl (Nat.le_refl _) (Nat.le_refl _) (t_X0_sendPass ((H.other (by decide) (by decide)).other (by decide) (by decide)) Op (by omega) ?_) 
            have hk30 : seK p u ≤ 30 := seK_le Op hu4
            refine Rn.istore dX4_renew_74 rfl (Nat.le_of_ble_eq_true rfl) ?_
            refine Rn.iload dX4_renew_76 rfl rfl ?_
            refine Rn.if_leN (tgt := 93) dX4_renew_78 rfl (by decide) (by omega) (fun c78 => ?_) (fun c78 => ?_)
            · refine Rn.iload dX4_renew_93 rfl rfl ?_
              refine Rn.iret dX4_renew_95 rfl rfl rfl ?_
              have e0 : reA p (nI u) (nI y1) (nI y2) (nI y3) = (nI (seK p u), some (if 0 < seK p u then bgP (seP p u) u y1 y2 y3 else seP p u)) := by unfold reA; rw [c8, c17, c24, c35, c49, xn_nI (by omega), xn_nI (by omega), xn_nI (by omega), xn_nI (by omega)]; rfl
              rw [e0, if_neg (by omega)] at k
              exact k _ (CI_act C T H G S E RBh RKh _) (Fr_act _ _ _)
            · refine Rn.aload_n dX4_renew_81 rfl rfl ?_
              refine Rn.getf f_X4_19 dX4_renew_82 rfl ((hs_ne _ _ (by decide)).trans ((hs_ne _ _ (by decide)).trans ((hs_ne _ _ (by decide)).trans C.1))) C.2 rfl ?_
              refine Rn.iload_n dX4_renew_85 rfl rfl ?_
              refine Rn.iload_n dX4_renew_86 rfl rfl ?_
              refine Rn.iload_n dX4_renew_87 rfl rfl ?_
              refine Rn.iload dX4_renew_88 rfl rfl ?_
              refine Rn.callV (as := [_, _, _, _]) v_X0_beginRow l_X4_131 ⟨Nat.le_of_ble_eq_true rfl, Nat.le_of_ble_eq_true rfl⟩ dX4_renew_90 rfl rfl (Nat.le_of_ble_eq_true rfl) ((hs_ne _ _ (by decide)).trans ((hs_ne _ _ (by decide)).trans ((hs_ne _ _ (by decide)).trans H.1))) H.2.2.1 rfl (Nat.le_refl _) (Nat.le_refl _) (t_X0_beginRow (((H.other (by decide) (by decide)).other (by decide) (by decide)).put _) hu4 (by omega) (by omega) (by omega) ?_) 
              refine Rn.heap (hp_hp _ _ _ _) ?_
              refine Rn.iload dX4_renew_93 rfl rfl ?_
              refine Rn.iret dX4_renew_95 rfl rfl rfl ?_
              have e0 : reA p (nI u) (nI y1) (nI y2) (nI y3) = (nI (seK p u), some (if 0 < seK p u then bgP (seP p u) u y1 y2 y3 else seP p u)) := by unfold reA; rw [c8, c17, c24, c35, c49, xn_nI (by omega), xn_nI (by omega), xn_nI (by omega), xn_nI (by omega)]; rfl
              rw [e0, if_pos (by omega)] at k
              exact k _ (CI_act C T H G S E RBh RKh _) (Fr_act _ _ _)
          · refine Rn.bipush dX4_renew_52 rfl bp_m3 ?_
            refine Rn.iret dX4_renew_54 rfl rfl rfl ?_
            have e0 : reA p (nI u) (nI y1) (nI y2) (nI y3) = (-3, none) := by unfold reA; rw [c8, c17, c24, c35, c49]; rfl
            rw [e0] at k
            exact k h I (Fr.rf h)
        · refine Rn.bipush dX4_renew_38 rfl bp_m2 ?_
          refine Rn.iret dX4_renew_40 rfl rfl rfl ?_
          first | (have e0 : reA p (nI u) s tt nn = (-2, none) := by unfold reA; rw [c8, c17]; rfl); rw [e0] at k; exact k h I (Fr.rf h) | (have e0 : reA p (nI u) s tt nn = (-2, none) := by unfold reA; rw [c8, c24, Bool.false_and, Bool.and_false]; rfl); rw [e0] at k; exact k h I (Fr.rf h) | (have e0 : reA p (nI u) s tt nn = (-2, none) := by unfold reA; rw [c8, c35, Bool.and_false, Bool.and_false]; rfl); rw [e0] at k; exact k h I (Fr.rf h)
  · refine Rn.iconst dX4_renew_11 rfl ic_m1 ?_
    refine Rn.iret dX4_renew_12 rfl rfl rfl ?_
    have e0 : reA p x s tt nn = (-1, none) := by unfold reA; rw [c8]; rfl
    rw [e0] at k
    exact k h I (Fr.rf h)
