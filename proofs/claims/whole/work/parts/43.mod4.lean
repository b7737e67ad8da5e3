theorem hs_in {h : rHp} {o n : Nat} {f g : Nat → Int32} (e : f = g) : hs h o (.inl (n, f)) = hs h o (.inl (n, g)) := by rw [e]
theorem nI_pr (v : Nat) : nI (v + 1) - 1 = nI v := by rw [show (1 : Int32) = nI 1 from rfl, pk_sub (by omega)]; rfl
theorem dn_y {f : Nat → Bool} {v b T : Nat} (h : dn f (v + 1) b = T) (c : f v = true) : dn f v (v + 1) = T := by
  rw [← h]
  show _ = dn f v (if f v = true then v + 1 else b)
  rw [if_pos c]
theorem dn_n {f : Nat → Bool} {v b T : Nat} (h : dn f (v + 1) b = T) (c : f v = false) : dn f v b = T := by
  rw [← h]
  show _ = dn f v (if f v = true then v + 1 else b)
  rw [c]; rfl
theorem dn_0 {f : Nat → Bool} {b : Nat} (h : dn f 0 b = dn f 251 0) : wi b = lsL f 251 0 := by
  have h1 : b = dn f 251 0 := h
  rw [lsL_ff f 251 251 0 rfl (fun j hj => absurd hj (Nat.not_lt_zero _)), h1, dn_ff]
  split
  · next h2 => rw [h2]
  · rfl
theorem stL_end {p : Nat → Nat} {u : Nat} : ∀ n i acc, p 27 ≤ i → stL p u n i acc = acc
  | 0, _, _, _ => rfl
  | n + 1, i, acc, h => by
    show stL p u n (i + 1) (if i < p 27 ∧ p (28 + i) / 1000 = u then lsr acc (lfP p u (p (28 + i) % 1000)) else acc) = acc
    rw [if_neg (by omega)]
    exact stL_end n (i + 1) acc (by omega)
/-- the inner loop's own state -/
def thS (p : Nat → Nat) (u i b0 n b : Nat) : Prop := (p (28 + i) / 1000 = u → lfL p u (11 - n) (bh (p (6 * u + 1)) (p (28 + i) % 1000) n) b = lsr b0 (lfP p u (p (28 + i) % 1000))) ∧ (¬ p (28 + i) / 1000 = u → b = b0)
theorem thS_0 (p : Nat → Nat) (u i b : Nat) : thS p u i b 0 b := ⟨fun _ => lfL_acc p u 11 _ b, fun _ => rfl⟩
theorem thS_s {p : Nat → Nat} {u i b0 n b b' : Nat} (h : thS p u i b0 n b) (hn : n < 11) (c : p (28 + i) / 1000 = u) (e : b' = if 0 < fitP p u (bh (p (6 * u + 1)) (p (28 + i) % 1000) n) then lsr b (bh (p (6 * u + 1)) (p (28 + i) % 1000) n + 1) else b) : thS p u i b0 (n + 1) b' := by
  refine ⟨fun _ => ?_, fun z => absurd c z⟩
  have h1 := h.1 c
  obtain ⟨m, hm⟩ : ∃ m, 11 - n = m + 1 := ⟨10 - n, by omega⟩
  rw [hm] at h1
  rw [show 11 - (n + 1) = m by omega, e]
  exact h1
theorem thS_e {p : Nat → Nat} {u i b0 n b : Nat} (h : thS p u i b0 n b) (hn : 11 ≤ n ∨ ¬ p (28 + i) / 1000 = u) (hi : i < p 27) : b = if i < p 27 ∧ p (28 + i) / 1000 = u then lsr b0 (lfP p u (p (28 + i) % 1000)) else b0 := by
  by_cases c : p (28 + i) / 1000 = u
  · rw [if_pos ⟨hi, c⟩]
    have h1 := h.1 c
    rw [show 11 - n = 0 by omega] at h1
    exact h1
  · rw [if_neg (fun z => c z.2)]; exact h.2 c
theorem stL_s {p : Nat → Nat} {u i b b' T : Nat} (h : stL p u (8 - i) i b = T) (hi : i < 8) (e : b' = if i < p 27 ∧ p (28 + i) / 1000 = u then lsr b (lfP p u (p (28 + i) % 1000)) else b) : stL p u (8 - (i + 1)) (i + 1) b' = T := by
  obtain ⟨m, hm⟩ : ∃ m, 8 - i = m + 1 := ⟨7 - i, by omega⟩
  rw [hm] at h
  rw [show 8 - (i + 1) = m by omega, e]
  exact h
theorem lsr_y {b x : Nat} (h : b = 0 ∨ x + 1 < b) : lsr b (x + 1) = x + 1 := by
  unfold lsr
  by_cases c : b = 0
  · rw [if_pos c]
  · rw [if_neg c, if_neg (by omega)]; omega
theorem lsr_n {b x : Nat} (h : ¬ b = 0) (h2 : b ≤ x + 1) : lsr b (x + 1) = b := by
  unfold lsr
  rw [if_neg h, if_neg (by omega)]; omega
theorem cnt_yd {f : Nat → Bool} {v acc T : Nat} (h : acc + cnt f (v + 1) = T) (c : f v = true) : acc + 1 + cnt f v = T := by
  rw [cnt_s, c, if_pos rfl] at h; omega
theorem cnt_nd {f : Nat → Bool} {v acc T : Nat} (h : acc + cnt f (v + 1) = T) (c : f v = false) : acc + 0 + cnt f v = T := by
  rw [cnt_s, c] at h
  have : (if false = true then 1 else 0 : Nat) = 0 := rfl
  omega
theorem amB_no {p su sp sn : Nat → Nat} {a k : Nat} (h : su k < 2147483648) (c : (!hasB (p 24) (nI (su k))) = true) : amB p su sp sn a k = true := by
  have := bn_t c
  rw [hasB_nI h] at this
  unfold amB
  rw [this]; rfl
theorem amB_y {p su sp sn : Nat → Nat} {a k : Nat} (c : bh (p (6 * su k + 1)) a (sp k) = sn k) : amB p su sp sn a k = true := by
  unfold amB
  rw [decide_eq_true c, Bool.or_true]
theorem amB_f {p su sp sn : Nat → Nat} {a k : Nat} (h : su k < 2147483648) (c : (!hasB (p 24) (nI (su k))) = false) (c2 : ¬ bh (p (6 * su k + 1)) a (sp k) = sn k) : amB p su sp sn a k = false := by
  have := bn_f c
  rw [hasB_nI h] at this
  unfold amB
  rw [this, decide_eq_false c2]; rfl
theorem t_X5_undo {h : rHp} {Q : Option Value → rHp → Prop} {t : Nat → Nat} {ln : Nat} {p : Nat → Nat} {U : Nat → Nat → Nat} {a : Nat} {Kp : Nat → Nat → Nat} {ik : Nat → Bool} {su sp sn : Nat → Nat} {sz : Nat} {d : Int64} (I : MI h t ln p U a Kp ik su sp sn sz d) (O : OKs t ln p U a Kp ik su sp sn sz) (k : ∀ h', MI h' t ln (unA p U a).2.1 U (unA p U a).2.2 Kp ik su sp sn sz d → Fm h h' → Q (some (.int ((unA p U a).1))) h') : Cl M_X5_undo h.1 h.2.1 [.ref 15] h Q := by
  obtain ⟨th, pl, rm, rp, ev, tp, BK, KM, IK, FF, M15, M16, M17, M18, M19, M20, M21, M22, M23, M24, M25, M26, M27, ML, RMh, RKh⟩ := id I
  obtain ⟨Ot, Oln, Op, OU, OK2, Osz, Osu, Osp, Osn⟩ := id O
  refine Cl.of pl_X5 (Nat.le_of_ble_eq_true rfl) (by first | exact Nat.le_refl _ | omega) (by first | exact Nat.le_refl _ | omega) ?_
  refine Rn.aload_n dX5_undo_0 rfl rfl ?_
  refine Rn.iconst dX5_undo_1 rfl ic_0 ?_
  refine Rn.putf p_X5_51 (fun h => by cases h) dX5_undo_2 rfl M15 (Nat.lt_of_le_of_lt (Nat.le_of_ble_eq_true rfl) ML) (fun g => ⟨rfl, rfl⟩) (Nat.le_of_ble_eq_true rfl) ?_
  refine Rn.aload_n dX5_undo_5 rfl rfl ?_
  have ha14 := RMh.1
  refine Rn.getf f_X5_124 dX5_undo_6 rfl (hs_eq _ _ _) (Nat.lt_of_le_of_lt (Nat.le_of_ble_eq_true rfl) ML) rfl ?_
  refine Rn.if_neN (tgt := 15) dX5_undo_9 rfl (by decide) (by omega) (fun c9 => ?_) (fun c9 => ?_)
  · refine Rn.aload_n dX5_undo_15 rfl rfl ?_
    refine Rn.dup dX5_undo_16 rfl rfl ?_
    refine Rn.getf f_X5_124 dX5_undo_17 rfl (hs_eq _ _ _) (Nat.lt_of_le_of_lt (Nat.le_of_ble_eq_true rfl) ML) rfl ?_
    refine Rn.iconst dX5_undo_20 rfl ic_1 ?_
    refine Rn.isubN dX5_undo_21 rfl (by omega) ?_
    refine Rn.putf p_X5_124 (fun h => by cases h) dX5_undo_22 rfl (hs_eq _ _ _) (Nat.lt_of_le_of_lt (Nat.le_of_ble_eq_true rfl) ML) (fun g => ⟨rfl, rfl⟩) (Nat.le_of_ble_eq_true rfl) ?_
    refine Rn.heap (hs_hs _ _ _ _) ?_
    refine Rn.iconst dX5_undo_25 rfl ic_0 ?_
    refine Rn.istore_n dX5_undo_26 rfl (Nat.le_of_ble_eq_true rfl) ?_
    have hloop : ∀ (m : Nat) (i : Nat), 36 - i < m → i ≤ 36 → Rn (M_X5_undo, none, h.1, h.2.1) Q 27 [(0, .ref 15), (1, .int (nI i))] [] (hs (hs h 15 (moO 0 ln pl rm (a - 1) sz d)) 19 (.inl (36, lay2 (fun i => BK (36 * (a - 1) + i)) (pg p) i))) := by
      intro m
      induction m with
      | zero => intro i h0 h1; exact absurd h0 (Nat.not_lt_zero _)
      | succ m ih =>
        intro i h0 h1
        refine Rn.iload_n dX5_undo_27 rfl rfl ?_
        refine Rn.bipush dX5_undo_28 rfl bp_36 ?_
        refine Rn.icmp_geN (tgt := 59) dX5_undo_30 rfl (by decide) (by omega) (by omega) (fun c30 => ?_) (fun c30 => ?_)
        · obtain rfl : i = 36 := by omega
          refine Rn.heap (hs_in (lay2_to (fun i hi => RMh.2 (a - 1) (by omega) i hi))) ?_
          refine Rn.aload_n dX5_undo_59 rfl rfl ?_
          refine Rn.getf f_X5_124 dX5_undo_60 rfl ((hs_ne _ _ (by decide)).trans (hs_eq _ _ _)) (Nat.lt_of_le_of_lt (Nat.le_of_ble_eq_true rfl) ML) rfl ?_
          refine Rn.iret dX5_undo_63 rfl rfl rfl ?_
          have e0 : unA p U a = (nI (a - 1), U (a - 1), a - 1) := if_neg (by omega)
          rw [e0] at k
          exact (k _ ⟨_, _, _, _, _, _, _, _, _, _, ((hs_ne _ _ (by decide)).trans (hs_eq _ _ _)), ((hs_ne _ _ (by decide)).trans ((hs_ne _ _ (by decide)).trans M16)), ((hs_ne _ _ (by decide)).trans ((hs_ne _ _ (by decide)).trans M17)), ((hs_ne _ _ (by decide)).trans ((hs_ne _ _ (by decide)).trans M18)), (hs_eq _ _ _), ((hs_ne _ _ (by decide)).trans ((hs_ne _ _ (by decide)).trans M20)), ((hs_ne _ _ (by decide)).trans ((hs_ne _ _ (by decide)).trans M21)), ((hs_ne _ _ (by decide)).trans ((hs_ne _ _ (by decide)).trans M22)), ((hs_ne _ _ (by decide)).trans ((hs_ne _ _ (by decide)).trans M23)), ((hs_ne _ _ (by decide)).trans ((hs_ne _ _ (by decide)).trans M24)), ((hs_ne _ _ (by decide)).trans ((hs_ne _ _ (by decide)).trans M25)), ((hs_ne _ _ (by decide)).trans ((hs_ne _ _ (by decide)).trans M26)), ((hs_ne _ _ (by decide)).trans ((hs_ne _ _ (by decide)).trans M27)), ML, (RM_b RMh), RKh⟩ (((Fm.rf h).hs _ (by decide)).hs _ (by decide)))
        · refine Rn.aload_n dX5_undo_33 rfl rfl ?_
          refine Rn.getf f_X5_19 dX5_undo_34 rfl ((hs_ne _ _ (by decide)).trans (hs_eq _ _ _)) (Nat.lt_of_le_of_lt (Nat.le_of_ble_eq_true rfl) ML) rfl ?_
          refine Rn.iload_n dX5_undo_37 rfl rfl ?_
          refine Rn.aload_n dX5_undo_38 rfl rfl ?_
          refine Rn.getf f_X5_25 dX5_undo_39 rfl ((hs_ne _ _ (by decide)).trans (hs_eq _ _ _)) (Nat.lt_of_le_of_lt (Nat.le_of_ble_eq_true rfl) ML) rfl ?_
          refine Rn.bipush dX5_undo_42 rfl bp_36 ?_
          refine Rn.aload_n dX5_undo_44 rfl rfl ?_
          refine Rn.getf f_X5_124 dX5_undo_45 rfl ((hs_ne _ _ (by decide)).trans (hs_eq _ _ _)) (Nat.lt_of_le_of_lt (Nat.le_of_ble_eq_true rfl) ML) rfl ?_
          refine Rn.imulN dX5_undo_48 rfl ?_
          refine Rn.iload_n dX5_undo_49 rfl rfl ?_
          refine Rn.iaddN dX5_undo_50 rfl ?_
          refine Rn.ialdN dX5_undo_51 rfl ((hs_ne _ _ (by decide)).trans ((hs_ne _ _ (by decide)).trans M21)) (Nat.lt_of_le_of_lt (Nat.le_of_ble_eq_true rfl) ML) (by omega) (by omega) ?_
          refine Rn.iastN dX5_undo_52 rfl (hs_eq _ _ _) (Nat.lt_of_le_of_lt (Nat.le_of_ble_eq_true rfl) ML) (by omega) (by omega) ?_
          refine Rn.heap ((hs_hs _ _ _ _).trans (hs_in (lay2_s (fun i => BK (36 * (a - 1) + i)) (pg p) i))) ?_
          refine Rn.iincN dX5_undo_53 rfl rfl (Nat.le_of_ble_eq_true rfl) ?_
          refine Rn.goto (tgt := 27) dX5_undo_56 (by decide) ?_
          exact Rn.pick [1, 0] rfl (ih (i + 1) (by omega) (by omega))
    exact Rn.pick [1, 0] rfl (by have := hloop 37 0 (by omega) (by omega); rw [lay2_0, hs_self _ ((hs_ne _ _ (by decide)).trans M19)] at this; exact this)
  · refine Rn.bipush dX5_undo_12 rfl bp_m3 ?_
    refine Rn.iret dX5_undo_14 rfl rfl rfl ?_
    have e0 : unA p U a = (-3, p, a) := if_pos (by omega)
    rw [e0] at k
    exact (k _ ⟨_, _, _, _, _, _, _, _, _, _, (hs_eq _ _ _), ((hs_ne _ _ (by decide)).trans M16), ((hs_ne _ _ (by decide)).trans M17), ((hs_ne _ _ (by decide)).trans M18), ((hs_ne _ _ (by decide)).trans M19), ((hs_ne _ _ (by decide)).trans M20), ((hs_ne _ _ (by decide)).trans M21), ((hs_ne _ _ (by decide)).trans M22), ((hs_ne _ _ (by decide)).trans M23), ((hs_ne _ _ (by decide)).trans M24), ((hs_ne _ _ (by decide)).trans M25), ((hs_ne _ _ (by decide)).trans M26), ((hs_ne _ _ (by decide)).trans M27), ML, RMh, RKh⟩ ((Fm.rf h).hs _ (by decide)))
theorem t_X5_keep {h : rHp} {Q : Option Value → rHp → Prop} {t : Nat → Nat} {ln : Nat} {p : Nat → Nat} {U : Nat → Nat → Nat} {a : Nat} {Kp : Nat → Nat → Nat} {ik : Nat → Bool} {su sp sn : Nat → Nat} {sz : Nat} {d : Int64} (I : MI h t ln p U a Kp ik su sp sn sz d) (O : OKs t ln p U a Kp ik su sp sn sz) {x : Int32} (k : ∀ h', MI h' t ln p U a (kpA p Kp ik x).2.1 (kpA p Kp ik x).2.2 su sp sn sz d → Fm h h' → Q (some (.int ((kpA p Kp ik x).1))) h') : Cl M_X5_keep h.1 h.2.1 [.ref 15, .int x] h Q := by
  obtain ⟨th, pl, rm, rp, ev, tp, BK, KM, IK, FF, M15, M16, M17, M18, M19, M20, M21, M22, M23, M24, M25, M26, M27, ML, RMh, RKh⟩ := id I
  obtain ⟨Ot, Oln, Op, OU, OK2, Osz, Osu, Osp, Osn⟩ := id O
  refine Cl.of pl_X5 (Nat.le_of_ble_eq_true rfl) (by first | exact Nat.le_refl _ | omega) (by first | exact Nat.le_refl _ | omega) ?_
  refine Rn.aload_n dX5_keep_0 rfl rfl ?_
  refine Rn.iconst dX5_keep_1 rfl ic_0 ?_
  refine Rn.putf p_X5_51 (fun h => by cases h) dX5_keep_2 rfl M15 (Nat.lt_of_le_of_lt (Nat.le_of_ble_eq_true rfl) ML) (fun g => ⟨rfl, rfl⟩) (Nat.le_of_ble_eq_true rfl) ?_
  refine Rn.iload_n dX5_keep_5 rfl rfl ?_
  refine Rn.i2l dX5_keep_6 rfl ?_
  refine Rn.lconst dX5_keep_7 rfl lc_0 ?_
  refine Rn.lconst dX5_keep_8 rfl lc_1 ?_
  refine Rn.callS (as := [_, _, _]) s_X5_in l_X5_57 ⟨Nat.le_of_ble_eq_true rfl, Nat.le_of_ble_eq_true rfl⟩ dX5_keep_9 rfl rfl (Nat.le_of_ble_eq_true rfl) (Nat.le_refl _) (Nat.le_refl _) (t_X5_in ?_)
  refine Rn.top (congrArg bi (inL_W (by omega) (by omega))) ?_
  refine Rn.if_neB (tgt := 17) dX5_keep_12 rfl (by decide) (fun c12 => ?_) (fun c12 => ?_)
  · obtain ⟨y, hy, rfl⟩ := isW_of c12 (by omega)
    refine Rn.aload_n dX5_keep_17 rfl rfl ?_
    refine Rn.getf f_X5_31 dX5_keep_18 rfl (hs_eq _ _ _) (Nat.lt_of_le_of_lt (Nat.le_of_ble_eq_true rfl) ML) rfl ?_
    refine Rn.iload_n dX5_keep_21 rfl rfl ?_
    refine Rn.iconst dX5_keep_22 rfl ic_1 ?_
    refine Rn.zastN dX5_keep_23 rfl ((hs_ne _ _ (by decide)).trans M23) (Nat.lt_of_le_of_lt (Nat.le_of_ble_eq_true rfl) ML) (by omega) (by omega) ?_
    rw [nar_1]
    refine Rn.iconst dX5_keep_24 rfl ic_0 ?_
    refine Rn.istore_n dX5_keep_25 rfl (Nat.le_of_ble_eq_true rfl) ?_
    have hloop : ∀ (m : Nat) (i : Nat), 36 - i < m → i ≤ 36 → Rn (M_X5_keep, none, h.1, h.2.1) Q 26 [(0, .ref 15), (1, .int (nI y)), (2, .int (nI i))] [] (hs (hs (hs h 15 (moO 0 ln pl rm a sz d)) 23 (.inr (.inl (2, upd IK y (nI 1))))) 22 (.inl (72, ly2 KM (36 * y) p i))) := by
      intro m
      induction m with
      | zero => intro i h0 h1; exact absurd h0 (Nat.not_lt_zero _)
      | succ m ih =>
        intro i h0 h1
        refine Rn.iload_n dX5_keep_26 rfl rfl ?_
        refine Rn.bipush dX5_keep_27 rfl bp_36 ?_
        refine Rn.icmp_geN (tgt := 55) dX5_keep_29 rfl (by decide) (by omega) (by omega) (fun c29 => ?_) (fun c29 => ?_)
        · obtain rfl : i = 36 := by omega
          refine Rn.aload_n dX5_keep_55 rfl rfl ?_
          refine Rn.getf f_X5_19 dX5_keep_56 rfl ((hs_ne _ _ (by decide)).trans ((hs_ne _ _ (by decide)).trans (hs_eq _ _ _))) (Nat.lt_of_le_of_lt (Nat.le_of_ble_eq_true rfl) ML) rfl ?_
          refine Rn.bipush dX5_keep_59 rfl bp_24 ?_
          refine Rn.ialdN dX5_keep_61 rfl ((hs_ne _ _ (by decide)).trans ((hs_ne _ _ (by decide)).trans ((hs_ne _ _ (by decide)).trans M19))) (Nat.lt_of_le_of_lt (Nat.le_of_ble_eq_true rfl) ML) (by omega) (by omega) ?_
          refine Rn.top (pg_n _ (by omega) (by omega)) ?_
          refine Rn.iret dX5_keep_62 rfl rfl rfl ?_
          have e0 : kpA p Kp ik (nI y) = (nI (p 24), uK Kp y p, uB ik y true) := by unfold kpA; rw [c12, xn_nI (by omega)]; rfl
          rw [e0] at k
          exact (k _ ⟨_, _, _, _, _, _, _, _, _, _, ((hs_ne _ _ (by decide)).trans ((hs_ne _ _ (by decide)).trans (hs_eq _ _ _))), ((hs_ne _ _ (by decide)).trans ((hs_ne _ _ (by decide)).trans ((hs_ne _ _ (by decide)).trans M16))), ((hs_ne _ _ (by decide)).trans ((hs_ne _ _ (by decide)).trans ((hs_ne _ _ (by decide)).trans M17))), ((hs_ne _ _ (by decide)).trans ((hs_ne _ _ (by decide)).trans ((hs_ne _ _ (by decide)).trans M18))), ((hs_ne _ _ (by decide)).trans ((hs_ne _ _ (by decide)).trans ((hs_ne _ _ (by decide)).trans M19))), ((hs_ne _ _ (by decide)).trans ((hs_ne _ _ (by decide)).trans ((hs_ne _ _ (by decide)).trans M20))), ((hs_ne _ _ (by decide)).trans ((hs_ne _ _ (by decide)).trans ((hs_ne _ _ (by decide)).trans M21))), (hs_eq _ _ _), ((hs_ne _ _ (by decide)).trans (hs_eq _ _ _)), ((hs_ne _ _ (by decide)).trans ((hs_ne _ _ (by decide)).trans ((hs_ne _ _ (by decide)).trans M24))), ((hs_ne _ _ (by decide)).trans ((hs_ne _ _ (by decide)).trans ((hs_ne _ _ (by decide)).trans M25))), ((hs_ne _ _ (by decide)).trans ((hs_ne _ _ (by decide)).trans ((hs_ne _ _ (by decide)).trans M26))), ((hs_ne _ _ (by decide)).trans ((hs_ne _ _ (by decide)).trans ((hs_ne _ _ (by decide)).trans M27))), ML, RMh, (RL_keep RKh p (by omega))⟩ ((((Fm.rf h).hs _ (by decide)).hs _ (by decide)).hs _ (by decide)))
        · refine Rn.aload_n dX5_keep_32 rfl rfl ?_
          refine Rn.getf f_X5_28 dX5_keep_33 rfl ((hs_ne _ _ (by decide)).trans ((hs_ne _ _ (by decide)).trans (hs_eq _ _ _))) (Nat.lt_of_le_of_lt (Nat.le_of_ble_eq_true rfl) ML) rfl ?_
          refine Rn.bipush dX5_keep_36 rfl bp_36 ?_
          refine Rn.iload_n dX5_keep_38 rfl rfl ?_
          refine Rn.imulN dX5_keep_39 rfl ?_
          refine Rn.iload_n dX5_keep_40 rfl rfl ?_
          refine Rn.iaddN dX5_keep_41 rfl ?_
          refine Rn.aload_n dX5_keep_42 rfl rfl ?_
          refine Rn.getf f_X5_19 dX5_keep_43 rfl ((hs_ne _ _ (by decide)).trans ((hs_ne _ _ (by decide)).trans (hs_eq _ _ _))) (Nat.lt_of_le_of_lt (Nat.le_of_ble_eq_true rfl) ML) rfl ?_
          refine Rn.iload_n dX5_keep_46 rfl rfl ?_
          refine Rn.ialdN dX5_keep_47 rfl ((hs_ne _ _ (by decide)).trans ((hs_ne _ _ (by decide)).trans ((hs_ne _ _ (by decide)).trans M19))) (Nat.lt_of_le_of_lt (Nat.le_of_ble_eq_true rfl) ML) (by omega) (by omega) ?_
          refine Rn.iastN dX5_keep_48 rfl (hs_eq _ _ _) (Nat.lt_of_le_of_lt (Nat.le_of_ble_eq_true rfl) ML) (by omega) (by omega) ?_
          refine Rn.heap ((hs_hs _ _ _ _).trans (hs_in (ly2_s KM (36 * y) p i))) ?_
          refine Rn.iincN dX5_keep_49 rfl rfl (Nat.le_of_ble_eq_true rfl) ?_
          refine Rn.goto (tgt := 26) dX5_keep_52 (by decide) ?_
          exact Rn.pick [1, 2, 0] rfl (ih (i + 1) (by omega) (by omega))
    exact Rn.pick [1, 2, 0] rfl (by have := hloop 37 0 (by omega) (by omega); rw [ly2_0, hs_self _ ((hs_ne _ _ (by decide)).trans ((hs_ne _ _ (by decide)).trans M22))] at this; exact this)
  · refine Rn.iconst dX5_keep_15 rfl ic_m1 ?_
    refine Rn.iret dX5_keep_16 rfl rfl rfl ?_
    have e0 : kpA p Kp ik x = (-1, Kp, ik) := by unfold kpA; rw [c12]; rfl
    rw [e0] at k
    exact (k _ ⟨_, _, _, _, _, _, _, _, _, _, (hs_eq _ _ _), ((hs_ne _ _ (by decide)).trans M16), ((hs_ne _ _ (by decide)).trans M17), ((hs_ne _ _ (by decide)).trans M18), ((hs_ne _ _ (by decide)).trans M19), ((hs_ne _ _ (by decide)).trans M20), ((hs_ne _ _ (by decide)).trans M21), ((hs_ne _ _ (by decide)).trans M22), ((hs_ne _ _ (by decide)).trans M23), ((hs_ne _ _ (by decide)).trans M24), ((hs_ne _ _ (by decide)).trans M25), ((hs_ne _ _ (by decide)).trans M26), ((hs_ne _ _ (by decide)).trans M27), ML, RMh, RKh⟩ ((Fm.rf h).hs _ (by decide)))
theorem t_X5_again {h : rHp} {Q : Option Value → rHp → Prop} {t : Nat → Nat} {ln : Nat} {p : Nat → Nat} {U : Nat → Nat → Nat} {a : Nat} {Kp : Nat → Nat → Nat} {ik : Nat → Bool} {su sp sn : Nat → Nat} {sz : Nat} {d : Int64} (I : MI h t ln p U a Kp ik su sp sn sz d) (O : OKs t ln p U a Kp ik su sp sn sz) {x : Int32} (k : ∀ h', MI h' t ln (agA p a Kp ik x).2.1 U (agA p a Kp ik x).2.2 Kp ik su sp sn sz d → Fm h h' → Q (some (.int ((agA p a Kp ik x).1))) h') : Cl M_X5_again h.1 h.2.1 [.ref 15, .int x] h Q := by
  obtain ⟨th, pl, rm, rp, ev, tp, BK, KM, IK, FF, M15, M16, M17, M18, M19, M20, M21, M22, M23, M24, M25, M26, M27, ML, RMh, RKh⟩ := id I
  obtain ⟨Ot, Oln, Op, OU, OK2, Osz, Osu, Osp, Osn⟩ := id O
  refine Cl.of pl_X5 (Nat.le_of_ble_eq_true rfl) (by first | exact Nat.le_refl _ | omega) (by first | exact Nat.le_refl _ | omega) ?_
  refine Rn.aload_n dX5_again_0 rfl rfl ?_
  refine Rn.iconst dX5_again_1 rfl ic_0 ?_
  refine Rn.putf p_X5_51 (fun h => by cases h) dX5_again_2 rfl M15 (Nat.lt_of_le_of_lt (Nat.le_of_ble_eq_true rfl) ML) (fun g => ⟨rfl, rfl⟩) (Nat.le_of_ble_eq_true rfl) ?_
  refine Rn.iload_n dX5_again_5 rfl rfl ?_
  refine Rn.i2l dX5_again_6 rfl ?_
  refine Rn.lconst dX5_again_7 rfl lc_0 ?_
  refine Rn.lconst dX5_again_8 rfl lc_1 ?_
  refine Rn.callS (as := [_, _, _]) s_X5_in l_X5_57 ⟨Nat.le_of_ble_eq_true rfl, Nat.le_of_ble_eq_true rfl⟩ dX5_again_9 rfl rfl (Nat.le_of_ble_eq_true rfl) (Nat.le_refl _) (Nat.le_refl _) (t_X5_in ?_)
  refine Rn.top (congrArg bi (inL_W (by omega) (by omega))) ?_
  refine Rn.if_neB (tgt := 17) dX5_again_12 rfl (by decide) (fun c12 => ?_) (fun c12 => ?_)
  · obtain ⟨y, hy, rfl⟩ := isW_of c12 (by omega)
    refine Rn.aload_n dX5_again_17 rfl rfl ?_
    refine Rn.getf f_X5_31 dX5_again_18 rfl (hs_eq _ _ _) (Nat.lt_of_le_of_lt (Nat.le_of_ble_eq_true rfl) ML) rfl ?_
    refine Rn.iload_n dX5_again_21 rfl rfl ?_
    refine Rn.zaldN dX5_again_22 rfl ((hs_ne _ _ (by decide)).trans M23) (Nat.lt_of_le_of_lt (Nat.le_of_ble_eq_true rfl) ML) (by omega) (by omega) ?_
    refine Rn.top (RKh y (by omega)).1 ?_
    refine Rn.if_neB (tgt := 29) dX5_again_23 rfl (by decide) (fun c23 => ?_) (fun c23 => ?_)
    · refine Rn.iconst dX5_again_29 rfl ic_0 ?_
      refine Rn.istore_n dX5_again_30 rfl (Nat.le_of_ble_eq_true rfl) ?_
      have hloop : ∀ (m : Nat) (i : Nat), 36 - i < m → i ≤ 36 → Rn (M_X5_again, none, h.1, h.2.1) Q 31 [(0, .ref 15), (1, .int (nI y)), (2, .int (nI i))] [] (hs (hs h 15 (moO 0 ln pl rm a sz d)) 19 (.inl (36, lay2 (fun i => KM (36 * y + i)) (pg p) i))) := by
        intro m
        induction m with
        | zero => intro i h0 h1; exact absurd h0 (Nat.not_lt_zero _)
        | succ m ih =>
          intro i h0 h1
          refine Rn.iload_n dX5_again_31 rfl rfl ?_
          refine Rn.bipush dX5_again_32 rfl bp_36 ?_
          refine Rn.icmp_geN (tgt := 60) dX5_again_34 rfl (by decide) (by omega) (by omega) (fun c34 => ?_) (fun c34 => ?_)
          · obtain rfl : i = 36 := by omega
            refine Rn.heap (hs_in (lay2_to (fun i hi => (RKh y (by omega)).2 c23 i hi))) ?_
            refine Rn.aload_n dX5_again_60 rfl rfl ?_
            refine Rn.iconst dX5_again_61 rfl ic_0 ?_
            refine Rn.putf p_X5_124 (fun h => by cases h) dX5_again_62 rfl ((hs_ne _ _ (by decide)).trans (hs_eq _ _ _)) (Nat.lt_of_le_of_lt (Nat.le_of_ble_eq_true rfl) ML) (fun g => ⟨rfl, rfl⟩) (Nat.le_of_ble_eq_true rfl) ?_
            refine Rn.heap (hs_d1 _ _ _ _ (by decide)) ?_
            refine Rn.aload_n dX5_again_65 rfl rfl ?_
            refine Rn.getf f_X5_19 dX5_again_66 rfl ((hs_ne _ _ (by decide)).trans (hs_eq _ _ _)) (Nat.lt_of_le_of_lt (Nat.le_of_ble_eq_true rfl) ML) rfl ?_
            refine Rn.bipush dX5_again_69 rfl bp_24 ?_
            refine Rn.ialdN dX5_again_71 rfl (hs_eq _ _ _) (Nat.lt_of_le_of_lt (Nat.le_of_ble_eq_true rfl) ML) (by omega) (by omega) ?_
            refine Rn.top (pg_n _ (by omega) (by omega)) ?_
            refine Rn.iret dX5_again_72 rfl rfl rfl ?_
            have e0 : agA p a Kp ik (nI y) = (nI (Kp y 24), Kp y, 0) := by unfold agA; rw [c12, xn_nI (by omega), c23]; rfl
            rw [e0] at k
            exact (k _ ⟨_, _, _, _, _, _, _, _, _, _, ((hs_ne _ _ (by decide)).trans (hs_eq _ _ _)), ((hs_ne _ _ (by decide)).trans ((hs_ne _ _ (by decide)).trans M16)), ((hs_ne _ _ (by decide)).trans ((hs_ne _ _ (by decide)).trans M17)), ((hs_ne _ _ (by decide)).trans ((hs_ne _ _ (by decide)).trans M18)), (hs_eq _ _ _), ((hs_ne _ _ (by decide)).trans ((hs_ne _ _ (by decide)).trans M20)), ((hs_ne _ _ (by decide)).trans ((hs_ne _ _ (by decide)).trans M21)), ((hs_ne _ _ (by decide)).trans ((hs_ne _ _ (by decide)).trans M22)), ((hs_ne _ _ (by decide)).trans ((hs_ne _ _ (by decide)).trans M23)), ((hs_ne _ _ (by decide)).trans ((hs_ne _ _ (by decide)).trans M24)), ((hs_ne _ _ (by decide)).trans ((hs_ne _ _ (by decide)).trans M25)), ((hs_ne _ _ (by decide)).trans ((hs_ne _ _ (by decide)).trans M26)), ((hs_ne _ _ (by decide)).trans ((hs_ne _ _ (by decide)).trans M27)), ML, (RM_0 RMh), RKh⟩ (((Fm.rf h).hs _ (by decide)).hs _ (by decide)))
          · refine Rn.aload_n dX5_again_37 rfl rfl ?_
            refine Rn.getf f_X5_19 dX5_again_38 rfl ((hs_ne _ _ (by decide)).trans (hs_eq _ _ _)) (Nat.lt_of_le_of_lt (Nat.le_of_ble_eq_true rfl) ML) rfl ?_
            refine Rn.iload_n dX5_again_41 rfl rfl ?_
            refine Rn.aload_n dX5_again_42 rfl rfl ?_
            refine Rn.getf f_X5_28 dX5_again_43 rfl ((hs_ne _ _ (by decide)).trans (hs_eq _ _ _)) (Nat.lt_of_le_of_lt (Nat.le_of_ble_eq_true rfl) ML) rfl ?_
            refine Rn.bipush dX5_again_46 rfl bp_36 ?_
            refine Rn.iload_n dX5_again_48 rfl rfl ?_
            refine Rn.imulN dX5_again_49 rfl ?_
            refine Rn.iload_n dX5_again_50 rfl rfl ?_
            refine Rn.iaddN dX5_again_51 rfl ?_
            refine Rn.ialdN dX5_again_52 rfl ((hs_ne _ _ (by decide)).trans ((hs_ne _ _ (by decide)).trans M22)) (Nat.lt_of_le_of_lt (Nat.le_of_ble_eq_true rfl) ML) (by omega) (by omega) ?_
            refine Rn.iastN dX5_again_53 rfl (hs_eq _ _ _) (Nat.lt_of_le_of_lt (Nat.le_of_ble_eq_true rfl) ML) (by omega) (by omega) ?_
            refine Rn.heap ((hs_hs _ _ _ _).trans (hs_in (lay2_s (fun i => KM (36 * y + i)) (pg p) i))) ?_
            refine Rn.iincN dX5_again_54 rfl rfl (Nat.le_of_ble_eq_true rfl) ?_
            refine Rn.goto (tgt := 31) dX5_again_57 (by decide) ?_
            exact Rn.pick [1, 2, 0] rfl (ih (i + 1) (by omega) (by omega))
      exact Rn.pick [1, 2, 0] rfl (by have := hloop 37 0 (by omega) (by omega); rw [lay2_0, hs_self _ ((hs_ne _ _ (by decide)).trans M19)] at this; exact this)
    · refine Rn.bipush dX5_again_26 rfl bp_m3 ?_
      refine Rn.iret dX5_again_28 rfl rfl rfl ?_
      have e0 : agA p a Kp ik (nI y) = (-3, p, a) := by unfold agA; rw [c12, xn_nI (by omega), c23]; rfl
      rw [e0] at k
      exact (k _ ⟨_, _, _, _, _, _, _, _, _, _, (hs_eq _ _ _), ((hs_ne _ _ (by decide)).trans M16), ((hs_ne _ _ (by decide)).trans M17), ((hs_ne _ _ (by decide)).trans M18), ((hs_ne _ _ (by decide)).trans M19), ((hs_ne _ _ (by decide)).trans M20), ((hs_ne _ _ (by decide)).trans M21), ((hs_ne _ _ (by decide)).trans M22), ((hs_ne _ _ (by decide)).trans M23), ((hs_ne _ _ (by decide)).trans M24), ((hs_ne _ _ (by decide)).trans M25), ((hs_ne _ _ (by decide)).trans M26), ((hs_ne _ _ (by decide)).trans M27), ML, RMh, RKh⟩ ((Fm.rf h).hs _ (by decide)))
  · refine Rn.iconst dX5_again_15 rfl ic_m1 ?_
    refine Rn.iret dX5_again_16 rfl rfl rfl ?_
    have e0 : agA p a Kp ik x = (-1, p, a) := by unfold agA; rw [c12]; rfl
    rw [e0] at k
    exact (k _ ⟨_, _, _, _, _, _, _, _, _, _, (hs_eq _ _ _), ((hs_ne _ _ (by decide)).trans M16), ((hs_ne _ _ (by decide)).trans M17), ((hs_ne _ _ (by decide)).trans M18), ((hs_ne _ _ (by decide)).trans M19), ((hs_ne _ _ (by decide)).trans M20), ((hs_ne _ _ (by decide)).trans M21), ((hs_ne _ _ (by decide)).trans M22), ((hs_ne _ _ (by decide)).trans M23), ((hs_ne _ _ (by decide)).trans M24), ((hs_ne _ _ (by decide)).trans M25), ((hs_ne _ _ (by decide)).trans M26), ((hs_ne _ _ (by decide)).trans M27), ML, RMh, RKh⟩ ((Fm.rf h).hs _ (by decide)))
theorem t_X5_fitting {h : rHp} {Q : Option Value → rHp → Prop} {t : Nat → Nat} {ln : Nat} {p : Nat → Nat} {U : Nat → Nat → Nat} {a : Nat} {Kp : Nat → Nat → Nat} {ik : Nat → Bool} {su sp sn : Nat → Nat} {sz : Nat} {d : Int64} (I : MI h t ln p U a Kp ik su sp sn sz d) (O : OKs t ln p U a Kp ik su sp sn sz) {x y : Int32} (k : ∀ h', MI h' t ln p U a Kp ik su sp sn sz d → Fm h h' → Q (some (.int (ftI p x y))) h') : Cl M_X5_fitting h.1 h.2.1 [.ref 15, .int x, .int y] h Q := by
  obtain ⟨th, pl, rm, rp, ev, tp, BK, KM, IK, FF, M15, M16, M17, M18, M19, M20, M21, M22, M23, M24, M25, M26, M27, ML, RMh, RKh⟩ := id I
  obtain ⟨Ot, Oln, Op, OU, OK2, Osz, Osu, Osp, Osn⟩ := id O
  refine Cl.of pl_X5 (Nat.le_of_ble_eq_true rfl) (by first | exact Nat.le_refl _ | omega) (by first | exact Nat.le_refl _ | omega) ?_
  refine Rn.aload_n dX5_fitting_0 rfl rfl ?_
  refine Rn.iconst dX5_fitting_1 rfl ic_0 ?_
  refine Rn.putf p_X5_51 (fun h => by cases h) dX5_fitting_2 rfl M15 (Nat.lt_of_le_of_lt (Nat.le_of_ble_eq_true rfl) ML) (fun g => ⟨rfl, rfl⟩) (Nat.le_of_ble_eq_true rfl) ?_
  refine Rn.aload_n dX5_fitting_5 rfl rfl ?_
  refine Rn.getf f_X5_19 dX5_fitting_6 rfl (hs_eq _ _ _) (Nat.lt_of_le_of_lt (Nat.le_of_ble_eq_true rfl) ML) rfl ?_
  refine Rn.iload_n dX5_fitting_9 rfl rfl ?_
  refine Rn.callS (as := [_, _]) s_X5_noUser l_X5_75 ⟨Nat.le_of_ble_eq_true rfl, Nat.le_of_ble_eq_true rfl⟩ dX5_fitting_10 rfl rfl (Nat.le_of_ble_eq_true rfl) (Nat.le_refl _) (Nat.le_refl _) (t_X5_noUser ⟨((hs_ne _ _ (by decide)).trans M19), by exact (Nat.lt_of_le_of_lt (Nat.le_of_ble_eq_true rfl) ML)⟩ Op.1 ?_)
  refine Rn.if_eqB (tgt := 18) dX5_fitting_13 rfl (by decide) (fun c13 => ?_) (fun c13 => ?_)
  · obtain ⟨u, hu, rfl⟩ := hasB_of (bn_f c13)
    have hu4 : u < 4 := by have := Op.1; omega
    have hus := Op.us hu4
    have c0 := bn_f c13
    refine Rn.iload_n dX5_fitting_18 rfl rfl ?_
    refine Rn.i2l dX5_fitting_19 rfl ?_
    refine Rn.lconst dX5_fitting_20 rfl lc_0 ?_
    refine Rn.lconst dX5_fitting_21 rfl lc_1 ?_
    refine Rn.callS (as := [_, _, _]) s_X5_in l_X5_57 ⟨Nat.le_of_ble_eq_true rfl, Nat.le_of_ble_eq_true rfl⟩ dX5_fitting_22 rfl rfl (Nat.le_of_ble_eq_true rfl) (Nat.le_refl _) (Nat.le_refl _) (t_X5_in ?_)
    refine Rn.top (congrArg bi (inL_W (by omega) (by omega))) ?_
    refine Rn.if_neB (tgt := 31) dX5_fitting_25 rfl (by decide) (fun c25 => ?_) (fun c25 => ?_)
    · refine Rn.bipush dX5_fitting_31 rfl bp_m9 ?_
      refine Rn.istore_n dX5_fitting_33 rfl (Nat.le_of_ble_eq_true rfl) ?_
      refine Rn.sipush dX5_fitting_34 rfl sp_250 ?_
      refine Rn.istore dX5_fitting_37 rfl (Nat.le_of_ble_eq_true rfl) ?_
      have hloop : ∀ (m : Nat) (n b : Nat), n < m → n ≤ 251 → dn (fB p u) n b = dn (fB p u) 251 0 → Rn (M_X5_fitting, none, h.1, h.2.1) Q 39 [(0, .ref 15), (1, .int (nI u)), (2, .int y), (3, .int (wi b)), (4, .int (nI n - 1))] [] (hs h 15 (moO 0 ln pl rm a sz d)) := by
        intro m
        induction m with
        | zero => intro n b h0 h1 h2; exact absurd h0 (Nat.not_lt_zero _)
        | succ m ih =>
          intro n b h0 h1 h2
          refine Rn.iload dX5_fitting_39 rfl rfl ?_
          refine Rn.if_lt (tgt := 70) dX5_fitting_41 rfl (by decide) (fun c41 => ?_) (fun c41 => ?_)
          · obtain rfl : n = 0 := (nI_m1 (by omega)).mp c41
            refine Rn.iload_n dX5_fitting_70 rfl rfl ?_
            refine Rn.if_ne (tgt := 84) dX5_fitting_71 rfl (by decide) (fun c71 => ?_) (fun c71 => ?_)
            · refine Rn.iload_n dX5_fitting_84 rfl rfl ?_
              refine Rn.iret dX5_fitting_85 rfl rfl rfl ?_
              exact rn_fin (k _ ⟨_, _, _, _, _, _, _, _, _, _, (hs_eq _ _ _), ((hs_ne _ _ (by decide)).trans M16), ((hs_ne _ _ (by decide)).trans M17), ((hs_ne _ _ (by decide)).trans M18), ((hs_ne _ _ (by decide)).trans M19), ((hs_ne _ _ (by decide)).trans M20), ((hs_ne _ _ (by decide)).trans M21), ((hs_ne _ _ (by decide)).trans M22), ((hs_ne _ _ (by decide)).trans M23), ((hs_ne _ _ (by decide)).trans M24), ((hs_ne _ _ (by decide)).trans M25), ((hs_ne _ _ (by decide)).trans M26), ((hs_ne _ _ (by decide)).trans M27), ML, RMh, RKh⟩ ((Fm.rf h).hs _ (by decide))) (some_int (by unfold ftI; rw [c0, c25, xn_nI (by omega), if_pos rfl, if_pos rfl, nI_0, if_neg c71]; exact dn_0 h2)) rfl
            · refine Rn.aload_n dX5_fitting_74 rfl rfl ?_
              refine Rn.iconst dX5_fitting_75 rfl ic_1 ?_
              refine Rn.iload_n dX5_fitting_76 rfl rfl ?_
              refine Rn.ishl dX5_fitting_77 rfl ?_
              refine Rn.top (shl_N (by omega)) ?_
              refine Rn.callV (as := [_]) v_X5_fittingOf l_X5_156 ⟨Nat.le_of_ble_eq_true rfl, Nat.le_of_ble_eq_true rfl⟩ dX5_fitting_78 rfl rfl (Nat.le_of_ble_eq_true rfl) (hs_eq _ _ _) (Nat.lt_of_le_of_lt (Nat.le_of_ble_eq_true rfl) ML) rfl (Nat.le_refl _) (Nat.le_refl _) (t_X5_fittingOf (hs_eq _ _ _) ((hs_ne _ _ (by decide)).trans M19) ML Op (by have := Nat.pow_le_pow_right (n := 2) (by omega) (show u ≤ 3 by omega); omega) ?_) 
              refine Rn.goto (tgt := 85) dX5_fitting_81 (by decide) ?_
              refine Rn.iret dX5_fitting_85 rfl rfl rfl ?_
              exact rn_fin (k _ ⟨_, _, _, _, _, _, _, _, _, _, (hs_eq _ _ _), ((hs_ne _ _ (by decide)).trans M16), ((hs_ne _ _ (by decide)).trans M17), ((hs_ne _ _ (by decide)).trans M18), ((hs_ne _ _ (by decide)).trans M19), ((hs_ne _ _ (by decide)).trans M20), ((hs_ne _ _ (by decide)).trans M21), ((hs_ne _ _ (by decide)).trans M22), ((hs_ne _ _ (by decide)).trans M23), ((hs_ne _ _ (by decide)).trans M24), ((hs_ne _ _ (by decide)).trans M25), ((hs_ne _ _ (by decide)).trans M26), ((hs_ne _ _ (by decide)).trans M27), ML, RMh, RKh⟩ ((Fm.rf h).hs _ (by decide))) (some_int (by unfold ftI; rw [c0, c25, xn_nI (by omega), if_pos rfl, if_pos rfl, nI_0, if_pos c71, cnt_one Op hu])) rfl
          · obtain ⟨v, rfl⟩ : ∃ v, n = v + 1 := ⟨n - 1, by have : ¬ n = 0 := fun z => c41 ((nI_m1 (by omega)).mpr z); omega⟩
            rw [nI_pr]
            refine Rn.aload_n dX5_fitting_44 rfl rfl ?_
            refine Rn.getf f_X5_19 dX5_fitting_45 rfl (hs_eq _ _ _) (Nat.lt_of_le_of_lt (Nat.le_of_ble_eq_true rfl) ML) rfl ?_
            refine Rn.iload_n dX5_fitting_48 rfl rfl ?_
            refine Rn.iload dX5_fitting_49 rfl rfl ?_
            refine Rn.callS (as := [_, _, _]) s_X5_fitsOn l_X5_65 ⟨Nat.le_of_ble_eq_true rfl, Nat.le_of_ble_eq_true rfl⟩ dX5_fitting_51 rfl rfl (Nat.le_of_ble_eq_true rfl) (Nat.le_refl _) (Nat.le_refl _) (t_X5_fitsOn ⟨((hs_ne _ _ (by decide)).trans M19), by exact (Nat.lt_of_le_of_lt (Nat.le_of_ble_eq_true rfl) ML)⟩ Op hu4 (by omega) ?_)
            have hfl := fitP_le p u v
            refine Rn.if_leN (tgt := 62) dX5_fitting_54 rfl (by decide) (by omega) (fun c54 => ?_) (fun c54 => ?_)
            · refine Rn.iload_n dX5_fitting_62 rfl rfl ?_
              refine Rn.istore_n dX5_fitting_63 rfl (Nat.le_of_ble_eq_true rfl) ?_
              refine Rn.idecM dX5_fitting_64 rfl rfl (Nat.le_of_ble_eq_true rfl) ?_
              refine Rn.goto (tgt := 39) dX5_fitting_67 (by decide) ?_
              exact Rn.pick [2, 3, 4, 1, 0] rfl (ih v b (by omega) (by omega) (dn_n h2 (decide_eq_false (by omega))))
            · refine Rn.iload dX5_fitting_57 rfl rfl ?_
              refine Rn.top (wi_s v).symm ?_
              refine Rn.goto (tgt := 63) dX5_fitting_59 (by decide) ?_
              refine Rn.istore_n dX5_fitting_63 rfl (Nat.le_of_ble_eq_true rfl) ?_
              refine Rn.idecM dX5_fitting_64 rfl rfl (Nat.le_of_ble_eq_true rfl) ?_
              refine Rn.goto (tgt := 39) dX5_fitting_67 (by decide) ?_
              exact Rn.pick [2, 3, 4, 1, 0] rfl (ih v (v + 1) (by omega) (by omega) (dn_y h2 (decide_eq_true (by omega))))
      exact Rn.pick [2, 3, 4, 1, 0] rfl (hloop 252 251 0 (by omega) (by omega) rfl)
    · refine Rn.bipush dX5_fitting_28 rfl bp_m2 ?_
      refine Rn.iret dX5_fitting_30 rfl rfl rfl ?_
      exact rn_fin (k _ ⟨_, _, _, _, _, _, _, _, _, _, (hs_eq _ _ _), ((hs_ne _ _ (by decide)).trans M16), ((hs_ne _ _ (by decide)).trans M17), ((hs_ne _ _ (by decide)).trans M18), ((hs_ne _ _ (by decide)).trans M19), ((hs_ne _ _ (by decide)).trans M20), ((hs_ne _ _ (by decide)).trans M21), ((hs_ne _ _ (by decide)).trans M22), ((hs_ne _ _ (by decide)).trans M23), ((hs_ne _ _ (by decide)).trans M24), ((hs_ne _ _ (by decide)).trans M25), ((hs_ne _ _ (by decide)).trans M26), ((hs_ne _ _ (by decide)).trans M27), ML, RMh, RKh⟩ ((Fm.rf h).hs _ (by decide))) (some_int (by unfold ftI; rw [c0, c25]; rfl)) rfl
  · refine Rn.iconst dX5_fitting_16 rfl ic_m1 ?_
    refine Rn.iret dX5_fitting_17 rfl rfl rfl ?_
    exact rn_fin (k _ ⟨_, _, _, _, _, _, _, _, _, _, (hs_eq _ _ _), ((hs_ne _ _ (by decide)).trans M16), ((hs_ne _ _ (by decide)).trans M17), ((hs_ne _ _ (by decide)).trans M18), ((hs_ne _ _ (by decide)).trans M19), ((hs_ne _ _ (by decide)).trans M20), ((hs_ne _ _ (by decide)).trans M21), ((hs_ne _ _ (by decide)).trans M22), ((hs_ne _ _ (by decide)).trans M23), ((hs_ne _ _ (by decide)).trans M24), ((hs_ne _ _ (by decide)).trans M25), ((hs_ne _ _ (by decide)).trans M26), ((hs_ne _ _ (by decide)).trans M27), ML, RMh, RKh⟩ ((Fm.rf h).hs _ (by decide))) (some_int (by unfold ftI; rw [bn_t c13]; rfl)) rfl
theorem t_X5_thief {h : rHp} {Q : Option Value → rHp → Prop} {t : Nat → Nat} {ln : Nat} {p : Nat → Nat} {U : Nat → Nat → Nat} {a : Nat} {Kp : Nat → Nat → Nat} {ik : Nat → Bool} {su sp sn : Nat → Nat} {sz : Nat} {d : Int64} (I : MI h t ln p U a Kp ik su sp sn sz d) (O : OKs t ln p U a Kp ik su sp sn sz) {x : Int32} (k : ∀ h', MI h' t ln p U a Kp ik su sp sn sz d → Fm h h' → Q (some (.int (thI p x))) h') : Cl M_X5_thief h.1 h.2.1 [.ref 15, .int x] h Q := by
  obtain ⟨th, pl, rm, rp, ev, tp, BK, KM, IK, FF, M15, M16, M17, M18, M19, M20, M21, M22, M23, M24, M25, M26, M27, ML, RMh, RKh⟩ := id I
  obtain ⟨Ot, Oln, Op, OU, OK2, Osz, Osu, Osp, Osn⟩ := id O
  refine Cl.of pl_X5 (Nat.le_of_ble_eq_true rfl) (by first | exact Nat.le_refl _ | omega) (by first | exact Nat.le_refl _ | omega) ?_
  refine Rn.aload_n dX5_thief_0 rfl rfl ?_
  refine Rn.iconst dX5_thief_1 rfl ic_0 ?_
  refine Rn.putf p_X5_51 (fun h => by cases h) dX5_thief_2 rfl M15 (Nat.lt_of_le_of_lt (Nat.le_of_ble_eq_true rfl) ML) (fun g => ⟨rfl, rfl⟩) (Nat.le_of_ble_eq_true rfl) ?_
  refine Rn.aload_n dX5_thief_5 rfl rfl ?_
  refine Rn.getf f_X5_19 dX5_thief_6 rfl (hs_eq _ _ _) (Nat.lt_of_le_of_lt (Nat.le_of_ble_eq_true rfl) ML) rfl ?_
  refine Rn.iload_n dX5_thief_9 rfl rfl ?_
  refine Rn.callS (as := [_, _]) s_X5_noUser l_X5_75 ⟨Nat.le_of_ble_eq_true rfl, Nat.le_of_ble_eq_true rfl⟩ dX5_thief_10 rfl rfl (Nat.le_of_ble_eq_true rfl) (Nat.le_refl _) (Nat.le_refl _) (t_X5_noUser ⟨((hs_ne _ _ (by decide)).trans M19), by exact (Nat.lt_of_le_of_lt (Nat.le_of_ble_eq_true rfl) ML)⟩ Op.1 ?_)
  refine Rn.if_eqB (tgt := 18) dX5_thief_13 rfl (by decide) (fun c13 => ?_) (fun c13 => ?_)
  · obtain ⟨u, hu, rfl⟩ := hasB_of (bn_f c13)
    have hu4 : u < 4 := by have := Op.1; omega
    have hus := Op.us hu4
    have c0 := bn_f c13
    refine Rn.bipush dX5_thief_18 rfl bp_m9 ?_
    refine Rn.istore_n dX5_thief_20 rfl (Nat.le_of_ble_eq_true rfl) ?_
    refine Rn.iconst dX5_thief_21 rfl ic_0 ?_
    refine Rn.istore_n dX5_thief_22 rfl (Nat.le_of_ble_eq_true rfl) ?_
    have hloop : ∀ (m : Nat) (i b0 : Nat), p 27 - i < m → i ≤ p 27 → b0 < 100000 → stL p u (8 - i) i b0 = stL p u 8 0 0 → Rn (M_X5_thief, none, h.1, h.2.1) Q 23 [(0, .ref 15), (1, .int (nI u)), (2, .int (wi b0)), (3, .int (nI i))] [] (hs h 15 (moO 0 ln pl rm a sz d)) := by
      intro m
      induction m with
      | zero => intro i b0 h0 h1 h2 h3; exact absurd h0 (Nat.not_lt_zero _)
      | succ m ih =>
        intro i b0 h0 h1 h2 h3
        have h3o := h3
        have h27 := Op.2.2.2.1
        refine Rn.iload_n dX5_thief_23 rfl rfl ?_
        refine Rn.aload_n dX5_thief_24 rfl rfl ?_
        refine Rn.getf f_X5_19 dX5_thief_25 rfl (hs_eq _ _ _) (Nat.lt_of_le_of_lt (Nat.le_of_ble_eq_true rfl) ML) rfl ?_
        refine Rn.bipush dX5_thief_28 rfl bp_27 ?_
        refine Rn.ialdN dX5_thief_30 rfl ((hs_ne _ _ (by decide)).trans M19) (Nat.lt_of_le_of_lt (Nat.le_of_ble_eq_true rfl) ML) (by omega) (by omega) ?_
        refine Rn.top (pg_n _ (by omega) (by omega)) ?_
        refine Rn.icmp_geN (tgt := 136) dX5_thief_31 rfl (by decide) (by omega) (by omega) (fun c31 => ?_) (fun c31 => ?_)
        · obtain rfl : i = p 27 := by omega
          refine Rn.iload_n dX5_thief_136 rfl rfl ?_
          refine Rn.iret dX5_thief_137 rfl rfl rfl ?_
          exact rn_fin (k _ ⟨_, _, _, _, _, _, _, _, _, _, (hs_eq _ _ _), ((hs_ne _ _ (by decide)).trans M16), ((hs_ne _ _ (by decide)).trans M17), ((hs_ne _ _ (by decide)).trans M18), ((hs_ne _ _ (by decide)).trans M19), ((hs_ne _ _ (by decide)).trans M20), ((hs_ne _ _ (by decide)).trans M21), ((hs_ne _ _ (by decide)).trans M22), ((hs_ne _ _ (by decide)).trans M23), ((hs_ne _ _ (by decide)).trans M24), ((hs_ne _ _ (by decide)).trans M25), ((hs_ne _ _ (by decide)).trans M26), ((hs_ne _ _ (by decide)).trans M27), ML, RMh, RKh⟩ ((Fm.rf h).hs _ (by decide))) (some_int (by unfold thI; rw [c0, xn_nI (by omega), if_pos rfl, ← h3, stL_end _ _ _ (Nat.le_refl _)])) rfl
        · have hi8 : i < 8 := by have := Op.2.2.2.1; omega
          refine Rn.iconst dX5_thief_34 rfl ic_0 ?_
          refine Rn.istore dX5_thief_35 rfl (Nat.le_of_ble_eq_true rfl) ?_
          have hloop2 : ∀ (m : Nat) (n b : Nat), 11 - n < m → n ≤ 11 → b < 100000 → thS p u i b0 n b → Rn (M_X5_thief, none, h.1, h.2.1) Q 37 [(0, .ref 15), (1, .int (nI u)), (2, .int (wi b)), (3, .int (nI i)), (4, .int (nI n))] [] (hs h 15 (moO 0 ln pl rm a sz d)) := by
            intro m
            induction m with
            | zero => intro n b h0 h1 h2 h3; exact absurd h0 (Nat.not_lt_zero _)
            | succ m ih2 =>
              intro n b h0 h1 h2 h3
              refine Rn.iload dX5_thief_37 rfl rfl ?_
              refine Rn.bipush dX5_thief_39 rfl bp_11 ?_
              refine Rn.icmp_geN (tgt := 130) dX5_thief_41 rfl (by decide) (by omega) (by omega) (fun c41 => ?_) (fun c41 => ?_)
              · refine Rn.iincN dX5_thief_130 rfl rfl (Nat.le_of_ble_eq_true rfl) ?_
                refine Rn.goto (tgt := 23) dX5_thief_133 (by decide) ?_
                exact Rn.pick [1, 2, 3, 0] rfl (ih (i + 1) b (by omega) (by omega) h2 (stL_s h3o (by omega) (thS_e h3 (by first | exact Or.inl (by omega) | exact Or.inr c58) (by omega))))
              · refine Rn.aload_n dX5_thief_44 rfl rfl ?_
                refine Rn.getf f_X5_19 dX5_thief_45 rfl (hs_eq _ _ _) (Nat.lt_of_le_of_lt (Nat.le_of_ble_eq_true rfl) ML) rfl ?_
                refine Rn.bipush dX5_thief_48 rfl bp_28 ?_
                refine Rn.iload_n dX5_thief_50 rfl rfl ?_
                refine Rn.iaddN dX5_thief_51 rfl ?_
                refine Rn.ialdN dX5_thief_52 rfl ((hs_ne _ _ (by decide)).trans M19) (Nat.lt_of_le_of_lt (Nat.le_of_ble_eq_true rfl) ML) (by omega) (by omega) ?_
                refine Rn.top (pg_n _ (by omega) (by omega)) ?_
                have hhd := Op.2.2.2.2.2.1 i (by omega)
                refine Rn.sipush dX5_thief_53 rfl sp_1000 ?_
                refine Rn.idivN dX5_thief_56 rfl (by omega) (by omega) (by omega) ?_
                refine Rn.iload_n dX5_thief_57 rfl rfl ?_
                refine Rn.icmp_neN (tgt := 130) dX5_thief_58 rfl (by decide) (by omega) (by omega) (fun c58 => ?_) (fun c58 => ?_)
                · refine Rn.iincN dX5_thief_130 rfl rfl (Nat.le_of_ble_eq_true rfl) ?_
                  refine Rn.goto (tgt := 23) dX5_thief_133 (by decide) ?_
                  exact Rn.pick [1, 2, 3, 0] rfl (ih (i + 1) b (by omega) (by omega) h2 (stL_s h3o (by omega) (thS_e h3 (by first | exact Or.inl (by omega) | exact Or.inr c58) (by omega))))
                · refine Rn.aload_n dX5_thief_61 rfl rfl ?_
                  refine Rn.getf f_X5_19 dX5_thief_62 rfl (hs_eq _ _ _) (Nat.lt_of_le_of_lt (Nat.le_of_ble_eq_true rfl) ML) rfl ?_
                  refine Rn.bipush dX5_thief_65 rfl bp_28 ?_
                  refine Rn.iload_n dX5_thief_67 rfl rfl ?_
                  refine Rn.iaddN dX5_thief_68 rfl ?_
                  refine Rn.ialdN dX5_thief_69 rfl ((hs_ne _ _ (by decide)).trans M19) (Nat.lt_of_le_of_lt (Nat.le_of_ble_eq_true rfl) ML) (by omega) (by omega) ?_
                  refine Rn.top (pg_n _ (by omega) (by omega)) ?_
                  refine Rn.sipush dX5_thief_70 rfl sp_1000 ?_
                  refine Rn.iremN dX5_thief_73 rfl (by omega) (by omega) (by omega) ?_
                  refine Rn.aload_n dX5_thief_74 rfl rfl ?_
                  refine Rn.getf f_X5_19 dX5_thief_75 rfl (hs_eq _ _ _) (Nat.lt_of_le_of_lt (Nat.le_of_ble_eq_true rfl) ML) rfl ?_
                  refine Rn.bipush dX5_thief_78 rfl bp_6 ?_
                  refine Rn.iload_n dX5_thief_80 rfl rfl ?_
                  refine Rn.imulN dX5_thief_81 rfl ?_
                  refine Rn.iconst dX5_thief_82 rfl ic_1 ?_
                  refine Rn.iaddN dX5_thief_83 rfl ?_
                  refine Rn.ialdN dX5_thief_84 rfl ((hs_ne _ _ (by decide)).trans M19) (Nat.lt_of_le_of_lt (Nat.le_of_ble_eq_true rfl) ML) (by omega) (by omega) ?_
                  refine Rn.top (pg_us _ (by omega) (show 1 < 6 by omega)) ?_
                  refine Rn.iload dX5_thief_85 rfl rfl ?_
                  refine Rn.callS (as := [_, _, _]) s_X5_after l_X5_61 ⟨Nat.le_of_ble_eq_true rfl, Nat.le_of_ble_eq_true rfl⟩ dX5_thief_87 rfl rfl (Nat.le_of_ble_eq_true rfl) (Nat.le_refl _) (Nat.le_refl _) (t_X5_after (by omega) (by omega) (by omega) ?_)
                  have hx : bh (p (6 * u + 1)) (p (28 + i) % 1000) n < 251 := bh_lt hhd.1 n
                  refine Rn.istore dX5_thief_90 rfl (Nat.le_of_ble_eq_true rfl) ?_
                  refine Rn.aload_n dX5_thief_92 rfl rfl ?_
                  refine Rn.getf f_X5_19 dX5_thief_93 rfl (hs_eq _ _ _) (Nat.lt_of_le_of_lt (Nat.le_of_ble_eq_true rfl) ML) rfl ?_
                  refine Rn.iload_n dX5_thief_96 rfl rfl ?_
                  refine Rn.iload dX5_thief_97 rfl rfl ?_
                  refine Rn.callS (as := [_, _, _]) s_X5_fitsOn l_X5_65 ⟨Nat.le_of_ble_eq_true rfl, Nat.le_of_ble_eq_true rfl⟩ dX5_thief_99 rfl rfl (Nat.le_of_ble_eq_true rfl) (Nat.le_refl _) (Nat.le_refl _) (t_X5_fitsOn ⟨((hs_ne _ _ (by decide)).trans M19), by exact (Nat.lt_of_le_of_lt (Nat.le_of_ble_eq_true rfl) ML)⟩ Op hu4 (by omega) ?_)
                  have hfl := fitP_le p u (bh (p (6 * u + 1)) (p (28 + i) % 1000) n)
                  refine Rn.if_leN (tgt := 122) dX5_thief_102 rfl (by decide) (by omega) (fun c102 => ?_) (fun c102 => ?_)
                  · refine Rn.iload_n dX5_thief_122 rfl rfl ?_
                    refine Rn.istore_n dX5_thief_123 rfl (Nat.le_of_ble_eq_true rfl) ?_
                    refine Rn.iincN dX5_thief_124 rfl rfl (Nat.le_of_ble_eq_true rfl) ?_
                    refine Rn.goto (tgt := 37) dX5_thief_127 (by decide) ?_
                    exact Rn.pick [3, 4, 1, 5, 0] rfl (ih2 (n + 1) b (by omega) (by omega) (by omega) (thS_s h3 (by omega) c58 (by rw [if_neg (by omega)])))
                  · refine Rn.iload_n dX5_thief_105 rfl rfl ?_
                    refine Rn.bipush dX5_thief_106 rfl bp_m9 ?_
                    refine Rn.icmp_eq (tgt := 117) dX5_thief_108 rfl (by decide) (fun c108 => ?_) (fun c108 => ?_)
                    · refine Rn.iload dX5_thief_117 rfl rfl ?_
                      refine Rn.top (wi_s _).symm ?_
                      refine Rn.goto (tgt := 123) dX5_thief_119 (by decide) ?_
                      refine Rn.istore_n dX5_thief_123 rfl (Nat.le_of_ble_eq_true rfl) ?_
                      refine Rn.iincN dX5_thief_124 rfl rfl (Nat.le_of_ble_eq_true rfl) ?_
                      refine Rn.goto (tgt := 37) dX5_thief_127 (by decide) ?_
                      exact Rn.pick [3, 4, 1, 5, 0] rfl (ih2 (n + 1) (bh (p (6 * u + 1)) (p (28 + i) % 1000) n + 1) (by omega) (by omega) (by omega) (thS_s h3 (by omega) c58 (by rw [if_pos (by omega), lsr_y (Or.inl (wi_z h2 c108))])))
                    · obtain ⟨y, rfl⟩ : ∃ y, b = y + 1 := ⟨b - 1, by have : ¬ b = 0 := fun z => c108 (by rw [z]; rfl); omega⟩
                      rw [wi_s]
                      refine Rn.iload dX5_thief_111 rfl rfl ?_
                      refine Rn.iload_n dX5_thief_113 rfl rfl ?_
                      refine Rn.icmp_geN (tgt := 122) dX5_thief_114 rfl (by decide) (by omega) (by omega) (fun c114 => ?_) (fun c114 => ?_)
                      · refine Rn.iload_n dX5_thief_122 rfl rfl ?_
                        refine Rn.istore_n dX5_thief_123 rfl (Nat.le_of_ble_eq_true rfl) ?_
                        refine Rn.iincN dX5_thief_124 rfl rfl (Nat.le_of_ble_eq_true rfl) ?_
                        refine Rn.goto (tgt := 37) dX5_thief_127 (by decide) ?_
                        exact Rn.pick [3, 4, 1, 5, 0] rfl (ih2 (n + 1) (y + 1) (by omega) (by omega) (by omega) (thS_s h3 (by omega) c58 (by rw [if_pos (by omega), lsr_n (by omega) (by omega)])))
                      · refine Rn.iload dX5_thief_117 rfl rfl ?_
                        refine Rn.top (wi_s _).symm ?_
                        refine Rn.goto (tgt := 123) dX5_thief_119 (by decide) ?_
                        refine Rn.istore_n dX5_thief_123 rfl (Nat.le_of_ble_eq_true rfl) ?_
                        refine Rn.iincN dX5_thief_124 rfl rfl (Nat.le_of_ble_eq_true rfl) ?_
                        refine Rn.goto (tgt := 37) dX5_thief_127 (by decide) ?_
                        exact Rn.pick [3, 4, 1, 5, 0] rfl (ih2 (n + 1) (bh (p (6 * u + 1)) (p (28 + i) % 1000) n + 1) (by omega) (by omega) (by omega) (thS_s h3 (by omega) c58 (by rw [if_pos (by omega), lsr_y (Or.inr (by omega))])))
          exact Rn.pick [1, 2, 3, 4, 0] rfl (hloop2 12 0 b0 (by omega) (by omega) h2 (thS_0 p u i b0))
    exact Rn.pick [2, 3, 1, 0] rfl (hloop (p 27 + 1) 0 0 (by omega) (by omega) (by omega) rfl)
  · refine Rn.iconst dX5_thief_16 rfl ic_m1 ?_
    refine Rn.iret dX5_thief_17 rfl rfl rfl ?_
    exact rn_fin (k _ ⟨_, _, _, _, _, _, _, _, _, _, (hs_eq _ _ _), ((hs_ne _ _ (by decide)).trans M16), ((hs_ne _ _ (by decide)).trans M17), ((hs_ne _ _ (by decide)).trans M18), ((hs_ne _ _ (by decide)).trans M19), ((hs_ne _ _ (by decide)).trans M20), ((hs_ne _ _ (by decide)).trans M21), ((hs_ne _ _ (by decide)).trans M22), ((hs_ne _ _ (by decide)).trans M23), ((hs_ne _ _ (by decide)).trans M24), ((hs_ne _ _ (by decide)).trans M25), ((hs_ne _ _ (by decide)).trans M26), ((hs_ne _ _ (by decide)).trans M27), ML, RMh, RKh⟩ ((Fm.rf h).hs _ (by decide))) (some_int (by unfold thI; rw [bn_t c13]; rfl)) rfl
theorem t_X5_which {h : rHp} {Q : Option Value → rHp → Prop} {t : Nat → Nat} {ln : Nat} {p : Nat → Nat} {U : Nat → Nat → Nat} {a : Nat} {Kp : Nat → Nat → Nat} {ik : Nat → Bool} {su sp sn : Nat → Nat} {sz : Nat} {d : Int64} (I : MI h t ln p U a Kp ik su sp sn sz d) (O : OKs t ln p U a Kp ik su sp sn sz) {y : Int32} (k : ∀ h', MI h' t ln p U a Kp ik su sp sn sz d → Fm h h' → Q (some (.int (whI p su sp sn sz y))) h') : Cl M_X5_which h.1 h.2.1 [.ref 15, .int y] h Q := by
  obtain ⟨th, pl, rm, rp, ev, tp, BK, KM, IK, FF, M15, M16, M17, M18, M19, M20, M21, M22, M23, M24, M25, M26, M27, ML, RMh, RKh⟩ := id I
  obtain ⟨Ot, Oln, Op, OU, OK2, Osz, Osu, Osp, Osn⟩ := id O
  refine Cl.of pl_X5 (Nat.le_of_ble_eq_true rfl) (by first | exact Nat.le_refl _ | omega) (by first | exact Nat.le_refl _ | omega) ?_
  refine Rn.aload_n dX5_which_0 rfl rfl ?_
  refine Rn.iconst dX5_which_1 rfl ic_0 ?_
  refine Rn.putf p_X5_51 (fun h => by cases h) dX5_which_2 rfl M15 (Nat.lt_of_le_of_lt (Nat.le_of_ble_eq_true rfl) ML) (fun g => ⟨rfl, rfl⟩) (Nat.le_of_ble_eq_true rfl) ?_
  refine Rn.iload_n dX5_which_5 rfl rfl ?_
  refine Rn.i2l dX5_which_6 rfl ?_
  refine Rn.lconst dX5_which_7 rfl lc_0 ?_
  refine Rn.lconst dX5_which_8 rfl lc_1 ?_
  refine Rn.callS (as := [_, _, _]) s_X5_in l_X5_57 ⟨Nat.le_of_ble_eq_true rfl, Nat.le_of_ble_eq_true rfl⟩ dX5_which_9 rfl rfl (Nat.le_of_ble_eq_true rfl) (Nat.le_refl _) (Nat.le_refl _) (t_X5_in ?_)
  refine Rn.top (congrArg bi (inL_W (by omega) (by omega))) ?_
  refine Rn.if_neB (tgt := 18) dX5_which_12 rfl (by decide) (fun c12 => ?_) (fun c12 => ?_)
  · refine Rn.iconst dX5_which_18 rfl ic_0 ?_
    refine Rn.istore_n dX5_which_19 rfl (Nat.le_of_ble_eq_true rfl) ?_
    refine Rn.bipush dX5_which_20 rfl bp_m9 ?_
    refine Rn.istore_n dX5_which_22 rfl (Nat.le_of_ble_eq_true rfl) ?_
    refine Rn.sipush dX5_which_23 rfl sp_250 ?_
    refine Rn.istore dX5_which_26 rfl (Nat.le_of_ble_eq_true rfl) ?_
    have hloop : ∀ (m : Nat) (n acc b : Nat), n < m → n ≤ 251 → dn (agB p su sp sn sz) n b = dn (agB p su sp sn sz) 251 0 → acc + cnt (agB p su sp sn sz) n = cnt (agB p su sp sn sz) 251 → Rn (M_X5_which, none, h.1, h.2.1) Q 28 [(0, .ref 15), (1, .int y), (2, .int (nI acc)), (3, .int (wi b)), (4, .int (nI n - 1))] [] (hs h 15 (moO 0 ln pl rm a sz d)) := by
      intro m
      induction m with
      | zero => intro n acc b h0 h1 h2 h3; exact absurd h0 (Nat.not_lt_zero _)
      | succ m ih =>
        intro n acc b h0 h1 h2 h3
        have hcl := cnt_le (agB p su sp sn sz) 251
        refine Rn.iload dX5_which_28 rfl rfl ?_
        refine Rn.if_lt (tgt := 165) dX5_which_30 rfl (by decide) (fun c30 => ?_) (fun c30 => ?_)
        · obtain rfl : n = 0 := (nI_m1 (by omega)).mp c30
          refine Rn.iload_n dX5_which_165 rfl rfl ?_
          refine Rn.if_ne (tgt := 173) dX5_which_166 rfl (by decide) (fun c166 => ?_) (fun c166 => ?_)
          · refine Rn.iload_n dX5_which_173 rfl rfl ?_
            refine Rn.iret dX5_which_174 rfl rfl rfl ?_
            exact rn_fin (k _ ⟨_, _, _, _, _, _, _, _, _, _, (hs_eq _ _ _), ((hs_ne _ _ (by decide)).trans M16), ((hs_ne _ _ (by decide)).trans M17), ((hs_ne _ _ (by decide)).trans M18), ((hs_ne _ _ (by decide)).trans M19), ((hs_ne _ _ (by decide)).trans M20), ((hs_ne _ _ (by decide)).trans M21), ((hs_ne _ _ (by decide)).trans M22), ((hs_ne _ _ (by decide)).trans M23), ((hs_ne _ _ (by decide)).trans M24), ((hs_ne _ _ (by decide)).trans M25), ((hs_ne _ _ (by decide)).trans M26), ((hs_ne _ _ (by decide)).trans M27), ML, RMh, RKh⟩ ((Fm.rf h).hs _ (by decide))) (some_int (by unfold whI; rw [c12, if_pos rfl, nI_0, if_neg c166]; exact dn_0 h2)) rfl
          · refine Rn.iload_n dX5_which_169 rfl rfl ?_
            refine Rn.goto (tgt := 174) dX5_which_170 (by decide) ?_
            refine Rn.iret dX5_which_174 rfl rfl rfl ?_
            exact rn_fin (k _ ⟨_, _, _, _, _, _, _, _, _, _, (hs_eq _ _ _), ((hs_ne _ _ (by decide)).trans M16), ((hs_ne _ _ (by decide)).trans M17), ((hs_ne _ _ (by decide)).trans M18), ((hs_ne _ _ (by decide)).trans M19), ((hs_ne _ _ (by decide)).trans M20), ((hs_ne _ _ (by decide)).trans M21), ((hs_ne _ _ (by decide)).trans M22), ((hs_ne _ _ (by decide)).trans M23), ((hs_ne _ _ (by decide)).trans M24), ((hs_ne _ _ (by decide)).trans M25), ((hs_ne _ _ (by decide)).trans M26), ((hs_ne _ _ (by decide)).trans M27), ML, RMh, RKh⟩ ((Fm.rf h).hs _ (by decide))) (some_int (by unfold whI; rw [c12, if_pos rfl, nI_0, if_pos c166]; exact congrArg nI (by have : acc + 0 = _ := h3; omega))) rfl
        · obtain ⟨v, rfl⟩ : ∃ v, n = v + 1 := ⟨n - 1, by have : ¬ n = 0 := fun z => c30 ((nI_m1 (by omega)).mpr z); omega⟩
          rw [nI_pr]
          refine Rn.iconst dX5_which_33 rfl ic_1 ?_
          refine Rn.istore dX5_which_34 rfl (Nat.le_of_ble_eq_true rfl) ?_
          refine Rn.iconst dX5_which_36 rfl ic_0 ?_
          refine Rn.istore dX5_which_37 rfl (Nat.le_of_ble_eq_true rfl) ?_
          have hloop2 : ∀ (m : Nat) (k' : Nat), sz - k' < m → k' ≤ sz → Rn (M_X5_which, none, h.1, h.2.1) Q 39 [(0, .ref 15), (1, .int y), (2, .int (nI acc)), (3, .int (wi b)), (4, .int (nI v)), (5, .int (bi (alB (amB p su sp sn v) k'))), (6, .int (nI k'))] [] (hs h 15 (moO 0 ln pl rm a sz d)) := by
            intro m
            induction m with
            | zero => intro k' h0 h1; exact absurd h0 (Nat.not_lt_zero _)
            | succ m ih2 =>
              intro k' h0 h1
              refine Rn.iload dX5_which_39 rfl rfl ?_
              refine Rn.aload_n dX5_which_41 rfl rfl ?_
              refine Rn.getf f_X5_175 dX5_which_42 rfl (hs_eq _ _ _) (Nat.lt_of_le_of_lt (Nat.le_of_ble_eq_true rfl) ML) rfl ?_
              refine Rn.icmp_geN (tgt := 134) dX5_which_45 rfl (by decide) (by omega) (by omega) (fun c45 => ?_) (fun c45 => ?_)
              · obtain rfl : k' = sz := by omega
                refine Rn.iload_n dX5_which_134 rfl rfl ?_
                refine Rn.iload dX5_which_135 rfl rfl ?_
                refine Rn.if_eqB (tgt := 144) dX5_which_137 rfl (by decide) (fun c137 => ?_) (fun c137 => ?_)
                · have c137' := c137
                  rw [agB_al] at c137'
                  refine Rn.iconst dX5_which_144 rfl ic_0 ?_
                  refine Rn.iaddN dX5_which_145 rfl ?_
                  refine Rn.istore_n dX5_which_146 rfl (Nat.le_of_ble_eq_true rfl) ?_
                  refine Rn.iload dX5_which_147 rfl rfl ?_
                  refine Rn.if_eqB (tgt := 157) dX5_which_149 rfl (by decide) (fun c149 => ?_) (fun c149 => ?_)
                  · refine Rn.iload_n dX5_which_157 rfl rfl ?_
                    refine Rn.istore_n dX5_which_158 rfl (Nat.le_of_ble_eq_true rfl) ?_
                    refine Rn.idecM dX5_which_159 rfl rfl (Nat.le_of_ble_eq_true rfl) ?_
                    refine Rn.goto (tgt := 28) dX5_which_162 (by decide) ?_
                    exact Rn.pick [3, 4, 2, 1, 0] rfl (ih v (acc + 0) b (by omega) (by omega) (dn_n h2 c137') (cnt_nd h3 c137'))
                  · refine Rn.iload dX5_which_152 rfl rfl ?_
                    refine Rn.top (wi_s v).symm ?_
                    refine Rn.goto (tgt := 158) dX5_which_154 (by decide) ?_
                    refine Rn.istore_n dX5_which_158 rfl (Nat.le_of_ble_eq_true rfl) ?_
                    refine Rn.idecM dX5_which_159 rfl rfl (Nat.le_of_ble_eq_true rfl) ?_
                    refine Rn.goto (tgt := 28) dX5_which_162 (by decide) ?_
                    exact Rn.pick [3, 4, 2, 1, 0] rfl (absurd (c137.symm.trans c149) (by decide))
                · have c137' := c137
                  rw [agB_al] at c137'
                  refine Rn.iconst dX5_which_140 rfl ic_1 ?_
                  refine Rn.goto (tgt := 145) dX5_which_141 (by decide) ?_
                  refine Rn.iaddN dX5_which_145 rfl ?_
                  refine Rn.istore_n dX5_which_146 rfl (Nat.le_of_ble_eq_true rfl) ?_
                  refine Rn.iload dX5_which_147 rfl rfl ?_
                  refine Rn.if_eqB (tgt := 157) dX5_which_149 rfl (by decide) (fun c149 => ?_) (fun c149 => ?_)
                  · refine Rn.iload_n dX5_which_157 rfl rfl ?_
                    refine Rn.istore_n dX5_which_158 rfl (Nat.le_of_ble_eq_true rfl) ?_
                    refine Rn.idecM dX5_which_159 rfl rfl (Nat.le_of_ble_eq_true rfl) ?_
                    refine Rn.goto (tgt := 28) dX5_which_162 (by decide) ?_
                    exact Rn.pick [3, 4, 2, 1, 0] rfl (absurd (c137.symm.trans c149) (by decide))
                  · refine Rn.iload dX5_which_152 rfl rfl ?_
                    refine Rn.top (wi_s v).symm ?_
                    refine Rn.goto (tgt := 158) dX5_which_154 (by decide) ?_
                    refine Rn.istore_n dX5_which_158 rfl (Nat.le_of_ble_eq_true rfl) ?_
                    refine Rn.idecM dX5_which_159 rfl rfl (Nat.le_of_ble_eq_true rfl) ?_
                    refine Rn.goto (tgt := 28) dX5_which_162 (by decide) ?_
                    exact Rn.pick [3, 4, 2, 1, 0] rfl (ih v (acc + 1) (v + 1) (by omega) (by omega) (dn_y h2 c137') (cnt_yd h3 c137'))
              · have hsu := Osu k' (by omega)
                have hsp := Osp k' (by omega)
                have hsn := Osn k' (by omega)
                refine Rn.aload_n dX5_which_48 rfl rfl ?_
                refine Rn.getf f_X5_19 dX5_which_49 rfl (hs_eq _ _ _) (Nat.lt_of_le_of_lt (Nat.le_of_ble_eq_true rfl) ML) rfl ?_
                refine Rn.aload_n dX5_which_52 rfl rfl ?_
                refine Rn.getf f_X5_35 dX5_which_53 rfl (hs_eq _ _ _) (Nat.lt_of_le_of_lt (Nat.le_of_ble_eq_true rfl) ML) rfl ?_
                refine Rn.iload dX5_which_56 rfl rfl ?_
                refine Rn.ialdN dX5_which_58 rfl ((hs_ne _ _ (by decide)).trans M24) (Nat.lt_of_le_of_lt (Nat.le_of_ble_eq_true rfl) ML) (by omega) (by omega) ?_
                refine Rn.top (show na su k' = nI (su k') from rfl) ?_
                refine Rn.callS (as := [_, _]) s_X5_noUser l_X5_75 ⟨Nat.le_of_ble_eq_true rfl, Nat.le_of_ble_eq_true rfl⟩ dX5_which_59 rfl rfl (Nat.le_of_ble_eq_true rfl) (Nat.le_refl _) (Nat.le_refl _) (t_X5_noUser ⟨((hs_ne _ _ (by decide)).trans M19), by exact (Nat.lt_of_le_of_lt (Nat.le_of_ble_eq_true rfl) ML)⟩ Op.1 ?_)
                refine Rn.if_neB (tgt := 69) dX5_which_62 rfl (by decide) (fun c62 => ?_) (fun c62 => ?_)
                · refine Rn.iconst dX5_which_69 rfl ic_0 ?_
                  refine Rn.istore dX5_which_70 rfl (Nat.le_of_ble_eq_true rfl) ?_
                  refine Rn.iload dX5_which_72 rfl rfl ?_
                  refine Rn.if_eqB (tgt := 125) dX5_which_74 rfl (by decide) (fun c74 => ?_) (fun c74 => ?_)
                  · refine Rn.iconst dX5_which_125 rfl ic_0 ?_
                    refine Rn.top (y := bi (alB (amB p su sp sn v) (k' + 1))) (by first | exact alB_n1 c74 | exact alB_n2 (amB_f (by omega) c62 c118)) ?_
                    refine Rn.istore dX5_which_126 rfl (Nat.le_of_ble_eq_true rfl) ?_
                    refine Rn.iincN dX5_which_128 rfl rfl (Nat.le_of_ble_eq_true rfl) ?_
                    refine Rn.goto (tgt := 39) dX5_which_131 (by decide) ?_
                    exact Rn.pick [3, 4, 5, 6, 7, 1, 0] rfl (ih2 (k' + 1) (by omega) (by omega))
                  · refine Rn.iload dX5_which_77 rfl rfl ?_
                    refine Rn.if_eqN (tgt := 121) dX5_which_79 rfl (by decide) (by omega) (fun c79 => ?_) (fun c79 => ?_)
                    · refine Rn.iconst dX5_which_121 rfl ic_1 ?_
                      refine Rn.top (y := bi (alB (amB p su sp sn v) (k' + 1))) (alB_y c74 (by first | exact amB_no (by omega) c62 | exact amB_y c118)) ?_
                      refine Rn.goto (tgt := 126) dX5_which_122 (by decide) ?_
                      refine Rn.istore dX5_which_126 rfl (Nat.le_of_ble_eq_true rfl) ?_
                      refine Rn.iincN dX5_which_128 rfl rfl (Nat.le_of_ble_eq_true rfl) ?_
                      refine Rn.goto (tgt := 39) dX5_which_131 (by decide) ?_
                      exact Rn.pick [3, 4, 5, 6, 7, 1, 0] rfl (ih2 (k' + 1) (by omega) (by omega))
                    · first | omega | exact False.elim c79
                · refine Rn.iconst dX5_which_65 rfl ic_1 ?_
                  refine Rn.goto (tgt := 70) dX5_which_66 (by decide) ?_
                  refine Rn.istore dX5_which_70 rfl (Nat.le_of_ble_eq_true rfl) ?_
                  refine Rn.iload dX5_which_72 rfl rfl ?_
                  refine Rn.if_eqB (tgt := 125) dX5_which_74 rfl (by decide) (fun c74 => ?_) (fun c74 => ?_)
                  · refine Rn.iconst dX5_which_125 rfl ic_0 ?_
                    refine Rn.top (y := bi (alB (amB p su sp sn v) (k' + 1))) (by first | exact alB_n1 c74 | exact alB_n2 (amB_f (by omega) c62 c118)) ?_
                    refine Rn.istore dX5_which_126 rfl (Nat.le_of_ble_eq_true rfl) ?_
                    refine Rn.iincN dX5_which_128 rfl rfl (Nat.le_of_ble_eq_true rfl) ?_
                    refine Rn.goto (tgt := 39) dX5_which_131 (by decide) ?_
                    exact Rn.pick [3, 4, 5, 6, 7, 1, 0] rfl (ih2 (k' + 1) (by omega) (by omega))
                  · refine Rn.iload dX5_which_77 rfl rfl ?_
                    refine Rn.if_eqN (tgt := 121) dX5_which_79 rfl (by decide) (by omega) (fun c79 => ?_) (fun c79 => ?_)
                    · first | omega | exact False.elim c79
                    · refine Rn.iload dX5_which_82 rfl rfl ?_
                      refine Rn.aload_n dX5_which_84 rfl rfl ?_
                      refine Rn.getf f_X5_19 dX5_which_85 rfl (hs_eq _ _ _) (Nat.lt_of_le_of_lt (Nat.le_of_ble_eq_true rfl) ML) rfl ?_
                      refine Rn.bipush dX5_which_88 rfl bp_6 ?_
                      refine Rn.aload_n dX5_which_90 rfl rfl ?_
                      refine Rn.getf f_X5_35 dX5_which_91 rfl (hs_eq _ _ _) (Nat.lt_of_le_of_lt (Nat.le_of_ble_eq_true rfl) ML) rfl ?_
                      refine Rn.iload dX5_which_94 rfl rfl ?_
                      refine Rn.ialdN dX5_which_96 rfl ((hs_ne _ _ (by decide)).trans M24) (Nat.lt_of_le_of_lt (Nat.le_of_ble_eq_true rfl) ML) (by omega) (by omega) ?_
                      refine Rn.top (show na su k' = nI (su k') from rfl) ?_
                      refine Rn.imulN dX5_which_97 rfl ?_
                      refine Rn.iconst dX5_which_98 rfl ic_1 ?_
                      refine Rn.iaddN dX5_which_99 rfl ?_
                      refine Rn.ialdN dX5_which_100 rfl ((hs_ne _ _ (by decide)).trans M19) (Nat.lt_of_le_of_lt (Nat.le_of_ble_eq_true rfl) ML) (by omega) (by omega) ?_
                      refine Rn.top (pg_us _ (by omega) (show 1 < 6 by omega)) ?_
                      have hq := Op.us hsu
                      refine Rn.aload_n dX5_which_101 rfl rfl ?_
                      refine Rn.getf f_X5_38 dX5_which_102 rfl (hs_eq _ _ _) (Nat.lt_of_le_of_lt (Nat.le_of_ble_eq_true rfl) ML) rfl ?_
                      refine Rn.iload dX5_which_105 rfl rfl ?_
                      refine Rn.ialdN dX5_which_107 rfl ((hs_ne _ _ (by decide)).trans M25) (Nat.lt_of_le_of_lt (Nat.le_of_ble_eq_true rfl) ML) (by omega) (by omega) ?_
                      refine Rn.top (show na sp k' = nI (sp k') from rfl) ?_
                      refine Rn.callS (as := [_, _, _]) s_X5_after l_X5_61 ⟨Nat.le_of_ble_eq_true rfl, Nat.le_of_ble_eq_true rfl⟩ dX5_which_108 rfl rfl (Nat.le_of_ble_eq_true rfl) (Nat.le_refl _) (Nat.le_refl _) (t_X5_after (by omega) (by omega) (by omega) ?_)
                      have hbh : bh (p (6 * su k' + 1)) v (sp k') < 251 := bh_lt (by omega) _
                      refine Rn.aload_n dX5_which_111 rfl rfl ?_
                      refine Rn.getf f_X5_41 dX5_which_112 rfl (hs_eq _ _ _) (Nat.lt_of_le_of_lt (Nat.le_of_ble_eq_true rfl) ML) rfl ?_
                      refine Rn.iload dX5_which_115 rfl rfl ?_
                      refine Rn.ialdN dX5_which_117 rfl ((hs_ne _ _ (by decide)).trans M26) (Nat.lt_of_le_of_lt (Nat.le_of_ble_eq_true rfl) ML) (by omega) (by omega) ?_
                      refine Rn.top (show na sn k' = nI (sn k') from rfl) ?_
                      refine Rn.icmp_neN (tgt := 125) dX5_which_118 rfl (by decide) (by omega) (by omega) (fun c118 => ?_) (fun c118 => ?_)
                      · refine Rn.iconst dX5_which_125 rfl ic_0 ?_
                        refine Rn.top (y := bi (alB (amB p su sp sn v) (k' + 1))) (by first | exact alB_n1 c74 | exact alB_n2 (amB_f (by omega) c62 c118)) ?_
                        refine Rn.istore dX5_which_126 rfl (Nat.le_of_ble_eq_true rfl) ?_
                        refine Rn.iincN dX5_which_128 rfl rfl (Nat.le_of_ble_eq_true rfl) ?_
                        refine Rn.goto (tgt := 39) dX5_which_131 (by decide) ?_
                        exact Rn.pick [3, 4, 5, 6, 7, 1, 0] rfl (ih2 (k' + 1) (by omega) (by omega))
                      · refine Rn.iconst dX5_which_121 rfl ic_1 ?_
                        refine Rn.top (y := bi (alB (amB p su sp sn v) (k' + 1))) (alB_y c74 (by first | exact amB_no (by omega) c62 | exact amB_y c118)) ?_
                        refine Rn.goto (tgt := 126) dX5_which_122 (by decide) ?_
                        refine Rn.istore dX5_which_126 rfl (Nat.le_of_ble_eq_true rfl) ?_
                        refine Rn.iincN dX5_which_128 rfl rfl (Nat.le_of_ble_eq_true rfl) ?_
                        refine Rn.goto (tgt := 39) dX5_which_131 (by decide) ?_
                        exact Rn.pick [3, 4, 5, 6, 7, 1, 0] rfl (ih2 (k' + 1) (by omega) (by omega))
          exact Rn.pick [2, 3, 4, 5, 6, 1, 0] rfl (hloop2 (sz + 1) 0 (by omega) (by omega))
    exact Rn.pick [3, 4, 2, 1, 0] rfl (hloop 252 251 0 0 (by omega) (by omega) rfl (Nat.zero_add _))
  · refine Rn.bipush dX5_which_15 rfl bp_m2 ?_
    refine Rn.iret dX5_which_17 rfl rfl rfl ?_
    exact rn_fin (k _ ⟨_, _, _, _, _, _, _, _, _, _, (hs_eq _ _ _), ((hs_ne _ _ (by decide)).trans M16), ((hs_ne _ _ (by decide)).trans M17), ((hs_ne _ _ (by decide)).trans M18), ((hs_ne _ _ (by decide)).trans M19), ((hs_ne _ _ (by decide)).trans M20), ((hs_ne _ _ (by decide)).trans M21), ((hs_ne _ _ (by decide)).trans M22), ((hs_ne _ _ (by decide)).trans M23), ((hs_ne _ _ (by decide)).trans M24), ((hs_ne _ _ (by decide)).trans M25), ((hs_ne _ _ (by decide)).trans M26), ((hs_ne _ _ (by decide)).trans M27), ML, RMh, RKh⟩ ((Fm.rf h).hs _ (by decide))) (some_int (by unfold whI; rw [c12]; rfl)) rfl
