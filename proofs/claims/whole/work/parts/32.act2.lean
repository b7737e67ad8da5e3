theorem Tx.app {h : rHp} {t : Nat → Nat} {ln pl : Nat} (T : Tx h t ln pl) (t' : Nat → Nat) (ln' pl' : Nat) : Tx (tp (hs h 2 (.inl (80, na t'))) ln' pl') t' ln' pl' := ⟨hs_eq _ _ _, (hs_ne _ _ (by decide)).trans (hs_eq _ _ _), T.2.2.1, T.2.2.2⟩
theorem t_X4_write {h : rHp} {Q : Option Value → rHp → Prop} {t : Nat → Nat} {ln : Nat} {p : Nat → Nat} {U : Nat → Nat → Nat} {a : Nat} {Kp : Nat → Nat → Nat} {ik : Nat → Bool} {su sp sn : Nat → Nat} {sz : Nat} {d : Int64} (I : CI h t ln p U a Kp ik su sp sn sz d) (O : OKs t ln p U a Kp ik su sp sn sz) {x : Int32} (k : ∀ h', CI h' (wrA t ln x).2.1 (wrA t ln x).2.2 p U a Kp ik su sp sn sz d → Fr h h' → Q (some (.int (wrA t ln x).1)) h') : Cl M_X4_write h.1 h.2.1 [.ref 0, .int x] h Q := by
  obtain ⟨pl, pt, B, KP, IK, n, C, T, H, G, S, E, RBh, RKh⟩ := id I
  obtain ⟨Ot, Oln, Op, OU, OK2, Osz, Osu, Osp, Osn⟩ := id O
  refine Cl.of pl_X4 (Nat.le_of_ble_eq_true rfl) (by first | exact Nat.le_refl _ | omega) (by first | exact Nat.le_refl _ | omega) ?_
  refine Rn.iload_n dX4_write_0 rfl rfl ?_
  refine Rn.if_lt (tgt := 11) dX4_write_1 rfl (by decide) (fun c1 => ?_) (fun c1 => ?_)
  · refine Rn.bipush dX4_write_11 rfl bp_m2 ?_
    refine Rn.iret dX4_write_13 rfl rfl rfl ?_
    first | (have e0 : wrA t ln x = (-2, t, ln) := by unfold wrA; rw [isW_0n c1]; rfl); rw [e0] at k; exact k h I (Fr.rf h) | (have e0 : wrA t ln x = (-2, t, ln) := by unfold wrA; rw [isW_0h c8]; rfl); rw [e0] at k; exact k h I (Fr.rf h)
  · refine Rn.iload_n dX4_write_4 rfl rfl ?_
    refine Rn.sipush dX4_write_5 rfl sp_255 ?_
    refine Rn.icmp_le (tgt := 14) dX4_write_8 rfl (by decide) (fun c8 => ?_) (fun c8 => ?_)
    · obtain ⟨y, hy, rfl⟩ := isW_of (isW_0y c1 c8) (by omega)
      refine Rn.aload_n dX4_write_14 rfl rfl ?_
      refine Rn.getf f_X4_10 dX4_write_15 rfl C.1 C.2 rfl ?_
      refine Rn.iload_n dX4_write_18 rfl rfl ?_
      refine Rn.callV (as := [_]) v_X3_append l_X4_44 ⟨Nat.le_of_ble_eq_true rfl, Nat.le_of_ble_eq_true rfl⟩ dX4_write_19 rfl rfl (Nat.le_of_ble_eq_true rfl) T.1 T.2.2.1 rfl (Nat.le_refl _) (Nat.le_refl _) (t_X3_append T Oln (fun e80 => ?_) (fun e80 => ?_)) 
      · refine Rn.if_eqB (tgt := 35) dX4_write_22 rfl (by decide) (fun c22 => ?_) (fun c22 => ?_)
        · refine Rn.bipush dX4_write_35 rfl bp_m4 ?_
          refine Rn.iret dX4_write_37 rfl rfl rfl ?_
          have e0 : wrA t ln (nI y) = (-4, t, ln) := by unfold wrA; rw [isW_0y c1 c8, if_pos rfl, if_pos e80]
          rw [e0] at k
          exact k h I (Fr.rf h)
        · exact absurd c22 (by decide)
      · refine Rn.if_eqB (tgt := 35) dX4_write_22 rfl (by decide) (fun c22 => ?_) (fun c22 => ?_)
        · exact absurd c22 (by decide)
        · refine Rn.aload_n dX4_write_25 rfl rfl ?_
          refine Rn.getf f_X4_10 dX4_write_26 rfl ((hs_ne _ _ (by decide)).trans ((hs_ne _ _ (by decide)).trans C.1)) C.2 rfl ?_
          refine Rn.getf f_X4_48 dX4_write_29 rfl (hs_eq _ _ _) T.2.2.1 rfl ?_
          refine Rn.goto (tgt := 37) dX4_write_32 (by decide) ?_
          refine Rn.iret dX4_write_37 rfl rfl rfl ?_
          have e0 : wrA t ln (nI y) = (nI (ln + 1), un t ln y, ln + 1) := by unfold wrA; rw [isW_0y c1 c8, if_pos rfl, if_neg (by omega), xn_nI (by omega)]
          rw [e0] at k
          exact k _ ⟨pl, pt, B, KP, IK, n, (C.other (by decide)).other (by decide), T.app _ _ _, (H.other (by decide) (by decide)).other (by decide) (by decide), (G.other (by decide) (by decide)).other (by decide) (by decide), (S.other (by decide)).other (by decide), (E.other (by decide)).other (by decide), RBh, RKh⟩ ((((Fr.rf h).hs _ (by decide)).hs _ (by decide)))
    · refine Rn.bipush dX4_write_11 rfl bp_m2 ?_
      refine Rn.iret dX4_write_13 rfl rfl rfl ?_
      first | (have e0 : wrA t ln x = (-2, t, ln) := by unfold wrA; rw [isW_0n c1]; rfl); rw [e0] at k; exact k h I (Fr.rf h) | (have e0 : wrA t ln x = (-2, t, ln) := by unfold wrA; rw [isW_0h c8]; rfl); rw [e0] at k; exact k h I (Fr.rf h)
theorem t_X4_wipe {h : rHp} {Q : Option Value → rHp → Prop} {t : Nat → Nat} {ln : Nat} {p : Nat → Nat} {U : Nat → Nat → Nat} {a : Nat} {Kp : Nat → Nat → Nat} {ik : Nat → Bool} {su sp sn : Nat → Nat} {sz : Nat} {d : Int64} (I : CI h t ln p U a Kp ik su sp sn sz d) (O : OKs t ln p U a Kp ik su sp sn sz) (k : ∀ h', CI h' t 0 p U a Kp ik su sp sn sz d → Fr h h' → Q (some (.int (nI ln))) h') : Cl M_X4_wipe h.1 h.2.1 [.ref 0] h Q := by
  obtain ⟨pl, pt, B, KP, IK, n, C, T, H, G, S, E, RBh, RKh⟩ := id I
  obtain ⟨Ot, Oln, Op, OU, OK2, Osz, Osu, Osp, Osn⟩ := id O
  refine Cl.of pl_X4 (Nat.le_of_ble_eq_true rfl) (by first | exact Nat.le_refl _ | omega) (by first | exact Nat.le_refl _ | omega) ?_
  refine Rn.aload_n dX4_wipe_0 rfl rfl ?_
  refine Rn.getf f_X4_10 dX4_wipe_1 rfl C.1 C.2 rfl ?_
  refine Rn.getf f_X4_48 dX4_wipe_4 rfl T.1 T.2.2.1 rfl ?_
  refine Rn.istore_n dX4_wipe_7 rfl (Nat.le_of_ble_eq_true rfl) ?_
  refine Rn.aload_n dX4_wipe_8 rfl rfl ?_
  refine Rn.getf f_X4_10 dX4_wipe_9 rfl C.1 C.2 rfl ?_
  refine Rn.iconst dX4_wipe_12 rfl ic_0 ?_
  refine Rn.putf p_X4_48 (fun h => by cases h) dX4_wipe_13 rfl T.1 T.2.2.1 (fun g => ⟨rfl, rfl⟩) (Nat.le_of_ble_eq_true rfl) ?_
  refine Rn.iload_n dX4_wipe_16 rfl rfl ?_
  refine Rn.iret dX4_wipe_17 rfl rfl rfl ?_
  exact k _ ⟨pl, pt, B, KP, IK, n, C.other (by decide), T.put _ _, H.other (by decide) (by decide), G.other (by decide) (by decide), S.other (by decide), E.other (by decide), RBh, RKh⟩ ((Fr.rf h).hs _ (by decide))
theorem t_X4_unsee {h : rHp} {Q : Option Value → rHp → Prop} {t : Nat → Nat} {ln : Nat} {p : Nat → Nat} {U : Nat → Nat → Nat} {a : Nat} {Kp : Nat → Nat → Nat} {ik : Nat → Bool} {su sp sn : Nat → Nat} {sz : Nat} {d : Int64} (I : CI h t ln p U a Kp ik su sp sn sz d) (O : OKs t ln p U a Kp ik su sp sn sz) (k : ∀ h', CI h' t ln p U a Kp ik su sp sn 0 d → Fr h h' → Q (some (.int (nI sz))) h') : Cl M_X4_unsee h.1 h.2.1 [.ref 0] h Q := by
  obtain ⟨pl, pt, B, KP, IK, n, C, T, H, G, S, E, RBh, RKh⟩ := id I
  obtain ⟨Ot, Oln, Op, OU, OK2, Osz, Osu, Osp, Osn⟩ := id O
  refine Cl.of pl_X4 (Nat.le_of_ble_eq_true rfl) (by first | exact Nat.le_refl _ | omega) (by first | exact Nat.le_refl _ | omega) ?_
  refine Rn.aload_n dX4_unsee_0 rfl rfl ?_
  refine Rn.getf f_X4_36 dX4_unsee_1 rfl C.1 C.2 rfl ?_
  refine Rn.getf f_X4_176 dX4_unsee_4 rfl E.1 (Nat.lt_of_le_of_lt (Nat.le_of_ble_eq_true rfl) E.2.2.2.2) rfl ?_
  refine Rn.istore_n dX4_unsee_7 rfl (Nat.le_of_ble_eq_true rfl) ?_
  refine Rn.aload_n dX4_unsee_8 rfl rfl ?_
  refine Rn.getf f_X4_36 dX4_unsee_9 rfl C.1 C.2 rfl ?_
  refine Rn.iconst dX4_unsee_12 rfl ic_0 ?_
  refine Rn.putf p_X4_176 (fun h => by cases h) dX4_unsee_13 rfl E.1 (Nat.lt_of_le_of_lt (Nat.le_of_ble_eq_true rfl) E.2.2.2.2) (fun g => ⟨rfl, rfl⟩) (Nat.le_of_ble_eq_true rfl) ?_
  refine Rn.iload_n dX4_unsee_16 rfl rfl ?_
  refine Rn.iret dX4_unsee_17 rfl rfl rfl ?_
  exact k _ ⟨pl, pt, B, KP, IK, n, C.other (by decide), T.other (by decide) (by decide), H.other (by decide) (by decide), G.other (by decide) (by decide), S.other (by decide), ⟨hs_eq _ _ _, (hs_ne _ _ (by decide)).trans E.2.1, (hs_ne _ _ (by decide)).trans E.2.2.1, (hs_ne _ _ (by decide)).trans E.2.2.2.1, E.2.2.2.2⟩, RBh, RKh⟩ ((Fr.rf h).hs _ (by decide))
theorem t_X4_seed {h : rHp} {Q : Option Value → rHp → Prop} {t : Nat → Nat} {ln : Nat} {p : Nat → Nat} {U : Nat → Nat → Nat} {a : Nat} {Kp : Nat → Nat → Nat} {ik : Nat → Bool} {su sp sn : Nat → Nat} {sz : Nat} {d : Int64} (I : CI h t ln p U a Kp ik su sp sn sz d) (O : OKs t ln p U a Kp ik su sp sn sz) {v : Int64} (k : ∀ h', CI h' t ln p U a Kp ik su sp sn sz v → Fr h h' → Q (some (.long d)) h') : Cl M_X4_seed h.1 h.2.1 [.ref 0, .long v] h Q := by
  obtain ⟨pl, pt, B, KP, IK, n, C, T, H, G, S, E, RBh, RKh⟩ := id I
  obtain ⟨Ot, Oln, Op, OU, OK2, Osz, Osu, Osp, Osn⟩ := id O
  refine Cl.of pl_X4 (Nat.le_of_ble_eq_true rfl) (by first | exact Nat.le_refl _ | omega) (by first | exact Nat.le_refl _ | omega) ?_
  refine Rn.aload_n dX4_seed_0 rfl rfl ?_
  refine Rn.getf f_X4_40 dX4_seed_1 rfl C.1 C.2 rfl ?_
  refine Rn.lstore_n dX4_seed_4 rfl (Nat.le_of_ble_eq_true rfl) ?_
  refine Rn.aload_n dX4_seed_5 rfl rfl ?_
  refine Rn.lload_n dX4_seed_6 rfl rfl ?_
  refine Rn.putf p_X4_40 (fun h => by cases h) dX4_seed_7 rfl C.1 C.2 (fun g => ⟨rfl, rfl⟩) (Nat.le_of_ble_eq_true rfl) ?_
  refine Rn.lload_n dX4_seed_10 rfl rfl ?_
  refine Rn.lret dX4_seed_11 rfl rfl rfl ?_
  exact k _ ⟨pl, pt, B, KP, IK, n, ⟨hs_eq _ _ _, C.2⟩, T.other (by decide) (by decide), H.other (by decide) (by decide), G.other (by decide) (by decide), S.other (by decide), E.other (by decide), RBh, RKh⟩ ((Fr.rf h).hs _ (by decide))
theorem Sh.o7 {h : rHp} {B KP IK : Nat → Int32} {a n : Nat} (S : Sh h B KP IK a n) (a' n' : Nat) : Sh (hs h 7 (shO a' n')) B KP IK a' n' := ⟨hs_eq _ _ _, (hs_ne _ _ (by decide)).trans S.2.1, (hs_ne _ _ (by decide)).trans S.2.2.1, (hs_ne _ _ (by decide)).trans S.2.2.2.1, S.2.2.2.2⟩
theorem Sh.k10 {h : rHp} {B KP IK : Nat → Int32} {a n : Nat} (S : Sh h B KP IK a n) (IK' : Nat → Int32) : Sh (hs h 10 (.inr (.inl (2, IK')))) B KP IK' a n := ⟨(hs_ne _ _ (by decide)).trans S.1, (hs_ne _ _ (by decide)).trans S.2.1, (hs_ne _ _ (by decide)).trans S.2.2.1, hs_eq _ _ _, S.2.2.2.2⟩
theorem Sh.k9 {h : rHp} {B KP IK : Nat → Int32} {a n : Nat} (S : Sh h B KP IK a n) (KP' : Nat → Int32) : Sh (hs h 9 (.inl (72, KP'))) B KP' IK a n := ⟨(hs_ne _ _ (by decide)).trans S.1, (hs_ne _ _ (by decide)).trans S.2.1, hs_eq _ _ _, (hs_ne _ _ (by decide)).trans S.2.2.2.1, S.2.2.2.2⟩
theorem t_X4_undo {h : rHp} {Q : Option Value → rHp → Prop} {t : Nat → Nat} {ln : Nat} {p : Nat → Nat} {U : Nat → Nat → Nat} {a : Nat} {Kp : Nat → Nat → Nat} {ik : Nat → Bool} {su sp sn : Nat → Nat} {sz : Nat} {d : Int64} (I : CI h t ln p U a Kp ik su sp sn sz d) (O : OKs t ln p U a Kp ik su sp sn sz) (k : ∀ h', CI h' t ln (unA p U a).2.1 U (unA p U a).2.2 Kp ik su sp sn sz d → Fr h h' → Q (some (.int (unA p U a).1)) h') : Cl M_X4_undo h.1 h.2.1 [.ref 0] h Q := by
  obtain ⟨pl, pt, B, KP, IK, n, C, T, H, G, S, E, RBh, RKh⟩ := id I
  obtain ⟨Ot, Oln, Op, OU, OK2, Osz, Osu, Osp, Osn⟩ := id O
  refine Cl.of pl_X4 (Nat.le_of_ble_eq_true rfl) (by first | exact Nat.le_refl _ | omega) (by first | exact Nat.le_refl _ | omega) ?_
  refine Rn.aload_n dX4_undo_0 rfl rfl ?_
  refine Rn.getf f_X4_29 dX4_undo_1 rfl C.1 C.2 rfl ?_
  refine Rn.aload_n dX4_undo_4 rfl rfl ?_
  refine Rn.getf f_X4_19 dX4_undo_5 rfl C.1 C.2 rfl ?_
  refine Rn.callV (as := [_]) v_X2_takeBack l_X4_142 ⟨Nat.le_of_ble_eq_true rfl, Nat.le_of_ble_eq_true rfl⟩ dX4_undo_8 rfl rfl (Nat.le_of_ble_eq_true rfl) S.1 (Nat.lt_of_le_of_lt (Nat.le_of_ble_eq_true rfl) S.2.2.2.2) rfl (Nat.le_refl _) (Nat.le_refl _) (t_X2_takeBack (pu := U (a - 1)) S H RBh.1 RBh.2.1 (fun z => RB_top RBh z) (fun e0 => ?_) (fun e0 => ?_)) 
  · refine Rn.if_eqB (tgt := 24) dX4_undo_11 rfl (by decide) (fun c11 => ?_) (fun c11 => ?_)
    · refine Rn.bipush dX4_undo_24 rfl bp_m3 ?_
      refine Rn.iret dX4_undo_26 rfl rfl rfl ?_
      have e1 : unA p U a = (-3, p, a) := by unfold unA; rw [if_pos e0]
      rw [e1] at k
      exact k h I (Fr.rf h)
    · exact absurd c11 (by decide)
  · refine Rn.if_eqB (tgt := 24) dX4_undo_11 rfl (by decide) (fun c11 => ?_) (fun c11 => ?_)
    · exact absurd c11 (by decide)
    · refine Rn.aload_n dX4_undo_14 rfl rfl ?_
      refine Rn.getf f_X4_29 dX4_undo_15 rfl ((hs_ne _ _ (by decide)).trans ((hs_ne _ _ (by decide)).trans C.1)) C.2 rfl ?_
      refine Rn.getf f_X4_146 dX4_undo_18 rfl (hs_eq _ _ _) (Nat.lt_of_le_of_lt (Nat.le_of_ble_eq_true rfl) S.2.2.2.2) rfl ?_
      refine Rn.goto (tgt := 26) dX4_undo_21 (by decide) ?_
      refine Rn.iret dX4_undo_26 rfl rfl rfl ?_
      have e1 : unA p U a = (nI (a - 1), U (a - 1), a - 1) := by unfold unA; rw [if_neg (by omega)]
      rw [e1] at k
      exact k _ ⟨pl, pt, B, KP, IK, _, (C.other (by decide)).other (by decide), (T.other (by decide) (by decide)).other (by decide) (by decide), (H.put _).other (by decide) (by decide), (G.other (by decide) (by decide)).other (by decide) (by decide), (S.other (by decide)).o7 _ _, (E.other (by decide)).other (by decide), RB_back RBh e0, RKh⟩ (((Fr.rf h).hs _ (by decide)).hs _ (by decide))
theorem t_X4_keep {h : rHp} {Q : Option Value → rHp → Prop} {t : Nat → Nat} {ln : Nat} {p : Nat → Nat} {U : Nat → Nat → Nat} {a : Nat} {Kp : Nat → Nat → Nat} {ik : Nat → Bool} {su sp sn : Nat → Nat} {sz : Nat} {d : Int64} (I : CI h t ln p U a Kp ik su sp sn sz d) (O : OKs t ln p U a Kp ik su sp sn sz) {x : Int32} (k : ∀ h', CI h' t ln p U a (kpA p Kp ik x).2.1 (kpA p Kp ik x).2.2 su sp sn sz d → Fr h h' → Q (some (.int (kpA p Kp ik x).1)) h') : Cl M_X4_keep h.1 h.2.1 [.ref 0, .int x] h Q := by
  obtain ⟨pl, pt, B, KP, IK, n, C, T, H, G, S, E, RBh, RKh⟩ := id I
  obtain ⟨Ot, Oln, Op, OU, OK2, Osz, Osu, Osp, Osn⟩ := id O
  refine Cl.of pl_X4 (Nat.le_of_ble_eq_true rfl) (by first | exact Nat.le_refl _ | omega) (by first | exact Nat.le_refl _ | omega) ?_
  refine Rn.aload_n dX4_keep_0 rfl rfl ?_
  refine Rn.getf f_X4_29 dX4_keep_1 rfl C.1 C.2 rfl ?_
  refine Rn.iload_n dX4_keep_4 rfl rfl ?_
  refine Rn.aload_n dX4_keep_5 rfl rfl ?_
  refine Rn.getf f_X4_19 dX4_keep_6 rfl C.1 C.2 rfl ?_
  refine Rn.callV (as := [_, _]) v_X2_keepIn l_X4_209 ⟨Nat.le_of_ble_eq_true rfl, Nat.le_of_ble_eq_true rfl⟩ dX4_keep_9 rfl rfl (Nat.le_of_ble_eq_true rfl) S.1 (Nat.lt_of_le_of_lt (Nat.le_of_ble_eq_true rfl) S.2.2.2.2) rfl (Nat.le_refl _) (Nat.le_refl _) (t_X2_keepIn S H (fun e0 => ?_) (fun s hs1 e0 => ?_)) 
  · refine Rn.if_eqB (tgt := 25) dX4_keep_12 rfl (by decide) (fun c12 => ?_) (fun c12 => ?_)
    · refine Rn.iconst dX4_keep_25 rfl ic_m1 ?_
      refine Rn.iret dX4_keep_26 rfl rfl rfl ?_
      have e1 : kpA p Kp ik x = (-1, Kp, ik) := by unfold kpA; rw [e0]; rfl
      rw [e1] at k
      exact k h I (Fr.rf h)
    · exact absurd c12 (by decide)
  · refine Rn.if_eqB (tgt := 25) dX4_keep_12 rfl (by decide) (fun c12 => ?_) (fun c12 => ?_)
    · exact absurd c12 (by decide)
    · refine Rn.aload_n dX4_keep_15 rfl rfl ?_
      refine Rn.getf f_X4_19 dX4_keep_16 rfl ((hs_ne _ _ (by decide)).trans ((hs_ne _ _ (by decide)).trans C.1)) C.2 rfl ?_
      refine Rn.callV (as := []) v_X0_users l_X4_63 ⟨Nat.le_of_ble_eq_true rfl, Nat.le_of_ble_eq_true rfl⟩ dX4_keep_19 rfl rfl (Nat.le_of_ble_eq_true rfl) ((hs_ne _ _ (by decide)).trans ((hs_ne _ _ (by decide)).trans H.1)) H.2.2.1 rfl (Nat.le_refl _) (Nat.le_refl _) (t_X0_users ((H.other (by decide) (by decide)).other (by decide) (by decide)) ?_) 
      refine Rn.goto (tgt := 26) dX4_keep_22 (by decide) ?_
      refine Rn.iret dX4_keep_26 rfl rfl rfl ?_
      have e1 : kpA p Kp ik x = (nI (p 24), uK Kp s p, uB ik s true) := by unfold kpA; rw [e0, isW_in hs1 (by omega), xn_nI (by omega)]; rfl
      rw [e1] at k
      exact k _ ⟨pl, pt, B, _, _, n, (C.other (by decide)).other (by decide), (T.other (by decide) (by decide)).other (by decide) (by decide), (H.other (by decide) (by decide)).other (by decide) (by decide), (G.other (by decide) (by decide)).other (by decide) (by decide), (S.k9 _).k10 _, (E.other (by decide)).other (by decide), RBh, RK_keep RKh p hs1⟩ (((Fr.rf h).hs _ (by decide)).hs _ (by decide))
theorem t_X4_again {h : rHp} {Q : Option Value → rHp → Prop} {t : Nat → Nat} {ln : Nat} {p : Nat → Nat} {U : Nat → Nat → Nat} {a : Nat} {Kp : Nat → Nat → Nat} {ik : Nat → Bool} {su sp sn : Nat → Nat} {sz : Nat} {d : Int64} (I : CI h t ln p U a Kp ik su sp sn sz d) (O : OKs t ln p U a Kp ik su sp sn sz) {x : Int32} (k : ∀ h', CI h' t ln (agA p a Kp ik x).2.1 U (agA p a Kp ik x).2.2 Kp ik su sp sn sz d → Fr h h' → Q (some (.int (agA p a Kp ik x).1)) h') : Cl M_X4_again h.1 h.2.1 [.ref 0, .int x] h Q := by
  obtain ⟨pl, pt, B, KP, IK, n, C, T, H, G, S, E, RBh, RKh⟩ := id I
  obtain ⟨Ot, Oln, Op, OU, OK2, Osz, Osu, Osp, Osn⟩ := id O
  refine Cl.of pl_X4 (Nat.le_of_ble_eq_true rfl) (by first | exact Nat.le_refl _ | omega) (by first | exact Nat.le_refl _ | omega) ?_
  refine Rn.iload_n dX4_again_0 rfl rfl ?_
  refine Rn.iconst dX4_again_1 rfl ic_0 ?_
  refine Rn.iconst dX4_again_2 rfl ic_1 ?_
  refine Rn.callS (as := [_, _, _]) s_X4_isWithin l_X4_96 ⟨Nat.le_of_ble_eq_true rfl, Nat.le_of_ble_eq_true rfl⟩ dX4_again_3 rfl rfl (Nat.le_of_ble_eq_true rfl) (Nat.le_refl _) (Nat.le_refl _) (t_X4_isWithin ?_)
  refine Rn.if_neB (tgt := 11) dX4_again_6 rfl (by decide) (fun c6 => ?_) (fun c6 => ?_)
  · obtain ⟨y, hy, rfl⟩ := isW_of c6 (by omega)
    refine Rn.aload_n dX4_again_11 rfl rfl ?_
    refine Rn.getf f_X4_29 dX4_again_12 rfl C.1 C.2 rfl ?_
    refine Rn.iload_n dX4_again_15 rfl rfl ?_
    refine Rn.aload_n dX4_again_16 rfl rfl ?_
    refine Rn.getf f_X4_19 dX4_again_17 rfl C.1 C.2 rfl ?_
    refine Rn.callV (as := [_, _]) v_X2_bringBack l_X4_213 ⟨Nat.le_of_ble_eq_true rfl, Nat.le_of_ble_eq_true rfl⟩ dX4_again_20 rfl rfl (Nat.le_of_ble_eq_true rfl) S.1 (Nat.lt_of_le_of_lt (Nat.le_of_ble_eq_true rfl) S.2.2.2.2) rfl (Nat.le_refl _) (Nat.le_refl _) (t_X2_bringBack (pu := Kp y) S H (by omega) (RKh y (by omega)).1 (RKh y (by omega)).2 (fun e0 => ?_) (fun e0 => ?_)) 
    · refine Rn.if_eqB (tgt := 36) dX4_again_23 rfl (by decide) (fun c23 => ?_) (fun c23 => ?_)
      · refine Rn.bipush dX4_again_36 rfl bp_m3 ?_
        refine Rn.iret dX4_again_38 rfl rfl rfl ?_
        have e1 : agA p a Kp ik (nI y) = (-3, p, a) := by unfold agA; rw [c6, xn_nI (by omega), e0]; rfl
        rw [e1] at k
        exact k h I (Fr.rf h)
      · exact absurd c23 (by decide)
    · refine Rn.if_eqB (tgt := 36) dX4_again_23 rfl (by decide) (fun c23 => ?_) (fun c23 => ?_)
      · exact absurd c23 (by decide)
      · refine Rn.aload_n dX4_again_26 rfl rfl ?_
        refine Rn.getf f_X4_19 dX4_again_27 rfl ((hs_ne _ _ (by decide)).trans ((hs_ne _ _ (by decide)).trans C.1)) C.2 rfl ?_
        refine Rn.callV (as := []) v_X0_users l_X4_63 ⟨Nat.le_of_ble_eq_true rfl, Nat.le_of_ble_eq_true rfl⟩ dX4_again_30 rfl rfl (Nat.le_of_ble_eq_true rfl) ((hs_ne _ _ (by decide)).trans ((hs_ne _ _ (by decide)).trans H.1)) H.2.2.1 rfl (Nat.le_refl _) (Nat.le_refl _) (t_X0_users ((H.put _).other (by decide) (by decide)) ?_) 
        refine Rn.goto (tgt := 38) dX4_again_33 (by decide) ?_
        refine Rn.iret dX4_again_38 rfl rfl rfl ?_
        have e1 : agA p a Kp ik (nI y) = (nI (Kp y 24), Kp y, 0) := by unfold agA; rw [c6, xn_nI (by omega), e0]; rfl
        rw [e1] at k
        exact k _ ⟨pl, pt, B, KP, IK, _, (C.other (by decide)).other (by decide), (T.other (by decide) (by decide)).other (by decide) (by decide), (H.put _).other (by decide) (by decide), (G.other (by decide) (by decide)).other (by decide) (by decide), (S.other (by decide)).o7 _ _, (E.other (by decide)).other (by decide), RB_0 RBh, RKh⟩ (((Fr.rf h).hs _ (by decide)).hs _ (by decide))
  · refine Rn.iconst dX4_again_9 rfl ic_m1 ?_
    refine Rn.iret dX4_again_10 rfl rfl rfl ?_
    have e1 : agA p a Kp ik x = (-1, p, a) := by unfold agA; rw [c6]; rfl
    rw [e1] at k
    exact k h I (Fr.rf h)
theorem t_X4_see {h : rHp} {Q : Option Value → rHp → Prop} {t : Nat → Nat} {ln : Nat} {p : Nat → Nat} {U : Nat → Nat → Nat} {a : Nat} {Kp : Nat → Nat → Nat} {ik : Nat → Bool} {su sp sn : Nat → Nat} {sz : Nat} {d : Int64} (I : CI h t ln p U a Kp ik su sp sn sz d) (O : OKs t ln p U a Kp ik su sp sn sz) {x i v : Int32} (k : ∀ h', CI h' t ln p U a Kp ik (syA su sp sn sz x i v).2.1 (syA su sp sn sz x i v).2.2.1 (syA su sp sn sz x i v).2.2.2.1 (syA su sp sn sz x i v).2.2.2.2 d → Fr h h' → Q (some (.int (syA su sp sn sz x i v).1)) h') : Cl M_X4_see h.1 h.2.1 [.ref 0, .int x, .int i, .int v] h Q := by
  obtain ⟨pl, pt, B, KP, IK, n, C, T, H, G, S, E, RBh, RKh⟩ := id I
  obtain ⟨Ot, Oln, Op, OU, OK2, Osz, Osu, Osp, Osn⟩ := id O
  refine Cl.of pl_X4 (Nat.le_of_ble_eq_true rfl) (by first | exact Nat.le_refl _ | omega) (by first | exact Nat.le_refl _ | omega) ?_
  refine Rn.iload_n dX4_see_0 rfl rfl ?_
  refine Rn.iconst dX4_see_1 rfl ic_0 ?_
  refine Rn.iconst dX4_see_2 rfl ic_3 ?_
  refine Rn.callS (as := [_, _, _]) s_X4_isWithin l_X4_96 ⟨Nat.le_of_ble_eq_true rfl, Nat.le_of_ble_eq_true rfl⟩ dX4_see_3 rfl rfl (Nat.le_of_ble_eq_true rfl) (Nat.le_refl _) (Nat.le_refl _) (t_X4_isWithin ?_)
  refine Rn.if_neB (tgt := 11) dX4_see_6 rfl (by decide) (fun c6 => ?_) (fun c6 => ?_)
  · refine Rn.iload_n dX4_see_11 rfl rfl ?_
    refine Rn.iconst dX4_see_12 rfl ic_0 ?_
    refine Rn.bipush dX4_see_13 rfl bp_29 ?_
    refine Rn.callS (as := [_, _, _]) s_X4_isWithin l_X4_96 ⟨Nat.le_of_ble_eq_true rfl, Nat.le_of_ble_eq_true rfl⟩ dX4_see_15 rfl rfl (Nat.le_of_ble_eq_true rfl) (Nat.le_refl _) (Nat.le_refl _) (t_X4_isWithin ?_)
    refine Rn.if_eqB (tgt := 28) dX4_see_18 rfl (by decide) (fun c18 => ?_) (fun c18 => ?_)
    · refine Rn.bipush dX4_see_28 rfl bp_m2 ?_
      refine Rn.iret dX4_see_30 rfl rfl rfl ?_
      first | (have e1 : syA su sp sn sz x i v = (-2, su, sp, sn, sz) := by unfold syA; rw [c6, c18]; rfl); rw [e1] at k; exact k h I (Fr.rf h) | (have e1 : syA su sp sn sz x i v = (-2, su, sp, sn, sz) := by unfold syA; rw [c6, c25, Bool.and_false]; rfl); rw [e1] at k; exact k h I (Fr.rf h)
    · refine Rn.iload_n dX4_see_21 rfl rfl ?_
      refine Rn.callS (as := [_]) s_X4_isNumber l_X4_93 ⟨Nat.le_of_ble_eq_true rfl, Nat.le_of_ble_eq_true rfl⟩ dX4_see_22 rfl rfl (Nat.le_of_ble_eq_true rfl) (Nat.le_refl _) (Nat.le_refl _) (t_X4_isNumber ?_)
      refine Rn.if_neB (tgt := 31) dX4_see_25 rfl (by decide) (fun c25 => ?_) (fun c25 => ?_)
      · obtain ⟨y1, hy1, rfl⟩ := isW_of c6 (by omega)
        obtain ⟨y2, hy2, rfl⟩ := isW_of c18 (by omega)
        obtain ⟨y3, hy3, rfl⟩ := isW_of c25 (by omega)
        refine Rn.aload_n dX4_see_31 rfl rfl ?_
        refine Rn.getf f_X4_36 dX4_see_32 rfl C.1 C.2 rfl ?_
        refine Rn.iload_n dX4_see_35 rfl rfl ?_
        refine Rn.iload_n dX4_see_36 rfl rfl ?_
        refine Rn.iload_n dX4_see_37 rfl rfl ?_
        refine Rn.callV (as := [_, _, _]) v_X1_add l_X4_173 ⟨Nat.le_of_ble_eq_true rfl, Nat.le_of_ble_eq_true rfl⟩ dX4_see_38 rfl rfl (Nat.le_of_ble_eq_true rfl) E.1 (Nat.lt_of_le_of_lt (Nat.le_of_ble_eq_true rfl) E.2.2.2.2) rfl (Nat.le_refl _) (Nat.le_refl _) (t_X1_add E Osz (fun e0 => ?_) (fun e0 => ?_)) 
        · refine Rn.if_eqB (tgt := 54) dX4_see_41 rfl (by decide) (fun c41 => ?_) (fun c41 => ?_)
          · refine Rn.bipush dX4_see_54 rfl bp_m4 ?_
            refine Rn.iret dX4_see_56 rfl rfl rfl ?_
            have e1 : syA su sp sn sz (nI y1) (nI y2) (nI y3) = (-4, su, sp, sn, sz) := by unfold syA; rw [c6, c18, c25, if_pos rfl, Bool.and_self, if_pos rfl, if_pos e0]
            rw [e1] at k
            exact k h I (Fr.rf h)
          · exact absurd c41 (by decide)
        · refine Rn.if_eqB (tgt := 54) dX4_see_41 rfl (by decide) (fun c41 => ?_) (fun c41 => ?_)
          · exact absurd c41 (by decide)
          · refine Rn.aload_n dX4_see_44 rfl rfl ?_
            refine Rn.getf f_X4_36 dX4_see_45 rfl ((hs_ne _ _ (by decide)).trans ((hs_ne _ _ (by decide)).trans ((hs_ne _ _ (by decide)).trans ((hs_ne _ _ (by decide)).trans C.1)))) C.2 rfl ?_
            refine Rn.getf f_X4_176 dX4_see_48 rfl (hs_eq _ _ _) (Nat.lt_of_le_of_lt (Nat.le_of_ble_eq_true rfl) E.2.2.2.2) rfl ?_
            refine Rn.goto (tgt := 56) dX4_see_51 (by decide) ?_
            refine Rn.iret dX4_see_56 rfl rfl rfl ?_
            have e1 : syA su sp sn sz (nI y1) (nI y2) (nI y3) = (nI (sz + 1), un su sz y1, un sp sz y2, un sn sz y3, sz + 1) := by unfold syA; rw [c6, c18, c25, if_pos rfl, Bool.and_self, if_pos rfl, if_neg (by omega), xn_nI (by omega), xn_nI (by omega), xn_nI (by omega)]
            rw [e1] at k
            exact k _ ⟨pl, pt, B, KP, IK, n, (((C.other (by decide)).other (by decide)).other (by decide)).other (by decide), (((T.other (by decide) (by decide)).other (by decide) (by decide)).other (by decide) (by decide)).other (by decide) (by decide), (((H.other (by decide) (by decide)).other (by decide) (by decide)).other (by decide) (by decide)).other (by decide) (by decide), (((G.other (by decide) (by decide)).other (by decide) (by decide)).other (by decide) (by decide)).other (by decide) (by decide), (((S.other (by decide)).other (by decide)).other (by decide)).other (by decide), ⟨hs_eq _ _ _, (hs_ne _ _ (by decide)).trans ((hs_ne _ _ (by decide)).trans ((hs_ne _ _ (by decide)).trans (hs_eq _ _ _))), (hs_ne _ _ (by decide)).trans ((hs_ne _ _ (by decide)).trans (hs_eq _ _ _)), (hs_ne _ _ (by decide)).trans (hs_eq _ _ _), E.2.2.2.2⟩, RBh, RKh⟩ (((((Fr.rf h).hs _ (by decide)).hs _ (by decide)).hs _ (by decide)).hs _ (by decide))
      · refine Rn.bipush dX4_see_28 rfl bp_m2 ?_
        refine Rn.iret dX4_see_30 rfl rfl rfl ?_
        first | (have e1 : syA su sp sn sz x i v = (-2, su, sp, sn, sz) := by unfold syA; rw [c6, c18]; rfl); rw [e1] at k; exact k h I (Fr.rf h) | (have e1 : syA su sp sn sz x i v = (-2, su, sp, sn, sz) := by unfold syA; rw [c6, c25, Bool.and_false]; rfl); rw [e1] at k; exact k h I (Fr.rf h)
  · refine Rn.iconst dX4_see_9 rfl ic_m1 ?_
    refine Rn.iret dX4_see_10 rfl rfl rfl ?_
    have e1 : syA su sp sn sz x i v = (-1, su, sp, sn, sz) := by unfold syA; rw [c6]; rfl
    rw [e1] at k
    exact k h I (Fr.rf h)
theorem t_X4_fault {h : rHp} {Q : Option Value → rHp → Prop} {t : Nat → Nat} {ln : Nat} {p : Nat → Nat} {U : Nat → Nat → Nat} {a : Nat} {Kp : Nat → Nat → Nat} {ik : Nat → Bool} {su sp sn : Nat → Nat} {sz : Nat} {d : Int64} (I : CI h t ln p U a Kp ik su sp sn sz d) (O : OKs t ln p U a Kp ik su sp sn sz) (k : ∀ h', CI h' t ln p U a Kp ik su sp sn sz d → Fr h h' → Q (some (.int (wi (rIn t ln).1))) h') : Cl M_X4_fault h.1 h.2.1 [.ref 0] h Q := by
  obtain ⟨pl, pt, B, KP, IK, n, C, T, H, G, S, E, RBh, RKh⟩ := id I
  obtain ⟨Ot, Oln, Op, OU, OK2, Osz, Osu, Osp, Osn⟩ := id O
  refine Cl.of pl_X4 (Nat.le_of_ble_eq_true rfl) (by first | exact Nat.le_refl _ | omega) (by first | exact Nat.le_refl _ | omega) ?_
  refine Rn.heap (h' := ht h 5 ln pl pt) (ht_self (by decide) T G).symm ?_
  refine Rn.aload_n dX4_fault_0 rfl rfl ?_
  refine Rn.getf f_X4_10 dX4_fault_1 rfl ((hs_ne _ _ (by decide)).trans ((hs_ne _ _ (by decide)).trans C.1)) C.2 rfl ?_
  refine Rn.aload_n dX4_fault_4 rfl rfl ?_
  refine Rn.getf f_X4_23 dX4_fault_5 rfl ((hs_ne _ _ (by decide)).trans ((hs_ne _ _ (by decide)).trans C.1)) C.2 rfl ?_
  refine Rn.callV (as := [_]) v_X3_readInto l_X4_52 ⟨Nat.le_of_ble_eq_true rfl, Nat.le_of_ble_eq_true rfl⟩ dX4_fault_8 rfl rfl (Nat.le_of_ble_eq_true rfl) ((hs_ne _ _ (by decide)).trans (hs_eq _ _ _)) T.2.2.1 rfl (Nat.le_refl _) (Nat.le_refl _) (t_X3_readInto (q := 5) (by decide) T G Oln Ot ?_) 
  refine Rn.iret dX4_fault_11 rfl rfl rfl ?_
  exact k _ ⟨_, _, B, KP, IK, n, (C.other (by decide)).other (by decide), ht_T (by decide) T _ _ _, (H.other (by decide) (by decide)).other (by decide) (by decide), ht_H (by decide) G _ _ _, (S.other (by decide)).other (by decide), (E.other (by decide)).other (by decide), RBh, RKh⟩ (((Fr.rf h).hs _ (by decide)).hs _ (by decide))
theorem t_X4_desk {h : rHp} {Q : Option Value → rHp → Prop} {t : Nat → Nat} {ln : Nat} {p : Nat → Nat} {U : Nat → Nat → Nat} {a : Nat} {Kp : Nat → Nat → Nat} {ik : Nat → Bool} {su sp sn : Nat → Nat} {sz : Nat} {d : Int64} (I : CI h t ln p U a Kp ik su sp sn sz d) (O : OKs t ln p U a Kp ik su sp sn sz) (k : ∀ h', CI h' t ln (dkA t ln p a ik).2.1 U (dkA t ln p a ik).2.2.1 Kp (dkA t ln p a ik).2.2.2 su sp sn sz d → Fr h h' → Q (some (.int (dkA t ln p a ik).1)) h') : Cl M_X4_desk h.1 h.2.1 [.ref 0] h Q := by
  obtain ⟨pl, pt, B, KP, IK, n, C, T, H, G, S, E, RBh, RKh⟩ := id I
  obtain ⟨Ot, Oln, Op, OU, OK2, Osz, Osu, Osp, Osn⟩ := id O
  refine Cl.of pl_X4 (Nat.le_of_ble_eq_true rfl) (by first | exact Nat.le_refl _ | omega) (by first | exact Nat.le_refl _ | omega) ?_
  refine Rn.heap (h' := ht h 5 ln pl pt) (ht_self (by decide) T G).symm ?_
  refine Rn.aload_n dX4_desk_0 rfl rfl ?_
  refine Rn.getf f_X4_10 dX4_desk_1 rfl ((hs_ne _ _ (by decide)).trans ((hs_ne _ _ (by decide)).trans C.1)) C.2 rfl ?_
  refine Rn.aload_n dX4_desk_4 rfl rfl ?_
  refine Rn.getf f_X4_23 dX4_desk_5 rfl ((hs_ne _ _ (by decide)).trans ((hs_ne _ _ (by decide)).trans C.1)) C.2 rfl ?_
  refine Rn.callV (as := [_]) v_X3_readInto l_X4_52 ⟨Nat.le_of_ble_eq_true rfl, Nat.le_of_ble_eq_true rfl⟩ dX4_desk_8 rfl rfl (Nat.le_of_ble_eq_true rfl) ((hs_ne _ _ (by decide)).trans (hs_eq _ _ _)) T.2.2.1 rfl (Nat.le_refl _) (Nat.le_refl _) (t_X3_readInto (q := 5) (by decide) T G Oln Ot ?_) 
  refine Rn.bipush dX4_desk_11 rfl bp_m9 ?_
  refine Rn.icmp_eq (tgt := 19) dX4_desk_13 rfl (by decide) (fun c13 => ?_) (fun c13 => ?_)
  · refine Rn.aload_n dX4_desk_19 rfl rfl ?_
    refine Rn.getf f_X4_19 dX4_desk_20 rfl ((hs_ne _ _ (by decide)).trans ((hs_ne _ _ (by decide)).trans C.1)) C.2 rfl ?_
    refine Rn.aload_n dX4_desk_23 rfl rfl ?_
    refine Rn.getf f_X4_23 dX4_desk_24 rfl ((hs_ne _ _ (by decide)).trans ((hs_ne _ _ (by decide)).trans C.1)) C.2 rfl ?_
    refine Rn.callV (as := [_]) v_X0_copyFrom l_X4_56 ⟨Nat.le_of_ble_eq_true rfl, Nat.le_of_ble_eq_true rfl⟩ dX4_desk_27 rfl rfl (Nat.le_of_ble_eq_true rfl) ((hs_ne _ _ (by decide)).trans ((hs_ne _ _ (by decide)).trans H.1)) H.2.2.1 rfl (Nat.le_refl _) (Nat.le_refl _) (t_X0_copyFrom ((H.other (by decide) (by decide)).other (by decide) (by decide)) (ht_H (by decide) G _ _ _) ?_) 
    refine Rn.aload_n dX4_desk_30 rfl rfl ?_
    refine Rn.getf f_X4_29 dX4_desk_31 rfl ((hs_ne _ _ (by decide)).trans ((hs_ne _ _ (by decide)).trans ((hs_ne _ _ (by decide)).trans C.1))) C.2 rfl ?_
    refine Rn.callV (as := []) v_X2_forgetAll l_X4_60 ⟨Nat.le_of_ble_eq_true rfl, Nat.le_of_ble_eq_true rfl⟩ dX4_desk_34 rfl rfl (Nat.le_of_ble_eq_true rfl) ((hs_ne _ _ (by decide)).trans ((hs_ne _ _ (by decide)).trans ((hs_ne _ _ (by decide)).trans S.1))) (Nat.lt_of_le_of_lt (Nat.le_of_ble_eq_true rfl) S.2.2.2.2) rfl (Nat.le_refl _) (Nat.le_refl _) (t_X2_forgetAll (p := p) (((S.other (by decide)).other (by decide)).other (by decide)) ?_) 
    refine Rn.aload_n dX4_desk_37 rfl rfl ?_
    refine Rn.getf f_X4_19 dX4_desk_38 rfl ((hs_ne _ _ (by decide)).trans ((hs_ne _ _ (by decide)).trans ((hs_ne _ _ (by decide)).trans ((hs_ne _ _ (by decide)).trans ((hs_ne _ _ (by decide)).trans C.1))))) C.2 rfl ?_
    refine Rn.callV (as := []) v_X0_users l_X4_63 ⟨Nat.le_of_ble_eq_true rfl, Nat.le_of_ble_eq_true rfl⟩ dX4_desk_41 rfl rfl (Nat.le_of_ble_eq_true rfl) ((hs_ne _ _ (by decide)).trans ((hs_ne _ _ (by decide)).trans ((hs_ne _ _ (by decide)).trans ((hs_ne _ _ (by decide)).trans ((hs_ne _ _ (by decide)).trans H.1))))) H.2.2.1 rfl (Nat.le_refl _) (Nat.le_refl _) (t_X0_users (((((H.other (by decide) (by decide)).other (by decide) (by decide)).put _).other (by decide) (by decide)).other (by decide) (by decide)) ?_) 
    refine Rn.iret dX4_desk_44 rfl rfl rfl ?_
    have e1 : dkA t ln p a ik = (nI ((rIn t ln).2.2 24), (rIn t ln).2.2, 0, fun _ => false) := by unfold dkA; rw [if_pos (wi_z (rIn_lt t ln) c13)]
    rw [e1] at k
    exact k _ ⟨_, _, B, KP, _, n, ((((C.other (by decide)).other (by decide)).other (by decide)).other (by decide)).other (by decide), (((ht_T (by decide) T _ _ _).other (by decide) (by decide)).other (by decide) (by decide)).other (by decide) (by decide), ((((H.other (by decide) (by decide)).other (by decide) (by decide)).put _).other (by decide) (by decide)).other (by decide) (by decide), (((ht_H (by decide) G _ _ _).other (by decide) (by decide)).other (by decide) (by decide)).other (by decide) (by decide), ((((S.other (by decide)).other (by decide)).other (by decide)).o7 _ _).k10 _, ((((E.other (by decide)).other (by decide)).other (by decide)).other (by decide)).other (by decide), RB_0 RBh, RK_no _ _ _⟩ ((((((Fr.rf h).hs _ (by decide)).hs _ (by decide)).hs _ (by decide)).hs _ (by decide)).hs _ (by decide))
  · refine Rn.bipush dX4_desk_16 rfl bp_m3 ?_
    refine Rn.iret dX4_desk_18 rfl rfl rfl ?_
    have e1 : dkA t ln p a ik = (-3, p, a, ik) := by unfold dkA; rw [if_neg (fun z => c13 (by rw [z]; rfl))]
    rw [e1] at k
    exact k _ ⟨_, _, B, KP, IK, n, (C.other (by decide)).other (by decide), ht_T (by decide) T _ _ _, (H.other (by decide) (by decide)).other (by decide) (by decide), ht_H (by decide) G _ _ _, (S.other (by decide)).other (by decide), (E.other (by decide)).other (by decide), RBh, RKh⟩ (((Fr.rf h).hs _ (by decide)).hs _ (by decide))
