def hd0 (h : rHp) (d : Int64) : rHp := hs h 0 (.inr (.inr (4, [.ref 1, .ref 3, .ref 5, .ref 7, .ref 11, .long d])))
theorem hd0_self {h : rHp} {d : Int64} (C : Cx h d) : hd0 h d = h := hs_self h C.1
theorem hd0_C {h : rHp} {d : Int64} (C : Cx h d) (d' : Int64) : Cx (hd0 h d') d' := ⟨hs_eq _ _ _, C.2⟩
theorem hd0_put (h : rHp) (d d' : Int64) (pp : Nat → Nat) : hs (hp (hd0 h d) 5 pp) 0 (.inr (.inr (4, [.ref 1, .ref 3, .ref 5, .ref 7, .ref 11, .long d']))) = hp (hd0 h d') 5 pp := by
  show hs (hs (hs h 0 _) 6 _) 0 _ = hs (hs h 0 _) 6 _
  rw [hs_comm (hs h 0 _) _ _ (by decide), hs_hs]
theorem nxD_eq (d : Int64) : d * 6364136223846793005 + 1442695040888963407 = nxD d := rfl
theorem OK_dy {p : Nat → Nat} (O : OKp p) (w : Nat) : OKp (dyP p w) := by
  unfold dyP
  split
  · split
    · exact OK_sp O (by omega)
    · exact OK_se O (by omega)
  · exact O
theorem t_X4_drawn {h : rHp} {Q : Option Value → rHp → Prop} {t : Nat → Nat} {ln : Nat} {p : Nat → Nat} {U : Nat → Nat → Nat} {a : Nat} {Kp : Nat → Nat → Nat} {ik : Nat → Bool} {su sp sn : Nat → Nat} {sz : Nat} {d : Int64} (I : CI h t ln p U a Kp ik su sp sn sz d) (O : OKs t ln p U a Kp ik su sp sn sz) {x : Int32} (k : ∀ h', CI h' t ln p U a Kp ik su sp sn sz (drA p d x).2 → Fr h h' → Q (some (.int (drA p d x).1)) h') : Cl M_X4_drawn h.1 h.2.1 [.ref 0, .int x] h Q := by
  obtain ⟨pl, pt, B, KP, IK, n, C, T, H, G, S, E, RBh, RKh⟩ := id I
  obtain ⟨Ot, Oln, Op, OU, OK2, Osz, Osu, Osp, Osn⟩ := id O
  refine Cl.of pl_X4 (Nat.le_of_ble_eq_true rfl) (by first | exact Nat.le_refl _ | omega) (by first | exact Nat.le_refl _ | omega) ?_
  refine Rn.iload_n dX4_drawn_0 rfl rfl ?_
  refine Rn.iconst dX4_drawn_1 rfl ic_1 ?_
  refine Rn.bipush dX4_drawn_2 rfl bp_60 ?_
  refine Rn.callS (as := [_, _, _]) s_X4_isWithin l_X4_96 ⟨Nat.le_of_ble_eq_true rfl, Nat.le_of_ble_eq_true rfl⟩ dX4_drawn_4 rfl rfl (Nat.le_of_ble_eq_true rfl) (Nat.le_refl _) (Nat.le_refl _) (t_X4_isWithin ?_)
  refine Rn.if_neB (tgt := 13) dX4_drawn_7 rfl (by decide) (fun c7 => ?_) (fun c7 => ?_)
  · obtain ⟨y, hy1, hy2, rfl⟩ := isW_of2 c7 (by omega) (by omega)
    refine Rn.aload_n dX4_drawn_13 rfl rfl ?_
    refine Rn.getf f_X4_23 dX4_drawn_14 rfl C.1 C.2 rfl ?_
    refine Rn.aload_n dX4_drawn_17 rfl rfl ?_
    refine Rn.getf f_X4_19 dX4_drawn_18 rfl C.1 C.2 rfl ?_
    refine Rn.callV (as := [_]) v_X0_copyFrom l_X4_56 ⟨Nat.le_of_ble_eq_true rfl, Nat.le_of_ble_eq_true rfl⟩ dX4_drawn_21 rfl rfl (Nat.le_of_ble_eq_true rfl) G.1 G.2.2.1 rfl (Nat.le_refl _) (Nat.le_refl _) (t_X0_copyFrom G H ?_) 
    refine Rn.iconst dX4_drawn_24 rfl ic_0 ?_
    refine Rn.istore_n dX4_drawn_25 rfl (Nat.le_of_ble_eq_true rfl) ?_
    refine Rn.iconst dX4_drawn_26 rfl ic_0 ?_
    refine Rn.istore_n dX4_drawn_27 rfl (Nat.le_of_ble_eq_true rfl) ?_
    have hloop : ∀ (m : Nat) (f i : Nat) (dd : Int64) (pp : Nat → Nat) (acc : Nat), f < m → i + f = y → OKp pp → acc ≤ i → drG nxD dvN f dd pp acc = drG nxD dvN y d p 0 → Rn (M_X4_drawn, none, h.1, h.2.1) Q 28 [(0, .ref 0), (1, .int (nI y)), (2, .int (nI acc)), (3, .int (nI i))] [] (hp (hd0 h dd) 5 pp) := by
      intro m
      induction m with
      | zero => intro f i dd pp acc h0 h1 h2 h3 h4; exact absurd h0 (Nat.not_lt_zero _)
      | succ m ih =>
        intro f i dd pp acc h0 h1 h2 h3 h4
        refine Rn.iload_n dX4_drawn_28 rfl rfl ?_
        refine Rn.iload_n dX4_drawn_29 rfl rfl ?_
        refine Rn.icmp_geN (tgt := 73) dX4_drawn_30 rfl (by decide) (by omega) (by omega) (fun c30 => ?_) (fun c30 => ?_)
        · obtain rfl : f = 0 := by omega
          refine Rn.iload_n dX4_drawn_73 rfl rfl ?_
          refine Rn.iret dX4_drawn_74 rfl rfl rfl ?_
          have e9 : drA p d (nI y) = (nI acc, dd) := by unfold drA; rw [c7, xn_nI (by omega), ← h4, drG_0, if_pos rfl]
          rw [e9] at k
          exact k _ ⟨pl, _, B, KP, IK, n, (hd0_C C _).other (by decide), (T.other (by decide) (by decide)).other (by decide) (by decide), (H.other (by decide) (by decide)).other (by decide) (by decide), (G.other (by decide) (by decide)).put _, (S.other (by decide)).other (by decide), (E.other (by decide)).other (by decide), RBh, RKh⟩ (((Fr.rf h).hs _ (by decide)).hs _ (by decide))
        · obtain ⟨f, rfl⟩ : ∃ f', f = f' + 1 := ⟨f - 1, by omega⟩
          refine Rn.aload_n dX4_drawn_33 rfl rfl ?_
          refine Rn.aload_n dX4_drawn_34 rfl rfl ?_
          refine Rn.getf f_X4_40 dX4_drawn_35 rfl ((hs_ne _ _ (by decide)).trans (hs_eq _ _ _)) C.2 rfl ?_
          refine Rn.ldc2 dX4_drawn_38 rfl k_X4_202 ?_
          refine Rn.lmul dX4_drawn_41 rfl ?_
          refine Rn.ldc2 dX4_drawn_42 rfl k_X4_204 ?_
          refine Rn.ladd dX4_drawn_45 rfl ?_
          refine Rn.topl (nxD_eq dd) ?_
          refine Rn.putf p_X4_40 (fun h => by cases h) dX4_drawn_46 rfl ((hs_ne _ _ (by decide)).trans (hs_eq _ _ _)) C.2 (fun g => ⟨rfl, rfl⟩) (Nat.le_of_ble_eq_true rfl) ?_
          refine Rn.heap (hd0_put _ _ _ _) ?_
          refine Rn.aload_n dX4_drawn_49 rfl rfl ?_
          refine Rn.aload_n dX4_drawn_50 rfl rfl ?_
          refine Rn.getf f_X4_40 dX4_drawn_51 rfl ((hs_ne _ _ (by decide)).trans (hs_eq _ _ _)) C.2 rfl ?_
          refine Rn.bipush dX4_drawn_54 rfl bp_33 ?_
          refine Rn.lushr dX4_drawn_56 rfl ?_
          refine Rn.l2i dX4_drawn_57 rfl ?_
          refine Rn.top (y := nI (dvN (nxD dd))) (dv_nI (nxD dd)) ?_
          refine Rn.callV (as := [_]) v_X4_isTakenOnDay l_X4_206 ⟨Nat.le_of_ble_eq_true rfl, Nat.le_of_ble_eq_true rfl⟩ dX4_drawn_58 rfl rfl (Nat.le_of_ble_eq_true rfl) ((hs_ne _ _ (by decide)).trans (hs_eq _ _ _)) C.2 rfl (Nat.le_refl _) (Nat.le_refl _) (t_X4_isTakenOnDay (hd0_C C _) (H.other (by decide) (by decide)) (G.other (by decide) (by decide)) h2 (dvN_lt _) ?_) 
          refine Rn.if_eqB (tgt := 67) dX4_drawn_61 rfl (by decide) (fun c61 => ?_) (fun c61 => ?_)
          · refine Rn.iincN dX4_drawn_67 rfl rfl (Nat.le_of_ble_eq_true rfl) ?_
            refine Rn.goto (tgt := 28) dX4_drawn_70 (by decide) ?_
            exact Rn.pick [1, 2, 3, 0] rfl (ih f (i + 1) (nxD dd) (dyP pp (dvN (nxD dd))) (acc) (by omega) (by omega) (OK_dy h2 _) (by omega) ((drG_n c61).symm.trans h4))
          · refine Rn.iincN dX4_drawn_64 rfl rfl (Nat.le_of_ble_eq_true rfl) ?_
            refine Rn.iincN dX4_drawn_67 rfl rfl (Nat.le_of_ble_eq_true rfl) ?_
            refine Rn.goto (tgt := 28) dX4_drawn_70 (by decide) ?_
            exact Rn.pick [2, 3, 1, 0] rfl (ih f (i + 1) (nxD dd) (dyP pp (dvN (nxD dd))) (acc + 1) (by omega) (by omega) (OK_dy h2 _) (by omega) ((drG_y c61).symm.trans h4))
    exact Rn.pick [2, 3, 1, 0] rfl (by have := hloop (y + 1) y 0 d p 0 (by omega) (by omega) Op (by omega) rfl; rw [hd0_self C] at this; exact this)
  · refine Rn.bipush dX4_drawn_10 rfl bp_m2 ?_
    refine Rn.iret dX4_drawn_12 rfl rfl rfl ?_
    have e9 : drA p d x = (-2, d) := by unfold drA; rw [c7]; rfl
    rw [e9] at k
    exact k h I (Fr.rf h)
