theorem t_X0_passOf {h : rHp} {Q : Option Value → rHp → Prop} {q : Nat} {p : Nat → Nat} (H : Hl h q p) (O : OKp p) {u i : Nat} (hu : u < 4) (hi : i < 100000) (k : Q (some (.int (nI (psP p u i)))) h) : Cl M_X0_passOf h.1 h.2.1 [.ref q, .int (nI u), .int (nI i)] h Q := by
  refine Cl.of pl_X0 (Nat.le_of_ble_eq_true rfl) (by first | exact Nat.le_refl _ | omega) (by first | exact Nat.le_refl _ | omega) ?_
  refine Rn.aload_n dX0_passOf_0 rfl rfl ?_
  refine Rn.iload_n dX0_passOf_1 rfl rfl ?_
  refine Rn.iconst dX0_passOf_2 rfl ic_0 ?_
  refine Rn.callV (as := [_, _]) v_X0_of l_X0_46 ⟨Nat.le_of_ble_eq_true rfl, Nat.le_of_ble_eq_true rfl⟩ dX0_passOf_3 rfl rfl (Nat.le_of_ble_eq_true rfl) H.1 H.2.2.1 rfl (Nat.le_refl _) (Nat.le_refl _) (t_X0_of H (by omega) (by omega) ?_) 
  refine Rn.aload_n dX0_passOf_6 rfl rfl ?_
  refine Rn.iload_n dX0_passOf_7 rfl rfl ?_
  refine Rn.iconst dX0_passOf_8 rfl ic_1 ?_
  refine Rn.callV (as := [_, _]) v_X0_of l_X0_46 ⟨Nat.le_of_ble_eq_true rfl, Nat.le_of_ble_eq_true rfl⟩ dX0_passOf_9 rfl rfl (Nat.le_of_ble_eq_true rfl) H.1 H.2.2.1 rfl (Nat.le_refl _) (Nat.le_refl _) (t_X0_of H (by omega) (by omega) ?_) 
  refine Rn.iload_n dX0_passOf_12 rfl rfl ?_
  refine Rn.callSN (as := [_, _, _]) s_X4_stepsBehind n_X0_38 ⟨Nat.le_of_ble_eq_true rfl, Nat.le_of_ble_eq_true rfl⟩ dX0_passOf_13 rfl rfl (Nat.le_of_ble_eq_true rfl) (Nat.le_refl _) (Nat.le_refl _) (t_X4_stepsBehind (O.us hu).1 (O.us hu).2.1 hi ?_)
  refine Rn.iret dX0_passOf_16 rfl rfl rfl ?_
  exact k
theorem t_X0_fitOf {h : rHp} {Q : Option Value → rHp → Prop} {q : Nat} {p : Nat → Nat} (H : Hl h q p) (O : OKp p) {u v : Nat} (hu : u < 4) (hv : v < 251) (k : Q (some (.int (nI (fitP p u v)))) h) : Cl M_X0_fitOf h.1 h.2.1 [.ref q, .int (nI u), .int (nI v)] h Q := by
  refine Cl.of pl_X0 (Nat.le_of_ble_eq_true rfl) (by first | exact Nat.le_refl _ | omega) (by first | exact Nat.le_refl _ | omega) ?_
  refine Rn.aload_n dX0_fitOf_0 rfl rfl ?_
  refine Rn.getf f_X0_11 dX0_fitOf_1 rfl H.1 H.2.2.1 rfl ?_
  refine Rn.iconst dX0_fitOf_4 rfl ic_1 ?_
  refine Rn.ialdN dX0_fitOf_5 rfl H.2.1 H.2.2.2 (by omega) (by omega) ?_
  refine Rn.top (cl_1 p) ?_
  have hw6 := O.2.2.1
  have hl30 := (O.us hu).2.2.2.2.2
  refine Rn.aload_n dX0_fitOf_6 rfl rfl ?_
  refine Rn.iload_n dX0_fitOf_7 rfl rfl ?_
  refine Rn.iconst dX0_fitOf_8 rfl ic_5 ?_
  refine Rn.callV (as := [_, _]) v_X0_of l_X0_46 ⟨Nat.le_of_ble_eq_true rfl, Nat.le_of_ble_eq_true rfl⟩ dX0_fitOf_9 rfl rfl (Nat.le_of_ble_eq_true rfl) H.1 H.2.2.1 rfl (Nat.le_refl _) (Nat.le_refl _) (t_X0_of H (by omega) (by omega) ?_) 
  refine Rn.mminN l_X0_53 w_min2 w_min3 w_min4 (Nat.le_of_ble_eq_true rfl) (Nat.le_of_ble_eq_true rfl) dX0_fitOf_12 rfl (by omega) (by omega) ?_
  refine Rn.istore_n dX0_fitOf_15 rfl (Nat.le_of_ble_eq_true rfl) ?_
  refine Rn.aload_n dX0_fitOf_16 rfl rfl ?_
  refine Rn.iload_n dX0_fitOf_17 rfl rfl ?_
  refine Rn.iconst dX0_fitOf_18 rfl ic_1 ?_
  refine Rn.callV (as := [_, _]) v_X0_of l_X0_46 ⟨Nat.le_of_ble_eq_true rfl, Nat.le_of_ble_eq_true rfl⟩ dX0_fitOf_19 rfl rfl (Nat.le_of_ble_eq_true rfl) H.1 H.2.2.1 rfl (Nat.le_refl _) (Nat.le_refl _) (t_X0_of H (by omega) (by omega) ?_) 
  refine Rn.istore dX0_fitOf_22 rfl (Nat.le_of_ble_eq_true rfl) ?_
  refine Rn.aload_n dX0_fitOf_24 rfl rfl ?_
  refine Rn.iload_n dX0_fitOf_25 rfl rfl ?_
  refine Rn.iconst dX0_fitOf_26 rfl ic_4 ?_
  refine Rn.callV (as := [_, _]) v_X0_of l_X0_46 ⟨Nat.le_of_ble_eq_true rfl, Nat.le_of_ble_eq_true rfl⟩ dX0_fitOf_27 rfl rfl (Nat.le_of_ble_eq_true rfl) H.1 H.2.2.1 rfl (Nat.le_refl _) (Nat.le_refl _) (t_X0_of H (by omega) (by omega) ?_) 
  refine Rn.istore dX0_fitOf_30 rfl (Nat.le_of_ble_eq_true rfl) ?_
  refine Rn.iload_n dX0_fitOf_32 rfl rfl ?_
  refine Rn.istore dX0_fitOf_33 rfl (Nat.le_of_ble_eq_true rfl) ?_
  refine Rn.iconst dX0_fitOf_35 rfl ic_1 ?_
  refine Rn.istore dX0_fitOf_36 rfl (Nat.le_of_ble_eq_true rfl) ?_
  have hloop : ∀ (m : Nat) (n kk x : Nat), n < m → x < 251 → kk + n = min (p 25) (p (6 * u + 5)) + 1 → ftL (p (6 * u + 1)) (p (6 * u + 4)) n kk x = fitP p u v → Rn (M_X0_fitOf, none, h.1, h.2.1) Q 38 [(3, .int (nI (min (p 25) (p (6 * u + 5))))), (4, .int (nI (p (6 * u + 1)))), (5, .int (nI (p (6 * u + 4)))), (6, .int (nI x)), (7, .int (nI kk))] [] h := by
    intro m
    induction m with
    | zero => intro n kk x h0 h1 h2 h3; exact absurd h0 (Nat.not_lt_zero _)
    | succ m ih =>
      intro n kk x h0 h1 h2 h3
      have hmn : min (p 25) (p (6 * u + 5)) ≤ 30 := Nat.le_trans (Nat.min_le_right _ _) (O.us hu).2.2.2.2.2
      have hlt := (O.us hu).2.2.2.2.1
      have hsl := (O.us hu).2.1
      refine Rn.iload dX0_fitOf_38 rfl rfl ?_
      refine Rn.iload_n dX0_fitOf_40 rfl rfl ?_
      refine Rn.icmp_gtN (tgt := 70) dX0_fitOf_41 rfl (by decide) (by omega) (by omega) (fun c41 => ?_) (fun c41 => ?_)
      · obtain rfl : n = 0 := by omega
        refine Rn.iconst dX0_fitOf_70 rfl ic_0 ?_
        refine Rn.iret dX0_fitOf_71 rfl rfl rfl ?_
        exact rn_fin k (by rw [← h3]; rfl) rfl
      · obtain ⟨n, rfl⟩ : ∃ n', n = n' + 1 := ⟨n - 1, by omega⟩
        refine Rn.iload dX0_fitOf_44 rfl rfl ?_
        refine Rn.iload dX0_fitOf_46 rfl rfl ?_
        refine Rn.iconst dX0_fitOf_48 rfl ic_1 ?_
        refine Rn.callSN (as := [_, _, _]) s_X4_stepsBehind n_X0_38 ⟨Nat.le_of_ble_eq_true rfl, Nat.le_of_ble_eq_true rfl⟩ dX0_fitOf_49 rfl rfl (Nat.le_of_ble_eq_true rfl) (Nat.le_refl _) (Nat.le_refl _) (t_X4_stepsBehind h1 hsl (by omega) ?_)
        have hnx : bh (p (6 * u + 1)) x 1 < 251 := nx_lt _ _
        refine Rn.istore dX0_fitOf_52 rfl (Nat.le_of_ble_eq_true rfl) ?_
        refine Rn.iload dX0_fitOf_54 rfl rfl ?_
        refine Rn.iload dX0_fitOf_56 rfl rfl ?_
        refine Rn.icmp_neN (tgt := 64) dX0_fitOf_58 rfl (by decide) (by omega) (by omega) (fun c58 => ?_) (fun c58 => ?_)
        · refine Rn.iincN dX0_fitOf_64 rfl rfl (Nat.le_of_ble_eq_true rfl) ?_
          refine Rn.goto (tgt := 38) dX0_fitOf_67 (by decide) ?_
          exact Rn.pick [2, 3, 4, 1, 0] rfl (ih n (kk + 1) _ (by omega) (nx_lt _ _) (by omega) (by rw [← h3]; exact (if_neg c58).symm))
        · refine Rn.iload dX0_fitOf_61 rfl rfl ?_
          refine Rn.iret dX0_fitOf_63 rfl rfl rfl ?_
          exact rn_fin k (by rw [← h3]; exact congrArg (fun z => some (Value.int (nI z))) (if_pos c58).symm) rfl
  exact Rn.pick [4, 3, 2, 1, 0] rfl (hloop (min (p 25) (p (6 * u + 5)) + 1) _ 1 v (by omega) hv (by omega) rfl)
