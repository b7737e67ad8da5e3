theorem t_X0_bring {h : rHp} {Q : Option Value → rHp → Prop} {q : Nat} {p : Nat → Nat} (H : Hl h q p) (O : OKp p) (O1 : ∀ x, x < 4 → ∀ v, v < 251 → OKp (un p 26 (1000 * x + v + 1))) {u v : Nat} (hu : u < 4) (hv : v < 251) (k : Q (some (.int (nI (fitP p u v)))) (hp h q (brP p u v))) : Cl M_X0_bring h.1 h.2.1 [.ref q, .int (nI u), .int (nI v)] h Q := by
  refine Cl.of pl_X0 (Nat.le_of_ble_eq_true rfl) (by first | exact Nat.le_refl _ | omega) (by first | exact Nat.le_refl _ | omega) ?_
  refine Rn.aload_n dX0_bring_0 rfl rfl ?_
  refine Rn.getf f_X0_11 dX0_bring_1 rfl H.1 H.2.2.1 rfl ?_
  refine Rn.iconst dX0_bring_4 rfl ic_2 ?_
  refine Rn.sipush dX0_bring_5 rfl sp_1000 ?_
  refine Rn.iload_n dX0_bring_8 rfl rfl ?_
  refine Rn.imulN dX0_bring_9 rfl ?_
  refine Rn.iload_n dX0_bring_10 rfl rfl ?_
  refine Rn.iaddN dX0_bring_11 rfl ?_
  refine Rn.iastN dX0_bring_12 rfl H.2.1 H.2.2.2 (by omega) (by omega) ?_
  refine Rn.heap (Hl.upd (upd_c2 p (1000 * u + v))) ?_
  refine Rn.aload_n dX0_bring_13 rfl rfl ?_
  refine Rn.iload_n dX0_bring_14 rfl rfl ?_
  refine Rn.iload_n dX0_bring_15 rfl rfl ?_
  refine Rn.callV (as := [_, _]) v_X0_fitOf l_X0_58 ⟨Nat.le_of_ble_eq_true rfl, Nat.le_of_ble_eq_true rfl⟩ dX0_bring_16 rfl rfl (Nat.le_of_ble_eq_true rfl) (H.put _).1 (H.put _).2.2.1 rfl (Nat.le_refl _) (Nat.le_refl _) (t_X0_fitOf (H.put _) (O1 u hu v hv) hu hv ?_) 
  refine Rn.top (congrArg nI (fitP_26 p hu _ v)) ?_
  have hf30 : fitP p u v ≤ p (6 * u + 5) := fitP_le p u v
  have hl30 := (O.us hu).2.2.2.2.2
  refine Rn.istore_n dX0_bring_19 rfl (Nat.le_of_ble_eq_true rfl) ?_
  refine Rn.iload_n dX0_bring_20 rfl rfl ?_
  refine Rn.if_leN (tgt := 45) dX0_bring_21 rfl (by decide) (by omega) (fun c21 => ?_) (fun c21 => ?_)
  · refine Rn.iload_n dX0_bring_45 rfl rfl ?_
    refine Rn.iret dX0_bring_46 rfl rfl rfl ?_
    first | exact rn_fin k rfl (by unfold brP; rw [if_neg (by omega)]) | exact rn_fin k rfl (by unfold brP; rw [if_pos (by omega)])
  · refine Rn.aload_n dX0_bring_24 rfl rfl ?_
    refine Rn.iload_n dX0_bring_25 rfl rfl ?_
    refine Rn.iconst dX0_bring_26 rfl ic_4 ?_
    refine Rn.iload_n dX0_bring_27 rfl rfl ?_
    refine Rn.callV (as := [_, _, _]) v_X0_put l_X0_34 ⟨Nat.le_of_ble_eq_true rfl, Nat.le_of_ble_eq_true rfl⟩ dX0_bring_28 rfl rfl (Nat.le_of_ble_eq_true rfl) (H.put _).1 (H.put _).2.2.1 rfl (Nat.le_refl _) (Nat.le_refl _) (t_X0_put (H.put _) (by omega) (by omega) ?_) 
    refine Rn.heap (hp_hp _ _ _ _) ?_
    refine Rn.aload_n dX0_bring_31 rfl rfl ?_
    refine Rn.iload_n dX0_bring_32 rfl rfl ?_
    refine Rn.iconst dX0_bring_33 rfl ic_5 ?_
    refine Rn.aload_n dX0_bring_34 rfl rfl ?_
    refine Rn.iload_n dX0_bring_35 rfl rfl ?_
    refine Rn.iconst dX0_bring_36 rfl ic_5 ?_
    refine Rn.callV (as := [_, _]) v_X0_of l_X0_46 ⟨Nat.le_of_ble_eq_true rfl, Nat.le_of_ble_eq_true rfl⟩ dX0_bring_37 rfl rfl (Nat.le_of_ble_eq_true rfl) (H.put _).1 (H.put _).2.2.1 rfl (Nat.le_refl _) (Nat.le_refl _) (t_X0_of (H.put _) (by omega) (by omega) ?_) 
    refine Rn.top (congrArg nI ((un_ne _ _ (by omega)).trans (un_ne p _ (by omega)))) ?_
    refine Rn.iload_n dX0_bring_40 rfl rfl ?_
    refine Rn.isubN dX0_bring_41 rfl (by omega) ?_
    refine Rn.callV (as := [_, _, _]) v_X0_put l_X0_34 ⟨Nat.le_of_ble_eq_true rfl, Nat.le_of_ble_eq_true rfl⟩ dX0_bring_42 rfl rfl (Nat.le_of_ble_eq_true rfl) (H.put _).1 (H.put _).2.2.1 rfl (Nat.le_refl _) (Nat.le_refl _) (t_X0_put (H.put _) (by omega) (by omega) ?_) 
    refine Rn.heap (hp_hp _ _ _ _) ?_
    refine Rn.iload_n dX0_bring_45 rfl rfl ?_
    refine Rn.iret dX0_bring_46 rfl rfl rfl ?_
    first | exact rn_fin k rfl (by unfold brP; rw [if_neg (by omega)]) | exact rn_fin k rfl (by unfold brP; rw [if_pos (by omega)])
theorem t_X0_spendPass {h : rHp} {Q : Option Value → rHp → Prop} {q : Nat} {p : Nat → Nat} (H : Hl h q p) (O : OKp p) {u : Nat} (hu : u < 2147483648) (k : Q (some (.int (bi (ow p u)))) (hp h q (spP p u))) : Cl M_X0_spendPass h.1 h.2.1 [.ref q, .int (nI u)] h Q := by
  refine Cl.of pl_X0 (Nat.le_of_ble_eq_true rfl) (by first | exact Nat.le_refl _ | omega) (by first | exact Nat.le_refl _ | omega) ?_
  refine Rn.aload_n dX0_spendPass_0 rfl rfl ?_
  refine Rn.iload_n dX0_spendPass_1 rfl rfl ?_
  refine Rn.callV (as := [_]) v_X0_hasOwn l_X0_50 ⟨Nat.le_of_ble_eq_true rfl, Nat.le_of_ble_eq_true rfl⟩ dX0_spendPass_2 rfl rfl (Nat.le_of_ble_eq_true rfl) H.1 H.2.2.1 rfl (Nat.le_refl _) (Nat.le_refl _) (t_X0_hasOwn H O ?_) 
  refine Rn.top (congrArg bi (ownB_nI hu)) ?_
  refine Rn.istore_n dX0_spendPass_5 rfl (Nat.le_of_ble_eq_true rfl) ?_
  refine Rn.iload_n dX0_spendPass_6 rfl rfl ?_
  refine Rn.if_eqB (tgt := 24) dX0_spendPass_7 rfl (by decide) (fun c7 => ?_) (fun c7 => ?_)
  · refine Rn.iload_n dX0_spendPass_24 rfl rfl ?_
    refine Rn.zret dX0_spendPass_25 rfl (bi_01 _) rfl rfl ?_
    first | exact rn_fin k rfl (by unfold spP; rw [c7]; exact H.same.symm) | exact rn_fin k rfl (by unfold spP; rw [c7]; rfl)
  · obtain ⟨hu2, hu3⟩ := ow_t c7
    have hu4 := O.1
    have hown := (O.us (show u < 4 by omega)).2.2.2.1
    refine Rn.aload_n dX0_spendPass_10 rfl rfl ?_
    refine Rn.iload_n dX0_spendPass_11 rfl rfl ?_
    refine Rn.iconst dX0_spendPass_12 rfl ic_3 ?_
    refine Rn.aload_n dX0_spendPass_13 rfl rfl ?_
    refine Rn.iload_n dX0_spendPass_14 rfl rfl ?_
    refine Rn.iconst dX0_spendPass_15 rfl ic_3 ?_
    refine Rn.callV (as := [_, _]) v_X0_of l_X0_46 ⟨Nat.le_of_ble_eq_true rfl, Nat.le_of_ble_eq_true rfl⟩ dX0_spendPass_16 rfl rfl (Nat.le_of_ble_eq_true rfl) H.1 H.2.2.1 rfl (Nat.le_refl _) (Nat.le_refl _) (t_X0_of H (by omega) (by omega) ?_) 
    refine Rn.iconst dX0_spendPass_19 rfl ic_1 ?_
    refine Rn.isubN dX0_spendPass_20 rfl (by omega) ?_
    refine Rn.callV (as := [_, _, _]) v_X0_put l_X0_34 ⟨Nat.le_of_ble_eq_true rfl, Nat.le_of_ble_eq_true rfl⟩ dX0_spendPass_21 rfl rfl (Nat.le_of_ble_eq_true rfl) H.1 H.2.2.1 rfl (Nat.le_refl _) (Nat.le_refl _) (t_X0_put H (by omega) (by omega) ?_) 
    refine Rn.iload_n dX0_spendPass_24 rfl rfl ?_
    refine Rn.zret dX0_spendPass_25 rfl (bi_01 _) rfl rfl ?_
    first | exact rn_fin k rfl (by unfold spP; rw [c7]; exact H.same.symm) | exact rn_fin k rfl (by unfold spP; rw [c7]; rfl)
