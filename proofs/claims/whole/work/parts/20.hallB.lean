theorem t_X0_hasOwn {h : rHp} {Q : Option Value → rHp → Prop} {q : Nat} {p : Nat → Nat} (H : Hl h q p) (O : OKp p) {x : Int32} (k : Q (some (.int (bi (ownB p x)))) h) : Cl M_X0_hasOwn h.1 h.2.1 [.ref q, .int x] h Q := by
  refine Cl.of pl_X0 (Nat.le_of_ble_eq_true rfl) (by first | exact Nat.le_refl _ | omega) (by first | exact Nat.le_refl _ | omega) ?_
  refine Rn.aload_n dX0_hasOwn_0 rfl rfl ?_
  refine Rn.iload_n dX0_hasOwn_1 rfl rfl ?_
  refine Rn.callV (as := [_]) v_X0_has l_X0_42 ⟨Nat.le_of_ble_eq_true rfl, Nat.le_of_ble_eq_true rfl⟩ dX0_hasOwn_2 rfl rfl (Nat.le_of_ble_eq_true rfl) H.1 H.2.2.1 rfl (Nat.le_refl _) (Nat.le_refl _) (t_X0_has H O.1 ?_) 
  refine Rn.if_eqB (tgt := 21) dX0_hasOwn_5 rfl (by decide) (fun c5 => ?_) (fun c5 => ?_)
  · refine Rn.iconst dX0_hasOwn_21 rfl ic_0 ?_
    refine Rn.zret dX0_hasOwn_22 rfl (by decide) rfl rfl ?_
    first | exact rn_fin k (by rw [ownB_hn c5, bi_f]) rfl | exact rn_fin k (by rw [ownB_nI (by omega), ow_no c14, bi_f]) rfl | exact rn_fin k (by rw [ownB_nI (by omega), ow_mk hu (by omega), bi_t]) rfl
  · obtain ⟨u, hu, rfl⟩ := hasB_of c5
    have hu4 := O.1
    refine Rn.aload_n dX0_hasOwn_8 rfl rfl ?_
    refine Rn.iload_n dX0_hasOwn_9 rfl rfl ?_
    refine Rn.iconst dX0_hasOwn_10 rfl ic_3 ?_
    refine Rn.callV (as := [_, _]) v_X0_of l_X0_46 ⟨Nat.le_of_ble_eq_true rfl, Nat.le_of_ble_eq_true rfl⟩ dX0_hasOwn_11 rfl rfl (Nat.le_of_ble_eq_true rfl) H.1 H.2.2.1 rfl (Nat.le_refl _) (Nat.le_refl _) (t_X0_of H (by omega) (by omega) ?_) 
    have hown := (O.us (show u < 4 by omega)).2.2.2.1
    refine Rn.if_leN (tgt := 21) dX0_hasOwn_14 rfl (by decide) (by omega) (fun c14 => ?_) (fun c14 => ?_)
    · refine Rn.iconst dX0_hasOwn_21 rfl ic_0 ?_
      refine Rn.zret dX0_hasOwn_22 rfl (by decide) rfl rfl ?_
      first | exact rn_fin k (by rw [ownB_hn c5, bi_f]) rfl | exact rn_fin k (by rw [ownB_nI (by omega), ow_no c14, bi_f]) rfl | exact rn_fin k (by rw [ownB_nI (by omega), ow_mk hu (by omega), bi_t]) rfl
    · refine Rn.iconst dX0_hasOwn_17 rfl ic_1 ?_
      refine Rn.goto (tgt := 22) dX0_hasOwn_18 (by decide) ?_
      refine Rn.zret dX0_hasOwn_22 rfl (by decide) rfl rfl ?_
      first | exact rn_fin k (by rw [ownB_hn c5, bi_f]) rfl | exact rn_fin k (by rw [ownB_nI (by omega), ow_no c14, bi_f]) rfl | exact rn_fin k (by rw [ownB_nI (by omega), ow_mk hu (by omega), bi_t]) rfl
theorem t_X0_anyHasOwn {h : rHp} {Q : Option Value → rHp → Prop} {q : Nat} {p : Nat → Nat} (H : Hl h q p) (O : OKp p) (k : Q (some (.int (bi (anyU p 4)))) h) : Cl M_X0_anyHasOwn h.1 h.2.1 [.ref q] h Q := by
  refine Cl.of pl_X0 (Nat.le_of_ble_eq_true rfl) (by first | exact Nat.le_refl _ | omega) (by first | exact Nat.le_refl _ | omega) ?_
  refine Rn.iconst dX0_anyHasOwn_0 rfl ic_0 ?_
  refine Rn.istore_n dX0_anyHasOwn_1 rfl (Nat.le_of_ble_eq_true rfl) ?_
  refine Rn.iconst dX0_anyHasOwn_2 rfl ic_0 ?_
  refine Rn.istore_n dX0_anyHasOwn_3 rfl (Nat.le_of_ble_eq_true rfl) ?_
  have hloop : ∀ (m : Nat) (i : Nat), 4 - i < m → i ≤ 4 → Rn (M_X0_anyHasOwn, none, h.1, h.2.1) Q 4 [(0, .ref q), (1, .int (bi (anyU p i))), (2, .int (nI i))] [] h := by
    intro m
    induction m with
    | zero => intro i h0 h1; exact absurd h0 (Nat.not_lt_zero _)
    | succ m ih =>
      intro i h0 h1
      refine Rn.iload_n dX0_anyHasOwn_4 rfl rfl ?_
      refine Rn.iconst dX0_anyHasOwn_5 rfl ic_4 ?_
      refine Rn.icmp_geN (tgt := 33) dX0_anyHasOwn_6 rfl (by decide) (by omega) (by omega) (fun c6 => ?_) (fun c6 => ?_)
      · refine Rn.iload_n dX0_anyHasOwn_33 rfl rfl ?_
        refine Rn.zret dX0_anyHasOwn_34 rfl (bi_01 _) rfl rfl ?_
        rw [show i = 4 by omega]
        exact k
      · refine Rn.iload_n dX0_anyHasOwn_9 rfl rfl ?_
        refine Rn.if_neB (tgt := 21) dX0_anyHasOwn_10 rfl (by decide) (fun c10 => ?_) (fun c10 => ?_)
        · refine Rn.iconst dX0_anyHasOwn_21 rfl ic_1 ?_
          refine Rn.top (y := bi (anyU p (i + 1))) (by first | exact anyU_l c10 | exact anyU_r c18) ?_
          refine Rn.goto (tgt := 26) dX0_anyHasOwn_22 (by decide) ?_
          refine Rn.istore_n dX0_anyHasOwn_26 rfl (Nat.le_of_ble_eq_true rfl) ?_
          refine Rn.iincN dX0_anyHasOwn_27 rfl rfl (Nat.le_of_ble_eq_true rfl) ?_
          refine Rn.goto (tgt := 4) dX0_anyHasOwn_30 (by decide) ?_
          exact Rn.pick [2, 1, 0] rfl (ih (i + 1) (by omega) (by omega))
        · refine Rn.aload_n dX0_anyHasOwn_13 rfl rfl ?_
          refine Rn.iload_n dX0_anyHasOwn_14 rfl rfl ?_
          refine Rn.callV (as := [_]) v_X0_hasOwn l_X0_50 ⟨Nat.le_of_ble_eq_true rfl, Nat.le_of_ble_eq_true rfl⟩ dX0_anyHasOwn_15 rfl rfl (Nat.le_of_ble_eq_true rfl) H.1 H.2.2.1 rfl (Nat.le_refl _) (Nat.le_refl _) (t_X0_hasOwn H O ?_) 
          refine Rn.top (congrArg bi (ownB_nI (by omega))) ?_
          refine Rn.if_eqB (tgt := 25) dX0_anyHasOwn_18 rfl (by decide) (fun c18 => ?_) (fun c18 => ?_)
          · refine Rn.iconst dX0_anyHasOwn_25 rfl ic_0 ?_
            refine Rn.top (y := bi (anyU p (i + 1))) (anyU_n c10 c18) ?_
            refine Rn.istore_n dX0_anyHasOwn_26 rfl (Nat.le_of_ble_eq_true rfl) ?_
            refine Rn.iincN dX0_anyHasOwn_27 rfl rfl (Nat.le_of_ble_eq_true rfl) ?_
            refine Rn.goto (tgt := 4) dX0_anyHasOwn_30 (by decide) ?_
            exact Rn.pick [2, 1, 0] rfl (ih (i + 1) (by omega) (by omega))
          · refine Rn.iconst dX0_anyHasOwn_21 rfl ic_1 ?_
            refine Rn.top (y := bi (anyU p (i + 1))) (by first | exact anyU_l c10 | exact anyU_r c18) ?_
            refine Rn.goto (tgt := 26) dX0_anyHasOwn_22 (by decide) ?_
            refine Rn.istore_n dX0_anyHasOwn_26 rfl (Nat.le_of_ble_eq_true rfl) ?_
            refine Rn.iincN dX0_anyHasOwn_27 rfl rfl (Nat.le_of_ble_eq_true rfl) ?_
            refine Rn.goto (tgt := 4) dX0_anyHasOwn_30 (by decide) ?_
            exact Rn.pick [2, 1, 0] rfl (ih (i + 1) (by omega) (by omega))
  exact Rn.pick [2, 1, 0] rfl (hloop 5 0 (by omega) (by omega))
