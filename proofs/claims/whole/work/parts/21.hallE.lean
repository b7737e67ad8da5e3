theorem OKp.un26 {p : Nat → Nat} (O : OKp p) : ∀ x, x < 4 → ∀ v, v < 251 → OKp (un p 26 (1000 * x + v + 1)) := by
  intro x hx v hv
  obtain ⟨a, b, c, d, e, f, g⟩ := O
  refine ⟨by rw [un_ne _ _ (by omega)]; exact a, by rw [un_ne _ _ (by omega)]; exact b, by rw [un_ne _ _ (by omega)]; exact c, by rw [un_ne _ _ (by omega)]; exact d, fun u hu => ?_, fun i hi => ?_, ?_⟩
  · rw [un_ne _ _ (by omega), un_ne _ _ (by omega), un_ne _ _ (by omega), un_ne _ _ (by omega), un_ne _ _ (by omega), un_ne _ _ (by omega)]; exact e u hu
  · rw [un_ne _ _ (by omega)]; exact f i hi
  · rw [un_eq]; right; omega
/-- a user's cell changes within its bounds -/
theorem OKp.put {p : Nat → Nat} (O : OKp p) {u k x : Nat} (hu : u < 4) (hk : k < 6) (hx : x < 251) (h30 : k = 2 ∨ k = 3 ∨ k = 5 → x ≤ 30) : OKp (un p (6 * u + k) x) := by
  obtain ⟨a, b, c, d, e, f, g⟩ := O
  refine ⟨by rw [un_ne _ _ (by omega)]; exact a, by rw [un_ne _ _ (by omega)]; exact b, by rw [un_ne _ _ (by omega)]; exact c, by rw [un_ne _ _ (by omega)]; exact d, fun w hw => ?_, fun i hi => ?_, ?_⟩
  · obtain ⟨e0, e1, e2, e3, e4, e5⟩ := e w hw
    simp only [un_at]
    refine ⟨?_, ?_, ?_, ?_, ?_, ?_⟩ <;> split <;> omega
  · rw [un_ne _ _ (by omega)]; exact f i hi
  · rw [un_ne _ _ (by omega)]; exact g
theorem OK_sp {p : Nat → Nat} (O : OKp p) {u : Nat} (hu : u < 4) : OKp (spP p u) := by
  show OKp (if ow p u then un p (6 * u + 3) (p (6 * u + 3) - 1) else p)
  split
  · have := O.us hu
    exact O.put hu (by omega) (by omega) (by omega)
  · exact O
theorem OK_br {p : Nat → Nat} (O : OKp p) {u v : Nat} (hu : u < 4) (hv : v < 251) : OKp (brP p u v) := by
  have O1 := O.un26 u hu v hv
  have h5 := (O.us hu).2.2.2.2.2
  show OKp (if 0 < fitP p u v then un (un (un p 26 (1000 * u + v + 1)) (6 * u + 4) v) (6 * u + 5) (p (6 * u + 5) - fitP p u v) else un p 26 (1000 * u + v + 1))
  split
  · exact (O1.put hu (k := 4) (by omega) hv (by omega)).put hu (k := 5) (by omega) (by omega) (by omega)
  · exact O1
theorem OK_se {p : Nat → Nat} (O : OKp p) {u : Nat} (hu : u < 4) : OKp (seP p u) := by
  show OKp (if ow p u then brP (spP p u) u (psP p u (p (6 * u + 3) - 1)) else p)
  split
  · exact OK_br (OK_sp O hu) hu (psP_lt O hu _)
  · exact O
theorem t_X0_sendPass {h : rHp} {Q : Option Value → rHp → Prop} {q : Nat} {p : Nat → Nat} (H : Hl h q p) (O : OKp p) {u : Nat} (hu : u < 2147483648) (k : Q (some (.int (nI (seK p u)))) (hp h q (seP p u))) : Cl M_X0_sendPass h.1 h.2.1 [.ref q, .int (nI u)] h Q := by
  refine Cl.of pl_X0 (Nat.le_of_ble_eq_true rfl) (by first | exact Nat.le_refl _ | omega) (by first | exact Nat.le_refl _ | omega) ?_
  refine Rn.aload_n dX0_sendPass_0 rfl rfl ?_
  refine Rn.iload_n dX0_sendPass_1 rfl rfl ?_
  refine Rn.callV (as := [_]) v_X0_spendPass l_X0_61 ⟨Nat.le_of_ble_eq_true rfl, Nat.le_of_ble_eq_true rfl⟩ dX0_sendPass_2 rfl rfl (Nat.le_of_ble_eq_true rfl) H.1 H.2.2.1 rfl (Nat.le_refl _) (Nat.le_refl _) (t_X0_spendPass H O hu ?_) 
  refine Rn.if_eqB (tgt := 27) dX0_sendPass_5 rfl (by decide) (fun c5 => ?_) (fun c5 => ?_)
  · refine Rn.iconst dX0_sendPass_27 rfl ic_0 ?_
    refine Rn.iret dX0_sendPass_28 rfl rfl rfl ?_
    first | exact rn_fin k (by unfold seK; rw [c5]; rfl) (by unfold seP spP; rw [c5]; rfl) | exact rn_fin k rfl (by unfold seP; rw [if_pos c5])
  · obtain ⟨hu2, hu3⟩ := ow_t c5
    have hu4 : u < 4 := by have := O.1; omega
    have hown := (O.us hu4).2.2.2.1
    have esp : spP p u = un p (6 * u + 3) (p (6 * u + 3) - 1) := if_pos c5
    refine Rn.aload_n dX0_sendPass_8 rfl rfl ?_
    refine Rn.iload_n dX0_sendPass_9 rfl rfl ?_
    refine Rn.aload_n dX0_sendPass_10 rfl rfl ?_
    refine Rn.iload_n dX0_sendPass_11 rfl rfl ?_
    refine Rn.aload_n dX0_sendPass_12 rfl rfl ?_
    refine Rn.iload_n dX0_sendPass_13 rfl rfl ?_
    refine Rn.iconst dX0_sendPass_14 rfl ic_3 ?_
    refine Rn.callV (as := [_, _]) v_X0_of l_X0_46 ⟨Nat.le_of_ble_eq_true rfl, Nat.le_of_ble_eq_true rfl⟩ dX0_sendPass_15 rfl rfl (Nat.le_of_ble_eq_true rfl) (H.put _).1 (H.put _).2.2.1 rfl (Nat.le_refl _) (Nat.le_refl _) (t_X0_of (H.put _) hu4 (by omega) ?_) 
    refine Rn.top (y := nI (p (6 * u + 3) - 1)) (by rw [esp, un_eq]) ?_
    refine Rn.callV (as := [_, _]) v_X0_passOf l_X0_64 ⟨Nat.le_of_ble_eq_true rfl, Nat.le_of_ble_eq_true rfl⟩ dX0_sendPass_18 rfl rfl (Nat.le_of_ble_eq_true rfl) (H.put _).1 (H.put _).2.2.1 rfl (Nat.le_refl _) (Nat.le_refl _) (t_X0_passOf (H.put _) (OK_sp O hu4) hu4 (by omega) ?_) 
    refine Rn.top (y := nI (psP p u (p (6 * u + 3) - 1))) (by rw [esp, psP_own p hu4 _ _ u hu4]) ?_
    refine Rn.callV (as := [_, _]) v_X0_bring l_X0_67 ⟨Nat.le_of_ble_eq_true rfl, Nat.le_of_ble_eq_true rfl⟩ dX0_sendPass_21 rfl rfl (Nat.le_of_ble_eq_true rfl) (H.put _).1 (H.put _).2.2.1 rfl (Nat.le_refl _) (Nat.le_refl _) (t_X0_bring (H.put _) (OK_sp O hu4) (OK_sp O hu4).un26 hu4 (psP_lt O hu4 _) ?_) 
    refine Rn.heap (hp_hp _ _ _ _) ?_
    refine Rn.top (y := nI (seK p u)) (by rw [esp, fitP_own p hu4 _ _ u hu4]; unfold seK; rw [if_pos c5]) ?_
    refine Rn.goto (tgt := 28) dX0_sendPass_24 (by decide) ?_
    refine Rn.iret dX0_sendPass_28 rfl rfl rfl ?_
    first | exact rn_fin k (by unfold seK; rw [c5]; rfl) (by unfold seP spP; rw [c5]; rfl) | exact rn_fin k rfl (by unfold seP; rw [if_pos c5])
theorem stp_n1 {p : Nat → Nat} {u : Nat} (h : ow p u = false) : stp p u = false := by unfold stp; rw [h]; rfl
theorem stp_n2 {p : Nat → Nat} {u : Nat} (h : fitP p u (psP p u (p (6 * u + 3) - 1)) = 0) : stp p u = false := by unfold stp; rw [h, Bool.and_comm]; rfl
theorem stp_y {p : Nat → Nat} {u : Nat} (h : ow p u = true) (h2 : ¬ fitP p u (psP p u (p (6 * u + 3) - 1)) = 0) : stp p u = true := by unfold stp; rw [h, decide_eq_true (show 0 < fitP p u (psP p u (p (6 * u + 3) - 1)) by omega)]; rfl
theorem t_X0_isInStep {h : rHp} {Q : Option Value → rHp → Prop} {q : Nat} {p : Nat → Nat} (H : Hl h q p) (O : OKp p) {u : Nat} (hu : u < 2147483648) (k : Q (some (.int (bi (stp p u)))) h) : Cl M_X0_isInStep h.1 h.2.1 [.ref q, .int (nI u)] h Q := by
  refine Cl.of pl_X0 (Nat.le_of_ble_eq_true rfl) (by first | exact Nat.le_refl _ | omega) (by first | exact Nat.le_refl _ | omega) ?_
  refine Rn.aload_n dX0_isInStep_0 rfl rfl ?_
  refine Rn.iload_n dX0_isInStep_1 rfl rfl ?_
  refine Rn.callV (as := [_]) v_X0_hasOwn l_X0_50 ⟨Nat.le_of_ble_eq_true rfl, Nat.le_of_ble_eq_true rfl⟩ dX0_isInStep_2 rfl rfl (Nat.le_of_ble_eq_true rfl) H.1 H.2.2.1 rfl (Nat.le_refl _) (Nat.le_refl _) (t_X0_hasOwn H O ?_) 
  refine Rn.top (congrArg bi (ownB_nI hu)) ?_
  refine Rn.if_eqB (tgt := 33) dX0_isInStep_5 rfl (by decide) (fun c5 => ?_) (fun c5 => ?_)
  · refine Rn.iconst dX0_isInStep_33 rfl ic_0 ?_
    refine Rn.zret dX0_isInStep_34 rfl (by decide) rfl rfl ?_
    first | exact rn_fin k (by rw [stp_n1 c5, bi_f]) rfl | exact rn_fin k (by rw [stp_n2 c26, bi_f]) rfl | exact rn_fin k (by rw [stp_y c5 c26, bi_t]) rfl
  · obtain ⟨hu2, hu3⟩ := ow_t c5
    have hu4 : u < 4 := by have := O.1; omega
    have hown := (O.us hu4).2.2.2.1
    refine Rn.aload_n dX0_isInStep_8 rfl rfl ?_
    refine Rn.iload_n dX0_isInStep_9 rfl rfl ?_
    refine Rn.aload_n dX0_isInStep_10 rfl rfl ?_
    refine Rn.iload_n dX0_isInStep_11 rfl rfl ?_
    refine Rn.aload_n dX0_isInStep_12 rfl rfl ?_
    refine Rn.iload_n dX0_isInStep_13 rfl rfl ?_
    refine Rn.iconst dX0_isInStep_14 rfl ic_3 ?_
    refine Rn.callV (as := [_, _]) v_X0_of l_X0_46 ⟨Nat.le_of_ble_eq_true rfl, Nat.le_of_ble_eq_true rfl⟩ dX0_isInStep_15 rfl rfl (Nat.le_of_ble_eq_true rfl) H.1 H.2.2.1 rfl (Nat.le_refl _) (Nat.le_refl _) (t_X0_of H hu4 (by omega) ?_) 
    refine Rn.iconst dX0_isInStep_18 rfl ic_1 ?_
    refine Rn.isubN dX0_isInStep_19 rfl (by omega) ?_
    refine Rn.callV (as := [_, _]) v_X0_passOf l_X0_64 ⟨Nat.le_of_ble_eq_true rfl, Nat.le_of_ble_eq_true rfl⟩ dX0_isInStep_20 rfl rfl (Nat.le_of_ble_eq_true rfl) H.1 H.2.2.1 rfl (Nat.le_refl _) (Nat.le_refl _) (t_X0_passOf H O hu4 (by omega) ?_) 
    refine Rn.callV (as := [_, _]) v_X0_fitOf l_X0_58 ⟨Nat.le_of_ble_eq_true rfl, Nat.le_of_ble_eq_true rfl⟩ dX0_isInStep_23 rfl rfl (Nat.le_of_ble_eq_true rfl) H.1 H.2.2.1 rfl (Nat.le_refl _) (Nat.le_refl _) (t_X0_fitOf H O hu4 (psP_lt O hu4 _) ?_) 
    have hfl := fitP_le p u (psP p u (p (6 * u + 3) - 1))
    have hl30 := (O.us hu4).2.2.2.2.2
    refine Rn.if_leN (tgt := 33) dX0_isInStep_26 rfl (by decide) (by omega) (fun c26 => ?_) (fun c26 => ?_)
    · refine Rn.iconst dX0_isInStep_33 rfl ic_0 ?_
      refine Rn.zret dX0_isInStep_34 rfl (by decide) rfl rfl ?_
      first | exact rn_fin k (by rw [stp_n1 c5, bi_f]) rfl | exact rn_fin k (by rw [stp_n2 c26, bi_f]) rfl | exact rn_fin k (by rw [stp_y c5 c26, bi_t]) rfl
    · refine Rn.iconst dX0_isInStep_29 rfl ic_1 ?_
      refine Rn.goto (tgt := 34) dX0_isInStep_30 (by decide) ?_
      refine Rn.zret dX0_isInStep_34 rfl (by decide) rfl rfl ?_
      first | exact rn_fin k (by rw [stp_n1 c5, bi_f]) rfl | exact rn_fin k (by rw [stp_n2 c26, bi_f]) rfl | exact rn_fin k (by rw [stp_y c5 c26, bi_t]) rfl
theorem t_X0_isWarned {h : rHp} {Q : Option Value → rHp → Prop} {q : Nat} {p : Nat → Nat} (H : Hl h q p) (O : OKp p) {u : Nat} (hu : u < 4) (k : Q (some (.int (bi (decide (p (6 * u + 5) ≤ 3))))) h) : Cl M_X0_isWarned h.1 h.2.1 [.ref q, .int (nI u)] h Q := by
  refine Cl.of pl_X0 (Nat.le_of_ble_eq_true rfl) (by first | exact Nat.le_refl _ | omega) (by first | exact Nat.le_refl _ | omega) ?_
  refine Rn.aload_n dX0_isWarned_0 rfl rfl ?_
  refine Rn.iload_n dX0_isWarned_1 rfl rfl ?_
  refine Rn.iconst dX0_isWarned_2 rfl ic_5 ?_
  refine Rn.callV (as := [_, _]) v_X0_of l_X0_46 ⟨Nat.le_of_ble_eq_true rfl, Nat.le_of_ble_eq_true rfl⟩ dX0_isWarned_3 rfl rfl (Nat.le_of_ble_eq_true rfl) H.1 H.2.2.1 rfl (Nat.le_refl _) (Nat.le_refl _) (t_X0_of H (by omega) (by omega) ?_) 
  have hl30 := (O.us hu).2.2.2.2.2
  refine Rn.iconst dX0_isWarned_6 rfl ic_3 ?_
  refine Rn.icmp_gtN (tgt := 14) dX0_isWarned_7 rfl (by decide) (by omega) (by omega) (fun c7 => ?_) (fun c7 => ?_)
  · refine Rn.iconst dX0_isWarned_14 rfl ic_0 ?_
    refine Rn.zret dX0_isWarned_15 rfl (by decide) rfl rfl ?_
    first | exact rn_fin k (by rw [decide_eq_false (by omega), bi_f]) rfl | exact rn_fin k (by rw [decide_eq_true (by omega), bi_t]) rfl
  · refine Rn.iconst dX0_isWarned_10 rfl ic_1 ?_
    refine Rn.goto (tgt := 15) dX0_isWarned_11 (by decide) ?_
    refine Rn.zret dX0_isWarned_15 rfl (by decide) rfl rfl ?_
    first | exact rn_fin k (by rw [decide_eq_false (by omega), bi_f]) rfl | exact rn_fin k (by rw [decide_eq_true (by omega), bi_t]) rfl
theorem t_X0_gapOf {h : rHp} {Q : Option Value → rHp → Prop} {q : Nat} {p : Nat → Nat} (H : Hl h q p) (O : OKp p) {u : Nat} (hu : u < 4) (k : Q (some (.int (gpL p u (p (6 * u + 3)) 0))) h) : Cl M_X0_gapOf h.1 h.2.1 [.ref q, .int (nI u)] h Q := by
  refine Cl.of pl_X0 (Nat.le_of_ble_eq_true rfl) (by first | exact Nat.le_refl _ | omega) (by first | exact Nat.le_refl _ | omega) ?_
  refine Rn.aload_n dX0_gapOf_0 rfl rfl ?_
  refine Rn.iload_n dX0_gapOf_1 rfl rfl ?_
  refine Rn.iconst dX0_gapOf_2 rfl ic_3 ?_
  refine Rn.callV (as := [_, _]) v_X0_of l_X0_46 ⟨Nat.le_of_ble_eq_true rfl, Nat.le_of_ble_eq_true rfl⟩ dX0_gapOf_3 rfl rfl (Nat.le_of_ble_eq_true rfl) H.1 H.2.2.1 rfl (Nat.le_refl _) (Nat.le_refl _) (t_X0_of H (by omega) (by omega) ?_) 
  refine Rn.istore_n dX0_gapOf_6 rfl (Nat.le_of_ble_eq_true rfl) ?_
  refine Rn.iconst dX0_gapOf_7 rfl ic_0 ?_
  refine Rn.istore_n dX0_gapOf_8 rfl (Nat.le_of_ble_eq_true rfl) ?_
  have hloop : ∀ (m : Nat) (n i : Nat), n < m → i + n = p (6 * u + 3) → gpL p u n i = gpL p u (p (6 * u + 3)) 0 → Rn (M_X0_gapOf, none, h.1, h.2.1) Q 9 [(0, .ref q), (1, .int (nI u)), (2, .int (nI (p (6 * u + 3)))), (3, .int (nI i))] [] h := by
    intro m
    induction m with
    | zero => intro n i h0 h1 h2; exact absurd h0 (Nat.not_lt_zero _)
    | succ m ih =>
      intro n i h0 h1 h2
      have hown := (O.us hu).2.2.2.1
      refine Rn.iload_n dX0_gapOf_9 rfl rfl ?_
      refine Rn.iload_n dX0_gapOf_10 rfl rfl ?_
      refine Rn.icmp_geN (tgt := 40) dX0_gapOf_11 rfl (by decide) (by omega) (by omega) (fun c11 => ?_) (fun c11 => ?_)
      · obtain rfl : n = 0 := by omega
        refine Rn.bipush dX0_gapOf_40 rfl bp_m9 ?_
        refine Rn.iret dX0_gapOf_42 rfl rfl rfl ?_
        exact rn_fin k (by rw [← h2]; rfl) rfl
      · obtain ⟨n, rfl⟩ : ∃ n', n = n' + 1 := ⟨n - 1, by omega⟩
        refine Rn.aload_n dX0_gapOf_14 rfl rfl ?_
        refine Rn.iload_n dX0_gapOf_15 rfl rfl ?_
        refine Rn.aload_n dX0_gapOf_16 rfl rfl ?_
        refine Rn.iload_n dX0_gapOf_17 rfl rfl ?_
        refine Rn.iload_n dX0_gapOf_18 rfl rfl ?_
        refine Rn.callV (as := [_, _]) v_X0_passOf l_X0_64 ⟨Nat.le_of_ble_eq_true rfl, Nat.le_of_ble_eq_true rfl⟩ dX0_gapOf_19 rfl rfl (Nat.le_of_ble_eq_true rfl) H.1 H.2.2.1 rfl (Nat.le_refl _) (Nat.le_refl _) (t_X0_passOf H O (by omega) (by omega) ?_) 
        refine Rn.callV (as := [_, _]) v_X0_fitOf l_X0_58 ⟨Nat.le_of_ble_eq_true rfl, Nat.le_of_ble_eq_true rfl⟩ dX0_gapOf_22 rfl rfl (Nat.le_of_ble_eq_true rfl) H.1 H.2.2.1 rfl (Nat.le_refl _) (Nat.le_refl _) (t_X0_fitOf H O hu (psP_lt O hu _) ?_) 
        have hfl := fitP_le p u (psP p u i)
        have hl30 := (O.us hu).2.2.2.2.2
        refine Rn.if_leN (tgt := 34) dX0_gapOf_25 rfl (by decide) (by omega) (fun c25 => ?_) (fun c25 => ?_)
        · refine Rn.iincN dX0_gapOf_34 rfl rfl (Nat.le_of_ble_eq_true rfl) ?_
          refine Rn.goto (tgt := 9) dX0_gapOf_37 (by decide) ?_
          exact Rn.pick [1, 2, 3, 0] rfl (ih n (i + 1) (by omega) (by omega) (by rw [← h2]; exact (if_neg (by omega)).symm))
        · refine Rn.iload_n dX0_gapOf_28 rfl rfl ?_
          refine Rn.iconst dX0_gapOf_29 rfl ic_1 ?_
          refine Rn.isubN dX0_gapOf_30 rfl (by omega) ?_
          refine Rn.iload_n dX0_gapOf_31 rfl rfl ?_
          refine Rn.isubN dX0_gapOf_32 rfl (by omega) ?_
          refine Rn.iret dX0_gapOf_33 rfl rfl rfl ?_
          exact rn_fin k (by rw [← h2]; exact congrArg (fun z => some (Value.int z)) (if_pos (by omega)).symm) rfl
  exact Rn.pick [2, 3, 1, 0] rfl (hloop (p (6 * u + 3) + 1) _ 0 (by omega) (by omega) rfl)
theorem t_X0_countFitting {h : rHp} {Q : Option Value → rHp → Prop} {q : Nat} {p : Nat → Nat} (H : Hl h q p) (O : OKp p) {u : Nat} (hu : u < 4) (k : Q (some (.int (nI (cnt (fB p u) 251)))) h) : Cl M_X0_countFitting h.1 h.2.1 [.ref q, .int (nI u)] h Q := by
  refine Cl.of pl_X0 (Nat.le_of_ble_eq_true rfl) (by first | exact Nat.le_refl _ | omega) (by first | exact Nat.le_refl _ | omega) ?_
  refine Rn.iconst dX0_countFitting_0 rfl ic_0 ?_
  refine Rn.istore_n dX0_countFitting_1 rfl (Nat.le_of_ble_eq_true rfl) ?_
  refine Rn.iconst dX0_countFitting_2 rfl ic_0 ?_
  refine Rn.istore_n dX0_countFitting_3 rfl (Nat.le_of_ble_eq_true rfl) ?_
  have hloop : ∀ (m : Nat) (i : Nat), 251 - i < m → i ≤ 251 → Rn (M_X0_countFitting, none, h.1, h.2.1) Q 4 [(0, .ref q), (1, .int (nI u)), (2, .int (nI (cnt (fB p u) i))), (3, .int (nI i))] [] h := by
    intro m
    induction m with
    | zero => intro i h0 h1; exact absurd h0 (Nat.not_lt_zero _)
    | succ m ih =>
      intro i h0 h1
      have hc := cnt_le (fB p u) i
      refine Rn.iload_n dX0_countFitting_4 rfl rfl ?_
      refine Rn.sipush dX0_countFitting_5 rfl sp_251 ?_
      refine Rn.icmp_geN (tgt := 29) dX0_countFitting_8 rfl (by decide) (by omega) (by omega) (fun c8 => ?_) (fun c8 => ?_)
      · refine Rn.iload_n dX0_countFitting_29 rfl rfl ?_
        refine Rn.iret dX0_countFitting_30 rfl rfl rfl ?_
        rw [show i = 251 by omega]
        exact k
      · refine Rn.aload_n dX0_countFitting_11 rfl rfl ?_
        refine Rn.iload_n dX0_countFitting_12 rfl rfl ?_
        refine Rn.iload_n dX0_countFitting_13 rfl rfl ?_
        refine Rn.callV (as := [_, _]) v_X0_fitOf l_X0_58 ⟨Nat.le_of_ble_eq_true rfl, Nat.le_of_ble_eq_true rfl⟩ dX0_countFitting_14 rfl rfl (Nat.le_of_ble_eq_true rfl) H.1 H.2.2.1 rfl (Nat.le_refl _) (Nat.le_refl _) (t_X0_fitOf H O (by omega) (by omega) ?_) 
        have hfl := fitP_le p u i
        have hl30 := (O.us hu).2.2.2.2.2
        refine Rn.if_leN (tgt := 23) dX0_countFitting_17 rfl (by decide) (by omega) (fun c17 => ?_) (fun c17 => ?_)
        · refine Rn.iincN dX0_countFitting_23 rfl rfl (Nat.le_of_ble_eq_true rfl) ?_
          refine Rn.goto (tgt := 4) dX0_countFitting_26 (by decide) ?_
          have ec : cnt (fB p u) (i + 1) = cnt (fB p u) i := by show _ + (if fB p u i then 1 else 0) = _; unfold fB; rw [decide_eq_false (by omega)]; rfl
          have := ih (i + 1) (by omega) (by omega)
          rw [ec] at this
          exact Rn.pick [1, 2, 3, 0] rfl (this)
        · refine Rn.iincN dX0_countFitting_20 rfl rfl (Nat.le_of_ble_eq_true rfl) ?_
          refine Rn.iincN dX0_countFitting_23 rfl rfl (Nat.le_of_ble_eq_true rfl) ?_
          refine Rn.goto (tgt := 4) dX0_countFitting_26 (by decide) ?_
          have ec : cnt (fB p u) (i + 1) = cnt (fB p u) i + 1 := by show _ + (if fB p u i then 1 else 0) = _; unfold fB; rw [decide_eq_true (by omega)]; rfl
          have := ih (i + 1) (by omega) (by omega)
          rw [ec] at this
          exact Rn.pick [2, 3, 1, 0] rfl (this)
  exact Rn.pick [2, 3, 1, 0] rfl (hloop 252 0 (by omega) (by omega))
theorem t_X0_leastFitting {h : rHp} {Q : Option Value → rHp → Prop} {q : Nat} {p : Nat → Nat} (H : Hl h q p) (O : OKp p) {u : Nat} (hu : u < 4) (k : Q (some (.int (lsL (fB p u) 251 0))) h) : Cl M_X0_leastFitting h.1 h.2.1 [.ref q, .int (nI u)] h Q := by
  refine Cl.of pl_X0 (Nat.le_of_ble_eq_true rfl) (by first | exact Nat.le_refl _ | omega) (by first | exact Nat.le_refl _ | omega) ?_
  refine Rn.iconst dX0_leastFitting_0 rfl ic_0 ?_
  refine Rn.istore_n dX0_leastFitting_1 rfl (Nat.le_of_ble_eq_true rfl) ?_
  have hloop : ∀ (m : Nat) (n i : Nat), n < m → i + n = 251 → lsL (fB p u) n i = lsL (fB p u) 251 0 → Rn (M_X0_leastFitting, none, h.1, h.2.1) Q 2 [(0, .ref q), (1, .int (nI u)), (2, .int (nI i))] [] h := by
    intro m
    induction m with
    | zero => intro n i h0 h1 h2; exact absurd h0 (Nat.not_lt_zero _)
    | succ m ih =>
      intro n i h0 h1 h2
      refine Rn.iload_n dX0_leastFitting_2 rfl rfl ?_
      refine Rn.sipush dX0_leastFitting_3 rfl sp_251 ?_
      refine Rn.icmp_geN (tgt := 26) dX0_leastFitting_6 rfl (by decide) (by omega) (by omega) (fun c6 => ?_) (fun c6 => ?_)
      · obtain rfl : n = 0 := by omega
        refine Rn.bipush dX0_leastFitting_26 rfl bp_m9 ?_
        refine Rn.iret dX0_leastFitting_28 rfl rfl rfl ?_
        exact rn_fin k (by rw [← h2]; rfl) rfl
      · obtain ⟨n, rfl⟩ : ∃ n', n = n' + 1 := ⟨n - 1, by omega⟩
        refine Rn.aload_n dX0_leastFitting_9 rfl rfl ?_
        refine Rn.iload_n dX0_leastFitting_10 rfl rfl ?_
        refine Rn.iload_n dX0_leastFitting_11 rfl rfl ?_
        refine Rn.callV (as := [_, _]) v_X0_fitOf l_X0_58 ⟨Nat.le_of_ble_eq_true rfl, Nat.le_of_ble_eq_true rfl⟩ dX0_leastFitting_12 rfl rfl (Nat.le_of_ble_eq_true rfl) H.1 H.2.2.1 rfl (Nat.le_refl _) (Nat.le_refl _) (t_X0_fitOf H O (by omega) (by omega) ?_) 
        have hfl := fitP_le p u i
        have hl30 := (O.us hu).2.2.2.2.2
        refine Rn.if_leN (tgt := 20) dX0_leastFitting_15 rfl (by decide) (by omega) (fun c15 => ?_) (fun c15 => ?_)
        · refine Rn.iincN dX0_leastFitting_20 rfl rfl (Nat.le_of_ble_eq_true rfl) ?_
          refine Rn.goto (tgt := 2) dX0_leastFitting_23 (by decide) ?_
          exact Rn.pick [1, 2, 0] rfl (ih n (i + 1) (by omega) (by omega) (by rw [← h2]; exact (if_neg (by unfold fB; rw [decide_eq_false (by omega)]; decide)).symm))
        · refine Rn.iload_n dX0_leastFitting_18 rfl rfl ?_
          refine Rn.iret dX0_leastFitting_19 rfl rfl rfl ?_
          exact rn_fin k (by rw [← h2]; exact congrArg (fun z => some (Value.int z)) (if_pos (by unfold fB; exact decide_eq_true (by omega))).symm) rfl
  exact Rn.pick [1, 2, 0] rfl (hloop 252 251 0 (by omega) (by omega) rfl)
def ftd (p : Nat → Nat) (v u : Nat) : Bool := decide (u < p 24) && fB p u v
theorem ftd_hn {p : Nat → Nat} {v u : Nat} (h : ¬ u < p 24) : ftd p v u = false := by unfold ftd; rw [decide_eq_false h]; rfl
theorem ftd_n {p : Nat → Nat} {v u : Nat} (h : fitP p u v = 0) : ftd p v u = false := by unfold ftd fB; rw [h, Bool.and_comm]; rfl
theorem ftd_y {p : Nat → Nat} {v u : Nat} (h : u < p 24) (h2 : ¬ fitP p u v = 0) : ftd p v u = true := by unfold ftd fB; rw [decide_eq_true h, decide_eq_true (show 0 < fitP p u v by omega)]; rfl
theorem cnt_y {f : Nat → Bool} {n : Nat} (h : f n = true) : cnt f (n + 1) = cnt f n + 1 := by show cnt f n + (if f n then 1 else 0) = _; rw [h]; rfl
theorem cnt_n {f : Nat → Bool} {n : Nat} (h : f n = false) : cnt f (n + 1) = cnt f n := by show cnt f n + (if f n then 1 else 0) = _; rw [h]; rfl
theorem t_X0_countFitted {h : rHp} {Q : Option Value → rHp → Prop} {q : Nat} {p : Nat → Nat} (H : Hl h q p) (O : OKp p) {v : Nat} (hv : v < 251) (k : Q (some (.int (nI (cnt (ftd p v) 4)))) h) : Cl M_X0_countFitted h.1 h.2.1 [.ref q, .int (nI v)] h Q := by
  refine Cl.of pl_X0 (Nat.le_of_ble_eq_true rfl) (by first | exact Nat.le_refl _ | omega) (by first | exact Nat.le_refl _ | omega) ?_
  refine Rn.iconst dX0_countFitted_0 rfl ic_0 ?_
  refine Rn.istore_n dX0_countFitted_1 rfl (Nat.le_of_ble_eq_true rfl) ?_
  refine Rn.iconst dX0_countFitted_2 rfl ic_0 ?_
  refine Rn.istore_n dX0_countFitted_3 rfl (Nat.le_of_ble_eq_true rfl) ?_
  have hloop : ∀ (m : Nat) (i : Nat), 4 - i < m → i ≤ 4 → Rn (M_X0_countFitted, none, h.1, h.2.1) Q 4 [(0, .ref q), (1, .int (nI v)), (2, .int (nI (cnt (ftd p v) i))), (3, .int (nI i))] [] h := by
    intro m
    induction m with
    | zero => intro i h0 h1; exact absurd h0 (Nat.not_lt_zero _)
    | succ m ih =>
      intro i h0 h1
      have hc := cnt_le (ftd p v) i
      refine Rn.iload_n dX0_countFitted_4 rfl rfl ?_
      refine Rn.iconst dX0_countFitted_5 rfl ic_4 ?_
      refine Rn.icmp_geN (tgt := 35) dX0_countFitted_6 rfl (by decide) (by omega) (by omega) (fun c6 => ?_) (fun c6 => ?_)
      · refine Rn.iload_n dX0_countFitted_35 rfl rfl ?_
        refine Rn.iret dX0_countFitted_36 rfl rfl rfl ?_
        rw [show i = 4 by omega]
        exact k
      · refine Rn.aload_n dX0_countFitted_9 rfl rfl ?_
        refine Rn.iload_n dX0_countFitted_10 rfl rfl ?_
        refine Rn.callV (as := [_]) v_X0_has l_X0_42 ⟨Nat.le_of_ble_eq_true rfl, Nat.le_of_ble_eq_true rfl⟩ dX0_countFitted_11 rfl rfl (Nat.le_of_ble_eq_true rfl) H.1 H.2.2.1 rfl (Nat.le_refl _) (Nat.le_refl _) (t_X0_has H O.1 ?_) 
        refine Rn.top (congrArg bi (hasB_nI (by omega))) ?_
        refine Rn.if_eqB (tgt := 29) dX0_countFitted_14 rfl (by decide) (fun c14 => ?_) (fun c14 => ?_)
        · refine Rn.iincN dX0_countFitted_29 rfl rfl (Nat.le_of_ble_eq_true rfl) ?_
          refine Rn.goto (tgt := 4) dX0_countFitted_32 (by decide) ?_
          have ec := cnt_n (ftd_hn (v := v) (of_decide_eq_false c14))
          have := ih (i + 1) (by omega) (by omega)
          rw [ec] at this
          exact Rn.pick [1, 2, 3, 0] rfl (this)
        · refine Rn.aload_n dX0_countFitted_17 rfl rfl ?_
          refine Rn.iload_n dX0_countFitted_18 rfl rfl ?_
          refine Rn.iload_n dX0_countFitted_19 rfl rfl ?_
          refine Rn.callV (as := [_, _]) v_X0_fitOf l_X0_58 ⟨Nat.le_of_ble_eq_true rfl, Nat.le_of_ble_eq_true rfl⟩ dX0_countFitted_20 rfl rfl (Nat.le_of_ble_eq_true rfl) H.1 H.2.2.1 rfl (Nat.le_refl _) (Nat.le_refl _) (t_X0_fitOf H O (by omega) (by omega) ?_) 
          have hfl := fitP_le p i v
          have hl30 := (O.us (show i < 4 by omega)).2.2.2.2.2
          refine Rn.if_leN (tgt := 29) dX0_countFitted_23 rfl (by decide) (by omega) (fun c23 => ?_) (fun c23 => ?_)
          · refine Rn.iincN dX0_countFitted_29 rfl rfl (Nat.le_of_ble_eq_true rfl) ?_
            refine Rn.goto (tgt := 4) dX0_countFitted_32 (by decide) ?_
            have ec := cnt_n (ftd_n c23)
            have := ih (i + 1) (by omega) (by omega)
            rw [ec] at this
            exact Rn.pick [1, 2, 3, 0] rfl (this)
          · refine Rn.iincN dX0_countFitted_26 rfl rfl (Nat.le_of_ble_eq_true rfl) ?_
            refine Rn.iincN dX0_countFitted_29 rfl rfl (Nat.le_of_ble_eq_true rfl) ?_
            refine Rn.goto (tgt := 4) dX0_countFitted_32 (by decide) ?_
            have ec := cnt_y (ftd_y (of_decide_eq_true c14) c23)
            have := ih (i + 1) (by omega) (by omega)
            rw [ec] at this
            exact Rn.pick [2, 3, 1, 0] rfl (this)
  exact Rn.pick [2, 3, 1, 0] rfl (hloop 5 0 (by omega) (by omega))
theorem t_X0_userIn {h : rHp} {Q : Option Value → rHp → Prop} {a : Nat} (ha : a < 100000) (k : Q (some (.int (nI (a / 1000)))) h) : Cl M_X0_userIn h.1 h.2.1 [.int (nI a)] h Q := by
  refine Cl.of pl_X0 (Nat.le_of_ble_eq_true rfl) (by first | exact Nat.le_refl _ | omega) (by first | exact Nat.le_refl _ | omega) ?_
  refine Rn.iload_n dX0_userIn_0 rfl rfl ?_
  refine Rn.sipush dX0_userIn_1 rfl sp_1000 ?_
  refine Rn.idivN dX0_userIn_4 rfl (by omega) (by omega) (by omega) ?_
  refine Rn.iret dX0_userIn_5 rfl rfl rfl ?_
  exact k
theorem t_X0_numberIn {h : rHp} {Q : Option Value → rHp → Prop} {a : Nat} (ha : a < 100000) (k : Q (some (.int (nI (a % 1000)))) h) : Cl M_X0_numberIn h.1 h.2.1 [.int (nI a)] h Q := by
  refine Cl.of pl_X0 (Nat.le_of_ble_eq_true rfl) (by first | exact Nat.le_refl _ | omega) (by first | exact Nat.le_refl _ | omega) ?_
  refine Rn.iload_n dX0_numberIn_0 rfl rfl ?_
  refine Rn.sipush dX0_numberIn_1 rfl sp_1000 ?_
  refine Rn.iremN dX0_numberIn_4 rfl (by omega) (by omega) (by omega) ?_
  refine Rn.iret dX0_numberIn_5 rfl rfl rfl ?_
  exact k
theorem hdI_neg {p : Nat → Nat} {x : Int32} (h : hasB (p 27) x = false) : hdI p x = -9 := by unfold hdI; rw [h]; rfl
theorem hdI_y {p : Nat → Nat} {i : Nat} (h : i < p 27) (hi : i < 2147483648) : hdI p (nI i) = nI (p (28 + i)) := by unfold hdI; rw [hasB_nI hi, decide_eq_true h, if_pos rfl, nI_clamp hi]
theorem hasB_lt8 {m : Nat} {x : Int32} (hm : m ≤ 8) (h : nI 8 ≤ x) : hasB m x = false := by
  unfold hasB
  rw [Int32.le_iff_toInt_le, nI_toInt (by omega)] at h
  exact decide_eq_false (fun z => by omega)
theorem t_X0_heardAt {h : rHp} {Q : Option Value → rHp → Prop} {q : Nat} {p : Nat → Nat} (H : Hl h q p) (O : OKp p) {x : Int32} (k : Q (some (.int (hdI p x))) h) : Cl M_X0_heardAt h.1 h.2.1 [.ref q, .int x] h Q := by
  refine Cl.of pl_X0 (Nat.le_of_ble_eq_true rfl) (by first | exact Nat.le_refl _ | omega) (by first | exact Nat.le_refl _ | omega) ?_
  refine Rn.iload_n dX0_heardAt_0 rfl rfl ?_
  refine Rn.if_lt (tgt := 24) dX0_heardAt_1 rfl (by decide) (fun c1 => ?_) (fun c1 => ?_)
  · refine Rn.iconst dX0_heardAt_24 rfl ic_0 ?_
    refine Rn.istore_n dX0_heardAt_25 rfl (Nat.le_of_ble_eq_true rfl) ?_
    refine Rn.iload_n dX0_heardAt_26 rfl rfl ?_
    refine Rn.if_eqN (tgt := 41) dX0_heardAt_27 rfl (by decide) (by omega) (fun c27 => ?_) (fun c27 => ?_)
    · refine Rn.bipush dX0_heardAt_41 rfl bp_m9 ?_
      refine Rn.iret dX0_heardAt_43 rfl rfl rfl ?_
      first | exact rn_fin k (by rw [hdI_neg (hasB_neg c1)]) rfl | exact rn_fin k (by rw [hdI_neg (hasB_big c11 (by omega))]) rfl | exact rn_fin k (by rw [hdI_neg (hasB_lt8 (by omega) c17)]) rfl | exact rn_fin k (by rw [hdI_y hi (by omega)]) rfl
    · first | omega | exact False.elim c27
  · refine Rn.iload_n dX0_heardAt_4 rfl rfl ?_
    refine Rn.aload_n dX0_heardAt_5 rfl rfl ?_
    refine Rn.getf f_X0_11 dX0_heardAt_6 rfl H.1 H.2.2.1 rfl ?_
    refine Rn.iconst dX0_heardAt_9 rfl ic_3 ?_
    refine Rn.ialdN dX0_heardAt_10 rfl H.2.1 H.2.2.2 (by omega) (by omega) ?_
    refine Rn.top (cl_3 p) ?_
    have h8 := O.2.2.2.1
    refine Rn.icmp_ge (tgt := 24) dX0_heardAt_11 rfl (by decide) (fun c11 => ?_) (fun c11 => ?_)
    · refine Rn.iconst dX0_heardAt_24 rfl ic_0 ?_
      refine Rn.istore_n dX0_heardAt_25 rfl (Nat.le_of_ble_eq_true rfl) ?_
      refine Rn.iload_n dX0_heardAt_26 rfl rfl ?_
      refine Rn.if_eqN (tgt := 41) dX0_heardAt_27 rfl (by decide) (by omega) (fun c27 => ?_) (fun c27 => ?_)
      · refine Rn.bipush dX0_heardAt_41 rfl bp_m9 ?_
        refine Rn.iret dX0_heardAt_43 rfl rfl rfl ?_
        first | exact rn_fin k (by rw [hdI_neg (hasB_neg c1)]) rfl | exact rn_fin k (by rw [hdI_neg (hasB_big c11 (by omega))]) rfl | exact rn_fin k (by rw [hdI_neg (hasB_lt8 (by omega) c17)]) rfl | exact rn_fin k (by rw [hdI_y hi (by omega)]) rfl
      · first | omega | exact False.elim c27
    · refine Rn.iload_n dX0_heardAt_14 rfl rfl ?_
      refine Rn.bipush dX0_heardAt_15 rfl bp_8 ?_
      refine Rn.icmp_ge (tgt := 24) dX0_heardAt_17 rfl (by decide) (fun c17 => ?_) (fun c17 => ?_)
      · refine Rn.iconst dX0_heardAt_24 rfl ic_0 ?_
        refine Rn.istore_n dX0_heardAt_25 rfl (Nat.le_of_ble_eq_true rfl) ?_
        refine Rn.iload_n dX0_heardAt_26 rfl rfl ?_
        refine Rn.if_eqN (tgt := 41) dX0_heardAt_27 rfl (by decide) (by omega) (fun c27 => ?_) (fun c27 => ?_)
        · refine Rn.bipush dX0_heardAt_41 rfl bp_m9 ?_
          refine Rn.iret dX0_heardAt_43 rfl rfl rfl ?_
          first | exact rn_fin k (by rw [hdI_neg (hasB_neg c1)]) rfl | exact rn_fin k (by rw [hdI_neg (hasB_big c11 (by omega))]) rfl | exact rn_fin k (by rw [hdI_neg (hasB_lt8 (by omega) c17)]) rfl | exact rn_fin k (by rw [hdI_y hi (by omega)]) rfl
        · first | omega | exact False.elim c27
      · obtain ⟨i, hi, rfl⟩ := hasB_of (hasB_ok c1 c11 (by omega))
        refine Rn.iconst dX0_heardAt_20 rfl ic_1 ?_
        refine Rn.goto (tgt := 25) dX0_heardAt_21 (by decide) ?_
        refine Rn.istore_n dX0_heardAt_25 rfl (Nat.le_of_ble_eq_true rfl) ?_
        refine Rn.iload_n dX0_heardAt_26 rfl rfl ?_
        refine Rn.if_eqN (tgt := 41) dX0_heardAt_27 rfl (by decide) (by omega) (fun c27 => ?_) (fun c27 => ?_)
        · first | omega | exact False.elim c27
        · refine Rn.aload_n dX0_heardAt_30 rfl rfl ?_
          refine Rn.getf f_X0_11 dX0_heardAt_31 rfl H.1 H.2.2.1 rfl ?_
          refine Rn.iconst dX0_heardAt_34 rfl ic_4 ?_
          refine Rn.iload_n dX0_heardAt_35 rfl rfl ?_
          refine Rn.iaddN dX0_heardAt_36 rfl ?_
          refine Rn.ialdN dX0_heardAt_37 rfl H.2.1 H.2.2.2 (by omega) (by omega) ?_
          refine Rn.top (cl_hd p (by omega)) ?_
          refine Rn.goto (tgt := 43) dX0_heardAt_38 (by decide) ?_
          refine Rn.iret dX0_heardAt_43 rfl rfl rfl ?_
          first | exact rn_fin k (by rw [hdI_neg (hasB_neg c1)]) rfl | exact rn_fin k (by rw [hdI_neg (hasB_big c11 (by omega))]) rfl | exact rn_fin k (by rw [hdI_neg (hasB_lt8 (by omega) c17)]) rfl | exact rn_fin k (by rw [hdI_y hi (by omega)]) rfl
