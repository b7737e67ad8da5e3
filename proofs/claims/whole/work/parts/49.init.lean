/-! ===== the objects are made ===== -/
section RAB
variable {K : rK} {Q : Option Value → rHp → Prop} {pc : Nat} {lv : List (Nat × Value)} {st : List Value} {h : rHp}
theorem Rn.abs {o n0 : Nat} {c c' : rCell} (ho : o < h.1) (k : ∀ h' : rHp, h'.1 = h.1 + 1 → h'.2.1 = h.2.1 + n0 → h'.2.2 o = c' → h'.2.2 h.1 = c → (∀ i, i < h.1 → i ≠ o → h'.2.2 i = h.2.2 i) → Rn K Q pc lv st h') : Rn K Q pc lv st (hs (hn h n0 c) o c') :=
  k _ rfl rfl (hs_eq _ _ _) ((hs_ne _ _ (by omega)).trans (if_pos rfl)) (fun i h1 h2 => (hs_ne _ _ h2).trans (if_neg (by omega)))
theorem Rn.abs0 {o : Nat} {c' : rCell} (k : ∀ h' : rHp, h'.1 = h.1 → h'.2.1 = h.2.1 → h'.2.2 o = c' → (∀ i, i ≠ o → h'.2.2 i = h.2.2 i) → Rn K Q pc lv st h') : Rn K Q pc lv st (hs h o c') :=
  k _ rfl rfl (hs_eq _ _ _) (fun i h2 => hs_ne _ _ h2)
theorem Rn.absN {n0 : Nat} {c : rCell} (k : ∀ h' : rHp, h'.1 = h.1 + 1 → h'.2.1 = h.2.1 + n0 → h'.2.2 h.1 = c → (∀ i, i < h.1 → h'.2.2 i = h.2.2 i) → Rn K Q pc lv st h') : Rn K Q pc lv st (hn h n0 c) :=
  k _ rfl rfl (if_pos rfl) (fun i h1 => if_neg (by omega))
end RAB
theorem hn_o {h : rHp} {k o : Nat} {c c0 : rCell} (hlt : o < h.1) (e : h.2.2 o = c0) : (hn h k c).2.2 o = c0 := (if_neg (by omega)).trans e
def pz : Nat → Nat := fun i => if i = 26 then 1 else 0
theorem pg_z : (fun _ => 0 : Nat → Int32) = pg pz := by
  funext i
  unfold pg pz
  split
  · split
    · next h => subst h; rfl
    · rfl
  · rfl
theorem cl_z : (fun _ => 0 : Nat → Int32) = cl pz := by
  funext i
  unfold cl
  rw [← pg_z]
  split
  · rfl
  · split <;> rfl
theorem na_z : (fun _ => 0 : Nat → Int32) = na (fun _ => 0) := rfl
theorem t_X3_init {h : rHp} {Q : Option Value → rHp → Prop} (e1 : h.1 = 2) (e2 : h.2.1 = 9) (ho : h.2.2 1 = .inr (.inr (3, [.null, .int 0, .int 0]))) (k : ∀ h' : rHp, h'.1 = 3 → h'.2.1 = 89 → h'.2.2 1 = .inr (.inr (3, [.ref 2, .int (nI 0), .int (nI 0)])) → h'.2.2 2 = .inl (80, fun _ => 0) → (∀ i, i < 1 → h'.2.2 i = h.2.2 i) → Q none h') : Cl M_X3_init 3 89 [.ref 1] h Q := by
  refine Cl.of pl_X3 (Nat.le_of_ble_eq_true rfl) (by omega) (by omega) ?_
  refine Rn.aload_n dX3_init_0 rfl rfl ?_
  refine Rn.oinit l_X3_3 w_obj2 w_obj3 (Nat.le_of_ble_eq_true rfl) (Nat.le_of_ble_eq_true rfl) dX3_init_1 rfl ?_
  refine Rn.aload_n dX3_init_4 rfl rfl ?_
  refine Rn.bipush dX3_init_5 rfl bp_80 ?_
  refine Rn.newi (n0 := 80) dX3_init_7 rfl rfl (by decide) w_arI (by rw [e1]; exact Nat.le_of_ble_eq_true rfl) (by rw [e2]; exact Nat.le_of_ble_eq_true rfl) ?_
  refine Rn.putf p_X3_11 (fun _ => rfl) dX3_init_9 rfl (hn_o (by omega) ho) (by show 1 < h.1 + 1; omega) (fun g => ⟨rfl, rfl⟩) (Nat.le_of_ble_eq_true rfl) ?_
  refine Rn.abs (by omega) (fun h1 a1 b1 c1 d1 f1 => ?_)
  rw [e1] at a1 c1 d1 f1
  rw [e2] at b1
  have r1 := fun i (hi : i < 1) => (f1 i (by omega) (by omega)).trans ((fun i (_ : i < 1) => (rfl : h.2.2 i = h.2.2 i)) i hi)
  refine Rn.aload_n dX3_init_12 rfl rfl ?_
  refine Rn.iconst dX3_init_13 rfl ic_0 ?_
  refine Rn.putf p_X3_15 (fun h => by cases h) dX3_init_14 rfl c1 (by omega) (fun g => ⟨rfl, rfl⟩) (Nat.le_of_ble_eq_true rfl) ?_
  refine Rn.abs0 (fun h2 a2 b2 c2 f2 => ?_)
  rw [a1] at a2
  rw [b1] at b2
  have A2_2 := (f2 2 (by omega)).trans d1
  have r2 := fun i (hi : i < 1) => (f2 i (by omega)).trans (r1 i hi)
  refine Rn.aload_n dX3_init_17 rfl rfl ?_
  refine Rn.iconst dX3_init_18 rfl ic_0 ?_
  refine Rn.putf p_X3_19 (fun h => by cases h) dX3_init_19 rfl c2 (by omega) (fun g => ⟨rfl, rfl⟩) (Nat.le_of_ble_eq_true rfl) ?_
  refine Rn.abs0 (fun h3 a3 b3 c3 f3 => ?_)
  rw [a2] at a3
  rw [b2] at b3
  have A2_3 := (f3 2 (by omega)).trans A2_2
  have r3 := fun i (hi : i < 1) => (f3 i (by omega)).trans (r2 i hi)
  refine Rn.ret dX3_init_22 rfl a3 b3 ?_
  exact k _ a3 b3 c3 A2_3 r3
theorem t_X0_init3 {h : rHp} {Q : Option Value → rHp → Prop} (e1 : h.1 = 4) (e2 : h.2.1 = 90) (ho : h.2.2 3 = .inr (.inr (0, [.null]))) (k : ∀ h' : rHp, h'.1 = 5 → h'.2.1 = 126 → Hl h' 3 p0 → (∀ i, i < 3 → h'.2.2 i = h.2.2 i) → Q none h') : Cl M_X0_init 5 126 [.ref 3] h Q := by
  refine Cl.of pl_X0 (Nat.le_of_ble_eq_true rfl) (by omega) (by omega) ?_
  refine Rn.aload_n dX0_init_0 rfl rfl ?_
  refine Rn.oinit l_X0_5 w_obj2 w_obj3 (Nat.le_of_ble_eq_true rfl) (Nat.le_of_ble_eq_true rfl) dX0_init_1 rfl ?_
  refine Rn.aload_n dX0_init_4 rfl rfl ?_
  refine Rn.bipush dX0_init_5 rfl bp_36 ?_
  refine Rn.newi (n0 := 36) dX0_init_7 rfl rfl (by decide) w_arI (by rw [e1]; exact Nat.le_of_ble_eq_true rfl) (by rw [e2]; exact Nat.le_of_ble_eq_true rfl) ?_
  refine Rn.putf p_X0_11 (fun _ => rfl) dX0_init_9 rfl (hn_o (by omega) ho) (by show 3 < h.1 + 1; omega) (fun g => ⟨rfl, rfl⟩) (Nat.le_of_ble_eq_true rfl) ?_
  refine Rn.abs (by omega) (fun h1 a1 b1 c1 d1 f1 => ?_)
  rw [e1] at a1 c1 d1 f1
  rw [e2] at b1
  have r1 := fun i (hi : i < 3) => (f1 i (by omega) (by omega)).trans ((fun i (_ : i < 3) => (rfl : h.2.2 i = h.2.2 i)) i hi)
  refine Rn.aload_n dX0_init_12 rfl rfl ?_
  have H0 : Hl h1 3 pz := ⟨c1, d1.trans (by rw [cl_z]), by omega, by omega⟩
  refine Rn.callV (as := []) v_X0_clear l_X0_15 ⟨Nat.le_of_ble_eq_true rfl, Nat.le_of_ble_eq_true rfl⟩ dX0_init_13 rfl rfl (Nat.le_of_ble_eq_true rfl) c1 (by omega) rfl (Nat.le_of_eq a1) (Nat.le_of_eq b1) (t_X0_clear H0 ?_)
  refine Rn.ret dX0_init_16 rfl a1 b1 ?_
  exact k _ a1 b1 (H0.put p0) (fun i hi => (hs_ne _ _ (by omega)).trans (r1 i hi))
theorem t_X0_init5 {h : rHp} {Q : Option Value → rHp → Prop} (e1 : h.1 = 6) (e2 : h.2.1 = 127) (ho : h.2.2 5 = .inr (.inr (0, [.null]))) (k : ∀ h' : rHp, h'.1 = 7 → h'.2.1 = 163 → Hl h' 5 p0 → (∀ i, i < 5 → h'.2.2 i = h.2.2 i) → Q none h') : Cl M_X0_init 7 163 [.ref 5] h Q := by
  refine Cl.of pl_X0 (Nat.le_of_ble_eq_true rfl) (by omega) (by omega) ?_
  refine Rn.aload_n dX0_init_0 rfl rfl ?_
  refine Rn.oinit l_X0_5 w_obj2 w_obj3 (Nat.le_of_ble_eq_true rfl) (Nat.le_of_ble_eq_true rfl) dX0_init_1 rfl ?_
  refine Rn.aload_n dX0_init_4 rfl rfl ?_
  refine Rn.bipush dX0_init_5 rfl bp_36 ?_
  refine Rn.newi (n0 := 36) dX0_init_7 rfl rfl (by decide) w_arI (by rw [e1]; exact Nat.le_of_ble_eq_true rfl) (by rw [e2]; exact Nat.le_of_ble_eq_true rfl) ?_
  refine Rn.putf p_X0_11 (fun _ => rfl) dX0_init_9 rfl (hn_o (by omega) ho) (by show 5 < h.1 + 1; omega) (fun g => ⟨rfl, rfl⟩) (Nat.le_of_ble_eq_true rfl) ?_
  refine Rn.abs (by omega) (fun h1 a1 b1 c1 d1 f1 => ?_)
  rw [e1] at a1 c1 d1 f1
  rw [e2] at b1
  have r1 := fun i (hi : i < 5) => (f1 i (by omega) (by omega)).trans ((fun i (_ : i < 5) => (rfl : h.2.2 i = h.2.2 i)) i hi)
  refine Rn.aload_n dX0_init_12 rfl rfl ?_
  have H0 : Hl h1 5 pz := ⟨c1, d1.trans (by rw [cl_z]), by omega, by omega⟩
  refine Rn.callV (as := []) v_X0_clear l_X0_15 ⟨Nat.le_of_ble_eq_true rfl, Nat.le_of_ble_eq_true rfl⟩ dX0_init_13 rfl rfl (Nat.le_of_ble_eq_true rfl) c1 (by omega) rfl (Nat.le_of_eq a1) (Nat.le_of_eq b1) (t_X0_clear H0 ?_)
  refine Rn.ret dX0_init_16 rfl a1 b1 ?_
  exact k _ a1 b1 (H0.put p0) (fun i hi => (hs_ne _ _ (by omega)).trans (r1 i hi))
theorem t_X2_init {h : rHp} {Q : Option Value → rHp → Prop} (e1 : h.1 = 8) (e2 : h.2.1 = 168) (ho : h.2.2 7 = .inr (.inr (2, [.null, .null, .null, .int 0, .int 0]))) (k : ∀ h' : rHp, h'.1 = 11 → h'.2.1 = 746 → h'.2.2 7 = .inr (.inr (2, [.ref 8, .ref 9, .ref 10, .int (nI 0), .int (nI 0)])) → h'.2.2 8 = .inl (504, fun _ => 0) → h'.2.2 9 = .inl (72, fun _ => 0) → h'.2.2 10 = .inr (.inl (2, fun _ => 0)) → (∀ i, i < 7 → h'.2.2 i = h.2.2 i) → Q none h') : Cl M_X2_init 11 746 [.ref 7] h Q := by
  refine Cl.of pl_X2 (Nat.le_of_ble_eq_true rfl) (by omega) (by omega) ?_
  refine Rn.aload_n dX2_init_0 rfl rfl ?_
  refine Rn.oinit l_X2_1 w_obj2 w_obj3 (Nat.le_of_ble_eq_true rfl) (Nat.le_of_ble_eq_true rfl) dX2_init_1 rfl ?_
  refine Rn.aload_n dX2_init_4 rfl rfl ?_
  refine Rn.sipush dX2_init_5 rfl sp_504 ?_
  refine Rn.newi (n0 := 504) dX2_init_8 rfl rfl (by decide) w_arI (by rw [e1]; exact Nat.le_of_ble_eq_true rfl) (by rw [e2]; exact Nat.le_of_ble_eq_true rfl) ?_
  refine Rn.putf p_X2_11 (fun _ => rfl) dX2_init_10 rfl (hn_o (by omega) ho) (by show 7 < h.1 + 1; omega) (fun g => ⟨rfl, rfl⟩) (Nat.le_of_ble_eq_true rfl) ?_
  refine Rn.abs (by omega) (fun h1 a1 b1 c1 d1 f1 => ?_)
  rw [e1] at a1 c1 d1 f1
  rw [e2] at b1
  have r1 := fun i (hi : i < 7) => (f1 i (by omega) (by omega)).trans ((fun i (_ : i < 7) => (rfl : h.2.2 i = h.2.2 i)) i hi)
  refine Rn.aload_n dX2_init_13 rfl rfl ?_
  refine Rn.bipush dX2_init_14 rfl bp_72 ?_
  refine Rn.newi (n0 := 72) dX2_init_16 rfl rfl (by decide) w_arI (by rw [a1]; exact Nat.le_of_ble_eq_true rfl) (by rw [b1]; exact Nat.le_of_ble_eq_true rfl) ?_
  refine Rn.putf p_X2_15 (fun _ => rfl) dX2_init_18 rfl (hn_o (by omega) c1) (by show 7 < h1.1 + 1; omega) (fun g => ⟨rfl, rfl⟩) (Nat.le_of_ble_eq_true rfl) ?_
  refine Rn.abs (by omega) (fun h2 a2 b2 c2 d2 f2 => ?_)
  rw [a1] at a2 c2 d2 f2
  rw [b1] at b2
  have A8_2 := (f2 8 (by omega) (by omega)).trans d1
  have r2 := fun i (hi : i < 7) => (f2 i (by omega) (by omega)).trans (r1 i hi)
  refine Rn.aload_n dX2_init_21 rfl rfl ?_
  refine Rn.iconst dX2_init_22 rfl ic_2 ?_
  refine Rn.newz (n0 := 2) dX2_init_23 rfl rfl (by decide) w_arZ (by rw [a2]; exact Nat.le_of_ble_eq_true rfl) (by rw [b2]; exact Nat.le_of_ble_eq_true rfl) ?_
  refine Rn.putf p_X2_18 (fun _ => rfl) dX2_init_25 rfl (hn_o (by omega) c2) (by show 7 < h2.1 + 1; omega) (fun g => ⟨rfl, rfl⟩) (Nat.le_of_ble_eq_true rfl) ?_
  refine Rn.abs (by omega) (fun h3 a3 b3 c3 d3 f3 => ?_)
  rw [a2] at a3 c3 d3 f3
  rw [b2] at b3
  have A8_3 := (f3 8 (by omega) (by omega)).trans A8_2
  have A9_3 := (f3 9 (by omega) (by omega)).trans d2
  have r3 := fun i (hi : i < 7) => (f3 i (by omega) (by omega)).trans (r2 i hi)
  refine Rn.aload_n dX2_init_28 rfl rfl ?_
  refine Rn.iconst dX2_init_29 rfl ic_0 ?_
  refine Rn.putf p_X2_22 (fun h => by cases h) dX2_init_30 rfl c3 (by omega) (fun g => ⟨rfl, rfl⟩) (Nat.le_of_ble_eq_true rfl) ?_
  refine Rn.abs0 (fun h4 a4 b4 c4 f4 => ?_)
  rw [a3] at a4
  rw [b3] at b4
  have A8_4 := (f4 8 (by omega)).trans A8_3
  have A9_4 := (f4 9 (by omega)).trans A9_3
  have A10_4 := (f4 10 (by omega)).trans d3
  have r4 := fun i (hi : i < 7) => (f4 i (by omega)).trans (r3 i hi)
  refine Rn.aload_n dX2_init_33 rfl rfl ?_
  refine Rn.iconst dX2_init_34 rfl ic_0 ?_
  refine Rn.putf p_X2_26 (fun h => by cases h) dX2_init_35 rfl c4 (by omega) (fun g => ⟨rfl, rfl⟩) (Nat.le_of_ble_eq_true rfl) ?_
  refine Rn.abs0 (fun h5 a5 b5 c5 f5 => ?_)
  rw [a4] at a5
  rw [b4] at b5
  have A8_5 := (f5 8 (by omega)).trans A8_4
  have A9_5 := (f5 9 (by omega)).trans A9_4
  have A10_5 := (f5 10 (by omega)).trans A10_4
  have r5 := fun i (hi : i < 7) => (f5 i (by omega)).trans (r4 i hi)
  refine Rn.ret dX2_init_38 rfl a5 b5 ?_
  exact k _ a5 b5 c5 A8_5 A9_5 A10_5 r5
theorem t_X1_init {h : rHp} {Q : Option Value → rHp → Prop} (e1 : h.1 = 12) (e2 : h.2.1 = 750) (ho : h.2.2 11 = .inr (.inr (1, [.null, .null, .null, .int 0]))) (k : ∀ h' : rHp, h'.1 = 15 → h'.2.1 = 768 → h'.2.2 11 = .inr (.inr (1, [.ref 12, .ref 13, .ref 14, .int (nI 0)])) → h'.2.2 12 = .inl (6, fun _ => 0) → h'.2.2 13 = .inl (6, fun _ => 0) → h'.2.2 14 = .inl (6, fun _ => 0) → (∀ i, i < 11 → h'.2.2 i = h.2.2 i) → Q none h') : Cl M_X1_init 15 768 [.ref 11] h Q := by
  refine Cl.of pl_X1 (Nat.le_of_ble_eq_true rfl) (by omega) (by omega) ?_
  refine Rn.aload_n dX1_init_0 rfl rfl ?_
  refine Rn.oinit l_X1_3 w_obj2 w_obj3 (Nat.le_of_ble_eq_true rfl) (Nat.le_of_ble_eq_true rfl) dX1_init_1 rfl ?_
  refine Rn.aload_n dX1_init_4 rfl rfl ?_
  refine Rn.bipush dX1_init_5 rfl bp_6 ?_
  refine Rn.newi (n0 := 6) dX1_init_7 rfl rfl (by decide) w_arI (by rw [e1]; exact Nat.le_of_ble_eq_true rfl) (by rw [e2]; exact Nat.le_of_ble_eq_true rfl) ?_
  refine Rn.putf p_X1_11 (fun _ => rfl) dX1_init_9 rfl (hn_o (by omega) ho) (by show 11 < h.1 + 1; omega) (fun g => ⟨rfl, rfl⟩) (Nat.le_of_ble_eq_true rfl) ?_
  refine Rn.abs (by omega) (fun h1 a1 b1 c1 d1 f1 => ?_)
  rw [e1] at a1 c1 d1 f1
  rw [e2] at b1
  have r1 := fun i (hi : i < 11) => (f1 i (by omega) (by omega)).trans ((fun i (_ : i < 11) => (rfl : h.2.2 i = h.2.2 i)) i hi)
  refine Rn.aload_n dX1_init_12 rfl rfl ?_
  refine Rn.bipush dX1_init_13 rfl bp_6 ?_
  refine Rn.newi (n0 := 6) dX1_init_15 rfl rfl (by decide) w_arI (by rw [a1]; exact Nat.le_of_ble_eq_true rfl) (by rw [b1]; exact Nat.le_of_ble_eq_true rfl) ?_
  refine Rn.putf p_X1_15 (fun _ => rfl) dX1_init_17 rfl (hn_o (by omega) c1) (by show 11 < h1.1 + 1; omega) (fun g => ⟨rfl, rfl⟩) (Nat.le_of_ble_eq_true rfl) ?_
  refine Rn.abs (by omega) (fun h2 a2 b2 c2 d2 f2 => ?_)
  rw [a1] at a2 c2 d2 f2
  rw [b1] at b2
  have A12_2 := (f2 12 (by omega) (by omega)).trans d1
  have r2 := fun i (hi : i < 11) => (f2 i (by omega) (by omega)).trans (r1 i hi)
  refine Rn.aload_n dX1_init_20 rfl rfl ?_
  refine Rn.bipush dX1_init_21 rfl bp_6 ?_
  refine Rn.newi (n0 := 6) dX1_init_23 rfl rfl (by decide) w_arI (by rw [a2]; exact Nat.le_of_ble_eq_true rfl) (by rw [b2]; exact Nat.le_of_ble_eq_true rfl) ?_
  refine Rn.putf p_X1_18 (fun _ => rfl) dX1_init_25 rfl (hn_o (by omega) c2) (by show 11 < h2.1 + 1; omega) (fun g => ⟨rfl, rfl⟩) (Nat.le_of_ble_eq_true rfl) ?_
  refine Rn.abs (by omega) (fun h3 a3 b3 c3 d3 f3 => ?_)
  rw [a2] at a3 c3 d3 f3
  rw [b2] at b3
  have A12_3 := (f3 12 (by omega) (by omega)).trans A12_2
  have A13_3 := (f3 13 (by omega) (by omega)).trans d2
  have r3 := fun i (hi : i < 11) => (f3 i (by omega) (by omega)).trans (r2 i hi)
  refine Rn.aload_n dX1_init_28 rfl rfl ?_
  refine Rn.iconst dX1_init_29 rfl ic_0 ?_
  refine Rn.putf p_X1_21 (fun h => by cases h) dX1_init_30 rfl c3 (by omega) (fun g => ⟨rfl, rfl⟩) (Nat.le_of_ble_eq_true rfl) ?_
  refine Rn.abs0 (fun h4 a4 b4 c4 f4 => ?_)
  rw [a3] at a4
  rw [b3] at b4
  have A12_4 := (f4 12 (by omega)).trans A12_3
  have A13_4 := (f4 13 (by omega)).trans A13_3
  have A14_4 := (f4 14 (by omega)).trans d3
  have r4 := fun i (hi : i < 11) => (f4 i (by omega)).trans (r3 i hi)
  refine Rn.ret dX1_init_33 rfl a4 b4 ?_
  exact k _ a4 b4 c4 A12_4 A13_4 A14_4 r4
theorem t_X5_init {h : rHp} {Q : Option Value → rHp → Prop} (e1 : h.1 = 16) (e2 : h.2.1 = 787) (ho : h.2.2 15 = .inr (.inr (5, [.int 0, .null, .int 0, .int 0, .null, .null, .int 0, .null, .null, .null, .int 0, .null, .null, .int 0, .null, .null, .null, .long 0, .null]))) (k : ∀ h' : rHp, h'.1 = 28 → h'.2.1 = 1902 → MI h' (fun _ => 0) 0 p0 (fun _ _ => 0) 0 (fun _ _ => 0) (fun _ => false) (fun _ => 0) (fun _ => 0) (fun _ => 0) 0 (lN 0) → (∀ i, i < 15 → h'.2.2 i = h.2.2 i) → Q none h') : Cl M_X5_init 28 1902 [.ref 15] h Q := by
  refine Cl.of pl_X5 (Nat.le_of_ble_eq_true rfl) (by omega) (by omega) ?_
  refine Rn.aload_n dX5_init_0 rfl rfl ?_
  refine Rn.oinit l_X5_1 w_obj2 w_obj3 (Nat.le_of_ble_eq_true rfl) (Nat.le_of_ble_eq_true rfl) dX5_init_1 rfl ?_
  refine Rn.aload_n dX5_init_4 rfl rfl ?_
  refine Rn.bipush dX5_init_5 rfl bp_80 ?_
  refine Rn.newi (n0 := 80) dX5_init_7 rfl rfl (by decide) w_arI (by rw [e1]; exact Nat.le_of_ble_eq_true rfl) (by rw [e2]; exact Nat.le_of_ble_eq_true rfl) ?_
  refine Rn.putf p_X5_7 (fun _ => rfl) dX5_init_9 rfl (hn_o (by omega) ho) (by show 15 < h.1 + 1; omega) (fun g => ⟨rfl, rfl⟩) (Nat.le_of_ble_eq_true rfl) ?_
  refine Rn.abs (by omega) (fun h1 a1 b1 c1 d1 f1 => ?_)
  rw [e1] at a1 c1 d1 f1
  rw [e2] at b1
  have r1 := fun i (hi : i < 15) => (f1 i (by omega) (by omega)).trans ((fun i (_ : i < 15) => (rfl : h.2.2 i = h.2.2 i)) i hi)
  refine Rn.aload_n dX5_init_12 rfl rfl ?_
  refine Rn.bipush dX5_init_13 rfl bp_36 ?_
  refine Rn.newi (n0 := 36) dX5_init_15 rfl rfl (by decide) w_arI (by rw [a1]; exact Nat.le_of_ble_eq_true rfl) (by rw [b1]; exact Nat.le_of_ble_eq_true rfl) ?_
  refine Rn.putf p_X5_13 (fun _ => rfl) dX5_init_17 rfl (hn_o (by omega) c1) (by show 15 < h1.1 + 1; omega) (fun g => ⟨rfl, rfl⟩) (Nat.le_of_ble_eq_true rfl) ?_
  refine Rn.abs (by omega) (fun h2 a2 b2 c2 d2 f2 => ?_)
  rw [a1] at a2 c2 d2 f2
  rw [b1] at b2
  have A16_2 := (f2 16 (by omega) (by omega)).trans d1
  have r2 := fun i (hi : i < 15) => (f2 i (by omega) (by omega)).trans (r1 i hi)
  refine Rn.aload_n dX5_init_20 rfl rfl ?_
  refine Rn.bipush dX5_init_21 rfl bp_80 ?_
  refine Rn.newi (n0 := 80) dX5_init_23 rfl rfl (by decide) w_arI (by rw [a2]; exact Nat.le_of_ble_eq_true rfl) (by rw [b2]; exact Nat.le_of_ble_eq_true rfl) ?_
  refine Rn.putf p_X5_16 (fun _ => rfl) dX5_init_25 rfl (hn_o (by omega) c2) (by show 15 < h2.1 + 1; omega) (fun g => ⟨rfl, rfl⟩) (Nat.le_of_ble_eq_true rfl) ?_
  refine Rn.abs (by omega) (fun h3 a3 b3 c3 d3 f3 => ?_)
  rw [a2] at a3 c3 d3 f3
  rw [b2] at b3
  have A16_3 := (f3 16 (by omega) (by omega)).trans A16_2
  have A17_3 := (f3 17 (by omega) (by omega)).trans d2
  have r3 := fun i (hi : i < 15) => (f3 i (by omega) (by omega)).trans (r2 i hi)
  refine Rn.aload_n dX5_init_28 rfl rfl ?_
  refine Rn.bipush dX5_init_29 rfl bp_36 ?_
  refine Rn.newi (n0 := 36) dX5_init_31 rfl rfl (by decide) w_arI (by rw [a3]; exact Nat.le_of_ble_eq_true rfl) (by rw [b3]; exact Nat.le_of_ble_eq_true rfl) ?_
  refine Rn.putf p_X5_19 (fun _ => rfl) dX5_init_33 rfl (hn_o (by omega) c3) (by show 15 < h3.1 + 1; omega) (fun g => ⟨rfl, rfl⟩) (Nat.le_of_ble_eq_true rfl) ?_
  refine Rn.abs (by omega) (fun h4 a4 b4 c4 d4 f4 => ?_)
  rw [a3] at a4 c4 d4 f4
  rw [b3] at b4
  have A16_4 := (f4 16 (by omega) (by omega)).trans A16_3
  have A17_4 := (f4 17 (by omega) (by omega)).trans A17_3
  have A18_4 := (f4 18 (by omega) (by omega)).trans d3
  have r4 := fun i (hi : i < 15) => (f4 i (by omega) (by omega)).trans (r3 i hi)
  refine Rn.aload_n dX5_init_36 rfl rfl ?_
  refine Rn.bipush dX5_init_37 rfl bp_36 ?_
  refine Rn.newi (n0 := 36) dX5_init_39 rfl rfl (by decide) w_arI (by rw [a4]; exact Nat.le_of_ble_eq_true rfl) (by rw [b4]; exact Nat.le_of_ble_eq_true rfl) ?_
  refine Rn.putf p_X5_22 (fun _ => rfl) dX5_init_41 rfl (hn_o (by omega) c4) (by show 15 < h4.1 + 1; omega) (fun g => ⟨rfl, rfl⟩) (Nat.le_of_ble_eq_true rfl) ?_
  refine Rn.abs (by omega) (fun h5 a5 b5 c5 d5 f5 => ?_)
  rw [a4] at a5 c5 d5 f5
  rw [b4] at b5
  have A16_5 := (f5 16 (by omega) (by omega)).trans A16_4
  have A17_5 := (f5 17 (by omega) (by omega)).trans A17_4
  have A18_5 := (f5 18 (by omega) (by omega)).trans A18_4
  have A19_5 := (f5 19 (by omega) (by omega)).trans d4
  have r5 := fun i (hi : i < 15) => (f5 i (by omega) (by omega)).trans (r4 i hi)
  refine Rn.aload_n dX5_init_44 rfl rfl ?_
  refine Rn.sipush dX5_init_45 rfl sp_504 ?_
  refine Rn.newi (n0 := 504) dX5_init_48 rfl rfl (by decide) w_arI (by rw [a5]; exact Nat.le_of_ble_eq_true rfl) (by rw [b5]; exact Nat.le_of_ble_eq_true rfl) ?_
  refine Rn.putf p_X5_25 (fun _ => rfl) dX5_init_50 rfl (hn_o (by omega) c5) (by show 15 < h5.1 + 1; omega) (fun g => ⟨rfl, rfl⟩) (Nat.le_of_ble_eq_true rfl) ?_
  refine Rn.abs (by omega) (fun h6 a6 b6 c6 d6 f6 => ?_)
  rw [a5] at a6 c6 d6 f6
  rw [b5] at b6
  have A16_6 := (f6 16 (by omega) (by omega)).trans A16_5
  have A17_6 := (f6 17 (by omega) (by omega)).trans A17_5
  have A18_6 := (f6 18 (by omega) (by omega)).trans A18_5
  have A19_6 := (f6 19 (by omega) (by omega)).trans A19_5
  have A20_6 := (f6 20 (by omega) (by omega)).trans d5
  have r6 := fun i (hi : i < 15) => (f6 i (by omega) (by omega)).trans (r5 i hi)
  refine Rn.aload_n dX5_init_53 rfl rfl ?_
  refine Rn.bipush dX5_init_54 rfl bp_72 ?_
  refine Rn.newi (n0 := 72) dX5_init_56 rfl rfl (by decide) w_arI (by rw [a6]; exact Nat.le_of_ble_eq_true rfl) (by rw [b6]; exact Nat.le_of_ble_eq_true rfl) ?_
  refine Rn.putf p_X5_28 (fun _ => rfl) dX5_init_58 rfl (hn_o (by omega) c6) (by show 15 < h6.1 + 1; omega) (fun g => ⟨rfl, rfl⟩) (Nat.le_of_ble_eq_true rfl) ?_
  refine Rn.abs (by omega) (fun h7 a7 b7 c7 d7 f7 => ?_)
  rw [a6] at a7 c7 d7 f7
  rw [b6] at b7
  have A16_7 := (f7 16 (by omega) (by omega)).trans A16_6
  have A17_7 := (f7 17 (by omega) (by omega)).trans A17_6
  have A18_7 := (f7 18 (by omega) (by omega)).trans A18_6
  have A19_7 := (f7 19 (by omega) (by omega)).trans A19_6
  have A20_7 := (f7 20 (by omega) (by omega)).trans A20_6
  have A21_7 := (f7 21 (by omega) (by omega)).trans d6
  have r7 := fun i (hi : i < 15) => (f7 i (by omega) (by omega)).trans (r6 i hi)
  refine Rn.aload_n dX5_init_61 rfl rfl ?_
  refine Rn.iconst dX5_init_62 rfl ic_2 ?_
  refine Rn.newz (n0 := 2) dX5_init_63 rfl rfl (by decide) w_arZ (by rw [a7]; exact Nat.le_of_ble_eq_true rfl) (by rw [b7]; exact Nat.le_of_ble_eq_true rfl) ?_
  refine Rn.putf p_X5_31 (fun _ => rfl) dX5_init_65 rfl (hn_o (by omega) c7) (by show 15 < h7.1 + 1; omega) (fun g => ⟨rfl, rfl⟩) (Nat.le_of_ble_eq_true rfl) ?_
  refine Rn.abs (by omega) (fun h8 a8 b8 c8 d8 f8 => ?_)
  rw [a7] at a8 c8 d8 f8
  rw [b7] at b8
  have A16_8 := (f8 16 (by omega) (by omega)).trans A16_7
  have A17_8 := (f8 17 (by omega) (by omega)).trans A17_7
  have A18_8 := (f8 18 (by omega) (by omega)).trans A18_7
  have A19_8 := (f8 19 (by omega) (by omega)).trans A19_7
  have A20_8 := (f8 20 (by omega) (by omega)).trans A20_7
  have A21_8 := (f8 21 (by omega) (by omega)).trans A21_7
  have A22_8 := (f8 22 (by omega) (by omega)).trans d7
  have r8 := fun i (hi : i < 15) => (f8 i (by omega) (by omega)).trans (r7 i hi)
  refine Rn.aload_n dX5_init_68 rfl rfl ?_
  refine Rn.bipush dX5_init_69 rfl bp_6 ?_
  refine Rn.newi (n0 := 6) dX5_init_71 rfl rfl (by decide) w_arI (by rw [a8]; exact Nat.le_of_ble_eq_true rfl) (by rw [b8]; exact Nat.le_of_ble_eq_true rfl) ?_
  refine Rn.putf p_X5_35 (fun _ => rfl) dX5_init_73 rfl (hn_o (by omega) c8) (by show 15 < h8.1 + 1; omega) (fun g => ⟨rfl, rfl⟩) (Nat.le_of_ble_eq_true rfl) ?_
  refine Rn.abs (by omega) (fun h9 a9 b9 c9 d9 f9 => ?_)
  rw [a8] at a9 c9 d9 f9
  rw [b8] at b9
  have A16_9 := (f9 16 (by omega) (by omega)).trans A16_8
  have A17_9 := (f9 17 (by omega) (by omega)).trans A17_8
  have A18_9 := (f9 18 (by omega) (by omega)).trans A18_8
  have A19_9 := (f9 19 (by omega) (by omega)).trans A19_8
  have A20_9 := (f9 20 (by omega) (by omega)).trans A20_8
  have A21_9 := (f9 21 (by omega) (by omega)).trans A21_8
  have A22_9 := (f9 22 (by omega) (by omega)).trans A22_8
  have A23_9 := (f9 23 (by omega) (by omega)).trans d8
  have r9 := fun i (hi : i < 15) => (f9 i (by omega) (by omega)).trans (r8 i hi)
  refine Rn.aload_n dX5_init_76 rfl rfl ?_
  refine Rn.bipush dX5_init_77 rfl bp_6 ?_
  refine Rn.newi (n0 := 6) dX5_init_79 rfl rfl (by decide) w_arI (by rw [a9]; exact Nat.le_of_ble_eq_true rfl) (by rw [b9]; exact Nat.le_of_ble_eq_true rfl) ?_
  refine Rn.putf p_X5_38 (fun _ => rfl) dX5_init_81 rfl (hn_o (by omega) c9) (by show 15 < h9.1 + 1; omega) (fun g => ⟨rfl, rfl⟩) (Nat.le_of_ble_eq_true rfl) ?_
  refine Rn.abs (by omega) (fun h10 a10 b10 c10 d10 f10 => ?_)
  rw [a9] at a10 c10 d10 f10
  rw [b9] at b10
  have A16_10 := (f10 16 (by omega) (by omega)).trans A16_9
  have A17_10 := (f10 17 (by omega) (by omega)).trans A17_9
  have A18_10 := (f10 18 (by omega) (by omega)).trans A18_9
  have A19_10 := (f10 19 (by omega) (by omega)).trans A19_9
  have A20_10 := (f10 20 (by omega) (by omega)).trans A20_9
  have A21_10 := (f10 21 (by omega) (by omega)).trans A21_9
  have A22_10 := (f10 22 (by omega) (by omega)).trans A22_9
  have A23_10 := (f10 23 (by omega) (by omega)).trans A23_9
  have A24_10 := (f10 24 (by omega) (by omega)).trans d9
  have r10 := fun i (hi : i < 15) => (f10 i (by omega) (by omega)).trans (r9 i hi)
  refine Rn.aload_n dX5_init_84 rfl rfl ?_
  refine Rn.bipush dX5_init_85 rfl bp_6 ?_
  refine Rn.newi (n0 := 6) dX5_init_87 rfl rfl (by decide) w_arI (by rw [a10]; exact Nat.le_of_ble_eq_true rfl) (by rw [b10]; exact Nat.le_of_ble_eq_true rfl) ?_
  refine Rn.putf p_X5_41 (fun _ => rfl) dX5_init_89 rfl (hn_o (by omega) c10) (by show 15 < h10.1 + 1; omega) (fun g => ⟨rfl, rfl⟩) (Nat.le_of_ble_eq_true rfl) ?_
  refine Rn.abs (by omega) (fun h11 a11 b11 c11 d11 f11 => ?_)
  rw [a10] at a11 c11 d11 f11
  rw [b10] at b11
  have A16_11 := (f11 16 (by omega) (by omega)).trans A16_10
  have A17_11 := (f11 17 (by omega) (by omega)).trans A17_10
  have A18_11 := (f11 18 (by omega) (by omega)).trans A18_10
  have A19_11 := (f11 19 (by omega) (by omega)).trans A19_10
  have A20_11 := (f11 20 (by omega) (by omega)).trans A20_10
  have A21_11 := (f11 21 (by omega) (by omega)).trans A21_10
  have A22_11 := (f11 22 (by omega) (by omega)).trans A22_10
  have A23_11 := (f11 23 (by omega) (by omega)).trans A23_10
  have A24_11 := (f11 24 (by omega) (by omega)).trans A24_10
  have A25_11 := (f11 25 (by omega) (by omega)).trans d10
  have r11 := fun i (hi : i < 15) => (f11 i (by omega) (by omega)).trans (r10 i hi)
  refine Rn.aload_n dX5_init_92 rfl rfl ?_
  refine Rn.sipush dX5_init_93 rfl sp_251 ?_
  refine Rn.newi (n0 := 251) dX5_init_96 rfl rfl (by decide) w_arI (by rw [a11]; exact Nat.le_of_ble_eq_true rfl) (by rw [b11]; exact Nat.le_of_ble_eq_true rfl) ?_
  refine Rn.putf p_X5_44 (fun _ => rfl) dX5_init_98 rfl (hn_o (by omega) c11) (by show 15 < h11.1 + 1; omega) (fun g => ⟨rfl, rfl⟩) (Nat.le_of_ble_eq_true rfl) ?_
  refine Rn.abs (by omega) (fun h12 a12 b12 c12 d12 f12 => ?_)
  rw [a11] at a12 c12 d12 f12
  rw [b11] at b12
  have A16_12 := (f12 16 (by omega) (by omega)).trans A16_11
  have A17_12 := (f12 17 (by omega) (by omega)).trans A17_11
  have A18_12 := (f12 18 (by omega) (by omega)).trans A18_11
  have A19_12 := (f12 19 (by omega) (by omega)).trans A19_11
  have A20_12 := (f12 20 (by omega) (by omega)).trans A20_11
  have A21_12 := (f12 21 (by omega) (by omega)).trans A21_11
  have A22_12 := (f12 22 (by omega) (by omega)).trans A22_11
  have A23_12 := (f12 23 (by omega) (by omega)).trans A23_11
  have A24_12 := (f12 24 (by omega) (by omega)).trans A24_11
  have A25_12 := (f12 25 (by omega) (by omega)).trans A25_11
  have A26_12 := (f12 26 (by omega) (by omega)).trans d11
  have r12 := fun i (hi : i < 15) => (f12 i (by omega) (by omega)).trans (r11 i hi)
  refine Rn.aload_n dX5_init_101 rfl rfl ?_
  refine Rn.getf f_X5_19 dX5_init_102 rfl c12 (by omega) rfl ?_
  refine Rn.callS (as := [_]) s_X5_layFirst l_X5_47 ⟨Nat.le_of_ble_eq_true rfl, Nat.le_of_ble_eq_true rfl⟩ dX5_init_105 rfl rfl (Nat.le_of_ble_eq_true rfl) (Nat.le_of_eq a12) (Nat.le_of_eq b12) (t_X5_layFirst A19_12 (by omega) (fun _ _ => rfl) ?_)
  refine Rn.ret dX5_init_108 rfl a12 b12 ?_
  exact k _ a12 b12 ⟨0, 0, 0, pz, _, pz, _, _, _, _, ((hs_ne _ _ (by decide)).trans (c12.trans rfl)), ((hs_ne _ _ (by decide)).trans (A16_12.trans (by first | rfl | rw [pg_z]))), ((hs_ne _ _ (by decide)).trans (A17_12.trans (by first | rfl | rw [pg_z]))), ((hs_ne _ _ (by decide)).trans (A18_12.trans (by first | rfl | rw [pg_z]))), (hs_eq _ _ _), ((hs_ne _ _ (by decide)).trans (A20_12.trans (by first | rfl | rw [pg_z]))), ((hs_ne _ _ (by decide)).trans (A21_12.trans (by first | rfl | rw [pg_z]))), ((hs_ne _ _ (by decide)).trans (A22_12.trans (by first | rfl | rw [pg_z]))), ((hs_ne _ _ (by decide)).trans (A23_12.trans (by first | rfl | rw [pg_z]))), ((hs_ne _ _ (by decide)).trans (A24_12.trans (by first | rfl | rw [pg_z]))), ((hs_ne _ _ (by decide)).trans (A25_12.trans (by first | rfl | rw [pg_z]))), ((hs_ne _ _ (by decide)).trans (A26_12.trans (by first | rfl | rw [pg_z]))), ((hs_ne _ _ (by decide)).trans (d12.trans (by first | rfl | rw [pg_z]))), (by show 27 < h12.1; omega), ⟨by omega, fun j hj => absurd hj (Nat.not_lt_zero _)⟩, fun s hs => ⟨rfl, fun h => by cases h⟩⟩ (fun i hi => (hs_ne _ _ (by omega)).trans (r12 i hi))
theorem t_X4_init {h : rHp} {Q : Option Value → rHp → Prop} (e1 : h.1 = 1) (e2 : h.2.1 = 6) (ho : h.2.2 0 = .inr (.inr (4, [.null, .null, .null, .null, .null, .long 0]))) (k : ∀ h' : rHp, h'.1 = 15 → h'.2.1 = 768 → CI h' (fun _ => 0) 0 p0 (fun _ _ => 0) 0 (fun _ _ => 0) (fun _ => false) (fun _ => 0) (fun _ => 0) (fun _ => 0) 0 (lN 0) → Q none h') : Cl M_X4_init 15 768 [.ref 0] h Q := by
  refine Cl.of pl_X4 (Nat.le_of_ble_eq_true rfl) (by omega) (by omega) ?_
  refine Rn.aload_n dX4_init_0 rfl rfl ?_
  refine Rn.oinit l_X4_1 w_obj2 w_obj3 (Nat.le_of_ble_eq_true rfl) (Nat.le_of_ble_eq_true rfl) dX4_init_1 rfl ?_
  refine Rn.aload_n dX4_init_4 rfl rfl ?_
  refine Rn.new c_X4_7 dX4_init_5 rfl (by rw [e1]; exact Nat.le_of_ble_eq_true rfl) (by rw [e2]; exact Nat.le_of_ble_eq_true rfl) ?_
  refine Rn.absN (fun h1 a1 b1 c1 f1 => ?_)
  rw [e1] at a1 c1 f1 ⊢
  rw [e2] at b1
  refine Rn.dup dX4_init_8 rfl rfl ?_
  refine Rn.callI (as := []) i_X3_init l_X4_9 ⟨Nat.le_of_ble_eq_true rfl, Nat.le_of_ble_eq_true rfl⟩ dX4_init_9 rfl rfl (Nat.le_of_ble_eq_true rfl) (Nat.le_of_ble_eq_true rfl) (Nat.le_of_ble_eq_true rfl) (t_X3_init a1 b1 c1 (fun h2 a2 b2 o2 x2_2 f2 => ?_))
  refine Rn.putf p_X4_10 (fun _ => rfl) dX4_init_12 rfl ((f2 0 (by omega)).trans ((f1 0 (by omega)).trans ho)) (by omega) (fun g => ⟨rfl, rfl⟩) (Nat.le_of_ble_eq_true rfl) ?_
  refine Rn.abs0 (fun h3 a3 b3 c3 f3 => ?_)
  rw [a2] at a3
  rw [b2] at b3
  have y3_1 := (f3 1 (by omega)).trans o2
  have y3_2 := (f3 2 (by omega)).trans x2_2
  refine Rn.aload_n dX4_init_15 rfl rfl ?_
  refine Rn.new c_X4_16 dX4_init_16 rfl (by rw [a3]; exact Nat.le_of_ble_eq_true rfl) (by rw [b3]; exact Nat.le_of_ble_eq_true rfl) ?_
  refine Rn.absN (fun h4 a4 b4 c4 f4 => ?_)
  rw [a3] at a4 c4 f4 ⊢
  rw [b3] at b4
  refine Rn.dup dX4_init_19 rfl rfl ?_
  refine Rn.callI (as := []) i_X0_init l_X4_18 ⟨Nat.le_of_ble_eq_true rfl, Nat.le_of_ble_eq_true rfl⟩ dX4_init_20 rfl rfl (Nat.le_of_ble_eq_true rfl) (Nat.le_of_ble_eq_true rfl) (Nat.le_of_ble_eq_true rfl) (t_X0_init3 a4 b4 c4 (fun h5 a5 b5 o5 f5 => ?_))
  refine Rn.putf p_X4_19 (fun _ => rfl) dX4_init_23 rfl ((f5 0 (by omega)).trans ((f4 0 (by omega)).trans c3)) (by omega) (fun g => ⟨rfl, rfl⟩) (Nat.le_of_ble_eq_true rfl) ?_
  refine Rn.abs0 (fun h6 a6 b6 c6 f6 => ?_)
  rw [a5] at a6
  rw [b5] at b6
  have y6_1 := (f6 1 (by omega)).trans ((f5 1 (by omega)).trans ((f4 1 (by omega)).trans y3_1))
  have y6_2 := (f6 2 (by omega)).trans ((f5 2 (by omega)).trans ((f4 2 (by omega)).trans y3_2))
  have y6_3 := (f6 3 (by omega)).trans o5.1
  have y6_4 := (f6 4 (by omega)).trans o5.2.1
  refine Rn.aload_n dX4_init_26 rfl rfl ?_
  refine Rn.new c_X4_16 dX4_init_27 rfl (by rw [a6]; exact Nat.le_of_ble_eq_true rfl) (by rw [b6]; exact Nat.le_of_ble_eq_true rfl) ?_
  refine Rn.absN (fun h7 a7 b7 c7 f7 => ?_)
  rw [a6] at a7 c7 f7 ⊢
  rw [b6] at b7
  refine Rn.dup dX4_init_30 rfl rfl ?_
  refine Rn.callI (as := []) i_X0_init l_X4_18 ⟨Nat.le_of_ble_eq_true rfl, Nat.le_of_ble_eq_true rfl⟩ dX4_init_31 rfl rfl (Nat.le_of_ble_eq_true rfl) (Nat.le_of_ble_eq_true rfl) (Nat.le_of_ble_eq_true rfl) (t_X0_init5 a7 b7 c7 (fun h8 a8 b8 o8 f8 => ?_))
  refine Rn.putf p_X4_23 (fun _ => rfl) dX4_init_34 rfl ((f8 0 (by omega)).trans ((f7 0 (by omega)).trans c6)) (by omega) (fun g => ⟨rfl, rfl⟩) (Nat.le_of_ble_eq_true rfl) ?_
  refine Rn.abs0 (fun h9 a9 b9 c9 f9 => ?_)
  rw [a8] at a9
  rw [b8] at b9
  have y9_1 := (f9 1 (by omega)).trans ((f8 1 (by omega)).trans ((f7 1 (by omega)).trans y6_1))
  have y9_2 := (f9 2 (by omega)).trans ((f8 2 (by omega)).trans ((f7 2 (by omega)).trans y6_2))
  have y9_3 := (f9 3 (by omega)).trans ((f8 3 (by omega)).trans ((f7 3 (by omega)).trans y6_3))
  have y9_4 := (f9 4 (by omega)).trans ((f8 4 (by omega)).trans ((f7 4 (by omega)).trans y6_4))
  have y9_5 := (f9 5 (by omega)).trans o8.1
  have y9_6 := (f9 6 (by omega)).trans o8.2.1
  refine Rn.aload_n dX4_init_37 rfl rfl ?_
  refine Rn.new c_X4_26 dX4_init_38 rfl (by rw [a9]; exact Nat.le_of_ble_eq_true rfl) (by rw [b9]; exact Nat.le_of_ble_eq_true rfl) ?_
  refine Rn.absN (fun h10 a10 b10 c10 f10 => ?_)
  rw [a9] at a10 c10 f10 ⊢
  rw [b9] at b10
  refine Rn.dup dX4_init_41 rfl rfl ?_
  refine Rn.callI (as := []) i_X2_init l_X4_28 ⟨Nat.le_of_ble_eq_true rfl, Nat.le_of_ble_eq_true rfl⟩ dX4_init_42 rfl rfl (Nat.le_of_ble_eq_true rfl) (Nat.le_of_ble_eq_true rfl) (Nat.le_of_ble_eq_true rfl) (t_X2_init a10 b10 c10 (fun h11 a11 b11 o11 x11_8 x11_9 x11_10 f11 => ?_))
  refine Rn.putf p_X4_29 (fun _ => rfl) dX4_init_45 rfl ((f11 0 (by omega)).trans ((f10 0 (by omega)).trans c9)) (by omega) (fun g => ⟨rfl, rfl⟩) (Nat.le_of_ble_eq_true rfl) ?_
  refine Rn.abs0 (fun h12 a12 b12 c12 f12 => ?_)
  rw [a11] at a12
  rw [b11] at b12
  have y12_1 := (f12 1 (by omega)).trans ((f11 1 (by omega)).trans ((f10 1 (by omega)).trans y9_1))
  have y12_2 := (f12 2 (by omega)).trans ((f11 2 (by omega)).trans ((f10 2 (by omega)).trans y9_2))
  have y12_3 := (f12 3 (by omega)).trans ((f11 3 (by omega)).trans ((f10 3 (by omega)).trans y9_3))
  have y12_4 := (f12 4 (by omega)).trans ((f11 4 (by omega)).trans ((f10 4 (by omega)).trans y9_4))
  have y12_5 := (f12 5 (by omega)).trans ((f11 5 (by omega)).trans ((f10 5 (by omega)).trans y9_5))
  have y12_6 := (f12 6 (by omega)).trans ((f11 6 (by omega)).trans ((f10 6 (by omega)).trans y9_6))
  have y12_7 := (f12 7 (by omega)).trans o11
  have y12_8 := (f12 8 (by omega)).trans x11_8
  have y12_9 := (f12 9 (by omega)).trans x11_9
  have y12_10 := (f12 10 (by omega)).trans x11_10
  refine Rn.aload_n dX4_init_48 rfl rfl ?_
  refine Rn.new c_X4_33 dX4_init_49 rfl (by rw [a12]; exact Nat.le_of_ble_eq_true rfl) (by rw [b12]; exact Nat.le_of_ble_eq_true rfl) ?_
  refine Rn.absN (fun h13 a13 b13 c13 f13 => ?_)
  rw [a12] at a13 c13 f13 ⊢
  rw [b12] at b13
  refine Rn.dup dX4_init_52 rfl rfl ?_
  refine Rn.callI (as := []) i_X1_init l_X4_35 ⟨Nat.le_of_ble_eq_true rfl, Nat.le_of_ble_eq_true rfl⟩ dX4_init_53 rfl rfl (Nat.le_of_ble_eq_true rfl) (Nat.le_of_ble_eq_true rfl) (Nat.le_of_ble_eq_true rfl) (t_X1_init a13 b13 c13 (fun h14 a14 b14 o14 x14_12 x14_13 x14_14 f14 => ?_))
  refine Rn.putf p_X4_36 (fun _ => rfl) dX4_init_56 rfl ((f14 0 (by omega)).trans ((f13 0 (by omega)).trans c12)) (by omega) (fun g => ⟨rfl, rfl⟩) (Nat.le_of_ble_eq_true rfl) ?_
  refine Rn.abs0 (fun h15 a15 b15 c15 f15 => ?_)
  rw [a14] at a15
  rw [b14] at b15
  have y15_1 := (f15 1 (by omega)).trans ((f14 1 (by omega)).trans ((f13 1 (by omega)).trans y12_1))
  have y15_2 := (f15 2 (by omega)).trans ((f14 2 (by omega)).trans ((f13 2 (by omega)).trans y12_2))
  have y15_3 := (f15 3 (by omega)).trans ((f14 3 (by omega)).trans ((f13 3 (by omega)).trans y12_3))
  have y15_4 := (f15 4 (by omega)).trans ((f14 4 (by omega)).trans ((f13 4 (by omega)).trans y12_4))
  have y15_5 := (f15 5 (by omega)).trans ((f14 5 (by omega)).trans ((f13 5 (by omega)).trans y12_5))
  have y15_6 := (f15 6 (by omega)).trans ((f14 6 (by omega)).trans ((f13 6 (by omega)).trans y12_6))
  have y15_7 := (f15 7 (by omega)).trans ((f14 7 (by omega)).trans ((f13 7 (by omega)).trans y12_7))
  have y15_8 := (f15 8 (by omega)).trans ((f14 8 (by omega)).trans ((f13 8 (by omega)).trans y12_8))
  have y15_9 := (f15 9 (by omega)).trans ((f14 9 (by omega)).trans ((f13 9 (by omega)).trans y12_9))
  have y15_10 := (f15 10 (by omega)).trans ((f14 10 (by omega)).trans ((f13 10 (by omega)).trans y12_10))
  have y15_11 := (f15 11 (by omega)).trans o14
  have y15_12 := (f15 12 (by omega)).trans x14_12
  have y15_13 := (f15 13 (by omega)).trans x14_13
  have y15_14 := (f15 14 (by omega)).trans x14_14
  refine Rn.aload_n dX4_init_59 rfl rfl ?_
  refine Rn.lconst dX4_init_60 rfl lc_0 ?_
  refine Rn.putf p_X4_40 (fun h => by cases h) dX4_init_61 rfl c15 (by omega) (fun g => ⟨rfl, rfl⟩) (Nat.le_of_ble_eq_true rfl) ?_
  refine Rn.abs0 (fun h16 a16 b16 c16 f16 => ?_)
  rw [a15] at a16
  rw [b15] at b16
  have y16_1 := (f16 1 (by omega)).trans y15_1
  have y16_2 := (f16 2 (by omega)).trans y15_2
  have y16_3 := (f16 3 (by omega)).trans y15_3
  have y16_4 := (f16 4 (by omega)).trans y15_4
  have y16_5 := (f16 5 (by omega)).trans y15_5
  have y16_6 := (f16 6 (by omega)).trans y15_6
  have y16_7 := (f16 7 (by omega)).trans y15_7
  have y16_8 := (f16 8 (by omega)).trans y15_8
  have y16_9 := (f16 9 (by omega)).trans y15_9
  have y16_10 := (f16 10 (by omega)).trans y15_10
  have y16_11 := (f16 11 (by omega)).trans y15_11
  have y16_12 := (f16 12 (by omega)).trans y15_12
  have y16_13 := (f16 13 (by omega)).trans y15_13
  have y16_14 := (f16 14 (by omega)).trans y15_14
  refine Rn.ret dX4_init_64 rfl a16 b16 ?_
  exact k _ a16 b16 ⟨0, p0, _, _, _, 0, ⟨c16, by omega⟩, ⟨y16_1, y16_2, by omega, by omega⟩, ⟨y16_3, y16_4, by omega, by omega⟩, ⟨y16_5, y16_6, by omega, by omega⟩, ⟨y16_7, y16_8, y16_9, y16_10, by omega⟩, ⟨y16_11, y16_12, y16_13, y16_14, by omega⟩, ⟨by omega, by omega, fun j hj => absurd hj (Nat.not_lt_zero _)⟩, fun s hs => ⟨rfl, fun h => by cases h⟩⟩
