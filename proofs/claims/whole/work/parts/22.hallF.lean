theorem lsr_0l (b : Nat) : lsr 0 b = b := rfl
theorem lsr_0r {a : Nat} : lsr a 0 = a := by unfold lsr; split <;> simp_all
theorem wi_min {a b : Nat} (ha : a < 100000) (hb : b < 100000) (h1 : ¬ a = 0) (h2 : ¬ b = 0) : (if wi b < wi a then wi b else wi a) = wi (lsr a b) := by
  obtain ⟨a, rfl⟩ : ∃ a', a = a' + 1 := ⟨a - 1, by omega⟩
  obtain ⟨b, rfl⟩ : ∃ b', b = b' + 1 := ⟨b - 1, by omega⟩
  rw [wi_s, wi_s]
  unfold lsr
  rw [if_neg h1, if_neg h2]
  by_cases hc : b < a
  · rw [if_pos ((nI_ltI (by omega) (by omega)).mpr hc), Nat.min_eq_right (by omega), wi_s]
  · rw [if_neg (fun z => hc ((nI_ltI (by omega) (by omega)).mp z)), Nat.min_eq_left (by omega), wi_s]
theorem lsr_le {a b n : Nat} (ha : a ≤ n) (hb : b ≤ n) : lsr a b ≤ n := by
  unfold lsr
  split
  · exact hb
  · split
    · exact ha
    · exact Nat.le_trans (Nat.min_le_left _ _) ha
theorem lfL_le (p : Nat → Nat) (u : Nat) : ∀ n x acc, x < 251 → acc ≤ 251 → lfL p u n x acc ≤ 251
  | 0, _, _, _, h => h
  | n + 1, x, acc, hx, h => by
    refine lfL_le p u n _ _ (nx_lt _ _) ?_
    split
    · exact lsr_le h (by omega)
    · exact h
theorem lfP_le (p : Nat → Nat) {u v : Nat} (hv : v < 251) : lfP p u v ≤ 251 := lfL_le p u 11 v 0 hv (by omega)
/-- the i-th that was heard, one more; 0: there is none -/
def hdN (p : Nat → Nat) (i : Nat) : Nat := if i < p 27 then p (28 + i) + 1 else 0
theorem hdI_N {p : Nat → Nat} {i : Nat} (hi : i < 2147483648) : hdI p (nI i) = wi (hdN p i) := by
  unfold hdN
  by_cases h : i < p 27
  · rw [hdI_y h hi, if_pos h, wi_s]
  · rw [if_neg h, hdI_neg (by rw [hasB_nI hi, decide_eq_false h])]; rfl
theorem hdN_lt {p : Nat → Nat} (O : OKp p) {i : Nat} (hi : i < 8) : p (28 + i) < 4000 := by have := O.2.2.2.2.2.1 i hi; omega
theorem stL_0 {p : Nat → Nat} {u n i acc : Nat} (h : ¬ (i < p 27 ∧ p (28 + i) / 1000 = u)) : stL p u (n + 1) i acc = stL p u n (i + 1) acc := by show stL p u n (i + 1) _ = _; rw [if_neg h]
theorem stL_1 {p : Nat → Nat} {u n i acc : Nat} (h : i < p 27 ∧ p (28 + i) / 1000 = u) : stL p u (n + 1) i acc = stL p u n (i + 1) (lsr acc (lfP p u (p (28 + i) % 1000))) := by show stL p u n (i + 1) _ = _; rw [if_pos h]
theorem wi_t {a : Nat} (ha : a < 100000) (h : ¬ wi a = -9) : ¬ a = 0 := fun z => h (by rw [z]; rfl)
theorem wi_f {a : Nat} (ha : a < 100000) (h : wi a = -9) : a = 0 := (wi_m9 ha).mp h
theorem t_X0_lesser {h : rHp} {Q : Option Value → rHp → Prop} {a b : Nat} (ha : a < 100000) (hb : b < 100000) (k : Q (some (.int (wi (lsr a b)))) h) : Cl M_X0_lesser h.1 h.2.1 [.int (wi a), .int (wi b)] h Q := by
  refine Cl.of pl_X0 (Nat.le_of_ble_eq_true rfl) (by first | exact Nat.le_refl _ | omega) (by first | exact Nat.le_refl _ | omega) ?_
  refine Rn.iload_n dX0_lesser_0 rfl rfl ?_
  refine Rn.bipush dX0_lesser_1 rfl bp_m9 ?_
  refine Rn.icmp_ne (tgt := 8) dX0_lesser_3 rfl (by decide) (fun c3 => ?_) (fun c3 => ?_)
  · refine Rn.iload_n dX0_lesser_8 rfl rfl ?_
    refine Rn.bipush dX0_lesser_9 rfl bp_m9 ?_
    refine Rn.icmp_ne (tgt := 18) dX0_lesser_11 rfl (by decide) (fun c11 => ?_) (fun c11 => ?_)
    · refine Rn.iload_n dX0_lesser_18 rfl rfl ?_
      refine Rn.iload_n dX0_lesser_19 rfl rfl ?_
      refine Rn.mmin l_X0_53 w_min2 w_min3 w_min4 (Nat.le_of_ble_eq_true rfl) (Nat.le_of_ble_eq_true rfl) dX0_lesser_20 rfl ?_
      refine Rn.iret dX0_lesser_23 rfl rfl rfl ?_
      first | exact rn_fin k (by rw [wi_f hb c11, lsr_0r]) rfl | exact rn_fin k (by rw [wi_min ha hb (wi_t ha c3) (wi_t hb c11)]) rfl
    · refine Rn.iload_n dX0_lesser_14 rfl rfl ?_
      refine Rn.goto (tgt := 23) dX0_lesser_15 (by decide) ?_
      refine Rn.iret dX0_lesser_23 rfl rfl rfl ?_
      first | exact rn_fin k (by rw [wi_f hb c11, lsr_0r]) rfl | exact rn_fin k (by rw [wi_min ha hb (wi_t ha c3) (wi_t hb c11)]) rfl
  · refine Rn.iload_n dX0_lesser_6 rfl rfl ?_
    refine Rn.iret dX0_lesser_7 rfl rfl rfl ?_
    exact rn_fin k (by rw [wi_f ha c3, lsr_0l]) rfl
theorem t_X0_leastFrom {h : rHp} {Q : Option Value → rHp → Prop} {q : Nat} {p : Nat → Nat} (H : Hl h q p) (O : OKp p) {u v : Nat} (hu : u < 4) (hv : v < 251) (k : Q (some (.int (wi (lfP p u v)))) h) : Cl M_X0_leastFrom h.1 h.2.1 [.ref q, .int (nI u), .int (nI v)] h Q := by
  refine Cl.of pl_X0 (Nat.le_of_ble_eq_true rfl) (by first | exact Nat.le_refl _ | omega) (by first | exact Nat.le_refl _ | omega) ?_
  refine Rn.bipush dX0_leastFrom_0 rfl bp_m9 ?_
  refine Rn.istore_n dX0_leastFrom_2 rfl (Nat.le_of_ble_eq_true rfl) ?_
  refine Rn.iload_n dX0_leastFrom_3 rfl rfl ?_
  refine Rn.istore dX0_leastFrom_4 rfl (Nat.le_of_ble_eq_true rfl) ?_
  refine Rn.iconst dX0_leastFrom_6 rfl ic_0 ?_
  refine Rn.istore dX0_leastFrom_7 rfl (Nat.le_of_ble_eq_true rfl) ?_
  have hloop : ∀ (m : Nat) (n kk x acc : Nat), n < m → kk + n = 11 → x < 251 → acc ≤ 251 → lfL p u n x acc = lfP p u v → Rn (M_X0_leastFrom, none, h.1, h.2.1) Q 9 [(0, .ref q), (1, .int (nI u)), (3, .int (wi acc)), (4, .int (nI x)), (5, .int (nI kk))] [] h := by
    intro m
    induction m with
    | zero => intro n kk x acc h0 h1 h2 h3 h4; exact absurd h0 (Nat.not_lt_zero _)
    | succ m ih =>
      intro n kk x acc h0 h1 h2 h3 h4
      refine Rn.iload dX0_leastFrom_9 rfl rfl ?_
      refine Rn.bipush dX0_leastFrom_11 rfl bp_10 ?_
      refine Rn.icmp_gtN (tgt := 53) dX0_leastFrom_13 rfl (by decide) (by omega) (by omega) (fun c13 => ?_) (fun c13 => ?_)
      · obtain rfl : n = 0 := by omega
        refine Rn.iload_n dX0_leastFrom_53 rfl rfl ?_
        refine Rn.iret dX0_leastFrom_54 rfl rfl rfl ?_
        exact rn_fin k (by rw [← h4]; rfl) rfl
      · obtain ⟨n, rfl⟩ : ∃ n', n = n' + 1 := ⟨n - 1, by omega⟩
        refine Rn.aload_n dX0_leastFrom_16 rfl rfl ?_
        refine Rn.iload_n dX0_leastFrom_17 rfl rfl ?_
        refine Rn.iload dX0_leastFrom_18 rfl rfl ?_
        refine Rn.callV (as := [_, _]) v_X0_fitOf l_X0_58 ⟨Nat.le_of_ble_eq_true rfl, Nat.le_of_ble_eq_true rfl⟩ dX0_leastFrom_20 rfl rfl (Nat.le_of_ble_eq_true rfl) H.1 H.2.2.1 rfl (Nat.le_refl _) (Nat.le_refl _) (t_X0_fitOf H O (by omega) (by omega) ?_) 
        have hfl := fitP_le p u x
        have hl30 := (O.us hu).2.2.2.2.2
        refine Rn.if_leN (tgt := 33) dX0_leastFrom_23 rfl (by decide) (by omega) (fun c23 => ?_) (fun c23 => ?_)
        · refine Rn.iload dX0_leastFrom_33 rfl rfl ?_
          refine Rn.aload_n dX0_leastFrom_35 rfl rfl ?_
          refine Rn.iload_n dX0_leastFrom_36 rfl rfl ?_
          refine Rn.iconst dX0_leastFrom_37 rfl ic_1 ?_
          refine Rn.callV (as := [_, _]) v_X0_of l_X0_46 ⟨Nat.le_of_ble_eq_true rfl, Nat.le_of_ble_eq_true rfl⟩ dX0_leastFrom_38 rfl rfl (Nat.le_of_ble_eq_true rfl) H.1 H.2.2.1 rfl (Nat.le_refl _) (Nat.le_refl _) (t_X0_of H (by omega) (by omega) ?_) 
          refine Rn.iconst dX0_leastFrom_41 rfl ic_1 ?_
          refine Rn.callSN (as := [_, _, _]) s_X4_stepsBehind n_X0_38 ⟨Nat.le_of_ble_eq_true rfl, Nat.le_of_ble_eq_true rfl⟩ dX0_leastFrom_42 rfl rfl (Nat.le_of_ble_eq_true rfl) (Nat.le_refl _) (Nat.le_refl _) (t_X4_stepsBehind h2 (O.us hu).2.1 (by omega) ?_)
          refine Rn.istore dX0_leastFrom_45 rfl (Nat.le_of_ble_eq_true rfl) ?_
          refine Rn.iincN dX0_leastFrom_47 rfl rfl (Nat.le_of_ble_eq_true rfl) ?_
          refine Rn.goto (tgt := 9) dX0_leastFrom_50 (by decide) ?_
          exact Rn.pick [2, 3, 4, 1, 0] rfl (ih n (kk + 1) _ acc (by omega) (by omega) (nx_lt _ _) h3 (by rw [← h4]; show _ = lfL p u n _ (if 0 < fitP p u x then lsr acc (x + 1) else acc); rw [if_neg (by omega)]; rfl))
        · refine Rn.iload_n dX0_leastFrom_26 rfl rfl ?_
          refine Rn.iload dX0_leastFrom_27 rfl rfl ?_
          refine Rn.callS (as := [_, _]) s_X0_lesser l_X0_83 ⟨Nat.le_of_ble_eq_true rfl, Nat.le_of_ble_eq_true rfl⟩ dX0_leastFrom_29 rfl rfl (Nat.le_of_ble_eq_true rfl) (Nat.le_refl _) (Nat.le_refl _) (t_X0_lesser (b := x + 1) (by omega) (by omega) ?_)
          refine Rn.istore_n dX0_leastFrom_32 rfl (Nat.le_of_ble_eq_true rfl) ?_
          refine Rn.iload dX0_leastFrom_33 rfl rfl ?_
          refine Rn.aload_n dX0_leastFrom_35 rfl rfl ?_
          refine Rn.iload_n dX0_leastFrom_36 rfl rfl ?_
          refine Rn.iconst dX0_leastFrom_37 rfl ic_1 ?_
          refine Rn.callV (as := [_, _]) v_X0_of l_X0_46 ⟨Nat.le_of_ble_eq_true rfl, Nat.le_of_ble_eq_true rfl⟩ dX0_leastFrom_38 rfl rfl (Nat.le_of_ble_eq_true rfl) H.1 H.2.2.1 rfl (Nat.le_refl _) (Nat.le_refl _) (t_X0_of H (by omega) (by omega) ?_) 
          refine Rn.iconst dX0_leastFrom_41 rfl ic_1 ?_
          refine Rn.callSN (as := [_, _, _]) s_X4_stepsBehind n_X0_38 ⟨Nat.le_of_ble_eq_true rfl, Nat.le_of_ble_eq_true rfl⟩ dX0_leastFrom_42 rfl rfl (Nat.le_of_ble_eq_true rfl) (Nat.le_refl _) (Nat.le_refl _) (t_X4_stepsBehind h2 (O.us hu).2.1 (by omega) ?_)
          refine Rn.istore dX0_leastFrom_45 rfl (Nat.le_of_ble_eq_true rfl) ?_
          refine Rn.iincN dX0_leastFrom_47 rfl rfl (Nat.le_of_ble_eq_true rfl) ?_
          refine Rn.goto (tgt := 9) dX0_leastFrom_50 (by decide) ?_
          exact Rn.pick [3, 4, 2, 1, 0] rfl (ih n (kk + 1) _ _ (by omega) (by omega) (nx_lt _ _) (lsr_le h3 (show x + 1 ≤ 251 by omega)) (by rw [← h4]; show _ = lfL p u n _ (if 0 < fitP p u x then lsr acc (x + 1) else acc); rw [if_pos (by omega)]; rfl))
  exact Rn.pick [3, 4, 2, 1, 0] rfl (hloop 12 11 0 v 0 (by omega) (by omega) hv (by omega) rfl)
theorem t_X0_leastStolen {h : rHp} {Q : Option Value → rHp → Prop} {q : Nat} {p : Nat → Nat} (H : Hl h q p) (O : OKp p) {u : Nat} (hu : u < 4) (k : Q (some (.int (wi (stL p u 8 0 0)))) h) : Cl M_X0_leastStolen h.1 h.2.1 [.ref q, .int (nI u)] h Q := by
  refine Cl.of pl_X0 (Nat.le_of_ble_eq_true rfl) (by first | exact Nat.le_refl _ | omega) (by first | exact Nat.le_refl _ | omega) ?_
  refine Rn.bipush dX0_leastStolen_0 rfl bp_m9 ?_
  refine Rn.istore_n dX0_leastStolen_2 rfl (Nat.le_of_ble_eq_true rfl) ?_
  refine Rn.iconst dX0_leastStolen_3 rfl ic_0 ?_
  refine Rn.istore_n dX0_leastStolen_4 rfl (Nat.le_of_ble_eq_true rfl) ?_
  have hloop : ∀ (m : Nat) (n i acc : Nat), n < m → i + n = 8 → acc ≤ 251 → stL p u n i acc = stL p u 8 0 0 → Rn (M_X0_leastStolen, none, h.1, h.2.1) Q 5 [(0, .ref q), (1, .int (nI u)), (2, .int (wi acc)), (3, .int (nI i))] [] h := by
    intro m
    induction m with
    | zero => intro n i acc h0 h1 h2 h3; exact absurd h0 (Nat.not_lt_zero _)
    | succ m ih =>
      intro n i acc h0 h1 h2 h3
      refine Rn.iload_n dX0_leastStolen_5 rfl rfl ?_
      refine Rn.bipush dX0_leastStolen_6 rfl bp_8 ?_
      refine Rn.icmp_geN (tgt := 55) dX0_leastStolen_8 rfl (by decide) (by omega) (by omega) (fun c8 => ?_) (fun c8 => ?_)
      · obtain rfl : n = 0 := by omega
        refine Rn.iload_n dX0_leastStolen_55 rfl rfl ?_
        refine Rn.iret dX0_leastStolen_56 rfl rfl rfl ?_
        exact rn_fin k (by rw [← h3]; rfl) rfl
      · obtain ⟨n, rfl⟩ : ∃ n', n = n' + 1 := ⟨n - 1, by omega⟩
        have hlt := hdN_lt O (show i < 8 by omega)
        have hdl : hdN p i < 100000 := by unfold hdN; split <;> omega
        refine Rn.aload_n dX0_leastStolen_11 rfl rfl ?_
        refine Rn.iload_n dX0_leastStolen_12 rfl rfl ?_
        refine Rn.callV (as := [_]) v_X0_heardAt l_X0_70 ⟨Nat.le_of_ble_eq_true rfl, Nat.le_of_ble_eq_true rfl⟩ dX0_leastStolen_13 rfl rfl (Nat.le_of_ble_eq_true rfl) H.1 H.2.2.1 rfl (Nat.le_refl _) (Nat.le_refl _) (t_X0_heardAt H O ?_) 
        refine Rn.top (hdI_N (by omega)) ?_
        refine Rn.istore dX0_leastStolen_16 rfl (Nat.le_of_ble_eq_true rfl) ?_
        refine Rn.iload dX0_leastStolen_18 rfl rfl ?_
        refine Rn.bipush dX0_leastStolen_20 rfl bp_m9 ?_
        refine Rn.icmp_eq (tgt := 49) dX0_leastStolen_22 rfl (by decide) (fun c22 => ?_) (fun c22 => ?_)
        · refine Rn.iincN dX0_leastStolen_49 rfl rfl (Nat.le_of_ble_eq_true rfl) ?_
          refine Rn.goto (tgt := 5) dX0_leastStolen_52 (by decide) ?_
          exact Rn.pick [2, 3, 4, 0] rfl (ih n (i + 1) acc (by omega) (by omega) h2 (by rw [← h3]; exact (stL_0 (fun z => by have e := wi_f hdl c22; unfold hdN at e; rw [if_pos z.1] at e; omega)).symm))
        · have hi27 : i < p 27 := Classical.byContradiction fun z => wi_t hdl c22 (if_neg z)
          have et : hdN p i = p (28 + i) + 1 := if_pos hi27
          rw [et, wi_s]
          refine Rn.iload dX0_leastStolen_25 rfl rfl ?_
          refine Rn.callS (as := [_]) s_X0_userIn l_X0_74 ⟨Nat.le_of_ble_eq_true rfl, Nat.le_of_ble_eq_true rfl⟩ dX0_leastStolen_27 rfl rfl (Nat.le_of_ble_eq_true rfl) (Nat.le_refl _) (Nat.le_refl _) (t_X0_userIn (by omega) ?_)
          refine Rn.iload_n dX0_leastStolen_30 rfl rfl ?_
          refine Rn.icmp_neN (tgt := 49) dX0_leastStolen_31 rfl (by decide) (by omega) (by omega) (fun c31 => ?_) (fun c31 => ?_)
          · refine Rn.iincN dX0_leastStolen_49 rfl rfl (Nat.le_of_ble_eq_true rfl) ?_
            refine Rn.goto (tgt := 5) dX0_leastStolen_52 (by decide) ?_
            exact Rn.pick [2, 3, 4, 0] rfl (ih n (i + 1) acc (by omega) (by omega) h2 (by rw [← h3]; exact (stL_0 (fun z => c31 z.2)).symm))
          · refine Rn.iload_n dX0_leastStolen_34 rfl rfl ?_
            refine Rn.aload_n dX0_leastStolen_35 rfl rfl ?_
            refine Rn.iload_n dX0_leastStolen_36 rfl rfl ?_
            refine Rn.iload dX0_leastStolen_37 rfl rfl ?_
            refine Rn.callS (as := [_]) s_X0_numberIn l_X0_77 ⟨Nat.le_of_ble_eq_true rfl, Nat.le_of_ble_eq_true rfl⟩ dX0_leastStolen_39 rfl rfl (Nat.le_of_ble_eq_true rfl) (Nat.le_refl _) (Nat.le_refl _) (t_X0_numberIn (by omega) ?_)
            refine Rn.callV (as := [_, _]) v_X0_leastFrom l_X0_80 ⟨Nat.le_of_ble_eq_true rfl, Nat.le_of_ble_eq_true rfl⟩ dX0_leastStolen_42 rfl rfl (Nat.le_of_ble_eq_true rfl) H.1 H.2.2.1 rfl (Nat.le_refl _) (Nat.le_refl _) (t_X0_leastFrom H O hu (O.2.2.2.2.2.1 i (by omega)).1 ?_) 
            refine Rn.callS (as := [_, _]) s_X0_lesser l_X0_83 ⟨Nat.le_of_ble_eq_true rfl, Nat.le_of_ble_eq_true rfl⟩ dX0_leastStolen_45 rfl rfl (Nat.le_of_ble_eq_true rfl) (Nat.le_refl _) (Nat.le_refl _) (t_X0_lesser (by omega) (Nat.lt_of_le_of_lt (lfP_le p (O.2.2.2.2.2.1 i (by omega)).1) (by omega)) ?_)
            refine Rn.istore_n dX0_leastStolen_48 rfl (Nat.le_of_ble_eq_true rfl) ?_
            refine Rn.iincN dX0_leastStolen_49 rfl rfl (Nat.le_of_ble_eq_true rfl) ?_
            refine Rn.goto (tgt := 5) dX0_leastStolen_52 (by decide) ?_
            exact Rn.pick [3, 4, 1, 0] rfl (ih n (i + 1) _ (by omega) (by omega) (lsr_le h2 (lfP_le p (O.2.2.2.2.2.1 i (by omega)).1)) (by rw [← h3]; exact (stL_1 ⟨hi27, c31⟩).symm))
  exact Rn.pick [2, 3, 1, 0] rfl (hloop 9 8 0 0 (by omega) (by omega) (by omega) rfl)
theorem t_X0_beginRow {h : rHp} {Q : Option Value → rHp → Prop} {q : Nat} {p : Nat → Nat} (H : Hl h q p) {u s t n : Nat} (hu : u < 4) (hs : s < 251) (ht : t < 251) (hn : n < 100000) (k : Q none (hp h q (bgP p u s t n))) : Cl M_X0_beginRow h.1 h.2.1 [.ref q, .int (nI u), .int (nI s), .int (nI t), .int (nI n)] h Q := by
  refine Cl.of pl_X0 (Nat.le_of_ble_eq_true rfl) (by first | exact Nat.le_refl _ | omega) (by first | exact Nat.le_refl _ | omega) ?_
  refine Rn.aload_n dX0_beginRow_0 rfl rfl ?_
  refine Rn.iload_n dX0_beginRow_1 rfl rfl ?_
  refine Rn.iconst dX0_beginRow_2 rfl ic_0 ?_
  refine Rn.iload_n dX0_beginRow_3 rfl rfl ?_
  refine Rn.callV (as := [_, _, _]) v_X0_put l_X0_34 ⟨Nat.le_of_ble_eq_true rfl, Nat.le_of_ble_eq_true rfl⟩ dX0_beginRow_4 rfl rfl (Nat.le_of_ble_eq_true rfl) H.1 H.2.2.1 rfl (Nat.le_refl _) (Nat.le_refl _) (t_X0_put H (by omega) (by omega) ?_) 
  refine Rn.aload_n dX0_beginRow_7 rfl rfl ?_
  refine Rn.iload_n dX0_beginRow_8 rfl rfl ?_
  refine Rn.iconst dX0_beginRow_9 rfl ic_1 ?_
  refine Rn.iload_n dX0_beginRow_10 rfl rfl ?_
  refine Rn.callV (as := [_, _, _]) v_X0_put l_X0_34 ⟨Nat.le_of_ble_eq_true rfl, Nat.le_of_ble_eq_true rfl⟩ dX0_beginRow_11 rfl rfl (Nat.le_of_ble_eq_true rfl) (H.put _).1 (H.put _).2.2.1 rfl (Nat.le_refl _) (Nat.le_refl _) (t_X0_put (H.put _) (by omega) (by omega) ?_) 
  refine Rn.heap (hp_hp _ _ _ _) ?_
  refine Rn.aload_n dX0_beginRow_14 rfl rfl ?_
  refine Rn.iload_n dX0_beginRow_15 rfl rfl ?_
  refine Rn.iconst dX0_beginRow_16 rfl ic_2 ?_
  refine Rn.iload dX0_beginRow_17 rfl rfl ?_
  refine Rn.callV (as := [_, _, _]) v_X0_put l_X0_34 ⟨Nat.le_of_ble_eq_true rfl, Nat.le_of_ble_eq_true rfl⟩ dX0_beginRow_19 rfl rfl (Nat.le_of_ble_eq_true rfl) (H.put _).1 (H.put _).2.2.1 rfl (Nat.le_refl _) (Nat.le_refl _) (t_X0_put (H.put _) (by omega) (by omega) ?_) 
  refine Rn.heap (hp_hp _ _ _ _) ?_
  refine Rn.aload_n dX0_beginRow_22 rfl rfl ?_
  refine Rn.iload_n dX0_beginRow_23 rfl rfl ?_
  refine Rn.iconst dX0_beginRow_24 rfl ic_3 ?_
  refine Rn.iload dX0_beginRow_25 rfl rfl ?_
  refine Rn.callV (as := [_, _, _]) v_X0_put l_X0_34 ⟨Nat.le_of_ble_eq_true rfl, Nat.le_of_ble_eq_true rfl⟩ dX0_beginRow_27 rfl rfl (Nat.le_of_ble_eq_true rfl) (H.put _).1 (H.put _).2.2.1 rfl (Nat.le_refl _) (Nat.le_refl _) (t_X0_put (H.put _) (by omega) (by omega) ?_) 
  refine Rn.heap (hp_hp _ _ _ _) ?_
  refine Rn.aload_n dX0_beginRow_30 rfl rfl ?_
  refine Rn.iload_n dX0_beginRow_31 rfl rfl ?_
  refine Rn.iconst dX0_beginRow_32 rfl ic_4 ?_
  refine Rn.iload_n dX0_beginRow_33 rfl rfl ?_
  refine Rn.iload_n dX0_beginRow_34 rfl rfl ?_
  refine Rn.iload dX0_beginRow_35 rfl rfl ?_
  refine Rn.callSN (as := [_, _, _]) s_X4_stepsBehind n_X0_38 ⟨Nat.le_of_ble_eq_true rfl, Nat.le_of_ble_eq_true rfl⟩ dX0_beginRow_37 rfl rfl (Nat.le_of_ble_eq_true rfl) (Nat.le_refl _) (Nat.le_refl _) (t_X4_stepsBehind hs ht hn ?_)
  refine Rn.callV (as := [_, _, _]) v_X0_put l_X0_34 ⟨Nat.le_of_ble_eq_true rfl, Nat.le_of_ble_eq_true rfl⟩ dX0_beginRow_40 rfl rfl (Nat.le_of_ble_eq_true rfl) (H.put _).1 (H.put _).2.2.1 rfl (Nat.le_refl _) (Nat.le_refl _) (t_X0_put (H.put _) (by omega) (by omega) ?_) 
  refine Rn.heap (hp_hp _ _ _ _) ?_
  refine Rn.aload_n dX0_beginRow_43 rfl rfl ?_
  refine Rn.iload_n dX0_beginRow_44 rfl rfl ?_
  refine Rn.iconst dX0_beginRow_45 rfl ic_5 ?_
  refine Rn.iload dX0_beginRow_46 rfl rfl ?_
  refine Rn.callV (as := [_, _, _]) v_X0_put l_X0_34 ⟨Nat.le_of_ble_eq_true rfl, Nat.le_of_ble_eq_true rfl⟩ dX0_beginRow_48 rfl rfl (Nat.le_of_ble_eq_true rfl) (H.put _).1 (H.put _).2.2.1 rfl (Nat.le_refl _) (Nat.le_refl _) (t_X0_put (H.put _) (by omega) (by omega) ?_) 
  refine Rn.heap (hp_hp _ _ _ _) ?_
  refine Rn.ret dX0_beginRow_51 rfl rfl rfl ?_
  exact k
theorem t_X0_addUser {h : rHp} {Q : Option Value → rHp → Prop} {q : Nat} {p : Nat → Nat} (H : Hl h q p) (h24 : p 24 < 4) {s t n : Nat} (hs : s < 251) (ht : t < 251) (hn : n < 100000) (k : Q none (hp h q (adP p s t n))) : Cl M_X0_addUser h.1 h.2.1 [.ref q, .int (nI s), .int (nI t), .int (nI n)] h Q := by
  refine Cl.of pl_X0 (Nat.le_of_ble_eq_true rfl) (by first | exact Nat.le_refl _ | omega) (by first | exact Nat.le_refl _ | omega) ?_
  refine Rn.aload_n dX0_addUser_0 rfl rfl ?_
  refine Rn.getf f_X0_11 dX0_addUser_1 rfl H.1 H.2.2.1 rfl ?_
  refine Rn.iconst dX0_addUser_4 rfl ic_0 ?_
  refine Rn.ialdN dX0_addUser_5 rfl H.2.1 H.2.2.2 (by omega) (by omega) ?_
  refine Rn.top (cl_0 p) ?_
  refine Rn.istore dX0_addUser_6 rfl (Nat.le_of_ble_eq_true rfl) ?_
  refine Rn.iload dX0_addUser_8 rfl rfl ?_
  refine Rn.iconst dX0_addUser_10 rfl ic_4 ?_
  refine Rn.icmp_geN (tgt := 33) dX0_addUser_11 rfl (by decide) (by omega) (by omega) (fun c11 => ?_) (fun c11 => ?_)
  · first | omega | exact False.elim c11
  · refine Rn.aload_n dX0_addUser_14 rfl rfl ?_
    refine Rn.getf f_X0_11 dX0_addUser_15 rfl H.1 H.2.2.1 rfl ?_
    refine Rn.iconst dX0_addUser_18 rfl ic_0 ?_
    refine Rn.iload dX0_addUser_19 rfl rfl ?_
    refine Rn.iconst dX0_addUser_21 rfl ic_1 ?_
    refine Rn.iaddN dX0_addUser_22 rfl ?_
    refine Rn.iastN dX0_addUser_23 rfl H.2.1 H.2.2.2 (by omega) (by omega) ?_
    refine Rn.heap (Hl.upd (upd_c0 p _)) ?_
    refine Rn.aload_n dX0_addUser_24 rfl rfl ?_
    refine Rn.iload dX0_addUser_25 rfl rfl ?_
    refine Rn.iload_n dX0_addUser_27 rfl rfl ?_
    refine Rn.iload_n dX0_addUser_28 rfl rfl ?_
    refine Rn.iload_n dX0_addUser_29 rfl rfl ?_
    refine Rn.callV (as := [_, _, _, _]) v_X0_beginRow l_X0_30 ⟨Nat.le_of_ble_eq_true rfl, Nat.le_of_ble_eq_true rfl⟩ dX0_addUser_30 rfl rfl (Nat.le_of_ble_eq_true rfl) (H.put _).1 (H.put _).2.2.1 rfl (Nat.le_refl _) (Nat.le_refl _) (t_X0_beginRow (H.put _) h24 hs ht hn ?_) 
    refine Rn.heap (hp_hp _ _ _ _) ?_
    refine Rn.ret dX0_addUser_33 rfl rfl rfl ?_
    exact k
def ffill (f : Nat → Int32) (x : Int32) (i : Nat) : Nat → Int32 := fun j => if j < i then x else f j
theorem ffill_s (f : Nat → Int32) (x : Int32) (i : Nat) : upd (ffill f x i) i x = ffill f x (i + 1) := by
  funext j
  show (if j = i then x else if j < i then x else f j) = if j < i + 1 then x else f j
  by_cases h : j = i
  · rw [if_pos h, if_pos (by omega)]
  · by_cases h2 : j < i
    · rw [if_neg h, if_pos h2, if_pos (by omega)]
    · rw [if_neg h, if_neg h2, if_neg (by omega)]
theorem ffill_0 (f : Nat → Int32) (x : Int32) : ffill f x 0 = f := by
  funext j
  show (if j < 0 then x else f j) = f j
  rw [if_neg (by omega)]
theorem clear_eq (f : Nat → Int32) (hf : ∀ j, 36 ≤ j → f j = 0) : upd (upd (ffill f (nI 0) 36) 1 (nI 1)) 2 (-9) = cl p0 := by
  refine cl_ext (fun i hi => ?_) (fun i hi => ?_) (fun i hi => ?_)
  · show (if i = 2 then (-9 : Int32) else if i = 1 then nI 1 else if i < 36 then nI 0 else f i) = _
    by_cases h2 : i = 2
    · subst h2; rfl
    · rw [if_neg h2]
      by_cases h1 : i = 1
      · subst h1; rfl
      · rw [if_neg h1, if_pos (by omega), pg_n _ (by omega) (by omega)]
        show nI 0 = nI (if i + 24 = 25 then 1 else 0)
        rw [if_neg (by omega)]
  · show (if 12 + i = 2 then (-9 : Int32) else if 12 + i = 1 then nI 1 else if 12 + i < 36 then nI 0 else f (12 + i)) = _
    rw [if_neg (by omega), if_neg (by omega), if_pos (by omega), pg_n _ (by omega) (by omega)]
    show nI 0 = nI (if i = 25 then 1 else 0)
    rw [if_neg (by omega)]
  · show (if i = 2 then (-9 : Int32) else if i = 1 then nI 1 else if i < 36 then nI 0 else f i) = _
    rw [if_neg (by omega), if_neg (by omega), if_neg (by omega), hf i hi]
theorem cpy_cl (p p2 : Nat → Nat) : va_cpy (cl p2) (cl p) 0 0 36 = cl p2 := by
  funext k
  unfold va_cpy
  by_cases h : k < 36
  · rw [if_pos ⟨by omega, by omega⟩]; congr 1; omega
  · rw [if_neg (fun z => h (by omega)), cl_out p (by omega), cl_out p2 (by omega)]
theorem t_J7_fill_53178 {h : rHp} {Q : Option Value → rHp → Prop} {o n : Nat} {f : Nat → Int32} {x : Int32} (ho : h.2.2 o = .inl (n, f)) (hlt : o < h.1) (hn : n < 100000) (k : Q none (hs h o (.inl (n, ffill f x n)))) : Cl M_J7_fill_53178 h.1 h.2.1 [.ref o, .int x] h Q := by
  refine Cl.of pl_J7 (Nat.le_of_ble_eq_true rfl) (by first | exact Nat.le_refl _ | omega) (by first | exact Nat.le_refl _ | omega) ?_
  refine Rn.iconst dJ7_fill_53178_0 rfl ic_0 ?_
  refine Rn.istore_n dJ7_fill_53178_1 rfl (Nat.le_of_ble_eq_true rfl) ?_
  refine Rn.aload_n dJ7_fill_53178_2 rfl rfl ?_
  refine Rn.alen dJ7_fill_53178_3 rfl ho hlt ?_
  refine Rn.istore_n dJ7_fill_53178_4 rfl (Nat.le_of_ble_eq_true rfl) ?_
  have hloop : ∀ (m : Nat) (i : Nat), n - i < m → i ≤ n → Rn (M_J7_fill_53178, none, h.1, h.2.1) Q 5 [(0, .ref o), (1, .int x), (2, .int (nI i)), (3, .int (nI n))] [] (hs h o (.inl (n, ffill f x i))) := by
    intro m
    induction m with
    | zero => intro i h0 h1; exact absurd h0 (Nat.not_lt_zero _)
    | succ m ih =>
      intro i h0 h1
      refine Rn.iload_n dJ7_fill_53178_5 rfl rfl ?_
      refine Rn.iload_n dJ7_fill_53178_6 rfl rfl ?_
      refine Rn.icmp_geN (tgt := 20) dJ7_fill_53178_7 rfl (by decide) (by omega) (by omega) (fun c7 => ?_) (fun c7 => ?_)
      · refine Rn.ret dJ7_fill_53178_20 rfl rfl rfl ?_
        rw [show i = n by omega]
        exact k
      · refine Rn.aload_n dJ7_fill_53178_10 rfl rfl ?_
        refine Rn.iload_n dJ7_fill_53178_11 rfl rfl ?_
        refine Rn.iload_n dJ7_fill_53178_12 rfl rfl ?_
        refine Rn.iastN dJ7_fill_53178_13 rfl (hs_eq _ _ _) hlt (by omega) (by omega) ?_
        refine Rn.heap ((hs_hs _ _ _ _).trans (by rw [ffill_s])) ?_
        refine Rn.iincN dJ7_fill_53178_14 rfl rfl (Nat.le_of_ble_eq_true rfl) ?_
        refine Rn.goto (tgt := 5) dJ7_fill_53178_17 (by decide) ?_
        exact Rn.pick [1, 2, 0, 3] rfl (ih (i + 1) (by omega) (by omega))
  exact Rn.pick [2, 3, 1, 0] rfl (by have := hloop (n + 1) 0 (by omega) (by omega); rw [ffill_0, hs_self h ho] at this; exact this)
theorem t_X0_clear {h : rHp} {Q : Option Value → rHp → Prop} {q : Nat} {p : Nat → Nat} (H : Hl h q p) (k : Q none (hp h q p0)) : Cl M_X0_clear h.1 h.2.1 [.ref q] h Q := by
  refine Cl.of pl_X0 (Nat.le_of_ble_eq_true rfl) (by first | exact Nat.le_refl _ | omega) (by first | exact Nat.le_refl _ | omega) ?_
  refine Rn.aload_n dX0_clear_0 rfl rfl ?_
  refine Rn.getf f_X0_11 dX0_clear_1 rfl H.1 H.2.2.1 rfl ?_
  refine Rn.iconst dX0_clear_4 rfl ic_0 ?_
  refine Rn.callS (as := [_, _]) s_J7_fill_53178 l_X0_18 ⟨Nat.le_of_ble_eq_true rfl, Nat.le_of_ble_eq_true rfl⟩ dX0_clear_5 rfl rfl (Nat.le_of_ble_eq_true rfl) (Nat.le_refl _) (Nat.le_refl _) (t_J7_fill_53178 H.2.1 H.2.2.2 (by omega) ?_)
  refine Rn.aload_n dX0_clear_8 rfl rfl ?_
  refine Rn.getf f_X0_11 dX0_clear_9 rfl ((hs_ne _ _ (by omega)).trans H.1) H.2.2.1 rfl ?_
  refine Rn.iconst dX0_clear_12 rfl ic_1 ?_
  refine Rn.iconst dX0_clear_13 rfl ic_1 ?_
  refine Rn.iastN dX0_clear_14 rfl (hs_eq _ _ _) H.2.2.2 (by omega) (by omega) ?_
  refine Rn.heap (hs_hs _ _ _ _) ?_
  refine Rn.aload_n dX0_clear_15 rfl rfl ?_
  refine Rn.getf f_X0_11 dX0_clear_16 rfl ((hs_ne _ _ (by omega)).trans H.1) H.2.2.1 rfl ?_
  refine Rn.iconst dX0_clear_19 rfl ic_2 ?_
  refine Rn.bipush dX0_clear_20 rfl bp_m9 ?_
  refine Rn.iastN dX0_clear_22 rfl (hs_eq _ _ _) H.2.2.2 (by omega) (by omega) ?_
  refine Rn.heap (hs_hs _ _ _ _) ?_
  refine Rn.ret dX0_clear_23 rfl rfl rfl ?_
  exact rn_fin k rfl (Hl.upd (clear_eq _ (fun j hj => cl_out p hj)))
theorem t_X0_copyFrom {h : rHp} {Q : Option Value → rHp → Prop} {q q2 : Nat} {p p2 : Nat → Nat} (H : Hl h q p) (H2 : Hl h q2 p2) (k : Q none (hp h q p2)) : Cl M_X0_copyFrom h.1 h.2.1 [.ref q, .ref q2] h Q := by
  refine Cl.of pl_X0 (Nat.le_of_ble_eq_true rfl) (by first | exact Nat.le_refl _ | omega) (by first | exact Nat.le_refl _ | omega) ?_
  refine Rn.aload_n dX0_copyFrom_0 rfl rfl ?_
  refine Rn.getf f_X0_11 dX0_copyFrom_1 rfl H2.1 H2.2.2.1 rfl ?_
  refine Rn.iconst dX0_copyFrom_4 rfl ic_0 ?_
  refine Rn.aload_n dX0_copyFrom_5 rfl rfl ?_
  refine Rn.getf f_X0_11 dX0_copyFrom_6 rfl H.1 H.2.2.1 rfl ?_
  refine Rn.iconst dX0_copyFrom_9 rfl ic_0 ?_
  refine Rn.bipush dX0_copyFrom_10 rfl bp_36 ?_
  refine Rn.copy l_X0_24 w_cpy2 w_cpy3 w_cpy4 (Nat.le_of_ble_eq_true rfl) (Nat.le_of_ble_eq_true rfl) dX0_copyFrom_12 rfl H2.2.1 H2.2.2.2 H.2.1 H.2.2.2 rfl rfl rfl (by omega) (by omega) (by decide) (by decide) ?_
  refine Rn.heap (Hl.upd (cpy_cl _ _)) ?_
  refine Rn.ret dX0_copyFrom_15 rfl rfl rfl ?_
  exact k
theorem t_X0_overhear {h : rHp} {Q : Option Value → rHp → Prop} {q : Nat} {p : Nat → Nat} (H : Hl h q p) (h27 : p 27 < 8) {y : Nat} (h26 : p 26 = y + 1) (k : Q none (hp h q (ovP p))) : Cl M_X0_overhear h.1 h.2.1 [.ref q] h Q := by
  refine Cl.of pl_X0 (Nat.le_of_ble_eq_true rfl) (by first | exact Nat.le_refl _ | omega) (by first | exact Nat.le_refl _ | omega) ?_
  refine Rn.aload_n dX0_overhear_0 rfl rfl ?_
  refine Rn.getf f_X0_11 dX0_overhear_1 rfl H.1 H.2.2.1 rfl ?_
  refine Rn.iconst dX0_overhear_4 rfl ic_3 ?_
  refine Rn.ialdN dX0_overhear_5 rfl H.2.1 H.2.2.2 (by omega) (by omega) ?_
  refine Rn.top (cl_3 p) ?_
  refine Rn.istore_n dX0_overhear_6 rfl (Nat.le_of_ble_eq_true rfl) ?_
  refine Rn.iload_n dX0_overhear_7 rfl rfl ?_
  refine Rn.if_ltN (tgt := 40) dX0_overhear_8 rfl (by decide) (by omega) (fun c8 => ?_) (fun c8 => ?_)
  · first | omega | exact False.elim c8
  · refine Rn.iload_n dX0_overhear_11 rfl rfl ?_
    refine Rn.bipush dX0_overhear_12 rfl bp_8 ?_
    refine Rn.icmp_geN (tgt := 40) dX0_overhear_14 rfl (by decide) (by omega) (by omega) (fun c14 => ?_) (fun c14 => ?_)
    · first | omega | exact False.elim c14
    · refine Rn.aload_n dX0_overhear_17 rfl rfl ?_
      refine Rn.getf f_X0_11 dX0_overhear_18 rfl H.1 H.2.2.1 rfl ?_
      refine Rn.iconst dX0_overhear_21 rfl ic_4 ?_
      refine Rn.iload_n dX0_overhear_22 rfl rfl ?_
      refine Rn.iaddN dX0_overhear_23 rfl ?_
      refine Rn.aload_n dX0_overhear_24 rfl rfl ?_
      refine Rn.getf f_X0_11 dX0_overhear_25 rfl H.1 H.2.2.1 rfl ?_
      refine Rn.iconst dX0_overhear_28 rfl ic_2 ?_
      refine Rn.ialdN dX0_overhear_29 rfl H.2.1 H.2.2.2 (by omega) (by omega) ?_
      refine Rn.top (y := nI y) ((cl_2 p).trans (by rw [h26, wi_s])) ?_
      refine Rn.iastN dX0_overhear_30 rfl H.2.1 H.2.2.2 (by omega) (by omega) ?_
      refine Rn.heap (Hl.upd (upd_hd p y h27)) ?_
      refine Rn.aload_n dX0_overhear_31 rfl rfl ?_
      refine Rn.getf f_X0_11 dX0_overhear_32 rfl (H.put _).1 (H.put _).2.2.1 rfl ?_
      refine Rn.iconst dX0_overhear_35 rfl ic_3 ?_
      refine Rn.iload_n dX0_overhear_36 rfl rfl ?_
      refine Rn.iconst dX0_overhear_37 rfl ic_1 ?_
      refine Rn.iaddN dX0_overhear_38 rfl ?_
      refine Rn.iastN dX0_overhear_39 rfl (H.put _).2.1 (H.put _).2.2.2 (by omega) (by omega) ?_
      refine Rn.heap ((Hl.upd (upd_c3 _ _)).trans (hp_hp _ _ _ _)) ?_
      refine Rn.ret dX0_overhear_40 rfl rfl rfl ?_
      exact rn_fin k rfl (by unfold ovP; rw [h26]; rfl)
