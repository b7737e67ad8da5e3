theorem t_X3_readRowLength {h : rHp} {Q : Option Value → rHp → Prop} {t : Nat → Nat} {ln pl : Nat} (T : Tx h t ln pl) (hln : ln ≤ 80) (htl : ∀ i, t i < 256) (hpl : pl < 1000) (k0 : ∀ pl', rlN t ln pl = (0, pl') → pl' ≤ pl + 1 → Q (some (.int (-9))) (tp h ln pl')) (k : ∀ a, 1 ≤ a → a ≤ 30 → rlN t ln pl = (a + 1, pl + 2) → pl + 1 < ln → Q (some (.int (nI a))) (tp h ln (pl + 2))) : Cl M_X3_readRowLength h.1 h.2.1 [.ref 1] h Q := by
  refine Cl.of pl_X3 (Nat.le_of_ble_eq_true rfl) (by first | exact Nat.le_refl _ | omega) (by first | exact Nat.le_refl _ | omega) ?_
  refine Rn.aload_n dX3_readRowLength_0 rfl rfl ?_
  refine Rn.iconst dX3_readRowLength_1 rfl ic_0 ?_
  refine Rn.iconst dX3_readRowLength_2 rfl ic_3 ?_
  refine Rn.callV (as := [_, _]) v_X3_readFigure l_X3_31 ⟨Nat.le_of_ble_eq_true rfl, Nat.le_of_ble_eq_true rfl⟩ dX3_readRowLength_3 rfl rfl (Nat.le_of_ble_eq_true rfl) T.1 T.2.2.1 rfl (Nat.le_refl _) (Nat.le_refl _) (t_X3_readFigure T hln htl (by omega) (by omega) (by omega) (fun ea => ?_) (fun a ha ga qa ea => ?_)) 
  · refine Rn.istore_n dX3_readRowLength_6 rfl (Nat.le_of_ble_eq_true rfl) ?_
    refine Rn.iload_n dX3_readRowLength_7 rfl rfl ?_
    refine Rn.bipush dX3_readRowLength_8 rfl bp_m9 ?_
    refine Rn.icmp_ne (tgt := 16) dX3_readRowLength_10 rfl (by decide) (fun c10 => ?_) (fun c10 => ?_)
    · exact absurd rfl c10
    · refine Rn.bipush dX3_readRowLength_13 rfl bp_m9 ?_
      refine Rn.iret dX3_readRowLength_15 rfl rfl rfl ?_
      exact rn_fin (k0 pl (rlN_0 ea) (by omega)) rfl T.same.symm
  · refine Rn.istore_n dX3_readRowLength_6 rfl (Nat.le_of_ble_eq_true rfl) ?_
    refine Rn.iload_n dX3_readRowLength_7 rfl rfl ?_
    refine Rn.bipush dX3_readRowLength_8 rfl bp_m9 ?_
    refine Rn.icmp_ne (tgt := 16) dX3_readRowLength_10 rfl (by decide) (fun c10 => ?_) (fun c10 => ?_)
    · refine Rn.aload_n dX3_readRowLength_16 rfl rfl ?_
      refine Rn.iload_n dX3_readRowLength_17 rfl rfl ?_
      refine Rn.if_neN (tgt := 25) dX3_readRowLength_18 rfl (by decide) (by omega) (fun c18 => ?_) (fun c18 => ?_)
      · refine Rn.iconst dX3_readRowLength_25 rfl ic_0 ?_
        refine Rn.iload_n dX3_readRowLength_26 rfl rfl ?_
        refine Rn.iconst dX3_readRowLength_27 rfl ic_3 ?_
        refine Rn.icmp_neN (tgt := 35) dX3_readRowLength_28 rfl (by decide) (by omega) (by omega) (fun c28 => ?_) (fun c28 => ?_)
        · refine Rn.bipush dX3_readRowLength_35 rfl bp_9 ?_
          refine Rn.callV (as := [_, _]) v_X3_readFigure l_X3_31 ⟨Nat.le_of_ble_eq_true rfl, Nat.le_of_ble_eq_true rfl⟩ dX3_readRowLength_37 rfl rfl (Nat.le_of_ble_eq_true rfl) (T.put _ _).1 (T.put _ _).2.2.1 rfl (Nat.le_refl _) (Nat.le_refl _) (t_X3_readFigure (T.put _ _) hln htl (by omega) (by omega) (by omega) (fun eb => ?_) (fun b hb gb qb eb => ?_)) 
          · refine Rn.istore_n dX3_readRowLength_40 rfl (Nat.le_of_ble_eq_true rfl) ?_
            refine Rn.iload_n dX3_readRowLength_41 rfl rfl ?_
            refine Rn.bipush dX3_readRowLength_42 rfl bp_m9 ?_
            refine Rn.icmp_ne (tgt := 52) dX3_readRowLength_44 rfl (by decide) (fun c44 => ?_) (fun c44 => ?_)
            · exact absurd rfl c44
            · refine Rn.bipush dX3_readRowLength_47 rfl bp_m9 ?_
              refine Rn.goto (tgt := 58) dX3_readRowLength_49 (by decide) ?_
              refine Rn.iret dX3_readRowLength_58 rfl rfl rfl ?_
              exact k0 _ (rlN_1 ea (by split <;> omega) (by split <;> omega) eb) (by omega)
          · refine Rn.heap (tp_tp _ _ _ _ _) ?_
            refine Rn.istore_n dX3_readRowLength_40 rfl (Nat.le_of_ble_eq_true rfl) ?_
            refine Rn.iload_n dX3_readRowLength_41 rfl rfl ?_
            refine Rn.bipush dX3_readRowLength_42 rfl bp_m9 ?_
            refine Rn.icmp_ne (tgt := 52) dX3_readRowLength_44 rfl (by decide) (fun c44 => ?_) (fun c44 => ?_)
            · refine Rn.bipush dX3_readRowLength_52 rfl bp_10 ?_
              refine Rn.iload_n dX3_readRowLength_54 rfl rfl ?_
              refine Rn.imulN dX3_readRowLength_55 rfl ?_
              refine Rn.iload_n dX3_readRowLength_56 rfl rfl ?_
              refine Rn.iaddN dX3_readRowLength_57 rfl ?_
              refine Rn.iret dX3_readRowLength_58 rfl rfl rfl ?_
              exact k (10 * a + b) (rl_bd ha gb hb (by split <;> omega) (by split <;> omega)).1 (rl_bd ha gb hb (by split <;> omega) (by split <;> omega)).2 (rlN_2 ea (by split <;> omega) (by split <;> omega) eb) (by omega)
            · exact absurd c44 (nI_m9 (by omega))
        · refine Rn.iconst dX3_readRowLength_31 rfl ic_0 ?_
          refine Rn.goto (tgt := 37) dX3_readRowLength_32 (by decide) ?_
          refine Rn.callV (as := [_, _]) v_X3_readFigure l_X3_31 ⟨Nat.le_of_ble_eq_true rfl, Nat.le_of_ble_eq_true rfl⟩ dX3_readRowLength_37 rfl rfl (Nat.le_of_ble_eq_true rfl) (T.put _ _).1 (T.put _ _).2.2.1 rfl (Nat.le_refl _) (Nat.le_refl _) (t_X3_readFigure (T.put _ _) hln htl (by omega) (by omega) (by omega) (fun eb => ?_) (fun b hb gb qb eb => ?_)) 
          · refine Rn.istore_n dX3_readRowLength_40 rfl (Nat.le_of_ble_eq_true rfl) ?_
            refine Rn.iload_n dX3_readRowLength_41 rfl rfl ?_
            refine Rn.bipush dX3_readRowLength_42 rfl bp_m9 ?_
            refine Rn.icmp_ne (tgt := 52) dX3_readRowLength_44 rfl (by decide) (fun c44 => ?_) (fun c44 => ?_)
            · exact absurd rfl c44
            · refine Rn.bipush dX3_readRowLength_47 rfl bp_m9 ?_
              refine Rn.goto (tgt := 58) dX3_readRowLength_49 (by decide) ?_
              refine Rn.iret dX3_readRowLength_58 rfl rfl rfl ?_
              exact k0 _ (rlN_1 ea (by split <;> omega) (by split <;> omega) eb) (by omega)
          · refine Rn.heap (tp_tp _ _ _ _ _) ?_
            refine Rn.istore_n dX3_readRowLength_40 rfl (Nat.le_of_ble_eq_true rfl) ?_
            refine Rn.iload_n dX3_readRowLength_41 rfl rfl ?_
            refine Rn.bipush dX3_readRowLength_42 rfl bp_m9 ?_
            refine Rn.icmp_ne (tgt := 52) dX3_readRowLength_44 rfl (by decide) (fun c44 => ?_) (fun c44 => ?_)
            · refine Rn.bipush dX3_readRowLength_52 rfl bp_10 ?_
              refine Rn.iload_n dX3_readRowLength_54 rfl rfl ?_
              refine Rn.imulN dX3_readRowLength_55 rfl ?_
              refine Rn.iload_n dX3_readRowLength_56 rfl rfl ?_
              refine Rn.iaddN dX3_readRowLength_57 rfl ?_
              refine Rn.iret dX3_readRowLength_58 rfl rfl rfl ?_
              exact k (10 * a + b) (rl_bd ha gb hb (by split <;> omega) (by split <;> omega)).1 (rl_bd ha gb hb (by split <;> omega) (by split <;> omega)).2 (rlN_2 ea (by split <;> omega) (by split <;> omega) eb) (by omega)
            · exact absurd c44 (nI_m9 (by omega))
      · refine Rn.iconst dX3_readRowLength_21 rfl ic_1 ?_
        refine Rn.goto (tgt := 26) dX3_readRowLength_22 (by decide) ?_
        refine Rn.iload_n dX3_readRowLength_26 rfl rfl ?_
        refine Rn.iconst dX3_readRowLength_27 rfl ic_3 ?_
        refine Rn.icmp_neN (tgt := 35) dX3_readRowLength_28 rfl (by decide) (by omega) (by omega) (fun c28 => ?_) (fun c28 => ?_)
        · refine Rn.bipush dX3_readRowLength_35 rfl bp_9 ?_
          refine Rn.callV (as := [_, _]) v_X3_readFigure l_X3_31 ⟨Nat.le_of_ble_eq_true rfl, Nat.le_of_ble_eq_true rfl⟩ dX3_readRowLength_37 rfl rfl (Nat.le_of_ble_eq_true rfl) (T.put _ _).1 (T.put _ _).2.2.1 rfl (Nat.le_refl _) (Nat.le_refl _) (t_X3_readFigure (T.put _ _) hln htl (by omega) (by omega) (by omega) (fun eb => ?_) (fun b hb gb qb eb => ?_)) 
          · refine Rn.istore_n dX3_readRowLength_40 rfl (Nat.le_of_ble_eq_true rfl) ?_
            refine Rn.iload_n dX3_readRowLength_41 rfl rfl ?_
            refine Rn.bipush dX3_readRowLength_42 rfl bp_m9 ?_
            refine Rn.icmp_ne (tgt := 52) dX3_readRowLength_44 rfl (by decide) (fun c44 => ?_) (fun c44 => ?_)
            · exact absurd rfl c44
            · refine Rn.bipush dX3_readRowLength_47 rfl bp_m9 ?_
              refine Rn.goto (tgt := 58) dX3_readRowLength_49 (by decide) ?_
              refine Rn.iret dX3_readRowLength_58 rfl rfl rfl ?_
              exact k0 _ (rlN_1 ea (by split <;> omega) (by split <;> omega) eb) (by omega)
          · refine Rn.heap (tp_tp _ _ _ _ _) ?_
            refine Rn.istore_n dX3_readRowLength_40 rfl (Nat.le_of_ble_eq_true rfl) ?_
            refine Rn.iload_n dX3_readRowLength_41 rfl rfl ?_
            refine Rn.bipush dX3_readRowLength_42 rfl bp_m9 ?_
            refine Rn.icmp_ne (tgt := 52) dX3_readRowLength_44 rfl (by decide) (fun c44 => ?_) (fun c44 => ?_)
            · refine Rn.bipush dX3_readRowLength_52 rfl bp_10 ?_
              refine Rn.iload_n dX3_readRowLength_54 rfl rfl ?_
              refine Rn.imulN dX3_readRowLength_55 rfl ?_
              refine Rn.iload_n dX3_readRowLength_56 rfl rfl ?_
              refine Rn.iaddN dX3_readRowLength_57 rfl ?_
              refine Rn.iret dX3_readRowLength_58 rfl rfl rfl ?_
              exact k (10 * a + b) (rl_bd ha gb hb (by split <;> omega) (by split <;> omega)).1 (rl_bd ha gb hb (by split <;> omega) (by split <;> omega)).2 (rlN_2 ea (by split <;> omega) (by split <;> omega) eb) (by omega)
            · exact absurd c44 (nI_m9 (by omega))
        · refine Rn.iconst dX3_readRowLength_31 rfl ic_0 ?_
          refine Rn.goto (tgt := 37) dX3_readRowLength_32 (by decide) ?_
          refine Rn.callV (as := [_, _]) v_X3_readFigure l_X3_31 ⟨Nat.le_of_ble_eq_true rfl, Nat.le_of_ble_eq_true rfl⟩ dX3_readRowLength_37 rfl rfl (Nat.le_of_ble_eq_true rfl) (T.put _ _).1 (T.put _ _).2.2.1 rfl (Nat.le_refl _) (Nat.le_refl _) (t_X3_readFigure (T.put _ _) hln htl (by omega) (by omega) (by omega) (fun eb => ?_) (fun b hb gb qb eb => ?_)) 
          · refine Rn.istore_n dX3_readRowLength_40 rfl (Nat.le_of_ble_eq_true rfl) ?_
            refine Rn.iload_n dX3_readRowLength_41 rfl rfl ?_
            refine Rn.bipush dX3_readRowLength_42 rfl bp_m9 ?_
            refine Rn.icmp_ne (tgt := 52) dX3_readRowLength_44 rfl (by decide) (fun c44 => ?_) (fun c44 => ?_)
            · exact absurd rfl c44
            · refine Rn.bipush dX3_readRowLength_47 rfl bp_m9 ?_
              refine Rn.goto (tgt := 58) dX3_readRowLength_49 (by decide) ?_
              refine Rn.iret dX3_readRowLength_58 rfl rfl rfl ?_
              exact k0 _ (rlN_1 ea (by split <;> omega) (by split <;> omega) eb) (by omega)
          · refine Rn.heap (tp_tp _ _ _ _ _) ?_
            refine Rn.istore_n dX3_readRowLength_40 rfl (Nat.le_of_ble_eq_true rfl) ?_
            refine Rn.iload_n dX3_readRowLength_41 rfl rfl ?_
            refine Rn.bipush dX3_readRowLength_42 rfl bp_m9 ?_
            refine Rn.icmp_ne (tgt := 52) dX3_readRowLength_44 rfl (by decide) (fun c44 => ?_) (fun c44 => ?_)
            · refine Rn.bipush dX3_readRowLength_52 rfl bp_10 ?_
              refine Rn.iload_n dX3_readRowLength_54 rfl rfl ?_
              refine Rn.imulN dX3_readRowLength_55 rfl ?_
              refine Rn.iload_n dX3_readRowLength_56 rfl rfl ?_
              refine Rn.iaddN dX3_readRowLength_57 rfl ?_
              refine Rn.iret dX3_readRowLength_58 rfl rfl rfl ?_
              exact k (10 * a + b) (rl_bd ha gb hb (by split <;> omega) (by split <;> omega)).1 (rl_bd ha gb hb (by split <;> omega) (by split <;> omega)).2 (rlN_2 ea (by split <;> omega) (by split <;> omega) eb) (by omega)
            · exact absurd c44 (nI_m9 (by omega))
    · exact absurd c10 (nI_m9 (by omega))
/-- a user's part: done or not, where reading stands, seed, salt, length -/
def ruN (t : Nat → Nat) (ln pl : Nat) : Nat × Nat × Nat × Nat × Nat :=
  if (rdN t ln (pl + 1)).1 = 0 then (0, (rdN t ln (pl + 1)).2, 0, 0, 0) else
  if (rdN t ln (pl + 4)).1 = 0 then (0, (rdN t ln (pl + 4)).2, 0, 0, 0) else
  if (rlN t ln (pl + 7)).1 = 0 then (0, (rlN t ln (pl + 7)).2, 0, 0, 0) else
  (1, pl + 9, (rdN t ln (pl + 1)).1 - 1, (rdN t ln (pl + 4)).1 - 1, (rlN t ln (pl + 7)).1 - 1)
theorem ruN_0 {t : Nat → Nat} {ln pl a : Nat} (e : rdN t ln (pl + 1) = (0, a)) : ruN t ln pl = (0, a, 0, 0, 0) := by unfold ruN; rw [e]; rfl
theorem ruN_1 {t : Nat → Nat} {ln pl a b c : Nat} (e : rdN t ln (pl + 1) = (a + 1, b)) (e2 : rdN t ln (pl + 4) = (0, c)) : ruN t ln pl = (0, c, 0, 0, 0) := by
  unfold ruN; rw [e, e2, if_neg (by show ¬ a + 1 = 0; omega)]; rfl
theorem ruN_2 {t : Nat → Nat} {ln pl a b c d f : Nat} (e : rdN t ln (pl + 1) = (a + 1, b)) (e2 : rdN t ln (pl + 4) = (c + 1, d)) (e3 : rlN t ln (pl + 7) = (0, f)) : ruN t ln pl = (0, f, 0, 0, 0) := by
  unfold ruN; rw [e, e2, e3, if_neg (by show ¬ a + 1 = 0; omega), if_neg (by show ¬ c + 1 = 0; omega)]; rfl
theorem ruN_3 {t : Nat → Nat} {ln pl a b c d f g : Nat} (e : rdN t ln (pl + 1) = (a + 1, b)) (e2 : rdN t ln (pl + 4) = (c + 1, d)) (e3 : rlN t ln (pl + 7) = (f + 1, g)) : ruN t ln pl = (1, pl + 9, a, c, f) := by
  unfold ruN; rw [e, e2, e3, if_neg (by show ¬ a + 1 = 0; omega), if_neg (by show ¬ c + 1 = 0; omega), if_neg (by show ¬ f + 1 = 0; omega)]; rfl
/-- a user's figure with passes left, one more; 0: there is none -/
def uNo (t : Nat → Nat) (ln pl : Nat) (p : Nat → Nat) : Nat := if pl < ln ∧ 48 ≤ t pl ∧ ow p (t pl - 48) = true then t pl - 48 + 1 else 0
theorem uNo_B {t : Nat → Nat} {ln pl : Nat} {p : Nat → Nat} (O : OKp p) (htl : ∀ i, t i < 256) : ownB p (wi (nlN t ln pl) - nI 48) = decide (uNo t ln pl p ≠ 0) := by
  have h1 := htl pl
  unfold uNo nlN
  by_cases h : pl < ln
  · rw [if_pos h, wi_s]
    by_cases h2 : 48 ≤ t pl
    · rw [pk_sub h2, ownB_nI (by omega)]
      by_cases h3 : ow p (t pl - 48) = true
      · rw [if_pos ⟨h, h2, h3⟩, h3, decide_eq_true (by omega)]
      · rw [if_neg (fun z => h3 z.2.2), decide_eq_false (by omega)]
        exact Bool.eq_false_iff.mpr h3
    · rw [if_neg (fun z => h2 z.2.1), decide_eq_false (by omega)]
      refine ownB_hn (hasB_neg ?_)
      rw [Int32.lt_iff_toInt_lt, Jvm.Kit.i32_sub (by rw [nI_toInt (by omega), nI_toInt (by omega)]; omega) (by rw [nI_toInt (by omega), nI_toInt (by omega)]; omega), nI_toInt (by omega), nI_toInt (by omega)]
      show _ < (0 : Int)
      omega
  · rw [if_neg h, if_neg (fun z => h z.1), decide_eq_false (by omega)]
    exact ownB_hn (hasB_neg (by decide))
theorem uNo_val {t : Nat → Nat} {ln pl a : Nat} {p : Nat → Nat} (O : OKp p) (htl : ∀ i, t i < 256) (h : uNo t ln pl p = a + 1) : wi (nlN t ln pl) - nI 48 = nI a ∧ pl < ln ∧ a < 4 ∧ ow p a = true := by
  unfold uNo at h
  split at h
  · rename_i h1
    have e : t pl = 48 + a := by omega
    have ea : t pl - 48 = a := by omega
    unfold nlN
    rw [ea] at h1
    have h4 := O.1
    have := (ow_t h1.2.2).1
    rw [if_pos h1.1, wi_s, e, pk_sub (by omega)]
    exact ⟨by congr 1; omega, h1.1, by omega, h1.2.2⟩
  · omega
/-- a doing's part: done or not, where reading stands, the page -/
def dgN (t : Nat → Nat) (ln pl : Nat) (p : Nat → Nat) : Nat × Nat × (Nat → Nat) :=
  if (nlN t ln pl = 116 ∨ nlN t ln pl = 110) ∧ anyU p 4 = true then
    (if uNo t ln (pl + 1) p = 0 then (0, pl + 1, p) else (1, pl + 2, if nlN t ln pl = 116 then seP p (uNo t ln (pl + 1) p - 1) else spP p (uNo t ln (pl + 1) p - 1)))
  else (0, pl, p)
theorem dgN_0 {t : Nat → Nat} {ln pl : Nat} {p : Nat → Nat} (h : ¬ ((nlN t ln pl = 116 ∨ nlN t ln pl = 110) ∧ anyU p 4 = true)) : dgN t ln pl p = (0, pl, p) := by unfold dgN; rw [if_neg h]
theorem dgN_1 {t : Nat → Nat} {ln pl : Nat} {p : Nat → Nat} (h : (nlN t ln pl = 116 ∨ nlN t ln pl = 110) ∧ anyU p 4 = true) (h2 : uNo t ln (pl + 1) p = 0) : dgN t ln pl p = (0, pl + 1, p) := by unfold dgN; rw [if_pos h, if_pos h2]
theorem dgN_2 {t : Nat → Nat} {ln pl a : Nat} {p : Nat → Nat} (h : nlN t ln pl = 116) (h1 : anyU p 4 = true) (h2 : uNo t ln (pl + 1) p = a + 1) : dgN t ln pl p = (1, pl + 2, seP p a) := by unfold dgN; rw [if_pos ⟨Or.inl h, h1⟩, if_neg (by omega), if_pos h, h2]; rfl
theorem dgN_3 {t : Nat → Nat} {ln pl a : Nat} {p : Nat → Nat} (h : nlN t ln pl = 110) (h1 : anyU p 4 = true) (h2 : uNo t ln (pl + 1) p = a + 1) : dgN t ln pl p = (1, pl + 2, spP p a) := by unfold dgN; rw [if_pos ⟨Or.inr h, h1⟩, if_neg (by omega), if_neg (by omega), h2]; rfl
/-- the parts: the fault (one more; 0: none), where reading stands, the page -/
def lpR (t : Nat → Nat) (ln : Nat) : Nat → Nat → (Nat → Nat) → Bool → Nat × Nat × (Nat → Nat)
  | 0, pl, p, _ => (0, pl, p)
  | n + 1, pl, p, ou => if ln ≤ pl then (0, pl, p) else
      if ou = true ∧ p 24 < 4 ∧ nlN t ln pl = 118 then
        (if (ruN t ln pl).1 = 0 then ((ruN t ln pl).2.1 + 1, (ruN t ln pl).2.1, p) else lpR t ln n (pl + 9) (adP p (ruN t ln pl).2.2.1 (ruN t ln pl).2.2.2.1 (ruN t ln pl).2.2.2.2) true)
      else (if (dgN t ln pl p).1 = 0 then ((dgN t ln pl p).2.1 + 1, (dgN t ln pl p).2.1, p) else lpR t ln n (dgN t ln pl p).2.1 (dgN t ln pl p).2.2 false)
def rIn (t : Nat → Nat) (ln : Nat) : Nat × Nat × (Nat → Nat) :=
  if nlN t ln 0 = 84 then (if fgN t ln 1 1 6 = 0 then (2, 1, p0) else lpR t ln 80 2 (un p0 25 (fgN t ln 1 1 6 - 1)) true) else (1, 0, p0)
theorem lpR_e {t : Nat → Nat} {ln n pl : Nat} {p : Nat → Nat} {ou : Bool} (h : ln ≤ pl) : lpR t ln n pl p ou = (0, pl, p) := by
  cases n with
  | zero => rfl
  | succ n => show (if ln ≤ pl then _ else _) = _; rw [if_pos h]
theorem lpR_u0 {t : Nat → Nat} {ln n pl a : Nat} {p : Nat → Nat} (h : ¬ ln ≤ pl) (h1 : p 24 < 4) (h2 : nlN t ln pl = 118) (e : ruN t ln pl = (0, a, 0, 0, 0)) : lpR t ln (n + 1) pl p true = (a + 1, a, p) := by
  show (if ln ≤ pl then _ else _) = _
  rw [if_neg h, if_pos ⟨rfl, h1, h2⟩, e]; rfl
theorem lpR_u1 {t : Nat → Nat} {ln n pl a b c d : Nat} {p : Nat → Nat} (h : ¬ ln ≤ pl) (h1 : p 24 < 4) (h2 : nlN t ln pl = 118) (e : ruN t ln pl = (1, a, b, c, d)) : lpR t ln (n + 1) pl p true = lpR t ln n (pl + 9) (adP p b c d) true := by
  show (if ln ≤ pl then _ else _) = _
  rw [if_neg h, if_pos ⟨rfl, h1, h2⟩, e]; rfl
theorem lpR_d0 {t : Nat → Nat} {ln n pl a : Nat} {p p' : Nat → Nat} {ou : Bool} (h : ¬ ln ≤ pl) (h1 : ¬ (ou = true ∧ p 24 < 4 ∧ nlN t ln pl = 118)) (e : dgN t ln pl p = (0, a, p')) : lpR t ln (n + 1) pl p ou = (a + 1, a, p) := by
  show (if ln ≤ pl then _ else _) = _
  rw [if_neg h, if_neg h1, e]; rfl
theorem lpR_d1 {t : Nat → Nat} {ln n pl a : Nat} {p p' : Nat → Nat} {ou : Bool} (h : ¬ ln ≤ pl) (h1 : ¬ (ou = true ∧ p 24 < 4 ∧ nlN t ln pl = 118)) (e : dgN t ln pl p = (1, a, p')) : lpR t ln (n + 1) pl p ou = lpR t ln n a p' false := by
  show (if ln ≤ pl then _ else _) = _
  rw [if_neg h, if_neg h1, e]; rfl
theorem OK_p0 : OKp p0 := by
  have e : ∀ i, i ≠ 25 → p0 i = 0 := fun i hi => if_neg hi
  refine ⟨by decide, by decide, by decide, by decide, fun u hu => ?_, fun i hi => ?_, by decide⟩
  · rw [e _ (by omega), e _ (by omega), e _ (by omega), e _ (by omega), e _ (by omega), e _ (by omega)]; omega
  · rw [e _ (by omega)]; omega
theorem OK_win {p : Nat → Nat} (O : OKp p) {w : Nat} (h1 : 1 ≤ w) (h2 : w ≤ 6) : OKp (un p 25 w) := by
  obtain ⟨a, b, c, d, e, f, g⟩ := O
  refine ⟨by rw [un_ne _ _ (by omega)]; exact a, by rw [un_eq]; exact h1, by rw [un_eq]; exact h2, by rw [un_ne _ _ (by omega)]; exact d, fun u hu => ?_, fun i hi => ?_, by rw [un_ne _ _ (by omega)]; exact g⟩
  · rw [un_ne _ _ (by omega), un_ne _ _ (by omega), un_ne _ _ (by omega), un_ne _ _ (by omega), un_ne _ _ (by omega), un_ne _ _ (by omega)]; exact e u hu
  · rw [un_ne _ _ (by omega)]; exact f i hi
theorem OK_24 {p : Nat → Nat} (O : OKp p) {w : Nat} (h2 : w ≤ 4) : OKp (un p 24 w) := by
  obtain ⟨a, b, c, d, e, f, g⟩ := O
  refine ⟨by rw [un_eq]; exact h2, by rw [un_ne _ _ (by omega)]; exact b, by rw [un_ne _ _ (by omega)]; exact c, by rw [un_ne _ _ (by omega)]; exact d, fun u hu => ?_, fun i hi => ?_, by rw [un_ne _ _ (by omega)]; exact g⟩
  · rw [un_ne _ _ (by omega), un_ne _ _ (by omega), un_ne _ _ (by omega), un_ne _ _ (by omega), un_ne _ _ (by omega), un_ne _ _ (by omega)]; exact e u hu
  · rw [un_ne _ _ (by omega)]; exact f i hi
theorem OK_bg {p : Nat → Nat} (O : OKp p) {u s t n : Nat} (hu : u < 4) (hs : s < 251) (ht : t < 251) (hn : n ≤ 30) : OKp (bgP p u s t n) :=
  (((((O.put (k := 0) hu (by omega) hs (by omega)).put (k := 1) hu (by omega) ht (by omega)).put (k := 2) hu (by omega) (by omega) (by omega)).put (k := 3) hu (by omega) (by omega) (by omega)).put (k := 4) hu (by omega) (bh_lt hs n) (by omega)).put (k := 5) hu (by omega) (by omega) (by omega)
theorem OK_ad {p : Nat → Nat} (O : OKp p) {s t n : Nat} (h : p 24 < 4) (hs : s < 251) (ht : t < 251) (hn : n ≤ 30) : OKp (adP p s t n) := OK_bg (OK_24 O (by omega)) h hs ht hn
theorem t_X3_readUser {h : rHp} {Q : Option Value → rHp → Prop} {q : Nat} (hq : 1 < q) {t : Nat → Nat} {ln l1 l2 pl : Nat} {pb p : Nat → Nat} (T : Tx h t l1 l2) (H : Hl h q pb) (hln : ln ≤ 80) (htl : ∀ i, t i < 256) (hpl : pl < 200) (h24 : p 24 < 4) (k0 : ∀ pl', ruN t ln pl = (0, pl', 0, 0, 0) → pl' ≤ pl + 8 → Q (some (.int (bi false))) (ht h q ln pl' p)) (k : ∀ a b c, a < 251 → b < 251 → 1 ≤ c → c ≤ 30 → ruN t ln pl = (1, pl + 9, a, b, c) → pl + 8 < ln → Q (some (.int (bi true))) (ht h q ln (pl + 9) (adP p a b c))) : Cl M_X3_readUser h.1 h.2.1 [.ref 1, .ref q] (ht h q ln pl p) Q := by
  refine Cl.of pl_X3 (Nat.le_of_ble_eq_true rfl) (by first | exact Nat.le_refl _ | omega) (by first | exact Nat.le_refl _ | omega) ?_
  refine Rn.aload_n dX3_readUser_0 rfl rfl ?_
  refine Rn.dup dX3_readUser_1 rfl rfl ?_
  refine Rn.getf f_X3_19 dX3_readUser_2 rfl (ht_T hq T _ _ _).1 (ht_T hq T _ _ _).2.2.1 rfl ?_
  refine Rn.iconst dX3_readUser_5 rfl ic_1 ?_
  refine Rn.iaddN dX3_readUser_6 rfl ?_
  refine Rn.putf p_X3_19 (fun h => by cases h) dX3_readUser_7 rfl (ht_T hq T _ _ _).1 (ht_T hq T _ _ _).2.2.1 (fun g => ⟨rfl, rfl⟩) (Nat.le_of_ble_eq_true rfl) ?_
  refine Rn.heap (ht_tp h hq _ _ _ _ _) ?_
  refine Rn.aload_n dX3_readUser_10 rfl rfl ?_
  refine Rn.callV (as := []) v_X3_readNumber l_X3_53 ⟨Nat.le_of_ble_eq_true rfl, Nat.le_of_ble_eq_true rfl⟩ dX3_readUser_11 rfl rfl (Nat.le_of_ble_eq_true rfl) (ht_T hq T _ _ _).1 (ht_T hq T _ _ _).2.2.1 rfl (Nat.le_refl _) (Nat.le_refl _) (t_X3_readNumber (ht_T hq T _ _ _) hln htl (by omega) (fun la ea ga => ?_) (fun a ha ea qa => ?_)) 
  · refine Rn.heap (ht_tp h hq _ _ _ _ _) ?_
    refine Rn.istore_n dX3_readUser_14 rfl (Nat.le_of_ble_eq_true rfl) ?_
    refine Rn.iload_n dX3_readUser_15 rfl rfl ?_
    refine Rn.bipush dX3_readUser_16 rfl bp_m9 ?_
    refine Rn.icmp_ne (tgt := 26) dX3_readUser_18 rfl (by decide) (fun c18 => ?_) (fun c18 => ?_)
    · exact absurd rfl c18
    · refine Rn.bipush dX3_readUser_21 rfl bp_m9 ?_
      refine Rn.goto (tgt := 30) dX3_readUser_23 (by decide) ?_
      refine Rn.istore_n dX3_readUser_30 rfl (Nat.le_of_ble_eq_true rfl) ?_
      refine Rn.iload_n dX3_readUser_31 rfl rfl ?_
      refine Rn.bipush dX3_readUser_32 rfl bp_m9 ?_
      refine Rn.icmp_ne (tgt := 42) dX3_readUser_34 rfl (by decide) (fun c34 => ?_) (fun c34 => ?_)
      · exact absurd rfl c34
      · refine Rn.bipush dX3_readUser_37 rfl bp_m9 ?_
        refine Rn.goto (tgt := 46) dX3_readUser_39 (by decide) ?_
        refine Rn.istore dX3_readUser_46 rfl (Nat.le_of_ble_eq_true rfl) ?_
        refine Rn.iload dX3_readUser_48 rfl rfl ?_
        refine Rn.bipush dX3_readUser_50 rfl bp_m9 ?_
        refine Rn.icmp_ne (tgt := 57) dX3_readUser_52 rfl (by decide) (fun c52 => ?_) (fun c52 => ?_)
        · exact absurd rfl c52
        · refine Rn.iconst dX3_readUser_55 rfl ic_0 ?_
          refine Rn.zret dX3_readUser_56 rfl (by decide) rfl rfl ?_
          first | exact k0 _ (ruN_0 ea) (by omega) | exact k0 _ (ruN_1 ea eb) (by omega) | exact k0 _ (ruN_2 ea eb ec) (by omega)
  · refine Rn.heap (ht_tp h hq _ _ _ _ _) ?_
    refine Rn.istore_n dX3_readUser_14 rfl (Nat.le_of_ble_eq_true rfl) ?_
    refine Rn.iload_n dX3_readUser_15 rfl rfl ?_
    refine Rn.bipush dX3_readUser_16 rfl bp_m9 ?_
    refine Rn.icmp_ne (tgt := 26) dX3_readUser_18 rfl (by decide) (fun c18 => ?_) (fun c18 => ?_)
    · refine Rn.aload_n dX3_readUser_26 rfl rfl ?_
      refine Rn.callV (as := []) v_X3_readNumber l_X3_53 ⟨Nat.le_of_ble_eq_true rfl, Nat.le_of_ble_eq_true rfl⟩ dX3_readUser_27 rfl rfl (Nat.le_of_ble_eq_true rfl) (ht_T hq T _ _ _).1 (ht_T hq T _ _ _).2.2.1 rfl (Nat.le_refl _) (Nat.le_refl _) (t_X3_readNumber (ht_T hq T _ _ _) hln htl (by omega) (fun lb eb gb => ?_) (fun b hb eb qb => ?_)) 
      · refine Rn.heap (ht_tp h hq _ _ _ _ _) ?_
        refine Rn.istore_n dX3_readUser_30 rfl (Nat.le_of_ble_eq_true rfl) ?_
        refine Rn.iload_n dX3_readUser_31 rfl rfl ?_
        refine Rn.bipush dX3_readUser_32 rfl bp_m9 ?_
        refine Rn.icmp_ne (tgt := 42) dX3_readUser_34 rfl (by decide) (fun c34 => ?_) (fun c34 => ?_)
        · exact absurd rfl c34
        · refine Rn.bipush dX3_readUser_37 rfl bp_m9 ?_
          refine Rn.goto (tgt := 46) dX3_readUser_39 (by decide) ?_
          refine Rn.istore dX3_readUser_46 rfl (Nat.le_of_ble_eq_true rfl) ?_
          refine Rn.iload dX3_readUser_48 rfl rfl ?_
          refine Rn.bipush dX3_readUser_50 rfl bp_m9 ?_
          refine Rn.icmp_ne (tgt := 57) dX3_readUser_52 rfl (by decide) (fun c52 => ?_) (fun c52 => ?_)
          · exact absurd rfl c52
          · refine Rn.iconst dX3_readUser_55 rfl ic_0 ?_
            refine Rn.zret dX3_readUser_56 rfl (by decide) rfl rfl ?_
            first | exact k0 _ (ruN_0 ea) (by omega) | exact k0 _ (ruN_1 ea eb) (by omega) | exact k0 _ (ruN_2 ea eb ec) (by omega)
      · refine Rn.heap (ht_tp h hq _ _ _ _ _) ?_
        refine Rn.istore_n dX3_readUser_30 rfl (Nat.le_of_ble_eq_true rfl) ?_
        refine Rn.iload_n dX3_readUser_31 rfl rfl ?_
        refine Rn.bipush dX3_readUser_32 rfl bp_m9 ?_
        refine Rn.icmp_ne (tgt := 42) dX3_readUser_34 rfl (by decide) (fun c34 => ?_) (fun c34 => ?_)
        · refine Rn.aload_n dX3_readUser_42 rfl rfl ?_
          refine Rn.callV (as := []) v_X3_readRowLength l_X3_56 ⟨Nat.le_of_ble_eq_true rfl, Nat.le_of_ble_eq_true rfl⟩ dX3_readUser_43 rfl rfl (Nat.le_of_ble_eq_true rfl) (ht_T hq T _ _ _).1 (ht_T hq T _ _ _).2.2.1 rfl (Nat.le_refl _) (Nat.le_refl _) (t_X3_readRowLength (ht_T hq T _ _ _) hln htl (by omega) (fun lc ec gc => ?_) (fun c gc hc ec qc => ?_)) 
          · refine Rn.heap (ht_tp h hq _ _ _ _ _) ?_
            refine Rn.istore dX3_readUser_46 rfl (Nat.le_of_ble_eq_true rfl) ?_
            refine Rn.iload dX3_readUser_48 rfl rfl ?_
            refine Rn.bipush dX3_readUser_50 rfl bp_m9 ?_
            refine Rn.icmp_ne (tgt := 57) dX3_readUser_52 rfl (by decide) (fun c52 => ?_) (fun c52 => ?_)
            · exact absurd rfl c52
            · refine Rn.iconst dX3_readUser_55 rfl ic_0 ?_
              refine Rn.zret dX3_readUser_56 rfl (by decide) rfl rfl ?_
              first | exact k0 _ (ruN_0 ea) (by omega) | exact k0 _ (ruN_1 ea eb) (by omega) | exact k0 _ (ruN_2 ea eb ec) (by omega)
          · refine Rn.heap (ht_tp h hq _ _ _ _ _) ?_
            refine Rn.istore dX3_readUser_46 rfl (Nat.le_of_ble_eq_true rfl) ?_
            refine Rn.iload dX3_readUser_48 rfl rfl ?_
            refine Rn.bipush dX3_readUser_50 rfl bp_m9 ?_
            refine Rn.icmp_ne (tgt := 57) dX3_readUser_52 rfl (by decide) (fun c52 => ?_) (fun c52 => ?_)
            · refine Rn.aload_n dX3_readUser_57 rfl rfl ?_
              refine Rn.iload_n dX3_readUser_58 rfl rfl ?_
              refine Rn.iload_n dX3_readUser_59 rfl rfl ?_
              refine Rn.iload dX3_readUser_60 rfl rfl ?_
              refine Rn.callV (as := [_, _, _]) v_X0_addUser l_X3_59 ⟨Nat.le_of_ble_eq_true rfl, Nat.le_of_ble_eq_true rfl⟩ dX3_readUser_62 rfl rfl (Nat.le_of_ble_eq_true rfl) (ht_H hq H _ _ _).1 (ht_H hq H _ _ _).2.2.1 rfl (Nat.le_refl _) (Nat.le_refl _) (t_X0_addUser (ht_H hq H _ _ _) h24 ha hb (by omega) ?_) 
              refine Rn.heap (ht_hp _ _ _ _ _ _) ?_
              refine Rn.iconst dX3_readUser_65 rfl ic_1 ?_
              refine Rn.zret dX3_readUser_66 rfl (by decide) rfl rfl ?_
              exact k a b c ha hb gc hc (ruN_3 ea eb ec) (by omega)
            · exact absurd c52 (nI_m9 (by omega))
        · exact absurd c34 (nI_m9 (by omega))
    · exact absurd c18 (nI_m9 (by omega))
theorem t_X3_readDoing {h : rHp} {Q : Option Value → rHp → Prop} {q : Nat} (hq : 1 < q) {t : Nat → Nat} {ln l1 l2 pl : Nat} {pb p : Nat → Nat} (T : Tx h t l1 l2) (H : Hl h q pb) (hln : ln ≤ 80) (htl : ∀ i, t i < 256) (hpl : pl < 200) (O : OKp p) (k0 : ∀ pl', dgN t ln pl p = (0, pl', p) → pl' ≤ pl + 1 → Q (some (.int (bi false))) (ht h q ln pl' p)) (k : ∀ p', dgN t ln pl p = (1, pl + 2, p') → OKp p' → pl + 1 < ln → Q (some (.int (bi true))) (ht h q ln (pl + 2) p')) : Cl M_X3_readDoing h.1 h.2.1 [.ref 1, .ref q] (ht h q ln pl p) Q := by
  refine Cl.of pl_X3 (Nat.le_of_ble_eq_true rfl) (by first | exact Nat.le_refl _ | omega) (by first | exact Nat.le_refl _ | omega) ?_
  refine Rn.aload_n dX3_readDoing_0 rfl rfl ?_
  refine Rn.bipush dX3_readDoing_1 rfl bp_115 ?_
  refine Rn.callV (as := [_]) v_X3_isNext l_X3_27 ⟨Nat.le_of_ble_eq_true rfl, Nat.le_of_ble_eq_true rfl⟩ dX3_readDoing_3 rfl rfl (Nat.le_of_ble_eq_true rfl) (ht_T hq T _ _ _).1 (ht_T hq T _ _ _).2.2.1 rfl (Nat.le_refl _) (Nat.le_refl _) (t_X3_isNext (ht_T hq T _ _ _) hln htl (by omega) (by omega) ?_) 
  refine Rn.istore_n dX3_readDoing_6 rfl (Nat.le_of_ble_eq_true rfl) ?_
  refine Rn.iload_n dX3_readDoing_7 rfl rfl ?_
  refine Rn.if_neB (tgt := 20) dX3_readDoing_8 rfl (by decide) (fun c8 => ?_) (fun c8 => ?_)
  · refine Rn.aload_n dX3_readDoing_20 rfl rfl ?_
    refine Rn.callV (as := []) v_X0_anyHasOwn l_X3_63 ⟨Nat.le_of_ble_eq_true rfl, Nat.le_of_ble_eq_true rfl⟩ dX3_readDoing_21 rfl rfl (Nat.le_of_ble_eq_true rfl) (ht_H hq H _ _ _).1 (ht_H hq H _ _ _).2.2.1 rfl (Nat.le_refl _) (Nat.le_refl _) (t_X0_anyHasOwn (ht_H hq H _ _ _) O ?_) 
    refine Rn.if_neB (tgt := 29) dX3_readDoing_24 rfl (by decide) (fun c24 => ?_) (fun c24 => ?_)
    · refine Rn.aload_n dX3_readDoing_29 rfl rfl ?_
      refine Rn.dup dX3_readDoing_30 rfl rfl ?_
      refine Rn.getf f_X3_19 dX3_readDoing_31 rfl (ht_T hq T _ _ _).1 (ht_T hq T _ _ _).2.2.1 rfl ?_
      refine Rn.iconst dX3_readDoing_34 rfl ic_1 ?_
      refine Rn.iaddN dX3_readDoing_35 rfl ?_
      refine Rn.putf p_X3_19 (fun h => by cases h) dX3_readDoing_36 rfl (ht_T hq T _ _ _).1 (ht_T hq T _ _ _).2.2.1 (fun g => ⟨rfl, rfl⟩) (Nat.le_of_ble_eq_true rfl) ?_
      refine Rn.heap (ht_tp h hq _ _ _ _ _) ?_
      refine Rn.aload_n dX3_readDoing_39 rfl rfl ?_
      refine Rn.callV (as := []) v_X3_nextLetter l_X3_50 ⟨Nat.le_of_ble_eq_true rfl, Nat.le_of_ble_eq_true rfl⟩ dX3_readDoing_40 rfl rfl (Nat.le_of_ble_eq_true rfl) (ht_T hq T _ _ _).1 (ht_T hq T _ _ _).2.2.1 rfl (Nat.le_refl _) (Nat.le_refl _) (t_X3_nextLetter (ht_T hq T _ _ _) hln htl (by omega) ?_) 
      refine Rn.bipush dX3_readDoing_43 rfl bp_48 ?_
      refine Rn.isub dX3_readDoing_45 rfl ?_
      refine Rn.istore_n dX3_readDoing_46 rfl (Nat.le_of_ble_eq_true rfl) ?_
      refine Rn.aload_n dX3_readDoing_47 rfl rfl ?_
      refine Rn.iload_n dX3_readDoing_48 rfl rfl ?_
      refine Rn.callV (as := [_]) v_X0_hasOwn l_X3_67 ⟨Nat.le_of_ble_eq_true rfl, Nat.le_of_ble_eq_true rfl⟩ dX3_readDoing_49 rfl rfl (Nat.le_of_ble_eq_true rfl) (ht_H hq H _ _ _).1 (ht_H hq H _ _ _).2.2.1 rfl (Nat.le_refl _) (Nat.le_refl _) (t_X0_hasOwn (ht_H hq H _ _ _) O ?_) 
      refine Rn.top (congrArg bi (uNo_B O htl)) ?_
      refine Rn.if_neB (tgt := 57) dX3_readDoing_52 rfl (by decide) (fun c52 => ?_) (fun c52 => ?_)
      · obtain ⟨a, ea⟩ : ∃ a, uNo t ln (pl + 1) p = a + 1 := ⟨uNo t ln (pl + 1) p - 1, by have := of_decide_eq_true c52; omega⟩
        obtain ⟨va, vl, v4, vo⟩ := uNo_val O htl ea
        rw [va]
        refine Rn.aload_n dX3_readDoing_57 rfl rfl ?_
        refine Rn.dup dX3_readDoing_58 rfl rfl ?_
        refine Rn.getf f_X3_19 dX3_readDoing_59 rfl (ht_T hq T _ _ _).1 (ht_T hq T _ _ _).2.2.1 rfl ?_
        refine Rn.iconst dX3_readDoing_62 rfl ic_1 ?_
        refine Rn.iaddN dX3_readDoing_63 rfl ?_
        refine Rn.putf p_X3_19 (fun h => by cases h) dX3_readDoing_64 rfl (ht_T hq T _ _ _).1 (ht_T hq T _ _ _).2.2.1 (fun g => ⟨rfl, rfl⟩) (Nat.le_of_ble_eq_true rfl) ?_
        refine Rn.heap (ht_tp h hq _ _ _ _ _) ?_
        refine Rn.iload_n dX3_readDoing_67 rfl rfl ?_
        refine Rn.if_eqB (tgt := 80) dX3_readDoing_68 rfl (by decide) (fun c68 => ?_) (fun c68 => ?_)
        · refine Rn.aload_n dX3_readDoing_80 rfl rfl ?_
          refine Rn.iload_n dX3_readDoing_81 rfl rfl ?_
          refine Rn.callV (as := [_]) v_X0_spendPass l_X3_74 ⟨Nat.le_of_ble_eq_true rfl, Nat.le_of_ble_eq_true rfl⟩ dX3_readDoing_82 rfl rfl (Nat.le_of_ble_eq_true rfl) (ht_H hq H _ _ _).1 (ht_H hq H _ _ _).2.2.1 rfl (Nat.le_refl _) (Nat.le_refl _) (t_X0_spendPass (ht_H hq H _ _ _) O (by omega) ?_) 
          refine Rn.heap (ht_hp _ _ _ _ _ _) ?_
          refine Rn.pop dX3_readDoing_85 rfl rfl ?_
          refine Rn.iconst dX3_readDoing_86 rfl ic_1 ?_
          refine Rn.zret dX3_readDoing_87 rfl (by decide) rfl rfl ?_
          first | exact k _ (dgN_2 (of_decide_eq_true c8) c24 ea) (OK_se O v4) (by omega) | exact k _ (dgN_3 (of_decide_eq_true c17) c24 ea) (OK_sp O v4) (by omega) | exact absurd (c8.symm.trans c68) (by decide)
        · refine Rn.aload_n dX3_readDoing_71 rfl rfl ?_
          refine Rn.iload_n dX3_readDoing_72 rfl rfl ?_
          refine Rn.callV (as := [_]) v_X0_sendPass l_X3_70 ⟨Nat.le_of_ble_eq_true rfl, Nat.le_of_ble_eq_true rfl⟩ dX3_readDoing_73 rfl rfl (Nat.le_of_ble_eq_true rfl) (ht_H hq H _ _ _).1 (ht_H hq H _ _ _).2.2.1 rfl (Nat.le_refl _) (Nat.le_refl _) (t_X0_sendPass (ht_H hq H _ _ _) O (by omega) ?_) 
          refine Rn.heap (ht_hp _ _ _ _ _ _) ?_
          refine Rn.pop dX3_readDoing_76 rfl rfl ?_
          refine Rn.goto (tgt := 86) dX3_readDoing_77 (by decide) ?_
          refine Rn.iconst dX3_readDoing_86 rfl ic_1 ?_
          refine Rn.zret dX3_readDoing_87 rfl (by decide) rfl rfl ?_
          first | exact k _ (dgN_2 (of_decide_eq_true c8) c24 ea) (OK_se O v4) (by omega) | exact k _ (dgN_3 (of_decide_eq_true c17) c24 ea) (OK_sp O v4) (by omega) | exact absurd (c8.symm.trans c68) (by decide)
      · refine Rn.iconst dX3_readDoing_55 rfl ic_0 ?_
        refine Rn.zret dX3_readDoing_56 rfl (by decide) rfl rfl ?_
        first | exact k0 _ (dgN_0 (fun z => by have z1 := z.2; rw [c24] at z1; cases z1)) (by omega) | exact k0 _ (dgN_0 (fun z => z.1.elim (of_decide_eq_false c8) (of_decide_eq_false c17))) (by omega) | exact k0 _ (dgN_1 ⟨Or.inl (of_decide_eq_true c8), c24⟩ (Classical.byContradiction fun z => absurd (decide_eq_true z) (by rw [c52]; decide))) (by omega) | exact k0 _ (dgN_1 ⟨Or.inr (of_decide_eq_true c17), c24⟩ (Classical.byContradiction fun z => absurd (decide_eq_true z) (by rw [c52]; decide))) (by omega)
    · refine Rn.iconst dX3_readDoing_27 rfl ic_0 ?_
      refine Rn.zret dX3_readDoing_28 rfl (by decide) rfl rfl ?_
      first | exact k0 _ (dgN_0 (fun z => by have z1 := z.2; rw [c24] at z1; cases z1)) (by omega) | exact k0 _ (dgN_0 (fun z => z.1.elim (of_decide_eq_false c8) (of_decide_eq_false c17))) (by omega) | exact k0 _ (dgN_1 ⟨Or.inl (of_decide_eq_true c8), c24⟩ (Classical.byContradiction fun z => absurd (decide_eq_true z) (by rw [c52]; decide))) (by omega) | exact k0 _ (dgN_1 ⟨Or.inr (of_decide_eq_true c17), c24⟩ (Classical.byContradiction fun z => absurd (decide_eq_true z) (by rw [c52]; decide))) (by omega)
  · refine Rn.aload_n dX3_readDoing_11 rfl rfl ?_
    refine Rn.bipush dX3_readDoing_12 rfl bp_109 ?_
    refine Rn.callV (as := [_]) v_X3_isNext l_X3_27 ⟨Nat.le_of_ble_eq_true rfl, Nat.le_of_ble_eq_true rfl⟩ dX3_readDoing_14 rfl rfl (Nat.le_of_ble_eq_true rfl) (ht_T hq T _ _ _).1 (ht_T hq T _ _ _).2.2.1 rfl (Nat.le_refl _) (Nat.le_refl _) (t_X3_isNext (ht_T hq T _ _ _) hln htl (by omega) (by omega) ?_) 
    refine Rn.if_eqB (tgt := 27) dX3_readDoing_17 rfl (by decide) (fun c17 => ?_) (fun c17 => ?_)
    · refine Rn.iconst dX3_readDoing_27 rfl ic_0 ?_
      refine Rn.zret dX3_readDoing_28 rfl (by decide) rfl rfl ?_
      first | exact k0 _ (dgN_0 (fun z => by have z1 := z.2; rw [c24] at z1; cases z1)) (by omega) | exact k0 _ (dgN_0 (fun z => z.1.elim (of_decide_eq_false c8) (of_decide_eq_false c17))) (by omega) | exact k0 _ (dgN_1 ⟨Or.inl (of_decide_eq_true c8), c24⟩ (Classical.byContradiction fun z => absurd (decide_eq_true z) (by rw [c52]; decide))) (by omega) | exact k0 _ (dgN_1 ⟨Or.inr (of_decide_eq_true c17), c24⟩ (Classical.byContradiction fun z => absurd (decide_eq_true z) (by rw [c52]; decide))) (by omega)
    · refine Rn.aload_n dX3_readDoing_20 rfl rfl ?_
      refine Rn.callV (as := []) v_X0_anyHasOwn l_X3_63 ⟨Nat.le_of_ble_eq_true rfl, Nat.le_of_ble_eq_true rfl⟩ dX3_readDoing_21 rfl rfl (Nat.le_of_ble_eq_true rfl) (ht_H hq H _ _ _).1 (ht_H hq H _ _ _).2.2.1 rfl (Nat.le_refl _) (Nat.le_refl _) (t_X0_anyHasOwn (ht_H hq H _ _ _) O ?_) 
      refine Rn.if_neB (tgt := 29) dX3_readDoing_24 rfl (by decide) (fun c24 => ?_) (fun c24 => ?_)
      · refine Rn.aload_n dX3_readDoing_29 rfl rfl ?_
        refine Rn.dup dX3_readDoing_30 rfl rfl ?_
        refine Rn.getf f_X3_19 dX3_readDoing_31 rfl (ht_T hq T _ _ _).1 (ht_T hq T _ _ _).2.2.1 rfl ?_
        refine Rn.iconst dX3_readDoing_34 rfl ic_1 ?_
        refine Rn.iaddN dX3_readDoing_35 rfl ?_
        refine Rn.putf p_X3_19 (fun h => by cases h) dX3_readDoing_36 rfl (ht_T hq T _ _ _).1 (ht_T hq T _ _ _).2.2.1 (fun g => ⟨rfl, rfl⟩) (Nat.le_of_ble_eq_true rfl) ?_
        refine Rn.heap (ht_tp h hq _ _ _ _ _) ?_
        refine Rn.aload_n dX3_readDoing_39 rfl rfl ?_
        refine Rn.callV (as := []) v_X3_nextLetter l_X3_50 ⟨Nat.le_of_ble_eq_true rfl, Nat.le_of_ble_eq_true rfl⟩ dX3_readDoing_40 rfl rfl (Nat.le_of_ble_eq_true rfl) (ht_T hq T _ _ _).1 (ht_T hq T _ _ _).2.2.1 rfl (Nat.le_refl _) (Nat.le_refl _) (t_X3_nextLetter (ht_T hq T _ _ _) hln htl (by omega) ?_) 
        refine Rn.bipush dX3_readDoing_43 rfl bp_48 ?_
        refine Rn.isub dX3_readDoing_45 rfl ?_
        refine Rn.istore_n dX3_readDoing_46 rfl (Nat.le_of_ble_eq_true rfl) ?_
        refine Rn.aload_n dX3_readDoing_47 rfl rfl ?_
        refine Rn.iload_n dX3_readDoing_48 rfl rfl ?_
        refine Rn.callV (as := [_]) v_X0_hasOwn l_X3_67 ⟨Nat.le_of_ble_eq_true rfl, Nat.le_of_ble_eq_true rfl⟩ dX3_readDoing_49 rfl rfl (Nat.le_of_ble_eq_true rfl) (ht_H hq H _ _ _).1 (ht_H hq H _ _ _).2.2.1 rfl (Nat.le_refl _) (Nat.le_refl _) (t_X0_hasOwn (ht_H hq H _ _ _) O ?_) 
        refine Rn.top (congrArg bi (uNo_B O htl)) ?_
        refine Rn.if_neB (tgt := 57) dX3_readDoing_52 rfl (by decide) (fun c52 => ?_) (fun c52 => ?_)
        · obtain ⟨a, ea⟩ : ∃ a, uNo t ln (pl + 1) p = a + 1 := ⟨uNo t ln (pl + 1) p - 1, by have := of_decide_eq_true c52; omega⟩
          obtain ⟨va, vl, v4, vo⟩ := uNo_val O htl ea
          rw [va]
          refine Rn.aload_n dX3_readDoing_57 rfl rfl ?_
          refine Rn.dup dX3_readDoing_58 rfl rfl ?_
          refine Rn.getf f_X3_19 dX3_readDoing_59 rfl (ht_T hq T _ _ _).1 (ht_T hq T _ _ _).2.2.1 rfl ?_
          refine Rn.iconst dX3_readDoing_62 rfl ic_1 ?_
          refine Rn.iaddN dX3_readDoing_63 rfl ?_
          refine Rn.putf p_X3_19 (fun h => by cases h) dX3_readDoing_64 rfl (ht_T hq T _ _ _).1 (ht_T hq T _ _ _).2.2.1 (fun g => ⟨rfl, rfl⟩) (Nat.le_of_ble_eq_true rfl) ?_
          refine Rn.heap (ht_tp h hq _ _ _ _ _) ?_
          refine Rn.iload_n dX3_readDoing_67 rfl rfl ?_
          refine Rn.if_eqB (tgt := 80) dX3_readDoing_68 rfl (by decide) (fun c68 => ?_) (fun c68 => ?_)
          · refine Rn.aload_n dX3_readDoing_80 rfl rfl ?_
            refine Rn.iload_n dX3_readDoing_81 rfl rfl ?_
            refine Rn.callV (as := [_]) v_X0_spendPass l_X3_74 ⟨Nat.le_of_ble_eq_true rfl, Nat.le_of_ble_eq_true rfl⟩ dX3_readDoing_82 rfl rfl (Nat.le_of_ble_eq_true rfl) (ht_H hq H _ _ _).1 (ht_H hq H _ _ _).2.2.1 rfl (Nat.le_refl _) (Nat.le_refl _) (t_X0_spendPass (ht_H hq H _ _ _) O (by omega) ?_) 
            refine Rn.heap (ht_hp _ _ _ _ _ _) ?_
            refine Rn.pop dX3_readDoing_85 rfl rfl ?_
            refine Rn.iconst dX3_readDoing_86 rfl ic_1 ?_
            refine Rn.zret dX3_readDoing_87 rfl (by decide) rfl rfl ?_
            first | exact k _ (dgN_2 (of_decide_eq_true c8) c24 ea) (OK_se O v4) (by omega) | exact k _ (dgN_3 (of_decide_eq_true c17) c24 ea) (OK_sp O v4) (by omega) | exact absurd (c8.symm.trans c68) (by decide)
          · refine Rn.aload_n dX3_readDoing_71 rfl rfl ?_
            refine Rn.iload_n dX3_readDoing_72 rfl rfl ?_
            refine Rn.callV (as := [_]) v_X0_sendPass l_X3_70 ⟨Nat.le_of_ble_eq_true rfl, Nat.le_of_ble_eq_true rfl⟩ dX3_readDoing_73 rfl rfl (Nat.le_of_ble_eq_true rfl) (ht_H hq H _ _ _).1 (ht_H hq H _ _ _).2.2.1 rfl (Nat.le_refl _) (Nat.le_refl _) (t_X0_sendPass (ht_H hq H _ _ _) O (by omega) ?_) 
            refine Rn.heap (ht_hp _ _ _ _ _ _) ?_
            refine Rn.pop dX3_readDoing_76 rfl rfl ?_
            refine Rn.goto (tgt := 86) dX3_readDoing_77 (by decide) ?_
            refine Rn.iconst dX3_readDoing_86 rfl ic_1 ?_
            refine Rn.zret dX3_readDoing_87 rfl (by decide) rfl rfl ?_
            first | exact k _ (dgN_2 (of_decide_eq_true c8) c24 ea) (OK_se O v4) (by omega) | exact k _ (dgN_3 (of_decide_eq_true c17) c24 ea) (OK_sp O v4) (by omega) | exact absurd (c8.symm.trans c68) (by decide)
        · refine Rn.iconst dX3_readDoing_55 rfl ic_0 ?_
          refine Rn.zret dX3_readDoing_56 rfl (by decide) rfl rfl ?_
          first | exact k0 _ (dgN_0 (fun z => by have z1 := z.2; rw [c24] at z1; cases z1)) (by omega) | exact k0 _ (dgN_0 (fun z => z.1.elim (of_decide_eq_false c8) (of_decide_eq_false c17))) (by omega) | exact k0 _ (dgN_1 ⟨Or.inl (of_decide_eq_true c8), c24⟩ (Classical.byContradiction fun z => absurd (decide_eq_true z) (by rw [c52]; decide))) (by omega) | exact k0 _ (dgN_1 ⟨Or.inr (of_decide_eq_true c17), c24⟩ (Classical.byContradiction fun z => absurd (decide_eq_true z) (by rw [c52]; decide))) (by omega)
      · refine Rn.iconst dX3_readDoing_27 rfl ic_0 ?_
        refine Rn.zret dX3_readDoing_28 rfl (by decide) rfl rfl ?_
        first | exact k0 _ (dgN_0 (fun z => by have z1 := z.2; rw [c24] at z1; cases z1)) (by omega) | exact k0 _ (dgN_0 (fun z => z.1.elim (of_decide_eq_false c8) (of_decide_eq_false c17))) (by omega) | exact k0 _ (dgN_1 ⟨Or.inl (of_decide_eq_true c8), c24⟩ (Classical.byContradiction fun z => absurd (decide_eq_true z) (by rw [c52]; decide))) (by omega) | exact k0 _ (dgN_1 ⟨Or.inr (of_decide_eq_true c17), c24⟩ (Classical.byContradiction fun z => absurd (decide_eq_true z) (by rw [c52]; decide))) (by omega)
theorem t_X3_readInto {h : rHp} {Q : Option Value → rHp → Prop} {q : Nat} (hq : 1 < q) {t : Nat → Nat} {ln l1 l2 pl0 : Nat} {pb pp : Nat → Nat} (T : Tx h t l1 l2) (H : Hl h q pb) (hln : ln ≤ 80) (htl : ∀ i, t i < 256) (k : Q (some (.int (wi (rIn t ln).1))) (ht h q ln (rIn t ln).2.1 (rIn t ln).2.2)) : Cl M_X3_readInto h.1 h.2.1 [.ref 1, .ref q] (ht h q ln pl0 pp) Q := by
  refine Cl.of pl_X3 (Nat.le_of_ble_eq_true rfl) (by first | exact Nat.le_refl _ | omega) (by first | exact Nat.le_refl _ | omega) ?_
  refine Rn.aload_n dX3_readInto_0 rfl rfl ?_
  refine Rn.callV (as := []) v_X0_clear l_X3_22 ⟨Nat.le_of_ble_eq_true rfl, Nat.le_of_ble_eq_true rfl⟩ dX3_readInto_1 rfl rfl (Nat.le_of_ble_eq_true rfl) (ht_H hq H _ _ _).1 (ht_H hq H _ _ _).2.2.1 rfl (Nat.le_refl _) (Nat.le_refl _) (t_X0_clear (ht_H hq H _ _ _) ?_) 
  refine Rn.heap (ht_hp _ _ _ _ _ _) ?_
  refine Rn.aload_n dX3_readInto_4 rfl rfl ?_
  refine Rn.iconst dX3_readInto_5 rfl ic_0 ?_
  refine Rn.putf p_X3_19 (fun h => by cases h) dX3_readInto_6 rfl (ht_T hq T _ _ _).1 (ht_T hq T _ _ _).2.2.1 (fun g => ⟨rfl, rfl⟩) (Nat.le_of_ble_eq_true rfl) ?_
  refine Rn.heap (ht_tp h hq _ _ _ _ _) ?_
  refine Rn.aload_n dX3_readInto_9 rfl rfl ?_
  refine Rn.bipush dX3_readInto_10 rfl bp_83 ?_
  refine Rn.callV (as := [_]) v_X3_isNext l_X3_27 ⟨Nat.le_of_ble_eq_true rfl, Nat.le_of_ble_eq_true rfl⟩ dX3_readInto_12 rfl rfl (Nat.le_of_ble_eq_true rfl) (ht_T hq T _ _ _).1 (ht_T hq T _ _ _).2.2.1 rfl (Nat.le_refl _) (Nat.le_refl _) (t_X3_isNext (ht_T hq T _ _ _) hln htl (by omega) (by omega) ?_) 
  refine Rn.if_neB (tgt := 23) dX3_readInto_15 rfl (by decide) (fun c15 => ?_) (fun c15 => ?_)
  · refine Rn.aload_n dX3_readInto_23 rfl rfl ?_
    refine Rn.dup dX3_readInto_24 rfl rfl ?_
    refine Rn.getf f_X3_19 dX3_readInto_25 rfl (ht_T hq T _ _ _).1 (ht_T hq T _ _ _).2.2.1 rfl ?_
    refine Rn.iconst dX3_readInto_28 rfl ic_1 ?_
    refine Rn.iaddN dX3_readInto_29 rfl ?_
    refine Rn.putf p_X3_19 (fun h => by cases h) dX3_readInto_30 rfl (ht_T hq T _ _ _).1 (ht_T hq T _ _ _).2.2.1 (fun g => ⟨rfl, rfl⟩) (Nat.le_of_ble_eq_true rfl) ?_
    refine Rn.heap (ht_tp h hq _ _ _ _ _) ?_
    refine Rn.aload_n dX3_readInto_33 rfl rfl ?_
    refine Rn.iconst dX3_readInto_34 rfl ic_1 ?_
    refine Rn.bipush dX3_readInto_35 rfl bp_6 ?_
    refine Rn.callV (as := [_, _]) v_X3_readFigure l_X3_31 ⟨Nat.le_of_ble_eq_true rfl, Nat.le_of_ble_eq_true rfl⟩ dX3_readInto_37 rfl rfl (Nat.le_of_ble_eq_true rfl) (ht_T hq T _ _ _).1 (ht_T hq T _ _ _).2.2.1 rfl (Nat.le_refl _) (Nat.le_refl _) (t_X3_readFigure (ht_T hq T _ _ _) hln htl (by omega) (by omega) (by omega) (fun e1 => ?_) (fun a ha ga qa e1 => ?_)) 
    · refine Rn.istore_n dX3_readInto_40 rfl (Nat.le_of_ble_eq_true rfl) ?_
      refine Rn.iload_n dX3_readInto_41 rfl rfl ?_
      refine Rn.bipush dX3_readInto_42 rfl bp_m9 ?_
      refine Rn.icmp_ne (tgt := 52) dX3_readInto_44 rfl (by decide) (fun c44 => ?_) (fun c44 => ?_)
      · exact absurd rfl c44
      · refine Rn.aload_n dX3_readInto_47 rfl rfl ?_
        refine Rn.getf f_X3_19 dX3_readInto_48 rfl (ht_T hq T _ _ _).1 (ht_T hq T _ _ _).2.2.1 rfl ?_
        refine Rn.iret dX3_readInto_51 rfl rfl rfl ?_
        have e9 : rIn t ln = (2, 1, p0) := by unfold rIn; rw [if_pos (of_decide_eq_true c15), if_pos e1]
        rw [e9] at k
        exact k
    · refine Rn.heap (ht_tp h hq _ _ _ _ _) ?_
      refine Rn.istore_n dX3_readInto_40 rfl (Nat.le_of_ble_eq_true rfl) ?_
      refine Rn.iload_n dX3_readInto_41 rfl rfl ?_
      refine Rn.bipush dX3_readInto_42 rfl bp_m9 ?_
      refine Rn.icmp_ne (tgt := 52) dX3_readInto_44 rfl (by decide) (fun c44 => ?_) (fun c44 => ?_)
      · refine Rn.aload_n dX3_readInto_52 rfl rfl ?_
        refine Rn.iload_n dX3_readInto_53 rfl rfl ?_
        refine Rn.callV (as := [_]) v_X0_setWindow l_X3_35 ⟨Nat.le_of_ble_eq_true rfl, Nat.le_of_ble_eq_true rfl⟩ dX3_readInto_54 rfl rfl (Nat.le_of_ble_eq_true rfl) (ht_H hq H _ _ _).1 (ht_H hq H _ _ _).2.2.1 rfl (Nat.le_refl _) (Nat.le_refl _) (t_X0_setWindow (ht_H hq H _ _ _) ?_) 
        refine Rn.heap (ht_hp _ _ _ _ _ _) ?_
        refine Rn.iconst dX3_readInto_57 rfl ic_1 ?_
        refine Rn.istore_n dX3_readInto_58 rfl (Nat.le_of_ble_eq_true rfl) ?_
        refine Rn.iconst dX3_readInto_59 rfl ic_0 ?_
        refine Rn.istore dX3_readInto_60 rfl (Nat.le_of_ble_eq_true rfl) ?_
        have hloop : ∀ (m : Nat) (n kk pl : Nat) (p : Nat → Nat) (ou : Bool), n < m → kk + n = 80 → pl ≤ ln → OKp p → lpR t ln n pl p ou = rIn t ln → Rn (M_X3_readInto, none, h.1, h.2.1) Q 62 [(0, .ref 1), (1, .ref q), (3, .int (bi ou)), (4, .int (nI kk))] [] (ht h q ln pl p) := by
          intro m
          induction m with
          | zero => intro n kk pl p ou h0 h1 h2 h3 h4; exact absurd h0 (Nat.not_lt_zero _)
          | succ m ih =>
            intro n kk pl p ou h0 h1 h2 h3 h4
            refine Rn.iload dX3_readInto_62 rfl rfl ?_
            refine Rn.bipush dX3_readInto_64 rfl bp_80 ?_
            refine Rn.icmp_geN (tgt := 141) dX3_readInto_66 rfl (by decide) (by omega) (by omega) (fun c66 => ?_) (fun c66 => ?_)
            · obtain rfl : n = 0 := by omega
              refine Rn.bipush dX3_readInto_141 rfl bp_m9 ?_
              refine Rn.iret dX3_readInto_143 rfl rfl rfl ?_
              have e9 : rIn t ln = (0, pl, p) := by rw [← h4]; first | rfl | exact lpR_e c77
              rw [e9] at k
              exact k
            · obtain ⟨n, rfl⟩ : ∃ n', n = n' + 1 := ⟨n - 1, by omega⟩
              refine Rn.aload_n dX3_readInto_69 rfl rfl ?_
              refine Rn.getf f_X3_19 dX3_readInto_70 rfl (ht_T hq T _ _ _).1 (ht_T hq T _ _ _).2.2.1 rfl ?_
              refine Rn.aload_n dX3_readInto_73 rfl rfl ?_
              refine Rn.getf f_X3_15 dX3_readInto_74 rfl (ht_T hq T _ _ _).1 (ht_T hq T _ _ _).2.2.1 rfl ?_
              refine Rn.icmp_geN (tgt := 141) dX3_readInto_77 rfl (by decide) (by omega) (by omega) (fun c77 => ?_) (fun c77 => ?_)
              · refine Rn.bipush dX3_readInto_141 rfl bp_m9 ?_
                refine Rn.iret dX3_readInto_143 rfl rfl rfl ?_
                have e9 : rIn t ln = (0, pl, p) := by rw [← h4]; first | rfl | exact lpR_e c77
                rw [e9] at k
                exact k
              · refine Rn.iload_n dX3_readInto_80 rfl rfl ?_
                refine Rn.if_eqB (tgt := 105) dX3_readInto_81 rfl (by decide) (fun c81 => ?_) (fun c81 => ?_)
                · refine Rn.iconst dX3_readInto_105 rfl ic_0 ?_
                  have OP := h3
                  refine Rn.istore_n dX3_readInto_106 rfl (Nat.le_of_ble_eq_true rfl) ?_
                  refine Rn.iload_n dX3_readInto_107 rfl rfl ?_
                  refine Rn.if_eqN (tgt := 122) dX3_readInto_108 rfl (by decide) (by omega) (fun c108 => ?_) (fun c108 => ?_)
                  · refine Rn.aload_n dX3_readInto_122 rfl rfl ?_
                    refine Rn.aload_n dX3_readInto_123 rfl rfl ?_
                    refine Rn.callV (as := [_]) v_X3_readDoing l_X3_47 ⟨Nat.le_of_ble_eq_true rfl, Nat.le_of_ble_eq_true rfl⟩ dX3_readInto_124 rfl rfl (Nat.le_of_ble_eq_true rfl) (ht_T hq T _ _ _).1 (ht_T hq T _ _ _).2.2.1 rfl (Nat.le_refl _) (Nat.le_refl _) (t_X3_readDoing hq T H hln htl (by omega) OP (fun le ee ge => ?_) (fun p' ee OP' qe => ?_)) 
                    · refine Rn.if_neB (tgt := 135) dX3_readInto_127 rfl (by decide) (fun c127 => ?_) (fun c127 => ?_)
                      · exact absurd c127 (by decide)
                      · refine Rn.aload_n dX3_readInto_130 rfl rfl ?_
                        refine Rn.getf f_X3_19 dX3_readInto_131 rfl (ht_T hq T _ _ _).1 (ht_T hq T _ _ _).2.2.1 rfl ?_
                        refine Rn.iret dX3_readInto_134 rfl rfl rfl ?_
                        have e9 : rIn t ln = (le + 1, le, p) := by rw [← h4]; exact lpR_d0 c77 (fun z => by first | omega | exact absurd z.1 (by rw [c81]; decide) | exact absurd z.2.2 (of_decide_eq_false c98)) ee
                        rw [e9] at k
                        exact k
                    · refine Rn.if_neB (tgt := 135) dX3_readInto_127 rfl (by decide) (fun c127 => ?_) (fun c127 => ?_)
                      · refine Rn.iincN dX3_readInto_135 rfl rfl (Nat.le_of_ble_eq_true rfl) ?_
                        refine Rn.goto (tgt := 62) dX3_readInto_138 (by decide) ?_
                        exact Rn.pick [2, 3, 1, 0] rfl (ih n (kk + 1) _ _ false (by omega) (by omega) (by omega) OP' (by rw [← h4]; exact (lpR_d1 c77 (fun z => by first | omega | exact absurd z.1 (by rw [c81]; decide) | exact absurd z.2.2 (of_decide_eq_false c98)) ee).symm))
                      · exact absurd c127 (by decide)
                  · first | omega | exact False.elim c108
                · have h24 := h3.1
                  refine Rn.aload_n dX3_readInto_84 rfl rfl ?_
                  refine Rn.callV (as := []) v_X0_users l_X3_39 ⟨Nat.le_of_ble_eq_true rfl, Nat.le_of_ble_eq_true rfl⟩ dX3_readInto_85 rfl rfl (Nat.le_of_ble_eq_true rfl) (ht_H hq H _ _ _).1 (ht_H hq H _ _ _).2.2.1 rfl (Nat.le_refl _) (Nat.le_refl _) (t_X0_users (ht_H hq H _ _ _) ?_) 
                  refine Rn.iconst dX3_readInto_88 rfl ic_4 ?_
                  refine Rn.icmp_geN (tgt := 105) dX3_readInto_89 rfl (by decide) (by omega) (by omega) (fun c89 => ?_) (fun c89 => ?_)
                  · refine Rn.iconst dX3_readInto_105 rfl ic_0 ?_
                    have OP := h3
                    refine Rn.istore_n dX3_readInto_106 rfl (Nat.le_of_ble_eq_true rfl) ?_
                    refine Rn.iload_n dX3_readInto_107 rfl rfl ?_
                    refine Rn.if_eqN (tgt := 122) dX3_readInto_108 rfl (by decide) (by omega) (fun c108 => ?_) (fun c108 => ?_)
                    · refine Rn.aload_n dX3_readInto_122 rfl rfl ?_
                      refine Rn.aload_n dX3_readInto_123 rfl rfl ?_
                      refine Rn.callV (as := [_]) v_X3_readDoing l_X3_47 ⟨Nat.le_of_ble_eq_true rfl, Nat.le_of_ble_eq_true rfl⟩ dX3_readInto_124 rfl rfl (Nat.le_of_ble_eq_true rfl) (ht_T hq T _ _ _).1 (ht_T hq T _ _ _).2.2.1 rfl (Nat.le_refl _) (Nat.le_refl _) (t_X3_readDoing hq T H hln htl (by omega) OP (fun le ee ge => ?_) (fun p' ee OP' qe => ?_)) 
                      · refine Rn.if_neB (tgt := 135) dX3_readInto_127 rfl (by decide) (fun c127 => ?_) (fun c127 => ?_)
                        · exact absurd c127 (by decide)
                        · refine Rn.aload_n dX3_readInto_130 rfl rfl ?_
                          refine Rn.getf f_X3_19 dX3_readInto_131 rfl (ht_T hq T _ _ _).1 (ht_T hq T _ _ _).2.2.1 rfl ?_
                          refine Rn.iret dX3_readInto_134 rfl rfl rfl ?_
                          have e9 : rIn t ln = (le + 1, le, p) := by rw [← h4]; exact lpR_d0 c77 (fun z => by first | omega | exact absurd z.1 (by rw [c81]; decide) | exact absurd z.2.2 (of_decide_eq_false c98)) ee
                          rw [e9] at k
                          exact k
                      · refine Rn.if_neB (tgt := 135) dX3_readInto_127 rfl (by decide) (fun c127 => ?_) (fun c127 => ?_)
                        · refine Rn.iincN dX3_readInto_135 rfl rfl (Nat.le_of_ble_eq_true rfl) ?_
                          refine Rn.goto (tgt := 62) dX3_readInto_138 (by decide) ?_
                          exact Rn.pick [2, 3, 1, 0] rfl (ih n (kk + 1) _ _ false (by omega) (by omega) (by omega) OP' (by rw [← h4]; exact (lpR_d1 c77 (fun z => by first | omega | exact absurd z.1 (by rw [c81]; decide) | exact absurd z.2.2 (of_decide_eq_false c98)) ee).symm))
                        · exact absurd c127 (by decide)
                    · first | omega | exact False.elim c108
                  · have c89' : p 24 < 4 := by omega
                    refine Rn.aload_n dX3_readInto_92 rfl rfl ?_
                    refine Rn.bipush dX3_readInto_93 rfl bp_117 ?_
                    refine Rn.callV (as := [_]) v_X3_isNext l_X3_27 ⟨Nat.le_of_ble_eq_true rfl, Nat.le_of_ble_eq_true rfl⟩ dX3_readInto_95 rfl rfl (Nat.le_of_ble_eq_true rfl) (ht_T hq T _ _ _).1 (ht_T hq T _ _ _).2.2.1 rfl (Nat.le_refl _) (Nat.le_refl _) (t_X3_isNext (ht_T hq T _ _ _) hln htl (by omega) (by omega) ?_) 
                    refine Rn.if_eqB (tgt := 105) dX3_readInto_98 rfl (by decide) (fun c98 => ?_) (fun c98 => ?_)
                    · refine Rn.iconst dX3_readInto_105 rfl ic_0 ?_
                      have OP := h3
                      refine Rn.istore_n dX3_readInto_106 rfl (Nat.le_of_ble_eq_true rfl) ?_
                      refine Rn.iload_n dX3_readInto_107 rfl rfl ?_
                      refine Rn.if_eqN (tgt := 122) dX3_readInto_108 rfl (by decide) (by omega) (fun c108 => ?_) (fun c108 => ?_)
                      · refine Rn.aload_n dX3_readInto_122 rfl rfl ?_
                        refine Rn.aload_n dX3_readInto_123 rfl rfl ?_
                        refine Rn.callV (as := [_]) v_X3_readDoing l_X3_47 ⟨Nat.le_of_ble_eq_true rfl, Nat.le_of_ble_eq_true rfl⟩ dX3_readInto_124 rfl rfl (Nat.le_of_ble_eq_true rfl) (ht_T hq T _ _ _).1 (ht_T hq T _ _ _).2.2.1 rfl (Nat.le_refl _) (Nat.le_refl _) (t_X3_readDoing hq T H hln htl (by omega) OP (fun le ee ge => ?_) (fun p' ee OP' qe => ?_)) 
                        · refine Rn.if_neB (tgt := 135) dX3_readInto_127 rfl (by decide) (fun c127 => ?_) (fun c127 => ?_)
                          · exact absurd c127 (by decide)
                          · refine Rn.aload_n dX3_readInto_130 rfl rfl ?_
                            refine Rn.getf f_X3_19 dX3_readInto_131 rfl (ht_T hq T _ _ _).1 (ht_T hq T _ _ _).2.2.1 rfl ?_
                            refine Rn.iret dX3_readInto_134 rfl rfl rfl ?_
                            have e9 : rIn t ln = (le + 1, le, p) := by rw [← h4]; exact lpR_d0 c77 (fun z => by first | omega | exact absurd z.1 (by rw [c81]; decide) | exact absurd z.2.2 (of_decide_eq_false c98)) ee
                            rw [e9] at k
                            exact k
                        · refine Rn.if_neB (tgt := 135) dX3_readInto_127 rfl (by decide) (fun c127 => ?_) (fun c127 => ?_)
                          · refine Rn.iincN dX3_readInto_135 rfl rfl (Nat.le_of_ble_eq_true rfl) ?_
                            refine Rn.goto (tgt := 62) dX3_readInto_138 (by decide) ?_
                            exact Rn.pick [2, 3, 1, 0] rfl (ih n (kk + 1) _ _ false (by omega) (by omega) (by omega) OP' (by rw [← h4]; exact (lpR_d1 c77 (fun z => by first | omega | exact absurd z.1 (by rw [c81]; decide) | exact absurd z.2.2 (of_decide_eq_false c98)) ee).symm))
                          · exact absurd c127 (by decide)
                      · first | omega | exact False.elim c108
                    · refine Rn.iconst dX3_readInto_101 rfl ic_1 ?_
                      refine Rn.goto (tgt := 106) dX3_readInto_102 (by decide) ?_
                      refine Rn.istore_n dX3_readInto_106 rfl (Nat.le_of_ble_eq_true rfl) ?_
                      refine Rn.iload_n dX3_readInto_107 rfl rfl ?_
                      refine Rn.if_eqN (tgt := 122) dX3_readInto_108 rfl (by decide) (by omega) (fun c108 => ?_) (fun c108 => ?_)
                      · first | omega | exact False.elim c108
                      · refine Rn.aload_n dX3_readInto_111 rfl rfl ?_
                        refine Rn.aload_n dX3_readInto_112 rfl rfl ?_
                        refine Rn.callV (as := [_]) v_X3_readUser l_X3_43 ⟨Nat.le_of_ble_eq_true rfl, Nat.le_of_ble_eq_true rfl⟩ dX3_readInto_113 rfl rfl (Nat.le_of_ble_eq_true rfl) (ht_T hq T _ _ _).1 (ht_T hq T _ _ _).2.2.1 rfl (Nat.le_refl _) (Nat.le_refl _) (t_X3_readUser hq T H hln htl (by omega) c89' (fun le ee ge => ?_) (fun a b c ha hb gc hc ee qe => ?_)) 
                        · refine Rn.if_neB (tgt := 135) dX3_readInto_116 rfl (by decide) (fun c116 => ?_) (fun c116 => ?_)
                          · exact absurd c116 (by decide)
                          · refine Rn.goto (tgt := 130) dX3_readInto_119 (by decide) ?_
                            refine Rn.aload_n dX3_readInto_130 rfl rfl ?_
                            refine Rn.getf f_X3_19 dX3_readInto_131 rfl (ht_T hq T _ _ _).1 (ht_T hq T _ _ _).2.2.1 rfl ?_
                            refine Rn.iret dX3_readInto_134 rfl rfl rfl ?_
                            have e9 : rIn t ln = (le + 1, le, p) := by rw [← h4, c81]; exact lpR_u0 c77 c89' (of_decide_eq_true c98) ee
                            rw [e9] at k
                            exact k
                        · refine Rn.if_neB (tgt := 135) dX3_readInto_116 rfl (by decide) (fun c116 => ?_) (fun c116 => ?_)
                          · refine Rn.iincN dX3_readInto_135 rfl rfl (Nat.le_of_ble_eq_true rfl) ?_
                            refine Rn.goto (tgt := 62) dX3_readInto_138 (by decide) ?_
                            exact Rn.pick [2, 3, 1, 0] rfl (ih n (kk + 1) _ _ true (by omega) (by omega) (by omega) (OK_ad h3 c89' ha hb hc) (by rw [← h4, c81]; exact (lpR_u1 c77 c89' (of_decide_eq_true c98) ee).symm))
                          · exact absurd c116 (by decide)
        exact Rn.pick [3, 4, 1, 0] rfl (hloop 81 80 0 2 _ true (by omega) (by omega) (by omega) (OK_win OK_p0 ga ha) (by have e2 : fgN t ln 1 1 6 = a + 1 := e1; unfold rIn; rw [if_pos (of_decide_eq_true c15), if_neg (by omega), e2]; rfl))
      · exact absurd c44 (nI_m9 (by omega))
  · refine Rn.aload_n dX3_readInto_18 rfl rfl ?_
    refine Rn.getf f_X3_19 dX3_readInto_19 rfl (ht_T hq T _ _ _).1 (ht_T hq T _ _ _).2.2.1 rfl ?_
    refine Rn.iret dX3_readInto_22 rfl rfl rfl ?_
    have e9 : rIn t ln = (1, 0, p0) := by unfold rIn; rw [if_neg (of_decide_eq_false c15)]
    rw [e9] at k
    exact k
