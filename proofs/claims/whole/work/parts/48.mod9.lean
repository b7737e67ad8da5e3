theorem hs_sw {h : rHp} {a b c : rCell} : hs (hs (hs h 15 a) 18 b) 17 c = hs (hs (hs h 15 a) 17 c) 18 b := hs_comm _ _ _ (by decide)
theorem nl_t {t : Nat → Nat} {ln pl : Nat} (h : ¬ ln ≤ pl) : nlN t ln pl = t pl + 1 := if_pos (by omega)
/-- what reading leaves -/
def RX (t : Nat → Nat) (ln : Nat) (q ev : Nat → Nat) (rm : Nat) : Prop := (rIn t ln).1 = 0 → ∃ pb, RD ev rm pb (rIn t ln).2.2 ∧ q = mix pb (rIn t ln).2.2 ∧ rm ≤ 40
theorem RX_f {t : Nat → Nat} {ln : Nat} (q ev : Nat → Nat) (rm a b : Nat) (p : Nat → Nat) (e : rIn t ln = (a + 1, b, p)) : RX t ln q ev rm := by
  intro z
  rw [e] at z
  exact absurd z (by show ¬ a + 1 = 0; omega)
theorem HEQ3 (h : rHp) (a b c a' b' c' : rCell) : hs (hs (hs (hs (hs (hs h 15 a) 17 b) 18 c) 15 a') 18 c') 17 b' = hs (hs (hs h 15 a') 17 b') 18 c' := by
  rw [hs_d2 _ _ _ _ _ (by decide) (by decide), hs_hs, hs_d1 _ _ _ _ (by decide)]
theorem ev_0 (p : Nat → Nat) (a : Nat) : evP (10 * a + 0) p = seP p a := by unfold evP; rw [show (10 * a + 0) / 10 = a by omega, if_neg (by omega)]
theorem ev_1 (p : Nat → Nat) (a : Nat) : evP (10 * a + 1) p = spP p a := by unfold evP; rw [show (10 * a + 1) / 10 = a by omega, if_pos (by omega)]
theorem t_X5_readDesk {h : rHp} {Q : Option Value → rHp → Prop} {th ln pl0 rm0 dg sz : Nat} {sd : Int64} {t rq ev0 : Nat → Nat} (M15 : h.2.2 15 = moO th ln pl0 rm0 dg sz sd) (M16 : h.2.2 16 = .inl (80, na t)) (ML : 27 < h.1) (hln : ln ≤ 80) (htl : ∀ i, t i < 256) (M17 : h.2.2 17 = .inl (36, pg rq)) (M18 : h.2.2 18 = .inl (80, na ev0)) (k : ∀ pl' rm' q' ev', RX t ln q' ev' rm' → Q (some (.int (wi (rIn t ln).1))) (hs (hs (hs h 15 (moO th ln pl' rm' dg sz sd)) 17 (.inl (36, pg q'))) 18 (.inl (80, na ev')))) : Cl M_X5_readDesk h.1 h.2.1 [.ref 15] h Q := by
  refine Cl.of pl_X5 (Nat.le_of_ble_eq_true rfl) (by first | exact Nat.le_refl _ | omega) (by first | exact Nat.le_refl _ | omega) ?_
  refine Rn.aload_n dX5_readDesk_0 rfl rfl ?_
  refine Rn.iconst dX5_readDesk_1 rfl ic_0 ?_
  refine Rn.putf p_X5_87 (fun h => by cases h) dX5_readDesk_2 rfl M15 (Nat.lt_of_le_of_lt (Nat.le_of_ble_eq_true rfl) ML) (fun g => ⟨rfl, rfl⟩) (Nat.le_of_ble_eq_true rfl) ?_
  refine Rn.aload_n dX5_readDesk_5 rfl rfl ?_
  refine Rn.iconst dX5_readDesk_6 rfl ic_0 ?_
  refine Rn.putf p_X5_94 (fun h => by cases h) dX5_readDesk_7 rfl (hs_eq _ _ _) (Nat.lt_of_le_of_lt (Nat.le_of_ble_eq_true rfl) ML) (fun g => ⟨rfl, rfl⟩) (Nat.le_of_ble_eq_true rfl) ?_
  refine Rn.heap (hs_hs _ _ _ _) ?_
  refine Rn.aload_n dX5_readDesk_10 rfl rfl ?_
  refine Rn.getf f_X5_13 dX5_readDesk_11 rfl (hs_eq _ _ _) (Nat.lt_of_le_of_lt (Nat.le_of_ble_eq_true rfl) ML) rfl ?_
  refine Rn.callS (as := [_]) s_X5_layFirst l_X5_47 ⟨Nat.le_of_ble_eq_true rfl, Nat.le_of_ble_eq_true rfl⟩ dX5_readDesk_14 rfl rfl (Nat.le_of_ble_eq_true rfl) (Nat.le_refl _) (Nat.le_refl _) (t_X5_layFirst ((hs_ne _ _ (by decide)).trans M17) (by exact (Nat.lt_of_le_of_lt (Nat.le_of_ble_eq_true rfl) ML)) (fun j hj => pg_out _ hj) ?_)
  refine Rn.aload_n dX5_readDesk_17 rfl rfl ?_
  refine Rn.getf f_X5_84 dX5_readDesk_18 rfl ((hs_ne _ _ (by decide)).trans (hs_eq _ _ _)) (Nat.lt_of_le_of_lt (Nat.le_of_ble_eq_true rfl) ML) rfl ?_
  refine Rn.if_eqN (tgt := 35) dX5_readDesk_21 rfl (by decide) (by omega) (fun c21 => ?_) (fun c21 => ?_)
  · refine Rn.iconst dX5_readDesk_35 rfl ic_0 ?_
    refine Rn.iret dX5_readDesk_36 rfl rfl rfl ?_
    have e9 : rIn t ln = (0 + 1, 0, p0) := by unfold rIn; rw [if_neg (show ¬ nlN t ln 0 = 84 by first | (rw [nl_t (by omega)]; omega) | (unfold nlN; rw [if_neg (by omega)]; omega))]
    have k9 := k 0 0 p0 ev0 (RX_f _ _ _ _ _ _ e9)
    rw [e9] at k9
    rw [hs_self _ ((hs_ne _ _ (by decide)).trans ((hs_ne _ _ (by decide)).trans M18))] at k9
    exact k9
  · refine Rn.aload_n dX5_readDesk_24 rfl rfl ?_
    refine Rn.getf f_X5_7 dX5_readDesk_25 rfl ((hs_ne _ _ (by decide)).trans (hs_eq _ _ _)) (Nat.lt_of_le_of_lt (Nat.le_of_ble_eq_true rfl) ML) rfl ?_
    refine Rn.iconst dX5_readDesk_28 rfl ic_0 ?_
    refine Rn.ialdN dX5_readDesk_29 rfl ((hs_ne _ _ (by decide)).trans ((hs_ne _ _ (by decide)).trans M16)) (Nat.lt_of_le_of_lt (Nat.le_of_ble_eq_true rfl) ML) (by omega) (by omega) ?_
    refine Rn.top (show na t 0 = nI (t 0) from rfl) ?_
    have ht0 := htl 0
    refine Rn.bipush dX5_readDesk_30 rfl bp_83 ?_
    refine Rn.icmp_eqN (tgt := 37) dX5_readDesk_32 rfl (by decide) (by omega) (by omega) (fun c32 => ?_) (fun c32 => ?_)
    · refine Rn.aload_n dX5_readDesk_37 rfl rfl ?_
      refine Rn.iconst dX5_readDesk_38 rfl ic_1 ?_
      refine Rn.putf p_X5_87 (fun h => by cases h) dX5_readDesk_39 rfl ((hs_ne _ _ (by decide)).trans (hs_eq _ _ _)) (Nat.lt_of_le_of_lt (Nat.le_of_ble_eq_true rfl) ML) (fun g => ⟨rfl, rfl⟩) (Nat.le_of_ble_eq_true rfl) ?_
      refine Rn.heap (hs_d1 _ _ _ _ (by decide)) ?_
      refine Rn.aload_n dX5_readDesk_42 rfl rfl ?_
      refine Rn.getf f_X5_13 dX5_readDesk_43 rfl ((hs_ne _ _ (by decide)).trans (hs_eq _ _ _)) (Nat.lt_of_le_of_lt (Nat.le_of_ble_eq_true rfl) ML) rfl ?_
      refine Rn.bipush dX5_readDesk_46 rfl bp_25 ?_
      refine Rn.aload_n dX5_readDesk_48 rfl rfl ?_
      refine Rn.iconst dX5_readDesk_49 rfl ic_1 ?_
      refine Rn.bipush dX5_readDesk_50 rfl bp_6 ?_
      refine Rn.callV (as := [_, _]) v_X5_figure l_X5_90 ⟨Nat.le_of_ble_eq_true rfl, Nat.le_of_ble_eq_true rfl⟩ dX5_readDesk_52 rfl rfl (Nat.le_of_ble_eq_true rfl) ((hs_ne _ _ (by decide)).trans (hs_eq _ _ _)) (Nat.lt_of_le_of_lt (Nat.le_of_ble_eq_true rfl) ML) rfl (Nat.le_refl _) (Nat.le_refl _) (t_X5_figure ((hs_ne _ _ (by decide)).trans (hs_eq _ _ _)) ((hs_ne _ _ (by decide)).trans ((hs_ne _ _ (by decide)).trans M16)) (by exact ML) hln htl (by omega) (by omega) (by omega) (fun ea => ?_) (fun a ha ga qa ea => ?_)) 
      · refine Rn.top m9_nI ?_
        refine Rn.iastN dX5_readDesk_55 rfl (hs_eq _ _ _) (Nat.lt_of_le_of_lt (Nat.le_of_ble_eq_true rfl) ML) (by omega) (by omega) ?_
        refine Rn.heap (Pa.upd (upd_pg p0 4294967287 (by omega) (by omega))) ?_
        refine Rn.heap (hs_hs _ _ _ _) ?_
        refine Rn.aload_n dX5_readDesk_56 rfl rfl ?_
        refine Rn.getf f_X5_13 dX5_readDesk_57 rfl ((hs_ne _ _ (by decide)).trans (hs_eq _ _ _)) (Nat.lt_of_le_of_lt (Nat.le_of_ble_eq_true rfl) ML) rfl ?_
        refine Rn.bipush dX5_readDesk_60 rfl bp_25 ?_
        refine Rn.ialdN dX5_readDesk_62 rfl (hs_eq _ _ _) (Nat.lt_of_le_of_lt (Nat.le_of_ble_eq_true rfl) ML) (by omega) (by omega) ?_
        refine Rn.top (y := -9) ((pg_n _ (by omega) (by omega)).trans (by rw [un_eq]; exact m9_nI.symm)) ?_
        refine Rn.bipush dX5_readDesk_63 rfl bp_m9 ?_
        refine Rn.icmp_ne (tgt := 73) dX5_readDesk_65 rfl (by decide) (fun c65 => ?_) (fun c65 => ?_)
        · exact absurd rfl c65
        · refine Rn.aload_n dX5_readDesk_68 rfl rfl ?_
          refine Rn.getf f_X5_87 dX5_readDesk_69 rfl ((hs_ne _ _ (by decide)).trans (hs_eq _ _ _)) (Nat.lt_of_le_of_lt (Nat.le_of_ble_eq_true rfl) ML) rfl ?_
          refine Rn.iret dX5_readDesk_72 rfl rfl rfl ?_
          have e9 : rIn t ln = (1 + 1, 1, p0) := by unfold rIn; rw [if_pos (show nlN t ln 0 = 84 by rw [nl_t (by omega)]; omega), if_pos ea]
          have k9 := k 1 0 (un p0 25 4294967287) ev0 (RX_f _ _ _ _ _ _ e9)
          rw [e9] at k9
          rw [hs_self _ ((hs_ne _ _ (by decide)).trans ((hs_ne _ _ (by decide)).trans M18))] at k9
          exact k9
      · refine Rn.heap (hs_d1 _ _ _ _ (by decide)) ?_
        refine Rn.iastN dX5_readDesk_55 rfl (hs_eq _ _ _) (Nat.lt_of_le_of_lt (Nat.le_of_ble_eq_true rfl) ML) (by omega) (by omega) ?_
        refine Rn.heap (Pa.upd (upd_pg _ _ (by omega) (by omega))) ?_
        refine Rn.heap (hs_hs _ _ _ _) ?_
        refine Rn.aload_n dX5_readDesk_56 rfl rfl ?_
        refine Rn.getf f_X5_13 dX5_readDesk_57 rfl ((hs_ne _ _ (by decide)).trans (hs_eq _ _ _)) (Nat.lt_of_le_of_lt (Nat.le_of_ble_eq_true rfl) ML) rfl ?_
        refine Rn.bipush dX5_readDesk_60 rfl bp_25 ?_
        refine Rn.ialdN dX5_readDesk_62 rfl (hs_eq _ _ _) (Nat.lt_of_le_of_lt (Nat.le_of_ble_eq_true rfl) ML) (by omega) (by omega) ?_
        refine Rn.top (pg_n _ (by omega) (by omega)) ?_
        refine Rn.top (congrArg nI (un_eq _ _ _)) ?_
        refine Rn.bipush dX5_readDesk_63 rfl bp_m9 ?_
        refine Rn.icmp_ne (tgt := 73) dX5_readDesk_65 rfl (by decide) (fun c65 => ?_) (fun c65 => ?_)
        · have hloop : ∀ (m : Nat) (n pl rm : Nat) (pb p ev : Nat → Nat), n < m → ln ≤ pl + n → pl ≤ ln → 2 * rm ≤ pl → RD ev rm pb p → lpR t ln n pl p (decide (rm = 0)) = rIn t ln → Rn (M_X5_readDesk, none, h.1, h.2.1) Q 73 [(0, .ref 15)] [] (hs (hs (hs h 15 (moO th ln pl rm dg sz sd)) 17 (.inl (36, pg (mix pb p)))) 18 (.inl (80, na ev))) := by
            intro m
            induction m with
            | zero => intro n pl rm pb p ev h0 h1 h2 h3 h4 h5; exact absurd h0 (Nat.not_lt_zero _)
            | succ m ih =>
              intro n pl rm pb p ev h0 h1 h2 h3 h4 h5
              refine Rn.aload_n dX5_readDesk_73 rfl rfl ?_
              refine Rn.getf f_X5_87 dX5_readDesk_74 rfl ((hs_ne _ _ (by decide)).trans ((hs_ne _ _ (by decide)).trans (hs_eq _ _ _))) (Nat.lt_of_le_of_lt (Nat.le_of_ble_eq_true rfl) ML) rfl ?_
              refine Rn.aload_n dX5_readDesk_77 rfl rfl ?_
              refine Rn.getf f_X5_84 dX5_readDesk_78 rfl ((hs_ne _ _ (by decide)).trans ((hs_ne _ _ (by decide)).trans (hs_eq _ _ _))) (Nat.lt_of_le_of_lt (Nat.le_of_ble_eq_true rfl) ML) rfl ?_
              refine Rn.icmp_geN (tgt := 155) dX5_readDesk_81 rfl (by decide) (by omega) (by omega) (fun c81 => ?_) (fun c81 => ?_)
              · refine Rn.bipush dX5_readDesk_155 rfl bp_m9 ?_
                refine Rn.iret dX5_readDesk_157 rfl rfl rfl ?_
                have e9 : rIn t ln = (0, pl, p) := by rw [← h5]; exact lpR_e c81
                have k9 := k pl rm (mix pb p) ev (fun _ => ⟨pb, by rw [e9]; exact h4, by rw [e9], by omega⟩)
                rw [e9] at k9
                exact k9
              · obtain ⟨n, rfl⟩ : ∃ n', n = n' + 1 := ⟨n - 1, by omega⟩
                refine Rn.aload_n dX5_readDesk_84 rfl rfl ?_
                refine Rn.getf f_X5_7 dX5_readDesk_85 rfl ((hs_ne _ _ (by decide)).trans ((hs_ne _ _ (by decide)).trans (hs_eq _ _ _))) (Nat.lt_of_le_of_lt (Nat.le_of_ble_eq_true rfl) ML) rfl ?_
                refine Rn.aload_n dX5_readDesk_88 rfl rfl ?_
                refine Rn.getf f_X5_87 dX5_readDesk_89 rfl ((hs_ne _ _ (by decide)).trans ((hs_ne _ _ (by decide)).trans (hs_eq _ _ _))) (Nat.lt_of_le_of_lt (Nat.le_of_ble_eq_true rfl) ML) rfl ?_
                refine Rn.ialdN dX5_readDesk_92 rfl ((hs_ne _ _ (by decide)).trans ((hs_ne _ _ (by decide)).trans ((hs_ne _ _ (by decide)).trans M16))) (Nat.lt_of_le_of_lt (Nat.le_of_ble_eq_true rfl) ML) (by omega) (by omega) ?_
                refine Rn.top (show na t pl = nI (t pl) from rfl) ?_
                have ht0 := htl pl
                refine Rn.istore_n dX5_readDesk_93 rfl (Nat.le_of_ble_eq_true rfl) ?_
                refine Rn.iload_n dX5_readDesk_94 rfl rfl ?_
                refine Rn.bipush dX5_readDesk_95 rfl bp_117 ?_
                refine Rn.icmp_neN (tgt := 107) dX5_readDesk_97 rfl (by decide) (by omega) (by omega) (fun c97 => ?_) (fun c97 => ?_)
                · refine Rn.iload_n dX5_readDesk_107 rfl rfl ?_
                  refine Rn.bipush dX5_readDesk_108 rfl bp_115 ?_
                  refine Rn.icmp_eqN (tgt := 119) dX5_readDesk_110 rfl (by decide) (by omega) (by omega) (fun c110 => ?_) (fun c110 => ?_)
                  · refine Rn.aload_n dX5_readDesk_119 rfl rfl ?_
                    refine Rn.iload_n dX5_readDesk_120 rfl rfl ?_
                    refine Rn.bipush dX5_readDesk_121 rfl bp_109 ?_
                    refine Rn.icmp_neN (tgt := 130) dX5_readDesk_123 rfl (by decide) (by omega) (by omega) (fun c123 => ?_) (fun c123 => ?_)
                    · refine Rn.iconst dX5_readDesk_130 rfl ic_0 ?_
                      refine Rn.callV (as := [_]) v_X5_readEvent l_X5_109 ⟨Nat.le_of_ble_eq_true rfl, Nat.le_of_ble_eq_true rfl⟩ dX5_readDesk_131 rfl rfl (Nat.le_of_ble_eq_true rfl) ((hs_ne _ _ (by decide)).trans ((hs_ne _ _ (by decide)).trans (hs_eq _ _ _))) (Nat.lt_of_le_of_lt (Nat.le_of_ble_eq_true rfl) ML) rfl (Nat.le_refl _) (Nat.le_refl _) (t_X5_readEvent ((hs_ne _ _ (by decide)).trans ((hs_ne _ _ (by decide)).trans (hs_eq _ _ _))) ((hs_ne _ _ (by decide)).trans ((hs_ne _ _ (by decide)).trans ((hs_ne _ _ (by decide)).trans M16))) (by exact ML) hln htl (by omega) ((hs_ne _ _ (by decide)).trans (hs_eq _ _ _)) (OK_mix h4.1 h4.2.1) (hs_eq _ _ _) (by omega) (b := 0) (by omega) (fun hany => ?_) (fun hany ez => ?_) (fun hany a ea v4 vo vl => ?_)) 
                      · refine Rn.if_eqB (tgt := 141) dX5_readDesk_134 rfl (by decide) (fun c134 => ?_) (fun c134 => ?_)
                        · refine Rn.iconst dX5_readDesk_141 rfl ic_0 ?_
                          refine Rn.istore_n dX5_readDesk_142 rfl (Nat.le_of_ble_eq_true rfl) ?_
                          refine Rn.iload_n dX5_readDesk_143 rfl rfl ?_
                          refine Rn.if_neN (tgt := 152) dX5_readDesk_144 rfl (by decide) (by omega) (fun c144 => ?_) (fun c144 => ?_)
                          · first | omega | exact False.elim c144
                          · refine Rn.aload_n dX5_readDesk_147 rfl rfl ?_
                            refine Rn.getf f_X5_87 dX5_readDesk_148 rfl ((hs_ne _ _ (by decide)).trans ((hs_ne _ _ (by decide)).trans (hs_eq _ _ _))) (Nat.lt_of_le_of_lt (Nat.le_of_ble_eq_true rfl) ML) rfl ?_
                            refine Rn.iret dX5_readDesk_151 rfl rfl rfl ?_
                            have e9 : rIn t ln = (pl + 1, pl, p) := by rw [← h5]; exact lpR_d0 (by omega) (fun z => by have z3 := z.2.2; rw [nl_t (by omega)] at z3; omega) (dgN_0 (fun z => absurd z.2 (by rw [← (anyU_cong (ow_mix h4.2.1 h4.2.2.2.1) 4), hany]; decide)))
                            have k9 := k pl rm (mix pb p) ev (RX_f _ _ _ _ _ _ e9)
                            rw [e9] at k9
                            exact k9
                        · exact absurd c134 (by decide)
                      · refine Rn.heap (hs_d2 _ _ _ _ _ (by decide) (by decide)) ?_
                        refine Rn.if_eqB (tgt := 141) dX5_readDesk_134 rfl (by decide) (fun c134 => ?_) (fun c134 => ?_)
                        · refine Rn.iconst dX5_readDesk_141 rfl ic_0 ?_
                          refine Rn.istore_n dX5_readDesk_142 rfl (Nat.le_of_ble_eq_true rfl) ?_
                          refine Rn.iload_n dX5_readDesk_143 rfl rfl ?_
                          refine Rn.if_neN (tgt := 152) dX5_readDesk_144 rfl (by decide) (by omega) (fun c144 => ?_) (fun c144 => ?_)
                          · first | omega | exact False.elim c144
                          · refine Rn.aload_n dX5_readDesk_147 rfl rfl ?_
                            refine Rn.getf f_X5_87 dX5_readDesk_148 rfl ((hs_ne _ _ (by decide)).trans ((hs_ne _ _ (by decide)).trans (hs_eq _ _ _))) (Nat.lt_of_le_of_lt (Nat.le_of_ble_eq_true rfl) ML) rfl ?_
                            refine Rn.iret dX5_readDesk_151 rfl rfl rfl ?_
                            have e9 : rIn t ln = ((pl + 1) + 1, (pl + 1), p) := by rw [← h5]; exact lpR_d0 (by omega) (fun z => by have z3 := z.2.2; rw [nl_t (by omega)] at z3; omega) (dgN_1 ⟨by rw [nl_t (by omega)]; omega, (anyU_cong (ow_mix h4.2.1 h4.2.2.2.1) 4).symm.trans hany⟩ ((uNo_cong (ow_mix h4.2.1 h4.2.2.2.1)).symm.trans ez))
                            have k9 := k (pl + 1) rm (mix pb p) ev (RX_f _ _ _ _ _ _ e9)
                            rw [e9] at k9
                            exact k9
                        · exact absurd c134 (by decide)
                      · have vo' := (ow_mix h4.2.1 h4.2.2.2.1 a).symm.trans vo
                        have ea' := (uNo_cong (t := t) (ln := ln) (pl := pl + 1) (ow_mix h4.2.1 h4.2.2.2.1)).symm.trans ea
                        have hany' := (anyU_cong (ow_mix h4.2.1 h4.2.2.2.1) 4).symm.trans hany
                        have hmx := (RD_ev h4 v4 vo' (show 0 ≤ 1 by omega)).2
                        rw [hmx]
                        refine Rn.heap (HEQ3 _ _ _ _ _ _ _) ?_
                        refine Rn.if_eqB (tgt := 141) dX5_readDesk_134 rfl (by decide) (fun c134 => ?_) (fun c134 => ?_)
                        · exact absurd c134 (by decide)
                        · refine Rn.iconst dX5_readDesk_137 rfl ic_1 ?_
                          refine Rn.goto (tgt := 142) dX5_readDesk_138 (by decide) ?_
                          refine Rn.istore_n dX5_readDesk_142 rfl (Nat.le_of_ble_eq_true rfl) ?_
                          refine Rn.iload_n dX5_readDesk_143 rfl rfl ?_
                          refine Rn.if_neN (tgt := 152) dX5_readDesk_144 rfl (by decide) (by omega) (fun c144 => ?_) (fun c144 => ?_)
                          · refine Rn.goto (tgt := 73) dX5_readDesk_152 (by decide) ?_
                            exact Rn.pick [2] rfl (ih n (pl + 2) (rm + 1) pb (evP (10 * a + 0) p) (un ev rm (10 * a + 0)) (by omega) (by omega) (by omega) (by omega) (RD_ev h4 v4 vo' (by omega)).1 (by rw [← h5, ev_0, decide_eq_false (show ¬ rm + 1 = 0 by omega)]; exact (lpR_d1 (by omega) (fun z => by have z3 := z.2.2; rw [nl_t (by omega)] at z3; omega) (dgN_2 (by rw [nl_t (by omega)]; omega) hany' ea')).symm))
                          · first | omega | exact False.elim c144
                    · refine Rn.iconst dX5_readDesk_126 rfl ic_1 ?_
                      refine Rn.goto (tgt := 131) dX5_readDesk_127 (by decide) ?_
                      refine Rn.callV (as := [_]) v_X5_readEvent l_X5_109 ⟨Nat.le_of_ble_eq_true rfl, Nat.le_of_ble_eq_true rfl⟩ dX5_readDesk_131 rfl rfl (Nat.le_of_ble_eq_true rfl) ((hs_ne _ _ (by decide)).trans ((hs_ne _ _ (by decide)).trans (hs_eq _ _ _))) (Nat.lt_of_le_of_lt (Nat.le_of_ble_eq_true rfl) ML) rfl (Nat.le_refl _) (Nat.le_refl _) (t_X5_readEvent ((hs_ne _ _ (by decide)).trans ((hs_ne _ _ (by decide)).trans (hs_eq _ _ _))) ((hs_ne _ _ (by decide)).trans ((hs_ne _ _ (by decide)).trans ((hs_ne _ _ (by decide)).trans M16))) (by exact ML) hln htl (by omega) ((hs_ne _ _ (by decide)).trans (hs_eq _ _ _)) (OK_mix h4.1 h4.2.1) (hs_eq _ _ _) (by omega) (b := 1) (by omega) (fun hany => ?_) (fun hany ez => ?_) (fun hany a ea v4 vo vl => ?_)) 
                      · refine Rn.if_eqB (tgt := 141) dX5_readDesk_134 rfl (by decide) (fun c134 => ?_) (fun c134 => ?_)
                        · refine Rn.iconst dX5_readDesk_141 rfl ic_0 ?_
                          refine Rn.istore_n dX5_readDesk_142 rfl (Nat.le_of_ble_eq_true rfl) ?_
                          refine Rn.iload_n dX5_readDesk_143 rfl rfl ?_
                          refine Rn.if_neN (tgt := 152) dX5_readDesk_144 rfl (by decide) (by omega) (fun c144 => ?_) (fun c144 => ?_)
                          · first | omega | exact False.elim c144
                          · refine Rn.aload_n dX5_readDesk_147 rfl rfl ?_
                            refine Rn.getf f_X5_87 dX5_readDesk_148 rfl ((hs_ne _ _ (by decide)).trans ((hs_ne _ _ (by decide)).trans (hs_eq _ _ _))) (Nat.lt_of_le_of_lt (Nat.le_of_ble_eq_true rfl) ML) rfl ?_
                            refine Rn.iret dX5_readDesk_151 rfl rfl rfl ?_
                            have e9 : rIn t ln = (pl + 1, pl, p) := by rw [← h5]; exact lpR_d0 (by omega) (fun z => by have z3 := z.2.2; rw [nl_t (by omega)] at z3; omega) (dgN_0 (fun z => absurd z.2 (by rw [← (anyU_cong (ow_mix h4.2.1 h4.2.2.2.1) 4), hany]; decide)))
                            have k9 := k pl rm (mix pb p) ev (RX_f _ _ _ _ _ _ e9)
                            rw [e9] at k9
                            exact k9
                        · exact absurd c134 (by decide)
                      · refine Rn.heap (hs_d2 _ _ _ _ _ (by decide) (by decide)) ?_
                        refine Rn.if_eqB (tgt := 141) dX5_readDesk_134 rfl (by decide) (fun c134 => ?_) (fun c134 => ?_)
                        · refine Rn.iconst dX5_readDesk_141 rfl ic_0 ?_
                          refine Rn.istore_n dX5_readDesk_142 rfl (Nat.le_of_ble_eq_true rfl) ?_
                          refine Rn.iload_n dX5_readDesk_143 rfl rfl ?_
                          refine Rn.if_neN (tgt := 152) dX5_readDesk_144 rfl (by decide) (by omega) (fun c144 => ?_) (fun c144 => ?_)
                          · first | omega | exact False.elim c144
                          · refine Rn.aload_n dX5_readDesk_147 rfl rfl ?_
                            refine Rn.getf f_X5_87 dX5_readDesk_148 rfl ((hs_ne _ _ (by decide)).trans ((hs_ne _ _ (by decide)).trans (hs_eq _ _ _))) (Nat.lt_of_le_of_lt (Nat.le_of_ble_eq_true rfl) ML) rfl ?_
                            refine Rn.iret dX5_readDesk_151 rfl rfl rfl ?_
                            have e9 : rIn t ln = ((pl + 1) + 1, (pl + 1), p) := by rw [← h5]; exact lpR_d0 (by omega) (fun z => by have z3 := z.2.2; rw [nl_t (by omega)] at z3; omega) (dgN_1 ⟨by rw [nl_t (by omega)]; omega, (anyU_cong (ow_mix h4.2.1 h4.2.2.2.1) 4).symm.trans hany⟩ ((uNo_cong (ow_mix h4.2.1 h4.2.2.2.1)).symm.trans ez))
                            have k9 := k (pl + 1) rm (mix pb p) ev (RX_f _ _ _ _ _ _ e9)
                            rw [e9] at k9
                            exact k9
                        · exact absurd c134 (by decide)
                      · have vo' := (ow_mix h4.2.1 h4.2.2.2.1 a).symm.trans vo
                        have ea' := (uNo_cong (t := t) (ln := ln) (pl := pl + 1) (ow_mix h4.2.1 h4.2.2.2.1)).symm.trans ea
                        have hany' := (anyU_cong (ow_mix h4.2.1 h4.2.2.2.1) 4).symm.trans hany
                        have hmx := (RD_ev h4 v4 vo' (show 1 ≤ 1 by omega)).2
                        rw [hmx]
                        refine Rn.heap (HEQ3 _ _ _ _ _ _ _) ?_
                        refine Rn.if_eqB (tgt := 141) dX5_readDesk_134 rfl (by decide) (fun c134 => ?_) (fun c134 => ?_)
                        · exact absurd c134 (by decide)
                        · refine Rn.iconst dX5_readDesk_137 rfl ic_1 ?_
                          refine Rn.goto (tgt := 142) dX5_readDesk_138 (by decide) ?_
                          refine Rn.istore_n dX5_readDesk_142 rfl (Nat.le_of_ble_eq_true rfl) ?_
                          refine Rn.iload_n dX5_readDesk_143 rfl rfl ?_
                          refine Rn.if_neN (tgt := 152) dX5_readDesk_144 rfl (by decide) (by omega) (fun c144 => ?_) (fun c144 => ?_)
                          · refine Rn.goto (tgt := 73) dX5_readDesk_152 (by decide) ?_
                            exact Rn.pick [2] rfl (ih n (pl + 2) (rm + 1) pb (evP (10 * a + 1) p) (un ev rm (10 * a + 1)) (by omega) (by omega) (by omega) (by omega) (RD_ev h4 v4 vo' (by omega)).1 (by rw [← h5, ev_1, decide_eq_false (show ¬ rm + 1 = 0 by omega)]; exact (lpR_d1 (by omega) (fun z => by have z3 := z.2.2; rw [nl_t (by omega)] at z3; omega) (dgN_3 (by rw [nl_t (by omega)]; omega) hany' ea')).symm))
                          · first | omega | exact False.elim c144
                  · refine Rn.iload_n dX5_readDesk_113 rfl rfl ?_
                    refine Rn.bipush dX5_readDesk_114 rfl bp_109 ?_
                    refine Rn.icmp_neN (tgt := 141) dX5_readDesk_116 rfl (by decide) (by omega) (by omega) (fun c116 => ?_) (fun c116 => ?_)
                    · refine Rn.iconst dX5_readDesk_141 rfl ic_0 ?_
                      refine Rn.istore_n dX5_readDesk_142 rfl (Nat.le_of_ble_eq_true rfl) ?_
                      refine Rn.iload_n dX5_readDesk_143 rfl rfl ?_
                      refine Rn.if_neN (tgt := 152) dX5_readDesk_144 rfl (by decide) (by omega) (fun c144 => ?_) (fun c144 => ?_)
                      · first | omega | exact False.elim c144
                      · refine Rn.aload_n dX5_readDesk_147 rfl rfl ?_
                        refine Rn.getf f_X5_87 dX5_readDesk_148 rfl ((hs_ne _ _ (by decide)).trans ((hs_ne _ _ (by decide)).trans (hs_eq _ _ _))) (Nat.lt_of_le_of_lt (Nat.le_of_ble_eq_true rfl) ML) rfl ?_
                        refine Rn.iret dX5_readDesk_151 rfl rfl rfl ?_
                        have e9 : rIn t ln = (pl + 1, pl, p) := by rw [← h5]; exact lpR_d0 (by omega) (fun z => by have z3 := z.2.2; rw [nl_t (by omega)] at z3; omega) (dgN_0 (fun z => by have z1 := z.1; rw [nl_t (by omega)] at z1; omega))
                        have k9 := k pl rm (mix pb p) ev (RX_f _ _ _ _ _ _ e9)
                        rw [e9] at k9
                        exact k9
                    · refine Rn.aload_n dX5_readDesk_119 rfl rfl ?_
                      refine Rn.iload_n dX5_readDesk_120 rfl rfl ?_
                      refine Rn.bipush dX5_readDesk_121 rfl bp_109 ?_
                      refine Rn.icmp_neN (tgt := 130) dX5_readDesk_123 rfl (by decide) (by omega) (by omega) (fun c123 => ?_) (fun c123 => ?_)
                      · refine Rn.iconst dX5_readDesk_130 rfl ic_0 ?_
                        refine Rn.callV (as := [_]) v_X5_readEvent l_X5_109 ⟨Nat.le_of_ble_eq_true rfl, Nat.le_of_ble_eq_true rfl⟩ dX5_readDesk_131 rfl rfl (Nat.le_of_ble_eq_true rfl) ((hs_ne _ _ (by decide)).trans ((hs_ne _ _ (by decide)).trans (hs_eq _ _ _))) (Nat.lt_of_le_of_lt (Nat.le_of_ble_eq_true rfl) ML) rfl (Nat.le_refl _) (Nat.le_refl _) (t_X5_readEvent ((hs_ne _ _ (by decide)).trans ((hs_ne _ _ (by decide)).trans (hs_eq _ _ _))) ((hs_ne _ _ (by decide)).trans ((hs_ne _ _ (by decide)).trans ((hs_ne _ _ (by decide)).trans M16))) (by exact ML) hln htl (by omega) ((hs_ne _ _ (by decide)).trans (hs_eq _ _ _)) (OK_mix h4.1 h4.2.1) (hs_eq _ _ _) (by omega) (b := 0) (by omega) (fun hany => ?_) (fun hany ez => ?_) (fun hany a ea v4 vo vl => ?_)) 
                        · refine Rn.if_eqB (tgt := 141) dX5_readDesk_134 rfl (by decide) (fun c134 => ?_) (fun c134 => ?_)
                          · refine Rn.iconst dX5_readDesk_141 rfl ic_0 ?_
                            refine Rn.istore_n dX5_readDesk_142 rfl (Nat.le_of_ble_eq_true rfl) ?_
                            refine Rn.iload_n dX5_readDesk_143 rfl rfl ?_
                            refine Rn.if_neN (tgt := 152) dX5_readDesk_144 rfl (by decide) (by omega) (fun c144 => ?_) (fun c144 => ?_)
                            · first | omega | exact False.elim c144
                            · refine Rn.aload_n dX5_readDesk_147 rfl rfl ?_
                              refine Rn.getf f_X5_87 dX5_readDesk_148 rfl ((hs_ne _ _ (by decide)).trans ((hs_ne _ _ (by decide)).trans (hs_eq _ _ _))) (Nat.lt_of_le_of_lt (Nat.le_of_ble_eq_true rfl) ML) rfl ?_
                              refine Rn.iret dX5_readDesk_151 rfl rfl rfl ?_
                              have e9 : rIn t ln = (pl + 1, pl, p) := by rw [← h5]; exact lpR_d0 (by omega) (fun z => by have z3 := z.2.2; rw [nl_t (by omega)] at z3; omega) (dgN_0 (fun z => absurd z.2 (by rw [← (anyU_cong (ow_mix h4.2.1 h4.2.2.2.1) 4), hany]; decide)))
                              have k9 := k pl rm (mix pb p) ev (RX_f _ _ _ _ _ _ e9)
                              rw [e9] at k9
                              exact k9
                          · exact absurd c134 (by decide)
                        · refine Rn.heap (hs_d2 _ _ _ _ _ (by decide) (by decide)) ?_
                          refine Rn.if_eqB (tgt := 141) dX5_readDesk_134 rfl (by decide) (fun c134 => ?_) (fun c134 => ?_)
                          · refine Rn.iconst dX5_readDesk_141 rfl ic_0 ?_
                            refine Rn.istore_n dX5_readDesk_142 rfl (Nat.le_of_ble_eq_true rfl) ?_
                            refine Rn.iload_n dX5_readDesk_143 rfl rfl ?_
                            refine Rn.if_neN (tgt := 152) dX5_readDesk_144 rfl (by decide) (by omega) (fun c144 => ?_) (fun c144 => ?_)
                            · first | omega | exact False.elim c144
                            · refine Rn.aload_n dX5_readDesk_147 rfl rfl ?_
                              refine Rn.getf f_X5_87 dX5_readDesk_148 rfl ((hs_ne _ _ (by decide)).trans ((hs_ne _ _ (by decide)).trans (hs_eq _ _ _))) (Nat.lt_of_le_of_lt (Nat.le_of_ble_eq_true rfl) ML) rfl ?_
                              refine Rn.iret dX5_readDesk_151 rfl rfl rfl ?_
                              have e9 : rIn t ln = ((pl + 1) + 1, (pl + 1), p) := by rw [← h5]; exact lpR_d0 (by omega) (fun z => by have z3 := z.2.2; rw [nl_t (by omega)] at z3; omega) (dgN_1 ⟨by rw [nl_t (by omega)]; omega, (anyU_cong (ow_mix h4.2.1 h4.2.2.2.1) 4).symm.trans hany⟩ ((uNo_cong (ow_mix h4.2.1 h4.2.2.2.1)).symm.trans ez))
                              have k9 := k (pl + 1) rm (mix pb p) ev (RX_f _ _ _ _ _ _ e9)
                              rw [e9] at k9
                              exact k9
                          · exact absurd c134 (by decide)
                        · have vo' := (ow_mix h4.2.1 h4.2.2.2.1 a).symm.trans vo
                          have ea' := (uNo_cong (t := t) (ln := ln) (pl := pl + 1) (ow_mix h4.2.1 h4.2.2.2.1)).symm.trans ea
                          have hany' := (anyU_cong (ow_mix h4.2.1 h4.2.2.2.1) 4).symm.trans hany
                          have hmx := (RD_ev h4 v4 vo' (show 0 ≤ 1 by omega)).2
                          rw [hmx]
                          refine Rn.heap (HEQ3 _ _ _ _ _ _ _) ?_
                          refine Rn.if_eqB (tgt := 141) dX5_readDesk_134 rfl (by decide) (fun c134 => ?_) (fun c134 => ?_)
                          · exact absurd c134 (by decide)
                          · refine Rn.iconst dX5_readDesk_137 rfl ic_1 ?_
                            refine Rn.goto (tgt := 142) dX5_readDesk_138 (by decide) ?_
                            refine Rn.istore_n dX5_readDesk_142 rfl (Nat.le_of_ble_eq_true rfl) ?_
                            refine Rn.iload_n dX5_readDesk_143 rfl rfl ?_
                            refine Rn.if_neN (tgt := 152) dX5_readDesk_144 rfl (by decide) (by omega) (fun c144 => ?_) (fun c144 => ?_)
                            · refine Rn.goto (tgt := 73) dX5_readDesk_152 (by decide) ?_
                              exact Rn.pick [2] rfl (ih n (pl + 2) (rm + 1) pb (evP (10 * a + 0) p) (un ev rm (10 * a + 0)) (by omega) (by omega) (by omega) (by omega) (RD_ev h4 v4 vo' (by omega)).1 (by rw [← h5, ev_0, decide_eq_false (show ¬ rm + 1 = 0 by omega)]; exact (lpR_d1 (by omega) (fun z => by have z3 := z.2.2; rw [nl_t (by omega)] at z3; omega) (dgN_2 (by rw [nl_t (by omega)]; omega) hany' ea')).symm))
                            · first | omega | exact False.elim c144
                      · refine Rn.iconst dX5_readDesk_126 rfl ic_1 ?_
                        refine Rn.goto (tgt := 131) dX5_readDesk_127 (by decide) ?_
                        refine Rn.callV (as := [_]) v_X5_readEvent l_X5_109 ⟨Nat.le_of_ble_eq_true rfl, Nat.le_of_ble_eq_true rfl⟩ dX5_readDesk_131 rfl rfl (Nat.le_of_ble_eq_true rfl) ((hs_ne _ _ (by decide)).trans ((hs_ne _ _ (by decide)).trans (hs_eq _ _ _))) (Nat.lt_of_le_of_lt (Nat.le_of_ble_eq_true rfl) ML) rfl (Nat.le_refl _) (Nat.le_refl _) (t_X5_readEvent ((hs_ne _ _ (by decide)).trans ((hs_ne _ _ (by decide)).trans (hs_eq _ _ _))) ((hs_ne _ _ (by decide)).trans ((hs_ne _ _ (by decide)).trans ((hs_ne _ _ (by decide)).trans M16))) (by exact ML) hln htl (by omega) ((hs_ne _ _ (by decide)).trans (hs_eq _ _ _)) (OK_mix h4.1 h4.2.1) (hs_eq _ _ _) (by omega) (b := 1) (by omega) (fun hany => ?_) (fun hany ez => ?_) (fun hany a ea v4 vo vl => ?_)) 
                        · refine Rn.if_eqB (tgt := 141) dX5_readDesk_134 rfl (by decide) (fun c134 => ?_) (fun c134 => ?_)
                          · refine Rn.iconst dX5_readDesk_141 rfl ic_0 ?_
                            refine Rn.istore_n dX5_readDesk_142 rfl (Nat.le_of_ble_eq_true rfl) ?_
                            refine Rn.iload_n dX5_readDesk_143 rfl rfl ?_
                            refine Rn.if_neN (tgt := 152) dX5_readDesk_144 rfl (by decide) (by omega) (fun c144 => ?_) (fun c144 => ?_)
                            · first | omega | exact False.elim c144
                            · refine Rn.aload_n dX5_readDesk_147 rfl rfl ?_
                              refine Rn.getf f_X5_87 dX5_readDesk_148 rfl ((hs_ne _ _ (by decide)).trans ((hs_ne _ _ (by decide)).trans (hs_eq _ _ _))) (Nat.lt_of_le_of_lt (Nat.le_of_ble_eq_true rfl) ML) rfl ?_
                              refine Rn.iret dX5_readDesk_151 rfl rfl rfl ?_
                              have e9 : rIn t ln = (pl + 1, pl, p) := by rw [← h5]; exact lpR_d0 (by omega) (fun z => by have z3 := z.2.2; rw [nl_t (by omega)] at z3; omega) (dgN_0 (fun z => absurd z.2 (by rw [← (anyU_cong (ow_mix h4.2.1 h4.2.2.2.1) 4), hany]; decide)))
                              have k9 := k pl rm (mix pb p) ev (RX_f _ _ _ _ _ _ e9)
                              rw [e9] at k9
                              exact k9
                          · exact absurd c134 (by decide)
                        · refine Rn.heap (hs_d2 _ _ _ _ _ (by decide) (by decide)) ?_
                          refine Rn.if_eqB (tgt := 141) dX5_readDesk_134 rfl (by decide) (fun c134 => ?_) (fun c134 => ?_)
                          · refine Rn.iconst dX5_readDesk_141 rfl ic_0 ?_
                            refine Rn.istore_n dX5_readDesk_142 rfl (Nat.le_of_ble_eq_true rfl) ?_
                            refine Rn.iload_n dX5_readDesk_143 rfl rfl ?_
                            refine Rn.if_neN (tgt := 152) dX5_readDesk_144 rfl (by decide) (by omega) (fun c144 => ?_) (fun c144 => ?_)
                            · first | omega | exact False.elim c144
                            · refine Rn.aload_n dX5_readDesk_147 rfl rfl ?_
                              refine Rn.getf f_X5_87 dX5_readDesk_148 rfl ((hs_ne _ _ (by decide)).trans ((hs_ne _ _ (by decide)).trans (hs_eq _ _ _))) (Nat.lt_of_le_of_lt (Nat.le_of_ble_eq_true rfl) ML) rfl ?_
                              refine Rn.iret dX5_readDesk_151 rfl rfl rfl ?_
                              have e9 : rIn t ln = ((pl + 1) + 1, (pl + 1), p) := by rw [← h5]; exact lpR_d0 (by omega) (fun z => by have z3 := z.2.2; rw [nl_t (by omega)] at z3; omega) (dgN_1 ⟨by rw [nl_t (by omega)]; omega, (anyU_cong (ow_mix h4.2.1 h4.2.2.2.1) 4).symm.trans hany⟩ ((uNo_cong (ow_mix h4.2.1 h4.2.2.2.1)).symm.trans ez))
                              have k9 := k (pl + 1) rm (mix pb p) ev (RX_f _ _ _ _ _ _ e9)
                              rw [e9] at k9
                              exact k9
                          · exact absurd c134 (by decide)
                        · have vo' := (ow_mix h4.2.1 h4.2.2.2.1 a).symm.trans vo
                          have ea' := (uNo_cong (t := t) (ln := ln) (pl := pl + 1) (ow_mix h4.2.1 h4.2.2.2.1)).symm.trans ea
                          have hany' := (anyU_cong (ow_mix h4.2.1 h4.2.2.2.1) 4).symm.trans hany
                          have hmx := (RD_ev h4 v4 vo' (show 1 ≤ 1 by omega)).2
                          rw [hmx]
                          refine Rn.heap (HEQ3 _ _ _ _ _ _ _) ?_
                          refine Rn.if_eqB (tgt := 141) dX5_readDesk_134 rfl (by decide) (fun c134 => ?_) (fun c134 => ?_)
                          · exact absurd c134 (by decide)
                          · refine Rn.iconst dX5_readDesk_137 rfl ic_1 ?_
                            refine Rn.goto (tgt := 142) dX5_readDesk_138 (by decide) ?_
                            refine Rn.istore_n dX5_readDesk_142 rfl (Nat.le_of_ble_eq_true rfl) ?_
                            refine Rn.iload_n dX5_readDesk_143 rfl rfl ?_
                            refine Rn.if_neN (tgt := 152) dX5_readDesk_144 rfl (by decide) (by omega) (fun c144 => ?_) (fun c144 => ?_)
                            · refine Rn.goto (tgt := 73) dX5_readDesk_152 (by decide) ?_
                              exact Rn.pick [2] rfl (ih n (pl + 2) (rm + 1) pb (evP (10 * a + 1) p) (un ev rm (10 * a + 1)) (by omega) (by omega) (by omega) (by omega) (RD_ev h4 v4 vo' (by omega)).1 (by rw [← h5, ev_1, decide_eq_false (show ¬ rm + 1 = 0 by omega)]; exact (lpR_d1 (by omega) (fun z => by have z3 := z.2.2; rw [nl_t (by omega)] at z3; omega) (dgN_3 (by rw [nl_t (by omega)]; omega) hany' ea')).symm))
                            · first | omega | exact False.elim c144
                · refine Rn.aload_n dX5_readDesk_100 rfl rfl ?_
                  refine Rn.callV (as := []) v_X5_readUser l_X5_105 ⟨Nat.le_of_ble_eq_true rfl, Nat.le_of_ble_eq_true rfl⟩ dX5_readDesk_101 rfl rfl (Nat.le_of_ble_eq_true rfl) ((hs_ne _ _ (by decide)).trans ((hs_ne _ _ (by decide)).trans (hs_eq _ _ _))) (Nat.lt_of_le_of_lt (Nat.le_of_ble_eq_true rfl) ML) rfl (Nat.le_refl _) (Nat.le_refl _) (t_X5_readUser ((hs_ne _ _ (by decide)).trans ((hs_ne _ _ (by decide)).trans (hs_eq _ _ _))) ((hs_ne _ _ (by decide)).trans ((hs_ne _ _ (by decide)).trans ((hs_ne _ _ (by decide)).trans M16))) (by exact ML) hln htl (by omega) ((hs_ne _ _ (by decide)).trans (hs_eq _ _ _)) (OK_mix h4.1 h4.2.1) (by omega) (fun eA => ?_) (fun h24 hrm le ee ge => ?_) (fun h24 hrm a b c ha hb gc hc ee qe => ?_)) 
                  · refine Rn.goto (tgt := 142) dX5_readDesk_104 (by decide) ?_
                    refine Rn.istore_n dX5_readDesk_142 rfl (Nat.le_of_ble_eq_true rfl) ?_
                    refine Rn.iload_n dX5_readDesk_143 rfl rfl ?_
                    refine Rn.if_neB (tgt := 152) dX5_readDesk_144 rfl (by decide) (fun c144 => ?_) (fun c144 => ?_)
                    · exact absurd c144 (by decide)
                    · refine Rn.aload_n dX5_readDesk_147 rfl rfl ?_
                      refine Rn.getf f_X5_87 dX5_readDesk_148 rfl ((hs_ne _ _ (by decide)).trans ((hs_ne _ _ (by decide)).trans (hs_eq _ _ _))) (Nat.lt_of_le_of_lt (Nat.le_of_ble_eq_true rfl) ML) rfl ?_
                      refine Rn.iret dX5_readDesk_151 rfl rfl rfl ?_
                      have e9 : rIn t ln = (pl + 1, pl, p) := by rw [← h5]; exact lpR_d0 (by omega) (fun z => by have z1 := of_decide_eq_true z.1; have e24 : mix pb p 24 = p 24 := (mix_no _ _ (by omega)).trans h4.2.2.2.1.symm; omega) (dgN_0 (fun z => by have z1 := z.1; rw [nl_t (by omega)] at z1; omega))
                      have k9 := k pl rm (mix pb p) ev (RX_f _ _ _ _ _ _ e9)
                      rw [e9] at k9
                      exact k9
                  · refine Rn.heap (hs_d2 _ _ _ _ _ (by decide) (by decide)) ?_
                    refine Rn.goto (tgt := 142) dX5_readDesk_104 (by decide) ?_
                    refine Rn.istore_n dX5_readDesk_142 rfl (Nat.le_of_ble_eq_true rfl) ?_
                    refine Rn.iload_n dX5_readDesk_143 rfl rfl ?_
                    refine Rn.if_neB (tgt := 152) dX5_readDesk_144 rfl (by decide) (fun c144 => ?_) (fun c144 => ?_)
                    · exact absurd c144 (by decide)
                    · refine Rn.aload_n dX5_readDesk_147 rfl rfl ?_
                      refine Rn.getf f_X5_87 dX5_readDesk_148 rfl ((hs_ne _ _ (by decide)).trans ((hs_ne _ _ (by decide)).trans (hs_eq _ _ _))) (Nat.lt_of_le_of_lt (Nat.le_of_ble_eq_true rfl) ML) rfl ?_
                      refine Rn.iret dX5_readDesk_151 rfl rfl rfl ?_
                      obtain rfl : rm = 0 := hrm
                      have e24 : mix pb p 24 = p 24 := (mix_no _ _ (by omega)).trans h4.2.2.2.1.symm
                      have e9 : rIn t ln = (le + 1, le, p) := by rw [← h5]; exact lpR_u0 (by omega) (by omega) (by rw [nl_t (by omega)]; omega) ee
                      have k9 := k le 0 (mix pb p) ev (RX_f _ _ _ _ _ _ e9)
                      rw [e9] at k9
                      exact k9
                  · refine Rn.heap ((congrArg (fun z => hs z 17 _) (hs_d2 _ _ _ _ _ (by decide) (by decide))).trans (hs_d1 _ _ _ _ (by decide))) ?_
                    refine Rn.goto (tgt := 142) dX5_readDesk_104 (by decide) ?_
                    refine Rn.istore_n dX5_readDesk_142 rfl (Nat.le_of_ble_eq_true rfl) ?_
                    refine Rn.iload_n dX5_readDesk_143 rfl rfl ?_
                    refine Rn.if_neB (tgt := 152) dX5_readDesk_144 rfl (by decide) (fun c144 => ?_) (fun c144 => ?_)
                    · refine Rn.goto (tgt := 73) dX5_readDesk_152 (by decide) ?_
                      obtain rfl : rm = 0 := hrm
                      have ep : p = pb := h4.2.2.1
                      subst ep
                      rw [mix_self] at h24
                      rw [mix_self]
                      have hi := ih n (pl + 9) 0 (adP p a b c) (adP p a b c) ev (by omega) (by omega) (by omega) (by omega) (RD_ad h4 h24 ha hb hc) (by rw [← h5]; exact (lpR_u1 (by omega) h24 (by rw [nl_t (by omega)]; omega) ee).symm)
                      rw [mix_self (adP p a b c)] at hi
                      exact Rn.pick [2] rfl (hi)
                    · exact absurd c144 (by decide)
          exact Rn.pick [0] rfl (by have := hloop 81 80 2 0 (un p0 25 a) (un p0 25 a) ev0 (by omega) (by omega) (by omega) (by omega) (RD_0 ev0 ga ha) (by have e2 : fgN t ln 1 1 6 = a + 1 := ea; unfold rIn; rw [if_pos (show nlN t ln 0 = 84 by rw [nl_t (by omega)]; omega), if_neg (by omega), e2]; rfl); rw [mix_self, hs_self _ ((hs_ne _ _ (by decide)).trans ((hs_ne _ _ (by decide)).trans M18))] at this; exact this)
        · exact absurd c65 (nI_m9 (by omega))
    · refine Rn.iconst dX5_readDesk_35 rfl ic_0 ?_
      refine Rn.iret dX5_readDesk_36 rfl rfl rfl ?_
      have e9 : rIn t ln = (0 + 1, 0, p0) := by unfold rIn; rw [if_neg (show ¬ nlN t ln 0 = 84 by first | (rw [nl_t (by omega)]; omega) | (unfold nlN; rw [if_neg (by omega)]; omega))]
      have k9 := k 0 0 p0 ev0 (RX_f _ _ _ _ _ _ e9)
      rw [e9] at k9
      rw [hs_self _ ((hs_ne _ _ (by decide)).trans ((hs_ne _ _ (by decide)).trans M18))] at k9
      exact k9
theorem t_X5_fault {h : rHp} {Q : Option Value → rHp → Prop} {t : Nat → Nat} {ln : Nat} {p : Nat → Nat} {U : Nat → Nat → Nat} {a : Nat} {Kp : Nat → Nat → Nat} {ik : Nat → Bool} {su sp sn : Nat → Nat} {sz : Nat} {d : Int64} (I : MI h t ln p U a Kp ik su sp sn sz d) (O : OKs t ln p U a Kp ik su sp sn sz) (k : ∀ h', MI h' t ln p U a Kp ik su sp sn sz d → Fm h h' → Q (some (.int (wi (rIn t ln).1))) h') : Cl M_X5_fault h.1 h.2.1 [.ref 15] h Q := by
  obtain ⟨th, pl, rm, rp, ev, tp, BK, KM, IK, FF, M15, M16, M17, M18, M19, M20, M21, M22, M23, M24, M25, M26, M27, ML, RMh, RKh⟩ := id I
  obtain ⟨Ot, Oln, Op, OU, OK2, Osz, Osu, Osp, Osn⟩ := id O
  refine Cl.of pl_X5 (Nat.le_of_ble_eq_true rfl) (by first | exact Nat.le_refl _ | omega) (by first | exact Nat.le_refl _ | omega) ?_
  refine Rn.aload_n dX5_fault_0 rfl rfl ?_
  refine Rn.iconst dX5_fault_1 rfl ic_0 ?_
  refine Rn.putf p_X5_51 (fun h => by cases h) dX5_fault_2 rfl M15 (Nat.lt_of_le_of_lt (Nat.le_of_ble_eq_true rfl) ML) (fun g => ⟨rfl, rfl⟩) (Nat.le_of_ble_eq_true rfl) ?_
  refine Rn.aload_n dX5_fault_5 rfl rfl ?_
  refine Rn.callV (as := []) v_X5_readDesk l_X5_113 ⟨Nat.le_of_ble_eq_true rfl, Nat.le_of_ble_eq_true rfl⟩ dX5_fault_6 rfl rfl (Nat.le_of_ble_eq_true rfl) (hs_eq _ _ _) (Nat.lt_of_le_of_lt (Nat.le_of_ble_eq_true rfl) ML) rfl (Nat.le_refl _) (Nat.le_refl _) (t_X5_readDesk (hs_eq _ _ _) ((hs_ne _ _ (by decide)).trans M16) (by exact ML) Oln Ot ((hs_ne _ _ (by decide)).trans M17) ((hs_ne _ _ (by decide)).trans M18) (fun pl' rm' q' ev' RXh => ?_)) 
  · rw [hs_hs]
    have hrl := rIn_lt t ln
    refine Rn.iret dX5_fault_9 rfl rfl rfl ?_
    exact (k _ ⟨_, _, _, _, _, _, _, _, _, _, ((hs_ne _ _ (by decide)).trans ((hs_ne _ _ (by decide)).trans (hs_eq _ _ _))), ((hs_ne _ _ (by decide)).trans ((hs_ne _ _ (by decide)).trans ((hs_ne _ _ (by decide)).trans M16))), ((hs_ne _ _ (by decide)).trans (hs_eq _ _ _)), (hs_eq _ _ _), ((hs_ne _ _ (by decide)).trans ((hs_ne _ _ (by decide)).trans ((hs_ne _ _ (by decide)).trans M19))), ((hs_ne _ _ (by decide)).trans ((hs_ne _ _ (by decide)).trans ((hs_ne _ _ (by decide)).trans M20))), ((hs_ne _ _ (by decide)).trans ((hs_ne _ _ (by decide)).trans ((hs_ne _ _ (by decide)).trans M21))), ((hs_ne _ _ (by decide)).trans ((hs_ne _ _ (by decide)).trans ((hs_ne _ _ (by decide)).trans M22))), ((hs_ne _ _ (by decide)).trans ((hs_ne _ _ (by decide)).trans ((hs_ne _ _ (by decide)).trans M23))), ((hs_ne _ _ (by decide)).trans ((hs_ne _ _ (by decide)).trans ((hs_ne _ _ (by decide)).trans M24))), ((hs_ne _ _ (by decide)).trans ((hs_ne _ _ (by decide)).trans ((hs_ne _ _ (by decide)).trans M25))), ((hs_ne _ _ (by decide)).trans ((hs_ne _ _ (by decide)).trans ((hs_ne _ _ (by decide)).trans M26))), ((hs_ne _ _ (by decide)).trans ((hs_ne _ _ (by decide)).trans ((hs_ne _ _ (by decide)).trans M27))), ML, RMh, RKh⟩ ((((Fm.rf h).hs _ (by decide)).hs _ (by decide)).hs _ (by decide)))
theorem t_X5_desk {h : rHp} {Q : Option Value → rHp → Prop} {t : Nat → Nat} {ln : Nat} {p : Nat → Nat} {U : Nat → Nat → Nat} {a : Nat} {Kp : Nat → Nat → Nat} {ik : Nat → Bool} {su sp sn : Nat → Nat} {sz : Nat} {d : Int64} (I : MI h t ln p U a Kp ik su sp sn sz d) (O : OKs t ln p U a Kp ik su sp sn sz) (k : ∀ h', MI h' t ln (dkA t ln p a ik).2.1 U (dkA t ln p a ik).2.2.1 Kp (dkA t ln p a ik).2.2.2 su sp sn sz d → Fm h h' → OKp (dkA t ln p a ik).2.1 → Q (some (.int ((dkA t ln p a ik).1))) h') : Cl M_X5_desk h.1 h.2.1 [.ref 15] h Q := by
  obtain ⟨th, pl, rm, rp, ev, tp, BK, KM, IK, FF, M15, M16, M17, M18, M19, M20, M21, M22, M23, M24, M25, M26, M27, ML, RMh, RKh⟩ := id I
  obtain ⟨Ot, Oln, Op, OU, OK2, Osz, Osu, Osp, Osn⟩ := id O
  refine Cl.of pl_X5 (Nat.le_of_ble_eq_true rfl) (by first | exact Nat.le_refl _ | omega) (by first | exact Nat.le_refl _ | omega) ?_
  refine Rn.aload_n dX5_desk_0 rfl rfl ?_
  refine Rn.iconst dX5_desk_1 rfl ic_0 ?_
  refine Rn.putf p_X5_51 (fun h => by cases h) dX5_desk_2 rfl M15 (Nat.lt_of_le_of_lt (Nat.le_of_ble_eq_true rfl) ML) (fun g => ⟨rfl, rfl⟩) (Nat.le_of_ble_eq_true rfl) ?_
  refine Rn.aload_n dX5_desk_5 rfl rfl ?_
  refine Rn.callV (as := []) v_X5_readDesk l_X5_113 ⟨Nat.le_of_ble_eq_true rfl, Nat.le_of_ble_eq_true rfl⟩ dX5_desk_6 rfl rfl (Nat.le_of_ble_eq_true rfl) (hs_eq _ _ _) (Nat.lt_of_le_of_lt (Nat.le_of_ble_eq_true rfl) ML) rfl (Nat.le_refl _) (Nat.le_refl _) (t_X5_readDesk (hs_eq _ _ _) ((hs_ne _ _ (by decide)).trans M16) (by exact ML) Oln Ot ((hs_ne _ _ (by decide)).trans M17) ((hs_ne _ _ (by decide)).trans M18) (fun pl' rm' q' ev' RXh => ?_)) 
  · rw [hs_hs]
    have hrl := rIn_lt t ln
    refine Rn.bipush dX5_desk_9 rfl bp_m9 ?_
    refine Rn.icmp_eq (tgt := 17) dX5_desk_11 rfl (by decide) (fun c11 => ?_) (fun c11 => ?_)
    · have hz := wi_z hrl c11
      obtain ⟨pb, R, rfl, hrm40⟩ := RXh hz
      have h24 := R.1.1
      refine Rn.aload_n dX5_desk_17 rfl rfl ?_
      refine Rn.getf f_X5_13 dX5_desk_18 rfl ((hs_ne _ _ (by decide)).trans ((hs_ne _ _ (by decide)).trans (hs_eq _ _ _))) (Nat.lt_of_le_of_lt (Nat.le_of_ble_eq_true rfl) ML) rfl ?_
      refine Rn.aload_n dX5_desk_21 rfl rfl ?_
      refine Rn.getf f_X5_19 dX5_desk_22 rfl ((hs_ne _ _ (by decide)).trans ((hs_ne _ _ (by decide)).trans (hs_eq _ _ _))) (Nat.lt_of_le_of_lt (Nat.le_of_ble_eq_true rfl) ML) rfl ?_
      refine Rn.callS (as := [_, _]) s_X5_lay l_X5_116 ⟨Nat.le_of_ble_eq_true rfl, Nat.le_of_ble_eq_true rfl⟩ dX5_desk_25 rfl rfl (Nat.le_of_ble_eq_true rfl) (Nat.le_refl _) (Nat.le_refl _) (t_X5_lay ⟨((hs_ne _ _ (by decide)).trans (hs_eq _ _ _)), by exact (Nat.lt_of_le_of_lt (Nat.le_of_ble_eq_true rfl) ML)⟩ ⟨((hs_ne _ _ (by decide)).trans ((hs_ne _ _ (by decide)).trans ((hs_ne _ _ (by decide)).trans M19))), by exact (Nat.lt_of_le_of_lt (Nat.le_of_ble_eq_true rfl) ML)⟩ (by decide) ?_)
      refine Rn.iconst dX5_desk_28 rfl ic_0 ?_
      refine Rn.istore_n dX5_desk_29 rfl (Nat.le_of_ble_eq_true rfl) ?_
      have hloop : ∀ (m : Nat) (w : Nat), pb 24 - w < m → w ≤ pb 24 → Rn (M_X5_desk, none, h.1, h.2.1) Q 30 [(0, .ref 15), (1, .int (nI w))] [] (hs (hs (hs (hs h 15 (moO 0 ln pl' rm' a sz d)) 17 (.inl (36, pg (mix pb (rIn t ln).2.2)))) 18 (.inl (80, na ev'))) 19 (.inl (36, pg (fx pb (rIn t ln).2.2 w)))) := by
        intro m
        induction m with
        | zero => intro w h0 h1; exact absurd h0 (Nat.not_lt_zero _)
        | succ m ih =>
          intro w h0 h1
          refine Rn.iload_n dX5_desk_30 rfl rfl ?_
          refine Rn.aload_n dX5_desk_31 rfl rfl ?_
          refine Rn.getf f_X5_19 dX5_desk_32 rfl ((hs_ne _ _ (by decide)).trans ((hs_ne _ _ (by decide)).trans ((hs_ne _ _ (by decide)).trans (hs_eq _ _ _)))) (Nat.lt_of_le_of_lt (Nat.le_of_ble_eq_true rfl) ML) rfl ?_
          refine Rn.bipush dX5_desk_35 rfl bp_24 ?_
          refine Rn.ialdN dX5_desk_37 rfl (hs_eq _ _ _) (Nat.lt_of_le_of_lt (Nat.le_of_ble_eq_true rfl) ML) (by omega) (by omega) ?_
          refine Rn.top (pg_n _ (by omega) (by omega)) ?_
          refine Rn.top (congrArg nI (fx_n _ _ (Or.inr (by omega)))) ?_
          refine Rn.icmp_geN (tgt := 69) dX5_desk_38 rfl (by decide) (by omega) (by omega) (fun c38 => ?_) (fun c38 => ?_)
          · obtain rfl : w = pb 24 := by omega
            rw [fx_e R]
            refine Rn.iconst dX5_desk_69 rfl ic_0 ?_
            refine Rn.istore_n dX5_desk_70 rfl (Nat.le_of_ble_eq_true rfl) ?_
            have hloop2 : ∀ (m : Nat) (j : Nat), rm' - j < m → j ≤ rm' → Rn (M_X5_desk, none, h.1, h.2.1) Q 71 [(0, .ref 15), (1, .int (nI j))] [] (hs (hs (hs (hs h 15 (moO 0 ln pl' rm' a sz d)) 17 (.inl (36, pg (mix pb (rIn t ln).2.2)))) 18 (.inl (80, na ev'))) 19 (.inl (36, pg (rpE ev' j pb)))) := by
              intro m
              induction m with
              | zero => intro j h0 h1; exact absurd h0 (Nat.not_lt_zero _)
              | succ m ih2 =>
                intro j h0 h1
                refine Rn.iload_n dX5_desk_71 rfl rfl ?_
                refine Rn.aload_n dX5_desk_72 rfl rfl ?_
                refine Rn.getf f_X5_94 dX5_desk_73 rfl ((hs_ne _ _ (by decide)).trans ((hs_ne _ _ (by decide)).trans ((hs_ne _ _ (by decide)).trans (hs_eq _ _ _)))) (Nat.lt_of_le_of_lt (Nat.le_of_ble_eq_true rfl) ML) rfl ?_
                refine Rn.icmp_geN (tgt := 135) dX5_desk_76 rfl (by decide) (by omega) (by omega) (fun c76 => ?_) (fun c76 => ?_)
                · obtain rfl : j = rm' := by omega
                  refine Rn.aload_n dX5_desk_135 rfl rfl ?_
                  refine Rn.iconst dX5_desk_136 rfl ic_0 ?_
                  refine Rn.putf p_X5_124 (fun h => by cases h) dX5_desk_137 rfl ((hs_ne _ _ (by decide)).trans ((hs_ne _ _ (by decide)).trans ((hs_ne _ _ (by decide)).trans (hs_eq _ _ _)))) (Nat.lt_of_le_of_lt (Nat.le_of_ble_eq_true rfl) ML) (fun g => ⟨rfl, rfl⟩) (Nat.le_of_ble_eq_true rfl) ?_
                  refine Rn.heap (hs_d3 _ _ _ _ _ _ (by decide) (by decide) (by decide)) ?_
                  refine Rn.aload_n dX5_desk_140 rfl rfl ?_
                  refine Rn.getf f_X5_31 dX5_desk_141 rfl ((hs_ne _ _ (by decide)).trans ((hs_ne _ _ (by decide)).trans ((hs_ne _ _ (by decide)).trans (hs_eq _ _ _)))) (Nat.lt_of_le_of_lt (Nat.le_of_ble_eq_true rfl) ML) rfl ?_
                  refine Rn.iconst dX5_desk_144 rfl ic_0 ?_
                  refine Rn.iconst dX5_desk_145 rfl ic_0 ?_
                  refine Rn.zastN dX5_desk_146 rfl ((hs_ne _ _ (by decide)).trans ((hs_ne _ _ (by decide)).trans ((hs_ne _ _ (by decide)).trans ((hs_ne _ _ (by decide)).trans M23)))) (Nat.lt_of_le_of_lt (Nat.le_of_ble_eq_true rfl) ML) (by omega) (by omega) ?_
                  rw [nar_0]
                  refine Rn.aload_n dX5_desk_147 rfl rfl ?_
                  refine Rn.getf f_X5_31 dX5_desk_148 rfl ((hs_ne _ _ (by decide)).trans ((hs_ne _ _ (by decide)).trans ((hs_ne _ _ (by decide)).trans ((hs_ne _ _ (by decide)).trans (hs_eq _ _ _))))) (Nat.lt_of_le_of_lt (Nat.le_of_ble_eq_true rfl) ML) rfl ?_
                  refine Rn.iconst dX5_desk_151 rfl ic_1 ?_
                  refine Rn.iconst dX5_desk_152 rfl ic_0 ?_
                  refine Rn.zastN dX5_desk_153 rfl (hs_eq _ _ _) (Nat.lt_of_le_of_lt (Nat.le_of_ble_eq_true rfl) ML) (by omega) (by omega) ?_
                  rw [nar_0]
                  refine Rn.heap (hs_hs _ _ _ _) ?_
                  refine Rn.aload_n dX5_desk_154 rfl rfl ?_
                  refine Rn.getf f_X5_19 dX5_desk_155 rfl ((hs_ne _ _ (by decide)).trans ((hs_ne _ _ (by decide)).trans ((hs_ne _ _ (by decide)).trans ((hs_ne _ _ (by decide)).trans (hs_eq _ _ _))))) (Nat.lt_of_le_of_lt (Nat.le_of_ble_eq_true rfl) ML) rfl ?_
                  refine Rn.bipush dX5_desk_158 rfl bp_24 ?_
                  refine Rn.ialdN dX5_desk_160 rfl ((hs_ne _ _ (by decide)).trans (hs_eq _ _ _)) (Nat.lt_of_le_of_lt (Nat.le_of_ble_eq_true rfl) ML) (by omega) (by omega) ?_
                  refine Rn.top (pg_n _ (by omega) (by omega)) ?_
                  refine Rn.iret dX5_desk_161 rfl rfl rfl ?_
                  have e0 : dkA t ln p a ik = (nI ((rIn t ln).2.2 24), (rIn t ln).2.2, 0, fun _ => false) := by unfold dkA; rw [if_pos hz]
                  rw [e0] at k
                  have eR := R.2.2.1
                  rw [eR] at k
                  exact k _ ⟨_, _, _, _, _, _, _, _, _, _, ((hs_ne _ _ (by decide)).trans ((hs_ne _ _ (by decide)).trans ((hs_ne _ _ (by decide)).trans ((hs_ne _ _ (by decide)).trans (hs_eq _ _ _))))), ((hs_ne _ _ (by decide)).trans ((hs_ne _ _ (by decide)).trans ((hs_ne _ _ (by decide)).trans ((hs_ne _ _ (by decide)).trans ((hs_ne _ _ (by decide)).trans M16))))), ((hs_ne _ _ (by decide)).trans ((hs_ne _ _ (by decide)).trans ((hs_ne _ _ (by decide)).trans (hs_eq _ _ _)))), ((hs_ne _ _ (by decide)).trans ((hs_ne _ _ (by decide)).trans (hs_eq _ _ _))), ((hs_ne _ _ (by decide)).trans (hs_eq _ _ _)), ((hs_ne _ _ (by decide)).trans ((hs_ne _ _ (by decide)).trans ((hs_ne _ _ (by decide)).trans ((hs_ne _ _ (by decide)).trans ((hs_ne _ _ (by decide)).trans M20))))), ((hs_ne _ _ (by decide)).trans ((hs_ne _ _ (by decide)).trans ((hs_ne _ _ (by decide)).trans ((hs_ne _ _ (by decide)).trans ((hs_ne _ _ (by decide)).trans M21))))), ((hs_ne _ _ (by decide)).trans ((hs_ne _ _ (by decide)).trans ((hs_ne _ _ (by decide)).trans ((hs_ne _ _ (by decide)).trans ((hs_ne _ _ (by decide)).trans M22))))), (hs_eq _ _ _), ((hs_ne _ _ (by decide)).trans ((hs_ne _ _ (by decide)).trans ((hs_ne _ _ (by decide)).trans ((hs_ne _ _ (by decide)).trans ((hs_ne _ _ (by decide)).trans M24))))), ((hs_ne _ _ (by decide)).trans ((hs_ne _ _ (by decide)).trans ((hs_ne _ _ (by decide)).trans ((hs_ne _ _ (by decide)).trans ((hs_ne _ _ (by decide)).trans M25))))), ((hs_ne _ _ (by decide)).trans ((hs_ne _ _ (by decide)).trans ((hs_ne _ _ (by decide)).trans ((hs_ne _ _ (by decide)).trans ((hs_ne _ _ (by decide)).trans M26))))), ((hs_ne _ _ (by decide)).trans ((hs_ne _ _ (by decide)).trans ((hs_ne _ _ (by decide)).trans ((hs_ne _ _ (by decide)).trans ((hs_ne _ _ (by decide)).trans M27))))), ML, (RM_0 RMh), (RL_no _ _ _)⟩ ((((((Fm.rf h).hs _ (by decide)).hs _ (by decide)).hs _ (by decide)).hs _ (by decide)).hs _ (by decide)) (eR ▸ R.2.1)
                · refine Rn.aload_n dX5_desk_79 rfl rfl ?_
                  refine Rn.getf f_X5_16 dX5_desk_80 rfl ((hs_ne _ _ (by decide)).trans ((hs_ne _ _ (by decide)).trans ((hs_ne _ _ (by decide)).trans (hs_eq _ _ _)))) (Nat.lt_of_le_of_lt (Nat.le_of_ble_eq_true rfl) ML) rfl ?_
                  refine Rn.iload_n dX5_desk_83 rfl rfl ?_
                  refine Rn.ialdN dX5_desk_84 rfl ((hs_ne _ _ (by decide)).trans (hs_eq _ _ _)) (Nat.lt_of_le_of_lt (Nat.le_of_ble_eq_true rfl) ML) (by omega) (by omega) ?_
                  refine Rn.top (show na ev' j = nI (ev' j) from rfl) ?_
                  have hj := R.2.2.2.2.2.2 j (by omega)
                  have Oj := rp_ok R j (by omega)
                  refine Rn.bipush dX5_desk_85 rfl bp_10 ?_
                  refine Rn.idivN dX5_desk_87 rfl (by omega) (by omega) (by omega) ?_
                  refine Rn.istore_n dX5_desk_88 rfl (Nat.le_of_ble_eq_true rfl) ?_
                  refine Rn.aload_n dX5_desk_89 rfl rfl ?_
                  refine Rn.getf f_X5_16 dX5_desk_90 rfl ((hs_ne _ _ (by decide)).trans ((hs_ne _ _ (by decide)).trans ((hs_ne _ _ (by decide)).trans (hs_eq _ _ _)))) (Nat.lt_of_le_of_lt (Nat.le_of_ble_eq_true rfl) ML) rfl ?_
                  refine Rn.iload_n dX5_desk_93 rfl rfl ?_
                  refine Rn.ialdN dX5_desk_94 rfl ((hs_ne _ _ (by decide)).trans (hs_eq _ _ _)) (Nat.lt_of_le_of_lt (Nat.le_of_ble_eq_true rfl) ML) (by omega) (by omega) ?_
                  refine Rn.top (show na ev' j = nI (ev' j) from rfl) ?_
                  refine Rn.bipush dX5_desk_95 rfl bp_10 ?_
                  refine Rn.iremN dX5_desk_97 rfl (by omega) (by omega) (by omega) ?_
                  refine Rn.iconst dX5_desk_98 rfl ic_1 ?_
                  refine Rn.icmp_neN (tgt := 120) dX5_desk_99 rfl (by decide) (by omega) (by omega) (fun c99 => ?_) (fun c99 => ?_)
                  · refine Rn.aload_n dX5_desk_120 rfl rfl ?_
                    refine Rn.getf f_X5_19 dX5_desk_121 rfl ((hs_ne _ _ (by decide)).trans ((hs_ne _ _ (by decide)).trans ((hs_ne _ _ (by decide)).trans (hs_eq _ _ _)))) (Nat.lt_of_le_of_lt (Nat.le_of_ble_eq_true rfl) ML) rfl ?_
                    refine Rn.iload_n dX5_desk_124 rfl rfl ?_
                    refine Rn.callS (as := [_, _]) s_X5_sendOn l_X5_120 ⟨Nat.le_of_ble_eq_true rfl, Nat.le_of_ble_eq_true rfl⟩ dX5_desk_125 rfl rfl (Nat.le_of_ble_eq_true rfl) (Nat.le_refl _) (Nat.le_refl _) (t_X5_sendOn ⟨(hs_eq _ _ _), by exact (Nat.lt_of_le_of_lt (Nat.le_of_ble_eq_true rfl) ML)⟩ Oj hj.2.1 hj.2.2 ?_)
                    refine Rn.heap (hs_hs _ _ _ _) ?_
                    refine Rn.pop dX5_desk_128 rfl rfl ?_
                    refine Rn.iincN dX5_desk_129 rfl rfl (Nat.le_of_ble_eq_true rfl) ?_
                    refine Rn.goto (tgt := 71) dX5_desk_132 (by decide) ?_
                    refine Rn.heap (hs_in (congrArg pg (show _ = rpE ev' (j + 1) pb from (if_neg (by omega)).symm))) ?_
                    exact Rn.pick [2, 0] rfl (ih2 (j + 1) (by omega) (by omega))
                  · refine Rn.aload_n dX5_desk_102 rfl rfl ?_
                    refine Rn.getf f_X5_19 dX5_desk_103 rfl ((hs_ne _ _ (by decide)).trans ((hs_ne _ _ (by decide)).trans ((hs_ne _ _ (by decide)).trans (hs_eq _ _ _)))) (Nat.lt_of_le_of_lt (Nat.le_of_ble_eq_true rfl) ML) rfl ?_
                    refine Rn.bipush dX5_desk_106 rfl bp_6 ?_
                    refine Rn.iload_n dX5_desk_108 rfl rfl ?_
                    refine Rn.imulN dX5_desk_109 rfl ?_
                    refine Rn.iconst dX5_desk_110 rfl ic_3 ?_
                    refine Rn.iaddN dX5_desk_111 rfl ?_
                    refine Rn.dup2 dX5_desk_112 rfl rfl rfl ?_
                    refine Rn.ialdN dX5_desk_113 rfl (hs_eq _ _ _) (Nat.lt_of_le_of_lt (Nat.le_of_ble_eq_true rfl) ML) (by omega) (by omega) ?_
                    refine Rn.top (pg_us _ (by omega) (show 3 < 6 by omega)) ?_
                    have hj3 := (ow_t hj.2.2).2
                    have hjs := (Oj.us hj.2.1).2.2.2.1
                    refine Rn.iconst dX5_desk_114 rfl ic_1 ?_
                    refine Rn.isubN dX5_desk_115 rfl (by omega) ?_
                    refine Rn.iastN dX5_desk_116 rfl (hs_eq _ _ _) (Nat.lt_of_le_of_lt (Nat.le_of_ble_eq_true rfl) ML) (by omega) (by omega) ?_
                    refine Rn.heap (Pa.upd ((upd_pg _ _ (by omega) (by omega)).trans (congrArg pg (sp_y hj.2.2)))) ?_
                    refine Rn.heap (hs_hs _ _ _ _) ?_
                    refine Rn.goto (tgt := 129) dX5_desk_117 (by decide) ?_
                    refine Rn.iincN dX5_desk_129 rfl rfl (Nat.le_of_ble_eq_true rfl) ?_
                    refine Rn.goto (tgt := 71) dX5_desk_132 (by decide) ?_
                    refine Rn.heap (hs_in (congrArg pg (show _ = rpE ev' (j + 1) pb from (if_pos (by omega)).symm))) ?_
                    exact Rn.pick [2, 0] rfl (ih2 (j + 1) (by omega) (by omega))
            exact Rn.pick [1, 0] rfl (hloop2 (rm' + 1) 0 (by omega) (by omega))
          · refine Rn.aload_n dX5_desk_41 rfl rfl ?_
            refine Rn.getf f_X5_19 dX5_desk_42 rfl ((hs_ne _ _ (by decide)).trans ((hs_ne _ _ (by decide)).trans ((hs_ne _ _ (by decide)).trans (hs_eq _ _ _)))) (Nat.lt_of_le_of_lt (Nat.le_of_ble_eq_true rfl) ML) rfl ?_
            refine Rn.bipush dX5_desk_45 rfl bp_6 ?_
            refine Rn.iload_n dX5_desk_47 rfl rfl ?_
            refine Rn.imulN dX5_desk_48 rfl ?_
            refine Rn.iconst dX5_desk_49 rfl ic_3 ?_
            refine Rn.iaddN dX5_desk_50 rfl ?_
            refine Rn.aload_n dX5_desk_51 rfl rfl ?_
            refine Rn.getf f_X5_19 dX5_desk_52 rfl ((hs_ne _ _ (by decide)).trans ((hs_ne _ _ (by decide)).trans ((hs_ne _ _ (by decide)).trans (hs_eq _ _ _)))) (Nat.lt_of_le_of_lt (Nat.le_of_ble_eq_true rfl) ML) rfl ?_
            refine Rn.bipush dX5_desk_55 rfl bp_6 ?_
            refine Rn.iload_n dX5_desk_57 rfl rfl ?_
            refine Rn.imulN dX5_desk_58 rfl ?_
            refine Rn.iconst dX5_desk_59 rfl ic_2 ?_
            refine Rn.iaddN dX5_desk_60 rfl ?_
            refine Rn.ialdN dX5_desk_61 rfl (hs_eq _ _ _) (Nat.lt_of_le_of_lt (Nat.le_of_ble_eq_true rfl) ML) (by omega) (by omega) ?_
            refine Rn.top (pg_us _ (by omega) (show 2 < 6 by omega)) ?_
            refine Rn.iastN dX5_desk_62 rfl (hs_eq _ _ _) (Nat.lt_of_le_of_lt (Nat.le_of_ble_eq_true rfl) ML) (by omega) (by omega) ?_
            refine Rn.heap (Pa.upd ((upd_pg _ _ (by omega) (by omega)).trans (congrArg pg (fx_s (by omega) (R.2.2.2.2.1 w (by omega)))))) ?_
            refine Rn.heap (hs_hs _ _ _ _) ?_
            refine Rn.iincN dX5_desk_63 rfl rfl (Nat.le_of_ble_eq_true rfl) ?_
            refine Rn.goto (tgt := 30) dX5_desk_66 (by decide) ?_
            exact Rn.pick [1, 0] rfl (ih (w + 1) (by omega) (by omega))
      exact Rn.pick [1, 0] rfl (by have := hloop (pb 24 + 1) 0 (by omega) (by omega); rw [← fx_0] at this; exact this)
    · refine Rn.bipush dX5_desk_14 rfl bp_m3 ?_
      refine Rn.iret dX5_desk_16 rfl rfl rfl ?_
      have e0 : dkA t ln p a ik = (-3, p, a, ik) := by unfold dkA; rw [if_neg (fun z => c11 (by rw [z]; rfl))]
      rw [e0] at k
      exact k _ ⟨_, _, _, _, _, _, _, _, _, _, ((hs_ne _ _ (by decide)).trans ((hs_ne _ _ (by decide)).trans (hs_eq _ _ _))), ((hs_ne _ _ (by decide)).trans ((hs_ne _ _ (by decide)).trans ((hs_ne _ _ (by decide)).trans M16))), ((hs_ne _ _ (by decide)).trans (hs_eq _ _ _)), (hs_eq _ _ _), ((hs_ne _ _ (by decide)).trans ((hs_ne _ _ (by decide)).trans ((hs_ne _ _ (by decide)).trans M19))), ((hs_ne _ _ (by decide)).trans ((hs_ne _ _ (by decide)).trans ((hs_ne _ _ (by decide)).trans M20))), ((hs_ne _ _ (by decide)).trans ((hs_ne _ _ (by decide)).trans ((hs_ne _ _ (by decide)).trans M21))), ((hs_ne _ _ (by decide)).trans ((hs_ne _ _ (by decide)).trans ((hs_ne _ _ (by decide)).trans M22))), ((hs_ne _ _ (by decide)).trans ((hs_ne _ _ (by decide)).trans ((hs_ne _ _ (by decide)).trans M23))), ((hs_ne _ _ (by decide)).trans ((hs_ne _ _ (by decide)).trans ((hs_ne _ _ (by decide)).trans M24))), ((hs_ne _ _ (by decide)).trans ((hs_ne _ _ (by decide)).trans ((hs_ne _ _ (by decide)).trans M25))), ((hs_ne _ _ (by decide)).trans ((hs_ne _ _ (by decide)).trans ((hs_ne _ _ (by decide)).trans M26))), ((hs_ne _ _ (by decide)).trans ((hs_ne _ _ (by decide)).trans ((hs_ne _ _ (by decide)).trans M27))), ML, RMh, RKh⟩ ((((Fm.rf h).hs _ (by decide)).hs _ (by decide)).hs _ (by decide)) Op
