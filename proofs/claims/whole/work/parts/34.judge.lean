theorem soA_1 {p : Nat → Nat} {c : Nat} (e : c / 1000 = 1) : soA p c = if c % 100 = 0 ∧ ow p (c / 100 % 10) = true then (true, seP p (c / 100 % 10)) else (false, p) := by unfold soA; rw [if_pos e]
theorem soA_2 {p : Nat → Nat} {c : Nat} (e : c / 1000 = 2) : soA p c = if c % 100 = 0 ∧ ow p (c / 100 % 10) = true then (true, spP p (c / 100 % 10)) else (false, p) := by unfold soA; rw [if_neg (by omega), if_pos e]
theorem soA_3 {p : Nat → Nat} {c : Nat} (e : c / 1000 = 3) : soA p c = (decide (c / 100 % 10 < p 24 ∧ p (6 * (c / 100 % 10) + 3) = c % 100), p) := by unfold soA; rw [if_neg (by omega), if_neg (by omega), if_pos e]
theorem soA_4 {p : Nat → Nat} {c : Nat} (e : c / 1000 = 4) : soA p c = (decide (c / 100 % 10 < p 24 ∧ p (6 * (c / 100 % 10) + 5) = c % 100), p) := by unfold soA; rw [if_neg (by omega), if_neg (by omega), if_neg (by omega), if_pos e]
theorem soA_5 {p : Nat → Nat} {c : Nat} (e : c / 1000 = 5) : soA p c = (decide (c % 1000 ≤ 250 ∧ 0 < cnt (ftd p (c % 1000)) 4), p) := by unfold soA; rw [if_neg (by omega), if_neg (by omega), if_neg (by omega), if_neg (by omega), if_pos e]
theorem soA_6 {p : Nat → Nat} {c : Nat} (e : c / 1000 = 6) : soA p c = (decide (c % 100 ≤ 1 ∧ c / 100 % 10 < p 24 ∧ stp p (c / 100 % 10) = decide (c % 100 = 1)), p) := by unfold soA; rw [if_neg (by omega), if_neg (by omega), if_neg (by omega), if_neg (by omega), if_neg (by omega), if_pos e]
theorem soA_7 {p : Nat → Nat} {c : Nat} (e : c / 1000 = 7) : soA p c = if c % 100 = 0 ∧ 1 ≤ c / 100 % 10 ∧ c / 100 % 10 ≤ 6 then (true, un p 25 (c / 100 % 10)) else (false, p) := by unfold soA; rw [if_neg (by omega), if_neg (by omega), if_neg (by omega), if_neg (by omega), if_neg (by omega), if_neg (by omega), if_pos e]
theorem soA_d {p : Nat → Nat} {c : Nat} (e : c / 1000 < 1 ∨ 7 < c / 1000) : soA p c = (false, p) := by unfold soA; rw [if_neg (by omega), if_neg (by omega), if_neg (by omega), if_neg (by omega), if_neg (by omega), if_neg (by omega), if_neg (by omega)]
theorem OK_so {p : Nat → Nat} (O : OKp p) (c : Nat) : OKp (soA p c).2 := by
  have h4 := O.1
  by_cases h1 : c / 1000 = 1
  · rw [soA_1 h1]
    by_cases h : c % 100 = 0 ∧ ow p (c / 100 % 10) = true
    · rw [if_pos h]; exact OK_se O (by have := (ow_t h.2).1; omega)
    · rw [if_neg h]; exact O
  by_cases h2 : c / 1000 = 2
  · rw [soA_2 h2]
    by_cases h : c % 100 = 0 ∧ ow p (c / 100 % 10) = true
    · rw [if_pos h]; exact OK_sp O (by have := (ow_t h.2).1; omega)
    · rw [if_neg h]; exact O
  by_cases h3 : c / 1000 = 3
  · rw [soA_3 h3]; exact O
  by_cases h4 : c / 1000 = 4
  · rw [soA_4 h4]; exact O
  by_cases h5 : c / 1000 = 5
  · rw [soA_5 h5]; exact O
  by_cases h6 : c / 1000 = 6
  · rw [soA_6 h6]; exact O
  by_cases h7 : c / 1000 = 7
  · rw [soA_7 h7]
    by_cases h : c % 100 = 0 ∧ 1 ≤ c / 100 % 10 ∧ c / 100 % 10 ≤ 6
    · rw [if_pos h]; exact OK_win O h.2.1 h.2.2
    · rw [if_neg h]; exact O
  rw [soA_d (by omega)]; exact O
theorem bi_dt {c : Prop} {i : Decidable c} (h : c) : nI 1 = bi (@decide c i) := by rw [decide_eq_true h, bi_t]
theorem bi_df {c : Prop} {i : Decidable c} (h : ¬ c) : nI 0 = bi (@decide c i) := by rw [decide_eq_false h, bi_f]
theorem bi_inj {a b : Bool} (h : bi a = bi b) : a = b := by cases a <;> cases b <;> first | rfl | exact absurd h (by decide)
theorem t_X4_isSo {h : rHp} {Q : Option Value → rHp → Prop} {p pt : Nat → Nat} {d : Int64} (C : Cx h d) (H : Hl h 3 p) (G : Hl h 5 pt) {p1 : Nat → Nat} (O1 : OKp p1) {c : Nat} (hc : c < 10000) (k : Q (some (.int (bi (soA p1 c).1))) (hp h 5 (soA p1 c).2)) : Cl M_X4_isSo h.1 h.2.1 [.ref 0, .int (nI c)] (hp h 5 p1) Q := by
  refine Cl.of pl_X4 (Nat.le_of_ble_eq_true rfl) (by first | exact Nat.le_refl _ | omega) (by first | exact Nat.le_refl _ | omega) ?_
  refine Rn.iload_n dX4_isSo_0 rfl rfl ?_
  refine Rn.bipush dX4_isSo_1 rfl bp_100 ?_
  refine Rn.idivN dX4_isSo_3 rfl (by omega) (by omega) (by omega) ?_
  refine Rn.bipush dX4_isSo_4 rfl bp_10 ?_
  refine Rn.iremN dX4_isSo_6 rfl (by omega) (by omega) (by omega) ?_
  refine Rn.istore_n dX4_isSo_7 rfl (Nat.le_of_ble_eq_true rfl) ?_
  refine Rn.iload_n dX4_isSo_8 rfl rfl ?_
  refine Rn.bipush dX4_isSo_9 rfl bp_100 ?_
  refine Rn.iremN dX4_isSo_11 rfl (by omega) (by omega) (by omega) ?_
  refine Rn.istore_n dX4_isSo_12 rfl (Nat.le_of_ble_eq_true rfl) ?_
  refine Rn.iload_n dX4_isSo_13 rfl rfl ?_
  refine Rn.sipush dX4_isSo_14 rfl sp_1000 ?_
  refine Rn.idivN dX4_isSo_17 rfl (by omega) (by omega) (by omega) ?_
  refine Rn.tswN (l0 := 1) (n := 7) (tgtD := 252) dX4_isSo_18 rfl rfl (by omega) (by decide) (fun cy => ?_) (fun g1 g2 => ?_)
  · refine Rn.iconst dX4_isSo_252 rfl ic_0 ?_
    refine Rn.zret dX4_isSo_253 rfl (by decide) rfl rfl ?_
    exact rn_fin k (some_int (by rw [soA_d cy]; exact bi_f.symm)) (by rw [soA_d cy])
  · rcases (show c / 1000 = 1 ∨ c / 1000 = 2 ∨ c / 1000 = 3 ∨ c / 1000 = 4 ∨ c / 1000 = 5 ∨ c / 1000 = 6 ∨ c / 1000 = 7 by omega) with ej | ej | ej | ej | ej | ej | ej
    · refine ⟨42, 60, by rw [ej]; rfl, by decide, ?_⟩
      refine Rn.iload_n dX4_isSo_60 rfl rfl ?_
      refine Rn.if_neN (tgt := 76) dX4_isSo_61 rfl (by decide) (by omega) (fun c61 => ?_) (fun c61 => ?_)
      · refine Rn.iconst dX4_isSo_76 rfl ic_0 ?_
        refine Rn.zret dX4_isSo_77 rfl (by decide) rfl rfl ?_
        first | (have e9 := (soA_1 (p := p1) ej).trans (if_neg (fun z => c61 z.1))); rw [e9] at k; exact rn_fin k bi_f' rfl | (have e9 := (soA_1 (p := p1) ej).trans (if_neg (fun z => absurd z.2 (by rw [c69]; decide)))); rw [e9] at k; exact rn_fin k bi_f' (by unfold seP; rw [c69]; rfl)
      · refine Rn.aload_n dX4_isSo_64 rfl rfl ?_
        refine Rn.iload_n dX4_isSo_65 rfl rfl ?_
        refine Rn.callV (as := [_]) v_X4_sendInMind l_X4_223 ⟨Nat.le_of_ble_eq_true rfl, Nat.le_of_ble_eq_true rfl⟩ dX4_isSo_66 rfl rfl (Nat.le_of_ble_eq_true rfl) ((hs_ne _ _ (by decide)).trans C.1) C.2 rfl (Nat.le_refl _) (Nat.le_refl _) (t_X4_sendInMind C H G O1 (by omega) ?_) 
        refine Rn.if_eqB (tgt := 76) dX4_isSo_69 rfl (by decide) (fun c69 => ?_) (fun c69 => ?_)
        · refine Rn.iconst dX4_isSo_76 rfl ic_0 ?_
          refine Rn.zret dX4_isSo_77 rfl (by decide) rfl rfl ?_
          first | (have e9 := (soA_1 (p := p1) ej).trans (if_neg (fun z => c61 z.1))); rw [e9] at k; exact rn_fin k bi_f' rfl | (have e9 := (soA_1 (p := p1) ej).trans (if_neg (fun z => absurd z.2 (by rw [c69]; decide)))); rw [e9] at k; exact rn_fin k bi_f' (by unfold seP; rw [c69]; rfl)
        · refine Rn.iconst dX4_isSo_72 rfl ic_1 ?_
          refine Rn.goto (tgt := 77) dX4_isSo_73 (by decide) ?_
          refine Rn.zret dX4_isSo_77 rfl (by decide) rfl rfl ?_
          have e9 := (soA_1 (p := p1) ej).trans (if_pos ⟨c61, c69⟩)
          rw [e9] at k
          exact rn_fin k bi_t' rfl
    · refine ⟨60, 78, by rw [ej]; rfl, by decide, ?_⟩
      refine Rn.iload_n dX4_isSo_78 rfl rfl ?_
      refine Rn.if_neN (tgt := 97) dX4_isSo_79 rfl (by decide) (by omega) (fun c79 => ?_) (fun c79 => ?_)
      · refine Rn.iconst dX4_isSo_97 rfl ic_0 ?_
        refine Rn.zret dX4_isSo_98 rfl (by decide) rfl rfl ?_
        first | (have e9 := (soA_2 (p := p1) ej).trans (if_neg (fun z => c79 z.1))); rw [e9] at k; exact rn_fin k bi_f' rfl | (have e9 := (soA_2 (p := p1) ej).trans (if_neg (fun z => absurd z.2 (by rw [c90]; decide)))); rw [e9] at k; exact rn_fin k bi_f' (by unfold spP; rw [c90]; rfl)
      · refine Rn.aload_n dX4_isSo_82 rfl rfl ?_
        refine Rn.getf f_X4_23 dX4_isSo_83 rfl ((hs_ne _ _ (by decide)).trans C.1) C.2 rfl ?_
        refine Rn.iload_n dX4_isSo_86 rfl rfl ?_
        refine Rn.callV (as := [_]) v_X0_spendPass l_X4_113 ⟨Nat.le_of_ble_eq_true rfl, Nat.le_of_ble_eq_true rfl⟩ dX4_isSo_87 rfl rfl (Nat.le_of_ble_eq_true rfl) ((hs_ne _ _ (by decide)).trans G.1) G.2.2.1 rfl (Nat.le_refl _) (Nat.le_refl _) (t_X0_spendPass (G.put _) O1 (by omega) ?_) 
        refine Rn.heap (hp_hp _ _ _ _) ?_
        refine Rn.if_eqB (tgt := 97) dX4_isSo_90 rfl (by decide) (fun c90 => ?_) (fun c90 => ?_)
        · refine Rn.iconst dX4_isSo_97 rfl ic_0 ?_
          refine Rn.zret dX4_isSo_98 rfl (by decide) rfl rfl ?_
          first | (have e9 := (soA_2 (p := p1) ej).trans (if_neg (fun z => c79 z.1))); rw [e9] at k; exact rn_fin k bi_f' rfl | (have e9 := (soA_2 (p := p1) ej).trans (if_neg (fun z => absurd z.2 (by rw [c90]; decide)))); rw [e9] at k; exact rn_fin k bi_f' (by unfold spP; rw [c90]; rfl)
        · refine Rn.iconst dX4_isSo_93 rfl ic_1 ?_
          refine Rn.goto (tgt := 98) dX4_isSo_94 (by decide) ?_
          refine Rn.zret dX4_isSo_98 rfl (by decide) rfl rfl ?_
          have e9 := (soA_2 (p := p1) ej).trans (if_pos ⟨c79, c90⟩)
          rw [e9] at k
          exact rn_fin k bi_t' rfl
    · refine ⟨81, 99, by rw [ej]; rfl, by decide, ?_⟩
      refine Rn.aload_n dX4_isSo_99 rfl rfl ?_
      refine Rn.getf f_X4_23 dX4_isSo_100 rfl ((hs_ne _ _ (by decide)).trans C.1) C.2 rfl ?_
      refine Rn.iload_n dX4_isSo_103 rfl rfl ?_
      refine Rn.callV (as := [_]) v_X0_has l_X4_67 ⟨Nat.le_of_ble_eq_true rfl, Nat.le_of_ble_eq_true rfl⟩ dX4_isSo_104 rfl rfl (Nat.le_of_ble_eq_true rfl) ((hs_ne _ _ (by decide)).trans G.1) G.2.2.1 rfl (Nat.le_refl _) (Nat.le_refl _) (t_X0_has (G.put _) O1.1 ?_) 
      refine Rn.top (congrArg bi (hasB_nI (by omega))) ?_
      refine Rn.if_eqB (tgt := 127) dX4_isSo_107 rfl (by decide) (fun c107 => ?_) (fun c107 => ?_)
      · refine Rn.iconst dX4_isSo_127 rfl ic_0 ?_
        refine Rn.zret dX4_isSo_128 rfl (by decide) rfl rfl ?_
        rw [soA_3 ej] at k
        first | exact rn_fin k (some_int (bi_df (fun z => of_decide_eq_false c107 z.1))) rfl | exact rn_fin k (some_int (bi_df (fun z => c120 z.2))) rfl
      · have hw24 := of_decide_eq_true c107
        have h4 := O1.1
        have hus := O1.us (show c / 100 % 10 < 4 by omega)
        refine Rn.aload_n dX4_isSo_110 rfl rfl ?_
        refine Rn.getf f_X4_23 dX4_isSo_111 rfl ((hs_ne _ _ (by decide)).trans C.1) C.2 rfl ?_
        refine Rn.iload_n dX4_isSo_114 rfl rfl ?_
        refine Rn.iconst dX4_isSo_115 rfl ic_3 ?_
        refine Rn.callV (as := [_, _]) v_X0_of l_X4_70 ⟨Nat.le_of_ble_eq_true rfl, Nat.le_of_ble_eq_true rfl⟩ dX4_isSo_116 rfl rfl (Nat.le_of_ble_eq_true rfl) ((hs_ne _ _ (by decide)).trans G.1) G.2.2.1 rfl (Nat.le_refl _) (Nat.le_refl _) (t_X0_of (G.put _) (by omega) (by omega) ?_) 
        refine Rn.iload_n dX4_isSo_119 rfl rfl ?_
        refine Rn.icmp_neN (tgt := 127) dX4_isSo_120 rfl (by decide) (by omega) (by omega) (fun c120 => ?_) (fun c120 => ?_)
        · refine Rn.iconst dX4_isSo_127 rfl ic_0 ?_
          refine Rn.zret dX4_isSo_128 rfl (by decide) rfl rfl ?_
          rw [soA_3 ej] at k
          first | exact rn_fin k (some_int (bi_df (fun z => of_decide_eq_false c107 z.1))) rfl | exact rn_fin k (some_int (bi_df (fun z => c120 z.2))) rfl
        · refine Rn.iconst dX4_isSo_123 rfl ic_1 ?_
          refine Rn.goto (tgt := 128) dX4_isSo_124 (by decide) ?_
          refine Rn.zret dX4_isSo_128 rfl (by decide) rfl rfl ?_
          rw [soA_3 ej] at k
          exact rn_fin k (some_int (bi_dt ⟨of_decide_eq_true c107, c120⟩)) rfl
    · refine ⟨111, 129, by rw [ej]; rfl, by decide, ?_⟩
      refine Rn.aload_n dX4_isSo_129 rfl rfl ?_
      refine Rn.getf f_X4_23 dX4_isSo_130 rfl ((hs_ne _ _ (by decide)).trans C.1) C.2 rfl ?_
      refine Rn.iload_n dX4_isSo_133 rfl rfl ?_
      refine Rn.callV (as := [_]) v_X0_has l_X4_67 ⟨Nat.le_of_ble_eq_true rfl, Nat.le_of_ble_eq_true rfl⟩ dX4_isSo_134 rfl rfl (Nat.le_of_ble_eq_true rfl) ((hs_ne _ _ (by decide)).trans G.1) G.2.2.1 rfl (Nat.le_refl _) (Nat.le_refl _) (t_X0_has (G.put _) O1.1 ?_) 
      refine Rn.top (congrArg bi (hasB_nI (by omega))) ?_
      refine Rn.if_eqB (tgt := 157) dX4_isSo_137 rfl (by decide) (fun c137 => ?_) (fun c137 => ?_)
      · refine Rn.iconst dX4_isSo_157 rfl ic_0 ?_
        refine Rn.zret dX4_isSo_158 rfl (by decide) rfl rfl ?_
        rw [soA_4 ej] at k
        first | exact rn_fin k (some_int (bi_df (fun z => of_decide_eq_false c137 z.1))) rfl | exact rn_fin k (some_int (bi_df (fun z => c150 z.2))) rfl
      · have hw24 := of_decide_eq_true c137
        have h4 := O1.1
        have hus := O1.us (show c / 100 % 10 < 4 by omega)
        refine Rn.aload_n dX4_isSo_140 rfl rfl ?_
        refine Rn.getf f_X4_23 dX4_isSo_141 rfl ((hs_ne _ _ (by decide)).trans C.1) C.2 rfl ?_
        refine Rn.iload_n dX4_isSo_144 rfl rfl ?_
        refine Rn.iconst dX4_isSo_145 rfl ic_5 ?_
        refine Rn.callV (as := [_, _]) v_X0_of l_X4_70 ⟨Nat.le_of_ble_eq_true rfl, Nat.le_of_ble_eq_true rfl⟩ dX4_isSo_146 rfl rfl (Nat.le_of_ble_eq_true rfl) ((hs_ne _ _ (by decide)).trans G.1) G.2.2.1 rfl (Nat.le_refl _) (Nat.le_refl _) (t_X0_of (G.put _) (by omega) (by omega) ?_) 
        refine Rn.iload_n dX4_isSo_149 rfl rfl ?_
        refine Rn.icmp_neN (tgt := 157) dX4_isSo_150 rfl (by decide) (by omega) (by omega) (fun c150 => ?_) (fun c150 => ?_)
        · refine Rn.iconst dX4_isSo_157 rfl ic_0 ?_
          refine Rn.zret dX4_isSo_158 rfl (by decide) rfl rfl ?_
          rw [soA_4 ej] at k
          first | exact rn_fin k (some_int (bi_df (fun z => of_decide_eq_false c137 z.1))) rfl | exact rn_fin k (some_int (bi_df (fun z => c150 z.2))) rfl
        · refine Rn.iconst dX4_isSo_153 rfl ic_1 ?_
          refine Rn.goto (tgt := 158) dX4_isSo_154 (by decide) ?_
          refine Rn.zret dX4_isSo_158 rfl (by decide) rfl rfl ?_
          rw [soA_4 ej] at k
          exact rn_fin k (some_int (bi_dt ⟨of_decide_eq_true c137, c150⟩)) rfl
    · refine ⟨141, 159, by rw [ej]; rfl, by decide, ?_⟩
      refine Rn.iload_n dX4_isSo_159 rfl rfl ?_
      refine Rn.sipush dX4_isSo_160 rfl sp_1000 ?_
      refine Rn.iremN dX4_isSo_163 rfl (by omega) (by omega) (by omega) ?_
      refine Rn.callS (as := [_]) s_X4_isNumber l_X4_93 ⟨Nat.le_of_ble_eq_true rfl, Nat.le_of_ble_eq_true rfl⟩ dX4_isSo_164 rfl rfl (Nat.le_of_ble_eq_true rfl) (Nat.le_refl _) (Nat.le_refl _) (t_X4_isNumber ?_)
      refine Rn.top (congrArg bi (isW_nI (by omega) (by omega) (by omega))) ?_
      refine Rn.if_eqB (tgt := 189) dX4_isSo_167 rfl (by decide) (fun c167 => ?_) (fun c167 => ?_)
      · refine Rn.iconst dX4_isSo_189 rfl ic_0 ?_
        refine Rn.zret dX4_isSo_190 rfl (by decide) rfl rfl ?_
        rw [soA_5 ej] at k
        first | exact rn_fin k (some_int (bi_df (fun z => by omega))) rfl | exact rn_fin k (some_int (bi_df (fun z => of_decide_eq_false c167 ⟨by omega, by omega⟩))) rfl
      · have h250 := of_decide_eq_true c167
        refine Rn.aload_n dX4_isSo_170 rfl rfl ?_
        refine Rn.getf f_X4_23 dX4_isSo_171 rfl ((hs_ne _ _ (by decide)).trans C.1) C.2 rfl ?_
        refine Rn.iload_n dX4_isSo_174 rfl rfl ?_
        refine Rn.sipush dX4_isSo_175 rfl sp_1000 ?_
        refine Rn.iremN dX4_isSo_178 rfl (by omega) (by omega) (by omega) ?_
        refine Rn.callV (as := [_]) v_X0_countFitted l_X4_185 ⟨Nat.le_of_ble_eq_true rfl, Nat.le_of_ble_eq_true rfl⟩ dX4_isSo_179 rfl rfl (Nat.le_of_ble_eq_true rfl) ((hs_ne _ _ (by decide)).trans G.1) G.2.2.1 rfl (Nat.le_refl _) (Nat.le_refl _) (t_X0_countFitted (G.put _) O1 (by omega) ?_) 
        have hcl := cnt_le (ftd p1 (c % 1000)) 4
        refine Rn.if_leN (tgt := 189) dX4_isSo_182 rfl (by decide) (by omega) (fun c182 => ?_) (fun c182 => ?_)
        · refine Rn.iconst dX4_isSo_189 rfl ic_0 ?_
          refine Rn.zret dX4_isSo_190 rfl (by decide) rfl rfl ?_
          rw [soA_5 ej] at k
          first | exact rn_fin k (some_int (bi_df (fun z => by omega))) rfl | exact rn_fin k (some_int (bi_df (fun z => of_decide_eq_false c167 ⟨by omega, by omega⟩))) rfl
        · refine Rn.iconst dX4_isSo_185 rfl ic_1 ?_
          refine Rn.goto (tgt := 190) dX4_isSo_186 (by decide) ?_
          refine Rn.zret dX4_isSo_190 rfl (by decide) rfl rfl ?_
          rw [soA_5 ej] at k
          exact rn_fin k (some_int (bi_dt ⟨by omega, by omega⟩)) rfl
    · refine ⟨173, 191, by rw [ej]; rfl, by decide, ?_⟩
      refine Rn.iload_n dX4_isSo_191 rfl rfl ?_
      refine Rn.iconst dX4_isSo_192 rfl ic_1 ?_
      refine Rn.icmp_gtN (tgt := 232) dX4_isSo_193 rfl (by decide) (by omega) (by omega) (fun c193 => ?_) (fun c193 => ?_)
      · refine Rn.iconst dX4_isSo_232 rfl ic_0 ?_
        refine Rn.zret dX4_isSo_233 rfl (by decide) rfl rfl ?_
        rw [soA_6 ej] at k
        first | exact rn_fin k (some_int (bi_df (fun z => by omega))) rfl | exact rn_fin k (some_int (bi_df (fun z => of_decide_eq_false c204 z.2.1))) rfl | exact rn_fin k (some_int (bi_df (fun z => c225 ((congrArg bi z.2.2).trans (bi_dt c217).symm)))) rfl | exact rn_fin k (some_int (bi_df (fun z => c225 ((congrArg bi z.2.2).trans (bi_df c217).symm)))) rfl
      · refine Rn.aload_n dX4_isSo_196 rfl rfl ?_
        refine Rn.getf f_X4_23 dX4_isSo_197 rfl ((hs_ne _ _ (by decide)).trans C.1) C.2 rfl ?_
        refine Rn.iload_n dX4_isSo_200 rfl rfl ?_
        refine Rn.callV (as := [_]) v_X0_has l_X4_67 ⟨Nat.le_of_ble_eq_true rfl, Nat.le_of_ble_eq_true rfl⟩ dX4_isSo_201 rfl rfl (Nat.le_of_ble_eq_true rfl) ((hs_ne _ _ (by decide)).trans G.1) G.2.2.1 rfl (Nat.le_refl _) (Nat.le_refl _) (t_X0_has (G.put _) O1.1 ?_) 
        refine Rn.top (congrArg bi (hasB_nI (by omega))) ?_
        refine Rn.if_eqB (tgt := 232) dX4_isSo_204 rfl (by decide) (fun c204 => ?_) (fun c204 => ?_)
        · refine Rn.iconst dX4_isSo_232 rfl ic_0 ?_
          refine Rn.zret dX4_isSo_233 rfl (by decide) rfl rfl ?_
          rw [soA_6 ej] at k
          first | exact rn_fin k (some_int (bi_df (fun z => by omega))) rfl | exact rn_fin k (some_int (bi_df (fun z => of_decide_eq_false c204 z.2.1))) rfl | exact rn_fin k (some_int (bi_df (fun z => c225 ((congrArg bi z.2.2).trans (bi_dt c217).symm)))) rfl | exact rn_fin k (some_int (bi_df (fun z => c225 ((congrArg bi z.2.2).trans (bi_df c217).symm)))) rfl
        · have hw24 := of_decide_eq_true c204
          have h4 := O1.1
          have hus := O1.us (show c / 100 % 10 < 4 by omega)
          refine Rn.aload_n dX4_isSo_207 rfl rfl ?_
          refine Rn.getf f_X4_23 dX4_isSo_208 rfl ((hs_ne _ _ (by decide)).trans C.1) C.2 rfl ?_
          refine Rn.iload_n dX4_isSo_211 rfl rfl ?_
          refine Rn.callV (as := [_]) v_X0_isInStep l_X4_74 ⟨Nat.le_of_ble_eq_true rfl, Nat.le_of_ble_eq_true rfl⟩ dX4_isSo_212 rfl rfl (Nat.le_of_ble_eq_true rfl) ((hs_ne _ _ (by decide)).trans G.1) G.2.2.1 rfl (Nat.le_refl _) (Nat.le_refl _) (t_X0_isInStep (G.put _) O1 (by omega) ?_) 
          refine Rn.iload_n dX4_isSo_215 rfl rfl ?_
          refine Rn.iconst dX4_isSo_216 rfl ic_1 ?_
          refine Rn.icmp_neN (tgt := 224) dX4_isSo_217 rfl (by decide) (by omega) (by omega) (fun c217 => ?_) (fun c217 => ?_)
          · refine Rn.iconst dX4_isSo_224 rfl ic_0 ?_
            refine Rn.icmp_ne (tgt := 232) dX4_isSo_225 rfl (by decide) (fun c225 => ?_) (fun c225 => ?_)
            · refine Rn.iconst dX4_isSo_232 rfl ic_0 ?_
              refine Rn.zret dX4_isSo_233 rfl (by decide) rfl rfl ?_
              rw [soA_6 ej] at k
              first | exact rn_fin k (some_int (bi_df (fun z => by omega))) rfl | exact rn_fin k (some_int (bi_df (fun z => of_decide_eq_false c204 z.2.1))) rfl | exact rn_fin k (some_int (bi_df (fun z => c225 ((congrArg bi z.2.2).trans (bi_dt c217).symm)))) rfl | exact rn_fin k (some_int (bi_df (fun z => c225 ((congrArg bi z.2.2).trans (bi_df c217).symm)))) rfl
            · refine Rn.iconst dX4_isSo_228 rfl ic_1 ?_
              refine Rn.goto (tgt := 233) dX4_isSo_229 (by decide) ?_
              refine Rn.zret dX4_isSo_233 rfl (by decide) rfl rfl ?_
              rw [soA_6 ej] at k
              exact rn_fin k (some_int (bi_dt ⟨by omega, of_decide_eq_true c204, by first | exact bi_inj (c225.trans (bi_dt c217)) | exact bi_inj (c225.trans (bi_df c217))⟩)) rfl
          · refine Rn.iconst dX4_isSo_220 rfl ic_1 ?_
            refine Rn.goto (tgt := 225) dX4_isSo_221 (by decide) ?_
            refine Rn.icmp_ne (tgt := 232) dX4_isSo_225 rfl (by decide) (fun c225 => ?_) (fun c225 => ?_)
            · refine Rn.iconst dX4_isSo_232 rfl ic_0 ?_
              refine Rn.zret dX4_isSo_233 rfl (by decide) rfl rfl ?_
              rw [soA_6 ej] at k
              first | exact rn_fin k (some_int (bi_df (fun z => by omega))) rfl | exact rn_fin k (some_int (bi_df (fun z => of_decide_eq_false c204 z.2.1))) rfl | exact rn_fin k (some_int (bi_df (fun z => c225 ((congrArg bi z.2.2).trans (bi_dt c217).symm)))) rfl | exact rn_fin k (some_int (bi_df (fun z => c225 ((congrArg bi z.2.2).trans (bi_df c217).symm)))) rfl
            · refine Rn.iconst dX4_isSo_228 rfl ic_1 ?_
              refine Rn.goto (tgt := 233) dX4_isSo_229 (by decide) ?_
              refine Rn.zret dX4_isSo_233 rfl (by decide) rfl rfl ?_
              rw [soA_6 ej] at k
              exact rn_fin k (some_int (bi_dt ⟨by omega, of_decide_eq_true c204, by first | exact bi_inj (c225.trans (bi_dt c217)) | exact bi_inj (c225.trans (bi_df c217))⟩)) rfl
    · refine ⟨216, 234, by rw [ej]; rfl, by decide, ?_⟩
      refine Rn.iload_n dX4_isSo_234 rfl rfl ?_
      refine Rn.if_neN (tgt := 250) dX4_isSo_235 rfl (by decide) (by omega) (fun c235 => ?_) (fun c235 => ?_)
      · refine Rn.iconst dX4_isSo_250 rfl ic_0 ?_
        refine Rn.zret dX4_isSo_251 rfl (by decide) rfl rfl ?_
        first | (have e9 := (soA_7 (p := p1) ej).trans (if_neg (fun z => c235 z.1))); rw [e9] at k; exact rn_fin k bi_f' rfl | (have e9 := (soA_7 (p := p1) ej).trans (if_neg (fun z => absurd ((isW_nI (by omega) (by omega) (by omega)).trans (decide_eq_true z.2)) (by rw [c243]; decide)))); rw [e9] at k; exact rn_fin k bi_f' (by rw [c243]; rfl)
      · refine Rn.aload_n dX4_isSo_238 rfl rfl ?_
        refine Rn.iload_n dX4_isSo_239 rfl rfl ?_
        refine Rn.callV (as := [_]) v_X4_widenInMind l_X4_226 ⟨Nat.le_of_ble_eq_true rfl, Nat.le_of_ble_eq_true rfl⟩ dX4_isSo_240 rfl rfl (Nat.le_of_ble_eq_true rfl) ((hs_ne _ _ (by decide)).trans C.1) C.2 rfl (Nat.le_refl _) (Nat.le_refl _) (t_X4_widenInMind C H G (by omega) ?_) 
        refine Rn.if_eqB (tgt := 250) dX4_isSo_243 rfl (by decide) (fun c243 => ?_) (fun c243 => ?_)
        · refine Rn.iconst dX4_isSo_250 rfl ic_0 ?_
          refine Rn.zret dX4_isSo_251 rfl (by decide) rfl rfl ?_
          first | (have e9 := (soA_7 (p := p1) ej).trans (if_neg (fun z => c235 z.1))); rw [e9] at k; exact rn_fin k bi_f' rfl | (have e9 := (soA_7 (p := p1) ej).trans (if_neg (fun z => absurd ((isW_nI (by omega) (by omega) (by omega)).trans (decide_eq_true z.2)) (by rw [c243]; decide)))); rw [e9] at k; exact rn_fin k bi_f' (by rw [c243]; rfl)
        · refine Rn.iconst dX4_isSo_246 rfl ic_1 ?_
          refine Rn.goto (tgt := 251) dX4_isSo_247 (by decide) ?_
          refine Rn.zret dX4_isSo_251 rfl (by decide) rfl rfl ?_
          have w9 := isW_of2 c243 (by omega) (by omega)
          obtain ⟨y, y1, y2, y3⟩ := w9
          have y4 := (nI_eq (by omega) (by omega)).mp y3
          have e9 := (soA_7 (p := p1) ej).trans (if_pos ⟨c235, by omega, by omega⟩)
          rw [e9] at k
          exact rn_fin k bi_t' (by rw [c243]; rfl)
theorem t_X4_judge {h : rHp} {Q : Option Value → rHp → Prop} {t : Nat → Nat} {ln : Nat} {p : Nat → Nat} {U : Nat → Nat → Nat} {a : Nat} {Kp : Nat → Nat → Nat} {ik : Nat → Bool} {su sp sn : Nat → Nat} {sz : Nat} {d : Int64} (I : CI h t ln p U a Kp ik su sp sn sz d) (O : OKs t ln p U a Kp ik su sp sn sz) {x : Int32} {row : Int64} (k : ∀ h', CI h' t ln p U a Kp ik su sp sn sz d → Fr h h' → Q (some (.int (juI p x row))) h') : Cl M_X4_judge h.1 h.2.1 [.ref 0, .int x, .long row] h Q := by
  obtain ⟨pl, pt, B, KP, IK, n, C, T, H, G, S, E, RBh, RKh⟩ := id I
  obtain ⟨Ot, Oln, Op, OU, OK2, Osz, Osu, Osp, Osn⟩ := id O
  refine Cl.of pl_X4 (Nat.le_of_ble_eq_true rfl) (by first | exact Nat.le_refl _ | omega) (by first | exact Nat.le_refl _ | omega) ?_
  refine Rn.iload_n dX4_judge_0 rfl rfl ?_
  refine Rn.iconst dX4_judge_1 rfl ic_1 ?_
  refine Rn.iconst dX4_judge_2 rfl ic_4 ?_
  refine Rn.callS (as := [_, _, _]) s_X4_isWithin l_X4_96 ⟨Nat.le_of_ble_eq_true rfl, Nat.le_of_ble_eq_true rfl⟩ dX4_judge_3 rfl rfl (Nat.le_of_ble_eq_true rfl) (Nat.le_refl _) (Nat.le_refl _) (t_X4_isWithin ?_)
  refine Rn.if_eqB (tgt := 25) dX4_judge_6 rfl (by decide) (fun c6 => ?_) (fun c6 => ?_)
  · refine Rn.bipush dX4_judge_25 rfl bp_m2 ?_
    refine Rn.iret dX4_judge_27 rfl rfl rfl ?_
    first | exact rn_fin (k h I (Fr.rf h)) (some_int (by unfold juI; rw [if_neg (fun z => absurd z.1 (by rw [c6]; decide))])) rfl | exact rn_fin (k h I (Fr.rf h)) (some_int (by unfold juI; rw [if_neg (fun z => by have z1 := Int64.le_iff_toInt_le.mp z.2.1; have z2 := Int64.lt_iff_toInt_lt.mp c12; have z3 : (lN 0).toInt = (0 : Int64).toInt := rfl; omega)])) rfl | exact rn_fin (k h I (Fr.rf h)) (some_int (by unfold juI; rw [ert, exn, if_neg (fun z => c22 z.2.2)])) rfl
  · refine Rn.lload_n dX4_judge_9 rfl rfl ?_
    refine Rn.lconst dX4_judge_10 rfl lc_0 ?_
    refine Rn.lcmp dX4_judge_11 rfl ?_
    refine Rn.if_ltL (tgt := 25) dX4_judge_12 rfl (by decide) (fun c12 => ?_) (fun c12 => ?_)
    · refine Rn.bipush dX4_judge_25 rfl bp_m2 ?_
      refine Rn.iret dX4_judge_27 rfl rfl rfl ?_
      first | exact rn_fin (k h I (Fr.rf h)) (some_int (by unfold juI; rw [if_neg (fun z => absurd z.1 (by rw [c6]; decide))])) rfl | exact rn_fin (k h I (Fr.rf h)) (some_int (by unfold juI; rw [if_neg (fun z => by have z1 := Int64.le_iff_toInt_le.mp z.2.1; have z2 := Int64.lt_iff_toInt_lt.mp c12; have z3 : (lN 0).toInt = (0 : Int64).toInt := rfl; omega)])) rfl | exact rn_fin (k h I (Fr.rf h)) (some_int (by unfold juI; rw [ert, exn, if_neg (fun z => c22 z.2.2)])) rfl
    · obtain ⟨y, hy1, hy2, rfl⟩ := isW_of2 c6 (by omega) (by omega)
      obtain ⟨r, hr, rfl⟩ := pk_lOf (x := row) c12
      have ert : (lN r).toInt.toNat = r := by rw [pk_lT hr]; omega
      have exn : xn (nI y) = y := xn_nI (by omega)
      refine Rn.lload_n dX4_judge_15 rfl rfl ?_
      refine Rn.iload_n dX4_judge_16 rfl rfl ?_
      refine Rn.callS (as := [_, _]) s_X4_withoutDoings l_X4_164 ⟨Nat.le_of_ble_eq_true rfl, Nat.le_of_ble_eq_true rfl⟩ dX4_judge_17 rfl rfl (Nat.le_of_ble_eq_true rfl) (Nat.le_refl _) (Nat.le_refl _) (t_X4_withoutDoings hr (by omega) ?_)
      have hdl : r / 10000 ^ y ≤ r := Nat.div_le_self _ _
      refine Rn.lconst dX4_judge_20 rfl lc_0 ?_
      refine Rn.lcmp dX4_judge_21 rfl ?_
      refine Rn.if_eqLJ (tgt := 28) dX4_judge_22 rfl (by decide) (by omega) (by omega) (fun c22 => ?_) (fun c22 => ?_)
      · refine Rn.aload_n dX4_judge_28 rfl rfl ?_
        refine Rn.getf f_X4_23 dX4_judge_29 rfl C.1 C.2 rfl ?_
        refine Rn.aload_n dX4_judge_32 rfl rfl ?_
        refine Rn.getf f_X4_19 dX4_judge_33 rfl C.1 C.2 rfl ?_
        refine Rn.callV (as := [_]) v_X0_copyFrom l_X4_56 ⟨Nat.le_of_ble_eq_true rfl, Nat.le_of_ble_eq_true rfl⟩ dX4_judge_36 rfl rfl (Nat.le_of_ble_eq_true rfl) G.1 G.2.2.1 rfl (Nat.le_refl _) (Nat.le_refl _) (t_X0_copyFrom G H ?_) 
        refine Rn.iconst dX4_judge_39 rfl ic_0 ?_
        refine Rn.istore dX4_judge_40 rfl (Nat.le_of_ble_eq_true rfl) ?_
        have hloop : ∀ (m : Nat) (f i : Nat) (pp : Nat → Nat), f < m → i + f = y → OKp pp → juL r y f i pp = juL r y y 0 p → Rn (M_X4_judge, none, h.1, h.2.1) Q 42 [(0, .ref 0), (1, .int (nI y)), (2, .long (lN r)), (4, .int (nI i))] [] (hp h 5 pp) := by
          intro m
          induction m with
          | zero => intro f i pp h0 h1 h2 h3; exact absurd h0 (Nat.not_lt_zero _)
          | succ m ih =>
            intro f i pp h0 h1 h2 h3
            refine Rn.iload dX4_judge_42 rfl rfl ?_
            refine Rn.iload_n dX4_judge_44 rfl rfl ?_
            refine Rn.icmp_geN (tgt := 83) dX4_judge_45 rfl (by decide) (by omega) (by omega) (fun c45 => ?_) (fun c45 => ?_)
            · obtain rfl : f = 0 := by omega
              refine Rn.bipush dX4_judge_83 rfl bp_m9 ?_
              refine Rn.iret dX4_judge_85 rfl rfl rfl ?_
              have e9 : juI p (nI y) (lN r) = -9 := by unfold juI; rw [ert, exn, if_pos ⟨c6, Int64.not_lt.mp c12, c22⟩, ← h3]; rfl
              rw [e9] at k
              exact k _ ⟨pl, _, B, KP, IK, n, C.other (by decide), T.other (by decide) (by decide), H.other (by decide) (by decide), G.put _, S.other (by decide), E.other (by decide), RBh, RKh⟩ ((Fr.rf h).hs _ (by decide))
            · obtain ⟨f, rfl⟩ : ∃ f', f = f' + 1 := ⟨f - 1, by omega⟩
              refine Rn.lload_n dX4_judge_48 rfl rfl ?_
              refine Rn.iload_n dX4_judge_49 rfl rfl ?_
              refine Rn.iconst dX4_judge_50 rfl ic_1 ?_
              refine Rn.isubN dX4_judge_51 rfl (by omega) ?_
              refine Rn.iload dX4_judge_52 rfl rfl ?_
              refine Rn.isubN dX4_judge_54 rfl (by omega) ?_
              refine Rn.callS (as := [_, _]) s_X4_withoutDoings l_X4_164 ⟨Nat.le_of_ble_eq_true rfl, Nat.le_of_ble_eq_true rfl⟩ dX4_judge_55 rfl rfl (Nat.le_of_ble_eq_true rfl) (Nat.le_refl _) (Nat.le_refl _) (t_X4_withoutDoings hr (by omega) ?_)
              have hdl2 : r / 10000 ^ (y - 1 - i) ≤ r := Nat.div_le_self _ _
              refine Rn.ldc2 dX4_judge_58 rfl k_X4_168 ?_
              refine Rn.topl lL_10000 ?_
              refine Rn.lremN dX4_judge_61 rfl (by omega) (by omega) (by omega) ?_
              refine Rn.l2iN dX4_judge_62 rfl ?_
              refine Rn.istore dX4_judge_63 rfl (Nat.le_of_ble_eq_true rfl) ?_
              refine Rn.aload_n dX4_judge_65 rfl rfl ?_
              refine Rn.iload dX4_judge_66 rfl rfl ?_
              refine Rn.callV (as := [_]) v_X4_isSo l_X4_170 ⟨Nat.le_of_ble_eq_true rfl, Nat.le_of_ble_eq_true rfl⟩ dX4_judge_68 rfl rfl (Nat.le_of_ble_eq_true rfl) ((hs_ne _ _ (by decide)).trans C.1) C.2 rfl (Nat.le_refl _) (Nat.le_refl _) (t_X4_isSo C H G h2 (by omega) ?_) 
              refine Rn.if_neB (tgt := 77) dX4_judge_71 rfl (by decide) (fun c71 => ?_) (fun c71 => ?_)
              · refine Rn.iincN dX4_judge_77 rfl rfl (Nat.le_of_ble_eq_true rfl) ?_
                refine Rn.goto (tgt := 42) dX4_judge_80 (by decide) ?_
                exact Rn.pick [2, 3, 4, 0] rfl (ih f (i + 1) _ (by omega) (by omega) (OK_so h2 _) (by rw [← h3]; exact (if_pos c71).symm))
              · refine Rn.iload dX4_judge_74 rfl rfl ?_
                refine Rn.iret dX4_judge_76 rfl rfl rfl ?_
                have e9 : juI p (nI y) (lN r) = nI i := by unfold juI; rw [ert, exn, if_pos ⟨c6, Int64.not_lt.mp c12, c22⟩, ← h3]; exact if_neg (by rw [c71]; decide)
                rw [e9] at k
                exact k _ ⟨pl, _, B, KP, IK, n, C.other (by decide), T.other (by decide) (by decide), H.other (by decide) (by decide), G.put _, S.other (by decide), E.other (by decide), RBh, RKh⟩ ((Fr.rf h).hs _ (by decide))
        exact Rn.pick [1, 2, 3, 0] rfl (hloop (y + 1) y 0 p (by omega) (by omega) Op rfl)
      · refine Rn.bipush dX4_judge_25 rfl bp_m2 ?_
        refine Rn.iret dX4_judge_27 rfl rfl rfl ?_
        first | exact rn_fin (k h I (Fr.rf h)) (some_int (by unfold juI; rw [if_neg (fun z => absurd z.1 (by rw [c6]; decide))])) rfl | exact rn_fin (k h I (Fr.rf h)) (some_int (by unfold juI; rw [if_neg (fun z => by have z1 := Int64.le_iff_toInt_le.mp z.2.1; have z2 := Int64.lt_iff_toInt_lt.mp c12; have z3 : (lN 0).toInt = (0 : Int64).toInt := rfl; omega)])) rfl | exact rn_fin (k h I (Fr.rf h)) (some_int (by unfold juI; rw [ert, exn, if_neg (fun z => c22 z.2.2)])) rfl
