/-! ===== judged doings, the gap ===== -/
theorem inL_N {a lo hi : Nat} (ha : a < 9223372036854775808) (hl : lo < 9223372036854775808) (hh : hi < 9223372036854775808) : inL (lN a) (lN lo) (lN hi) = decide (lo ≤ a ∧ a ≤ hi) := by
  unfold inL
  rw [pk_lT ha, pk_lT hl, pk_lT hh]
  congr 1
  apply propext
  omega
theorem anyB_iff {f : Nat → Bool} : ∀ n, anyB f n = true ↔ ∃ i, i < n ∧ f i = true
  | 0 => ⟨fun h => (by cases h), fun ⟨_, h, _⟩ => absurd h (Nat.not_lt_zero _)⟩
  | n + 1 => by
    show (anyB f n || f n) = true ↔ _
    rw [Bool.or_eq_true, anyB_iff n]
    constructor
    · rintro (⟨i, h1, h2⟩ | h)
      · exact ⟨i, by omega, h2⟩
      · exact ⟨n, by omega, h⟩
    · rintro ⟨i, h1, h2⟩
      by_cases e : i = n
      · exact Or.inr (e ▸ h2)
      · exact Or.inl ⟨i, by omega, h2⟩
theorem cnt_pos {f : Nat → Bool} : ∀ n, 0 < cnt f n ↔ ∃ i, i < n ∧ f i = true
  | 0 => ⟨fun h => absurd h (Nat.lt_irrefl _), fun ⟨_, h, _⟩ => absurd h (Nat.not_lt_zero _)⟩
  | n + 1 => by
    rw [cnt_s]
    constructor
    · intro h
      by_cases e : f n = true
      · exact ⟨n, by omega, e⟩
      · rw [if_neg e] at h
        obtain ⟨i, h1, h2⟩ := (cnt_pos n).mp (by omega)
        exact ⟨i, by omega, h2⟩
    · rintro ⟨i, h1, h2⟩
      by_cases e : i = n
      · subst e; rw [if_pos h2]; omega
      · have := (cnt_pos (f := f) n).mpr ⟨i, by omega, h2⟩; omega
theorem any_ftd {p : Nat → Nat} (O : OKp p) (v : Nat) : anyB (fun w => fB p w v) (p 24) = decide (0 < cnt (ftd p v) 4) := by
  have h4 := O.1
  by_cases h : anyB (fun w => fB p w v) (p 24) = true
  · obtain ⟨i, h1, h2⟩ := (anyB_iff _).mp h
    rw [h, decide_eq_true ((cnt_pos 4).mpr ⟨i, by omega, by unfold ftd; rw [decide_eq_true h1]; exact h2⟩)]
  · rw [Bool.eq_false_iff.mpr h, decide_eq_false]
    intro z
    obtain ⟨i, h1, h2⟩ := (cnt_pos 4).mp z
    unfold ftd at h2
    rw [Bool.and_eq_true] at h2
    exact h ((anyB_iff _).mpr ⟨i, of_decide_eq_true h2.1, h2.2⟩)
theorem inL_row {row : Int64} {y : Nat} (hy : y ≤ 4) : inL row (lN 0) (lN (10000 ^ y - 1)) = decide (0 ≤ row ∧ row.toInt.toNat / 10000 ^ y = 0) := by
  have hp : 10000 ^ y ≤ 10000000000000000 := Nat.pow_le_pow_right (n := 10000) (by omega) hy
  have hp0 : 0 < 10000 ^ y := Nat.pow_pos (by omega)
  unfold inL
  rw [pk_lT (by omega), pk_lT (by omega)]
  congr 1
  apply propext
  have z0 : (0 : Int64).toInt = 0 := rfl
  rw [Int64.le_iff_toInt_le, z0, Nat.div_eq_zero_iff]
  constructor
  · intro h; exact ⟨by omega, Or.inr (by omega)⟩
  · rintro ⟨h1, h2⟩; refine ⟨by omega, ?_⟩; omega
def gc (o b : Nat) : Int32 := if b = 0 then -9 else nI (o - b)
theorem gc_s (o v : Nat) : nI (o - (v + 1)) = gc o (v + 1) := by unfold gc; rw [if_neg (by omega)]
theorem stp_un {p : Nat → Nat} {u v : Nat} (hu4 : u < 4) (hu : u < p 24) : stp (un p (6 * u + 3) (v + 1)) u = gF p u v := by
  unfold stp ow gF
  rw [un_eq, un_ne _ _ (by omega), fitP_own p hu4 _ _ u hu4, psP_own p hu4 _ _ u hu4, decide_eq_true hu, decide_eq_true (show 0 < v + 1 by omega)]
  rfl
theorem gp_end {p : Nat → Nat} {u b : Nat} (h : dn (gF p u) 0 b = dn (gF p u) (p (6 * u + 3)) 0) : gc (p (6 * u + 3)) b = gpL p u (p (6 * u + 3)) 0 := by
  have h1 : b = dn (gF p u) (p (6 * u + 3)) 0 := h
  rw [gpL_ff p u _ 0 (Nat.zero_add _) (fun j hj => absurd hj (Nat.not_lt_zero _)), h1, dn_ff]
  unfold gc
  split
  · rw [if_pos rfl]
  · rfl
theorem t_X5_does {h : rHp} {Q : Option Value → rHp → Prop} {th ts pl rm dg sz : Nat} {sd : Int64} (M15 : h.2.2 15 = moO th ts pl rm dg sz sd) (ML : 27 < h.1) {p1 : Nat → Nat} (M20 : h.2.2 20 = .inl (36, pg p1)) (O1 : OKp p1) {c : Nat} (hc : c < 10000) (k : Q (some (.int (bi (soA p1 c).1))) (ph h 20 (soA p1 c).2)) : Cl M_X5_does h.1 h.2.1 [.ref 15, .int (nI (c / 1000)), .int (nI (c / 100 % 10)), .int (nI (c / 10 % 10)), .int (nI (c % 10))] h Q := by
  refine Cl.of pl_X5 (Nat.le_of_ble_eq_true rfl) (by first | exact Nat.le_refl _ | omega) (by first | exact Nat.le_refl _ | omega) ?_
  refine Rn.aload_n dX5_does_0 rfl rfl ?_
  refine Rn.getf f_X5_22 dX5_does_1 rfl M15 (Nat.lt_of_le_of_lt (Nat.le_of_ble_eq_true rfl) ML) rfl ?_
  refine Rn.iload_n dX5_does_4 rfl rfl ?_
  refine Rn.callS (as := [_, _]) s_X5_noUser l_X5_75 ⟨Nat.le_of_ble_eq_true rfl, Nat.le_of_ble_eq_true rfl⟩ dX5_does_5 rfl rfl (Nat.le_of_ble_eq_true rfl) (Nat.le_refl _) (Nat.le_refl _) (t_X5_noUser ⟨M20, (Nat.lt_of_le_of_lt (Nat.le_of_ble_eq_true rfl) ML)⟩ O1.1 ?_)
  refine Rn.top (congrArg bi (congrArg Bool.not (hasB_nI (by omega)))) ?_
  refine Rn.if_neB (tgt := 15) dX5_does_8 rfl (by decide) (fun c8 => ?_) (fun c8 => ?_)
  · have hw24 := of_decide_eq_false (bn_t c8)
    refine Rn.iconst dX5_does_15 rfl ic_0 ?_
    refine Rn.istore dX5_does_16 rfl (Nat.le_of_ble_eq_true rfl) ?_
    refine Rn.bipush dX5_does_18 rfl bp_10 ?_
    refine Rn.iload_n dX5_does_20 rfl rfl ?_
    refine Rn.imulN dX5_does_21 rfl ?_
    refine Rn.iload dX5_does_22 rfl rfl ?_
    refine Rn.iaddN dX5_does_24 rfl ?_
    refine Rn.top (congrArg nI (show 10 * (c / 10 % 10) + c % 10 = c % 100 by omega)) ?_
    refine Rn.istore dX5_does_25 rfl (Nat.le_of_ble_eq_true rfl) ?_
    refine Rn.iload_n dX5_does_27 rfl rfl ?_
    refine Rn.tswN (l0 := 1) (n := 7) (tgtD := 329) dX5_does_28 rfl rfl (by omega) (by decide) (fun cy => ?_) (fun g1 g2 => ?_)
    · refine Rn.iconst dX5_does_329 rfl ic_0 ?_
      refine Rn.zret dX5_does_330 rfl (by decide) rfl rfl ?_
      exact rn_fin k (some_int (by rw [soA_d cy]; exact bi_f.symm)) (by rw [soA_d cy]; exact ((Pa.same (p := p1) ⟨M20, (Nat.lt_of_le_of_lt (Nat.le_of_ble_eq_true rfl) ML)⟩).symm))
    · rcases (show c / 1000 = 1 ∨ c / 1000 = 2 ∨ c / 1000 = 3 ∨ c / 1000 = 4 ∨ c / 1000 = 5 ∨ c / 1000 = 6 ∨ c / 1000 = 7 by omega) with ej | ej | ej | ej | ej | ej | ej
      · refine ⟨44, 72, by rw [ej]; rfl, by decide, ?_⟩
        refine Rn.iload dX5_does_72 rfl rfl ?_
        refine Rn.if_neN (tgt := 88) dX5_does_74 rfl (by decide) (by omega) (fun c74 => ?_) (fun c74 => ?_)
        · refine Rn.iconst dX5_does_88 rfl ic_0 ?_
          refine Rn.zret dX5_does_89 rfl (by decide) rfl rfl ?_
          first | (have e9 := (soA_1 (p := p1) ej).trans (if_neg (fun z => c74 z.1))); rw [e9] at k; exact rn_fin k bi_f' ((Pa.same (p := p1) ⟨M20, (Nat.lt_of_le_of_lt (Nat.le_of_ble_eq_true rfl) ML)⟩).symm) | (have e9 := (soA_1 (p := p1) ej).trans (if_neg (fun z => absurd z.2 (by rw [c85]; decide)))); rw [e9] at k; exact rn_fin k bi_f' ((Pa.same (p := p1) ⟨M20, (Nat.lt_of_le_of_lt (Nat.le_of_ble_eq_true rfl) ML)⟩).symm)
        · refine Rn.aload_n dX5_does_77 rfl rfl ?_
          refine Rn.getf f_X5_22 dX5_does_78 rfl M15 (Nat.lt_of_le_of_lt (Nat.le_of_ble_eq_true rfl) ML) rfl ?_
          refine Rn.iload_n dX5_does_81 rfl rfl ?_
          refine Rn.callS (as := [_, _]) s_X5_hasPass l_X5_79 ⟨Nat.le_of_ble_eq_true rfl, Nat.le_of_ble_eq_true rfl⟩ dX5_does_82 rfl rfl (Nat.le_of_ble_eq_true rfl) (Nat.le_refl _) (Nat.le_refl _) (t_X5_hasPass ⟨M20, (Nat.lt_of_le_of_lt (Nat.le_of_ble_eq_true rfl) ML)⟩ O1 ?_)
          refine Rn.top (congrArg bi (ownB_nI (by omega))) ?_
          refine Rn.if_neB (tgt := 90) dX5_does_85 rfl (by decide) (fun c85 => ?_) (fun c85 => ?_)
          · have hu4 : (c / 100 % 10) < 4 := by have := (ow_t c85).1; have := O1.1; omega
            have hus := O1.us hu4
            have hu3 := (ow_t c85).2
            refine Rn.aload_n dX5_does_90 rfl rfl ?_
            refine Rn.getf f_X5_22 dX5_does_91 rfl M15 (Nat.lt_of_le_of_lt (Nat.le_of_ble_eq_true rfl) ML) rfl ?_
            refine Rn.iload_n dX5_does_94 rfl rfl ?_
            refine Rn.callS (as := [_, _]) s_X5_sendOn l_X5_120 ⟨Nat.le_of_ble_eq_true rfl, Nat.le_of_ble_eq_true rfl⟩ dX5_does_95 rfl rfl (Nat.le_of_ble_eq_true rfl) (Nat.le_refl _) (Nat.le_refl _) (t_X5_sendOn ⟨M20, (Nat.lt_of_le_of_lt (Nat.le_of_ble_eq_true rfl) ML)⟩ O1 hu4 c85 ?_)
            refine Rn.pop dX5_does_98 rfl rfl ?_
            refine Rn.iconst dX5_does_99 rfl ic_1 ?_
            refine Rn.zret dX5_does_100 rfl (by decide) rfl rfl ?_
            have e9 := (soA_1 (p := p1) ej).trans (if_pos ⟨c74, c85⟩)
            rw [e9] at k
            exact rn_fin k bi_t' rfl
          · refine Rn.iconst dX5_does_88 rfl ic_0 ?_
            refine Rn.zret dX5_does_89 rfl (by decide) rfl rfl ?_
            first | (have e9 := (soA_1 (p := p1) ej).trans (if_neg (fun z => c74 z.1))); rw [e9] at k; exact rn_fin k bi_f' ((Pa.same (p := p1) ⟨M20, (Nat.lt_of_le_of_lt (Nat.le_of_ble_eq_true rfl) ML)⟩).symm) | (have e9 := (soA_1 (p := p1) ej).trans (if_neg (fun z => absurd z.2 (by rw [c85]; decide)))); rw [e9] at k; exact rn_fin k bi_f' ((Pa.same (p := p1) ⟨M20, (Nat.lt_of_le_of_lt (Nat.le_of_ble_eq_true rfl) ML)⟩).symm)
      · refine ⟨73, 101, by rw [ej]; rfl, by decide, ?_⟩
        refine Rn.iload dX5_does_101 rfl rfl ?_
        refine Rn.if_neN (tgt := 117) dX5_does_103 rfl (by decide) (by omega) (fun c103 => ?_) (fun c103 => ?_)
        · refine Rn.iconst dX5_does_117 rfl ic_0 ?_
          refine Rn.zret dX5_does_118 rfl (by decide) rfl rfl ?_
          first | (have e9 := (soA_2 (p := p1) ej).trans (if_neg (fun z => c103 z.1))); rw [e9] at k; exact rn_fin k bi_f' ((Pa.same (p := p1) ⟨M20, (Nat.lt_of_le_of_lt (Nat.le_of_ble_eq_true rfl) ML)⟩).symm) | (have e9 := (soA_2 (p := p1) ej).trans (if_neg (fun z => absurd z.2 (by rw [c114]; decide)))); rw [e9] at k; exact rn_fin k bi_f' ((Pa.same (p := p1) ⟨M20, (Nat.lt_of_le_of_lt (Nat.le_of_ble_eq_true rfl) ML)⟩).symm)
        · refine Rn.aload_n dX5_does_106 rfl rfl ?_
          refine Rn.getf f_X5_22 dX5_does_107 rfl M15 (Nat.lt_of_le_of_lt (Nat.le_of_ble_eq_true rfl) ML) rfl ?_
          refine Rn.iload_n dX5_does_110 rfl rfl ?_
          refine Rn.callS (as := [_, _]) s_X5_hasPass l_X5_79 ⟨Nat.le_of_ble_eq_true rfl, Nat.le_of_ble_eq_true rfl⟩ dX5_does_111 rfl rfl (Nat.le_of_ble_eq_true rfl) (Nat.le_refl _) (Nat.le_refl _) (t_X5_hasPass ⟨M20, (Nat.lt_of_le_of_lt (Nat.le_of_ble_eq_true rfl) ML)⟩ O1 ?_)
          refine Rn.top (congrArg bi (ownB_nI (by omega))) ?_
          refine Rn.if_neB (tgt := 119) dX5_does_114 rfl (by decide) (fun c114 => ?_) (fun c114 => ?_)
          · have hu4 : (c / 100 % 10) < 4 := by have := (ow_t c114).1; have := O1.1; omega
            have hus := O1.us hu4
            have hu3 := (ow_t c114).2
            refine Rn.aload_n dX5_does_119 rfl rfl ?_
            refine Rn.getf f_X5_22 dX5_does_120 rfl M15 (Nat.lt_of_le_of_lt (Nat.le_of_ble_eq_true rfl) ML) rfl ?_
            refine Rn.bipush dX5_does_123 rfl bp_6 ?_
            refine Rn.iload_n dX5_does_125 rfl rfl ?_
            refine Rn.imulN dX5_does_126 rfl ?_
            refine Rn.iconst dX5_does_127 rfl ic_3 ?_
            refine Rn.iaddN dX5_does_128 rfl ?_
            refine Rn.dup2 dX5_does_129 rfl rfl rfl ?_
            refine Rn.ialdN dX5_does_130 rfl M20 (Nat.lt_of_le_of_lt (Nat.le_of_ble_eq_true rfl) ML) (by omega) (by omega) ?_
            refine Rn.top (pg_us _ (by omega) (show 3 < 6 by omega)) ?_
            refine Rn.iconst dX5_does_131 rfl ic_1 ?_
            refine Rn.isubN dX5_does_132 rfl (by omega) ?_
            refine Rn.iastN dX5_does_133 rfl M20 (Nat.lt_of_le_of_lt (Nat.le_of_ble_eq_true rfl) ML) (by omega) (by omega) ?_
            refine Rn.heap (Pa.upd ((upd_pg _ _ (by omega) (by omega)).trans (congrArg pg (sp_y c114)))) ?_
            refine Rn.iconst dX5_does_134 rfl ic_1 ?_
            refine Rn.zret dX5_does_135 rfl (by decide) rfl rfl ?_
            have e9 := (soA_2 (p := p1) ej).trans (if_pos ⟨c103, c114⟩)
            rw [e9] at k
            exact rn_fin k bi_t' rfl
          · refine Rn.iconst dX5_does_117 rfl ic_0 ?_
            refine Rn.zret dX5_does_118 rfl (by decide) rfl rfl ?_
            first | (have e9 := (soA_2 (p := p1) ej).trans (if_neg (fun z => c103 z.1))); rw [e9] at k; exact rn_fin k bi_f' ((Pa.same (p := p1) ⟨M20, (Nat.lt_of_le_of_lt (Nat.le_of_ble_eq_true rfl) ML)⟩).symm) | (have e9 := (soA_2 (p := p1) ej).trans (if_neg (fun z => absurd z.2 (by rw [c114]; decide)))); rw [e9] at k; exact rn_fin k bi_f' ((Pa.same (p := p1) ⟨M20, (Nat.lt_of_le_of_lt (Nat.le_of_ble_eq_true rfl) ML)⟩).symm)
      · refine ⟨108, 136, by rw [ej]; rfl, by decide, ?_⟩
        refine Rn.iload dX5_does_136 rfl rfl ?_
        refine Rn.if_eqN (tgt := 161) dX5_does_138 rfl (by decide) (by omega) (fun c138 => ?_) (fun c138 => ?_)
        · refine Rn.iconst dX5_does_161 rfl ic_0 ?_
          refine Rn.zret dX5_does_162 rfl (by decide) rfl rfl ?_
          rw [soA_3 ej] at k
          first | exact rn_fin k (some_int (bi_df (fun z => hw24 z.1))) ((Pa.same (p := p1) ⟨M20, (Nat.lt_of_le_of_lt (Nat.le_of_ble_eq_true rfl) ML)⟩).symm) | exact rn_fin k (some_int (bi_df (fun z => c154 z.2))) ((Pa.same (p := p1) ⟨M20, (Nat.lt_of_le_of_lt (Nat.le_of_ble_eq_true rfl) ML)⟩).symm)
        · first | omega | exact False.elim c138
      · refine ⟨135, 163, by rw [ej]; rfl, by decide, ?_⟩
        refine Rn.iload dX5_does_163 rfl rfl ?_
        refine Rn.if_eqN (tgt := 188) dX5_does_165 rfl (by decide) (by omega) (fun c165 => ?_) (fun c165 => ?_)
        · refine Rn.iconst dX5_does_188 rfl ic_0 ?_
          refine Rn.zret dX5_does_189 rfl (by decide) rfl rfl ?_
          rw [soA_4 ej] at k
          first | exact rn_fin k (some_int (bi_df (fun z => hw24 z.1))) ((Pa.same (p := p1) ⟨M20, (Nat.lt_of_le_of_lt (Nat.le_of_ble_eq_true rfl) ML)⟩).symm) | exact rn_fin k (some_int (bi_df (fun z => c181 z.2))) ((Pa.same (p := p1) ⟨M20, (Nat.lt_of_le_of_lt (Nat.le_of_ble_eq_true rfl) ML)⟩).symm)
        · first | omega | exact False.elim c165
      · refine ⟨162, 190, by rw [ej]; rfl, by decide, ?_⟩
        refine Rn.iconst dX5_does_190 rfl ic_0 ?_
        refine Rn.istore dX5_does_191 rfl (Nat.le_of_ble_eq_true rfl) ?_
        refine Rn.iconst dX5_does_193 rfl ic_0 ?_
        refine Rn.istore dX5_does_194 rfl (Nat.le_of_ble_eq_true rfl) ?_
        have hloop : ∀ (m : Nat) (w : Nat), p1 24 - w < m → w ≤ p1 24 → (c % 1000 ≤ 250 ∨ w = 0) → Rn (M_X5_does, none, h.1, h.2.1) Q 196 [(0, .ref 15), (2, .int (nI (c / 100 % 10))), (6, .int (nI (c % 100))), (7, .int (bi (anyB (fun w => fB p1 w (c % 1000)) w))), (8, .int (nI w))] [] h := by
          intro m
          induction m with
          | zero => intro w h0 h1 h2; exact absurd h0 (Nat.not_lt_zero _)
          | succ m ih =>
            intro w h0 h1 h2
            have h4 := O1.1
            refine Rn.iload dX5_does_196 rfl rfl ?_
            refine Rn.aload_n dX5_does_198 rfl rfl ?_
            refine Rn.getf f_X5_22 dX5_does_199 rfl M15 (Nat.lt_of_le_of_lt (Nat.le_of_ble_eq_true rfl) ML) rfl ?_
            refine Rn.bipush dX5_does_202 rfl bp_24 ?_
            refine Rn.ialdN dX5_does_204 rfl M20 (Nat.lt_of_le_of_lt (Nat.le_of_ble_eq_true rfl) ML) (by omega) (by omega) ?_
            refine Rn.top (pg_n _ (by omega) (by omega)) ?_
            refine Rn.icmp_geN (tgt := 258) dX5_does_205 rfl (by decide) (by omega) (by omega) (fun c205 => ?_) (fun c205 => ?_)
            · refine Rn.iload dX5_does_258 rfl rfl ?_
              refine Rn.zret dX5_does_260 rfl (bi_01 _) rfl rfl ?_
              rw [soA_5 ej] at k
              refine rn_fin k (some_int (congrArg bi ?_)) ((Pa.same (p := p1) ⟨M20, (Nat.lt_of_le_of_lt (Nat.le_of_ble_eq_true rfl) ML)⟩).symm)
              obtain rfl : w = p1 24 := by omega
              by_cases e5 : c % 1000 ≤ 250
              · rw [any_ftd O1]; exact decide_eq_decide.mpr ⟨fun z => ⟨e5, z⟩, fun z => z.2⟩
              · rw [decide_eq_false (fun z => e5 z.1), show p1 24 = 0 by omega]; rfl
            · refine Rn.bipush dX5_does_208 rfl bp_100 ?_
              refine Rn.iload_n dX5_does_210 rfl rfl ?_
              refine Rn.imulN dX5_does_211 rfl ?_
              refine Rn.iload dX5_does_212 rfl rfl ?_
              refine Rn.iaddN dX5_does_214 rfl ?_
              refine Rn.top (congrArg nI (show 100 * (c / 100 % 10) + c % 100 = c % 1000 by omega)) ?_
              refine Rn.callS (as := [_]) s_X5_isNumber l_X5_139 ⟨Nat.le_of_ble_eq_true rfl, Nat.le_of_ble_eq_true rfl⟩ dX5_does_215 rfl rfl (Nat.le_of_ble_eq_true rfl) (Nat.le_refl _) (Nat.le_refl _) (t_X5_isNumber ?_)
              refine Rn.top (congrArg bi (isW_nI (by omega) (by omega) (by omega))) ?_
              refine Rn.if_eqB (tgt := 258) dX5_does_218 rfl (by decide) (fun c218 => ?_) (fun c218 => ?_)
              · refine Rn.iload dX5_does_258 rfl rfl ?_
                refine Rn.zret dX5_does_260 rfl (bi_01 _) rfl rfl ?_
                rw [soA_5 ej] at k
                refine rn_fin k (some_int (congrArg bi ?_)) ((Pa.same (p := p1) ⟨M20, (Nat.lt_of_le_of_lt (Nat.le_of_ble_eq_true rfl) ML)⟩).symm)
                have e5 := of_decide_eq_false c218
                rw [decide_eq_false (fun z => e5 ⟨by omega, z.1⟩), show w = 0 by omega]; rfl
              · have hnum := of_decide_eq_true c218
                refine Rn.iload dX5_does_221 rfl rfl ?_
                refine Rn.if_neB (tgt := 245) dX5_does_223 rfl (by decide) (fun c223 => ?_) (fun c223 => ?_)
                · refine Rn.iconst dX5_does_245 rfl ic_1 ?_
                  refine Rn.top (y := bi (anyB (fun w => fB p1 w (c % 1000)) (w + 1))) (by first | exact anyB_l c223 | exact anyB_r (f := (fun w => fB p1 w (c % 1000))) (decide_eq_true (by omega))) ?_
                  refine Rn.goto (tgt := 250) dX5_does_246 (by decide) ?_
                  refine Rn.istore dX5_does_250 rfl (Nat.le_of_ble_eq_true rfl) ?_
                  refine Rn.iincN dX5_does_252 rfl rfl (Nat.le_of_ble_eq_true rfl) ?_
                  refine Rn.goto (tgt := 196) dX5_does_255 (by decide) ?_
                  exact Rn.pick [2, 3, 4, 1, 0] rfl (ih (w + 1) (by omega) (by omega) (by omega))
                · refine Rn.aload_n dX5_does_226 rfl rfl ?_
                  refine Rn.getf f_X5_22 dX5_does_227 rfl M15 (Nat.lt_of_le_of_lt (Nat.le_of_ble_eq_true rfl) ML) rfl ?_
                  refine Rn.iload dX5_does_230 rfl rfl ?_
                  refine Rn.bipush dX5_does_232 rfl bp_100 ?_
                  refine Rn.iload_n dX5_does_234 rfl rfl ?_
                  refine Rn.imulN dX5_does_235 rfl ?_
                  refine Rn.iload dX5_does_236 rfl rfl ?_
                  refine Rn.iaddN dX5_does_238 rfl ?_
                  refine Rn.top (congrArg nI (show 100 * (c / 100 % 10) + c % 100 = c % 1000 by omega)) ?_
                  refine Rn.callS (as := [_, _, _]) s_X5_fitsOn l_X5_65 ⟨Nat.le_of_ble_eq_true rfl, Nat.le_of_ble_eq_true rfl⟩ dX5_does_239 rfl rfl (Nat.le_of_ble_eq_true rfl) (Nat.le_refl _) (Nat.le_refl _) (t_X5_fitsOn ⟨M20, (Nat.lt_of_le_of_lt (Nat.le_of_ble_eq_true rfl) ML)⟩ O1 (by omega) (by omega) ?_)
                  have hfl := fitP_le p1 w (c % 1000)
                  have hl30 := (O1.us (show w < 4 by omega)).2.2.2.2.2
                  refine Rn.if_leN (tgt := 249) dX5_does_242 rfl (by decide) (by omega) (fun c242 => ?_) (fun c242 => ?_)
                  · refine Rn.iconst dX5_does_249 rfl ic_0 ?_
                    refine Rn.top (y := bi (anyB (fun w => fB p1 w (c % 1000)) (w + 1))) (anyB_n (f := (fun w => fB p1 w (c % 1000))) c223 (decide_eq_false (by omega))) ?_
                    refine Rn.istore dX5_does_250 rfl (Nat.le_of_ble_eq_true rfl) ?_
                    refine Rn.iincN dX5_does_252 rfl rfl (Nat.le_of_ble_eq_true rfl) ?_
                    refine Rn.goto (tgt := 196) dX5_does_255 (by decide) ?_
                    exact Rn.pick [2, 3, 4, 1, 0] rfl (ih (w + 1) (by omega) (by omega) (by omega))
                  · refine Rn.iconst dX5_does_245 rfl ic_1 ?_
                    refine Rn.top (y := bi (anyB (fun w => fB p1 w (c % 1000)) (w + 1))) (by first | exact anyB_l c223 | exact anyB_r (f := (fun w => fB p1 w (c % 1000))) (decide_eq_true (by omega))) ?_
                    refine Rn.goto (tgt := 250) dX5_does_246 (by decide) ?_
                    refine Rn.istore dX5_does_250 rfl (Nat.le_of_ble_eq_true rfl) ?_
                    refine Rn.iincN dX5_does_252 rfl rfl (Nat.le_of_ble_eq_true rfl) ?_
                    refine Rn.goto (tgt := 196) dX5_does_255 (by decide) ?_
                    exact Rn.pick [2, 3, 4, 1, 0] rfl (ih (w + 1) (by omega) (by omega) (by omega))
        exact Rn.pick [4, 6, 2, 1, 0] rfl (hloop (p1 24 + 1) 0 (by omega) (by omega) (Or.inr rfl))
      · refine ⟨233, 261, by rw [ej]; rfl, by decide, ?_⟩
        refine Rn.iload dX5_does_261 rfl rfl ?_
        refine Rn.if_eqN (tgt := 298) dX5_does_263 rfl (by decide) (by omega) (fun c263 => ?_) (fun c263 => ?_)
        · refine Rn.iconst dX5_does_298 rfl ic_0 ?_
          refine Rn.zret dX5_does_299 rfl (by decide) rfl rfl ?_
          rw [soA_6 ej] at k
          first | exact rn_fin k (some_int (bi_df (fun z => by omega))) ((Pa.same (p := p1) ⟨M20, (Nat.lt_of_le_of_lt (Nat.le_of_ble_eq_true rfl) ML)⟩).symm) | exact rn_fin k (some_int (bi_df (fun z => hw24 z.2.1))) ((Pa.same (p := p1) ⟨M20, (Nat.lt_of_le_of_lt (Nat.le_of_ble_eq_true rfl) ML)⟩).symm) | exact rn_fin k (some_int (bi_df (fun z => c291 ((congrArg bi z.2.2).trans (bi_dt c283).symm)))) ((Pa.same (p := p1) ⟨M20, (Nat.lt_of_le_of_lt (Nat.le_of_ble_eq_true rfl) ML)⟩).symm) | exact rn_fin k (some_int (bi_df (fun z => c291 ((congrArg bi z.2.2).trans (bi_df c283).symm)))) ((Pa.same (p := p1) ⟨M20, (Nat.lt_of_le_of_lt (Nat.le_of_ble_eq_true rfl) ML)⟩).symm)
        · first | omega | exact False.elim c263
      · refine ⟨272, 300, by rw [ej]; rfl, by decide, ?_⟩
        refine Rn.iload dX5_does_300 rfl rfl ?_
        refine Rn.if_neN (tgt := 317) dX5_does_302 rfl (by decide) (by omega) (fun c302 => ?_) (fun c302 => ?_)
        · refine Rn.iconst dX5_does_317 rfl ic_0 ?_
          refine Rn.zret dX5_does_318 rfl (by decide) rfl rfl ?_
          first | (have e9 := (soA_7 (p := p1) ej).trans (if_neg (fun z => c302 z.1))); rw [e9] at k; exact rn_fin k bi_f' ((Pa.same (p := p1) ⟨M20, (Nat.lt_of_le_of_lt (Nat.le_of_ble_eq_true rfl) ML)⟩).symm) | (have e9 := (soA_7 (p := p1) ej).trans (if_neg (fun z => of_decide_eq_false c314 z.2))); rw [e9] at k; exact rn_fin k bi_f' ((Pa.same (p := p1) ⟨M20, (Nat.lt_of_le_of_lt (Nat.le_of_ble_eq_true rfl) ML)⟩).symm)
        · refine Rn.iload_n dX5_does_305 rfl rfl ?_
          refine Rn.i2lN dX5_does_306 rfl (by omega) ?_
          refine Rn.lconst dX5_does_307 rfl lc_1 ?_
          refine Rn.ldc2 dX5_does_308 rfl k_X5_150 ?_
          refine Rn.topl lL_6 ?_
          refine Rn.callS (as := [_, _, _]) s_X5_in l_X5_57 ⟨Nat.le_of_ble_eq_true rfl, Nat.le_of_ble_eq_true rfl⟩ dX5_does_311 rfl rfl (Nat.le_of_ble_eq_true rfl) (Nat.le_refl _) (Nat.le_refl _) (t_X5_in ?_)
          refine Rn.top (congrArg bi (inL_N (by omega) (by omega) (by omega))) ?_
          refine Rn.if_neB (tgt := 319) dX5_does_314 rfl (by decide) (fun c314 => ?_) (fun c314 => ?_)
          · refine Rn.aload_n dX5_does_319 rfl rfl ?_
            refine Rn.getf f_X5_22 dX5_does_320 rfl M15 (Nat.lt_of_le_of_lt (Nat.le_of_ble_eq_true rfl) ML) rfl ?_
            refine Rn.bipush dX5_does_323 rfl bp_25 ?_
            refine Rn.iload_n dX5_does_325 rfl rfl ?_
            refine Rn.iastN dX5_does_326 rfl M20 (Nat.lt_of_le_of_lt (Nat.le_of_ble_eq_true rfl) ML) (by omega) (by omega) ?_
            refine Rn.heap (Pa.upd (upd_pg _ _ (by omega) (by omega))) ?_
            refine Rn.iconst dX5_does_327 rfl ic_1 ?_
            refine Rn.zret dX5_does_328 rfl (by decide) rfl rfl ?_
            have w9 := of_decide_eq_true c314
            have e9 := (soA_7 (p := p1) ej).trans (if_pos ⟨c302, w9⟩)
            rw [e9] at k
            exact rn_fin k bi_t' rfl
          · refine Rn.iconst dX5_does_317 rfl ic_0 ?_
            refine Rn.zret dX5_does_318 rfl (by decide) rfl rfl ?_
            first | (have e9 := (soA_7 (p := p1) ej).trans (if_neg (fun z => c302 z.1))); rw [e9] at k; exact rn_fin k bi_f' ((Pa.same (p := p1) ⟨M20, (Nat.lt_of_le_of_lt (Nat.le_of_ble_eq_true rfl) ML)⟩).symm) | (have e9 := (soA_7 (p := p1) ej).trans (if_neg (fun z => of_decide_eq_false c314 z.2))); rw [e9] at k; exact rn_fin k bi_f' ((Pa.same (p := p1) ⟨M20, (Nat.lt_of_le_of_lt (Nat.le_of_ble_eq_true rfl) ML)⟩).symm)
  · have hw24 := of_decide_eq_true (bn_f c8)
    have h4 := O1.1
    have hus := O1.us (show (c / 100 % 10) < 4 by omega)
    refine Rn.iconst dX5_does_11 rfl ic_1 ?_
    refine Rn.goto (tgt := 16) dX5_does_12 (by decide) ?_
    refine Rn.istore dX5_does_16 rfl (Nat.le_of_ble_eq_true rfl) ?_
    refine Rn.bipush dX5_does_18 rfl bp_10 ?_
    refine Rn.iload_n dX5_does_20 rfl rfl ?_
    refine Rn.imulN dX5_does_21 rfl ?_
    refine Rn.iload dX5_does_22 rfl rfl ?_
    refine Rn.iaddN dX5_does_24 rfl ?_
    refine Rn.top (congrArg nI (show 10 * (c / 10 % 10) + c % 10 = c % 100 by omega)) ?_
    refine Rn.istore dX5_does_25 rfl (Nat.le_of_ble_eq_true rfl) ?_
    refine Rn.iload_n dX5_does_27 rfl rfl ?_
    refine Rn.tswN (l0 := 1) (n := 7) (tgtD := 329) dX5_does_28 rfl rfl (by omega) (by decide) (fun cy => ?_) (fun g1 g2 => ?_)
    · refine Rn.iconst dX5_does_329 rfl ic_0 ?_
      refine Rn.zret dX5_does_330 rfl (by decide) rfl rfl ?_
      exact rn_fin k (some_int (by rw [soA_d cy]; exact bi_f.symm)) (by rw [soA_d cy]; exact ((Pa.same (p := p1) ⟨M20, (Nat.lt_of_le_of_lt (Nat.le_of_ble_eq_true rfl) ML)⟩).symm))
    · rcases (show c / 1000 = 1 ∨ c / 1000 = 2 ∨ c / 1000 = 3 ∨ c / 1000 = 4 ∨ c / 1000 = 5 ∨ c / 1000 = 6 ∨ c / 1000 = 7 by omega) with ej | ej | ej | ej | ej | ej | ej
      · refine ⟨44, 72, by rw [ej]; rfl, by decide, ?_⟩
        refine Rn.iload dX5_does_72 rfl rfl ?_
        refine Rn.if_neN (tgt := 88) dX5_does_74 rfl (by decide) (by omega) (fun c74 => ?_) (fun c74 => ?_)
        · refine Rn.iconst dX5_does_88 rfl ic_0 ?_
          refine Rn.zret dX5_does_89 rfl (by decide) rfl rfl ?_
          first | (have e9 := (soA_1 (p := p1) ej).trans (if_neg (fun z => c74 z.1))); rw [e9] at k; exact rn_fin k bi_f' ((Pa.same (p := p1) ⟨M20, (Nat.lt_of_le_of_lt (Nat.le_of_ble_eq_true rfl) ML)⟩).symm) | (have e9 := (soA_1 (p := p1) ej).trans (if_neg (fun z => absurd z.2 (by rw [c85]; decide)))); rw [e9] at k; exact rn_fin k bi_f' ((Pa.same (p := p1) ⟨M20, (Nat.lt_of_le_of_lt (Nat.le_of_ble_eq_true rfl) ML)⟩).symm)
        · refine Rn.aload_n dX5_does_77 rfl rfl ?_
          refine Rn.getf f_X5_22 dX5_does_78 rfl M15 (Nat.lt_of_le_of_lt (Nat.le_of_ble_eq_true rfl) ML) rfl ?_
          refine Rn.iload_n dX5_does_81 rfl rfl ?_
          refine Rn.callS (as := [_, _]) s_X5_hasPass l_X5_79 ⟨Nat.le_of_ble_eq_true rfl, Nat.le_of_ble_eq_true rfl⟩ dX5_does_82 rfl rfl (Nat.le_of_ble_eq_true rfl) (Nat.le_refl _) (Nat.le_refl _) (t_X5_hasPass ⟨M20, (Nat.lt_of_le_of_lt (Nat.le_of_ble_eq_true rfl) ML)⟩ O1 ?_)
          refine Rn.top (congrArg bi (ownB_nI (by omega))) ?_
          refine Rn.if_neB (tgt := 90) dX5_does_85 rfl (by decide) (fun c85 => ?_) (fun c85 => ?_)
          · have hu4 : (c / 100 % 10) < 4 := by have := (ow_t c85).1; have := O1.1; omega
            have hus := O1.us hu4
            have hu3 := (ow_t c85).2
            refine Rn.aload_n dX5_does_90 rfl rfl ?_
            refine Rn.getf f_X5_22 dX5_does_91 rfl M15 (Nat.lt_of_le_of_lt (Nat.le_of_ble_eq_true rfl) ML) rfl ?_
            refine Rn.iload_n dX5_does_94 rfl rfl ?_
            refine Rn.callS (as := [_, _]) s_X5_sendOn l_X5_120 ⟨Nat.le_of_ble_eq_true rfl, Nat.le_of_ble_eq_true rfl⟩ dX5_does_95 rfl rfl (Nat.le_of_ble_eq_true rfl) (Nat.le_refl _) (Nat.le_refl _) (t_X5_sendOn ⟨M20, (Nat.lt_of_le_of_lt (Nat.le_of_ble_eq_true rfl) ML)⟩ O1 hu4 c85 ?_)
            refine Rn.pop dX5_does_98 rfl rfl ?_
            refine Rn.iconst dX5_does_99 rfl ic_1 ?_
            refine Rn.zret dX5_does_100 rfl (by decide) rfl rfl ?_
            have e9 := (soA_1 (p := p1) ej).trans (if_pos ⟨c74, c85⟩)
            rw [e9] at k
            exact rn_fin k bi_t' rfl
          · refine Rn.iconst dX5_does_88 rfl ic_0 ?_
            refine Rn.zret dX5_does_89 rfl (by decide) rfl rfl ?_
            first | (have e9 := (soA_1 (p := p1) ej).trans (if_neg (fun z => c74 z.1))); rw [e9] at k; exact rn_fin k bi_f' ((Pa.same (p := p1) ⟨M20, (Nat.lt_of_le_of_lt (Nat.le_of_ble_eq_true rfl) ML)⟩).symm) | (have e9 := (soA_1 (p := p1) ej).trans (if_neg (fun z => absurd z.2 (by rw [c85]; decide)))); rw [e9] at k; exact rn_fin k bi_f' ((Pa.same (p := p1) ⟨M20, (Nat.lt_of_le_of_lt (Nat.le_of_ble_eq_true rfl) ML)⟩).symm)
      · refine ⟨73, 101, by rw [ej]; rfl, by decide, ?_⟩
        refine Rn.iload dX5_does_101 rfl rfl ?_
        refine Rn.if_neN (tgt := 117) dX5_does_103 rfl (by decide) (by omega) (fun c103 => ?_) (fun c103 => ?_)
        · refine Rn.iconst dX5_does_117 rfl ic_0 ?_
          refine Rn.zret dX5_does_118 rfl (by decide) rfl rfl ?_
          first | (have e9 := (soA_2 (p := p1) ej).trans (if_neg (fun z => c103 z.1))); rw [e9] at k; exact rn_fin k bi_f' ((Pa.same (p := p1) ⟨M20, (Nat.lt_of_le_of_lt (Nat.le_of_ble_eq_true rfl) ML)⟩).symm) | (have e9 := (soA_2 (p := p1) ej).trans (if_neg (fun z => absurd z.2 (by rw [c114]; decide)))); rw [e9] at k; exact rn_fin k bi_f' ((Pa.same (p := p1) ⟨M20, (Nat.lt_of_le_of_lt (Nat.le_of_ble_eq_true rfl) ML)⟩).symm)
        · refine Rn.aload_n dX5_does_106 rfl rfl ?_
          refine Rn.getf f_X5_22 dX5_does_107 rfl M15 (Nat.lt_of_le_of_lt (Nat.le_of_ble_eq_true rfl) ML) rfl ?_
          refine Rn.iload_n dX5_does_110 rfl rfl ?_
          refine Rn.callS (as := [_, _]) s_X5_hasPass l_X5_79 ⟨Nat.le_of_ble_eq_true rfl, Nat.le_of_ble_eq_true rfl⟩ dX5_does_111 rfl rfl (Nat.le_of_ble_eq_true rfl) (Nat.le_refl _) (Nat.le_refl _) (t_X5_hasPass ⟨M20, (Nat.lt_of_le_of_lt (Nat.le_of_ble_eq_true rfl) ML)⟩ O1 ?_)
          refine Rn.top (congrArg bi (ownB_nI (by omega))) ?_
          refine Rn.if_neB (tgt := 119) dX5_does_114 rfl (by decide) (fun c114 => ?_) (fun c114 => ?_)
          · have hu4 : (c / 100 % 10) < 4 := by have := (ow_t c114).1; have := O1.1; omega
            have hus := O1.us hu4
            have hu3 := (ow_t c114).2
            refine Rn.aload_n dX5_does_119 rfl rfl ?_
            refine Rn.getf f_X5_22 dX5_does_120 rfl M15 (Nat.lt_of_le_of_lt (Nat.le_of_ble_eq_true rfl) ML) rfl ?_
            refine Rn.bipush dX5_does_123 rfl bp_6 ?_
            refine Rn.iload_n dX5_does_125 rfl rfl ?_
            refine Rn.imulN dX5_does_126 rfl ?_
            refine Rn.iconst dX5_does_127 rfl ic_3 ?_
            refine Rn.iaddN dX5_does_128 rfl ?_
            refine Rn.dup2 dX5_does_129 rfl rfl rfl ?_
            refine Rn.ialdN dX5_does_130 rfl M20 (Nat.lt_of_le_of_lt (Nat.le_of_ble_eq_true rfl) ML) (by omega) (by omega) ?_
            refine Rn.top (pg_us _ (by omega) (show 3 < 6 by omega)) ?_
            refine Rn.iconst dX5_does_131 rfl ic_1 ?_
            refine Rn.isubN dX5_does_132 rfl (by omega) ?_
            refine Rn.iastN dX5_does_133 rfl M20 (Nat.lt_of_le_of_lt (Nat.le_of_ble_eq_true rfl) ML) (by omega) (by omega) ?_
            refine Rn.heap (Pa.upd ((upd_pg _ _ (by omega) (by omega)).trans (congrArg pg (sp_y c114)))) ?_
            refine Rn.iconst dX5_does_134 rfl ic_1 ?_
            refine Rn.zret dX5_does_135 rfl (by decide) rfl rfl ?_
            have e9 := (soA_2 (p := p1) ej).trans (if_pos ⟨c103, c114⟩)
            rw [e9] at k
            exact rn_fin k bi_t' rfl
          · refine Rn.iconst dX5_does_117 rfl ic_0 ?_
            refine Rn.zret dX5_does_118 rfl (by decide) rfl rfl ?_
            first | (have e9 := (soA_2 (p := p1) ej).trans (if_neg (fun z => c103 z.1))); rw [e9] at k; exact rn_fin k bi_f' ((Pa.same (p := p1) ⟨M20, (Nat.lt_of_le_of_lt (Nat.le_of_ble_eq_true rfl) ML)⟩).symm) | (have e9 := (soA_2 (p := p1) ej).trans (if_neg (fun z => absurd z.2 (by rw [c114]; decide)))); rw [e9] at k; exact rn_fin k bi_f' ((Pa.same (p := p1) ⟨M20, (Nat.lt_of_le_of_lt (Nat.le_of_ble_eq_true rfl) ML)⟩).symm)
      · refine ⟨108, 136, by rw [ej]; rfl, by decide, ?_⟩
        refine Rn.iload dX5_does_136 rfl rfl ?_
        refine Rn.if_eqN (tgt := 161) dX5_does_138 rfl (by decide) (by omega) (fun c138 => ?_) (fun c138 => ?_)
        · first | omega | exact False.elim c138
        · refine Rn.aload_n dX5_does_141 rfl rfl ?_
          refine Rn.getf f_X5_22 dX5_does_142 rfl M15 (Nat.lt_of_le_of_lt (Nat.le_of_ble_eq_true rfl) ML) rfl ?_
          refine Rn.bipush dX5_does_145 rfl bp_6 ?_
          refine Rn.iload_n dX5_does_147 rfl rfl ?_
          refine Rn.imulN dX5_does_148 rfl ?_
          refine Rn.iconst dX5_does_149 rfl ic_3 ?_
          refine Rn.iaddN dX5_does_150 rfl ?_
          refine Rn.ialdN dX5_does_151 rfl M20 (Nat.lt_of_le_of_lt (Nat.le_of_ble_eq_true rfl) ML) (by omega) (by omega) ?_
          refine Rn.top (pg_us _ (by omega) (show 3 < 6 by omega)) ?_
          refine Rn.iload dX5_does_152 rfl rfl ?_
          refine Rn.icmp_neN (tgt := 161) dX5_does_154 rfl (by decide) (by omega) (by omega) (fun c154 => ?_) (fun c154 => ?_)
          · refine Rn.iconst dX5_does_161 rfl ic_0 ?_
            refine Rn.zret dX5_does_162 rfl (by decide) rfl rfl ?_
            rw [soA_3 ej] at k
            first | exact rn_fin k (some_int (bi_df (fun z => hw24 z.1))) ((Pa.same (p := p1) ⟨M20, (Nat.lt_of_le_of_lt (Nat.le_of_ble_eq_true rfl) ML)⟩).symm) | exact rn_fin k (some_int (bi_df (fun z => c154 z.2))) ((Pa.same (p := p1) ⟨M20, (Nat.lt_of_le_of_lt (Nat.le_of_ble_eq_true rfl) ML)⟩).symm)
          · refine Rn.iconst dX5_does_157 rfl ic_1 ?_
            refine Rn.goto (tgt := 162) dX5_does_158 (by decide) ?_
            refine Rn.zret dX5_does_162 rfl (by decide) rfl rfl ?_
            rw [soA_3 ej] at k
            exact rn_fin k (some_int (bi_dt ⟨hw24, c154⟩)) ((Pa.same (p := p1) ⟨M20, (Nat.lt_of_le_of_lt (Nat.le_of_ble_eq_true rfl) ML)⟩).symm)
      · refine ⟨135, 163, by rw [ej]; rfl, by decide, ?_⟩
        refine Rn.iload dX5_does_163 rfl rfl ?_
        refine Rn.if_eqN (tgt := 188) dX5_does_165 rfl (by decide) (by omega) (fun c165 => ?_) (fun c165 => ?_)
        · first | omega | exact False.elim c165
        · refine Rn.aload_n dX5_does_168 rfl rfl ?_
          refine Rn.getf f_X5_22 dX5_does_169 rfl M15 (Nat.lt_of_le_of_lt (Nat.le_of_ble_eq_true rfl) ML) rfl ?_
          refine Rn.bipush dX5_does_172 rfl bp_6 ?_
          refine Rn.iload_n dX5_does_174 rfl rfl ?_
          refine Rn.imulN dX5_does_175 rfl ?_
          refine Rn.iconst dX5_does_176 rfl ic_5 ?_
          refine Rn.iaddN dX5_does_177 rfl ?_
          refine Rn.ialdN dX5_does_178 rfl M20 (Nat.lt_of_le_of_lt (Nat.le_of_ble_eq_true rfl) ML) (by omega) (by omega) ?_
          refine Rn.top (pg_us _ (by omega) (show 5 < 6 by omega)) ?_
          refine Rn.iload dX5_does_179 rfl rfl ?_
          refine Rn.icmp_neN (tgt := 188) dX5_does_181 rfl (by decide) (by omega) (by omega) (fun c181 => ?_) (fun c181 => ?_)
          · refine Rn.iconst dX5_does_188 rfl ic_0 ?_
            refine Rn.zret dX5_does_189 rfl (by decide) rfl rfl ?_
            rw [soA_4 ej] at k
            first | exact rn_fin k (some_int (bi_df (fun z => hw24 z.1))) ((Pa.same (p := p1) ⟨M20, (Nat.lt_of_le_of_lt (Nat.le_of_ble_eq_true rfl) ML)⟩).symm) | exact rn_fin k (some_int (bi_df (fun z => c181 z.2))) ((Pa.same (p := p1) ⟨M20, (Nat.lt_of_le_of_lt (Nat.le_of_ble_eq_true rfl) ML)⟩).symm)
          · refine Rn.iconst dX5_does_184 rfl ic_1 ?_
            refine Rn.goto (tgt := 189) dX5_does_185 (by decide) ?_
            refine Rn.zret dX5_does_189 rfl (by decide) rfl rfl ?_
            rw [soA_4 ej] at k
            exact rn_fin k (some_int (bi_dt ⟨hw24, c181⟩)) ((Pa.same (p := p1) ⟨M20, (Nat.lt_of_le_of_lt (Nat.le_of_ble_eq_true rfl) ML)⟩).symm)
      · refine ⟨162, 190, by rw [ej]; rfl, by decide, ?_⟩
        refine Rn.iconst dX5_does_190 rfl ic_0 ?_
        refine Rn.istore dX5_does_191 rfl (Nat.le_of_ble_eq_true rfl) ?_
        refine Rn.iconst dX5_does_193 rfl ic_0 ?_
        refine Rn.istore dX5_does_194 rfl (Nat.le_of_ble_eq_true rfl) ?_
        have hloop : ∀ (m : Nat) (w : Nat), p1 24 - w < m → w ≤ p1 24 → (c % 1000 ≤ 250 ∨ w = 0) → Rn (M_X5_does, none, h.1, h.2.1) Q 196 [(0, .ref 15), (2, .int (nI (c / 100 % 10))), (6, .int (nI (c % 100))), (7, .int (bi (anyB (fun w => fB p1 w (c % 1000)) w))), (8, .int (nI w))] [] h := by
          intro m
          induction m with
          | zero => intro w h0 h1 h2; exact absurd h0 (Nat.not_lt_zero _)
          | succ m ih =>
            intro w h0 h1 h2
            have h4 := O1.1
            refine Rn.iload dX5_does_196 rfl rfl ?_
            refine Rn.aload_n dX5_does_198 rfl rfl ?_
            refine Rn.getf f_X5_22 dX5_does_199 rfl M15 (Nat.lt_of_le_of_lt (Nat.le_of_ble_eq_true rfl) ML) rfl ?_
            refine Rn.bipush dX5_does_202 rfl bp_24 ?_
            refine Rn.ialdN dX5_does_204 rfl M20 (Nat.lt_of_le_of_lt (Nat.le_of_ble_eq_true rfl) ML) (by omega) (by omega) ?_
            refine Rn.top (pg_n _ (by omega) (by omega)) ?_
            refine Rn.icmp_geN (tgt := 258) dX5_does_205 rfl (by decide) (by omega) (by omega) (fun c205 => ?_) (fun c205 => ?_)
            · refine Rn.iload dX5_does_258 rfl rfl ?_
              refine Rn.zret dX5_does_260 rfl (bi_01 _) rfl rfl ?_
              rw [soA_5 ej] at k
              refine rn_fin k (some_int (congrArg bi ?_)) ((Pa.same (p := p1) ⟨M20, (Nat.lt_of_le_of_lt (Nat.le_of_ble_eq_true rfl) ML)⟩).symm)
              obtain rfl : w = p1 24 := by omega
              by_cases e5 : c % 1000 ≤ 250
              · rw [any_ftd O1]; exact decide_eq_decide.mpr ⟨fun z => ⟨e5, z⟩, fun z => z.2⟩
              · rw [decide_eq_false (fun z => e5 z.1), show p1 24 = 0 by omega]; rfl
            · refine Rn.bipush dX5_does_208 rfl bp_100 ?_
              refine Rn.iload_n dX5_does_210 rfl rfl ?_
              refine Rn.imulN dX5_does_211 rfl ?_
              refine Rn.iload dX5_does_212 rfl rfl ?_
              refine Rn.iaddN dX5_does_214 rfl ?_
              refine Rn.top (congrArg nI (show 100 * (c / 100 % 10) + c % 100 = c % 1000 by omega)) ?_
              refine Rn.callS (as := [_]) s_X5_isNumber l_X5_139 ⟨Nat.le_of_ble_eq_true rfl, Nat.le_of_ble_eq_true rfl⟩ dX5_does_215 rfl rfl (Nat.le_of_ble_eq_true rfl) (Nat.le_refl _) (Nat.le_refl _) (t_X5_isNumber ?_)
              refine Rn.top (congrArg bi (isW_nI (by omega) (by omega) (by omega))) ?_
              refine Rn.if_eqB (tgt := 258) dX5_does_218 rfl (by decide) (fun c218 => ?_) (fun c218 => ?_)
              · refine Rn.iload dX5_does_258 rfl rfl ?_
                refine Rn.zret dX5_does_260 rfl (bi_01 _) rfl rfl ?_
                rw [soA_5 ej] at k
                refine rn_fin k (some_int (congrArg bi ?_)) ((Pa.same (p := p1) ⟨M20, (Nat.lt_of_le_of_lt (Nat.le_of_ble_eq_true rfl) ML)⟩).symm)
                have e5 := of_decide_eq_false c218
                rw [decide_eq_false (fun z => e5 ⟨by omega, z.1⟩), show w = 0 by omega]; rfl
              · have hnum := of_decide_eq_true c218
                refine Rn.iload dX5_does_221 rfl rfl ?_
                refine Rn.if_neB (tgt := 245) dX5_does_223 rfl (by decide) (fun c223 => ?_) (fun c223 => ?_)
                · refine Rn.iconst dX5_does_245 rfl ic_1 ?_
                  refine Rn.top (y := bi (anyB (fun w => fB p1 w (c % 1000)) (w + 1))) (by first | exact anyB_l c223 | exact anyB_r (f := (fun w => fB p1 w (c % 1000))) (decide_eq_true (by omega))) ?_
                  refine Rn.goto (tgt := 250) dX5_does_246 (by decide) ?_
                  refine Rn.istore dX5_does_250 rfl (Nat.le_of_ble_eq_true rfl) ?_
                  refine Rn.iincN dX5_does_252 rfl rfl (Nat.le_of_ble_eq_true rfl) ?_
                  refine Rn.goto (tgt := 196) dX5_does_255 (by decide) ?_
                  exact Rn.pick [2, 3, 4, 1, 0] rfl (ih (w + 1) (by omega) (by omega) (by omega))
                · refine Rn.aload_n dX5_does_226 rfl rfl ?_
                  refine Rn.getf f_X5_22 dX5_does_227 rfl M15 (Nat.lt_of_le_of_lt (Nat.le_of_ble_eq_true rfl) ML) rfl ?_
                  refine Rn.iload dX5_does_230 rfl rfl ?_
                  refine Rn.bipush dX5_does_232 rfl bp_100 ?_
                  refine Rn.iload_n dX5_does_234 rfl rfl ?_
                  refine Rn.imulN dX5_does_235 rfl ?_
                  refine Rn.iload dX5_does_236 rfl rfl ?_
                  refine Rn.iaddN dX5_does_238 rfl ?_
                  refine Rn.top (congrArg nI (show 100 * (c / 100 % 10) + c % 100 = c % 1000 by omega)) ?_
                  refine Rn.callS (as := [_, _, _]) s_X5_fitsOn l_X5_65 ⟨Nat.le_of_ble_eq_true rfl, Nat.le_of_ble_eq_true rfl⟩ dX5_does_239 rfl rfl (Nat.le_of_ble_eq_true rfl) (Nat.le_refl _) (Nat.le_refl _) (t_X5_fitsOn ⟨M20, (Nat.lt_of_le_of_lt (Nat.le_of_ble_eq_true rfl) ML)⟩ O1 (by omega) (by omega) ?_)
                  have hfl := fitP_le p1 w (c % 1000)
                  have hl30 := (O1.us (show w < 4 by omega)).2.2.2.2.2
                  refine Rn.if_leN (tgt := 249) dX5_does_242 rfl (by decide) (by omega) (fun c242 => ?_) (fun c242 => ?_)
                  · refine Rn.iconst dX5_does_249 rfl ic_0 ?_
                    refine Rn.top (y := bi (anyB (fun w => fB p1 w (c % 1000)) (w + 1))) (anyB_n (f := (fun w => fB p1 w (c % 1000))) c223 (decide_eq_false (by omega))) ?_
                    refine Rn.istore dX5_does_250 rfl (Nat.le_of_ble_eq_true rfl) ?_
                    refine Rn.iincN dX5_does_252 rfl rfl (Nat.le_of_ble_eq_true rfl) ?_
                    refine Rn.goto (tgt := 196) dX5_does_255 (by decide) ?_
                    exact Rn.pick [2, 3, 4, 1, 0] rfl (ih (w + 1) (by omega) (by omega) (by omega))
                  · refine Rn.iconst dX5_does_245 rfl ic_1 ?_
                    refine Rn.top (y := bi (anyB (fun w => fB p1 w (c % 1000)) (w + 1))) (by first | exact anyB_l c223 | exact anyB_r (f := (fun w => fB p1 w (c % 1000))) (decide_eq_true (by omega))) ?_
                    refine Rn.goto (tgt := 250) dX5_does_246 (by decide) ?_
                    refine Rn.istore dX5_does_250 rfl (Nat.le_of_ble_eq_true rfl) ?_
                    refine Rn.iincN dX5_does_252 rfl rfl (Nat.le_of_ble_eq_true rfl) ?_
                    refine Rn.goto (tgt := 196) dX5_does_255 (by decide) ?_
                    exact Rn.pick [2, 3, 4, 1, 0] rfl (ih (w + 1) (by omega) (by omega) (by omega))
        exact Rn.pick [4, 6, 2, 1, 0] rfl (hloop (p1 24 + 1) 0 (by omega) (by omega) (Or.inr rfl))
      · refine ⟨233, 261, by rw [ej]; rfl, by decide, ?_⟩
        refine Rn.iload dX5_does_261 rfl rfl ?_
        refine Rn.if_eqN (tgt := 298) dX5_does_263 rfl (by decide) (by omega) (fun c263 => ?_) (fun c263 => ?_)
        · first | omega | exact False.elim c263
        · refine Rn.iload dX5_does_266 rfl rfl ?_
          refine Rn.iconst dX5_does_268 rfl ic_2 ?_
          refine Rn.icmp_geN (tgt := 298) dX5_does_269 rfl (by decide) (by omega) (by omega) (fun c269 => ?_) (fun c269 => ?_)
          · refine Rn.iconst dX5_does_298 rfl ic_0 ?_
            refine Rn.zret dX5_does_299 rfl (by decide) rfl rfl ?_
            rw [soA_6 ej] at k
            first | exact rn_fin k (some_int (bi_df (fun z => by omega))) ((Pa.same (p := p1) ⟨M20, (Nat.lt_of_le_of_lt (Nat.le_of_ble_eq_true rfl) ML)⟩).symm) | exact rn_fin k (some_int (bi_df (fun z => hw24 z.2.1))) ((Pa.same (p := p1) ⟨M20, (Nat.lt_of_le_of_lt (Nat.le_of_ble_eq_true rfl) ML)⟩).symm) | exact rn_fin k (some_int (bi_df (fun z => c291 ((congrArg bi z.2.2).trans (bi_dt c283).symm)))) ((Pa.same (p := p1) ⟨M20, (Nat.lt_of_le_of_lt (Nat.le_of_ble_eq_true rfl) ML)⟩).symm) | exact rn_fin k (some_int (bi_df (fun z => c291 ((congrArg bi z.2.2).trans (bi_df c283).symm)))) ((Pa.same (p := p1) ⟨M20, (Nat.lt_of_le_of_lt (Nat.le_of_ble_eq_true rfl) ML)⟩).symm)
          · refine Rn.aload_n dX5_does_272 rfl rfl ?_
            refine Rn.getf f_X5_22 dX5_does_273 rfl M15 (Nat.lt_of_le_of_lt (Nat.le_of_ble_eq_true rfl) ML) rfl ?_
            refine Rn.iload_n dX5_does_276 rfl rfl ?_
            refine Rn.callS (as := [_, _]) s_X5_isInStep l_X5_127 ⟨Nat.le_of_ble_eq_true rfl, Nat.le_of_ble_eq_true rfl⟩ dX5_does_277 rfl rfl (Nat.le_of_ble_eq_true rfl) (Nat.le_refl _) (Nat.le_refl _) (t_X5_isInStep ⟨M20, (Nat.lt_of_le_of_lt (Nat.le_of_ble_eq_true rfl) ML)⟩ O1 (by omega) ?_)
            refine Rn.iload dX5_does_280 rfl rfl ?_
            refine Rn.iconst dX5_does_282 rfl ic_1 ?_
            refine Rn.icmp_neN (tgt := 290) dX5_does_283 rfl (by decide) (by omega) (by omega) (fun c283 => ?_) (fun c283 => ?_)
            · refine Rn.iconst dX5_does_290 rfl ic_0 ?_
              refine Rn.icmp_ne (tgt := 298) dX5_does_291 rfl (by decide) (fun c291 => ?_) (fun c291 => ?_)
              · refine Rn.iconst dX5_does_298 rfl ic_0 ?_
                refine Rn.zret dX5_does_299 rfl (by decide) rfl rfl ?_
                rw [soA_6 ej] at k
                first | exact rn_fin k (some_int (bi_df (fun z => by omega))) ((Pa.same (p := p1) ⟨M20, (Nat.lt_of_le_of_lt (Nat.le_of_ble_eq_true rfl) ML)⟩).symm) | exact rn_fin k (some_int (bi_df (fun z => hw24 z.2.1))) ((Pa.same (p := p1) ⟨M20, (Nat.lt_of_le_of_lt (Nat.le_of_ble_eq_true rfl) ML)⟩).symm) | exact rn_fin k (some_int (bi_df (fun z => c291 ((congrArg bi z.2.2).trans (bi_dt c283).symm)))) ((Pa.same (p := p1) ⟨M20, (Nat.lt_of_le_of_lt (Nat.le_of_ble_eq_true rfl) ML)⟩).symm) | exact rn_fin k (some_int (bi_df (fun z => c291 ((congrArg bi z.2.2).trans (bi_df c283).symm)))) ((Pa.same (p := p1) ⟨M20, (Nat.lt_of_le_of_lt (Nat.le_of_ble_eq_true rfl) ML)⟩).symm)
              · refine Rn.iconst dX5_does_294 rfl ic_1 ?_
                refine Rn.goto (tgt := 299) dX5_does_295 (by decide) ?_
                refine Rn.zret dX5_does_299 rfl (by decide) rfl rfl ?_
                rw [soA_6 ej] at k
                exact rn_fin k (some_int (bi_dt ⟨by omega, hw24, by first | exact bi_inj (c291.trans (bi_dt c283)) | exact bi_inj (c291.trans (bi_df c283))⟩)) ((Pa.same (p := p1) ⟨M20, (Nat.lt_of_le_of_lt (Nat.le_of_ble_eq_true rfl) ML)⟩).symm)
            · refine Rn.iconst dX5_does_286 rfl ic_1 ?_
              refine Rn.goto (tgt := 291) dX5_does_287 (by decide) ?_
              refine Rn.icmp_ne (tgt := 298) dX5_does_291 rfl (by decide) (fun c291 => ?_) (fun c291 => ?_)
              · refine Rn.iconst dX5_does_298 rfl ic_0 ?_
                refine Rn.zret dX5_does_299 rfl (by decide) rfl rfl ?_
                rw [soA_6 ej] at k
                first | exact rn_fin k (some_int (bi_df (fun z => by omega))) ((Pa.same (p := p1) ⟨M20, (Nat.lt_of_le_of_lt (Nat.le_of_ble_eq_true rfl) ML)⟩).symm) | exact rn_fin k (some_int (bi_df (fun z => hw24 z.2.1))) ((Pa.same (p := p1) ⟨M20, (Nat.lt_of_le_of_lt (Nat.le_of_ble_eq_true rfl) ML)⟩).symm) | exact rn_fin k (some_int (bi_df (fun z => c291 ((congrArg bi z.2.2).trans (bi_dt c283).symm)))) ((Pa.same (p := p1) ⟨M20, (Nat.lt_of_le_of_lt (Nat.le_of_ble_eq_true rfl) ML)⟩).symm) | exact rn_fin k (some_int (bi_df (fun z => c291 ((congrArg bi z.2.2).trans (bi_df c283).symm)))) ((Pa.same (p := p1) ⟨M20, (Nat.lt_of_le_of_lt (Nat.le_of_ble_eq_true rfl) ML)⟩).symm)
              · refine Rn.iconst dX5_does_294 rfl ic_1 ?_
                refine Rn.goto (tgt := 299) dX5_does_295 (by decide) ?_
                refine Rn.zret dX5_does_299 rfl (by decide) rfl rfl ?_
                rw [soA_6 ej] at k
                exact rn_fin k (some_int (bi_dt ⟨by omega, hw24, by first | exact bi_inj (c291.trans (bi_dt c283)) | exact bi_inj (c291.trans (bi_df c283))⟩)) ((Pa.same (p := p1) ⟨M20, (Nat.lt_of_le_of_lt (Nat.le_of_ble_eq_true rfl) ML)⟩).symm)
      · refine ⟨272, 300, by rw [ej]; rfl, by decide, ?_⟩
        refine Rn.iload dX5_does_300 rfl rfl ?_
        refine Rn.if_neN (tgt := 317) dX5_does_302 rfl (by decide) (by omega) (fun c302 => ?_) (fun c302 => ?_)
        · refine Rn.iconst dX5_does_317 rfl ic_0 ?_
          refine Rn.zret dX5_does_318 rfl (by decide) rfl rfl ?_
          first | (have e9 := (soA_7 (p := p1) ej).trans (if_neg (fun z => c302 z.1))); rw [e9] at k; exact rn_fin k bi_f' ((Pa.same (p := p1) ⟨M20, (Nat.lt_of_le_of_lt (Nat.le_of_ble_eq_true rfl) ML)⟩).symm) | (have e9 := (soA_7 (p := p1) ej).trans (if_neg (fun z => of_decide_eq_false c314 z.2))); rw [e9] at k; exact rn_fin k bi_f' ((Pa.same (p := p1) ⟨M20, (Nat.lt_of_le_of_lt (Nat.le_of_ble_eq_true rfl) ML)⟩).symm)
        · refine Rn.iload_n dX5_does_305 rfl rfl ?_
          refine Rn.i2lN dX5_does_306 rfl (by omega) ?_
          refine Rn.lconst dX5_does_307 rfl lc_1 ?_
          refine Rn.ldc2 dX5_does_308 rfl k_X5_150 ?_
          refine Rn.topl lL_6 ?_
          refine Rn.callS (as := [_, _, _]) s_X5_in l_X5_57 ⟨Nat.le_of_ble_eq_true rfl, Nat.le_of_ble_eq_true rfl⟩ dX5_does_311 rfl rfl (Nat.le_of_ble_eq_true rfl) (Nat.le_refl _) (Nat.le_refl _) (t_X5_in ?_)
          refine Rn.top (congrArg bi (inL_N (by omega) (by omega) (by omega))) ?_
          refine Rn.if_neB (tgt := 319) dX5_does_314 rfl (by decide) (fun c314 => ?_) (fun c314 => ?_)
          · refine Rn.aload_n dX5_does_319 rfl rfl ?_
            refine Rn.getf f_X5_22 dX5_does_320 rfl M15 (Nat.lt_of_le_of_lt (Nat.le_of_ble_eq_true rfl) ML) rfl ?_
            refine Rn.bipush dX5_does_323 rfl bp_25 ?_
            refine Rn.iload_n dX5_does_325 rfl rfl ?_
            refine Rn.iastN dX5_does_326 rfl M20 (Nat.lt_of_le_of_lt (Nat.le_of_ble_eq_true rfl) ML) (by omega) (by omega) ?_
            refine Rn.heap (Pa.upd (upd_pg _ _ (by omega) (by omega))) ?_
            refine Rn.iconst dX5_does_327 rfl ic_1 ?_
            refine Rn.zret dX5_does_328 rfl (by decide) rfl rfl ?_
            have w9 := of_decide_eq_true c314
            have e9 := (soA_7 (p := p1) ej).trans (if_pos ⟨c302, w9⟩)
            rw [e9] at k
            exact rn_fin k bi_t' rfl
          · refine Rn.iconst dX5_does_317 rfl ic_0 ?_
            refine Rn.zret dX5_does_318 rfl (by decide) rfl rfl ?_
            first | (have e9 := (soA_7 (p := p1) ej).trans (if_neg (fun z => c302 z.1))); rw [e9] at k; exact rn_fin k bi_f' ((Pa.same (p := p1) ⟨M20, (Nat.lt_of_le_of_lt (Nat.le_of_ble_eq_true rfl) ML)⟩).symm) | (have e9 := (soA_7 (p := p1) ej).trans (if_neg (fun z => of_decide_eq_false c314 z.2))); rw [e9] at k; exact rn_fin k bi_f' ((Pa.same (p := p1) ⟨M20, (Nat.lt_of_le_of_lt (Nat.le_of_ble_eq_true rfl) ML)⟩).symm)
theorem t_X5_judge {h : rHp} {Q : Option Value → rHp → Prop} {t : Nat → Nat} {ln : Nat} {p : Nat → Nat} {U : Nat → Nat → Nat} {a : Nat} {Kp : Nat → Nat → Nat} {ik : Nat → Bool} {su sp sn : Nat → Nat} {sz : Nat} {d : Int64} (I : MI h t ln p U a Kp ik su sp sn sz d) (O : OKs t ln p U a Kp ik su sp sn sz) {x : Int32} {row : Int64} (k : ∀ h', MI h' t ln p U a Kp ik su sp sn sz d → Fm h h' → Q (some (.int (juI p x row))) h') : Cl M_X5_judge h.1 h.2.1 [.ref 15, .int x, .long row] h Q := by
  obtain ⟨th, pl, rm, rp, ev, tp, BK, KM, IK, FF, M15, M16, M17, M18, M19, M20, M21, M22, M23, M24, M25, M26, M27, ML, RMh, RKh⟩ := id I
  obtain ⟨Ot, Oln, Op, OU, OK2, Osz, Osu, Osp, Osn⟩ := id O
  refine Cl.of pl_X5 (Nat.le_of_ble_eq_true rfl) (by first | exact Nat.le_refl _ | omega) (by first | exact Nat.le_refl _ | omega) ?_
  refine Rn.aload_n dX5_judge_0 rfl rfl ?_
  refine Rn.iconst dX5_judge_1 rfl ic_0 ?_
  refine Rn.putf p_X5_51 (fun h => by cases h) dX5_judge_2 rfl M15 (Nat.lt_of_le_of_lt (Nat.le_of_ble_eq_true rfl) ML) (fun g => ⟨rfl, rfl⟩) (Nat.le_of_ble_eq_true rfl) ?_
  refine Rn.iload_n dX5_judge_5 rfl rfl ?_
  refine Rn.i2l dX5_judge_6 rfl ?_
  refine Rn.lconst dX5_judge_7 rfl lc_1 ?_
  refine Rn.ldc2 dX5_judge_8 rfl k_X5_159 ?_
  refine Rn.topl lL_4 ?_
  refine Rn.callS (as := [_, _, _]) s_X5_in l_X5_57 ⟨Nat.le_of_ble_eq_true rfl, Nat.le_of_ble_eq_true rfl⟩ dX5_judge_11 rfl rfl (Nat.le_of_ble_eq_true rfl) (Nat.le_refl _) (Nat.le_refl _) (t_X5_in ?_)
  refine Rn.top (congrArg bi (inL_W (by omega) (by omega))) ?_
  refine Rn.if_eqB (tgt := 34) dX5_judge_14 rfl (by decide) (fun c14 => ?_) (fun c14 => ?_)
  · refine Rn.bipush dX5_judge_34 rfl bp_m2 ?_
    refine Rn.iret dX5_judge_36 rfl rfl rfl ?_
    first | exact rn_fin (k _ ⟨_, _, _, _, _, _, _, _, _, _, (hs_eq _ _ _), ((hs_ne _ _ (by decide)).trans M16), ((hs_ne _ _ (by decide)).trans M17), ((hs_ne _ _ (by decide)).trans M18), ((hs_ne _ _ (by decide)).trans M19), ((hs_ne _ _ (by decide)).trans M20), ((hs_ne _ _ (by decide)).trans M21), ((hs_ne _ _ (by decide)).trans M22), ((hs_ne _ _ (by decide)).trans M23), ((hs_ne _ _ (by decide)).trans M24), ((hs_ne _ _ (by decide)).trans M25), ((hs_ne _ _ (by decide)).trans M26), ((hs_ne _ _ (by decide)).trans M27), ML, RMh, RKh⟩ ((Fm.rf h).hs _ (by decide))) (some_int (by unfold juI; rw [if_neg (fun z => absurd z.1 (by rw [c14]; decide))])) rfl | exact rn_fin (k _ ⟨_, _, _, _, _, _, _, _, _, _, (hs_eq _ _ _), ((hs_ne _ _ (by decide)).trans M16), ((hs_ne _ _ (by decide)).trans M17), ((hs_ne _ _ (by decide)).trans M18), ((hs_ne _ _ (by decide)).trans M19), ((hs_ne _ _ (by decide)).trans M20), ((hs_ne _ _ (by decide)).trans M21), ((hs_ne _ _ (by decide)).trans M22), ((hs_ne _ _ (by decide)).trans M23), ((hs_ne _ _ (by decide)).trans M24), ((hs_ne _ _ (by decide)).trans M25), ((hs_ne _ _ (by decide)).trans M26), ((hs_ne _ _ (by decide)).trans M27), ML, RMh, RKh⟩ ((Fm.rf h).hs _ (by decide))) (some_int (by unfold juI; rw [exn, if_neg (fun z => of_decide_eq_false c31 z.2)])) rfl
  · obtain ⟨y, hy1, hy2, rfl⟩ := isW_of2 c14 (by omega) (by omega)
    have exn : xn (nI y) = y := xn_nI (by omega)
    refine Rn.lload_n dX5_judge_17 rfl rfl ?_
    refine Rn.lconst dX5_judge_18 rfl lc_0 ?_
    refine Rn.ldc2 dX5_judge_19 rfl k_X5_161 ?_
    refine Rn.topl lL_10000 ?_
    refine Rn.iload_n dX5_judge_22 rfl rfl ?_
    refine Rn.callS (as := [_, _]) s_X5_longPower l_X5_163 ⟨Nat.le_of_ble_eq_true rfl, Nat.le_of_ble_eq_true rfl⟩ dX5_judge_23 rfl rfl (Nat.le_of_ble_eq_true rfl) (Nat.le_refl _) (Nat.le_refl _) (t_X5_longPower (by omega) ?_)
    have hpy : 0 < 10000 ^ y := Nat.pow_pos (by omega)
    refine Rn.lconst dX5_judge_26 rfl lc_1 ?_
    refine Rn.lsubN dX5_judge_27 rfl (by omega) ?_
    refine Rn.callS (as := [_, _, _]) s_X5_in l_X5_57 ⟨Nat.le_of_ble_eq_true rfl, Nat.le_of_ble_eq_true rfl⟩ dX5_judge_28 rfl rfl (Nat.le_of_ble_eq_true rfl) (Nat.le_refl _) (Nat.le_refl _) (t_X5_in ?_)
    refine Rn.top (congrArg bi (inL_row (by omega))) ?_
    refine Rn.if_neB (tgt := 37) dX5_judge_31 rfl (by decide) (fun c31 => ?_) (fun c31 => ?_)
    · have hrow := of_decide_eq_true c31
      obtain ⟨r, hr, rfl⟩ := pk_lOf (x := row) (Int64.not_lt.mpr hrow.1)
      have ert : (lN r).toInt.toNat = r := by rw [pk_lT hr]; omega
      rw [ert] at hrow
      refine Rn.aload_n dX5_judge_37 rfl rfl ?_
      refine Rn.getf f_X5_19 dX5_judge_38 rfl (hs_eq _ _ _) (Nat.lt_of_le_of_lt (Nat.le_of_ble_eq_true rfl) ML) rfl ?_
      refine Rn.aload_n dX5_judge_41 rfl rfl ?_
      refine Rn.getf f_X5_22 dX5_judge_42 rfl (hs_eq _ _ _) (Nat.lt_of_le_of_lt (Nat.le_of_ble_eq_true rfl) ML) rfl ?_
      refine Rn.callS (as := [_, _]) s_X5_lay l_X5_116 ⟨Nat.le_of_ble_eq_true rfl, Nat.le_of_ble_eq_true rfl⟩ dX5_judge_45 rfl rfl (Nat.le_of_ble_eq_true rfl) (Nat.le_refl _) (Nat.le_refl _) (t_X5_lay ⟨((hs_ne _ _ (by decide)).trans M19), by exact (Nat.lt_of_le_of_lt (Nat.le_of_ble_eq_true rfl) ML)⟩ ⟨((hs_ne _ _ (by decide)).trans M20), by exact (Nat.lt_of_le_of_lt (Nat.le_of_ble_eq_true rfl) ML)⟩ (by decide) ?_)
      refine Rn.iconst dX5_judge_48 rfl ic_0 ?_
      refine Rn.istore dX5_judge_49 rfl (Nat.le_of_ble_eq_true rfl) ?_
      have hloop : ∀ (m : Nat) (f i : Nat) (pp : Nat → Nat), f < m → i + f = y → OKp pp → juL r y f i pp = juL r y y 0 p → Rn (M_X5_judge, none, h.1, h.2.1) Q 51 [(0, .ref 15), (1, .int (nI y)), (2, .long (lN r)), (4, .int (nI i))] [] (hs (hs h 15 (moO 0 ln pl rm a sz d)) 20 (.inl (36, pg pp))) := by
        intro m
        induction m with
        | zero => intro f i pp h0 h1 h2 h3; exact absurd h0 (Nat.not_lt_zero _)
        | succ m ih =>
          intro f i pp h0 h1 h2 h3
          refine Rn.iload dX5_judge_51 rfl rfl ?_
          refine Rn.iload_n dX5_judge_53 rfl rfl ?_
          refine Rn.icmp_geN (tgt := 121) dX5_judge_54 rfl (by decide) (by omega) (by omega) (fun c54 => ?_) (fun c54 => ?_)
          · obtain rfl : f = 0 := by omega
            refine Rn.bipush dX5_judge_121 rfl bp_m9 ?_
            refine Rn.iret dX5_judge_123 rfl rfl rfl ?_
            have e9 : juI p (nI y) (lN r) = -9 := by unfold juI; rw [ert, exn, if_pos ⟨c14, hrow⟩, ← h3]; rfl
            rw [e9] at k
            exact (k _ ⟨_, _, _, _, _, _, _, _, _, _, ((hs_ne _ _ (by decide)).trans (hs_eq _ _ _)), ((hs_ne _ _ (by decide)).trans ((hs_ne _ _ (by decide)).trans M16)), ((hs_ne _ _ (by decide)).trans ((hs_ne _ _ (by decide)).trans M17)), ((hs_ne _ _ (by decide)).trans ((hs_ne _ _ (by decide)).trans M18)), ((hs_ne _ _ (by decide)).trans ((hs_ne _ _ (by decide)).trans M19)), (hs_eq _ _ _), ((hs_ne _ _ (by decide)).trans ((hs_ne _ _ (by decide)).trans M21)), ((hs_ne _ _ (by decide)).trans ((hs_ne _ _ (by decide)).trans M22)), ((hs_ne _ _ (by decide)).trans ((hs_ne _ _ (by decide)).trans M23)), ((hs_ne _ _ (by decide)).trans ((hs_ne _ _ (by decide)).trans M24)), ((hs_ne _ _ (by decide)).trans ((hs_ne _ _ (by decide)).trans M25)), ((hs_ne _ _ (by decide)).trans ((hs_ne _ _ (by decide)).trans M26)), ((hs_ne _ _ (by decide)).trans ((hs_ne _ _ (by decide)).trans M27)), ML, RMh, RKh⟩ (((Fm.rf h).hs _ (by decide)).hs _ (by decide)))
          · obtain ⟨f, rfl⟩ : ∃ f', f = f' + 1 := ⟨f - 1, by omega⟩
            refine Rn.lload_n dX5_judge_57 rfl rfl ?_
            refine Rn.ldc2 dX5_judge_58 rfl k_X5_161 ?_
            refine Rn.topl lL_10000 ?_
            refine Rn.iload_n dX5_judge_61 rfl rfl ?_
            refine Rn.iconst dX5_judge_62 rfl ic_1 ?_
            refine Rn.isubN dX5_judge_63 rfl (by omega) ?_
            refine Rn.iload dX5_judge_64 rfl rfl ?_
            refine Rn.isubN dX5_judge_66 rfl (by omega) ?_
            refine Rn.callS (as := [_, _]) s_X5_longPower l_X5_163 ⟨Nat.le_of_ble_eq_true rfl, Nat.le_of_ble_eq_true rfl⟩ dX5_judge_67 rfl rfl (Nat.le_of_ble_eq_true rfl) (Nat.le_refl _) (Nat.le_refl _) (t_X5_longPower (by omega) ?_)
            have hpw : 0 < 10000 ^ (y - 1 - i) := Nat.pow_pos (by omega)
            have hpw2 : 10000 ^ (y - 1 - i) ≤ 1000000000000 := Nat.pow_le_pow_right (n := 10000) (by omega) (show y - 1 - i ≤ 3 by omega)
            refine Rn.ldivN dX5_judge_70 rfl (by omega) (by omega) (by omega) ?_
            have hdl2 : r / 10000 ^ (y - 1 - i) ≤ r := Nat.div_le_self _ _
            refine Rn.ldc2 dX5_judge_71 rfl k_X5_161 ?_
            refine Rn.topl lL_10000 ?_
            refine Rn.lremN dX5_judge_74 rfl (by omega) (by omega) (by omega) ?_
            refine Rn.l2iN dX5_judge_75 rfl ?_
            refine Rn.istore dX5_judge_76 rfl (Nat.le_of_ble_eq_true rfl) ?_
            refine Rn.aload_n dX5_judge_78 rfl rfl ?_
            refine Rn.iload dX5_judge_79 rfl rfl ?_
            refine Rn.sipush dX5_judge_81 rfl sp_1000 ?_
            refine Rn.idivN dX5_judge_84 rfl (by omega) (by omega) (by omega) ?_
            refine Rn.iload dX5_judge_85 rfl rfl ?_
            refine Rn.bipush dX5_judge_87 rfl bp_100 ?_
            refine Rn.idivN dX5_judge_89 rfl (by omega) (by omega) (by omega) ?_
            refine Rn.bipush dX5_judge_90 rfl bp_10 ?_
            refine Rn.iremN dX5_judge_92 rfl (by omega) (by omega) (by omega) ?_
            refine Rn.iload dX5_judge_93 rfl rfl ?_
            refine Rn.bipush dX5_judge_95 rfl bp_10 ?_
            refine Rn.idivN dX5_judge_97 rfl (by omega) (by omega) (by omega) ?_
            refine Rn.bipush dX5_judge_98 rfl bp_10 ?_
            refine Rn.iremN dX5_judge_100 rfl (by omega) (by omega) (by omega) ?_
            refine Rn.iload dX5_judge_101 rfl rfl ?_
            refine Rn.bipush dX5_judge_103 rfl bp_10 ?_
            refine Rn.iremN dX5_judge_105 rfl (by omega) (by omega) (by omega) ?_
            refine Rn.callV (as := [_, _, _, _]) v_X5_does l_X5_167 ⟨Nat.le_of_ble_eq_true rfl, Nat.le_of_ble_eq_true rfl⟩ dX5_judge_106 rfl rfl (Nat.le_of_ble_eq_true rfl) ((hs_ne _ _ (by decide)).trans (hs_eq _ _ _)) (Nat.lt_of_le_of_lt (Nat.le_of_ble_eq_true rfl) ML) rfl (Nat.le_refl _) (Nat.le_refl _) (t_X5_does (c := (r / 10000 ^ (y - 1 - i) % 10000)) ((hs_ne _ _ (by decide)).trans (hs_eq _ _ _)) (by exact ML) (hs_eq _ _ _) h2 (by omega) ?_) 
            refine Rn.heap (hs_hs _ _ _ _) ?_
            refine Rn.if_neB (tgt := 115) dX5_judge_109 rfl (by decide) (fun c109 => ?_) (fun c109 => ?_)
            · refine Rn.iincN dX5_judge_115 rfl rfl (Nat.le_of_ble_eq_true rfl) ?_
              refine Rn.goto (tgt := 51) dX5_judge_118 (by decide) ?_
              exact Rn.pick [2, 3, 4, 0] rfl (ih f (i + 1) _ (by omega) (by omega) (OK_so h2 _) (by rw [← h3]; exact (if_pos c109).symm))
            · refine Rn.iload dX5_judge_112 rfl rfl ?_
              refine Rn.iret dX5_judge_114 rfl rfl rfl ?_
              have e9 : juI p (nI y) (lN r) = nI i := by unfold juI; rw [ert, exn, if_pos ⟨c14, hrow⟩, ← h3]; exact if_neg (by rw [c109]; decide)
              rw [e9] at k
              exact (k _ ⟨_, _, _, _, _, _, _, _, _, _, ((hs_ne _ _ (by decide)).trans (hs_eq _ _ _)), ((hs_ne _ _ (by decide)).trans ((hs_ne _ _ (by decide)).trans M16)), ((hs_ne _ _ (by decide)).trans ((hs_ne _ _ (by decide)).trans M17)), ((hs_ne _ _ (by decide)).trans ((hs_ne _ _ (by decide)).trans M18)), ((hs_ne _ _ (by decide)).trans ((hs_ne _ _ (by decide)).trans M19)), (hs_eq _ _ _), ((hs_ne _ _ (by decide)).trans ((hs_ne _ _ (by decide)).trans M21)), ((hs_ne _ _ (by decide)).trans ((hs_ne _ _ (by decide)).trans M22)), ((hs_ne _ _ (by decide)).trans ((hs_ne _ _ (by decide)).trans M23)), ((hs_ne _ _ (by decide)).trans ((hs_ne _ _ (by decide)).trans M24)), ((hs_ne _ _ (by decide)).trans ((hs_ne _ _ (by decide)).trans M25)), ((hs_ne _ _ (by decide)).trans ((hs_ne _ _ (by decide)).trans M26)), ((hs_ne _ _ (by decide)).trans ((hs_ne _ _ (by decide)).trans M27)), ML, RMh, RKh⟩ (((Fm.rf h).hs _ (by decide)).hs _ (by decide)))
      exact Rn.pick [1, 2, 3, 0] rfl (hloop (y + 1) y 0 p (by omega) (by omega) Op rfl)
    · refine Rn.bipush dX5_judge_34 rfl bp_m2 ?_
      refine Rn.iret dX5_judge_36 rfl rfl rfl ?_
      first | exact rn_fin (k _ ⟨_, _, _, _, _, _, _, _, _, _, (hs_eq _ _ _), ((hs_ne _ _ (by decide)).trans M16), ((hs_ne _ _ (by decide)).trans M17), ((hs_ne _ _ (by decide)).trans M18), ((hs_ne _ _ (by decide)).trans M19), ((hs_ne _ _ (by decide)).trans M20), ((hs_ne _ _ (by decide)).trans M21), ((hs_ne _ _ (by decide)).trans M22), ((hs_ne _ _ (by decide)).trans M23), ((hs_ne _ _ (by decide)).trans M24), ((hs_ne _ _ (by decide)).trans M25), ((hs_ne _ _ (by decide)).trans M26), ((hs_ne _ _ (by decide)).trans M27), ML, RMh, RKh⟩ ((Fm.rf h).hs _ (by decide))) (some_int (by unfold juI; rw [if_neg (fun z => absurd z.1 (by rw [c14]; decide))])) rfl | exact rn_fin (k _ ⟨_, _, _, _, _, _, _, _, _, _, (hs_eq _ _ _), ((hs_ne _ _ (by decide)).trans M16), ((hs_ne _ _ (by decide)).trans M17), ((hs_ne _ _ (by decide)).trans M18), ((hs_ne _ _ (by decide)).trans M19), ((hs_ne _ _ (by decide)).trans M20), ((hs_ne _ _ (by decide)).trans M21), ((hs_ne _ _ (by decide)).trans M22), ((hs_ne _ _ (by decide)).trans M23), ((hs_ne _ _ (by decide)).trans M24), ((hs_ne _ _ (by decide)).trans M25), ((hs_ne _ _ (by decide)).trans M26), ((hs_ne _ _ (by decide)).trans M27), ML, RMh, RKh⟩ ((Fm.rf h).hs _ (by decide))) (some_int (by unfold juI; rw [exn, if_neg (fun z => of_decide_eq_false c31 z.2)])) rfl
theorem t_X5_gap {h : rHp} {Q : Option Value → rHp → Prop} {th ts pl rm dg sz : Nat} {sd : Int64} (M15 : h.2.2 15 = moO th ts pl rm dg sz sd) (ML : 27 < h.1) {p tp : Nat → Nat} (M19 : h.2.2 19 = .inl (36, pg p)) (M20 : h.2.2 20 = .inl (36, pg tp)) (Op : OKp p) {u : Nat} (hu : u < p 24) (k : ∀ tq, Q (some (.int (gpL p u (p (6 * u + 3)) 0))) (ph h 20 tq)) : Cl M_X5_gap h.1 h.2.1 [.ref 15, .int (nI u)] h Q := by
  have hu4 : u < 4 := by have := Op.1; omega
  have hus := Op.us hu4
  refine Cl.of pl_X5 (Nat.le_of_ble_eq_true rfl) (by first | exact Nat.le_refl _ | omega) (by first | exact Nat.le_refl _ | omega) ?_
  refine Rn.aload_n dX5_gap_0 rfl rfl ?_
  refine Rn.getf f_X5_19 dX5_gap_1 rfl M15 (Nat.lt_of_le_of_lt (Nat.le_of_ble_eq_true rfl) ML) rfl ?_
  refine Rn.aload_n dX5_gap_4 rfl rfl ?_
  refine Rn.getf f_X5_22 dX5_gap_5 rfl M15 (Nat.lt_of_le_of_lt (Nat.le_of_ble_eq_true rfl) ML) rfl ?_
  refine Rn.callS (as := [_, _]) s_X5_lay l_X5_116 ⟨Nat.le_of_ble_eq_true rfl, Nat.le_of_ble_eq_true rfl⟩ dX5_gap_8 rfl rfl (Nat.le_of_ble_eq_true rfl) (Nat.le_refl _) (Nat.le_refl _) (t_X5_lay ⟨M19, by exact (Nat.lt_of_le_of_lt (Nat.le_of_ble_eq_true rfl) ML)⟩ ⟨M20, by exact (Nat.lt_of_le_of_lt (Nat.le_of_ble_eq_true rfl) ML)⟩ (by decide) ?_)
  refine Rn.bipush dX5_gap_11 rfl bp_m9 ?_
  refine Rn.istore_n dX5_gap_13 rfl (Nat.le_of_ble_eq_true rfl) ?_
  refine Rn.iconst dX5_gap_14 rfl ic_0 ?_
  refine Rn.istore_n dX5_gap_15 rfl (Nat.le_of_ble_eq_true rfl) ?_
  have hloop : ∀ (m : Nat) (n b g : Nat), n < m → g + n = (p (6 * u + 3)) → dn (gF p u) n b = dn (gF p u) (p (6 * u + 3)) 0 → Rn (M_X5_gap, none, h.1, h.2.1) Q 16 [(0, .ref 15), (1, .int (nI u)), (2, .int (gc (p (6 * u + 3)) b)), (3, .int (nI g))] [] (hs h 20 (.inl (36, pg (un p (6 * u + 3) n)))) := by
    intro m
    induction m with
    | zero => intro n b g h0 h1 h2; exact absurd h0 (Nat.not_lt_zero _)
    | succ m ih =>
      intro n b g h0 h1 h2
      refine Rn.aload_n dX5_gap_16 rfl rfl ?_
      refine Rn.getf f_X5_22 dX5_gap_17 rfl ((hs_ne _ _ (by decide)).trans M15) (Nat.lt_of_le_of_lt (Nat.le_of_ble_eq_true rfl) ML) rfl ?_
      refine Rn.bipush dX5_gap_20 rfl bp_6 ?_
      refine Rn.iload_n dX5_gap_22 rfl rfl ?_
      refine Rn.imulN dX5_gap_23 rfl ?_
      refine Rn.iconst dX5_gap_24 rfl ic_3 ?_
      refine Rn.iaddN dX5_gap_25 rfl ?_
      refine Rn.ialdN dX5_gap_26 rfl (hs_eq _ _ _) (Nat.lt_of_le_of_lt (Nat.le_of_ble_eq_true rfl) ML) (by omega) (by omega) ?_
      refine Rn.top (pg_us _ (by omega) (show 3 < 6 by omega)) ?_
      refine Rn.top (congrArg nI (un_eq _ _ _)) ?_
      refine Rn.if_leN (tgt := 68) dX5_gap_27 rfl (by decide) (by omega) (fun c27 => ?_) (fun c27 => ?_)
      · obtain rfl : n = 0 := by omega
        refine Rn.iload_n dX5_gap_68 rfl rfl ?_
        refine Rn.iret dX5_gap_69 rfl rfl rfl ?_
        exact rn_fin (k _) (some_int (gp_end h2)) rfl
      · obtain ⟨v, rfl⟩ : ∃ v, n = v + 1 := ⟨n - 1, by omega⟩
        refine Rn.aload_n dX5_gap_30 rfl rfl ?_
        refine Rn.getf f_X5_22 dX5_gap_31 rfl ((hs_ne _ _ (by decide)).trans M15) (Nat.lt_of_le_of_lt (Nat.le_of_ble_eq_true rfl) ML) rfl ?_
        refine Rn.iload_n dX5_gap_34 rfl rfl ?_
        refine Rn.callS (as := [_, _]) s_X5_isInStep l_X5_127 ⟨Nat.le_of_ble_eq_true rfl, Nat.le_of_ble_eq_true rfl⟩ dX5_gap_35 rfl rfl (Nat.le_of_ble_eq_true rfl) (Nat.le_refl _) (Nat.le_refl _) (t_X5_isInStep ⟨(hs_eq _ _ _), by exact (Nat.lt_of_le_of_lt (Nat.le_of_ble_eq_true rfl) ML)⟩ (Op.put hu4 (by omega) (by omega) (by omega)) (by omega) ?_)
        refine Rn.top (congrArg bi (stp_un hu4 hu)) ?_
        refine Rn.if_eqB (tgt := 45) dX5_gap_38 rfl (by decide) (fun c38 => ?_) (fun c38 => ?_)
        · refine Rn.iload_n dX5_gap_45 rfl rfl ?_
          refine Rn.istore_n dX5_gap_46 rfl (Nat.le_of_ble_eq_true rfl) ?_
          refine Rn.aload_n dX5_gap_47 rfl rfl ?_
          refine Rn.getf f_X5_22 dX5_gap_48 rfl ((hs_ne _ _ (by decide)).trans M15) (Nat.lt_of_le_of_lt (Nat.le_of_ble_eq_true rfl) ML) rfl ?_
          refine Rn.bipush dX5_gap_51 rfl bp_6 ?_
          refine Rn.iload_n dX5_gap_53 rfl rfl ?_
          refine Rn.imulN dX5_gap_54 rfl ?_
          refine Rn.iconst dX5_gap_55 rfl ic_3 ?_
          refine Rn.iaddN dX5_gap_56 rfl ?_
          refine Rn.dup2 dX5_gap_57 rfl rfl rfl ?_
          refine Rn.ialdN dX5_gap_58 rfl (hs_eq _ _ _) (Nat.lt_of_le_of_lt (Nat.le_of_ble_eq_true rfl) ML) (by omega) (by omega) ?_
          refine Rn.top (pg_us _ (by omega) (show 3 < 6 by omega)) ?_
          refine Rn.top (congrArg nI (un_eq _ _ _)) ?_
          refine Rn.iconst dX5_gap_59 rfl ic_1 ?_
          refine Rn.isubN dX5_gap_60 rfl (by omega) ?_
          refine Rn.iastN dX5_gap_61 rfl (hs_eq _ _ _) (Nat.lt_of_le_of_lt (Nat.le_of_ble_eq_true rfl) ML) (by omega) (by omega) ?_
          refine Rn.heap (Pa.upd ((upd_pg _ _ (by omega) (by omega)).trans (congrArg pg (un_un _ _ _ _)))) ?_
          refine Rn.heap (hs_hs _ _ _ _) ?_
          refine Rn.iincN dX5_gap_62 rfl rfl (Nat.le_of_ble_eq_true rfl) ?_
          refine Rn.goto (tgt := 16) dX5_gap_65 (by decide) ?_
          exact Rn.pick [2, 3, 1, 0] rfl (ih v b (g + 1) (by omega) (by omega) (dn_n h2 c38))
        · refine Rn.iload_n dX5_gap_41 rfl rfl ?_
          refine Rn.top (y := gc (p (6 * u + 3)) (v + 1)) (by rw [← gc_s]; congr 1; omega) ?_
          refine Rn.goto (tgt := 46) dX5_gap_42 (by decide) ?_
          refine Rn.istore_n dX5_gap_46 rfl (Nat.le_of_ble_eq_true rfl) ?_
          refine Rn.aload_n dX5_gap_47 rfl rfl ?_
          refine Rn.getf f_X5_22 dX5_gap_48 rfl ((hs_ne _ _ (by decide)).trans M15) (Nat.lt_of_le_of_lt (Nat.le_of_ble_eq_true rfl) ML) rfl ?_
          refine Rn.bipush dX5_gap_51 rfl bp_6 ?_
          refine Rn.iload_n dX5_gap_53 rfl rfl ?_
          refine Rn.imulN dX5_gap_54 rfl ?_
          refine Rn.iconst dX5_gap_55 rfl ic_3 ?_
          refine Rn.iaddN dX5_gap_56 rfl ?_
          refine Rn.dup2 dX5_gap_57 rfl rfl rfl ?_
          refine Rn.ialdN dX5_gap_58 rfl (hs_eq _ _ _) (Nat.lt_of_le_of_lt (Nat.le_of_ble_eq_true rfl) ML) (by omega) (by omega) ?_
          refine Rn.top (pg_us _ (by omega) (show 3 < 6 by omega)) ?_
          refine Rn.top (congrArg nI (un_eq _ _ _)) ?_
          refine Rn.iconst dX5_gap_59 rfl ic_1 ?_
          refine Rn.isubN dX5_gap_60 rfl (by omega) ?_
          refine Rn.iastN dX5_gap_61 rfl (hs_eq _ _ _) (Nat.lt_of_le_of_lt (Nat.le_of_ble_eq_true rfl) ML) (by omega) (by omega) ?_
          refine Rn.heap (Pa.upd ((upd_pg _ _ (by omega) (by omega)).trans (congrArg pg (un_un _ _ _ _)))) ?_
          refine Rn.heap (hs_hs _ _ _ _) ?_
          refine Rn.iincN dX5_gap_62 rfl rfl (Nat.le_of_ble_eq_true rfl) ?_
          refine Rn.goto (tgt := 16) dX5_gap_65 (by decide) ?_
          exact Rn.pick [2, 3, 1, 0] rfl (ih v (v + 1) (g + 1) (by omega) (by omega) (dn_y h2 c38))
  exact Rn.pick [2, 3, 1, 0] rfl (by have := hloop ((p (6 * u + 3)) + 1) (p (6 * u + 3)) 0 0 (by omega) (by omega) rfl; rw [un_self] at this; exact this)
