theorem Rn.idecM {K : rK} {Q : Option Value → rHp → Prop} {pc pc' : Nat} {lv : List (Nat × Value)} {st : List Value} {h : rHp} {i x : Nat} (hd : decode K.1.2.1 pc = .ok (.iinc i (-1), 3)) (hp : pc + 3 = pc') (hl : rl lv i = some (.int (nI x))) (hb : i < K.1.2.2.1) (k : Rn K Q pc' (sl1 lv i (.int (nI x - 1))) st h) : Rn K Q pc lv st h := Rn.iinc hd hp hl (by rw [Int32.sub_eq_add_neg]; rfl) hb k
theorem nI_m1 {n : Nat} (hn : n < 2147483648) : nI n - 1 < 0 ↔ n = 0 := by
  rw [show (1 : Int32) = nI 1 from rfl, Int32.lt_iff_toInt_lt, Jvm.Kit.i32_sub (by rw [nI_toInt hn, nI_toInt (by omega)]; omega) (by rw [nI_toInt hn, nI_toInt (by omega)]; omega), nI_toInt hn, nI_toInt (by omega)]
  show _ < (0 : Int) ↔ _
  omega
/-- all of them -/
def alB (f : Nat → Bool) : Nat → Bool
  | 0 => true
  | n + 1 => alB f n && f n
theorem alB_t {f : Nat → Bool} : ∀ n, alB f n = true ↔ ∀ j, j < n → f j = true
  | 0 => ⟨fun _ j hj => absurd hj (Nat.not_lt_zero _), fun _ => rfl⟩
  | n + 1 => by
    show (alB f n && f n) = true ↔ _
    rw [Bool.and_eq_true, alB_t n]
    constructor
    · intro z j hj
      by_cases e : j = n
      · rw [e]; exact z.2
      · exact z.1 j (by omega)
    · intro z
      exact ⟨fun j hj => z j (by omega), z n (by omega)⟩
theorem alB_y {f : Nat → Bool} {i : Nat} (h : alB f i = true) (h2 : f i = true) : nI 1 = bi (alB f (i + 1)) := by
  show nI 1 = bi (alB f i && f i)
  rw [h, h2, Bool.and_self, bi_t]
theorem alB_n1 {f : Nat → Bool} {i : Nat} (h : alB f i = false) : nI 0 = bi (alB f (i + 1)) := by
  show nI 0 = bi (alB f i && f i)
  rw [h, Bool.false_and, bi_f]
theorem alB_n2 {f : Nat → Bool} {i : Nat} (h : f i = false) : nI 0 = bi (alB f (i + 1)) := by
  show nI 0 = bi (alB f i && f i)
  rw [h, Bool.and_false, bi_f]
def amB (p su sp sn : Nat → Nat) (a k : Nat) : Bool := !decide (su k < p 24) || decide (bh (p (6 * su k + 1)) a (sp k) = sn k)
theorem agL_t (p su sp sn : Nat → Nat) (a : Nat) : ∀ n i, agL p su sp sn a n i = true ↔ ∀ j, i ≤ j → j < i + n → amB p su sp sn a j = true
  | 0, i => ⟨fun _ j h1 h2 => absurd h2 (by omega), fun _ => rfl⟩
  | n + 1, i => by
    unfold agL
    by_cases c : su i < p 24 ∧ ¬ bh (p (6 * su i + 1)) a (sp i) = sn i
    · rw [if_pos c]
      constructor
      · intro z; cases z
      · intro z
        have := z i (Nat.le_refl _) (by omega)
        unfold amB at this
        rw [decide_eq_true c.1, decide_eq_false c.2] at this
        cases this
    · rw [if_neg c, agL_t p su sp sn a n (i + 1)]
      have hi : amB p su sp sn a i = true := by
        unfold amB
        by_cases c1 : su i < p 24
        · rw [decide_eq_true (Classical.byContradiction fun z => c ⟨c1, z⟩), Bool.or_true]
        · rw [decide_eq_false c1]; rfl
      constructor
      · intro z j h1 h2
        by_cases e : j = i
        · rw [e]; exact hi
        · exact z j (by omega) (by omega)
      · intro z j h1 h2; exact z j (by omega) (by omega)
theorem agB_al (p su sp sn : Nat → Nat) (sz a : Nat) : alB (amB p su sp sn a) sz = agB p su sp sn sz a := by
  have h1 := alB_t (f := amB p su sp sn a) sz
  have h2 := agL_t p su sp sn a sz 0
  unfold agB
  cases e1 : alB (amB p su sp sn a) sz with
  | true => exact ((h2.mpr (fun j _ hj => (h1.mp e1) j (by omega)))).symm
  | false =>
    cases e2 : agL p su sp sn a sz 0 with
    | false => rfl
    | true => exact absurd (h1.mpr (fun j hj => h2.mp e2 j (by omega) (by omega))) (by rw [e1]; decide)
theorem gcd_step (a : Nat) {b : Nat} : Nat.gcd b (a % b) = Nat.gcd a b := by rw [Nat.gcd_comm a b, Nat.gcd_rec b a, Nat.gcd_comm]
def ly2 (B : Nat → Int32) (s : Nat) (p : Nat → Nat) (i : Nat) : Nat → Int32 := fun k => if s ≤ k ∧ k < s + i then pg p (k - s) else B k
theorem ly2_s (B : Nat → Int32) (s : Nat) (p : Nat → Nat) (i : Nat) : upd (ly2 B s p i) (s + i) (pg p i) = ly2 B s p (i + 1) := by
  funext k
  show (if k = s + i then pg p i else if s ≤ k ∧ k < s + i then pg p (k - s) else B k) = if s ≤ k ∧ k < s + (i + 1) then pg p (k - s) else B k
  by_cases e : k = s + i
  · rw [if_pos e, if_pos ⟨by omega, by omega⟩]; congr 1; omega
  · rw [if_neg e]
    by_cases c : s ≤ k ∧ k < s + i
    · rw [if_pos c, if_pos ⟨by omega, by omega⟩]
    · rw [if_neg c, if_neg (fun z => c ⟨by omega, by omega⟩)]
theorem ly2_0 (B : Nat → Int32) (s : Nat) (p : Nat → Nat) : ly2 B s p 0 = B := by
  funext k
  unfold ly2
  rw [if_neg (by omega)]
def sh1 (B : Nat → Int32) (i : Nat) : Nat → Int32 := fun k => if k < i then B (k + 36) else B k
theorem sh1_s (B : Nat → Int32) (i : Nat) : upd (sh1 B i) i (B (i + 36)) = sh1 B (i + 1) := by
  funext k
  show (if k = i then B (i + 36) else if k < i then B (k + 36) else B k) = if k < i + 1 then B (k + 36) else B k
  by_cases e : k = i
  · rw [if_pos e, if_pos (by omega), e]
  · by_cases c : k < i
    · rw [if_neg e, if_pos c, if_pos (by omega)]
    · rw [if_neg e, if_neg c, if_neg (by omega)]
theorem sh1_0 (B : Nat → Int32) : sh1 B 0 = B := by
  funext k
  unfold sh1
  rw [if_neg (by omega)]
theorem sh1_r (B : Nat → Int32) (i : Nat) : sh1 B i (i + 36) = B (i + 36) := by unfold sh1; rw [if_neg (by omega)]
theorem RM_lt {BK : Nat → Int32} {a : Nat} {U : Nat → Nat → Nat} (R : RM BK a U) (h : a < 14) (p : Nat → Nat) : RM (ly2 BK (36 * a) p 36) (min (a + 1) 14) (pushU U a p) := by
  rw [Nat.min_eq_left (by omega)]
  refine ⟨by omega, fun j hj i hi => ?_⟩
  unfold ly2 pushU
  rw [if_pos h]
  by_cases e : j = a
  · subst e
    rw [if_pos ⟨by omega, by omega⟩, if_pos rfl]; congr 1; omega
  · rw [if_neg (by omega), if_neg e]; exact R.2 j (by omega) i hi
theorem RM_14 {BK : Nat → Int32} {U : Nat → Nat → Nat} (R : RM BK 14 U) (p : Nat → Nat) : RM (ly2 (sh1 BK 468) (36 * (14 - 1)) p 36) (min (14 + 1) 14) (pushU U 14 p) := by
  rw [Nat.min_eq_right (by omega)]
  refine ⟨by omega, fun j hj i hi => ?_⟩
  unfold ly2 pushU
  rw [if_neg (show ¬ 14 < 14 by omega)]
  by_cases e : j = 13
  · subst e
    rw [if_pos ⟨by omega, by omega⟩, if_pos rfl, show 36 * 13 + i - 36 * (14 - 1) = i by omega]
  · rw [if_neg (by omega), if_neg e]
    unfold sh1
    rw [if_pos (by omega), show 36 * j + i + 36 = 36 * (j + 1) + i by omega]
    exact R.2 (j + 1) (by omega) i hi
theorem RM_0 {BK : Nat → Int32} {a : Nat} {U : Nat → Nat → Nat} (R : RM BK a U) : RM BK 0 U := ⟨by omega, fun j hj => absurd hj (Nat.not_lt_zero _)⟩
theorem RM_b {BK : Nat → Int32} {a : Nat} {U : Nat → Nat → Nat} (R : RM BK a U) : RM BK (a - 1) U := ⟨by have := R.1; omega, fun j hj => R.2 j (by omega)⟩
theorem lay2_to {B : Nat → Int32} {p pu : Nat → Nat} (e : ∀ i, i < 36 → B i = pg pu i) : lay2 B (pg p) 36 = pg pu := by
  funext j
  show (if j < 36 then B j else pg p j) = pg pu j
  by_cases h : j < 36
  · rw [if_pos h]; exact e j h
  · rw [if_neg h, pg_out _ (by omega), pg_out _ (by omega)]
theorem RL_keep {KM IK : Nat → Int32} {Kp : Nat → Nat → Nat} {ik : Nat → Bool} (R : RL2 KM IK Kp ik) (p : Nat → Nat) {s : Nat} (hs1 : s ≤ 1) : RL2 (ly2 KM (36 * s) p 36) (upd IK s (nI 1)) (uK Kp s p) (uB ik s true) := by
  intro j hj
  unfold uK uB ly2
  show (if j = s then nI 1 else IK j) = _ ∧ _
  by_cases e : j = s
  · subst e
    rw [if_pos rfl, if_pos rfl, if_pos rfl]
    refine ⟨bi_t.symm, fun _ i hi => ?_⟩
    rw [if_pos ⟨by omega, by omega⟩]; congr 1; omega
  · rw [if_neg e, if_neg e, if_neg e]
    refine ⟨(R j hj).1, fun hb i hi => ?_⟩
    rw [if_neg (by omega)]
    exact (R j hj).2 hb i hi
theorem RL_no (KM IK : Nat → Int32) (Kp : Nat → Nat → Nat) : RL2 KM (upd (upd IK 0 (nI 0)) 1 (nI 0)) Kp (fun _ => false) := by
  intro j hj
  refine ⟨?_, fun h => by cases h⟩
  show (if j = 1 then nI 0 else if j = 0 then nI 0 else IK j) = bi false
  rw [bi_f]
  by_cases e : j = 1
  · rw [if_pos e]
  · rw [if_neg e, if_pos (by omega)]
/-- the state behind an act -/
def MIA (h : rHp) (t : Nat → Nat) (ln : Nat) (p : Nat → Nat) (U : Nat → Nat → Nat) (a : Nat) (Kp : Nat → Nat → Nat) (ik : Nat → Bool) (su sp sn : Nat → Nat) (sz : Nat) (d : Int64) : Option (Nat → Nat) → Prop
  | none => MI h t ln p U a Kp ik su sp sn sz d
  | some p' => MI h t ln p' (pushU U a p) (min (a + 1) 14) Kp ik su sp sn sz d
theorem t_X5_note {h : rHp} {Q : Option Value → rHp → Prop} {th ts pl rm dg sz : Nat} {sd : Int64} {p : Nat → Nat} {BK : Nat → Int32} (M15 : h.2.2 15 = moO th ts pl rm dg sz sd) (M19 : h.2.2 19 = .inl (36, pg p)) (M21 : h.2.2 21 = .inl (504, BK)) (ML : 27 < h.1) (hdg : dg ≤ 14) (k : ∀ BK', (∀ U, RM BK dg U → RM BK' (min (dg + 1) 14) (pushU U dg p)) → Q none (hs (hs h 21 (.inl (504, BK'))) 15 (moO th ts pl rm (min (dg + 1) 14) sz sd))) : Cl M_X5_note h.1 h.2.1 [.ref 15] h Q := by
  refine Cl.of pl_X5 (Nat.le_of_ble_eq_true rfl) (by first | exact Nat.le_refl _ | omega) (by first | exact Nat.le_refl _ | omega) ?_
  refine Rn.aload_n dX5_note_0 rfl rfl ?_
  refine Rn.getf f_X5_124 dX5_note_1 rfl M15 (Nat.lt_of_le_of_lt (Nat.le_of_ble_eq_true rfl) ML) rfl ?_
  refine Rn.bipush dX5_note_4 rfl bp_14 ?_
  refine Rn.icmp_neN (tgt := 49) dX5_note_6 rfl (by decide) (by omega) (by omega) (fun c6 => ?_) (fun c6 => ?_)
  · refine Rn.iconst dX5_note_49 rfl ic_0 ?_
    refine Rn.istore_n dX5_note_50 rfl (Nat.le_of_ble_eq_true rfl) ?_
    have hloop2 : ∀ (m : Nat) (i : Nat), 36 - i < m → i ≤ 36 → Rn (M_X5_note, none, h.1, h.2.1) Q 51 [(0, .ref 15), (1, .int (nI i))] [] (hs (hs h 21 (.inl (504, ly2 BK (36 * dg) p i))) 15 (moO th ts pl rm dg sz sd)) := by
      intro m
      induction m with
      | zero => intro i h0 h1; exact absurd h0 (Nat.not_lt_zero _)
      | succ m ih2 =>
        intro i h0 h1
        refine Rn.iload_n dX5_note_51 rfl rfl ?_
        refine Rn.bipush dX5_note_52 rfl bp_36 ?_
        refine Rn.icmp_geN (tgt := 83) dX5_note_54 rfl (by decide) (by omega) (by omega) (fun c54 => ?_) (fun c54 => ?_)
        · obtain rfl : i = 36 := by omega
          refine Rn.aload_n dX5_note_83 rfl rfl ?_
          refine Rn.dup dX5_note_84 rfl rfl ?_
          refine Rn.getf f_X5_124 dX5_note_85 rfl (hs_eq _ _ _) (Nat.lt_of_le_of_lt (Nat.le_of_ble_eq_true rfl) ML) rfl ?_
          refine Rn.iconst dX5_note_88 rfl ic_1 ?_
          refine Rn.iaddN dX5_note_89 rfl ?_
          refine Rn.putf p_X5_124 (fun h => by cases h) dX5_note_90 rfl (hs_eq _ _ _) (Nat.lt_of_le_of_lt (Nat.le_of_ble_eq_true rfl) ML) (fun g => ⟨rfl, rfl⟩) (Nat.le_of_ble_eq_true rfl) ?_
          refine Rn.heap (hs_hs _ _ _ _) ?_
          refine Rn.ret dX5_note_93 rfl rfl rfl ?_
          exact rn_fin (k _ (fun U R => RM_lt R (by omega) p)) rfl (by rw [Nat.min_eq_left (by omega)]; rfl)
        · refine Rn.aload_n dX5_note_57 rfl rfl ?_
          refine Rn.getf f_X5_25 dX5_note_58 rfl (hs_eq _ _ _) (Nat.lt_of_le_of_lt (Nat.le_of_ble_eq_true rfl) ML) rfl ?_
          refine Rn.bipush dX5_note_61 rfl bp_36 ?_
          refine Rn.aload_n dX5_note_63 rfl rfl ?_
          refine Rn.getf f_X5_124 dX5_note_64 rfl (hs_eq _ _ _) (Nat.lt_of_le_of_lt (Nat.le_of_ble_eq_true rfl) ML) rfl ?_
          refine Rn.imulN dX5_note_67 rfl ?_
          refine Rn.iload_n dX5_note_68 rfl rfl ?_
          refine Rn.iaddN dX5_note_69 rfl ?_
          refine Rn.aload_n dX5_note_70 rfl rfl ?_
          refine Rn.getf f_X5_19 dX5_note_71 rfl (hs_eq _ _ _) (Nat.lt_of_le_of_lt (Nat.le_of_ble_eq_true rfl) ML) rfl ?_
          refine Rn.iload_n dX5_note_74 rfl rfl ?_
          refine Rn.ialdN dX5_note_75 rfl ((hs_ne _ _ (by decide)).trans ((hs_ne _ _ (by decide)).trans M19)) (Nat.lt_of_le_of_lt (Nat.le_of_ble_eq_true rfl) ML) (by omega) (by omega) ?_
          refine Rn.iastN dX5_note_76 rfl ((hs_ne _ _ (by decide)).trans (hs_eq _ _ _)) (Nat.lt_of_le_of_lt (Nat.le_of_ble_eq_true rfl) ML) (by omega) (by omega) ?_
          refine Rn.heap ((hs_d1 _ _ _ _ (by decide)).trans (by rw [ly2_s])) ?_
          refine Rn.iincN dX5_note_77 rfl rfl (Nat.le_of_ble_eq_true rfl) ?_
          refine Rn.goto (tgt := 51) dX5_note_80 (by decide) ?_
          exact Rn.pick [1, 0] rfl (ih2 (i + 1) (by omega) (by omega))
    exact Rn.pick [1, 0] rfl (by have := hloop2 37 0 (by omega) (by omega); rw [ly2_0, hs_self h M21, hs_self h M15] at this; exact this)
  · obtain rfl : dg = 14 := c6
    refine Rn.iconst dX5_note_9 rfl ic_0 ?_
    refine Rn.istore_n dX5_note_10 rfl (Nat.le_of_ble_eq_true rfl) ?_
    have hloop : ∀ (m : Nat) (i : Nat), 468 - i < m → i ≤ 468 → Rn (M_X5_note, none, h.1, h.2.1) Q 11 [(0, .ref 15), (1, .int (nI i))] [] (hs h 21 (.inl (504, sh1 BK i))) := by
      intro m
      induction m with
      | zero => intro i h0 h1; exact absurd h0 (Nat.not_lt_zero _)
      | succ m ih =>
        intro i h0 h1
        refine Rn.iload_n dX5_note_11 rfl rfl ?_
        refine Rn.sipush dX5_note_12 rfl sp_468 ?_
        refine Rn.icmp_geN (tgt := 39) dX5_note_15 rfl (by decide) (by omega) (by omega) (fun c15 => ?_) (fun c15 => ?_)
        · obtain rfl : i = 468 := by omega
          refine Rn.aload_n dX5_note_39 rfl rfl ?_
          refine Rn.dup dX5_note_40 rfl rfl ?_
          refine Rn.getf f_X5_124 dX5_note_41 rfl ((hs_ne _ _ (by decide)).trans M15) (Nat.lt_of_le_of_lt (Nat.le_of_ble_eq_true rfl) ML) rfl ?_
          refine Rn.iconst dX5_note_44 rfl ic_1 ?_
          refine Rn.isubN dX5_note_45 rfl (by omega) ?_
          refine Rn.putf p_X5_124 (fun h => by cases h) dX5_note_46 rfl ((hs_ne _ _ (by decide)).trans M15) (Nat.lt_of_le_of_lt (Nat.le_of_ble_eq_true rfl) ML) (fun g => ⟨rfl, rfl⟩) (Nat.le_of_ble_eq_true rfl) ?_
          refine Rn.iconst dX5_note_49 rfl ic_0 ?_
          refine Rn.istore_n dX5_note_50 rfl (Nat.le_of_ble_eq_true rfl) ?_
          have hloop2 : ∀ (m : Nat) (i : Nat), 36 - i < m → i ≤ 36 → Rn (M_X5_note, none, h.1, h.2.1) Q 51 [(0, .ref 15), (1, .int (nI i))] [] (hs (hs h 21 (.inl (504, ly2 (sh1 BK 468) (36 * (14 - 1)) p i))) 15 (moO th ts pl rm (14 - 1) sz sd)) := by
            intro m
            induction m with
            | zero => intro i h0 h1; exact absurd h0 (Nat.not_lt_zero _)
            | succ m ih2 =>
              intro i h0 h1
              refine Rn.iload_n dX5_note_51 rfl rfl ?_
              refine Rn.bipush dX5_note_52 rfl bp_36 ?_
              refine Rn.icmp_geN (tgt := 83) dX5_note_54 rfl (by decide) (by omega) (by omega) (fun c54 => ?_) (fun c54 => ?_)
              · obtain rfl : i = 36 := by omega
                refine Rn.aload_n dX5_note_83 rfl rfl ?_
                refine Rn.dup dX5_note_84 rfl rfl ?_
                refine Rn.getf f_X5_124 dX5_note_85 rfl (hs_eq _ _ _) (Nat.lt_of_le_of_lt (Nat.le_of_ble_eq_true rfl) ML) rfl ?_
                refine Rn.iconst dX5_note_88 rfl ic_1 ?_
                refine Rn.iaddN dX5_note_89 rfl ?_
                refine Rn.putf p_X5_124 (fun h => by cases h) dX5_note_90 rfl (hs_eq _ _ _) (Nat.lt_of_le_of_lt (Nat.le_of_ble_eq_true rfl) ML) (fun g => ⟨rfl, rfl⟩) (Nat.le_of_ble_eq_true rfl) ?_
                refine Rn.heap (hs_hs _ _ _ _) ?_
                refine Rn.ret dX5_note_93 rfl rfl rfl ?_
                exact k _ (fun U R => RM_14 R p)
              · refine Rn.aload_n dX5_note_57 rfl rfl ?_
                refine Rn.getf f_X5_25 dX5_note_58 rfl (hs_eq _ _ _) (Nat.lt_of_le_of_lt (Nat.le_of_ble_eq_true rfl) ML) rfl ?_
                refine Rn.bipush dX5_note_61 rfl bp_36 ?_
                refine Rn.aload_n dX5_note_63 rfl rfl ?_
                refine Rn.getf f_X5_124 dX5_note_64 rfl (hs_eq _ _ _) (Nat.lt_of_le_of_lt (Nat.le_of_ble_eq_true rfl) ML) rfl ?_
                refine Rn.imulN dX5_note_67 rfl ?_
                refine Rn.iload_n dX5_note_68 rfl rfl ?_
                refine Rn.iaddN dX5_note_69 rfl ?_
                refine Rn.aload_n dX5_note_70 rfl rfl ?_
                refine Rn.getf f_X5_19 dX5_note_71 rfl (hs_eq _ _ _) (Nat.lt_of_le_of_lt (Nat.le_of_ble_eq_true rfl) ML) rfl ?_
                refine Rn.iload_n dX5_note_74 rfl rfl ?_
                refine Rn.ialdN dX5_note_75 rfl ((hs_ne _ _ (by decide)).trans ((hs_ne _ _ (by decide)).trans M19)) (Nat.lt_of_le_of_lt (Nat.le_of_ble_eq_true rfl) ML) (by omega) (by omega) ?_
                refine Rn.iastN dX5_note_76 rfl ((hs_ne _ _ (by decide)).trans (hs_eq _ _ _)) (Nat.lt_of_le_of_lt (Nat.le_of_ble_eq_true rfl) ML) (by omega) (by omega) ?_
                refine Rn.heap ((hs_d1 _ _ _ _ (by decide)).trans (by rw [ly2_s])) ?_
                refine Rn.iincN dX5_note_77 rfl rfl (Nat.le_of_ble_eq_true rfl) ?_
                refine Rn.goto (tgt := 51) dX5_note_80 (by decide) ?_
                exact Rn.pick [1, 0] rfl (ih2 (i + 1) (by omega) (by omega))
          exact Rn.pick [1, 0] rfl (by have := hloop2 37 0 (by omega) (by omega); rw [ly2_0] at this; exact this)
        · refine Rn.aload_n dX5_note_18 rfl rfl ?_
          refine Rn.getf f_X5_25 dX5_note_19 rfl ((hs_ne _ _ (by decide)).trans M15) (Nat.lt_of_le_of_lt (Nat.le_of_ble_eq_true rfl) ML) rfl ?_
          refine Rn.iload_n dX5_note_22 rfl rfl ?_
          refine Rn.aload_n dX5_note_23 rfl rfl ?_
          refine Rn.getf f_X5_25 dX5_note_24 rfl ((hs_ne _ _ (by decide)).trans M15) (Nat.lt_of_le_of_lt (Nat.le_of_ble_eq_true rfl) ML) rfl ?_
          refine Rn.iload_n dX5_note_27 rfl rfl ?_
          refine Rn.bipush dX5_note_28 rfl bp_36 ?_
          refine Rn.iaddN dX5_note_30 rfl ?_
          refine Rn.ialdN dX5_note_31 rfl (hs_eq _ _ _) (Nat.lt_of_le_of_lt (Nat.le_of_ble_eq_true rfl) ML) (by omega) (by omega) ?_
          refine Rn.top (sh1_r BK i) ?_
          refine Rn.iastN dX5_note_32 rfl (hs_eq _ _ _) (Nat.lt_of_le_of_lt (Nat.le_of_ble_eq_true rfl) ML) (by omega) (by omega) ?_
          refine Rn.heap ((hs_hs _ _ _ _).trans (by rw [sh1_s])) ?_
          refine Rn.iincN dX5_note_33 rfl rfl (Nat.le_of_ble_eq_true rfl) ?_
          refine Rn.goto (tgt := 11) dX5_note_36 (by decide) ?_
          exact Rn.pick [1, 0] rfl (ih (i + 1) (by omega) (by omega))
    exact Rn.pick [1, 0] rfl (by have := hloop 469 0 (by omega) (by omega); rw [sh1_0, hs_self h M21] at this; exact this)
theorem t_X5_send {h : rHp} {Q : Option Value → rHp → Prop} {t : Nat → Nat} {ln : Nat} {p : Nat → Nat} {U : Nat → Nat → Nat} {a : Nat} {Kp : Nat → Nat → Nat} {ik : Nat → Bool} {su sp sn : Nat → Nat} {sz : Nat} {d : Int64} (I : MI h t ln p U a Kp ik su sp sn sz d) (O : OKs t ln p U a Kp ik su sp sn sz) {x : Int32} (k : ∀ h', MIA h' t ln p U a Kp ik su sp sn sz d (seA p x).2 → Fm h h' → Q (some (.int (seA p x).1)) h') : Cl M_X5_send h.1 h.2.1 [.ref 15, .int x] h Q := by
  obtain ⟨th, pl, rm, rp, ev, tp, BK, KM, IK, FF, M15, M16, M17, M18, M19, M20, M21, M22, M23, M24, M25, M26, M27, ML, RMh, RKh⟩ := id I
  obtain ⟨Ot, Oln, Op, OU, OK2, Osz, Osu, Osp, Osn⟩ := id O
  refine Cl.of pl_X5 (Nat.le_of_ble_eq_true rfl) (by first | exact Nat.le_refl _ | omega) (by first | exact Nat.le_refl _ | omega) ?_
  refine Rn.aload_n dX5_send_0 rfl rfl ?_
  refine Rn.iconst dX5_send_1 rfl ic_0 ?_
  refine Rn.putf p_X5_51 (fun h => by cases h) dX5_send_2 rfl M15 (Nat.lt_of_le_of_lt (Nat.le_of_ble_eq_true rfl) ML) (fun g => ⟨rfl, rfl⟩) (Nat.le_of_ble_eq_true rfl) ?_
  refine Rn.aload_n dX5_send_5 rfl rfl ?_
  refine Rn.getf f_X5_19 dX5_send_6 rfl (hs_eq _ _ _) (Nat.lt_of_le_of_lt (Nat.le_of_ble_eq_true rfl) ML) rfl ?_
  refine Rn.iload_n dX5_send_9 rfl rfl ?_
  refine Rn.callS (as := [_, _]) s_X5_noUser l_X5_75 ⟨Nat.le_of_ble_eq_true rfl, Nat.le_of_ble_eq_true rfl⟩ dX5_send_10 rfl rfl (Nat.le_of_ble_eq_true rfl) (Nat.le_refl _) (Nat.le_refl _) (t_X5_noUser ⟨((hs_ne _ _ (by decide)).trans M19), by exact (Nat.lt_of_le_of_lt (Nat.le_of_ble_eq_true rfl) ML)⟩ Op.1 ?_)
  refine Rn.if_eqB (tgt := 18) dX5_send_13 rfl (by decide) (fun c13 => ?_) (fun c13 => ?_)
  · obtain ⟨u, hu, rfl⟩ := hasB_of (bn_f c13)
    have hu4 : u < 4 := by have := Op.1; omega
    have hus := Op.us hu4
    have c0 := bn_f c13
    refine Rn.aload_n dX5_send_18 rfl rfl ?_
    refine Rn.getf f_X5_19 dX5_send_19 rfl (hs_eq _ _ _) (Nat.lt_of_le_of_lt (Nat.le_of_ble_eq_true rfl) ML) rfl ?_
    refine Rn.iload_n dX5_send_22 rfl rfl ?_
    refine Rn.callS (as := [_, _]) s_X5_hasPass l_X5_79 ⟨Nat.le_of_ble_eq_true rfl, Nat.le_of_ble_eq_true rfl⟩ dX5_send_23 rfl rfl (Nat.le_of_ble_eq_true rfl) (Nat.le_refl _) (Nat.le_refl _) (t_X5_hasPass ⟨((hs_ne _ _ (by decide)).trans M19), by exact (Nat.lt_of_le_of_lt (Nat.le_of_ble_eq_true rfl) ML)⟩ Op ?_)
    refine Rn.if_neB (tgt := 32) dX5_send_26 rfl (by decide) (fun c26 => ?_) (fun c26 => ?_)
    · refine Rn.aload_n dX5_send_32 rfl rfl ?_
      refine Rn.callV (as := []) v_X5_note l_X5_145 ⟨Nat.le_of_ble_eq_true rfl, Nat.le_of_ble_eq_true rfl⟩ dX5_send_33 rfl rfl (Nat.le_of_ble_eq_true rfl) (hs_eq _ _ _) (Nat.lt_of_le_of_lt (Nat.le_of_ble_eq_true rfl) ML) rfl (Nat.le_refl _) (Nat.le_refl _) (t_X5_note (hs_eq _ _ _) ((hs_ne _ _ (by decide)).trans M19) ((hs_ne _ _ (by decide)).trans M21) ML RMh.1 (fun BK' RN => ?_)) 
      · refine Rn.heap (hs_d1 _ _ _ _ (by decide)) ?_
        refine Rn.aload_n dX5_send_36 rfl rfl ?_
        refine Rn.getf f_X5_19 dX5_send_37 rfl ((hs_ne _ _ (by decide)).trans (hs_eq _ _ _)) (Nat.lt_of_le_of_lt (Nat.le_of_ble_eq_true rfl) ML) rfl ?_
        refine Rn.iload_n dX5_send_40 rfl rfl ?_
        refine Rn.callS (as := [_, _]) s_X5_sendOn l_X5_120 ⟨Nat.le_of_ble_eq_true rfl, Nat.le_of_ble_eq_true rfl⟩ dX5_send_41 rfl rfl (Nat.le_of_ble_eq_true rfl) (Nat.le_refl _) (Nat.le_refl _) (t_X5_sendOn ⟨((hs_ne _ _ (by decide)).trans ((hs_ne _ _ (by decide)).trans M19)), by exact (Nat.lt_of_le_of_lt (Nat.le_of_ble_eq_true rfl) ML)⟩ Op hu4 ((ownB_nI (by omega)).symm.trans c26) ?_)
        refine Rn.iret dX5_send_44 rfl rfl rfl ?_
        have e0 : seA p (nI u) = (nI (seK p u), some (seP p u)) := by unfold seA; rw [c0, c26, xn_nI (by omega)]; rfl
        rw [e0] at k
        exact k _ ⟨_, _, _, _, _, _, _, _, _, _, ((hs_ne _ _ (by decide)).trans ((hs_ne _ _ (by decide)).trans (hs_eq _ _ _))), ((hs_ne _ _ (by decide)).trans ((hs_ne _ _ (by decide)).trans ((hs_ne _ _ (by decide)).trans M16))), ((hs_ne _ _ (by decide)).trans ((hs_ne _ _ (by decide)).trans ((hs_ne _ _ (by decide)).trans M17))), ((hs_ne _ _ (by decide)).trans ((hs_ne _ _ (by decide)).trans ((hs_ne _ _ (by decide)).trans M18))), (hs_eq _ _ _), ((hs_ne _ _ (by decide)).trans ((hs_ne _ _ (by decide)).trans ((hs_ne _ _ (by decide)).trans M20))), ((hs_ne _ _ (by decide)).trans (hs_eq _ _ _)), ((hs_ne _ _ (by decide)).trans ((hs_ne _ _ (by decide)).trans ((hs_ne _ _ (by decide)).trans M22))), ((hs_ne _ _ (by decide)).trans ((hs_ne _ _ (by decide)).trans ((hs_ne _ _ (by decide)).trans M23))), ((hs_ne _ _ (by decide)).trans ((hs_ne _ _ (by decide)).trans ((hs_ne _ _ (by decide)).trans M24))), ((hs_ne _ _ (by decide)).trans ((hs_ne _ _ (by decide)).trans ((hs_ne _ _ (by decide)).trans M25))), ((hs_ne _ _ (by decide)).trans ((hs_ne _ _ (by decide)).trans ((hs_ne _ _ (by decide)).trans M26))), ((hs_ne _ _ (by decide)).trans ((hs_ne _ _ (by decide)).trans ((hs_ne _ _ (by decide)).trans M27))), ML, (RN U RMh), RKh⟩ ((((Fm.rf h).hs _ (by decide)).hs _ (by decide)).hs _ (by decide))
    · refine Rn.bipush dX5_send_29 rfl bp_m3 ?_
      refine Rn.iret dX5_send_31 rfl rfl rfl ?_
      have e0 : seA p (nI u) = (-3, none) := by unfold seA; rw [c0, c26]; rfl
      rw [e0] at k
      exact k _ ⟨_, _, _, _, _, _, _, _, _, _, (hs_eq _ _ _), ((hs_ne _ _ (by decide)).trans M16), ((hs_ne _ _ (by decide)).trans M17), ((hs_ne _ _ (by decide)).trans M18), ((hs_ne _ _ (by decide)).trans M19), ((hs_ne _ _ (by decide)).trans M20), ((hs_ne _ _ (by decide)).trans M21), ((hs_ne _ _ (by decide)).trans M22), ((hs_ne _ _ (by decide)).trans M23), ((hs_ne _ _ (by decide)).trans M24), ((hs_ne _ _ (by decide)).trans M25), ((hs_ne _ _ (by decide)).trans M26), ((hs_ne _ _ (by decide)).trans M27), ML, RMh, RKh⟩ ((Fm.rf h).hs _ (by decide))
  · refine Rn.iconst dX5_send_16 rfl ic_m1 ?_
    refine Rn.iret dX5_send_17 rfl rfl rfl ?_
    have e0 : seA p x = (-1, none) := by unfold seA; rw [bn_t c13]; rfl
    rw [e0] at k
    exact k _ ⟨_, _, _, _, _, _, _, _, _, _, (hs_eq _ _ _), ((hs_ne _ _ (by decide)).trans M16), ((hs_ne _ _ (by decide)).trans M17), ((hs_ne _ _ (by decide)).trans M18), ((hs_ne _ _ (by decide)).trans M19), ((hs_ne _ _ (by decide)).trans M20), ((hs_ne _ _ (by decide)).trans M21), ((hs_ne _ _ (by decide)).trans M22), ((hs_ne _ _ (by decide)).trans M23), ((hs_ne _ _ (by decide)).trans M24), ((hs_ne _ _ (by decide)).trans M25), ((hs_ne _ _ (by decide)).trans M26), ((hs_ne _ _ (by decide)).trans M27), ML, RMh, RKh⟩ ((Fm.rf h).hs _ (by decide))
theorem t_X5_miss {h : rHp} {Q : Option Value → rHp → Prop} {t : Nat → Nat} {ln : Nat} {p : Nat → Nat} {U : Nat → Nat → Nat} {a : Nat} {Kp : Nat → Nat → Nat} {ik : Nat → Bool} {su sp sn : Nat → Nat} {sz : Nat} {d : Int64} (I : MI h t ln p U a Kp ik su sp sn sz d) (O : OKs t ln p U a Kp ik su sp sn sz) {x : Int32} (k : ∀ h', MIA h' t ln p U a Kp ik su sp sn sz d (miA p x).2 → Fm h h' → Q (some (.int (miA p x).1)) h') : Cl M_X5_miss h.1 h.2.1 [.ref 15, .int x] h Q := by
  obtain ⟨th, pl, rm, rp, ev, tp, BK, KM, IK, FF, M15, M16, M17, M18, M19, M20, M21, M22, M23, M24, M25, M26, M27, ML, RMh, RKh⟩ := id I
  obtain ⟨Ot, Oln, Op, OU, OK2, Osz, Osu, Osp, Osn⟩ := id O
  refine Cl.of pl_X5 (Nat.le_of_ble_eq_true rfl) (by first | exact Nat.le_refl _ | omega) (by first | exact Nat.le_refl _ | omega) ?_
  refine Rn.aload_n dX5_miss_0 rfl rfl ?_
  refine Rn.iconst dX5_miss_1 rfl ic_0 ?_
  refine Rn.putf p_X5_51 (fun h => by cases h) dX5_miss_2 rfl M15 (Nat.lt_of_le_of_lt (Nat.le_of_ble_eq_true rfl) ML) (fun g => ⟨rfl, rfl⟩) (Nat.le_of_ble_eq_true rfl) ?_
  refine Rn.aload_n dX5_miss_5 rfl rfl ?_
  refine Rn.getf f_X5_19 dX5_miss_6 rfl (hs_eq _ _ _) (Nat.lt_of_le_of_lt (Nat.le_of_ble_eq_true rfl) ML) rfl ?_
  refine Rn.iload_n dX5_miss_9 rfl rfl ?_
  refine Rn.callS (as := [_, _]) s_X5_noUser l_X5_75 ⟨Nat.le_of_ble_eq_true rfl, Nat.le_of_ble_eq_true rfl⟩ dX5_miss_10 rfl rfl (Nat.le_of_ble_eq_true rfl) (Nat.le_refl _) (Nat.le_refl _) (t_X5_noUser ⟨((hs_ne _ _ (by decide)).trans M19), by exact (Nat.lt_of_le_of_lt (Nat.le_of_ble_eq_true rfl) ML)⟩ Op.1 ?_)
  refine Rn.if_eqB (tgt := 18) dX5_miss_13 rfl (by decide) (fun c13 => ?_) (fun c13 => ?_)
  · obtain ⟨u, hu, rfl⟩ := hasB_of (bn_f c13)
    have hu4 : u < 4 := by have := Op.1; omega
    have hus := Op.us hu4
    have c0 := bn_f c13
    refine Rn.aload_n dX5_miss_18 rfl rfl ?_
    refine Rn.getf f_X5_19 dX5_miss_19 rfl (hs_eq _ _ _) (Nat.lt_of_le_of_lt (Nat.le_of_ble_eq_true rfl) ML) rfl ?_
    refine Rn.iload_n dX5_miss_22 rfl rfl ?_
    refine Rn.callS (as := [_, _]) s_X5_hasPass l_X5_79 ⟨Nat.le_of_ble_eq_true rfl, Nat.le_of_ble_eq_true rfl⟩ dX5_miss_23 rfl rfl (Nat.le_of_ble_eq_true rfl) (Nat.le_refl _) (Nat.le_refl _) (t_X5_hasPass ⟨((hs_ne _ _ (by decide)).trans M19), by exact (Nat.lt_of_le_of_lt (Nat.le_of_ble_eq_true rfl) ML)⟩ Op ?_)
    refine Rn.if_neB (tgt := 32) dX5_miss_26 rfl (by decide) (fun c26 => ?_) (fun c26 => ?_)
    · refine Rn.aload_n dX5_miss_32 rfl rfl ?_
      refine Rn.callV (as := []) v_X5_note l_X5_145 ⟨Nat.le_of_ble_eq_true rfl, Nat.le_of_ble_eq_true rfl⟩ dX5_miss_33 rfl rfl (Nat.le_of_ble_eq_true rfl) (hs_eq _ _ _) (Nat.lt_of_le_of_lt (Nat.le_of_ble_eq_true rfl) ML) rfl (Nat.le_refl _) (Nat.le_refl _) (t_X5_note (hs_eq _ _ _) ((hs_ne _ _ (by decide)).trans M19) ((hs_ne _ _ (by decide)).trans M21) ML RMh.1 (fun BK' RN => ?_)) 
      · refine Rn.heap (hs_d1 _ _ _ _ (by decide)) ?_
        refine Rn.aload_n dX5_miss_36 rfl rfl ?_
        refine Rn.getf f_X5_19 dX5_miss_37 rfl ((hs_ne _ _ (by decide)).trans (hs_eq _ _ _)) (Nat.lt_of_le_of_lt (Nat.le_of_ble_eq_true rfl) ML) rfl ?_
        refine Rn.bipush dX5_miss_40 rfl bp_6 ?_
        refine Rn.iload_n dX5_miss_42 rfl rfl ?_
        refine Rn.imulN dX5_miss_43 rfl ?_
        refine Rn.iconst dX5_miss_44 rfl ic_3 ?_
        refine Rn.iaddN dX5_miss_45 rfl ?_
        refine Rn.dup2 dX5_miss_46 rfl rfl rfl ?_
        refine Rn.ialdN dX5_miss_47 rfl ((hs_ne _ _ (by decide)).trans ((hs_ne _ _ (by decide)).trans M19)) (Nat.lt_of_le_of_lt (Nat.le_of_ble_eq_true rfl) ML) (by omega) (by omega) ?_
        refine Rn.top (pg_us _ (by omega) (show 3 < 6 by omega)) ?_
        have hu3 := (ow_t ((ownB_nI (by omega)).symm.trans c26)).2
        refine Rn.iconst dX5_miss_48 rfl ic_1 ?_
        refine Rn.isubN dX5_miss_49 rfl (by omega) ?_
        refine Rn.iastN dX5_miss_50 rfl ((hs_ne _ _ (by decide)).trans ((hs_ne _ _ (by decide)).trans M19)) (Nat.lt_of_le_of_lt (Nat.le_of_ble_eq_true rfl) ML) (by omega) (by omega) ?_
        refine Rn.heap (Pa.upd (upd_pg _ _ (by omega) (by omega))) ?_
        refine Rn.aload_n dX5_miss_51 rfl rfl ?_
        refine Rn.getf f_X5_19 dX5_miss_52 rfl ((hs_ne _ _ (by decide)).trans ((hs_ne _ _ (by decide)).trans (hs_eq _ _ _))) (Nat.lt_of_le_of_lt (Nat.le_of_ble_eq_true rfl) ML) rfl ?_
        refine Rn.bipush dX5_miss_55 rfl bp_6 ?_
        refine Rn.iload_n dX5_miss_57 rfl rfl ?_
        refine Rn.imulN dX5_miss_58 rfl ?_
        refine Rn.iconst dX5_miss_59 rfl ic_3 ?_
        refine Rn.iaddN dX5_miss_60 rfl ?_
        refine Rn.ialdN dX5_miss_61 rfl (hs_eq _ _ _) (Nat.lt_of_le_of_lt (Nat.le_of_ble_eq_true rfl) ML) (by omega) (by omega) ?_
        refine Rn.top (pg_us _ (by omega) (show 3 < 6 by omega)) ?_
        refine Rn.top (congrArg nI (un_eq _ _ _)) ?_
        refine Rn.iret dX5_miss_62 rfl rfl rfl ?_
        have e0 : miA p (nI u) = (nI (p (6 * u + 3) - 1), some (spP p u)) := by unfold miA; rw [c0, c26, xn_nI (by omega)]; rfl
        rw [e0] at k
        have esp : spP p u = un p (6 * u + 3) (p (6 * u + 3) - 1) := if_pos ((ownB_nI (by omega)).symm.trans c26)
        rw [esp] at k
        exact k _ ⟨_, _, _, _, _, _, _, _, _, _, ((hs_ne _ _ (by decide)).trans ((hs_ne _ _ (by decide)).trans (hs_eq _ _ _))), ((hs_ne _ _ (by decide)).trans ((hs_ne _ _ (by decide)).trans ((hs_ne _ _ (by decide)).trans M16))), ((hs_ne _ _ (by decide)).trans ((hs_ne _ _ (by decide)).trans ((hs_ne _ _ (by decide)).trans M17))), ((hs_ne _ _ (by decide)).trans ((hs_ne _ _ (by decide)).trans ((hs_ne _ _ (by decide)).trans M18))), (hs_eq _ _ _), ((hs_ne _ _ (by decide)).trans ((hs_ne _ _ (by decide)).trans ((hs_ne _ _ (by decide)).trans M20))), ((hs_ne _ _ (by decide)).trans (hs_eq _ _ _)), ((hs_ne _ _ (by decide)).trans ((hs_ne _ _ (by decide)).trans ((hs_ne _ _ (by decide)).trans M22))), ((hs_ne _ _ (by decide)).trans ((hs_ne _ _ (by decide)).trans ((hs_ne _ _ (by decide)).trans M23))), ((hs_ne _ _ (by decide)).trans ((hs_ne _ _ (by decide)).trans ((hs_ne _ _ (by decide)).trans M24))), ((hs_ne _ _ (by decide)).trans ((hs_ne _ _ (by decide)).trans ((hs_ne _ _ (by decide)).trans M25))), ((hs_ne _ _ (by decide)).trans ((hs_ne _ _ (by decide)).trans ((hs_ne _ _ (by decide)).trans M26))), ((hs_ne _ _ (by decide)).trans ((hs_ne _ _ (by decide)).trans ((hs_ne _ _ (by decide)).trans M27))), ML, (RN U RMh), RKh⟩ ((((Fm.rf h).hs _ (by decide)).hs _ (by decide)).hs _ (by decide))
    · refine Rn.bipush dX5_miss_29 rfl bp_m3 ?_
      refine Rn.iret dX5_miss_31 rfl rfl rfl ?_
      have e0 : miA p (nI u) = (-3, none) := by unfold miA; rw [c0, c26]; rfl
      rw [e0] at k
      exact k _ ⟨_, _, _, _, _, _, _, _, _, _, (hs_eq _ _ _), ((hs_ne _ _ (by decide)).trans M16), ((hs_ne _ _ (by decide)).trans M17), ((hs_ne _ _ (by decide)).trans M18), ((hs_ne _ _ (by decide)).trans M19), ((hs_ne _ _ (by decide)).trans M20), ((hs_ne _ _ (by decide)).trans M21), ((hs_ne _ _ (by decide)).trans M22), ((hs_ne _ _ (by decide)).trans M23), ((hs_ne _ _ (by decide)).trans M24), ((hs_ne _ _ (by decide)).trans M25), ((hs_ne _ _ (by decide)).trans M26), ((hs_ne _ _ (by decide)).trans M27), ML, RMh, RKh⟩ ((Fm.rf h).hs _ (by decide))
  · refine Rn.iconst dX5_miss_16 rfl ic_m1 ?_
    refine Rn.iret dX5_miss_17 rfl rfl rfl ?_
    have e0 : miA p x = (-1, none) := by unfold miA; rw [bn_t c13]; rfl
    rw [e0] at k
    exact k _ ⟨_, _, _, _, _, _, _, _, _, _, (hs_eq _ _ _), ((hs_ne _ _ (by decide)).trans M16), ((hs_ne _ _ (by decide)).trans M17), ((hs_ne _ _ (by decide)).trans M18), ((hs_ne _ _ (by decide)).trans M19), ((hs_ne _ _ (by decide)).trans M20), ((hs_ne _ _ (by decide)).trans M21), ((hs_ne _ _ (by decide)).trans M22), ((hs_ne _ _ (by decide)).trans M23), ((hs_ne _ _ (by decide)).trans M24), ((hs_ne _ _ (by decide)).trans M25), ((hs_ne _ _ (by decide)).trans M26), ((hs_ne _ _ (by decide)).trans M27), ML, RMh, RKh⟩ ((Fm.rf h).hs _ (by decide))
theorem t_X5_attempt {h : rHp} {Q : Option Value → rHp → Prop} {t : Nat → Nat} {ln : Nat} {p : Nat → Nat} {U : Nat → Nat → Nat} {a : Nat} {Kp : Nat → Nat → Nat} {ik : Nat → Bool} {su sp sn : Nat → Nat} {sz : Nat} {d : Int64} (I : MI h t ln p U a Kp ik su sp sn sz d) (O : OKs t ln p U a Kp ik su sp sn sz) {x v : Int32} (k : ∀ h', MIA h' t ln p U a Kp ik su sp sn sz d (atA p x v).2 → Fm h h' → Q (some (.int (atA p x v).1)) h') : Cl M_X5_attempt h.1 h.2.1 [.ref 15, .int x, .int v] h Q := by
  obtain ⟨th, pl, rm, rp, ev, tp, BK, KM, IK, FF, M15, M16, M17, M18, M19, M20, M21, M22, M23, M24, M25, M26, M27, ML, RMh, RKh⟩ := id I
  obtain ⟨Ot, Oln, Op, OU, OK2, Osz, Osu, Osp, Osn⟩ := id O
  refine Cl.of pl_X5 (Nat.le_of_ble_eq_true rfl) (by first | exact Nat.le_refl _ | omega) (by first | exact Nat.le_refl _ | omega) ?_
  refine Rn.aload_n dX5_attempt_0 rfl rfl ?_
  refine Rn.iconst dX5_attempt_1 rfl ic_0 ?_
  refine Rn.putf p_X5_51 (fun h => by cases h) dX5_attempt_2 rfl M15 (Nat.lt_of_le_of_lt (Nat.le_of_ble_eq_true rfl) ML) (fun g => ⟨rfl, rfl⟩) (Nat.le_of_ble_eq_true rfl) ?_
  refine Rn.aload_n dX5_attempt_5 rfl rfl ?_
  refine Rn.getf f_X5_19 dX5_attempt_6 rfl (hs_eq _ _ _) (Nat.lt_of_le_of_lt (Nat.le_of_ble_eq_true rfl) ML) rfl ?_
  refine Rn.iload_n dX5_attempt_9 rfl rfl ?_
  refine Rn.callS (as := [_, _]) s_X5_noUser l_X5_75 ⟨Nat.le_of_ble_eq_true rfl, Nat.le_of_ble_eq_true rfl⟩ dX5_attempt_10 rfl rfl (Nat.le_of_ble_eq_true rfl) (Nat.le_refl _) (Nat.le_refl _) (t_X5_noUser ⟨((hs_ne _ _ (by decide)).trans M19), by exact (Nat.lt_of_le_of_lt (Nat.le_of_ble_eq_true rfl) ML)⟩ Op.1 ?_)
  refine Rn.if_eqB (tgt := 18) dX5_attempt_13 rfl (by decide) (fun c13 => ?_) (fun c13 => ?_)
  · obtain ⟨u, hu, rfl⟩ := hasB_of (bn_f c13)
    have hu4 : u < 4 := by have := Op.1; omega
    have hus := Op.us hu4
    have c0 := bn_f c13
    refine Rn.iload_n dX5_attempt_18 rfl rfl ?_
    refine Rn.callS (as := [_]) s_X5_isNumber l_X5_139 ⟨Nat.le_of_ble_eq_true rfl, Nat.le_of_ble_eq_true rfl⟩ dX5_attempt_19 rfl rfl (Nat.le_of_ble_eq_true rfl) (Nat.le_refl _) (Nat.le_refl _) (t_X5_isNumber ?_)
    refine Rn.if_neB (tgt := 28) dX5_attempt_22 rfl (by decide) (fun c22 => ?_) (fun c22 => ?_)
    · obtain ⟨y, hy, rfl⟩ := isW_of c22 (by omega)
      refine Rn.aload_n dX5_attempt_28 rfl rfl ?_
      refine Rn.callV (as := []) v_X5_note l_X5_145 ⟨Nat.le_of_ble_eq_true rfl, Nat.le_of_ble_eq_true rfl⟩ dX5_attempt_29 rfl rfl (Nat.le_of_ble_eq_true rfl) (hs_eq _ _ _) (Nat.lt_of_le_of_lt (Nat.le_of_ble_eq_true rfl) ML) rfl (Nat.le_refl _) (Nat.le_refl _) (t_X5_note (hs_eq _ _ _) ((hs_ne _ _ (by decide)).trans M19) ((hs_ne _ _ (by decide)).trans M21) ML RMh.1 (fun BK' RN => ?_)) 
      · refine Rn.heap (hs_d1 _ _ _ _ (by decide)) ?_
        refine Rn.aload_n dX5_attempt_32 rfl rfl ?_
        refine Rn.getf f_X5_19 dX5_attempt_33 rfl ((hs_ne _ _ (by decide)).trans (hs_eq _ _ _)) (Nat.lt_of_le_of_lt (Nat.le_of_ble_eq_true rfl) ML) rfl ?_
        refine Rn.iload_n dX5_attempt_36 rfl rfl ?_
        refine Rn.iload_n dX5_attempt_37 rfl rfl ?_
        refine Rn.callS (as := [_, _, _]) s_X5_comeOn l_X5_72 ⟨Nat.le_of_ble_eq_true rfl, Nat.le_of_ble_eq_true rfl⟩ dX5_attempt_38 rfl rfl (Nat.le_of_ble_eq_true rfl) (Nat.le_refl _) (Nat.le_refl _) (t_X5_comeOn ⟨((hs_ne _ _ (by decide)).trans ((hs_ne _ _ (by decide)).trans M19)), by exact (Nat.lt_of_le_of_lt (Nat.le_of_ble_eq_true rfl) ML)⟩ Op hu4 (by omega) ?_)
        refine Rn.iret dX5_attempt_41 rfl rfl rfl ?_
        have e0 : atA p (nI u) (nI y) = (nI (fitP p u y), some (brP p u y)) := by unfold atA; rw [c0, c22, xn_nI (by omega), xn_nI (by omega)]; rfl
        rw [e0] at k
        exact k _ ⟨_, _, _, _, _, _, _, _, _, _, ((hs_ne _ _ (by decide)).trans ((hs_ne _ _ (by decide)).trans (hs_eq _ _ _))), ((hs_ne _ _ (by decide)).trans ((hs_ne _ _ (by decide)).trans ((hs_ne _ _ (by decide)).trans M16))), ((hs_ne _ _ (by decide)).trans ((hs_ne _ _ (by decide)).trans ((hs_ne _ _ (by decide)).trans M17))), ((hs_ne _ _ (by decide)).trans ((hs_ne _ _ (by decide)).trans ((hs_ne _ _ (by decide)).trans M18))), (hs_eq _ _ _), ((hs_ne _ _ (by decide)).trans ((hs_ne _ _ (by decide)).trans ((hs_ne _ _ (by decide)).trans M20))), ((hs_ne _ _ (by decide)).trans (hs_eq _ _ _)), ((hs_ne _ _ (by decide)).trans ((hs_ne _ _ (by decide)).trans ((hs_ne _ _ (by decide)).trans M22))), ((hs_ne _ _ (by decide)).trans ((hs_ne _ _ (by decide)).trans ((hs_ne _ _ (by decide)).trans M23))), ((hs_ne _ _ (by decide)).trans ((hs_ne _ _ (by decide)).trans ((hs_ne _ _ (by decide)).trans M24))), ((hs_ne _ _ (by decide)).trans ((hs_ne _ _ (by decide)).trans ((hs_ne _ _ (by decide)).trans M25))), ((hs_ne _ _ (by decide)).trans ((hs_ne _ _ (by decide)).trans ((hs_ne _ _ (by decide)).trans M26))), ((hs_ne _ _ (by decide)).trans ((hs_ne _ _ (by decide)).trans ((hs_ne _ _ (by decide)).trans M27))), ML, (RN U RMh), RKh⟩ ((((Fm.rf h).hs _ (by decide)).hs _ (by decide)).hs _ (by decide))
    · refine Rn.bipush dX5_attempt_25 rfl bp_m2 ?_
      refine Rn.iret dX5_attempt_27 rfl rfl rfl ?_
      have e0 : atA p (nI u) v = (-2, none) := by unfold atA; rw [c0, c22]; rfl
      rw [e0] at k
      exact k _ ⟨_, _, _, _, _, _, _, _, _, _, (hs_eq _ _ _), ((hs_ne _ _ (by decide)).trans M16), ((hs_ne _ _ (by decide)).trans M17), ((hs_ne _ _ (by decide)).trans M18), ((hs_ne _ _ (by decide)).trans M19), ((hs_ne _ _ (by decide)).trans M20), ((hs_ne _ _ (by decide)).trans M21), ((hs_ne _ _ (by decide)).trans M22), ((hs_ne _ _ (by decide)).trans M23), ((hs_ne _ _ (by decide)).trans M24), ((hs_ne _ _ (by decide)).trans M25), ((hs_ne _ _ (by decide)).trans M26), ((hs_ne _ _ (by decide)).trans M27), ML, RMh, RKh⟩ ((Fm.rf h).hs _ (by decide))
  · refine Rn.iconst dX5_attempt_16 rfl ic_m1 ?_
    refine Rn.iret dX5_attempt_17 rfl rfl rfl ?_
    have e0 : atA p x v = (-1, none) := by unfold atA; rw [bn_t c13]; rfl
    rw [e0] at k
    exact k _ ⟨_, _, _, _, _, _, _, _, _, _, (hs_eq _ _ _), ((hs_ne _ _ (by decide)).trans M16), ((hs_ne _ _ (by decide)).trans M17), ((hs_ne _ _ (by decide)).trans M18), ((hs_ne _ _ (by decide)).trans M19), ((hs_ne _ _ (by decide)).trans M20), ((hs_ne _ _ (by decide)).trans M21), ((hs_ne _ _ (by decide)).trans M22), ((hs_ne _ _ (by decide)).trans M23), ((hs_ne _ _ (by decide)).trans M24), ((hs_ne _ _ (by decide)).trans M25), ((hs_ne _ _ (by decide)).trans M26), ((hs_ne _ _ (by decide)).trans M27), ML, RMh, RKh⟩ ((Fm.rf h).hs _ (by decide))
theorem t_X5_widen {h : rHp} {Q : Option Value → rHp → Prop} {t : Nat → Nat} {ln : Nat} {p : Nat → Nat} {U : Nat → Nat → Nat} {a : Nat} {Kp : Nat → Nat → Nat} {ik : Nat → Bool} {su sp sn : Nat → Nat} {sz : Nat} {d : Int64} (I : MI h t ln p U a Kp ik su sp sn sz d) (O : OKs t ln p U a Kp ik su sp sn sz) {x : Int32} (k : ∀ h', MIA h' t ln p U a Kp ik su sp sn sz d (wdA p x).2 → Fm h h' → Q (some (.int (wdA p x).1)) h') : Cl M_X5_widen h.1 h.2.1 [.ref 15, .int x] h Q := by
  obtain ⟨th, pl, rm, rp, ev, tp, BK, KM, IK, FF, M15, M16, M17, M18, M19, M20, M21, M22, M23, M24, M25, M26, M27, ML, RMh, RKh⟩ := id I
  obtain ⟨Ot, Oln, Op, OU, OK2, Osz, Osu, Osp, Osn⟩ := id O
  refine Cl.of pl_X5 (Nat.le_of_ble_eq_true rfl) (by first | exact Nat.le_refl _ | omega) (by first | exact Nat.le_refl _ | omega) ?_
  refine Rn.aload_n dX5_widen_0 rfl rfl ?_
  refine Rn.iconst dX5_widen_1 rfl ic_0 ?_
  refine Rn.putf p_X5_51 (fun h => by cases h) dX5_widen_2 rfl M15 (Nat.lt_of_le_of_lt (Nat.le_of_ble_eq_true rfl) ML) (fun g => ⟨rfl, rfl⟩) (Nat.le_of_ble_eq_true rfl) ?_
  refine Rn.iload_n dX5_widen_5 rfl rfl ?_
  refine Rn.i2l dX5_widen_6 rfl ?_
  refine Rn.lconst dX5_widen_7 rfl lc_1 ?_
  refine Rn.ldc2 dX5_widen_8 rfl k_X5_150 ?_
  refine Rn.topl lL_6 ?_
  refine Rn.callS (as := [_, _, _]) s_X5_in l_X5_57 ⟨Nat.le_of_ble_eq_true rfl, Nat.le_of_ble_eq_true rfl⟩ dX5_widen_11 rfl rfl (Nat.le_of_ble_eq_true rfl) (Nat.le_refl _) (Nat.le_refl _) (t_X5_in ?_)
  refine Rn.top (congrArg bi (inL_W (by omega) (by omega))) ?_
  refine Rn.if_neB (tgt := 20) dX5_widen_14 rfl (by decide) (fun c14 => ?_) (fun c14 => ?_)
  · obtain ⟨y, hy1, hy2, rfl⟩ := isW_of2 c14 (by omega) (by omega)
    refine Rn.aload_n dX5_widen_20 rfl rfl ?_
    refine Rn.callV (as := []) v_X5_note l_X5_145 ⟨Nat.le_of_ble_eq_true rfl, Nat.le_of_ble_eq_true rfl⟩ dX5_widen_21 rfl rfl (Nat.le_of_ble_eq_true rfl) (hs_eq _ _ _) (Nat.lt_of_le_of_lt (Nat.le_of_ble_eq_true rfl) ML) rfl (Nat.le_refl _) (Nat.le_refl _) (t_X5_note (hs_eq _ _ _) ((hs_ne _ _ (by decide)).trans M19) ((hs_ne _ _ (by decide)).trans M21) ML RMh.1 (fun BK' RN => ?_)) 
    · refine Rn.heap (hs_d1 _ _ _ _ (by decide)) ?_
      refine Rn.aload_n dX5_widen_24 rfl rfl ?_
      refine Rn.getf f_X5_19 dX5_widen_25 rfl ((hs_ne _ _ (by decide)).trans (hs_eq _ _ _)) (Nat.lt_of_le_of_lt (Nat.le_of_ble_eq_true rfl) ML) rfl ?_
      refine Rn.bipush dX5_widen_28 rfl bp_25 ?_
      refine Rn.ialdN dX5_widen_30 rfl ((hs_ne _ _ (by decide)).trans ((hs_ne _ _ (by decide)).trans M19)) (Nat.lt_of_le_of_lt (Nat.le_of_ble_eq_true rfl) ML) (by omega) (by omega) ?_
      refine Rn.top (pg_n _ (by omega) (by omega)) ?_
      refine Rn.istore_n dX5_widen_31 rfl (Nat.le_of_ble_eq_true rfl) ?_
      refine Rn.aload_n dX5_widen_32 rfl rfl ?_
      refine Rn.getf f_X5_19 dX5_widen_33 rfl ((hs_ne _ _ (by decide)).trans (hs_eq _ _ _)) (Nat.lt_of_le_of_lt (Nat.le_of_ble_eq_true rfl) ML) rfl ?_
      refine Rn.bipush dX5_widen_36 rfl bp_25 ?_
      refine Rn.iload_n dX5_widen_38 rfl rfl ?_
      refine Rn.iastN dX5_widen_39 rfl ((hs_ne _ _ (by decide)).trans ((hs_ne _ _ (by decide)).trans M19)) (Nat.lt_of_le_of_lt (Nat.le_of_ble_eq_true rfl) ML) (by omega) (by omega) ?_
      refine Rn.heap (Pa.upd (upd_pg _ _ (by omega) (by omega))) ?_
      refine Rn.iload_n dX5_widen_40 rfl rfl ?_
      refine Rn.iret dX5_widen_41 rfl rfl rfl ?_
      have e0 : wdA p (nI y) = (nI (p 25), some (un p 25 y)) := by unfold wdA; rw [c14, xn_nI (by omega)]; rfl
      rw [e0] at k
      exact k _ ⟨_, _, _, _, _, _, _, _, _, _, ((hs_ne _ _ (by decide)).trans ((hs_ne _ _ (by decide)).trans (hs_eq _ _ _))), ((hs_ne _ _ (by decide)).trans ((hs_ne _ _ (by decide)).trans ((hs_ne _ _ (by decide)).trans M16))), ((hs_ne _ _ (by decide)).trans ((hs_ne _ _ (by decide)).trans ((hs_ne _ _ (by decide)).trans M17))), ((hs_ne _ _ (by decide)).trans ((hs_ne _ _ (by decide)).trans ((hs_ne _ _ (by decide)).trans M18))), (hs_eq _ _ _), ((hs_ne _ _ (by decide)).trans ((hs_ne _ _ (by decide)).trans ((hs_ne _ _ (by decide)).trans M20))), ((hs_ne _ _ (by decide)).trans (hs_eq _ _ _)), ((hs_ne _ _ (by decide)).trans ((hs_ne _ _ (by decide)).trans ((hs_ne _ _ (by decide)).trans M22))), ((hs_ne _ _ (by decide)).trans ((hs_ne _ _ (by decide)).trans ((hs_ne _ _ (by decide)).trans M23))), ((hs_ne _ _ (by decide)).trans ((hs_ne _ _ (by decide)).trans ((hs_ne _ _ (by decide)).trans M24))), ((hs_ne _ _ (by decide)).trans ((hs_ne _ _ (by decide)).trans ((hs_ne _ _ (by decide)).trans M25))), ((hs_ne _ _ (by decide)).trans ((hs_ne _ _ (by decide)).trans ((hs_ne _ _ (by decide)).trans M26))), ((hs_ne _ _ (by decide)).trans ((hs_ne _ _ (by decide)).trans ((hs_ne _ _ (by decide)).trans M27))), ML, (RN U RMh), RKh⟩ ((((Fm.rf h).hs _ (by decide)).hs _ (by decide)).hs _ (by decide))
  · refine Rn.bipush dX5_widen_17 rfl bp_m2 ?_
    refine Rn.iret dX5_widen_19 rfl rfl rfl ?_
    have e0 : wdA p x = (-2, none) := by unfold wdA; rw [c14]; rfl
    rw [e0] at k
    exact k _ ⟨_, _, _, _, _, _, _, _, _, _, (hs_eq _ _ _), ((hs_ne _ _ (by decide)).trans M16), ((hs_ne _ _ (by decide)).trans M17), ((hs_ne _ _ (by decide)).trans M18), ((hs_ne _ _ (by decide)).trans M19), ((hs_ne _ _ (by decide)).trans M20), ((hs_ne _ _ (by decide)).trans M21), ((hs_ne _ _ (by decide)).trans M22), ((hs_ne _ _ (by decide)).trans M23), ((hs_ne _ _ (by decide)).trans M24), ((hs_ne _ _ (by decide)).trans M25), ((hs_ne _ _ (by decide)).trans M26), ((hs_ne _ _ (by decide)).trans M27), ML, RMh, RKh⟩ ((Fm.rf h).hs _ (by decide))
theorem t_X5_hear {h : rHp} {Q : Option Value → rHp → Prop} {t : Nat → Nat} {ln : Nat} {p : Nat → Nat} {U : Nat → Nat → Nat} {a : Nat} {Kp : Nat → Nat → Nat} {ik : Nat → Bool} {su sp sn : Nat → Nat} {sz : Nat} {d : Int64} (I : MI h t ln p U a Kp ik su sp sn sz d) (O : OKs t ln p U a Kp ik su sp sn sz) (k : ∀ h', MIA h' t ln p U a Kp ik su sp sn sz d (heA p).2 → Fm h h' → Q (some (.int (heA p).1)) h') : Cl M_X5_hear h.1 h.2.1 [.ref 15] h Q := by
  obtain ⟨th, pl, rm, rp, ev, tp, BK, KM, IK, FF, M15, M16, M17, M18, M19, M20, M21, M22, M23, M24, M25, M26, M27, ML, RMh, RKh⟩ := id I
  obtain ⟨Ot, Oln, Op, OU, OK2, Osz, Osu, Osp, Osn⟩ := id O
  refine Cl.of pl_X5 (Nat.le_of_ble_eq_true rfl) (by first | exact Nat.le_refl _ | omega) (by first | exact Nat.le_refl _ | omega) ?_
  refine Rn.aload_n dX5_hear_0 rfl rfl ?_
  refine Rn.iconst dX5_hear_1 rfl ic_0 ?_
  refine Rn.putf p_X5_51 (fun h => by cases h) dX5_hear_2 rfl M15 (Nat.lt_of_le_of_lt (Nat.le_of_ble_eq_true rfl) ML) (fun g => ⟨rfl, rfl⟩) (Nat.le_of_ble_eq_true rfl) ?_
  refine Rn.aload_n dX5_hear_5 rfl rfl ?_
  refine Rn.getf f_X5_19 dX5_hear_6 rfl (hs_eq _ _ _) (Nat.lt_of_le_of_lt (Nat.le_of_ble_eq_true rfl) ML) rfl ?_
  refine Rn.bipush dX5_hear_9 rfl bp_26 ?_
  refine Rn.ialdN dX5_hear_11 rfl ((hs_ne _ _ (by decide)).trans M19) (Nat.lt_of_le_of_lt (Nat.le_of_ble_eq_true rfl) ML) (by omega) (by omega) ?_
  refine Rn.top (pg_26 _) ?_
  have h26l : p 26 < 100000 := by have := Op.2.2.2.2.2.2; omega
  have h27 := Op.2.2.2.1
  refine Rn.bipush dX5_hear_12 rfl bp_m9 ?_
  refine Rn.icmp_ne (tgt := 20) dX5_hear_14 rfl (by decide) (fun c14 => ?_) (fun c14 => ?_)
  · obtain ⟨y, ey⟩ : ∃ y, p 26 = y + 1 := ⟨p 26 - 1, by have : ¬ p 26 = 0 := fun z => c14 (by rw [z]; rfl); omega⟩
    refine Rn.aload_n dX5_hear_20 rfl rfl ?_
    refine Rn.getf f_X5_19 dX5_hear_21 rfl (hs_eq _ _ _) (Nat.lt_of_le_of_lt (Nat.le_of_ble_eq_true rfl) ML) rfl ?_
    refine Rn.bipush dX5_hear_24 rfl bp_27 ?_
    refine Rn.ialdN dX5_hear_26 rfl ((hs_ne _ _ (by decide)).trans M19) (Nat.lt_of_le_of_lt (Nat.le_of_ble_eq_true rfl) ML) (by omega) (by omega) ?_
    refine Rn.top (pg_n _ (by omega) (by omega)) ?_
    refine Rn.bipush dX5_hear_27 rfl bp_8 ?_
    refine Rn.icmp_neN (tgt := 35) dX5_hear_29 rfl (by decide) (by omega) (by omega) (fun c29 => ?_) (fun c29 => ?_)
    · refine Rn.aload_n dX5_hear_35 rfl rfl ?_
      refine Rn.callV (as := []) v_X5_note l_X5_145 ⟨Nat.le_of_ble_eq_true rfl, Nat.le_of_ble_eq_true rfl⟩ dX5_hear_36 rfl rfl (Nat.le_of_ble_eq_true rfl) (hs_eq _ _ _) (Nat.lt_of_le_of_lt (Nat.le_of_ble_eq_true rfl) ML) rfl (Nat.le_refl _) (Nat.le_refl _) (t_X5_note (hs_eq _ _ _) ((hs_ne _ _ (by decide)).trans M19) ((hs_ne _ _ (by decide)).trans M21) ML RMh.1 (fun BK' RN => ?_)) 
      · refine Rn.heap (hs_d1 _ _ _ _ (by decide)) ?_
        refine Rn.aload_n dX5_hear_39 rfl rfl ?_
        refine Rn.getf f_X5_19 dX5_hear_40 rfl ((hs_ne _ _ (by decide)).trans (hs_eq _ _ _)) (Nat.lt_of_le_of_lt (Nat.le_of_ble_eq_true rfl) ML) rfl ?_
        refine Rn.bipush dX5_hear_43 rfl bp_28 ?_
        refine Rn.aload_n dX5_hear_45 rfl rfl ?_
        refine Rn.getf f_X5_19 dX5_hear_46 rfl ((hs_ne _ _ (by decide)).trans (hs_eq _ _ _)) (Nat.lt_of_le_of_lt (Nat.le_of_ble_eq_true rfl) ML) rfl ?_
        refine Rn.bipush dX5_hear_49 rfl bp_27 ?_
        refine Rn.ialdN dX5_hear_51 rfl ((hs_ne _ _ (by decide)).trans ((hs_ne _ _ (by decide)).trans M19)) (Nat.lt_of_le_of_lt (Nat.le_of_ble_eq_true rfl) ML) (by omega) (by omega) ?_
        refine Rn.top (pg_n _ (by omega) (by omega)) ?_
        refine Rn.iaddN dX5_hear_52 rfl ?_
        refine Rn.aload_n dX5_hear_53 rfl rfl ?_
        refine Rn.getf f_X5_19 dX5_hear_54 rfl ((hs_ne _ _ (by decide)).trans (hs_eq _ _ _)) (Nat.lt_of_le_of_lt (Nat.le_of_ble_eq_true rfl) ML) rfl ?_
        refine Rn.bipush dX5_hear_57 rfl bp_26 ?_
        refine Rn.ialdN dX5_hear_59 rfl ((hs_ne _ _ (by decide)).trans ((hs_ne _ _ (by decide)).trans M19)) (Nat.lt_of_le_of_lt (Nat.le_of_ble_eq_true rfl) ML) (by omega) (by omega) ?_
        refine Rn.top (y := nI y) ((pg_26 _).trans (by rw [ey, wi_s])) ?_
        refine Rn.iastN dX5_hear_60 rfl ((hs_ne _ _ (by decide)).trans ((hs_ne _ _ (by decide)).trans M19)) (Nat.lt_of_le_of_lt (Nat.le_of_ble_eq_true rfl) ML) (by omega) (by omega) ?_
        refine Rn.heap (Pa.upd (upd_pg _ _ (by omega) (by omega))) ?_
        refine Rn.aload_n dX5_hear_61 rfl rfl ?_
        refine Rn.getf f_X5_19 dX5_hear_62 rfl ((hs_ne _ _ (by decide)).trans ((hs_ne _ _ (by decide)).trans (hs_eq _ _ _))) (Nat.lt_of_le_of_lt (Nat.le_of_ble_eq_true rfl) ML) rfl ?_
        refine Rn.bipush dX5_hear_65 rfl bp_27 ?_
        refine Rn.dup2 dX5_hear_67 rfl rfl rfl ?_
        refine Rn.ialdN dX5_hear_68 rfl (hs_eq _ _ _) (Nat.lt_of_le_of_lt (Nat.le_of_ble_eq_true rfl) ML) (by omega) (by omega) ?_
        refine Rn.top (pg_n _ (by omega) (by omega)) ?_
        refine Rn.top (congrArg nI (un_ne _ _ (by omega))) ?_
        refine Rn.iconst dX5_hear_69 rfl ic_1 ?_
        refine Rn.iaddN dX5_hear_70 rfl ?_
        refine Rn.iastN dX5_hear_71 rfl (hs_eq _ _ _) (Nat.lt_of_le_of_lt (Nat.le_of_ble_eq_true rfl) ML) (by omega) (by omega) ?_
        refine Rn.heap (Pa.upd (upd_pg _ _ (by omega) (by omega))) ?_
        refine Rn.heap (hs_hs _ _ _ _) ?_
        refine Rn.aload_n dX5_hear_72 rfl rfl ?_
        refine Rn.getf f_X5_19 dX5_hear_73 rfl ((hs_ne _ _ (by decide)).trans ((hs_ne _ _ (by decide)).trans (hs_eq _ _ _))) (Nat.lt_of_le_of_lt (Nat.le_of_ble_eq_true rfl) ML) rfl ?_
        refine Rn.bipush dX5_hear_76 rfl bp_26 ?_
        refine Rn.ialdN dX5_hear_78 rfl (hs_eq _ _ _) (Nat.lt_of_le_of_lt (Nat.le_of_ble_eq_true rfl) ML) (by omega) (by omega) ?_
        refine Rn.top (y := nI y) ((pg_26 _).trans (by rw [un_ne _ _ (by omega), un_ne _ _ (by omega), ey, wi_s])) ?_
        refine Rn.sipush dX5_hear_79 rfl sp_1000 ?_
        refine Rn.iremN dX5_hear_82 rfl (by omega) (by omega) (by omega) ?_
        refine Rn.iret dX5_hear_83 rfl rfl rfl ?_
        have e0 : heA p = (nI (y % 1000), some (ovP p)) := by unfold heA; rw [if_neg (fun z => c14 (by rw [z]; rfl)), if_neg (by omega), ey]; rfl
        rw [e0] at k
        have eov : ovP p = un (un p (28 + p 27) y) 27 (p 27 + 1) := by unfold ovP; rw [ey]; rfl
        rw [eov] at k
        exact k _ ⟨_, _, _, _, _, _, _, _, _, _, ((hs_ne _ _ (by decide)).trans ((hs_ne _ _ (by decide)).trans (hs_eq _ _ _))), ((hs_ne _ _ (by decide)).trans ((hs_ne _ _ (by decide)).trans ((hs_ne _ _ (by decide)).trans M16))), ((hs_ne _ _ (by decide)).trans ((hs_ne _ _ (by decide)).trans ((hs_ne _ _ (by decide)).trans M17))), ((hs_ne _ _ (by decide)).trans ((hs_ne _ _ (by decide)).trans ((hs_ne _ _ (by decide)).trans M18))), (hs_eq _ _ _), ((hs_ne _ _ (by decide)).trans ((hs_ne _ _ (by decide)).trans ((hs_ne _ _ (by decide)).trans M20))), ((hs_ne _ _ (by decide)).trans (hs_eq _ _ _)), ((hs_ne _ _ (by decide)).trans ((hs_ne _ _ (by decide)).trans ((hs_ne _ _ (by decide)).trans M22))), ((hs_ne _ _ (by decide)).trans ((hs_ne _ _ (by decide)).trans ((hs_ne _ _ (by decide)).trans M23))), ((hs_ne _ _ (by decide)).trans ((hs_ne _ _ (by decide)).trans ((hs_ne _ _ (by decide)).trans M24))), ((hs_ne _ _ (by decide)).trans ((hs_ne _ _ (by decide)).trans ((hs_ne _ _ (by decide)).trans M25))), ((hs_ne _ _ (by decide)).trans ((hs_ne _ _ (by decide)).trans ((hs_ne _ _ (by decide)).trans M26))), ((hs_ne _ _ (by decide)).trans ((hs_ne _ _ (by decide)).trans ((hs_ne _ _ (by decide)).trans M27))), ML, (RN U RMh), RKh⟩ ((((Fm.rf h).hs _ (by decide)).hs _ (by decide)).hs _ (by decide))
    · refine Rn.bipush dX5_hear_32 rfl bp_m4 ?_
      refine Rn.iret dX5_hear_34 rfl rfl rfl ?_
      have e0 : heA p = (-4, none) := by unfold heA; rw [if_neg (fun z => c14 (by rw [z]; rfl)), if_pos (by omega)]
      rw [e0] at k
      exact k _ ⟨_, _, _, _, _, _, _, _, _, _, (hs_eq _ _ _), ((hs_ne _ _ (by decide)).trans M16), ((hs_ne _ _ (by decide)).trans M17), ((hs_ne _ _ (by decide)).trans M18), ((hs_ne _ _ (by decide)).trans M19), ((hs_ne _ _ (by decide)).trans M20), ((hs_ne _ _ (by decide)).trans M21), ((hs_ne _ _ (by decide)).trans M22), ((hs_ne _ _ (by decide)).trans M23), ((hs_ne _ _ (by decide)).trans M24), ((hs_ne _ _ (by decide)).trans M25), ((hs_ne _ _ (by decide)).trans M26), ((hs_ne _ _ (by decide)).trans M27), ML, RMh, RKh⟩ ((Fm.rf h).hs _ (by decide))
  · refine Rn.bipush dX5_hear_17 rfl bp_m3 ?_
    refine Rn.iret dX5_hear_19 rfl rfl rfl ?_
    have e0 : heA p = (-3, none) := by unfold heA; rw [if_pos (wi_z h26l c14)]
    rw [e0] at k
    exact k _ ⟨_, _, _, _, _, _, _, _, _, _, (hs_eq _ _ _), ((hs_ne _ _ (by decide)).trans M16), ((hs_ne _ _ (by decide)).trans M17), ((hs_ne _ _ (by decide)).trans M18), ((hs_ne _ _ (by decide)).trans M19), ((hs_ne _ _ (by decide)).trans M20), ((hs_ne _ _ (by decide)).trans M21), ((hs_ne _ _ (by decide)).trans M22), ((hs_ne _ _ (by decide)).trans M23), ((hs_ne _ _ (by decide)).trans M24), ((hs_ne _ _ (by decide)).trans M25), ((hs_ne _ _ (by decide)).trans M26), ((hs_ne _ _ (by decide)).trans M27), ML, RMh, RKh⟩ ((Fm.rf h).hs _ (by decide))
theorem t_X5_renew {h : rHp} {Q : Option Value → rHp → Prop} {t : Nat → Nat} {ln : Nat} {p : Nat → Nat} {U : Nat → Nat → Nat} {a : Nat} {Kp : Nat → Nat → Nat} {ik : Nat → Bool} {su sp sn : Nat → Nat} {sz : Nat} {d : Int64} (I : MI h t ln p U a Kp ik su sp sn sz d) (O : OKs t ln p U a Kp ik su sp sn sz) {x s tt nn : Int32} (k : ∀ h', MIA h' t ln p U a Kp ik su sp sn sz d (reA p x s tt nn).2 → Fm h h' → Q (some (.int (reA p x s tt nn).1)) h') : Cl M_X5_renew h.1 h.2.1 [.ref 15, .int x, .int s, .int tt, .int nn] h Q := by
  obtain ⟨th, pl, rm, rp, ev, tp, BK, KM, IK, FF, M15, M16, M17, M18, M19, M20, M21, M22, M23, M24, M25, M26, M27, ML, RMh, RKh⟩ := id I
  obtain ⟨Ot, Oln, Op, OU, OK2, Osz, Osu, Osp, Osn⟩ := id O
  refine Cl.of pl_X5 (Nat.le_of_ble_eq_true rfl) (by first | exact Nat.le_refl _ | omega) (by first | exact Nat.le_refl _ | omega) ?_
  refine Rn.aload_n dX5_renew_0 rfl rfl ?_
  refine Rn.iconst dX5_renew_1 rfl ic_0 ?_
  refine Rn.putf p_X5_51 (fun h => by cases h) dX5_renew_2 rfl M15 (Nat.lt_of_le_of_lt (Nat.le_of_ble_eq_true rfl) ML) (fun g => ⟨rfl, rfl⟩) (Nat.le_of_ble_eq_true rfl) ?_
  refine Rn.aload_n dX5_renew_5 rfl rfl ?_
  refine Rn.getf f_X5_19 dX5_renew_6 rfl (hs_eq _ _ _) (Nat.lt_of_le_of_lt (Nat.le_of_ble_eq_true rfl) ML) rfl ?_
  refine Rn.iload_n dX5_renew_9 rfl rfl ?_
  refine Rn.callS (as := [_, _]) s_X5_noUser l_X5_75 ⟨Nat.le_of_ble_eq_true rfl, Nat.le_of_ble_eq_true rfl⟩ dX5_renew_10 rfl rfl (Nat.le_of_ble_eq_true rfl) (Nat.le_refl _) (Nat.le_refl _) (t_X5_noUser ⟨((hs_ne _ _ (by decide)).trans M19), by exact (Nat.lt_of_le_of_lt (Nat.le_of_ble_eq_true rfl) ML)⟩ Op.1 ?_)
  refine Rn.if_eqB (tgt := 18) dX5_renew_13 rfl (by decide) (fun c13 => ?_) (fun c13 => ?_)
  · obtain ⟨u, hu, rfl⟩ := hasB_of (bn_f c13)
    have hu4 : u < 4 := by have := Op.1; omega
    have hus := Op.us hu4
    have c0 := bn_f c13
    refine Rn.iload_n dX5_renew_18 rfl rfl ?_
    refine Rn.callS (as := [_]) s_X5_isNumber l_X5_139 ⟨Nat.le_of_ble_eq_true rfl, Nat.le_of_ble_eq_true rfl⟩ dX5_renew_19 rfl rfl (Nat.le_of_ble_eq_true rfl) (Nat.le_refl _) (Nat.le_refl _) (t_X5_isNumber ?_)
    refine Rn.if_eqB (tgt := 45) dX5_renew_22 rfl (by decide) (fun c22 => ?_) (fun c22 => ?_)
    · refine Rn.bipush dX5_renew_45 rfl bp_m2 ?_
      refine Rn.iret dX5_renew_47 rfl rfl rfl ?_
      first | (have e0 : reA p (nI u) s tt nn = (-2, none) := by unfold reA; rw [c0, c22]; rfl); rw [e0] at k; exact k _ ⟨_, _, _, _, _, _, _, _, _, _, (hs_eq _ _ _), ((hs_ne _ _ (by decide)).trans M16), ((hs_ne _ _ (by decide)).trans M17), ((hs_ne _ _ (by decide)).trans M18), ((hs_ne _ _ (by decide)).trans M19), ((hs_ne _ _ (by decide)).trans M20), ((hs_ne _ _ (by decide)).trans M21), ((hs_ne _ _ (by decide)).trans M22), ((hs_ne _ _ (by decide)).trans M23), ((hs_ne _ _ (by decide)).trans M24), ((hs_ne _ _ (by decide)).trans M25), ((hs_ne _ _ (by decide)).trans M26), ((hs_ne _ _ (by decide)).trans M27), ML, RMh, RKh⟩ ((Fm.rf h).hs _ (by decide)) | (have e0 : reA p (nI u) s tt nn = (-2, none) := by unfold reA; rw [c0, c29, Bool.false_and, Bool.and_false]; rfl); rw [e0] at k; exact k _ ⟨_, _, _, _, _, _, _, _, _, _, (hs_eq _ _ _), ((hs_ne _ _ (by decide)).trans M16), ((hs_ne _ _ (by decide)).trans M17), ((hs_ne _ _ (by decide)).trans M18), ((hs_ne _ _ (by decide)).trans M19), ((hs_ne _ _ (by decide)).trans M20), ((hs_ne _ _ (by decide)).trans M21), ((hs_ne _ _ (by decide)).trans M22), ((hs_ne _ _ (by decide)).trans M23), ((hs_ne _ _ (by decide)).trans M24), ((hs_ne _ _ (by decide)).trans M25), ((hs_ne _ _ (by decide)).trans M26), ((hs_ne _ _ (by decide)).trans M27), ML, RMh, RKh⟩ ((Fm.rf h).hs _ (by decide)) | (have e0 : reA p (nI u) s tt nn = (-2, none) := by unfold reA; rw [c0, c42, Bool.and_false, Bool.and_false]; rfl); rw [e0] at k; exact k _ ⟨_, _, _, _, _, _, _, _, _, _, (hs_eq _ _ _), ((hs_ne _ _ (by decide)).trans M16), ((hs_ne _ _ (by decide)).trans M17), ((hs_ne _ _ (by decide)).trans M18), ((hs_ne _ _ (by decide)).trans M19), ((hs_ne _ _ (by decide)).trans M20), ((hs_ne _ _ (by decide)).trans M21), ((hs_ne _ _ (by decide)).trans M22), ((hs_ne _ _ (by decide)).trans M23), ((hs_ne _ _ (by decide)).trans M24), ((hs_ne _ _ (by decide)).trans M25), ((hs_ne _ _ (by decide)).trans M26), ((hs_ne _ _ (by decide)).trans M27), ML, RMh, RKh⟩ ((Fm.rf h).hs _ (by decide))
    · refine Rn.iload_n dX5_renew_25 rfl rfl ?_
      refine Rn.callS (as := [_]) s_X5_isNumber l_X5_139 ⟨Nat.le_of_ble_eq_true rfl, Nat.le_of_ble_eq_true rfl⟩ dX5_renew_26 rfl rfl (Nat.le_of_ble_eq_true rfl) (Nat.le_refl _) (Nat.le_refl _) (t_X5_isNumber ?_)
      refine Rn.if_eqB (tgt := 45) dX5_renew_29 rfl (by decide) (fun c29 => ?_) (fun c29 => ?_)
      · refine Rn.bipush dX5_renew_45 rfl bp_m2 ?_
        refine Rn.iret dX5_renew_47 rfl rfl rfl ?_
        first | (have e0 : reA p (nI u) s tt nn = (-2, none) := by unfold reA; rw [c0, c22]; rfl); rw [e0] at k; exact k _ ⟨_, _, _, _, _, _, _, _, _, _, (hs_eq _ _ _), ((hs_ne _ _ (by decide)).trans M16), ((hs_ne _ _ (by decide)).trans M17), ((hs_ne _ _ (by decide)).trans M18), ((hs_ne _ _ (by decide)).trans M19), ((hs_ne _ _ (by decide)).trans M20), ((hs_ne _ _ (by decide)).trans M21), ((hs_ne _ _ (by decide)).trans M22), ((hs_ne _ _ (by decide)).trans M23), ((hs_ne _ _ (by decide)).trans M24), ((hs_ne _ _ (by decide)).trans M25), ((hs_ne _ _ (by decide)).trans M26), ((hs_ne _ _ (by decide)).trans M27), ML, RMh, RKh⟩ ((Fm.rf h).hs _ (by decide)) | (have e0 : reA p (nI u) s tt nn = (-2, none) := by unfold reA; rw [c0, c29, Bool.false_and, Bool.and_false]; rfl); rw [e0] at k; exact k _ ⟨_, _, _, _, _, _, _, _, _, _, (hs_eq _ _ _), ((hs_ne _ _ (by decide)).trans M16), ((hs_ne _ _ (by decide)).trans M17), ((hs_ne _ _ (by decide)).trans M18), ((hs_ne _ _ (by decide)).trans M19), ((hs_ne _ _ (by decide)).trans M20), ((hs_ne _ _ (by decide)).trans M21), ((hs_ne _ _ (by decide)).trans M22), ((hs_ne _ _ (by decide)).trans M23), ((hs_ne _ _ (by decide)).trans M24), ((hs_ne _ _ (by decide)).trans M25), ((hs_ne _ _ (by decide)).trans M26), ((hs_ne _ _ (by decide)).trans M27), ML, RMh, RKh⟩ ((Fm.rf h).hs _ (by decide)) | (have e0 : reA p (nI u) s tt nn = (-2, none) := by unfold reA; rw [c0, c42, Bool.and_false, Bool.and_false]; rfl); rw [e0] at k; exact k _ ⟨_, _, _, _, _, _, _, _, _, _, (hs_eq _ _ _), ((hs_ne _ _ (by decide)).trans M16), ((hs_ne _ _ (by decide)).trans M17), ((hs_ne _ _ (by decide)).trans M18), ((hs_ne _ _ (by decide)).trans M19), ((hs_ne _ _ (by decide)).trans M20), ((hs_ne _ _ (by decide)).trans M21), ((hs_ne _ _ (by decide)).trans M22), ((hs_ne _ _ (by decide)).trans M23), ((hs_ne _ _ (by decide)).trans M24), ((hs_ne _ _ (by decide)).trans M25), ((hs_ne _ _ (by decide)).trans M26), ((hs_ne _ _ (by decide)).trans M27), ML, RMh, RKh⟩ ((Fm.rf h).hs _ (by decide))
      · refine Rn.iload dX5_renew_32 rfl rfl ?_
        refine Rn.i2l dX5_renew_34 rfl ?_
        refine Rn.lconst dX5_renew_35 rfl lc_1 ?_
        refine Rn.ldc2 dX5_renew_36 rfl k_X5_148 ?_
        refine Rn.topl lL_30 ?_
        refine Rn.callS (as := [_, _, _]) s_X5_in l_X5_57 ⟨Nat.le_of_ble_eq_true rfl, Nat.le_of_ble_eq_true rfl⟩ dX5_renew_39 rfl rfl (Nat.le_of_ble_eq_true rfl) (Nat.le_refl _) (Nat.le_refl _) (t_X5_in ?_)
        refine Rn.top (congrArg bi (inL_W (by omega) (by omega))) ?_
        refine Rn.if_neB (tgt := 48) dX5_renew_42 rfl (by decide) (fun c42 => ?_) (fun c42 => ?_)
        · obtain ⟨y1, hy1, rfl⟩ := isW_of c22 (by omega)
          obtain ⟨y2, hy2, rfl⟩ := isW_of c29 (by omega)
          obtain ⟨y3, hy3, hy4, rfl⟩ := isW_of2 c42 (by omega) (by omega)
          refine Rn.aload_n dX5_renew_48 rfl rfl ?_
          refine Rn.getf f_X5_19 dX5_renew_49 rfl (hs_eq _ _ _) (Nat.lt_of_le_of_lt (Nat.le_of_ble_eq_true rfl) ML) rfl ?_
          refine Rn.iload_n dX5_renew_52 rfl rfl ?_
          refine Rn.callS (as := [_, _]) s_X5_hasPass l_X5_79 ⟨Nat.le_of_ble_eq_true rfl, Nat.le_of_ble_eq_true rfl⟩ dX5_renew_53 rfl rfl (Nat.le_of_ble_eq_true rfl) (Nat.le_refl _) (Nat.le_refl _) (t_X5_hasPass ⟨((hs_ne _ _ (by decide)).trans M19), by exact (Nat.lt_of_le_of_lt (Nat.le_of_ble_eq_true rfl) ML)⟩ Op ?_)
          refine Rn.if_neB (tgt := 62) dX5_renew_56 rfl (by decide) (fun c56 => ?_) (fun c56 => ?_)
          · refine Rn.aload_n dX5_renew_62 rfl rfl ?_
            refine Rn.callV (as := []) v_X5_note l_X5_145 ⟨Nat.le_of_ble_eq_true rfl, Nat.le_of_ble_eq_true rfl⟩ dX5_renew_63 rfl rfl (Nat.le_of_ble_eq_true rfl) (hs_eq _ _ _) (Nat.lt_of_le_of_lt (Nat.le_of_ble_eq_true rfl) ML) rfl (Nat.le_refl _) (Nat.le_refl _) (t_X5_note (hs_eq _ _ _) ((hs_ne _ _ (by decide)).trans M19) ((hs_ne _ _ (by decide)).trans M21) ML RMh.1 (fun BK' RN => ?_)) 
            · refine Rn.heap (hs_d1 _ _ _ _ (by decide)) ?_
              refine Rn.aload_n dX5_renew_66 rfl rfl ?_
              refine Rn.getf f_X5_19 dX5_renew_67 rfl ((hs_ne _ _ (by decide)).trans (hs_eq _ _ _)) (Nat.lt_of_le_of_lt (Nat.le_of_ble_eq_true rfl) ML) rfl ?_
              refine Rn.iload_n dX5_renew_70 rfl rfl ?_
              refine Rn.callS (as := [_, _]) s_X5_sendOn l_X5_120 ⟨Nat.le_of_ble_eq_true rfl, Nat.le_of_ble_eq_true rfl⟩ dX5_renew_71 rfl rfl (Nat.le_of_ble_eq_true rfl) (Nat.le_refl _) (Nat.le_refl _) (t_X5_sendOn ⟨((hs_ne _ _ (by decide)).trans ((hs_ne _ _ (by decide)).trans M19)), by exact (Nat.lt_of_le_of_lt (Nat.le_of_ble_eq_true rfl) ML)⟩ Op hu4 ((ownB_nI (by omega)).symm.trans c56) ?_)
              have hk30 : seK p u ≤ 30 := seK_le Op hu4
              refine Rn.istore dX5_renew_74 rfl (Nat.le_of_ble_eq_true rfl) ?_
              refine Rn.iload dX5_renew_76 rfl rfl ?_
              refine Rn.if_leN (tgt := 93) dX5_renew_78 rfl (by decide) (by omega) (fun c78 => ?_) (fun c78 => ?_)
              · refine Rn.iload dX5_renew_93 rfl rfl ?_
                refine Rn.iret dX5_renew_95 rfl rfl rfl ?_
                have e0 : reA p (nI u) (nI y1) (nI y2) (nI y3) = (nI (seK p u), some (if 0 < seK p u then bgP (seP p u) u y1 y2 y3 else seP p u)) := by unfold reA; rw [c0, c22, c29, c42, c56, xn_nI (by omega), xn_nI (by omega), xn_nI (by omega), xn_nI (by omega)]; rfl
                rw [e0, if_neg (by omega)] at k
                exact k _ ⟨_, _, _, _, _, _, _, _, _, _, ((hs_ne _ _ (by decide)).trans ((hs_ne _ _ (by decide)).trans (hs_eq _ _ _))), ((hs_ne _ _ (by decide)).trans ((hs_ne _ _ (by decide)).trans ((hs_ne _ _ (by decide)).trans M16))), ((hs_ne _ _ (by decide)).trans ((hs_ne _ _ (by decide)).trans ((hs_ne _ _ (by decide)).trans M17))), ((hs_ne _ _ (by decide)).trans ((hs_ne _ _ (by decide)).trans ((hs_ne _ _ (by decide)).trans M18))), (hs_eq _ _ _), ((hs_ne _ _ (by decide)).trans ((hs_ne _ _ (by decide)).trans ((hs_ne _ _ (by decide)).trans M20))), ((hs_ne _ _ (by decide)).trans (hs_eq _ _ _)), ((hs_ne _ _ (by decide)).trans ((hs_ne _ _ (by decide)).trans ((hs_ne _ _ (by decide)).trans M22))), ((hs_ne _ _ (by decide)).trans ((hs_ne _ _ (by decide)).trans ((hs_ne _ _ (by decide)).trans M23))), ((hs_ne _ _ (by decide)).trans ((hs_ne _ _ (by decide)).trans ((hs_ne _ _ (by decide)).trans M24))), ((hs_ne _ _ (by decide)).trans ((hs_ne _ _ (by decide)).trans ((hs_ne _ _ (by decide)).trans M25))), ((hs_ne _ _ (by decide)).trans ((hs_ne _ _ (by decide)).trans ((hs_ne _ _ (by decide)).trans M26))), ((hs_ne _ _ (by decide)).trans ((hs_ne _ _ (by decide)).trans ((hs_ne _ _ (by decide)).trans M27))), ML, (RN U RMh), RKh⟩ ((((Fm.rf h).hs _ (by decide)).hs _ (by decide)).hs _ (by decide))
              · refine Rn.aload_n dX5_renew_81 rfl rfl ?_
                refine Rn.getf f_X5_19 dX5_renew_82 rfl ((hs_ne _ _ (by decide)).trans ((hs_ne _ _ (by decide)).trans (hs_eq _ _ _))) (Nat.lt_of_le_of_lt (Nat.le_of_ble_eq_true rfl) ML) rfl ?_
                refine Rn.iload_n dX5_renew_85 rfl rfl ?_
                refine Rn.iload_n dX5_renew_86 rfl rfl ?_
                refine Rn.iload_n dX5_renew_87 rfl rfl ?_
                refine Rn.iload dX5_renew_88 rfl rfl ?_
                refine Rn.callS (as := [_, _, _, _, _]) s_X5_layUser l_X5_101 ⟨Nat.le_of_ble_eq_true rfl, Nat.le_of_ble_eq_true rfl⟩ dX5_renew_90 rfl rfl (Nat.le_of_ble_eq_true rfl) (Nat.le_refl _) (Nat.le_refl _) (t_X5_layUser (u := u) (s := y1) (t := y2) (n := y3) (show Pa (ph (hs (hs h 15 _) 21 _) 19 (seP p u)) 19 (seP p u) from ⟨(hs_eq _ _ _), by exact (Nat.lt_of_le_of_lt (Nat.le_of_ble_eq_true rfl) ML)⟩) hu4 (by omega) (by omega) (by omega) ?_)
                refine Rn.heap (hs_hs _ _ _ _) ?_
                refine Rn.iload dX5_renew_93 rfl rfl ?_
                refine Rn.iret dX5_renew_95 rfl rfl rfl ?_
                have e0 : reA p (nI u) (nI y1) (nI y2) (nI y3) = (nI (seK p u), some (if 0 < seK p u then bgP (seP p u) u y1 y2 y3 else seP p u)) := by unfold reA; rw [c0, c22, c29, c42, c56, xn_nI (by omega), xn_nI (by omega), xn_nI (by omega), xn_nI (by omega)]; rfl
                rw [e0, if_pos (by omega)] at k
                exact k _ ⟨_, _, _, _, _, _, _, _, _, _, ((hs_ne _ _ (by decide)).trans ((hs_ne _ _ (by decide)).trans (hs_eq _ _ _))), ((hs_ne _ _ (by decide)).trans ((hs_ne _ _ (by decide)).trans ((hs_ne _ _ (by decide)).trans M16))), ((hs_ne _ _ (by decide)).trans ((hs_ne _ _ (by decide)).trans ((hs_ne _ _ (by decide)).trans M17))), ((hs_ne _ _ (by decide)).trans ((hs_ne _ _ (by decide)).trans ((hs_ne _ _ (by decide)).trans M18))), (hs_eq _ _ _), ((hs_ne _ _ (by decide)).trans ((hs_ne _ _ (by decide)).trans ((hs_ne _ _ (by decide)).trans M20))), ((hs_ne _ _ (by decide)).trans (hs_eq _ _ _)), ((hs_ne _ _ (by decide)).trans ((hs_ne _ _ (by decide)).trans ((hs_ne _ _ (by decide)).trans M22))), ((hs_ne _ _ (by decide)).trans ((hs_ne _ _ (by decide)).trans ((hs_ne _ _ (by decide)).trans M23))), ((hs_ne _ _ (by decide)).trans ((hs_ne _ _ (by decide)).trans ((hs_ne _ _ (by decide)).trans M24))), ((hs_ne _ _ (by decide)).trans ((hs_ne _ _ (by decide)).trans ((hs_ne _ _ (by decide)).trans M25))), ((hs_ne _ _ (by decide)).trans ((hs_ne _ _ (by decide)).trans ((hs_ne _ _ (by decide)).trans M26))), ((hs_ne _ _ (by decide)).trans ((hs_ne _ _ (by decide)).trans ((hs_ne _ _ (by decide)).trans M27))), ML, (RN U RMh), RKh⟩ ((((Fm.rf h).hs _ (by decide)).hs _ (by decide)).hs _ (by decide))
          · refine Rn.bipush dX5_renew_59 rfl bp_m3 ?_
            refine Rn.iret dX5_renew_61 rfl rfl rfl ?_
            have e0 : reA p (nI u) (nI y1) (nI y2) (nI y3) = (-3, none) := by unfold reA; rw [c0, c22, c29, c42, c56]; rfl
            rw [e0] at k
            exact k _ ⟨_, _, _, _, _, _, _, _, _, _, (hs_eq _ _ _), ((hs_ne _ _ (by decide)).trans M16), ((hs_ne _ _ (by decide)).trans M17), ((hs_ne _ _ (by decide)).trans M18), ((hs_ne _ _ (by decide)).trans M19), ((hs_ne _ _ (by decide)).trans M20), ((hs_ne _ _ (by decide)).trans M21), ((hs_ne _ _ (by decide)).trans M22), ((hs_ne _ _ (by decide)).trans M23), ((hs_ne _ _ (by decide)).trans M24), ((hs_ne _ _ (by decide)).trans M25), ((hs_ne _ _ (by decide)).trans M26), ((hs_ne _ _ (by decide)).trans M27), ML, RMh, RKh⟩ ((Fm.rf h).hs _ (by decide))
        · refine Rn.bipush dX5_renew_45 rfl bp_m2 ?_
          refine Rn.iret dX5_renew_47 rfl rfl rfl ?_
          first | (have e0 : reA p (nI u) s tt nn = (-2, none) := by unfold reA; rw [c0, c22]; rfl); rw [e0] at k; exact k _ ⟨_, _, _, _, _, _, _, _, _, _, (hs_eq _ _ _), ((hs_ne _ _ (by decide)).trans M16), ((hs_ne _ _ (by decide)).trans M17), ((hs_ne _ _ (by decide)).trans M18), ((hs_ne _ _ (by decide)).trans M19), ((hs_ne _ _ (by decide)).trans M20), ((hs_ne _ _ (by decide)).trans M21), ((hs_ne _ _ (by decide)).trans M22), ((hs_ne _ _ (by decide)).trans M23), ((hs_ne _ _ (by decide)).trans M24), ((hs_ne _ _ (by decide)).trans M25), ((hs_ne _ _ (by decide)).trans M26), ((hs_ne _ _ (by decide)).trans M27), ML, RMh, RKh⟩ ((Fm.rf h).hs _ (by decide)) | (have e0 : reA p (nI u) s tt nn = (-2, none) := by unfold reA; rw [c0, c29, Bool.false_and, Bool.and_false]; rfl); rw [e0] at k; exact k _ ⟨_, _, _, _, _, _, _, _, _, _, (hs_eq _ _ _), ((hs_ne _ _ (by decide)).trans M16), ((hs_ne _ _ (by decide)).trans M17), ((hs_ne _ _ (by decide)).trans M18), ((hs_ne _ _ (by decide)).trans M19), ((hs_ne _ _ (by decide)).trans M20), ((hs_ne _ _ (by decide)).trans M21), ((hs_ne _ _ (by decide)).trans M22), ((hs_ne _ _ (by decide)).trans M23), ((hs_ne _ _ (by decide)).trans M24), ((hs_ne _ _ (by decide)).trans M25), ((hs_ne _ _ (by decide)).trans M26), ((hs_ne _ _ (by decide)).trans M27), ML, RMh, RKh⟩ ((Fm.rf h).hs _ (by decide)) | (have e0 : reA p (nI u) s tt nn = (-2, none) := by unfold reA; rw [c0, c42, Bool.and_false, Bool.and_false]; rfl); rw [e0] at k; exact k _ ⟨_, _, _, _, _, _, _, _, _, _, (hs_eq _ _ _), ((hs_ne _ _ (by decide)).trans M16), ((hs_ne _ _ (by decide)).trans M17), ((hs_ne _ _ (by decide)).trans M18), ((hs_ne _ _ (by decide)).trans M19), ((hs_ne _ _ (by decide)).trans M20), ((hs_ne _ _ (by decide)).trans M21), ((hs_ne _ _ (by decide)).trans M22), ((hs_ne _ _ (by decide)).trans M23), ((hs_ne _ _ (by decide)).trans M24), ((hs_ne _ _ (by decide)).trans M25), ((hs_ne _ _ (by decide)).trans M26), ((hs_ne _ _ (by decide)).trans M27), ML, RMh, RKh⟩ ((Fm.rf h).hs _ (by decide))
  · refine Rn.iconst dX5_renew_16 rfl ic_m1 ?_
    refine Rn.iret dX5_renew_17 rfl rfl rfl ?_
    have e0 : reA p x s tt nn = (-1, none) := by unfold reA; rw [bn_t c13]; rfl
    rw [e0] at k
    exact k _ ⟨_, _, _, _, _, _, _, _, _, _, (hs_eq _ _ _), ((hs_ne _ _ (by decide)).trans M16), ((hs_ne _ _ (by decide)).trans M17), ((hs_ne _ _ (by decide)).trans M18), ((hs_ne _ _ (by decide)).trans M19), ((hs_ne _ _ (by decide)).trans M20), ((hs_ne _ _ (by decide)).trans M21), ((hs_ne _ _ (by decide)).trans M22), ((hs_ne _ _ (by decide)).trans M23), ((hs_ne _ _ (by decide)).trans M24), ((hs_ne _ _ (by decide)).trans M25), ((hs_ne _ _ (by decide)).trans M26), ((hs_ne _ _ (by decide)).trans M27), ML, RMh, RKh⟩ ((Fm.rf h).hs _ (by decide))
