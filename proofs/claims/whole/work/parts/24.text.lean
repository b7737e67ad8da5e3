/-! ===== the text and its reading ===== -/
theorem nI_m9 {a : Nat} (ha : a < 2147483648) : ¬ nI a = -9 := by
  intro e
  have e2 := congrArg Int32.toInt e
  rw [nI_toInt ha] at e2
  have : (-9 : Int32).toInt = -9 := by decide
  omega
def na (f : Nat → Nat) : Nat → Int32 := fun i => nI (f i)
theorem upd_na (f : Nat → Nat) (i x : Nat) : upd (na f) i (nI x) = na (un f i x) := by
  funext j
  show (if j = i then nI x else nI (f j)) = nI (if j = i then x else f j)
  split <;> rfl
def Tx (h : rHp) (t : Nat → Nat) (ln pl : Nat) : Prop := h.2.2 1 = .inr (.inr (3, [.ref 2, .int (nI ln), .int (nI pl)])) ∧ h.2.2 2 = .inl (80, na t) ∧ 1 < h.1 ∧ 2 < h.1
def tp (h : rHp) (ln pl : Nat) : rHp := hs h 1 (.inr (.inr (3, [.ref 2, .int (nI ln), .int (nI pl)])))
theorem Tx.put {h : rHp} {t : Nat → Nat} {ln pl : Nat} (T : Tx h t ln pl) (ln' pl' : Nat) : Tx (tp h ln' pl') t ln' pl' := ⟨hs_eq _ _ _, (hs_ne h _ (by decide)).trans T.2.1, T.2.2.1, T.2.2.2⟩
theorem tp_tp (h : rHp) (a b c d : Nat) : tp (tp h a b) c d = tp h c d := hs_hs _ _ _ _
theorem Tx.same {h : rHp} {t : Nat → Nat} {ln pl : Nat} (T : Tx h t ln pl) : tp h ln pl = h := hs_self h T.1
theorem hs_comm (h : rHp) {i j : Nat} (c d : rCell) (hij : i ≠ j) : hs (hs h i c) j d = hs (hs h j d) i c := by
  show (h.1, h.2.1, _) = (h.1, h.2.1, _)
  congr 2
  funext k
  show (if k = j then d else if k = i then c else h.2.2 k) = if k = i then c else if k = j then d else h.2.2 k
  by_cases h1 : k = j
  · rw [if_pos h1, if_neg (by omega), if_pos h1]
  · rw [if_neg h1, if_neg h1]
theorem Tx.other {h : rHp} {t : Nat → Nat} {ln pl i : Nat} {c : rCell} (T : Tx h t ln pl) (h1 : 1 ≠ i) (h2 : 2 ≠ i) : Tx (hs h i c) t ln pl := ⟨(hs_ne h _ h1).trans T.1, (hs_ne h _ h2).trans T.2.1, T.2.2.1, T.2.2.2⟩
theorem Hl.other {h : rHp} {q i : Nat} {p : Nat → Nat} {c : rCell} (H : Hl h q p) (h1 : q ≠ i) (h2 : q + 1 ≠ i) : Hl (hs h i c) q p := ⟨(hs_ne h _ h1).trans H.1, (hs_ne h _ h2).trans H.2.1, H.2.2.1, H.2.2.2⟩
/-- text and hall together -/
def ht (h : rHp) (q ln pl : Nat) (p : Nat → Nat) : rHp := hp (tp h ln pl) q p
theorem ht_tp (h : rHp) {q : Nat} (hq : 1 < q) (ln pl : Nat) (p : Nat → Nat) (ln' pl' : Nat) : tp (ht h q ln pl p) ln' pl' = ht h q ln' pl' p := by
  show hs (hs (hs h 1 _) (q + 1) _) 1 _ = hs (hs h 1 _) (q + 1) _
  rw [hs_comm (hs h 1 _) _ _ (by omega), hs_hs]
theorem ht_hp (h : rHp) (q ln pl : Nat) (p p' : Nat → Nat) : hp (ht h q ln pl p) q p' = ht h q ln pl p' := hp_hp _ _ _ _
theorem ht_T {h : rHp} {q : Nat} (hq : 1 < q) {t : Nat → Nat} {ln pl : Nat} (T : Tx h t ln pl) (ln' pl' : Nat) (p : Nat → Nat) : Tx (ht h q ln' pl' p) t ln' pl' := (T.put ln' pl').other (by omega) (by omega)
theorem ht_H {h : rHp} {q : Nat} (hq : 1 < q) {p : Nat → Nat} (H : Hl h q p) (ln' pl' : Nat) (p' : Nat → Nat) : Hl (ht h q ln' pl' p') q p' := Hl.put (H.other (by omega) (by omega)) p'
/-- the letter where reading stands, one more; 0 at the end -/
def nlN (t : Nat → Nat) (ln pl : Nat) : Nat := if pl < ln then t pl + 1 else 0
/-- a figure, one more; 0: there is none -/
def fgN (t : Nat → Nat) (ln pl lo hi : Nat) : Nat := if pl < ln ∧ 48 + lo ≤ t pl ∧ t pl ≤ 48 + hi then t pl - 48 + 1 else 0
theorem wi_toInt {x : Nat} (hx : x < 100000) : (wi x).toInt = if x = 0 then -9 else (x : Int) - 1 := by
  by_cases h : x = 0
  · rw [if_pos h, h]; decide
  · obtain ⟨y, rfl⟩ : ∃ y, x = y + 1 := ⟨x - 1, by omega⟩
    rw [if_neg h, wi_s, nI_toInt (by omega)]
    omega
theorem wi_sub {x : Nat} (hx : x < 100000) : (wi x - nI 48).toInt = (wi x).toInt - 48 := by
  have h1 := wi_toInt hx
  have h2 : (nI 48).toInt = 48 := nI_toInt (by omega)
  rw [Jvm.Kit.i32_sub (by rw [h1, h2]; split <;> omega) (by rw [h1, h2]; split <;> omega), h2]
theorem fg_isW {t : Nat → Nat} {ln pl lo hi : Nat} (ht : ∀ i, t i < 256) (hlo : lo < 10) (hhi : hi < 10) : isW (wi (nlN t ln pl) - nI 48) (nI lo) (nI hi) = decide (fgN t ln pl lo hi ≠ 0) := by
  have h1 := ht pl
  have h2 : nlN t ln pl < 100000 := by unfold nlN; split <;> omega
  unfold isW
  rw [wi_sub h2, wi_toInt h2, nI_toInt (by omega), nI_toInt (by omega)]
  congr 1
  apply propext
  unfold nlN fgN
  by_cases h3 : pl < ln
  · rw [if_pos h3, if_neg (by omega)]
    by_cases h4 : 48 + lo ≤ t pl ∧ t pl ≤ 48 + hi
    · rw [if_pos ⟨h3, h4⟩]; constructor
      · intro _; omega
      · intro _; omega
    · rw [if_neg (fun z => h4 z.2)]; constructor
      · intro z; exact absurd ⟨by omega, by omega⟩ h4
      · intro z; exact absurd rfl z
  · rw [if_neg h3, if_pos rfl, if_neg (fun z => h3 z.1)]; constructor
    · intro z; omega
    · intro z; exact absurd rfl z
theorem fg_val {t : Nat → Nat} {ln pl lo hi a : Nat} (ht : ∀ i, t i < 256) (h : fgN t ln pl lo hi = a + 1) : wi (nlN t ln pl) - nI 48 = nI a ∧ a ≤ hi ∧ lo ≤ a ∧ pl < ln := by
  unfold fgN at h
  split at h
  · rename_i h1
    have e : t pl = 48 + a := by omega
    unfold nlN
    rw [if_pos h1.1, wi_s, e, pk_sub (by omega)]
    exact ⟨by congr 1; omega, by omega, by omega, h1.1⟩
  · omega
def rdN (t : Nat → Nat) (ln pl : Nat) : Nat × Nat :=
  if fgN t ln pl 0 2 = 0 then (0, pl) else
  if fgN t ln (pl + 1) 0 (if fgN t ln pl 0 2 = 3 then 5 else 9) = 0 then (0, pl + 1) else
  if fgN t ln (pl + 2) 0 (if fgN t ln pl 0 2 = 3 ∧ fgN t ln (pl + 1) 0 5 = 6 then 0 else 9) = 0 then (0, pl + 2) else
  (100 * (fgN t ln pl 0 2 - 1) + 10 * (fgN t ln (pl + 1) 0 (if fgN t ln pl 0 2 = 3 then 5 else 9) - 1) + (fgN t ln (pl + 2) 0 (if fgN t ln pl 0 2 = 3 ∧ fgN t ln (pl + 1) 0 5 = 6 then 0 else 9) - 1) + 1, pl + 3)
theorem rdN_0 {t : Nat → Nat} {ln pl : Nat} (e : fgN t ln pl 0 2 = 0) : rdN t ln pl = (0, pl) := by unfold rdN; rw [if_pos e]
theorem rdN_1 {t : Nat → Nat} {ln pl a hb : Nat} (e : fgN t ln pl 0 2 = a + 1) (hh : hb = if a = 2 then 5 else 9) (e2 : fgN t ln (pl + 1) 0 hb = 0) : rdN t ln pl = (0, pl + 1) := by
  unfold rdN
  have : (if fgN t ln pl 0 2 = 3 then 5 else 9) = hb := by rw [e, hh]; by_cases h : a = 2 <;> simp [h]
  rw [if_neg (by omega), this, if_pos e2]
theorem rdN_2 {t : Nat → Nat} {ln pl a b hb hc : Nat} (e : fgN t ln pl 0 2 = a + 1) (hh : hb = if a = 2 then 5 else 9) (e2 : fgN t ln (pl + 1) 0 hb = b + 1) (hh2 : hc = if a = 2 ∧ b = 5 then 0 else 9) (e3 : fgN t ln (pl + 2) 0 hc = 0) : rdN t ln pl = (0, pl + 2) := by
  unfold rdN
  have h1 : (if fgN t ln pl 0 2 = 3 then 5 else 9) = hb := by rw [e, hh]; by_cases h : a = 2 <;> simp [h]
  have h2 : (if fgN t ln pl 0 2 = 3 ∧ fgN t ln (pl + 1) 0 5 = 6 then 0 else 9) = hc := by
    rw [e, hh2]
    by_cases h : a = 2
    · rw [if_pos h] at hh; rw [hh] at e2; rw [e2]; simp [h]
    · rw [if_neg (fun z => h (by omega)), if_neg (fun z => h z.1)]
  rw [if_neg (by omega), h1, if_neg (by omega), h2, if_pos e3]
theorem rdN_3 {t : Nat → Nat} {ln pl a b c hb hc : Nat} (e : fgN t ln pl 0 2 = a + 1) (hh : hb = if a = 2 then 5 else 9) (e2 : fgN t ln (pl + 1) 0 hb = b + 1) (hh2 : hc = if a = 2 ∧ b = 5 then 0 else 9) (e3 : fgN t ln (pl + 2) 0 hc = c + 1) : rdN t ln pl = (100 * a + 10 * b + c + 1, pl + 3) := by
  unfold rdN
  have h1 : (if fgN t ln pl 0 2 = 3 then 5 else 9) = hb := by rw [e, hh]; by_cases h : a = 2 <;> simp [h]
  have h2 : (if fgN t ln pl 0 2 = 3 ∧ fgN t ln (pl + 1) 0 5 = 6 then 0 else 9) = hc := by
    rw [e, hh2]
    by_cases h : a = 2
    · rw [if_pos h] at hh; rw [hh] at e2; rw [e2]; simp [h]
    · rw [if_neg (fun z => h (by omega)), if_neg (fun z => h z.1)]
  rw [if_neg (by omega), h1, if_neg (by omega), h2, if_neg (by omega), e, e2, e3]
  congr 1
theorem rd_lt {a b c hb hc : Nat} (ha : a ≤ 2) (hb1 : b ≤ hb) (hc1 : c ≤ hc) (hh : hb = if a = 2 then 5 else 9) (hh2 : hc = if a = 2 ∧ b = 5 then 0 else 9) : 100 * a + 10 * b + c < 251 := by
  by_cases h : a = 2
  · rw [if_pos h] at hh
    by_cases h2 : b = 5
    · rw [if_pos ⟨h, h2⟩] at hh2; omega
    · rw [if_neg (fun z => h2 z.2)] at hh2; omega
  · rw [if_neg h] at hh
    rw [if_neg (fun z => h z.1)] at hh2; omega
/-- a row's length: two figures, 01 to 30 -/
def rlN (t : Nat → Nat) (ln pl : Nat) : Nat × Nat :=
  if fgN t ln pl 0 3 = 0 then (0, pl) else
  if fgN t ln (pl + 1) (if fgN t ln pl 0 3 = 1 then 1 else 0) (if fgN t ln pl 0 3 = 4 then 0 else 9) = 0 then (0, pl + 1) else
  (10 * (fgN t ln pl 0 3 - 1) + (fgN t ln (pl + 1) (if fgN t ln pl 0 3 = 1 then 1 else 0) (if fgN t ln pl 0 3 = 4 then 0 else 9) - 1) + 1, pl + 2)
theorem rlN_0 {t : Nat → Nat} {ln pl : Nat} (e : fgN t ln pl 0 3 = 0) : rlN t ln pl = (0, pl) := by unfold rlN; rw [if_pos e]
theorem rlN_1 {t : Nat → Nat} {ln pl a lo hi : Nat} (e : fgN t ln pl 0 3 = a + 1) (h1 : lo = if a = 0 then 1 else 0) (h2 : hi = if a = 3 then 0 else 9) (e2 : fgN t ln (pl + 1) lo hi = 0) : rlN t ln pl = (0, pl + 1) := by
  unfold rlN
  have g1 : (if fgN t ln pl 0 3 = 1 then 1 else 0) = lo := by rw [e, h1]; by_cases h : a = 0 <;> simp [h]
  have g2 : (if fgN t ln pl 0 3 = 4 then 0 else 9) = hi := by rw [e, h2]; by_cases h : a = 3 <;> simp [h]
  rw [if_neg (by omega), g1, g2, if_pos e2]
theorem rlN_2 {t : Nat → Nat} {ln pl a b lo hi : Nat} (e : fgN t ln pl 0 3 = a + 1) (h1 : lo = if a = 0 then 1 else 0) (h2 : hi = if a = 3 then 0 else 9) (e2 : fgN t ln (pl + 1) lo hi = b + 1) : rlN t ln pl = (10 * a + b + 1, pl + 2) := by
  unfold rlN
  have g1 : (if fgN t ln pl 0 3 = 1 then 1 else 0) = lo := by rw [e, h1]; by_cases h : a = 0 <;> simp [h]
  have g2 : (if fgN t ln pl 0 3 = 4 then 0 else 9) = hi := by rw [e, h2]; by_cases h : a = 3 <;> simp [h]
  rw [if_neg (by omega), g1, g2, if_neg (by omega), e, e2]
  congr 1
theorem rl_bd {a b lo hi : Nat} (ha : a ≤ 3) (hb1 : lo ≤ b) (hb2 : b ≤ hi) (h1 : lo = if a = 0 then 1 else 0) (h2 : hi = if a = 3 then 0 else 9) : 1 ≤ 10 * a + b ∧ 10 * a + b ≤ 30 := by
  by_cases h : a = 0
  · rw [if_pos h] at h1; rw [if_neg (by omega)] at h2; omega
  · by_cases h3 : a = 3
    · rw [if_pos h3] at h2; rw [if_neg h] at h1; omega
    · rw [if_neg h3] at h2; omega
theorem t_X3_nextLetter {h : rHp} {Q : Option Value → rHp → Prop} {t : Nat → Nat} {ln pl : Nat} (T : Tx h t ln pl) (hln : ln ≤ 80) (htl : ∀ i, t i < 256) (hpl : pl < 1000) (k : Q (some (.int (wi (nlN t ln pl)))) h) : Cl M_X3_nextLetter h.1 h.2.1 [.ref 1] h Q := by
  refine Cl.of pl_X3 (Nat.le_of_ble_eq_true rfl) (by first | exact Nat.le_refl _ | omega) (by first | exact Nat.le_refl _ | omega) ?_
  refine Rn.aload_n dX3_nextLetter_0 rfl rfl ?_
  refine Rn.getf f_X3_19 dX3_nextLetter_1 rfl T.1 T.2.2.1 rfl ?_
  refine Rn.if_ltN (tgt := 39) dX3_nextLetter_4 rfl (by decide) (by omega) (fun c4 => ?_) (fun c4 => ?_)
  · first | omega | exact False.elim c4
  · refine Rn.aload_n dX3_nextLetter_7 rfl rfl ?_
    refine Rn.getf f_X3_19 dX3_nextLetter_8 rfl T.1 T.2.2.1 rfl ?_
    refine Rn.aload_n dX3_nextLetter_11 rfl rfl ?_
    refine Rn.getf f_X3_15 dX3_nextLetter_12 rfl T.1 T.2.2.1 rfl ?_
    refine Rn.icmp_geN (tgt := 39) dX3_nextLetter_15 rfl (by decide) (by omega) (by omega) (fun c15 => ?_) (fun c15 => ?_)
    · refine Rn.bipush dX3_nextLetter_39 rfl bp_m9 ?_
      refine Rn.iret dX3_nextLetter_41 rfl rfl rfl ?_
      first | exact rn_fin k (by unfold nlN; rw [if_neg (by omega)]; rfl) rfl | exact rn_fin k (by unfold nlN; rw [if_pos (by omega)]; rfl) rfl
    · refine Rn.aload_n dX3_nextLetter_18 rfl rfl ?_
      refine Rn.getf f_X3_19 dX3_nextLetter_19 rfl T.1 T.2.2.1 rfl ?_
      refine Rn.bipush dX3_nextLetter_22 rfl bp_80 ?_
      refine Rn.icmp_geN (tgt := 39) dX3_nextLetter_24 rfl (by decide) (by omega) (by omega) (fun c24 => ?_) (fun c24 => ?_)
      · first | omega | exact False.elim c24
      · refine Rn.aload_n dX3_nextLetter_27 rfl rfl ?_
        refine Rn.getf f_X3_11 dX3_nextLetter_28 rfl T.1 T.2.2.1 rfl ?_
        refine Rn.aload_n dX3_nextLetter_31 rfl rfl ?_
        refine Rn.getf f_X3_19 dX3_nextLetter_32 rfl T.1 T.2.2.1 rfl ?_
        refine Rn.ialdN dX3_nextLetter_35 rfl T.2.1 T.2.2.2 (by omega) (by omega) ?_
        refine Rn.top (show na t pl = nI (t pl) from rfl) ?_
        refine Rn.goto (tgt := 41) dX3_nextLetter_36 (by decide) ?_
        refine Rn.iret dX3_nextLetter_41 rfl rfl rfl ?_
        first | exact rn_fin k (by unfold nlN; rw [if_neg (by omega)]; rfl) rfl | exact rn_fin k (by unfold nlN; rw [if_pos (by omega)]; rfl) rfl
theorem nl_lt {t : Nat → Nat} (htl : ∀ i, t i < 256) (ln pl : Nat) : nlN t ln pl ≤ 256 := by unfold nlN; have := htl pl; split <;> omega
theorem nl_eq {t : Nat → Nat} (htl : ∀ i, t i < 256) {ln pl c : Nat} (hc : c < 1000) : wi (nlN t ln pl) = nI c ↔ nlN t ln pl = c + 1 := by
  have h := nl_lt htl ln pl
  constructor
  · intro e
    by_cases h0 : nlN t ln pl = 0
    · rw [h0] at e; exact absurd e.symm (nI_m9 (by omega))
    · obtain ⟨y, hy⟩ : ∃ y, nlN t ln pl = y + 1 := ⟨nlN t ln pl - 1, by omega⟩
      rw [hy, wi_s, nI_eq (by omega) (by omega)] at e
      omega
  · intro e
    rw [e, wi_s]
theorem t_X3_isNext {h : rHp} {Q : Option Value → rHp → Prop} {t : Nat → Nat} {ln pl : Nat} (T : Tx h t ln pl) (hln : ln ≤ 80) (htl : ∀ i, t i < 256) (hpl : pl < 1000) {c : Nat} (hc : c < 1000) (k : Q (some (.int (bi (decide (nlN t ln pl = c + 1))))) h) : Cl M_X3_isNext h.1 h.2.1 [.ref 1, .int (nI c)] h Q := by
  refine Cl.of pl_X3 (Nat.le_of_ble_eq_true rfl) (by first | exact Nat.le_refl _ | omega) (by first | exact Nat.le_refl _ | omega) ?_
  refine Rn.aload_n dX3_isNext_0 rfl rfl ?_
  refine Rn.callV (as := []) v_X3_nextLetter l_X3_50 ⟨Nat.le_of_ble_eq_true rfl, Nat.le_of_ble_eq_true rfl⟩ dX3_isNext_1 rfl rfl (Nat.le_of_ble_eq_true rfl) T.1 T.2.2.1 rfl (Nat.le_refl _) (Nat.le_refl _) (t_X3_nextLetter T hln htl hpl ?_) 
  refine Rn.iload_n dX3_isNext_4 rfl rfl ?_
  refine Rn.icmp_ne (tgt := 12) dX3_isNext_5 rfl (by decide) (fun c5 => ?_) (fun c5 => ?_)
  · refine Rn.iconst dX3_isNext_12 rfl ic_0 ?_
    refine Rn.zret dX3_isNext_13 rfl (by decide) rfl rfl ?_
    first | exact rn_fin k (by rw [decide_eq_false (fun z => c5 ((nl_eq htl hc).mpr z)), bi_f]) rfl | exact rn_fin k (by rw [decide_eq_true ((nl_eq htl hc).mp c5), bi_t]) rfl
  · refine Rn.iconst dX3_isNext_8 rfl ic_1 ?_
    refine Rn.goto (tgt := 13) dX3_isNext_9 (by decide) ?_
    refine Rn.zret dX3_isNext_13 rfl (by decide) rfl rfl ?_
    first | exact rn_fin k (by rw [decide_eq_false (fun z => c5 ((nl_eq htl hc).mpr z)), bi_f]) rfl | exact rn_fin k (by rw [decide_eq_true ((nl_eq htl hc).mp c5), bi_t]) rfl
theorem t_X3_readFigure {h : rHp} {Q : Option Value → rHp → Prop} {t : Nat → Nat} {ln pl : Nat} (T : Tx h t ln pl) (hln : ln ≤ 80) (htl : ∀ i, t i < 256) (hpl : pl < 1000) {lo hi : Nat} (hlo : lo < 10) (hhi : hi < 10) (k0 : fgN t ln pl lo hi = 0 → Q (some (.int (-9))) h) (k : ∀ a, a ≤ hi → lo ≤ a → pl < ln → fgN t ln pl lo hi = a + 1 → Q (some (.int (nI a))) (tp h ln (pl + 1))) : Cl M_X3_readFigure h.1 h.2.1 [.ref 1, .int (nI lo), .int (nI hi)] h Q := by
  refine Cl.of pl_X3 (Nat.le_of_ble_eq_true rfl) (by first | exact Nat.le_refl _ | omega) (by first | exact Nat.le_refl _ | omega) ?_
  refine Rn.aload_n dX3_readFigure_0 rfl rfl ?_
  refine Rn.callV (as := []) v_X3_nextLetter l_X3_50 ⟨Nat.le_of_ble_eq_true rfl, Nat.le_of_ble_eq_true rfl⟩ dX3_readFigure_1 rfl rfl (Nat.le_of_ble_eq_true rfl) T.1 T.2.2.1 rfl (Nat.le_refl _) (Nat.le_refl _) (t_X3_nextLetter T hln htl hpl ?_) 
  refine Rn.bipush dX3_readFigure_4 rfl bp_48 ?_
  refine Rn.isub dX3_readFigure_6 rfl ?_
  refine Rn.istore_n dX3_readFigure_7 rfl (Nat.le_of_ble_eq_true rfl) ?_
  refine Rn.iload_n dX3_readFigure_8 rfl rfl ?_
  refine Rn.iload_n dX3_readFigure_9 rfl rfl ?_
  refine Rn.iload_n dX3_readFigure_10 rfl rfl ?_
  refine Rn.callSN (as := [_, _, _]) s_X4_isWithin n_X3_77 ⟨Nat.le_of_ble_eq_true rfl, Nat.le_of_ble_eq_true rfl⟩ dX3_readFigure_11 rfl rfl (Nat.le_of_ble_eq_true rfl) (Nat.le_refl _) (Nat.le_refl _) (t_X4_isWithin ?_)
  refine Rn.top (congrArg bi (fg_isW htl hlo hhi)) ?_
  refine Rn.if_neB (tgt := 20) dX3_readFigure_14 rfl (by decide) (fun c14 => ?_) (fun c14 => ?_)
  · obtain ⟨a, ea⟩ : ∃ a, fgN t ln pl lo hi = a + 1 := ⟨fgN t ln pl lo hi - 1, by have := of_decide_eq_true c14; omega⟩
    refine Rn.aload_n dX3_readFigure_20 rfl rfl ?_
    refine Rn.dup dX3_readFigure_21 rfl rfl ?_
    refine Rn.getf f_X3_19 dX3_readFigure_22 rfl T.1 T.2.2.1 rfl ?_
    refine Rn.iconst dX3_readFigure_25 rfl ic_1 ?_
    refine Rn.iaddN dX3_readFigure_26 rfl ?_
    refine Rn.putf p_X3_19 (fun h => by cases h) dX3_readFigure_27 rfl T.1 T.2.2.1 (fun g => ⟨rfl, rfl⟩) (Nat.le_of_ble_eq_true rfl) ?_
    refine Rn.iload_n dX3_readFigure_30 rfl rfl ?_
    refine Rn.iret dX3_readFigure_31 rfl rfl rfl ?_
    exact rn_fin (k a (fg_val htl ea).2.1 (fg_val htl ea).2.2.1 (fg_val htl ea).2.2.2 ea) (by rw [(fg_val htl ea).1]) rfl
  · refine Rn.bipush dX3_readFigure_17 rfl bp_m9 ?_
    refine Rn.iret dX3_readFigure_19 rfl rfl rfl ?_
    exact k0 (Classical.byContradiction fun z => absurd (decide_eq_true z) (by rw [c14]; decide))
theorem t_X3_readNumber {h : rHp} {Q : Option Value → rHp → Prop} {t : Nat → Nat} {ln pl : Nat} (T : Tx h t ln pl) (hln : ln ≤ 80) (htl : ∀ i, t i < 256) (hpl : pl < 1000) (k0 : ∀ pl', rdN t ln pl = (0, pl') → pl' ≤ pl + 2 → Q (some (.int (-9))) (tp h ln pl')) (k : ∀ a, a < 251 → rdN t ln pl = (a + 1, pl + 3) → pl + 2 < ln → Q (some (.int (nI a))) (tp h ln (pl + 3))) : Cl M_X3_readNumber h.1 h.2.1 [.ref 1] h Q := by
  refine Cl.of pl_X3 (Nat.le_of_ble_eq_true rfl) (by first | exact Nat.le_refl _ | omega) (by first | exact Nat.le_refl _ | omega) ?_
  refine Rn.aload_n dX3_readNumber_0 rfl rfl ?_
  refine Rn.iconst dX3_readNumber_1 rfl ic_0 ?_
  refine Rn.iconst dX3_readNumber_2 rfl ic_2 ?_
  refine Rn.callV (as := [_, _]) v_X3_readFigure l_X3_31 ⟨Nat.le_of_ble_eq_true rfl, Nat.le_of_ble_eq_true rfl⟩ dX3_readNumber_3 rfl rfl (Nat.le_of_ble_eq_true rfl) T.1 T.2.2.1 rfl (Nat.le_refl _) (Nat.le_refl _) (t_X3_readFigure T hln htl (by omega) (by omega) (by omega) (fun ea => ?_) (fun a ha ga qa ea => ?_)) 
  · refine Rn.istore_n dX3_readNumber_6 rfl (Nat.le_of_ble_eq_true rfl) ?_
    refine Rn.iload_n dX3_readNumber_7 rfl rfl ?_
    refine Rn.bipush dX3_readNumber_8 rfl bp_m9 ?_
    refine Rn.icmp_ne (tgt := 16) dX3_readNumber_10 rfl (by decide) (fun c10 => ?_) (fun c10 => ?_)
    · exact absurd rfl c10
    · refine Rn.bipush dX3_readNumber_13 rfl bp_m9 ?_
      refine Rn.iret dX3_readNumber_15 rfl rfl rfl ?_
      exact rn_fin (k0 pl (rdN_0 ea) (by omega)) rfl T.same.symm
  · refine Rn.istore_n dX3_readNumber_6 rfl (Nat.le_of_ble_eq_true rfl) ?_
    refine Rn.iload_n dX3_readNumber_7 rfl rfl ?_
    refine Rn.bipush dX3_readNumber_8 rfl bp_m9 ?_
    refine Rn.icmp_ne (tgt := 16) dX3_readNumber_10 rfl (by decide) (fun c10 => ?_) (fun c10 => ?_)
    · refine Rn.aload_n dX3_readNumber_16 rfl rfl ?_
      refine Rn.iconst dX3_readNumber_17 rfl ic_0 ?_
      refine Rn.iload_n dX3_readNumber_18 rfl rfl ?_
      refine Rn.iconst dX3_readNumber_19 rfl ic_2 ?_
      refine Rn.icmp_neN (tgt := 27) dX3_readNumber_20 rfl (by decide) (by omega) (by omega) (fun c20 => ?_) (fun c20 => ?_)
      · refine Rn.bipush dX3_readNumber_27 rfl bp_9 ?_
        refine Rn.callV (as := [_, _]) v_X3_readFigure l_X3_31 ⟨Nat.le_of_ble_eq_true rfl, Nat.le_of_ble_eq_true rfl⟩ dX3_readNumber_29 rfl rfl (Nat.le_of_ble_eq_true rfl) (T.put _ _).1 (T.put _ _).2.2.1 rfl (Nat.le_refl _) (Nat.le_refl _) (t_X3_readFigure (T.put _ _) hln htl (by omega) (by omega) (by omega) (fun eb => ?_) (fun b hb gb qb eb => ?_)) 
        · refine Rn.istore_n dX3_readNumber_32 rfl (Nat.le_of_ble_eq_true rfl) ?_
          refine Rn.iload_n dX3_readNumber_33 rfl rfl ?_
          refine Rn.bipush dX3_readNumber_34 rfl bp_m9 ?_
          refine Rn.icmp_ne (tgt := 42) dX3_readNumber_36 rfl (by decide) (fun c36 => ?_) (fun c36 => ?_)
          · exact absurd rfl c36
          · refine Rn.bipush dX3_readNumber_39 rfl bp_m9 ?_
            refine Rn.iret dX3_readNumber_41 rfl rfl rfl ?_
            exact k0 _ (rdN_1 ea (by split <;> omega) eb) (by omega)
        · refine Rn.heap (tp_tp _ _ _ _ _) ?_
          refine Rn.istore_n dX3_readNumber_32 rfl (Nat.le_of_ble_eq_true rfl) ?_
          refine Rn.iload_n dX3_readNumber_33 rfl rfl ?_
          refine Rn.bipush dX3_readNumber_34 rfl bp_m9 ?_
          refine Rn.icmp_ne (tgt := 42) dX3_readNumber_36 rfl (by decide) (fun c36 => ?_) (fun c36 => ?_)
          · refine Rn.aload_n dX3_readNumber_42 rfl rfl ?_
            refine Rn.iconst dX3_readNumber_43 rfl ic_0 ?_
            refine Rn.iload_n dX3_readNumber_44 rfl rfl ?_
            refine Rn.iconst dX3_readNumber_45 rfl ic_2 ?_
            refine Rn.icmp_neN (tgt := 58) dX3_readNumber_46 rfl (by decide) (by omega) (by omega) (fun c46 => ?_) (fun c46 => ?_)
            · refine Rn.bipush dX3_readNumber_58 rfl bp_9 ?_
              refine Rn.callV (as := [_, _]) v_X3_readFigure l_X3_31 ⟨Nat.le_of_ble_eq_true rfl, Nat.le_of_ble_eq_true rfl⟩ dX3_readNumber_60 rfl rfl (Nat.le_of_ble_eq_true rfl) (T.put _ _).1 (T.put _ _).2.2.1 rfl (Nat.le_refl _) (Nat.le_refl _) (t_X3_readFigure (T.put _ _) hln htl (by omega) (by omega) (by omega) (fun ec => ?_) (fun c hc gc qc ec => ?_)) 
              · refine Rn.istore_n dX3_readNumber_63 rfl (Nat.le_of_ble_eq_true rfl) ?_
                refine Rn.iload_n dX3_readNumber_64 rfl rfl ?_
                refine Rn.bipush dX3_readNumber_65 rfl bp_m9 ?_
                refine Rn.icmp_ne (tgt := 75) dX3_readNumber_67 rfl (by decide) (fun c67 => ?_) (fun c67 => ?_)
                · exact absurd rfl c67
                · refine Rn.bipush dX3_readNumber_70 rfl bp_m9 ?_
                  refine Rn.goto (tgt := 86) dX3_readNumber_72 (by decide) ?_
                  refine Rn.iret dX3_readNumber_86 rfl rfl rfl ?_
                  exact k0 _ (rdN_2 ea (by split <;> omega) eb (by split <;> omega) ec) (by omega)
              · refine Rn.heap (tp_tp _ _ _ _ _) ?_
                refine Rn.istore_n dX3_readNumber_63 rfl (Nat.le_of_ble_eq_true rfl) ?_
                refine Rn.iload_n dX3_readNumber_64 rfl rfl ?_
                refine Rn.bipush dX3_readNumber_65 rfl bp_m9 ?_
                refine Rn.icmp_ne (tgt := 75) dX3_readNumber_67 rfl (by decide) (fun c67 => ?_) (fun c67 => ?_)
                · refine Rn.bipush dX3_readNumber_75 rfl bp_100 ?_
                  refine Rn.iload_n dX3_readNumber_77 rfl rfl ?_
                  refine Rn.imulN dX3_readNumber_78 rfl ?_
                  refine Rn.bipush dX3_readNumber_79 rfl bp_10 ?_
                  refine Rn.iload_n dX3_readNumber_81 rfl rfl ?_
                  refine Rn.imulN dX3_readNumber_82 rfl ?_
                  refine Rn.iaddN dX3_readNumber_83 rfl ?_
                  refine Rn.iload_n dX3_readNumber_84 rfl rfl ?_
                  refine Rn.iaddN dX3_readNumber_85 rfl ?_
                  refine Rn.iret dX3_readNumber_86 rfl rfl rfl ?_
                  exact k (100 * a + 10 * b + c) (rd_lt ha hb hc (by split <;> omega) (by split <;> omega)) (rdN_3 ea (by split <;> omega) eb (by split <;> omega) ec) (by omega)
                · exact absurd c67 (nI_m9 (by omega))
            · refine Rn.iload_n dX3_readNumber_49 rfl rfl ?_
              refine Rn.iconst dX3_readNumber_50 rfl ic_5 ?_
              refine Rn.icmp_neN (tgt := 58) dX3_readNumber_51 rfl (by decide) (by omega) (by omega) (fun c51 => ?_) (fun c51 => ?_)
              · refine Rn.bipush dX3_readNumber_58 rfl bp_9 ?_
                refine Rn.callV (as := [_, _]) v_X3_readFigure l_X3_31 ⟨Nat.le_of_ble_eq_true rfl, Nat.le_of_ble_eq_true rfl⟩ dX3_readNumber_60 rfl rfl (Nat.le_of_ble_eq_true rfl) (T.put _ _).1 (T.put _ _).2.2.1 rfl (Nat.le_refl _) (Nat.le_refl _) (t_X3_readFigure (T.put _ _) hln htl (by omega) (by omega) (by omega) (fun ec => ?_) (fun c hc gc qc ec => ?_)) 
                · refine Rn.istore_n dX3_readNumber_63 rfl (Nat.le_of_ble_eq_true rfl) ?_
                  refine Rn.iload_n dX3_readNumber_64 rfl rfl ?_
                  refine Rn.bipush dX3_readNumber_65 rfl bp_m9 ?_
                  refine Rn.icmp_ne (tgt := 75) dX3_readNumber_67 rfl (by decide) (fun c67 => ?_) (fun c67 => ?_)
                  · exact absurd rfl c67
                  · refine Rn.bipush dX3_readNumber_70 rfl bp_m9 ?_
                    refine Rn.goto (tgt := 86) dX3_readNumber_72 (by decide) ?_
                    refine Rn.iret dX3_readNumber_86 rfl rfl rfl ?_
                    exact k0 _ (rdN_2 ea (by split <;> omega) eb (by split <;> omega) ec) (by omega)
                · refine Rn.heap (tp_tp _ _ _ _ _) ?_
                  refine Rn.istore_n dX3_readNumber_63 rfl (Nat.le_of_ble_eq_true rfl) ?_
                  refine Rn.iload_n dX3_readNumber_64 rfl rfl ?_
                  refine Rn.bipush dX3_readNumber_65 rfl bp_m9 ?_
                  refine Rn.icmp_ne (tgt := 75) dX3_readNumber_67 rfl (by decide) (fun c67 => ?_) (fun c67 => ?_)
                  · refine Rn.bipush dX3_readNumber_75 rfl bp_100 ?_
                    refine Rn.iload_n dX3_readNumber_77 rfl rfl ?_
                    refine Rn.imulN dX3_readNumber_78 rfl ?_
                    refine Rn.bipush dX3_readNumber_79 rfl bp_10 ?_
                    refine Rn.iload_n dX3_readNumber_81 rfl rfl ?_
                    refine Rn.imulN dX3_readNumber_82 rfl ?_
                    refine Rn.iaddN dX3_readNumber_83 rfl ?_
                    refine Rn.iload_n dX3_readNumber_84 rfl rfl ?_
                    refine Rn.iaddN dX3_readNumber_85 rfl ?_
                    refine Rn.iret dX3_readNumber_86 rfl rfl rfl ?_
                    exact k (100 * a + 10 * b + c) (rd_lt ha hb hc (by split <;> omega) (by split <;> omega)) (rdN_3 ea (by split <;> omega) eb (by split <;> omega) ec) (by omega)
                  · exact absurd c67 (nI_m9 (by omega))
              · refine Rn.iconst dX3_readNumber_54 rfl ic_0 ?_
                refine Rn.goto (tgt := 60) dX3_readNumber_55 (by decide) ?_
                refine Rn.callV (as := [_, _]) v_X3_readFigure l_X3_31 ⟨Nat.le_of_ble_eq_true rfl, Nat.le_of_ble_eq_true rfl⟩ dX3_readNumber_60 rfl rfl (Nat.le_of_ble_eq_true rfl) (T.put _ _).1 (T.put _ _).2.2.1 rfl (Nat.le_refl _) (Nat.le_refl _) (t_X3_readFigure (T.put _ _) hln htl (by omega) (by omega) (by omega) (fun ec => ?_) (fun c hc gc qc ec => ?_)) 
                · refine Rn.istore_n dX3_readNumber_63 rfl (Nat.le_of_ble_eq_true rfl) ?_
                  refine Rn.iload_n dX3_readNumber_64 rfl rfl ?_
                  refine Rn.bipush dX3_readNumber_65 rfl bp_m9 ?_
                  refine Rn.icmp_ne (tgt := 75) dX3_readNumber_67 rfl (by decide) (fun c67 => ?_) (fun c67 => ?_)
                  · exact absurd rfl c67
                  · refine Rn.bipush dX3_readNumber_70 rfl bp_m9 ?_
                    refine Rn.goto (tgt := 86) dX3_readNumber_72 (by decide) ?_
                    refine Rn.iret dX3_readNumber_86 rfl rfl rfl ?_
                    exact k0 _ (rdN_2 ea (by split <;> omega) eb (by split <;> omega) ec) (by omega)
                · refine Rn.heap (tp_tp _ _ _ _ _) ?_
                  refine Rn.istore_n dX3_readNumber_63 rfl (Nat.le_of_ble_eq_true rfl) ?_
                  refine Rn.iload_n dX3_readNumber_64 rfl rfl ?_
                  refine Rn.bipush dX3_readNumber_65 rfl bp_m9 ?_
                  refine Rn.icmp_ne (tgt := 75) dX3_readNumber_67 rfl (by decide) (fun c67 => ?_) (fun c67 => ?_)
                  · refine Rn.bipush dX3_readNumber_75 rfl bp_100 ?_
                    refine Rn.iload_n dX3_readNumber_77 rfl rfl ?_
                    refine Rn.imulN dX3_readNumber_78 rfl ?_
                    refine Rn.bipush dX3_readNumber_79 rfl bp_10 ?_
                    refine Rn.iload_n dX3_readNumber_81 rfl rfl ?_
                    refine Rn.imulN dX3_readNumber_82 rfl ?_
                    refine Rn.iaddN dX3_readNumber_83 rfl ?_
                    refine Rn.iload_n dX3_readNumber_84 rfl rfl ?_
                    refine Rn.iaddN dX3_readNumber_85 rfl ?_
                    refine Rn.iret dX3_readNumber_86 rfl rfl rfl ?_
                    exact k (100 * a + 10 * b + c) (rd_lt ha hb hc (by split <;> omega) (by split <;> omega)) (rdN_3 ea (by split <;> omega) eb (by split <;> omega) ec) (by omega)
                  · exact absurd c67 (nI_m9 (by omega))
          · exact absurd c36 (nI_m9 (by omega))
      · refine Rn.iconst dX3_readNumber_23 rfl ic_5 ?_
        refine Rn.goto (tgt := 29) dX3_readNumber_24 (by decide) ?_
        refine Rn.callV (as := [_, _]) v_X3_readFigure l_X3_31 ⟨Nat.le_of_ble_eq_true rfl, Nat.le_of_ble_eq_true rfl⟩ dX3_readNumber_29 rfl rfl (Nat.le_of_ble_eq_true rfl) (T.put _ _).1 (T.put _ _).2.2.1 rfl (Nat.le_refl _) (Nat.le_refl _) (t_X3_readFigure (T.put _ _) hln htl (by omega) (by omega) (by omega) (fun eb => ?_) (fun b hb gb qb eb => ?_)) 
        · refine Rn.istore_n dX3_readNumber_32 rfl (Nat.le_of_ble_eq_true rfl) ?_
          refine Rn.iload_n dX3_readNumber_33 rfl rfl ?_
          refine Rn.bipush dX3_readNumber_34 rfl bp_m9 ?_
          refine Rn.icmp_ne (tgt := 42) dX3_readNumber_36 rfl (by decide) (fun c36 => ?_) (fun c36 => ?_)
          · exact absurd rfl c36
          · refine Rn.bipush dX3_readNumber_39 rfl bp_m9 ?_
            refine Rn.iret dX3_readNumber_41 rfl rfl rfl ?_
            exact k0 _ (rdN_1 ea (by split <;> omega) eb) (by omega)
        · refine Rn.heap (tp_tp _ _ _ _ _) ?_
          refine Rn.istore_n dX3_readNumber_32 rfl (Nat.le_of_ble_eq_true rfl) ?_
          refine Rn.iload_n dX3_readNumber_33 rfl rfl ?_
          refine Rn.bipush dX3_readNumber_34 rfl bp_m9 ?_
          refine Rn.icmp_ne (tgt := 42) dX3_readNumber_36 rfl (by decide) (fun c36 => ?_) (fun c36 => ?_)
          · refine Rn.aload_n dX3_readNumber_42 rfl rfl ?_
            refine Rn.iconst dX3_readNumber_43 rfl ic_0 ?_
            refine Rn.iload_n dX3_readNumber_44 rfl rfl ?_
            refine Rn.iconst dX3_readNumber_45 rfl ic_2 ?_
            refine Rn.icmp_neN (tgt := 58) dX3_readNumber_46 rfl (by decide) (by omega) (by omega) (fun c46 => ?_) (fun c46 => ?_)
            · refine Rn.bipush dX3_readNumber_58 rfl bp_9 ?_
              refine Rn.callV (as := [_, _]) v_X3_readFigure l_X3_31 ⟨Nat.le_of_ble_eq_true rfl, Nat.le_of_ble_eq_true rfl⟩ dX3_readNumber_60 rfl rfl (Nat.le_of_ble_eq_true rfl) (T.put _ _).1 (T.put _ _).2.2.1 rfl (Nat.le_refl _) (Nat.le_refl _) (t_X3_readFigure (T.put _ _) hln htl (by omega) (by omega) (by omega) (fun ec => ?_) (fun c hc gc qc ec => ?_)) 
              · refine Rn.istore_n dX3_readNumber_63 rfl (Nat.le_of_ble_eq_true rfl) ?_
                refine Rn.iload_n dX3_readNumber_64 rfl rfl ?_
                refine Rn.bipush dX3_readNumber_65 rfl bp_m9 ?_
                refine Rn.icmp_ne (tgt := 75) dX3_readNumber_67 rfl (by decide) (fun c67 => ?_) (fun c67 => ?_)
                · exact absurd rfl c67
                · refine Rn.bipush dX3_readNumber_70 rfl bp_m9 ?_
                  refine Rn.goto (tgt := 86) dX3_readNumber_72 (by decide) ?_
                  refine Rn.iret dX3_readNumber_86 rfl rfl rfl ?_
                  exact k0 _ (rdN_2 ea (by split <;> omega) eb (by split <;> omega) ec) (by omega)
              · refine Rn.heap (tp_tp _ _ _ _ _) ?_
                refine Rn.istore_n dX3_readNumber_63 rfl (Nat.le_of_ble_eq_true rfl) ?_
                refine Rn.iload_n dX3_readNumber_64 rfl rfl ?_
                refine Rn.bipush dX3_readNumber_65 rfl bp_m9 ?_
                refine Rn.icmp_ne (tgt := 75) dX3_readNumber_67 rfl (by decide) (fun c67 => ?_) (fun c67 => ?_)
                · refine Rn.bipush dX3_readNumber_75 rfl bp_100 ?_
                  refine Rn.iload_n dX3_readNumber_77 rfl rfl ?_
                  refine Rn.imulN dX3_readNumber_78 rfl ?_
                  refine Rn.bipush dX3_readNumber_79 rfl bp_10 ?_
                  refine Rn.iload_n dX3_readNumber_81 rfl rfl ?_
                  refine Rn.imulN dX3_readNumber_82 rfl ?_
                  refine Rn.iaddN dX3_readNumber_83 rfl ?_
                  refine Rn.iload_n dX3_readNumber_84 rfl rfl ?_
                  refine Rn.iaddN dX3_readNumber_85 rfl ?_
                  refine Rn.iret dX3_readNumber_86 rfl rfl rfl ?_
                  exact k (100 * a + 10 * b + c) (rd_lt ha hb hc (by split <;> omega) (by split <;> omega)) (rdN_3 ea (by split <;> omega) eb (by split <;> omega) ec) (by omega)
                · exact absurd c67 (nI_m9 (by omega))
            · refine Rn.iload_n dX3_readNumber_49 rfl rfl ?_
              refine Rn.iconst dX3_readNumber_50 rfl ic_5 ?_
              refine Rn.icmp_neN (tgt := 58) dX3_readNumber_51 rfl (by decide) (by omega) (by omega) (fun c51 => ?_) (fun c51 => ?_)
              · refine Rn.bipush dX3_readNumber_58 rfl bp_9 ?_
                refine Rn.callV (as := [_, _]) v_X3_readFigure l_X3_31 ⟨Nat.le_of_ble_eq_true rfl, Nat.le_of_ble_eq_true rfl⟩ dX3_readNumber_60 rfl rfl (Nat.le_of_ble_eq_true rfl) (T.put _ _).1 (T.put _ _).2.2.1 rfl (Nat.le_refl _) (Nat.le_refl _) (t_X3_readFigure (T.put _ _) hln htl (by omega) (by omega) (by omega) (fun ec => ?_) (fun c hc gc qc ec => ?_)) 
                · refine Rn.istore_n dX3_readNumber_63 rfl (Nat.le_of_ble_eq_true rfl) ?_
                  refine Rn.iload_n dX3_readNumber_64 rfl rfl ?_
                  refine Rn.bipush dX3_readNumber_65 rfl bp_m9 ?_
                  refine Rn.icmp_ne (tgt := 75) dX3_readNumber_67 rfl (by decide) (fun c67 => ?_) (fun c67 => ?_)
                  · exact absurd rfl c67
                  · refine Rn.bipush dX3_readNumber_70 rfl bp_m9 ?_
                    refine Rn.goto (tgt := 86) dX3_readNumber_72 (by decide) ?_
                    refine Rn.iret dX3_readNumber_86 rfl rfl rfl ?_
                    exact k0 _ (rdN_2 ea (by split <;> omega) eb (by split <;> omega) ec) (by omega)
                · refine Rn.heap (tp_tp _ _ _ _ _) ?_
                  refine Rn.istore_n dX3_readNumber_63 rfl (Nat.le_of_ble_eq_true rfl) ?_
                  refine Rn.iload_n dX3_readNumber_64 rfl rfl ?_
                  refine Rn.bipush dX3_readNumber_65 rfl bp_m9 ?_
                  refine Rn.icmp_ne (tgt := 75) dX3_readNumber_67 rfl (by decide) (fun c67 => ?_) (fun c67 => ?_)
                  · refine Rn.bipush dX3_readNumber_75 rfl bp_100 ?_
                    refine Rn.iload_n dX3_readNumber_77 rfl rfl ?_
                    refine Rn.imulN dX3_readNumber_78 rfl ?_
                    refine Rn.bipush dX3_readNumber_79 rfl bp_10 ?_
                    refine Rn.iload_n dX3_readNumber_81 rfl rfl ?_
                    refine Rn.imulN dX3_readNumber_82 rfl ?_
                    refine Rn.iaddN dX3_readNumber_83 rfl ?_
                    refine Rn.iload_n dX3_readNumber_84 rfl rfl ?_
                    refine Rn.iaddN dX3_readNumber_85 rfl ?_
                    refine Rn.iret dX3_readNumber_86 rfl rfl rfl ?_
                    exact k (100 * a + 10 * b + c) (rd_lt ha hb hc (by split <;> omega) (by split <;> omega)) (rdN_3 ea (by split <;> omega) eb (by split <;> omega) ec) (by omega)
                  · exact absurd c67 (nI_m9 (by omega))
              · refine Rn.iconst dX3_readNumber_54 rfl ic_0 ?_
                refine Rn.goto (tgt := 60) dX3_readNumber_55 (by decide) ?_
                refine Rn.callV (as := [_, _]) v_X3_readFigure l_X3_31 ⟨Nat.le_of_ble_eq_true rfl, Nat.le_of_ble_eq_true rfl⟩ dX3_readNumber_60 rfl rfl (Nat.le_of_ble_eq_true rfl) (T.put _ _).1 (T.put _ _).2.2.1 rfl (Nat.le_refl _) (Nat.le_refl _) (t_X3_readFigure (T.put _ _) hln htl (by omega) (by omega) (by omega) (fun ec => ?_) (fun c hc gc qc ec => ?_)) 
                · refine Rn.istore_n dX3_readNumber_63 rfl (Nat.le_of_ble_eq_true rfl) ?_
                  refine Rn.iload_n dX3_readNumber_64 rfl rfl ?_
                  refine Rn.bipush dX3_readNumber_65 rfl bp_m9 ?_
                  refine Rn.icmp_ne (tgt := 75) dX3_readNumber_67 rfl (by decide) (fun c67 => ?_) (fun c67 => ?_)
                  · exact absurd rfl c67
                  · refine Rn.bipush dX3_readNumber_70 rfl bp_m9 ?_
                    refine Rn.goto (tgt := 86) dX3_readNumber_72 (by decide) ?_
                    refine Rn.iret dX3_readNumber_86 rfl rfl rfl ?_
                    exact k0 _ (rdN_2 ea (by split <;> omega) eb (by split <;> omega) ec) (by omega)
                · refine Rn.heap (tp_tp _ _ _ _ _) ?_
                  refine Rn.istore_n dX3_readNumber_63 rfl (Nat.le_of_ble_eq_true rfl) ?_
                  refine Rn.iload_n dX3_readNumber_64 rfl rfl ?_
                  refine Rn.bipush dX3_readNumber_65 rfl bp_m9 ?_
                  refine Rn.icmp_ne (tgt := 75) dX3_readNumber_67 rfl (by decide) (fun c67 => ?_) (fun c67 => ?_)
                  · refine Rn.bipush dX3_readNumber_75 rfl bp_100 ?_
                    refine Rn.iload_n dX3_readNumber_77 rfl rfl ?_
                    refine Rn.imulN dX3_readNumber_78 rfl ?_
                    refine Rn.bipush dX3_readNumber_79 rfl bp_10 ?_
                    refine Rn.iload_n dX3_readNumber_81 rfl rfl ?_
                    refine Rn.imulN dX3_readNumber_82 rfl ?_
                    refine Rn.iaddN dX3_readNumber_83 rfl ?_
                    refine Rn.iload_n dX3_readNumber_84 rfl rfl ?_
                    refine Rn.iaddN dX3_readNumber_85 rfl ?_
                    refine Rn.iret dX3_readNumber_86 rfl rfl rfl ?_
                    exact k (100 * a + 10 * b + c) (rd_lt ha hb hc (by split <;> omega) (by split <;> omega)) (rdN_3 ea (by split <;> omega) eb (by split <;> omega) ec) (by omega)
                  · exact absurd c67 (nI_m9 (by omega))
          · exact absurd c36 (nI_m9 (by omega))
    · exact absurd c10 (nI_m9 (by omega))
