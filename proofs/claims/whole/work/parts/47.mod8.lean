/-! ===== reading a desk: the reference keeps own passes and events, and does them later ===== -/
def evP (e : Nat) (p : Nat → Nat) : Nat → Nat := if e % 10 = 1 then spP p (e / 10) else seP p (e / 10)
def rpE (ev : Nat → Nat) : Nat → (Nat → Nat) → (Nat → Nat)
  | 0, pb => pb
  | n + 1, pb => evP (ev n) (rpE ev n pb)
def mix (pb p : Nat → Nat) : Nat → Nat := fun i => if i % 6 = 3 ∧ i < 24 then p i else pb i
theorem mix_own (pb p : Nat → Nat) {w : Nat} (hw : w < 4) : mix pb p (6 * w + 3) = p (6 * w + 3) := if_pos ⟨by omega, by omega⟩
theorem mix_no (pb p : Nat → Nat) {i : Nat} (h : ¬ (i % 6 = 3 ∧ i < 24)) : mix pb p i = pb i := if_neg h
theorem mix_self (p : Nat → Nat) : mix p p = p := by
  funext i
  show (if i % 6 = 3 ∧ i < 24 then p i else p i) = p i
  split <;> rfl
def RD (ev : Nat → Nat) (rm : Nat) (pb p : Nat → Nat) : Prop := OKp pb ∧ OKp p ∧ p = rpE ev rm pb ∧ p 24 = pb 24 ∧ (∀ w, w < pb 24 → pb (6 * w + 3) = pb (6 * w + 2)) ∧ (∀ w, pb 24 ≤ w → w < 4 → p (6 * w + 3) = pb (6 * w + 3)) ∧ (∀ k, k < rm → ev k < 100 ∧ ev k / 10 < 4 ∧ ow (rpE ev k pb) (ev k / 10) = true)
theorem OK_mix {pb p : Nat → Nat} (O1 : OKp pb) (O2 : OKp p) : OKp (mix pb p) := by
  obtain ⟨a, b, c, d, e, f, g⟩ := O1
  refine ⟨by rw [mix_no _ _ (by omega)]; exact a, by rw [mix_no _ _ (by omega)]; exact b, by rw [mix_no _ _ (by omega)]; exact c, by rw [mix_no _ _ (by omega)]; exact d, fun u hu => ?_, fun i hi => ?_, by rw [mix_no _ _ (by omega)]; exact g⟩
  · have e1 := e u hu
    have e2 := (O2.us hu).2.2.2.1
    rw [mix_no _ _ (i := 6 * u) (by omega), mix_no _ _ (i := 6 * u + 1) (by omega), mix_no _ _ (i := 6 * u + 2) (by omega), mix_own _ _ hu, mix_no _ _ (i := 6 * u + 4) (by omega), mix_no _ _ (i := 6 * u + 5) (by omega)]
    exact ⟨e1.1, e1.2.1, e1.2.2.1, e2, e1.2.2.2.2.1, e1.2.2.2.2.2⟩
  · rw [mix_no _ _ (by omega)]; exact f i hi
theorem ow_mix {pb p : Nat → Nat} (O : OKp p) (e : p 24 = pb 24) (a : Nat) : ow (mix pb p) a = ow p a := by
  have h4 := O.1
  have e24 : mix pb p 24 = p 24 := (mix_no _ _ (by omega)).trans e.symm
  unfold ow
  rw [e24]
  by_cases h : a < 4
  · rw [mix_own _ _ h]
  · rw [decide_eq_false (show ¬ a < p 24 by omega)]; rfl
theorem anyU_cong {p q : Nat → Nat} (h : ∀ a, ow q a = ow p a) : ∀ n, anyU q n = anyU p n
  | 0 => rfl
  | n + 1 => by
    show (anyU q n || ow q n) = (anyU p n || ow p n)
    rw [anyU_cong h n, h n]
theorem uNo_cong {t : Nat → Nat} {ln pl : Nat} {p q : Nat → Nat} (h : ∀ a, ow q a = ow p a) : uNo t ln pl q = uNo t ln pl p := by
  unfold uNo
  rw [h]
theorem anyU_iff {p : Nat → Nat} : ∀ n, anyU p n = true ↔ ∃ i, i < n ∧ ow p i = true
  | 0 => ⟨fun h => absurd h (by unfold anyU; decide), fun ⟨_, h, _⟩ => absurd h (Nat.not_lt_zero _)⟩
  | n + 1 => by
    show (anyU p n || ow p n) = true ↔ _
    rw [Bool.or_eq_true, anyU_iff n]
    constructor
    · rintro (⟨i, h1, h2⟩ | h)
      · exact ⟨i, by omega, h2⟩
      · exact ⟨n, by omega, h⟩
    · rintro ⟨i, h1, h2⟩
      by_cases e : i = n
      · exact Or.inr (e ▸ h2)
      · exact Or.inl ⟨i, by omega, h2⟩
theorem anyU_any {p : Nat → Nat} (O : OKp p) : anyB (fun w => decide (0 < p (6 * w + 3))) (p 24) = anyU p 4 := by
  have h4 := O.1
  have h1 := anyB_iff (f := fun w => decide (0 < p (6 * w + 3))) (p 24)
  have h2 := anyU_iff (p := p) 4
  cases e1 : anyB (fun w => decide (0 < p (6 * w + 3))) (p 24) with
  | true =>
    obtain ⟨i, i1, i2⟩ := h1.mp e1
    exact (h2.mpr ⟨i, by omega, ow_mk i1 (of_decide_eq_true i2)⟩).symm
  | false =>
    cases e2 : anyU p 4 with
    | false => rfl
    | true =>
      obtain ⟨i, i1, i2⟩ := h2.mp e2
      have := h1.mpr ⟨i, (ow_t i2).1, decide_eq_true (ow_t i2).2⟩
      rw [e1] at this
      cases this
theorem un_comm (p : Nat → Nat) {i j : Nat} (x y : Nat) (h : i ≠ j) : un (un p i x) j y = un (un p j y) i x := by
  funext k
  show (if k = j then y else if k = i then x else p k) = if k = i then x else if k = j then y else p k
  by_cases e : k = j
  · rw [if_pos e, if_neg (by omega), if_pos e]
  · rw [if_neg e, if_neg e]
theorem bg_24 (p : Nat → Nat) {u : Nat} (hu : u < 4) (s t n : Nat) : bgP p u s t n 24 = p 24 := by
  unfold bgP
  rw [un_ne _ _ (by omega), un_ne _ _ (by omega), un_ne _ _ (by omega), un_ne _ _ (by omega), un_ne _ _ (by omega), un_ne _ _ (by omega)]
theorem ad_eq (p : Nat → Nat) (h : p 24 < 4) (s t n x : Nat) (hx : x = p 24 + 1) : un (bgP p (p 24) s t n) 24 x = adP p s t n := by
  subst hx
  unfold adP bgP
  rw [un_comm _ _ _ (show 6 * p 24 + 5 ≠ 24 by omega), un_comm _ _ _ (show 6 * p 24 + 4 ≠ 24 by omega), un_comm _ _ _ (show 6 * p 24 + 3 ≠ 24 by omega), un_comm _ _ _ (show 6 * p 24 + 2 ≠ 24 by omega), un_comm _ _ _ (show 6 * p 24 + 1 ≠ 24 by omega), un_comm _ _ _ (show 6 * p 24 ≠ 24 by omega)]
theorem ad_at (p : Nat → Nat) (h : p 24 < 4) (s t n : Nat) : adP p s t n 24 = p 24 + 1 ∧ adP p s t n (6 * p 24 + 3) = n ∧ adP p s t n (6 * p 24 + 2) = n ∧ ∀ w, w < p 24 → ∀ k, k < 6 → adP p s t n (6 * w + k) = p (6 * w + k) := by
  unfold adP bgP
  refine ⟨?_, ?_, ?_, fun w hw k hk => ?_⟩
  · rw [un_ne _ _ (by omega), un_ne _ _ (by omega), un_ne _ _ (by omega), un_ne _ _ (by omega), un_ne _ _ (by omega), un_ne _ _ (by omega), un_eq]
  · rw [un_ne _ _ (by omega), un_ne _ _ (by omega), un_eq]
  · rw [un_ne _ _ (by omega), un_ne _ _ (by omega), un_ne _ _ (by omega), un_eq]
  · rw [un_ne _ _ (by omega), un_ne _ _ (by omega), un_ne _ _ (by omega), un_ne _ _ (by omega), un_ne _ _ (by omega), un_ne _ _ (by omega), un_ne _ _ (by omega)]
theorem RD_ad {ev : Nat → Nat} {pb p : Nat → Nat} (R : RD ev 0 pb p) {a b c : Nat} (h : p 24 < 4) (ha : a < 251) (hb : b < 251) (hc : c ≤ 30) : RD ev 0 (adP p a b c) (adP p a b c) := by
  obtain ⟨O1, O2, e1, e2, e3, e4, e5⟩ := R
  have ep : p = pb := e1
  obtain ⟨a1, a2, a3, a4⟩ := ad_at p h a b c
  have OA := OK_ad O2 h ha hb hc
  refine ⟨OA, OA, rfl, rfl, fun w hw => ?_, fun _ _ _ => rfl, fun k hk => absurd hk (Nat.not_lt_zero _)⟩
  rw [a1] at hw
  by_cases e : w = p 24
  · rw [e, a2, a3]
  · rw [a4 w (by omega) 3 (by omega), a4 w (by omega) 2 (by omega), ep]
    exact e3 w (by rw [← ep]; omega)
theorem RD_0 (ev : Nat → Nat) {a : Nat} (h1 : 1 ≤ a) (h2 : a ≤ 6) : RD ev 0 (un p0 25 a) (un p0 25 a) := ⟨OK_win OK_p0 h1 h2, OK_win OK_p0 h1 h2, rfl, rfl, fun w hw => absurd hw (by rw [un_ne _ _ (by omega)]; show ¬ w < 0; omega), fun _ _ _ => rfl, fun k hk => absurd hk (Nat.not_lt_zero _)⟩
theorem rp_cong {ev ev' : Nat → Nat} {pb : Nat → Nat} : ∀ n, (∀ k, k < n → ev' k = ev k) → rpE ev' n pb = rpE ev n pb
  | 0, _ => rfl
  | n + 1, h => by
    show evP (ev' n) (rpE ev' n pb) = evP (ev n) (rpE ev n pb)
    rw [rp_cong n (fun k hk => h k (by omega)), h n (by omega)]
theorem ev_own {p : Nat → Nat} {a : Nat} (ha : a < 4) (ho : ow p a = true) {b : Nat} (hb : b ≤ 1) : evP (10 * a + b) p 24 = p 24 ∧ evP (10 * a + b) p (6 * a + 3) = p (6 * a + 3) - 1 ∧ ∀ w, w < 4 → w ≠ a → evP (10 * a + b) p (6 * w + 3) = p (6 * w + 3) := by
  unfold evP
  rw [show (10 * a + b) / 10 = a by omega]
  split
  · have := sp_24 ha ho
    refine ⟨this.1, this.2, fun w hw hne => ?_⟩
    rw [← sp_y ho, un_ne _ _ (by omega)]
  · have := se_24 ha ho
    refine ⟨this.1, this.2, fun w hw hne => ?_⟩
    unfold seP
    rw [if_pos ho]
    unfold brP
    rw [← sp_y ho]
    split
    · rw [un_ne _ _ (by omega), un_ne _ _ (by omega), un_ne _ _ (by omega), un_ne _ _ (by omega)]
    · rw [un_ne _ _ (by omega), un_ne _ _ (by omega)]
theorem RD_ev {ev : Nat → Nat} {rm : Nat} {pb p : Nat → Nat} (R : RD ev rm pb p) {a b : Nat} (ha : a < 4) (ho : ow p a = true) (hb : b ≤ 1) : RD (un ev rm (10 * a + b)) (rm + 1) pb (evP (10 * a + b) p) ∧ un (mix pb p) (6 * a + 3) (mix pb p (6 * a + 3) - 1) = mix pb (evP (10 * a + b) p) := by
  obtain ⟨O1, O2, e1, e2, e3, e4, e5⟩ := R
  obtain ⟨v1, v2, v3⟩ := ev_own ha ho hb
  have hc : ∀ n, n ≤ rm → rpE (un ev rm (10 * a + b)) n pb = rpE ev n pb := fun n hn => rp_cong n (fun k hk => un_ne _ _ (by omega))
  refine ⟨⟨O1, ?_, ?_, v1.trans e2, e3, fun w h1 h2 => ?_, fun k hk => ?_⟩, ?_⟩
  · unfold evP
    split
    · exact OK_sp O2 (by omega)
    · exact OK_se O2 (by omega)
  · show _ = evP (un ev rm (10 * a + b) rm) (rpE (un ev rm (10 * a + b)) rm pb)
    rw [un_eq, hc rm (Nat.le_refl _), ← e1]
  · rw [v3 w h2 (by have := (ow_t ho).1; omega)]
    exact e4 w h1 h2
  · rw [hc k (by omega)]
    by_cases e : k = rm
    · rw [e, un_eq, show (10 * a + b) / 10 = a by omega, ← e1]
      exact ⟨by omega, ha, ho⟩
    · rw [un_ne _ _ e]
      exact e5 k (by omega)
  · funext i
    show (if i = 6 * a + 3 then mix pb p (6 * a + 3) - 1 else if i % 6 = 3 ∧ i < 24 then p i else pb i) = if i % 6 = 3 ∧ i < 24 then evP (10 * a + b) p i else pb i
    by_cases e : i = 6 * a + 3
    · rw [if_pos e, if_pos (by omega), mix_own _ _ ha, e, v2]
    · rw [if_neg e]
      by_cases c : i % 6 = 3 ∧ i < 24
      · rw [if_pos c, if_pos c, show i = 6 * (i / 6) + 3 by omega, v3 (i / 6) (by omega) (by omega)]
      · rw [if_neg c, if_neg c]
/-- the page while own passes are laid anew -/
def fx (pb p : Nat → Nat) (w : Nat) : Nat → Nat := fun i => if i % 6 = 3 ∧ i < 24 ∧ ¬ i / 6 < w then p i else pb i
theorem fx_0 (pb p : Nat → Nat) : mix pb p = fx pb p 0 := by
  funext i
  show (if i % 6 = 3 ∧ i < 24 then p i else pb i) = if i % 6 = 3 ∧ i < 24 ∧ ¬ i / 6 < 0 then p i else pb i
  by_cases c : i % 6 = 3 ∧ i < 24
  · rw [if_pos c, if_pos ⟨c.1, c.2, by omega⟩]
  · rw [if_neg c, if_neg (fun z => c ⟨z.1, z.2.1⟩)]
theorem fx_n (pb p : Nat → Nat) {w i : Nat} (h : ¬ i % 6 = 3 ∨ 24 ≤ i) : fx pb p w i = pb i := if_neg (by omega)
theorem fx_s {pb p : Nat → Nat} {w : Nat} (hw : w < 4) (e : pb (6 * w + 3) = pb (6 * w + 2)) : un (fx pb p w) (6 * w + 3) (fx pb p w (6 * w + 2)) = fx pb p (w + 1) := by
  rw [fx_n _ _ (by omega), ← e]
  funext i
  show (if i = 6 * w + 3 then pb (6 * w + 3) else if i % 6 = 3 ∧ i < 24 ∧ ¬ i / 6 < w then p i else pb i) = if i % 6 = 3 ∧ i < 24 ∧ ¬ i / 6 < w + 1 then p i else pb i
  by_cases c : i = 6 * w + 3
  · rw [if_pos c, if_neg (by omega), c]
  · rw [if_neg c]
    by_cases c2 : i % 6 = 3 ∧ i < 24 ∧ ¬ i / 6 < w
    · rw [if_pos c2, if_pos (by omega)]
    · rw [if_neg c2, if_neg (by omega)]
theorem fx_e {ev : Nat → Nat} {rm : Nat} {pb p : Nat → Nat} (R : RD ev rm pb p) : fx pb p (pb 24) = pb := by
  funext i
  show (if i % 6 = 3 ∧ i < 24 ∧ ¬ i / 6 < pb 24 then p i else pb i) = pb i
  split
  · next c =>
    have := R.2.2.2.2.2.1 (i / 6) (by omega) (by omega)
    rw [show 6 * (i / 6) + 3 = i by omega] at this
    exact this
  · rfl
theorem rp_ok {ev : Nat → Nat} {rm : Nat} {pb p : Nat → Nat} (R : RD ev rm pb p) : ∀ k, k ≤ rm → OKp (rpE ev k pb)
  | 0, _ => R.1
  | k + 1, h => by
    have e := R.2.2.2.2.2.2 k (by omega)
    show OKp (evP (ev k) (rpE ev k pb))
    unfold evP
    split
    · exact OK_sp (rp_ok R k (by omega)) e.2.1
    · exact OK_se (rp_ok R k (by omega)) e.2.1
theorem m9_nI : (-9 : Int32) = nI 4294967287 := by decide
theorem ownB_m9 (p : Nat → Nat) : ownB p (-9) = false := ownB_hn (hasB_neg (by decide))
theorem t_X5_figure {h : rHp} {Q : Option Value → rHp → Prop} {th ln pl rm dg sz : Nat} {sd : Int64} {t : Nat → Nat} (M15 : h.2.2 15 = moO th ln pl rm dg sz sd) (M16 : h.2.2 16 = .inl (80, na t)) (ML : 27 < h.1) (hln : ln ≤ 80) (htl : ∀ i, t i < 256) (hpl : pl < 1000) {lo hi : Nat} (hlo : lo < 10) (hhi : hi < 10) (k0 : fgN t ln pl lo hi = 0 → Q (some (.int (-9))) h) (k : ∀ a, a ≤ hi → lo ≤ a → pl < ln → fgN t ln pl lo hi = a + 1 → Q (some (.int (nI a))) (hs h 15 (moO th ln (pl + 1) rm dg sz sd))) : Cl M_X5_figure h.1 h.2.1 [.ref 15, .int (nI lo), .int (nI hi)] h Q := by
  refine Cl.of pl_X5 (Nat.le_of_ble_eq_true rfl) (by first | exact Nat.le_refl _ | omega) (by first | exact Nat.le_refl _ | omega) ?_
  refine Rn.aload_n dX5_figure_0 rfl rfl ?_
  refine Rn.getf f_X5_87 dX5_figure_1 rfl M15 (Nat.lt_of_le_of_lt (Nat.le_of_ble_eq_true rfl) ML) rfl ?_
  refine Rn.aload_n dX5_figure_4 rfl rfl ?_
  refine Rn.getf f_X5_84 dX5_figure_5 rfl M15 (Nat.lt_of_le_of_lt (Nat.le_of_ble_eq_true rfl) ML) rfl ?_
  refine Rn.icmp_geN (tgt := 26) dX5_figure_8 rfl (by decide) (by omega) (by omega) (fun c8 => ?_) (fun c8 => ?_)
  · refine Rn.bipush dX5_figure_26 rfl bp_m9 ?_
    refine Rn.istore_n dX5_figure_28 rfl (Nat.le_of_ble_eq_true rfl) ?_
    refine Rn.iload_n dX5_figure_29 rfl rfl ?_
    refine Rn.i2l dX5_figure_30 rfl ?_
    refine Rn.iload_n dX5_figure_31 rfl rfl ?_
    refine Rn.i2lN dX5_figure_32 rfl (by omega) ?_
    refine Rn.iload_n dX5_figure_33 rfl rfl ?_
    refine Rn.i2lN dX5_figure_34 rfl (by omega) ?_
    refine Rn.callS (as := [_, _, _]) s_X5_in l_X5_57 ⟨Nat.le_of_ble_eq_true rfl, Nat.le_of_ble_eq_true rfl⟩ dX5_figure_35 rfl rfl (Nat.le_of_ble_eq_true rfl) (Nat.le_refl _) (Nat.le_refl _) (t_X5_in ?_)
    refine Rn.top (congrArg bi (inL_W (by omega) (by omega))) ?_
    refine Rn.if_neB (tgt := 44) dX5_figure_38 rfl (by decide) (fun c38 => ?_) (fun c38 => ?_)
    · obtain ⟨z, _, ez⟩ := isW_of2 c38 (by omega) (by omega)
      exact absurd ez.2.symm (nI_m9 (by omega))
    · refine Rn.bipush dX5_figure_41 rfl bp_m9 ?_
      refine Rn.iret dX5_figure_43 rfl rfl rfl ?_
      first | exact k0 (if_neg (by omega)) | exact k0 (Classical.byContradiction fun z => absurd ((fg_isW htl hlo hhi).trans (decide_eq_true z)) (by rw [c38]; decide))
  · refine Rn.aload_n dX5_figure_11 rfl rfl ?_
    refine Rn.getf f_X5_7 dX5_figure_12 rfl M15 (Nat.lt_of_le_of_lt (Nat.le_of_ble_eq_true rfl) ML) rfl ?_
    refine Rn.aload_n dX5_figure_15 rfl rfl ?_
    refine Rn.getf f_X5_87 dX5_figure_16 rfl M15 (Nat.lt_of_le_of_lt (Nat.le_of_ble_eq_true rfl) ML) rfl ?_
    refine Rn.ialdN dX5_figure_19 rfl M16 (Nat.lt_of_le_of_lt (Nat.le_of_ble_eq_true rfl) ML) (by omega) (by omega) ?_
    refine Rn.top (show na t pl = nI (t pl) from rfl) ?_
    refine Rn.bipush dX5_figure_20 rfl bp_48 ?_
    refine Rn.isub dX5_figure_22 rfl ?_
    refine Rn.top (y := wi (nlN t ln pl) - nI 48) (by unfold nlN; rw [if_pos (show pl < ln by omega)]; rfl) ?_
    refine Rn.goto (tgt := 28) dX5_figure_23 (by decide) ?_
    refine Rn.istore_n dX5_figure_28 rfl (Nat.le_of_ble_eq_true rfl) ?_
    refine Rn.iload_n dX5_figure_29 rfl rfl ?_
    refine Rn.i2l dX5_figure_30 rfl ?_
    refine Rn.iload_n dX5_figure_31 rfl rfl ?_
    refine Rn.i2lN dX5_figure_32 rfl (by omega) ?_
    refine Rn.iload_n dX5_figure_33 rfl rfl ?_
    refine Rn.i2lN dX5_figure_34 rfl (by omega) ?_
    refine Rn.callS (as := [_, _, _]) s_X5_in l_X5_57 ⟨Nat.le_of_ble_eq_true rfl, Nat.le_of_ble_eq_true rfl⟩ dX5_figure_35 rfl rfl (Nat.le_of_ble_eq_true rfl) (Nat.le_refl _) (Nat.le_refl _) (t_X5_in ?_)
    refine Rn.top (congrArg bi (inL_W (by omega) (by omega))) ?_
    refine Rn.if_neB (tgt := 44) dX5_figure_38 rfl (by decide) (fun c38 => ?_) (fun c38 => ?_)
    · have c38' := c38
      rw [fg_isW htl hlo hhi] at c38'
      obtain ⟨a, ea⟩ : ∃ a, fgN t ln pl lo hi = a + 1 := ⟨fgN t ln pl lo hi - 1, by have := of_decide_eq_true c38'; omega⟩
      obtain ⟨va, v1, v2, v3⟩ := fg_val htl ea
      rw [va]
      refine Rn.aload_n dX5_figure_44 rfl rfl ?_
      refine Rn.dup dX5_figure_45 rfl rfl ?_
      refine Rn.getf f_X5_87 dX5_figure_46 rfl M15 (Nat.lt_of_le_of_lt (Nat.le_of_ble_eq_true rfl) ML) rfl ?_
      refine Rn.iconst dX5_figure_49 rfl ic_1 ?_
      refine Rn.iaddN dX5_figure_50 rfl ?_
      refine Rn.putf p_X5_87 (fun h => by cases h) dX5_figure_51 rfl M15 (Nat.lt_of_le_of_lt (Nat.le_of_ble_eq_true rfl) ML) (fun g => ⟨rfl, rfl⟩) (Nat.le_of_ble_eq_true rfl) ?_
      refine Rn.iload_n dX5_figure_54 rfl rfl ?_
      refine Rn.iret dX5_figure_55 rfl rfl rfl ?_
      exact k a v1 v2 v3 ea
    · refine Rn.bipush dX5_figure_41 rfl bp_m9 ?_
      refine Rn.iret dX5_figure_43 rfl rfl rfl ?_
      first | exact k0 (if_neg (by omega)) | exact k0 (Classical.byContradiction fun z => absurd ((fg_isW htl hlo hhi).trans (decide_eq_true z)) (by rw [c38]; decide))
theorem t_X5_readNumber {h : rHp} {Q : Option Value → rHp → Prop} {th ln pl rm dg sz : Nat} {sd : Int64} {t : Nat → Nat} (M15 : h.2.2 15 = moO th ln pl rm dg sz sd) (M16 : h.2.2 16 = .inl (80, na t)) (ML : 27 < h.1) (hln : ln ≤ 80) (htl : ∀ i, t i < 256) (hpl : pl < 1000) (k0 : ∀ pl', rdN t ln pl = (0, pl') → pl' ≤ pl + 2 → Q (some (.int (-9))) (hs h 15 (moO th ln pl' rm dg sz sd))) (k : ∀ a, a < 251 → rdN t ln pl = (a + 1, pl + 3) → pl + 2 < ln → Q (some (.int (nI a))) (hs h 15 (moO th ln (pl + 3) rm dg sz sd))) : Cl M_X5_readNumber h.1 h.2.1 [.ref 15] h Q := by
  refine Cl.of pl_X5 (Nat.le_of_ble_eq_true rfl) (by first | exact Nat.le_refl _ | omega) (by first | exact Nat.le_refl _ | omega) ?_
  refine Rn.aload_n dX5_readNumber_0 rfl rfl ?_
  refine Rn.iconst dX5_readNumber_1 rfl ic_0 ?_
  refine Rn.iconst dX5_readNumber_2 rfl ic_2 ?_
  refine Rn.callV (as := [_, _]) v_X5_figure l_X5_90 ⟨Nat.le_of_ble_eq_true rfl, Nat.le_of_ble_eq_true rfl⟩ dX5_readNumber_3 rfl rfl (Nat.le_of_ble_eq_true rfl) M15 (Nat.lt_of_le_of_lt (Nat.le_of_ble_eq_true rfl) ML) rfl (Nat.le_refl _) (Nat.le_refl _) (t_X5_figure M15 M16 (by exact ML) hln htl (by omega) (by omega) (by omega) (fun ea => ?_) (fun a ha ga qa ea => ?_)) 
  · refine Rn.istore_n dX5_readNumber_6 rfl (Nat.le_of_ble_eq_true rfl) ?_
    refine Rn.iload_n dX5_readNumber_7 rfl rfl ?_
    refine Rn.bipush dX5_readNumber_8 rfl bp_m9 ?_
    refine Rn.icmp_ne (tgt := 18) dX5_readNumber_10 rfl (by decide) (fun c10 => ?_) (fun c10 => ?_)
    · exact absurd rfl c10
    · refine Rn.bipush dX5_readNumber_13 rfl bp_m9 ?_
      refine Rn.goto (tgt := 34) dX5_readNumber_15 (by decide) ?_
      refine Rn.istore_n dX5_readNumber_34 rfl (Nat.le_of_ble_eq_true rfl) ?_
      refine Rn.iload_n dX5_readNumber_35 rfl rfl ?_
      refine Rn.bipush dX5_readNumber_36 rfl bp_m9 ?_
      refine Rn.icmp_ne (tgt := 46) dX5_readNumber_38 rfl (by decide) (fun c38 => ?_) (fun c38 => ?_)
      · exact absurd rfl c38
      · refine Rn.bipush dX5_readNumber_41 rfl bp_m9 ?_
        refine Rn.goto (tgt := 67) dX5_readNumber_43 (by decide) ?_
        refine Rn.istore_n dX5_readNumber_67 rfl (Nat.le_of_ble_eq_true rfl) ?_
        refine Rn.iload_n dX5_readNumber_68 rfl rfl ?_
        refine Rn.bipush dX5_readNumber_69 rfl bp_m9 ?_
        refine Rn.icmp_ne (tgt := 79) dX5_readNumber_71 rfl (by decide) (fun c71 => ?_) (fun c71 => ?_)
        · exact absurd rfl c71
        · refine Rn.bipush dX5_readNumber_74 rfl bp_m9 ?_
          refine Rn.goto (tgt := 90) dX5_readNumber_76 (by decide) ?_
          refine Rn.iret dX5_readNumber_90 rfl rfl rfl ?_
          exact rn_fin (k0 pl (rdN_0 ea) (by omega)) rfl (hs_self h M15).symm
  · refine Rn.istore_n dX5_readNumber_6 rfl (Nat.le_of_ble_eq_true rfl) ?_
    refine Rn.iload_n dX5_readNumber_7 rfl rfl ?_
    refine Rn.bipush dX5_readNumber_8 rfl bp_m9 ?_
    refine Rn.icmp_ne (tgt := 18) dX5_readNumber_10 rfl (by decide) (fun c10 => ?_) (fun c10 => ?_)
    · refine Rn.aload_n dX5_readNumber_18 rfl rfl ?_
      refine Rn.iconst dX5_readNumber_19 rfl ic_0 ?_
      refine Rn.iload_n dX5_readNumber_20 rfl rfl ?_
      refine Rn.iconst dX5_readNumber_21 rfl ic_2 ?_
      refine Rn.icmp_neN (tgt := 29) dX5_readNumber_22 rfl (by decide) (by omega) (by omega) (fun c22 => ?_) (fun c22 => ?_)
      · refine Rn.bipush dX5_readNumber_29 rfl bp_9 ?_
        refine Rn.callV (as := [_, _]) v_X5_figure l_X5_90 ⟨Nat.le_of_ble_eq_true rfl, Nat.le_of_ble_eq_true rfl⟩ dX5_readNumber_31 rfl rfl (Nat.le_of_ble_eq_true rfl) (hs_eq _ _ _) (Nat.lt_of_le_of_lt (Nat.le_of_ble_eq_true rfl) ML) rfl (Nat.le_refl _) (Nat.le_refl _) (t_X5_figure (hs_eq _ _ _) ((hs_ne _ _ (by decide)).trans M16) (by exact ML) hln htl (by omega) (by omega) (by omega) (fun eb => ?_) (fun b hb gb qb eb => ?_)) 
        · refine Rn.istore_n dX5_readNumber_34 rfl (Nat.le_of_ble_eq_true rfl) ?_
          refine Rn.iload_n dX5_readNumber_35 rfl rfl ?_
          refine Rn.bipush dX5_readNumber_36 rfl bp_m9 ?_
          refine Rn.icmp_ne (tgt := 46) dX5_readNumber_38 rfl (by decide) (fun c38 => ?_) (fun c38 => ?_)
          · exact absurd rfl c38
          · refine Rn.bipush dX5_readNumber_41 rfl bp_m9 ?_
            refine Rn.goto (tgt := 67) dX5_readNumber_43 (by decide) ?_
            refine Rn.istore_n dX5_readNumber_67 rfl (Nat.le_of_ble_eq_true rfl) ?_
            refine Rn.iload_n dX5_readNumber_68 rfl rfl ?_
            refine Rn.bipush dX5_readNumber_69 rfl bp_m9 ?_
            refine Rn.icmp_ne (tgt := 79) dX5_readNumber_71 rfl (by decide) (fun c71 => ?_) (fun c71 => ?_)
            · exact absurd rfl c71
            · refine Rn.bipush dX5_readNumber_74 rfl bp_m9 ?_
              refine Rn.goto (tgt := 90) dX5_readNumber_76 (by decide) ?_
              refine Rn.iret dX5_readNumber_90 rfl rfl rfl ?_
              exact k0 _ (rdN_1 ea (by split <;> omega) eb) (by omega)
        · refine Rn.heap (hs_hs _ _ _ _) ?_
          refine Rn.istore_n dX5_readNumber_34 rfl (Nat.le_of_ble_eq_true rfl) ?_
          refine Rn.iload_n dX5_readNumber_35 rfl rfl ?_
          refine Rn.bipush dX5_readNumber_36 rfl bp_m9 ?_
          refine Rn.icmp_ne (tgt := 46) dX5_readNumber_38 rfl (by decide) (fun c38 => ?_) (fun c38 => ?_)
          · refine Rn.aload_n dX5_readNumber_46 rfl rfl ?_
            refine Rn.iconst dX5_readNumber_47 rfl ic_0 ?_
            refine Rn.iload_n dX5_readNumber_48 rfl rfl ?_
            refine Rn.iconst dX5_readNumber_49 rfl ic_2 ?_
            refine Rn.icmp_neN (tgt := 62) dX5_readNumber_50 rfl (by decide) (by omega) (by omega) (fun c50 => ?_) (fun c50 => ?_)
            · refine Rn.bipush dX5_readNumber_62 rfl bp_9 ?_
              refine Rn.callV (as := [_, _]) v_X5_figure l_X5_90 ⟨Nat.le_of_ble_eq_true rfl, Nat.le_of_ble_eq_true rfl⟩ dX5_readNumber_64 rfl rfl (Nat.le_of_ble_eq_true rfl) (hs_eq _ _ _) (Nat.lt_of_le_of_lt (Nat.le_of_ble_eq_true rfl) ML) rfl (Nat.le_refl _) (Nat.le_refl _) (t_X5_figure (hs_eq _ _ _) ((hs_ne _ _ (by decide)).trans M16) (by exact ML) hln htl (by omega) (by omega) (by omega) (fun ec => ?_) (fun c hc gc qc ec => ?_)) 
              · refine Rn.istore_n dX5_readNumber_67 rfl (Nat.le_of_ble_eq_true rfl) ?_
                refine Rn.iload_n dX5_readNumber_68 rfl rfl ?_
                refine Rn.bipush dX5_readNumber_69 rfl bp_m9 ?_
                refine Rn.icmp_ne (tgt := 79) dX5_readNumber_71 rfl (by decide) (fun c71 => ?_) (fun c71 => ?_)
                · exact absurd rfl c71
                · refine Rn.bipush dX5_readNumber_74 rfl bp_m9 ?_
                  refine Rn.goto (tgt := 90) dX5_readNumber_76 (by decide) ?_
                  refine Rn.iret dX5_readNumber_90 rfl rfl rfl ?_
                  exact k0 _ (rdN_2 ea (by split <;> omega) eb (by split <;> omega) ec) (by omega)
              · refine Rn.heap (hs_hs _ _ _ _) ?_
                refine Rn.istore_n dX5_readNumber_67 rfl (Nat.le_of_ble_eq_true rfl) ?_
                refine Rn.iload_n dX5_readNumber_68 rfl rfl ?_
                refine Rn.bipush dX5_readNumber_69 rfl bp_m9 ?_
                refine Rn.icmp_ne (tgt := 79) dX5_readNumber_71 rfl (by decide) (fun c71 => ?_) (fun c71 => ?_)
                · refine Rn.bipush dX5_readNumber_79 rfl bp_100 ?_
                  refine Rn.iload_n dX5_readNumber_81 rfl rfl ?_
                  refine Rn.imulN dX5_readNumber_82 rfl ?_
                  refine Rn.bipush dX5_readNumber_83 rfl bp_10 ?_
                  refine Rn.iload_n dX5_readNumber_85 rfl rfl ?_
                  refine Rn.imulN dX5_readNumber_86 rfl ?_
                  refine Rn.iaddN dX5_readNumber_87 rfl ?_
                  refine Rn.iload_n dX5_readNumber_88 rfl rfl ?_
                  refine Rn.iaddN dX5_readNumber_89 rfl ?_
                  refine Rn.iret dX5_readNumber_90 rfl rfl rfl ?_
                  exact k (100 * a + 10 * b + c) (rd_lt ha hb hc (by split <;> omega) (by split <;> omega)) (rdN_3 ea (by split <;> omega) eb (by split <;> omega) ec) (by omega)
                · exact absurd c71 (nI_m9 (by omega))
            · refine Rn.iload_n dX5_readNumber_53 rfl rfl ?_
              refine Rn.iconst dX5_readNumber_54 rfl ic_5 ?_
              refine Rn.icmp_neN (tgt := 62) dX5_readNumber_55 rfl (by decide) (by omega) (by omega) (fun c55 => ?_) (fun c55 => ?_)
              · refine Rn.bipush dX5_readNumber_62 rfl bp_9 ?_
                refine Rn.callV (as := [_, _]) v_X5_figure l_X5_90 ⟨Nat.le_of_ble_eq_true rfl, Nat.le_of_ble_eq_true rfl⟩ dX5_readNumber_64 rfl rfl (Nat.le_of_ble_eq_true rfl) (hs_eq _ _ _) (Nat.lt_of_le_of_lt (Nat.le_of_ble_eq_true rfl) ML) rfl (Nat.le_refl _) (Nat.le_refl _) (t_X5_figure (hs_eq _ _ _) ((hs_ne _ _ (by decide)).trans M16) (by exact ML) hln htl (by omega) (by omega) (by omega) (fun ec => ?_) (fun c hc gc qc ec => ?_)) 
                · refine Rn.istore_n dX5_readNumber_67 rfl (Nat.le_of_ble_eq_true rfl) ?_
                  refine Rn.iload_n dX5_readNumber_68 rfl rfl ?_
                  refine Rn.bipush dX5_readNumber_69 rfl bp_m9 ?_
                  refine Rn.icmp_ne (tgt := 79) dX5_readNumber_71 rfl (by decide) (fun c71 => ?_) (fun c71 => ?_)
                  · exact absurd rfl c71
                  · refine Rn.bipush dX5_readNumber_74 rfl bp_m9 ?_
                    refine Rn.goto (tgt := 90) dX5_readNumber_76 (by decide) ?_
                    refine Rn.iret dX5_readNumber_90 rfl rfl rfl ?_
                    exact k0 _ (rdN_2 ea (by split <;> omega) eb (by split <;> omega) ec) (by omega)
                · refine Rn.heap (hs_hs _ _ _ _) ?_
                  refine Rn.istore_n dX5_readNumber_67 rfl (Nat.le_of_ble_eq_true rfl) ?_
                  refine Rn.iload_n dX5_readNumber_68 rfl rfl ?_
                  refine Rn.bipush dX5_readNumber_69 rfl bp_m9 ?_
                  refine Rn.icmp_ne (tgt := 79) dX5_readNumber_71 rfl (by decide) (fun c71 => ?_) (fun c71 => ?_)
                  · refine Rn.bipush dX5_readNumber_79 rfl bp_100 ?_
                    refine Rn.iload_n dX5_readNumber_81 rfl rfl ?_
                    refine Rn.imulN dX5_readNumber_82 rfl ?_
                    refine Rn.bipush dX5_readNumber_83 rfl bp_10 ?_
                    refine Rn.iload_n dX5_readNumber_85 rfl rfl ?_
                    refine Rn.imulN dX5_readNumber_86 rfl ?_
                    refine Rn.iaddN dX5_readNumber_87 rfl ?_
                    refine Rn.iload_n dX5_readNumber_88 rfl rfl ?_
                    refine Rn.iaddN dX5_readNumber_89 rfl ?_
                    refine Rn.iret dX5_readNumber_90 rfl rfl rfl ?_
                    exact k (100 * a + 10 * b + c) (rd_lt ha hb hc (by split <;> omega) (by split <;> omega)) (rdN_3 ea (by split <;> omega) eb (by split <;> omega) ec) (by omega)
                  · exact absurd c71 (nI_m9 (by omega))
              · refine Rn.iconst dX5_readNumber_58 rfl ic_0 ?_
                refine Rn.goto (tgt := 64) dX5_readNumber_59 (by decide) ?_
                refine Rn.callV (as := [_, _]) v_X5_figure l_X5_90 ⟨Nat.le_of_ble_eq_true rfl, Nat.le_of_ble_eq_true rfl⟩ dX5_readNumber_64 rfl rfl (Nat.le_of_ble_eq_true rfl) (hs_eq _ _ _) (Nat.lt_of_le_of_lt (Nat.le_of_ble_eq_true rfl) ML) rfl (Nat.le_refl _) (Nat.le_refl _) (t_X5_figure (hs_eq _ _ _) ((hs_ne _ _ (by decide)).trans M16) (by exact ML) hln htl (by omega) (by omega) (by omega) (fun ec => ?_) (fun c hc gc qc ec => ?_)) 
                · refine Rn.istore_n dX5_readNumber_67 rfl (Nat.le_of_ble_eq_true rfl) ?_
                  refine Rn.iload_n dX5_readNumber_68 rfl rfl ?_
                  refine Rn.bipush dX5_readNumber_69 rfl bp_m9 ?_
                  refine Rn.icmp_ne (tgt := 79) dX5_readNumber_71 rfl (by decide) (fun c71 => ?_) (fun c71 => ?_)
                  · exact absurd rfl c71
                  · refine Rn.bipush dX5_readNumber_74 rfl bp_m9 ?_
                    refine Rn.goto (tgt := 90) dX5_readNumber_76 (by decide) ?_
                    refine Rn.iret dX5_readNumber_90 rfl rfl rfl ?_
                    exact k0 _ (rdN_2 ea (by split <;> omega) eb (by split <;> omega) ec) (by omega)
                · refine Rn.heap (hs_hs _ _ _ _) ?_
                  refine Rn.istore_n dX5_readNumber_67 rfl (Nat.le_of_ble_eq_true rfl) ?_
                  refine Rn.iload_n dX5_readNumber_68 rfl rfl ?_
                  refine Rn.bipush dX5_readNumber_69 rfl bp_m9 ?_
                  refine Rn.icmp_ne (tgt := 79) dX5_readNumber_71 rfl (by decide) (fun c71 => ?_) (fun c71 => ?_)
                  · refine Rn.bipush dX5_readNumber_79 rfl bp_100 ?_
                    refine Rn.iload_n dX5_readNumber_81 rfl rfl ?_
                    refine Rn.imulN dX5_readNumber_82 rfl ?_
                    refine Rn.bipush dX5_readNumber_83 rfl bp_10 ?_
                    refine Rn.iload_n dX5_readNumber_85 rfl rfl ?_
                    refine Rn.imulN dX5_readNumber_86 rfl ?_
                    refine Rn.iaddN dX5_readNumber_87 rfl ?_
                    refine Rn.iload_n dX5_readNumber_88 rfl rfl ?_
                    refine Rn.iaddN dX5_readNumber_89 rfl ?_
                    refine Rn.iret dX5_readNumber_90 rfl rfl rfl ?_
                    exact k (100 * a + 10 * b + c) (rd_lt ha hb hc (by split <;> omega) (by split <;> omega)) (rdN_3 ea (by split <;> omega) eb (by split <;> omega) ec) (by omega)
                  · exact absurd c71 (nI_m9 (by omega))
          · exact absurd c38 (nI_m9 (by omega))
      · refine Rn.iconst dX5_readNumber_25 rfl ic_5 ?_
        refine Rn.goto (tgt := 31) dX5_readNumber_26 (by decide) ?_
        refine Rn.callV (as := [_, _]) v_X5_figure l_X5_90 ⟨Nat.le_of_ble_eq_true rfl, Nat.le_of_ble_eq_true rfl⟩ dX5_readNumber_31 rfl rfl (Nat.le_of_ble_eq_true rfl) (hs_eq _ _ _) (Nat.lt_of_le_of_lt (Nat.le_of_ble_eq_true rfl) ML) rfl (Nat.le_refl _) (Nat.le_refl _) (t_X5_figure (hs_eq _ _ _) ((hs_ne _ _ (by decide)).trans M16) (by exact ML) hln htl (by omega) (by omega) (by omega) (fun eb => ?_) (fun b hb gb qb eb => ?_)) 
        · refine Rn.istore_n dX5_readNumber_34 rfl (Nat.le_of_ble_eq_true rfl) ?_
          refine Rn.iload_n dX5_readNumber_35 rfl rfl ?_
          refine Rn.bipush dX5_readNumber_36 rfl bp_m9 ?_
          refine Rn.icmp_ne (tgt := 46) dX5_readNumber_38 rfl (by decide) (fun c38 => ?_) (fun c38 => ?_)
          · exact absurd rfl c38
          · refine Rn.bipush dX5_readNumber_41 rfl bp_m9 ?_
            refine Rn.goto (tgt := 67) dX5_readNumber_43 (by decide) ?_
            refine Rn.istore_n dX5_readNumber_67 rfl (Nat.le_of_ble_eq_true rfl) ?_
            refine Rn.iload_n dX5_readNumber_68 rfl rfl ?_
            refine Rn.bipush dX5_readNumber_69 rfl bp_m9 ?_
            refine Rn.icmp_ne (tgt := 79) dX5_readNumber_71 rfl (by decide) (fun c71 => ?_) (fun c71 => ?_)
            · exact absurd rfl c71
            · refine Rn.bipush dX5_readNumber_74 rfl bp_m9 ?_
              refine Rn.goto (tgt := 90) dX5_readNumber_76 (by decide) ?_
              refine Rn.iret dX5_readNumber_90 rfl rfl rfl ?_
              exact k0 _ (rdN_1 ea (by split <;> omega) eb) (by omega)
        · refine Rn.heap (hs_hs _ _ _ _) ?_
          refine Rn.istore_n dX5_readNumber_34 rfl (Nat.le_of_ble_eq_true rfl) ?_
          refine Rn.iload_n dX5_readNumber_35 rfl rfl ?_
          refine Rn.bipush dX5_readNumber_36 rfl bp_m9 ?_
          refine Rn.icmp_ne (tgt := 46) dX5_readNumber_38 rfl (by decide) (fun c38 => ?_) (fun c38 => ?_)
          · refine Rn.aload_n dX5_readNumber_46 rfl rfl ?_
            refine Rn.iconst dX5_readNumber_47 rfl ic_0 ?_
            refine Rn.iload_n dX5_readNumber_48 rfl rfl ?_
            refine Rn.iconst dX5_readNumber_49 rfl ic_2 ?_
            refine Rn.icmp_neN (tgt := 62) dX5_readNumber_50 rfl (by decide) (by omega) (by omega) (fun c50 => ?_) (fun c50 => ?_)
            · refine Rn.bipush dX5_readNumber_62 rfl bp_9 ?_
              refine Rn.callV (as := [_, _]) v_X5_figure l_X5_90 ⟨Nat.le_of_ble_eq_true rfl, Nat.le_of_ble_eq_true rfl⟩ dX5_readNumber_64 rfl rfl (Nat.le_of_ble_eq_true rfl) (hs_eq _ _ _) (Nat.lt_of_le_of_lt (Nat.le_of_ble_eq_true rfl) ML) rfl (Nat.le_refl _) (Nat.le_refl _) (t_X5_figure (hs_eq _ _ _) ((hs_ne _ _ (by decide)).trans M16) (by exact ML) hln htl (by omega) (by omega) (by omega) (fun ec => ?_) (fun c hc gc qc ec => ?_)) 
              · refine Rn.istore_n dX5_readNumber_67 rfl (Nat.le_of_ble_eq_true rfl) ?_
                refine Rn.iload_n dX5_readNumber_68 rfl rfl ?_
                refine Rn.bipush dX5_readNumber_69 rfl bp_m9 ?_
                refine Rn.icmp_ne (tgt := 79) dX5_readNumber_71 rfl (by decide) (fun c71 => ?_) (fun c71 => ?_)
                · exact absurd rfl c71
                · refine Rn.bipush dX5_readNumber_74 rfl bp_m9 ?_
                  refine Rn.goto (tgt := 90) dX5_readNumber_76 (by decide) ?_
                  refine Rn.iret dX5_readNumber_90 rfl rfl rfl ?_
                  exact k0 _ (rdN_2 ea (by split <;> omega) eb (by split <;> omega) ec) (by omega)
              · refine Rn.heap (hs_hs _ _ _ _) ?_
                refine Rn.istore_n dX5_readNumber_67 rfl (Nat.le_of_ble_eq_true rfl) ?_
                refine Rn.iload_n dX5_readNumber_68 rfl rfl ?_
                refine Rn.bipush dX5_readNumber_69 rfl bp_m9 ?_
                refine Rn.icmp_ne (tgt := 79) dX5_readNumber_71 rfl (by decide) (fun c71 => ?_) (fun c71 => ?_)
                · refine Rn.bipush dX5_readNumber_79 rfl bp_100 ?_
                  refine Rn.iload_n dX5_readNumber_81 rfl rfl ?_
                  refine Rn.imulN dX5_readNumber_82 rfl ?_
                  refine Rn.bipush dX5_readNumber_83 rfl bp_10 ?_
                  refine Rn.iload_n dX5_readNumber_85 rfl rfl ?_
                  refine Rn.imulN dX5_readNumber_86 rfl ?_
                  refine Rn.iaddN dX5_readNumber_87 rfl ?_
                  refine Rn.iload_n dX5_readNumber_88 rfl rfl ?_
                  refine Rn.iaddN dX5_readNumber_89 rfl ?_
                  refine Rn.iret dX5_readNumber_90 rfl rfl rfl ?_
                  exact k (100 * a + 10 * b + c) (rd_lt ha hb hc (by split <;> omega) (by split <;> omega)) (rdN_3 ea (by split <;> omega) eb (by split <;> omega) ec) (by omega)
                · exact absurd c71 (nI_m9 (by omega))
            · refine Rn.iload_n dX5_readNumber_53 rfl rfl ?_
              refine Rn.iconst dX5_readNumber_54 rfl ic_5 ?_
              refine Rn.icmp_neN (tgt := 62) dX5_readNumber_55 rfl (by decide) (by omega) (by omega) (fun c55 => ?_) (fun c55 => ?_)
              · refine Rn.bipush dX5_readNumber_62 rfl bp_9 ?_
                refine Rn.callV (as := [_, _]) v_X5_figure l_X5_90 ⟨Nat.le_of_ble_eq_true rfl, Nat.le_of_ble_eq_true rfl⟩ dX5_readNumber_64 rfl rfl (Nat.le_of_ble_eq_true rfl) (hs_eq _ _ _) (Nat.lt_of_le_of_lt (Nat.le_of_ble_eq_true rfl) ML) rfl (Nat.le_refl _) (Nat.le_refl _) (t_X5_figure (hs_eq _ _ _) ((hs_ne _ _ (by decide)).trans M16) (by exact ML) hln htl (by omega) (by omega) (by omega) (fun ec => ?_) (fun c hc gc qc ec => ?_)) 
                · refine Rn.istore_n dX5_readNumber_67 rfl (Nat.le_of_ble_eq_true rfl) ?_
                  refine Rn.iload_n dX5_readNumber_68 rfl rfl ?_
                  refine Rn.bipush dX5_readNumber_69 rfl bp_m9 ?_
                  refine Rn.icmp_ne (tgt := 79) dX5_readNumber_71 rfl (by decide) (fun c71 => ?_) (fun c71 => ?_)
                  · exact absurd rfl c71
                  · refine Rn.bipush dX5_readNumber_74 rfl bp_m9 ?_
                    refine Rn.goto (tgt := 90) dX5_readNumber_76 (by decide) ?_
                    refine Rn.iret dX5_readNumber_90 rfl rfl rfl ?_
                    exact k0 _ (rdN_2 ea (by split <;> omega) eb (by split <;> omega) ec) (by omega)
                · refine Rn.heap (hs_hs _ _ _ _) ?_
                  refine Rn.istore_n dX5_readNumber_67 rfl (Nat.le_of_ble_eq_true rfl) ?_
                  refine Rn.iload_n dX5_readNumber_68 rfl rfl ?_
                  refine Rn.bipush dX5_readNumber_69 rfl bp_m9 ?_
                  refine Rn.icmp_ne (tgt := 79) dX5_readNumber_71 rfl (by decide) (fun c71 => ?_) (fun c71 => ?_)
                  · refine Rn.bipush dX5_readNumber_79 rfl bp_100 ?_
                    refine Rn.iload_n dX5_readNumber_81 rfl rfl ?_
                    refine Rn.imulN dX5_readNumber_82 rfl ?_
                    refine Rn.bipush dX5_readNumber_83 rfl bp_10 ?_
                    refine Rn.iload_n dX5_readNumber_85 rfl rfl ?_
                    refine Rn.imulN dX5_readNumber_86 rfl ?_
                    refine Rn.iaddN dX5_readNumber_87 rfl ?_
                    refine Rn.iload_n dX5_readNumber_88 rfl rfl ?_
                    refine Rn.iaddN dX5_readNumber_89 rfl ?_
                    refine Rn.iret dX5_readNumber_90 rfl rfl rfl ?_
                    exact k (100 * a + 10 * b + c) (rd_lt ha hb hc (by split <;> omega) (by split <;> omega)) (rdN_3 ea (by split <;> omega) eb (by split <;> omega) ec) (by omega)
                  · exact absurd c71 (nI_m9 (by omega))
              · refine Rn.iconst dX5_readNumber_58 rfl ic_0 ?_
                refine Rn.goto (tgt := 64) dX5_readNumber_59 (by decide) ?_
                refine Rn.callV (as := [_, _]) v_X5_figure l_X5_90 ⟨Nat.le_of_ble_eq_true rfl, Nat.le_of_ble_eq_true rfl⟩ dX5_readNumber_64 rfl rfl (Nat.le_of_ble_eq_true rfl) (hs_eq _ _ _) (Nat.lt_of_le_of_lt (Nat.le_of_ble_eq_true rfl) ML) rfl (Nat.le_refl _) (Nat.le_refl _) (t_X5_figure (hs_eq _ _ _) ((hs_ne _ _ (by decide)).trans M16) (by exact ML) hln htl (by omega) (by omega) (by omega) (fun ec => ?_) (fun c hc gc qc ec => ?_)) 
                · refine Rn.istore_n dX5_readNumber_67 rfl (Nat.le_of_ble_eq_true rfl) ?_
                  refine Rn.iload_n dX5_readNumber_68 rfl rfl ?_
                  refine Rn.bipush dX5_readNumber_69 rfl bp_m9 ?_
                  refine Rn.icmp_ne (tgt := 79) dX5_readNumber_71 rfl (by decide) (fun c71 => ?_) (fun c71 => ?_)
                  · exact absurd rfl c71
                  · refine Rn.bipush dX5_readNumber_74 rfl bp_m9 ?_
                    refine Rn.goto (tgt := 90) dX5_readNumber_76 (by decide) ?_
                    refine Rn.iret dX5_readNumber_90 rfl rfl rfl ?_
                    exact k0 _ (rdN_2 ea (by split <;> omega) eb (by split <;> omega) ec) (by omega)
                · refine Rn.heap (hs_hs _ _ _ _) ?_
                  refine Rn.istore_n dX5_readNumber_67 rfl (Nat.le_of_ble_eq_true rfl) ?_
                  refine Rn.iload_n dX5_readNumber_68 rfl rfl ?_
                  refine Rn.bipush dX5_readNumber_69 rfl bp_m9 ?_
                  refine Rn.icmp_ne (tgt := 79) dX5_readNumber_71 rfl (by decide) (fun c71 => ?_) (fun c71 => ?_)
                  · refine Rn.bipush dX5_readNumber_79 rfl bp_100 ?_
                    refine Rn.iload_n dX5_readNumber_81 rfl rfl ?_
                    refine Rn.imulN dX5_readNumber_82 rfl ?_
                    refine Rn.bipush dX5_readNumber_83 rfl bp_10 ?_
                    refine Rn.iload_n dX5_readNumber_85 rfl rfl ?_
                    refine Rn.imulN dX5_readNumber_86 rfl ?_
                    refine Rn.iaddN dX5_readNumber_87 rfl ?_
                    refine Rn.iload_n dX5_readNumber_88 rfl rfl ?_
                    refine Rn.iaddN dX5_readNumber_89 rfl ?_
                    refine Rn.iret dX5_readNumber_90 rfl rfl rfl ?_
                    exact k (100 * a + 10 * b + c) (rd_lt ha hb hc (by split <;> omega) (by split <;> omega)) (rdN_3 ea (by split <;> omega) eb (by split <;> omega) ec) (by omega)
                  · exact absurd c71 (nI_m9 (by omega))
          · exact absurd c38 (nI_m9 (by omega))
    · exact absurd c10 (nI_m9 (by omega))
theorem t_X5_readUser {h : rHp} {Q : Option Value → rHp → Prop} {th ln pl rm dg sz : Nat} {sd : Int64} {t : Nat → Nat} (M15 : h.2.2 15 = moO th ln pl rm dg sz sd) (M16 : h.2.2 16 = .inl (80, na t)) (ML : 27 < h.1) (hln : ln ≤ 80) (htl : ∀ i, t i < 256) (hpl : pl < 200) {q : Nat → Nat} (M17 : h.2.2 17 = .inl (36, pg q)) (Oq : OKp q) (hrmb : rm < 1000) (kA : q 24 = 4 ∨ 0 < rm → Q (some (.int (bi false))) h) (k0 : q 24 < 4 → rm = 0 → ∀ pl', ruN t ln pl = (0, pl', 0, 0, 0) → pl' ≤ pl + 9 → Q (some (.int (bi false))) (hs h 15 (moO th ln pl' rm dg sz sd))) (k : q 24 < 4 → rm = 0 → ∀ a b c, a < 251 → b < 251 → 1 ≤ c → c ≤ 30 → ruN t ln pl = (1, pl + 9, a, b, c) → pl + 8 < ln → Q (some (.int (bi true))) (hs (hs h 15 (moO th ln (pl + 9) rm dg sz sd)) 17 (.inl (36, pg (adP q a b c))))) : Cl M_X5_readUser h.1 h.2.1 [.ref 15] h Q := by
  refine Cl.of pl_X5 (Nat.le_of_ble_eq_true rfl) (by first | exact Nat.le_refl _ | omega) (by first | exact Nat.le_refl _ | omega) ?_
  refine Rn.aload_n dX5_readUser_0 rfl rfl ?_
  refine Rn.getf f_X5_13 dX5_readUser_1 rfl M15 (Nat.lt_of_le_of_lt (Nat.le_of_ble_eq_true rfl) ML) rfl ?_
  refine Rn.bipush dX5_readUser_4 rfl bp_24 ?_
  refine Rn.ialdN dX5_readUser_6 rfl M17 (Nat.lt_of_le_of_lt (Nat.le_of_ble_eq_true rfl) ML) (by omega) (by omega) ?_
  refine Rn.top (pg_n _ (by omega) (by omega)) ?_
  have h24' := Oq.1
  refine Rn.iconst dX5_readUser_7 rfl ic_4 ?_
  refine Rn.icmp_eqN (tgt := 18) dX5_readUser_8 rfl (by decide) (by omega) (by omega) (fun c8 => ?_) (fun c8 => ?_)
  · refine Rn.iconst dX5_readUser_18 rfl ic_0 ?_
    refine Rn.zret dX5_readUser_19 rfl (by decide) rfl rfl ?_
    exact rn_fin (kA (by omega)) bi_f' rfl
  · refine Rn.aload_n dX5_readUser_11 rfl rfl ?_
    refine Rn.getf f_X5_94 dX5_readUser_12 rfl M15 (Nat.lt_of_le_of_lt (Nat.le_of_ble_eq_true rfl) ML) rfl ?_
    refine Rn.if_leN (tgt := 20) dX5_readUser_15 rfl (by decide) (by omega) (fun c15 => ?_) (fun c15 => ?_)
    · have h24 : q 24 < 4 := by omega
      have hrm : rm = 0 := by omega
      refine Rn.aload_n dX5_readUser_20 rfl rfl ?_
      refine Rn.dup dX5_readUser_21 rfl rfl ?_
      refine Rn.getf f_X5_87 dX5_readUser_22 rfl M15 (Nat.lt_of_le_of_lt (Nat.le_of_ble_eq_true rfl) ML) rfl ?_
      refine Rn.iconst dX5_readUser_25 rfl ic_1 ?_
      refine Rn.iaddN dX5_readUser_26 rfl ?_
      refine Rn.putf p_X5_87 (fun h => by cases h) dX5_readUser_27 rfl M15 (Nat.lt_of_le_of_lt (Nat.le_of_ble_eq_true rfl) ML) (fun g => ⟨rfl, rfl⟩) (Nat.le_of_ble_eq_true rfl) ?_
      refine Rn.aload_n dX5_readUser_30 rfl rfl ?_
      refine Rn.callV (as := []) v_X5_readNumber l_X5_97 ⟨Nat.le_of_ble_eq_true rfl, Nat.le_of_ble_eq_true rfl⟩ dX5_readUser_31 rfl rfl (Nat.le_of_ble_eq_true rfl) (hs_eq _ _ _) (Nat.lt_of_le_of_lt (Nat.le_of_ble_eq_true rfl) ML) rfl (Nat.le_refl _) (Nat.le_refl _) (t_X5_readNumber (hs_eq _ _ _) ((hs_ne _ _ (by decide)).trans M16) (by exact ML) hln htl (by omega) (fun la ea ga => ?_) (fun a ha ea qa => ?_)) 
      · refine Rn.heap (hs_hs _ _ _ _) ?_
        refine Rn.istore_n dX5_readUser_34 rfl (Nat.le_of_ble_eq_true rfl) ?_
        refine Rn.iload_n dX5_readUser_35 rfl rfl ?_
        refine Rn.bipush dX5_readUser_36 rfl bp_m9 ?_
        refine Rn.icmp_ne (tgt := 46) dX5_readUser_38 rfl (by decide) (fun c38 => ?_) (fun c38 => ?_)
        · exact absurd rfl c38
        · refine Rn.bipush dX5_readUser_41 rfl bp_m9 ?_
          refine Rn.goto (tgt := 50) dX5_readUser_43 (by decide) ?_
          refine Rn.istore_n dX5_readUser_50 rfl (Nat.le_of_ble_eq_true rfl) ?_
          refine Rn.iload_n dX5_readUser_51 rfl rfl ?_
          refine Rn.bipush dX5_readUser_52 rfl bp_m9 ?_
          refine Rn.icmp_ne (tgt := 62) dX5_readUser_54 rfl (by decide) (fun c54 => ?_) (fun c54 => ?_)
          · exact absurd rfl c54
          · refine Rn.bipush dX5_readUser_57 rfl bp_m9 ?_
            refine Rn.goto (tgt := 68) dX5_readUser_59 (by decide) ?_
            refine Rn.istore_n dX5_readUser_68 rfl (Nat.le_of_ble_eq_true rfl) ?_
            refine Rn.iload_n dX5_readUser_69 rfl rfl ?_
            refine Rn.bipush dX5_readUser_70 rfl bp_m9 ?_
            refine Rn.icmp_ne (tgt := 80) dX5_readUser_72 rfl (by decide) (fun c72 => ?_) (fun c72 => ?_)
            · exact absurd rfl c72
            · refine Rn.bipush dX5_readUser_75 rfl bp_m9 ?_
              refine Rn.goto (tgt := 104) dX5_readUser_77 (by decide) ?_
              refine Rn.istore dX5_readUser_104 rfl (Nat.le_of_ble_eq_true rfl) ?_
              refine Rn.iload dX5_readUser_106 rfl rfl ?_
              refine Rn.bipush dX5_readUser_108 rfl bp_m9 ?_
              refine Rn.icmp_ne (tgt := 115) dX5_readUser_110 rfl (by decide) (fun c110 => ?_) (fun c110 => ?_)
              · exact absurd rfl c110
              · refine Rn.iconst dX5_readUser_113 rfl ic_0 ?_
                refine Rn.zret dX5_readUser_114 rfl (by decide) rfl rfl ?_
                exact rn_fin (k0 h24 hrm _ (ruN_0 ea) (by omega)) bi_f' rfl
      · refine Rn.heap (hs_hs _ _ _ _) ?_
        refine Rn.istore_n dX5_readUser_34 rfl (Nat.le_of_ble_eq_true rfl) ?_
        refine Rn.iload_n dX5_readUser_35 rfl rfl ?_
        refine Rn.bipush dX5_readUser_36 rfl bp_m9 ?_
        refine Rn.icmp_ne (tgt := 46) dX5_readUser_38 rfl (by decide) (fun c38 => ?_) (fun c38 => ?_)
        · refine Rn.aload_n dX5_readUser_46 rfl rfl ?_
          refine Rn.callV (as := []) v_X5_readNumber l_X5_97 ⟨Nat.le_of_ble_eq_true rfl, Nat.le_of_ble_eq_true rfl⟩ dX5_readUser_47 rfl rfl (Nat.le_of_ble_eq_true rfl) (hs_eq _ _ _) (Nat.lt_of_le_of_lt (Nat.le_of_ble_eq_true rfl) ML) rfl (Nat.le_refl _) (Nat.le_refl _) (t_X5_readNumber (hs_eq _ _ _) ((hs_ne _ _ (by decide)).trans M16) (by exact ML) hln htl (by omega) (fun lb eb gb => ?_) (fun b hb eb qb => ?_)) 
          · refine Rn.heap (hs_hs _ _ _ _) ?_
            refine Rn.istore_n dX5_readUser_50 rfl (Nat.le_of_ble_eq_true rfl) ?_
            refine Rn.iload_n dX5_readUser_51 rfl rfl ?_
            refine Rn.bipush dX5_readUser_52 rfl bp_m9 ?_
            refine Rn.icmp_ne (tgt := 62) dX5_readUser_54 rfl (by decide) (fun c54 => ?_) (fun c54 => ?_)
            · exact absurd rfl c54
            · refine Rn.bipush dX5_readUser_57 rfl bp_m9 ?_
              refine Rn.goto (tgt := 68) dX5_readUser_59 (by decide) ?_
              refine Rn.istore_n dX5_readUser_68 rfl (Nat.le_of_ble_eq_true rfl) ?_
              refine Rn.iload_n dX5_readUser_69 rfl rfl ?_
              refine Rn.bipush dX5_readUser_70 rfl bp_m9 ?_
              refine Rn.icmp_ne (tgt := 80) dX5_readUser_72 rfl (by decide) (fun c72 => ?_) (fun c72 => ?_)
              · exact absurd rfl c72
              · refine Rn.bipush dX5_readUser_75 rfl bp_m9 ?_
                refine Rn.goto (tgt := 104) dX5_readUser_77 (by decide) ?_
                refine Rn.istore dX5_readUser_104 rfl (Nat.le_of_ble_eq_true rfl) ?_
                refine Rn.iload dX5_readUser_106 rfl rfl ?_
                refine Rn.bipush dX5_readUser_108 rfl bp_m9 ?_
                refine Rn.icmp_ne (tgt := 115) dX5_readUser_110 rfl (by decide) (fun c110 => ?_) (fun c110 => ?_)
                · exact absurd rfl c110
                · refine Rn.iconst dX5_readUser_113 rfl ic_0 ?_
                  refine Rn.zret dX5_readUser_114 rfl (by decide) rfl rfl ?_
                  exact rn_fin (k0 h24 hrm _ (ruN_1 ea eb) (by omega)) bi_f' rfl
          · refine Rn.heap (hs_hs _ _ _ _) ?_
            refine Rn.istore_n dX5_readUser_50 rfl (Nat.le_of_ble_eq_true rfl) ?_
            refine Rn.iload_n dX5_readUser_51 rfl rfl ?_
            refine Rn.bipush dX5_readUser_52 rfl bp_m9 ?_
            refine Rn.icmp_ne (tgt := 62) dX5_readUser_54 rfl (by decide) (fun c54 => ?_) (fun c54 => ?_)
            · refine Rn.aload_n dX5_readUser_62 rfl rfl ?_
              refine Rn.iconst dX5_readUser_63 rfl ic_0 ?_
              refine Rn.iconst dX5_readUser_64 rfl ic_3 ?_
              refine Rn.callV (as := [_, _]) v_X5_figure l_X5_90 ⟨Nat.le_of_ble_eq_true rfl, Nat.le_of_ble_eq_true rfl⟩ dX5_readUser_65 rfl rfl (Nat.le_of_ble_eq_true rfl) (hs_eq _ _ _) (Nat.lt_of_le_of_lt (Nat.le_of_ble_eq_true rfl) ML) rfl (Nat.le_refl _) (Nat.le_refl _) (t_X5_figure (hs_eq _ _ _) ((hs_ne _ _ (by decide)).trans M16) (by exact ML) hln htl (by omega) (by omega) (by omega) (fun ec => ?_) (fun c hc gc qc ec => ?_)) 
              · refine Rn.istore_n dX5_readUser_68 rfl (Nat.le_of_ble_eq_true rfl) ?_
                refine Rn.iload_n dX5_readUser_69 rfl rfl ?_
                refine Rn.bipush dX5_readUser_70 rfl bp_m9 ?_
                refine Rn.icmp_ne (tgt := 80) dX5_readUser_72 rfl (by decide) (fun c72 => ?_) (fun c72 => ?_)
                · exact absurd rfl c72
                · refine Rn.bipush dX5_readUser_75 rfl bp_m9 ?_
                  refine Rn.goto (tgt := 104) dX5_readUser_77 (by decide) ?_
                  refine Rn.istore dX5_readUser_104 rfl (Nat.le_of_ble_eq_true rfl) ?_
                  refine Rn.iload dX5_readUser_106 rfl rfl ?_
                  refine Rn.bipush dX5_readUser_108 rfl bp_m9 ?_
                  refine Rn.icmp_ne (tgt := 115) dX5_readUser_110 rfl (by decide) (fun c110 => ?_) (fun c110 => ?_)
                  · exact absurd rfl c110
                  · refine Rn.iconst dX5_readUser_113 rfl ic_0 ?_
                    refine Rn.zret dX5_readUser_114 rfl (by decide) rfl rfl ?_
                    exact rn_fin (k0 h24 hrm _ (ruN_2 ea eb (rlN_0 ec)) (by omega)) bi_f' rfl
              · refine Rn.heap (hs_hs _ _ _ _) ?_
                refine Rn.istore_n dX5_readUser_68 rfl (Nat.le_of_ble_eq_true rfl) ?_
                refine Rn.iload_n dX5_readUser_69 rfl rfl ?_
                refine Rn.bipush dX5_readUser_70 rfl bp_m9 ?_
                refine Rn.icmp_ne (tgt := 80) dX5_readUser_72 rfl (by decide) (fun c72 => ?_) (fun c72 => ?_)
                · refine Rn.aload_n dX5_readUser_80 rfl rfl ?_
                  refine Rn.iload_n dX5_readUser_81 rfl rfl ?_
                  refine Rn.if_neN (tgt := 89) dX5_readUser_82 rfl (by decide) (by omega) (fun c82 => ?_) (fun c82 => ?_)
                  · refine Rn.iconst dX5_readUser_89 rfl ic_0 ?_
                    refine Rn.iload_n dX5_readUser_90 rfl rfl ?_
                    refine Rn.iconst dX5_readUser_91 rfl ic_3 ?_
                    refine Rn.icmp_neN (tgt := 99) dX5_readUser_92 rfl (by decide) (by omega) (by omega) (fun c92 => ?_) (fun c92 => ?_)
                    · refine Rn.bipush dX5_readUser_99 rfl bp_9 ?_
                      refine Rn.callV (as := [_, _]) v_X5_figure l_X5_90 ⟨Nat.le_of_ble_eq_true rfl, Nat.le_of_ble_eq_true rfl⟩ dX5_readUser_101 rfl rfl (Nat.le_of_ble_eq_true rfl) (hs_eq _ _ _) (Nat.lt_of_le_of_lt (Nat.le_of_ble_eq_true rfl) ML) rfl (Nat.le_refl _) (Nat.le_refl _) (t_X5_figure (hs_eq _ _ _) ((hs_ne _ _ (by decide)).trans M16) (by exact ML) hln htl (by omega) (by omega) (by omega) (fun ed => ?_) (fun d hd gd qd ed => ?_)) 
                      · refine Rn.istore dX5_readUser_104 rfl (Nat.le_of_ble_eq_true rfl) ?_
                        refine Rn.iload dX5_readUser_106 rfl rfl ?_
                        refine Rn.bipush dX5_readUser_108 rfl bp_m9 ?_
                        refine Rn.icmp_ne (tgt := 115) dX5_readUser_110 rfl (by decide) (fun c110 => ?_) (fun c110 => ?_)
                        · exact absurd rfl c110
                        · refine Rn.iconst dX5_readUser_113 rfl ic_0 ?_
                          refine Rn.zret dX5_readUser_114 rfl (by decide) rfl rfl ?_
                          exact rn_fin (k0 h24 hrm _ (ruN_2 ea eb (rlN_1 ec (by split <;> omega) (by split <;> omega) ed)) (by omega)) bi_f' rfl
                      · refine Rn.heap (hs_hs _ _ _ _) ?_
                        refine Rn.istore dX5_readUser_104 rfl (Nat.le_of_ble_eq_true rfl) ?_
                        refine Rn.iload dX5_readUser_106 rfl rfl ?_
                        refine Rn.bipush dX5_readUser_108 rfl bp_m9 ?_
                        refine Rn.icmp_ne (tgt := 115) dX5_readUser_110 rfl (by decide) (fun c110 => ?_) (fun c110 => ?_)
                        · refine Rn.aload_n dX5_readUser_115 rfl rfl ?_
                          refine Rn.getf f_X5_13 dX5_readUser_116 rfl (hs_eq _ _ _) (Nat.lt_of_le_of_lt (Nat.le_of_ble_eq_true rfl) ML) rfl ?_
                          refine Rn.aload_n dX5_readUser_119 rfl rfl ?_
                          refine Rn.getf f_X5_13 dX5_readUser_120 rfl (hs_eq _ _ _) (Nat.lt_of_le_of_lt (Nat.le_of_ble_eq_true rfl) ML) rfl ?_
                          refine Rn.bipush dX5_readUser_123 rfl bp_24 ?_
                          refine Rn.ialdN dX5_readUser_125 rfl ((hs_ne _ _ (by decide)).trans M17) (Nat.lt_of_le_of_lt (Nat.le_of_ble_eq_true rfl) ML) (by omega) (by omega) ?_
                          refine Rn.top (pg_n _ (by omega) (by omega)) ?_
                          refine Rn.iload_n dX5_readUser_126 rfl rfl ?_
                          refine Rn.iload_n dX5_readUser_127 rfl rfl ?_
                          refine Rn.bipush dX5_readUser_128 rfl bp_10 ?_
                          refine Rn.iload_n dX5_readUser_130 rfl rfl ?_
                          refine Rn.imulN dX5_readUser_131 rfl ?_
                          refine Rn.iload dX5_readUser_132 rfl rfl ?_
                          refine Rn.iaddN dX5_readUser_134 rfl ?_
                          refine Rn.callS (as := [_, _, _, _, _]) s_X5_layUser l_X5_101 ⟨Nat.le_of_ble_eq_true rfl, Nat.le_of_ble_eq_true rfl⟩ dX5_readUser_135 rfl rfl (Nat.le_of_ble_eq_true rfl) (Nat.le_refl _) (Nat.le_refl _) (t_X5_layUser (u := q 24) (s := a) (t := b) (n := 10 * c + d) ⟨((hs_ne _ _ (by decide)).trans M17), by exact (Nat.lt_of_le_of_lt (Nat.le_of_ble_eq_true rfl) ML)⟩ (by omega) ha hb (by omega) ?_)
                          refine Rn.aload_n dX5_readUser_138 rfl rfl ?_
                          refine Rn.getf f_X5_13 dX5_readUser_139 rfl ((hs_ne _ _ (by decide)).trans (hs_eq _ _ _)) (Nat.lt_of_le_of_lt (Nat.le_of_ble_eq_true rfl) ML) rfl ?_
                          refine Rn.bipush dX5_readUser_142 rfl bp_24 ?_
                          refine Rn.dup2 dX5_readUser_144 rfl rfl rfl ?_
                          refine Rn.ialdN dX5_readUser_145 rfl (hs_eq _ _ _) (Nat.lt_of_le_of_lt (Nat.le_of_ble_eq_true rfl) ML) (by omega) (by omega) ?_
                          refine Rn.top (pg_n _ (by omega) (by omega)) ?_
                          refine Rn.iconst dX5_readUser_146 rfl ic_1 ?_
                          refine Rn.iaddN dX5_readUser_147 rfl ?_
                          refine Rn.iastN dX5_readUser_148 rfl (hs_eq _ _ _) (Nat.lt_of_le_of_lt (Nat.le_of_ble_eq_true rfl) ML) (by omega) (by omega) ?_
                          refine Rn.heap (Pa.upd ((upd_pg _ _ (by omega) (by omega)).trans (congrArg pg (ad_eq q h24 a b _ _ (congrArg (· + 1) (bg_24 q h24 a b _)))))) ?_
                          refine Rn.heap (hs_hs _ _ _ _) ?_
                          refine Rn.iconst dX5_readUser_149 rfl ic_1 ?_
                          refine Rn.zret dX5_readUser_150 rfl (by decide) rfl rfl ?_
                          have rb := rl_bd hc gd hd (by split <;> omega) (by split <;> omega)
                          exact rn_fin (k h24 hrm a b (10 * c + d) ha hb rb.1 rb.2 (ruN_3 ea eb (rlN_2 ec (by split <;> omega) (by split <;> omega) ed)) (by omega)) bi_t' rfl
                        · exact absurd c110 (nI_m9 (by omega))
                    · refine Rn.iconst dX5_readUser_95 rfl ic_0 ?_
                      refine Rn.goto (tgt := 101) dX5_readUser_96 (by decide) ?_
                      refine Rn.callV (as := [_, _]) v_X5_figure l_X5_90 ⟨Nat.le_of_ble_eq_true rfl, Nat.le_of_ble_eq_true rfl⟩ dX5_readUser_101 rfl rfl (Nat.le_of_ble_eq_true rfl) (hs_eq _ _ _) (Nat.lt_of_le_of_lt (Nat.le_of_ble_eq_true rfl) ML) rfl (Nat.le_refl _) (Nat.le_refl _) (t_X5_figure (hs_eq _ _ _) ((hs_ne _ _ (by decide)).trans M16) (by exact ML) hln htl (by omega) (by omega) (by omega) (fun ed => ?_) (fun d hd gd qd ed => ?_)) 
                      · refine Rn.istore dX5_readUser_104 rfl (Nat.le_of_ble_eq_true rfl) ?_
                        refine Rn.iload dX5_readUser_106 rfl rfl ?_
                        refine Rn.bipush dX5_readUser_108 rfl bp_m9 ?_
                        refine Rn.icmp_ne (tgt := 115) dX5_readUser_110 rfl (by decide) (fun c110 => ?_) (fun c110 => ?_)
                        · exact absurd rfl c110
                        · refine Rn.iconst dX5_readUser_113 rfl ic_0 ?_
                          refine Rn.zret dX5_readUser_114 rfl (by decide) rfl rfl ?_
                          exact rn_fin (k0 h24 hrm _ (ruN_2 ea eb (rlN_1 ec (by split <;> omega) (by split <;> omega) ed)) (by omega)) bi_f' rfl
                      · refine Rn.heap (hs_hs _ _ _ _) ?_
                        refine Rn.istore dX5_readUser_104 rfl (Nat.le_of_ble_eq_true rfl) ?_
                        refine Rn.iload dX5_readUser_106 rfl rfl ?_
                        refine Rn.bipush dX5_readUser_108 rfl bp_m9 ?_
                        refine Rn.icmp_ne (tgt := 115) dX5_readUser_110 rfl (by decide) (fun c110 => ?_) (fun c110 => ?_)
                        · refine Rn.aload_n dX5_readUser_115 rfl rfl ?_
                          refine Rn.getf f_X5_13 dX5_readUser_116 rfl (hs_eq _ _ _) (Nat.lt_of_le_of_lt (Nat.le_of_ble_eq_true rfl) ML) rfl ?_
                          refine Rn.aload_n dX5_readUser_119 rfl rfl ?_
                          refine Rn.getf f_X5_13 dX5_readUser_120 rfl (hs_eq _ _ _) (Nat.lt_of_le_of_lt (Nat.le_of_ble_eq_true rfl) ML) rfl ?_
                          refine Rn.bipush dX5_readUser_123 rfl bp_24 ?_
                          refine Rn.ialdN dX5_readUser_125 rfl ((hs_ne _ _ (by decide)).trans M17) (Nat.lt_of_le_of_lt (Nat.le_of_ble_eq_true rfl) ML) (by omega) (by omega) ?_
                          refine Rn.top (pg_n _ (by omega) (by omega)) ?_
                          refine Rn.iload_n dX5_readUser_126 rfl rfl ?_
                          refine Rn.iload_n dX5_readUser_127 rfl rfl ?_
                          refine Rn.bipush dX5_readUser_128 rfl bp_10 ?_
                          refine Rn.iload_n dX5_readUser_130 rfl rfl ?_
                          refine Rn.imulN dX5_readUser_131 rfl ?_
                          refine Rn.iload dX5_readUser_132 rfl rfl ?_
                          refine Rn.iaddN dX5_readUser_134 rfl ?_
                          refine Rn.callS (as := [_, _, _, _, _]) s_X5_layUser l_X5_101 ⟨Nat.le_of_ble_eq_true rfl, Nat.le_of_ble_eq_true rfl⟩ dX5_readUser_135 rfl rfl (Nat.le_of_ble_eq_true rfl) (Nat.le_refl _) (Nat.le_refl _) (t_X5_layUser (u := q 24) (s := a) (t := b) (n := 10 * c + d) ⟨((hs_ne _ _ (by decide)).trans M17), by exact (Nat.lt_of_le_of_lt (Nat.le_of_ble_eq_true rfl) ML)⟩ (by omega) ha hb (by omega) ?_)
                          refine Rn.aload_n dX5_readUser_138 rfl rfl ?_
                          refine Rn.getf f_X5_13 dX5_readUser_139 rfl ((hs_ne _ _ (by decide)).trans (hs_eq _ _ _)) (Nat.lt_of_le_of_lt (Nat.le_of_ble_eq_true rfl) ML) rfl ?_
                          refine Rn.bipush dX5_readUser_142 rfl bp_24 ?_
                          refine Rn.dup2 dX5_readUser_144 rfl rfl rfl ?_
                          refine Rn.ialdN dX5_readUser_145 rfl (hs_eq _ _ _) (Nat.lt_of_le_of_lt (Nat.le_of_ble_eq_true rfl) ML) (by omega) (by omega) ?_
                          refine Rn.top (pg_n _ (by omega) (by omega)) ?_
                          refine Rn.iconst dX5_readUser_146 rfl ic_1 ?_
                          refine Rn.iaddN dX5_readUser_147 rfl ?_
                          refine Rn.iastN dX5_readUser_148 rfl (hs_eq _ _ _) (Nat.lt_of_le_of_lt (Nat.le_of_ble_eq_true rfl) ML) (by omega) (by omega) ?_
                          refine Rn.heap (Pa.upd ((upd_pg _ _ (by omega) (by omega)).trans (congrArg pg (ad_eq q h24 a b _ _ (congrArg (· + 1) (bg_24 q h24 a b _)))))) ?_
                          refine Rn.heap (hs_hs _ _ _ _) ?_
                          refine Rn.iconst dX5_readUser_149 rfl ic_1 ?_
                          refine Rn.zret dX5_readUser_150 rfl (by decide) rfl rfl ?_
                          have rb := rl_bd hc gd hd (by split <;> omega) (by split <;> omega)
                          exact rn_fin (k h24 hrm a b (10 * c + d) ha hb rb.1 rb.2 (ruN_3 ea eb (rlN_2 ec (by split <;> omega) (by split <;> omega) ed)) (by omega)) bi_t' rfl
                        · exact absurd c110 (nI_m9 (by omega))
                  · refine Rn.iconst dX5_readUser_85 rfl ic_1 ?_
                    refine Rn.goto (tgt := 90) dX5_readUser_86 (by decide) ?_
                    refine Rn.iload_n dX5_readUser_90 rfl rfl ?_
                    refine Rn.iconst dX5_readUser_91 rfl ic_3 ?_
                    refine Rn.icmp_neN (tgt := 99) dX5_readUser_92 rfl (by decide) (by omega) (by omega) (fun c92 => ?_) (fun c92 => ?_)
                    · refine Rn.bipush dX5_readUser_99 rfl bp_9 ?_
                      refine Rn.callV (as := [_, _]) v_X5_figure l_X5_90 ⟨Nat.le_of_ble_eq_true rfl, Nat.le_of_ble_eq_true rfl⟩ dX5_readUser_101 rfl rfl (Nat.le_of_ble_eq_true rfl) (hs_eq _ _ _) (Nat.lt_of_le_of_lt (Nat.le_of_ble_eq_true rfl) ML) rfl (Nat.le_refl _) (Nat.le_refl _) (t_X5_figure (hs_eq _ _ _) ((hs_ne _ _ (by decide)).trans M16) (by exact ML) hln htl (by omega) (by omega) (by omega) (fun ed => ?_) (fun d hd gd qd ed => ?_)) 
                      · refine Rn.istore dX5_readUser_104 rfl (Nat.le_of_ble_eq_true rfl) ?_
                        refine Rn.iload dX5_readUser_106 rfl rfl ?_
                        refine Rn.bipush dX5_readUser_108 rfl bp_m9 ?_
                        refine Rn.icmp_ne (tgt := 115) dX5_readUser_110 rfl (by decide) (fun c110 => ?_) (fun c110 => ?_)
                        · exact absurd rfl c110
                        · refine Rn.iconst dX5_readUser_113 rfl ic_0 ?_
                          refine Rn.zret dX5_readUser_114 rfl (by decide) rfl rfl ?_
                          exact rn_fin (k0 h24 hrm _ (ruN_2 ea eb (rlN_1 ec (by split <;> omega) (by split <;> omega) ed)) (by omega)) bi_f' rfl
                      · refine Rn.heap (hs_hs _ _ _ _) ?_
                        refine Rn.istore dX5_readUser_104 rfl (Nat.le_of_ble_eq_true rfl) ?_
                        refine Rn.iload dX5_readUser_106 rfl rfl ?_
                        refine Rn.bipush dX5_readUser_108 rfl bp_m9 ?_
                        refine Rn.icmp_ne (tgt := 115) dX5_readUser_110 rfl (by decide) (fun c110 => ?_) (fun c110 => ?_)
                        · refine Rn.aload_n dX5_readUser_115 rfl rfl ?_
                          refine Rn.getf f_X5_13 dX5_readUser_116 rfl (hs_eq _ _ _) (Nat.lt_of_le_of_lt (Nat.le_of_ble_eq_true rfl) ML) rfl ?_
                          refine Rn.aload_n dX5_readUser_119 rfl rfl ?_
                          refine Rn.getf f_X5_13 dX5_readUser_120 rfl (hs_eq _ _ _) (Nat.lt_of_le_of_lt (Nat.le_of_ble_eq_true rfl) ML) rfl ?_
                          refine Rn.bipush dX5_readUser_123 rfl bp_24 ?_
                          refine Rn.ialdN dX5_readUser_125 rfl ((hs_ne _ _ (by decide)).trans M17) (Nat.lt_of_le_of_lt (Nat.le_of_ble_eq_true rfl) ML) (by omega) (by omega) ?_
                          refine Rn.top (pg_n _ (by omega) (by omega)) ?_
                          refine Rn.iload_n dX5_readUser_126 rfl rfl ?_
                          refine Rn.iload_n dX5_readUser_127 rfl rfl ?_
                          refine Rn.bipush dX5_readUser_128 rfl bp_10 ?_
                          refine Rn.iload_n dX5_readUser_130 rfl rfl ?_
                          refine Rn.imulN dX5_readUser_131 rfl ?_
                          refine Rn.iload dX5_readUser_132 rfl rfl ?_
                          refine Rn.iaddN dX5_readUser_134 rfl ?_
                          refine Rn.callS (as := [_, _, _, _, _]) s_X5_layUser l_X5_101 ⟨Nat.le_of_ble_eq_true rfl, Nat.le_of_ble_eq_true rfl⟩ dX5_readUser_135 rfl rfl (Nat.le_of_ble_eq_true rfl) (Nat.le_refl _) (Nat.le_refl _) (t_X5_layUser (u := q 24) (s := a) (t := b) (n := 10 * c + d) ⟨((hs_ne _ _ (by decide)).trans M17), by exact (Nat.lt_of_le_of_lt (Nat.le_of_ble_eq_true rfl) ML)⟩ (by omega) ha hb (by omega) ?_)
                          refine Rn.aload_n dX5_readUser_138 rfl rfl ?_
                          refine Rn.getf f_X5_13 dX5_readUser_139 rfl ((hs_ne _ _ (by decide)).trans (hs_eq _ _ _)) (Nat.lt_of_le_of_lt (Nat.le_of_ble_eq_true rfl) ML) rfl ?_
                          refine Rn.bipush dX5_readUser_142 rfl bp_24 ?_
                          refine Rn.dup2 dX5_readUser_144 rfl rfl rfl ?_
                          refine Rn.ialdN dX5_readUser_145 rfl (hs_eq _ _ _) (Nat.lt_of_le_of_lt (Nat.le_of_ble_eq_true rfl) ML) (by omega) (by omega) ?_
                          refine Rn.top (pg_n _ (by omega) (by omega)) ?_
                          refine Rn.iconst dX5_readUser_146 rfl ic_1 ?_
                          refine Rn.iaddN dX5_readUser_147 rfl ?_
                          refine Rn.iastN dX5_readUser_148 rfl (hs_eq _ _ _) (Nat.lt_of_le_of_lt (Nat.le_of_ble_eq_true rfl) ML) (by omega) (by omega) ?_
                          refine Rn.heap (Pa.upd ((upd_pg _ _ (by omega) (by omega)).trans (congrArg pg (ad_eq q h24 a b _ _ (congrArg (· + 1) (bg_24 q h24 a b _)))))) ?_
                          refine Rn.heap (hs_hs _ _ _ _) ?_
                          refine Rn.iconst dX5_readUser_149 rfl ic_1 ?_
                          refine Rn.zret dX5_readUser_150 rfl (by decide) rfl rfl ?_
                          have rb := rl_bd hc gd hd (by split <;> omega) (by split <;> omega)
                          exact rn_fin (k h24 hrm a b (10 * c + d) ha hb rb.1 rb.2 (ruN_3 ea eb (rlN_2 ec (by split <;> omega) (by split <;> omega) ed)) (by omega)) bi_t' rfl
                        · exact absurd c110 (nI_m9 (by omega))
                    · refine Rn.iconst dX5_readUser_95 rfl ic_0 ?_
                      refine Rn.goto (tgt := 101) dX5_readUser_96 (by decide) ?_
                      refine Rn.callV (as := [_, _]) v_X5_figure l_X5_90 ⟨Nat.le_of_ble_eq_true rfl, Nat.le_of_ble_eq_true rfl⟩ dX5_readUser_101 rfl rfl (Nat.le_of_ble_eq_true rfl) (hs_eq _ _ _) (Nat.lt_of_le_of_lt (Nat.le_of_ble_eq_true rfl) ML) rfl (Nat.le_refl _) (Nat.le_refl _) (t_X5_figure (hs_eq _ _ _) ((hs_ne _ _ (by decide)).trans M16) (by exact ML) hln htl (by omega) (by omega) (by omega) (fun ed => ?_) (fun d hd gd qd ed => ?_)) 
                      · refine Rn.istore dX5_readUser_104 rfl (Nat.le_of_ble_eq_true rfl) ?_
                        refine Rn.iload dX5_readUser_106 rfl rfl ?_
                        refine Rn.bipush dX5_readUser_108 rfl bp_m9 ?_
                        refine Rn.icmp_ne (tgt := 115) dX5_readUser_110 rfl (by decide) (fun c110 => ?_) (fun c110 => ?_)
                        · exact absurd rfl c110
                        · refine Rn.iconst dX5_readUser_113 rfl ic_0 ?_
                          refine Rn.zret dX5_readUser_114 rfl (by decide) rfl rfl ?_
                          exact rn_fin (k0 h24 hrm _ (ruN_2 ea eb (rlN_1 ec (by split <;> omega) (by split <;> omega) ed)) (by omega)) bi_f' rfl
                      · refine Rn.heap (hs_hs _ _ _ _) ?_
                        refine Rn.istore dX5_readUser_104 rfl (Nat.le_of_ble_eq_true rfl) ?_
                        refine Rn.iload dX5_readUser_106 rfl rfl ?_
                        refine Rn.bipush dX5_readUser_108 rfl bp_m9 ?_
                        refine Rn.icmp_ne (tgt := 115) dX5_readUser_110 rfl (by decide) (fun c110 => ?_) (fun c110 => ?_)
                        · refine Rn.aload_n dX5_readUser_115 rfl rfl ?_
                          refine Rn.getf f_X5_13 dX5_readUser_116 rfl (hs_eq _ _ _) (Nat.lt_of_le_of_lt (Nat.le_of_ble_eq_true rfl) ML) rfl ?_
                          refine Rn.aload_n dX5_readUser_119 rfl rfl ?_
                          refine Rn.getf f_X5_13 dX5_readUser_120 rfl (hs_eq _ _ _) (Nat.lt_of_le_of_lt (Nat.le_of_ble_eq_true rfl) ML) rfl ?_
                          refine Rn.bipush dX5_readUser_123 rfl bp_24 ?_
                          refine Rn.ialdN dX5_readUser_125 rfl ((hs_ne _ _ (by decide)).trans M17) (Nat.lt_of_le_of_lt (Nat.le_of_ble_eq_true rfl) ML) (by omega) (by omega) ?_
                          refine Rn.top (pg_n _ (by omega) (by omega)) ?_
                          refine Rn.iload_n dX5_readUser_126 rfl rfl ?_
                          refine Rn.iload_n dX5_readUser_127 rfl rfl ?_
                          refine Rn.bipush dX5_readUser_128 rfl bp_10 ?_
                          refine Rn.iload_n dX5_readUser_130 rfl rfl ?_
                          refine Rn.imulN dX5_readUser_131 rfl ?_
                          refine Rn.iload dX5_readUser_132 rfl rfl ?_
                          refine Rn.iaddN dX5_readUser_134 rfl ?_
                          refine Rn.callS (as := [_, _, _, _, _]) s_X5_layUser l_X5_101 ⟨Nat.le_of_ble_eq_true rfl, Nat.le_of_ble_eq_true rfl⟩ dX5_readUser_135 rfl rfl (Nat.le_of_ble_eq_true rfl) (Nat.le_refl _) (Nat.le_refl _) (t_X5_layUser (u := q 24) (s := a) (t := b) (n := 10 * c + d) ⟨((hs_ne _ _ (by decide)).trans M17), by exact (Nat.lt_of_le_of_lt (Nat.le_of_ble_eq_true rfl) ML)⟩ (by omega) ha hb (by omega) ?_)
                          refine Rn.aload_n dX5_readUser_138 rfl rfl ?_
                          refine Rn.getf f_X5_13 dX5_readUser_139 rfl ((hs_ne _ _ (by decide)).trans (hs_eq _ _ _)) (Nat.lt_of_le_of_lt (Nat.le_of_ble_eq_true rfl) ML) rfl ?_
                          refine Rn.bipush dX5_readUser_142 rfl bp_24 ?_
                          refine Rn.dup2 dX5_readUser_144 rfl rfl rfl ?_
                          refine Rn.ialdN dX5_readUser_145 rfl (hs_eq _ _ _) (Nat.lt_of_le_of_lt (Nat.le_of_ble_eq_true rfl) ML) (by omega) (by omega) ?_
                          refine Rn.top (pg_n _ (by omega) (by omega)) ?_
                          refine Rn.iconst dX5_readUser_146 rfl ic_1 ?_
                          refine Rn.iaddN dX5_readUser_147 rfl ?_
                          refine Rn.iastN dX5_readUser_148 rfl (hs_eq _ _ _) (Nat.lt_of_le_of_lt (Nat.le_of_ble_eq_true rfl) ML) (by omega) (by omega) ?_
                          refine Rn.heap (Pa.upd ((upd_pg _ _ (by omega) (by omega)).trans (congrArg pg (ad_eq q h24 a b _ _ (congrArg (· + 1) (bg_24 q h24 a b _)))))) ?_
                          refine Rn.heap (hs_hs _ _ _ _) ?_
                          refine Rn.iconst dX5_readUser_149 rfl ic_1 ?_
                          refine Rn.zret dX5_readUser_150 rfl (by decide) rfl rfl ?_
                          have rb := rl_bd hc gd hd (by split <;> omega) (by split <;> omega)
                          exact rn_fin (k h24 hrm a b (10 * c + d) ha hb rb.1 rb.2 (ruN_3 ea eb (rlN_2 ec (by split <;> omega) (by split <;> omega) ed)) (by omega)) bi_t' rfl
                        · exact absurd c110 (nI_m9 (by omega))
                · exact absurd c72 (nI_m9 (by omega))
            · exact absurd c54 (nI_m9 (by omega))
        · exact absurd c38 (nI_m9 (by omega))
    · refine Rn.iconst dX5_readUser_18 rfl ic_0 ?_
      refine Rn.zret dX5_readUser_19 rfl (by decide) rfl rfl ?_
      exact rn_fin (kA (by omega)) bi_f' rfl
theorem t_X5_readEvent {h : rHp} {Q : Option Value → rHp → Prop} {th ln pl rm dg sz : Nat} {sd : Int64} {t : Nat → Nat} (M15 : h.2.2 15 = moO th ln pl rm dg sz sd) (M16 : h.2.2 16 = .inl (80, na t)) (ML : 27 < h.1) (hln : ln ≤ 80) (htl : ∀ i, t i < 256) (hpl : pl < 200) {q : Nat → Nat} (M17 : h.2.2 17 = .inl (36, pg q)) (Oq : OKp q) {ev : Nat → Nat} (M18 : h.2.2 18 = .inl (80, na ev)) (hrmb : rm < 80) {b : Nat} (hb : b ≤ 1) (kA : anyU q 4 = false → Q (some (.int (bi false))) h) (k0 : anyU q 4 = true → uNo t ln (pl + 1) q = 0 → Q (some (.int (bi false))) (hs h 15 (moO th ln (pl + 1) rm dg sz sd))) (k : anyU q 4 = true → ∀ a, uNo t ln (pl + 1) q = a + 1 → a < 4 → ow q a = true → pl + 1 < ln → Q (some (.int (bi true))) (hs (hs (hs h 15 (moO th ln (pl + 2) (rm + 1) dg sz sd)) 18 (.inl (80, na (un ev rm (10 * a + b))))) 17 (.inl (36, pg (un q (6 * a + 3) (q (6 * a + 3) - 1)))))) : Cl M_X5_readEvent h.1 h.2.1 [.ref 15, .int (nI b)] h Q := by
  refine Cl.of pl_X5 (Nat.le_of_ble_eq_true rfl) (by first | exact Nat.le_refl _ | omega) (by first | exact Nat.le_refl _ | omega) ?_
  refine Rn.iconst dX5_readEvent_0 rfl ic_0 ?_
  refine Rn.istore_n dX5_readEvent_1 rfl (Nat.le_of_ble_eq_true rfl) ?_
  refine Rn.iconst dX5_readEvent_2 rfl ic_0 ?_
  refine Rn.istore_n dX5_readEvent_3 rfl (Nat.le_of_ble_eq_true rfl) ?_
  have hloop : ∀ (m : Nat) (w : Nat), q 24 - w < m → w ≤ q 24 → Rn (M_X5_readEvent, none, h.1, h.2.1) Q 4 [(0, .ref 15), (1, .int (nI b)), (2, .int (bi (anyB (fun w => decide (0 < q (6 * w + 3))) w))), (3, .int (nI w))] [] h := by
    intro m
    induction m with
    | zero => intro w h0 h1; exact absurd h0 (Nat.not_lt_zero _)
    | succ m ih =>
      intro w h0 h1
      have h24 := Oq.1
      refine Rn.iload_n dX5_readEvent_4 rfl rfl ?_
      refine Rn.aload_n dX5_readEvent_5 rfl rfl ?_
      refine Rn.getf f_X5_13 dX5_readEvent_6 rfl M15 (Nat.lt_of_le_of_lt (Nat.le_of_ble_eq_true rfl) ML) rfl ?_
      refine Rn.bipush dX5_readEvent_9 rfl bp_24 ?_
      refine Rn.ialdN dX5_readEvent_11 rfl M17 (Nat.lt_of_le_of_lt (Nat.le_of_ble_eq_true rfl) ML) (by omega) (by omega) ?_
      refine Rn.top (pg_n _ (by omega) (by omega)) ?_
      refine Rn.icmp_geN (tgt := 45) dX5_readEvent_12 rfl (by decide) (by omega) (by omega) (fun c12 => ?_) (fun c12 => ?_)
      · obtain rfl : w = q 24 := by omega
        refine Rn.iload_n dX5_readEvent_45 rfl rfl ?_
        refine Rn.if_neB (tgt := 51) dX5_readEvent_46 rfl (by decide) (fun c46 => ?_) (fun c46 => ?_)
        · have hany := (anyU_any Oq).symm.trans c46
          refine Rn.aload_n dX5_readEvent_51 rfl rfl ?_
          refine Rn.dup dX5_readEvent_52 rfl rfl ?_
          refine Rn.getf f_X5_87 dX5_readEvent_53 rfl M15 (Nat.lt_of_le_of_lt (Nat.le_of_ble_eq_true rfl) ML) rfl ?_
          refine Rn.iconst dX5_readEvent_56 rfl ic_1 ?_
          refine Rn.iaddN dX5_readEvent_57 rfl ?_
          refine Rn.putf p_X5_87 (fun h => by cases h) dX5_readEvent_58 rfl M15 (Nat.lt_of_le_of_lt (Nat.le_of_ble_eq_true rfl) ML) (fun g => ⟨rfl, rfl⟩) (Nat.le_of_ble_eq_true rfl) ?_
          refine Rn.aload_n dX5_readEvent_61 rfl rfl ?_
          refine Rn.getf f_X5_87 dX5_readEvent_62 rfl (hs_eq _ _ _) (Nat.lt_of_le_of_lt (Nat.le_of_ble_eq_true rfl) ML) rfl ?_
          refine Rn.aload_n dX5_readEvent_65 rfl rfl ?_
          refine Rn.getf f_X5_84 dX5_readEvent_66 rfl (hs_eq _ _ _) (Nat.lt_of_le_of_lt (Nat.le_of_ble_eq_true rfl) ML) rfl ?_
          refine Rn.icmp_geN (tgt := 87) dX5_readEvent_69 rfl (by decide) (by omega) (by omega) (fun c69 => ?_) (fun c69 => ?_)
          · refine Rn.bipush dX5_readEvent_87 rfl bp_m9 ?_
            refine Rn.istore_n dX5_readEvent_89 rfl (Nat.le_of_ble_eq_true rfl) ?_
            refine Rn.aload_n dX5_readEvent_90 rfl rfl ?_
            refine Rn.getf f_X5_13 dX5_readEvent_91 rfl (hs_eq _ _ _) (Nat.lt_of_le_of_lt (Nat.le_of_ble_eq_true rfl) ML) rfl ?_
            refine Rn.iload_n dX5_readEvent_94 rfl rfl ?_
            refine Rn.callS (as := [_, _]) s_X5_hasPass l_X5_79 ⟨Nat.le_of_ble_eq_true rfl, Nat.le_of_ble_eq_true rfl⟩ dX5_readEvent_95 rfl rfl (Nat.le_of_ble_eq_true rfl) (Nat.le_refl _) (Nat.le_refl _) (t_X5_hasPass ⟨((hs_ne _ _ (by decide)).trans M17), by exact (Nat.lt_of_le_of_lt (Nat.le_of_ble_eq_true rfl) ML)⟩ Oq ?_)
            refine Rn.if_neB (tgt := 103) dX5_readEvent_98 rfl (by decide) (fun c98 => ?_) (fun c98 => ?_)
            · exact absurd ((ownB_m9 q).symm.trans c98) (by decide)
            · refine Rn.iconst dX5_readEvent_101 rfl ic_0 ?_
              refine Rn.zret dX5_readEvent_102 rfl (by decide) rfl rfl ?_
              first | exact rn_fin (k0 hany (if_neg (by omega))) bi_f' rfl | exact rn_fin (k0 hany (Classical.byContradiction fun z => absurd ((uNo_B Oq htl).trans (decide_eq_true z)) (by rw [c98]; decide))) bi_f' rfl
          · refine Rn.aload_n dX5_readEvent_72 rfl rfl ?_
            refine Rn.getf f_X5_7 dX5_readEvent_73 rfl (hs_eq _ _ _) (Nat.lt_of_le_of_lt (Nat.le_of_ble_eq_true rfl) ML) rfl ?_
            refine Rn.aload_n dX5_readEvent_76 rfl rfl ?_
            refine Rn.getf f_X5_87 dX5_readEvent_77 rfl (hs_eq _ _ _) (Nat.lt_of_le_of_lt (Nat.le_of_ble_eq_true rfl) ML) rfl ?_
            refine Rn.ialdN dX5_readEvent_80 rfl ((hs_ne _ _ (by decide)).trans M16) (Nat.lt_of_le_of_lt (Nat.le_of_ble_eq_true rfl) ML) (by omega) (by omega) ?_
            refine Rn.top (show na t (pl + 1) = nI (t (pl + 1)) from rfl) ?_
            refine Rn.bipush dX5_readEvent_81 rfl bp_48 ?_
            refine Rn.isub dX5_readEvent_83 rfl ?_
            refine Rn.top (y := wi (nlN t ln (pl + 1)) - nI 48) (by unfold nlN; rw [if_pos (show pl + 1 < ln by omega)]; rfl) ?_
            refine Rn.goto (tgt := 89) dX5_readEvent_84 (by decide) ?_
            refine Rn.istore_n dX5_readEvent_89 rfl (Nat.le_of_ble_eq_true rfl) ?_
            refine Rn.aload_n dX5_readEvent_90 rfl rfl ?_
            refine Rn.getf f_X5_13 dX5_readEvent_91 rfl (hs_eq _ _ _) (Nat.lt_of_le_of_lt (Nat.le_of_ble_eq_true rfl) ML) rfl ?_
            refine Rn.iload_n dX5_readEvent_94 rfl rfl ?_
            refine Rn.callS (as := [_, _]) s_X5_hasPass l_X5_79 ⟨Nat.le_of_ble_eq_true rfl, Nat.le_of_ble_eq_true rfl⟩ dX5_readEvent_95 rfl rfl (Nat.le_of_ble_eq_true rfl) (Nat.le_refl _) (Nat.le_refl _) (t_X5_hasPass ⟨((hs_ne _ _ (by decide)).trans M17), by exact (Nat.lt_of_le_of_lt (Nat.le_of_ble_eq_true rfl) ML)⟩ Oq ?_)
            refine Rn.if_neB (tgt := 103) dX5_readEvent_98 rfl (by decide) (fun c98 => ?_) (fun c98 => ?_)
            · have c98' := c98
              rw [uNo_B Oq htl] at c98'
              obtain ⟨a, ea⟩ : ∃ a, uNo t ln (pl + 1) q = a + 1 := ⟨uNo t ln (pl + 1) q - 1, by have := of_decide_eq_true c98'; omega⟩
              obtain ⟨va, vl, v4, vo⟩ := uNo_val Oq htl ea
              rw [va]
              have vo3 := (ow_t vo).2
              have vus := (Oq.us v4).2.2.2.1
              refine Rn.aload_n dX5_readEvent_103 rfl rfl ?_
              refine Rn.dup dX5_readEvent_104 rfl rfl ?_
              refine Rn.getf f_X5_87 dX5_readEvent_105 rfl (hs_eq _ _ _) (Nat.lt_of_le_of_lt (Nat.le_of_ble_eq_true rfl) ML) rfl ?_
              refine Rn.iconst dX5_readEvent_108 rfl ic_1 ?_
              refine Rn.iaddN dX5_readEvent_109 rfl ?_
              refine Rn.putf p_X5_87 (fun h => by cases h) dX5_readEvent_110 rfl (hs_eq _ _ _) (Nat.lt_of_le_of_lt (Nat.le_of_ble_eq_true rfl) ML) (fun g => ⟨rfl, rfl⟩) (Nat.le_of_ble_eq_true rfl) ?_
              refine Rn.heap (hs_hs _ _ _ _) ?_
              refine Rn.aload_n dX5_readEvent_113 rfl rfl ?_
              refine Rn.getf f_X5_16 dX5_readEvent_114 rfl (hs_eq _ _ _) (Nat.lt_of_le_of_lt (Nat.le_of_ble_eq_true rfl) ML) rfl ?_
              refine Rn.aload_n dX5_readEvent_117 rfl rfl ?_
              refine Rn.getf f_X5_94 dX5_readEvent_118 rfl (hs_eq _ _ _) (Nat.lt_of_le_of_lt (Nat.le_of_ble_eq_true rfl) ML) rfl ?_
              refine Rn.bipush dX5_readEvent_121 rfl bp_10 ?_
              refine Rn.iload_n dX5_readEvent_123 rfl rfl ?_
              refine Rn.imulN dX5_readEvent_124 rfl ?_
              refine Rn.iload_n dX5_readEvent_125 rfl rfl ?_
              refine Rn.if_eqN (tgt := 133) dX5_readEvent_126 rfl (by decide) (by omega) (fun c126 => ?_) (fun c126 => ?_)
              · refine Rn.iconst dX5_readEvent_133 rfl ic_0 ?_
                refine Rn.iaddN dX5_readEvent_134 rfl ?_
                refine Rn.iastN dX5_readEvent_135 rfl ((hs_ne _ _ (by decide)).trans M18) (Nat.lt_of_le_of_lt (Nat.le_of_ble_eq_true rfl) ML) (by omega) (by omega) ?_
                rw [upd_na]
                refine Rn.aload_n dX5_readEvent_136 rfl rfl ?_
                refine Rn.dup dX5_readEvent_137 rfl rfl ?_
                refine Rn.getf f_X5_94 dX5_readEvent_138 rfl ((hs_ne _ _ (by decide)).trans (hs_eq _ _ _)) (Nat.lt_of_le_of_lt (Nat.le_of_ble_eq_true rfl) ML) rfl ?_
                refine Rn.iconst dX5_readEvent_141 rfl ic_1 ?_
                refine Rn.iaddN dX5_readEvent_142 rfl ?_
                refine Rn.putf p_X5_94 (fun h => by cases h) dX5_readEvent_143 rfl ((hs_ne _ _ (by decide)).trans (hs_eq _ _ _)) (Nat.lt_of_le_of_lt (Nat.le_of_ble_eq_true rfl) ML) (fun g => ⟨rfl, rfl⟩) (Nat.le_of_ble_eq_true rfl) ?_
                refine Rn.heap (hs_d1 _ _ _ _ (by decide)) ?_
                refine Rn.aload_n dX5_readEvent_146 rfl rfl ?_
                refine Rn.getf f_X5_13 dX5_readEvent_147 rfl ((hs_ne _ _ (by decide)).trans (hs_eq _ _ _)) (Nat.lt_of_le_of_lt (Nat.le_of_ble_eq_true rfl) ML) rfl ?_
                refine Rn.bipush dX5_readEvent_150 rfl bp_6 ?_
                refine Rn.iload_n dX5_readEvent_152 rfl rfl ?_
                refine Rn.imulN dX5_readEvent_153 rfl ?_
                refine Rn.iconst dX5_readEvent_154 rfl ic_3 ?_
                refine Rn.iaddN dX5_readEvent_155 rfl ?_
                refine Rn.dup2 dX5_readEvent_156 rfl rfl rfl ?_
                refine Rn.ialdN dX5_readEvent_157 rfl ((hs_ne _ _ (by decide)).trans ((hs_ne _ _ (by decide)).trans M17)) (Nat.lt_of_le_of_lt (Nat.le_of_ble_eq_true rfl) ML) (by omega) (by omega) ?_
                refine Rn.top (pg_us _ (by omega) (show 3 < 6 by omega)) ?_
                refine Rn.iconst dX5_readEvent_158 rfl ic_1 ?_
                refine Rn.isubN dX5_readEvent_159 rfl (by omega) ?_
                refine Rn.iastN dX5_readEvent_160 rfl ((hs_ne _ _ (by decide)).trans ((hs_ne _ _ (by decide)).trans M17)) (Nat.lt_of_le_of_lt (Nat.le_of_ble_eq_true rfl) ML) (by omega) (by omega) ?_
                refine Rn.heap (Pa.upd (upd_pg _ _ (by omega) (by omega))) ?_
                refine Rn.iconst dX5_readEvent_161 rfl ic_1 ?_
                refine Rn.zret dX5_readEvent_162 rfl (by decide) rfl rfl ?_
                first | exact rn_fin (k hany a ea v4 vo vl) bi_t' rfl | (obtain rfl : b = 1 := by omega); exact rn_fin (k hany a ea v4 vo vl) bi_t' rfl | (obtain rfl : b = 0 := by omega); exact rn_fin (k hany a ea v4 vo vl) bi_t' rfl
              · refine Rn.iconst dX5_readEvent_129 rfl ic_1 ?_
                refine Rn.goto (tgt := 134) dX5_readEvent_130 (by decide) ?_
                refine Rn.iaddN dX5_readEvent_134 rfl ?_
                refine Rn.iastN dX5_readEvent_135 rfl ((hs_ne _ _ (by decide)).trans M18) (Nat.lt_of_le_of_lt (Nat.le_of_ble_eq_true rfl) ML) (by omega) (by omega) ?_
                rw [upd_na]
                refine Rn.aload_n dX5_readEvent_136 rfl rfl ?_
                refine Rn.dup dX5_readEvent_137 rfl rfl ?_
                refine Rn.getf f_X5_94 dX5_readEvent_138 rfl ((hs_ne _ _ (by decide)).trans (hs_eq _ _ _)) (Nat.lt_of_le_of_lt (Nat.le_of_ble_eq_true rfl) ML) rfl ?_
                refine Rn.iconst dX5_readEvent_141 rfl ic_1 ?_
                refine Rn.iaddN dX5_readEvent_142 rfl ?_
                refine Rn.putf p_X5_94 (fun h => by cases h) dX5_readEvent_143 rfl ((hs_ne _ _ (by decide)).trans (hs_eq _ _ _)) (Nat.lt_of_le_of_lt (Nat.le_of_ble_eq_true rfl) ML) (fun g => ⟨rfl, rfl⟩) (Nat.le_of_ble_eq_true rfl) ?_
                refine Rn.heap (hs_d1 _ _ _ _ (by decide)) ?_
                refine Rn.aload_n dX5_readEvent_146 rfl rfl ?_
                refine Rn.getf f_X5_13 dX5_readEvent_147 rfl ((hs_ne _ _ (by decide)).trans (hs_eq _ _ _)) (Nat.lt_of_le_of_lt (Nat.le_of_ble_eq_true rfl) ML) rfl ?_
                refine Rn.bipush dX5_readEvent_150 rfl bp_6 ?_
                refine Rn.iload_n dX5_readEvent_152 rfl rfl ?_
                refine Rn.imulN dX5_readEvent_153 rfl ?_
                refine Rn.iconst dX5_readEvent_154 rfl ic_3 ?_
                refine Rn.iaddN dX5_readEvent_155 rfl ?_
                refine Rn.dup2 dX5_readEvent_156 rfl rfl rfl ?_
                refine Rn.ialdN dX5_readEvent_157 rfl ((hs_ne _ _ (by decide)).trans ((hs_ne _ _ (by decide)).trans M17)) (Nat.lt_of_le_of_lt (Nat.le_of_ble_eq_true rfl) ML) (by omega) (by omega) ?_
                refine Rn.top (pg_us _ (by omega) (show 3 < 6 by omega)) ?_
                refine Rn.iconst dX5_readEvent_158 rfl ic_1 ?_
                refine Rn.isubN dX5_readEvent_159 rfl (by omega) ?_
                refine Rn.iastN dX5_readEvent_160 rfl ((hs_ne _ _ (by decide)).trans ((hs_ne _ _ (by decide)).trans M17)) (Nat.lt_of_le_of_lt (Nat.le_of_ble_eq_true rfl) ML) (by omega) (by omega) ?_
                refine Rn.heap (Pa.upd (upd_pg _ _ (by omega) (by omega))) ?_
                refine Rn.iconst dX5_readEvent_161 rfl ic_1 ?_
                refine Rn.zret dX5_readEvent_162 rfl (by decide) rfl rfl ?_
                first | exact rn_fin (k hany a ea v4 vo vl) bi_t' rfl | (obtain rfl : b = 1 := by omega); exact rn_fin (k hany a ea v4 vo vl) bi_t' rfl | (obtain rfl : b = 0 := by omega); exact rn_fin (k hany a ea v4 vo vl) bi_t' rfl
            · refine Rn.iconst dX5_readEvent_101 rfl ic_0 ?_
              refine Rn.zret dX5_readEvent_102 rfl (by decide) rfl rfl ?_
              first | exact rn_fin (k0 hany (if_neg (by omega))) bi_f' rfl | exact rn_fin (k0 hany (Classical.byContradiction fun z => absurd ((uNo_B Oq htl).trans (decide_eq_true z)) (by rw [c98]; decide))) bi_f' rfl
        · refine Rn.iconst dX5_readEvent_49 rfl ic_0 ?_
          refine Rn.zret dX5_readEvent_50 rfl (by decide) rfl rfl ?_
          exact rn_fin (kA ((anyU_any Oq).symm.trans c46)) bi_f' rfl
      · refine Rn.iload_n dX5_readEvent_15 rfl rfl ?_
        refine Rn.if_neB (tgt := 33) dX5_readEvent_16 rfl (by decide) (fun c16 => ?_) (fun c16 => ?_)
        · refine Rn.iconst dX5_readEvent_33 rfl ic_1 ?_
          refine Rn.top (y := bi (anyB (fun w => decide (0 < q (6 * w + 3))) (w + 1))) (by first | exact anyB_l c16 | exact anyB_r (f := (fun w => decide (0 < q (6 * w + 3)))) (decide_eq_true (by omega))) ?_
          refine Rn.goto (tgt := 38) dX5_readEvent_34 (by decide) ?_
          refine Rn.istore_n dX5_readEvent_38 rfl (Nat.le_of_ble_eq_true rfl) ?_
          refine Rn.iincN dX5_readEvent_39 rfl rfl (Nat.le_of_ble_eq_true rfl) ?_
          refine Rn.goto (tgt := 4) dX5_readEvent_42 (by decide) ?_
          exact Rn.pick [2, 3, 1, 0] rfl (ih (w + 1) (by omega) (by omega))
        · refine Rn.aload_n dX5_readEvent_19 rfl rfl ?_
          refine Rn.getf f_X5_13 dX5_readEvent_20 rfl M15 (Nat.lt_of_le_of_lt (Nat.le_of_ble_eq_true rfl) ML) rfl ?_
          refine Rn.bipush dX5_readEvent_23 rfl bp_6 ?_
          refine Rn.iload_n dX5_readEvent_25 rfl rfl ?_
          refine Rn.imulN dX5_readEvent_26 rfl ?_
          refine Rn.iconst dX5_readEvent_27 rfl ic_3 ?_
          refine Rn.iaddN dX5_readEvent_28 rfl ?_
          refine Rn.ialdN dX5_readEvent_29 rfl M17 (Nat.lt_of_le_of_lt (Nat.le_of_ble_eq_true rfl) ML) (by omega) (by omega) ?_
          refine Rn.top (pg_us _ (by omega) (show 3 < 6 by omega)) ?_
          have hus := (Oq.us (show w < 4 by omega)).2.2.2.1
          refine Rn.if_leN (tgt := 37) dX5_readEvent_30 rfl (by decide) (by omega) (fun c30 => ?_) (fun c30 => ?_)
          · refine Rn.iconst dX5_readEvent_37 rfl ic_0 ?_
            refine Rn.top (y := bi (anyB (fun w => decide (0 < q (6 * w + 3))) (w + 1))) (anyB_n (f := (fun w => decide (0 < q (6 * w + 3)))) c16 (decide_eq_false (by omega))) ?_
            refine Rn.istore_n dX5_readEvent_38 rfl (Nat.le_of_ble_eq_true rfl) ?_
            refine Rn.iincN dX5_readEvent_39 rfl rfl (Nat.le_of_ble_eq_true rfl) ?_
            refine Rn.goto (tgt := 4) dX5_readEvent_42 (by decide) ?_
            exact Rn.pick [2, 3, 1, 0] rfl (ih (w + 1) (by omega) (by omega))
          · refine Rn.iconst dX5_readEvent_33 rfl ic_1 ?_
            refine Rn.top (y := bi (anyB (fun w => decide (0 < q (6 * w + 3))) (w + 1))) (by first | exact anyB_l c16 | exact anyB_r (f := (fun w => decide (0 < q (6 * w + 3)))) (decide_eq_true (by omega))) ?_
            refine Rn.goto (tgt := 38) dX5_readEvent_34 (by decide) ?_
            refine Rn.istore_n dX5_readEvent_38 rfl (Nat.le_of_ble_eq_true rfl) ?_
            refine Rn.iincN dX5_readEvent_39 rfl rfl (Nat.le_of_ble_eq_true rfl) ?_
            refine Rn.goto (tgt := 4) dX5_readEvent_42 (by decide) ?_
            exact Rn.pick [2, 3, 1, 0] rfl (ih (w + 1) (by omega) (by omega))
  exact Rn.pick [2, 3, 1, 0] rfl (hloop (q 24 + 1) 0 (by omega) (by omega))
