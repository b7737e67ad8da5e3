/-! ===== the row's tail and loop; a user's figures ===== -/
theorem Rn.tswL {K : rK} {Q : Option Value → rHp → Prop} {pc : Nat} {lv : List (Nat × Value)} {st : List Value} {h : rHp} {dflt lo hi : Int} {offs : Array Int} {len l0 n tgtD : Nat} {y : Int32} (hd : decode K.1.2.1 pc = .ok (.tableswitch dflt lo hi offs, len)) (hlo : lo = (l0 : Int)) (hhi : hi = (n : Int)) (hl : l0 ≤ n) (hn : n < 2147483648) (htD : (pc : Int) + dflt = (tgtD : Int)) (kout : isW y (nI l0) (nI n) = false → Rn K Q tgtD lv st h) (kin : ∀ j, l0 ≤ j → j ≤ n → y = nI j → ∃ (off : Int) (tgt : Nat), offs[j - l0]? = some off ∧ (pc : Int) + off = (tgt : Int) ∧ Rn K Q tgt lv st h) : Rn K Q pc lv (.int y :: st) h := by
  subst hhi
  subst hlo
  cases hy : isW y (nI l0) (nI n) with
  | false =>
    refine Rn.tabOut hd ?_ htD (kout hy)
    have h1 := of_decide_eq_false hy
    rw [nI_toInt hn, nI_toInt (by omega)] at h1
    omega
  | true =>
    obtain ⟨j, hj1, hj2, e⟩ := isW_of2 hy (by omega) hn
    obtain ⟨off, tgt, e1, e2, k⟩ := kin j hj1 hj2 e
    subst e
    have e3 : (nI j).toInt = (j : Int) := nI_toInt (by omega)
    exact Rn.tabIn hd (by rw [e3]; omega) (by rw [e3]; omega) (by rw [e3, show ((j : Int) - (l0 : Int)).toNat = j - l0 by omega]; exact e1) e2 k
theorem isW_join {y : Int32} (h1 : isW y (nI 0) (nI 5) = false) (h2 : isW y (nI 6) (nI 10) = false) : isW y (nI 0) (nI 10) = false := by
  have e1 := of_decide_eq_false h1
  have e2 := of_decide_eq_false h2
  refine decide_eq_false ?_
  have a0 : (nI 0).toInt = 0 := rfl
  have a5 : (nI 5).toInt = 5 := rfl
  have a6 : (nI 6).toInt = 6 := rfl
  have a10 : (nI 10).toInt = 10 := rfl
  rw [a0, a5] at e1
  rw [a6, a10] at e2
  rw [a0, a10]
  omega
theorem isW_10 {k : Nat} (h : k ≤ 10) : isW (nI k) (nI 0) (nI 10) = true := by rw [isW_nI (by omega) (by omega) (by omega)]; exact decide_eq_true ⟨by omega, h⟩
theorem us_low (p : Nat → Nat) (u : Nat) {k : Nat} (h : k ≤ 5) : usK p u k = nI (p (6 * u + k)) := by
  match k, h with
  | 0, _ => rfl
  | 1, _ => rfl
  | 2, _ => rfl
  | 3, _ => rfl
  | 4, _ => rfl
  | 5, _ => rfl
  | k + 6, h => exact absurd h (by omega)
def lf (F : Nat → Int32) (G : Nat → Nat) : Nat → Int32 := fun y => if y < 251 then wi (G y) else F y
theorem lf_0 (F : Nat → Int32) : ffill F (-9) 251 = lf F (fun _ => 0) := rfl
theorem lf_r (F : Nat → Int32) (G : Nat → Nat) {x : Nat} (h : x < 251) : lf F G x = wi (G x) := if_pos h
theorem lf_u (F : Nat → Int32) (G : Nat → Nat) {x : Nat} (n : Nat) (h : x < 251) : upd (lf F G) x (nI n) = lf F (un G x (n + 1)) := by
  funext y
  show (if y = x then nI n else if y < 251 then wi (G y) else F y) = if y < 251 then wi (if y = x then n + 1 else G y) else F y
  by_cases e : y = x
  · rw [if_pos e, if_pos (by omega), if_pos e]; rfl
  · rw [if_neg e, if_neg e]
theorem cnt_cut {f g : Nat → Bool} {x : Nat} (h1 : f x = true) (h2 : g x = false) (h3 : ∀ y, y ≠ x → g y = f y) : ∀ n, cnt g n + (if x < n then 1 else 0) = cnt f n
  | 0 => rfl
  | n + 1 => by
    have ih := cnt_cut h1 h2 h3 n
    rw [cnt_s, cnt_s]
    by_cases e : n = x
    · subst e
      rw [if_neg (Nat.lt_irrefl n)] at ih
      rw [h1, h2, if_pos (show n < n + 1 by omega), if_pos rfl]
      have : (if false = true then 1 else 0 : Nat) = 0 := rfl
      omega
    · rw [h3 n e]
      by_cases c : x < n
      · rw [if_pos c] at ih; rw [if_pos (show x < n + 1 by omega)]; omega
      · rw [if_neg c] at ih; rw [if_neg (show ¬ x < n + 1 by omega)]; omega
/-- what the walk knows: the numbers met so far, each at its place -/
def wk (s v n : Nat) (G : Nat → Nat) : Prop := (∀ i, i < n → G (bh s v i) = i + 1) ∧ (∀ y, G y ≠ 0 → ∃ i, i < n ∧ G y = i + 1 ∧ bh s v i = y) ∧ cnt (fun y => decide (G y = 0)) 251 + n = 251
theorem cnt_all : ∀ n, cnt (fun _ => decide ((0 : Nat) = 0)) n = n
  | 0 => rfl
  | n + 1 => by rw [cnt_s, cnt_all n]; rfl
theorem wk_0 (s v : Nat) : wk s v 0 (fun _ => 0) := ⟨fun i hi => absurd hi (Nat.not_lt_zero _), fun y hy => absurd rfl hy, by rw [cnt_all]⟩
theorem wk_s {s v n : Nat} {G : Nat → Nat} (hv : v < 251) (W : wk s v n G) (c : G (bh s v n) = 0) : wk s v (n + 1) (un G (bh s v n) (n + 1)) := by
  refine ⟨fun i hi => ?_, fun y hy => ?_, ?_⟩
  · by_cases e : i = n
    · rw [e, un_eq]
    · have h1 := W.1 i (by omega)
      rw [un_ne _ _ (fun z => by rw [z] at h1; omega)]; exact h1
  · by_cases e : y = bh s v n
    · refine ⟨n, by omega, ?_, e.symm⟩
      rw [e, un_eq]
    · rw [un_ne _ _ e] at hy ⊢
      obtain ⟨i, h1, h2, h3⟩ := W.2.1 y hy
      exact ⟨i, by omega, h2, h3⟩
  · have := cnt_cut (f := fun y => decide (G y = 0)) (g := fun y => decide (un G (bh s v n) (n + 1) y = 0)) (x := bh s v n) (decide_eq_true c) (decide_eq_false (by rw [un_eq]; omega)) (fun y hy => by rw [un_ne _ _ hy]) 251
    rw [if_pos (bh_lt hv n)] at this
    have h2 := W.2.2
    omega
theorem bh_add (s v a : Nat) : ∀ k, bh s (bh s v a) k = bh s v (a + k)
  | 0 => rfl
  | k + 1 => congrArg (nx s) (bh_add s v a k)
theorem rtL_at {s w k : Nat} (hk : bh s w k = w) (hn : ∀ j, 1 ≤ j → j < k → bh s w j ≠ w) : ∀ n i, i + 1 ≤ k → k < i + 1 + n → rtL s w n (i + 1) (bh s w i) = k
  | 0, i, h1, h2 => absurd h2 (by omega)
  | n + 1, i, h1, h2 => by
    show (if bh s w (i + 1) = w then i + 1 else rtL s w n (i + 1 + 1) (bh s w (i + 1))) = k
    by_cases e : i + 1 = k
    · rw [if_pos (by rw [e]; exact hk)]; exact e
    · rw [if_neg (hn (i + 1) (by omega) (by omega))]
      exact rtL_at hk hn n (i + 1) (by omega) (by omega)
theorem rtL_no {s w : Nat} (hn : ∀ j, 1 ≤ j → bh s w j ≠ w) : ∀ n i, rtL s w n (i + 1) (bh s w i) = 0
  | 0, i => rfl
  | n + 1, i => by
    show (if bh s w (i + 1) = w then i + 1 else rtL s w n (i + 1 + 1) (bh s w (i + 1))) = 0
    rw [if_neg (hn (i + 1) (by omega))]
    exact rtL_no hn n (i + 1)
theorem tlL_at {s v t : Nat} (ht : 0 < rtN s (bh s v t)) (hn : ∀ i, i < t → rtN s (bh s v i) = 0) : ∀ n i, i ≤ t → t < i + n → tlL s n i (bh s v i) = t
  | 0, i, h1, h2 => absurd h2 (by omega)
  | n + 1, i, h1, h2 => by
    show (if 0 < rtN s (bh s v i) then i else tlL s n (i + 1) (bh s v (i + 1))) = t
    by_cases e : i = t
    · rw [if_pos (by rw [e]; exact ht)]; exact e
    · rw [if_neg (by rw [hn i (by omega)]; omega)]
      exact tlL_at ht hn n (i + 1) (by omega) (by omega)
theorem wk_end {s v n t : Nat} {G : Nat → Nat} (W : wk s v n G) (e : G (bh s v n) = t + 1) : t < n ∧ n ≤ 251 ∧ tlN s v = t ∧ rtN s (bh s v t) = n - t := by
  obtain ⟨i, h1, h2, h3⟩ := W.2.1 (bh s v n) (by omega)
  obtain rfl : i = t := by omega
  have hn : n ≤ 251 := by have := W.2.2; omega
  have dis : ∀ a b, a < n → b < n → bh s v a = bh s v b → a = b := by
    intro a b ha hb hab
    have g1 := W.1 a ha
    have g2 := W.1 b hb
    rw [hab] at g1
    omega
  have hrec : ∀ k, ∃ j, i ≤ j ∧ j < n ∧ bh s v (i + k) = bh s v j := by
    intro k
    induction k with
    | zero => exact ⟨i, Nat.le_refl _, h1, rfl⟩
    | succ k ih =>
      obtain ⟨j, j1, j2, j3⟩ := ih
      have e1 : bh s v (i + (k + 1)) = bh s v (j + 1) := congrArg (nx s) j3
      by_cases c : j + 1 = n
      · exact ⟨i, Nat.le_refl _, h1, by rw [e1, c, h3]⟩
      · exact ⟨j + 1, by omega, by omega, e1⟩
  have hr : rtN s (bh s v i) = n - i := by
    refine rtL_at (s := s) (w := bh s v i) (k := n - i) ?_ ?_ 251 0 (by omega) (by omega)
    · rw [bh_add, show i + (n - i) = n by omega]; exact h3.symm
    · intro j j1 j2 z
      rw [bh_add] at z
      have := dis (i + j) i (by omega) h1 z
      omega
  refine ⟨h1, hn, ?_, hr⟩
  refine tlL_at (s := s) (v := v) (t := i) (by rw [hr]; omega) ?_ 251 0 (by omega) (by omega)
  intro a ha
  refine rtL_no (s := s) (w := bh s v a) ?_ 251 0
  intro j j1 z
  rw [bh_add] at z
  by_cases c : a + j < n
  · have := dis (a + j) a c (by omega) z; omega
  · obtain ⟨b, b1, b2, b3⟩ := hrec (a + j - i)
    rw [show i + (a + j - i) = a + j by omega] at b3
    have := dis a b (by omega) b2 (z.symm.trans b3)
    omega
theorem t_X5_layLoop {h : rHp} {Q : Option Value → rHp → Prop} {th ts pl rm dg sz : Nat} {sd : Int64} (M15 : h.2.2 15 = moO th ts pl rm dg sz sd) (ML : 27 < h.1) {p : Nat → Nat} {FF : Nat → Int32} (M19 : h.2.2 19 = .inl (36, pg p)) (M27 : h.2.2 27 = .inl (251, FF)) (Op : OKp p) {u : Nat} (hu4 : u < 4) (k : ∀ F', Q (some (.int (nI (1000 * rtN (p (6 * u + 1)) (bh (p (6 * u + 1)) (p (6 * u)) (tlN (p (6 * u + 1)) (p (6 * u)))) + tlN (p (6 * u + 1)) (p (6 * u)))))) (hs h 27 (.inl (251, F')))) : Cl M_X5_layLoop h.1 h.2.1 [.ref 15, .int (nI u)] h Q := by
  have hus := Op.us hu4
  refine Cl.of pl_X5 (Nat.le_of_ble_eq_true rfl) (by first | exact Nat.le_refl _ | omega) (by first | exact Nat.le_refl _ | omega) ?_
  refine Rn.iconst dX5_layLoop_0 rfl ic_0 ?_
  refine Rn.istore_n dX5_layLoop_1 rfl (Nat.le_of_ble_eq_true rfl) ?_
  have hloop : ∀ (m : Nat) (i : Nat), 251 - i < m → i ≤ 251 → Rn (M_X5_layLoop, none, h.1, h.2.1) Q 2 [(0, .ref 15), (1, .int (nI u)), (2, .int (nI i))] [] (hs h 27 (.inl (251, ffill FF (-9) i))) := by
    intro m
    induction m with
    | zero => intro i h0 h1; exact absurd h0 (Nat.not_lt_zero _)
    | succ m ih =>
      intro i h0 h1
      refine Rn.iload_n dX5_layLoop_2 rfl rfl ?_
      refine Rn.sipush dX5_layLoop_3 rfl sp_251 ?_
      refine Rn.icmp_geN (tgt := 23) dX5_layLoop_6 rfl (by decide) (by omega) (by omega) (fun c6 => ?_) (fun c6 => ?_)
      · obtain rfl : i = 251 := by omega
        refine Rn.heap (hs_in (lf_0 FF)) ?_
        refine Rn.aload_n dX5_layLoop_23 rfl rfl ?_
        refine Rn.getf f_X5_19 dX5_layLoop_24 rfl ((hs_ne _ _ (by decide)).trans M15) (Nat.lt_of_le_of_lt (Nat.le_of_ble_eq_true rfl) ML) rfl ?_
        refine Rn.bipush dX5_layLoop_27 rfl bp_6 ?_
        refine Rn.iload_n dX5_layLoop_29 rfl rfl ?_
        refine Rn.imulN dX5_layLoop_30 rfl ?_
        refine Rn.ialdN dX5_layLoop_31 rfl ((hs_ne _ _ (by decide)).trans M19) (Nat.lt_of_le_of_lt (Nat.le_of_ble_eq_true rfl) ML) (by omega) (by omega) ?_
        refine Rn.top (pg_us _ (by omega) (show 0 < 6 by omega)) ?_
        refine Rn.istore_n dX5_layLoop_32 rfl (Nat.le_of_ble_eq_true rfl) ?_
        refine Rn.iconst dX5_layLoop_33 rfl ic_0 ?_
        refine Rn.istore_n dX5_layLoop_34 rfl (Nat.le_of_ble_eq_true rfl) ?_
        have hloop2 : ∀ (m : Nat) (n : Nat) (G : Nat → Nat), 251 - n < m → wk (p (6 * u + 1)) (p (6 * u)) n G → Rn (M_X5_layLoop, none, h.1, h.2.1) Q 35 [(0, .ref 15), (1, .int (nI u)), (2, .int (nI (bh (p (6 * u + 1)) (p (6 * u)) n))), (3, .int (nI n))] [] (hs h 27 (.inl (251, lf FF G))) := by
          intro m
          induction m with
          | zero => intro n G h0 h1; exact absurd h0 (Nat.not_lt_zero _)
          | succ m ih2 =>
            intro n G h0 h1
            have hx : (bh (p (6 * u + 1)) (p (6 * u)) n) < 251 := bh_lt hus.1 n
            have hn251 : n ≤ 251 := by have := h1.2.2; omega
            have hGl : G (bh (p (6 * u + 1)) (p (6 * u)) n) < 100000 := by
              by_cases z : G (bh (p (6 * u + 1)) (p (6 * u)) n) = 0
              · omega
              · obtain ⟨i, i1, i2, _⟩ := h1.2.1 (bh (p (6 * u + 1)) (p (6 * u)) n) z; omega
            refine Rn.aload_n dX5_layLoop_35 rfl rfl ?_
            refine Rn.getf f_X5_44 dX5_layLoop_36 rfl ((hs_ne _ _ (by decide)).trans M15) (Nat.lt_of_le_of_lt (Nat.le_of_ble_eq_true rfl) ML) rfl ?_
            refine Rn.iload_n dX5_layLoop_39 rfl rfl ?_
            refine Rn.ialdN dX5_layLoop_40 rfl (hs_eq _ _ _) (Nat.lt_of_le_of_lt (Nat.le_of_ble_eq_true rfl) ML) (by omega) (by omega) ?_
            refine Rn.top (lf_r FF G hx) ?_
            refine Rn.bipush dX5_layLoop_41 rfl bp_m9 ?_
            refine Rn.icmp_ne (tgt := 76) dX5_layLoop_43 rfl (by decide) (fun c43 => ?_) (fun c43 => ?_)
            · obtain ⟨t, et⟩ : ∃ t, G (bh (p (6 * u + 1)) (p (6 * u)) n) = t + 1 := ⟨G (bh (p (6 * u + 1)) (p (6 * u)) n) - 1, by have : ¬ G (bh (p (6 * u + 1)) (p (6 * u)) n) = 0 := fun z => c43 (by rw [z]; rfl); omega⟩
              obtain ⟨t1, t2, t3, t4⟩ := wk_end h1 et
              refine Rn.sipush dX5_layLoop_76 rfl sp_1000 ?_
              refine Rn.iload_n dX5_layLoop_79 rfl rfl ?_
              refine Rn.aload_n dX5_layLoop_80 rfl rfl ?_
              refine Rn.getf f_X5_44 dX5_layLoop_81 rfl ((hs_ne _ _ (by decide)).trans M15) (Nat.lt_of_le_of_lt (Nat.le_of_ble_eq_true rfl) ML) rfl ?_
              refine Rn.iload_n dX5_layLoop_84 rfl rfl ?_
              refine Rn.ialdN dX5_layLoop_85 rfl (hs_eq _ _ _) (Nat.lt_of_le_of_lt (Nat.le_of_ble_eq_true rfl) ML) (by omega) (by omega) ?_
              refine Rn.top (y := nI t) ((lf_r FF G hx).trans (by rw [et]; rfl)) ?_
              refine Rn.isubN dX5_layLoop_86 rfl (by omega) ?_
              refine Rn.imulN dX5_layLoop_87 rfl ?_
              refine Rn.aload_n dX5_layLoop_88 rfl rfl ?_
              refine Rn.getf f_X5_44 dX5_layLoop_89 rfl ((hs_ne _ _ (by decide)).trans M15) (Nat.lt_of_le_of_lt (Nat.le_of_ble_eq_true rfl) ML) rfl ?_
              refine Rn.iload_n dX5_layLoop_92 rfl rfl ?_
              refine Rn.ialdN dX5_layLoop_93 rfl (hs_eq _ _ _) (Nat.lt_of_le_of_lt (Nat.le_of_ble_eq_true rfl) ML) (by omega) (by omega) ?_
              refine Rn.top (y := nI t) ((lf_r FF G hx).trans (by rw [et]; rfl)) ?_
              refine Rn.iaddN dX5_layLoop_94 rfl ?_
              refine Rn.iret dX5_layLoop_95 rfl rfl rfl ?_
              exact rn_fin (k _) (some_int (by rw [t3, t4])) rfl
            · refine Rn.aload_n dX5_layLoop_46 rfl rfl ?_
              refine Rn.getf f_X5_44 dX5_layLoop_47 rfl ((hs_ne _ _ (by decide)).trans M15) (Nat.lt_of_le_of_lt (Nat.le_of_ble_eq_true rfl) ML) rfl ?_
              refine Rn.iload_n dX5_layLoop_50 rfl rfl ?_
              refine Rn.iload_n dX5_layLoop_51 rfl rfl ?_
              refine Rn.iastN dX5_layLoop_52 rfl (hs_eq _ _ _) (Nat.lt_of_le_of_lt (Nat.le_of_ble_eq_true rfl) ML) (by omega) (by omega) ?_
              refine Rn.heap ((hs_hs _ _ _ _).trans (hs_in (lf_u _ _ _ hx))) ?_
              refine Rn.iload_n dX5_layLoop_53 rfl rfl ?_
              refine Rn.aload_n dX5_layLoop_54 rfl rfl ?_
              refine Rn.getf f_X5_19 dX5_layLoop_55 rfl ((hs_ne _ _ (by decide)).trans M15) (Nat.lt_of_le_of_lt (Nat.le_of_ble_eq_true rfl) ML) rfl ?_
              refine Rn.bipush dX5_layLoop_58 rfl bp_6 ?_
              refine Rn.iload_n dX5_layLoop_60 rfl rfl ?_
              refine Rn.imulN dX5_layLoop_61 rfl ?_
              refine Rn.iconst dX5_layLoop_62 rfl ic_1 ?_
              refine Rn.iaddN dX5_layLoop_63 rfl ?_
              refine Rn.ialdN dX5_layLoop_64 rfl ((hs_ne _ _ (by decide)).trans M19) (Nat.lt_of_le_of_lt (Nat.le_of_ble_eq_true rfl) ML) (by omega) (by omega) ?_
              refine Rn.top (pg_us _ (by omega) (show 1 < 6 by omega)) ?_
              refine Rn.iconst dX5_layLoop_65 rfl ic_1 ?_
              refine Rn.callS (as := [_, _, _]) s_X5_after l_X5_61 ⟨Nat.le_of_ble_eq_true rfl, Nat.le_of_ble_eq_true rfl⟩ dX5_layLoop_66 rfl rfl (Nat.le_of_ble_eq_true rfl) (Nat.le_refl _) (Nat.le_refl _) (t_X5_after (by omega) (by omega) (by omega) ?_)
              refine Rn.istore_n dX5_layLoop_69 rfl (Nat.le_of_ble_eq_true rfl) ?_
              refine Rn.iincN dX5_layLoop_70 rfl rfl (Nat.le_of_ble_eq_true rfl) ?_
              refine Rn.goto (tgt := 35) dX5_layLoop_73 (by decide) ?_
              have hne : n < 251 := by
                have c1 := cnt_cut (f := fun y => decide (G y = 0)) (g := fun y => decide (un G (bh (p (6 * u + 1)) (p (6 * u)) n) 1 y = 0)) (x := (bh (p (6 * u + 1)) (p (6 * u)) n)) (decide_eq_true (wi_z hGl c43)) (decide_eq_false (by rw [un_eq]; omega)) (fun y hy => by rw [un_ne _ _ hy]) 251
                rw [if_pos hx] at c1
                have := h1.2.2
                omega
              exact Rn.pick [2, 3, 1, 0] rfl (ih2 (n + 1) _ (by omega) (wk_s hus.1 h1 (wi_z hGl c43)))
        exact Rn.pick [2, 3, 1, 0] rfl (hloop2 252 0 (fun _ => 0) (by omega) (wk_0 (p (6 * u + 1)) (p (6 * u))))
      · refine Rn.aload_n dX5_layLoop_9 rfl rfl ?_
        refine Rn.getf f_X5_44 dX5_layLoop_10 rfl ((hs_ne _ _ (by decide)).trans M15) (Nat.lt_of_le_of_lt (Nat.le_of_ble_eq_true rfl) ML) rfl ?_
        refine Rn.iload_n dX5_layLoop_13 rfl rfl ?_
        refine Rn.bipush dX5_layLoop_14 rfl bp_m9 ?_
        refine Rn.iastN dX5_layLoop_16 rfl (hs_eq _ _ _) (Nat.lt_of_le_of_lt (Nat.le_of_ble_eq_true rfl) ML) (by omega) (by omega) ?_
        refine Rn.heap ((hs_hs _ _ _ _).trans (hs_in (ffill_s _ _ _))) ?_
        refine Rn.iincN dX5_layLoop_17 rfl rfl (Nat.le_of_ble_eq_true rfl) ?_
        refine Rn.goto (tgt := 2) dX5_layLoop_20 (by decide) ?_
        exact Rn.pick [1, 2, 0] rfl (ih (i + 1) (by omega) (by omega))
  exact Rn.pick [1, 2, 0] rfl (by have := hloop 252 0 (by omega) (by omega); rw [ffill_0, hs_self h M27] at this; exact this)
theorem t_X5_user {h : rHp} {Q : Option Value → rHp → Prop} {t : Nat → Nat} {ln : Nat} {p : Nat → Nat} {U : Nat → Nat → Nat} {a : Nat} {Kp : Nat → Nat → Nat} {ik : Nat → Bool} {su sp sn : Nat → Nat} {sz : Nat} {d : Int64} (I : MI h t ln p U a Kp ik su sp sn sz d) (O : OKs t ln p U a Kp ik su sp sn sz) {x y : Int32} (k : ∀ h', MI h' t ln p U a Kp ik su sp sn sz d → Fm h h' → Q (some (.int (usI p x y))) h') : Cl M_X5_user h.1 h.2.1 [.ref 15, .int x, .int y] h Q := by
  obtain ⟨th, pl, rm, rp, ev, tp, BK, KM, IK, FF, M15, M16, M17, M18, M19, M20, M21, M22, M23, M24, M25, M26, M27, ML, RMh, RKh⟩ := id I
  obtain ⟨Ot, Oln, Op, OU, OK2, Osz, Osu, Osp, Osn⟩ := id O
  refine Cl.of pl_X5 (Nat.le_of_ble_eq_true rfl) (by first | exact Nat.le_refl _ | omega) (by first | exact Nat.le_refl _ | omega) ?_
  refine Rn.aload_n dX5_user_0 rfl rfl ?_
  refine Rn.iconst dX5_user_1 rfl ic_0 ?_
  refine Rn.putf p_X5_51 (fun h => by cases h) dX5_user_2 rfl M15 (Nat.lt_of_le_of_lt (Nat.le_of_ble_eq_true rfl) ML) (fun g => ⟨rfl, rfl⟩) (Nat.le_of_ble_eq_true rfl) ?_
  refine Rn.aload_n dX5_user_5 rfl rfl ?_
  refine Rn.getf f_X5_19 dX5_user_6 rfl (hs_eq _ _ _) (Nat.lt_of_le_of_lt (Nat.le_of_ble_eq_true rfl) ML) rfl ?_
  refine Rn.iload_n dX5_user_9 rfl rfl ?_
  refine Rn.callS (as := [_, _]) s_X5_noUser l_X5_75 ⟨Nat.le_of_ble_eq_true rfl, Nat.le_of_ble_eq_true rfl⟩ dX5_user_10 rfl rfl (Nat.le_of_ble_eq_true rfl) (Nat.le_refl _) (Nat.le_refl _) (t_X5_noUser ⟨((hs_ne _ _ (by decide)).trans M19), by exact (Nat.lt_of_le_of_lt (Nat.le_of_ble_eq_true rfl) ML)⟩ Op.1 ?_)
  refine Rn.if_eqB (tgt := 18) dX5_user_13 rfl (by decide) (fun c13 => ?_) (fun c13 => ?_)
  · obtain ⟨u, hu, rfl⟩ := hasB_of (bn_f c13)
    have hu4 : u < 4 := by have := Op.1; omega
    have hus := Op.us hu4
    have c0 := bn_f c13
    refine Rn.iload_n dX5_user_18 rfl rfl ?_
    refine Rn.i2l dX5_user_19 rfl ?_
    refine Rn.lconst dX5_user_20 rfl lc_0 ?_
    refine Rn.ldc2 dX5_user_21 rfl k_X5_130 ?_
    refine Rn.topl lL_5 ?_
    refine Rn.callS (as := [_, _, _]) s_X5_in l_X5_57 ⟨Nat.le_of_ble_eq_true rfl, Nat.le_of_ble_eq_true rfl⟩ dX5_user_24 rfl rfl (Nat.le_of_ble_eq_true rfl) (Nat.le_refl _) (Nat.le_refl _) (t_X5_in ?_)
    refine Rn.top (congrArg bi (inL_W (by omega) (by omega))) ?_
    refine Rn.if_eqB (tgt := 42) dX5_user_27 rfl (by decide) (fun c27 => ?_) (fun c27 => ?_)
    · refine Rn.iload_n dX5_user_42 rfl rfl ?_
      refine Rn.tswL (l0 := 6) (n := 10) (tgtD := 140) dX5_user_43 rfl rfl (by decide) (by decide) (by decide) (fun cy => ?_) (fun j hj1 hj2 ey => ?_)
      · refine Rn.bipush dX5_user_140 rfl bp_m2 ?_
        refine Rn.iret dX5_user_142 rfl rfl rfl ?_
        exact rn_fin (k _ ⟨_, _, _, _, _, _, _, _, _, _, (hs_eq _ _ _), ((hs_ne _ _ (by decide)).trans M16), ((hs_ne _ _ (by decide)).trans M17), ((hs_ne _ _ (by decide)).trans M18), ((hs_ne _ _ (by decide)).trans M19), ((hs_ne _ _ (by decide)).trans M20), ((hs_ne _ _ (by decide)).trans M21), ((hs_ne _ _ (by decide)).trans M22), ((hs_ne _ _ (by decide)).trans M23), ((hs_ne _ _ (by decide)).trans M24), ((hs_ne _ _ (by decide)).trans M25), ((hs_ne _ _ (by decide)).trans M26), ((hs_ne _ _ (by decide)).trans M27), ML, RMh, RKh⟩ ((Fm.rf h).hs _ (by decide))) (some_int (by unfold usI; rw [c0, isW_join c27 cy]; rfl)) rfl
      · subst ey
        rcases (show j = 6 ∨ j = 7 ∨ j = 8 ∨ j = 9 ∨ j = 10 by omega) with rfl | rfl | rfl | rfl | rfl
        · refine ⟨33, 76, rfl, by decide, ?_⟩
          refine Rn.aload_n dX5_user_76 rfl rfl ?_
          refine Rn.getf f_X5_19 dX5_user_77 rfl (hs_eq _ _ _) (Nat.lt_of_le_of_lt (Nat.le_of_ble_eq_true rfl) ML) rfl ?_
          refine Rn.iload_n dX5_user_80 rfl rfl ?_
          refine Rn.callS (as := [_, _]) s_X5_isInStep l_X5_127 ⟨Nat.le_of_ble_eq_true rfl, Nat.le_of_ble_eq_true rfl⟩ dX5_user_81 rfl rfl (Nat.le_of_ble_eq_true rfl) (Nat.le_refl _) (Nat.le_refl _) (t_X5_isInStep ⟨((hs_ne _ _ (by decide)).trans M19), by exact (Nat.lt_of_le_of_lt (Nat.le_of_ble_eq_true rfl) ML)⟩ Op (by omega) ?_)
          refine Rn.if_eqB (tgt := 91) dX5_user_84 rfl (by decide) (fun c84 => ?_) (fun c84 => ?_)
          · refine Rn.iconst dX5_user_91 rfl ic_0 ?_
            refine Rn.iret dX5_user_92 rfl rfl rfl ?_
            exact rn_fin (k _ ⟨_, _, _, _, _, _, _, _, _, _, (hs_eq _ _ _), ((hs_ne _ _ (by decide)).trans M16), ((hs_ne _ _ (by decide)).trans M17), ((hs_ne _ _ (by decide)).trans M18), ((hs_ne _ _ (by decide)).trans M19), ((hs_ne _ _ (by decide)).trans M20), ((hs_ne _ _ (by decide)).trans M21), ((hs_ne _ _ (by decide)).trans M22), ((hs_ne _ _ (by decide)).trans M23), ((hs_ne _ _ (by decide)).trans M24), ((hs_ne _ _ (by decide)).trans M25), ((hs_ne _ _ (by decide)).trans M26), ((hs_ne _ _ (by decide)).trans M27), ML, RMh, RKh⟩ ((Fm.rf h).hs _ (by decide))) (some_int (by unfold usI; rw [c0, isW_10 (by omega), xn_nI (by omega), xn_nI (by omega)]; exact bi_f.symm.trans (congrArg bi c84.symm))) rfl
          · refine Rn.iconst dX5_user_87 rfl ic_1 ?_
            refine Rn.goto (tgt := 92) dX5_user_88 (by decide) ?_
            refine Rn.iret dX5_user_92 rfl rfl rfl ?_
            exact rn_fin (k _ ⟨_, _, _, _, _, _, _, _, _, _, (hs_eq _ _ _), ((hs_ne _ _ (by decide)).trans M16), ((hs_ne _ _ (by decide)).trans M17), ((hs_ne _ _ (by decide)).trans M18), ((hs_ne _ _ (by decide)).trans M19), ((hs_ne _ _ (by decide)).trans M20), ((hs_ne _ _ (by decide)).trans M21), ((hs_ne _ _ (by decide)).trans M22), ((hs_ne _ _ (by decide)).trans M23), ((hs_ne _ _ (by decide)).trans M24), ((hs_ne _ _ (by decide)).trans M25), ((hs_ne _ _ (by decide)).trans M26), ((hs_ne _ _ (by decide)).trans M27), ML, RMh, RKh⟩ ((Fm.rf h).hs _ (by decide))) (some_int (by unfold usI; rw [c0, isW_10 (by omega), xn_nI (by omega), xn_nI (by omega)]; exact bi_t.symm.trans (congrArg bi c84.symm))) rfl
        · refine ⟨50, 93, rfl, by decide, ?_⟩
          refine Rn.aload_n dX5_user_93 rfl rfl ?_
          refine Rn.getf f_X5_19 dX5_user_94 rfl (hs_eq _ _ _) (Nat.lt_of_le_of_lt (Nat.le_of_ble_eq_true rfl) ML) rfl ?_
          refine Rn.bipush dX5_user_97 rfl bp_6 ?_
          refine Rn.iload_n dX5_user_99 rfl rfl ?_
          refine Rn.imulN dX5_user_100 rfl ?_
          refine Rn.iconst dX5_user_101 rfl ic_5 ?_
          refine Rn.iaddN dX5_user_102 rfl ?_
          refine Rn.ialdN dX5_user_103 rfl ((hs_ne _ _ (by decide)).trans M19) (Nat.lt_of_le_of_lt (Nat.le_of_ble_eq_true rfl) ML) (by omega) (by omega) ?_
          refine Rn.top (pg_us _ (by omega) (show 5 < 6 by omega)) ?_
          refine Rn.iconst dX5_user_104 rfl ic_4 ?_
          refine Rn.icmp_geN (tgt := 112) dX5_user_105 rfl (by decide) (by omega) (by omega) (fun c105 => ?_) (fun c105 => ?_)
          · refine Rn.iconst dX5_user_112 rfl ic_0 ?_
            refine Rn.iret dX5_user_113 rfl rfl rfl ?_
            exact rn_fin (k _ ⟨_, _, _, _, _, _, _, _, _, _, (hs_eq _ _ _), ((hs_ne _ _ (by decide)).trans M16), ((hs_ne _ _ (by decide)).trans M17), ((hs_ne _ _ (by decide)).trans M18), ((hs_ne _ _ (by decide)).trans M19), ((hs_ne _ _ (by decide)).trans M20), ((hs_ne _ _ (by decide)).trans M21), ((hs_ne _ _ (by decide)).trans M22), ((hs_ne _ _ (by decide)).trans M23), ((hs_ne _ _ (by decide)).trans M24), ((hs_ne _ _ (by decide)).trans M25), ((hs_ne _ _ (by decide)).trans M26), ((hs_ne _ _ (by decide)).trans M27), ML, RMh, RKh⟩ ((Fm.rf h).hs _ (by decide))) (some_int (by unfold usI; rw [c0, isW_10 (by omega), xn_nI (by omega), xn_nI (by omega)]; exact bi_df (by omega))) rfl
          · refine Rn.iconst dX5_user_108 rfl ic_1 ?_
            refine Rn.goto (tgt := 113) dX5_user_109 (by decide) ?_
            refine Rn.iret dX5_user_113 rfl rfl rfl ?_
            exact rn_fin (k _ ⟨_, _, _, _, _, _, _, _, _, _, (hs_eq _ _ _), ((hs_ne _ _ (by decide)).trans M16), ((hs_ne _ _ (by decide)).trans M17), ((hs_ne _ _ (by decide)).trans M18), ((hs_ne _ _ (by decide)).trans M19), ((hs_ne _ _ (by decide)).trans M20), ((hs_ne _ _ (by decide)).trans M21), ((hs_ne _ _ (by decide)).trans M22), ((hs_ne _ _ (by decide)).trans M23), ((hs_ne _ _ (by decide)).trans M24), ((hs_ne _ _ (by decide)).trans M25), ((hs_ne _ _ (by decide)).trans M26), ((hs_ne _ _ (by decide)).trans M27), ML, RMh, RKh⟩ ((Fm.rf h).hs _ (by decide))) (some_int (by unfold usI; rw [c0, isW_10 (by omega), xn_nI (by omega), xn_nI (by omega)]; exact bi_dt (by omega))) rfl
        · refine ⟨71, 114, rfl, by decide, ?_⟩
          refine Rn.aload_n dX5_user_114 rfl rfl ?_
          refine Rn.iload_n dX5_user_115 rfl rfl ?_
          refine Rn.callV (as := [_]) v_X5_gap l_X5_132 ⟨Nat.le_of_ble_eq_true rfl, Nat.le_of_ble_eq_true rfl⟩ dX5_user_116 rfl rfl (Nat.le_of_ble_eq_true rfl) (hs_eq _ _ _) (Nat.lt_of_le_of_lt (Nat.le_of_ble_eq_true rfl) ML) rfl (Nat.le_refl _) (Nat.le_refl _) (t_X5_gap (hs_eq _ _ _) ML ((hs_ne _ _ (by decide)).trans M19) ((hs_ne _ _ (by decide)).trans M20) Op hu (fun tq => ?_)) 
          · refine Rn.iret dX5_user_119 rfl rfl rfl ?_
            exact rn_fin (k _ ⟨_, _, _, _, _, _, _, _, _, _, ((hs_ne _ _ (by decide)).trans (hs_eq _ _ _)), ((hs_ne _ _ (by decide)).trans ((hs_ne _ _ (by decide)).trans M16)), ((hs_ne _ _ (by decide)).trans ((hs_ne _ _ (by decide)).trans M17)), ((hs_ne _ _ (by decide)).trans ((hs_ne _ _ (by decide)).trans M18)), ((hs_ne _ _ (by decide)).trans ((hs_ne _ _ (by decide)).trans M19)), (hs_eq _ _ _), ((hs_ne _ _ (by decide)).trans ((hs_ne _ _ (by decide)).trans M21)), ((hs_ne _ _ (by decide)).trans ((hs_ne _ _ (by decide)).trans M22)), ((hs_ne _ _ (by decide)).trans ((hs_ne _ _ (by decide)).trans M23)), ((hs_ne _ _ (by decide)).trans ((hs_ne _ _ (by decide)).trans M24)), ((hs_ne _ _ (by decide)).trans ((hs_ne _ _ (by decide)).trans M25)), ((hs_ne _ _ (by decide)).trans ((hs_ne _ _ (by decide)).trans M26)), ((hs_ne _ _ (by decide)).trans ((hs_ne _ _ (by decide)).trans M27)), ML, RMh, RKh⟩ (((Fm.rf h).hs _ (by decide)).hs _ (by decide))) (some_int (by unfold usI; rw [c0, isW_10 (by omega), xn_nI (by omega), xn_nI (by omega)]; rfl)) rfl
        · refine ⟨77, 120, rfl, by decide, ?_⟩
          refine Rn.aload_n dX5_user_120 rfl rfl ?_
          refine Rn.iload_n dX5_user_121 rfl rfl ?_
          refine Rn.callV (as := [_]) v_X5_layLoop l_X5_136 ⟨Nat.le_of_ble_eq_true rfl, Nat.le_of_ble_eq_true rfl⟩ dX5_user_122 rfl rfl (Nat.le_of_ble_eq_true rfl) (hs_eq _ _ _) (Nat.lt_of_le_of_lt (Nat.le_of_ble_eq_true rfl) ML) rfl (Nat.le_refl _) (Nat.le_refl _) (t_X5_layLoop (hs_eq _ _ _) ML ((hs_ne _ _ (by decide)).trans M19) ((hs_ne _ _ (by decide)).trans M27) Op hu4 (fun F' => ?_)) 
          · have htl := tlN_le (p (6 * u + 1)) (p (6 * u))
            have hrl := rtN_le (p (6 * u + 1)) (bh (p (6 * u + 1)) (p (6 * u)) (tlN (p (6 * u + 1)) (p (6 * u))))
            refine Rn.sipush dX5_user_125 rfl sp_1000 ?_
            refine Rn.iremN dX5_user_128 rfl (by omega) (by omega) (by omega) ?_
            refine Rn.iret dX5_user_129 rfl rfl rfl ?_
            exact rn_fin (k _ ⟨_, _, _, _, _, _, _, _, _, _, ((hs_ne _ _ (by decide)).trans (hs_eq _ _ _)), ((hs_ne _ _ (by decide)).trans ((hs_ne _ _ (by decide)).trans M16)), ((hs_ne _ _ (by decide)).trans ((hs_ne _ _ (by decide)).trans M17)), ((hs_ne _ _ (by decide)).trans ((hs_ne _ _ (by decide)).trans M18)), ((hs_ne _ _ (by decide)).trans ((hs_ne _ _ (by decide)).trans M19)), ((hs_ne _ _ (by decide)).trans ((hs_ne _ _ (by decide)).trans M20)), ((hs_ne _ _ (by decide)).trans ((hs_ne _ _ (by decide)).trans M21)), ((hs_ne _ _ (by decide)).trans ((hs_ne _ _ (by decide)).trans M22)), ((hs_ne _ _ (by decide)).trans ((hs_ne _ _ (by decide)).trans M23)), ((hs_ne _ _ (by decide)).trans ((hs_ne _ _ (by decide)).trans M24)), ((hs_ne _ _ (by decide)).trans ((hs_ne _ _ (by decide)).trans M25)), ((hs_ne _ _ (by decide)).trans ((hs_ne _ _ (by decide)).trans M26)), (hs_eq _ _ _), ML, RMh, RKh⟩ (((Fm.rf h).hs _ (by decide)).hs _ (by decide))) (some_int (by unfold usI; rw [c0, isW_10 (by omega), xn_nI (by omega), xn_nI (by omega)]; exact congrArg nI (show (1000 * _ + tlN (p (6 * u + 1)) (p (6 * u))) % 1000 = tlN (p (6 * u + 1)) (p (6 * u)) by omega))) rfl
        · refine ⟨87, 130, rfl, by decide, ?_⟩
          refine Rn.aload_n dX5_user_130 rfl rfl ?_
          refine Rn.iload_n dX5_user_131 rfl rfl ?_
          refine Rn.callV (as := [_]) v_X5_layLoop l_X5_136 ⟨Nat.le_of_ble_eq_true rfl, Nat.le_of_ble_eq_true rfl⟩ dX5_user_132 rfl rfl (Nat.le_of_ble_eq_true rfl) (hs_eq _ _ _) (Nat.lt_of_le_of_lt (Nat.le_of_ble_eq_true rfl) ML) rfl (Nat.le_refl _) (Nat.le_refl _) (t_X5_layLoop (hs_eq _ _ _) ML ((hs_ne _ _ (by decide)).trans M19) ((hs_ne _ _ (by decide)).trans M27) Op hu4 (fun F' => ?_)) 
          · have htl := tlN_le (p (6 * u + 1)) (p (6 * u))
            have hrl := rtN_le (p (6 * u + 1)) (bh (p (6 * u + 1)) (p (6 * u)) (tlN (p (6 * u + 1)) (p (6 * u))))
            refine Rn.sipush dX5_user_135 rfl sp_1000 ?_
            refine Rn.idivN dX5_user_138 rfl (by omega) (by omega) (by omega) ?_
            refine Rn.iret dX5_user_139 rfl rfl rfl ?_
            exact rn_fin (k _ ⟨_, _, _, _, _, _, _, _, _, _, ((hs_ne _ _ (by decide)).trans (hs_eq _ _ _)), ((hs_ne _ _ (by decide)).trans ((hs_ne _ _ (by decide)).trans M16)), ((hs_ne _ _ (by decide)).trans ((hs_ne _ _ (by decide)).trans M17)), ((hs_ne _ _ (by decide)).trans ((hs_ne _ _ (by decide)).trans M18)), ((hs_ne _ _ (by decide)).trans ((hs_ne _ _ (by decide)).trans M19)), ((hs_ne _ _ (by decide)).trans ((hs_ne _ _ (by decide)).trans M20)), ((hs_ne _ _ (by decide)).trans ((hs_ne _ _ (by decide)).trans M21)), ((hs_ne _ _ (by decide)).trans ((hs_ne _ _ (by decide)).trans M22)), ((hs_ne _ _ (by decide)).trans ((hs_ne _ _ (by decide)).trans M23)), ((hs_ne _ _ (by decide)).trans ((hs_ne _ _ (by decide)).trans M24)), ((hs_ne _ _ (by decide)).trans ((hs_ne _ _ (by decide)).trans M25)), ((hs_ne _ _ (by decide)).trans ((hs_ne _ _ (by decide)).trans M26)), (hs_eq _ _ _), ML, RMh, RKh⟩ (((Fm.rf h).hs _ (by decide)).hs _ (by decide))) (some_int (by unfold usI; rw [c0, isW_10 (by omega), xn_nI (by omega), xn_nI (by omega)]; exact congrArg nI (show (1000 * _ + tlN (p (6 * u + 1)) (p (6 * u))) / 1000 = _ by omega))) rfl
    · obtain ⟨z, hz, rfl⟩ := isW_of c27 (by omega)
      refine Rn.aload_n dX5_user_30 rfl rfl ?_
      refine Rn.getf f_X5_19 dX5_user_31 rfl (hs_eq _ _ _) (Nat.lt_of_le_of_lt (Nat.le_of_ble_eq_true rfl) ML) rfl ?_
      refine Rn.bipush dX5_user_34 rfl bp_6 ?_
      refine Rn.iload_n dX5_user_36 rfl rfl ?_
      refine Rn.imulN dX5_user_37 rfl ?_
      refine Rn.iload_n dX5_user_38 rfl rfl ?_
      refine Rn.iaddN dX5_user_39 rfl ?_
      refine Rn.ialdN dX5_user_40 rfl ((hs_ne _ _ (by decide)).trans M19) (Nat.lt_of_le_of_lt (Nat.le_of_ble_eq_true rfl) ML) (by omega) (by omega) ?_
      refine Rn.top (pg_us _ (by omega) (show z < 6 by omega)) ?_
      refine Rn.iret dX5_user_41 rfl rfl rfl ?_
      exact rn_fin (k _ ⟨_, _, _, _, _, _, _, _, _, _, (hs_eq _ _ _), ((hs_ne _ _ (by decide)).trans M16), ((hs_ne _ _ (by decide)).trans M17), ((hs_ne _ _ (by decide)).trans M18), ((hs_ne _ _ (by decide)).trans M19), ((hs_ne _ _ (by decide)).trans M20), ((hs_ne _ _ (by decide)).trans M21), ((hs_ne _ _ (by decide)).trans M22), ((hs_ne _ _ (by decide)).trans M23), ((hs_ne _ _ (by decide)).trans M24), ((hs_ne _ _ (by decide)).trans M25), ((hs_ne _ _ (by decide)).trans M26), ((hs_ne _ _ (by decide)).trans M27), ML, RMh, RKh⟩ ((Fm.rf h).hs _ (by decide))) (some_int (by unfold usI; rw [c0, isW_10 (by omega), xn_nI (by omega), xn_nI (by omega), if_pos rfl, if_pos rfl, us_low p u hz])) rfl
  · refine Rn.iconst dX5_user_16 rfl ic_m1 ?_
    refine Rn.iret dX5_user_17 rfl rfl rfl ?_
    exact rn_fin (k _ ⟨_, _, _, _, _, _, _, _, _, _, (hs_eq _ _ _), ((hs_ne _ _ (by decide)).trans M16), ((hs_ne _ _ (by decide)).trans M17), ((hs_ne _ _ (by decide)).trans M18), ((hs_ne _ _ (by decide)).trans M19), ((hs_ne _ _ (by decide)).trans M20), ((hs_ne _ _ (by decide)).trans M21), ((hs_ne _ _ (by decide)).trans M22), ((hs_ne _ _ (by decide)).trans M23), ((hs_ne _ _ (by decide)).trans M24), ((hs_ne _ _ (by decide)).trans M25), ((hs_ne _ _ (by decide)).trans M26), ((hs_ne _ _ (by decide)).trans M27), ML, RMh, RKh⟩ ((Fm.rf h).hs _ (by decide))) (some_int (by unfold usI; rw [bn_t c13]; rfl)) rfl
