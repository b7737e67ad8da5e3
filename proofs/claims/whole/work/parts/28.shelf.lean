/-! ===== the shelf, what was seen ===== -/
def shO (a n : Nat) : rCell := .inr (.inr (2, [.ref 8, .ref 9, .ref 10, .int (nI a), .int (nI n)]))
def Sh (h : rHp) (B KP IK : Nat → Int32) (a n : Nat) : Prop := h.2.2 7 = shO a n ∧ h.2.2 8 = .inl (504, B) ∧ h.2.2 9 = .inl (72, KP) ∧ h.2.2 10 = .inr (.inl (2, IK)) ∧ 10 < h.1
theorem isW_in {a hi : Nat} (h : a ≤ hi) (hh : hi < 2147483648) : isW (nI a) (nI 0) (nI hi) = true := by rw [isW_nI (by omega) (by omega) hh]; exact decide_eq_true ⟨Nat.zero_le _, h⟩
theorem cpy_to {B : Nat → Int32} {p pu : Nat → Nat} {s : Nat} (e : ∀ i, i < 36 → B (s + i) = cl pu i) : va_cpy B (cl p) s 0 36 = cl pu := by
  funext k
  unfold va_cpy
  by_cases h : k < 36
  · rw [if_pos ⟨by omega, by omega⟩, show s + (k - 0) = s + k by omega]; exact e k h
  · rw [if_neg (fun z => h (by omega)), cl_out p (by omega), cl_out pu (by omega)]
theorem nar_1 : vp_nar .boolean (nI 1) = nI 1 := by decide
theorem nar_0 : vp_nar .boolean (nI 0) = nI 0 := by decide
def seO (sz : Nat) : rCell := .inr (.inr (1, [.ref 12, .ref 13, .ref 14, .int (nI sz)]))
def Se (h : rHp) (su sp sn : Nat → Nat) (sz : Nat) : Prop := h.2.2 11 = seO sz ∧ h.2.2 12 = .inl (6, na su) ∧ h.2.2 13 = .inl (6, na sp) ∧ h.2.2 14 = .inl (6, na sn) ∧ 14 < h.1
/-- does a seed agree with what was seen -/
def agL (p su sp sn : Nat → Nat) (a : Nat) : Nat → Nat → Bool
  | 0, _ => true
  | n + 1, i => if su i < p 24 ∧ ¬ bh (p (6 * su i + 1)) a (sp i) = sn i then false else agL p su sp sn a n (i + 1)
def agB (p su sp sn : Nat → Nat) (sz a : Nat) : Bool := agL p su sp sn a sz 0
theorem bi_f' : some (Value.int (nI 0)) = some (Value.int (bi false)) := by rw [bi_f]
theorem bi_t' : some (Value.int (nI 1)) = some (Value.int (bi true)) := by rw [bi_t]
theorem t_X2_remember {h : rHp} {Q : Option Value → rHp → Prop} {B KP IK : Nat → Int32} {a n : Nat} {p : Nat → Nat} (S : Sh h B KP IK a n) (H : Hl h 3 p) (hn : n < 14) (ha : a ≤ 14) (k : Q none (hs (hs h 8 (.inl (504, va_cpy (cl p) B 0 (n * 36) 36))) 7 (shO (min (a + 1) 14) ((n + 1) % 14)))) : Cl M_X2_remember h.1 h.2.1 [.ref 7, .ref 3] h Q := by
  refine Cl.of pl_X2 (Nat.le_of_ble_eq_true rfl) (by first | exact Nat.le_refl _ | omega) (by first | exact Nat.le_refl _ | omega) ?_
  refine Rn.aload_n dX2_remember_0 rfl rfl ?_
  refine Rn.getf f_X2_26 dX2_remember_1 rfl S.1 (Nat.lt_of_le_of_lt (Nat.le_of_ble_eq_true rfl) S.2.2.2.2) rfl ?_
  refine Rn.iconst dX2_remember_4 rfl ic_0 ?_
  refine Rn.bipush dX2_remember_5 rfl bp_13 ?_
  refine Rn.callSN (as := [_, _, _]) s_X4_isWithin n_X2_29 ⟨Nat.le_of_ble_eq_true rfl, Nat.le_of_ble_eq_true rfl⟩ dX2_remember_7 rfl rfl (Nat.le_of_ble_eq_true rfl) (Nat.le_refl _) (Nat.le_refl _) (t_X4_isWithin ?_)
  refine Rn.top (congrArg bi (isW_in (show n ≤ 13 by omega) (by omega))) ?_
  refine Rn.if_eqB (tgt := 62) dX2_remember_10 rfl (by decide) (fun c10 => ?_) (fun c10 => ?_)
  · exact absurd c10 (by decide)
  · refine Rn.aload_n dX2_remember_13 rfl rfl ?_
    refine Rn.getf f_X2_35 dX2_remember_14 rfl H.1 H.2.2.1 rfl ?_
    refine Rn.iconst dX2_remember_17 rfl ic_0 ?_
    refine Rn.aload_n dX2_remember_18 rfl rfl ?_
    refine Rn.getf f_X2_11 dX2_remember_19 rfl S.1 (Nat.lt_of_le_of_lt (Nat.le_of_ble_eq_true rfl) S.2.2.2.2) rfl ?_
    refine Rn.aload_n dX2_remember_22 rfl rfl ?_
    refine Rn.getf f_X2_26 dX2_remember_23 rfl S.1 (Nat.lt_of_le_of_lt (Nat.le_of_ble_eq_true rfl) S.2.2.2.2) rfl ?_
    refine Rn.bipush dX2_remember_26 rfl bp_36 ?_
    refine Rn.imulN dX2_remember_28 rfl ?_
    refine Rn.bipush dX2_remember_29 rfl bp_36 ?_
    refine Rn.copy l_X2_38 w_cpy2 w_cpy3 w_cpy4 (Nat.le_of_ble_eq_true rfl) (Nat.le_of_ble_eq_true rfl) dX2_remember_31 rfl H.2.1 H.2.2.2 S.2.1 (Nat.lt_of_le_of_lt (Nat.le_of_ble_eq_true rfl) S.2.2.2.2) rfl rfl rfl (by omega) (by omega) (by decide) (by decide) ?_
    refine Rn.aload_n dX2_remember_34 rfl rfl ?_
    refine Rn.aload_n dX2_remember_35 rfl rfl ?_
    refine Rn.getf f_X2_26 dX2_remember_36 rfl ((hs_ne _ _ (by decide)).trans S.1) (Nat.lt_of_le_of_lt (Nat.le_of_ble_eq_true rfl) S.2.2.2.2) rfl ?_
    refine Rn.iconst dX2_remember_39 rfl ic_1 ?_
    refine Rn.iaddN dX2_remember_40 rfl ?_
    refine Rn.bipush dX2_remember_41 rfl bp_14 ?_
    refine Rn.iremN dX2_remember_43 rfl (by omega) (by omega) (by omega) ?_
    refine Rn.putf p_X2_26 (fun h => by cases h) dX2_remember_44 rfl ((hs_ne _ _ (by decide)).trans S.1) (Nat.lt_of_le_of_lt (Nat.le_of_ble_eq_true rfl) S.2.2.2.2) (fun g => ⟨rfl, rfl⟩) (Nat.le_of_ble_eq_true rfl) ?_
    refine Rn.aload_n dX2_remember_47 rfl rfl ?_
    refine Rn.aload_n dX2_remember_48 rfl rfl ?_
    refine Rn.getf f_X2_22 dX2_remember_49 rfl (hs_eq _ _ _) (Nat.lt_of_le_of_lt (Nat.le_of_ble_eq_true rfl) S.2.2.2.2) rfl ?_
    refine Rn.iconst dX2_remember_52 rfl ic_1 ?_
    refine Rn.iaddN dX2_remember_53 rfl ?_
    refine Rn.bipush dX2_remember_54 rfl bp_14 ?_
    refine Rn.mminN l_X2_44 w_min2 w_min3 w_min4 (Nat.le_of_ble_eq_true rfl) (Nat.le_of_ble_eq_true rfl) dX2_remember_56 rfl (by omega) (by omega) ?_
    refine Rn.putf p_X2_22 (fun h => by cases h) dX2_remember_59 rfl (hs_eq _ _ _) (Nat.lt_of_le_of_lt (Nat.le_of_ble_eq_true rfl) S.2.2.2.2) (fun g => ⟨rfl, rfl⟩) (Nat.le_of_ble_eq_true rfl) ?_
    refine Rn.heap (hs_hs _ _ _ _) ?_
    refine Rn.ret dX2_remember_62 rfl rfl rfl ?_
    exact k
theorem t_X2_takeBack {h : rHp} {Q : Option Value → rHp → Prop} {B KP IK : Nat → Int32} {a n : Nat} {p : Nat → Nat} (S : Sh h B KP IK a n) (H : Hl h 3 p) (hn : n < 14) (ha : a ≤ 14) {pu : Nat → Nat} (e : 0 < a → ∀ i, i < 36 → B ((n + 14 - 1) % 14 * 36 + i) = cl pu i) (k0 : a = 0 → Q (some (.int (bi false))) h) (k : 0 < a → Q (some (.int (bi true))) (hs (hp h 3 pu) 7 (shO (a - 1) ((n + 14 - 1) % 14)))) : Cl M_X2_takeBack h.1 h.2.1 [.ref 7, .ref 3] h Q := by
  refine Cl.of pl_X2 (Nat.le_of_ble_eq_true rfl) (by first | exact Nat.le_refl _ | omega) (by first | exact Nat.le_refl _ | omega) ?_
  refine Rn.aload_n dX2_takeBack_0 rfl rfl ?_
  refine Rn.getf f_X2_26 dX2_takeBack_1 rfl S.1 (Nat.lt_of_le_of_lt (Nat.le_of_ble_eq_true rfl) S.2.2.2.2) rfl ?_
  refine Rn.bipush dX2_takeBack_4 rfl bp_14 ?_
  refine Rn.iaddN dX2_takeBack_6 rfl ?_
  refine Rn.iconst dX2_takeBack_7 rfl ic_1 ?_
  refine Rn.isubN dX2_takeBack_8 rfl (by omega) ?_
  refine Rn.bipush dX2_takeBack_9 rfl bp_14 ?_
  refine Rn.iremN dX2_takeBack_11 rfl (by omega) (by omega) (by omega) ?_
  refine Rn.istore_n dX2_takeBack_12 rfl (Nat.le_of_ble_eq_true rfl) ?_
  refine Rn.aload_n dX2_takeBack_13 rfl rfl ?_
  refine Rn.getf f_X2_22 dX2_takeBack_14 rfl S.1 (Nat.lt_of_le_of_lt (Nat.le_of_ble_eq_true rfl) S.2.2.2.2) rfl ?_
  refine Rn.if_leN (tgt := 34) dX2_takeBack_17 rfl (by decide) (by omega) (fun c17 => ?_) (fun c17 => ?_)
  · refine Rn.iconst dX2_takeBack_34 rfl ic_0 ?_
    refine Rn.istore_n dX2_takeBack_35 rfl (Nat.le_of_ble_eq_true rfl) ?_
    refine Rn.iload_n dX2_takeBack_36 rfl rfl ?_
    refine Rn.if_eqN (tgt := 73) dX2_takeBack_37 rfl (by decide) (by omega) (fun c37 => ?_) (fun c37 => ?_)
    · refine Rn.iload_n dX2_takeBack_73 rfl rfl ?_
      refine Rn.zret dX2_takeBack_74 rfl (by decide) rfl rfl ?_
      exact rn_fin (k0 c17) bi_f' rfl
    · first | omega | exact False.elim c37
  · refine Rn.iload_n dX2_takeBack_20 rfl rfl ?_
    refine Rn.iconst dX2_takeBack_21 rfl ic_0 ?_
    refine Rn.bipush dX2_takeBack_22 rfl bp_13 ?_
    refine Rn.callSN (as := [_, _, _]) s_X4_isWithin n_X2_29 ⟨Nat.le_of_ble_eq_true rfl, Nat.le_of_ble_eq_true rfl⟩ dX2_takeBack_24 rfl rfl (Nat.le_of_ble_eq_true rfl) (Nat.le_refl _) (Nat.le_refl _) (t_X4_isWithin ?_)
    refine Rn.top (congrArg bi (isW_in (show (n + 14 - 1) % 14 ≤ 13 by omega) (by omega))) ?_
    refine Rn.if_eqB (tgt := 34) dX2_takeBack_27 rfl (by decide) (fun c27 => ?_) (fun c27 => ?_)
    · exact absurd c27 (by decide)
    · refine Rn.iconst dX2_takeBack_30 rfl ic_1 ?_
      refine Rn.goto (tgt := 35) dX2_takeBack_31 (by decide) ?_
      refine Rn.istore_n dX2_takeBack_35 rfl (Nat.le_of_ble_eq_true rfl) ?_
      refine Rn.iload_n dX2_takeBack_36 rfl rfl ?_
      refine Rn.if_eqN (tgt := 73) dX2_takeBack_37 rfl (by decide) (by omega) (fun c37 => ?_) (fun c37 => ?_)
      · first | omega | exact False.elim c37
      · refine Rn.aload_n dX2_takeBack_40 rfl rfl ?_
        refine Rn.getf f_X2_11 dX2_takeBack_41 rfl S.1 (Nat.lt_of_le_of_lt (Nat.le_of_ble_eq_true rfl) S.2.2.2.2) rfl ?_
        refine Rn.iload_n dX2_takeBack_44 rfl rfl ?_
        refine Rn.bipush dX2_takeBack_45 rfl bp_36 ?_
        refine Rn.imulN dX2_takeBack_47 rfl ?_
        refine Rn.aload_n dX2_takeBack_48 rfl rfl ?_
        refine Rn.getf f_X2_35 dX2_takeBack_49 rfl H.1 H.2.2.1 rfl ?_
        refine Rn.iconst dX2_takeBack_52 rfl ic_0 ?_
        refine Rn.bipush dX2_takeBack_53 rfl bp_36 ?_
        refine Rn.copy l_X2_38 w_cpy2 w_cpy3 w_cpy4 (Nat.le_of_ble_eq_true rfl) (Nat.le_of_ble_eq_true rfl) dX2_takeBack_55 rfl S.2.1 (Nat.lt_of_le_of_lt (Nat.le_of_ble_eq_true rfl) S.2.2.2.2) H.2.1 H.2.2.2 rfl rfl rfl (by omega) (by omega) (by decide) (by decide) ?_
        refine Rn.heap (Hl.upd (q := 3) (cpy_to (e (by omega)))) ?_
        refine Rn.aload_n dX2_takeBack_58 rfl rfl ?_
        refine Rn.iload_n dX2_takeBack_59 rfl rfl ?_
        refine Rn.putf p_X2_26 (fun h => by cases h) dX2_takeBack_60 rfl ((hs_ne _ _ (by decide)).trans S.1) (Nat.lt_of_le_of_lt (Nat.le_of_ble_eq_true rfl) S.2.2.2.2) (fun g => ⟨rfl, rfl⟩) (Nat.le_of_ble_eq_true rfl) ?_
        refine Rn.aload_n dX2_takeBack_63 rfl rfl ?_
        refine Rn.dup dX2_takeBack_64 rfl rfl ?_
        refine Rn.getf f_X2_22 dX2_takeBack_65 rfl (hs_eq _ _ _) (Nat.lt_of_le_of_lt (Nat.le_of_ble_eq_true rfl) S.2.2.2.2) rfl ?_
        refine Rn.iconst dX2_takeBack_68 rfl ic_1 ?_
        refine Rn.isubN dX2_takeBack_69 rfl (by omega) ?_
        refine Rn.putf p_X2_22 (fun h => by cases h) dX2_takeBack_70 rfl (hs_eq _ _ _) (Nat.lt_of_le_of_lt (Nat.le_of_ble_eq_true rfl) S.2.2.2.2) (fun g => ⟨rfl, rfl⟩) (Nat.le_of_ble_eq_true rfl) ?_
        refine Rn.heap (hs_hs _ _ _ _) ?_
        refine Rn.iload_n dX2_takeBack_73 rfl rfl ?_
        refine Rn.zret dX2_takeBack_74 rfl (by decide) rfl rfl ?_
        exact rn_fin (k (by omega)) bi_t' rfl
theorem t_X2_keepIn {h : rHp} {Q : Option Value → rHp → Prop} {B KP IK : Nat → Int32} {a n : Nat} {p : Nat → Nat} (S : Sh h B KP IK a n) (H : Hl h 3 p) {x : Int32} (k0 : isW x (nI 0) (nI 1) = false → Q (some (.int (bi false))) h) (k : ∀ s, s ≤ 1 → x = nI s → Q (some (.int (bi true))) (hs (hs h 9 (.inl (72, va_cpy (cl p) KP 0 (s * 36) 36))) 10 (.inr (.inl (2, upd IK s (nI 1)))))) : Cl M_X2_keepIn h.1 h.2.1 [.ref 7, .int x, .ref 3] h Q := by
  refine Cl.of pl_X2 (Nat.le_of_ble_eq_true rfl) (by first | exact Nat.le_refl _ | omega) (by first | exact Nat.le_refl _ | omega) ?_
  refine Rn.iload_n dX2_keepIn_0 rfl rfl ?_
  refine Rn.iconst dX2_keepIn_1 rfl ic_0 ?_
  refine Rn.iconst dX2_keepIn_2 rfl ic_1 ?_
  refine Rn.callSN (as := [_, _, _]) s_X4_isWithin n_X2_29 ⟨Nat.le_of_ble_eq_true rfl, Nat.le_of_ble_eq_true rfl⟩ dX2_keepIn_3 rfl rfl (Nat.le_of_ble_eq_true rfl) (Nat.le_refl _) (Nat.le_refl _) (t_X4_isWithin ?_)
  refine Rn.istore_n dX2_keepIn_6 rfl (Nat.le_of_ble_eq_true rfl) ?_
  refine Rn.iload_n dX2_keepIn_7 rfl rfl ?_
  refine Rn.if_eqB (tgt := 36) dX2_keepIn_8 rfl (by decide) (fun c8 => ?_) (fun c8 => ?_)
  · refine Rn.iload_n dX2_keepIn_36 rfl rfl ?_
    refine Rn.zret dX2_keepIn_37 rfl (bi_01 _) rfl rfl ?_
    first | exact rn_fin (k0 c8) (by rw [c8]) rfl | exact rn_fin (k s hs1 rfl) (by rw [c8]) rfl
  · obtain ⟨s, hs1, rfl⟩ := isW_of c8 (by omega)
    refine Rn.aload_n dX2_keepIn_11 rfl rfl ?_
    refine Rn.getf f_X2_35 dX2_keepIn_12 rfl H.1 H.2.2.1 rfl ?_
    refine Rn.iconst dX2_keepIn_15 rfl ic_0 ?_
    refine Rn.aload_n dX2_keepIn_16 rfl rfl ?_
    refine Rn.getf f_X2_15 dX2_keepIn_17 rfl S.1 (Nat.lt_of_le_of_lt (Nat.le_of_ble_eq_true rfl) S.2.2.2.2) rfl ?_
    refine Rn.iload_n dX2_keepIn_20 rfl rfl ?_
    refine Rn.bipush dX2_keepIn_21 rfl bp_36 ?_
    refine Rn.imulN dX2_keepIn_23 rfl ?_
    refine Rn.bipush dX2_keepIn_24 rfl bp_36 ?_
    refine Rn.copy l_X2_38 w_cpy2 w_cpy3 w_cpy4 (Nat.le_of_ble_eq_true rfl) (Nat.le_of_ble_eq_true rfl) dX2_keepIn_26 rfl H.2.1 H.2.2.2 S.2.2.1 (Nat.lt_of_le_of_lt (Nat.le_of_ble_eq_true rfl) S.2.2.2.2) rfl rfl rfl (by omega) (by omega) (by decide) (by decide) ?_
    refine Rn.aload_n dX2_keepIn_29 rfl rfl ?_
    refine Rn.getf f_X2_18 dX2_keepIn_30 rfl ((hs_ne _ _ (by decide)).trans S.1) (Nat.lt_of_le_of_lt (Nat.le_of_ble_eq_true rfl) S.2.2.2.2) rfl ?_
    refine Rn.iload_n dX2_keepIn_33 rfl rfl ?_
    refine Rn.iconst dX2_keepIn_34 rfl ic_1 ?_
    refine Rn.zastN dX2_keepIn_35 rfl ((hs_ne _ _ (by decide)).trans S.2.2.2.1) (Nat.lt_of_le_of_lt (Nat.le_of_ble_eq_true rfl) S.2.2.2.2) (by omega) (by omega) ?_
    rw [nar_1]
    refine Rn.iload_n dX2_keepIn_36 rfl rfl ?_
    refine Rn.zret dX2_keepIn_37 rfl (bi_01 _) rfl rfl ?_
    first | exact rn_fin (k0 c8) (by rw [c8]) rfl | exact rn_fin (k s hs1 rfl) (by rw [c8]) rfl
theorem t_X2_bringBack {h : rHp} {Q : Option Value → rHp → Prop} {B KP IK : Nat → Int32} {a n : Nat} {p : Nat → Nat} (S : Sh h B KP IK a n) (H : Hl h 3 p) {s : Nat} (hs1 : s ≤ 1) {b : Bool} (hb : IK s = bi b) {pu : Nat → Nat} (e : b = true → ∀ i, i < 36 → KP (s * 36 + i) = cl pu i) (k0 : b = false → Q (some (.int (bi false))) h) (k : b = true → Q (some (.int (bi true))) (hs (hp h 3 pu) 7 (shO 0 n))) : Cl M_X2_bringBack h.1 h.2.1 [.ref 7, .int (nI s), .ref 3] h Q := by
  refine Cl.of pl_X2 (Nat.le_of_ble_eq_true rfl) (by first | exact Nat.le_refl _ | omega) (by first | exact Nat.le_refl _ | omega) ?_
  refine Rn.iload_n dX2_bringBack_0 rfl rfl ?_
  refine Rn.iconst dX2_bringBack_1 rfl ic_0 ?_
  refine Rn.iconst dX2_bringBack_2 rfl ic_1 ?_
  refine Rn.callSN (as := [_, _, _]) s_X4_isWithin n_X2_29 ⟨Nat.le_of_ble_eq_true rfl, Nat.le_of_ble_eq_true rfl⟩ dX2_bringBack_3 rfl rfl (Nat.le_of_ble_eq_true rfl) (Nat.le_refl _) (Nat.le_refl _) (t_X4_isWithin ?_)
  refine Rn.top (congrArg bi (isW_in hs1 (by omega))) ?_
  refine Rn.if_eqB (tgt := 22) dX2_bringBack_6 rfl (by decide) (fun c6 => ?_) (fun c6 => ?_)
  · exact absurd c6 (by decide)
  · refine Rn.aload_n dX2_bringBack_9 rfl rfl ?_
    refine Rn.getf f_X2_18 dX2_bringBack_10 rfl S.1 (Nat.lt_of_le_of_lt (Nat.le_of_ble_eq_true rfl) S.2.2.2.2) rfl ?_
    refine Rn.iload_n dX2_bringBack_13 rfl rfl ?_
    refine Rn.zaldN dX2_bringBack_14 rfl S.2.2.2.1 (Nat.lt_of_le_of_lt (Nat.le_of_ble_eq_true rfl) S.2.2.2.2) (by omega) (by omega) ?_
    refine Rn.top hb ?_
    refine Rn.if_eqB (tgt := 22) dX2_bringBack_15 rfl (by decide) (fun c15 => ?_) (fun c15 => ?_)
    · refine Rn.iconst dX2_bringBack_22 rfl ic_0 ?_
      refine Rn.istore_n dX2_bringBack_23 rfl (Nat.le_of_ble_eq_true rfl) ?_
      refine Rn.iload_n dX2_bringBack_24 rfl rfl ?_
      refine Rn.if_eqN (tgt := 51) dX2_bringBack_25 rfl (by decide) (by omega) (fun c25 => ?_) (fun c25 => ?_)
      · refine Rn.iload_n dX2_bringBack_51 rfl rfl ?_
        refine Rn.zret dX2_bringBack_52 rfl (by decide) rfl rfl ?_
        exact rn_fin (k0 c15) bi_f' rfl
      · first | omega | exact False.elim c25
    · refine Rn.iconst dX2_bringBack_18 rfl ic_1 ?_
      refine Rn.goto (tgt := 23) dX2_bringBack_19 (by decide) ?_
      refine Rn.istore_n dX2_bringBack_23 rfl (Nat.le_of_ble_eq_true rfl) ?_
      refine Rn.iload_n dX2_bringBack_24 rfl rfl ?_
      refine Rn.if_eqN (tgt := 51) dX2_bringBack_25 rfl (by decide) (by omega) (fun c25 => ?_) (fun c25 => ?_)
      · first | omega | exact False.elim c25
      · refine Rn.aload_n dX2_bringBack_28 rfl rfl ?_
        refine Rn.getf f_X2_15 dX2_bringBack_29 rfl S.1 (Nat.lt_of_le_of_lt (Nat.le_of_ble_eq_true rfl) S.2.2.2.2) rfl ?_
        refine Rn.iload_n dX2_bringBack_32 rfl rfl ?_
        refine Rn.bipush dX2_bringBack_33 rfl bp_36 ?_
        refine Rn.imulN dX2_bringBack_35 rfl ?_
        refine Rn.aload_n dX2_bringBack_36 rfl rfl ?_
        refine Rn.getf f_X2_35 dX2_bringBack_37 rfl H.1 H.2.2.1 rfl ?_
        refine Rn.iconst dX2_bringBack_40 rfl ic_0 ?_
        refine Rn.bipush dX2_bringBack_41 rfl bp_36 ?_
        refine Rn.copy l_X2_38 w_cpy2 w_cpy3 w_cpy4 (Nat.le_of_ble_eq_true rfl) (Nat.le_of_ble_eq_true rfl) dX2_bringBack_43 rfl S.2.2.1 (Nat.lt_of_le_of_lt (Nat.le_of_ble_eq_true rfl) S.2.2.2.2) H.2.1 H.2.2.2 rfl rfl rfl (by omega) (by omega) (by decide) (by decide) ?_
        refine Rn.heap (Hl.upd (q := 3) (cpy_to (e c15))) ?_
        refine Rn.aload_n dX2_bringBack_46 rfl rfl ?_
        refine Rn.iconst dX2_bringBack_47 rfl ic_0 ?_
        refine Rn.putf p_X2_22 (fun h => by cases h) dX2_bringBack_48 rfl ((hs_ne _ _ (by decide)).trans S.1) (Nat.lt_of_le_of_lt (Nat.le_of_ble_eq_true rfl) S.2.2.2.2) (fun g => ⟨rfl, rfl⟩) (Nat.le_of_ble_eq_true rfl) ?_
        refine Rn.iload_n dX2_bringBack_51 rfl rfl ?_
        refine Rn.zret dX2_bringBack_52 rfl (by decide) rfl rfl ?_
        exact rn_fin (k c15) bi_t' rfl
theorem t_X2_forgetAll {h : rHp} {Q : Option Value → rHp → Prop} {B KP IK : Nat → Int32} {a n : Nat} {p : Nat → Nat} (S : Sh h B KP IK a n) (k : Q none (hs (hs h 7 (shO 0 n)) 10 (.inr (.inl (2, upd (upd IK 0 (nI 0)) 1 (nI 0)))))) : Cl M_X2_forgetAll h.1 h.2.1 [.ref 7] h Q := by
  refine Cl.of pl_X2 (Nat.le_of_ble_eq_true rfl) (by first | exact Nat.le_refl _ | omega) (by first | exact Nat.le_refl _ | omega) ?_
  refine Rn.aload_n dX2_forgetAll_0 rfl rfl ?_
  refine Rn.iconst dX2_forgetAll_1 rfl ic_0 ?_
  refine Rn.putf p_X2_22 (fun h => by cases h) dX2_forgetAll_2 rfl S.1 (Nat.lt_of_le_of_lt (Nat.le_of_ble_eq_true rfl) S.2.2.2.2) (fun g => ⟨rfl, rfl⟩) (Nat.le_of_ble_eq_true rfl) ?_
  refine Rn.iconst dX2_forgetAll_5 rfl ic_0 ?_
  refine Rn.istore_n dX2_forgetAll_6 rfl (Nat.le_of_ble_eq_true rfl) ?_
  refine Rn.iload_n dX2_forgetAll_7 rfl rfl ?_
  refine Rn.iconst dX2_forgetAll_8 rfl ic_2 ?_
  refine Rn.icmp_geN (tgt := 25) dX2_forgetAll_9 rfl (by decide) (by omega) (by omega) (fun c9 => ?_) (fun c9 => ?_)
  · first | omega | exact False.elim c9
  · refine Rn.aload_n dX2_forgetAll_12 rfl rfl ?_
    refine Rn.getf f_X2_18 dX2_forgetAll_13 rfl (hs_eq _ _ _) (Nat.lt_of_le_of_lt (Nat.le_of_ble_eq_true rfl) S.2.2.2.2) rfl ?_
    refine Rn.iload_n dX2_forgetAll_16 rfl rfl ?_
    refine Rn.iconst dX2_forgetAll_17 rfl ic_0 ?_
    refine Rn.zastN dX2_forgetAll_18 rfl ((hs_ne _ _ (by decide)).trans S.2.2.2.1) (Nat.lt_of_le_of_lt (Nat.le_of_ble_eq_true rfl) S.2.2.2.2) (by omega) (by omega) ?_
    rw [nar_0]
    refine Rn.iincN dX2_forgetAll_19 rfl rfl (Nat.le_of_ble_eq_true rfl) ?_
    refine Rn.goto (tgt := 7) dX2_forgetAll_22 (by decide) ?_
    refine Rn.iload_n dX2_forgetAll_7 rfl rfl ?_
    refine Rn.iconst dX2_forgetAll_8 rfl ic_2 ?_
    refine Rn.icmp_geN (tgt := 25) dX2_forgetAll_9 rfl (by decide) (by omega) (by omega) (fun c9 => ?_) (fun c9 => ?_)
    · first | omega | exact False.elim c9
    · refine Rn.aload_n dX2_forgetAll_12 rfl rfl ?_
      refine Rn.getf f_X2_18 dX2_forgetAll_13 rfl ((hs_ne _ _ (by decide)).trans (hs_eq _ _ _)) (Nat.lt_of_le_of_lt (Nat.le_of_ble_eq_true rfl) S.2.2.2.2) rfl ?_
      refine Rn.iload_n dX2_forgetAll_16 rfl rfl ?_
      refine Rn.iconst dX2_forgetAll_17 rfl ic_0 ?_
      refine Rn.zastN dX2_forgetAll_18 rfl (hs_eq _ _ _) (Nat.lt_of_le_of_lt (Nat.le_of_ble_eq_true rfl) S.2.2.2.2) (by omega) (by omega) ?_
      refine Rn.heap (hs_hs _ _ _ _) ?_
      rw [nar_0]
      refine Rn.iincN dX2_forgetAll_19 rfl rfl (Nat.le_of_ble_eq_true rfl) ?_
      refine Rn.goto (tgt := 7) dX2_forgetAll_22 (by decide) ?_
      refine Rn.iload_n dX2_forgetAll_7 rfl rfl ?_
      refine Rn.iconst dX2_forgetAll_8 rfl ic_2 ?_
      refine Rn.icmp_geN (tgt := 25) dX2_forgetAll_9 rfl (by decide) (by omega) (by omega) (fun c9 => ?_) (fun c9 => ?_)
      · refine Rn.ret dX2_forgetAll_25 rfl rfl rfl ?_
        exact k
      · first | omega | exact False.elim c9
theorem t_X1_add {h : rHp} {Q : Option Value → rHp → Prop} {su sp sn : Nat → Nat} {sz : Nat} (E : Se h su sp sn sz) (hsz : sz ≤ 6) {u i v : Nat} (k0 : sz = 6 → Q (some (.int (bi false))) h) (k : sz < 6 → Q (some (.int (bi true))) (hs (hs (hs (hs h 12 (.inl (6, na (un su sz u)))) 13 (.inl (6, na (un sp sz i)))) 14 (.inl (6, na (un sn sz v)))) 11 (seO (sz + 1)))) : Cl M_X1_add h.1 h.2.1 [.ref 11, .int (nI u), .int (nI i), .int (nI v)] h Q := by
  refine Cl.of pl_X1 (Nat.le_of_ble_eq_true rfl) (by first | exact Nat.le_refl _ | omega) (by first | exact Nat.le_refl _ | omega) ?_
  refine Rn.aload_n dX1_add_0 rfl rfl ?_
  refine Rn.getf f_X1_21 dX1_add_1 rfl E.1 (Nat.lt_of_le_of_lt (Nat.le_of_ble_eq_true rfl) E.2.2.2.2) rfl ?_
  refine Rn.if_ltN (tgt := 20) dX1_add_4 rfl (by decide) (by omega) (fun c4 => ?_) (fun c4 => ?_)
  · first | omega | exact False.elim c4
  · refine Rn.aload_n dX1_add_7 rfl rfl ?_
    refine Rn.getf f_X1_21 dX1_add_8 rfl E.1 (Nat.lt_of_le_of_lt (Nat.le_of_ble_eq_true rfl) E.2.2.2.2) rfl ?_
    refine Rn.bipush dX1_add_11 rfl bp_6 ?_
    refine Rn.icmp_geN (tgt := 20) dX1_add_13 rfl (by decide) (by omega) (by omega) (fun c13 => ?_) (fun c13 => ?_)
    · refine Rn.iconst dX1_add_20 rfl ic_0 ?_
      refine Rn.istore dX1_add_21 rfl (Nat.le_of_ble_eq_true rfl) ?_
      refine Rn.iload dX1_add_23 rfl rfl ?_
      refine Rn.if_eqN (tgt := 68) dX1_add_25 rfl (by decide) (by omega) (fun c25 => ?_) (fun c25 => ?_)
      · refine Rn.iload dX1_add_68 rfl rfl ?_
        refine Rn.zret dX1_add_70 rfl (by decide) rfl rfl ?_
        exact rn_fin (k0 (by omega)) bi_f' rfl
      · first | omega | exact False.elim c25
    · refine Rn.iconst dX1_add_16 rfl ic_1 ?_
      refine Rn.goto (tgt := 21) dX1_add_17 (by decide) ?_
      refine Rn.istore dX1_add_21 rfl (Nat.le_of_ble_eq_true rfl) ?_
      refine Rn.iload dX1_add_23 rfl rfl ?_
      refine Rn.if_eqN (tgt := 68) dX1_add_25 rfl (by decide) (by omega) (fun c25 => ?_) (fun c25 => ?_)
      · first | omega | exact False.elim c25
      · refine Rn.aload_n dX1_add_28 rfl rfl ?_
        refine Rn.getf f_X1_11 dX1_add_29 rfl E.1 (Nat.lt_of_le_of_lt (Nat.le_of_ble_eq_true rfl) E.2.2.2.2) rfl ?_
        refine Rn.aload_n dX1_add_32 rfl rfl ?_
        refine Rn.getf f_X1_21 dX1_add_33 rfl E.1 (Nat.lt_of_le_of_lt (Nat.le_of_ble_eq_true rfl) E.2.2.2.2) rfl ?_
        refine Rn.iload_n dX1_add_36 rfl rfl ?_
        refine Rn.iastN dX1_add_37 rfl E.2.1 (Nat.lt_of_le_of_lt (Nat.le_of_ble_eq_true rfl) E.2.2.2.2) (by omega) (by omega) ?_
        rw [upd_na]
        refine Rn.aload_n dX1_add_38 rfl rfl ?_
        refine Rn.getf f_X1_15 dX1_add_39 rfl ((hs_ne _ _ (by decide)).trans E.1) (Nat.lt_of_le_of_lt (Nat.le_of_ble_eq_true rfl) E.2.2.2.2) rfl ?_
        refine Rn.aload_n dX1_add_42 rfl rfl ?_
        refine Rn.getf f_X1_21 dX1_add_43 rfl ((hs_ne _ _ (by decide)).trans E.1) (Nat.lt_of_le_of_lt (Nat.le_of_ble_eq_true rfl) E.2.2.2.2) rfl ?_
        refine Rn.iload_n dX1_add_46 rfl rfl ?_
        refine Rn.iastN dX1_add_47 rfl ((hs_ne _ _ (by decide)).trans E.2.2.1) (Nat.lt_of_le_of_lt (Nat.le_of_ble_eq_true rfl) E.2.2.2.2) (by omega) (by omega) ?_
        rw [upd_na]
        refine Rn.aload_n dX1_add_48 rfl rfl ?_
        refine Rn.getf f_X1_18 dX1_add_49 rfl ((hs_ne _ _ (by decide)).trans ((hs_ne _ _ (by decide)).trans E.1)) (Nat.lt_of_le_of_lt (Nat.le_of_ble_eq_true rfl) E.2.2.2.2) rfl ?_
        refine Rn.aload_n dX1_add_52 rfl rfl ?_
        refine Rn.getf f_X1_21 dX1_add_53 rfl ((hs_ne _ _ (by decide)).trans ((hs_ne _ _ (by decide)).trans E.1)) (Nat.lt_of_le_of_lt (Nat.le_of_ble_eq_true rfl) E.2.2.2.2) rfl ?_
        refine Rn.iload_n dX1_add_56 rfl rfl ?_
        refine Rn.iastN dX1_add_57 rfl ((hs_ne _ _ (by decide)).trans ((hs_ne _ _ (by decide)).trans E.2.2.2.1)) (Nat.lt_of_le_of_lt (Nat.le_of_ble_eq_true rfl) E.2.2.2.2) (by omega) (by omega) ?_
        rw [upd_na]
        refine Rn.aload_n dX1_add_58 rfl rfl ?_
        refine Rn.dup dX1_add_59 rfl rfl ?_
        refine Rn.getf f_X1_21 dX1_add_60 rfl ((hs_ne _ _ (by decide)).trans ((hs_ne _ _ (by decide)).trans ((hs_ne _ _ (by decide)).trans E.1))) (Nat.lt_of_le_of_lt (Nat.le_of_ble_eq_true rfl) E.2.2.2.2) rfl ?_
        refine Rn.iconst dX1_add_63 rfl ic_1 ?_
        refine Rn.iaddN dX1_add_64 rfl ?_
        refine Rn.putf p_X1_21 (fun h => by cases h) dX1_add_65 rfl ((hs_ne _ _ (by decide)).trans ((hs_ne _ _ (by decide)).trans ((hs_ne _ _ (by decide)).trans E.1))) (Nat.lt_of_le_of_lt (Nat.le_of_ble_eq_true rfl) E.2.2.2.2) (fun g => ⟨rfl, rfl⟩) (Nat.le_of_ble_eq_true rfl) ?_
        refine Rn.iload dX1_add_68 rfl rfl ?_
        refine Rn.zret dX1_add_70 rfl (by decide) rfl rfl ?_
        exact rn_fin (k (by omega)) bi_t' rfl
theorem t_X1_agrees {h : rHp} {Q : Option Value → rHp → Prop} {su sp sn : Nat → Nat} {sz : Nat} (E : Se h su sp sn sz) (hsz : sz ≤ 6) {p : Nat → Nat} (H : Hl h 3 p) (O : OKp p) (hsu : ∀ i, i < 6 → su i < 4) (hsp : ∀ i, i < 6 → sp i ≤ 29) (hsn : ∀ i, i < 6 → sn i < 251) {a : Nat} (ha : a < 251) (k : Q (some (.int (bi (agB p su sp sn sz a)))) h) : Cl M_X1_agrees h.1 h.2.1 [.ref 11, .int (nI a), .ref 3] h Q := by
  refine Cl.of pl_X1 (Nat.le_of_ble_eq_true rfl) (by first | exact Nat.le_refl _ | omega) (by first | exact Nat.le_refl _ | omega) ?_
  refine Rn.iconst dX1_agrees_0 rfl ic_0 ?_
  refine Rn.istore_n dX1_agrees_1 rfl (Nat.le_of_ble_eq_true rfl) ?_
  have hloop : ∀ (m : Nat) (n i : Nat), n < m → i + n = sz → agL p su sp sn a n i = agB p su sp sn sz a → Rn (M_X1_agrees, none, h.1, h.2.1) Q 2 [(0, .ref 11), (1, .int (nI a)), (2, .ref 3), (3, .int (nI i))] [] h := by
    intro m
    induction m with
    | zero => intro n i h0 h1 h2; exact absurd h0 (Nat.not_lt_zero _)
    | succ m ih =>
      intro n i h0 h1 h2
      refine Rn.iload_n dX1_agrees_2 rfl rfl ?_
      refine Rn.aload_n dX1_agrees_3 rfl rfl ?_
      refine Rn.getf f_X1_21 dX1_agrees_4 rfl E.1 (Nat.lt_of_le_of_lt (Nat.le_of_ble_eq_true rfl) E.2.2.2.2) rfl ?_
      refine Rn.icmp_geN (tgt := 71) dX1_agrees_7 rfl (by decide) (by omega) (by omega) (fun c7 => ?_) (fun c7 => ?_)
      · obtain rfl : n = 0 := by omega
        refine Rn.iconst dX1_agrees_71 rfl ic_1 ?_
        refine Rn.zret dX1_agrees_72 rfl (by decide) rfl rfl ?_
        exact rn_fin k (by rw [← h2]; exact bi_t') rfl
      · obtain ⟨n, rfl⟩ : ∃ n', n = n' + 1 := ⟨n - 1, by omega⟩
        have hsu4 := hsu i (by omega)
        have hsp29 := hsp i (by omega)
        have hsn250 := hsn i (by omega)
        refine Rn.iload_n dX1_agrees_10 rfl rfl ?_
        refine Rn.bipush dX1_agrees_11 rfl bp_6 ?_
        refine Rn.icmp_geN (tgt := 71) dX1_agrees_13 rfl (by decide) (by omega) (by omega) (fun c13 => ?_) (fun c13 => ?_)
        · first | omega | exact False.elim c13
        · refine Rn.aload_n dX1_agrees_16 rfl rfl ?_
          refine Rn.aload_n dX1_agrees_17 rfl rfl ?_
          refine Rn.getf f_X1_11 dX1_agrees_18 rfl E.1 (Nat.lt_of_le_of_lt (Nat.le_of_ble_eq_true rfl) E.2.2.2.2) rfl ?_
          refine Rn.iload_n dX1_agrees_21 rfl rfl ?_
          refine Rn.ialdN dX1_agrees_22 rfl E.2.1 (Nat.lt_of_le_of_lt (Nat.le_of_ble_eq_true rfl) E.2.2.2.2) (by omega) (by omega) ?_
          refine Rn.top (show na su i = nI (su i) from rfl) ?_
          refine Rn.iconst dX1_agrees_23 rfl ic_1 ?_
          refine Rn.callV (as := [_, _]) v_X0_of l_X1_31 ⟨Nat.le_of_ble_eq_true rfl, Nat.le_of_ble_eq_true rfl⟩ dX1_agrees_24 rfl rfl (Nat.le_of_ble_eq_true rfl) H.1 H.2.2.1 rfl (Nat.le_refl _) (Nat.le_refl _) (t_X0_of H (hsu i (by omega)) (by omega) ?_) 
          refine Rn.istore dX1_agrees_27 rfl (Nat.le_of_ble_eq_true rfl) ?_
          refine Rn.aload_n dX1_agrees_29 rfl rfl ?_
          refine Rn.aload_n dX1_agrees_30 rfl rfl ?_
          refine Rn.getf f_X1_11 dX1_agrees_31 rfl E.1 (Nat.lt_of_le_of_lt (Nat.le_of_ble_eq_true rfl) E.2.2.2.2) rfl ?_
          refine Rn.iload_n dX1_agrees_34 rfl rfl ?_
          refine Rn.ialdN dX1_agrees_35 rfl E.2.1 (Nat.lt_of_le_of_lt (Nat.le_of_ble_eq_true rfl) E.2.2.2.2) (by omega) (by omega) ?_
          refine Rn.top (show na su i = nI (su i) from rfl) ?_
          refine Rn.callV (as := [_]) v_X0_has l_X1_35 ⟨Nat.le_of_ble_eq_true rfl, Nat.le_of_ble_eq_true rfl⟩ dX1_agrees_36 rfl rfl (Nat.le_of_ble_eq_true rfl) H.1 H.2.2.1 rfl (Nat.le_refl _) (Nat.le_refl _) (t_X0_has H O.1 ?_) 
          refine Rn.top (congrArg bi (hasB_nI (by omega))) ?_
          refine Rn.if_eqB (tgt := 65) dX1_agrees_39 rfl (by decide) (fun c39 => ?_) (fun c39 => ?_)
          · refine Rn.iincN dX1_agrees_65 rfl rfl (Nat.le_of_ble_eq_true rfl) ?_
            refine Rn.goto (tgt := 2) dX1_agrees_68 (by decide) ?_
            exact Rn.pick [2, 3, 4, 0] rfl (ih n (i + 1) (by omega) (by omega) (by rw [← h2]; exact (if_neg (fun z => by first | exact absurd z.1 (of_decide_eq_false c39) | exact z.2 c60)).symm))
          · refine Rn.iload_n dX1_agrees_42 rfl rfl ?_
            refine Rn.iload dX1_agrees_43 rfl rfl ?_
            refine Rn.aload_n dX1_agrees_45 rfl rfl ?_
            refine Rn.getf f_X1_15 dX1_agrees_46 rfl E.1 (Nat.lt_of_le_of_lt (Nat.le_of_ble_eq_true rfl) E.2.2.2.2) rfl ?_
            refine Rn.iload_n dX1_agrees_49 rfl rfl ?_
            refine Rn.ialdN dX1_agrees_50 rfl E.2.2.1 (Nat.lt_of_le_of_lt (Nat.le_of_ble_eq_true rfl) E.2.2.2.2) (by omega) (by omega) ?_
            refine Rn.top (show na sp i = nI (sp i) from rfl) ?_
            refine Rn.callSN (as := [_, _, _]) s_X4_stepsBehind n_X1_39 ⟨Nat.le_of_ble_eq_true rfl, Nat.le_of_ble_eq_true rfl⟩ dX1_agrees_51 rfl rfl (Nat.le_of_ble_eq_true rfl) (Nat.le_refl _) (Nat.le_refl _) (t_X4_stepsBehind ha (O.us (hsu i (by omega))).2.1 (by omega) ?_)
            have hb2 : bh (p (6 * su i + 1)) a (sp i) < 251 := bh_lt ha _
            refine Rn.aload_n dX1_agrees_54 rfl rfl ?_
            refine Rn.getf f_X1_18 dX1_agrees_55 rfl E.1 (Nat.lt_of_le_of_lt (Nat.le_of_ble_eq_true rfl) E.2.2.2.2) rfl ?_
            refine Rn.iload_n dX1_agrees_58 rfl rfl ?_
            refine Rn.ialdN dX1_agrees_59 rfl E.2.2.2.1 (Nat.lt_of_le_of_lt (Nat.le_of_ble_eq_true rfl) E.2.2.2.2) (by omega) (by omega) ?_
            refine Rn.top (show na sn i = nI (sn i) from rfl) ?_
            refine Rn.icmp_eqN (tgt := 65) dX1_agrees_60 rfl (by decide) (by omega) (by omega) (fun c60 => ?_) (fun c60 => ?_)
            · refine Rn.iincN dX1_agrees_65 rfl rfl (Nat.le_of_ble_eq_true rfl) ?_
              refine Rn.goto (tgt := 2) dX1_agrees_68 (by decide) ?_
              exact Rn.pick [2, 3, 4, 0] rfl (ih n (i + 1) (by omega) (by omega) (by rw [← h2]; exact (if_neg (fun z => by first | exact absurd z.1 (of_decide_eq_false c39) | exact z.2 c60)).symm))
            · refine Rn.iconst dX1_agrees_63 rfl ic_0 ?_
              refine Rn.zret dX1_agrees_64 rfl (by decide) rfl rfl ?_
              exact rn_fin k (by rw [← h2]; exact bi_f'.trans (congrArg (fun z => some (Value.int (bi z))) (if_pos ⟨of_decide_eq_true c39, c60⟩).symm)) rfl
  exact Rn.pick [1, 2, 3, 0] rfl (hloop (sz + 1) sz 0 (by omega) (by omega) rfl)
theorem t_X1_countSeeds {h : rHp} {Q : Option Value → rHp → Prop} {su sp sn : Nat → Nat} {sz : Nat} (E : Se h su sp sn sz) (hsz : sz ≤ 6) {p : Nat → Nat} (H : Hl h 3 p) (O : OKp p) (hsu : ∀ i, i < 6 → su i < 4) (hsp : ∀ i, i < 6 → sp i ≤ 29) (hsn : ∀ i, i < 6 → sn i < 251) (k : Q (some (.int (nI (cnt (agB p su sp sn sz) 251)))) h) : Cl M_X1_countSeeds h.1 h.2.1 [.ref 11, .ref 3] h Q := by
  refine Cl.of pl_X1 (Nat.le_of_ble_eq_true rfl) (by first | exact Nat.le_refl _ | omega) (by first | exact Nat.le_refl _ | omega) ?_
  refine Rn.iconst dX1_countSeeds_0 rfl ic_0 ?_
  refine Rn.istore_n dX1_countSeeds_1 rfl (Nat.le_of_ble_eq_true rfl) ?_
  refine Rn.iconst dX1_countSeeds_2 rfl ic_0 ?_
  refine Rn.istore_n dX1_countSeeds_3 rfl (Nat.le_of_ble_eq_true rfl) ?_
  have hloop : ∀ (m : Nat) (i : Nat), 251 - i < m → i ≤ 251 → Rn (M_X1_countSeeds, none, h.1, h.2.1) Q 4 [(0, .ref 11), (1, .ref 3), (2, .int (nI (cnt (agB p su sp sn sz) i))), (3, .int (nI i))] [] h := by
    intro m
    induction m with
    | zero => intro i h0 h1; exact absurd h0 (Nat.not_lt_zero _)
    | succ m ih =>
      intro i h0 h1
      have hc := cnt_le (agB p su sp sn sz) i
      refine Rn.iload_n dX1_countSeeds_4 rfl rfl ?_
      refine Rn.sipush dX1_countSeeds_5 rfl sp_251 ?_
      refine Rn.icmp_geN (tgt := 29) dX1_countSeeds_8 rfl (by decide) (by omega) (by omega) (fun c8 => ?_) (fun c8 => ?_)
      · refine Rn.iload_n dX1_countSeeds_29 rfl rfl ?_
        refine Rn.iret dX1_countSeeds_30 rfl rfl rfl ?_
        rw [show i = 251 by omega]
        exact k
      · refine Rn.aload_n dX1_countSeeds_11 rfl rfl ?_
        refine Rn.iload_n dX1_countSeeds_12 rfl rfl ?_
        refine Rn.aload_n dX1_countSeeds_13 rfl rfl ?_
        refine Rn.callV (as := [_, _]) v_X1_agrees l_X1_25 ⟨Nat.le_of_ble_eq_true rfl, Nat.le_of_ble_eq_true rfl⟩ dX1_countSeeds_14 rfl rfl (Nat.le_of_ble_eq_true rfl) E.1 (Nat.lt_of_le_of_lt (Nat.le_of_ble_eq_true rfl) E.2.2.2.2) rfl (Nat.le_refl _) (Nat.le_refl _) (t_X1_agrees E hsz H O hsu hsp hsn (by omega) ?_) 
        refine Rn.if_eqB (tgt := 23) dX1_countSeeds_17 rfl (by decide) (fun c17 => ?_) (fun c17 => ?_)
        · refine Rn.iincN dX1_countSeeds_23 rfl rfl (Nat.le_of_ble_eq_true rfl) ?_
          refine Rn.goto (tgt := 4) dX1_countSeeds_26 (by decide) ?_
          have ec := cnt_n c17
          have := ih (i + 1) (by omega) (by omega)
          rw [ec] at this
          exact Rn.pick [1, 2, 3, 0] rfl (this)
        · refine Rn.iincN dX1_countSeeds_20 rfl rfl (Nat.le_of_ble_eq_true rfl) ?_
          refine Rn.iincN dX1_countSeeds_23 rfl rfl (Nat.le_of_ble_eq_true rfl) ?_
          refine Rn.goto (tgt := 4) dX1_countSeeds_26 (by decide) ?_
          have ec := cnt_y c17
          have := ih (i + 1) (by omega) (by omega)
          rw [ec] at this
          exact Rn.pick [2, 3, 1, 0] rfl (this)
  exact Rn.pick [2, 3, 1, 0] rfl (hloop 252 0 (by omega) (by omega))
theorem t_X1_leastSeed {h : rHp} {Q : Option Value → rHp → Prop} {su sp sn : Nat → Nat} {sz : Nat} (E : Se h su sp sn sz) (hsz : sz ≤ 6) {p : Nat → Nat} (H : Hl h 3 p) (O : OKp p) (hsu : ∀ i, i < 6 → su i < 4) (hsp : ∀ i, i < 6 → sp i ≤ 29) (hsn : ∀ i, i < 6 → sn i < 251) (k : Q (some (.int (lsL (agB p su sp sn sz) 251 0))) h) : Cl M_X1_leastSeed h.1 h.2.1 [.ref 11, .ref 3] h Q := by
  refine Cl.of pl_X1 (Nat.le_of_ble_eq_true rfl) (by first | exact Nat.le_refl _ | omega) (by first | exact Nat.le_refl _ | omega) ?_
  refine Rn.iconst dX1_leastSeed_0 rfl ic_0 ?_
  refine Rn.istore_n dX1_leastSeed_1 rfl (Nat.le_of_ble_eq_true rfl) ?_
  have hloop : ∀ (m : Nat) (n i : Nat), n < m → i + n = 251 → lsL (agB p su sp sn sz) n i = lsL (agB p su sp sn sz) 251 0 → Rn (M_X1_leastSeed, none, h.1, h.2.1) Q 2 [(0, .ref 11), (1, .ref 3), (2, .int (nI i))] [] h := by
    intro m
    induction m with
    | zero => intro n i h0 h1 h2; exact absurd h0 (Nat.not_lt_zero _)
    | succ m ih =>
      intro n i h0 h1 h2
      refine Rn.iload_n dX1_leastSeed_2 rfl rfl ?_
      refine Rn.sipush dX1_leastSeed_3 rfl sp_251 ?_
      refine Rn.icmp_geN (tgt := 26) dX1_leastSeed_6 rfl (by decide) (by omega) (by omega) (fun c6 => ?_) (fun c6 => ?_)
      · obtain rfl : n = 0 := by omega
        refine Rn.bipush dX1_leastSeed_26 rfl bp_m9 ?_
        refine Rn.iret dX1_leastSeed_28 rfl rfl rfl ?_
        exact rn_fin k (by rw [← h2]; rfl) rfl
      · obtain ⟨n, rfl⟩ : ∃ n', n = n' + 1 := ⟨n - 1, by omega⟩
        refine Rn.aload_n dX1_leastSeed_9 rfl rfl ?_
        refine Rn.iload_n dX1_leastSeed_10 rfl rfl ?_
        refine Rn.aload_n dX1_leastSeed_11 rfl rfl ?_
        refine Rn.callV (as := [_, _]) v_X1_agrees l_X1_25 ⟨Nat.le_of_ble_eq_true rfl, Nat.le_of_ble_eq_true rfl⟩ dX1_leastSeed_12 rfl rfl (Nat.le_of_ble_eq_true rfl) E.1 (Nat.lt_of_le_of_lt (Nat.le_of_ble_eq_true rfl) E.2.2.2.2) rfl (Nat.le_refl _) (Nat.le_refl _) (t_X1_agrees E hsz H O hsu hsp hsn (by omega) ?_) 
        refine Rn.if_eqB (tgt := 20) dX1_leastSeed_15 rfl (by decide) (fun c15 => ?_) (fun c15 => ?_)
        · refine Rn.iincN dX1_leastSeed_20 rfl rfl (Nat.le_of_ble_eq_true rfl) ?_
          refine Rn.goto (tgt := 2) dX1_leastSeed_23 (by decide) ?_
          exact Rn.pick [1, 2, 0] rfl (ih n (i + 1) (by omega) (by omega) (by rw [← h2]; exact (if_neg (by rw [c15]; decide)).symm))
        · refine Rn.iload_n dX1_leastSeed_18 rfl rfl ?_
          refine Rn.iret dX1_leastSeed_19 rfl rfl rfl ?_
          exact rn_fin k (by rw [← h2]; exact congrArg (fun z => some (Value.int z)) (if_pos c15).symm) rfl
  exact Rn.pick [1, 2, 0] rfl (hloop 252 251 0 (by omega) (by omega) rfl)
theorem t_X3_append {h : rHp} {Q : Option Value → rHp → Prop} {t : Nat → Nat} {ln pl : Nat} (T : Tx h t ln pl) (hln : ln ≤ 80) {x : Nat} (k0 : ln = 80 → Q (some (.int (bi false))) h) (k : ln < 80 → Q (some (.int (bi true))) (tp (hs h 2 (.inl (80, na (un t ln x)))) (ln + 1) pl)) : Cl M_X3_append h.1 h.2.1 [.ref 1, .int (nI x)] h Q := by
  refine Cl.of pl_X3 (Nat.le_of_ble_eq_true rfl) (by first | exact Nat.le_refl _ | omega) (by first | exact Nat.le_refl _ | omega) ?_
  refine Rn.aload_n dX3_append_0 rfl rfl ?_
  refine Rn.getf f_X3_15 dX3_append_1 rfl T.1 T.2.2.1 rfl ?_
  refine Rn.if_ltN (tgt := 20) dX3_append_4 rfl (by decide) (by omega) (fun c4 => ?_) (fun c4 => ?_)
  · first | omega | exact False.elim c4
  · refine Rn.aload_n dX3_append_7 rfl rfl ?_
    refine Rn.getf f_X3_15 dX3_append_8 rfl T.1 T.2.2.1 rfl ?_
    refine Rn.bipush dX3_append_11 rfl bp_80 ?_
    refine Rn.icmp_geN (tgt := 20) dX3_append_13 rfl (by decide) (by omega) (by omega) (fun c13 => ?_) (fun c13 => ?_)
    · refine Rn.iconst dX3_append_20 rfl ic_0 ?_
      refine Rn.istore_n dX3_append_21 rfl (Nat.le_of_ble_eq_true rfl) ?_
      refine Rn.iload_n dX3_append_22 rfl rfl ?_
      refine Rn.if_eqN (tgt := 46) dX3_append_23 rfl (by decide) (by omega) (fun c23 => ?_) (fun c23 => ?_)
      · refine Rn.iload_n dX3_append_46 rfl rfl ?_
        refine Rn.zret dX3_append_47 rfl (by decide) rfl rfl ?_
        exact rn_fin (k0 (by omega)) bi_f' rfl
      · first | omega | exact False.elim c23
    · refine Rn.iconst dX3_append_16 rfl ic_1 ?_
      refine Rn.goto (tgt := 21) dX3_append_17 (by decide) ?_
      refine Rn.istore_n dX3_append_21 rfl (Nat.le_of_ble_eq_true rfl) ?_
      refine Rn.iload_n dX3_append_22 rfl rfl ?_
      refine Rn.if_eqN (tgt := 46) dX3_append_23 rfl (by decide) (by omega) (fun c23 => ?_) (fun c23 => ?_)
      · first | omega | exact False.elim c23
      · refine Rn.aload_n dX3_append_26 rfl rfl ?_
        refine Rn.getf f_X3_11 dX3_append_27 rfl T.1 T.2.2.1 rfl ?_
        refine Rn.aload_n dX3_append_30 rfl rfl ?_
        refine Rn.getf f_X3_15 dX3_append_31 rfl T.1 T.2.2.1 rfl ?_
        refine Rn.iload_n dX3_append_34 rfl rfl ?_
        refine Rn.iastN dX3_append_35 rfl T.2.1 T.2.2.2 (by omega) (by omega) ?_
        rw [upd_na]
        refine Rn.aload_n dX3_append_36 rfl rfl ?_
        refine Rn.dup dX3_append_37 rfl rfl ?_
        refine Rn.getf f_X3_15 dX3_append_38 rfl ((hs_ne _ _ (by decide)).trans T.1) T.2.2.1 rfl ?_
        refine Rn.iconst dX3_append_41 rfl ic_1 ?_
        refine Rn.iaddN dX3_append_42 rfl ?_
        refine Rn.putf p_X3_15 (fun h => by cases h) dX3_append_43 rfl ((hs_ne _ _ (by decide)).trans T.1) T.2.2.1 (fun g => ⟨rfl, rfl⟩) (Nat.le_of_ble_eq_true rfl) ?_
        refine Rn.iload_n dX3_append_46 rfl rfl ?_
        refine Rn.zret dX3_append_47 rfl (by decide) rfl rfl ?_
        exact rn_fin (k (by omega)) bi_t' rfl
