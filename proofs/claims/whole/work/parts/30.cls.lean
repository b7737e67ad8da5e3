/-! ===== switches; the class's own state; what its calls answer ===== -/
section RSW
variable {K : rK} {Q : Option Value → rHp → Prop} {pc pc' : Nat} {lv : List (Nat × Value)} {st : List Value} {h : rHp}
theorem Rn.tswR {dflt hi : Int} {offs : Array Int} {len n tgtD : Nat} {y : Int32} (hd : decode K.1.2.1 pc = .ok (.tableswitch dflt 0 hi offs, len)) (hhi : hi = (n : Int)) (hn : n < 2147483648) (htD : (pc : Int) + dflt = (tgtD : Int)) (kout : isW y (nI 0) (nI n) = false → Rn K Q tgtD lv st h) (kin : ∀ j, j ≤ n → y = nI j → ∃ (off : Int) (tgt : Nat), offs[j]? = some off ∧ (pc : Int) + off = (tgt : Int) ∧ Rn K Q tgt lv st h) : Rn K Q pc lv (.int y :: st) h := by
  subst hhi
  cases hy : isW y (nI 0) (nI n) with
  | false =>
    refine Rn.tabOut hd ?_ htD (kout hy)
    have h1 := of_decide_eq_false hy
    rw [nI_toInt hn, nI_toInt (by omega)] at h1
    omega
  | true =>
    obtain ⟨j, hj, e⟩ := isW_of hy hn
    obtain ⟨off, tgt, e1, e2, k⟩ := kin j hj e
    subst e
    have e3 : (nI j).toInt = (j : Int) := nI_toInt (by omega)
    exact Rn.tabIn hd (by rw [e3]; omega) (by rw [e3]; omega) (by rw [e3, show ((j : Int) - 0).toNat = j by omega]; exact e1) e2 k
theorem Rn.tswN {dflt lo hi : Int} {offs : Array Int} {len l0 n tgtD a : Nat} (hd : decode K.1.2.1 pc = .ok (.tableswitch dflt lo hi offs, len)) (hlo : lo = (l0 : Int)) (hhi : hi = (n : Int)) (ha : a < 2147483648) (htD : (pc : Int) + dflt = (tgtD : Int)) (kout : a < l0 ∨ n < a → Rn K Q tgtD lv st h) (kin : l0 ≤ a → a ≤ n → ∃ (off : Int) (tgt : Nat), offs[a - l0]? = some off ∧ (pc : Int) + off = (tgt : Int) ∧ Rn K Q tgt lv st h) : Rn K Q pc lv (.int (nI a) :: st) h := by
  subst hhi
  subst hlo
  have e3 : (nI a).toInt = (a : Int) := nI_toInt ha
  by_cases hy : a < l0 ∨ n < a
  · exact Rn.tabOut hd (by rw [e3]; omega) htD (kout hy)
  · obtain ⟨off, tgt, e1, e2, k⟩ := kin (by omega) (by omega)
    exact Rn.tabIn hd (by rw [e3]; omega) (by rw [e3]; omega) (by rw [e3, show ((a : Int) - (l0 : Int)).toNat = a - l0 by omega]; exact e1) e2 k
theorem Rn.lsw01 {dflt o0 o1 : Int} {len t0 t1 tD : Nat} {y : Int32} (hd : decode K.1.2.1 pc = .ok (.lookupswitch dflt #[(0, o0), (1, o1)], len)) (h0 : (pc : Int) + o0 = (t0 : Int)) (h1 : (pc : Int) + o1 = (t1 : Int)) (hD : (pc : Int) + dflt = (tD : Int)) (k0 : y = nI 0 → Rn K Q t0 lv st h) (k1 : y = nI 1 → Rn K Q t1 lv st h) (kD : isW y (nI 0) (nI 1) = false → Rn K Q tD lv st h) : Rn K Q pc lv (.int y :: st) h := by
  by_cases e0 : y = nI 0
  · refine Rn.look hd rfl ?_ h0 (k0 e0)
    rw [e0]; rfl
  · by_cases e1 : y = nI 1
    · refine Rn.look hd rfl ?_ h1 (k1 e1)
      rw [e1]; rfl
    · refine Rn.look hd rfl ?_ hD (kD ?_)
      · show Op.lookupswitch.offset [(0, o0), (1, o1)] dflt y.toInt = dflt
        rw [lv_osw e0 (show (nI 0).toInt = 0 by decide), lv_osw e1 (show (nI 1).toInt = 1 by decide)]; rfl
      · cases hw : isW y (nI 0) (nI 1) with
        | false => rfl
        | true =>
          obtain ⟨j, hj, e⟩ := isW_of hw (by omega)
          rcases (show j = 0 ∨ j = 1 by omega) with rfl | rfl
          · exact absurd e e0
          · exact absurd e e1
end RSW
theorem some_int {x y : Int32} (h : x = y) : some (Value.int x) = some (Value.int y) := by rw [h]
abbrev xn (x : Int32) : Nat := x.toNatClampNeg
theorem xn_nI {u : Nat} (h : u < 2147483648) : xn (nI u) = u := nI_clamp h
def Cx (h : rHp) (d : Int64) : Prop := h.2.2 0 = .inr (.inr (4, [.ref 1, .ref 3, .ref 5, .ref 7, .ref 11, .long d])) ∧ 0 < h.1
def RB (B : Nat → Int32) (a n : Nat) (U : Nat → Nat → Nat) : Prop := n < 14 ∧ a ≤ 14 ∧ ∀ j, j < a → ∀ i, i < 36 → B ((n + 14 - a + j) % 14 * 36 + i) = cl (U j) i
def pushU (U : Nat → Nat → Nat) (a : Nat) (p : Nat → Nat) : Nat → Nat → Nat := fun j => if a < 14 then (if j = a then p else U j) else (if j = 13 then p else U (j + 1))
def RK (KP IK : Nat → Int32) (Kp : Nat → Nat → Nat) (ik : Nat → Bool) : Prop := ∀ s, s ≤ 1 → IK s = bi (ik s) ∧ (ik s = true → ∀ i, i < 36 → KP (s * 36 + i) = cl (Kp s) i)
/-- the class's state: text, its length, the page, pages ahead of acts, how many, pages kept, which, what was seen (users, places, numbers, how much), the seed of days -/
def CI (h : rHp) (t : Nat → Nat) (ln : Nat) (p : Nat → Nat) (U : Nat → Nat → Nat) (a : Nat) (Kp : Nat → Nat → Nat) (ik : Nat → Bool) (su sp sn : Nat → Nat) (sz : Nat) (d : Int64) : Prop :=
  ∃ (pl : Nat) (pt : Nat → Nat) (B KP IK : Nat → Int32) (n : Nat), Cx h d ∧ Tx h t ln pl ∧ Hl h 3 p ∧ Hl h 5 pt ∧ Sh h B KP IK a n ∧ Se h su sp sn sz ∧ RB B a n U ∧ RK KP IK Kp ik
def OKs (t : Nat → Nat) (ln : Nat) (p : Nat → Nat) (U : Nat → Nat → Nat) (a : Nat) (Kp : Nat → Nat → Nat) (ik : Nat → Bool) (su sp sn : Nat → Nat) (sz : Nat) : Prop :=
  (∀ i, t i < 256) ∧ ln ≤ 80 ∧ OKp p ∧ (∀ j, j < a → OKp (U j)) ∧ (∀ s, s ≤ 1 → ik s = true → OKp (Kp s)) ∧ sz ≤ 6 ∧ (∀ i, i < 6 → su i < 4) ∧ (∀ i, i < 6 → sp i ≤ 29) ∧ (∀ i, i < 6 → sn i < 251)
/-- what the class leaves as it is -/
def Fr (h h' : rHp) : Prop := h'.1 = h.1 ∧ h'.2.1 = h.2.1 ∧ ∀ i, 15 ≤ i → h'.2.2 i = h.2.2 i
theorem Fr.rf (h : rHp) : Fr h h := ⟨rfl, rfl, fun _ _ => rfl⟩
theorem Fr.hs {h h' : rHp} (F : Fr h h') {i : Nat} (c : rCell) (hi : i < 15) : Fr h (hs h' i c) := ⟨F.1, F.2.1, fun j hj => (hs_ne h' c (by omega)).trans (F.2.2 j hj)⟩
theorem Cx.other {h : rHp} {d : Int64} {i : Nat} {c : rCell} (C : Cx h d) (h1 : 0 ≠ i) : Cx (hs h i c) d := ⟨(hs_ne h _ h1).trans C.1, C.2⟩
theorem Sh.other {h : rHp} {B KP IK : Nat → Int32} {a n i : Nat} {c : rCell} (S : Sh h B KP IK a n) (h1 : i < 7 ∨ 10 < i) : Sh (hs h i c) B KP IK a n := ⟨(hs_ne h _ (by omega)).trans S.1, (hs_ne h _ (by omega)).trans S.2.1, (hs_ne h _ (by omega)).trans S.2.2.1, (hs_ne h _ (by omega)).trans S.2.2.2.1, S.2.2.2.2⟩
theorem Se.other {h : rHp} {su sp sn : Nat → Nat} {sz i : Nat} {c : rCell} (E : Se h su sp sn sz) (h1 : i < 11 ∨ 14 < i) : Se (hs h i c) su sp sn sz := ⟨(hs_ne h _ (by omega)).trans E.1, (hs_ne h _ (by omega)).trans E.2.1, (hs_ne h _ (by omega)).trans E.2.2.1, (hs_ne h _ (by omega)).trans E.2.2.2.1, E.2.2.2.2⟩
def usK (p : Nat → Nat) (u : Nat) : Nat → Int32
  | 6 => bi (stp p u)
  | 7 => bi (decide (p (6 * u + 5) ≤ 3))
  | 8 => gpL p u (p (6 * u + 3)) 0
  | 9 => nI (tlN (p (6 * u + 1)) (p (6 * u)))
  | 10 => nI (rtN (p (6 * u + 1)) (bh (p (6 * u + 1)) (p (6 * u)) (tlN (p (6 * u + 1)) (p (6 * u)))))
  | k => nI (p (6 * u + k))
def usI (p : Nat → Nat) (x y : Int32) : Int32 := if hasB (p 24) x then (if isW y (nI 0) (nI 10) then usK p (xn x) (xn y) else -2) else -1
def paI (p : Nat → Nat) (x i : Int32) : Int32 := if hasB (p 24) x then (if hasB (p (6 * xn x + 2)) i then nI (psP p (xn x) (xn i)) else -9) else -1
def beI (v s k : Int32) : Int32 := if isW v (nI 0) (nI 250) && (isW s (nI 0) (nI 250) && isW k (nI 0) (nI 99)) then nI (bh (xn s) (xn v) (xn k)) else -2
def fiI (p : Nat → Nat) (x v : Int32) : Int32 := if hasB (p 24) x then (if isW v (nI 0) (nI 250) then nI (fitP p (xn x) (xn v)) else -2) else -1
def ftI (p : Nat → Nat) (x y : Int32) : Int32 := if hasB (p 24) x then (if isW y (nI 0) (nI 1) then (if y = nI 0 then nI (cnt (fB p (xn x)) 251) else lsL (fB p (xn x)) 251 0) else -2) else -1
def thI (p : Nat → Nat) (x : Int32) : Int32 := if hasB (p 24) x then wi (stL p (xn x) 8 0 0) else -1
def whI (p su sp sn : Nat → Nat) (sz : Nat) (y : Int32) : Int32 := if isW y (nI 0) (nI 1) then (if y = nI 0 then nI (cnt (agB p su sp sn sz) 251) else lsL (agB p su sp sn sz) 251 0) else -2
def coK (ln : Nat) (p : Nat → Nat) (a sz : Nat) : Nat → Int32
  | 0 => nI ln
  | 1 => nI (p 24)
  | 2 => nI (p 25)
  | 3 => wi (p 26)
  | 4 => nI (p 27)
  | 5 => nI a
  | _ => nI sz
def coI (ln : Nat) (p : Nat → Nat) (a sz : Nat) (y : Int32) : Int32 := if isW y (nI 0) (nI 6) then coK ln p a sz (xn y) else -2
theorem t_X4_pass {h : rHp} {Q : Option Value → rHp → Prop} {t : Nat → Nat} {ln : Nat} {p : Nat → Nat} {U : Nat → Nat → Nat} {a : Nat} {Kp : Nat → Nat → Nat} {ik : Nat → Bool} {su sp sn : Nat → Nat} {sz : Nat} {d : Int64} (I : CI h t ln p U a Kp ik su sp sn sz d) (O : OKs t ln p U a Kp ik su sp sn sz) {x i : Int32} (k : Q (some (.int (paI p x i))) h) : Cl M_X4_pass h.1 h.2.1 [.ref 0, .int x, .int i] h Q := by
  obtain ⟨pl, pt, B, KP, IK, n, C, T, H, G, S, E, RBh, RKh⟩ := id I
  obtain ⟨Ot, Oln, Op, OU, OK2, Osz, Osu, Osp, Osn⟩ := id O
  refine Cl.of pl_X4 (Nat.le_of_ble_eq_true rfl) (by first | exact Nat.le_refl _ | omega) (by first | exact Nat.le_refl _ | omega) ?_
  refine Rn.aload_n dX4_pass_0 rfl rfl ?_
  refine Rn.getf f_X4_19 dX4_pass_1 rfl C.1 C.2 rfl ?_
  refine Rn.iload_n dX4_pass_4 rfl rfl ?_
  refine Rn.callV (as := [_]) v_X0_has l_X4_67 ⟨Nat.le_of_ble_eq_true rfl, Nat.le_of_ble_eq_true rfl⟩ dX4_pass_5 rfl rfl (Nat.le_of_ble_eq_true rfl) H.1 H.2.2.1 rfl (Nat.le_refl _) (Nat.le_refl _) (t_X0_has H Op.1 ?_) 
  refine Rn.if_neB (tgt := 13) dX4_pass_8 rfl (by decide) (fun c8 => ?_) (fun c8 => ?_)
  · obtain ⟨u, hu, rfl⟩ := hasB_of c8
    have hu4 : u < 4 := by have := Op.1; omega
    refine Rn.iload_n dX4_pass_13 rfl rfl ?_
    refine Rn.if_lt (tgt := 42) dX4_pass_14 rfl (by decide) (fun c14 => ?_) (fun c14 => ?_)
    · refine Rn.bipush dX4_pass_42 rfl bp_m9 ?_
      refine Rn.iret dX4_pass_44 rfl rfl rfl ?_
      first | exact rn_fin k (some_int (by unfold paI; rw [c8, xn_nI (by omega), hasB_neg c14]; rfl)) rfl | exact rn_fin k (some_int (by unfold paI; rw [c8, xn_nI (by omega), hasB_big c27 (by omega)]; rfl)) rfl | exact rn_fin k (some_int (by unfold paI; rw [c8, xn_nI (by omega), xn_nI (by omega), hasB_nI (by omega), decide_eq_true hj]; rfl)) rfl
    · refine Rn.iload_n dX4_pass_17 rfl rfl ?_
      refine Rn.aload_n dX4_pass_18 rfl rfl ?_
      refine Rn.getf f_X4_19 dX4_pass_19 rfl C.1 C.2 rfl ?_
      refine Rn.iload_n dX4_pass_22 rfl rfl ?_
      refine Rn.iconst dX4_pass_23 rfl ic_2 ?_
      refine Rn.callV (as := [_, _]) v_X0_of l_X4_70 ⟨Nat.le_of_ble_eq_true rfl, Nat.le_of_ble_eq_true rfl⟩ dX4_pass_24 rfl rfl (Nat.le_of_ble_eq_true rfl) H.1 H.2.2.1 rfl (Nat.le_refl _) (Nat.le_refl _) (t_X0_of H hu4 (by omega) ?_) 
      have hN := (Op.us hu4).2.2.1
      refine Rn.icmp_ge (tgt := 42) dX4_pass_27 rfl (by decide) (fun c27 => ?_) (fun c27 => ?_)
      · refine Rn.bipush dX4_pass_42 rfl bp_m9 ?_
        refine Rn.iret dX4_pass_44 rfl rfl rfl ?_
        first | exact rn_fin k (some_int (by unfold paI; rw [c8, xn_nI (by omega), hasB_neg c14]; rfl)) rfl | exact rn_fin k (some_int (by unfold paI; rw [c8, xn_nI (by omega), hasB_big c27 (by omega)]; rfl)) rfl | exact rn_fin k (some_int (by unfold paI; rw [c8, xn_nI (by omega), xn_nI (by omega), hasB_nI (by omega), decide_eq_true hj]; rfl)) rfl
      · have hN := (Op.us hu4).2.2.1
        obtain ⟨j, hj, rfl⟩ := hasB_of (hasB_ok c14 c27 (by omega))
        refine Rn.aload_n dX4_pass_30 rfl rfl ?_
        refine Rn.getf f_X4_19 dX4_pass_31 rfl C.1 C.2 rfl ?_
        refine Rn.iload_n dX4_pass_34 rfl rfl ?_
        refine Rn.iload_n dX4_pass_35 rfl rfl ?_
        refine Rn.callV (as := [_, _]) v_X0_passOf l_X4_90 ⟨Nat.le_of_ble_eq_true rfl, Nat.le_of_ble_eq_true rfl⟩ dX4_pass_36 rfl rfl (Nat.le_of_ble_eq_true rfl) H.1 H.2.2.1 rfl (Nat.le_refl _) (Nat.le_refl _) (t_X0_passOf H Op hu4 (by omega) ?_) 
        refine Rn.goto (tgt := 44) dX4_pass_39 (by decide) ?_
        refine Rn.iret dX4_pass_44 rfl rfl rfl ?_
        first | exact rn_fin k (some_int (by unfold paI; rw [c8, xn_nI (by omega), hasB_neg c14]; rfl)) rfl | exact rn_fin k (some_int (by unfold paI; rw [c8, xn_nI (by omega), hasB_big c27 (by omega)]; rfl)) rfl | exact rn_fin k (some_int (by unfold paI; rw [c8, xn_nI (by omega), xn_nI (by omega), hasB_nI (by omega), decide_eq_true hj]; rfl)) rfl
  · refine Rn.iconst dX4_pass_11 rfl ic_m1 ?_
    refine Rn.iret dX4_pass_12 rfl rfl rfl ?_
    exact rn_fin k (some_int (by unfold paI; rw [c8]; rfl)) rfl
theorem t_X4_behind {h : rHp} {Q : Option Value → rHp → Prop} {t : Nat → Nat} {ln : Nat} {p : Nat → Nat} {U : Nat → Nat → Nat} {a : Nat} {Kp : Nat → Nat → Nat} {ik : Nat → Bool} {su sp sn : Nat → Nat} {sz : Nat} {d : Int64} (I : CI h t ln p U a Kp ik su sp sn sz d) (O : OKs t ln p U a Kp ik su sp sn sz) {v s kk : Int32} (k : Q (some (.int (beI v s kk))) h) : Cl M_X4_behind h.1 h.2.1 [.ref 0, .int v, .int s, .int kk] h Q := by
  obtain ⟨pl, pt, B, KP, IK, n, C, T, H, G, S, E, RBh, RKh⟩ := id I
  obtain ⟨Ot, Oln, Op, OU, OK2, Osz, Osu, Osp, Osn⟩ := id O
  refine Cl.of pl_X4 (Nat.le_of_ble_eq_true rfl) (by first | exact Nat.le_refl _ | omega) (by first | exact Nat.le_refl _ | omega) ?_
  refine Rn.iload_n dX4_behind_0 rfl rfl ?_
  refine Rn.callS (as := [_]) s_X4_isNumber l_X4_93 ⟨Nat.le_of_ble_eq_true rfl, Nat.le_of_ble_eq_true rfl⟩ dX4_behind_1 rfl rfl (Nat.le_of_ble_eq_true rfl) (Nat.le_refl _) (Nat.le_refl _) (t_X4_isNumber ?_)
  refine Rn.if_eqB (tgt := 24) dX4_behind_4 rfl (by decide) (fun c4 => ?_) (fun c4 => ?_)
  · refine Rn.bipush dX4_behind_24 rfl bp_m2 ?_
    refine Rn.iret dX4_behind_26 rfl rfl rfl ?_
    first | exact rn_fin k (some_int (by unfold beI; rw [c4]; rfl)) rfl | exact rn_fin k (some_int (by unfold beI; rw [c11, Bool.false_and, Bool.and_false]; rfl)) rfl | exact rn_fin k (some_int (by unfold beI; rw [c21, Bool.and_false, Bool.and_false]; rfl)) rfl
  · refine Rn.iload_n dX4_behind_7 rfl rfl ?_
    refine Rn.callS (as := [_]) s_X4_isNumber l_X4_93 ⟨Nat.le_of_ble_eq_true rfl, Nat.le_of_ble_eq_true rfl⟩ dX4_behind_8 rfl rfl (Nat.le_of_ble_eq_true rfl) (Nat.le_refl _) (Nat.le_refl _) (t_X4_isNumber ?_)
    refine Rn.if_eqB (tgt := 24) dX4_behind_11 rfl (by decide) (fun c11 => ?_) (fun c11 => ?_)
    · refine Rn.bipush dX4_behind_24 rfl bp_m2 ?_
      refine Rn.iret dX4_behind_26 rfl rfl rfl ?_
      first | exact rn_fin k (some_int (by unfold beI; rw [c4]; rfl)) rfl | exact rn_fin k (some_int (by unfold beI; rw [c11, Bool.false_and, Bool.and_false]; rfl)) rfl | exact rn_fin k (some_int (by unfold beI; rw [c21, Bool.and_false, Bool.and_false]; rfl)) rfl
    · refine Rn.iload_n dX4_behind_14 rfl rfl ?_
      refine Rn.iconst dX4_behind_15 rfl ic_0 ?_
      refine Rn.bipush dX4_behind_16 rfl bp_99 ?_
      refine Rn.callS (as := [_, _, _]) s_X4_isWithin l_X4_96 ⟨Nat.le_of_ble_eq_true rfl, Nat.le_of_ble_eq_true rfl⟩ dX4_behind_18 rfl rfl (Nat.le_of_ble_eq_true rfl) (Nat.le_refl _) (Nat.le_refl _) (t_X4_isWithin ?_)
      refine Rn.if_neB (tgt := 27) dX4_behind_21 rfl (by decide) (fun c21 => ?_) (fun c21 => ?_)
      · have e0 : beI v s kk = nI (bh (xn s) (xn v) (xn kk)) := by unfold beI; rw [c4, c11, c21]; rfl
        rw [e0] at k
        obtain ⟨x1, hx1, rfl⟩ := isW_of c4 (by omega)
        obtain ⟨x2, hx2, rfl⟩ := isW_of c11 (by omega)
        obtain ⟨x3, hx3, rfl⟩ := isW_of c21 (by omega)
        rw [xn_nI (by omega), xn_nI (by omega), xn_nI (by omega)] at k
        refine Rn.iload_n dX4_behind_27 rfl rfl ?_
        refine Rn.iload_n dX4_behind_28 rfl rfl ?_
        refine Rn.iload_n dX4_behind_29 rfl rfl ?_
        refine Rn.callS (as := [_, _, _]) s_X4_stepsBehind l_X4_100 ⟨Nat.le_of_ble_eq_true rfl, Nat.le_of_ble_eq_true rfl⟩ dX4_behind_30 rfl rfl (Nat.le_of_ble_eq_true rfl) (Nat.le_refl _) (Nat.le_refl _) (t_X4_stepsBehind (by omega) (by omega) (by omega) ?_)
        refine Rn.iret dX4_behind_33 rfl rfl rfl ?_
        exact k
      · refine Rn.bipush dX4_behind_24 rfl bp_m2 ?_
        refine Rn.iret dX4_behind_26 rfl rfl rfl ?_
        first | exact rn_fin k (some_int (by unfold beI; rw [c4]; rfl)) rfl | exact rn_fin k (some_int (by unfold beI; rw [c11, Bool.false_and, Bool.and_false]; rfl)) rfl | exact rn_fin k (some_int (by unfold beI; rw [c21, Bool.and_false, Bool.and_false]; rfl)) rfl
theorem t_X4_fits {h : rHp} {Q : Option Value → rHp → Prop} {t : Nat → Nat} {ln : Nat} {p : Nat → Nat} {U : Nat → Nat → Nat} {a : Nat} {Kp : Nat → Nat → Nat} {ik : Nat → Bool} {su sp sn : Nat → Nat} {sz : Nat} {d : Int64} (I : CI h t ln p U a Kp ik su sp sn sz d) (O : OKs t ln p U a Kp ik su sp sn sz) {x v : Int32} (k : Q (some (.int (fiI p x v))) h) : Cl M_X4_fits h.1 h.2.1 [.ref 0, .int x, .int v] h Q := by
  obtain ⟨pl, pt, B, KP, IK, n, C, T, H, G, S, E, RBh, RKh⟩ := id I
  obtain ⟨Ot, Oln, Op, OU, OK2, Osz, Osu, Osp, Osn⟩ := id O
  refine Cl.of pl_X4 (Nat.le_of_ble_eq_true rfl) (by first | exact Nat.le_refl _ | omega) (by first | exact Nat.le_refl _ | omega) ?_
  refine Rn.aload_n dX4_fits_0 rfl rfl ?_
  refine Rn.getf f_X4_19 dX4_fits_1 rfl C.1 C.2 rfl ?_
  refine Rn.iload_n dX4_fits_4 rfl rfl ?_
  refine Rn.callV (as := [_]) v_X0_has l_X4_67 ⟨Nat.le_of_ble_eq_true rfl, Nat.le_of_ble_eq_true rfl⟩ dX4_fits_5 rfl rfl (Nat.le_of_ble_eq_true rfl) H.1 H.2.2.1 rfl (Nat.le_refl _) (Nat.le_refl _) (t_X0_has H Op.1 ?_) 
  refine Rn.if_neB (tgt := 13) dX4_fits_8 rfl (by decide) (fun c8 => ?_) (fun c8 => ?_)
  · obtain ⟨u, hu, rfl⟩ := hasB_of c8
    have hu4 : u < 4 := by have := Op.1; omega
    refine Rn.iload_n dX4_fits_13 rfl rfl ?_
    refine Rn.callS (as := [_]) s_X4_isNumber l_X4_93 ⟨Nat.le_of_ble_eq_true rfl, Nat.le_of_ble_eq_true rfl⟩ dX4_fits_14 rfl rfl (Nat.le_of_ble_eq_true rfl) (Nat.le_refl _) (Nat.le_refl _) (t_X4_isNumber ?_)
    refine Rn.if_eqB (tgt := 32) dX4_fits_17 rfl (by decide) (fun c17 => ?_) (fun c17 => ?_)
    · refine Rn.bipush dX4_fits_32 rfl bp_m2 ?_
      refine Rn.iret dX4_fits_34 rfl rfl rfl ?_
      exact rn_fin k (some_int (by unfold fiI; rw [c8, c17]; rfl)) rfl
    · have e0 : fiI p (nI u) v = nI (fitP p u (xn v)) := by unfold fiI; rw [c8, c17, xn_nI (by omega)]; rfl
      rw [e0] at k
      obtain ⟨y, hy, rfl⟩ := isW_of c17 (by omega)
      rw [xn_nI (by omega)] at k
      refine Rn.aload_n dX4_fits_20 rfl rfl ?_
      refine Rn.getf f_X4_19 dX4_fits_21 rfl C.1 C.2 rfl ?_
      refine Rn.iload_n dX4_fits_24 rfl rfl ?_
      refine Rn.iload_n dX4_fits_25 rfl rfl ?_
      refine Rn.callV (as := [_, _]) v_X0_fitOf l_X4_149 ⟨Nat.le_of_ble_eq_true rfl, Nat.le_of_ble_eq_true rfl⟩ dX4_fits_26 rfl rfl (Nat.le_of_ble_eq_true rfl) H.1 H.2.2.1 rfl (Nat.le_refl _) (Nat.le_refl _) (t_X0_fitOf H Op hu4 (by omega) ?_) 
      refine Rn.goto (tgt := 34) dX4_fits_29 (by decide) ?_
      refine Rn.iret dX4_fits_34 rfl rfl rfl ?_
      exact k
  · refine Rn.iconst dX4_fits_11 rfl ic_m1 ?_
    refine Rn.iret dX4_fits_12 rfl rfl rfl ?_
    exact rn_fin k (some_int (by unfold fiI; rw [c8]; rfl)) rfl
theorem t_X4_fitting {h : rHp} {Q : Option Value → rHp → Prop} {t : Nat → Nat} {ln : Nat} {p : Nat → Nat} {U : Nat → Nat → Nat} {a : Nat} {Kp : Nat → Nat → Nat} {ik : Nat → Bool} {su sp sn : Nat → Nat} {sz : Nat} {d : Int64} (I : CI h t ln p U a Kp ik su sp sn sz d) (O : OKs t ln p U a Kp ik su sp sn sz) {x y : Int32} (k : Q (some (.int (ftI p x y))) h) : Cl M_X4_fitting h.1 h.2.1 [.ref 0, .int x, .int y] h Q := by
  obtain ⟨pl, pt, B, KP, IK, n, C, T, H, G, S, E, RBh, RKh⟩ := id I
  obtain ⟨Ot, Oln, Op, OU, OK2, Osz, Osu, Osp, Osn⟩ := id O
  refine Cl.of pl_X4 (Nat.le_of_ble_eq_true rfl) (by first | exact Nat.le_refl _ | omega) (by first | exact Nat.le_refl _ | omega) ?_
  refine Rn.aload_n dX4_fitting_0 rfl rfl ?_
  refine Rn.getf f_X4_19 dX4_fitting_1 rfl C.1 C.2 rfl ?_
  refine Rn.iload_n dX4_fitting_4 rfl rfl ?_
  refine Rn.callV (as := [_]) v_X0_has l_X4_67 ⟨Nat.le_of_ble_eq_true rfl, Nat.le_of_ble_eq_true rfl⟩ dX4_fitting_5 rfl rfl (Nat.le_of_ble_eq_true rfl) H.1 H.2.2.1 rfl (Nat.le_refl _) (Nat.le_refl _) (t_X0_has H Op.1 ?_) 
  refine Rn.if_neB (tgt := 13) dX4_fitting_8 rfl (by decide) (fun c8 => ?_) (fun c8 => ?_)
  · obtain ⟨u, hu, rfl⟩ := hasB_of c8
    have hu4 : u < 4 := by have := Op.1; omega
    refine Rn.iload_n dX4_fitting_13 rfl rfl ?_
    refine Rn.lsw01 (t0 := 40) (t1 := 49) (tD := 58) dX4_fitting_14 (by decide) (by decide) (by decide) (fun ey => ?_) (fun ey => ?_) (fun cy => ?_)
    · subst ey
      refine Rn.aload_n dX4_fitting_40 rfl rfl ?_
      refine Rn.getf f_X4_19 dX4_fitting_41 rfl C.1 C.2 rfl ?_
      refine Rn.iload_n dX4_fitting_44 rfl rfl ?_
      refine Rn.callV (as := [_]) v_X0_countFitting l_X4_152 ⟨Nat.le_of_ble_eq_true rfl, Nat.le_of_ble_eq_true rfl⟩ dX4_fitting_45 rfl rfl (Nat.le_of_ble_eq_true rfl) H.1 H.2.2.1 rfl (Nat.le_refl _) (Nat.le_refl _) (t_X0_countFitting H Op hu4 ?_) 
      refine Rn.iret dX4_fitting_48 rfl rfl rfl ?_
      exact rn_fin k (some_int (by unfold ftI; rw [c8, xn_nI (by omega)]; rfl)) rfl
    · subst ey
      refine Rn.aload_n dX4_fitting_49 rfl rfl ?_
      refine Rn.getf f_X4_19 dX4_fitting_50 rfl C.1 C.2 rfl ?_
      refine Rn.iload_n dX4_fitting_53 rfl rfl ?_
      refine Rn.callV (as := [_]) v_X0_leastFitting l_X4_155 ⟨Nat.le_of_ble_eq_true rfl, Nat.le_of_ble_eq_true rfl⟩ dX4_fitting_54 rfl rfl (Nat.le_of_ble_eq_true rfl) H.1 H.2.2.1 rfl (Nat.le_refl _) (Nat.le_refl _) (t_X0_leastFitting H Op hu4 ?_) 
      refine Rn.iret dX4_fitting_57 rfl rfl rfl ?_
      exact rn_fin k (some_int (by unfold ftI; rw [c8, xn_nI (by omega)]; rfl)) rfl
    · refine Rn.bipush dX4_fitting_58 rfl bp_m2 ?_
      refine Rn.iret dX4_fitting_60 rfl rfl rfl ?_
      exact rn_fin k (some_int (by unfold ftI; rw [c8, cy]; rfl)) rfl
  · refine Rn.iconst dX4_fitting_11 rfl ic_m1 ?_
    refine Rn.iret dX4_fitting_12 rfl rfl rfl ?_
    exact rn_fin k (some_int (by unfold ftI; rw [c8]; rfl)) rfl
theorem t_X4_thief {h : rHp} {Q : Option Value → rHp → Prop} {t : Nat → Nat} {ln : Nat} {p : Nat → Nat} {U : Nat → Nat → Nat} {a : Nat} {Kp : Nat → Nat → Nat} {ik : Nat → Bool} {su sp sn : Nat → Nat} {sz : Nat} {d : Int64} (I : CI h t ln p U a Kp ik su sp sn sz d) (O : OKs t ln p U a Kp ik su sp sn sz) {x : Int32} (k : Q (some (.int (thI p x))) h) : Cl M_X4_thief h.1 h.2.1 [.ref 0, .int x] h Q := by
  obtain ⟨pl, pt, B, KP, IK, n, C, T, H, G, S, E, RBh, RKh⟩ := id I
  obtain ⟨Ot, Oln, Op, OU, OK2, Osz, Osu, Osp, Osn⟩ := id O
  refine Cl.of pl_X4 (Nat.le_of_ble_eq_true rfl) (by first | exact Nat.le_refl _ | omega) (by first | exact Nat.le_refl _ | omega) ?_
  refine Rn.aload_n dX4_thief_0 rfl rfl ?_
  refine Rn.getf f_X4_19 dX4_thief_1 rfl C.1 C.2 rfl ?_
  refine Rn.iload_n dX4_thief_4 rfl rfl ?_
  refine Rn.callV (as := [_]) v_X0_has l_X4_67 ⟨Nat.le_of_ble_eq_true rfl, Nat.le_of_ble_eq_true rfl⟩ dX4_thief_5 rfl rfl (Nat.le_of_ble_eq_true rfl) H.1 H.2.2.1 rfl (Nat.le_refl _) (Nat.le_refl _) (t_X0_has H Op.1 ?_) 
  refine Rn.if_eqB (tgt := 22) dX4_thief_8 rfl (by decide) (fun c8 => ?_) (fun c8 => ?_)
  · refine Rn.iconst dX4_thief_22 rfl ic_m1 ?_
    refine Rn.iret dX4_thief_23 rfl rfl rfl ?_
    first | exact rn_fin k (some_int (by unfold thI; rw [c8, xn_nI (by omega)]; rfl)) rfl | exact rn_fin k (some_int (by unfold thI; rw [c8]; rfl)) rfl
  · obtain ⟨u, hu, rfl⟩ := hasB_of c8
    have hu4 : u < 4 := by have := Op.1; omega
    refine Rn.aload_n dX4_thief_11 rfl rfl ?_
    refine Rn.getf f_X4_19 dX4_thief_12 rfl C.1 C.2 rfl ?_
    refine Rn.iload_n dX4_thief_15 rfl rfl ?_
    refine Rn.callV (as := [_]) v_X0_leastStolen l_X4_158 ⟨Nat.le_of_ble_eq_true rfl, Nat.le_of_ble_eq_true rfl⟩ dX4_thief_16 rfl rfl (Nat.le_of_ble_eq_true rfl) H.1 H.2.2.1 rfl (Nat.le_refl _) (Nat.le_refl _) (t_X0_leastStolen H Op hu4 ?_) 
    refine Rn.goto (tgt := 23) dX4_thief_19 (by decide) ?_
    refine Rn.iret dX4_thief_23 rfl rfl rfl ?_
    first | exact rn_fin k (some_int (by unfold thI; rw [c8, xn_nI (by omega)]; rfl)) rfl | exact rn_fin k (some_int (by unfold thI; rw [c8]; rfl)) rfl
theorem t_X4_heard {h : rHp} {Q : Option Value → rHp → Prop} {t : Nat → Nat} {ln : Nat} {p : Nat → Nat} {U : Nat → Nat → Nat} {a : Nat} {Kp : Nat → Nat → Nat} {ik : Nat → Bool} {su sp sn : Nat → Nat} {sz : Nat} {d : Int64} (I : CI h t ln p U a Kp ik su sp sn sz d) (O : OKs t ln p U a Kp ik su sp sn sz) {x : Int32} (k : Q (some (.int (hdI p x))) h) : Cl M_X4_heard h.1 h.2.1 [.ref 0, .int x] h Q := by
  obtain ⟨pl, pt, B, KP, IK, n, C, T, H, G, S, E, RBh, RKh⟩ := id I
  obtain ⟨Ot, Oln, Op, OU, OK2, Osz, Osu, Osp, Osn⟩ := id O
  refine Cl.of pl_X4 (Nat.le_of_ble_eq_true rfl) (by first | exact Nat.le_refl _ | omega) (by first | exact Nat.le_refl _ | omega) ?_
  refine Rn.aload_n dX4_heard_0 rfl rfl ?_
  refine Rn.getf f_X4_19 dX4_heard_1 rfl C.1 C.2 rfl ?_
  refine Rn.iload_n dX4_heard_4 rfl rfl ?_
  refine Rn.callV (as := [_]) v_X0_heardAt l_X4_161 ⟨Nat.le_of_ble_eq_true rfl, Nat.le_of_ble_eq_true rfl⟩ dX4_heard_5 rfl rfl (Nat.le_of_ble_eq_true rfl) H.1 H.2.2.1 rfl (Nat.le_refl _) (Nat.le_refl _) (t_X0_heardAt H Op ?_) 
  refine Rn.iret dX4_heard_8 rfl rfl rfl ?_
  exact k
theorem t_X4_which {h : rHp} {Q : Option Value → rHp → Prop} {t : Nat → Nat} {ln : Nat} {p : Nat → Nat} {U : Nat → Nat → Nat} {a : Nat} {Kp : Nat → Nat → Nat} {ik : Nat → Bool} {su sp sn : Nat → Nat} {sz : Nat} {d : Int64} (I : CI h t ln p U a Kp ik su sp sn sz d) (O : OKs t ln p U a Kp ik su sp sn sz) {y : Int32} (k : Q (some (.int (whI p su sp sn sz y))) h) : Cl M_X4_which h.1 h.2.1 [.ref 0, .int y] h Q := by
  obtain ⟨pl, pt, B, KP, IK, n, C, T, H, G, S, E, RBh, RKh⟩ := id I
  obtain ⟨Ot, Oln, Op, OU, OK2, Osz, Osu, Osp, Osn⟩ := id O
  refine Cl.of pl_X4 (Nat.le_of_ble_eq_true rfl) (by first | exact Nat.le_refl _ | omega) (by first | exact Nat.le_refl _ | omega) ?_
  refine Rn.iload_n dX4_which_0 rfl rfl ?_
  refine Rn.lsw01 (t0 := 28) (t1 := 40) (tD := 52) dX4_which_1 (by decide) (by decide) (by decide) (fun ey => ?_) (fun ey => ?_) (fun cy => ?_)
  · subst ey
    refine Rn.aload_n dX4_which_28 rfl rfl ?_
    refine Rn.getf f_X4_36 dX4_which_29 rfl C.1 C.2 rfl ?_
    refine Rn.aload_n dX4_which_32 rfl rfl ?_
    refine Rn.getf f_X4_19 dX4_which_33 rfl C.1 C.2 rfl ?_
    refine Rn.callV (as := [_]) v_X1_countSeeds l_X4_179 ⟨Nat.le_of_ble_eq_true rfl, Nat.le_of_ble_eq_true rfl⟩ dX4_which_36 rfl rfl (Nat.le_of_ble_eq_true rfl) E.1 (Nat.lt_of_le_of_lt (Nat.le_of_ble_eq_true rfl) E.2.2.2.2) rfl (Nat.le_refl _) (Nat.le_refl _) (t_X1_countSeeds E Osz H Op Osu Osp Osn ?_) 
    refine Rn.iret dX4_which_39 rfl rfl rfl ?_
    exact k
  · subst ey
    refine Rn.aload_n dX4_which_40 rfl rfl ?_
    refine Rn.getf f_X4_36 dX4_which_41 rfl C.1 C.2 rfl ?_
    refine Rn.aload_n dX4_which_44 rfl rfl ?_
    refine Rn.getf f_X4_19 dX4_which_45 rfl C.1 C.2 rfl ?_
    refine Rn.callV (as := [_]) v_X1_leastSeed l_X4_182 ⟨Nat.le_of_ble_eq_true rfl, Nat.le_of_ble_eq_true rfl⟩ dX4_which_48 rfl rfl (Nat.le_of_ble_eq_true rfl) E.1 (Nat.lt_of_le_of_lt (Nat.le_of_ble_eq_true rfl) E.2.2.2.2) rfl (Nat.le_refl _) (Nat.le_refl _) (t_X1_leastSeed E Osz H Op Osu Osp Osn ?_) 
    refine Rn.iret dX4_which_51 rfl rfl rfl ?_
    exact k
  · refine Rn.bipush dX4_which_52 rfl bp_m2 ?_
    refine Rn.iret dX4_which_54 rfl rfl rfl ?_
    exact rn_fin k (some_int (by unfold whI; rw [cy]; rfl)) rfl
theorem t_X4_count {h : rHp} {Q : Option Value → rHp → Prop} {t : Nat → Nat} {ln : Nat} {p : Nat → Nat} {U : Nat → Nat → Nat} {a : Nat} {Kp : Nat → Nat → Nat} {ik : Nat → Bool} {su sp sn : Nat → Nat} {sz : Nat} {d : Int64} (I : CI h t ln p U a Kp ik su sp sn sz d) (O : OKs t ln p U a Kp ik su sp sn sz) {y : Int32} (k : Q (some (.int (coI ln p a sz y))) h) : Cl M_X4_count h.1 h.2.1 [.ref 0, .int y] h Q := by
  obtain ⟨pl, pt, B, KP, IK, n, C, T, H, G, S, E, RBh, RKh⟩ := id I
  obtain ⟨Ot, Oln, Op, OU, OK2, Osz, Osu, Osp, Osn⟩ := id O
  refine Cl.of pl_X4 (Nat.le_of_ble_eq_true rfl) (by first | exact Nat.le_refl _ | omega) (by first | exact Nat.le_refl _ | omega) ?_
  refine Rn.iload_n dX4_count_0 rfl rfl ?_
  refine Rn.tswR (n := 6) (tgtD := 100) dX4_count_1 rfl (by decide) (by decide) (fun cy => ?_) (fun j hj ey => ?_)
  · refine Rn.bipush dX4_count_100 rfl bp_m2 ?_
    refine Rn.iret dX4_count_102 rfl rfl rfl ?_
    exact rn_fin k (some_int (by unfold coI; rw [cy]; rfl)) rfl
  · subst ey
    rcases (show j = 0 ∨ j = 1 ∨ j = 2 ∨ j = 3 ∨ j = 4 ∨ j = 5 ∨ j = 6 by omega) with rfl | rfl | rfl | rfl | rfl | rfl | rfl
    · refine ⟨43, 44, rfl, by decide, ?_⟩
      refine Rn.aload_n dX4_count_44 rfl rfl ?_
      refine Rn.getf f_X4_10 dX4_count_45 rfl C.1 C.2 rfl ?_
      refine Rn.getf f_X4_48 dX4_count_48 rfl T.1 T.2.2.1 rfl ?_
      refine Rn.iret dX4_count_51 rfl rfl rfl ?_
      exact k
    · refine ⟨51, 52, rfl, by decide, ?_⟩
      refine Rn.aload_n dX4_count_52 rfl rfl ?_
      refine Rn.getf f_X4_19 dX4_count_53 rfl C.1 C.2 rfl ?_
      refine Rn.callV (as := []) v_X0_users l_X4_63 ⟨Nat.le_of_ble_eq_true rfl, Nat.le_of_ble_eq_true rfl⟩ dX4_count_56 rfl rfl (Nat.le_of_ble_eq_true rfl) H.1 H.2.2.1 rfl (Nat.le_refl _) (Nat.le_refl _) (t_X0_users H ?_) 
      refine Rn.iret dX4_count_59 rfl rfl rfl ?_
      exact k
    · refine ⟨59, 60, rfl, by decide, ?_⟩
      refine Rn.aload_n dX4_count_60 rfl rfl ?_
      refine Rn.getf f_X4_19 dX4_count_61 rfl C.1 C.2 rfl ?_
      refine Rn.callV (as := []) v_X0_window l_X4_135 ⟨Nat.le_of_ble_eq_true rfl, Nat.le_of_ble_eq_true rfl⟩ dX4_count_64 rfl rfl (Nat.le_of_ble_eq_true rfl) H.1 H.2.2.1 rfl (Nat.le_refl _) (Nat.le_refl _) (t_X0_window H ?_) 
      refine Rn.iret dX4_count_67 rfl rfl rfl ?_
      exact k
    · refine ⟨67, 68, rfl, by decide, ?_⟩
      refine Rn.aload_n dX4_count_68 rfl rfl ?_
      refine Rn.getf f_X4_19 dX4_count_69 rfl C.1 C.2 rfl ?_
      refine Rn.callV (as := []) v_X0_wire l_X4_119 ⟨Nat.le_of_ble_eq_true rfl, Nat.le_of_ble_eq_true rfl⟩ dX4_count_72 rfl rfl (Nat.le_of_ble_eq_true rfl) H.1 H.2.2.1 rfl (Nat.le_refl _) (Nat.le_refl _) (t_X0_wire H ?_) 
      refine Rn.iret dX4_count_75 rfl rfl rfl ?_
      exact k
    · refine ⟨75, 76, rfl, by decide, ?_⟩
      refine Rn.aload_n dX4_count_76 rfl rfl ?_
      refine Rn.getf f_X4_19 dX4_count_77 rfl C.1 C.2 rfl ?_
      refine Rn.callV (as := []) v_X0_heardCount l_X4_122 ⟨Nat.le_of_ble_eq_true rfl, Nat.le_of_ble_eq_true rfl⟩ dX4_count_80 rfl rfl (Nat.le_of_ble_eq_true rfl) H.1 H.2.2.1 rfl (Nat.le_refl _) (Nat.le_refl _) (t_X0_heardCount H ?_) 
      refine Rn.iret dX4_count_83 rfl rfl rfl ?_
      exact k
    · refine ⟨83, 84, rfl, by decide, ?_⟩
      refine Rn.aload_n dX4_count_84 rfl rfl ?_
      refine Rn.getf f_X4_29 dX4_count_85 rfl C.1 C.2 rfl ?_
      refine Rn.getf f_X4_146 dX4_count_88 rfl S.1 (Nat.lt_of_le_of_lt (Nat.le_of_ble_eq_true rfl) S.2.2.2.2) rfl ?_
      refine Rn.iret dX4_count_91 rfl rfl rfl ?_
      exact k
    · refine ⟨91, 92, rfl, by decide, ?_⟩
      refine Rn.aload_n dX4_count_92 rfl rfl ?_
      refine Rn.getf f_X4_36 dX4_count_93 rfl C.1 C.2 rfl ?_
      refine Rn.getf f_X4_176 dX4_count_96 rfl E.1 (Nat.lt_of_le_of_lt (Nat.le_of_ble_eq_true rfl) E.2.2.2.2) rfl ?_
      refine Rn.iret dX4_count_99 rfl rfl rfl ?_
      exact k
theorem t_X4_user {h : rHp} {Q : Option Value → rHp → Prop} {t : Nat → Nat} {ln : Nat} {p : Nat → Nat} {U : Nat → Nat → Nat} {a : Nat} {Kp : Nat → Nat → Nat} {ik : Nat → Bool} {su sp sn : Nat → Nat} {sz : Nat} {d : Int64} (I : CI h t ln p U a Kp ik su sp sn sz d) (O : OKs t ln p U a Kp ik su sp sn sz) {x y : Int32} (k : Q (some (.int (usI p x y))) h) : Cl M_X4_user h.1 h.2.1 [.ref 0, .int x, .int y] h Q := by
  obtain ⟨pl, pt, B, KP, IK, n, C, T, H, G, S, E, RBh, RKh⟩ := id I
  obtain ⟨Ot, Oln, Op, OU, OK2, Osz, Osu, Osp, Osn⟩ := id O
  refine Cl.of pl_X4 (Nat.le_of_ble_eq_true rfl) (by first | exact Nat.le_refl _ | omega) (by first | exact Nat.le_refl _ | omega) ?_
  refine Rn.aload_n dX4_user_0 rfl rfl ?_
  refine Rn.getf f_X4_19 dX4_user_1 rfl C.1 C.2 rfl ?_
  refine Rn.iload_n dX4_user_4 rfl rfl ?_
  refine Rn.callV (as := [_]) v_X0_has l_X4_67 ⟨Nat.le_of_ble_eq_true rfl, Nat.le_of_ble_eq_true rfl⟩ dX4_user_5 rfl rfl (Nat.le_of_ble_eq_true rfl) H.1 H.2.2.1 rfl (Nat.le_refl _) (Nat.le_refl _) (t_X0_has H Op.1 ?_) 
  refine Rn.if_neB (tgt := 13) dX4_user_8 rfl (by decide) (fun c8 => ?_) (fun c8 => ?_)
  · obtain ⟨u, hu, rfl⟩ := hasB_of c8
    have hu4 : u < 4 := by have := Op.1; omega
    refine Rn.iload_n dX4_user_13 rfl rfl ?_
    refine Rn.tswR (n := 10) (tgtD := 219) dX4_user_14 rfl (by decide) (by decide) (fun cy => ?_) (fun j hj ey => ?_)
    · refine Rn.bipush dX4_user_219 rfl bp_m2 ?_
      refine Rn.iret dX4_user_221 rfl rfl rfl ?_
      exact rn_fin k (some_int (by unfold usI; rw [c8, cy]; rfl)) rfl
    · subst ey
      rcases (show j = 0 ∨ j = 1 ∨ j = 2 ∨ j = 3 ∨ j = 4 ∨ j = 5 ∨ j = 6 ∨ j = 7 ∨ j = 8 ∨ j = 9 ∨ j = 10 by omega) with rfl | rfl | rfl | rfl | rfl | rfl | rfl | rfl | rfl | rfl | rfl
      · refine ⟨58, 72, rfl, by decide, ?_⟩
        refine Rn.aload_n dX4_user_72 rfl rfl ?_
        refine Rn.getf f_X4_19 dX4_user_73 rfl C.1 C.2 rfl ?_
        refine Rn.iload_n dX4_user_76 rfl rfl ?_
        refine Rn.iconst dX4_user_77 rfl ic_0 ?_
        refine Rn.callV (as := [_, _]) v_X0_of l_X4_70 ⟨Nat.le_of_ble_eq_true rfl, Nat.le_of_ble_eq_true rfl⟩ dX4_user_78 rfl rfl (Nat.le_of_ble_eq_true rfl) H.1 H.2.2.1 rfl (Nat.le_refl _) (Nat.le_refl _) (t_X0_of H hu4 (by omega) ?_) 
        refine Rn.iret dX4_user_81 rfl rfl rfl ?_
        have e0 : usI p (nI u) (nI 0) = usK p u 0 := by unfold usI; rw [c8, xn_nI (by omega), isW_in (by omega) (by omega)]; rfl
        rw [e0] at k
        exact k
      · refine ⟨68, 82, rfl, by decide, ?_⟩
        refine Rn.aload_n dX4_user_82 rfl rfl ?_
        refine Rn.getf f_X4_19 dX4_user_83 rfl C.1 C.2 rfl ?_
        refine Rn.iload_n dX4_user_86 rfl rfl ?_
        refine Rn.iconst dX4_user_87 rfl ic_1 ?_
        refine Rn.callV (as := [_, _]) v_X0_of l_X4_70 ⟨Nat.le_of_ble_eq_true rfl, Nat.le_of_ble_eq_true rfl⟩ dX4_user_88 rfl rfl (Nat.le_of_ble_eq_true rfl) H.1 H.2.2.1 rfl (Nat.le_refl _) (Nat.le_refl _) (t_X0_of H hu4 (by omega) ?_) 
        refine Rn.iret dX4_user_91 rfl rfl rfl ?_
        have e0 : usI p (nI u) (nI 1) = usK p u 1 := by unfold usI; rw [c8, xn_nI (by omega), isW_in (by omega) (by omega)]; rfl
        rw [e0] at k
        exact k
      · refine ⟨78, 92, rfl, by decide, ?_⟩
        refine Rn.aload_n dX4_user_92 rfl rfl ?_
        refine Rn.getf f_X4_19 dX4_user_93 rfl C.1 C.2 rfl ?_
        refine Rn.iload_n dX4_user_96 rfl rfl ?_
        refine Rn.iconst dX4_user_97 rfl ic_2 ?_
        refine Rn.callV (as := [_, _]) v_X0_of l_X4_70 ⟨Nat.le_of_ble_eq_true rfl, Nat.le_of_ble_eq_true rfl⟩ dX4_user_98 rfl rfl (Nat.le_of_ble_eq_true rfl) H.1 H.2.2.1 rfl (Nat.le_refl _) (Nat.le_refl _) (t_X0_of H hu4 (by omega) ?_) 
        refine Rn.iret dX4_user_101 rfl rfl rfl ?_
        have e0 : usI p (nI u) (nI 2) = usK p u 2 := by unfold usI; rw [c8, xn_nI (by omega), isW_in (by omega) (by omega)]; rfl
        rw [e0] at k
        exact k
      · refine ⟨88, 102, rfl, by decide, ?_⟩
        refine Rn.aload_n dX4_user_102 rfl rfl ?_
        refine Rn.getf f_X4_19 dX4_user_103 rfl C.1 C.2 rfl ?_
        refine Rn.iload_n dX4_user_106 rfl rfl ?_
        refine Rn.iconst dX4_user_107 rfl ic_3 ?_
        refine Rn.callV (as := [_, _]) v_X0_of l_X4_70 ⟨Nat.le_of_ble_eq_true rfl, Nat.le_of_ble_eq_true rfl⟩ dX4_user_108 rfl rfl (Nat.le_of_ble_eq_true rfl) H.1 H.2.2.1 rfl (Nat.le_refl _) (Nat.le_refl _) (t_X0_of H hu4 (by omega) ?_) 
        refine Rn.iret dX4_user_111 rfl rfl rfl ?_
        have e0 : usI p (nI u) (nI 3) = usK p u 3 := by unfold usI; rw [c8, xn_nI (by omega), isW_in (by omega) (by omega)]; rfl
        rw [e0] at k
        exact k
      · refine ⟨98, 112, rfl, by decide, ?_⟩
        refine Rn.aload_n dX4_user_112 rfl rfl ?_
        refine Rn.getf f_X4_19 dX4_user_113 rfl C.1 C.2 rfl ?_
        refine Rn.iload_n dX4_user_116 rfl rfl ?_
        refine Rn.iconst dX4_user_117 rfl ic_4 ?_
        refine Rn.callV (as := [_, _]) v_X0_of l_X4_70 ⟨Nat.le_of_ble_eq_true rfl, Nat.le_of_ble_eq_true rfl⟩ dX4_user_118 rfl rfl (Nat.le_of_ble_eq_true rfl) H.1 H.2.2.1 rfl (Nat.le_refl _) (Nat.le_refl _) (t_X0_of H hu4 (by omega) ?_) 
        refine Rn.iret dX4_user_121 rfl rfl rfl ?_
        have e0 : usI p (nI u) (nI 4) = usK p u 4 := by unfold usI; rw [c8, xn_nI (by omega), isW_in (by omega) (by omega)]; rfl
        rw [e0] at k
        exact k
      · refine ⟨108, 122, rfl, by decide, ?_⟩
        refine Rn.aload_n dX4_user_122 rfl rfl ?_
        refine Rn.getf f_X4_19 dX4_user_123 rfl C.1 C.2 rfl ?_
        refine Rn.iload_n dX4_user_126 rfl rfl ?_
        refine Rn.iconst dX4_user_127 rfl ic_5 ?_
        refine Rn.callV (as := [_, _]) v_X0_of l_X4_70 ⟨Nat.le_of_ble_eq_true rfl, Nat.le_of_ble_eq_true rfl⟩ dX4_user_128 rfl rfl (Nat.le_of_ble_eq_true rfl) H.1 H.2.2.1 rfl (Nat.le_refl _) (Nat.le_refl _) (t_X0_of H hu4 (by omega) ?_) 
        refine Rn.iret dX4_user_131 rfl rfl rfl ?_
        have e0 : usI p (nI u) (nI 5) = usK p u 5 := by unfold usI; rw [c8, xn_nI (by omega), isW_in (by omega) (by omega)]; rfl
        rw [e0] at k
        exact k
      · refine ⟨118, 132, rfl, by decide, ?_⟩
        refine Rn.aload_n dX4_user_132 rfl rfl ?_
        refine Rn.getf f_X4_19 dX4_user_133 rfl C.1 C.2 rfl ?_
        refine Rn.iload_n dX4_user_136 rfl rfl ?_
        refine Rn.callV (as := [_]) v_X0_isInStep l_X4_74 ⟨Nat.le_of_ble_eq_true rfl, Nat.le_of_ble_eq_true rfl⟩ dX4_user_137 rfl rfl (Nat.le_of_ble_eq_true rfl) H.1 H.2.2.1 rfl (Nat.le_refl _) (Nat.le_refl _) (t_X0_isInStep H Op (by omega) ?_) 
        refine Rn.if_eqB (tgt := 147) dX4_user_140 rfl (by decide) (fun c140 => ?_) (fun c140 => ?_)
        · refine Rn.iconst dX4_user_147 rfl ic_0 ?_
          refine Rn.iret dX4_user_148 rfl rfl rfl ?_
          have e0 : usI p (nI u) (nI 6) = usK p u 6 := by unfold usI; rw [c8, xn_nI (by omega), isW_in (by omega) (by omega)]; rfl
          rw [e0] at k
          first | exact rn_fin k (some_int (by show _ = bi (stp p u); rw [c140, bi_f])) rfl | exact rn_fin k (some_int (by show _ = bi (stp p u); rw [c140, bi_t])) rfl
        · refine Rn.iconst dX4_user_143 rfl ic_1 ?_
          refine Rn.goto (tgt := 148) dX4_user_144 (by decide) ?_
          refine Rn.iret dX4_user_148 rfl rfl rfl ?_
          have e0 : usI p (nI u) (nI 6) = usK p u 6 := by unfold usI; rw [c8, xn_nI (by omega), isW_in (by omega) (by omega)]; rfl
          rw [e0] at k
          first | exact rn_fin k (some_int (by show _ = bi (stp p u); rw [c140, bi_f])) rfl | exact rn_fin k (some_int (by show _ = bi (stp p u); rw [c140, bi_t])) rfl
      · refine ⟨135, 149, rfl, by decide, ?_⟩
        refine Rn.aload_n dX4_user_149 rfl rfl ?_
        refine Rn.getf f_X4_19 dX4_user_150 rfl C.1 C.2 rfl ?_
        refine Rn.iload_n dX4_user_153 rfl rfl ?_
        refine Rn.callV (as := [_]) v_X0_isWarned l_X4_77 ⟨Nat.le_of_ble_eq_true rfl, Nat.le_of_ble_eq_true rfl⟩ dX4_user_154 rfl rfl (Nat.le_of_ble_eq_true rfl) H.1 H.2.2.1 rfl (Nat.le_refl _) (Nat.le_refl _) (t_X0_isWarned H Op hu4 ?_) 
        refine Rn.if_eqB (tgt := 164) dX4_user_157 rfl (by decide) (fun c157 => ?_) (fun c157 => ?_)
        · refine Rn.iconst dX4_user_164 rfl ic_0 ?_
          refine Rn.iret dX4_user_165 rfl rfl rfl ?_
          have e0 : usI p (nI u) (nI 7) = usK p u 7 := by unfold usI; rw [c8, xn_nI (by omega), isW_in (by omega) (by omega)]; rfl
          rw [e0] at k
          first | exact rn_fin k (some_int (by show _ = bi (decide (p (6 * u + 5) ≤ 3)); rw [c157, bi_f])) rfl | exact rn_fin k (some_int (by show _ = bi (decide (p (6 * u + 5) ≤ 3)); rw [c157, bi_t])) rfl
        · refine Rn.iconst dX4_user_160 rfl ic_1 ?_
          refine Rn.goto (tgt := 165) dX4_user_161 (by decide) ?_
          refine Rn.iret dX4_user_165 rfl rfl rfl ?_
          have e0 : usI p (nI u) (nI 7) = usK p u 7 := by unfold usI; rw [c8, xn_nI (by omega), isW_in (by omega) (by omega)]; rfl
          rw [e0] at k
          first | exact rn_fin k (some_int (by show _ = bi (decide (p (6 * u + 5) ≤ 3)); rw [c157, bi_f])) rfl | exact rn_fin k (some_int (by show _ = bi (decide (p (6 * u + 5) ≤ 3)); rw [c157, bi_t])) rfl
      · refine ⟨152, 166, rfl, by decide, ?_⟩
        refine Rn.aload_n dX4_user_166 rfl rfl ?_
        refine Rn.getf f_X4_19 dX4_user_167 rfl C.1 C.2 rfl ?_
        refine Rn.iload_n dX4_user_170 rfl rfl ?_
        refine Rn.callV (as := [_]) v_X0_gapOf l_X4_80 ⟨Nat.le_of_ble_eq_true rfl, Nat.le_of_ble_eq_true rfl⟩ dX4_user_171 rfl rfl (Nat.le_of_ble_eq_true rfl) H.1 H.2.2.1 rfl (Nat.le_refl _) (Nat.le_refl _) (t_X0_gapOf H Op hu4 ?_) 
        refine Rn.iret dX4_user_174 rfl rfl rfl ?_
        have e0 : usI p (nI u) (nI 8) = usK p u 8 := by unfold usI; rw [c8, xn_nI (by omega), isW_in (by omega) (by omega)]; rfl
        rw [e0] at k
        exact k
      · refine ⟨161, 175, rfl, by decide, ?_⟩
        refine Rn.aload_n dX4_user_175 rfl rfl ?_
        refine Rn.getf f_X4_19 dX4_user_176 rfl C.1 C.2 rfl ?_
        refine Rn.iload_n dX4_user_179 rfl rfl ?_
        refine Rn.iconst dX4_user_180 rfl ic_0 ?_
        refine Rn.callV (as := [_, _]) v_X0_of l_X4_70 ⟨Nat.le_of_ble_eq_true rfl, Nat.le_of_ble_eq_true rfl⟩ dX4_user_181 rfl rfl (Nat.le_of_ble_eq_true rfl) H.1 H.2.2.1 rfl (Nat.le_refl _) (Nat.le_refl _) (t_X0_of H hu4 (by omega) ?_) 
        refine Rn.aload_n dX4_user_184 rfl rfl ?_
        refine Rn.getf f_X4_19 dX4_user_185 rfl C.1 C.2 rfl ?_
        refine Rn.iload_n dX4_user_188 rfl rfl ?_
        refine Rn.iconst dX4_user_189 rfl ic_1 ?_
        refine Rn.callV (as := [_, _]) v_X0_of l_X4_70 ⟨Nat.le_of_ble_eq_true rfl, Nat.le_of_ble_eq_true rfl⟩ dX4_user_190 rfl rfl (Nat.le_of_ble_eq_true rfl) H.1 H.2.2.1 rfl (Nat.le_refl _) (Nat.le_refl _) (t_X0_of H hu4 (by omega) ?_) 
        refine Rn.callS (as := [_, _]) s_X4_tailOf l_X4_84 ⟨Nat.le_of_ble_eq_true rfl, Nat.le_of_ble_eq_true rfl⟩ dX4_user_193 rfl rfl (Nat.le_of_ble_eq_true rfl) (Nat.le_refl _) (Nat.le_refl _) (t_X4_tailOf (Op.us hu4).1 (Op.us hu4).2.1 ?_)
        refine Rn.iret dX4_user_196 rfl rfl rfl ?_
        have e0 : usI p (nI u) (nI 9) = usK p u 9 := by unfold usI; rw [c8, xn_nI (by omega), isW_in (by omega) (by omega)]; rfl
        rw [e0] at k
        exact k
      · refine ⟨183, 197, rfl, by decide, ?_⟩
        refine Rn.aload_n dX4_user_197 rfl rfl ?_
        refine Rn.getf f_X4_19 dX4_user_198 rfl C.1 C.2 rfl ?_
        refine Rn.iload_n dX4_user_201 rfl rfl ?_
        refine Rn.iconst dX4_user_202 rfl ic_0 ?_
        refine Rn.callV (as := [_, _]) v_X0_of l_X4_70 ⟨Nat.le_of_ble_eq_true rfl, Nat.le_of_ble_eq_true rfl⟩ dX4_user_203 rfl rfl (Nat.le_of_ble_eq_true rfl) H.1 H.2.2.1 rfl (Nat.le_refl _) (Nat.le_refl _) (t_X0_of H hu4 (by omega) ?_) 
        refine Rn.aload_n dX4_user_206 rfl rfl ?_
        refine Rn.getf f_X4_19 dX4_user_207 rfl C.1 C.2 rfl ?_
        refine Rn.iload_n dX4_user_210 rfl rfl ?_
        refine Rn.iconst dX4_user_211 rfl ic_1 ?_
        refine Rn.callV (as := [_, _]) v_X0_of l_X4_70 ⟨Nat.le_of_ble_eq_true rfl, Nat.le_of_ble_eq_true rfl⟩ dX4_user_212 rfl rfl (Nat.le_of_ble_eq_true rfl) H.1 H.2.2.1 rfl (Nat.le_refl _) (Nat.le_refl _) (t_X0_of H hu4 (by omega) ?_) 
        refine Rn.callS (as := [_, _]) s_X4_loopOf l_X4_87 ⟨Nat.le_of_ble_eq_true rfl, Nat.le_of_ble_eq_true rfl⟩ dX4_user_215 rfl rfl (Nat.le_of_ble_eq_true rfl) (Nat.le_refl _) (Nat.le_refl _) (t_X4_loopOf (Op.us hu4).1 (Op.us hu4).2.1 ?_)
        refine Rn.iret dX4_user_218 rfl rfl rfl ?_
        have e0 : usI p (nI u) (nI 10) = usK p u 10 := by unfold usI; rw [c8, xn_nI (by omega), isW_in (by omega) (by omega)]; rfl
        rw [e0] at k
        exact k
  · refine Rn.iconst dX4_user_11 rfl ic_m1 ?_
    refine Rn.iret dX4_user_12 rfl rfl rfl ?_
    exact rn_fin k (some_int (by unfold usI; rw [c8]; rfl)) rfl
