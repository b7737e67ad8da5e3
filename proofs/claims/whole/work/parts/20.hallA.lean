theorem Rn.pick {K : rK} {Q : Option Value → rHp → Prop} {pc : Nat} {lv lv' : List (Nat × Value)} {st : List Value} {h : rHp} (ks : List Nat) (hl : lv_pick lv ks = lv') (k : Rn K Q pc lv' st h) : Rn K Q pc lv st h := by
  refine Rn.sub lv' (fun q hq => ?_) k
  rw [← hl] at hq
  obtain ⟨i, -, hi⟩ := List.mem_filterMap.mp hq
  exact List.mem_of_getElem? hi
theorem hasB_neg {m : Nat} {x : Int32} (h : x < 0) : hasB m x = false := by
  unfold hasB
  rw [Int32.lt_iff_toInt_lt] at h
  exact decide_eq_false (fun z => by have : (0 : Int32).toInt = 0 := rfl; omega)
theorem hasB_big {m : Nat} {x : Int32} (h : nI m ≤ x) (hm : m < 2147483648) : hasB m x = false := by
  unfold hasB
  rw [Int32.le_iff_toInt_le, nI_toInt hm] at h
  exact decide_eq_false (fun z => by omega)
theorem hasB_ok {m : Nat} {x : Int32} (h0 : ¬ x < 0) (h : ¬ nI m ≤ x) (hm : m < 2147483648) : hasB m x = true := by
  unfold hasB
  rw [Int32.le_iff_toInt_le, nI_toInt hm] at h
  rw [Int32.lt_iff_toInt_lt] at h0
  exact decide_eq_true (by have : (0 : Int32).toInt = 0 := rfl; omega)
theorem isW_lo {v lo hi : Int32} (h : v < lo) : isW v lo hi = false := by
  unfold isW
  rw [Int32.lt_iff_toInt_lt] at h
  exact decide_eq_false (fun z => by omega)
theorem isW_hi {v lo hi : Int32} (h : hi < v) : isW v lo hi = false := by
  unfold isW
  rw [Int32.lt_iff_toInt_lt] at h
  exact decide_eq_false (fun z => by omega)
theorem isW_ok {v lo hi : Int32} (h : ¬ v < lo) (h2 : ¬ hi < v) : isW v lo hi = true := by
  unfold isW
  rw [Int32.lt_iff_toInt_lt] at h h2
  exact decide_eq_true (by omega)
theorem t_X4_isWithin {h : rHp} {Q : Option Value → rHp → Prop} {v lo hi : Int32} (k : Q (some (.int (bi (isW v lo hi)))) h) : Cl M_X4_isWithin h.1 h.2.1 [.int v, .int lo, .int hi] h Q := by
  refine Cl.of pl_X4 (Nat.le_of_ble_eq_true rfl) (by first | exact Nat.le_refl _ | omega) (by first | exact Nat.le_refl _ | omega) ?_
  refine Rn.iload_n dX4_isWithin_0 rfl rfl ?_
  refine Rn.iload_n dX4_isWithin_1 rfl rfl ?_
  refine Rn.icmp_lt (tgt := 14) dX4_isWithin_2 rfl (by decide) (fun c2 => ?_) (fun c2 => ?_)
  · refine Rn.iconst dX4_isWithin_14 rfl ic_0 ?_
    refine Rn.zret dX4_isWithin_15 rfl (by decide) rfl rfl ?_
    first | exact rn_fin k (by rw [isW_lo c2, bi_f]) rfl | exact rn_fin k (by rw [isW_hi c7, bi_f]) rfl | exact rn_fin k (by rw [isW_ok c2 c7, bi_t]) rfl
  · refine Rn.iload_n dX4_isWithin_5 rfl rfl ?_
    refine Rn.iload_n dX4_isWithin_6 rfl rfl ?_
    refine Rn.icmp_gt (tgt := 14) dX4_isWithin_7 rfl (by decide) (fun c7 => ?_) (fun c7 => ?_)
    · refine Rn.iconst dX4_isWithin_14 rfl ic_0 ?_
      refine Rn.zret dX4_isWithin_15 rfl (by decide) rfl rfl ?_
      first | exact rn_fin k (by rw [isW_lo c2, bi_f]) rfl | exact rn_fin k (by rw [isW_hi c7, bi_f]) rfl | exact rn_fin k (by rw [isW_ok c2 c7, bi_t]) rfl
    · refine Rn.iconst dX4_isWithin_10 rfl ic_1 ?_
      refine Rn.goto (tgt := 15) dX4_isWithin_11 (by decide) ?_
      refine Rn.zret dX4_isWithin_15 rfl (by decide) rfl rfl ?_
      first | exact rn_fin k (by rw [isW_lo c2, bi_f]) rfl | exact rn_fin k (by rw [isW_hi c7, bi_f]) rfl | exact rn_fin k (by rw [isW_ok c2 c7, bi_t]) rfl
theorem t_X4_isNumber {h : rHp} {Q : Option Value → rHp → Prop} {v : Int32} (k : Q (some (.int (bi (isW v (nI 0) (nI 250))))) h) : Cl M_X4_isNumber h.1 h.2.1 [.int v] h Q := by
  refine Cl.of pl_X4 (Nat.le_of_ble_eq_true rfl) (by first | exact Nat.le_refl _ | omega) (by first | exact Nat.le_refl _ | omega) ?_
  refine Rn.iload_n dX4_isNumber_0 rfl rfl ?_
  refine Rn.iconst dX4_isNumber_1 rfl ic_0 ?_
  refine Rn.sipush dX4_isNumber_2 rfl sp_250 ?_
  refine Rn.callS (as := [_, _, _]) s_X4_isWithin l_X4_96 ⟨Nat.le_of_ble_eq_true rfl, Nat.le_of_ble_eq_true rfl⟩ dX4_isNumber_5 rfl rfl (Nat.le_of_ble_eq_true rfl) (Nat.le_refl _) (Nat.le_refl _) (t_X4_isWithin ?_)
  refine Rn.zret dX4_isNumber_8 rfl (bi_01 _) rfl rfl ?_
  exact k
theorem t_X4_stepsBehind {h : rHp} {Q : Option Value → rHp → Prop} {a s n : Nat} (ha : a < 251) (hs : s < 251) (hn : n < 100000) (k : Q (some (.int (nI (bh s a n)))) h) : Cl M_X4_stepsBehind h.1 h.2.1 [.int (nI a), .int (nI s), .int (nI n)] h Q := by
  refine Cl.of pl_X4 (Nat.le_of_ble_eq_true rfl) (by first | exact Nat.le_refl _ | omega) (by first | exact Nat.le_refl _ | omega) ?_
  refine Rn.iload_n dX4_stepsBehind_0 rfl rfl ?_
  refine Rn.istore_n dX4_stepsBehind_1 rfl (Nat.le_of_ble_eq_true rfl) ?_
  refine Rn.iconst dX4_stepsBehind_2 rfl ic_0 ?_
  refine Rn.istore dX4_stepsBehind_3 rfl (Nat.le_of_ble_eq_true rfl) ?_
  have hloop : ∀ (m : Nat) (i : Nat), n - i < m → i ≤ n → Rn (M_X4_stepsBehind, none, h.1, h.2.1) Q 5 [(1, .int (nI s)), (2, .int (nI n)), (3, .int (nI (bh s a i))), (4, .int (nI i))] [] h := by
    intro m
    induction m with
    | zero => intro i h0 h1; exact absurd h0 (Nat.not_lt_zero _)
    | succ m ih =>
      intro i h0 h1
      have hb : bh s a i < 251 := bh_lt ha i
      have hb2 : bh s a i * bh s a i ≤ 250 * 250 := Nat.mul_le_mul (by omega) (by omega)
      refine Rn.iload dX4_stepsBehind_5 rfl rfl ?_
      refine Rn.iload_n dX4_stepsBehind_7 rfl rfl ?_
      refine Rn.icmp_geN (tgt := 27) dX4_stepsBehind_8 rfl (by decide) (by omega) (by omega) (fun c8 => ?_) (fun c8 => ?_)
      · refine Rn.iload_n dX4_stepsBehind_27 rfl rfl ?_
        refine Rn.iret dX4_stepsBehind_28 rfl rfl rfl ?_
        rw [show i = n by omega]
        exact k
      · refine Rn.iload_n dX4_stepsBehind_11 rfl rfl ?_
        refine Rn.iload_n dX4_stepsBehind_12 rfl rfl ?_
        refine Rn.imulN dX4_stepsBehind_13 rfl ?_
        refine Rn.iload_n dX4_stepsBehind_14 rfl rfl ?_
        refine Rn.iaddN dX4_stepsBehind_15 rfl ?_
        refine Rn.sipush dX4_stepsBehind_16 rfl sp_251 ?_
        refine Rn.iremN dX4_stepsBehind_19 rfl (by omega) (by omega) (by omega) ?_
        refine Rn.istore_n dX4_stepsBehind_20 rfl (Nat.le_of_ble_eq_true rfl) ?_
        refine Rn.iincN dX4_stepsBehind_21 rfl rfl (Nat.le_of_ble_eq_true rfl) ?_
        refine Rn.goto (tgt := 5) dX4_stepsBehind_24 (by decide) ?_
        exact Rn.pick [2, 3, 1, 0] rfl (ih (i + 1) (by omega) (by omega))
  exact Rn.pick [3, 4, 1, 0] rfl (hloop (n + 1) 0 (by omega) (by omega))
theorem t_X0_has {h : rHp} {Q : Option Value → rHp → Prop} {q : Nat} {p : Nat → Nat} (H : Hl h q p) (hm : p 24 ≤ 4) {x : Int32} (k : Q (some (.int (bi (hasB (p 24) x)))) h) : Cl M_X0_has h.1 h.2.1 [.ref q, .int x] h Q := by
  refine Cl.of pl_X0 (Nat.le_of_ble_eq_true rfl) (by first | exact Nat.le_refl _ | omega) (by first | exact Nat.le_refl _ | omega) ?_
  refine Rn.iload_n dX0_has_0 rfl rfl ?_
  refine Rn.if_lt (tgt := 18) dX0_has_1 rfl (by decide) (fun c1 => ?_) (fun c1 => ?_)
  · refine Rn.iconst dX0_has_18 rfl ic_0 ?_
    refine Rn.zret dX0_has_19 rfl (by decide) rfl rfl ?_
    first | exact rn_fin k (by rw [hasB_neg c1, bi_f]) rfl | exact rn_fin k (by rw [hasB_big c11 (by omega), bi_f]) rfl | exact rn_fin k (by rw [hasB_ok c1 c11 (by omega), bi_t]) rfl
  · refine Rn.iload_n dX0_has_4 rfl rfl ?_
    refine Rn.aload_n dX0_has_5 rfl rfl ?_
    refine Rn.getf f_X0_11 dX0_has_6 rfl H.1 H.2.2.1 rfl ?_
    refine Rn.iconst dX0_has_9 rfl ic_0 ?_
    refine Rn.ialdN dX0_has_10 rfl H.2.1 H.2.2.2 (by omega) (by omega) ?_
    refine Rn.top (cl_0 p) ?_
    refine Rn.icmp_ge (tgt := 18) dX0_has_11 rfl (by decide) (fun c11 => ?_) (fun c11 => ?_)
    · refine Rn.iconst dX0_has_18 rfl ic_0 ?_
      refine Rn.zret dX0_has_19 rfl (by decide) rfl rfl ?_
      first | exact rn_fin k (by rw [hasB_neg c1, bi_f]) rfl | exact rn_fin k (by rw [hasB_big c11 (by omega), bi_f]) rfl | exact rn_fin k (by rw [hasB_ok c1 c11 (by omega), bi_t]) rfl
    · refine Rn.iconst dX0_has_14 rfl ic_1 ?_
      refine Rn.goto (tgt := 19) dX0_has_15 (by decide) ?_
      refine Rn.zret dX0_has_19 rfl (by decide) rfl rfl ?_
      first | exact rn_fin k (by rw [hasB_neg c1, bi_f]) rfl | exact rn_fin k (by rw [hasB_big c11 (by omega), bi_f]) rfl | exact rn_fin k (by rw [hasB_ok c1 c11 (by omega), bi_t]) rfl
theorem t_X0_of {h : rHp} {Q : Option Value → rHp → Prop} {q : Nat} {p : Nat → Nat} (H : Hl h q p) {u w : Nat} (hu : u < 4) (hw : w < 6) (k : Q (some (.int (nI (p (6 * u + w))))) h) : Cl M_X0_of h.1 h.2.1 [.ref q, .int (nI u), .int (nI w)] h Q := by
  refine Cl.of pl_X0 (Nat.le_of_ble_eq_true rfl) (by first | exact Nat.le_refl _ | omega) (by first | exact Nat.le_refl _ | omega) ?_
  refine Rn.iload_n dX0_of_0 rfl rfl ?_
  refine Rn.if_ltN (tgt := 23) dX0_of_1 rfl (by decide) (by omega) (fun c1 => ?_) (fun c1 => ?_)
  · first | omega | exact False.elim c1
  · refine Rn.iload_n dX0_of_4 rfl rfl ?_
    refine Rn.iconst dX0_of_5 rfl ic_4 ?_
    refine Rn.icmp_geN (tgt := 23) dX0_of_6 rfl (by decide) (by omega) (by omega) (fun c6 => ?_) (fun c6 => ?_)
    · first | omega | exact False.elim c6
    · refine Rn.iload_n dX0_of_9 rfl rfl ?_
      refine Rn.if_ltN (tgt := 23) dX0_of_10 rfl (by decide) (by omega) (fun c10 => ?_) (fun c10 => ?_)
      · first | omega | exact False.elim c10
      · refine Rn.iload_n dX0_of_13 rfl rfl ?_
        refine Rn.bipush dX0_of_14 rfl bp_6 ?_
        refine Rn.icmp_geN (tgt := 23) dX0_of_16 rfl (by decide) (by omega) (by omega) (fun c16 => ?_) (fun c16 => ?_)
        · first | omega | exact False.elim c16
        · refine Rn.iconst dX0_of_19 rfl ic_1 ?_
          refine Rn.goto (tgt := 24) dX0_of_20 (by decide) ?_
          refine Rn.istore_n dX0_of_24 rfl (Nat.le_of_ble_eq_true rfl) ?_
          refine Rn.iload_n dX0_of_25 rfl rfl ?_
          refine Rn.if_eqN (tgt := 46) dX0_of_26 rfl (by decide) (by omega) (fun c26 => ?_) (fun c26 => ?_)
          · first | omega | exact False.elim c26
          · refine Rn.aload_n dX0_of_29 rfl rfl ?_
            refine Rn.getf f_X0_11 dX0_of_30 rfl H.1 H.2.2.1 rfl ?_
            refine Rn.bipush dX0_of_33 rfl bp_12 ?_
            refine Rn.iload_n dX0_of_35 rfl rfl ?_
            refine Rn.bipush dX0_of_36 rfl bp_6 ?_
            refine Rn.imulN dX0_of_38 rfl ?_
            refine Rn.iaddN dX0_of_39 rfl ?_
            refine Rn.iload_n dX0_of_40 rfl rfl ?_
            refine Rn.iaddN dX0_of_41 rfl ?_
            refine Rn.ialdN dX0_of_42 rfl H.2.1 H.2.2.2 (by omega) (by omega) ?_
            refine Rn.top (cl_us p hu hw) ?_
            refine Rn.goto (tgt := 47) dX0_of_43 (by decide) ?_
            refine Rn.iret dX0_of_47 rfl rfl rfl ?_
            exact k
theorem t_X0_put {h : rHp} {Q : Option Value → rHp → Prop} {q : Nat} {p : Nat → Nat} (H : Hl h q p) {u w x : Nat} (hu : u < 4) (hw : w < 6) (k : Q none (hp h q (un p (6 * u + w) x))) : Cl M_X0_put h.1 h.2.1 [.ref q, .int (nI u), .int (nI w), .int (nI x)] h Q := by
  refine Cl.of pl_X0 (Nat.le_of_ble_eq_true rfl) (by first | exact Nat.le_refl _ | omega) (by first | exact Nat.le_refl _ | omega) ?_
  refine Rn.iload_n dX0_put_0 rfl rfl ?_
  refine Rn.if_ltN (tgt := 34) dX0_put_1 rfl (by decide) (by omega) (fun c1 => ?_) (fun c1 => ?_)
  · first | omega | exact False.elim c1
  · refine Rn.iload_n dX0_put_4 rfl rfl ?_
    refine Rn.iconst dX0_put_5 rfl ic_4 ?_
    refine Rn.icmp_geN (tgt := 34) dX0_put_6 rfl (by decide) (by omega) (by omega) (fun c6 => ?_) (fun c6 => ?_)
    · first | omega | exact False.elim c6
    · refine Rn.iload_n dX0_put_9 rfl rfl ?_
      refine Rn.if_ltN (tgt := 34) dX0_put_10 rfl (by decide) (by omega) (fun c10 => ?_) (fun c10 => ?_)
      · first | omega | exact False.elim c10
      · refine Rn.iload_n dX0_put_13 rfl rfl ?_
        refine Rn.bipush dX0_put_14 rfl bp_6 ?_
        refine Rn.icmp_geN (tgt := 34) dX0_put_16 rfl (by decide) (by omega) (by omega) (fun c16 => ?_) (fun c16 => ?_)
        · first | omega | exact False.elim c16
        · refine Rn.aload_n dX0_put_19 rfl rfl ?_
          refine Rn.getf f_X0_11 dX0_put_20 rfl H.1 H.2.2.1 rfl ?_
          refine Rn.bipush dX0_put_23 rfl bp_12 ?_
          refine Rn.iload_n dX0_put_25 rfl rfl ?_
          refine Rn.bipush dX0_put_26 rfl bp_6 ?_
          refine Rn.imulN dX0_put_28 rfl ?_
          refine Rn.iaddN dX0_put_29 rfl ?_
          refine Rn.iload_n dX0_put_30 rfl rfl ?_
          refine Rn.iaddN dX0_put_31 rfl ?_
          refine Rn.iload_n dX0_put_32 rfl rfl ?_
          refine Rn.iastN dX0_put_33 rfl H.2.1 H.2.2.2 (by omega) (by omega) ?_
          refine Rn.heap (Hl.upd (upd_us p x hu hw)) ?_
          refine Rn.ret dX0_put_34 rfl rfl rfl ?_
          exact k
theorem t_X0_users {h : rHp} {Q : Option Value → rHp → Prop} {q : Nat} {p : Nat → Nat} (H : Hl h q p) (k : Q (some (.int (nI (p 24)))) h) : Cl M_X0_users h.1 h.2.1 [.ref q] h Q := by
  refine Cl.of pl_X0 (Nat.le_of_ble_eq_true rfl) (by first | exact Nat.le_refl _ | omega) (by first | exact Nat.le_refl _ | omega) ?_
  refine Rn.aload_n dX0_users_0 rfl rfl ?_
  refine Rn.getf f_X0_11 dX0_users_1 rfl H.1 H.2.2.1 rfl ?_
  refine Rn.iconst dX0_users_4 rfl ic_0 ?_
  refine Rn.ialdN dX0_users_5 rfl H.2.1 H.2.2.2 (by omega) (by omega) ?_
  refine Rn.top (cl_0 p) ?_
  refine Rn.iret dX0_users_6 rfl rfl rfl ?_
  exact k
theorem t_X0_window {h : rHp} {Q : Option Value → rHp → Prop} {q : Nat} {p : Nat → Nat} (H : Hl h q p) (k : Q (some (.int (nI (p 25)))) h) : Cl M_X0_window h.1 h.2.1 [.ref q] h Q := by
  refine Cl.of pl_X0 (Nat.le_of_ble_eq_true rfl) (by first | exact Nat.le_refl _ | omega) (by first | exact Nat.le_refl _ | omega) ?_
  refine Rn.aload_n dX0_window_0 rfl rfl ?_
  refine Rn.getf f_X0_11 dX0_window_1 rfl H.1 H.2.2.1 rfl ?_
  refine Rn.iconst dX0_window_4 rfl ic_1 ?_
  refine Rn.ialdN dX0_window_5 rfl H.2.1 H.2.2.2 (by omega) (by omega) ?_
  refine Rn.top (cl_1 p) ?_
  refine Rn.iret dX0_window_6 rfl rfl rfl ?_
  exact k
theorem t_X0_wire {h : rHp} {Q : Option Value → rHp → Prop} {q : Nat} {p : Nat → Nat} (H : Hl h q p) (k : Q (some (.int (wi (p 26)))) h) : Cl M_X0_wire h.1 h.2.1 [.ref q] h Q := by
  refine Cl.of pl_X0 (Nat.le_of_ble_eq_true rfl) (by first | exact Nat.le_refl _ | omega) (by first | exact Nat.le_refl _ | omega) ?_
  refine Rn.aload_n dX0_wire_0 rfl rfl ?_
  refine Rn.getf f_X0_11 dX0_wire_1 rfl H.1 H.2.2.1 rfl ?_
  refine Rn.iconst dX0_wire_4 rfl ic_2 ?_
  refine Rn.ialdN dX0_wire_5 rfl H.2.1 H.2.2.2 (by omega) (by omega) ?_
  refine Rn.top (cl_2 p) ?_
  refine Rn.iret dX0_wire_6 rfl rfl rfl ?_
  exact k
theorem t_X0_heardCount {h : rHp} {Q : Option Value → rHp → Prop} {q : Nat} {p : Nat → Nat} (H : Hl h q p) (k : Q (some (.int (nI (p 27)))) h) : Cl M_X0_heardCount h.1 h.2.1 [.ref q] h Q := by
  refine Cl.of pl_X0 (Nat.le_of_ble_eq_true rfl) (by first | exact Nat.le_refl _ | omega) (by first | exact Nat.le_refl _ | omega) ?_
  refine Rn.aload_n dX0_heardCount_0 rfl rfl ?_
  refine Rn.getf f_X0_11 dX0_heardCount_1 rfl H.1 H.2.2.1 rfl ?_
  refine Rn.iconst dX0_heardCount_4 rfl ic_3 ?_
  refine Rn.ialdN dX0_heardCount_5 rfl H.2.1 H.2.2.2 (by omega) (by omega) ?_
  refine Rn.top (cl_3 p) ?_
  refine Rn.iret dX0_heardCount_6 rfl rfl rfl ?_
  exact k
theorem t_X0_setWindow {h : rHp} {Q : Option Value → rHp → Prop} {q : Nat} {p : Nat → Nat} (H : Hl h q p) {x : Nat} (k : Q none (hp h q (un p 25 x))) : Cl M_X0_setWindow h.1 h.2.1 [.ref q, .int (nI x)] h Q := by
  refine Cl.of pl_X0 (Nat.le_of_ble_eq_true rfl) (by first | exact Nat.le_refl _ | omega) (by first | exact Nat.le_refl _ | omega) ?_
  refine Rn.aload_n dX0_setWindow_0 rfl rfl ?_
  refine Rn.getf f_X0_11 dX0_setWindow_1 rfl H.1 H.2.2.1 rfl ?_
  refine Rn.iconst dX0_setWindow_4 rfl ic_1 ?_
  refine Rn.iload_n dX0_setWindow_5 rfl rfl ?_
  refine Rn.iastN dX0_setWindow_6 rfl H.2.1 H.2.2.2 (by omega) (by omega) ?_
  refine Rn.heap (Hl.upd (upd_c1 p x)) ?_
  refine Rn.ret dX0_setWindow_7 rfl rfl rfl ?_
  exact k
/-! ===== what the hall's methods answer, in Nats ===== -/
def ow (p : Nat → Nat) (u : Nat) : Bool := decide (u < p 24) && decide (0 < p (6 * u + 3))
def ownB (p : Nat → Nat) (x : Int32) : Bool := hasB (p 24) x && decide (0 < p (6 * x.toNatClampNeg + 3))
theorem ownB_nI {p : Nat → Nat} {u : Nat} (hu : u < 2147483648) : ownB p (nI u) = ow p u := by
  unfold ownB ow
  rw [hasB_nI hu, nI_clamp hu]
theorem ow_t {p : Nat → Nat} {u : Nat} (h : ow p u = true) : u < p 24 ∧ 0 < p (6 * u + 3) := by
  unfold ow at h
  rw [Bool.and_eq_true] at h
  exact ⟨of_decide_eq_true h.1, of_decide_eq_true h.2⟩
theorem ow_mk {p : Nat → Nat} {u : Nat} (h : u < p 24) (h2 : 0 < p (6 * u + 3)) : ow p u = true := by
  unfold ow
  rw [decide_eq_true h, decide_eq_true h2]; rfl
theorem ow_no {p : Nat → Nat} {u : Nat} (h2 : p (6 * u + 3) = 0) : ow p u = false := by
  unfold ow
  rw [h2, Bool.and_comm]; rfl
theorem ow_hn {p : Nat → Nat} {u : Nat} (h : ¬ u < p 24) : ow p u = false := by
  unfold ow
  rw [decide_eq_false h]; rfl
theorem ownB_hn {p : Nat → Nat} {x : Int32} (h : hasB (p 24) x = false) : ownB p x = false := by
  unfold ownB
  rw [h]; rfl
theorem ownB_t {p : Nat → Nat} {x : Int32} (O : OKp p) (h : ownB p x = true) : ∃ u, u < 4 ∧ u < p 24 ∧ 0 < p (6 * u + 3) ∧ x = nI u := by
  unfold ownB at h
  rw [Bool.and_eq_true] at h
  obtain ⟨u, hu, rfl⟩ := hasB_of h.1
  have := O.1
  rw [nI_clamp (by omega)] at h
  exact ⟨u, by omega, hu, of_decide_eq_true h.2, rfl⟩
def anyU (p : Nat → Nat) : Nat → Bool
  | 0 => false
  | i + 1 => anyU p i || ow p i
theorem anyU_l {p : Nat → Nat} {i : Nat} (h : anyU p i = true) : nI 1 = bi (anyU p (i + 1)) := by
  show nI 1 = bi (anyU p i || ow p i)
  rw [h, Bool.true_or, bi_t]
theorem anyU_r {p : Nat → Nat} {i : Nat} (h : ow p i = true) : nI 1 = bi (anyU p (i + 1)) := by
  show nI 1 = bi (anyU p i || ow p i)
  rw [h, Bool.or_true, bi_t]
theorem anyU_n {p : Nat → Nat} {i : Nat} (h : anyU p i = false) (h2 : ow p i = false) : nI 0 = bi (anyU p (i + 1)) := by
  show nI 0 = bi (anyU p i || ow p i)
  rw [h, h2, Bool.or_false, bi_f]
def spP (p : Nat → Nat) (u : Nat) : Nat → Nat := if ow p u then un p (6 * u + 3) (p (6 * u + 3) - 1) else p
def brP (p : Nat → Nat) (u v : Nat) : Nat → Nat := if 0 < fitP p u v then un (un (un p 26 (1000 * u + v + 1)) (6 * u + 4) v) (6 * u + 5) (p (6 * u + 5) - fitP p u v) else un p 26 (1000 * u + v + 1)
/-- pass i of a user -/
def psP (p : Nat → Nat) (u i : Nat) : Nat := bh (p (6 * u + 1)) (p (6 * u)) i
def seP (p : Nat → Nat) (u : Nat) : Nat → Nat := if ow p u then brP (spP p u) u (psP p u (p (6 * u + 3) - 1)) else p
def seK (p : Nat → Nat) (u : Nat) : Nat := if ow p u then fitP p u (psP p u (p (6 * u + 3) - 1)) else 0
def stp (p : Nat → Nat) (u : Nat) : Bool := ow p u && decide (0 < fitP p u (psP p u (p (6 * u + 3) - 1)))
theorem fitP_cong {p p' : Nat → Nat} {u v : Nat} (h1 : p' (6 * u + 1) = p (6 * u + 1)) (h4 : p' (6 * u + 4) = p (6 * u + 4)) (h5 : p' (6 * u + 5) = p (6 * u + 5)) (hw : p' 25 = p 25) : fitP p' u v = fitP p u v := by
  unfold fitP
  rw [h1, h4, h5, hw]
theorem fitP_26 (p : Nat → Nat) {u : Nat} (hu : u < 4) (x v : Nat) : fitP (un p 26 x) u v = fitP p u v := fitP_cong (un_ne p x (by omega)) (un_ne p x (by omega)) (un_ne p x (by omega)) (un_ne p x (by omega))
theorem fitP_own (p : Nat → Nat) {u : Nat} (hu : u < 4) (x v w : Nat) (hw : w < 4) : fitP (un p (6 * w + 3) x) u v = fitP p u v := fitP_cong (un_ne p x (by omega)) (un_ne p x (by omega)) (un_ne p x (by omega)) (un_ne p x (by omega))
theorem fitP_le (p : Nat → Nat) (u v : Nat) : fitP p u v ≤ p (6 * u + 5) := Nat.le_trans (fit_le _ _ _ _) (Nat.min_le_right _ _)
theorem psP_own (p : Nat → Nat) {u : Nat} (hu : u < 4) (x i w : Nat) (hw : w < 4) : psP (un p (6 * w + 3) x) u i = psP p u i := by
  unfold psP
  rw [un_ne p x (by omega), un_ne p x (by omega)]
theorem psP_lt {p : Nat → Nat} (O : OKp p) {u : Nat} (hu : u < 4) (i : Nat) : psP p u i < 251 := bh_lt (O.us hu).1 i
/-- the first of own passes that fits, as a gap -/
def gpL (p : Nat → Nat) (u : Nat) : Nat → Nat → Int32
  | 0, _ => -9
  | n + 1, i => if 0 < fitP p u (psP p u i) then nI (p (6 * u + 3) - 1 - i) else gpL p u n (i + 1)
/-- how many there are; the first one -/
def cnt (f : Nat → Bool) : Nat → Nat
  | 0 => 0
  | n + 1 => cnt f n + if f n then 1 else 0
theorem cnt_le (f : Nat → Bool) : ∀ n, cnt f n ≤ n
  | 0 => Nat.le_refl _
  | n + 1 => by have := cnt_le f n; show cnt f n + (if f n then 1 else 0) ≤ n + 1; split <;> omega
theorem cnt_cong {f g : Nat → Bool} : ∀ n, (∀ i, i < n → f i = g i) → cnt f n = cnt g n
  | 0, _ => rfl
  | n + 1, h => by
    show cnt f n + _ = cnt g n + _
    rw [cnt_cong n (fun i hi => h i (by omega)), h n (by omega)]
def lsL (f : Nat → Bool) : Nat → Nat → Int32
  | 0, _ => -9
  | n + 1, v => if f v then nI v else lsL f n (v + 1)
def fB (p : Nat → Nat) (u v : Nat) : Bool := decide (0 < fitP p u v)
def hdI (p : Nat → Nat) (x : Int32) : Int32 := if hasB (p 27) x then nI (p (28 + x.toNatClampNeg)) else -9
def ovP (p : Nat → Nat) : Nat → Nat := un (un p (28 + p 27) (p 26 - 1)) 27 (p 27 + 1)
def lsr (a b : Nat) : Nat := if a = 0 then b else if b = 0 then a else min a b
/-- the least of x and what is behind it, n of them, that fits; none: 0; else one more than it -/
def lfL (p : Nat → Nat) (u : Nat) : Nat → Nat → Nat → Nat
  | 0, _, acc => acc
  | n + 1, x, acc => lfL p u n (nx (p (6 * u + 1)) x) (if 0 < fitP p u x then lsr acc (x + 1) else acc)
def lfP (p : Nat → Nat) (u v : Nat) : Nat := lfL p u 11 v 0
def stL (p : Nat → Nat) (u : Nat) : Nat → Nat → Nat → Nat
  | 0, _, acc => acc
  | n + 1, i, acc => stL p u n (i + 1) (if i < p 27 ∧ p (28 + i) / 1000 = u then lsr acc (lfP p u (p (28 + i) % 1000)) else acc)
def bgP (p : Nat → Nat) (u s t n : Nat) : Nat → Nat := un (un (un (un (un (un p (6 * u) s) (6 * u + 1) t) (6 * u + 2) n) (6 * u + 3) n) (6 * u + 4) (bh t s n)) (6 * u + 5) n
def adP (p : Nat → Nat) (s t n : Nat) : Nat → Nat := bgP (un p 24 (p 24 + 1)) (p 24) s t n
def p0 : Nat → Nat := fun i => if i = 25 then 1 else 0
theorem wi_0 : wi 0 = -9 := rfl
theorem wi_s (x : Nat) : wi (x + 1) = nI x := rfl
theorem wi_ne {x : Nat} (hx : x < 100000) (h : x ≠ 0) : ¬ wi x = -9 := by
  obtain ⟨y, rfl⟩ : ∃ y, x = y + 1 := ⟨x - 1, by omega⟩
  intro e
  have e1 : nI y = -9 := e
  have e2 := congrArg Int32.toInt e1
  rw [nI_toInt (by omega)] at e2
  have : (-9 : Int32).toInt = -9 := by decide
  omega
theorem wi_m9 {x : Nat} (hx : x < 100000) : wi x = -9 ↔ x = 0 := ⟨fun e => Classical.byContradiction fun h => wi_ne hx h e, fun e => by rw [e]; rfl⟩
