theorem CI_up {h h' : rHp} {t : Nat → Nat} {ln : Nat} {p : Nat → Nat} {U : Nat → Nat → Nat} {a : Nat} {Kp : Nat → Nat → Nat} {ik : Nat → Bool} {su sp sn : Nat → Nat} {sz : Nat} {d : Int64} (C : CI h t ln p U a Kp ik su sp sn sz d) (e : 15 ≤ h'.1) (f : ∀ i, i < 15 → h'.2.2 i = h.2.2 i) : CI h' t ln p U a Kp ik su sp sn sz d := by
  obtain ⟨pl, pt, B, KP, IK, n, C1, T, H, G, S, E, R1, R2⟩ := C
  exact ⟨pl, pt, B, KP, IK, n, ⟨(f 0 (by omega)).trans C1.1, by omega⟩, ⟨(f 1 (by omega)).trans T.1, (f 2 (by omega)).trans T.2.1, by omega, by omega⟩, ⟨(f 3 (by omega)).trans H.1, (f 4 (by omega)).trans H.2.1, by omega, by omega⟩, ⟨(f 5 (by omega)).trans G.1, (f 6 (by omega)).trans G.2.1, by omega, by omega⟩, ⟨(f 7 (by omega)).trans S.1, (f 8 (by omega)).trans S.2.1, (f 9 (by omega)).trans S.2.2.1, (f 10 (by omega)).trans S.2.2.2.1, by omega⟩, ⟨(f 11 (by omega)).trans E.1, (f 12 (by omega)).trans E.2.1, (f 13 (by omega)).trans E.2.2.1, (f 14 (by omega)).trans E.2.2.2.1, by omega⟩, R1, R2⟩
theorem Rn.iinc5N {K : rK} {Q : Option Value → rHp → Prop} {pc pc' : Nat} {lv : List (Nat × Value)} {st : List Value} {h : rHp} {i x : Nat} (hd : decode K.1.2.1 pc = .ok (.iinc i 5, 3)) (hp : pc + 3 = pc') (hl : rl lv i = some (.int (nI x))) (hb : i < K.1.2.2.1) (k : Rn K Q pc' (sl1 lv i (.int (nI (x + 5)))) st h) : Rn K Q pc lv st h := Rn.iinc hd hp hl (by rw [← nI_add]; rfl) hb k
theorem law_loop {L : Nat} {xs : Nat → Int32} {bb : UInt32} {Q : Option Value → rHp → Prop} (hL : L ≤ 2560) (k : ∀ h : rHp, h.1 = 28 → h.2.1 = 1902 → Q (some (.int (nI 1))) h) : ∀ (m : Nat) (i : Nat) (h : rHp) (t : Nat → Nat) (ln : Nat) (p : Nat → Nat) (U : Nat → Nat → Nat) (a : Nat) (Kp : Nat → Nat → Nat) (ik : Nat → Bool) (su sp sn : Nat → Nat) (sz : Nat) (d : Int64), 2600 - i < m → i ≤ 2565 → CI h t ln p U a Kp ik su sp sn sz d → MI h t ln p U a Kp ik su sp sn sz d → OKs t ln p U a Kp ik su sp sn sz → h.1 = 28 → h.2.1 = 1902 → Rn (M_L_law, some (L, xs), 28, 1902) Q 18 [(0, .float bb), (1, .ref 0), (2, .ref 15), (3, .int (nI i))] [] h := by
  intro m
  induction m with
  | zero => intro i h t ln p U a Kp ik su sp sn sz d h0; exact absurd h0 (Nat.not_lt_zero _)
  | succ m ih =>
    intro i h t ln p U a Kp ik su sp sn sz d h0 h1 C0 M0 O0 e1 e2
    refine Rn.iload_n dL_law_18 rfl rfl ?_
    refine Rn.aload_nS dL_law_19 rfl rfl ?_
    refine Rn.slen rfl dL_law_20 rfl ?_
    refine Rn.iconst dL_law_21 rfl ic_5 ?_
    refine Rn.isub dL_law_22 rfl ?_
    refine Rn.icmp_gt (tgt := 1103) dL_law_23 rfl (by decide) (fun c23 => ?_) (fun c23 => ?_)
    · refine Rn.iconst dL_law_1103 rfl ic_1 ?_
      exact Rn.zret dL_law_1104 rfl (by decide) e1 e2 (k h e1 e2)
    · have hi' : i + 5 ≤ L := sc_le hL (by omega) c23
      have hgo : ∀ (h : rHp) (t : Nat → Nat) (ln : Nat) (p : Nat → Nat) (U : Nat → Nat → Nat) (a : Nat) (Kp : Nat → Nat → Nat) (ik : Nat → Bool) (su sp sn : Nat → Nat) (sz : Nat) (d : Int64), CI h t ln p U a Kp ik su sp sn sz d → MI h t ln p U a Kp ik su sp sn sz d → OKs t ln p U a Kp ik su sp sn sz → h.1 = 28 → h.2.1 = 1902 → Rn (M_L_law, some (L, xs), 28, 1902) Q 1097 [(0, .float bb), (1, .ref 0), (2, .ref 15), (3, .int (nI i))] [] h := by
        intro h t ln p U a Kp ik su sp sn sz d C M O q1 q2
        refine Rn.iinc5N dL_law_1097 rfl rfl (Nat.le_of_ble_eq_true rfl) ?_
        refine Rn.goto (tgt := 18) dL_law_1100 (by decide) ?_
        exact Rn.pick [1, 2, 3, 0] rfl (ih (i + 5) h t ln p U a Kp ik su sp sn sz d (by omega) (by omega) C M O q1 q2)
      refine Rn.aload_nS dL_law_26 rfl rfl ?_
      refine Rn.iload_n dL_law_27 rfl rfl ?_
      refine Rn.sldN rfl dL_law_28 rfl (by omega) (by omega) ?_
      refine Rn.bipush dL_law_29 rfl bp_31 ?_
      refine Rn.iand dL_law_31 rfl ?_
      refine Rn.tswR (n := 29) (tgtD := 1097) dL_law_32 rfl (by decide) (by decide) (fun _ => hgo _ _ _ _ _ _ _ _ _ _ _ _ _ C0 M0 O0 e1 e2) (fun j hj _ => ?_)
      rcases (show j = 0 ∨ j = 1 ∨ j = 2 ∨ j = 3 ∨ j = 4 ∨ j = 5 ∨ j = 6 ∨ j = 7 ∨ j = 8 ∨ j = 9 ∨ j = 10 ∨ j = 11 ∨ j = 12 ∨ j = 13 ∨ j = 14 ∨ j = 15 ∨ j = 16 ∨ j = 17 ∨ j = 18 ∨ j = 19 ∨ j = 20 ∨ j = 21 ∨ j = 22 ∨ j = 23 ∨ j = 24 ∨ j = 25 ∨ j = 26 ∨ j = 27 ∨ j = 28 ∨ j = 29 by omega) with rfl | rfl | rfl | rfl | rfl | rfl | rfl | rfl | rfl | rfl | rfl | rfl | rfl | rfl | rfl | rfl | rfl | rfl | rfl | rfl | rfl | rfl | rfl | rfl | rfl | rfl | rfl | rfl | rfl | rfl
      · exact ⟨136, 168, rfl, by decide, law_0 hL hi' C0 M0 O0 e1 e2 hgo⟩
      · exact ⟨159, 191, rfl, by decide, law_1 hL hi' C0 M0 O0 e1 e2 hgo⟩
      · exact ⟨172, 204, rfl, by decide, law_2 hL hi' C0 M0 O0 e1 e2 hgo⟩
      · exact ⟨185, 217, rfl, by decide, law_3 hL hi' C0 M0 O0 e1 e2 hgo⟩
      · exact ⟨198, 230, rfl, by decide, law_4 hL hi' C0 M0 O0 e1 e2 hgo⟩
      · exact ⟨231, 263, rfl, by decide, law_5 hL hi' C0 M0 O0 e1 e2 hgo⟩
      · exact ⟨264, 296, rfl, by decide, law_6 hL hi' C0 M0 O0 e1 e2 hgo⟩
      · exact ⟨307, 339, rfl, by decide, law_7 hL hi' C0 M0 O0 e1 e2 hgo⟩
      · exact ⟨330, 362, rfl, by decide, law_8 hL hi' C0 M0 O0 e1 e2 hgo⟩
      · exact ⟨353, 385, rfl, by decide, law_9 hL hi' C0 M0 O0 e1 e2 hgo⟩
      · exact ⟨386, 418, rfl, by decide, law_10 hL hi' C0 M0 O0 e1 e2 hgo⟩
      · exact ⟨399, 431, rfl, by decide, law_11 hL hi' C0 M0 O0 e1 e2 hgo⟩
      · exact ⟨452, 484, rfl, by decide, law_12 hL hi' C0 M0 O0 e1 e2 hgo⟩
      · exact ⟨475, 507, rfl, by decide, law_13 hL hi' C0 M0 O0 e1 e2 hgo⟩
      · exact ⟨488, 520, rfl, by decide, law_14 hL hi' C0 M0 O0 e1 e2 hgo⟩
      · exact ⟨521, 553, rfl, by decide, law_15 hL hi' C0 M0 O0 e1 e2 hgo⟩
      · exact ⟨554, 586, rfl, by decide, law_16 hL hi' C0 M0 O0 e1 e2 hgo⟩
      · exact ⟨577, 609, rfl, by decide, law_17 hL hi' C0 M0 O0 e1 e2 hgo⟩
      · exact ⟨600, 632, rfl, by decide, law_18 hL hi' C0 M0 O0 e1 e2 hgo⟩
      · exact ⟨663, 695, rfl, by decide, law_19 hL hi' C0 M0 O0 e1 e2 hgo⟩
      · exact ⟨706, 738, rfl, by decide, law_20 hL hi' C0 M0 O0 e1 e2 hgo⟩
      · exact ⟨719, 751, rfl, by decide, law_21 hL hi' C0 M0 O0 e1 e2 hgo⟩
      · exact ⟨742, 774, rfl, by decide, law_22 hL hi' C0 M0 O0 e1 e2 hgo⟩
      · exact ⟨791, 823, rfl, by decide, law_23 hL hi' C0 M0 O0 e1 e2 hgo⟩
      · exact ⟨850, 882, rfl, by decide, law_24 hL hi' C0 M0 O0 e1 e2 hgo⟩
      · exact ⟨919, 951, rfl, by decide, law_25 hL hi' C0 M0 O0 e1 e2 hgo⟩
      · exact ⟨973, 1005, rfl, by decide, law_26 hL hi' C0 M0 O0 e1 e2 hgo⟩
      · exact ⟨996, 1028, rfl, by decide, law_27 hL hi' C0 M0 O0 e1 e2 hgo⟩
      · exact ⟨1019, 1051, rfl, by decide, law_28 hL hi' C0 M0 O0 e1 e2 hgo⟩
      · exact ⟨1042, 1074, rfl, by decide, law_29 hL hi' C0 M0 O0 e1 e2 hgo⟩
theorem law_all {L : Nat} {xs : Nat → Int32} {Q : Option Value → rHp → Prop} {f : Nat → rCell} (hL : L ≤ 2560) (k : ∀ h : rHp, h.1 = 28 → h.2.1 = 1902 → Q (some (.int (nI 1))) h) : Rn (M_L_law, some (L, xs), 28, 1902) Q 0 [(0, .float 0)] [] (0, 0, f) := by
  refine Rn.new c_L_7 dL_law_0 rfl (Nat.le_of_ble_eq_true rfl) (Nat.le_of_ble_eq_true rfl) ?_
  refine Rn.absN (fun h1 a1 b1 c1 f1 => ?_)
  refine Rn.dup dL_law_3 rfl rfl ?_
  refine Rn.callI (as := []) i_X4_init l_L_9 ⟨Nat.le_of_ble_eq_true rfl, Nat.le_of_ble_eq_true rfl⟩ dL_law_4 rfl rfl (Nat.le_of_ble_eq_true rfl) (Nat.le_of_ble_eq_true rfl) (Nat.le_of_ble_eq_true rfl) (t_X4_init a1 b1 c1 (fun h2 a2 b2 C2 => ?_))
  refine Rn.astore_n dL_law_7 rfl (Nat.le_of_ble_eq_true rfl) ?_
  refine Rn.new c_L_10 dL_law_8 rfl (by rw [a2]; exact Nat.le_of_ble_eq_true rfl) (by rw [b2]; exact Nat.le_of_ble_eq_true rfl) ?_
  refine Rn.absN (fun h3 a3 b3 c3 f3 => ?_)
  rw [a2] at a3 c3 f3 ⊢
  rw [b2] at b3
  have C3 := CI_up C2 (by rw [a3]; omega) (fun i hi => f3 i (by omega))
  refine Rn.dup dL_law_11 rfl rfl ?_
  refine Rn.callI (as := []) i_X5_init l_L_12 ⟨Nat.le_of_ble_eq_true rfl, Nat.le_of_ble_eq_true rfl⟩ dL_law_12 rfl rfl (Nat.le_of_ble_eq_true rfl) (Nat.le_of_ble_eq_true rfl) (Nat.le_of_ble_eq_true rfl) (t_X5_init a3 b3 c3 (fun h4 a4 b4 M4 f4 => ?_))
  have C4 := CI_up C3 (by rw [a4]; omega) f4
  refine Rn.astore_n dL_law_15 rfl (Nat.le_of_ble_eq_true rfl) ?_
  refine Rn.iconst dL_law_16 rfl ic_0 ?_
  refine Rn.istore_n dL_law_17 rfl (Nat.le_of_ble_eq_true rfl) ?_
  exact Rn.pick [3, 2, 1, 0] rfl (law_loop hL k 2601 0 h4 _ _ _ _ _ _ _ _ _ _ _ _ (by omega) (by omega) C4 M4 ⟨fun _ => by show 0 < 256; omega, by omega, OK_p0, fun j hj => absurd hj (Nat.not_lt_zero _), fun s hs hb => (by cases hb), by omega, fun _ _ => (by show 0 < 4; omega), fun _ _ => (by show 0 ≤ 29; omega), fun _ _ => (by show 0 < 251; omega)⟩ a4 b4)
