/-! ===== the law: what stays, what goes on ===== -/
section LAWP
variable {h h' : rHp} {t : Nat → Nat} {ln : Nat} {p : Nat → Nat} {U : Nat → Nat → Nat} {a : Nat} {Kp : Nat → Nat → Nat} {ik : Nat → Bool} {su sp sn : Nat → Nat} {sz : Nat} {d : Int64}
theorem MI_fr (M : MI h t ln p U a Kp ik su sp sn sz d) (F : Fr h h') : MI h' t ln p U a Kp ik su sp sn sz d := by
  obtain ⟨th, pl, rm, rp, ev, tp, BK, KM, IK, FF, M15, M16, M17, M18, M19, M20, M21, M22, M23, M24, M25, M26, M27, ML, RMh, RKh⟩ := M
  have f := F.2.2
  exact ⟨th, pl, rm, rp, ev, tp, BK, KM, IK, FF, (f 15 (by omega)).trans M15, (f 16 (by omega)).trans M16, (f 17 (by omega)).trans M17, (f 18 (by omega)).trans M18, (f 19 (by omega)).trans M19, (f 20 (by omega)).trans M20, (f 21 (by omega)).trans M21, (f 22 (by omega)).trans M22, (f 23 (by omega)).trans M23, (f 24 (by omega)).trans M24, (f 25 (by omega)).trans M25, (f 26 (by omega)).trans M26, (f 27 (by omega)).trans M27, by rw [F.1]; exact ML, RMh, RKh⟩
theorem CI_fm (C : CI h t ln p U a Kp ik su sp sn sz d) (F : Fm h h') : CI h' t ln p U a Kp ik su sp sn sz d := by
  obtain ⟨pl, pt, B, KP, IK, n, C1, T, H, G, S, E, R1, R2⟩ := C
  have f := F.2.2
  have e := F.1
  exact ⟨pl, pt, B, KP, IK, n, ⟨(f 0 (by omega)).trans C1.1, by rw [e]; exact C1.2⟩, ⟨(f 1 (by omega)).trans T.1, (f 2 (by omega)).trans T.2.1, by rw [e]; exact T.2.2.1, by rw [e]; exact T.2.2.2⟩, ⟨(f 3 (by omega)).trans H.1, (f 4 (by omega)).trans H.2.1, by rw [e]; exact H.2.2.1, by rw [e]; exact H.2.2.2⟩, ⟨(f 5 (by omega)).trans G.1, (f 6 (by omega)).trans G.2.1, by rw [e]; exact G.2.2.1, by rw [e]; exact G.2.2.2⟩, ⟨(f 7 (by omega)).trans S.1, (f 8 (by omega)).trans S.2.1, (f 9 (by omega)).trans S.2.2.1, (f 10 (by omega)).trans S.2.2.2.1, by rw [e]; exact S.2.2.2.2⟩, ⟨(f 11 (by omega)).trans E.1, (f 12 (by omega)).trans E.2.1, (f 13 (by omega)).trans E.2.2.1, (f 14 (by omega)).trans E.2.2.2.1, by rw [e]; exact E.2.2.2.2⟩, R1, R2⟩
theorem CIA_fm {A : Option (Nat → Nat)} (C : CIA h t ln p U a Kp ik su sp sn sz d A) (F : Fm h h') : CIA h' t ln p U a Kp ik su sp sn sz d A := by
  cases A with
  | none => exact CI_fm C F
  | some p' => exact CI_fm C F
theorem MI_15 (M : MI h t ln p U a Kp ik su sp sn sz d) : ∃ fs, h.2.2 15 = .inr (.inr (5, fs)) := by
  obtain ⟨th, pl, rm, rp, ev, tp, BK, KM, IK, FF, M15, _⟩ := M
  exact ⟨_, M15⟩
theorem CI_0 (C : CI h t ln p U a Kp ik su sp sn sz d) : h.2.2 0 = .inr (.inr (4, [.ref 1, .ref 3, .ref 5, .ref 7, .ref 11, .long d])) := by
  obtain ⟨pl, pt, B, KP, IK, n, C1, _⟩ := C
  exact C1.1
theorem ok_wr (O : OKs t ln p U a Kp ik su sp sn sz) (x : Int32) : OKs (wrA t ln x).2.1 (wrA t ln x).2.2 p U a Kp ik su sp sn sz := by
  obtain ⟨o1, o2, o3⟩ := O
  unfold wrA
  split
  · next hw =>
    split
    · exact ⟨o1, o2, o3⟩
    · next h80 =>
      obtain ⟨y, hy, rfl⟩ := isW_of hw (by omega)
      refine ⟨fun i => ?_, by show ln + 1 ≤ 80; omega, o3⟩
      show un t ln (xn (nI y)) i < 256
      rw [xn_nI (by omega), un_at]
      split
      · omega
      · exact o1 i
  · exact ⟨o1, o2, o3⟩
theorem ok_wp (O : OKs t ln p U a Kp ik su sp sn sz) : OKs t 0 p U a Kp ik su sp sn sz := ⟨O.1, by omega, O.2.2⟩
theorem ok_us (O : OKs t ln p U a Kp ik su sp sn sz) : OKs t ln p U a Kp ik su sp sn 0 := by
  obtain ⟨o1, o2, o3, o4, o5, o6, o7⟩ := O
  exact ⟨o1, o2, o3, o4, o5, by omega, o7⟩
theorem ok_sy (O : OKs t ln p U a Kp ik su sp sn sz) (x i v : Int32) : OKs t ln p U a Kp ik (syA su sp sn sz x i v).2.1 (syA su sp sn sz x i v).2.2.1 (syA su sp sn sz x i v).2.2.2.1 (syA su sp sn sz x i v).2.2.2.2 := by
  obtain ⟨o1, o2, o3, o4, o5, o6, o7, o8, o9⟩ := O
  unfold syA
  split
  · next h1 =>
    split
    · next h2 =>
      split
      · exact ⟨o1, o2, o3, o4, o5, o6, o7, o8, o9⟩
      · next h6 =>
        rw [Bool.and_eq_true] at h2
        obtain ⟨y1, hy1, rfl⟩ := isW_of h1 (by omega)
        obtain ⟨y2, hy2, rfl⟩ := isW_of h2.1 (by omega)
        obtain ⟨y3, hy3, rfl⟩ := isW_of h2.2 (by omega)
        refine ⟨o1, o2, o3, o4, o5, by show sz + 1 ≤ 6; omega, fun i hi => ?_, fun i hi => ?_, fun i hi => ?_⟩
        · show un su sz (xn (nI y1)) i < 4
          rw [xn_nI (by omega), un_at]
          split
          · omega
          · exact o7 i hi
        · show un sp sz (xn (nI y2)) i ≤ 29
          rw [xn_nI (by omega), un_at]
          split
          · omega
          · exact o8 i hi
        · show un sn sz (xn (nI y3)) i < 251
          rw [xn_nI (by omega), un_at]
          split
          · omega
          · exact o9 i hi
    · exact ⟨o1, o2, o3, o4, o5, o6, o7, o8, o9⟩
  · exact ⟨o1, o2, o3, o4, o5, o6, o7, o8, o9⟩
theorem ok_ud (O : OKs t ln p U a Kp ik su sp sn sz) : OKs t ln (unA p U a).2.1 U (unA p U a).2.2 Kp ik su sp sn sz := by
  obtain ⟨o1, o2, o3, o4, o5⟩ := O
  unfold unA
  split
  · exact ⟨o1, o2, o3, o4, o5⟩
  · exact ⟨o1, o2, o4 (a - 1) (by omega), fun j hj => o4 j (by have : j < a - 1 := hj; omega), o5⟩
theorem ok_kp (O : OKs t ln p U a Kp ik su sp sn sz) (x : Int32) : OKs t ln p U a (kpA p Kp ik x).2.1 (kpA p Kp ik x).2.2 su sp sn sz := by
  obtain ⟨o1, o2, o3, o4, o5, o6⟩ := O
  unfold kpA
  split
  · refine ⟨o1, o2, o3, o4, fun s hs hb => ?_, o6⟩
    show OKp (if s = xn x then p else Kp s)
    by_cases e : s = xn x
    · rw [if_pos e]; exact o3
    · rw [if_neg e]
      refine o5 s hs ?_
      have hb' : (if s = xn x then true else ik s) = true := hb
      rw [if_neg e] at hb'
      exact hb'
  · exact ⟨o1, o2, o3, o4, o5, o6⟩
theorem ok_ag (O : OKs t ln p U a Kp ik su sp sn sz) (x : Int32) : OKs t ln (agA p a Kp ik x).2.1 U (agA p a Kp ik x).2.2 Kp ik su sp sn sz := by
  obtain ⟨o1, o2, o3, o4, o5⟩ := O
  unfold agA
  split
  · next hw =>
    split
    · next hk =>
      obtain ⟨y, hy, rfl⟩ := isW_of hw (by omega)
      rw [xn_nI (by omega)] at hk ⊢
      exact ⟨o1, o2, o5.1 y hy hk, fun j hj => absurd hj (Nat.not_lt_zero _), o5⟩
    · exact ⟨o1, o2, o3, o4, o5⟩
  · exact ⟨o1, o2, o3, o4, o5⟩
theorem ok_dk (O : OKs t ln p U a Kp ik su sp sn sz) (Od : OKp (dkA t ln p a ik).2.1) : OKs t ln (dkA t ln p a ik).2.1 U (dkA t ln p a ik).2.2.1 Kp (dkA t ln p a ik).2.2.2 su sp sn sz := by
  obtain ⟨o1, o2, o3, o4, o5, o6⟩ := O
  unfold dkA at Od ⊢
  split
  · next hz =>
    rw [if_pos hz] at Od
    exact ⟨o1, o2, Od, fun j hj => absurd hj (Nat.not_lt_zero _), fun s hs hb => (by cases hb), o6⟩
  · exact ⟨o1, o2, o3, o4, o5, o6⟩
theorem ok_act (O : OKs t ln p U a Kp ik su sp sn sz) {p' : Nat → Nat} (Op' : OKp p') : OKs t ln p' (pushU U a p) (min (a + 1) 14) Kp ik su sp sn sz := by
  obtain ⟨o1, o2, o3, o4, o5⟩ := O
  refine ⟨o1, o2, Op', fun j hj => ?_, o5⟩
  unfold pushU
  by_cases c : a < 14
  · rw [if_pos c]
    by_cases e : j = a
    · rw [if_pos e]; exact o3
    · rw [if_neg e]; exact o4 j (by omega)
  · rw [if_neg c]
    by_cases e : j = 13
    · rw [if_pos e]; exact o3
    · rw [if_neg e]; exact o4 (j + 1) (by omega)
end LAWP
theorem hasB_lt {p : Nat → Nat} (O : OKp p) {x : Int32} (h : hasB (p 24) x = true) : xn x < 4 := by
  obtain ⟨u, hu, rfl⟩ := hasB_of h
  have := O.1
  rw [xn_nI (by omega)]; omega
theorem isW_lt {x : Int32} {n : Nat} (hn : n < 2147483648) (h : isW x (nI 0) (nI n) = true) : xn x ≤ n := by
  obtain ⟨u, hu, rfl⟩ := isW_of h hn
  rw [xn_nI (by omega)]; omega
theorem oa_se {p : Nat → Nat} (O : OKp p) (x : Int32) : ∀ p', (seA p x).2 = some p' → OKp p' := by
  intro p' e
  unfold seA at e
  split at e
  · next h1 =>
    split at e
    · cases e; exact OK_se O (hasB_lt O h1)
    · cases e
  · cases e
theorem oa_mi {p : Nat → Nat} (O : OKp p) (x : Int32) : ∀ p', (miA p x).2 = some p' → OKp p' := by
  intro p' e
  unfold miA at e
  split at e
  · next h1 =>
    split at e
    · cases e; exact OK_sp O (hasB_lt O h1)
    · cases e
  · cases e
theorem oa_at {p : Nat → Nat} (O : OKp p) (x v : Int32) : ∀ p', (atA p x v).2 = some p' → OKp p' := by
  intro p' e
  unfold atA at e
  split at e
  · next h1 =>
    split at e
    · next h2 => cases e; exact OK_br O (hasB_lt O h1) (Nat.lt_succ_of_le (isW_lt (by omega) h2))
    · cases e
  · cases e
theorem oa_wd {p : Nat → Nat} (O : OKp p) (x : Int32) : ∀ p', (wdA p x).2 = some p' → OKp p' := by
  intro p' e
  unfold wdA at e
  split at e
  · next h1 =>
    cases e
    obtain ⟨y, y1, y2, rfl⟩ := isW_of2 h1 (by omega) (by omega)
    rw [xn_nI (by omega)]
    exact OK_win O y1 y2
  · cases e
theorem oa_he {p : Nat → Nat} (O : OKp p) : ∀ p', (heA p).2 = some p' → OKp p' := by
  intro p' e
  unfold heA at e
  split at e
  · cases e
  · next h1 =>
    split at e
    · cases e
    · next h2 =>
      cases e
      obtain ⟨o1, o2, o3, o4, o5, o6, o7⟩ := O
      unfold ovP
      refine ⟨by rw [un_ne _ _ (by omega), un_ne _ _ (by omega)]; exact o1, by rw [un_ne _ _ (by omega), un_ne _ _ (by omega)]; exact o2, by rw [un_ne _ _ (by omega), un_ne _ _ (by omega)]; exact o3, by rw [un_eq]; omega, fun u hu => ?_, fun i hi => ?_, by rw [un_ne _ _ (by omega), un_ne _ _ (by omega)]; exact o7⟩
      · have := o5 u hu
        rw [un_ne _ _ (by omega), un_ne _ _ (by omega), un_ne _ _ (by omega), un_ne _ _ (by omega), un_ne _ _ (by omega), un_ne _ _ (by omega), un_ne _ _ (by omega), un_ne _ _ (by omega), un_ne _ _ (by omega), un_ne _ _ (by omega), un_ne _ _ (by omega), un_ne _ _ (by omega)]
        exact this
      · rw [un_ne _ _ (by omega), un_at]
        split
        · exact o7.resolve_left h1
        · exact o6 i hi
theorem oa_re {p : Nat → Nat} (O : OKp p) (x s t n : Int32) : ∀ p', (reA p x s t n).2 = some p' → OKp p' := by
  intro p' e
  unfold reA at e
  split at e
  · next h1 =>
    split at e
    · next h2 =>
      split at e
      · cases e
        rw [Bool.and_eq_true, Bool.and_eq_true] at h2
        have OS := OK_se O (hasB_lt O h1)
        split
        · obtain ⟨y, y1, y2, rfl⟩ := isW_of2 h2.2.2 (by omega) (by omega)
          rw [xn_nI (show y < 2147483648 by omega)]
          exact OK_bg OS (hasB_lt O h1) (Nat.lt_succ_of_le (isW_lt (by omega) h2.1)) (Nat.lt_succ_of_le (isW_lt (by omega) h2.2.1)) y2
        · exact OS
      · cases e
    · cases e
  · cases e
theorem sc_le {i L : Nat} (hL : L ≤ 2560) (hi : i ≤ 2570) (c : ¬ nI i > nI L - nI 5) : i + 5 ≤ L := by
  have e : (nI L - nI 5).toInt = (L : Int) - 5 := by
    rw [Jvm.Kit.i32_sub (by rw [nI_toInt (by omega), nI_toInt (by omega)]; omega) (by rw [nI_toInt (by omega), nI_toInt (by omega)]; omega), nI_toInt (by omega), nI_toInt (by omega)]
    rfl
  have c1 : ¬ nI L - nI 5 < nI i := c
  rw [Int32.lt_iff_toInt_lt, e, nI_toInt (by omega)] at c1
  omega
theorem law_0 {L : Nat} {xs : Nat → Int32} {bb : UInt32} {Q : Option Value → rHp → Prop} {h : rHp} {t : Nat → Nat} {ln : Nat} {p : Nat → Nat} {U : Nat → Nat → Nat} {a : Nat} {Kp : Nat → Nat → Nat} {ik : Nat → Bool} {su sp sn : Nat → Nat} {sz : Nat} {d : Int64} {i : Nat} (hL : L ≤ 2560) (hi : i + 5 ≤ L) (C0 : CI h t ln p U a Kp ik su sp sn sz d) (M0 : MI h t ln p U a Kp ik su sp sn sz d) (O0 : OKs t ln p U a Kp ik su sp sn sz) (e1 : h.1 = 28) (e2 : h.2.1 = 1902) (hgo : ∀ (h : rHp) (t : Nat → Nat) (ln : Nat) (p : Nat → Nat) (U : Nat → Nat → Nat) (a : Nat) (Kp : Nat → Nat → Nat) (ik : Nat → Bool) (su sp sn : Nat → Nat) (sz : Nat) (d : Int64), CI h t ln p U a Kp ik su sp sn sz d → MI h t ln p U a Kp ik su sp sn sz d → OKs t ln p U a Kp ik su sp sn sz → h.1 = 28 → h.2.1 = 1902 → Rn (M_L_law, some (L, xs), 28, 1902) Q 1097 [(0, .float bb), (1, .ref 0), (2, .ref 15), (3, .int (nI i))] [] h) : Rn (M_L_law, some (L, xs), 28, 1902) Q 168 [(0, .float bb), (1, .ref 0), (2, .ref 15), (3, .int (nI i))] [] h := by
  refine Rn.aload_n dL_law_168 rfl rfl ?_
  refine Rn.aload_nS dL_law_169 rfl rfl ?_
  refine Rn.iload_n dL_law_170 rfl rfl ?_
  refine Rn.iconst dL_law_171 rfl ic_1 ?_
  refine Rn.iaddN dL_law_172 rfl ?_
  refine Rn.sldN rfl dL_law_173 rfl (by omega) (by omega) ?_
  refine Rn.callV (as := [_]) v_X4_write l_L_13 ⟨Nat.le_of_ble_eq_true rfl, Nat.le_of_ble_eq_true rfl⟩ dL_law_174 rfl rfl (Nat.le_of_ble_eq_true rfl) (CI_0 C0) (by omega) rfl (Nat.le_of_eq e1) (Nat.le_of_eq e2) (t_X4_write C0 O0 (fun h1 C1 F1 => ?_)) 
  · have M1 := MI_fr M0 F1
    obtain ⟨fz, Z1⟩ := MI_15 M1
    have e11 := F1.1.trans e1
    have e12 := F1.2.1.trans e2
    refine Rn.aload_n dL_law_177 rfl rfl ?_
    refine Rn.aload_nS dL_law_178 rfl rfl ?_
    refine Rn.iload_n dL_law_179 rfl rfl ?_
    refine Rn.iconst dL_law_180 rfl ic_1 ?_
    refine Rn.iaddN dL_law_181 rfl ?_
    refine Rn.sldN rfl dL_law_182 rfl (by omega) (by omega) ?_
    refine Rn.callV (as := [_]) v_X5_write l_L_17 ⟨Nat.le_of_ble_eq_true rfl, Nat.le_of_ble_eq_true rfl⟩ dL_law_183 rfl rfl (Nat.le_of_ble_eq_true rfl) Z1 (by omega) rfl (Nat.le_of_eq e11) (Nat.le_of_eq e12) (t_X5_write M1 O0 (fun h2 M2 F2 => ?_)) 
    · have C2 := CI_fm C1 F2
      have e21 := F2.1.trans e11
      have e22 := F2.2.1.trans e12
      refine Rn.icmp_eq (tgt := 1097) dL_law_186 rfl (by decide) (fun c186 => ?_) (fun c186 => ?_)
      · exact hgo _ _ _ _ _ _ _ _ _ _ _ _ _ C2 M2 (ok_wr O0 _) e21 e22
      · exact absurd rfl c186
theorem law_1 {L : Nat} {xs : Nat → Int32} {bb : UInt32} {Q : Option Value → rHp → Prop} {h : rHp} {t : Nat → Nat} {ln : Nat} {p : Nat → Nat} {U : Nat → Nat → Nat} {a : Nat} {Kp : Nat → Nat → Nat} {ik : Nat → Bool} {su sp sn : Nat → Nat} {sz : Nat} {d : Int64} {i : Nat} (hL : L ≤ 2560) (hi : i + 5 ≤ L) (C0 : CI h t ln p U a Kp ik su sp sn sz d) (M0 : MI h t ln p U a Kp ik su sp sn sz d) (O0 : OKs t ln p U a Kp ik su sp sn sz) (e1 : h.1 = 28) (e2 : h.2.1 = 1902) (hgo : ∀ (h : rHp) (t : Nat → Nat) (ln : Nat) (p : Nat → Nat) (U : Nat → Nat → Nat) (a : Nat) (Kp : Nat → Nat → Nat) (ik : Nat → Bool) (su sp sn : Nat → Nat) (sz : Nat) (d : Int64), CI h t ln p U a Kp ik su sp sn sz d → MI h t ln p U a Kp ik su sp sn sz d → OKs t ln p U a Kp ik su sp sn sz → h.1 = 28 → h.2.1 = 1902 → Rn (M_L_law, some (L, xs), 28, 1902) Q 1097 [(0, .float bb), (1, .ref 0), (2, .ref 15), (3, .int (nI i))] [] h) : Rn (M_L_law, some (L, xs), 28, 1902) Q 191 [(0, .float bb), (1, .ref 0), (2, .ref 15), (3, .int (nI i))] [] h := by
  refine Rn.aload_n dL_law_191 rfl rfl ?_
  refine Rn.callV (as := []) v_X4_wipe l_L_18 ⟨Nat.le_of_ble_eq_true rfl, Nat.le_of_ble_eq_true rfl⟩ dL_law_192 rfl rfl (Nat.le_of_ble_eq_true rfl) (CI_0 C0) (by omega) rfl (Nat.le_of_eq e1) (Nat.le_of_eq e2) (t_X4_wipe C0 O0 (fun h1 C1 F1 => ?_)) 
  · have M1 := MI_fr M0 F1
    obtain ⟨fz, Z1⟩ := MI_15 M1
    have e11 := F1.1.trans e1
    have e12 := F1.2.1.trans e2
    refine Rn.aload_n dL_law_195 rfl rfl ?_
    refine Rn.callV (as := []) v_X5_wipe l_L_22 ⟨Nat.le_of_ble_eq_true rfl, Nat.le_of_ble_eq_true rfl⟩ dL_law_196 rfl rfl (Nat.le_of_ble_eq_true rfl) Z1 (by omega) rfl (Nat.le_of_eq e11) (Nat.le_of_eq e12) (t_X5_wipe M1 O0 (fun h2 M2 F2 => ?_)) 
    · have C2 := CI_fm C1 F2
      have e21 := F2.1.trans e11
      have e22 := F2.2.1.trans e12
      refine Rn.icmp_eq (tgt := 1097) dL_law_199 rfl (by decide) (fun c199 => ?_) (fun c199 => ?_)
      · exact hgo _ _ _ _ _ _ _ _ _ _ _ _ _ C2 M2 (ok_wp O0) e21 e22
      · exact absurd rfl c199
theorem law_2 {L : Nat} {xs : Nat → Int32} {bb : UInt32} {Q : Option Value → rHp → Prop} {h : rHp} {t : Nat → Nat} {ln : Nat} {p : Nat → Nat} {U : Nat → Nat → Nat} {a : Nat} {Kp : Nat → Nat → Nat} {ik : Nat → Bool} {su sp sn : Nat → Nat} {sz : Nat} {d : Int64} {i : Nat} (hL : L ≤ 2560) (hi : i + 5 ≤ L) (C0 : CI h t ln p U a Kp ik su sp sn sz d) (M0 : MI h t ln p U a Kp ik su sp sn sz d) (O0 : OKs t ln p U a Kp ik su sp sn sz) (e1 : h.1 = 28) (e2 : h.2.1 = 1902) (hgo : ∀ (h : rHp) (t : Nat → Nat) (ln : Nat) (p : Nat → Nat) (U : Nat → Nat → Nat) (a : Nat) (Kp : Nat → Nat → Nat) (ik : Nat → Bool) (su sp sn : Nat → Nat) (sz : Nat) (d : Int64), CI h t ln p U a Kp ik su sp sn sz d → MI h t ln p U a Kp ik su sp sn sz d → OKs t ln p U a Kp ik su sp sn sz → h.1 = 28 → h.2.1 = 1902 → Rn (M_L_law, some (L, xs), 28, 1902) Q 1097 [(0, .float bb), (1, .ref 0), (2, .ref 15), (3, .int (nI i))] [] h) : Rn (M_L_law, some (L, xs), 28, 1902) Q 204 [(0, .float bb), (1, .ref 0), (2, .ref 15), (3, .int (nI i))] [] h := by
  refine Rn.aload_n dL_law_204 rfl rfl ?_
  refine Rn.callV (as := []) v_X4_fault l_L_23 ⟨Nat.le_of_ble_eq_true rfl, Nat.le_of_ble_eq_true rfl⟩ dL_law_205 rfl rfl (Nat.le_of_ble_eq_true rfl) (CI_0 C0) (by omega) rfl (Nat.le_of_eq e1) (Nat.le_of_eq e2) (t_X4_fault C0 O0 (fun h1 C1 F1 => ?_)) 
  · have M1 := MI_fr M0 F1
    obtain ⟨fz, Z1⟩ := MI_15 M1
    have e11 := F1.1.trans e1
    have e12 := F1.2.1.trans e2
    refine Rn.aload_n dL_law_208 rfl rfl ?_
    refine Rn.callV (as := []) v_X5_fault l_L_26 ⟨Nat.le_of_ble_eq_true rfl, Nat.le_of_ble_eq_true rfl⟩ dL_law_209 rfl rfl (Nat.le_of_ble_eq_true rfl) Z1 (by omega) rfl (Nat.le_of_eq e11) (Nat.le_of_eq e12) (t_X5_fault M1 O0 (fun h2 M2 F2 => ?_)) 
    · have C2 := CI_fm C1 F2
      have e21 := F2.1.trans e11
      have e22 := F2.2.1.trans e12
      refine Rn.icmp_eq (tgt := 1097) dL_law_212 rfl (by decide) (fun c212 => ?_) (fun c212 => ?_)
      · exact hgo _ _ _ _ _ _ _ _ _ _ _ _ _ C2 M2 O0 e21 e22
      · exact absurd rfl c212
theorem law_3 {L : Nat} {xs : Nat → Int32} {bb : UInt32} {Q : Option Value → rHp → Prop} {h : rHp} {t : Nat → Nat} {ln : Nat} {p : Nat → Nat} {U : Nat → Nat → Nat} {a : Nat} {Kp : Nat → Nat → Nat} {ik : Nat → Bool} {su sp sn : Nat → Nat} {sz : Nat} {d : Int64} {i : Nat} (hL : L ≤ 2560) (hi : i + 5 ≤ L) (C0 : CI h t ln p U a Kp ik su sp sn sz d) (M0 : MI h t ln p U a Kp ik su sp sn sz d) (O0 : OKs t ln p U a Kp ik su sp sn sz) (e1 : h.1 = 28) (e2 : h.2.1 = 1902) (hgo : ∀ (h : rHp) (t : Nat → Nat) (ln : Nat) (p : Nat → Nat) (U : Nat → Nat → Nat) (a : Nat) (Kp : Nat → Nat → Nat) (ik : Nat → Bool) (su sp sn : Nat → Nat) (sz : Nat) (d : Int64), CI h t ln p U a Kp ik su sp sn sz d → MI h t ln p U a Kp ik su sp sn sz d → OKs t ln p U a Kp ik su sp sn sz → h.1 = 28 → h.2.1 = 1902 → Rn (M_L_law, some (L, xs), 28, 1902) Q 1097 [(0, .float bb), (1, .ref 0), (2, .ref 15), (3, .int (nI i))] [] h) : Rn (M_L_law, some (L, xs), 28, 1902) Q 217 [(0, .float bb), (1, .ref 0), (2, .ref 15), (3, .int (nI i))] [] h := by
  refine Rn.aload_n dL_law_217 rfl rfl ?_
  refine Rn.callV (as := []) v_X4_desk l_L_27 ⟨Nat.le_of_ble_eq_true rfl, Nat.le_of_ble_eq_true rfl⟩ dL_law_218 rfl rfl (Nat.le_of_ble_eq_true rfl) (CI_0 C0) (by omega) rfl (Nat.le_of_eq e1) (Nat.le_of_eq e2) (t_X4_desk C0 O0 (fun h1 C1 F1 => ?_)) 
  · have M1 := MI_fr M0 F1
    obtain ⟨fz, Z1⟩ := MI_15 M1
    have e11 := F1.1.trans e1
    have e12 := F1.2.1.trans e2
    refine Rn.aload_n dL_law_221 rfl rfl ?_
    refine Rn.callV (as := []) v_X5_desk l_L_30 ⟨Nat.le_of_ble_eq_true rfl, Nat.le_of_ble_eq_true rfl⟩ dL_law_222 rfl rfl (Nat.le_of_ble_eq_true rfl) Z1 (by omega) rfl (Nat.le_of_eq e11) (Nat.le_of_eq e12) (t_X5_desk M1 O0 (fun h2 M2 F2 Od => ?_)) 
    · have C2 := CI_fm C1 F2
      have e21 := F2.1.trans e11
      have e22 := F2.2.1.trans e12
      refine Rn.icmp_eq (tgt := 1097) dL_law_225 rfl (by decide) (fun c225 => ?_) (fun c225 => ?_)
      · exact hgo _ _ _ _ _ _ _ _ _ _ _ _ _ C2 M2 (ok_dk O0 Od) e21 e22
      · exact absurd rfl c225
theorem law_4 {L : Nat} {xs : Nat → Int32} {bb : UInt32} {Q : Option Value → rHp → Prop} {h : rHp} {t : Nat → Nat} {ln : Nat} {p : Nat → Nat} {U : Nat → Nat → Nat} {a : Nat} {Kp : Nat → Nat → Nat} {ik : Nat → Bool} {su sp sn : Nat → Nat} {sz : Nat} {d : Int64} {i : Nat} (hL : L ≤ 2560) (hi : i + 5 ≤ L) (C0 : CI h t ln p U a Kp ik su sp sn sz d) (M0 : MI h t ln p U a Kp ik su sp sn sz d) (O0 : OKs t ln p U a Kp ik su sp sn sz) (e1 : h.1 = 28) (e2 : h.2.1 = 1902) (hgo : ∀ (h : rHp) (t : Nat → Nat) (ln : Nat) (p : Nat → Nat) (U : Nat → Nat → Nat) (a : Nat) (Kp : Nat → Nat → Nat) (ik : Nat → Bool) (su sp sn : Nat → Nat) (sz : Nat) (d : Int64), CI h t ln p U a Kp ik su sp sn sz d → MI h t ln p U a Kp ik su sp sn sz d → OKs t ln p U a Kp ik su sp sn sz → h.1 = 28 → h.2.1 = 1902 → Rn (M_L_law, some (L, xs), 28, 1902) Q 1097 [(0, .float bb), (1, .ref 0), (2, .ref 15), (3, .int (nI i))] [] h) : Rn (M_L_law, some (L, xs), 28, 1902) Q 230 [(0, .float bb), (1, .ref 0), (2, .ref 15), (3, .int (nI i))] [] h := by
  refine Rn.aload_n dL_law_230 rfl rfl ?_
  refine Rn.aload_nS dL_law_231 rfl rfl ?_
  refine Rn.iload_n dL_law_232 rfl rfl ?_
  refine Rn.iconst dL_law_233 rfl ic_1 ?_
  refine Rn.iaddN dL_law_234 rfl ?_
  refine Rn.sldN rfl dL_law_235 rfl (by omega) (by omega) ?_
  refine Rn.aload_nS dL_law_236 rfl rfl ?_
  refine Rn.iload_n dL_law_237 rfl rfl ?_
  refine Rn.iconst dL_law_238 rfl ic_2 ?_
  refine Rn.iaddN dL_law_239 rfl ?_
  refine Rn.sldN rfl dL_law_240 rfl (by omega) (by omega) ?_
  refine Rn.callV (as := [_, _]) v_X4_user l_L_31 ⟨Nat.le_of_ble_eq_true rfl, Nat.le_of_ble_eq_true rfl⟩ dL_law_241 rfl rfl (Nat.le_of_ble_eq_true rfl) (CI_0 C0) (by omega) rfl (Nat.le_of_eq e1) (Nat.le_of_eq e2) (t_X4_user C0 O0 ?_) 
  · obtain ⟨fz, Z0⟩ := MI_15 M0
    refine Rn.aload_n dL_law_244 rfl rfl ?_
    refine Rn.aload_nS dL_law_245 rfl rfl ?_
    refine Rn.iload_n dL_law_246 rfl rfl ?_
    refine Rn.iconst dL_law_247 rfl ic_1 ?_
    refine Rn.iaddN dL_law_248 rfl ?_
    refine Rn.sldN rfl dL_law_249 rfl (by omega) (by omega) ?_
    refine Rn.aload_nS dL_law_250 rfl rfl ?_
    refine Rn.iload_n dL_law_251 rfl rfl ?_
    refine Rn.iconst dL_law_252 rfl ic_2 ?_
    refine Rn.iaddN dL_law_253 rfl ?_
    refine Rn.sldN rfl dL_law_254 rfl (by omega) (by omega) ?_
    refine Rn.callV (as := [_, _]) v_X5_user l_L_35 ⟨Nat.le_of_ble_eq_true rfl, Nat.le_of_ble_eq_true rfl⟩ dL_law_255 rfl rfl (Nat.le_of_ble_eq_true rfl) Z0 (by omega) rfl (Nat.le_of_eq e1) (Nat.le_of_eq e2) (t_X5_user M0 O0 (fun h2 M2 F2 => ?_)) 
    · have C2 := CI_fm C0 F2
      have e21 := F2.1.trans e1
      have e22 := F2.2.1.trans e2
      refine Rn.icmp_eq (tgt := 1097) dL_law_258 rfl (by decide) (fun c258 => ?_) (fun c258 => ?_)
      · exact hgo _ _ _ _ _ _ _ _ _ _ _ _ _ C2 M2 O0 e21 e22
      · exact absurd rfl c258
theorem law_5 {L : Nat} {xs : Nat → Int32} {bb : UInt32} {Q : Option Value → rHp → Prop} {h : rHp} {t : Nat → Nat} {ln : Nat} {p : Nat → Nat} {U : Nat → Nat → Nat} {a : Nat} {Kp : Nat → Nat → Nat} {ik : Nat → Bool} {su sp sn : Nat → Nat} {sz : Nat} {d : Int64} {i : Nat} (hL : L ≤ 2560) (hi : i + 5 ≤ L) (C0 : CI h t ln p U a Kp ik su sp sn sz d) (M0 : MI h t ln p U a Kp ik su sp sn sz d) (O0 : OKs t ln p U a Kp ik su sp sn sz) (e1 : h.1 = 28) (e2 : h.2.1 = 1902) (hgo : ∀ (h : rHp) (t : Nat → Nat) (ln : Nat) (p : Nat → Nat) (U : Nat → Nat → Nat) (a : Nat) (Kp : Nat → Nat → Nat) (ik : Nat → Bool) (su sp sn : Nat → Nat) (sz : Nat) (d : Int64), CI h t ln p U a Kp ik su sp sn sz d → MI h t ln p U a Kp ik su sp sn sz d → OKs t ln p U a Kp ik su sp sn sz → h.1 = 28 → h.2.1 = 1902 → Rn (M_L_law, some (L, xs), 28, 1902) Q 1097 [(0, .float bb), (1, .ref 0), (2, .ref 15), (3, .int (nI i))] [] h) : Rn (M_L_law, some (L, xs), 28, 1902) Q 263 [(0, .float bb), (1, .ref 0), (2, .ref 15), (3, .int (nI i))] [] h := by
  refine Rn.aload_n dL_law_263 rfl rfl ?_
  refine Rn.aload_nS dL_law_264 rfl rfl ?_
  refine Rn.iload_n dL_law_265 rfl rfl ?_
  refine Rn.iconst dL_law_266 rfl ic_1 ?_
  refine Rn.iaddN dL_law_267 rfl ?_
  refine Rn.sldN rfl dL_law_268 rfl (by omega) (by omega) ?_
  refine Rn.aload_nS dL_law_269 rfl rfl ?_
  refine Rn.iload_n dL_law_270 rfl rfl ?_
  refine Rn.iconst dL_law_271 rfl ic_2 ?_
  refine Rn.iaddN dL_law_272 rfl ?_
  refine Rn.sldN rfl dL_law_273 rfl (by omega) (by omega) ?_
  refine Rn.callV (as := [_, _]) v_X4_pass l_L_36 ⟨Nat.le_of_ble_eq_true rfl, Nat.le_of_ble_eq_true rfl⟩ dL_law_274 rfl rfl (Nat.le_of_ble_eq_true rfl) (CI_0 C0) (by omega) rfl (Nat.le_of_eq e1) (Nat.le_of_eq e2) (t_X4_pass C0 O0 ?_) 
  · obtain ⟨fz, Z0⟩ := MI_15 M0
    refine Rn.aload_n dL_law_277 rfl rfl ?_
    refine Rn.aload_nS dL_law_278 rfl rfl ?_
    refine Rn.iload_n dL_law_279 rfl rfl ?_
    refine Rn.iconst dL_law_280 rfl ic_1 ?_
    refine Rn.iaddN dL_law_281 rfl ?_
    refine Rn.sldN rfl dL_law_282 rfl (by omega) (by omega) ?_
    refine Rn.aload_nS dL_law_283 rfl rfl ?_
    refine Rn.iload_n dL_law_284 rfl rfl ?_
    refine Rn.iconst dL_law_285 rfl ic_2 ?_
    refine Rn.iaddN dL_law_286 rfl ?_
    refine Rn.sldN rfl dL_law_287 rfl (by omega) (by omega) ?_
    refine Rn.callV (as := [_, _]) v_X5_pass l_L_39 ⟨Nat.le_of_ble_eq_true rfl, Nat.le_of_ble_eq_true rfl⟩ dL_law_288 rfl rfl (Nat.le_of_ble_eq_true rfl) Z0 (by omega) rfl (Nat.le_of_eq e1) (Nat.le_of_eq e2) (t_X5_pass M0 O0 (fun h2 M2 F2 => ?_)) 
    · have C2 := CI_fm C0 F2
      have e21 := F2.1.trans e1
      have e22 := F2.2.1.trans e2
      refine Rn.icmp_eq (tgt := 1097) dL_law_291 rfl (by decide) (fun c291 => ?_) (fun c291 => ?_)
      · exact hgo _ _ _ _ _ _ _ _ _ _ _ _ _ C2 M2 O0 e21 e22
      · exact absurd rfl c291
theorem law_6 {L : Nat} {xs : Nat → Int32} {bb : UInt32} {Q : Option Value → rHp → Prop} {h : rHp} {t : Nat → Nat} {ln : Nat} {p : Nat → Nat} {U : Nat → Nat → Nat} {a : Nat} {Kp : Nat → Nat → Nat} {ik : Nat → Bool} {su sp sn : Nat → Nat} {sz : Nat} {d : Int64} {i : Nat} (hL : L ≤ 2560) (hi : i + 5 ≤ L) (C0 : CI h t ln p U a Kp ik su sp sn sz d) (M0 : MI h t ln p U a Kp ik su sp sn sz d) (O0 : OKs t ln p U a Kp ik su sp sn sz) (e1 : h.1 = 28) (e2 : h.2.1 = 1902) (hgo : ∀ (h : rHp) (t : Nat → Nat) (ln : Nat) (p : Nat → Nat) (U : Nat → Nat → Nat) (a : Nat) (Kp : Nat → Nat → Nat) (ik : Nat → Bool) (su sp sn : Nat → Nat) (sz : Nat) (d : Int64), CI h t ln p U a Kp ik su sp sn sz d → MI h t ln p U a Kp ik su sp sn sz d → OKs t ln p U a Kp ik su sp sn sz → h.1 = 28 → h.2.1 = 1902 → Rn (M_L_law, some (L, xs), 28, 1902) Q 1097 [(0, .float bb), (1, .ref 0), (2, .ref 15), (3, .int (nI i))] [] h) : Rn (M_L_law, some (L, xs), 28, 1902) Q 296 [(0, .float bb), (1, .ref 0), (2, .ref 15), (3, .int (nI i))] [] h := by
  refine Rn.aload_n dL_law_296 rfl rfl ?_
  refine Rn.aload_nS dL_law_297 rfl rfl ?_
  refine Rn.iload_n dL_law_298 rfl rfl ?_
  refine Rn.iconst dL_law_299 rfl ic_1 ?_
  refine Rn.iaddN dL_law_300 rfl ?_
  refine Rn.sldN rfl dL_law_301 rfl (by omega) (by omega) ?_
  refine Rn.aload_nS dL_law_302 rfl rfl ?_
  refine Rn.iload_n dL_law_303 rfl rfl ?_
  refine Rn.iconst dL_law_304 rfl ic_2 ?_
  refine Rn.iaddN dL_law_305 rfl ?_
  refine Rn.sldN rfl dL_law_306 rfl (by omega) (by omega) ?_
  refine Rn.aload_nS dL_law_307 rfl rfl ?_
  refine Rn.iload_n dL_law_308 rfl rfl ?_
  refine Rn.iconst dL_law_309 rfl ic_3 ?_
  refine Rn.iaddN dL_law_310 rfl ?_
  refine Rn.sldN rfl dL_law_311 rfl (by omega) (by omega) ?_
  refine Rn.callV (as := [_, _, _]) v_X4_behind l_L_40 ⟨Nat.le_of_ble_eq_true rfl, Nat.le_of_ble_eq_true rfl⟩ dL_law_312 rfl rfl (Nat.le_of_ble_eq_true rfl) (CI_0 C0) (by omega) rfl (Nat.le_of_eq e1) (Nat.le_of_eq e2) (t_X4_behind C0 O0 ?_) 
  · obtain ⟨fz, Z0⟩ := MI_15 M0
    refine Rn.aload_n dL_law_315 rfl rfl ?_
    refine Rn.aload_nS dL_law_316 rfl rfl ?_
    refine Rn.iload_n dL_law_317 rfl rfl ?_
    refine Rn.iconst dL_law_318 rfl ic_1 ?_
    refine Rn.iaddN dL_law_319 rfl ?_
    refine Rn.sldN rfl dL_law_320 rfl (by omega) (by omega) ?_
    refine Rn.aload_nS dL_law_321 rfl rfl ?_
    refine Rn.iload_n dL_law_322 rfl rfl ?_
    refine Rn.iconst dL_law_323 rfl ic_2 ?_
    refine Rn.iaddN dL_law_324 rfl ?_
    refine Rn.sldN rfl dL_law_325 rfl (by omega) (by omega) ?_
    refine Rn.aload_nS dL_law_326 rfl rfl ?_
    refine Rn.iload_n dL_law_327 rfl rfl ?_
    refine Rn.iconst dL_law_328 rfl ic_3 ?_
    refine Rn.iaddN dL_law_329 rfl ?_
    refine Rn.sldN rfl dL_law_330 rfl (by omega) (by omega) ?_
    refine Rn.callV (as := [_, _, _]) v_X5_behind l_L_44 ⟨Nat.le_of_ble_eq_true rfl, Nat.le_of_ble_eq_true rfl⟩ dL_law_331 rfl rfl (Nat.le_of_ble_eq_true rfl) Z0 (by omega) rfl (Nat.le_of_eq e1) (Nat.le_of_eq e2) (t_X5_behind M0 O0 (fun h2 M2 F2 => ?_)) 
    · have C2 := CI_fm C0 F2
      have e21 := F2.1.trans e1
      have e22 := F2.2.1.trans e2
      refine Rn.icmp_eq (tgt := 1097) dL_law_334 rfl (by decide) (fun c334 => ?_) (fun c334 => ?_)
      · exact hgo _ _ _ _ _ _ _ _ _ _ _ _ _ C2 M2 O0 e21 e22
      · exact absurd rfl c334
theorem law_7 {L : Nat} {xs : Nat → Int32} {bb : UInt32} {Q : Option Value → rHp → Prop} {h : rHp} {t : Nat → Nat} {ln : Nat} {p : Nat → Nat} {U : Nat → Nat → Nat} {a : Nat} {Kp : Nat → Nat → Nat} {ik : Nat → Bool} {su sp sn : Nat → Nat} {sz : Nat} {d : Int64} {i : Nat} (hL : L ≤ 2560) (hi : i + 5 ≤ L) (C0 : CI h t ln p U a Kp ik su sp sn sz d) (M0 : MI h t ln p U a Kp ik su sp sn sz d) (O0 : OKs t ln p U a Kp ik su sp sn sz) (e1 : h.1 = 28) (e2 : h.2.1 = 1902) (hgo : ∀ (h : rHp) (t : Nat → Nat) (ln : Nat) (p : Nat → Nat) (U : Nat → Nat → Nat) (a : Nat) (Kp : Nat → Nat → Nat) (ik : Nat → Bool) (su sp sn : Nat → Nat) (sz : Nat) (d : Int64), CI h t ln p U a Kp ik su sp sn sz d → MI h t ln p U a Kp ik su sp sn sz d → OKs t ln p U a Kp ik su sp sn sz → h.1 = 28 → h.2.1 = 1902 → Rn (M_L_law, some (L, xs), 28, 1902) Q 1097 [(0, .float bb), (1, .ref 0), (2, .ref 15), (3, .int (nI i))] [] h) : Rn (M_L_law, some (L, xs), 28, 1902) Q 339 [(0, .float bb), (1, .ref 0), (2, .ref 15), (3, .int (nI i))] [] h := by
  refine Rn.aload_n dL_law_339 rfl rfl ?_
  refine Rn.aload_nS dL_law_340 rfl rfl ?_
  refine Rn.iload_n dL_law_341 rfl rfl ?_
  refine Rn.iconst dL_law_342 rfl ic_1 ?_
  refine Rn.iaddN dL_law_343 rfl ?_
  refine Rn.sldN rfl dL_law_344 rfl (by omega) (by omega) ?_
  refine Rn.callV (as := [_]) v_X4_send l_L_45 ⟨Nat.le_of_ble_eq_true rfl, Nat.le_of_ble_eq_true rfl⟩ dL_law_345 rfl rfl (Nat.le_of_ble_eq_true rfl) (CI_0 C0) (by omega) rfl (Nat.le_of_eq e1) (Nat.le_of_eq e2) (t_X4_send C0 O0 (fun h1 C1 F1 => ?_)) 
  · have M1 := MI_fr M0 F1
    obtain ⟨fz, Z1⟩ := MI_15 M1
    have e11 := F1.1.trans e1
    have e12 := F1.2.1.trans e2
    refine Rn.aload_n dL_law_348 rfl rfl ?_
    refine Rn.aload_nS dL_law_349 rfl rfl ?_
    refine Rn.iload_n dL_law_350 rfl rfl ?_
    refine Rn.iconst dL_law_351 rfl ic_1 ?_
    refine Rn.iaddN dL_law_352 rfl ?_
    refine Rn.sldN rfl dL_law_353 rfl (by omega) (by omega) ?_
    refine Rn.callV (as := [_]) v_X5_send l_L_48 ⟨Nat.le_of_ble_eq_true rfl, Nat.le_of_ble_eq_true rfl⟩ dL_law_354 rfl rfl (Nat.le_of_ble_eq_true rfl) Z1 (by omega) rfl (Nat.le_of_eq e11) (Nat.le_of_eq e12) (t_X5_send M1 O0 (fun h2 M2 F2 => ?_)) 
    · have C2 := CIA_fm C1 F2
      have e21 := F2.1.trans e11
      have e22 := F2.2.1.trans e12
      refine Rn.icmp_eq (tgt := 1097) dL_law_357 rfl (by decide) (fun c357 => ?_) (fun c357 => ?_)
      · have OA := oa_se O0.2.2.1 (xs (i + 1))
        generalize (seA p (xs (i + 1))).2 = A at C2 M2 OA
        cases A with
        | none => exact hgo _ _ _ _ _ _ _ _ _ _ _ _ _ C2 M2 O0 e21 e22
        | some p' => exact hgo _ _ _ _ _ _ _ _ _ _ _ _ _ C2 M2 (ok_act O0 (OA p' rfl)) e21 e22
      · exact absurd rfl c357
theorem law_8 {L : Nat} {xs : Nat → Int32} {bb : UInt32} {Q : Option Value → rHp → Prop} {h : rHp} {t : Nat → Nat} {ln : Nat} {p : Nat → Nat} {U : Nat → Nat → Nat} {a : Nat} {Kp : Nat → Nat → Nat} {ik : Nat → Bool} {su sp sn : Nat → Nat} {sz : Nat} {d : Int64} {i : Nat} (hL : L ≤ 2560) (hi : i + 5 ≤ L) (C0 : CI h t ln p U a Kp ik su sp sn sz d) (M0 : MI h t ln p U a Kp ik su sp sn sz d) (O0 : OKs t ln p U a Kp ik su sp sn sz) (e1 : h.1 = 28) (e2 : h.2.1 = 1902) (hgo : ∀ (h : rHp) (t : Nat → Nat) (ln : Nat) (p : Nat → Nat) (U : Nat → Nat → Nat) (a : Nat) (Kp : Nat → Nat → Nat) (ik : Nat → Bool) (su sp sn : Nat → Nat) (sz : Nat) (d : Int64), CI h t ln p U a Kp ik su sp sn sz d → MI h t ln p U a Kp ik su sp sn sz d → OKs t ln p U a Kp ik su sp sn sz → h.1 = 28 → h.2.1 = 1902 → Rn (M_L_law, some (L, xs), 28, 1902) Q 1097 [(0, .float bb), (1, .ref 0), (2, .ref 15), (3, .int (nI i))] [] h) : Rn (M_L_law, some (L, xs), 28, 1902) Q 362 [(0, .float bb), (1, .ref 0), (2, .ref 15), (3, .int (nI i))] [] h := by
  refine Rn.aload_n dL_law_362 rfl rfl ?_
  refine Rn.aload_nS dL_law_363 rfl rfl ?_
  refine Rn.iload_n dL_law_364 rfl rfl ?_
  refine Rn.iconst dL_law_365 rfl ic_1 ?_
  refine Rn.iaddN dL_law_366 rfl ?_
  refine Rn.sldN rfl dL_law_367 rfl (by omega) (by omega) ?_
  refine Rn.callV (as := [_]) v_X4_miss l_L_49 ⟨Nat.le_of_ble_eq_true rfl, Nat.le_of_ble_eq_true rfl⟩ dL_law_368 rfl rfl (Nat.le_of_ble_eq_true rfl) (CI_0 C0) (by omega) rfl (Nat.le_of_eq e1) (Nat.le_of_eq e2) (t_X4_miss C0 O0 (fun h1 C1 F1 => ?_)) 
  · have M1 := MI_fr M0 F1
    obtain ⟨fz, Z1⟩ := MI_15 M1
    have e11 := F1.1.trans e1
    have e12 := F1.2.1.trans e2
    refine Rn.aload_n dL_law_371 rfl rfl ?_
    refine Rn.aload_nS dL_law_372 rfl rfl ?_
    refine Rn.iload_n dL_law_373 rfl rfl ?_
    refine Rn.iconst dL_law_374 rfl ic_1 ?_
    refine Rn.iaddN dL_law_375 rfl ?_
    refine Rn.sldN rfl dL_law_376 rfl (by omega) (by omega) ?_
    refine Rn.callV (as := [_]) v_X5_miss l_L_52 ⟨Nat.le_of_ble_eq_true rfl, Nat.le_of_ble_eq_true rfl⟩ dL_law_377 rfl rfl (Nat.le_of_ble_eq_true rfl) Z1 (by omega) rfl (Nat.le_of_eq e11) (Nat.le_of_eq e12) (t_X5_miss M1 O0 (fun h2 M2 F2 => ?_)) 
    · have C2 := CIA_fm C1 F2
      have e21 := F2.1.trans e11
      have e22 := F2.2.1.trans e12
      refine Rn.icmp_eq (tgt := 1097) dL_law_380 rfl (by decide) (fun c380 => ?_) (fun c380 => ?_)
      · have OA := oa_mi O0.2.2.1 (xs (i + 1))
        generalize (miA p (xs (i + 1))).2 = A at C2 M2 OA
        cases A with
        | none => exact hgo _ _ _ _ _ _ _ _ _ _ _ _ _ C2 M2 O0 e21 e22
        | some p' => exact hgo _ _ _ _ _ _ _ _ _ _ _ _ _ C2 M2 (ok_act O0 (OA p' rfl)) e21 e22
      · exact absurd rfl c380
theorem law_9 {L : Nat} {xs : Nat → Int32} {bb : UInt32} {Q : Option Value → rHp → Prop} {h : rHp} {t : Nat → Nat} {ln : Nat} {p : Nat → Nat} {U : Nat → Nat → Nat} {a : Nat} {Kp : Nat → Nat → Nat} {ik : Nat → Bool} {su sp sn : Nat → Nat} {sz : Nat} {d : Int64} {i : Nat} (hL : L ≤ 2560) (hi : i + 5 ≤ L) (C0 : CI h t ln p U a Kp ik su sp sn sz d) (M0 : MI h t ln p U a Kp ik su sp sn sz d) (O0 : OKs t ln p U a Kp ik su sp sn sz) (e1 : h.1 = 28) (e2 : h.2.1 = 1902) (hgo : ∀ (h : rHp) (t : Nat → Nat) (ln : Nat) (p : Nat → Nat) (U : Nat → Nat → Nat) (a : Nat) (Kp : Nat → Nat → Nat) (ik : Nat → Bool) (su sp sn : Nat → Nat) (sz : Nat) (d : Int64), CI h t ln p U a Kp ik su sp sn sz d → MI h t ln p U a Kp ik su sp sn sz d → OKs t ln p U a Kp ik su sp sn sz → h.1 = 28 → h.2.1 = 1902 → Rn (M_L_law, some (L, xs), 28, 1902) Q 1097 [(0, .float bb), (1, .ref 0), (2, .ref 15), (3, .int (nI i))] [] h) : Rn (M_L_law, some (L, xs), 28, 1902) Q 385 [(0, .float bb), (1, .ref 0), (2, .ref 15), (3, .int (nI i))] [] h := by
  refine Rn.aload_n dL_law_385 rfl rfl ?_
  refine Rn.aload_nS dL_law_386 rfl rfl ?_
  refine Rn.iload_n dL_law_387 rfl rfl ?_
  refine Rn.iconst dL_law_388 rfl ic_1 ?_
  refine Rn.iaddN dL_law_389 rfl ?_
  refine Rn.sldN rfl dL_law_390 rfl (by omega) (by omega) ?_
  refine Rn.aload_nS dL_law_391 rfl rfl ?_
  refine Rn.iload_n dL_law_392 rfl rfl ?_
  refine Rn.iconst dL_law_393 rfl ic_2 ?_
  refine Rn.iaddN dL_law_394 rfl ?_
  refine Rn.sldN rfl dL_law_395 rfl (by omega) (by omega) ?_
  refine Rn.callV (as := [_, _]) v_X4_attempt l_L_53 ⟨Nat.le_of_ble_eq_true rfl, Nat.le_of_ble_eq_true rfl⟩ dL_law_396 rfl rfl (Nat.le_of_ble_eq_true rfl) (CI_0 C0) (by omega) rfl (Nat.le_of_eq e1) (Nat.le_of_eq e2) (t_X4_attempt C0 O0 (fun h1 C1 F1 => ?_)) 
  · have M1 := MI_fr M0 F1
    obtain ⟨fz, Z1⟩ := MI_15 M1
    have e11 := F1.1.trans e1
    have e12 := F1.2.1.trans e2
    refine Rn.aload_n dL_law_399 rfl rfl ?_
    refine Rn.aload_nS dL_law_400 rfl rfl ?_
    refine Rn.iload_n dL_law_401 rfl rfl ?_
    refine Rn.iconst dL_law_402 rfl ic_1 ?_
    refine Rn.iaddN dL_law_403 rfl ?_
    refine Rn.sldN rfl dL_law_404 rfl (by omega) (by omega) ?_
    refine Rn.aload_nS dL_law_405 rfl rfl ?_
    refine Rn.iload_n dL_law_406 rfl rfl ?_
    refine Rn.iconst dL_law_407 rfl ic_2 ?_
    refine Rn.iaddN dL_law_408 rfl ?_
    refine Rn.sldN rfl dL_law_409 rfl (by omega) (by omega) ?_
    refine Rn.callV (as := [_, _]) v_X5_attempt l_L_56 ⟨Nat.le_of_ble_eq_true rfl, Nat.le_of_ble_eq_true rfl⟩ dL_law_410 rfl rfl (Nat.le_of_ble_eq_true rfl) Z1 (by omega) rfl (Nat.le_of_eq e11) (Nat.le_of_eq e12) (t_X5_attempt M1 O0 (fun h2 M2 F2 => ?_)) 
    · have C2 := CIA_fm C1 F2
      have e21 := F2.1.trans e11
      have e22 := F2.2.1.trans e12
      refine Rn.icmp_eq (tgt := 1097) dL_law_413 rfl (by decide) (fun c413 => ?_) (fun c413 => ?_)
      · have OA := oa_at O0.2.2.1 (xs (i + 1)) (xs (i + 2))
        generalize (atA p (xs (i + 1)) (xs (i + 2))).2 = A at C2 M2 OA
        cases A with
        | none => exact hgo _ _ _ _ _ _ _ _ _ _ _ _ _ C2 M2 O0 e21 e22
        | some p' => exact hgo _ _ _ _ _ _ _ _ _ _ _ _ _ C2 M2 (ok_act O0 (OA p' rfl)) e21 e22
      · exact absurd rfl c413
theorem law_10 {L : Nat} {xs : Nat → Int32} {bb : UInt32} {Q : Option Value → rHp → Prop} {h : rHp} {t : Nat → Nat} {ln : Nat} {p : Nat → Nat} {U : Nat → Nat → Nat} {a : Nat} {Kp : Nat → Nat → Nat} {ik : Nat → Bool} {su sp sn : Nat → Nat} {sz : Nat} {d : Int64} {i : Nat} (hL : L ≤ 2560) (hi : i + 5 ≤ L) (C0 : CI h t ln p U a Kp ik su sp sn sz d) (M0 : MI h t ln p U a Kp ik su sp sn sz d) (O0 : OKs t ln p U a Kp ik su sp sn sz) (e1 : h.1 = 28) (e2 : h.2.1 = 1902) (hgo : ∀ (h : rHp) (t : Nat → Nat) (ln : Nat) (p : Nat → Nat) (U : Nat → Nat → Nat) (a : Nat) (Kp : Nat → Nat → Nat) (ik : Nat → Bool) (su sp sn : Nat → Nat) (sz : Nat) (d : Int64), CI h t ln p U a Kp ik su sp sn sz d → MI h t ln p U a Kp ik su sp sn sz d → OKs t ln p U a Kp ik su sp sn sz → h.1 = 28 → h.2.1 = 1902 → Rn (M_L_law, some (L, xs), 28, 1902) Q 1097 [(0, .float bb), (1, .ref 0), (2, .ref 15), (3, .int (nI i))] [] h) : Rn (M_L_law, some (L, xs), 28, 1902) Q 418 [(0, .float bb), (1, .ref 0), (2, .ref 15), (3, .int (nI i))] [] h := by
  refine Rn.aload_n dL_law_418 rfl rfl ?_
  refine Rn.callV (as := []) v_X4_hear l_L_57 ⟨Nat.le_of_ble_eq_true rfl, Nat.le_of_ble_eq_true rfl⟩ dL_law_419 rfl rfl (Nat.le_of_ble_eq_true rfl) (CI_0 C0) (by omega) rfl (Nat.le_of_eq e1) (Nat.le_of_eq e2) (t_X4_hear C0 O0 (fun h1 C1 F1 => ?_)) 
  · have M1 := MI_fr M0 F1
    obtain ⟨fz, Z1⟩ := MI_15 M1
    have e11 := F1.1.trans e1
    have e12 := F1.2.1.trans e2
    refine Rn.aload_n dL_law_422 rfl rfl ?_
    refine Rn.callV (as := []) v_X5_hear l_L_60 ⟨Nat.le_of_ble_eq_true rfl, Nat.le_of_ble_eq_true rfl⟩ dL_law_423 rfl rfl (Nat.le_of_ble_eq_true rfl) Z1 (by omega) rfl (Nat.le_of_eq e11) (Nat.le_of_eq e12) (t_X5_hear M1 O0 (fun h2 M2 F2 => ?_)) 
    · have C2 := CIA_fm C1 F2
      have e21 := F2.1.trans e11
      have e22 := F2.2.1.trans e12
      refine Rn.icmp_eq (tgt := 1097) dL_law_426 rfl (by decide) (fun c426 => ?_) (fun c426 => ?_)
      · have OA := oa_he O0.2.2.1
        generalize (heA p).2 = A at C2 M2 OA
        cases A with
        | none => exact hgo _ _ _ _ _ _ _ _ _ _ _ _ _ C2 M2 O0 e21 e22
        | some p' => exact hgo _ _ _ _ _ _ _ _ _ _ _ _ _ C2 M2 (ok_act O0 (OA p' rfl)) e21 e22
      · exact absurd rfl c426
theorem law_11 {L : Nat} {xs : Nat → Int32} {bb : UInt32} {Q : Option Value → rHp → Prop} {h : rHp} {t : Nat → Nat} {ln : Nat} {p : Nat → Nat} {U : Nat → Nat → Nat} {a : Nat} {Kp : Nat → Nat → Nat} {ik : Nat → Bool} {su sp sn : Nat → Nat} {sz : Nat} {d : Int64} {i : Nat} (hL : L ≤ 2560) (hi : i + 5 ≤ L) (C0 : CI h t ln p U a Kp ik su sp sn sz d) (M0 : MI h t ln p U a Kp ik su sp sn sz d) (O0 : OKs t ln p U a Kp ik su sp sn sz) (e1 : h.1 = 28) (e2 : h.2.1 = 1902) (hgo : ∀ (h : rHp) (t : Nat → Nat) (ln : Nat) (p : Nat → Nat) (U : Nat → Nat → Nat) (a : Nat) (Kp : Nat → Nat → Nat) (ik : Nat → Bool) (su sp sn : Nat → Nat) (sz : Nat) (d : Int64), CI h t ln p U a Kp ik su sp sn sz d → MI h t ln p U a Kp ik su sp sn sz d → OKs t ln p U a Kp ik su sp sn sz → h.1 = 28 → h.2.1 = 1902 → Rn (M_L_law, some (L, xs), 28, 1902) Q 1097 [(0, .float bb), (1, .ref 0), (2, .ref 15), (3, .int (nI i))] [] h) : Rn (M_L_law, some (L, xs), 28, 1902) Q 431 [(0, .float bb), (1, .ref 0), (2, .ref 15), (3, .int (nI i))] [] h := by
  refine Rn.aload_n dL_law_431 rfl rfl ?_
  refine Rn.aload_nS dL_law_432 rfl rfl ?_
  refine Rn.iload_n dL_law_433 rfl rfl ?_
  refine Rn.iconst dL_law_434 rfl ic_1 ?_
  refine Rn.iaddN dL_law_435 rfl ?_
  refine Rn.sldN rfl dL_law_436 rfl (by omega) (by omega) ?_
  refine Rn.aload_nS dL_law_437 rfl rfl ?_
  refine Rn.iload_n dL_law_438 rfl rfl ?_
  refine Rn.iconst dL_law_439 rfl ic_2 ?_
  refine Rn.iaddN dL_law_440 rfl ?_
  refine Rn.sldN rfl dL_law_441 rfl (by omega) (by omega) ?_
  refine Rn.aload_nS dL_law_442 rfl rfl ?_
  refine Rn.iload_n dL_law_443 rfl rfl ?_
  refine Rn.iconst dL_law_444 rfl ic_3 ?_
  refine Rn.iaddN dL_law_445 rfl ?_
  refine Rn.sldN rfl dL_law_446 rfl (by omega) (by omega) ?_
  refine Rn.aload_nS dL_law_447 rfl rfl ?_
  refine Rn.iload_n dL_law_448 rfl rfl ?_
  refine Rn.iconst dL_law_449 rfl ic_4 ?_
  refine Rn.iaddN dL_law_450 rfl ?_
  refine Rn.sldN rfl dL_law_451 rfl (by omega) (by omega) ?_
  refine Rn.callV (as := [_, _, _, _]) v_X4_renew l_L_61 ⟨Nat.le_of_ble_eq_true rfl, Nat.le_of_ble_eq_true rfl⟩ dL_law_452 rfl rfl (Nat.le_of_ble_eq_true rfl) (CI_0 C0) (by omega) rfl (Nat.le_of_eq e1) (Nat.le_of_eq e2) (t_X4_renew C0 O0 (fun h1 C1 F1 => ?_)) 
  · have M1 := MI_fr M0 F1
    obtain ⟨fz, Z1⟩ := MI_15 M1
    have e11 := F1.1.trans e1
    have e12 := F1.2.1.trans e2
    refine Rn.aload_n dL_law_455 rfl rfl ?_
    refine Rn.aload_nS dL_law_456 rfl rfl ?_
    refine Rn.iload_n dL_law_457 rfl rfl ?_
    refine Rn.iconst dL_law_458 rfl ic_1 ?_
    refine Rn.iaddN dL_law_459 rfl ?_
    refine Rn.sldN rfl dL_law_460 rfl (by omega) (by omega) ?_
    refine Rn.aload_nS dL_law_461 rfl rfl ?_
    refine Rn.iload_n dL_law_462 rfl rfl ?_
    refine Rn.iconst dL_law_463 rfl ic_2 ?_
    refine Rn.iaddN dL_law_464 rfl ?_
    refine Rn.sldN rfl dL_law_465 rfl (by omega) (by omega) ?_
    refine Rn.aload_nS dL_law_466 rfl rfl ?_
    refine Rn.iload_n dL_law_467 rfl rfl ?_
    refine Rn.iconst dL_law_468 rfl ic_3 ?_
    refine Rn.iaddN dL_law_469 rfl ?_
    refine Rn.sldN rfl dL_law_470 rfl (by omega) (by omega) ?_
    refine Rn.aload_nS dL_law_471 rfl rfl ?_
    refine Rn.iload_n dL_law_472 rfl rfl ?_
    refine Rn.iconst dL_law_473 rfl ic_4 ?_
    refine Rn.iaddN dL_law_474 rfl ?_
    refine Rn.sldN rfl dL_law_475 rfl (by omega) (by omega) ?_
    refine Rn.callV (as := [_, _, _, _]) v_X5_renew l_L_65 ⟨Nat.le_of_ble_eq_true rfl, Nat.le_of_ble_eq_true rfl⟩ dL_law_476 rfl rfl (Nat.le_of_ble_eq_true rfl) Z1 (by omega) rfl (Nat.le_of_eq e11) (Nat.le_of_eq e12) (t_X5_renew M1 O0 (fun h2 M2 F2 => ?_)) 
    · have C2 := CIA_fm C1 F2
      have e21 := F2.1.trans e11
      have e22 := F2.2.1.trans e12
      refine Rn.icmp_eq (tgt := 1097) dL_law_479 rfl (by decide) (fun c479 => ?_) (fun c479 => ?_)
      · have OA := oa_re O0.2.2.1 (xs (i + 1)) (xs (i + 2)) (xs (i + 3)) (xs (i + 4))
        generalize (reA p (xs (i + 1)) (xs (i + 2)) (xs (i + 3)) (xs (i + 4))).2 = A at C2 M2 OA
        cases A with
        | none => exact hgo _ _ _ _ _ _ _ _ _ _ _ _ _ C2 M2 O0 e21 e22
        | some p' => exact hgo _ _ _ _ _ _ _ _ _ _ _ _ _ C2 M2 (ok_act O0 (OA p' rfl)) e21 e22
      · exact absurd rfl c479
theorem law_12 {L : Nat} {xs : Nat → Int32} {bb : UInt32} {Q : Option Value → rHp → Prop} {h : rHp} {t : Nat → Nat} {ln : Nat} {p : Nat → Nat} {U : Nat → Nat → Nat} {a : Nat} {Kp : Nat → Nat → Nat} {ik : Nat → Bool} {su sp sn : Nat → Nat} {sz : Nat} {d : Int64} {i : Nat} (hL : L ≤ 2560) (hi : i + 5 ≤ L) (C0 : CI h t ln p U a Kp ik su sp sn sz d) (M0 : MI h t ln p U a Kp ik su sp sn sz d) (O0 : OKs t ln p U a Kp ik su sp sn sz) (e1 : h.1 = 28) (e2 : h.2.1 = 1902) (hgo : ∀ (h : rHp) (t : Nat → Nat) (ln : Nat) (p : Nat → Nat) (U : Nat → Nat → Nat) (a : Nat) (Kp : Nat → Nat → Nat) (ik : Nat → Bool) (su sp sn : Nat → Nat) (sz : Nat) (d : Int64), CI h t ln p U a Kp ik su sp sn sz d → MI h t ln p U a Kp ik su sp sn sz d → OKs t ln p U a Kp ik su sp sn sz → h.1 = 28 → h.2.1 = 1902 → Rn (M_L_law, some (L, xs), 28, 1902) Q 1097 [(0, .float bb), (1, .ref 0), (2, .ref 15), (3, .int (nI i))] [] h) : Rn (M_L_law, some (L, xs), 28, 1902) Q 484 [(0, .float bb), (1, .ref 0), (2, .ref 15), (3, .int (nI i))] [] h := by
  refine Rn.aload_n dL_law_484 rfl rfl ?_
  refine Rn.aload_nS dL_law_485 rfl rfl ?_
  refine Rn.iload_n dL_law_486 rfl rfl ?_
  refine Rn.iconst dL_law_487 rfl ic_1 ?_
  refine Rn.iaddN dL_law_488 rfl ?_
  refine Rn.sldN rfl dL_law_489 rfl (by omega) (by omega) ?_
  refine Rn.callV (as := [_]) v_X4_widen l_L_66 ⟨Nat.le_of_ble_eq_true rfl, Nat.le_of_ble_eq_true rfl⟩ dL_law_490 rfl rfl (Nat.le_of_ble_eq_true rfl) (CI_0 C0) (by omega) rfl (Nat.le_of_eq e1) (Nat.le_of_eq e2) (t_X4_widen C0 O0 (fun h1 C1 F1 => ?_)) 
  · have M1 := MI_fr M0 F1
    obtain ⟨fz, Z1⟩ := MI_15 M1
    have e11 := F1.1.trans e1
    have e12 := F1.2.1.trans e2
    refine Rn.aload_n dL_law_493 rfl rfl ?_
    refine Rn.aload_nS dL_law_494 rfl rfl ?_
    refine Rn.iload_n dL_law_495 rfl rfl ?_
    refine Rn.iconst dL_law_496 rfl ic_1 ?_
    refine Rn.iaddN dL_law_497 rfl ?_
    refine Rn.sldN rfl dL_law_498 rfl (by omega) (by omega) ?_
    refine Rn.callV (as := [_]) v_X5_widen l_L_69 ⟨Nat.le_of_ble_eq_true rfl, Nat.le_of_ble_eq_true rfl⟩ dL_law_499 rfl rfl (Nat.le_of_ble_eq_true rfl) Z1 (by omega) rfl (Nat.le_of_eq e11) (Nat.le_of_eq e12) (t_X5_widen M1 O0 (fun h2 M2 F2 => ?_)) 
    · have C2 := CIA_fm C1 F2
      have e21 := F2.1.trans e11
      have e22 := F2.2.1.trans e12
      refine Rn.icmp_eq (tgt := 1097) dL_law_502 rfl (by decide) (fun c502 => ?_) (fun c502 => ?_)
      · have OA := oa_wd O0.2.2.1 (xs (i + 1))
        generalize (wdA p (xs (i + 1))).2 = A at C2 M2 OA
        cases A with
        | none => exact hgo _ _ _ _ _ _ _ _ _ _ _ _ _ C2 M2 O0 e21 e22
        | some p' => exact hgo _ _ _ _ _ _ _ _ _ _ _ _ _ C2 M2 (ok_act O0 (OA p' rfl)) e21 e22
      · exact absurd rfl c502
theorem law_13 {L : Nat} {xs : Nat → Int32} {bb : UInt32} {Q : Option Value → rHp → Prop} {h : rHp} {t : Nat → Nat} {ln : Nat} {p : Nat → Nat} {U : Nat → Nat → Nat} {a : Nat} {Kp : Nat → Nat → Nat} {ik : Nat → Bool} {su sp sn : Nat → Nat} {sz : Nat} {d : Int64} {i : Nat} (hL : L ≤ 2560) (hi : i + 5 ≤ L) (C0 : CI h t ln p U a Kp ik su sp sn sz d) (M0 : MI h t ln p U a Kp ik su sp sn sz d) (O0 : OKs t ln p U a Kp ik su sp sn sz) (e1 : h.1 = 28) (e2 : h.2.1 = 1902) (hgo : ∀ (h : rHp) (t : Nat → Nat) (ln : Nat) (p : Nat → Nat) (U : Nat → Nat → Nat) (a : Nat) (Kp : Nat → Nat → Nat) (ik : Nat → Bool) (su sp sn : Nat → Nat) (sz : Nat) (d : Int64), CI h t ln p U a Kp ik su sp sn sz d → MI h t ln p U a Kp ik su sp sn sz d → OKs t ln p U a Kp ik su sp sn sz → h.1 = 28 → h.2.1 = 1902 → Rn (M_L_law, some (L, xs), 28, 1902) Q 1097 [(0, .float bb), (1, .ref 0), (2, .ref 15), (3, .int (nI i))] [] h) : Rn (M_L_law, some (L, xs), 28, 1902) Q 507 [(0, .float bb), (1, .ref 0), (2, .ref 15), (3, .int (nI i))] [] h := by
  refine Rn.aload_n dL_law_507 rfl rfl ?_
  refine Rn.callV (as := []) v_X4_undo l_L_70 ⟨Nat.le_of_ble_eq_true rfl, Nat.le_of_ble_eq_true rfl⟩ dL_law_508 rfl rfl (Nat.le_of_ble_eq_true rfl) (CI_0 C0) (by omega) rfl (Nat.le_of_eq e1) (Nat.le_of_eq e2) (t_X4_undo C0 O0 (fun h1 C1 F1 => ?_)) 
  · have M1 := MI_fr M0 F1
    obtain ⟨fz, Z1⟩ := MI_15 M1
    have e11 := F1.1.trans e1
    have e12 := F1.2.1.trans e2
    refine Rn.aload_n dL_law_511 rfl rfl ?_
    refine Rn.callV (as := []) v_X5_undo l_L_73 ⟨Nat.le_of_ble_eq_true rfl, Nat.le_of_ble_eq_true rfl⟩ dL_law_512 rfl rfl (Nat.le_of_ble_eq_true rfl) Z1 (by omega) rfl (Nat.le_of_eq e11) (Nat.le_of_eq e12) (t_X5_undo M1 O0 (fun h2 M2 F2 => ?_)) 
    · have C2 := CI_fm C1 F2
      have e21 := F2.1.trans e11
      have e22 := F2.2.1.trans e12
      refine Rn.icmp_eq (tgt := 1097) dL_law_515 rfl (by decide) (fun c515 => ?_) (fun c515 => ?_)
      · exact hgo _ _ _ _ _ _ _ _ _ _ _ _ _ C2 M2 (ok_ud O0) e21 e22
      · exact absurd rfl c515
theorem law_14 {L : Nat} {xs : Nat → Int32} {bb : UInt32} {Q : Option Value → rHp → Prop} {h : rHp} {t : Nat → Nat} {ln : Nat} {p : Nat → Nat} {U : Nat → Nat → Nat} {a : Nat} {Kp : Nat → Nat → Nat} {ik : Nat → Bool} {su sp sn : Nat → Nat} {sz : Nat} {d : Int64} {i : Nat} (hL : L ≤ 2560) (hi : i + 5 ≤ L) (C0 : CI h t ln p U a Kp ik su sp sn sz d) (M0 : MI h t ln p U a Kp ik su sp sn sz d) (O0 : OKs t ln p U a Kp ik su sp sn sz) (e1 : h.1 = 28) (e2 : h.2.1 = 1902) (hgo : ∀ (h : rHp) (t : Nat → Nat) (ln : Nat) (p : Nat → Nat) (U : Nat → Nat → Nat) (a : Nat) (Kp : Nat → Nat → Nat) (ik : Nat → Bool) (su sp sn : Nat → Nat) (sz : Nat) (d : Int64), CI h t ln p U a Kp ik su sp sn sz d → MI h t ln p U a Kp ik su sp sn sz d → OKs t ln p U a Kp ik su sp sn sz → h.1 = 28 → h.2.1 = 1902 → Rn (M_L_law, some (L, xs), 28, 1902) Q 1097 [(0, .float bb), (1, .ref 0), (2, .ref 15), (3, .int (nI i))] [] h) : Rn (M_L_law, some (L, xs), 28, 1902) Q 520 [(0, .float bb), (1, .ref 0), (2, .ref 15), (3, .int (nI i))] [] h := by
  refine Rn.aload_n dL_law_520 rfl rfl ?_
  refine Rn.aload_nS dL_law_521 rfl rfl ?_
  refine Rn.iload_n dL_law_522 rfl rfl ?_
  refine Rn.iconst dL_law_523 rfl ic_1 ?_
  refine Rn.iaddN dL_law_524 rfl ?_
  refine Rn.sldN rfl dL_law_525 rfl (by omega) (by omega) ?_
  refine Rn.aload_nS dL_law_526 rfl rfl ?_
  refine Rn.iload_n dL_law_527 rfl rfl ?_
  refine Rn.iconst dL_law_528 rfl ic_2 ?_
  refine Rn.iaddN dL_law_529 rfl ?_
  refine Rn.sldN rfl dL_law_530 rfl (by omega) (by omega) ?_
  refine Rn.callV (as := [_, _]) v_X4_fits l_L_74 ⟨Nat.le_of_ble_eq_true rfl, Nat.le_of_ble_eq_true rfl⟩ dL_law_531 rfl rfl (Nat.le_of_ble_eq_true rfl) (CI_0 C0) (by omega) rfl (Nat.le_of_eq e1) (Nat.le_of_eq e2) (t_X4_fits C0 O0 ?_) 
  · obtain ⟨fz, Z0⟩ := MI_15 M0
    refine Rn.aload_n dL_law_534 rfl rfl ?_
    refine Rn.aload_nS dL_law_535 rfl rfl ?_
    refine Rn.iload_n dL_law_536 rfl rfl ?_
    refine Rn.iconst dL_law_537 rfl ic_1 ?_
    refine Rn.iaddN dL_law_538 rfl ?_
    refine Rn.sldN rfl dL_law_539 rfl (by omega) (by omega) ?_
    refine Rn.aload_nS dL_law_540 rfl rfl ?_
    refine Rn.iload_n dL_law_541 rfl rfl ?_
    refine Rn.iconst dL_law_542 rfl ic_2 ?_
    refine Rn.iaddN dL_law_543 rfl ?_
    refine Rn.sldN rfl dL_law_544 rfl (by omega) (by omega) ?_
    refine Rn.callV (as := [_, _]) v_X5_fits l_L_77 ⟨Nat.le_of_ble_eq_true rfl, Nat.le_of_ble_eq_true rfl⟩ dL_law_545 rfl rfl (Nat.le_of_ble_eq_true rfl) Z0 (by omega) rfl (Nat.le_of_eq e1) (Nat.le_of_eq e2) (t_X5_fits M0 O0 (fun h2 M2 F2 => ?_)) 
    · have C2 := CI_fm C0 F2
      have e21 := F2.1.trans e1
      have e22 := F2.2.1.trans e2
      refine Rn.icmp_eq (tgt := 1097) dL_law_548 rfl (by decide) (fun c548 => ?_) (fun c548 => ?_)
      · exact hgo _ _ _ _ _ _ _ _ _ _ _ _ _ C2 M2 O0 e21 e22
      · exact absurd rfl c548
theorem law_15 {L : Nat} {xs : Nat → Int32} {bb : UInt32} {Q : Option Value → rHp → Prop} {h : rHp} {t : Nat → Nat} {ln : Nat} {p : Nat → Nat} {U : Nat → Nat → Nat} {a : Nat} {Kp : Nat → Nat → Nat} {ik : Nat → Bool} {su sp sn : Nat → Nat} {sz : Nat} {d : Int64} {i : Nat} (hL : L ≤ 2560) (hi : i + 5 ≤ L) (C0 : CI h t ln p U a Kp ik su sp sn sz d) (M0 : MI h t ln p U a Kp ik su sp sn sz d) (O0 : OKs t ln p U a Kp ik su sp sn sz) (e1 : h.1 = 28) (e2 : h.2.1 = 1902) (hgo : ∀ (h : rHp) (t : Nat → Nat) (ln : Nat) (p : Nat → Nat) (U : Nat → Nat → Nat) (a : Nat) (Kp : Nat → Nat → Nat) (ik : Nat → Bool) (su sp sn : Nat → Nat) (sz : Nat) (d : Int64), CI h t ln p U a Kp ik su sp sn sz d → MI h t ln p U a Kp ik su sp sn sz d → OKs t ln p U a Kp ik su sp sn sz → h.1 = 28 → h.2.1 = 1902 → Rn (M_L_law, some (L, xs), 28, 1902) Q 1097 [(0, .float bb), (1, .ref 0), (2, .ref 15), (3, .int (nI i))] [] h) : Rn (M_L_law, some (L, xs), 28, 1902) Q 553 [(0, .float bb), (1, .ref 0), (2, .ref 15), (3, .int (nI i))] [] h := by
  refine Rn.aload_n dL_law_553 rfl rfl ?_
  refine Rn.aload_nS dL_law_554 rfl rfl ?_
  refine Rn.iload_n dL_law_555 rfl rfl ?_
  refine Rn.iconst dL_law_556 rfl ic_1 ?_
  refine Rn.iaddN dL_law_557 rfl ?_
  refine Rn.sldN rfl dL_law_558 rfl (by omega) (by omega) ?_
  refine Rn.aload_nS dL_law_559 rfl rfl ?_
  refine Rn.iload_n dL_law_560 rfl rfl ?_
  refine Rn.iconst dL_law_561 rfl ic_2 ?_
  refine Rn.iaddN dL_law_562 rfl ?_
  refine Rn.sldN rfl dL_law_563 rfl (by omega) (by omega) ?_
  refine Rn.callV (as := [_, _]) v_X4_fitting l_L_78 ⟨Nat.le_of_ble_eq_true rfl, Nat.le_of_ble_eq_true rfl⟩ dL_law_564 rfl rfl (Nat.le_of_ble_eq_true rfl) (CI_0 C0) (by omega) rfl (Nat.le_of_eq e1) (Nat.le_of_eq e2) (t_X4_fitting C0 O0 ?_) 
  · obtain ⟨fz, Z0⟩ := MI_15 M0
    refine Rn.aload_n dL_law_567 rfl rfl ?_
    refine Rn.aload_nS dL_law_568 rfl rfl ?_
    refine Rn.iload_n dL_law_569 rfl rfl ?_
    refine Rn.iconst dL_law_570 rfl ic_1 ?_
    refine Rn.iaddN dL_law_571 rfl ?_
    refine Rn.sldN rfl dL_law_572 rfl (by omega) (by omega) ?_
    refine Rn.aload_nS dL_law_573 rfl rfl ?_
    refine Rn.iload_n dL_law_574 rfl rfl ?_
    refine Rn.iconst dL_law_575 rfl ic_2 ?_
    refine Rn.iaddN dL_law_576 rfl ?_
    refine Rn.sldN rfl dL_law_577 rfl (by omega) (by omega) ?_
    refine Rn.callV (as := [_, _]) v_X5_fitting l_L_81 ⟨Nat.le_of_ble_eq_true rfl, Nat.le_of_ble_eq_true rfl⟩ dL_law_578 rfl rfl (Nat.le_of_ble_eq_true rfl) Z0 (by omega) rfl (Nat.le_of_eq e1) (Nat.le_of_eq e2) (t_X5_fitting M0 O0 (fun h2 M2 F2 => ?_)) 
    · have C2 := CI_fm C0 F2
      have e21 := F2.1.trans e1
      have e22 := F2.2.1.trans e2
      refine Rn.icmp_eq (tgt := 1097) dL_law_581 rfl (by decide) (fun c581 => ?_) (fun c581 => ?_)
      · exact hgo _ _ _ _ _ _ _ _ _ _ _ _ _ C2 M2 O0 e21 e22
      · exact absurd rfl c581
theorem law_16 {L : Nat} {xs : Nat → Int32} {bb : UInt32} {Q : Option Value → rHp → Prop} {h : rHp} {t : Nat → Nat} {ln : Nat} {p : Nat → Nat} {U : Nat → Nat → Nat} {a : Nat} {Kp : Nat → Nat → Nat} {ik : Nat → Bool} {su sp sn : Nat → Nat} {sz : Nat} {d : Int64} {i : Nat} (hL : L ≤ 2560) (hi : i + 5 ≤ L) (C0 : CI h t ln p U a Kp ik su sp sn sz d) (M0 : MI h t ln p U a Kp ik su sp sn sz d) (O0 : OKs t ln p U a Kp ik su sp sn sz) (e1 : h.1 = 28) (e2 : h.2.1 = 1902) (hgo : ∀ (h : rHp) (t : Nat → Nat) (ln : Nat) (p : Nat → Nat) (U : Nat → Nat → Nat) (a : Nat) (Kp : Nat → Nat → Nat) (ik : Nat → Bool) (su sp sn : Nat → Nat) (sz : Nat) (d : Int64), CI h t ln p U a Kp ik su sp sn sz d → MI h t ln p U a Kp ik su sp sn sz d → OKs t ln p U a Kp ik su sp sn sz → h.1 = 28 → h.2.1 = 1902 → Rn (M_L_law, some (L, xs), 28, 1902) Q 1097 [(0, .float bb), (1, .ref 0), (2, .ref 15), (3, .int (nI i))] [] h) : Rn (M_L_law, some (L, xs), 28, 1902) Q 586 [(0, .float bb), (1, .ref 0), (2, .ref 15), (3, .int (nI i))] [] h := by
  refine Rn.aload_n dL_law_586 rfl rfl ?_
  refine Rn.aload_nS dL_law_587 rfl rfl ?_
  refine Rn.iload_n dL_law_588 rfl rfl ?_
  refine Rn.iconst dL_law_589 rfl ic_1 ?_
  refine Rn.iaddN dL_law_590 rfl ?_
  refine Rn.sldN rfl dL_law_591 rfl (by omega) (by omega) ?_
  refine Rn.callV (as := [_]) v_X4_thief l_L_82 ⟨Nat.le_of_ble_eq_true rfl, Nat.le_of_ble_eq_true rfl⟩ dL_law_592 rfl rfl (Nat.le_of_ble_eq_true rfl) (CI_0 C0) (by omega) rfl (Nat.le_of_eq e1) (Nat.le_of_eq e2) (t_X4_thief C0 O0 ?_) 
  · obtain ⟨fz, Z0⟩ := MI_15 M0
    refine Rn.aload_n dL_law_595 rfl rfl ?_
    refine Rn.aload_nS dL_law_596 rfl rfl ?_
    refine Rn.iload_n dL_law_597 rfl rfl ?_
    refine Rn.iconst dL_law_598 rfl ic_1 ?_
    refine Rn.iaddN dL_law_599 rfl ?_
    refine Rn.sldN rfl dL_law_600 rfl (by omega) (by omega) ?_
    refine Rn.callV (as := [_]) v_X5_thief l_L_85 ⟨Nat.le_of_ble_eq_true rfl, Nat.le_of_ble_eq_true rfl⟩ dL_law_601 rfl rfl (Nat.le_of_ble_eq_true rfl) Z0 (by omega) rfl (Nat.le_of_eq e1) (Nat.le_of_eq e2) (t_X5_thief M0 O0 (fun h2 M2 F2 => ?_)) 
    · have C2 := CI_fm C0 F2
      have e21 := F2.1.trans e1
      have e22 := F2.2.1.trans e2
      refine Rn.icmp_eq (tgt := 1097) dL_law_604 rfl (by decide) (fun c604 => ?_) (fun c604 => ?_)
      · exact hgo _ _ _ _ _ _ _ _ _ _ _ _ _ C2 M2 O0 e21 e22
      · exact absurd rfl c604
theorem law_17 {L : Nat} {xs : Nat → Int32} {bb : UInt32} {Q : Option Value → rHp → Prop} {h : rHp} {t : Nat → Nat} {ln : Nat} {p : Nat → Nat} {U : Nat → Nat → Nat} {a : Nat} {Kp : Nat → Nat → Nat} {ik : Nat → Bool} {su sp sn : Nat → Nat} {sz : Nat} {d : Int64} {i : Nat} (hL : L ≤ 2560) (hi : i + 5 ≤ L) (C0 : CI h t ln p U a Kp ik su sp sn sz d) (M0 : MI h t ln p U a Kp ik su sp sn sz d) (O0 : OKs t ln p U a Kp ik su sp sn sz) (e1 : h.1 = 28) (e2 : h.2.1 = 1902) (hgo : ∀ (h : rHp) (t : Nat → Nat) (ln : Nat) (p : Nat → Nat) (U : Nat → Nat → Nat) (a : Nat) (Kp : Nat → Nat → Nat) (ik : Nat → Bool) (su sp sn : Nat → Nat) (sz : Nat) (d : Int64), CI h t ln p U a Kp ik su sp sn sz d → MI h t ln p U a Kp ik su sp sn sz d → OKs t ln p U a Kp ik su sp sn sz → h.1 = 28 → h.2.1 = 1902 → Rn (M_L_law, some (L, xs), 28, 1902) Q 1097 [(0, .float bb), (1, .ref 0), (2, .ref 15), (3, .int (nI i))] [] h) : Rn (M_L_law, some (L, xs), 28, 1902) Q 609 [(0, .float bb), (1, .ref 0), (2, .ref 15), (3, .int (nI i))] [] h := by
  refine Rn.aload_n dL_law_609 rfl rfl ?_
  refine Rn.aload_nS dL_law_610 rfl rfl ?_
  refine Rn.iload_n dL_law_611 rfl rfl ?_
  refine Rn.iconst dL_law_612 rfl ic_1 ?_
  refine Rn.iaddN dL_law_613 rfl ?_
  refine Rn.sldN rfl dL_law_614 rfl (by omega) (by omega) ?_
  refine Rn.callV (as := [_]) v_X4_heard l_L_86 ⟨Nat.le_of_ble_eq_true rfl, Nat.le_of_ble_eq_true rfl⟩ dL_law_615 rfl rfl (Nat.le_of_ble_eq_true rfl) (CI_0 C0) (by omega) rfl (Nat.le_of_eq e1) (Nat.le_of_eq e2) (t_X4_heard C0 O0 ?_) 
  · obtain ⟨fz, Z0⟩ := MI_15 M0
    refine Rn.aload_n dL_law_618 rfl rfl ?_
    refine Rn.aload_nS dL_law_619 rfl rfl ?_
    refine Rn.iload_n dL_law_620 rfl rfl ?_
    refine Rn.iconst dL_law_621 rfl ic_1 ?_
    refine Rn.iaddN dL_law_622 rfl ?_
    refine Rn.sldN rfl dL_law_623 rfl (by omega) (by omega) ?_
    refine Rn.callV (as := [_]) v_X5_heard l_L_89 ⟨Nat.le_of_ble_eq_true rfl, Nat.le_of_ble_eq_true rfl⟩ dL_law_624 rfl rfl (Nat.le_of_ble_eq_true rfl) Z0 (by omega) rfl (Nat.le_of_eq e1) (Nat.le_of_eq e2) (t_X5_heard M0 O0 (fun h2 M2 F2 => ?_)) 
    · have C2 := CI_fm C0 F2
      have e21 := F2.1.trans e1
      have e22 := F2.2.1.trans e2
      refine Rn.icmp_eq (tgt := 1097) dL_law_627 rfl (by decide) (fun c627 => ?_) (fun c627 => ?_)
      · exact hgo _ _ _ _ _ _ _ _ _ _ _ _ _ C2 M2 O0 e21 e22
      · exact absurd rfl c627
theorem law_18 {L : Nat} {xs : Nat → Int32} {bb : UInt32} {Q : Option Value → rHp → Prop} {h : rHp} {t : Nat → Nat} {ln : Nat} {p : Nat → Nat} {U : Nat → Nat → Nat} {a : Nat} {Kp : Nat → Nat → Nat} {ik : Nat → Bool} {su sp sn : Nat → Nat} {sz : Nat} {d : Int64} {i : Nat} (hL : L ≤ 2560) (hi : i + 5 ≤ L) (C0 : CI h t ln p U a Kp ik su sp sn sz d) (M0 : MI h t ln p U a Kp ik su sp sn sz d) (O0 : OKs t ln p U a Kp ik su sp sn sz) (e1 : h.1 = 28) (e2 : h.2.1 = 1902) (hgo : ∀ (h : rHp) (t : Nat → Nat) (ln : Nat) (p : Nat → Nat) (U : Nat → Nat → Nat) (a : Nat) (Kp : Nat → Nat → Nat) (ik : Nat → Bool) (su sp sn : Nat → Nat) (sz : Nat) (d : Int64), CI h t ln p U a Kp ik su sp sn sz d → MI h t ln p U a Kp ik su sp sn sz d → OKs t ln p U a Kp ik su sp sn sz → h.1 = 28 → h.2.1 = 1902 → Rn (M_L_law, some (L, xs), 28, 1902) Q 1097 [(0, .float bb), (1, .ref 0), (2, .ref 15), (3, .int (nI i))] [] h) : Rn (M_L_law, some (L, xs), 28, 1902) Q 632 [(0, .float bb), (1, .ref 0), (2, .ref 15), (3, .int (nI i))] [] h := by
  refine Rn.aload_n dL_law_632 rfl rfl ?_
  refine Rn.aload_nS dL_law_633 rfl rfl ?_
  refine Rn.iload_n dL_law_634 rfl rfl ?_
  refine Rn.iconst dL_law_635 rfl ic_1 ?_
  refine Rn.iaddN dL_law_636 rfl ?_
  refine Rn.sldN rfl dL_law_637 rfl (by omega) (by omega) ?_
  refine Rn.aload_nS dL_law_638 rfl rfl ?_
  refine Rn.iload_n dL_law_639 rfl rfl ?_
  refine Rn.iconst dL_law_640 rfl ic_2 ?_
  refine Rn.iaddN dL_law_641 rfl ?_
  refine Rn.sldN rfl dL_law_642 rfl (by omega) (by omega) ?_
  refine Rn.i2l dL_law_643 rfl ?_
  refine Rn.bipush dL_law_644 rfl bp_32 ?_
  refine Rn.lshl dL_law_646 rfl ?_
  refine Rn.aload_nS dL_law_647 rfl rfl ?_
  refine Rn.iload_n dL_law_648 rfl rfl ?_
  refine Rn.iconst dL_law_649 rfl ic_3 ?_
  refine Rn.iaddN dL_law_650 rfl ?_
  refine Rn.sldN rfl dL_law_651 rfl (by omega) (by omega) ?_
  refine Rn.i2l dL_law_652 rfl ?_
  refine Rn.ldc2 dL_law_653 rfl k_L_90 ?_
  refine Rn.land dL_law_656 rfl ?_
  refine Rn.lor dL_law_657 rfl ?_
  refine Rn.callV (as := [_, _]) v_X4_judge l_L_92 ⟨Nat.le_of_ble_eq_true rfl, Nat.le_of_ble_eq_true rfl⟩ dL_law_658 rfl rfl (Nat.le_of_ble_eq_true rfl) (CI_0 C0) (by omega) rfl (Nat.le_of_eq e1) (Nat.le_of_eq e2) (t_X4_judge C0 O0 (fun h1 C1 F1 => ?_)) 
  · have M1 := MI_fr M0 F1
    obtain ⟨fz, Z1⟩ := MI_15 M1
    have e11 := F1.1.trans e1
    have e12 := F1.2.1.trans e2
    refine Rn.aload_n dL_law_661 rfl rfl ?_
    refine Rn.aload_nS dL_law_662 rfl rfl ?_
    refine Rn.iload_n dL_law_663 rfl rfl ?_
    refine Rn.iconst dL_law_664 rfl ic_1 ?_
    refine Rn.iaddN dL_law_665 rfl ?_
    refine Rn.sldN rfl dL_law_666 rfl (by omega) (by omega) ?_
    refine Rn.aload_nS dL_law_667 rfl rfl ?_
    refine Rn.iload_n dL_law_668 rfl rfl ?_
    refine Rn.iconst dL_law_669 rfl ic_2 ?_
    refine Rn.iaddN dL_law_670 rfl ?_
    refine Rn.sldN rfl dL_law_671 rfl (by omega) (by omega) ?_
    refine Rn.i2l dL_law_672 rfl ?_
    refine Rn.bipush dL_law_673 rfl bp_32 ?_
    refine Rn.lshl dL_law_675 rfl ?_
    refine Rn.aload_nS dL_law_676 rfl rfl ?_
    refine Rn.iload_n dL_law_677 rfl rfl ?_
    refine Rn.iconst dL_law_678 rfl ic_3 ?_
    refine Rn.iaddN dL_law_679 rfl ?_
    refine Rn.sldN rfl dL_law_680 rfl (by omega) (by omega) ?_
    refine Rn.i2l dL_law_681 rfl ?_
    refine Rn.ldc2 dL_law_682 rfl k_L_90 ?_
    refine Rn.land dL_law_685 rfl ?_
    refine Rn.lor dL_law_686 rfl ?_
    refine Rn.callV (as := [_, _]) v_X5_judge l_L_96 ⟨Nat.le_of_ble_eq_true rfl, Nat.le_of_ble_eq_true rfl⟩ dL_law_687 rfl rfl (Nat.le_of_ble_eq_true rfl) Z1 (by omega) rfl (Nat.le_of_eq e11) (Nat.le_of_eq e12) (t_X5_judge M1 O0 (fun h2 M2 F2 => ?_)) 
    · have C2 := CI_fm C1 F2
      have e21 := F2.1.trans e11
      have e22 := F2.2.1.trans e12
      refine Rn.icmp_eq (tgt := 1097) dL_law_690 rfl (by decide) (fun c690 => ?_) (fun c690 => ?_)
      · exact hgo _ _ _ _ _ _ _ _ _ _ _ _ _ C2 M2 O0 e21 e22
      · exact absurd rfl c690
theorem law_19 {L : Nat} {xs : Nat → Int32} {bb : UInt32} {Q : Option Value → rHp → Prop} {h : rHp} {t : Nat → Nat} {ln : Nat} {p : Nat → Nat} {U : Nat → Nat → Nat} {a : Nat} {Kp : Nat → Nat → Nat} {ik : Nat → Bool} {su sp sn : Nat → Nat} {sz : Nat} {d : Int64} {i : Nat} (hL : L ≤ 2560) (hi : i + 5 ≤ L) (C0 : CI h t ln p U a Kp ik su sp sn sz d) (M0 : MI h t ln p U a Kp ik su sp sn sz d) (O0 : OKs t ln p U a Kp ik su sp sn sz) (e1 : h.1 = 28) (e2 : h.2.1 = 1902) (hgo : ∀ (h : rHp) (t : Nat → Nat) (ln : Nat) (p : Nat → Nat) (U : Nat → Nat → Nat) (a : Nat) (Kp : Nat → Nat → Nat) (ik : Nat → Bool) (su sp sn : Nat → Nat) (sz : Nat) (d : Int64), CI h t ln p U a Kp ik su sp sn sz d → MI h t ln p U a Kp ik su sp sn sz d → OKs t ln p U a Kp ik su sp sn sz → h.1 = 28 → h.2.1 = 1902 → Rn (M_L_law, some (L, xs), 28, 1902) Q 1097 [(0, .float bb), (1, .ref 0), (2, .ref 15), (3, .int (nI i))] [] h) : Rn (M_L_law, some (L, xs), 28, 1902) Q 695 [(0, .float bb), (1, .ref 0), (2, .ref 15), (3, .int (nI i))] [] h := by
  refine Rn.aload_n dL_law_695 rfl rfl ?_
  refine Rn.aload_nS dL_law_696 rfl rfl ?_
  refine Rn.iload_n dL_law_697 rfl rfl ?_
  refine Rn.iconst dL_law_698 rfl ic_1 ?_
  refine Rn.iaddN dL_law_699 rfl ?_
  refine Rn.sldN rfl dL_law_700 rfl (by omega) (by omega) ?_
  refine Rn.aload_nS dL_law_701 rfl rfl ?_
  refine Rn.iload_n dL_law_702 rfl rfl ?_
  refine Rn.iconst dL_law_703 rfl ic_2 ?_
  refine Rn.iaddN dL_law_704 rfl ?_
  refine Rn.sldN rfl dL_law_705 rfl (by omega) (by omega) ?_
  refine Rn.aload_nS dL_law_706 rfl rfl ?_
  refine Rn.iload_n dL_law_707 rfl rfl ?_
  refine Rn.iconst dL_law_708 rfl ic_3 ?_
  refine Rn.iaddN dL_law_709 rfl ?_
  refine Rn.sldN rfl dL_law_710 rfl (by omega) (by omega) ?_
  refine Rn.callV (as := [_, _, _]) v_X4_see l_L_97 ⟨Nat.le_of_ble_eq_true rfl, Nat.le_of_ble_eq_true rfl⟩ dL_law_711 rfl rfl (Nat.le_of_ble_eq_true rfl) (CI_0 C0) (by omega) rfl (Nat.le_of_eq e1) (Nat.le_of_eq e2) (t_X4_see C0 O0 (fun h1 C1 F1 => ?_)) 
  · have M1 := MI_fr M0 F1
    obtain ⟨fz, Z1⟩ := MI_15 M1
    have e11 := F1.1.trans e1
    have e12 := F1.2.1.trans e2
    refine Rn.aload_n dL_law_714 rfl rfl ?_
    refine Rn.aload_nS dL_law_715 rfl rfl ?_
    refine Rn.iload_n dL_law_716 rfl rfl ?_
    refine Rn.iconst dL_law_717 rfl ic_1 ?_
    refine Rn.iaddN dL_law_718 rfl ?_
    refine Rn.sldN rfl dL_law_719 rfl (by omega) (by omega) ?_
    refine Rn.aload_nS dL_law_720 rfl rfl ?_
    refine Rn.iload_n dL_law_721 rfl rfl ?_
    refine Rn.iconst dL_law_722 rfl ic_2 ?_
    refine Rn.iaddN dL_law_723 rfl ?_
    refine Rn.sldN rfl dL_law_724 rfl (by omega) (by omega) ?_
    refine Rn.aload_nS dL_law_725 rfl rfl ?_
    refine Rn.iload_n dL_law_726 rfl rfl ?_
    refine Rn.iconst dL_law_727 rfl ic_3 ?_
    refine Rn.iaddN dL_law_728 rfl ?_
    refine Rn.sldN rfl dL_law_729 rfl (by omega) (by omega) ?_
    refine Rn.callV (as := [_, _, _]) v_X5_see l_L_100 ⟨Nat.le_of_ble_eq_true rfl, Nat.le_of_ble_eq_true rfl⟩ dL_law_730 rfl rfl (Nat.le_of_ble_eq_true rfl) Z1 (by omega) rfl (Nat.le_of_eq e11) (Nat.le_of_eq e12) (t_X5_see M1 O0 (fun h2 M2 F2 => ?_)) 
    · have C2 := CI_fm C1 F2
      have e21 := F2.1.trans e11
      have e22 := F2.2.1.trans e12
      refine Rn.icmp_eq (tgt := 1097) dL_law_733 rfl (by decide) (fun c733 => ?_) (fun c733 => ?_)
      · exact hgo _ _ _ _ _ _ _ _ _ _ _ _ _ C2 M2 (ok_sy O0 _ _ _) e21 e22
      · exact absurd rfl c733
theorem law_20 {L : Nat} {xs : Nat → Int32} {bb : UInt32} {Q : Option Value → rHp → Prop} {h : rHp} {t : Nat → Nat} {ln : Nat} {p : Nat → Nat} {U : Nat → Nat → Nat} {a : Nat} {Kp : Nat → Nat → Nat} {ik : Nat → Bool} {su sp sn : Nat → Nat} {sz : Nat} {d : Int64} {i : Nat} (hL : L ≤ 2560) (hi : i + 5 ≤ L) (C0 : CI h t ln p U a Kp ik su sp sn sz d) (M0 : MI h t ln p U a Kp ik su sp sn sz d) (O0 : OKs t ln p U a Kp ik su sp sn sz) (e1 : h.1 = 28) (e2 : h.2.1 = 1902) (hgo : ∀ (h : rHp) (t : Nat → Nat) (ln : Nat) (p : Nat → Nat) (U : Nat → Nat → Nat) (a : Nat) (Kp : Nat → Nat → Nat) (ik : Nat → Bool) (su sp sn : Nat → Nat) (sz : Nat) (d : Int64), CI h t ln p U a Kp ik su sp sn sz d → MI h t ln p U a Kp ik su sp sn sz d → OKs t ln p U a Kp ik su sp sn sz → h.1 = 28 → h.2.1 = 1902 → Rn (M_L_law, some (L, xs), 28, 1902) Q 1097 [(0, .float bb), (1, .ref 0), (2, .ref 15), (3, .int (nI i))] [] h) : Rn (M_L_law, some (L, xs), 28, 1902) Q 738 [(0, .float bb), (1, .ref 0), (2, .ref 15), (3, .int (nI i))] [] h := by
  refine Rn.aload_n dL_law_738 rfl rfl ?_
  refine Rn.callV (as := []) v_X4_unsee l_L_101 ⟨Nat.le_of_ble_eq_true rfl, Nat.le_of_ble_eq_true rfl⟩ dL_law_739 rfl rfl (Nat.le_of_ble_eq_true rfl) (CI_0 C0) (by omega) rfl (Nat.le_of_eq e1) (Nat.le_of_eq e2) (t_X4_unsee C0 O0 (fun h1 C1 F1 => ?_)) 
  · have M1 := MI_fr M0 F1
    obtain ⟨fz, Z1⟩ := MI_15 M1
    have e11 := F1.1.trans e1
    have e12 := F1.2.1.trans e2
    refine Rn.aload_n dL_law_742 rfl rfl ?_
    refine Rn.callV (as := []) v_X5_unsee l_L_104 ⟨Nat.le_of_ble_eq_true rfl, Nat.le_of_ble_eq_true rfl⟩ dL_law_743 rfl rfl (Nat.le_of_ble_eq_true rfl) Z1 (by omega) rfl (Nat.le_of_eq e11) (Nat.le_of_eq e12) (t_X5_unsee M1 O0 (fun h2 M2 F2 => ?_)) 
    · have C2 := CI_fm C1 F2
      have e21 := F2.1.trans e11
      have e22 := F2.2.1.trans e12
      refine Rn.icmp_eq (tgt := 1097) dL_law_746 rfl (by decide) (fun c746 => ?_) (fun c746 => ?_)
      · exact hgo _ _ _ _ _ _ _ _ _ _ _ _ _ C2 M2 (ok_us O0) e21 e22
      · exact absurd rfl c746
theorem law_21 {L : Nat} {xs : Nat → Int32} {bb : UInt32} {Q : Option Value → rHp → Prop} {h : rHp} {t : Nat → Nat} {ln : Nat} {p : Nat → Nat} {U : Nat → Nat → Nat} {a : Nat} {Kp : Nat → Nat → Nat} {ik : Nat → Bool} {su sp sn : Nat → Nat} {sz : Nat} {d : Int64} {i : Nat} (hL : L ≤ 2560) (hi : i + 5 ≤ L) (C0 : CI h t ln p U a Kp ik su sp sn sz d) (M0 : MI h t ln p U a Kp ik su sp sn sz d) (O0 : OKs t ln p U a Kp ik su sp sn sz) (e1 : h.1 = 28) (e2 : h.2.1 = 1902) (hgo : ∀ (h : rHp) (t : Nat → Nat) (ln : Nat) (p : Nat → Nat) (U : Nat → Nat → Nat) (a : Nat) (Kp : Nat → Nat → Nat) (ik : Nat → Bool) (su sp sn : Nat → Nat) (sz : Nat) (d : Int64), CI h t ln p U a Kp ik su sp sn sz d → MI h t ln p U a Kp ik su sp sn sz d → OKs t ln p U a Kp ik su sp sn sz → h.1 = 28 → h.2.1 = 1902 → Rn (M_L_law, some (L, xs), 28, 1902) Q 1097 [(0, .float bb), (1, .ref 0), (2, .ref 15), (3, .int (nI i))] [] h) : Rn (M_L_law, some (L, xs), 28, 1902) Q 751 [(0, .float bb), (1, .ref 0), (2, .ref 15), (3, .int (nI i))] [] h := by
  refine Rn.aload_n dL_law_751 rfl rfl ?_
  refine Rn.aload_nS dL_law_752 rfl rfl ?_
  refine Rn.iload_n dL_law_753 rfl rfl ?_
  refine Rn.iconst dL_law_754 rfl ic_1 ?_
  refine Rn.iaddN dL_law_755 rfl ?_
  refine Rn.sldN rfl dL_law_756 rfl (by omega) (by omega) ?_
  refine Rn.callV (as := [_]) v_X4_which l_L_105 ⟨Nat.le_of_ble_eq_true rfl, Nat.le_of_ble_eq_true rfl⟩ dL_law_757 rfl rfl (Nat.le_of_ble_eq_true rfl) (CI_0 C0) (by omega) rfl (Nat.le_of_eq e1) (Nat.le_of_eq e2) (t_X4_which C0 O0 ?_) 
  · obtain ⟨fz, Z0⟩ := MI_15 M0
    refine Rn.aload_n dL_law_760 rfl rfl ?_
    refine Rn.aload_nS dL_law_761 rfl rfl ?_
    refine Rn.iload_n dL_law_762 rfl rfl ?_
    refine Rn.iconst dL_law_763 rfl ic_1 ?_
    refine Rn.iaddN dL_law_764 rfl ?_
    refine Rn.sldN rfl dL_law_765 rfl (by omega) (by omega) ?_
    refine Rn.callV (as := [_]) v_X5_which l_L_108 ⟨Nat.le_of_ble_eq_true rfl, Nat.le_of_ble_eq_true rfl⟩ dL_law_766 rfl rfl (Nat.le_of_ble_eq_true rfl) Z0 (by omega) rfl (Nat.le_of_eq e1) (Nat.le_of_eq e2) (t_X5_which M0 O0 (fun h2 M2 F2 => ?_)) 
    · have C2 := CI_fm C0 F2
      have e21 := F2.1.trans e1
      have e22 := F2.2.1.trans e2
      refine Rn.icmp_eq (tgt := 1097) dL_law_769 rfl (by decide) (fun c769 => ?_) (fun c769 => ?_)
      · exact hgo _ _ _ _ _ _ _ _ _ _ _ _ _ C2 M2 O0 e21 e22
      · exact absurd rfl c769
theorem law_22 {L : Nat} {xs : Nat → Int32} {bb : UInt32} {Q : Option Value → rHp → Prop} {h : rHp} {t : Nat → Nat} {ln : Nat} {p : Nat → Nat} {U : Nat → Nat → Nat} {a : Nat} {Kp : Nat → Nat → Nat} {ik : Nat → Bool} {su sp sn : Nat → Nat} {sz : Nat} {d : Int64} {i : Nat} (hL : L ≤ 2560) (hi : i + 5 ≤ L) (C0 : CI h t ln p U a Kp ik su sp sn sz d) (M0 : MI h t ln p U a Kp ik su sp sn sz d) (O0 : OKs t ln p U a Kp ik su sp sn sz) (e1 : h.1 = 28) (e2 : h.2.1 = 1902) (hgo : ∀ (h : rHp) (t : Nat → Nat) (ln : Nat) (p : Nat → Nat) (U : Nat → Nat → Nat) (a : Nat) (Kp : Nat → Nat → Nat) (ik : Nat → Bool) (su sp sn : Nat → Nat) (sz : Nat) (d : Int64), CI h t ln p U a Kp ik su sp sn sz d → MI h t ln p U a Kp ik su sp sn sz d → OKs t ln p U a Kp ik su sp sn sz → h.1 = 28 → h.2.1 = 1902 → Rn (M_L_law, some (L, xs), 28, 1902) Q 1097 [(0, .float bb), (1, .ref 0), (2, .ref 15), (3, .int (nI i))] [] h) : Rn (M_L_law, some (L, xs), 28, 1902) Q 774 [(0, .float bb), (1, .ref 0), (2, .ref 15), (3, .int (nI i))] [] h := by
  refine Rn.aload_n dL_law_774 rfl rfl ?_
  refine Rn.aload_nS dL_law_775 rfl rfl ?_
  refine Rn.iload_n dL_law_776 rfl rfl ?_
  refine Rn.iconst dL_law_777 rfl ic_1 ?_
  refine Rn.iaddN dL_law_778 rfl ?_
  refine Rn.sldN rfl dL_law_779 rfl (by omega) (by omega) ?_
  refine Rn.aload_nS dL_law_780 rfl rfl ?_
  refine Rn.iload_n dL_law_781 rfl rfl ?_
  refine Rn.iconst dL_law_782 rfl ic_2 ?_
  refine Rn.iaddN dL_law_783 rfl ?_
  refine Rn.sldN rfl dL_law_784 rfl (by omega) (by omega) ?_
  refine Rn.if_eq (tgt := 792) dL_law_785 rfl (by decide) (fun c785 => ?_) (fun c785 => ?_)
  · refine Rn.iconst dL_law_792 rfl ic_0 ?_
    refine Rn.top (y := bi false) bi_f.symm ?_
    refine Rn.callV (as := [_, _]) v_X4_share l_L_109 ⟨Nat.le_of_ble_eq_true rfl, Nat.le_of_ble_eq_true rfl⟩ dL_law_793 rfl rfl (Nat.le_of_ble_eq_true rfl) (CI_0 C0) (by omega) rfl (Nat.le_of_eq e1) (Nat.le_of_eq e2) (t_X4_share (up := false) C0 O0 ?_) 
    · obtain ⟨fz, Z0⟩ := MI_15 M0
      refine Rn.aload_n dL_law_796 rfl rfl ?_
      refine Rn.aload_nS dL_law_797 rfl rfl ?_
      refine Rn.iload_n dL_law_798 rfl rfl ?_
      refine Rn.iconst dL_law_799 rfl ic_1 ?_
      refine Rn.iaddN dL_law_800 rfl ?_
      refine Rn.sldN rfl dL_law_801 rfl (by omega) (by omega) ?_
      refine Rn.aload_nS dL_law_802 rfl rfl ?_
      refine Rn.iload_n dL_law_803 rfl rfl ?_
      refine Rn.iconst dL_law_804 rfl ic_2 ?_
      refine Rn.iaddN dL_law_805 rfl ?_
      refine Rn.sldN rfl dL_law_806 rfl (by omega) (by omega) ?_
      refine Rn.if_eq (tgt := 814) dL_law_807 rfl (by decide) (fun c807 => ?_) (fun c807 => ?_)
      · refine Rn.iconst dL_law_814 rfl ic_0 ?_
        refine Rn.top (y := bi false) bi_f.symm ?_
        refine Rn.callV (as := [_, _]) v_X5_share l_L_113 ⟨Nat.le_of_ble_eq_true rfl, Nat.le_of_ble_eq_true rfl⟩ dL_law_815 rfl rfl (Nat.le_of_ble_eq_true rfl) Z0 (by omega) rfl (Nat.le_of_eq e1) (Nat.le_of_eq e2) (t_X5_share (up := false) M0 O0 (fun h2 M2 F2 => ?_)) 
        · have C2 := CI_fm C0 F2
          have e21 := F2.1.trans e1
          have e22 := F2.2.1.trans e2
          refine Rn.icmp_eq (tgt := 1097) dL_law_818 rfl (by decide) (fun c818 => ?_) (fun c818 => ?_)
          · exact hgo _ _ _ _ _ _ _ _ _ _ _ _ _ C2 M2 O0 e21 e22
          · exact absurd rfl c818
      · exact absurd c785 c807
  · refine Rn.iconst dL_law_788 rfl ic_1 ?_
    refine Rn.top (y := bi true) bi_t.symm ?_
    refine Rn.goto (tgt := 793) dL_law_789 (by decide) ?_
    refine Rn.callV (as := [_, _]) v_X4_share l_L_109 ⟨Nat.le_of_ble_eq_true rfl, Nat.le_of_ble_eq_true rfl⟩ dL_law_793 rfl rfl (Nat.le_of_ble_eq_true rfl) (CI_0 C0) (by omega) rfl (Nat.le_of_eq e1) (Nat.le_of_eq e2) (t_X4_share (up := true) C0 O0 ?_) 
    · obtain ⟨fz, Z0⟩ := MI_15 M0
      refine Rn.aload_n dL_law_796 rfl rfl ?_
      refine Rn.aload_nS dL_law_797 rfl rfl ?_
      refine Rn.iload_n dL_law_798 rfl rfl ?_
      refine Rn.iconst dL_law_799 rfl ic_1 ?_
      refine Rn.iaddN dL_law_800 rfl ?_
      refine Rn.sldN rfl dL_law_801 rfl (by omega) (by omega) ?_
      refine Rn.aload_nS dL_law_802 rfl rfl ?_
      refine Rn.iload_n dL_law_803 rfl rfl ?_
      refine Rn.iconst dL_law_804 rfl ic_2 ?_
      refine Rn.iaddN dL_law_805 rfl ?_
      refine Rn.sldN rfl dL_law_806 rfl (by omega) (by omega) ?_
      refine Rn.if_eq (tgt := 814) dL_law_807 rfl (by decide) (fun c807 => ?_) (fun c807 => ?_)
      · exact absurd c807 c785
      · refine Rn.iconst dL_law_810 rfl ic_1 ?_
        refine Rn.top (y := bi true) bi_t.symm ?_
        refine Rn.goto (tgt := 815) dL_law_811 (by decide) ?_
        refine Rn.callV (as := [_, _]) v_X5_share l_L_113 ⟨Nat.le_of_ble_eq_true rfl, Nat.le_of_ble_eq_true rfl⟩ dL_law_815 rfl rfl (Nat.le_of_ble_eq_true rfl) Z0 (by omega) rfl (Nat.le_of_eq e1) (Nat.le_of_eq e2) (t_X5_share (up := true) M0 O0 (fun h2 M2 F2 => ?_)) 
        · have C2 := CI_fm C0 F2
          have e21 := F2.1.trans e1
          have e22 := F2.2.1.trans e2
          refine Rn.icmp_eq (tgt := 1097) dL_law_818 rfl (by decide) (fun c818 => ?_) (fun c818 => ?_)
          · exact hgo _ _ _ _ _ _ _ _ _ _ _ _ _ C2 M2 O0 e21 e22
          · exact absurd rfl c818
theorem law_23 {L : Nat} {xs : Nat → Int32} {bb : UInt32} {Q : Option Value → rHp → Prop} {h : rHp} {t : Nat → Nat} {ln : Nat} {p : Nat → Nat} {U : Nat → Nat → Nat} {a : Nat} {Kp : Nat → Nat → Nat} {ik : Nat → Bool} {su sp sn : Nat → Nat} {sz : Nat} {d : Int64} {i : Nat} (hL : L ≤ 2560) (hi : i + 5 ≤ L) (C0 : CI h t ln p U a Kp ik su sp sn sz d) (M0 : MI h t ln p U a Kp ik su sp sn sz d) (O0 : OKs t ln p U a Kp ik su sp sn sz) (e1 : h.1 = 28) (e2 : h.2.1 = 1902) (hgo : ∀ (h : rHp) (t : Nat → Nat) (ln : Nat) (p : Nat → Nat) (U : Nat → Nat → Nat) (a : Nat) (Kp : Nat → Nat → Nat) (ik : Nat → Bool) (su sp sn : Nat → Nat) (sz : Nat) (d : Int64), CI h t ln p U a Kp ik su sp sn sz d → MI h t ln p U a Kp ik su sp sn sz d → OKs t ln p U a Kp ik su sp sn sz → h.1 = 28 → h.2.1 = 1902 → Rn (M_L_law, some (L, xs), 28, 1902) Q 1097 [(0, .float bb), (1, .ref 0), (2, .ref 15), (3, .int (nI i))] [] h) : Rn (M_L_law, some (L, xs), 28, 1902) Q 823 [(0, .float bb), (1, .ref 0), (2, .ref 15), (3, .int (nI i))] [] h := by
  refine Rn.aload_n dL_law_823 rfl rfl ?_
  refine Rn.aload_nS dL_law_824 rfl rfl ?_
  refine Rn.iload_n dL_law_825 rfl rfl ?_
  refine Rn.iconst dL_law_826 rfl ic_1 ?_
  refine Rn.iaddN dL_law_827 rfl ?_
  refine Rn.sldN rfl dL_law_828 rfl (by omega) (by omega) ?_
  refine Rn.aload_nS dL_law_829 rfl rfl ?_
  refine Rn.iload_n dL_law_830 rfl rfl ?_
  refine Rn.iconst dL_law_831 rfl ic_2 ?_
  refine Rn.iaddN dL_law_832 rfl ?_
  refine Rn.sldN rfl dL_law_833 rfl (by omega) (by omega) ?_
  refine Rn.aload_nS dL_law_834 rfl rfl ?_
  refine Rn.iload_n dL_law_835 rfl rfl ?_
  refine Rn.iconst dL_law_836 rfl ic_3 ?_
  refine Rn.iaddN dL_law_837 rfl ?_
  refine Rn.sldN rfl dL_law_838 rfl (by omega) (by omega) ?_
  refine Rn.if_eq (tgt := 846) dL_law_839 rfl (by decide) (fun c839 => ?_) (fun c839 => ?_)
  · refine Rn.iconst dL_law_846 rfl ic_0 ?_
    refine Rn.top (y := bi false) bi_f.symm ?_
    refine Rn.callV (as := [_, _, _]) v_X4_guess l_L_114 ⟨Nat.le_of_ble_eq_true rfl, Nat.le_of_ble_eq_true rfl⟩ dL_law_847 rfl rfl (Nat.le_of_ble_eq_true rfl) (CI_0 C0) (by omega) rfl (Nat.le_of_eq e1) (Nat.le_of_eq e2) (t_X4_guess (up := false) C0 O0 ?_) 
    · obtain ⟨fz, Z0⟩ := MI_15 M0
      refine Rn.aload_n dL_law_850 rfl rfl ?_
      refine Rn.aload_nS dL_law_851 rfl rfl ?_
      refine Rn.iload_n dL_law_852 rfl rfl ?_
      refine Rn.iconst dL_law_853 rfl ic_1 ?_
      refine Rn.iaddN dL_law_854 rfl ?_
      refine Rn.sldN rfl dL_law_855 rfl (by omega) (by omega) ?_
      refine Rn.aload_nS dL_law_856 rfl rfl ?_
      refine Rn.iload_n dL_law_857 rfl rfl ?_
      refine Rn.iconst dL_law_858 rfl ic_2 ?_
      refine Rn.iaddN dL_law_859 rfl ?_
      refine Rn.sldN rfl dL_law_860 rfl (by omega) (by omega) ?_
      refine Rn.aload_nS dL_law_861 rfl rfl ?_
      refine Rn.iload_n dL_law_862 rfl rfl ?_
      refine Rn.iconst dL_law_863 rfl ic_3 ?_
      refine Rn.iaddN dL_law_864 rfl ?_
      refine Rn.sldN rfl dL_law_865 rfl (by omega) (by omega) ?_
      refine Rn.if_eq (tgt := 873) dL_law_866 rfl (by decide) (fun c866 => ?_) (fun c866 => ?_)
      · refine Rn.iconst dL_law_873 rfl ic_0 ?_
        refine Rn.top (y := bi false) bi_f.symm ?_
        refine Rn.callV (as := [_, _, _]) v_X5_guess l_L_118 ⟨Nat.le_of_ble_eq_true rfl, Nat.le_of_ble_eq_true rfl⟩ dL_law_874 rfl rfl (Nat.le_of_ble_eq_true rfl) Z0 (by omega) rfl (Nat.le_of_eq e1) (Nat.le_of_eq e2) (t_X5_guess (up := false) M0 O0 (fun h2 M2 F2 => ?_)) 
        · have C2 := CI_fm C0 F2
          have e21 := F2.1.trans e1
          have e22 := F2.2.1.trans e2
          refine Rn.icmp_eq (tgt := 1097) dL_law_877 rfl (by decide) (fun c877 => ?_) (fun c877 => ?_)
          · exact hgo _ _ _ _ _ _ _ _ _ _ _ _ _ C2 M2 O0 e21 e22
          · exact absurd rfl c877
      · exact absurd c839 c866
  · refine Rn.iconst dL_law_842 rfl ic_1 ?_
    refine Rn.top (y := bi true) bi_t.symm ?_
    refine Rn.goto (tgt := 847) dL_law_843 (by decide) ?_
    refine Rn.callV (as := [_, _, _]) v_X4_guess l_L_114 ⟨Nat.le_of_ble_eq_true rfl, Nat.le_of_ble_eq_true rfl⟩ dL_law_847 rfl rfl (Nat.le_of_ble_eq_true rfl) (CI_0 C0) (by omega) rfl (Nat.le_of_eq e1) (Nat.le_of_eq e2) (t_X4_guess (up := true) C0 O0 ?_) 
    · obtain ⟨fz, Z0⟩ := MI_15 M0
      refine Rn.aload_n dL_law_850 rfl rfl ?_
      refine Rn.aload_nS dL_law_851 rfl rfl ?_
      refine Rn.iload_n dL_law_852 rfl rfl ?_
      refine Rn.iconst dL_law_853 rfl ic_1 ?_
      refine Rn.iaddN dL_law_854 rfl ?_
      refine Rn.sldN rfl dL_law_855 rfl (by omega) (by omega) ?_
      refine Rn.aload_nS dL_law_856 rfl rfl ?_
      refine Rn.iload_n dL_law_857 rfl rfl ?_
      refine Rn.iconst dL_law_858 rfl ic_2 ?_
      refine Rn.iaddN dL_law_859 rfl ?_
      refine Rn.sldN rfl dL_law_860 rfl (by omega) (by omega) ?_
      refine Rn.aload_nS dL_law_861 rfl rfl ?_
      refine Rn.iload_n dL_law_862 rfl rfl ?_
      refine Rn.iconst dL_law_863 rfl ic_3 ?_
      refine Rn.iaddN dL_law_864 rfl ?_
      refine Rn.sldN rfl dL_law_865 rfl (by omega) (by omega) ?_
      refine Rn.if_eq (tgt := 873) dL_law_866 rfl (by decide) (fun c866 => ?_) (fun c866 => ?_)
      · exact absurd c866 c839
      · refine Rn.iconst dL_law_869 rfl ic_1 ?_
        refine Rn.top (y := bi true) bi_t.symm ?_
        refine Rn.goto (tgt := 874) dL_law_870 (by decide) ?_
        refine Rn.callV (as := [_, _, _]) v_X5_guess l_L_118 ⟨Nat.le_of_ble_eq_true rfl, Nat.le_of_ble_eq_true rfl⟩ dL_law_874 rfl rfl (Nat.le_of_ble_eq_true rfl) Z0 (by omega) rfl (Nat.le_of_eq e1) (Nat.le_of_eq e2) (t_X5_guess (up := true) M0 O0 (fun h2 M2 F2 => ?_)) 
        · have C2 := CI_fm C0 F2
          have e21 := F2.1.trans e1
          have e22 := F2.2.1.trans e2
          refine Rn.icmp_eq (tgt := 1097) dL_law_877 rfl (by decide) (fun c877 => ?_) (fun c877 => ?_)
          · exact hgo _ _ _ _ _ _ _ _ _ _ _ _ _ C2 M2 O0 e21 e22
          · exact absurd rfl c877
theorem law_24 {L : Nat} {xs : Nat → Int32} {bb : UInt32} {Q : Option Value → rHp → Prop} {h : rHp} {t : Nat → Nat} {ln : Nat} {p : Nat → Nat} {U : Nat → Nat → Nat} {a : Nat} {Kp : Nat → Nat → Nat} {ik : Nat → Bool} {su sp sn : Nat → Nat} {sz : Nat} {d : Int64} {i : Nat} (hL : L ≤ 2560) (hi : i + 5 ≤ L) (C0 : CI h t ln p U a Kp ik su sp sn sz d) (M0 : MI h t ln p U a Kp ik su sp sn sz d) (O0 : OKs t ln p U a Kp ik su sp sn sz) (e1 : h.1 = 28) (e2 : h.2.1 = 1902) (hgo : ∀ (h : rHp) (t : Nat → Nat) (ln : Nat) (p : Nat → Nat) (U : Nat → Nat → Nat) (a : Nat) (Kp : Nat → Nat → Nat) (ik : Nat → Bool) (su sp sn : Nat → Nat) (sz : Nat) (d : Int64), CI h t ln p U a Kp ik su sp sn sz d → MI h t ln p U a Kp ik su sp sn sz d → OKs t ln p U a Kp ik su sp sn sz → h.1 = 28 → h.2.1 = 1902 → Rn (M_L_law, some (L, xs), 28, 1902) Q 1097 [(0, .float bb), (1, .ref 0), (2, .ref 15), (3, .int (nI i))] [] h) : Rn (M_L_law, some (L, xs), 28, 1902) Q 882 [(0, .float bb), (1, .ref 0), (2, .ref 15), (3, .int (nI i))] [] h := by
  refine Rn.aload_n dL_law_882 rfl rfl ?_
  refine Rn.aload_nS dL_law_883 rfl rfl ?_
  refine Rn.iload_n dL_law_884 rfl rfl ?_
  refine Rn.iconst dL_law_885 rfl ic_1 ?_
  refine Rn.iaddN dL_law_886 rfl ?_
  refine Rn.sldN rfl dL_law_887 rfl (by omega) (by omega) ?_
  refine Rn.aload_nS dL_law_888 rfl rfl ?_
  refine Rn.iload_n dL_law_889 rfl rfl ?_
  refine Rn.iconst dL_law_890 rfl ic_2 ?_
  refine Rn.iaddN dL_law_891 rfl ?_
  refine Rn.sldN rfl dL_law_892 rfl (by omega) (by omega) ?_
  refine Rn.aload_nS dL_law_893 rfl rfl ?_
  refine Rn.iload_n dL_law_894 rfl rfl ?_
  refine Rn.iconst dL_law_895 rfl ic_3 ?_
  refine Rn.iaddN dL_law_896 rfl ?_
  refine Rn.sldN rfl dL_law_897 rfl (by omega) (by omega) ?_
  refine Rn.aload_nS dL_law_898 rfl rfl ?_
  refine Rn.iload_n dL_law_899 rfl rfl ?_
  refine Rn.iconst dL_law_900 rfl ic_4 ?_
  refine Rn.iaddN dL_law_901 rfl ?_
  refine Rn.sldN rfl dL_law_902 rfl (by omega) (by omega) ?_
  refine Rn.if_eq (tgt := 910) dL_law_903 rfl (by decide) (fun c903 => ?_) (fun c903 => ?_)
  · refine Rn.iconst dL_law_910 rfl ic_0 ?_
    refine Rn.top (y := bi false) bi_f.symm ?_
    refine Rn.callV (as := [_, _, _, _]) v_X4_loss l_L_119 ⟨Nat.le_of_ble_eq_true rfl, Nat.le_of_ble_eq_true rfl⟩ dL_law_911 rfl rfl (Nat.le_of_ble_eq_true rfl) (CI_0 C0) (by omega) rfl (Nat.le_of_eq e1) (Nat.le_of_eq e2) (t_X4_loss (up := false) C0 O0 (fun h1 C1 F1 => ?_)) 
    · have M1 := MI_fr M0 F1
      obtain ⟨fz, Z1⟩ := MI_15 M1
      have e11 := F1.1.trans e1
      have e12 := F1.2.1.trans e2
      refine Rn.aload_n dL_law_914 rfl rfl ?_
      refine Rn.aload_nS dL_law_915 rfl rfl ?_
      refine Rn.iload_n dL_law_916 rfl rfl ?_
      refine Rn.iconst dL_law_917 rfl ic_1 ?_
      refine Rn.iaddN dL_law_918 rfl ?_
      refine Rn.sldN rfl dL_law_919 rfl (by omega) (by omega) ?_
      refine Rn.aload_nS dL_law_920 rfl rfl ?_
      refine Rn.iload_n dL_law_921 rfl rfl ?_
      refine Rn.iconst dL_law_922 rfl ic_2 ?_
      refine Rn.iaddN dL_law_923 rfl ?_
      refine Rn.sldN rfl dL_law_924 rfl (by omega) (by omega) ?_
      refine Rn.aload_nS dL_law_925 rfl rfl ?_
      refine Rn.iload_n dL_law_926 rfl rfl ?_
      refine Rn.iconst dL_law_927 rfl ic_3 ?_
      refine Rn.iaddN dL_law_928 rfl ?_
      refine Rn.sldN rfl dL_law_929 rfl (by omega) (by omega) ?_
      refine Rn.aload_nS dL_law_930 rfl rfl ?_
      refine Rn.iload_n dL_law_931 rfl rfl ?_
      refine Rn.iconst dL_law_932 rfl ic_4 ?_
      refine Rn.iaddN dL_law_933 rfl ?_
      refine Rn.sldN rfl dL_law_934 rfl (by omega) (by omega) ?_
      refine Rn.if_eq (tgt := 942) dL_law_935 rfl (by decide) (fun c935 => ?_) (fun c935 => ?_)
      · refine Rn.iconst dL_law_942 rfl ic_0 ?_
        refine Rn.top (y := bi false) bi_f.symm ?_
        refine Rn.callV (as := [_, _, _, _]) v_X5_loss l_L_123 ⟨Nat.le_of_ble_eq_true rfl, Nat.le_of_ble_eq_true rfl⟩ dL_law_943 rfl rfl (Nat.le_of_ble_eq_true rfl) Z1 (by omega) rfl (Nat.le_of_eq e11) (Nat.le_of_eq e12) (t_X5_loss (up := false) M1 O0 (fun h2 M2 F2 => ?_)) 
        · have C2 := CI_fm C1 F2
          have e21 := F2.1.trans e11
          have e22 := F2.2.1.trans e12
          refine Rn.icmp_eq (tgt := 1097) dL_law_946 rfl (by decide) (fun c946 => ?_) (fun c946 => ?_)
          · exact hgo _ _ _ _ _ _ _ _ _ _ _ _ _ C2 M2 O0 e21 e22
          · exact absurd rfl c946
      · exact absurd c903 c935
  · refine Rn.iconst dL_law_906 rfl ic_1 ?_
    refine Rn.top (y := bi true) bi_t.symm ?_
    refine Rn.goto (tgt := 911) dL_law_907 (by decide) ?_
    refine Rn.callV (as := [_, _, _, _]) v_X4_loss l_L_119 ⟨Nat.le_of_ble_eq_true rfl, Nat.le_of_ble_eq_true rfl⟩ dL_law_911 rfl rfl (Nat.le_of_ble_eq_true rfl) (CI_0 C0) (by omega) rfl (Nat.le_of_eq e1) (Nat.le_of_eq e2) (t_X4_loss (up := true) C0 O0 (fun h1 C1 F1 => ?_)) 
    · have M1 := MI_fr M0 F1
      obtain ⟨fz, Z1⟩ := MI_15 M1
      have e11 := F1.1.trans e1
      have e12 := F1.2.1.trans e2
      refine Rn.aload_n dL_law_914 rfl rfl ?_
      refine Rn.aload_nS dL_law_915 rfl rfl ?_
      refine Rn.iload_n dL_law_916 rfl rfl ?_
      refine Rn.iconst dL_law_917 rfl ic_1 ?_
      refine Rn.iaddN dL_law_918 rfl ?_
      refine Rn.sldN rfl dL_law_919 rfl (by omega) (by omega) ?_
      refine Rn.aload_nS dL_law_920 rfl rfl ?_
      refine Rn.iload_n dL_law_921 rfl rfl ?_
      refine Rn.iconst dL_law_922 rfl ic_2 ?_
      refine Rn.iaddN dL_law_923 rfl ?_
      refine Rn.sldN rfl dL_law_924 rfl (by omega) (by omega) ?_
      refine Rn.aload_nS dL_law_925 rfl rfl ?_
      refine Rn.iload_n dL_law_926 rfl rfl ?_
      refine Rn.iconst dL_law_927 rfl ic_3 ?_
      refine Rn.iaddN dL_law_928 rfl ?_
      refine Rn.sldN rfl dL_law_929 rfl (by omega) (by omega) ?_
      refine Rn.aload_nS dL_law_930 rfl rfl ?_
      refine Rn.iload_n dL_law_931 rfl rfl ?_
      refine Rn.iconst dL_law_932 rfl ic_4 ?_
      refine Rn.iaddN dL_law_933 rfl ?_
      refine Rn.sldN rfl dL_law_934 rfl (by omega) (by omega) ?_
      refine Rn.if_eq (tgt := 942) dL_law_935 rfl (by decide) (fun c935 => ?_) (fun c935 => ?_)
      · exact absurd c935 c903
      · refine Rn.iconst dL_law_938 rfl ic_1 ?_
        refine Rn.top (y := bi true) bi_t.symm ?_
        refine Rn.goto (tgt := 943) dL_law_939 (by decide) ?_
        refine Rn.callV (as := [_, _, _, _]) v_X5_loss l_L_123 ⟨Nat.le_of_ble_eq_true rfl, Nat.le_of_ble_eq_true rfl⟩ dL_law_943 rfl rfl (Nat.le_of_ble_eq_true rfl) Z1 (by omega) rfl (Nat.le_of_eq e11) (Nat.le_of_eq e12) (t_X5_loss (up := true) M1 O0 (fun h2 M2 F2 => ?_)) 
        · have C2 := CI_fm C1 F2
          have e21 := F2.1.trans e11
          have e22 := F2.2.1.trans e12
          refine Rn.icmp_eq (tgt := 1097) dL_law_946 rfl (by decide) (fun c946 => ?_) (fun c946 => ?_)
          · exact hgo _ _ _ _ _ _ _ _ _ _ _ _ _ C2 M2 O0 e21 e22
          · exact absurd rfl c946
theorem law_25 {L : Nat} {xs : Nat → Int32} {bb : UInt32} {Q : Option Value → rHp → Prop} {h : rHp} {t : Nat → Nat} {ln : Nat} {p : Nat → Nat} {U : Nat → Nat → Nat} {a : Nat} {Kp : Nat → Nat → Nat} {ik : Nat → Bool} {su sp sn : Nat → Nat} {sz : Nat} {d : Int64} {i : Nat} (hL : L ≤ 2560) (hi : i + 5 ≤ L) (C0 : CI h t ln p U a Kp ik su sp sn sz d) (M0 : MI h t ln p U a Kp ik su sp sn sz d) (O0 : OKs t ln p U a Kp ik su sp sn sz) (e1 : h.1 = 28) (e2 : h.2.1 = 1902) (hgo : ∀ (h : rHp) (t : Nat → Nat) (ln : Nat) (p : Nat → Nat) (U : Nat → Nat → Nat) (a : Nat) (Kp : Nat → Nat → Nat) (ik : Nat → Bool) (su sp sn : Nat → Nat) (sz : Nat) (d : Int64), CI h t ln p U a Kp ik su sp sn sz d → MI h t ln p U a Kp ik su sp sn sz d → OKs t ln p U a Kp ik su sp sn sz → h.1 = 28 → h.2.1 = 1902 → Rn (M_L_law, some (L, xs), 28, 1902) Q 1097 [(0, .float bb), (1, .ref 0), (2, .ref 15), (3, .int (nI i))] [] h) : Rn (M_L_law, some (L, xs), 28, 1902) Q 951 [(0, .float bb), (1, .ref 0), (2, .ref 15), (3, .int (nI i))] [] h := by
  refine Rn.aload_n dL_law_951 rfl rfl ?_
  refine Rn.aload_nS dL_law_952 rfl rfl ?_
  refine Rn.iload_n dL_law_953 rfl rfl ?_
  refine Rn.iconst dL_law_954 rfl ic_1 ?_
  refine Rn.iaddN dL_law_955 rfl ?_
  refine Rn.sldN rfl dL_law_956 rfl (by omega) (by omega) ?_
  refine Rn.i2l dL_law_957 rfl ?_
  refine Rn.bipush dL_law_958 rfl bp_32 ?_
  refine Rn.lshl dL_law_960 rfl ?_
  refine Rn.aload_nS dL_law_961 rfl rfl ?_
  refine Rn.iload_n dL_law_962 rfl rfl ?_
  refine Rn.iconst dL_law_963 rfl ic_2 ?_
  refine Rn.iaddN dL_law_964 rfl ?_
  refine Rn.sldN rfl dL_law_965 rfl (by omega) (by omega) ?_
  refine Rn.i2l dL_law_966 rfl ?_
  refine Rn.ldc2 dL_law_967 rfl k_L_90 ?_
  refine Rn.land dL_law_970 rfl ?_
  refine Rn.lor dL_law_971 rfl ?_
  refine Rn.callV (as := [_]) v_X4_seed l_L_124 ⟨Nat.le_of_ble_eq_true rfl, Nat.le_of_ble_eq_true rfl⟩ dL_law_972 rfl rfl (Nat.le_of_ble_eq_true rfl) (CI_0 C0) (by omega) rfl (Nat.le_of_eq e1) (Nat.le_of_eq e2) (t_X4_seed C0 O0 (fun h1 C1 F1 => ?_)) 
  · have M1 := MI_fr M0 F1
    obtain ⟨fz, Z1⟩ := MI_15 M1
    have e11 := F1.1.trans e1
    have e12 := F1.2.1.trans e2
    refine Rn.aload_n dL_law_975 rfl rfl ?_
    refine Rn.aload_nS dL_law_976 rfl rfl ?_
    refine Rn.iload_n dL_law_977 rfl rfl ?_
    refine Rn.iconst dL_law_978 rfl ic_1 ?_
    refine Rn.iaddN dL_law_979 rfl ?_
    refine Rn.sldN rfl dL_law_980 rfl (by omega) (by omega) ?_
    refine Rn.i2l dL_law_981 rfl ?_
    refine Rn.bipush dL_law_982 rfl bp_32 ?_
    refine Rn.lshl dL_law_984 rfl ?_
    refine Rn.aload_nS dL_law_985 rfl rfl ?_
    refine Rn.iload_n dL_law_986 rfl rfl ?_
    refine Rn.iconst dL_law_987 rfl ic_2 ?_
    refine Rn.iaddN dL_law_988 rfl ?_
    refine Rn.sldN rfl dL_law_989 rfl (by omega) (by omega) ?_
    refine Rn.i2l dL_law_990 rfl ?_
    refine Rn.ldc2 dL_law_991 rfl k_L_90 ?_
    refine Rn.land dL_law_994 rfl ?_
    refine Rn.lor dL_law_995 rfl ?_
    refine Rn.callV (as := [_]) v_X5_seed l_L_128 ⟨Nat.le_of_ble_eq_true rfl, Nat.le_of_ble_eq_true rfl⟩ dL_law_996 rfl rfl (Nat.le_of_ble_eq_true rfl) Z1 (by omega) rfl (Nat.le_of_eq e11) (Nat.le_of_eq e12) (t_X5_seed M1 O0 (fun h2 M2 F2 => ?_)) 
    · have C2 := CI_fm C1 F2
      have e21 := F2.1.trans e11
      have e22 := F2.2.1.trans e12
      refine Rn.lcmp dL_law_999 rfl ?_
      refine Rn.if_eqL (tgt := 1097) dL_law_1000 rfl (by decide) (fun c1000 => ?_) (fun c1000 => ?_)
      · exact hgo _ _ _ _ _ _ _ _ _ _ _ _ _ C2 M2 O0 e21 e22
      · exact absurd rfl c1000
theorem law_26 {L : Nat} {xs : Nat → Int32} {bb : UInt32} {Q : Option Value → rHp → Prop} {h : rHp} {t : Nat → Nat} {ln : Nat} {p : Nat → Nat} {U : Nat → Nat → Nat} {a : Nat} {Kp : Nat → Nat → Nat} {ik : Nat → Bool} {su sp sn : Nat → Nat} {sz : Nat} {d : Int64} {i : Nat} (hL : L ≤ 2560) (hi : i + 5 ≤ L) (C0 : CI h t ln p U a Kp ik su sp sn sz d) (M0 : MI h t ln p U a Kp ik su sp sn sz d) (O0 : OKs t ln p U a Kp ik su sp sn sz) (e1 : h.1 = 28) (e2 : h.2.1 = 1902) (hgo : ∀ (h : rHp) (t : Nat → Nat) (ln : Nat) (p : Nat → Nat) (U : Nat → Nat → Nat) (a : Nat) (Kp : Nat → Nat → Nat) (ik : Nat → Bool) (su sp sn : Nat → Nat) (sz : Nat) (d : Int64), CI h t ln p U a Kp ik su sp sn sz d → MI h t ln p U a Kp ik su sp sn sz d → OKs t ln p U a Kp ik su sp sn sz → h.1 = 28 → h.2.1 = 1902 → Rn (M_L_law, some (L, xs), 28, 1902) Q 1097 [(0, .float bb), (1, .ref 0), (2, .ref 15), (3, .int (nI i))] [] h) : Rn (M_L_law, some (L, xs), 28, 1902) Q 1005 [(0, .float bb), (1, .ref 0), (2, .ref 15), (3, .int (nI i))] [] h := by
  refine Rn.aload_n dL_law_1005 rfl rfl ?_
  refine Rn.aload_nS dL_law_1006 rfl rfl ?_
  refine Rn.iload_n dL_law_1007 rfl rfl ?_
  refine Rn.iconst dL_law_1008 rfl ic_1 ?_
  refine Rn.iaddN dL_law_1009 rfl ?_
  refine Rn.sldN rfl dL_law_1010 rfl (by omega) (by omega) ?_
  refine Rn.callV (as := [_]) v_X4_drawn l_L_129 ⟨Nat.le_of_ble_eq_true rfl, Nat.le_of_ble_eq_true rfl⟩ dL_law_1011 rfl rfl (Nat.le_of_ble_eq_true rfl) (CI_0 C0) (by omega) rfl (Nat.le_of_eq e1) (Nat.le_of_eq e2) (t_X4_drawn C0 O0 (fun h1 C1 F1 => ?_)) 
  · have M1 := MI_fr M0 F1
    obtain ⟨fz, Z1⟩ := MI_15 M1
    have e11 := F1.1.trans e1
    have e12 := F1.2.1.trans e2
    refine Rn.aload_n dL_law_1014 rfl rfl ?_
    refine Rn.aload_nS dL_law_1015 rfl rfl ?_
    refine Rn.iload_n dL_law_1016 rfl rfl ?_
    refine Rn.iconst dL_law_1017 rfl ic_1 ?_
    refine Rn.iaddN dL_law_1018 rfl ?_
    refine Rn.sldN rfl dL_law_1019 rfl (by omega) (by omega) ?_
    refine Rn.callV (as := [_]) v_X5_drawn l_L_132 ⟨Nat.le_of_ble_eq_true rfl, Nat.le_of_ble_eq_true rfl⟩ dL_law_1020 rfl rfl (Nat.le_of_ble_eq_true rfl) Z1 (by omega) rfl (Nat.le_of_eq e11) (Nat.le_of_eq e12) (t_X5_drawn M1 O0 (fun h2 M2 F2 => ?_)) 
    · have C2 := CI_fm C1 F2
      have e21 := F2.1.trans e11
      have e22 := F2.2.1.trans e12
      refine Rn.icmp_eq (tgt := 1097) dL_law_1023 rfl (by decide) (fun c1023 => ?_) (fun c1023 => ?_)
      · exact hgo _ _ _ _ _ _ _ _ _ _ _ _ _ C2 M2 O0 e21 e22
      · exact absurd rfl c1023
theorem law_27 {L : Nat} {xs : Nat → Int32} {bb : UInt32} {Q : Option Value → rHp → Prop} {h : rHp} {t : Nat → Nat} {ln : Nat} {p : Nat → Nat} {U : Nat → Nat → Nat} {a : Nat} {Kp : Nat → Nat → Nat} {ik : Nat → Bool} {su sp sn : Nat → Nat} {sz : Nat} {d : Int64} {i : Nat} (hL : L ≤ 2560) (hi : i + 5 ≤ L) (C0 : CI h t ln p U a Kp ik su sp sn sz d) (M0 : MI h t ln p U a Kp ik su sp sn sz d) (O0 : OKs t ln p U a Kp ik su sp sn sz) (e1 : h.1 = 28) (e2 : h.2.1 = 1902) (hgo : ∀ (h : rHp) (t : Nat → Nat) (ln : Nat) (p : Nat → Nat) (U : Nat → Nat → Nat) (a : Nat) (Kp : Nat → Nat → Nat) (ik : Nat → Bool) (su sp sn : Nat → Nat) (sz : Nat) (d : Int64), CI h t ln p U a Kp ik su sp sn sz d → MI h t ln p U a Kp ik su sp sn sz d → OKs t ln p U a Kp ik su sp sn sz → h.1 = 28 → h.2.1 = 1902 → Rn (M_L_law, some (L, xs), 28, 1902) Q 1097 [(0, .float bb), (1, .ref 0), (2, .ref 15), (3, .int (nI i))] [] h) : Rn (M_L_law, some (L, xs), 28, 1902) Q 1028 [(0, .float bb), (1, .ref 0), (2, .ref 15), (3, .int (nI i))] [] h := by
  refine Rn.aload_n dL_law_1028 rfl rfl ?_
  refine Rn.aload_nS dL_law_1029 rfl rfl ?_
  refine Rn.iload_n dL_law_1030 rfl rfl ?_
  refine Rn.iconst dL_law_1031 rfl ic_1 ?_
  refine Rn.iaddN dL_law_1032 rfl ?_
  refine Rn.sldN rfl dL_law_1033 rfl (by omega) (by omega) ?_
  refine Rn.callV (as := [_]) v_X4_keep l_L_133 ⟨Nat.le_of_ble_eq_true rfl, Nat.le_of_ble_eq_true rfl⟩ dL_law_1034 rfl rfl (Nat.le_of_ble_eq_true rfl) (CI_0 C0) (by omega) rfl (Nat.le_of_eq e1) (Nat.le_of_eq e2) (t_X4_keep C0 O0 (fun h1 C1 F1 => ?_)) 
  · have M1 := MI_fr M0 F1
    obtain ⟨fz, Z1⟩ := MI_15 M1
    have e11 := F1.1.trans e1
    have e12 := F1.2.1.trans e2
    refine Rn.aload_n dL_law_1037 rfl rfl ?_
    refine Rn.aload_nS dL_law_1038 rfl rfl ?_
    refine Rn.iload_n dL_law_1039 rfl rfl ?_
    refine Rn.iconst dL_law_1040 rfl ic_1 ?_
    refine Rn.iaddN dL_law_1041 rfl ?_
    refine Rn.sldN rfl dL_law_1042 rfl (by omega) (by omega) ?_
    refine Rn.callV (as := [_]) v_X5_keep l_L_136 ⟨Nat.le_of_ble_eq_true rfl, Nat.le_of_ble_eq_true rfl⟩ dL_law_1043 rfl rfl (Nat.le_of_ble_eq_true rfl) Z1 (by omega) rfl (Nat.le_of_eq e11) (Nat.le_of_eq e12) (t_X5_keep M1 O0 (fun h2 M2 F2 => ?_)) 
    · have C2 := CI_fm C1 F2
      have e21 := F2.1.trans e11
      have e22 := F2.2.1.trans e12
      refine Rn.icmp_eq (tgt := 1097) dL_law_1046 rfl (by decide) (fun c1046 => ?_) (fun c1046 => ?_)
      · exact hgo _ _ _ _ _ _ _ _ _ _ _ _ _ C2 M2 (ok_kp O0 _) e21 e22
      · exact absurd rfl c1046
theorem law_28 {L : Nat} {xs : Nat → Int32} {bb : UInt32} {Q : Option Value → rHp → Prop} {h : rHp} {t : Nat → Nat} {ln : Nat} {p : Nat → Nat} {U : Nat → Nat → Nat} {a : Nat} {Kp : Nat → Nat → Nat} {ik : Nat → Bool} {su sp sn : Nat → Nat} {sz : Nat} {d : Int64} {i : Nat} (hL : L ≤ 2560) (hi : i + 5 ≤ L) (C0 : CI h t ln p U a Kp ik su sp sn sz d) (M0 : MI h t ln p U a Kp ik su sp sn sz d) (O0 : OKs t ln p U a Kp ik su sp sn sz) (e1 : h.1 = 28) (e2 : h.2.1 = 1902) (hgo : ∀ (h : rHp) (t : Nat → Nat) (ln : Nat) (p : Nat → Nat) (U : Nat → Nat → Nat) (a : Nat) (Kp : Nat → Nat → Nat) (ik : Nat → Bool) (su sp sn : Nat → Nat) (sz : Nat) (d : Int64), CI h t ln p U a Kp ik su sp sn sz d → MI h t ln p U a Kp ik su sp sn sz d → OKs t ln p U a Kp ik su sp sn sz → h.1 = 28 → h.2.1 = 1902 → Rn (M_L_law, some (L, xs), 28, 1902) Q 1097 [(0, .float bb), (1, .ref 0), (2, .ref 15), (3, .int (nI i))] [] h) : Rn (M_L_law, some (L, xs), 28, 1902) Q 1051 [(0, .float bb), (1, .ref 0), (2, .ref 15), (3, .int (nI i))] [] h := by
  refine Rn.aload_n dL_law_1051 rfl rfl ?_
  refine Rn.aload_nS dL_law_1052 rfl rfl ?_
  refine Rn.iload_n dL_law_1053 rfl rfl ?_
  refine Rn.iconst dL_law_1054 rfl ic_1 ?_
  refine Rn.iaddN dL_law_1055 rfl ?_
  refine Rn.sldN rfl dL_law_1056 rfl (by omega) (by omega) ?_
  refine Rn.callV (as := [_]) v_X4_again l_L_137 ⟨Nat.le_of_ble_eq_true rfl, Nat.le_of_ble_eq_true rfl⟩ dL_law_1057 rfl rfl (Nat.le_of_ble_eq_true rfl) (CI_0 C0) (by omega) rfl (Nat.le_of_eq e1) (Nat.le_of_eq e2) (t_X4_again C0 O0 (fun h1 C1 F1 => ?_)) 
  · have M1 := MI_fr M0 F1
    obtain ⟨fz, Z1⟩ := MI_15 M1
    have e11 := F1.1.trans e1
    have e12 := F1.2.1.trans e2
    refine Rn.aload_n dL_law_1060 rfl rfl ?_
    refine Rn.aload_nS dL_law_1061 rfl rfl ?_
    refine Rn.iload_n dL_law_1062 rfl rfl ?_
    refine Rn.iconst dL_law_1063 rfl ic_1 ?_
    refine Rn.iaddN dL_law_1064 rfl ?_
    refine Rn.sldN rfl dL_law_1065 rfl (by omega) (by omega) ?_
    refine Rn.callV (as := [_]) v_X5_again l_L_140 ⟨Nat.le_of_ble_eq_true rfl, Nat.le_of_ble_eq_true rfl⟩ dL_law_1066 rfl rfl (Nat.le_of_ble_eq_true rfl) Z1 (by omega) rfl (Nat.le_of_eq e11) (Nat.le_of_eq e12) (t_X5_again M1 O0 (fun h2 M2 F2 => ?_)) 
    · have C2 := CI_fm C1 F2
      have e21 := F2.1.trans e11
      have e22 := F2.2.1.trans e12
      refine Rn.icmp_eq (tgt := 1097) dL_law_1069 rfl (by decide) (fun c1069 => ?_) (fun c1069 => ?_)
      · exact hgo _ _ _ _ _ _ _ _ _ _ _ _ _ C2 M2 (ok_ag O0 _) e21 e22
      · exact absurd rfl c1069
theorem law_29 {L : Nat} {xs : Nat → Int32} {bb : UInt32} {Q : Option Value → rHp → Prop} {h : rHp} {t : Nat → Nat} {ln : Nat} {p : Nat → Nat} {U : Nat → Nat → Nat} {a : Nat} {Kp : Nat → Nat → Nat} {ik : Nat → Bool} {su sp sn : Nat → Nat} {sz : Nat} {d : Int64} {i : Nat} (hL : L ≤ 2560) (hi : i + 5 ≤ L) (C0 : CI h t ln p U a Kp ik su sp sn sz d) (M0 : MI h t ln p U a Kp ik su sp sn sz d) (O0 : OKs t ln p U a Kp ik su sp sn sz) (e1 : h.1 = 28) (e2 : h.2.1 = 1902) (hgo : ∀ (h : rHp) (t : Nat → Nat) (ln : Nat) (p : Nat → Nat) (U : Nat → Nat → Nat) (a : Nat) (Kp : Nat → Nat → Nat) (ik : Nat → Bool) (su sp sn : Nat → Nat) (sz : Nat) (d : Int64), CI h t ln p U a Kp ik su sp sn sz d → MI h t ln p U a Kp ik su sp sn sz d → OKs t ln p U a Kp ik su sp sn sz → h.1 = 28 → h.2.1 = 1902 → Rn (M_L_law, some (L, xs), 28, 1902) Q 1097 [(0, .float bb), (1, .ref 0), (2, .ref 15), (3, .int (nI i))] [] h) : Rn (M_L_law, some (L, xs), 28, 1902) Q 1074 [(0, .float bb), (1, .ref 0), (2, .ref 15), (3, .int (nI i))] [] h := by
  refine Rn.aload_n dL_law_1074 rfl rfl ?_
  refine Rn.aload_nS dL_law_1075 rfl rfl ?_
  refine Rn.iload_n dL_law_1076 rfl rfl ?_
  refine Rn.iconst dL_law_1077 rfl ic_1 ?_
  refine Rn.iaddN dL_law_1078 rfl ?_
  refine Rn.sldN rfl dL_law_1079 rfl (by omega) (by omega) ?_
  refine Rn.callV (as := [_]) v_X4_count l_L_141 ⟨Nat.le_of_ble_eq_true rfl, Nat.le_of_ble_eq_true rfl⟩ dL_law_1080 rfl rfl (Nat.le_of_ble_eq_true rfl) (CI_0 C0) (by omega) rfl (Nat.le_of_eq e1) (Nat.le_of_eq e2) (t_X4_count C0 O0 ?_) 
  · obtain ⟨fz, Z0⟩ := MI_15 M0
    refine Rn.aload_n dL_law_1083 rfl rfl ?_
    refine Rn.aload_nS dL_law_1084 rfl rfl ?_
    refine Rn.iload_n dL_law_1085 rfl rfl ?_
    refine Rn.iconst dL_law_1086 rfl ic_1 ?_
    refine Rn.iaddN dL_law_1087 rfl ?_
    refine Rn.sldN rfl dL_law_1088 rfl (by omega) (by omega) ?_
    refine Rn.callV (as := [_]) v_X5_count l_L_144 ⟨Nat.le_of_ble_eq_true rfl, Nat.le_of_ble_eq_true rfl⟩ dL_law_1089 rfl rfl (Nat.le_of_ble_eq_true rfl) Z0 (by omega) rfl (Nat.le_of_eq e1) (Nat.le_of_eq e2) (t_X5_count M0 O0 (fun h2 M2 F2 => ?_)) 
    · have C2 := CI_fm C0 F2
      have e21 := F2.1.trans e1
      have e22 := F2.2.1.trans e2
      refine Rn.icmp_eq (tgt := 1097) dL_law_1092 rfl (by decide) (fun c1092 => ?_) (fun c1092 => ?_)
      · exact hgo _ _ _ _ _ _ _ _ _ _ _ _ _ C2 M2 O0 e21 e22
      · exact absurd rfl c1092
