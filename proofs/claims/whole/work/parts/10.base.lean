theorem ic_m1 : Int32.ofInt (-1) = (-1) := by decide +kernel
theorem ic_0 : Int32.ofInt (0) = nI 0 := by decide +kernel
theorem ic_1 : Int32.ofInt (1) = nI 1 := by decide +kernel
theorem ic_2 : Int32.ofInt (2) = nI 2 := by decide +kernel
theorem ic_3 : Int32.ofInt (3) = nI 3 := by decide +kernel
theorem ic_4 : Int32.ofInt (4) = nI 4 := by decide +kernel
theorem ic_5 : Int32.ofInt (5) = nI 5 := by decide +kernel
theorem bp_m9 : (Int8.ofInt (-9)).toInt32 = (-9) := by decide +kernel
theorem bp_m4 : (Int8.ofInt (-4)).toInt32 = (-4) := by decide +kernel
theorem bp_m3 : (Int8.ofInt (-3)).toInt32 = (-3) := by decide +kernel
theorem bp_m2 : (Int8.ofInt (-2)).toInt32 = (-2) := by decide +kernel
theorem bp_6 : (Int8.ofInt (6)).toInt32 = nI 6 := by decide +kernel
theorem bp_7 : (Int8.ofInt (7)).toInt32 = nI 7 := by decide +kernel
theorem bp_8 : (Int8.ofInt (8)).toInt32 = nI 8 := by decide +kernel
theorem bp_9 : (Int8.ofInt (9)).toInt32 = nI 9 := by decide +kernel
theorem bp_10 : (Int8.ofInt (10)).toInt32 = nI 10 := by decide +kernel
theorem bp_11 : (Int8.ofInt (11)).toInt32 = nI 11 := by decide +kernel
theorem bp_12 : (Int8.ofInt (12)).toInt32 = nI 12 := by decide +kernel
theorem bp_13 : (Int8.ofInt (13)).toInt32 = nI 13 := by decide +kernel
theorem bp_14 : (Int8.ofInt (14)).toInt32 = nI 14 := by decide +kernel
theorem bp_15 : (Int8.ofInt (15)).toInt32 = nI 15 := by decide +kernel
theorem bp_16 : (Int8.ofInt (16)).toInt32 = nI 16 := by decide +kernel
theorem bp_17 : (Int8.ofInt (17)).toInt32 = nI 17 := by decide +kernel
theorem bp_18 : (Int8.ofInt (18)).toInt32 = nI 18 := by decide +kernel
theorem bp_19 : (Int8.ofInt (19)).toInt32 = nI 19 := by decide +kernel
theorem bp_20 : (Int8.ofInt (20)).toInt32 = nI 20 := by decide +kernel
theorem bp_21 : (Int8.ofInt (21)).toInt32 = nI 21 := by decide +kernel
theorem bp_22 : (Int8.ofInt (22)).toInt32 = nI 22 := by decide +kernel
theorem bp_23 : (Int8.ofInt (23)).toInt32 = nI 23 := by decide +kernel
theorem bp_24 : (Int8.ofInt (24)).toInt32 = nI 24 := by decide +kernel
theorem bp_25 : (Int8.ofInt (25)).toInt32 = nI 25 := by decide +kernel
theorem bp_26 : (Int8.ofInt (26)).toInt32 = nI 26 := by decide +kernel
theorem bp_27 : (Int8.ofInt (27)).toInt32 = nI 27 := by decide +kernel
theorem bp_28 : (Int8.ofInt (28)).toInt32 = nI 28 := by decide +kernel
theorem bp_29 : (Int8.ofInt (29)).toInt32 = nI 29 := by decide +kernel
theorem bp_30 : (Int8.ofInt (30)).toInt32 = nI 30 := by decide +kernel
theorem bp_31 : (Int8.ofInt (31)).toInt32 = nI 31 := by decide +kernel
theorem bp_32 : (Int8.ofInt (32)).toInt32 = nI 32 := by decide +kernel
theorem bp_33 : (Int8.ofInt (33)).toInt32 = nI 33 := by decide +kernel
theorem bp_34 : (Int8.ofInt (34)).toInt32 = nI 34 := by decide +kernel
theorem bp_35 : (Int8.ofInt (35)).toInt32 = nI 35 := by decide +kernel
theorem bp_36 : (Int8.ofInt (36)).toInt32 = nI 36 := by decide +kernel
theorem bp_37 : (Int8.ofInt (37)).toInt32 = nI 37 := by decide +kernel
theorem bp_43 : (Int8.ofInt (43)).toInt32 = nI 43 := by decide +kernel
theorem bp_45 : (Int8.ofInt (45)).toInt32 = nI 45 := by decide +kernel
theorem bp_46 : (Int8.ofInt (46)).toInt32 = nI 46 := by decide +kernel
theorem bp_47 : (Int8.ofInt (47)).toInt32 = nI 47 := by decide +kernel
theorem bp_48 : (Int8.ofInt (48)).toInt32 = nI 48 := by decide +kernel
theorem bp_49 : (Int8.ofInt (49)).toInt32 = nI 49 := by decide +kernel
theorem bp_50 : (Int8.ofInt (50)).toInt32 = nI 50 := by decide +kernel
theorem bp_53 : (Int8.ofInt (53)).toInt32 = nI 53 := by decide +kernel
theorem bp_57 : (Int8.ofInt (57)).toInt32 = nI 57 := by decide +kernel
theorem bp_60 : (Int8.ofInt (60)).toInt32 = nI 60 := by decide +kernel
theorem bp_63 : (Int8.ofInt (63)).toInt32 = nI 63 := by decide +kernel
theorem bp_72 : (Int8.ofInt (72)).toInt32 = nI 72 := by decide +kernel
theorem bp_80 : (Int8.ofInt (80)).toInt32 = nI 80 := by decide +kernel
theorem bp_83 : (Int8.ofInt (83)).toInt32 = nI 83 := by decide +kernel
theorem bp_99 : (Int8.ofInt (99)).toInt32 = nI 99 := by decide +kernel
theorem bp_100 : (Int8.ofInt (100)).toInt32 = nI 100 := by decide +kernel
theorem bp_109 : (Int8.ofInt (109)).toInt32 = nI 109 := by decide +kernel
theorem bp_115 : (Int8.ofInt (115)).toInt32 = nI 115 := by decide +kernel
theorem bp_117 : (Int8.ofInt (117)).toInt32 = nI 117 := by decide +kernel
theorem sp_250 : (Int16.ofInt (250)).toInt32 = nI 250 := by decide +kernel
theorem sp_251 : (Int16.ofInt (251)).toInt32 = nI 251 := by decide +kernel
theorem sp_255 : (Int16.ofInt (255)).toInt32 = nI 255 := by decide +kernel
theorem sp_504 : (Int16.ofInt (504)).toInt32 = nI 504 := by decide +kernel
theorem sp_1000 : (Int16.ofInt (1000)).toInt32 = nI 1000 := by decide +kernel
theorem sp_10000 : (Int16.ofInt (10000)).toInt32 = nI 10000 := by decide +kernel
theorem sp_468 : (Int16.ofInt (468)).toInt32 = nI 468 := by decide +kernel
/-! ===== rows over numbers nI n, and the numbers' own words ===== -/
def bi (b : Bool) : Int32 := if b then 1 else 0
theorem bi_01 (b : Bool) : bi b = 0 ∨ bi b = 1 := by cases b <;> decide
theorem bi_t : bi true = nI 1 := by decide
theorem bi_f : bi false = nI 0 := by decide
theorem bi_eq0 (b : Bool) : bi b = 0 ↔ b = false := by cases b <;> decide
theorem bi_ne0 (b : Bool) : ¬ bi b = 0 ↔ b = true := by cases b <;> decide
theorem nI_mod {a d : Nat} (ha : a < 2147483648) (h0 : 0 < d) (hd : d < 2147483648) : nI a - nI a / nI d * nI d = nI (a % d) := pk_rem ha h0 hd
theorem rn_fin {Q : Option Value → rHp → Prop} {v v' : Option Value} {h h' : rHp} (k : Q v h) (hv : v' = v) (hh : h' = h) : Q v' h' := by subst hv; subst hh; exact k
section RNN
variable {K : rK} {Q : Option Value → rHp → Prop} {pc pc' : Nat} {lv : List (Nat × Value)} {st : List Value} {h : rHp}
theorem Rn.top {x y : Int32} (e : x = y) (k : Rn K Q pc lv (.int y :: st) h) : Rn K Q pc lv (.int x :: st) h := by subst e; exact k
theorem Rn.topl {x y : Int64} (e : x = y) (k : Rn K Q pc lv (.long y :: st) h) : Rn K Q pc lv (.long x :: st) h := by subst e; exact k
theorem Rn.heap {h' : rHp} (e : h = h') (k : Rn K Q pc lv st h') : Rn K Q pc lv st h := by subst e; exact k
theorem Rn.iaddN {a b : Nat} (hd : decode K.1.2.1 pc = .ok (.iadd, 1)) (hp : pc + 1 = pc') (k : Rn K Q pc' lv (.int (nI (a + b)) :: st) h) : Rn K Q pc lv (.int (nI b) :: .int (nI a) :: st) h := Rn.iadd hd hp (Rn.top (nI_add a b) k)
theorem Rn.imulN {a b : Nat} (hd : decode K.1.2.1 pc = .ok (.imul, 1)) (hp : pc + 1 = pc') (k : Rn K Q pc' lv (.int (nI (a * b)) :: st) h) : Rn K Q pc lv (.int (nI b) :: .int (nI a) :: st) h := Rn.imul hd hp (Rn.top (pk_mul a b) k)
theorem Rn.isubN {a b : Nat} (hd : decode K.1.2.1 pc = .ok (.isub, 1)) (hp : pc + 1 = pc') (hb : b ≤ a) (k : Rn K Q pc' lv (.int (nI (a - b)) :: st) h) : Rn K Q pc lv (.int (nI b) :: .int (nI a) :: st) h := Rn.isub hd hp (Rn.top (pk_sub hb) k)
theorem Rn.idivN {a b : Nat} (hd : decode K.1.2.1 pc = .ok (.idiv, 1)) (hp : pc + 1 = pc') (h1 : a < 2147483648) (h2 : 0 < b) (h3 : b < 2147483648) (k : Rn K Q pc' lv (.int (nI (a / b)) :: st) h) : Rn K Q pc lv (.int (nI b) :: .int (nI a) :: st) h := Rn.idiv hd hp (nI_ne0 h2 h3) (Rn.top (pk_div h1 h2 h3) k)
theorem Rn.iremN {a b : Nat} (hd : decode K.1.2.1 pc = .ok (.irem, 1)) (hp : pc + 1 = pc') (h1 : a < 2147483648) (h2 : 0 < b) (h3 : b < 2147483648) (k : Rn K Q pc' lv (.int (nI (a % b)) :: st) h) : Rn K Q pc lv (.int (nI b) :: .int (nI a) :: st) h := Rn.irem hd hp (nI_ne0 h2 h3) (Rn.top (pk_rem h1 h2 h3) k)
theorem Rn.iincN {i x : Nat} (hd : decode K.1.2.1 pc = .ok (.iinc i 1, 3)) (hp : pc + 3 = pc') (hl : rl lv i = some (.int (nI x))) (hb : i < K.1.2.2.1) (k : Rn K Q pc' (sl1 lv i (.int (nI (x + 1)))) st h) : Rn K Q pc lv st h := Rn.iinc hd hp hl (nI_1 x) hb k
theorem Rn.idecN {i x : Nat} (hd : decode K.1.2.1 pc = .ok (.iinc i (-1), 3)) (hp : pc + 3 = pc') (hl : rl lv i = some (.int (nI x))) (hx : 0 < x) (hb : i < K.1.2.2.1) (k : Rn K Q pc' (sl1 lv i (.int (nI (x - 1)))) st h) : Rn K Q pc lv st h := Rn.iinc hd hp hl (by obtain ⟨y, rfl⟩ : ∃ y, x = y + 1 := ⟨x - 1, by omega⟩; exact pk_m1 y) hb k
theorem Rn.if_eqN {a : Nat} {off : Int} {tgt : Nat} (hd : decode K.1.2.1 pc = .ok (.ifCond .eq off, 3)) (hp : pc + 3 = pc') (ht : (pc : Int) + off = (tgt : Int)) (ha : a < 2147483648) (kt : a = 0 → Rn K Q tgt lv st h) (kf : ¬ a = 0 → Rn K Q pc' lv st h) : Rn K Q pc lv (.int (nI a) :: st) h := Rn.if_eq hd hp ht (fun q => kt ((nI_eq ha (by omega)).mp (q.trans nI_0.symm))) (fun q => kf (fun z => q (by rw [z]; exact nI_0)))
theorem Rn.if_neN {a : Nat} {off : Int} {tgt : Nat} (hd : decode K.1.2.1 pc = .ok (.ifCond .ne off, 3)) (hp : pc + 3 = pc') (ht : (pc : Int) + off = (tgt : Int)) (ha : a < 2147483648) (kt : ¬ a = 0 → Rn K Q tgt lv st h) (kf : a = 0 → Rn K Q pc' lv st h) : Rn K Q pc lv (.int (nI a) :: st) h := Rn.if_ne hd hp ht (fun q => kt (fun z => q (by rw [z]; exact nI_0))) (fun q => kf ((nI_eq ha (by omega)).mp (q.trans nI_0.symm)))
theorem Rn.if_ltN {a : Nat} {off : Int} {tgt : Nat} (hd : decode K.1.2.1 pc = .ok (.ifCond .lt off, 3)) (hp : pc + 3 = pc') (ht : (pc : Int) + off = (tgt : Int)) (ha : a < 2147483648) (kt : False → Rn K Q tgt lv st h) (kf : True → Rn K Q pc' lv st h) : Rn K Q pc lv (.int (nI a) :: st) h := Rn.if_lt hd hp ht (fun q => kt (nI_pos ha q)) (fun _ => kf trivial)
theorem Rn.if_geN {a : Nat} {off : Int} {tgt : Nat} (hd : decode K.1.2.1 pc = .ok (.ifCond .ge off, 3)) (hp : pc + 3 = pc') (ht : (pc : Int) + off = (tgt : Int)) (ha : a < 2147483648) (kt : True → Rn K Q tgt lv st h) (kf : False → Rn K Q pc' lv st h) : Rn K Q pc lv (.int (nI a) :: st) h := Rn.if_ge hd hp ht (fun _ => kt trivial) (fun q => kf (q (nI_pos' ha)))
theorem nI_gt0 {a : Nat} (ha : a < 2147483648) : 0 < nI a ↔ 0 < a := by rw [← nI_0]; exact nI_ltI (by omega) ha
theorem nI_le0 {a : Nat} (ha : a < 2147483648) : nI a ≤ 0 ↔ a = 0 := by rw [← nI_0, nI_leI ha (by omega)]; omega
theorem Rn.if_gtN {a : Nat} {off : Int} {tgt : Nat} (hd : decode K.1.2.1 pc = .ok (.ifCond .gt off, 3)) (hp : pc + 3 = pc') (ht : (pc : Int) + off = (tgt : Int)) (ha : a < 2147483648) (kt : 0 < a → Rn K Q tgt lv st h) (kf : ¬ 0 < a → Rn K Q pc' lv st h) : Rn K Q pc lv (.int (nI a) :: st) h := Rn.if_gt hd hp ht (fun q => kt ((nI_gt0 ha).mp q)) (fun q => kf (fun z => q ((nI_gt0 ha).mpr z)))
theorem Rn.if_leN {a : Nat} {off : Int} {tgt : Nat} (hd : decode K.1.2.1 pc = .ok (.ifCond .le off, 3)) (hp : pc + 3 = pc') (ht : (pc : Int) + off = (tgt : Int)) (ha : a < 2147483648) (kt : a = 0 → Rn K Q tgt lv st h) (kf : ¬ a = 0 → Rn K Q pc' lv st h) : Rn K Q pc lv (.int (nI a) :: st) h := Rn.if_le hd hp ht (fun q => kt ((nI_le0 ha).mp q)) (fun q => kf (fun z => q ((nI_le0 ha).mpr z)))
theorem Rn.if_eqB {b : Bool} {off : Int} {tgt : Nat} (hd : decode K.1.2.1 pc = .ok (.ifCond .eq off, 3)) (hp : pc + 3 = pc') (ht : (pc : Int) + off = (tgt : Int)) (kt : b = false → Rn K Q tgt lv st h) (kf : b = true → Rn K Q pc' lv st h) : Rn K Q pc lv (.int (bi b) :: st) h := Rn.if_eq hd hp ht (fun q => kt ((bi_eq0 b).mp q)) (fun q => kf ((bi_ne0 b).mp q))
theorem Rn.if_neB {b : Bool} {off : Int} {tgt : Nat} (hd : decode K.1.2.1 pc = .ok (.ifCond .ne off, 3)) (hp : pc + 3 = pc') (ht : (pc : Int) + off = (tgt : Int)) (kt : b = true → Rn K Q tgt lv st h) (kf : b = false → Rn K Q pc' lv st h) : Rn K Q pc lv (.int (bi b) :: st) h := Rn.if_ne hd hp ht (fun q => kt ((bi_ne0 b).mp q)) (fun q => kf ((bi_eq0 b).mp q))
theorem Rn.icmp_eqN {a b : Nat} {off : Int} {tgt : Nat} (hd : decode K.1.2.1 pc = .ok (.if_icmp .eq off, 3)) (hp : pc + 3 = pc') (ht : (pc : Int) + off = (tgt : Int)) (ha : a < 2147483648) (hb : b < 2147483648) (kt : a = b → Rn K Q tgt lv st h) (kf : ¬ a = b → Rn K Q pc' lv st h) : Rn K Q pc lv (.int (nI b) :: .int (nI a) :: st) h := Rn.icmp_eq hd hp ht (fun q => kt ((nI_eq ha hb).mp q)) (fun q => kf (fun z => q ((nI_eq ha hb).mpr z)))
theorem Rn.icmp_neN {a b : Nat} {off : Int} {tgt : Nat} (hd : decode K.1.2.1 pc = .ok (.if_icmp .ne off, 3)) (hp : pc + 3 = pc') (ht : (pc : Int) + off = (tgt : Int)) (ha : a < 2147483648) (hb : b < 2147483648) (kt : ¬ a = b → Rn K Q tgt lv st h) (kf : a = b → Rn K Q pc' lv st h) : Rn K Q pc lv (.int (nI b) :: .int (nI a) :: st) h := Rn.icmp_ne hd hp ht (fun q => kt (fun z => q ((nI_eq ha hb).mpr z))) (fun q => kf ((nI_eq ha hb).mp q))
theorem Rn.icmp_ltN {a b : Nat} {off : Int} {tgt : Nat} (hd : decode K.1.2.1 pc = .ok (.if_icmp .lt off, 3)) (hp : pc + 3 = pc') (ht : (pc : Int) + off = (tgt : Int)) (ha : a < 2147483648) (hb : b < 2147483648) (kt : a < b → Rn K Q tgt lv st h) (kf : ¬ a < b → Rn K Q pc' lv st h) : Rn K Q pc lv (.int (nI b) :: .int (nI a) :: st) h := Rn.icmp_lt hd hp ht (fun q => kt ((nI_ltI ha hb).mp q)) (fun q => kf (fun z => q ((nI_ltI ha hb).mpr z)))
theorem Rn.icmp_geN {a b : Nat} {off : Int} {tgt : Nat} (hd : decode K.1.2.1 pc = .ok (.if_icmp .ge off, 3)) (hp : pc + 3 = pc') (ht : (pc : Int) + off = (tgt : Int)) (ha : a < 2147483648) (hb : b < 2147483648) (kt : b ≤ a → Rn K Q tgt lv st h) (kf : ¬ b ≤ a → Rn K Q pc' lv st h) : Rn K Q pc lv (.int (nI b) :: .int (nI a) :: st) h := Rn.icmp_ge hd hp ht (fun q => kt ((nI_leI hb ha).mp q)) (fun q => kf (fun z => q ((nI_leI hb ha).mpr z)))
theorem Rn.icmp_gtN {a b : Nat} {off : Int} {tgt : Nat} (hd : decode K.1.2.1 pc = .ok (.if_icmp .gt off, 3)) (hp : pc + 3 = pc') (ht : (pc : Int) + off = (tgt : Int)) (ha : a < 2147483648) (hb : b < 2147483648) (kt : b < a → Rn K Q tgt lv st h) (kf : ¬ b < a → Rn K Q pc' lv st h) : Rn K Q pc lv (.int (nI b) :: .int (nI a) :: st) h := Rn.icmp_gt hd hp ht (fun q => kt ((nI_ltI hb ha).mp q)) (fun q => kf (fun z => q ((nI_ltI hb ha).mpr z)))
theorem Rn.icmp_leN {a b : Nat} {off : Int} {tgt : Nat} (hd : decode K.1.2.1 pc = .ok (.if_icmp .le off, 3)) (hp : pc + 3 = pc') (ht : (pc : Int) + off = (tgt : Int)) (ha : a < 2147483648) (hb : b < 2147483648) (kt : a ≤ b → Rn K Q tgt lv st h) (kf : ¬ a ≤ b → Rn K Q pc' lv st h) : Rn K Q pc lv (.int (nI b) :: .int (nI a) :: st) h := Rn.icmp_le hd hp ht (fun q => kt ((nI_leI ha hb).mp q)) (fun q => kf (fun z => q ((nI_leI ha hb).mpr z)))
theorem Rn.ialdN {o n j : Nat} {f : Nat → Int32} (hd : decode K.1.2.1 pc = .ok (.iaload, 1)) (hp : pc + 1 = pc') (ho : h.2.2 o = .inl (n, f)) (hlt : o < h.1) (hj : j < n) (hn : n < 2147483648) (k : Rn K Q pc' lv (.int (f j) :: st) h) : Rn K Q pc lv (.int (nI j) :: .ref o :: st) h := Rn.iald hd hp ho hlt (vp_in_nI hj hn) (by rw [nI_clamp (show j < 2 ^ 31 by omega)]; exact k)
theorem Rn.zaldN {o n j : Nat} {f : Nat → Int32} (hd : decode K.1.2.1 pc = .ok (.baload, 1)) (hp : pc + 1 = pc') (ho : h.2.2 o = .inr (.inl (n, f))) (hlt : o < h.1) (hj : j < n) (hn : n < 2147483648) (k : Rn K Q pc' lv (.int (f j) :: st) h) : Rn K Q pc lv (.int (nI j) :: .ref o :: st) h := Rn.zald hd hp ho hlt (vp_in_nI hj hn) (by rw [nI_clamp (show j < 2 ^ 31 by omega)]; exact k)
theorem Rn.iastN {o n j : Nat} {f : Nat → Int32} {x : Int32} (hd : decode K.1.2.1 pc = .ok (.iastore, 1)) (hp : pc + 1 = pc') (ho : h.2.2 o = .inl (n, f)) (hlt : o < h.1) (hj : j < n) (hn : n < 2147483648) (k : Rn K Q pc' lv st (hs h o (.inl (n, upd f j x)))) : Rn K Q pc lv (.int x :: .int (nI j) :: .ref o :: st) h := Rn.iast hd hp ho hlt (vp_in_nI hj hn) (by rw [nI_clamp (show j < 2 ^ 31 by omega)]; exact k)
theorem Rn.zastN {o n j : Nat} {f : Nat → Int32} {x : Int32} (hd : decode K.1.2.1 pc = .ok (.bastore, 1)) (hp : pc + 1 = pc') (ho : h.2.2 o = .inr (.inl (n, f))) (hlt : o < h.1) (hj : j < n) (hn : n < 2147483648) (k : Rn K Q pc' lv st (hs h o (.inr (.inl (n, upd f j (vp_nar .boolean x)))))) : Rn K Q pc lv (.int x :: .int (nI j) :: .ref o :: st) h := Rn.zast hd hp ho hlt (vp_in_nI hj hn) (by rw [nI_clamp (show j < 2 ^ 31 by omega)]; exact k)
theorem Rn.sldN {L0 j : Nat} {xs : Nat → Int32} {b : UInt32} (hX : K.2.1 = some (L0, xs)) (hd : decode K.1.2.1 pc = .ok (.iaload, 1)) (hp : pc + 1 = pc') (hj : j < L0) (hn : L0 < 2147483648) (k : Rn K Q pc' lv (.int (xs j) :: st) h) : Rn K Q pc lv (.int (nI j) :: .float b :: st) h := Rn.sld hX hd hp (vp_in_nI hj hn) (by rw [nI_clamp (show j < 2 ^ 31 by omega)]; exact k)
theorem Rn.mminN {a b idx : Nat} (hw : Cond.methodLink K.1.1.cls idx Lib.Math.min.name ∈ rn_ws) (hw2 : Cond.static Lib.Math.min.name ∈ rn_ws) (hw3 : Cond.initialized "java/lang/Math" ∈ rn_ws) (hw4 : Cond.code Lib.Math.min.name Lib.Math.min.code 2 (some .int) ∈ rn_ws) (hfr : 1 ≤ K.1.2.2.2.2.1) (hlo : (st.map fun v => v.category).sum + 13 ≤ K.1.2.2.2.2.2) (hd : decode K.1.2.1 pc = .ok (.invokestatic idx, 3)) (hp : pc + 3 = pc') (ha : a < 2147483648) (hb : b < 2147483648) (k : Rn K Q pc' lv (.int (nI (min a b)) :: st) h) : Rn K Q pc lv (.int (nI b) :: .int (nI a) :: st) h := by
  refine Rn.mmin hw hw2 hw3 hw4 hfr hlo hd hp (Rn.top ?_ k)
  by_cases hc : b < a
  · rw [if_pos ((nI_ltI hb ha).mpr hc), Nat.min_eq_right (by omega)]
  · rw [if_neg (fun z => hc ((nI_ltI hb ha).mp z)), Nat.min_eq_left (by omega)]
end RNN
theorem lc_0 : Int64.ofNat ((0 : Fin 2) : Nat) = lN 0 := rfl
theorem lc_1 : Int64.ofNat ((1 : Fin 2) : Nat) = lN 1 := rfl
theorem pl_X0 : plainName RX0 = true := by decide
theorem pl_X1 : plainName RX1 = true := by decide
theorem pl_X2 : plainName RX2 = true := by decide
theorem pl_X3 : plainName RX3 = true := by decide
theorem pl_X4 : plainName RX4 = true := by decide
theorem pl_X5 : plainName RX5 = true := by decide
theorem pl_J7 : plainName RJ7 = true := by decide
/-! ===== a page: users, desk, window, wire, heard, as Nats ===== -/
def un (p : Nat → Nat) (i x : Nat) : Nat → Nat := fun j => if j = i then x else p j
theorem un_eq (p : Nat → Nat) (i x : Nat) : un p i x i = x := if_pos rfl
theorem un_ne (p : Nat → Nat) {i j : Nat} (x : Nat) (h : j ≠ i) : un p i x j = p j := if_neg h
theorem un_at (p : Nat → Nat) (i x j : Nat) : un p i x j = if j = i then x else p j := rfl
theorem un_un (p : Nat → Nat) (i x y : Nat) : un (un p i x) i y = un p i y := by
  funext j
  unfold un
  by_cases h : j = i
  · rw [if_pos h, if_pos h]
  · rw [if_neg h, if_neg h, if_neg h]
def wi (x : Nat) : Int32 := if x = 0 then -9 else nI (x - 1)
def pg (p : Nat → Nat) (i : Nat) : Int32 := if i < 36 then (if i = 26 then wi (p 26) else nI (p i)) else 0
def cl (p : Nat → Nat) (i : Nat) : Int32 := if i < 12 then pg p (i + 24) else if i < 36 then pg p (i - 12) else 0
theorem pg_n (p : Nat → Nat) {i : Nat} (h : i < 36) (h2 : i ≠ 26) : pg p i = nI (p i) := by unfold pg; rw [if_pos h, if_neg h2]
theorem pg_26 (p : Nat → Nat) : pg p 26 = wi (p 26) := rfl
theorem cl_us (p : Nat → Nat) {u k : Nat} (hu : u < 4) (hk : k < 6) : cl p (12 + u * 6 + k) = nI (p (6 * u + k)) := by
  unfold cl
  rw [if_neg (by omega), if_pos (by omega), pg_n p (by omega) (by omega)]
  congr 2
  omega
theorem cl_0 (p : Nat → Nat) : cl p 0 = nI (p 24) := rfl
theorem cl_1 (p : Nat → Nat) : cl p 1 = nI (p 25) := rfl
theorem cl_2 (p : Nat → Nat) : cl p 2 = wi (p 26) := rfl
theorem cl_3 (p : Nat → Nat) : cl p 3 = nI (p 27) := rfl
theorem cl_hd (p : Nat → Nat) {i : Nat} (h : i < 8) : cl p (4 + i) = nI (p (28 + i)) := by
  unfold cl
  rw [if_pos (by omega), pg_n p (by omega) (by omega)]
  congr 2
  omega
theorem upd_pg (p : Nat → Nat) {i : Nat} (x : Nat) (h : i < 36) (h2 : i ≠ 26) : upd (pg p) i (nI x) = pg (un p i x) := by
  funext j
  show (if j = i then nI x else pg p j) = pg (un p i x) j
  unfold pg un
  by_cases h3 : j = i
  · subst h3; rw [if_pos rfl, if_pos h, if_neg h2, if_pos rfl]
  · rw [if_neg h3, if_neg h3, if_neg (Ne.symm h2)]
theorem upd_pg26 (p : Nat → Nat) (x : Nat) : upd (pg p) 26 (nI x) = pg (un p 26 (x + 1)) := by
  funext j
  show (if j = 26 then nI x else pg p j) = pg (un p 26 (x + 1)) j
  unfold pg un
  by_cases h3 : j = 26
  · subst h3; rfl
  · rw [if_neg h3, if_neg h3, if_neg h3, if_neg h3]
theorem cl_ext {p : Nat → Nat} {f : Nat → Int32} (h1 : ∀ i, i < 12 → f i = pg p (i + 24)) (h2 : ∀ i, i < 24 → f (12 + i) = pg p i) (h3 : ∀ i, 36 ≤ i → f i = 0) : f = cl p := by
  funext i
  unfold cl
  by_cases a : i < 12
  · rw [if_pos a]; exact h1 i a
  · by_cases b : i < 36
    · rw [if_neg a, if_pos b, ← h2 (i - 12) (by omega)]; congr 1; omega
    · rw [if_neg a, if_neg b]; exact h3 i (by omega)
theorem cl_lo (p : Nat → Nat) {i : Nat} (h : i < 12) : cl p i = pg p (i + 24) := by unfold cl; rw [if_pos h]
theorem cl_hi (p : Nat → Nat) {i : Nat} (h : i < 24) : cl p (12 + i) = pg p i := by unfold cl; rw [if_neg (by omega), if_pos (by omega)]; congr 1; omega
theorem cl_out (p : Nat → Nat) {i : Nat} (h : 36 ≤ i) : cl p i = 0 := by unfold cl; rw [if_neg (by omega), if_neg (by omega)]
theorem upd_cl (p : Nat → Nat) {i j : Nat} {x : Int32} {y : Nat} (h : (i < 12 ∧ j = i + 24) ∨ (12 ≤ i ∧ i < 36 ∧ j = i - 12)) (hx : upd (pg p) j x = pg (un p j y)) : upd (cl p) i x = cl (un p j y) := by
  refine cl_ext (fun a ha => ?_) (fun a ha => ?_) (fun a ha => ?_)
  · rw [← hx]
    show (if a = i then x else cl p a) = if a + 24 = j then x else pg p (a + 24)
    by_cases e : a = i
    · rw [if_pos e, if_pos (by omega)]
    · rw [if_neg e, if_neg (by omega), cl_lo p ha]
  · rw [← hx]
    show (if 12 + a = i then x else cl p (12 + a)) = if a = j then x else pg p a
    by_cases e : 12 + a = i
    · rw [if_pos e, if_pos (by omega)]
    · rw [if_neg e, if_neg (by omega), cl_hi p ha]
  · show (if a = i then x else cl p a) = 0
    rw [if_neg (by omega), cl_out p ha]
theorem upd_us (p : Nat → Nat) {u k : Nat} (x : Nat) (hu : u < 4) (hk : k < 6) : upd (cl p) (12 + u * 6 + k) (nI x) = cl (un p (6 * u + k) x) := upd_cl p (Or.inr ⟨by omega, by omega, by omega⟩) (upd_pg p x (by omega) (by omega))
theorem upd_c0 (p : Nat → Nat) (x : Nat) : upd (cl p) 0 (nI x) = cl (un p 24 x) := upd_cl p (Or.inl ⟨by omega, rfl⟩) (upd_pg p x (by omega) (by omega))
theorem upd_c1 (p : Nat → Nat) (x : Nat) : upd (cl p) 1 (nI x) = cl (un p 25 x) := upd_cl p (Or.inl ⟨by omega, rfl⟩) (upd_pg p x (by omega) (by omega))
theorem upd_c2 (p : Nat → Nat) (x : Nat) : upd (cl p) 2 (nI x) = cl (un p 26 (x + 1)) := upd_cl p (Or.inl ⟨by omega, rfl⟩) (upd_pg26 p x)
theorem upd_c3 (p : Nat → Nat) (x : Nat) : upd (cl p) 3 (nI x) = cl (un p 27 x) := upd_cl p (Or.inl ⟨by omega, rfl⟩) (upd_pg p x (by omega) (by omega))
theorem upd_hd (p : Nat → Nat) {i : Nat} (x : Nat) (h : i < 8) : upd (cl p) (4 + i) (nI x) = cl (un p (28 + i) x) := upd_cl p (Or.inl ⟨by omega, by omega⟩) (upd_pg p x (by omega) (by omega))
/-- what every page keeps to -/
def OKp (p : Nat → Nat) : Prop := p 24 ≤ 4 ∧ 1 ≤ p 25 ∧ p 25 ≤ 6 ∧ p 27 ≤ 8 ∧ (∀ u, u < 4 → p (6 * u) < 251 ∧ p (6 * u + 1) < 251 ∧ p (6 * u + 2) ≤ 30 ∧ p (6 * u + 3) ≤ 30 ∧ p (6 * u + 4) < 251 ∧ p (6 * u + 5) ≤ 30) ∧ (∀ i, i < 8 → p (28 + i) % 1000 < 251 ∧ p (28 + i) / 1000 < 4) ∧ (p 26 = 0 ∨ ((p 26 - 1) % 1000 < 251 ∧ (p 26 - 1) / 1000 < 4))
theorem OKp.us {p : Nat → Nat} (O : OKp p) {u : Nat} (hu : u < 4) : p (6 * u) < 251 ∧ p (6 * u + 1) < 251 ∧ p (6 * u + 2) ≤ 30 ∧ p (6 * u + 3) ≤ 30 ∧ p (6 * u + 4) < 251 ∧ p (6 * u + 5) ≤ 30 := O.2.2.2.2.1 u hu
theorem OKp.lt {p : Nat → Nat} (O : OKp p) {u k : Nat} (hu : u < 4) (hk : k < 6) : p (6 * u + k) < 251 := by
  obtain ⟨h0, h1, h2, h3, h4, h5⟩ := O.us hu
  match k, hk with
  | 0, _ => exact h0
  | 1, _ => exact h1
  | 2, _ => omega
  | 3, _ => omega
  | 4, _ => exact h4
  | 5, _ => omega
  | k + 6, hk => omega
/-- is there such a user -/
def hasB (m : Nat) (x : Int32) : Bool := decide (0 ≤ x.toInt ∧ x.toInt < (m : Int))
theorem hasB_nI {m u : Nat} (hu : u < 2147483648) : hasB m (nI u) = decide (u < m) := by
  unfold hasB
  rw [nI_toInt hu]
  by_cases h : u < m
  · rw [decide_eq_true (⟨by omega, by omega⟩ : (0:Int) ≤ (u : Int) ∧ (u : Int) < (m : Int)), decide_eq_true h]
  · rw [decide_eq_false (fun z : (0:Int) ≤ (u : Int) ∧ (u : Int) < (m : Int) => h (by omega)), decide_eq_false h]
theorem hasB_of {m : Nat} {x : Int32} (h : hasB m x = true) : ∃ u, u < m ∧ x = nI u := by
  unfold hasB at h
  have h := of_decide_eq_true h
  obtain ⟨j, hj, e⟩ := nI_of (x := x) (by rw [Int32.lt_iff_toInt_lt]; simp; omega)
  subst e
  rw [nI_toInt hj] at h
  exact ⟨j, by omega, rfl⟩
/-- is it within -/
def isW (v lo hi : Int32) : Bool := decide (lo.toInt ≤ v.toInt ∧ v.toInt ≤ hi.toInt)
theorem isW_of {v : Int32} {hi : Nat} (h : isW v (nI 0) (nI hi) = true) (hh : hi < 2147483648) : ∃ a, a ≤ hi ∧ v = nI a := by
  unfold isW at h
  have h := of_decide_eq_true h
  rw [nI_toInt hh, nI_toInt (by omega)] at h
  obtain ⟨j, hj, e⟩ := nI_of (x := v) (by rw [Int32.lt_iff_toInt_lt]; simp; omega)
  subst e
  rw [nI_toInt hj] at h
  exact ⟨j, by omega, rfl⟩
theorem isW_nI {a lo hi : Nat} (ha : a < 2147483648) (hl : lo < 2147483648) (hh : hi < 2147483648) : isW (nI a) (nI lo) (nI hi) = decide (lo ≤ a ∧ a ≤ hi) := by
  unfold isW
  rw [nI_toInt ha, nI_toInt hl, nI_toInt hh]
  by_cases h : lo ≤ a ∧ a ≤ hi
  · rw [decide_eq_true (⟨by omega, by omega⟩ : (lo:Int) ≤ (a : Int) ∧ (a : Int) ≤ (hi : Int)), decide_eq_true h]
  · rw [decide_eq_false (fun z : (lo:Int) ≤ (a : Int) ∧ (a : Int) ≤ (hi : Int) => h ⟨by omega, by omega⟩), decide_eq_false h]
/-- the rule, so many times -/
def nx (s v : Nat) : Nat := (v * v + s) % 251
def bh (s v : Nat) : Nat → Nat
  | 0 => v
  | k + 1 => nx s (bh s v k)
theorem nx_lt (s v : Nat) : nx s v < 251 := Nat.mod_lt _ (by omega)
theorem bh_lt {s v : Nat} (hv : v < 251) : ∀ k, bh s v k < 251
  | 0 => hv
  | _ + 1 => nx_lt _ _
theorem bh_nx (s v : Nat) : ∀ k, bh s (nx s v) k = bh s v (k + 1)
  | 0 => rfl
  | k + 1 => congrArg (nx s) (bh_nx s v k)
/-- by which k it fits: the rule is tried up to n times more, k the next number, x what it has come to -/
def ftL (s last : Nat) : Nat → Nat → Nat → Nat
  | 0, _, _ => 0
  | n + 1, k, x => if nx s x = last then k else ftL s last n (k + 1) (nx s x)
def fit (s last most v : Nat) : Nat := ftL s last most 1 v
def fitP (p : Nat → Nat) (u v : Nat) : Nat := fit (p (6 * u + 1)) (p (6 * u + 4)) (min (p 25) (p (6 * u + 5))) v
theorem ftL_le (s last : Nat) : ∀ n k x, ftL s last n k x ≤ k + n - 1
  | 0, k, x => by unfold ftL; omega
  | n + 1, k, x => by
    unfold ftL
    split
    · omega
    · have := ftL_le s last n (k + 1) (nx s x); omega
theorem fit_le (s last most v : Nat) : fit s last most v ≤ most := by have := ftL_le s last most 1 v; unfold fit; omega
/-- a hall at q: its cells at q + 1 -/
def Hl (h : rHp) (q : Nat) (p : Nat → Nat) : Prop := h.2.2 q = .inr (.inr (0, [.ref (q + 1)])) ∧ h.2.2 (q + 1) = .inl (36, cl p) ∧ q < h.1 ∧ q + 1 < h.1
def hp (h : rHp) (q : Nat) (p : Nat → Nat) : rHp := hs h (q + 1) (.inl (36, cl p))
theorem Hl.put {h : rHp} {q : Nat} {p : Nat → Nat} (H : Hl h q p) (p' : Nat → Nat) : Hl (hp h q p') q p' := ⟨(hs_ne h _ (by omega)).trans H.1, hs_eq _ _ _, H.2.2.1, H.2.2.2⟩
theorem hp_hp (h : rHp) (q : Nat) (p p' : Nat → Nat) : hp (hp h q p) q p' = hp h q p' := hs_hs _ _ _ _
theorem Hl.same {h : rHp} {q : Nat} {p : Nat → Nat} (H : Hl h q p) : hp h q p = h := hs_self h H.2.1
theorem Hl.upd {h : rHp} {q : Nat} {p' : Nat → Nat} {f : Nat → Int32} (e : f = cl p') : hs h (q + 1) (.inl (36, f)) = hp h q p' := by subst e; rfl
