/-! ===== the model: its row of numbers; bits ===== -/
/-- how the model's row holds a town -/
def ME (G : GG) (o n : Nat) (T : TT) (t z : Int32) : Prop := G o 0 = t ∧ G o 1 = nI n ∧ G o 2 = z ∧ (∀ s, s < 10 → G o (3 + s) = eP (T 6 s)) ∧ (∀ p, p < 8 → G o (13 + p) = nI (T 0 p)) ∧ (∀ i, i < n → G o (21 + 5 * i) = nI (T 1 i)) ∧ (∀ i, i < n → T 2 i < 8 → G o (21 + 5 * i + 1) = nI (T 2 i)) ∧ (∀ i, i < n → G o (21 + 5 * i + 2) = nI (T 3 i)) ∧ (∀ i, i < n → G o (21 + 5 * i + 3) = eP (T 4 i)) ∧ ∀ i, i < n → G o (21 + 5 * i + 4) = nI (T 5 i)
theorem ME_congr {G G1 : GG} {o o1 n : Nat} {T : TT} {t z : Int32} (hn : n ≤ 8) (h : ME G o n T t z) (e : ∀ j, j < 61 → G1 o1 j = G o j) : ME G1 o1 n T t z := by
  obtain ⟨a0, a1, a2, a3, a4, a5, a6, a7, a8, a9⟩ := h
  refine ⟨?_, ?_, ?_, fun s hs => ?_, fun p hp => ?_, fun i hi => ?_, fun i hi h2 => ?_, fun i hi => ?_, fun i hi => ?_, fun i hi => ?_⟩
  · rw [e _ (by omega)]; exact a0
  · rw [e _ (by omega)]; exact a1
  · rw [e _ (by omega)]; exact a2
  · rw [e _ (by omega)]; exact a3 s hs
  · rw [e _ (by omega)]; exact a4 p hp
  · rw [e _ (by omega)]; exact a5 i hi
  · rw [e _ (by omega)]; exact a6 i hi h2
  · rw [e _ (by omega)]; exact a7 i hi
  · rw [e _ (by omega)]; exact a8 i hi
  · rw [e _ (by omega)]; exact a9 i hi
/-- the row now, and who is away (8: nobody) -/
def MR (G : GG) (n : Nat) (T : TT) (t z : Int32) (a : Nat) : Prop := ME G 59 n T t z ∧ G 58 7 = eP a ∧ a ≤ 8 ∧ (∀ i, i < n → (T 2 i = 8 ↔ i = a)) ∧ TV n T
theorem MR_congr {G G1 : GG} {n : Nat} {T : TT} {t z : Int32} {a : Nat} (h : MR G n T t z a) (e : G1 59 = G 59) (e2 : G1 58 = G 58) : MR G1 n T t z a := by
  obtain ⟨h1, h2, h3⟩ := h
  exact ⟨ME_congr h3.2.2.1 h1 (fun j _ => by rw [e]), by rw [e2]; exact h2, h3⟩
theorem ne_eP {i a : Nat} (hi : i < 8) (ha : a ≤ 8) : (nI i = eP a) = (i = a) := by
  have h := eP_eq (x := a) (p := i) ha hi
  refine propext ⟨fun z => ?_, fun z => ?_⟩
  · exact (h.mp z.symm).symm
  · exact (h.mpr z.symm).symm
theorem pop_0 : ∀ x, x < 256 → popN x = 0 → x = 0 := by decide +kernel
theorem pop_z : popN 0 = 0 := by decide +kernel
theorem pop_kern : ∀ x, x < 256 → ¬ x = 0 → nI x &&& nI (x - 1) = nI (x &&& (x - 1)) ∧ x &&& (x - 1) < 256 ∧ popN x = popN (x &&& (x - 1)) + 1 := by decide +kernel
theorem E_X5_bits {X : AmX} {G : GG} (m : Nat) (hm : m < 256) : Ev X 33 [.int (nI m)] G (some (.int (nI (popN m)))) (G) := by
  refine Ev_of ?_
  show WP X 33 (am_blk 33 0) [some (.int (nI m)), none, none] [] G _
  have key : ∀ d x c : Nat, x < 256 → popN x = d → c + d = popN m → WP X 33 (am_blk 33 4) [some (.int (nI m)), some (.int (nI c)), some (.int (nI x))] [] G (fun v H => v = some (.int (nI (popN m))) ∧ H = G) := by
    intro d
    induction d with
    | zero =>
      intro x c hx hp hc
      obtain rfl := pop_0 x hx hp
      obtain rfl : c = popN m := by omega
      rw [bh33_4]
      simp (config := { maxSteps := 1000000 }) (disch := first | exact am_nl_i | exact am_nl_r | exact am_nl_n | exact am_l0 | exact am_l1 | exact am_l2 | exact am_l3 | assumption | omega) only [wp_ldc, wp_sipush, wp_ldc_w, wp_lconst, wp_iadd, wp_isub, wp_imul, wp_iand, wp_ior, wp_ixor, wp_ishl, wp_ishr, wp_iushr, wp_idiv, wp_irem, wp_ineg, wp_i2b, wp_i2s, wp_i2c, wp_i2l, wp_ladd, wp_lmul, wp_lcmp, wp_dup_i, wp_dup_r, wp_dup2, wp_pop, wp_getfield, wp_putfield, wp_getstatic, wp_iaload, wp_baload, wp_aaload, wp_iastore, wp_arraylength, wp_goto, wp_fall, wp_ieq, wp_ine, wp_ilt, wp_ige, wp_igt, wp_ile, wp_ceq, wp_cne, wp_clt, wp_cge, wp_cgt, wp_cle, wp_sw, wp_ret0, wp_ret1z, wp_ret1o, wp_ret1, wp_ret2, wp_ret3, wp_ret4, wp_ret5, wp_return, wp_min, wp_max, wp_abs, am_ex, gset_eq, gset_ne, upd_eq, upd_ne, gset_gset, am_ci_1, am_ci_6, am_toList_some, am_toList_none, true_implies, false_implies, and_self, and_true, true_and, not_true_eq_false, not_false_eq_true, imp_self, implies_true, Classical.not_not, if_true, if_false, false_and, and_false, or_false, false_or, true_or, or_true, Nat.reduceAdd, Nat.reduceMul, Nat.reduceSub, Nat.reduceLT, Nat.reduceLeDiff, Nat.reduceEqDiff, Nat.reduceBneDiff, Nat.add_zero, Nat.zero_add, reduceCtorEq, wil0, wal0, wis0, wic0, wil1, wal1, wis1, wic1, wil2, wll2, wal2, wis2, was2, wls2, wic2, wil3, wis3, wic3, wic3m, wic3s, wil4, wis4, wic4, wil5, wis5, wic5, wic5m, wil6, wll6, wal6, wis6, was6, wls6, wic6, wil7, wal7, wis7, was7, wic7, wil8, wis8, wic8, wil9, wis9, wic9, wil10, wis10, wic10, am_nI_inj, am_nI_lt, am_nI_le, nI_add, pk_mul, am_nI_sub, am_add_m1, am_gfs, am_pfs, am_alds, am_asts, am_lens, bk33_20, am_B33_4, am_B33_20]
    | succ d ih =>
      intro x c hx hp hc
      have h0 : ¬ x = 0 := fun z => by rw [z, pop_z] at hp; omega
      have q0 : (x = 0) = False := eq_false h0
      obtain ⟨k1, k2, k3⟩ := pop_kern x hx h0
      rw [bh33_4]
      simp (config := { maxSteps := 1000000 }) (disch := first | exact am_nl_i | exact am_nl_r | exact am_nl_n | exact am_l0 | exact am_l1 | exact am_l2 | exact am_l3 | assumption | omega) only [wp_ldc, wp_sipush, wp_ldc_w, wp_lconst, wp_iadd, wp_isub, wp_imul, wp_iand, wp_ior, wp_ixor, wp_ishl, wp_ishr, wp_iushr, wp_idiv, wp_irem, wp_ineg, wp_i2b, wp_i2s, wp_i2c, wp_i2l, wp_ladd, wp_lmul, wp_lcmp, wp_dup_i, wp_dup_r, wp_dup2, wp_pop, wp_getfield, wp_putfield, wp_getstatic, wp_iaload, wp_baload, wp_aaload, wp_iastore, wp_arraylength, wp_goto, wp_fall, wp_ieq, wp_ine, wp_ilt, wp_ige, wp_igt, wp_ile, wp_ceq, wp_cne, wp_clt, wp_cge, wp_cgt, wp_cle, wp_sw, wp_ret0, wp_ret1z, wp_ret1o, wp_ret1, wp_ret2, wp_ret3, wp_ret4, wp_ret5, wp_return, wp_min, wp_max, wp_abs, am_ex, gset_eq, gset_ne, upd_eq, upd_ne, gset_gset, am_ci_1, am_ci_6, am_toList_some, am_toList_none, true_implies, false_implies, and_self, and_true, true_and, not_true_eq_false, not_false_eq_true, imp_self, implies_true, Classical.not_not, if_true, if_false, false_and, and_false, or_false, false_or, true_or, or_true, Nat.reduceAdd, Nat.reduceMul, Nat.reduceSub, Nat.reduceLT, Nat.reduceLeDiff, Nat.reduceEqDiff, Nat.reduceBneDiff, Nat.add_zero, Nat.zero_add, reduceCtorEq, wil0, wal0, wis0, wic0, wil1, wal1, wis1, wic1, wil2, wll2, wal2, wis2, was2, wls2, wic2, wil3, wis3, wic3, wic3m, wic3s, wil4, wis4, wic4, wil5, wis5, wic5, wic5m, wil6, wll6, wal6, wis6, was6, wls6, wic6, wil7, wal7, wis7, was7, wic7, wil8, wis8, wic8, wil9, wis9, wic9, wil10, wis10, wic10, am_nI_inj, am_nI_lt, am_nI_le, nI_add, pk_mul, am_nI_sub, am_add_m1, am_gfs, am_pfs, am_alds, am_asts, am_lens, bk33_20, am_B33_4, am_B33_20, bn33_4, q0, k1]
      exact ih (x &&& (x - 1)) (c + 1) k2 (by omega) (by omega)
  simp (config := { maxSteps := 1000000 }) (disch := first | exact am_nl_i | exact am_nl_r | exact am_nl_n | exact am_l0 | exact am_l1 | exact am_l2 | exact am_l3 | assumption | omega) only [wp_ldc, wp_sipush, wp_ldc_w, wp_lconst, wp_iadd, wp_isub, wp_imul, wp_iand, wp_ior, wp_ixor, wp_ishl, wp_ishr, wp_iushr, wp_idiv, wp_irem, wp_ineg, wp_i2b, wp_i2s, wp_i2c, wp_i2l, wp_ladd, wp_lmul, wp_lcmp, wp_dup_i, wp_dup_r, wp_dup2, wp_pop, wp_getfield, wp_putfield, wp_getstatic, wp_iaload, wp_baload, wp_aaload, wp_iastore, wp_arraylength, wp_goto, wp_fall, wp_ieq, wp_ine, wp_ilt, wp_ige, wp_igt, wp_ile, wp_ceq, wp_cne, wp_clt, wp_cge, wp_cgt, wp_cle, wp_sw, wp_ret0, wp_ret1z, wp_ret1o, wp_ret1, wp_ret2, wp_ret3, wp_ret4, wp_ret5, wp_return, wp_min, wp_max, wp_abs, am_ex, gset_eq, gset_ne, upd_eq, upd_ne, gset_gset, am_ci_1, am_ci_6, am_toList_some, am_toList_none, true_implies, false_implies, and_self, and_true, true_and, not_true_eq_false, not_false_eq_true, imp_self, implies_true, Classical.not_not, if_true, if_false, false_and, and_false, or_false, false_or, true_or, or_true, Nat.reduceAdd, Nat.reduceMul, Nat.reduceSub, Nat.reduceLT, Nat.reduceLeDiff, Nat.reduceEqDiff, Nat.reduceBneDiff, Nat.add_zero, Nat.zero_add, reduceCtorEq, wil0, wal0, wis0, wic0, wil1, wal1, wis1, wic1, wil2, wll2, wal2, wis2, was2, wls2, wic2, wil3, wis3, wic3, wic3m, wic3s, wil4, wis4, wic4, wil5, wis5, wic5, wic5m, wil6, wll6, wal6, wis6, was6, wls6, wic6, wil7, wal7, wis7, was7, wic7, wil8, wis8, wic8, wil9, wis9, wic9, wil10, wis10, wic10, am_nI_inj, am_nI_lt, am_nI_le, nI_add, pk_mul, am_nI_sub, am_add_m1, am_gfs, am_pfs, am_alds, am_asts, am_lens, bk33_0, am_B33_0, bn33_4]
  exact key (popN m) m 0 hm rfl (by omega)
theorem C_X5_bits {X : AmX} {G : GG} {k : Nat} {r : List Instr} {lv : LV} {st : List Value} {Q : Option Value → GG → Prop} {m : Nat} (hm : m < 256) (hl : st.length ≤ 4) : WP X k (.invokeinterface 33 1 :: r) lv ((.int (nI m)) :: st) G Q ↔ WP X k r lv ((.int (nI (popN m))) :: st) (G) Q := WP_ev (E_X5_bits m hm) (by decide) rfl rfl hl (rfl)
/-! sets and their numbers -/
theorem tb_step : ∀ n, n < 8 → ∀ m, m < 2 ^ n → ∀ i, i < 8 → Nat.testBit (m + 2 ^ n) i = (Nat.testBit m i || decide (i = n)) := by decide +kernel
theorem tb_high : ∀ n, n < 9 → ∀ m, m < 2 ^ n → ∀ i, i < 8 → n ≤ i → Nat.testBit m i = false := by decide +kernel
theorem tb_set (f : Nat → Bool) : ∀ n, n ≤ 8 → ∀ i, i < 8 → Nat.testBit (setN f n) i = (decide (i < n) && f i)
  | 0, _, i, _ => by simp [setN]
  | n + 1, hn, i, hi => by
    have ih := tb_set f n (by omega) i hi
    have hl := setN_lt f n
    unfold setN
    by_cases hf : f n = true
    · rw [if_pos hf, tb_step n (by omega) _ hl i hi, ih]
      by_cases h1 : i = n
      · subst h1; simp [hf]
      · by_cases h2 : i < n
        · simp [h1, h2, show i < n + 1 by omega]
        · simp [h1, h2, show ¬ i < n + 1 by omega]
    · rw [if_neg hf, Nat.add_zero, ih]
      by_cases h1 : i = n
      · subst h1; simp [hf]
      · by_cases h2 : i < n
        · simp [h2, show i < n + 1 by omega]
        · simp [h2, show ¬ i < n + 1 by omega]
theorem cntB_congr {f g : Nat → Bool} : ∀ n, (∀ j, j < n → f j = g j) → cntB f n = cntB g n
  | 0, _ => rfl
  | n + 1, h => by
    unfold cntB
    rw [cntB_congr n (fun j hj => h j (by omega)), h n (by omega)]
theorem cntB_cut {f : Nat → Bool} {n : Nat} : ∀ d, cntB (fun i => decide (i < n) && f i) (n + d) = cntB f n
  | 0 => cntB_congr n (fun j hj => by simp [hj])
  | d + 1 => by
    show cntB (fun i => decide (i < n) && f i) (n + d) + (if (decide (n + d < n) && f (n + d)) = true then 1 else 0) = _
    rw [cntB_cut d, decide_eq_false (by omega : ¬ n + d < n), Bool.false_and, if_neg (by simp)]
    rfl
theorem pop_set {f : Nat → Bool} {n : Nat} (hn : n ≤ 8) : popN (setN f n) = cntB f n := by
  unfold popN
  rw [cntB_congr 8 (fun j hj => tb_set f n hn j hj)]
  have := cntB_cut (f := f) (n := n) (8 - n)
  rw [show n + (8 - n) = 8 by omega] at this
  exact this
theorem cntB_N (f : Nat → Nat) (v : Nat) : ∀ n, cntB (fun i => decide (f i = v)) n = cntN f v n
  | 0 => rfl
  | n + 1 => by
    unfold cntB cntN
    rw [cntB_N f v n]
    by_cases h : f n = v <;> simp [h]
theorem pop_setN {f : Nat → Nat} {v n : Nat} (hn : n ≤ 8) : popN (setN (fun i => decide (f i = v)) n) = cntN f v n := by
  rw [pop_set hn, cntB_N]
theorem set_of : ∀ m, m < 256 → setN (fun i => Nat.testBit m i) 8 = m := by decide +kernel
theorem set_ext {m : Nat} {f : Nat → Bool} (hm : m < 256) (h : ∀ i, i < 8 → Nat.testBit m i = f i) : m = setN f 8 := by
  rw [← set_of m hm]
  exact setN_congr 8 h
theorem clr_pop : ∀ m, m < 256 → ∀ i, i < 8 → nI m &&& ((nI 1 <<< (nI i &&& 31)) ^^^ nM) = nI (m - if Nat.testBit m i = true then 2 ^ i else 0) ∧ (m - if Nat.testBit m i = true then 2 ^ i else 0) < 256 ∧ popN (m - if Nat.testBit m i = true then 2 ^ i else 0) = popN m - if Nat.testBit m i = true then 1 else 0 := by decide +kernel
theorem sees_abs2 {q p l : Nat} (hq : q < 8) (hp : p < 8) (hl : l < 8) : (nI l < (if nI 0 ≤ nI p - nI q then nI p - nI q else nI 0 - (nI p - nI q))) = ¬ (q ≤ p + l ∧ p ≤ q + l) := by
  have h : ∀ q, q < 8 → ∀ p, p < 8 → ∀ l, l < 8 → (nI l < (if nI 0 ≤ nI p - nI q then nI p - nI q else nI 0 - (nI p - nI q)) ↔ ¬ (q ≤ p + l ∧ p ≤ q + l)) := by decide +kernel
  exact propext (h q hq p hp l hl)
theorem E_X5_planners {X : AmX} {G : GG} (n a p : Nat) (T : TT) (t z : Int32) (h : MR G n T t z a) (hp : p < 8) : Ev X 32 [.ref 58, .int (nI p)] G (some (.int (nI (setN (fun i => decide (T 2 i = p)) n)))) (G) := by
  refine Ev_of ?_
  show WP X 32 (am_blk 32 0) [some (.ref 58), some (.int (nI p)), none, none] [] G _
  obtain ⟨hM, haw, ha8, hai, hV⟩ := id h
  obtain ⟨v1, v2, v3, v4⟩ := id hV
  obtain ⟨a0, a1, a2, a3, a4, a5, a6, a7, a8, a9⟩ := id hM
  have key : ∀ d i : Nat, i + d = n → WP X 32 (am_blk 32 4) [some (.ref 58), some (.int (nI p)), some (.int (nI (setN (fun i => decide (T 2 i = p)) i))), some (.int (nI i))] [] G (fun v H => v = some (.int (nI (setN (fun i => decide (T 2 i = p)) n))) ∧ H = G) := by
    intro d
    induction d with
    | zero =>
      intro i hi
      obtain rfl : i = n := by omega
      rw [bh32_4]
      simp (config := { maxSteps := 1000000 }) (disch := first | exact am_nl_i | exact am_nl_r | exact am_nl_n | exact am_l0 | exact am_l1 | exact am_l2 | exact am_l3 | assumption | omega) only [wp_ldc, wp_sipush, wp_ldc_w, wp_lconst, wp_iadd, wp_isub, wp_imul, wp_iand, wp_ior, wp_ixor, wp_ishl, wp_ishr, wp_iushr, wp_idiv, wp_irem, wp_ineg, wp_i2b, wp_i2s, wp_i2c, wp_i2l, wp_ladd, wp_lmul, wp_lcmp, wp_dup_i, wp_dup_r, wp_dup2, wp_pop, wp_getfield, wp_putfield, wp_getstatic, wp_iaload, wp_baload, wp_aaload, wp_iastore, wp_arraylength, wp_goto, wp_fall, wp_ieq, wp_ine, wp_ilt, wp_ige, wp_igt, wp_ile, wp_ceq, wp_cne, wp_clt, wp_cge, wp_cgt, wp_cle, wp_sw, wp_ret0, wp_ret1z, wp_ret1o, wp_ret1, wp_ret2, wp_ret3, wp_ret4, wp_ret5, wp_return, wp_min, wp_max, wp_abs, am_ex, gset_eq, gset_ne, upd_eq, upd_ne, gset_gset, am_ci_1, am_ci_6, am_toList_some, am_toList_none, true_implies, false_implies, and_self, and_true, true_and, not_true_eq_false, not_false_eq_true, imp_self, implies_true, Classical.not_not, if_true, if_false, false_and, and_false, or_false, false_or, true_or, or_true, Nat.reduceAdd, Nat.reduceMul, Nat.reduceSub, Nat.reduceLT, Nat.reduceLeDiff, Nat.reduceEqDiff, Nat.reduceBneDiff, Nat.add_zero, Nat.zero_add, reduceCtorEq, wil0, wal0, wis0, wic0, wil1, wal1, wis1, wic1, wil2, wll2, wal2, wis2, was2, wls2, wic2, wil3, wis3, wic3, wic3m, wic3s, wil4, wis4, wic4, wil5, wis5, wic5, wic5m, wil6, wll6, wal6, wis6, was6, wls6, wic6, wil7, wal7, wis7, was7, wic7, wil8, wis8, wic8, wil9, wis9, wic9, wil10, wis10, wic10, am_nI_inj, am_nI_lt, am_nI_le, nI_add, pk_mul, am_nI_sub, am_add_m1, am_gfs, am_pfs, am_alds, am_asts, am_lens, bk32_48, am_B32_4, am_B32_48, a1, Nat.le_refl]
    | succ d ih =>
      intro i hi
      have hin : i < n := by omega
      have hi8 : i < 8 := by omega
      have hc0 : (n ≤ i) = False := eq_false (by omega)
      have ih := ih (i + 1) (by omega)
      rw [← setN_or (f := fun i => decide (T 2 i = p)) (i := i) (by omega)] at ih
      rw [bh32_4]
      have hq := ne_eP hi8 ha8
      by_cases hia : i = a
      · have h8 := (hai i hin).mpr hia
        rw [if_neg (by simp [h8]; omega)] at ih
        have hq1 : (nI i = eP a) = True := hq.trans (eq_true hia)
        simp (config := { maxSteps := 1000000 }) (disch := first | exact am_nl_i | exact am_nl_r | exact am_nl_n | exact am_l0 | exact am_l1 | exact am_l2 | exact am_l3 | assumption | omega) only [wp_ldc, wp_sipush, wp_ldc_w, wp_lconst, wp_iadd, wp_isub, wp_imul, wp_iand, wp_ior, wp_ixor, wp_ishl, wp_ishr, wp_iushr, wp_idiv, wp_irem, wp_ineg, wp_i2b, wp_i2s, wp_i2c, wp_i2l, wp_ladd, wp_lmul, wp_lcmp, wp_dup_i, wp_dup_r, wp_dup2, wp_pop, wp_getfield, wp_putfield, wp_getstatic, wp_iaload, wp_baload, wp_aaload, wp_iastore, wp_arraylength, wp_goto, wp_fall, wp_ieq, wp_ine, wp_ilt, wp_ige, wp_igt, wp_ile, wp_ceq, wp_cne, wp_clt, wp_cge, wp_cgt, wp_cle, wp_sw, wp_ret0, wp_ret1z, wp_ret1o, wp_ret1, wp_ret2, wp_ret3, wp_ret4, wp_ret5, wp_return, wp_min, wp_max, wp_abs, am_ex, gset_eq, gset_ne, upd_eq, upd_ne, gset_gset, am_ci_1, am_ci_6, am_toList_some, am_toList_none, true_implies, false_implies, and_self, and_true, true_and, not_true_eq_false, not_false_eq_true, imp_self, implies_true, Classical.not_not, if_true, if_false, false_and, and_false, or_false, false_or, true_or, or_true, Nat.reduceAdd, Nat.reduceMul, Nat.reduceSub, Nat.reduceLT, Nat.reduceLeDiff, Nat.reduceEqDiff, Nat.reduceBneDiff, Nat.add_zero, Nat.zero_add, reduceCtorEq, wil0, wal0, wis0, wic0, wil1, wal1, wis1, wic1, wil2, wll2, wal2, wis2, was2, wls2, wic2, wil3, wis3, wic3, wic3m, wic3s, wil4, wis4, wic4, wil5, wis5, wic5, wic5m, wil6, wll6, wal6, wis6, was6, wls6, wic6, wil7, wal7, wis7, was7, wic7, wil8, wis8, wic8, wil9, wis9, wic9, wil10, wis10, wic10, am_nI_inj, am_nI_lt, am_nI_le, nI_add, pk_mul, am_nI_sub, am_add_m1, am_gfs, am_pfs, am_alds, am_asts, am_lens, bk32_39, bk32_40, am_B32_4, am_B32_39, am_B32_40, bn32_4, a1, hc0, haw, hq1]
        exact ih
      · have h8 : T 2 i < 8 := by
          have := (v3 i hin).2.1
          have : ¬ T 2 i = 8 := fun z => hia ((hai i hin).mp z)
          omega
        have hq1 : (nI i = eP a) = False := hq.trans (eq_false hia)
        have f2 := a6 i hin h8
        by_cases h : T 2 i = p
        · rw [if_pos (by simp [h])] at ih
          have hq2 : (T 2 i = p) = True := eq_true h
          simp (config := { maxSteps := 1000000 }) (disch := first | exact am_nl_i | exact am_nl_r | exact am_nl_n | exact am_l0 | exact am_l1 | exact am_l2 | exact am_l3 | assumption | omega) only [wp_ldc, wp_sipush, wp_ldc_w, wp_lconst, wp_iadd, wp_isub, wp_imul, wp_iand, wp_ior, wp_ixor, wp_ishl, wp_ishr, wp_iushr, wp_idiv, wp_irem, wp_ineg, wp_i2b, wp_i2s, wp_i2c, wp_i2l, wp_ladd, wp_lmul, wp_lcmp, wp_dup_i, wp_dup_r, wp_dup2, wp_pop, wp_getfield, wp_putfield, wp_getstatic, wp_iaload, wp_baload, wp_aaload, wp_iastore, wp_arraylength, wp_goto, wp_fall, wp_ieq, wp_ine, wp_ilt, wp_ige, wp_igt, wp_ile, wp_ceq, wp_cne, wp_clt, wp_cge, wp_cgt, wp_cle, wp_sw, wp_ret0, wp_ret1z, wp_ret1o, wp_ret1, wp_ret2, wp_ret3, wp_ret4, wp_ret5, wp_return, wp_min, wp_max, wp_abs, am_ex, gset_eq, gset_ne, upd_eq, upd_ne, gset_gset, am_ci_1, am_ci_6, am_toList_some, am_toList_none, true_implies, false_implies, and_self, and_true, true_and, not_true_eq_false, not_false_eq_true, imp_self, implies_true, Classical.not_not, if_true, if_false, false_and, and_false, or_false, false_or, true_or, or_true, Nat.reduceAdd, Nat.reduceMul, Nat.reduceSub, Nat.reduceLT, Nat.reduceLeDiff, Nat.reduceEqDiff, Nat.reduceBneDiff, Nat.add_zero, Nat.zero_add, reduceCtorEq, wil0, wal0, wis0, wic0, wil1, wal1, wis1, wic1, wil2, wll2, wal2, wis2, was2, wls2, wic2, wil3, wis3, wic3, wic3m, wic3s, wil4, wis4, wic4, wil5, wis5, wic5, wic5m, wil6, wll6, wal6, wis6, was6, wls6, wic6, wil7, wal7, wis7, was7, wic7, wil8, wis8, wic8, wil9, wis9, wic9, wil10, wis10, wic10, am_nI_inj, am_nI_lt, am_nI_le, nI_add, pk_mul, am_nI_sub, am_add_m1, am_gfs, am_pfs, am_alds, am_asts, am_lens, bk32_39, bk32_40, am_B32_4, am_B32_39, am_B32_40, bn32_4, a1, hc0, haw, hq1, C_X5_personIs, f2, hq2]
          exact ih
        · rw [if_neg (by simp [h])] at ih
          have hq2 : (T 2 i = p) = False := eq_false h
          simp (config := { maxSteps := 1000000 }) (disch := first | exact am_nl_i | exact am_nl_r | exact am_nl_n | exact am_l0 | exact am_l1 | exact am_l2 | exact am_l3 | assumption | omega) only [wp_ldc, wp_sipush, wp_ldc_w, wp_lconst, wp_iadd, wp_isub, wp_imul, wp_iand, wp_ior, wp_ixor, wp_ishl, wp_ishr, wp_iushr, wp_idiv, wp_irem, wp_ineg, wp_i2b, wp_i2s, wp_i2c, wp_i2l, wp_ladd, wp_lmul, wp_lcmp, wp_dup_i, wp_dup_r, wp_dup2, wp_pop, wp_getfield, wp_putfield, wp_getstatic, wp_iaload, wp_baload, wp_aaload, wp_iastore, wp_arraylength, wp_goto, wp_fall, wp_ieq, wp_ine, wp_ilt, wp_ige, wp_igt, wp_ile, wp_ceq, wp_cne, wp_clt, wp_cge, wp_cgt, wp_cle, wp_sw, wp_ret0, wp_ret1z, wp_ret1o, wp_ret1, wp_ret2, wp_ret3, wp_ret4, wp_ret5, wp_return, wp_min, wp_max, wp_abs, am_ex, gset_eq, gset_ne, upd_eq, upd_ne, gset_gset, am_ci_1, am_ci_6, am_toList_some, am_toList_none, true_implies, false_implies, and_self, and_true, true_and, not_true_eq_false, not_false_eq_true, imp_self, implies_true, Classical.not_not, if_true, if_false, false_and, and_false, or_false, false_or, true_or, or_true, Nat.reduceAdd, Nat.reduceMul, Nat.reduceSub, Nat.reduceLT, Nat.reduceLeDiff, Nat.reduceEqDiff, Nat.reduceBneDiff, Nat.add_zero, Nat.zero_add, reduceCtorEq, wil0, wal0, wis0, wic0, wil1, wal1, wis1, wic1, wil2, wll2, wal2, wis2, was2, wls2, wic2, wil3, wis3, wic3, wic3m, wic3s, wil4, wis4, wic4, wil5, wis5, wic5, wic5m, wil6, wll6, wal6, wis6, was6, wls6, wic6, wil7, wal7, wis7, was7, wic7, wil8, wis8, wic8, wil9, wis9, wic9, wil10, wis10, wic10, am_nI_inj, am_nI_lt, am_nI_le, nI_add, pk_mul, am_nI_sub, am_add_m1, am_gfs, am_pfs, am_alds, am_asts, am_lens, bk32_39, bk32_40, am_B32_4, am_B32_39, am_B32_40, bn32_4, a1, hc0, haw, hq1, C_X5_personIs, f2, hq2]
          exact ih
  simp (config := { maxSteps := 1000000 }) (disch := first | exact am_nl_i | exact am_nl_r | exact am_nl_n | exact am_l0 | exact am_l1 | exact am_l2 | exact am_l3 | assumption | omega) only [wp_ldc, wp_sipush, wp_ldc_w, wp_lconst, wp_iadd, wp_isub, wp_imul, wp_iand, wp_ior, wp_ixor, wp_ishl, wp_ishr, wp_iushr, wp_idiv, wp_irem, wp_ineg, wp_i2b, wp_i2s, wp_i2c, wp_i2l, wp_ladd, wp_lmul, wp_lcmp, wp_dup_i, wp_dup_r, wp_dup2, wp_pop, wp_getfield, wp_putfield, wp_getstatic, wp_iaload, wp_baload, wp_aaload, wp_iastore, wp_arraylength, wp_goto, wp_fall, wp_ieq, wp_ine, wp_ilt, wp_ige, wp_igt, wp_ile, wp_ceq, wp_cne, wp_clt, wp_cge, wp_cgt, wp_cle, wp_sw, wp_ret0, wp_ret1z, wp_ret1o, wp_ret1, wp_ret2, wp_ret3, wp_ret4, wp_ret5, wp_return, wp_min, wp_max, wp_abs, am_ex, gset_eq, gset_ne, upd_eq, upd_ne, gset_gset, am_ci_1, am_ci_6, am_toList_some, am_toList_none, true_implies, false_implies, and_self, and_true, true_and, not_true_eq_false, not_false_eq_true, imp_self, implies_true, Classical.not_not, if_true, if_false, false_and, and_false, or_false, false_or, true_or, or_true, Nat.reduceAdd, Nat.reduceMul, Nat.reduceSub, Nat.reduceLT, Nat.reduceLeDiff, Nat.reduceEqDiff, Nat.reduceBneDiff, Nat.add_zero, Nat.zero_add, reduceCtorEq, wil0, wal0, wis0, wic0, wil1, wal1, wis1, wic1, wil2, wll2, wal2, wis2, was2, wls2, wic2, wil3, wis3, wic3, wic3m, wic3s, wil4, wis4, wic4, wil5, wis5, wic5, wic5m, wil6, wll6, wal6, wis6, was6, wls6, wic6, wil7, wal7, wis7, was7, wic7, wil8, wis8, wic8, wil9, wis9, wic9, wil10, wis10, wic10, am_nI_inj, am_nI_lt, am_nI_le, nI_add, pk_mul, am_nI_sub, am_add_m1, am_gfs, am_pfs, am_alds, am_asts, am_lens, bk32_0, am_B32_0, bn32_4]
  exact key n 0 (by omega)
theorem C_X5_planners {X : AmX} {G : GG} {k : Nat} {r : List Instr} {lv : LV} {st : List Value} {Q : Option Value → GG → Prop} {n a p : Nat} {T : TT} {t z : Int32} (h : MR G n T t z a) (hp : p < 8) (hl : st.length ≤ 4) : WP X k (.invokeinterface 32 2 :: r) lv ((.int (nI p)) :: (.ref 58) :: st) G Q ↔ WP X k r lv ((.int (nI (setN (fun i => decide (T 2 i = p)) n))) :: st) (G) Q := WP_ev (E_X5_planners n a p T t z h hp) (by decide) rfl rfl hl (rfl)
theorem E_X5_seenAt {X : AmX} {G : GG} (n a i p : Nat) (T : TT) (t z : Int32) (h : MR G n T t z a) (hi : i < n) (hp : p < 8) : Ev X 31 [.ref 58, .int (nI i), .int (nI p)] G (some (.int (nI (othN T n i p)))) (G) := by
  refine Ev_of ?_
  show WP X 31 (am_blk 31 0) [some (.ref 58), some (.int (nI i)), some (.int (nI p))] [] G _
  have v1 := h.2.2.2.2.1
  have hi8 : i < 8 := by omega
  have hs := setN_256 (f := fun i => decide (T 2 i = p)) v1
  have e1 := tb_set (fun i => decide (T 2 i = p)) n v1 i hi8
  have e2 := pop_setN (f := T 2) (v := p) v1
  obtain ⟨k1, k2, k3⟩ := clr_pop _ hs i hi8
  have e3 : othN T n i p = popN (setN (fun i => decide (T 2 i = p)) n - if Nat.testBit (setN (fun i => decide (T 2 i = p)) n) i = true then 2 ^ i else 0) := by
    rw [k3, e2, e1]
    unfold othN
    by_cases h : T 2 i = p <;> simp [h, hi]
  rw [e3]
  have hP := fun (k : Nat) (r : List Instr) (lv : LV) (st : List Value) (Q : Option Value → GG → Prop) (hl : st.length ≤ 4) => C_X5_planners (X := X) (k := k) (st := st) (r := r) (lv := lv) (Q := Q) (n := n) (a := a) (p := p) (T := T) (t := t) (z := z) h hp hl
  generalize (setN (fun i => decide (T 2 i = p)) n - if Nat.testBit (setN (fun i => decide (T 2 i = p)) n) i = true then 2 ^ i else 0) = y at *
  generalize setN (fun i => decide (T 2 i = p)) n = x at *
  simp (config := { maxSteps := 1000000 }) (disch := first | exact am_nl_i | exact am_nl_r | exact am_nl_n | exact am_l0 | exact am_l1 | exact am_l2 | exact am_l3 | assumption | omega) only [wp_ldc, wp_sipush, wp_ldc_w, wp_lconst, wp_iadd, wp_isub, wp_imul, wp_iand, wp_ior, wp_ixor, wp_ishl, wp_ishr, wp_iushr, wp_idiv, wp_irem, wp_ineg, wp_i2b, wp_i2s, wp_i2c, wp_i2l, wp_ladd, wp_lmul, wp_lcmp, wp_dup_i, wp_dup_r, wp_dup2, wp_pop, wp_getfield, wp_putfield, wp_getstatic, wp_iaload, wp_baload, wp_aaload, wp_iastore, wp_arraylength, wp_goto, wp_fall, wp_ieq, wp_ine, wp_ilt, wp_ige, wp_igt, wp_ile, wp_ceq, wp_cne, wp_clt, wp_cge, wp_cgt, wp_cle, wp_sw, wp_ret0, wp_ret1z, wp_ret1o, wp_ret1, wp_ret2, wp_ret3, wp_ret4, wp_ret5, wp_return, wp_min, wp_max, wp_abs, am_ex, gset_eq, gset_ne, upd_eq, upd_ne, gset_gset, am_ci_1, am_ci_6, am_toList_some, am_toList_none, true_implies, false_implies, and_self, and_true, true_and, not_true_eq_false, not_false_eq_true, imp_self, implies_true, Classical.not_not, if_true, if_false, false_and, and_false, or_false, false_or, true_or, or_true, Nat.reduceAdd, Nat.reduceMul, Nat.reduceSub, Nat.reduceLT, Nat.reduceLeDiff, Nat.reduceEqDiff, Nat.reduceBneDiff, Nat.add_zero, Nat.zero_add, reduceCtorEq, wil0, wal0, wis0, wic0, wil1, wal1, wis1, wic1, wil2, wll2, wal2, wis2, was2, wls2, wic2, wil3, wis3, wic3, wic3m, wic3s, wil4, wis4, wic4, wil5, wis5, wic5, wic5m, wil6, wll6, wal6, wis6, was6, wls6, wic6, wil7, wal7, wis7, was7, wic7, wil8, wis8, wic8, wil9, wis9, wic9, wil10, wis10, wic10, am_nI_inj, am_nI_lt, am_nI_le, nI_add, pk_mul, am_nI_sub, am_add_m1, am_gfs, am_pfs, am_alds, am_asts, am_lens, bs31, am_B31_0, hP, fcs, k1, C_X5_bits]
theorem C_X5_seenAt {X : AmX} {G : GG} {k : Nat} {r : List Instr} {lv : LV} {st : List Value} {Q : Option Value → GG → Prop} {n a i p : Nat} {T : TT} {t z : Int32} (h : MR G n T t z a) (hi : i < n) (hp : p < 8) (hl : st.length ≤ 4) : WP X k (.invokeinterface 31 3 :: r) lv ((.int (nI p)) :: (.int (nI i)) :: (.ref 58) :: st) G Q ↔ WP X k r lv ((.int (nI (othN T n i p))) :: st) (G) Q := WP_ev (E_X5_seenAt n a i p T t z h hi hp) (by decide) rfl rfl hl (rfl)
theorem E_X5_canSee {X : AmX} {G : GG} (n a i p : Nat) (T : TT) (t z : Int32) (h : MR G n T t z a) (hi : i < n) (hp : p < 8) (h2 : T 2 i < 8) : Ev X 35 [.ref 58, .int (nI i), .int (nI p)] G (some (.int (bI (seesN T i p)))) (G) := by
  refine Ev_of ?_
  show WP X 35 (am_blk 35 0) [some (.ref 58), some (.int (nI i)), some (.int (nI p))] [] G _
  obtain ⟨hM, haw, ha8, hai, hV⟩ := id h
  obtain ⟨v1, v2, v3, v4⟩ := id hV
  obtain ⟨a0, a1, a2, a3, a4, a5, a6, a7, a8, a9⟩ := id hM
  have hi8 : i < 8 := by omega
  have f5 := a6 i hi h2
  have f6 := a7 i hi
  have hs := sees_abs2 (q := T 2 i) (p := p) (l := T 3 i) h2 hp (v3 i hi).2.2.1
  unfold seesN
  simp (config := { maxSteps := 1000000 }) (disch := first | exact am_nl_i | exact am_nl_r | exact am_nl_n | exact am_l0 | exact am_l1 | exact am_l2 | exact am_l3 | assumption | omega) only [wp_ldc, wp_sipush, wp_ldc_w, wp_lconst, wp_iadd, wp_isub, wp_imul, wp_iand, wp_ior, wp_ixor, wp_ishl, wp_ishr, wp_iushr, wp_idiv, wp_irem, wp_ineg, wp_i2b, wp_i2s, wp_i2c, wp_i2l, wp_ladd, wp_lmul, wp_lcmp, wp_dup_i, wp_dup_r, wp_dup2, wp_pop, wp_getfield, wp_putfield, wp_getstatic, wp_iaload, wp_baload, wp_aaload, wp_iastore, wp_arraylength, wp_goto, wp_fall, wp_ieq, wp_ine, wp_ilt, wp_ige, wp_igt, wp_ile, wp_ceq, wp_cne, wp_clt, wp_cge, wp_cgt, wp_cle, wp_sw, wp_ret0, wp_ret1z, wp_ret1o, wp_ret1, wp_ret2, wp_ret3, wp_ret4, wp_ret5, wp_return, wp_min, wp_max, wp_abs, am_ex, gset_eq, gset_ne, upd_eq, upd_ne, gset_gset, am_ci_1, am_ci_6, am_toList_some, am_toList_none, true_implies, false_implies, and_self, and_true, true_and, not_true_eq_false, not_false_eq_true, imp_self, implies_true, Classical.not_not, if_true, if_false, false_and, and_false, or_false, false_or, true_or, or_true, Nat.reduceAdd, Nat.reduceMul, Nat.reduceSub, Nat.reduceLT, Nat.reduceLeDiff, Nat.reduceEqDiff, Nat.reduceBneDiff, Nat.add_zero, Nat.zero_add, reduceCtorEq, wil0, wal0, wis0, wic0, wil1, wal1, wis1, wic1, wil2, wll2, wal2, wis2, was2, wls2, wic2, wil3, wis3, wic3, wic3m, wic3s, wil4, wis4, wic4, wil5, wis5, wic5, wic5m, wil6, wll6, wal6, wis6, was6, wls6, wic6, wil7, wal7, wis7, was7, wic7, wil8, wis8, wic8, wil9, wis9, wic9, wil10, wis10, wic10, am_nI_inj, am_nI_lt, am_nI_le, nI_add, pk_mul, am_nI_sub, am_add_m1, am_gfs, am_pfs, am_alds, am_asts, am_lens, bk35_0, am_B35_0, C_X5_personIs, f5, f6]
  refine ⟨fun h => ?_, fun h => ?_⟩
  · rw [hs] at h
    rw [decide_eq_false h]
    simp (config := { maxSteps := 1000000 }) (disch := first | exact am_nl_i | exact am_nl_r | exact am_nl_n | exact am_l0 | exact am_l1 | exact am_l2 | exact am_l3 | assumption | omega) only [wp_ldc, wp_sipush, wp_ldc_w, wp_lconst, wp_iadd, wp_isub, wp_imul, wp_iand, wp_ior, wp_ixor, wp_ishl, wp_ishr, wp_iushr, wp_idiv, wp_irem, wp_ineg, wp_i2b, wp_i2s, wp_i2c, wp_i2l, wp_ladd, wp_lmul, wp_lcmp, wp_dup_i, wp_dup_r, wp_dup2, wp_pop, wp_getfield, wp_putfield, wp_getstatic, wp_iaload, wp_baload, wp_aaload, wp_iastore, wp_arraylength, wp_goto, wp_fall, wp_ieq, wp_ine, wp_ilt, wp_ige, wp_igt, wp_ile, wp_ceq, wp_cne, wp_clt, wp_cge, wp_cgt, wp_cle, wp_sw, wp_ret0, wp_ret1z, wp_ret1o, wp_ret1, wp_ret2, wp_ret3, wp_ret4, wp_ret5, wp_return, wp_min, wp_max, wp_abs, am_ex, gset_eq, gset_ne, upd_eq, upd_ne, gset_gset, am_ci_1, am_ci_6, am_toList_some, am_toList_none, true_implies, false_implies, and_self, and_true, true_and, not_true_eq_false, not_false_eq_true, imp_self, implies_true, Classical.not_not, if_true, if_false, false_and, and_false, or_false, false_or, true_or, or_true, Nat.reduceAdd, Nat.reduceMul, Nat.reduceSub, Nat.reduceLT, Nat.reduceLeDiff, Nat.reduceEqDiff, Nat.reduceBneDiff, Nat.add_zero, Nat.zero_add, reduceCtorEq, wil0, wal0, wis0, wic0, wil1, wal1, wis1, wic1, wil2, wll2, wal2, wis2, was2, wls2, wic2, wil3, wis3, wic3, wic3m, wic3s, wil4, wis4, wic4, wil5, wis5, wic5, wic5m, wil6, wll6, wal6, wis6, was6, wls6, wic6, wil7, wal7, wis7, was7, wic7, wil8, wis8, wic8, wil9, wis9, wic9, wil10, wis10, wic10, am_nI_inj, am_nI_lt, am_nI_le, nI_add, pk_mul, am_nI_sub, am_add_m1, am_gfs, am_pfs, am_alds, am_asts, am_lens, bk35_24, bk35_25, am_B35_24, am_B35_25, bI_f]
  · rw [hs] at h
    rw [decide_eq_true (Classical.not_not.mp h)]
    simp (config := { maxSteps := 1000000 }) (disch := first | exact am_nl_i | exact am_nl_r | exact am_nl_n | exact am_l0 | exact am_l1 | exact am_l2 | exact am_l3 | assumption | omega) only [wp_ldc, wp_sipush, wp_ldc_w, wp_lconst, wp_iadd, wp_isub, wp_imul, wp_iand, wp_ior, wp_ixor, wp_ishl, wp_ishr, wp_iushr, wp_idiv, wp_irem, wp_ineg, wp_i2b, wp_i2s, wp_i2c, wp_i2l, wp_ladd, wp_lmul, wp_lcmp, wp_dup_i, wp_dup_r, wp_dup2, wp_pop, wp_getfield, wp_putfield, wp_getstatic, wp_iaload, wp_baload, wp_aaload, wp_iastore, wp_arraylength, wp_goto, wp_fall, wp_ieq, wp_ine, wp_ilt, wp_ige, wp_igt, wp_ile, wp_ceq, wp_cne, wp_clt, wp_cge, wp_cgt, wp_cle, wp_sw, wp_ret0, wp_ret1z, wp_ret1o, wp_ret1, wp_ret2, wp_ret3, wp_ret4, wp_ret5, wp_return, wp_min, wp_max, wp_abs, am_ex, gset_eq, gset_ne, upd_eq, upd_ne, gset_gset, am_ci_1, am_ci_6, am_toList_some, am_toList_none, true_implies, false_implies, and_self, and_true, true_and, not_true_eq_false, not_false_eq_true, imp_self, implies_true, Classical.not_not, if_true, if_false, false_and, and_false, or_false, false_or, true_or, or_true, Nat.reduceAdd, Nat.reduceMul, Nat.reduceSub, Nat.reduceLT, Nat.reduceLeDiff, Nat.reduceEqDiff, Nat.reduceBneDiff, Nat.add_zero, Nat.zero_add, reduceCtorEq, wil0, wal0, wis0, wic0, wil1, wal1, wis1, wic1, wil2, wll2, wal2, wis2, was2, wls2, wic2, wil3, wis3, wic3, wic3m, wic3s, wil4, wis4, wic4, wil5, wis5, wic5, wic5m, wil6, wll6, wal6, wis6, was6, wls6, wic6, wil7, wal7, wis7, was7, wic7, wil8, wis8, wic8, wil9, wis9, wic9, wil10, wis10, wic10, am_nI_inj, am_nI_lt, am_nI_le, nI_add, pk_mul, am_nI_sub, am_add_m1, am_gfs, am_pfs, am_alds, am_asts, am_lens, bk35_25, am_B35_25, bI_t]
theorem C_X5_canSee {X : AmX} {G : GG} {k : Nat} {r : List Instr} {lv : LV} {st : List Value} {Q : Option Value → GG → Prop} {n a i p : Nat} {T : TT} {t z : Int32} (h : MR G n T t z a) (hi : i < n) (hp : p < 8) (h2 : T 2 i < 8) (hl : st.length ≤ 4) : WP X k (.invokeinterface 35 3 :: r) lv ((.int (nI p)) :: (.int (nI i)) :: (.ref 58) :: st) G Q ↔ WP X k r lv ((.int (bI (seesN T i p))) :: st) (G) Q := WP_ev (E_X5_canSee n a i p T t z h hi hp h2) (by decide) rfl rfl hl (rfl)
theorem E_X5_loverWish {X : AmX} {G : GG} (n a i p s : Nat) (T : TT) (t z : Int32) (h : MR G n T t z a) (hi : i < n) (hp : p < 8) (hs : s ≤ 8) : Ev X 34 [.ref 58, .int (nI i), .int (nI p), .int (nI s)] G (some (.int (nI (T 0 p) / nI (s + 1) + (if flN T i p = true then nI 100 else nI 0)))) (G) := by
  refine Ev_of ?_
  show WP X 34 (am_blk 34 0) [some (.ref 58), some (.int (nI i)), some (.int (nI p)), some (.int (nI s)), none, none] [] G _
  obtain ⟨hM, haw, ha8, hai, hV⟩ := id h
  obtain ⟨v1, v2, v3, v4⟩ := id hV
  obtain ⟨a0, a1, a2, a3, a4, a5, a6, a7, a8, a9⟩ := id hM
  have hi8 : i < 8 := by omega
  have f1 := a8 i hi
  have f2 := a4 p hp
  have hs1 : (1 + s = 0) = False := eq_false (by omega)
  have e1 : 1 + s = s + 1 := by omega
  have e2 : (nI 1 = nI 0) = False := eq_false (by decide)
  have hL := (v3 i hi).2.2.2.1
  by_cases hl : T 4 i = 8
  · rw [hl, eP_8] at f1
    have g : flN T i p = false := by unfold flN; simp [hl]
    rw [g]
    simp (config := { maxSteps := 1000000 }) (disch := first | exact am_nl_i | exact am_nl_r | exact am_nl_n | exact am_l0 | exact am_l1 | exact am_l2 | exact am_l3 | assumption | omega) only [wp_ldc, wp_sipush, wp_ldc_w, wp_lconst, wp_iadd, wp_isub, wp_imul, wp_iand, wp_ior, wp_ixor, wp_ishl, wp_ishr, wp_iushr, wp_idiv, wp_irem, wp_ineg, wp_i2b, wp_i2s, wp_i2c, wp_i2l, wp_ladd, wp_lmul, wp_lcmp, wp_dup_i, wp_dup_r, wp_dup2, wp_pop, wp_getfield, wp_putfield, wp_getstatic, wp_iaload, wp_baload, wp_aaload, wp_iastore, wp_arraylength, wp_goto, wp_fall, wp_ieq, wp_ine, wp_ilt, wp_ige, wp_igt, wp_ile, wp_ceq, wp_cne, wp_clt, wp_cge, wp_cgt, wp_cle, wp_sw, wp_ret0, wp_ret1z, wp_ret1o, wp_ret1, wp_ret2, wp_ret3, wp_ret4, wp_ret5, wp_return, wp_min, wp_max, wp_abs, am_ex, gset_eq, gset_ne, upd_eq, upd_ne, gset_gset, am_ci_1, am_ci_6, am_toList_some, am_toList_none, true_implies, false_implies, and_self, and_true, true_and, not_true_eq_false, not_false_eq_true, imp_self, implies_true, Classical.not_not, if_true, if_false, false_and, and_false, or_false, false_or, true_or, or_true, Nat.reduceAdd, Nat.reduceMul, Nat.reduceSub, Nat.reduceLT, Nat.reduceLeDiff, Nat.reduceEqDiff, Nat.reduceBneDiff, Nat.add_zero, Nat.zero_add, reduceCtorEq, wil0, wal0, wis0, wic0, wil1, wal1, wis1, wic1, wil2, wll2, wal2, wis2, was2, wls2, wic2, wil3, wis3, wic3, wic3m, wic3s, wil4, wis4, wic4, wil5, wis5, wic5, wic5m, wil6, wll6, wal6, wis6, was6, wls6, wic6, wil7, wal7, wis7, was7, wic7, wil8, wis8, wic8, wil9, wis9, wic9, wil10, wis10, wic10, am_nI_inj, am_nI_lt, am_nI_le, nI_add, pk_mul, am_nI_sub, am_add_m1, am_gfs, am_pfs, am_alds, am_asts, am_lens, bs34, am_B34_0, am_B34_37, am_B34_38, am_B34_63, am_B34_64, C_X5_personIs, f1, f2, nM_lt, hs1, e1]
    try simp
  · rw [eP_lt hl] at f1
    have hln : T 4 i < n := by omega
    have hl8 : T 4 i < 8 := by omega
    have q0 : (T 4 i < 0) = False := eq_false (by omega)
    by_cases hla : T 4 i = a
    · have g : flN T i p = false := by
        unfold flN
        have := (hai _ hln).mpr hla
        rw [this]
        simp; omega
      have hq1 : (nI (T 4 i) = eP a) = True := (ne_eP hl8 ha8).trans (eq_true hla)
      rw [g]
      simp (config := { maxSteps := 1000000 }) (disch := first | exact am_nl_i | exact am_nl_r | exact am_nl_n | exact am_l0 | exact am_l1 | exact am_l2 | exact am_l3 | assumption | omega) only [wp_ldc, wp_sipush, wp_ldc_w, wp_lconst, wp_iadd, wp_isub, wp_imul, wp_iand, wp_ior, wp_ixor, wp_ishl, wp_ishr, wp_iushr, wp_idiv, wp_irem, wp_ineg, wp_i2b, wp_i2s, wp_i2c, wp_i2l, wp_ladd, wp_lmul, wp_lcmp, wp_dup_i, wp_dup_r, wp_dup2, wp_pop, wp_getfield, wp_putfield, wp_getstatic, wp_iaload, wp_baload, wp_aaload, wp_iastore, wp_arraylength, wp_goto, wp_fall, wp_ieq, wp_ine, wp_ilt, wp_ige, wp_igt, wp_ile, wp_ceq, wp_cne, wp_clt, wp_cge, wp_cgt, wp_cle, wp_sw, wp_ret0, wp_ret1z, wp_ret1o, wp_ret1, wp_ret2, wp_ret3, wp_ret4, wp_ret5, wp_return, wp_min, wp_max, wp_abs, am_ex, gset_eq, gset_ne, upd_eq, upd_ne, gset_gset, am_ci_1, am_ci_6, am_toList_some, am_toList_none, true_implies, false_implies, and_self, and_true, true_and, not_true_eq_false, not_false_eq_true, imp_self, implies_true, Classical.not_not, if_true, if_false, false_and, and_false, or_false, false_or, true_or, or_true, Nat.reduceAdd, Nat.reduceMul, Nat.reduceSub, Nat.reduceLT, Nat.reduceLeDiff, Nat.reduceEqDiff, Nat.reduceBneDiff, Nat.add_zero, Nat.zero_add, reduceCtorEq, wil0, wal0, wis0, wic0, wil1, wal1, wis1, wic1, wil2, wll2, wal2, wis2, was2, wls2, wic2, wil3, wis3, wic3, wic3m, wic3s, wil4, wis4, wic4, wil5, wis5, wic5, wic5m, wil6, wll6, wal6, wis6, was6, wls6, wic6, wil7, wal7, wis7, was7, wic7, wil8, wis8, wic8, wil9, wis9, wic9, wil10, wis10, wic10, am_nI_inj, am_nI_lt, am_nI_le, nI_add, pk_mul, am_nI_sub, am_add_m1, am_gfs, am_pfs, am_alds, am_asts, am_lens, bs34, am_B34_0, am_B34_37, am_B34_38, am_B34_63, am_B34_64, C_X5_personIs, f1, f2, haw, q0, hq1, hs1, e1]
      try simp
    · have hq1 : (nI (T 4 i) = eP a) = False := (ne_eP hl8 ha8).trans (eq_false hla)
      have h8 : T 2 (T 4 i) < 8 := by
        have := (v3 _ hln).2.1
        have : ¬ T 2 (T 4 i) = 8 := fun z => hla ((hai _ hln).mp z)
        omega
      have f3 := a6 _ hln h8
      by_cases hF : T 2 (T 4 i) = p
      · have g : flN T i p = true := by unfold flN; simp [hF, hl8]
        rw [g]
        simp (config := { maxSteps := 1000000 }) (disch := first | exact am_nl_i | exact am_nl_r | exact am_nl_n | exact am_l0 | exact am_l1 | exact am_l2 | exact am_l3 | assumption | omega) only [wp_ldc, wp_sipush, wp_ldc_w, wp_lconst, wp_iadd, wp_isub, wp_imul, wp_iand, wp_ior, wp_ixor, wp_ishl, wp_ishr, wp_iushr, wp_idiv, wp_irem, wp_ineg, wp_i2b, wp_i2s, wp_i2c, wp_i2l, wp_ladd, wp_lmul, wp_lcmp, wp_dup_i, wp_dup_r, wp_dup2, wp_pop, wp_getfield, wp_putfield, wp_getstatic, wp_iaload, wp_baload, wp_aaload, wp_iastore, wp_arraylength, wp_goto, wp_fall, wp_ieq, wp_ine, wp_ilt, wp_ige, wp_igt, wp_ile, wp_ceq, wp_cne, wp_clt, wp_cge, wp_cgt, wp_cle, wp_sw, wp_ret0, wp_ret1z, wp_ret1o, wp_ret1, wp_ret2, wp_ret3, wp_ret4, wp_ret5, wp_return, wp_min, wp_max, wp_abs, am_ex, gset_eq, gset_ne, upd_eq, upd_ne, gset_gset, am_ci_1, am_ci_6, am_toList_some, am_toList_none, true_implies, false_implies, and_self, and_true, true_and, not_true_eq_false, not_false_eq_true, imp_self, implies_true, Classical.not_not, if_true, if_false, false_and, and_false, or_false, false_or, true_or, or_true, Nat.reduceAdd, Nat.reduceMul, Nat.reduceSub, Nat.reduceLT, Nat.reduceLeDiff, Nat.reduceEqDiff, Nat.reduceBneDiff, Nat.add_zero, Nat.zero_add, reduceCtorEq, wil0, wal0, wis0, wic0, wil1, wal1, wis1, wic1, wil2, wll2, wal2, wis2, was2, wls2, wic2, wil3, wis3, wic3, wic3m, wic3s, wil4, wis4, wic4, wil5, wis5, wic5, wic5m, wil6, wll6, wal6, wis6, was6, wls6, wic6, wil7, wal7, wis7, was7, wic7, wil8, wis8, wic8, wil9, wis9, wic9, wil10, wis10, wic10, am_nI_inj, am_nI_lt, am_nI_le, nI_add, pk_mul, am_nI_sub, am_add_m1, am_gfs, am_pfs, am_alds, am_asts, am_lens, bs34, am_B34_0, am_B34_37, am_B34_38, am_B34_63, am_B34_64, C_X5_personIs, f1, f2, f3, haw, q0, hq1, hF, hs1, e1, e2]
        try simp
      · have g : flN T i p = false := by unfold flN; simp [hF]
        rw [g]
        simp (config := { maxSteps := 1000000 }) (disch := first | exact am_nl_i | exact am_nl_r | exact am_nl_n | exact am_l0 | exact am_l1 | exact am_l2 | exact am_l3 | assumption | omega) only [wp_ldc, wp_sipush, wp_ldc_w, wp_lconst, wp_iadd, wp_isub, wp_imul, wp_iand, wp_ior, wp_ixor, wp_ishl, wp_ishr, wp_iushr, wp_idiv, wp_irem, wp_ineg, wp_i2b, wp_i2s, wp_i2c, wp_i2l, wp_ladd, wp_lmul, wp_lcmp, wp_dup_i, wp_dup_r, wp_dup2, wp_pop, wp_getfield, wp_putfield, wp_getstatic, wp_iaload, wp_baload, wp_aaload, wp_iastore, wp_arraylength, wp_goto, wp_fall, wp_ieq, wp_ine, wp_ilt, wp_ige, wp_igt, wp_ile, wp_ceq, wp_cne, wp_clt, wp_cge, wp_cgt, wp_cle, wp_sw, wp_ret0, wp_ret1z, wp_ret1o, wp_ret1, wp_ret2, wp_ret3, wp_ret4, wp_ret5, wp_return, wp_min, wp_max, wp_abs, am_ex, gset_eq, gset_ne, upd_eq, upd_ne, gset_gset, am_ci_1, am_ci_6, am_toList_some, am_toList_none, true_implies, false_implies, and_self, and_true, true_and, not_true_eq_false, not_false_eq_true, imp_self, implies_true, Classical.not_not, if_true, if_false, false_and, and_false, or_false, false_or, true_or, or_true, Nat.reduceAdd, Nat.reduceMul, Nat.reduceSub, Nat.reduceLT, Nat.reduceLeDiff, Nat.reduceEqDiff, Nat.reduceBneDiff, Nat.add_zero, Nat.zero_add, reduceCtorEq, wil0, wal0, wis0, wic0, wil1, wal1, wis1, wic1, wil2, wll2, wal2, wis2, was2, wls2, wic2, wil3, wis3, wic3, wic3m, wic3s, wil4, wis4, wic4, wil5, wis5, wic5, wic5m, wil6, wll6, wal6, wis6, was6, wls6, wic6, wil7, wal7, wis7, was7, wic7, wil8, wis8, wic8, wil9, wis9, wic9, wil10, wis10, wic10, am_nI_inj, am_nI_lt, am_nI_le, nI_add, pk_mul, am_nI_sub, am_add_m1, am_gfs, am_pfs, am_alds, am_asts, am_lens, bs34, am_B34_0, am_B34_37, am_B34_38, am_B34_63, am_B34_64, C_X5_personIs, f1, f2, f3, haw, q0, hq1, hF, hs1, e1]
        try simp
theorem C_X5_loverWish {X : AmX} {G : GG} {k : Nat} {r : List Instr} {lv : LV} {st : List Value} {Q : Option Value → GG → Prop} {n a i p s : Nat} {T : TT} {t z : Int32} (h : MR G n T t z a) (hi : i < n) (hp : p < 8) (hs : s ≤ 8) (hl : st.length ≤ 4) : WP X k (.invokeinterface 34 4 :: r) lv ((.int (nI s)) :: (.int (nI p)) :: (.int (nI i)) :: (.ref 58) :: st) G Q ↔ WP X k r lv ((.int (nI (T 0 p) / nI (s + 1) + (if flN T i p = true then nI 100 else nI 0))) :: st) (G) Q := WP_ev (E_X5_loverWish n a i p s T t z h hi hp hs) (by decide) rfl rfl hl (rfl)
