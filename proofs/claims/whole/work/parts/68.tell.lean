/-! ===== the class: tell ===== -/
def telT (T : TT) (m p j : Nat) : TT := fun c i => if c = 2 ∧ i < j ∧ Nat.testBit m i = true then p else T c i
theorem bit_of : ∀ m, m < 256 → ∀ i, i < 8 → (nI m >>> (nI i &&& 31)) &&& nI 1 = nI (if Nat.testBit m i = true then 1 else 0) := by decide +kernel
theorem pow_of : ∀ n, n < 9 → nI 1 <<< (nI n &&& 31) = nI (2 ^ n) := by decide +kernel
theorem popN_le : ∀ m, m < 256 → popN m ≤ 8 := by decide +kernel
theorem telT_s {T : TT} {m p j : Nat} (h : Nat.testBit m j = true) : telT T m p (j + 1) = updT (telT T m p j) 2 j p := by
  funext c i
  unfold updT telT
  by_cases hc : c = 2
  · by_cases hi : i = j
    · subst hi; simp [hc, h]
    · simp only [hc, hi, true_and, and_false, if_false, show i < j + 1 ↔ i < j by omega]
  · simp only [hc, false_and, if_false]
theorem telT_n {T : TT} {m p j : Nat} (h : Nat.testBit m j = false) : telT T m p (j + 1) = telT T m p j := by
  funext c i
  unfold telT
  by_cases hi : i = j
  · subst hi; simp [h]
  · simp only [show i < j + 1 ↔ i < j by omega]
theorem telT_0 {T : TT} {m p : Nat} : telT T m p 0 = T := by
  funext c i
  exact if_neg (fun z => absurd z.2.1 (Nat.not_lt_zero _))
theorem CS_tell {X : AmX} {S : SS} {G : GG} (h : CSt S G) (m p : Nat) (hm : m < 256) (hp : p < 8) : ∃ G1, Ev X 116 [.ref 0, .int (nI m), .int (nI p)] G (some (.int (nI (ccN (telT S.1.2.1 m p S.1.1) S.1.1 p)))) G1 ∧ CSt S G1 ∧ ∀ o, 58 ≤ o → G1 o = G o := by
  suffices h : WPm X 116 [.ref 0, .int (nI m), .int (nI p)] G (fun w G1 => w = some (.int (nI (ccN (telT S.1.2.1 m p S.1.1) S.1.1 p))) ∧ CSt S G1 ∧ ∀ o, 58 ≤ o → G1 o = G o) by
    obtain ⟨w, G1, h1, rfl, h2⟩ := WPm_ev h
    exact ⟨G1, h1, h2⟩
  have hv8 := h.2.1.1.1
  have hb1 := tb1
  have hb23 := tb23
  show WP X 116 (am_blk 116 0) [some (.ref 0), some (.int (nI m)), some (.int (nI p)), none] [] G _
  generalize hQ : (fun (w : Option Value) (G1 : GG) => w = some (.int (nI (ccN (telT S.1.2.1 m p S.1.1) S.1.1 p))) ∧ CSt S G1 ∧ ∀ o, 58 ≤ o → G1 o = G o) = Q
  obtain ⟨G1, hC, hc1, hf1⟩ := CS_become (X := X) h
  have key : ∀ d j : Nat, j + d = S.1.1 → ∀ (G' : GG), TRS S (S.1.1, telT S.1.2.1 m p j, S.1.2.2) G' → (∀ o, 58 ≤ o → G' o = G o) → WP X 116 (am_blk 116 13) [some (.ref 0), some (.int (nI m)), some (.int (nI p)), some (.int (nI j))] [] G' Q := by
    intro d
    induction d with
    | zero =>
      intro j hj G' hr hf
      obtain rfl : j = S.1.1 := by omega
      have g0 : G' 23 7 = nI S.1.1 := hr.2.1.1
      obtain ⟨G2, hD, hr2, hs2, hf2⟩ := CS_tsettle (X := X) hr
      have g1 : G2 33 p = nI (ccN (telT S.1.2.1 m p S.1.1) S.1.1 p) := hs2.2.2 p hp
      rw [bh116_13]
      simp (config := { maxSteps := 1000000 }) (disch := first | exact am_nl_i | exact am_nl_r | exact am_nl_n | exact am_l0 | exact am_l1 | exact am_l2 | exact am_l3 | assumption | omega) only [wp_ldc, wp_sipush, wp_ldc_w, wp_lconst, wp_iadd, wp_isub, wp_imul, wp_iand, wp_ior, wp_ixor, wp_ishl, wp_ishr, wp_iushr, wp_idiv, wp_irem, wp_ineg, wp_i2b, wp_i2s, wp_i2c, wp_i2l, wp_ladd, wp_lmul, wp_lcmp, wp_dup_i, wp_dup_r, wp_dup2, wp_pop, wp_getfield, wp_putfield, wp_getstatic, wp_iaload, wp_baload, wp_aaload, wp_iastore, wp_arraylength, wp_goto, wp_fall, wp_ieq, wp_ine, wp_ilt, wp_ige, wp_igt, wp_ile, wp_ceq, wp_cne, wp_clt, wp_cge, wp_cgt, wp_cle, wp_sw, wp_ret0, wp_ret1z, wp_ret1o, wp_ret1, wp_ret2, wp_ret3, wp_ret4, wp_ret5, wp_return, wp_min, wp_max, wp_abs, am_ex, gset_eq, gset_ne, upd_eq, upd_ne, gset_gset, am_ci_1, am_ci_6, am_toList_some, am_toList_none, true_implies, false_implies, and_self, and_true, true_and, not_true_eq_false, not_false_eq_true, imp_self, implies_true, Classical.not_not, if_true, if_false, false_and, and_false, or_false, false_or, true_or, or_true, Nat.reduceAdd, Nat.reduceMul, Nat.reduceSub, Nat.reduceLT, Nat.reduceLeDiff, Nat.reduceEqDiff, Nat.reduceBneDiff, Nat.add_zero, Nat.zero_add, reduceCtorEq, wil0, wal0, wis0, wic0, wil1, wal1, wis1, wic1, wil2, wll2, wal2, wis2, was2, wls2, wic2, wil3, wis3, wic3, wic3m, wic3s, wil4, wis4, wic4, wil5, wis5, wic5, wic5m, wil6, wll6, wal6, wis6, was6, wls6, wic6, wil7, wal7, wis7, was7, wic7, wil8, wis8, wic8, wil9, wis9, wic9, wil10, wis10, wic10, am_nI_inj, am_nI_lt, am_nI_le, nI_add, pk_mul, am_nI_sub, am_add_m1, am_gfs, am_pfs, am_alds, am_asts, am_lens, tgf0, tgf1, tgf2, tgf3, tgf4, tgf5, tgf6, tgf7, tgf8, tgf9, tgf10, tgf11, tgf12, tpf7, tpf8, tpf9, tal0, tas0, tln0, tal1, tas1, tln1, tal2, tas2, tln2, tal3, tas3, tln3, tal4, tas4, tln4, tal5, tas5, tln5, tal6, tas6, tln6, tal7, tas7, tln7, tal8, tas8, tln8, tal9, tas9, tln9, bk116_49, am_B116_13, am_B116_49, g0, Nat.le_refl, hD, g1]
      rw [← hQ]
      exact ⟨rfl, hr2.1, fun o ho => (hf2 o ho).trans (hf o ho)⟩
    | succ d ih =>
      intro j hj G' hr hf
      have hjn : j < S.1.1 := by omega
      have hj8 : j < 8 := by omega
      have g0 : G' 23 7 = nI S.1.1 := hr.2.1.1
      have q1 : (S.1.1 ≤ j) = False := eq_false (by omega)
      have hbit := bit_of m hm j hj8
      rw [bh116_13]
      by_cases hb : Nat.testBit m j = true
      · rw [if_pos hb] at hbit
        have hT : TE (gset G' 26 (upd (G' 26) j (nI p))) 23 S.1.1 (updT (telT S.1.2.1 m p j) 2 j p) S.1.2.2.1 S.1.2.2.2 := by
          have := TE_set (i := j) (k := 1) (x := p) hr.2.1 (by omega)
          rw [show eK 1 p = nI p from eP_lt (by omega)] at this
          exact this
        have ih := ih (j + 1) (by omega) (gset G' 26 (upd (G' 26) j (nI p))) ⟨CSt_congr hr.1 (fun o ho => gset_ne (by unfold cdep at ho; omega)), by rw [telT_s hb]; exact hT, by rw [telT_s hb]; exact TV_set (k := 1) hr.2.2.1 hjn (fun e => by omega) (fun _ => by omega) (fun e => by omega) (fun e => by omega) (fun e => by omega) (by omega), hr.2.2.2⟩ (fun o ho => by rw [gset_ne (by omega)]; exact hf o ho)
        simp (config := { maxSteps := 1000000 }) (disch := first | exact am_nl_i | exact am_nl_r | exact am_nl_n | exact am_l0 | exact am_l1 | exact am_l2 | exact am_l3 | assumption | omega) only [wp_ldc, wp_sipush, wp_ldc_w, wp_lconst, wp_iadd, wp_isub, wp_imul, wp_iand, wp_ior, wp_ixor, wp_ishl, wp_ishr, wp_iushr, wp_idiv, wp_irem, wp_ineg, wp_i2b, wp_i2s, wp_i2c, wp_i2l, wp_ladd, wp_lmul, wp_lcmp, wp_dup_i, wp_dup_r, wp_dup2, wp_pop, wp_getfield, wp_putfield, wp_getstatic, wp_iaload, wp_baload, wp_aaload, wp_iastore, wp_arraylength, wp_goto, wp_fall, wp_ieq, wp_ine, wp_ilt, wp_ige, wp_igt, wp_ile, wp_ceq, wp_cne, wp_clt, wp_cge, wp_cgt, wp_cle, wp_sw, wp_ret0, wp_ret1z, wp_ret1o, wp_ret1, wp_ret2, wp_ret3, wp_ret4, wp_ret5, wp_return, wp_min, wp_max, wp_abs, am_ex, gset_eq, gset_ne, upd_eq, upd_ne, gset_gset, am_ci_1, am_ci_6, am_toList_some, am_toList_none, true_implies, false_implies, and_self, and_true, true_and, not_true_eq_false, not_false_eq_true, imp_self, implies_true, Classical.not_not, if_true, if_false, false_and, and_false, or_false, false_or, true_or, or_true, Nat.reduceAdd, Nat.reduceMul, Nat.reduceSub, Nat.reduceLT, Nat.reduceLeDiff, Nat.reduceEqDiff, Nat.reduceBneDiff, Nat.add_zero, Nat.zero_add, reduceCtorEq, wil0, wal0, wis0, wic0, wil1, wal1, wis1, wic1, wil2, wll2, wal2, wis2, was2, wls2, wic2, wil3, wis3, wic3, wic3m, wic3s, wil4, wis4, wic4, wil5, wis5, wic5, wic5m, wil6, wll6, wal6, wis6, was6, wls6, wic6, wil7, wal7, wis7, was7, wic7, wil8, wis8, wic8, wil9, wis9, wic9, wil10, wis10, wic10, am_nI_inj, am_nI_lt, am_nI_le, nI_add, pk_mul, am_nI_sub, am_add_m1, am_gfs, am_pfs, am_alds, am_asts, am_lens, tgf0, tgf1, tgf2, tgf3, tgf4, tgf5, tgf6, tgf7, tgf8, tgf9, tgf10, tgf11, tgf12, tpf7, tpf8, tpf9, tal0, tas0, tln0, tal1, tas1, tln1, tal2, tas2, tln2, tal3, tas3, tln3, tal4, tas4, tln4, tal5, tas5, tln5, tal6, tas6, tln6, tal7, tas7, tln7, tal8, tas8, tln8, tal9, tas9, tln9, bk116_43, am_B116_13, am_B116_43, bn116_13, g0, q1, hbit]
        exact ih
      · rw [if_neg hb] at hbit
        rw [Bool.not_eq_true] at hb
        have e3 : (nI 0 = nI 1) = False := eq_false (by decide)
        have ih := ih (j + 1) (by omega) G' (by rw [telT_n hb]; exact hr) hf
        simp (config := { maxSteps := 1000000 }) (disch := first | exact am_nl_i | exact am_nl_r | exact am_nl_n | exact am_l0 | exact am_l1 | exact am_l2 | exact am_l3 | assumption | omega) only [wp_ldc, wp_sipush, wp_ldc_w, wp_lconst, wp_iadd, wp_isub, wp_imul, wp_iand, wp_ior, wp_ixor, wp_ishl, wp_ishr, wp_iushr, wp_idiv, wp_irem, wp_ineg, wp_i2b, wp_i2s, wp_i2c, wp_i2l, wp_ladd, wp_lmul, wp_lcmp, wp_dup_i, wp_dup_r, wp_dup2, wp_pop, wp_getfield, wp_putfield, wp_getstatic, wp_iaload, wp_baload, wp_aaload, wp_iastore, wp_arraylength, wp_goto, wp_fall, wp_ieq, wp_ine, wp_ilt, wp_ige, wp_igt, wp_ile, wp_ceq, wp_cne, wp_clt, wp_cge, wp_cgt, wp_cle, wp_sw, wp_ret0, wp_ret1z, wp_ret1o, wp_ret1, wp_ret2, wp_ret3, wp_ret4, wp_ret5, wp_return, wp_min, wp_max, wp_abs, am_ex, gset_eq, gset_ne, upd_eq, upd_ne, gset_gset, am_ci_1, am_ci_6, am_toList_some, am_toList_none, true_implies, false_implies, and_self, and_true, true_and, not_true_eq_false, not_false_eq_true, imp_self, implies_true, Classical.not_not, if_true, if_false, false_and, and_false, or_false, false_or, true_or, or_true, Nat.reduceAdd, Nat.reduceMul, Nat.reduceSub, Nat.reduceLT, Nat.reduceLeDiff, Nat.reduceEqDiff, Nat.reduceBneDiff, Nat.add_zero, Nat.zero_add, reduceCtorEq, wil0, wal0, wis0, wic0, wil1, wal1, wis1, wic1, wil2, wll2, wal2, wis2, was2, wls2, wic2, wil3, wis3, wic3, wic3m, wic3s, wil4, wis4, wic4, wil5, wis5, wic5, wic5m, wil6, wll6, wal6, wis6, was6, wls6, wic6, wil7, wal7, wis7, was7, wic7, wil8, wis8, wic8, wil9, wis9, wic9, wil10, wis10, wic10, am_nI_inj, am_nI_lt, am_nI_le, nI_add, pk_mul, am_nI_sub, am_add_m1, am_gfs, am_pfs, am_alds, am_asts, am_lens, tgf0, tgf1, tgf2, tgf3, tgf4, tgf5, tgf6, tgf7, tgf8, tgf9, tgf10, tgf11, tgf12, tpf7, tpf8, tpf9, tal0, tas0, tln0, tal1, tas1, tln1, tal2, tas2, tln2, tal3, tas3, tln3, tal4, tas4, tln4, tal5, tas5, tln5, tal6, tas6, tln6, tal7, tas7, tln7, tal8, tas8, tln8, tal9, tas9, tln9, bk116_43, am_B116_13, am_B116_43, bn116_13, g0, q1, hbit, e3]
        exact ih
  have key := key S.1.1 0 (by omega) G1 (by rw [telT_0]; exact hc1) hf1
  simp (config := { maxSteps := 1000000 }) (disch := first | exact am_nl_i | exact am_nl_r | exact am_nl_n | exact am_l0 | exact am_l1 | exact am_l2 | exact am_l3 | assumption | omega) only [wp_ldc, wp_sipush, wp_ldc_w, wp_lconst, wp_iadd, wp_isub, wp_imul, wp_iand, wp_ior, wp_ixor, wp_ishl, wp_ishr, wp_iushr, wp_idiv, wp_irem, wp_ineg, wp_i2b, wp_i2s, wp_i2c, wp_i2l, wp_ladd, wp_lmul, wp_lcmp, wp_dup_i, wp_dup_r, wp_dup2, wp_pop, wp_getfield, wp_putfield, wp_getstatic, wp_iaload, wp_baload, wp_aaload, wp_iastore, wp_arraylength, wp_goto, wp_fall, wp_ieq, wp_ine, wp_ilt, wp_ige, wp_igt, wp_ile, wp_ceq, wp_cne, wp_clt, wp_cge, wp_cgt, wp_cle, wp_sw, wp_ret0, wp_ret1z, wp_ret1o, wp_ret1, wp_ret2, wp_ret3, wp_ret4, wp_ret5, wp_return, wp_min, wp_max, wp_abs, am_ex, gset_eq, gset_ne, upd_eq, upd_ne, gset_gset, am_ci_1, am_ci_6, am_toList_some, am_toList_none, true_implies, false_implies, and_self, and_true, true_and, not_true_eq_false, not_false_eq_true, imp_self, implies_true, Classical.not_not, if_true, if_false, false_and, and_false, or_false, false_or, true_or, or_true, Nat.reduceAdd, Nat.reduceMul, Nat.reduceSub, Nat.reduceLT, Nat.reduceLeDiff, Nat.reduceEqDiff, Nat.reduceBneDiff, Nat.add_zero, Nat.zero_add, reduceCtorEq, wil0, wal0, wis0, wic0, wil1, wal1, wis1, wic1, wil2, wll2, wal2, wis2, was2, wls2, wic2, wil3, wis3, wic3, wic3m, wic3s, wil4, wis4, wic4, wil5, wis5, wic5, wic5m, wil6, wll6, wal6, wis6, was6, wls6, wic6, wil7, wal7, wis7, was7, wic7, wil8, wis8, wic8, wil9, wis9, wic9, wil10, wis10, wic10, am_nI_inj, am_nI_lt, am_nI_le, nI_add, pk_mul, am_nI_sub, am_add_m1, am_gfs, am_pfs, am_alds, am_asts, am_lens, tgf0, tgf1, tgf2, tgf3, tgf4, tgf5, tgf6, tgf7, tgf8, tgf9, tgf10, tgf11, tgf12, tpf7, tpf8, tpf9, tal0, tas0, tln0, tal1, tas1, tln1, tal2, tas2, tln2, tal3, tas3, tln3, tal4, tas4, tln4, tal5, tas5, tln5, tal6, tas6, tln6, tal7, tas7, tln7, tal8, tas8, tln8, tal9, tas9, tln9, bk116_0, am_B116_0, bn116_13, hC]
  exact key
