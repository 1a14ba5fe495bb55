/-! ===== the class: settling the town; place, person ===== -/
theorem CS_settle {X : AmX} {S : SS} {G : GG} (h : CSt S G) : ∃ G1, (∀ (k : Nat) (r : List Instr) (lv : LV) (st : List Value) (Q : Option Value → GG → Prop), st.length ≤ 4 → (WP X k (.invokeinterface 20 1 :: r) lv (.ref 1 :: st) G Q ↔ WP X k r lv st G1 Q)) ∧ CSt S G1 ∧ SE G1 1 S.1.1 S.1.2.1 ∧ ∀ o, 58 ≤ o → G1 o = G o := by
  obtain ⟨G1, hev, hE, hS, hf⟩ := X3_settle (X := X) 1 S.1.1 S.1.2.1 S.1.2.2.1 S.1.2.2.2 tb1 h.1 h.2.1.1
  refine ⟨G1, fun k r lv st Q hl => ?_, CSt_congr h (fun o ho => hf o (by unfold cdep at ho; omega)), hS, fun o ho => hf o (by omega)⟩
  exact WP_ev (st := .ref 1 :: st) (rest := st) hev (by decide) (c := 1) rfl rfl hl rfl
def sp_place (S : SS) (a1 a2 : Int32) : Int32 × SS :=
  if inR a1 (nI 0) (nI 7) = true ∧ inR a2 (nI 0) (nI 2) = true then ((if aN a2 = 0 then nI (S.1.2.1 0 (aN a1)) else if aN a2 = 1 then nI (setN (fun i => decide (S.1.2.1 2 i = aN a1)) S.1.1) else nI (setN (fun i => decide (chN S.1.2.1 S.1.1 i = aN a1)) S.1.1)), S) else sFnd S 0
theorem CT_place {X : AmX} {S : SS} {G : GG} (h : CSt S G) (a1 a2 : Int32) : CW X 19 [.ref 0, .int a1, .int a2] G (sp_place S a1 a2) := by
  unfold CW sp_place
  have hb := tb1
  have e2 : (nI 1 = nI 0) = False := eq_false (by decide)
  show WP X 19 (am_blk 19 0) [some (.ref 0), some (.int a1), some (.int a2)] [] G _
  by_cases h1 : inR a1 (nI 0) (nI 7) = true
  · by_cases h2 : inR a2 (nI 0) (nI 2) = true
    · rw [if_pos ⟨h1, h2⟩]
      obtain ⟨e3, hl1⟩ := inR_n (by omega) h1
      obtain ⟨e4, hl2⟩ := inR_n (by omega) h2
      have h1' := h1
      have h2' := h2
      rw [e3] at h1' ⊢
      rw [e4] at h2' ⊢
      obtain ⟨G1, hC, hc1, hs1, hf1⟩ := CS_settle (X := X) h
      have f1 := h.1.2.2.2.1 (aN a1) (by omega)
      have hP := fun (k : Nat) (r : List Instr) (lv : LV) (st : List Value) (Q : Option Value → GG → Prop) (hl : st.length ≤ 4) => C_X3_plannersOf (X := X) (k := k) (st := st) (r := r) (lv := lv) (Q := Q) (p := aN a1) tb1 hc1.1 hc1.2.1.1 (by omega) hl
      have hQ := fun (k : Nat) (r : List Instr) (lv : LV) (st : List Value) (Q : Option Value → GG → Prop) (hl : st.length ≤ 4) => C_X3_choosersOf (X := X) (k := k) (st := st) (r := r) (lv := lv) (Q := Q) (p := aN a1) tb1 hc1.1 hc1.2.1.1 hs1 (by omega) hl
      rw [aN_nI (by omega), aN_nI (by omega)]
      generalize aN a1 = p at *
      generalize aN a2 = x at *
      by_cases x0 : x = 0
      · subst x0
        rw [if_pos rfl]
        simp (config := { maxSteps := 1000000 }) (disch := first | exact am_nl_i | exact am_nl_r | exact am_nl_n | exact am_l0 | exact am_l1 | exact am_l2 | exact am_l3 | assumption | omega) only [wp_ldc, wp_sipush, wp_ldc_w, wp_lconst, wp_iadd, wp_isub, wp_imul, wp_iand, wp_ior, wp_ixor, wp_ishl, wp_ishr, wp_iushr, wp_idiv, wp_irem, wp_ineg, wp_i2b, wp_i2s, wp_i2c, wp_i2l, wp_ladd, wp_lmul, wp_lcmp, wp_dup_i, wp_dup_r, wp_dup2, wp_pop, wp_getfield, wp_putfield, wp_getstatic, wp_iaload, wp_baload, wp_aaload, wp_iastore, wp_arraylength, wp_goto, wp_fall, wp_ieq, wp_ine, wp_ilt, wp_ige, wp_igt, wp_ile, wp_ceq, wp_cne, wp_clt, wp_cge, wp_cgt, wp_cle, wp_sw, wp_ret0, wp_ret1z, wp_ret1o, wp_ret1, wp_ret2, wp_ret3, wp_ret4, wp_ret5, wp_return, wp_min, wp_max, wp_abs, am_ex, gset_eq, gset_ne, upd_eq, upd_ne, gset_gset, am_ci_1, am_ci_6, am_toList_some, am_toList_none, true_implies, false_implies, and_self, and_true, true_and, not_true_eq_false, not_false_eq_true, imp_self, implies_true, Classical.not_not, if_true, if_false, false_and, and_false, or_false, false_or, true_or, or_true, Nat.reduceAdd, Nat.reduceMul, Nat.reduceSub, Nat.reduceLT, Nat.reduceLeDiff, Nat.reduceEqDiff, Nat.reduceBneDiff, Nat.add_zero, Nat.zero_add, reduceCtorEq, wil0, wal0, wis0, wic0, wil1, wal1, wis1, wic1, wil2, wll2, wal2, wis2, was2, wls2, wic2, wil3, wis3, wic3, wic3m, wic3s, wil4, wis4, wic4, wil5, wis5, wic5, wic5m, wil6, wll6, wal6, wis6, was6, wls6, wic6, wil7, wal7, wis7, was7, wic7, wil8, wis8, wic8, wil9, wis9, wic9, wil10, wis10, wic10, am_nI_inj, am_nI_lt, am_nI_le, nI_add, pk_mul, am_nI_sub, am_add_m1, am_gfs, am_pfs, am_alds, am_asts, am_lens, tgf0, tgf1, tgf2, tgf3, tgf4, tgf5, tgf6, tgf7, tgf8, tgf9, tgf10, tgf11, tgf12, tpf7, tpf8, tpf9, tal0, tas0, tln0, tal1, tas1, tln1, tal2, tas2, tln2, tal3, tas3, tln3, tal4, tas4, tln4, tal5, tas5, tln5, tal6, tas6, tln6, tal7, tas7, tln7, tal8, tas8, tln8, tal9, tas9, tln9, bs19, am_B19_0, am_B19_16, am_B19_23, am_B19_37, am_B19_60, am_B19_68, C_X4_isPlace, C_X4_isWithin, h1', h2', bI_t, e2, f1]
        first
          | exact ⟨rfl, h, fun _ _ => rfl⟩
          | exact ⟨h, fun _ _ => rfl⟩
          | exact h
      · rw [if_neg x0]
        have x0' := eq_false x0
        by_cases x1 : x = 1
        · subst x1
          rw [if_pos rfl]
          simp (config := { maxSteps := 1000000 }) (disch := first | exact am_nl_i | exact am_nl_r | exact am_nl_n | exact am_l0 | exact am_l1 | exact am_l2 | exact am_l3 | assumption | omega) only [wp_ldc, wp_sipush, wp_ldc_w, wp_lconst, wp_iadd, wp_isub, wp_imul, wp_iand, wp_ior, wp_ixor, wp_ishl, wp_ishr, wp_iushr, wp_idiv, wp_irem, wp_ineg, wp_i2b, wp_i2s, wp_i2c, wp_i2l, wp_ladd, wp_lmul, wp_lcmp, wp_dup_i, wp_dup_r, wp_dup2, wp_pop, wp_getfield, wp_putfield, wp_getstatic, wp_iaload, wp_baload, wp_aaload, wp_iastore, wp_arraylength, wp_goto, wp_fall, wp_ieq, wp_ine, wp_ilt, wp_ige, wp_igt, wp_ile, wp_ceq, wp_cne, wp_clt, wp_cge, wp_cgt, wp_cle, wp_sw, wp_ret0, wp_ret1z, wp_ret1o, wp_ret1, wp_ret2, wp_ret3, wp_ret4, wp_ret5, wp_return, wp_min, wp_max, wp_abs, am_ex, gset_eq, gset_ne, upd_eq, upd_ne, gset_gset, am_ci_1, am_ci_6, am_toList_some, am_toList_none, true_implies, false_implies, and_self, and_true, true_and, not_true_eq_false, not_false_eq_true, imp_self, implies_true, Classical.not_not, if_true, if_false, false_and, and_false, or_false, false_or, true_or, or_true, Nat.reduceAdd, Nat.reduceMul, Nat.reduceSub, Nat.reduceLT, Nat.reduceLeDiff, Nat.reduceEqDiff, Nat.reduceBneDiff, Nat.add_zero, Nat.zero_add, reduceCtorEq, wil0, wal0, wis0, wic0, wil1, wal1, wis1, wic1, wil2, wll2, wal2, wis2, was2, wls2, wic2, wil3, wis3, wic3, wic3m, wic3s, wil4, wis4, wic4, wil5, wis5, wic5, wic5m, wil6, wll6, wal6, wis6, was6, wls6, wic6, wil7, wal7, wis7, was7, wic7, wil8, wis8, wic8, wil9, wis9, wic9, wil10, wis10, wic10, am_nI_inj, am_nI_lt, am_nI_le, nI_add, pk_mul, am_nI_sub, am_add_m1, am_gfs, am_pfs, am_alds, am_asts, am_lens, tgf0, tgf1, tgf2, tgf3, tgf4, tgf5, tgf6, tgf7, tgf8, tgf9, tgf10, tgf11, tgf12, tpf7, tpf8, tpf9, tal0, tas0, tln0, tal1, tas1, tln1, tal2, tas2, tln2, tal3, tas3, tln3, tal4, tas4, tln4, tal5, tas5, tln5, tal6, tas6, tln6, tal7, tas7, tln7, tal8, tas8, tln8, tal9, tas9, tln9, bs19, am_B19_0, am_B19_16, am_B19_23, am_B19_37, am_B19_60, am_B19_68, C_X4_isPlace, C_X4_isWithin, h1', h2', bI_t, e2, hC, hP]
          first | exact ⟨rfl, hc1, hf1⟩ | exact ⟨hc1, hf1⟩
        · rw [if_neg x1]
          have x1' := eq_false x1
          simp (config := { maxSteps := 1000000 }) (disch := first | exact am_nl_i | exact am_nl_r | exact am_nl_n | exact am_l0 | exact am_l1 | exact am_l2 | exact am_l3 | assumption | omega) only [wp_ldc, wp_sipush, wp_ldc_w, wp_lconst, wp_iadd, wp_isub, wp_imul, wp_iand, wp_ior, wp_ixor, wp_ishl, wp_ishr, wp_iushr, wp_idiv, wp_irem, wp_ineg, wp_i2b, wp_i2s, wp_i2c, wp_i2l, wp_ladd, wp_lmul, wp_lcmp, wp_dup_i, wp_dup_r, wp_dup2, wp_pop, wp_getfield, wp_putfield, wp_getstatic, wp_iaload, wp_baload, wp_aaload, wp_iastore, wp_arraylength, wp_goto, wp_fall, wp_ieq, wp_ine, wp_ilt, wp_ige, wp_igt, wp_ile, wp_ceq, wp_cne, wp_clt, wp_cge, wp_cgt, wp_cle, wp_sw, wp_ret0, wp_ret1z, wp_ret1o, wp_ret1, wp_ret2, wp_ret3, wp_ret4, wp_ret5, wp_return, wp_min, wp_max, wp_abs, am_ex, gset_eq, gset_ne, upd_eq, upd_ne, gset_gset, am_ci_1, am_ci_6, am_toList_some, am_toList_none, true_implies, false_implies, and_self, and_true, true_and, not_true_eq_false, not_false_eq_true, imp_self, implies_true, Classical.not_not, if_true, if_false, false_and, and_false, or_false, false_or, true_or, or_true, Nat.reduceAdd, Nat.reduceMul, Nat.reduceSub, Nat.reduceLT, Nat.reduceLeDiff, Nat.reduceEqDiff, Nat.reduceBneDiff, Nat.add_zero, Nat.zero_add, reduceCtorEq, wil0, wal0, wis0, wic0, wil1, wal1, wis1, wic1, wil2, wll2, wal2, wis2, was2, wls2, wic2, wil3, wis3, wic3, wic3m, wic3s, wil4, wis4, wic4, wil5, wis5, wic5, wic5m, wil6, wll6, wal6, wis6, was6, wls6, wic6, wil7, wal7, wis7, was7, wic7, wil8, wis8, wic8, wil9, wis9, wic9, wil10, wis10, wic10, am_nI_inj, am_nI_lt, am_nI_le, nI_add, pk_mul, am_nI_sub, am_add_m1, am_gfs, am_pfs, am_alds, am_asts, am_lens, tgf0, tgf1, tgf2, tgf3, tgf4, tgf5, tgf6, tgf7, tgf8, tgf9, tgf10, tgf11, tgf12, tpf7, tpf8, tpf9, tal0, tas0, tln0, tal1, tas1, tln1, tal2, tas2, tln2, tal3, tas3, tln3, tal4, tas4, tln4, tal5, tas5, tln5, tal6, tas6, tln6, tal7, tas7, tln7, tal8, tas8, tln8, tal9, tas9, tln9, bs19, am_B19_0, am_B19_16, am_B19_23, am_B19_37, am_B19_60, am_B19_68, C_X4_isPlace, C_X4_isWithin, h1', h2', bI_t, e2, x0', x1', hC, hQ]
          first | exact ⟨rfl, hc1, hf1⟩ | exact ⟨hc1, hf1⟩
    · rw [if_neg (fun z => h2 z.2)]
      rw [Bool.not_eq_true] at h2
      simp (config := { maxSteps := 1000000 }) (disch := first | exact am_nl_i | exact am_nl_r | exact am_nl_n | exact am_l0 | exact am_l1 | exact am_l2 | exact am_l3 | assumption | omega) only [wp_ldc, wp_sipush, wp_ldc_w, wp_lconst, wp_iadd, wp_isub, wp_imul, wp_iand, wp_ior, wp_ixor, wp_ishl, wp_ishr, wp_iushr, wp_idiv, wp_irem, wp_ineg, wp_i2b, wp_i2s, wp_i2c, wp_i2l, wp_ladd, wp_lmul, wp_lcmp, wp_dup_i, wp_dup_r, wp_dup2, wp_pop, wp_getfield, wp_putfield, wp_getstatic, wp_iaload, wp_baload, wp_aaload, wp_iastore, wp_arraylength, wp_goto, wp_fall, wp_ieq, wp_ine, wp_ilt, wp_ige, wp_igt, wp_ile, wp_ceq, wp_cne, wp_clt, wp_cge, wp_cgt, wp_cle, wp_sw, wp_ret0, wp_ret1z, wp_ret1o, wp_ret1, wp_ret2, wp_ret3, wp_ret4, wp_ret5, wp_return, wp_min, wp_max, wp_abs, am_ex, gset_eq, gset_ne, upd_eq, upd_ne, gset_gset, am_ci_1, am_ci_6, am_toList_some, am_toList_none, true_implies, false_implies, and_self, and_true, true_and, not_true_eq_false, not_false_eq_true, imp_self, implies_true, Classical.not_not, if_true, if_false, false_and, and_false, or_false, false_or, true_or, or_true, Nat.reduceAdd, Nat.reduceMul, Nat.reduceSub, Nat.reduceLT, Nat.reduceLeDiff, Nat.reduceEqDiff, Nat.reduceBneDiff, Nat.add_zero, Nat.zero_add, reduceCtorEq, wil0, wal0, wis0, wic0, wil1, wal1, wis1, wic1, wil2, wll2, wal2, wis2, was2, wls2, wic2, wil3, wis3, wic3, wic3m, wic3s, wil4, wis4, wic4, wil5, wis5, wic5, wic5m, wil6, wll6, wal6, wis6, was6, wls6, wic6, wil7, wal7, wis7, was7, wic7, wil8, wis8, wic8, wil9, wis9, wic9, wil10, wis10, wic10, am_nI_inj, am_nI_lt, am_nI_le, nI_add, pk_mul, am_nI_sub, am_add_m1, am_gfs, am_pfs, am_alds, am_asts, am_lens, tgf0, tgf1, tgf2, tgf3, tgf4, tgf5, tgf6, tgf7, tgf8, tgf9, tgf10, tgf11, tgf12, tpf7, tpf8, tpf9, tal0, tas0, tln0, tal1, tas1, tln1, tal2, tas2, tln2, tal3, tas3, tln3, tal4, tas4, tln4, tal5, tas5, tln5, tal6, tas6, tln6, tal7, tas7, tln7, tal8, tas8, tln8, tal9, tas9, tln9, bs19, am_B19_0, am_B19_16, am_B19_23, am_B19_37, am_B19_60, am_B19_68, C_X4_isPlace, C_X4_isWithin, h1, h2, bI_t, bI_f, e2, fcs, C_X4_found]
      first | exact ⟨rfl, CSt_fnd h (by omega), fnd_frame⟩ | exact ⟨CSt_fnd h (by omega), fnd_frame⟩
  · rw [if_neg (fun z => h1 z.1)]
    rw [Bool.not_eq_true] at h1
    simp (config := { maxSteps := 1000000 }) (disch := first | exact am_nl_i | exact am_nl_r | exact am_nl_n | exact am_l0 | exact am_l1 | exact am_l2 | exact am_l3 | assumption | omega) only [wp_ldc, wp_sipush, wp_ldc_w, wp_lconst, wp_iadd, wp_isub, wp_imul, wp_iand, wp_ior, wp_ixor, wp_ishl, wp_ishr, wp_iushr, wp_idiv, wp_irem, wp_ineg, wp_i2b, wp_i2s, wp_i2c, wp_i2l, wp_ladd, wp_lmul, wp_lcmp, wp_dup_i, wp_dup_r, wp_dup2, wp_pop, wp_getfield, wp_putfield, wp_getstatic, wp_iaload, wp_baload, wp_aaload, wp_iastore, wp_arraylength, wp_goto, wp_fall, wp_ieq, wp_ine, wp_ilt, wp_ige, wp_igt, wp_ile, wp_ceq, wp_cne, wp_clt, wp_cge, wp_cgt, wp_cle, wp_sw, wp_ret0, wp_ret1z, wp_ret1o, wp_ret1, wp_ret2, wp_ret3, wp_ret4, wp_ret5, wp_return, wp_min, wp_max, wp_abs, am_ex, gset_eq, gset_ne, upd_eq, upd_ne, gset_gset, am_ci_1, am_ci_6, am_toList_some, am_toList_none, true_implies, false_implies, and_self, and_true, true_and, not_true_eq_false, not_false_eq_true, imp_self, implies_true, Classical.not_not, if_true, if_false, false_and, and_false, or_false, false_or, true_or, or_true, Nat.reduceAdd, Nat.reduceMul, Nat.reduceSub, Nat.reduceLT, Nat.reduceLeDiff, Nat.reduceEqDiff, Nat.reduceBneDiff, Nat.add_zero, Nat.zero_add, reduceCtorEq, wil0, wal0, wis0, wic0, wil1, wal1, wis1, wic1, wil2, wll2, wal2, wis2, was2, wls2, wic2, wil3, wis3, wic3, wic3m, wic3s, wil4, wis4, wic4, wil5, wis5, wic5, wic5m, wil6, wll6, wal6, wis6, was6, wls6, wic6, wil7, wal7, wis7, was7, wic7, wil8, wis8, wic8, wil9, wis9, wic9, wil10, wis10, wic10, am_nI_inj, am_nI_lt, am_nI_le, nI_add, pk_mul, am_nI_sub, am_add_m1, am_gfs, am_pfs, am_alds, am_asts, am_lens, tgf0, tgf1, tgf2, tgf3, tgf4, tgf5, tgf6, tgf7, tgf8, tgf9, tgf10, tgf11, tgf12, tpf7, tpf8, tpf9, tal0, tas0, tln0, tal1, tas1, tln1, tal2, tas2, tln2, tal3, tas3, tln3, tal4, tas4, tln4, tal5, tas5, tln5, tal6, tas6, tln6, tal7, tas7, tln7, tal8, tas8, tln8, tal9, tas9, tln9, bs19, am_B19_0, am_B19_16, am_B19_23, am_B19_37, am_B19_60, am_B19_68, C_X4_isPlace, C_X4_isWithin, h1, bI_t, bI_f, e2, fcs, C_X4_found]
    first | exact ⟨rfl, CSt_fnd h (by omega), fnd_frame⟩ | exact ⟨CSt_fnd h (by omega), fnd_frame⟩
/-- a new one -/
def addT (T : TT) (n kk q : Nat) : TT := fun c i => if i = n ∧ c = 1 then kk else if i = n ∧ c = 2 then q else if i = n ∧ c = 3 then 1 else if i = n ∧ c = 4 then 8 else if i = n ∧ c = 5 then 0 else T c i
theorem X3_addOne {X : AmX} {G : GG} (b n kk q : Nat) (T : TT) (t : Nat) (z : Int32) (hb : TB b) (hE : TE G b n T t z) (hn : n < 8) (hq : q < 8) : ∃ G1, Ev X 39 [.ref b, .int (nI kk), .int (nI q)] G (some (.int (nI n))) G1 ∧ TE G1 b (n + 1) (addT T n kk q) t z ∧ ∀ o, ¬ (b ≤ o ∧ o ≤ b + 10) → G1 o = G o := by
  suffices h : WPm X 39 [.ref b, .int (nI kk), .int (nI q)] G (fun v G1 => v = some (.int (nI n)) ∧ TE G1 b (n + 1) (addT T n kk q) t z ∧ ∀ o, ¬ (b ≤ o ∧ o ≤ b + 10) → G1 o = G o) by
    obtain ⟨v, G1, h1, rfl, h2⟩ := WPm_ev h
    exact ⟨G1, h1, h2⟩
  have hb5 : b < 500 := hb.lt
  obtain ⟨a0, a1, a2, a3, a4, a5, a6, a7, a8, a9⟩ := hE
  show WP X 39 (am_blk 39 0) [some (.ref b), some (.int (nI kk)), some (.int (nI q)), none] [] G _
  generalize hQ : (fun (v : Option Value) (G1 : GG) => v = some (.int (nI n)) ∧ TE G1 b (n + 1) (addT T n kk q) t z ∧ ∀ o, ¬ (b ≤ o ∧ o ≤ b + 10) → G1 o = G o) = Q
  have hc : (n < 8) = True := eq_true hn
  simp (config := { maxSteps := 1000000 }) (disch := first | exact am_nl_i | exact am_nl_r | exact am_nl_n | exact am_l0 | exact am_l1 | exact am_l2 | exact am_l3 | assumption | omega) only [wp_ldc, wp_sipush, wp_ldc_w, wp_lconst, wp_iadd, wp_isub, wp_imul, wp_iand, wp_ior, wp_ixor, wp_ishl, wp_ishr, wp_iushr, wp_idiv, wp_irem, wp_ineg, wp_i2b, wp_i2s, wp_i2c, wp_i2l, wp_ladd, wp_lmul, wp_lcmp, wp_dup_i, wp_dup_r, wp_dup2, wp_pop, wp_getfield, wp_putfield, wp_getstatic, wp_iaload, wp_baload, wp_aaload, wp_iastore, wp_arraylength, wp_goto, wp_fall, wp_ieq, wp_ine, wp_ilt, wp_ige, wp_igt, wp_ile, wp_ceq, wp_cne, wp_clt, wp_cge, wp_cgt, wp_cle, wp_sw, wp_ret0, wp_ret1z, wp_ret1o, wp_ret1, wp_ret2, wp_ret3, wp_ret4, wp_ret5, wp_return, wp_min, wp_max, wp_abs, am_ex, gset_eq, gset_ne, upd_eq, upd_ne, gset_gset, am_ci_1, am_ci_6, am_toList_some, am_toList_none, true_implies, false_implies, and_self, and_true, true_and, not_true_eq_false, not_false_eq_true, imp_self, implies_true, Classical.not_not, if_true, if_false, false_and, and_false, or_false, false_or, true_or, or_true, Nat.reduceAdd, Nat.reduceMul, Nat.reduceSub, Nat.reduceLT, Nat.reduceLeDiff, Nat.reduceEqDiff, Nat.reduceBneDiff, Nat.add_zero, Nat.zero_add, reduceCtorEq, wil0, wal0, wis0, wic0, wil1, wal1, wis1, wic1, wil2, wll2, wal2, wis2, was2, wls2, wic2, wil3, wis3, wic3, wic3m, wic3s, wil4, wis4, wic4, wil5, wis5, wic5, wic5m, wil6, wll6, wal6, wis6, was6, wls6, wic6, wil7, wal7, wis7, was7, wic7, wil8, wis8, wic8, wil9, wis9, wic9, wil10, wis10, wic10, am_nI_inj, am_nI_lt, am_nI_le, nI_add, pk_mul, am_nI_sub, am_add_m1, am_gfs, am_pfs, am_alds, am_asts, am_lens, tgf0, tgf1, tgf2, tgf3, tgf4, tgf5, tgf6, tgf7, tgf8, tgf9, tgf10, tgf11, tgf12, tpf7, tpf8, tpf9, tal0, tas0, tln0, tal1, tas1, tln1, tal2, tas2, tln2, tal3, tas3, tln3, tal4, tas4, tln4, tal5, tas5, tln5, tal6, tas6, tln6, tal7, tas7, tln7, tal8, tas8, tln8, tal9, tas9, tln9, bs39, am_B39_0, am_B39_13, a0, hc, fcs]
  rw [← hQ]
  have hT : ∀ c i, ¬ i = n → addT T n kk q c i = T c i := fun c i hi => by unfold addT; simp [hi]
  refine ⟨rfl, ⟨?_, ?_, ?_, fun p hp => ?_, fun j hj => ?_, fun j hj => ?_, fun j hj => ?_, fun j hj => ?_, fun j hj => ?_, fun s hs => ?_⟩, fun o ho => ?_⟩
  · simp (disch := omega) only [gset_eq, gset_ne, upd_eq, upd_ne]
  · simp (disch := omega) only [gset_eq, gset_ne, upd_eq, upd_ne]; exact a1
  · simp (disch := omega) only [gset_eq, gset_ne, upd_eq, upd_ne]; exact a2
  · simp (disch := omega) only [gset_eq, gset_ne, upd_eq, upd_ne]
    rw [a3 p hp]; unfold addT; simp
  · simp (disch := omega) only [gset_eq, gset_ne]
    by_cases e : j = n
    · subst e; rw [upd_eq]; unfold addT; simp
    · rw [upd_ne e, hT 1 j e]; exact a4 j (by omega)
  · simp (disch := omega) only [gset_eq, gset_ne]
    by_cases e : j = n
    · subst e; rw [upd_eq]; unfold addT; simp; rw [eP_lt (by omega)]
    · rw [upd_ne e, hT 2 j e]; exact a5 j (by omega)
  · simp (disch := omega) only [gset_eq, gset_ne]
    by_cases e : j = n
    · subst e; rw [upd_eq]; unfold addT; simp
    · rw [upd_ne e, hT 3 j e]; exact a6 j (by omega)
  · simp (disch := omega) only [gset_eq, gset_ne]
    by_cases e : j = n
    · subst e; rw [upd_eq]; unfold addT; simp [eP_8]
    · rw [upd_ne e, hT 4 j e]; exact a7 j (by omega)
  · simp (disch := omega) only [gset_eq, gset_ne]
    by_cases e : j = n
    · subst e; rw [upd_eq]; unfold addT; simp
    · rw [upd_ne e, hT 5 j e]; exact a8 j (by omega)
  · simp (disch := omega) only [gset_eq, gset_ne]
    rw [a9 s hs]; unfold addT; simp
  · simp (disch := omega) only [gset_eq, gset_ne]
theorem E_X3_addOneF {X : AmX} {G : GG} (b : Nat) (u v : Int32) (hb : TB b) (hn : G b 7 = nI 8) : Ev X 39 [.ref b, .int u, .int v] G (some (.int nM)) (G) := by
  have hb5 : b < 500 := hb.lt
  refine Ev_of ?_
  show WP X 39 (am_blk 39 0) [some (.ref b), some (.int u), some (.int v), none] [] G _
  have hc : ((8 : Nat) < 8) = False := eq_false (by decide)
  simp (config := { maxSteps := 1000000 }) (disch := first | exact am_nl_i | exact am_nl_r | exact am_nl_n | exact am_l0 | exact am_l1 | exact am_l2 | exact am_l3 | assumption | omega) only [wp_ldc, wp_sipush, wp_ldc_w, wp_lconst, wp_iadd, wp_isub, wp_imul, wp_iand, wp_ior, wp_ixor, wp_ishl, wp_ishr, wp_iushr, wp_idiv, wp_irem, wp_ineg, wp_i2b, wp_i2s, wp_i2c, wp_i2l, wp_ladd, wp_lmul, wp_lcmp, wp_dup_i, wp_dup_r, wp_dup2, wp_pop, wp_getfield, wp_putfield, wp_getstatic, wp_iaload, wp_baload, wp_aaload, wp_iastore, wp_arraylength, wp_goto, wp_fall, wp_ieq, wp_ine, wp_ilt, wp_ige, wp_igt, wp_ile, wp_ceq, wp_cne, wp_clt, wp_cge, wp_cgt, wp_cle, wp_sw, wp_ret0, wp_ret1z, wp_ret1o, wp_ret1, wp_ret2, wp_ret3, wp_ret4, wp_ret5, wp_return, wp_min, wp_max, wp_abs, am_ex, gset_eq, gset_ne, upd_eq, upd_ne, gset_gset, am_ci_1, am_ci_6, am_toList_some, am_toList_none, true_implies, false_implies, and_self, and_true, true_and, not_true_eq_false, not_false_eq_true, imp_self, implies_true, Classical.not_not, if_true, if_false, false_and, and_false, or_false, false_or, true_or, or_true, Nat.reduceAdd, Nat.reduceMul, Nat.reduceSub, Nat.reduceLT, Nat.reduceLeDiff, Nat.reduceEqDiff, Nat.reduceBneDiff, Nat.add_zero, Nat.zero_add, reduceCtorEq, wil0, wal0, wis0, wic0, wil1, wal1, wis1, wic1, wil2, wll2, wal2, wis2, was2, wls2, wic2, wil3, wis3, wic3, wic3m, wic3s, wil4, wis4, wic4, wil5, wis5, wic5, wic5m, wil6, wll6, wal6, wis6, was6, wls6, wic6, wil7, wal7, wis7, was7, wic7, wil8, wis8, wic8, wil9, wis9, wic9, wil10, wis10, wic10, am_nI_inj, am_nI_lt, am_nI_le, nI_add, pk_mul, am_nI_sub, am_add_m1, am_gfs, am_pfs, am_alds, am_asts, am_lens, tgf0, tgf1, tgf2, tgf3, tgf4, tgf5, tgf6, tgf7, tgf8, tgf9, tgf10, tgf11, tgf12, tpf7, tpf8, tpf9, tal0, tas0, tln0, tal1, tas1, tln1, tal2, tas2, tln2, tal3, tas3, tln3, tal4, tas4, tln4, tal5, tas5, tln5, tal6, tas6, tln6, tal7, tas7, tln7, tal8, tas8, tln8, tal9, tas9, tln9, bs39, am_B39_0, am_B39_13, hn, hc, fcs]
theorem C_X3_addOneF {X : AmX} {G : GG} {k : Nat} {r : List Instr} {lv : LV} {st : List Value} {Q : Option Value → GG → Prop} {b : Nat} {u v : Int32} (hb : TB b) (hn : G b 7 = nI 8) (hl : st.length ≤ 4) : WP X k (.invokeinterface 39 3 :: r) lv ((.int v) :: (.int u) :: (.ref b) :: st) G Q ↔ WP X k r lv ((.int nM) :: st) (G) Q := WP_ev (E_X3_addOneF b u v hb hn) (by decide) rfl rfl hl (am_rcv_of rfl (tcls hb))
theorem TV_add {n kk q : Nat} {T : TT} (h : TV n T) (hn : n < 8) (hk : kk < 7) (hq : q < 8) : TV (n + 1) (addT T n kk q) := by
  obtain ⟨v1, v2, v3, v4⟩ := h
  have hT : ∀ c i, ¬ i = n → addT T n kk q c i = T c i := fun c i hi => by unfold addT; simp [hi]
  refine ⟨by omega, fun p hp => ?_, fun i hi => ?_, fun s hs => ?_⟩
  · have : addT T n kk q 0 p = T 0 p := by unfold addT; simp
    rw [this]; exact v2 p hp
  · by_cases e : i = n
    · subst e
      have h1 : addT T i kk q 1 i = kk := by unfold addT; simp
      have h2 : addT T i kk q 2 i = q := by unfold addT; simp
      have h3 : addT T i kk q 3 i = 1 := by unfold addT; simp
      have h4 : addT T i kk q 4 i = 8 := by unfold addT; simp
      have h5 : addT T i kk q 5 i = 0 := by unfold addT; simp
      rw [h1, h2, h3, h4, h5]
      omega
    · rw [hT _ _ e, hT _ _ e, hT _ _ e, hT _ _ e, hT _ _ e]
      obtain ⟨b1, b2, b3, b4, b5⟩ := v3 i (by omega)
      omega
  · have : addT T n kk q 6 s = T 6 s := by unfold addT; simp
    rw [this]; have := v4 s hs; omega
theorem TWV_add {w : TW} {kk q : Nat} (h : TWV w) (hn : w.1 < 8) (hk : kk < 7) (hq : q < 8) : TWV (w.1 + 1, addT w.2.1 w.1 kk q, w.2.2) := by
  obtain ⟨hv, hp, ht⟩ := h
  refine ⟨TV_add hv hn hk hq, fun i hi => ?_, ht⟩
  have hi : i < w.1 + 1 := hi
  show addT w.2.1 w.1 kk q 2 i < 8
  by_cases e : i = w.1
  · have h2 : addT w.2.1 w.1 kk q 2 i = q := by unfold addT; simp [e]
    rw [h2]; exact hq
  · have h2 : addT w.2.1 w.1 kk q 2 i = w.2.1 2 i := by unfold addT; simp [e]
    rw [h2]; exact hp i (by omega)
def sp_person (S : SS) (a1 a2 : Int32) : Int32 × SS :=
  if inR a1 (nI 0) (nI 6) = true ∧ inR a2 (nI 0) (nI 7) = true then (if S.1.1 < 8 then (nI S.1.1, sTown S (S.1.1 + 1, addT S.1.2.1 S.1.1 (aN a1) (aN a2), S.1.2.2)) else sFnd S 1) else sFnd S 0
theorem CT_person {X : AmX} {S : SS} {G : GG} (h : CSt S G) (a1 a2 : Int32) : CW X 37 [.ref 0, .int a1, .int a2] G (sp_person S a1 a2) := by
  have hE := h.1
  unfold TWE at hE
  unfold CW sp_person
  have hb := tb1
  have e2 : (nI 1 = nI 0) = False := eq_false (by decide)
  show WP X 37 (am_blk 37 0) [some (.ref 0), some (.int a1), some (.int a2), none] [] G _
  by_cases h1 : inR a1 (nI 0) (nI 6) = true
  · by_cases h2 : inR a2 (nI 0) (nI 7) = true
    · rw [if_pos ⟨h1, h2⟩]
      obtain ⟨e3, hl1⟩ := inR_n (by omega) h1
      obtain ⟨e4, hl2⟩ := inR_n (by omega) h2
      have h1' := h1
      have h2' := h2
      rw [e3] at h1' ⊢
      rw [e4] at h2' ⊢
      rw [aN_nI (by omega), aN_nI (by omega)]
      generalize aN a1 = p at *
      generalize aN a2 = x at *
      have hv1 := h.2.1.1.1
      by_cases hn : S.1.1 < 8
      · rw [if_pos hn]
        obtain ⟨G1, hev, hE1, hf⟩ := X3_addOne (X := X) 1 S.1.1 p x S.1.2.1 S.1.2.2.1 S.1.2.2.2 tb1 hE hn (by omega)
        have hC := fun (k : Nat) (r : List Instr) (lv : LV) (st : List Value) (Q : Option Value → GG → Prop) (hl : st.length ≤ 4) => WP_ev (k := k) (st := .int (nI x) :: .int (nI p) :: .ref 1 :: st) (rest := st) (r := r) (lv := lv) (Q := Q) hev (by decide) (c := 3) rfl rfl hl rfl
        have q1 : (nI S.1.1 = nM) = False := nM_ne (by omega)
        simp (config := { maxSteps := 1000000 }) (disch := first | exact am_nl_i | exact am_nl_r | exact am_nl_n | exact am_l0 | exact am_l1 | exact am_l2 | exact am_l3 | assumption | omega) only [wp_ldc, wp_sipush, wp_ldc_w, wp_lconst, wp_iadd, wp_isub, wp_imul, wp_iand, wp_ior, wp_ixor, wp_ishl, wp_ishr, wp_iushr, wp_idiv, wp_irem, wp_ineg, wp_i2b, wp_i2s, wp_i2c, wp_i2l, wp_ladd, wp_lmul, wp_lcmp, wp_dup_i, wp_dup_r, wp_dup2, wp_pop, wp_getfield, wp_putfield, wp_getstatic, wp_iaload, wp_baload, wp_aaload, wp_iastore, wp_arraylength, wp_goto, wp_fall, wp_ieq, wp_ine, wp_ilt, wp_ige, wp_igt, wp_ile, wp_ceq, wp_cne, wp_clt, wp_cge, wp_cgt, wp_cle, wp_sw, wp_ret0, wp_ret1z, wp_ret1o, wp_ret1, wp_ret2, wp_ret3, wp_ret4, wp_ret5, wp_return, wp_min, wp_max, wp_abs, am_ex, gset_eq, gset_ne, upd_eq, upd_ne, gset_gset, am_ci_1, am_ci_6, am_toList_some, am_toList_none, true_implies, false_implies, and_self, and_true, true_and, not_true_eq_false, not_false_eq_true, imp_self, implies_true, Classical.not_not, if_true, if_false, false_and, and_false, or_false, false_or, true_or, or_true, Nat.reduceAdd, Nat.reduceMul, Nat.reduceSub, Nat.reduceLT, Nat.reduceLeDiff, Nat.reduceEqDiff, Nat.reduceBneDiff, Nat.add_zero, Nat.zero_add, reduceCtorEq, wil0, wal0, wis0, wic0, wil1, wal1, wis1, wic1, wil2, wll2, wal2, wis2, was2, wls2, wic2, wil3, wis3, wic3, wic3m, wic3s, wil4, wis4, wic4, wil5, wis5, wic5, wic5m, wil6, wll6, wal6, wis6, was6, wls6, wic6, wil7, wal7, wis7, was7, wic7, wil8, wis8, wic8, wil9, wis9, wic9, wil10, wis10, wic10, am_nI_inj, am_nI_lt, am_nI_le, nI_add, pk_mul, am_nI_sub, am_add_m1, am_gfs, am_pfs, am_alds, am_asts, am_lens, tgf0, tgf1, tgf2, tgf3, tgf4, tgf5, tgf6, tgf7, tgf8, tgf9, tgf10, tgf11, tgf12, tpf7, tpf8, tpf9, tal0, tas0, tln0, tal1, tas1, tln1, tal2, tas2, tln2, tal3, tas3, tln3, tal4, tas4, tln4, tal5, tas5, tln5, tal6, tas6, tln6, tal7, tas7, tln7, tal8, tas8, tln8, tal9, tas9, tln9, bs37, am_B37_0, am_B37_14, am_B37_21, am_B37_45, am_B37_46, C_X4_isPlace, C_X4_isKind, h1', h2', bI_t, e2, hC, fcs, q1]
        first | exact ⟨rfl, CSt_town h hE1 (TWV_add h.2.1 hn (by omega) (by omega)) (fun o ho => hf o (by omega)), fun o ho => hf o (by omega)⟩ | exact ⟨CSt_town h hE1 (TWV_add h.2.1 hn (by omega) (by omega)) (fun o ho => hf o (by omega)), fun o ho => hf o (by omega)⟩
      · rw [if_neg hn]
        have hn8 : G 1 7 = nI 8 := by rw [hE.1, show S.1.1 = 8 by omega]
        simp (config := { maxSteps := 1000000 }) (disch := first | exact am_nl_i | exact am_nl_r | exact am_nl_n | exact am_l0 | exact am_l1 | exact am_l2 | exact am_l3 | assumption | omega) only [wp_ldc, wp_sipush, wp_ldc_w, wp_lconst, wp_iadd, wp_isub, wp_imul, wp_iand, wp_ior, wp_ixor, wp_ishl, wp_ishr, wp_iushr, wp_idiv, wp_irem, wp_ineg, wp_i2b, wp_i2s, wp_i2c, wp_i2l, wp_ladd, wp_lmul, wp_lcmp, wp_dup_i, wp_dup_r, wp_dup2, wp_pop, wp_getfield, wp_putfield, wp_getstatic, wp_iaload, wp_baload, wp_aaload, wp_iastore, wp_arraylength, wp_goto, wp_fall, wp_ieq, wp_ine, wp_ilt, wp_ige, wp_igt, wp_ile, wp_ceq, wp_cne, wp_clt, wp_cge, wp_cgt, wp_cle, wp_sw, wp_ret0, wp_ret1z, wp_ret1o, wp_ret1, wp_ret2, wp_ret3, wp_ret4, wp_ret5, wp_return, wp_min, wp_max, wp_abs, am_ex, gset_eq, gset_ne, upd_eq, upd_ne, gset_gset, am_ci_1, am_ci_6, am_toList_some, am_toList_none, true_implies, false_implies, and_self, and_true, true_and, not_true_eq_false, not_false_eq_true, imp_self, implies_true, Classical.not_not, if_true, if_false, false_and, and_false, or_false, false_or, true_or, or_true, Nat.reduceAdd, Nat.reduceMul, Nat.reduceSub, Nat.reduceLT, Nat.reduceLeDiff, Nat.reduceEqDiff, Nat.reduceBneDiff, Nat.add_zero, Nat.zero_add, reduceCtorEq, wil0, wal0, wis0, wic0, wil1, wal1, wis1, wic1, wil2, wll2, wal2, wis2, was2, wls2, wic2, wil3, wis3, wic3, wic3m, wic3s, wil4, wis4, wic4, wil5, wis5, wic5, wic5m, wil6, wll6, wal6, wis6, was6, wls6, wic6, wil7, wal7, wis7, was7, wic7, wil8, wis8, wic8, wil9, wis9, wic9, wil10, wis10, wic10, am_nI_inj, am_nI_lt, am_nI_le, nI_add, pk_mul, am_nI_sub, am_add_m1, am_gfs, am_pfs, am_alds, am_asts, am_lens, tgf0, tgf1, tgf2, tgf3, tgf4, tgf5, tgf6, tgf7, tgf8, tgf9, tgf10, tgf11, tgf12, tpf7, tpf8, tpf9, tal0, tas0, tln0, tal1, tas1, tln1, tal2, tas2, tln2, tal3, tas3, tln3, tal4, tas4, tln4, tal5, tas5, tln5, tal6, tas6, tln6, tal7, tas7, tln7, tal8, tas8, tln8, tal9, tas9, tln9, bs37, am_B37_0, am_B37_14, am_B37_21, am_B37_45, am_B37_46, C_X4_isPlace, C_X4_isKind, h1', h2', bI_t, e2, C_X3_addOneF, fcs, C_X4_found]
        first | exact ⟨rfl, CSt_fnd h (by omega), fnd_frame⟩ | exact ⟨CSt_fnd h (by omega), fnd_frame⟩
    · rw [if_neg (fun z => h2 z.2)]
      rw [Bool.not_eq_true] at h2
      simp (config := { maxSteps := 1000000 }) (disch := first | exact am_nl_i | exact am_nl_r | exact am_nl_n | exact am_l0 | exact am_l1 | exact am_l2 | exact am_l3 | assumption | omega) only [wp_ldc, wp_sipush, wp_ldc_w, wp_lconst, wp_iadd, wp_isub, wp_imul, wp_iand, wp_ior, wp_ixor, wp_ishl, wp_ishr, wp_iushr, wp_idiv, wp_irem, wp_ineg, wp_i2b, wp_i2s, wp_i2c, wp_i2l, wp_ladd, wp_lmul, wp_lcmp, wp_dup_i, wp_dup_r, wp_dup2, wp_pop, wp_getfield, wp_putfield, wp_getstatic, wp_iaload, wp_baload, wp_aaload, wp_iastore, wp_arraylength, wp_goto, wp_fall, wp_ieq, wp_ine, wp_ilt, wp_ige, wp_igt, wp_ile, wp_ceq, wp_cne, wp_clt, wp_cge, wp_cgt, wp_cle, wp_sw, wp_ret0, wp_ret1z, wp_ret1o, wp_ret1, wp_ret2, wp_ret3, wp_ret4, wp_ret5, wp_return, wp_min, wp_max, wp_abs, am_ex, gset_eq, gset_ne, upd_eq, upd_ne, gset_gset, am_ci_1, am_ci_6, am_toList_some, am_toList_none, true_implies, false_implies, and_self, and_true, true_and, not_true_eq_false, not_false_eq_true, imp_self, implies_true, Classical.not_not, if_true, if_false, false_and, and_false, or_false, false_or, true_or, or_true, Nat.reduceAdd, Nat.reduceMul, Nat.reduceSub, Nat.reduceLT, Nat.reduceLeDiff, Nat.reduceEqDiff, Nat.reduceBneDiff, Nat.add_zero, Nat.zero_add, reduceCtorEq, wil0, wal0, wis0, wic0, wil1, wal1, wis1, wic1, wil2, wll2, wal2, wis2, was2, wls2, wic2, wil3, wis3, wic3, wic3m, wic3s, wil4, wis4, wic4, wil5, wis5, wic5, wic5m, wil6, wll6, wal6, wis6, was6, wls6, wic6, wil7, wal7, wis7, was7, wic7, wil8, wis8, wic8, wil9, wis9, wic9, wil10, wis10, wic10, am_nI_inj, am_nI_lt, am_nI_le, nI_add, pk_mul, am_nI_sub, am_add_m1, am_gfs, am_pfs, am_alds, am_asts, am_lens, tgf0, tgf1, tgf2, tgf3, tgf4, tgf5, tgf6, tgf7, tgf8, tgf9, tgf10, tgf11, tgf12, tpf7, tpf8, tpf9, tal0, tas0, tln0, tal1, tas1, tln1, tal2, tas2, tln2, tal3, tas3, tln3, tal4, tas4, tln4, tal5, tas5, tln5, tal6, tas6, tln6, tal7, tas7, tln7, tal8, tas8, tln8, tal9, tas9, tln9, bs37, am_B37_0, am_B37_14, am_B37_21, am_B37_45, am_B37_46, C_X4_isPlace, C_X4_isKind, h1, h2, bI_t, bI_f, e2, fcs, C_X4_found]
      first | exact ⟨rfl, CSt_fnd h (by omega), fnd_frame⟩ | exact ⟨CSt_fnd h (by omega), fnd_frame⟩
  · rw [if_neg (fun z => h1 z.1)]
    rw [Bool.not_eq_true] at h1
    simp (config := { maxSteps := 1000000 }) (disch := first | exact am_nl_i | exact am_nl_r | exact am_nl_n | exact am_l0 | exact am_l1 | exact am_l2 | exact am_l3 | assumption | omega) only [wp_ldc, wp_sipush, wp_ldc_w, wp_lconst, wp_iadd, wp_isub, wp_imul, wp_iand, wp_ior, wp_ixor, wp_ishl, wp_ishr, wp_iushr, wp_idiv, wp_irem, wp_ineg, wp_i2b, wp_i2s, wp_i2c, wp_i2l, wp_ladd, wp_lmul, wp_lcmp, wp_dup_i, wp_dup_r, wp_dup2, wp_pop, wp_getfield, wp_putfield, wp_getstatic, wp_iaload, wp_baload, wp_aaload, wp_iastore, wp_arraylength, wp_goto, wp_fall, wp_ieq, wp_ine, wp_ilt, wp_ige, wp_igt, wp_ile, wp_ceq, wp_cne, wp_clt, wp_cge, wp_cgt, wp_cle, wp_sw, wp_ret0, wp_ret1z, wp_ret1o, wp_ret1, wp_ret2, wp_ret3, wp_ret4, wp_ret5, wp_return, wp_min, wp_max, wp_abs, am_ex, gset_eq, gset_ne, upd_eq, upd_ne, gset_gset, am_ci_1, am_ci_6, am_toList_some, am_toList_none, true_implies, false_implies, and_self, and_true, true_and, not_true_eq_false, not_false_eq_true, imp_self, implies_true, Classical.not_not, if_true, if_false, false_and, and_false, or_false, false_or, true_or, or_true, Nat.reduceAdd, Nat.reduceMul, Nat.reduceSub, Nat.reduceLT, Nat.reduceLeDiff, Nat.reduceEqDiff, Nat.reduceBneDiff, Nat.add_zero, Nat.zero_add, reduceCtorEq, wil0, wal0, wis0, wic0, wil1, wal1, wis1, wic1, wil2, wll2, wal2, wis2, was2, wls2, wic2, wil3, wis3, wic3, wic3m, wic3s, wil4, wis4, wic4, wil5, wis5, wic5, wic5m, wil6, wll6, wal6, wis6, was6, wls6, wic6, wil7, wal7, wis7, was7, wic7, wil8, wis8, wic8, wil9, wis9, wic9, wil10, wis10, wic10, am_nI_inj, am_nI_lt, am_nI_le, nI_add, pk_mul, am_nI_sub, am_add_m1, am_gfs, am_pfs, am_alds, am_asts, am_lens, tgf0, tgf1, tgf2, tgf3, tgf4, tgf5, tgf6, tgf7, tgf8, tgf9, tgf10, tgf11, tgf12, tpf7, tpf8, tpf9, tal0, tas0, tln0, tal1, tas1, tln1, tal2, tas2, tln2, tal3, tas3, tln3, tal4, tas4, tln4, tal5, tas5, tln5, tal6, tas6, tln6, tal7, tas7, tln7, tal8, tas8, tln8, tal9, tas9, tln9, bs37, am_B37_0, am_B37_14, am_B37_21, am_B37_45, am_B37_46, C_X4_isPlace, C_X4_isKind, h1, bI_t, bI_f, e2, fcs, C_X4_found]
    first | exact ⟨rfl, CSt_fnd h (by omega), fnd_frame⟩ | exact ⟨CSt_fnd h (by omega), fnd_frame⟩
