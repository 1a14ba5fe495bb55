/-! ===== the class's town: choices, settling ===== -/
theorem E_X3_bestPlaceFor {X : AmX} {G : GG} (b n i : Nat) (T : TT) (t : Nat) (z : Int32) (hb : TB b) (hE : TE G b n T t z) (hV : TV n T) (hP : PL G b n T) (hi : i < n) : Ev X 21 [.ref b, .int (nI i)] G (some (.int (eP (chN T n i)))) (G) := by
  have hb5 : b < 500 := hb.lt
  refine Ev_of ?_
  show WP X 21 (am_blk 21 0) [some (.ref b), some (.int (nI i)), none, none, none, none, none, none] [] G _
  obtain ⟨v1, v2, v3, v4⟩ := id hV
  obtain ⟨a0, a1, a2, a3, a4, a5, a6, a7, a8, a9⟩ := id hE
  obtain ⟨b1, b2, b3, b4, b5⟩ := v3 i hi
  have hi8 : i < 8 := by omega
  have f3 := a5 i hi
  have f4 := a6 i hi
  by_cases h8 : T 2 i = 8
  · have e : chN T n i = 8 := by unfold chN; rw [if_pos h8]
    rw [e, eP_8]
    rw [h8, eP_8] at f3
    have e1 : inR nM (nI 0) (nI 7) = false := by decide
    simp (config := { maxSteps := 1000000 }) (disch := first | exact am_nl_i | exact am_nl_r | exact am_nl_n | exact am_l0 | exact am_l1 | exact am_l2 | exact am_l3 | assumption | omega) only [wp_ldc, wp_sipush, wp_ldc_w, wp_lconst, wp_iadd, wp_isub, wp_imul, wp_iand, wp_ior, wp_ixor, wp_ishl, wp_ishr, wp_iushr, wp_idiv, wp_irem, wp_ineg, wp_i2b, wp_i2s, wp_i2c, wp_i2l, wp_ladd, wp_lmul, wp_lcmp, wp_dup_i, wp_dup_r, wp_dup2, wp_pop, wp_getfield, wp_putfield, wp_getstatic, wp_iaload, wp_baload, wp_aaload, wp_iastore, wp_arraylength, wp_goto, wp_fall, wp_ieq, wp_ine, wp_ilt, wp_ige, wp_igt, wp_ile, wp_ceq, wp_cne, wp_clt, wp_cge, wp_cgt, wp_cle, wp_sw, wp_ret0, wp_ret1z, wp_ret1o, wp_ret1, wp_ret2, wp_ret3, wp_ret4, wp_ret5, wp_return, wp_min, wp_max, wp_abs, am_ex, gset_eq, gset_ne, upd_eq, upd_ne, gset_gset, am_ci_1, am_ci_6, am_toList_some, am_toList_none, true_implies, false_implies, and_self, and_true, true_and, not_true_eq_false, not_false_eq_true, imp_self, implies_true, Classical.not_not, if_true, if_false, false_and, and_false, or_false, false_or, true_or, or_true, Nat.reduceAdd, Nat.reduceMul, Nat.reduceSub, Nat.reduceLT, Nat.reduceLeDiff, Nat.reduceEqDiff, Nat.reduceBneDiff, Nat.add_zero, Nat.zero_add, reduceCtorEq, wil0, wal0, wis0, wic0, wil1, wal1, wis1, wic1, wil2, wll2, wal2, wis2, was2, wls2, wic2, wil3, wis3, wic3, wic3m, wic3s, wil4, wis4, wic4, wil5, wis5, wic5, wic5m, wil6, wll6, wal6, wis6, was6, wls6, wic6, wil7, wal7, wis7, was7, wic7, wil8, wis8, wic8, wil9, wis9, wic9, wil10, wis10, wic10, am_nI_inj, am_nI_lt, am_nI_le, nI_add, pk_mul, am_nI_sub, am_add_m1, am_gfs, am_pfs, am_alds, am_asts, am_lens, tgf0, tgf1, tgf2, tgf3, tgf4, tgf5, tgf6, tgf7, tgf8, tgf9, tgf10, tgf11, tgf12, tpf7, tpf8, tpf9, tal0, tas0, tln0, tal1, tas1, tln1, tal2, tas2, tln2, tal3, tas3, tln3, tal4, tas4, tln4, tal5, tas5, tln5, tal6, tas6, tln6, tal7, tas7, tln7, tal8, tas8, tln8, tal9, tas9, tln9, bk21_0, am_B21_0, f3, C_X4_isPlace, e1, bI_f, fcs]
  · rw [eP_lt h8] at f3
    have hq : T 2 i < 8 := by omega
    have e : chN T n i = chF (wishN T n i) (seesN T i) (T 2 i) 8 := by unfold chN; rw [if_neg h8]
    have hse : ∀ k, seesN T i k = true ↔ T 2 i - T 3 i ≤ k ∧ k ≤ T 2 i + T 3 i := by
      intro k; unfold seesN; simp only [decide_eq_true_eq]; omega
    rw [e]
    generalize hw : wishN T n i = w
    generalize hs : seesN T i = s at hse
    generalize hqq : T 2 i = q at hq f3 hse
    generalize hll : T 3 i = l at b3 f4 hse
    have hmo : ∀ k, s k = false ↔ ¬ (q - l ≤ k ∧ k ≤ q + l) := fun k => by rw [← hse k]; simp
    have elo : chF w s q (q - l) = q := by
      have := chF_skip (w := w) (s := s) (q := q) (a := 0) (q - l) (fun k h1 h2 => (hmo k).mpr (by omega))
      rw [Nat.zero_add] at this
      rw [this]; rfl
    have ehi : chF w s q 8 = chF w s q (min (q + l) 7 + 1) := by
      have := chF_skip (w := w) (s := s) (q := q) (a := min (q + l) 7 + 1) (8 - (min (q + l) 7 + 1)) (fun k h1 h2 => (hmo k).mpr (by omega))
      rw [show min (q + l) 7 + 1 + (8 - (min (q + l) 7 + 1)) = 8 by omega] at this
      exact this
    have key : ∀ d k : Nat, k + d = min (q + l) 7 + 1 → q - l ≤ k → ∀ x : Option Value, WP X 21 (am_blk 21 55) [some (.ref b), some (.int (nI i)), some (.int (nI q)), some (.int (nI (chF w s q k))), some (.int (w (chF w s q k))), some (.int (nI (min (q + l) 7))), some (.int (nI k)), x] [] G (fun v H => v = some (.int (eP (chF w s q 8))) ∧ H = G) := by
      intro d
      induction d with
      | zero =>
        intro k hk hlo x
        obtain rfl : k = min (q + l) 7 + 1 := by omega
        have hc : (min (q + l) 7 < min (q + l) 7 + 1) = True := eq_true (by omega)
        have hl8 := chF_lt (w := w) (s := s) hq 8 (by omega)
        have hee : eP (chF w s q 8) = nI (chF w s q (min (q + l) 7 + 1)) := by rw [eP_lt (by omega), ehi]
        rw [bh21_55, hee]
        simp (config := { maxSteps := 1000000 }) (disch := first | exact am_nl_i | exact am_nl_r | exact am_nl_n | exact am_l0 | exact am_l1 | exact am_l2 | exact am_l3 | assumption | omega) only [wp_ldc, wp_sipush, wp_ldc_w, wp_lconst, wp_iadd, wp_isub, wp_imul, wp_iand, wp_ior, wp_ixor, wp_ishl, wp_ishr, wp_iushr, wp_idiv, wp_irem, wp_ineg, wp_i2b, wp_i2s, wp_i2c, wp_i2l, wp_ladd, wp_lmul, wp_lcmp, wp_dup_i, wp_dup_r, wp_dup2, wp_pop, wp_getfield, wp_putfield, wp_getstatic, wp_iaload, wp_baload, wp_aaload, wp_iastore, wp_arraylength, wp_goto, wp_fall, wp_ieq, wp_ine, wp_ilt, wp_ige, wp_igt, wp_ile, wp_ceq, wp_cne, wp_clt, wp_cge, wp_cgt, wp_cle, wp_sw, wp_ret0, wp_ret1z, wp_ret1o, wp_ret1, wp_ret2, wp_ret3, wp_ret4, wp_ret5, wp_return, wp_min, wp_max, wp_abs, am_ex, gset_eq, gset_ne, upd_eq, upd_ne, gset_gset, am_ci_1, am_ci_6, am_toList_some, am_toList_none, true_implies, false_implies, and_self, and_true, true_and, not_true_eq_false, not_false_eq_true, imp_self, implies_true, Classical.not_not, if_true, if_false, false_and, and_false, or_false, false_or, true_or, or_true, Nat.reduceAdd, Nat.reduceMul, Nat.reduceSub, Nat.reduceLT, Nat.reduceLeDiff, Nat.reduceEqDiff, Nat.reduceBneDiff, Nat.add_zero, Nat.zero_add, reduceCtorEq, wil0, wal0, wis0, wic0, wil1, wal1, wis1, wic1, wil2, wll2, wal2, wis2, was2, wls2, wic2, wil3, wis3, wic3, wic3m, wic3s, wil4, wis4, wic4, wil5, wis5, wic5, wic5m, wil6, wll6, wal6, wis6, was6, wls6, wic6, wil7, wal7, wis7, was7, wic7, wil8, wis8, wic8, wil9, wis9, wic9, wil10, wis10, wic10, am_nI_inj, am_nI_lt, am_nI_le, nI_add, pk_mul, am_nI_sub, am_add_m1, am_gfs, am_pfs, am_alds, am_asts, am_lens, tgf0, tgf1, tgf2, tgf3, tgf4, tgf5, tgf6, tgf7, tgf8, tgf9, tgf10, tgf11, tgf12, tpf7, tpf8, tpf9, tal0, tas0, tln0, tal1, tas1, tln1, tal2, tas2, tln2, tal3, tas3, tln3, tal4, tas4, tln4, tal5, tas5, tln5, tal6, tas6, tln6, tal7, tas7, tln7, tal8, tas8, tln8, tal9, tas9, tln9, bk21_91, am_B21_55, am_B21_91, hc]
      | succ d ih =>
        intro k hk hlo x
        have hc : (min (q + l) 7 < k) = False := eq_false (by omega)
        have hk8 : k < 8 := by omega
        have hsk : s k = true := (hse k).mpr (by omega)
        have hW := fun (st : List Value) (r : List Instr) (lv : LV) (Q : Option Value → GG → Prop) (hl : st.length ≤ 4) => C_X3_wishAt (X := X) (k := 21) (st := st) (r := r) (lv := lv) (Q := Q) (b := b) (n := n) (i := i) (p := k) (T := T) hb hE hV hP hi hk8 hl
        rw [hw] at hW
        have hnext : chF w s q (k + 1) = if w (chF w s q k) < w k then k else chF w s q k := by
          show (if s k = true ∧ w (chF w s q k) < w k then k else chF w s q k) = _
          simp [hsk]
        rw [bh21_55]
        have ih := ih (k + 1) (by omega) (by omega)
        by_cases hlt : w (chF w s q k) < w k
        · have hnle : (w k ≤ w (chF w s q k)) = False := eq_false (Int32.not_le.mpr hlt)
          rw [hnext, if_pos hlt] at ih
          simp (config := { maxSteps := 1000000 }) (disch := first | exact am_nl_i | exact am_nl_r | exact am_nl_n | exact am_l0 | exact am_l1 | exact am_l2 | exact am_l3 | assumption | omega) only [wp_ldc, wp_sipush, wp_ldc_w, wp_lconst, wp_iadd, wp_isub, wp_imul, wp_iand, wp_ior, wp_ixor, wp_ishl, wp_ishr, wp_iushr, wp_idiv, wp_irem, wp_ineg, wp_i2b, wp_i2s, wp_i2c, wp_i2l, wp_ladd, wp_lmul, wp_lcmp, wp_dup_i, wp_dup_r, wp_dup2, wp_pop, wp_getfield, wp_putfield, wp_getstatic, wp_iaload, wp_baload, wp_aaload, wp_iastore, wp_arraylength, wp_goto, wp_fall, wp_ieq, wp_ine, wp_ilt, wp_ige, wp_igt, wp_ile, wp_ceq, wp_cne, wp_clt, wp_cge, wp_cgt, wp_cle, wp_sw, wp_ret0, wp_ret1z, wp_ret1o, wp_ret1, wp_ret2, wp_ret3, wp_ret4, wp_ret5, wp_return, wp_min, wp_max, wp_abs, am_ex, gset_eq, gset_ne, upd_eq, upd_ne, gset_gset, am_ci_1, am_ci_6, am_toList_some, am_toList_none, true_implies, false_implies, and_self, and_true, true_and, not_true_eq_false, not_false_eq_true, imp_self, implies_true, Classical.not_not, if_true, if_false, false_and, and_false, or_false, false_or, true_or, or_true, Nat.reduceAdd, Nat.reduceMul, Nat.reduceSub, Nat.reduceLT, Nat.reduceLeDiff, Nat.reduceEqDiff, Nat.reduceBneDiff, Nat.add_zero, Nat.zero_add, reduceCtorEq, wil0, wal0, wis0, wic0, wil1, wal1, wis1, wic1, wil2, wll2, wal2, wis2, was2, wls2, wic2, wil3, wis3, wic3, wic3m, wic3s, wil4, wis4, wic4, wil5, wis5, wic5, wic5m, wil6, wll6, wal6, wis6, was6, wls6, wic6, wil7, wal7, wis7, was7, wic7, wil8, wis8, wic8, wil9, wis9, wic9, wil10, wis10, wic10, am_nI_inj, am_nI_lt, am_nI_le, nI_add, pk_mul, am_nI_sub, am_add_m1, am_gfs, am_pfs, am_alds, am_asts, am_lens, tgf0, tgf1, tgf2, tgf3, tgf4, tgf5, tgf6, tgf7, tgf8, tgf9, tgf10, tgf11, tgf12, tpf7, tpf8, tpf9, tal0, tas0, tln0, tal1, tas1, tln1, tal2, tas2, tln2, tal3, tas3, tln3, tal4, tas4, tln4, tal5, tas5, tln5, tal6, tas6, tln6, tal7, tas7, tln7, tal8, tas8, tln8, tal9, tas9, tln9, bk21_85, am_B21_55, am_B21_85, bn21_55, hc, hW, hnle]
          exact ih _
        · have hle : (w k ≤ w (chF w s q k)) = True := eq_true (Int32.not_lt.mp hlt)
          rw [hnext, if_neg hlt] at ih
          simp (config := { maxSteps := 1000000 }) (disch := first | exact am_nl_i | exact am_nl_r | exact am_nl_n | exact am_l0 | exact am_l1 | exact am_l2 | exact am_l3 | assumption | omega) only [wp_ldc, wp_sipush, wp_ldc_w, wp_lconst, wp_iadd, wp_isub, wp_imul, wp_iand, wp_ior, wp_ixor, wp_ishl, wp_ishr, wp_iushr, wp_idiv, wp_irem, wp_ineg, wp_i2b, wp_i2s, wp_i2c, wp_i2l, wp_ladd, wp_lmul, wp_lcmp, wp_dup_i, wp_dup_r, wp_dup2, wp_pop, wp_getfield, wp_putfield, wp_getstatic, wp_iaload, wp_baload, wp_aaload, wp_iastore, wp_arraylength, wp_goto, wp_fall, wp_ieq, wp_ine, wp_ilt, wp_ige, wp_igt, wp_ile, wp_ceq, wp_cne, wp_clt, wp_cge, wp_cgt, wp_cle, wp_sw, wp_ret0, wp_ret1z, wp_ret1o, wp_ret1, wp_ret2, wp_ret3, wp_ret4, wp_ret5, wp_return, wp_min, wp_max, wp_abs, am_ex, gset_eq, gset_ne, upd_eq, upd_ne, gset_gset, am_ci_1, am_ci_6, am_toList_some, am_toList_none, true_implies, false_implies, and_self, and_true, true_and, not_true_eq_false, not_false_eq_true, imp_self, implies_true, Classical.not_not, if_true, if_false, false_and, and_false, or_false, false_or, true_or, or_true, Nat.reduceAdd, Nat.reduceMul, Nat.reduceSub, Nat.reduceLT, Nat.reduceLeDiff, Nat.reduceEqDiff, Nat.reduceBneDiff, Nat.add_zero, Nat.zero_add, reduceCtorEq, wil0, wal0, wis0, wic0, wil1, wal1, wis1, wic1, wil2, wll2, wal2, wis2, was2, wls2, wic2, wil3, wis3, wic3, wic3m, wic3s, wil4, wis4, wic4, wil5, wis5, wic5, wic5m, wil6, wll6, wal6, wis6, was6, wls6, wic6, wil7, wal7, wis7, was7, wic7, wil8, wis8, wic8, wil9, wis9, wic9, wil10, wis10, wic10, am_nI_inj, am_nI_lt, am_nI_le, nI_add, pk_mul, am_nI_sub, am_add_m1, am_gfs, am_pfs, am_alds, am_asts, am_lens, tgf0, tgf1, tgf2, tgf3, tgf4, tgf5, tgf6, tgf7, tgf8, tgf9, tgf10, tgf11, tgf12, tpf7, tpf8, tpf9, tal0, tas0, tln0, tal1, tas1, tln1, tal2, tas2, tln2, tal3, tas3, tln3, tal4, tas4, tln4, tal5, tas5, tln5, tal6, tas6, tln6, tal7, tas7, tln7, tal8, tas8, tln8, tal9, tas9, tln9, bk21_85, am_B21_55, am_B21_85, bn21_55, hc, hW, hle]
          exact ih _
    have e1 : inR (nI q) (nI 0) (nI 7) = true := by rw [inR_nI (by omega) (by omega) (by omega)]; simp; omega
    have e2 : (nI 1 = nI 0) = False := eq_false (by decide)
    have hW := fun (st : List Value) (r : List Instr) (lv : LV) (Q : Option Value → GG → Prop) (hl : st.length ≤ 4) => C_X3_wishAt (X := X) (k := 21) (st := st) (r := r) (lv := lv) (Q := Q) (b := b) (n := n) (i := i) (p := q) (T := T) hb hE hV hP hi hq hl
    rw [hw] at hW
    have k0 := key (min (q + l) 7 + 1 - (q - l)) (q - l) (by omega) (Nat.le_refl _) none
    rw [elo] at k0
    have m0 := am_max0 (q := q) (l := l) (by omega) (by omega)
    have m1 : (if q + l < 7 then nI (q + l) else nI 7) = nI (min (q + l) 7) := by
      by_cases h : q + l < 7
      · rw [if_pos h, show min (q + l) 7 = q + l by omega]
      · rw [if_neg h, show min (q + l) 7 = 7 by omega]
    simp (config := { maxSteps := 1000000 }) (disch := first | exact am_nl_i | exact am_nl_r | exact am_nl_n | exact am_l0 | exact am_l1 | exact am_l2 | exact am_l3 | assumption | omega) only [wp_ldc, wp_sipush, wp_ldc_w, wp_lconst, wp_iadd, wp_isub, wp_imul, wp_iand, wp_ior, wp_ixor, wp_ishl, wp_ishr, wp_iushr, wp_idiv, wp_irem, wp_ineg, wp_i2b, wp_i2s, wp_i2c, wp_i2l, wp_ladd, wp_lmul, wp_lcmp, wp_dup_i, wp_dup_r, wp_dup2, wp_pop, wp_getfield, wp_putfield, wp_getstatic, wp_iaload, wp_baload, wp_aaload, wp_iastore, wp_arraylength, wp_goto, wp_fall, wp_ieq, wp_ine, wp_ilt, wp_ige, wp_igt, wp_ile, wp_ceq, wp_cne, wp_clt, wp_cge, wp_cgt, wp_cle, wp_sw, wp_ret0, wp_ret1z, wp_ret1o, wp_ret1, wp_ret2, wp_ret3, wp_ret4, wp_ret5, wp_return, wp_min, wp_max, wp_abs, am_ex, gset_eq, gset_ne, upd_eq, upd_ne, gset_gset, am_ci_1, am_ci_6, am_toList_some, am_toList_none, true_implies, false_implies, and_self, and_true, true_and, not_true_eq_false, not_false_eq_true, imp_self, implies_true, Classical.not_not, if_true, if_false, false_and, and_false, or_false, false_or, true_or, or_true, Nat.reduceAdd, Nat.reduceMul, Nat.reduceSub, Nat.reduceLT, Nat.reduceLeDiff, Nat.reduceEqDiff, Nat.reduceBneDiff, Nat.add_zero, Nat.zero_add, reduceCtorEq, wil0, wal0, wis0, wic0, wil1, wal1, wis1, wic1, wil2, wll2, wal2, wis2, was2, wls2, wic2, wil3, wis3, wic3, wic3m, wic3s, wil4, wis4, wic4, wil5, wis5, wic5, wic5m, wil6, wll6, wal6, wis6, was6, wls6, wic6, wil7, wal7, wis7, was7, wic7, wil8, wis8, wic8, wil9, wis9, wic9, wil10, wis10, wic10, am_nI_inj, am_nI_lt, am_nI_le, nI_add, pk_mul, am_nI_sub, am_add_m1, am_gfs, am_pfs, am_alds, am_asts, am_lens, tgf0, tgf1, tgf2, tgf3, tgf4, tgf5, tgf6, tgf7, tgf8, tgf9, tgf10, tgf11, tgf12, tpf7, tpf8, tpf9, tal0, tas0, tln0, tal1, tas1, tln1, tal2, tas2, tln2, tal3, tas3, tln3, tal4, tas4, tln4, tal5, tas5, tln5, tal6, tas6, tln6, tal7, tas7, tln7, tal8, tas8, tln8, tal9, tas9, tln9, bk21_0, bk21_16, am_B21_0, am_B21_16, bn21_55, f3, f4, C_X4_isPlace, e1, e2, bI_t, hW, m0, m1]
    exact k0
theorem C_X3_bestPlaceFor {X : AmX} {G : GG} {k : Nat} {r : List Instr} {lv : LV} {st : List Value} {Q : Option Value → GG → Prop} {b n i : Nat} {T : TT} {t : Nat} {z : Int32} (hb : TB b) (hE : TE G b n T t z) (hV : TV n T) (hP : PL G b n T) (hi : i < n) (hl : st.length ≤ 4) : WP X k (.invokeinterface 21 2 :: r) lv ((.int (nI i)) :: (.ref b) :: st) G Q ↔ WP X k r lv ((.int (eP (chN T n i))) :: st) (G) Q := WP_ev (E_X3_bestPlaceFor b n i T t z hb hE hV hP hi) (by decide) rfl rfl hl (am_rcv_of rfl (tcls hb))
theorem X3_settle {X : AmX} {G : GG} (b n : Nat) (T : TT) (t : Nat) (z : Int32) (hb : TB b) (hE : TE G b n T t z) (hV : TV n T) : ∃ G1, Ev X 20 [.ref b] G none G1 ∧ TE G1 b n T t z ∧ SE G1 b n T ∧ ∀ o, ¬ (b + 8 ≤ o ∧ o ≤ b + 10) → G1 o = G o := by
  suffices h : WPm X 20 [.ref b] G (fun v G1 => v = none ∧ TE G1 b n T t z ∧ SE G1 b n T ∧ ∀ o, ¬ (b + 8 ≤ o ∧ o ≤ b + 10) → G1 o = G o) by
    obtain ⟨v, G1, h1, rfl, h2⟩ := WPm_ev h
    exact ⟨G1, h1, h2⟩
  have hb5 : b < 500 := hb.lt
  have hb4 : b ≤ 34 := by rcases hb with rfl | rfl | rfl | rfl <;> decide
  obtain ⟨v1, v2, v3, v4⟩ := id hV
  obtain ⟨a0, a1, a2, a3, a4, a5, a6, a7, a8, a9⟩ := id hE
  show WP X 20 (am_blk 20 0) [some (.ref b), none, none] [] G _
  generalize hQ : (fun (v : Option Value) (G1 : GG) => v = none ∧ TE G1 b n T t z ∧ SE G1 b n T ∧ ∀ o, ¬ (b + 8 ≤ o ∧ o ≤ b + 10) → G1 o = G o) = Q
  have key2 : ∀ d i : Nat, i + d = n → ∀ (G' : GG) (x : Option Value), (∀ o, ¬ (b + 8 ≤ o ∧ o ≤ b + 10) → G' o = G o) → PL G' b n T → (∀ j, j < i → G' (b + 9) j = eP (chN T n j)) → (∀ p, p < 8 → G' (b + 10) p = nI (cntN (chN T n) p i)) → WP X 20 (am_blk 20 61) [some (.ref b), some (.int (nI i)), x] [] G' Q := by
    intro d
    induction d with
    | zero =>
      intro i hi G' x hf hp hc hn
      obtain rfl : i = n := by omega
      have hE' : TE G' b i T t z := TE_congr hE (fun o h1 h2 => hf o (by omega))
      have c0 := hE'.1
      rw [bh20_61]
      simp (config := { maxSteps := 1000000 }) (disch := first | exact am_nl_i | exact am_nl_r | exact am_nl_n | exact am_l0 | exact am_l1 | exact am_l2 | exact am_l3 | assumption | omega) only [wp_ldc, wp_sipush, wp_ldc_w, wp_lconst, wp_iadd, wp_isub, wp_imul, wp_iand, wp_ior, wp_ixor, wp_ishl, wp_ishr, wp_iushr, wp_idiv, wp_irem, wp_ineg, wp_i2b, wp_i2s, wp_i2c, wp_i2l, wp_ladd, wp_lmul, wp_lcmp, wp_dup_i, wp_dup_r, wp_dup2, wp_pop, wp_getfield, wp_putfield, wp_getstatic, wp_iaload, wp_baload, wp_aaload, wp_iastore, wp_arraylength, wp_goto, wp_fall, wp_ieq, wp_ine, wp_ilt, wp_ige, wp_igt, wp_ile, wp_ceq, wp_cne, wp_clt, wp_cge, wp_cgt, wp_cle, wp_sw, wp_ret0, wp_ret1z, wp_ret1o, wp_ret1, wp_ret2, wp_ret3, wp_ret4, wp_ret5, wp_return, wp_min, wp_max, wp_abs, am_ex, gset_eq, gset_ne, upd_eq, upd_ne, gset_gset, am_ci_1, am_ci_6, am_toList_some, am_toList_none, true_implies, false_implies, and_self, and_true, true_and, not_true_eq_false, not_false_eq_true, imp_self, implies_true, Classical.not_not, if_true, if_false, false_and, and_false, or_false, false_or, true_or, or_true, Nat.reduceAdd, Nat.reduceMul, Nat.reduceSub, Nat.reduceLT, Nat.reduceLeDiff, Nat.reduceEqDiff, Nat.reduceBneDiff, Nat.add_zero, Nat.zero_add, reduceCtorEq, wil0, wal0, wis0, wic0, wil1, wal1, wis1, wic1, wil2, wll2, wal2, wis2, was2, wls2, wic2, wil3, wis3, wic3, wic3m, wic3s, wil4, wis4, wic4, wil5, wis5, wic5, wic5m, wil6, wll6, wal6, wis6, was6, wls6, wic6, wil7, wal7, wis7, was7, wic7, wil8, wis8, wic8, wil9, wis9, wic9, wil10, wis10, wic10, am_nI_inj, am_nI_lt, am_nI_le, nI_add, pk_mul, am_nI_sub, am_add_m1, am_gfs, am_pfs, am_alds, am_asts, am_lens, tgf0, tgf1, tgf2, tgf3, tgf4, tgf5, tgf6, tgf7, tgf8, tgf9, tgf10, tgf11, tgf12, tpf7, tpf8, tpf9, tal0, tas0, tln0, tal1, tas1, tln1, tal2, tas2, tln2, tal3, tas3, tln3, tal4, tas4, tln4, tal5, tas5, tln5, tal6, tas6, tln6, tal7, tas7, tln7, tal8, tas8, tln8, tal9, tas9, tln9, bk20_105, am_B20_61, am_B20_105, c0, Nat.le_refl]
      rw [← hQ]
      exact ⟨rfl, hE', ⟨hp, hc, hn⟩, hf⟩
    | succ d ih =>
      intro i hi G' x hf hp hc hn
      have hE' : TE G' b n T t z := TE_congr hE (fun o h1 h2 => hf o (by omega))
      have c0 := hE'.1
      have hin : i < n := by omega
      have hi8 : i < 8 := by omega
      have hni : (n ≤ i) = False := eq_false (by omega)
      have hcl := chN_le (T := T) (n := n) (i := i) (v3 i hin).2.1
      have hB := fun (st : List Value) (r : List Instr) (lv : LV) (Q : Option Value → GG → Prop) (hl : st.length ≤ 4) => C_X3_bestPlaceFor (X := X) (k := 20) (st := st) (r := r) (lv := lv) (Q := Q) (b := b) (n := n) (i := i) (T := T) hb hE' hV hp hin hl
      have e2 : (nI 1 = nI 0) = False := eq_false (by decide)
      rw [bh20_61]
      generalize hcc : chN T n i = c at hcl hB
      by_cases h8 : c = 8
      · subst h8
        have e1 : inR nM (nI 0) (nI 7) = false := by decide
        rw [eP_8] at hB
        simp (config := { maxSteps := 1000000 }) (disch := first | exact am_nl_i | exact am_nl_r | exact am_nl_n | exact am_l0 | exact am_l1 | exact am_l2 | exact am_l3 | assumption | omega) only [wp_ldc, wp_sipush, wp_ldc_w, wp_lconst, wp_iadd, wp_isub, wp_imul, wp_iand, wp_ior, wp_ixor, wp_ishl, wp_ishr, wp_iushr, wp_idiv, wp_irem, wp_ineg, wp_i2b, wp_i2s, wp_i2c, wp_i2l, wp_ladd, wp_lmul, wp_lcmp, wp_dup_i, wp_dup_r, wp_dup2, wp_pop, wp_getfield, wp_putfield, wp_getstatic, wp_iaload, wp_baload, wp_aaload, wp_iastore, wp_arraylength, wp_goto, wp_fall, wp_ieq, wp_ine, wp_ilt, wp_ige, wp_igt, wp_ile, wp_ceq, wp_cne, wp_clt, wp_cge, wp_cgt, wp_cle, wp_sw, wp_ret0, wp_ret1z, wp_ret1o, wp_ret1, wp_ret2, wp_ret3, wp_ret4, wp_ret5, wp_return, wp_min, wp_max, wp_abs, am_ex, gset_eq, gset_ne, upd_eq, upd_ne, gset_gset, am_ci_1, am_ci_6, am_toList_some, am_toList_none, true_implies, false_implies, and_self, and_true, true_and, not_true_eq_false, not_false_eq_true, imp_self, implies_true, Classical.not_not, if_true, if_false, false_and, and_false, or_false, false_or, true_or, or_true, Nat.reduceAdd, Nat.reduceMul, Nat.reduceSub, Nat.reduceLT, Nat.reduceLeDiff, Nat.reduceEqDiff, Nat.reduceBneDiff, Nat.add_zero, Nat.zero_add, reduceCtorEq, wil0, wal0, wis0, wic0, wil1, wal1, wis1, wic1, wil2, wll2, wal2, wis2, was2, wls2, wic2, wil3, wis3, wic3, wic3m, wic3s, wil4, wis4, wic4, wil5, wis5, wic5, wic5m, wil6, wll6, wal6, wis6, was6, wls6, wic6, wil7, wal7, wis7, was7, wic7, wil8, wis8, wic8, wil9, wis9, wic9, wil10, wis10, wic10, am_nI_inj, am_nI_lt, am_nI_le, nI_add, pk_mul, am_nI_sub, am_add_m1, am_gfs, am_pfs, am_alds, am_asts, am_lens, tgf0, tgf1, tgf2, tgf3, tgf4, tgf5, tgf6, tgf7, tgf8, tgf9, tgf10, tgf11, tgf12, tpf7, tpf8, tpf9, tal0, tas0, tln0, tal1, tas1, tln1, tal2, tas2, tln2, tal3, tas3, tln3, tal4, tas4, tln4, tal5, tas5, tln5, tal6, tas6, tln6, tal7, tas7, tln7, tal8, tas8, tln8, tal9, tas9, tln9, bk20_99, am_B20_61, am_B20_99, bn20_61, c0, hni, hB, C_X4_isPlace, e1, bI_f]
        refine ih (i + 1) (by omega) _ _ ?_ ?_ ?_ ?_
        · intro o ho; rw [gset_ne (by omega)]; exact hf o ho
        · intro p hp8; rw [gset_ne (by omega)]; exact hp p hp8
        · intro j hj
          rw [gset_eq]
          by_cases hji : j = i
          · subst hji; rw [upd_eq, hcc, eP_8]
          · rw [upd_ne hji]; exact hc j (by omega)
        · intro p hp8
          rw [gset_ne (by omega), hn p hp8]
          rw [cntN_s]
          rw [hcc, if_neg (by omega), Nat.add_zero]
      · have e1 : inR (nI c) (nI 0) (nI 7) = true := by rw [inR_nI (by omega) (by omega) (by omega)]; simp; omega
        have hc8 : c < 8 := by omega
        rw [eP_lt h8] at hB
        have hnc := hn c hc8
        simp (config := { maxSteps := 1000000 }) (disch := first | exact am_nl_i | exact am_nl_r | exact am_nl_n | exact am_l0 | exact am_l1 | exact am_l2 | exact am_l3 | assumption | omega) only [wp_ldc, wp_sipush, wp_ldc_w, wp_lconst, wp_iadd, wp_isub, wp_imul, wp_iand, wp_ior, wp_ixor, wp_ishl, wp_ishr, wp_iushr, wp_idiv, wp_irem, wp_ineg, wp_i2b, wp_i2s, wp_i2c, wp_i2l, wp_ladd, wp_lmul, wp_lcmp, wp_dup_i, wp_dup_r, wp_dup2, wp_pop, wp_getfield, wp_putfield, wp_getstatic, wp_iaload, wp_baload, wp_aaload, wp_iastore, wp_arraylength, wp_goto, wp_fall, wp_ieq, wp_ine, wp_ilt, wp_ige, wp_igt, wp_ile, wp_ceq, wp_cne, wp_clt, wp_cge, wp_cgt, wp_cle, wp_sw, wp_ret0, wp_ret1z, wp_ret1o, wp_ret1, wp_ret2, wp_ret3, wp_ret4, wp_ret5, wp_return, wp_min, wp_max, wp_abs, am_ex, gset_eq, gset_ne, upd_eq, upd_ne, gset_gset, am_ci_1, am_ci_6, am_toList_some, am_toList_none, true_implies, false_implies, and_self, and_true, true_and, not_true_eq_false, not_false_eq_true, imp_self, implies_true, Classical.not_not, if_true, if_false, false_and, and_false, or_false, false_or, true_or, or_true, Nat.reduceAdd, Nat.reduceMul, Nat.reduceSub, Nat.reduceLT, Nat.reduceLeDiff, Nat.reduceEqDiff, Nat.reduceBneDiff, Nat.add_zero, Nat.zero_add, reduceCtorEq, wil0, wal0, wis0, wic0, wil1, wal1, wis1, wic1, wil2, wll2, wal2, wis2, was2, wls2, wic2, wil3, wis3, wic3, wic3m, wic3s, wil4, wis4, wic4, wil5, wis5, wic5, wic5m, wil6, wll6, wal6, wis6, was6, wls6, wic6, wil7, wal7, wis7, was7, wic7, wil8, wis8, wic8, wil9, wis9, wic9, wil10, wis10, wic10, am_nI_inj, am_nI_lt, am_nI_le, nI_add, pk_mul, am_nI_sub, am_add_m1, am_gfs, am_pfs, am_alds, am_asts, am_lens, tgf0, tgf1, tgf2, tgf3, tgf4, tgf5, tgf6, tgf7, tgf8, tgf9, tgf10, tgf11, tgf12, tpf7, tpf8, tpf9, tal0, tas0, tln0, tal1, tas1, tln1, tal2, tas2, tln2, tal3, tas3, tln3, tal4, tas4, tln4, tal5, tas5, tln5, tal6, tas6, tln6, tal7, tas7, tln7, tal8, tas8, tln8, tal9, tas9, tln9, bk20_99, am_B20_61, am_B20_99, bn20_61, c0, hni, hB, C_X4_isPlace, e1, e2, bI_t, hnc]
        refine ih (i + 1) (by omega) _ _ ?_ ?_ ?_ ?_
        · intro o ho; rw [gset_ne (by omega), gset_ne (by omega)]; exact hf o ho
        · intro p hp8; rw [gset_ne (by omega), gset_ne (by omega)]; exact hp p hp8
        · intro j hj
          rw [gset_ne (by omega), gset_eq]
          by_cases hji : j = i
          · subst hji; rw [upd_eq, hcc, eP_lt h8]
          · rw [upd_ne hji]; exact hc j (by omega)
        · intro p hp8
          rw [gset_eq]
          rw [cntN_s]
          rw [hcc]
          by_cases hpc : p = c
          · subst hpc; rw [upd_eq, if_pos rfl]
          · rw [upd_ne hpc, if_neg (fun z => hpc z.symm), Nat.add_zero]; exact hn p hp8
  have key1 : ∀ d i : Nat, i + d = n → ∀ (G' : GG) (x : Option Value), (∀ o, ¬ (b + 8 ≤ o ∧ o ≤ b + 10) → G' o = G o) → (∀ p, p < 8 → G' (b + 8) p = nI (cntN (T 2) p i)) → (∀ p, p < 8 → G' (b + 10) p = nI 0) → WP X 20 (am_blk 20 18) [some (.ref b), some (.int (nI i)), x] [] G' Q := by
    intro d
    induction d with
    | zero =>
      intro i hi G' x hf hp hn
      obtain rfl : i = n := by omega
      have hE' : TE G' b i T t z := TE_congr hE (fun o h1 h2 => hf o (by omega))
      have c0 := hE'.1
      rw [bh20_18]
      simp (config := { maxSteps := 1000000 }) (disch := first | exact am_nl_i | exact am_nl_r | exact am_nl_n | exact am_l0 | exact am_l1 | exact am_l2 | exact am_l3 | assumption | omega) only [wp_ldc, wp_sipush, wp_ldc_w, wp_lconst, wp_iadd, wp_isub, wp_imul, wp_iand, wp_ior, wp_ixor, wp_ishl, wp_ishr, wp_iushr, wp_idiv, wp_irem, wp_ineg, wp_i2b, wp_i2s, wp_i2c, wp_i2l, wp_ladd, wp_lmul, wp_lcmp, wp_dup_i, wp_dup_r, wp_dup2, wp_pop, wp_getfield, wp_putfield, wp_getstatic, wp_iaload, wp_baload, wp_aaload, wp_iastore, wp_arraylength, wp_goto, wp_fall, wp_ieq, wp_ine, wp_ilt, wp_ige, wp_igt, wp_ile, wp_ceq, wp_cne, wp_clt, wp_cge, wp_cgt, wp_cle, wp_sw, wp_ret0, wp_ret1z, wp_ret1o, wp_ret1, wp_ret2, wp_ret3, wp_ret4, wp_ret5, wp_return, wp_min, wp_max, wp_abs, am_ex, gset_eq, gset_ne, upd_eq, upd_ne, gset_gset, am_ci_1, am_ci_6, am_toList_some, am_toList_none, true_implies, false_implies, and_self, and_true, true_and, not_true_eq_false, not_false_eq_true, imp_self, implies_true, Classical.not_not, if_true, if_false, false_and, and_false, or_false, false_or, true_or, or_true, Nat.reduceAdd, Nat.reduceMul, Nat.reduceSub, Nat.reduceLT, Nat.reduceLeDiff, Nat.reduceEqDiff, Nat.reduceBneDiff, Nat.add_zero, Nat.zero_add, reduceCtorEq, wil0, wal0, wis0, wic0, wil1, wal1, wis1, wic1, wil2, wll2, wal2, wis2, was2, wls2, wic2, wil3, wis3, wic3, wic3m, wic3s, wil4, wis4, wic4, wil5, wis5, wic5, wic5m, wil6, wll6, wal6, wis6, was6, wls6, wic6, wil7, wal7, wis7, was7, wic7, wil8, wis8, wic8, wil9, wis9, wic9, wil10, wis10, wic10, am_nI_inj, am_nI_lt, am_nI_le, nI_add, pk_mul, am_nI_sub, am_add_m1, am_gfs, am_pfs, am_alds, am_asts, am_lens, tgf0, tgf1, tgf2, tgf3, tgf4, tgf5, tgf6, tgf7, tgf8, tgf9, tgf10, tgf11, tgf12, tpf7, tpf8, tpf9, tal0, tas0, tln0, tal1, tas1, tln1, tal2, tas2, tln2, tal3, tas3, tln3, tal4, tas4, tln4, tal5, tas5, tln5, tal6, tas6, tln6, tal7, tas7, tln7, tal8, tas8, tln8, tal9, tas9, tln9, bk20_59, am_B20_18, am_B20_59, bn20_61, c0, Nat.le_refl]
      exact key2 i 0 (by omega) _ _ hf hp (fun j hj => absurd hj (Nat.not_lt_zero j)) hn
    | succ d ih =>
      intro i hi G' x hf hp hn
      have hE' : TE G' b n T t z := TE_congr hE (fun o h1 h2 => hf o (by omega))
      have c0 := hE'.1
      have hin : i < n := by omega
      have hi8 : i < 8 := by omega
      have hni : (n ≤ i) = False := eq_false (by omega)
      have hcl := (v3 i hin).2.1
      have e2 : (nI 1 = nI 0) = False := eq_false (by decide)
      have c5 := hE'.2.2.2.2.2.1 i hin
      rw [bh20_18]
      generalize hcc : T 2 i = c at hcl c5
      by_cases h8 : c = 8
      · subst h8
        have e1 : inR nM (nI 0) (nI 7) = false := by decide
        rw [eP_8] at c5
        simp (config := { maxSteps := 1000000 }) (disch := first | exact am_nl_i | exact am_nl_r | exact am_nl_n | exact am_l0 | exact am_l1 | exact am_l2 | exact am_l3 | assumption | omega) only [wp_ldc, wp_sipush, wp_ldc_w, wp_lconst, wp_iadd, wp_isub, wp_imul, wp_iand, wp_ior, wp_ixor, wp_ishl, wp_ishr, wp_iushr, wp_idiv, wp_irem, wp_ineg, wp_i2b, wp_i2s, wp_i2c, wp_i2l, wp_ladd, wp_lmul, wp_lcmp, wp_dup_i, wp_dup_r, wp_dup2, wp_pop, wp_getfield, wp_putfield, wp_getstatic, wp_iaload, wp_baload, wp_aaload, wp_iastore, wp_arraylength, wp_goto, wp_fall, wp_ieq, wp_ine, wp_ilt, wp_ige, wp_igt, wp_ile, wp_ceq, wp_cne, wp_clt, wp_cge, wp_cgt, wp_cle, wp_sw, wp_ret0, wp_ret1z, wp_ret1o, wp_ret1, wp_ret2, wp_ret3, wp_ret4, wp_ret5, wp_return, wp_min, wp_max, wp_abs, am_ex, gset_eq, gset_ne, upd_eq, upd_ne, gset_gset, am_ci_1, am_ci_6, am_toList_some, am_toList_none, true_implies, false_implies, and_self, and_true, true_and, not_true_eq_false, not_false_eq_true, imp_self, implies_true, Classical.not_not, if_true, if_false, false_and, and_false, or_false, false_or, true_or, or_true, Nat.reduceAdd, Nat.reduceMul, Nat.reduceSub, Nat.reduceLT, Nat.reduceLeDiff, Nat.reduceEqDiff, Nat.reduceBneDiff, Nat.add_zero, Nat.zero_add, reduceCtorEq, wil0, wal0, wis0, wic0, wil1, wal1, wis1, wic1, wil2, wll2, wal2, wis2, was2, wls2, wic2, wil3, wis3, wic3, wic3m, wic3s, wil4, wis4, wic4, wil5, wis5, wic5, wic5m, wil6, wll6, wal6, wis6, was6, wls6, wic6, wil7, wal7, wis7, was7, wic7, wil8, wis8, wic8, wil9, wis9, wic9, wil10, wis10, wic10, am_nI_inj, am_nI_lt, am_nI_le, nI_add, pk_mul, am_nI_sub, am_add_m1, am_gfs, am_pfs, am_alds, am_asts, am_lens, tgf0, tgf1, tgf2, tgf3, tgf4, tgf5, tgf6, tgf7, tgf8, tgf9, tgf10, tgf11, tgf12, tpf7, tpf8, tpf9, tal0, tas0, tln0, tal1, tas1, tln1, tal2, tas2, tln2, tal3, tas3, tln3, tal4, tas4, tln4, tal5, tas5, tln5, tal6, tas6, tln6, tal7, tas7, tln7, tal8, tas8, tln8, tal9, tas9, tln9, bk20_53, am_B20_18, am_B20_53, bn20_18, c0, hni, c5, C_X4_isPlace, e1, bI_f]
        refine ih (i + 1) (by omega) _ _ hf ?_ hn
        intro p hp8
        rw [hp p hp8]
        rw [cntN_s]
        rw [hcc, if_neg (by omega), Nat.add_zero]
      · have e1 : inR (nI c) (nI 0) (nI 7) = true := by rw [inR_nI (by omega) (by omega) (by omega)]; simp; omega
        have hc8 : c < 8 := by omega
        rw [eP_lt h8] at c5
        have hnc := hp c hc8
        simp (config := { maxSteps := 1000000 }) (disch := first | exact am_nl_i | exact am_nl_r | exact am_nl_n | exact am_l0 | exact am_l1 | exact am_l2 | exact am_l3 | assumption | omega) only [wp_ldc, wp_sipush, wp_ldc_w, wp_lconst, wp_iadd, wp_isub, wp_imul, wp_iand, wp_ior, wp_ixor, wp_ishl, wp_ishr, wp_iushr, wp_idiv, wp_irem, wp_ineg, wp_i2b, wp_i2s, wp_i2c, wp_i2l, wp_ladd, wp_lmul, wp_lcmp, wp_dup_i, wp_dup_r, wp_dup2, wp_pop, wp_getfield, wp_putfield, wp_getstatic, wp_iaload, wp_baload, wp_aaload, wp_iastore, wp_arraylength, wp_goto, wp_fall, wp_ieq, wp_ine, wp_ilt, wp_ige, wp_igt, wp_ile, wp_ceq, wp_cne, wp_clt, wp_cge, wp_cgt, wp_cle, wp_sw, wp_ret0, wp_ret1z, wp_ret1o, wp_ret1, wp_ret2, wp_ret3, wp_ret4, wp_ret5, wp_return, wp_min, wp_max, wp_abs, am_ex, gset_eq, gset_ne, upd_eq, upd_ne, gset_gset, am_ci_1, am_ci_6, am_toList_some, am_toList_none, true_implies, false_implies, and_self, and_true, true_and, not_true_eq_false, not_false_eq_true, imp_self, implies_true, Classical.not_not, if_true, if_false, false_and, and_false, or_false, false_or, true_or, or_true, Nat.reduceAdd, Nat.reduceMul, Nat.reduceSub, Nat.reduceLT, Nat.reduceLeDiff, Nat.reduceEqDiff, Nat.reduceBneDiff, Nat.add_zero, Nat.zero_add, reduceCtorEq, wil0, wal0, wis0, wic0, wil1, wal1, wis1, wic1, wil2, wll2, wal2, wis2, was2, wls2, wic2, wil3, wis3, wic3, wic3m, wic3s, wil4, wis4, wic4, wil5, wis5, wic5, wic5m, wil6, wll6, wal6, wis6, was6, wls6, wic6, wil7, wal7, wis7, was7, wic7, wil8, wis8, wic8, wil9, wis9, wic9, wil10, wis10, wic10, am_nI_inj, am_nI_lt, am_nI_le, nI_add, pk_mul, am_nI_sub, am_add_m1, am_gfs, am_pfs, am_alds, am_asts, am_lens, tgf0, tgf1, tgf2, tgf3, tgf4, tgf5, tgf6, tgf7, tgf8, tgf9, tgf10, tgf11, tgf12, tpf7, tpf8, tpf9, tal0, tas0, tln0, tal1, tas1, tln1, tal2, tas2, tln2, tal3, tas3, tln3, tal4, tas4, tln4, tal5, tas5, tln5, tal6, tas6, tln6, tal7, tas7, tln7, tal8, tas8, tln8, tal9, tas9, tln9, bk20_53, am_B20_18, am_B20_53, bn20_18, c0, hni, c5, C_X4_isPlace, e1, e2, bI_t, hnc]
        refine ih (i + 1) (by omega) _ _ ?_ ?_ ?_
        · intro o ho; rw [gset_ne (by omega)]; exact hf o ho
        · intro p hp8
          rw [gset_eq]
          rw [cntN_s]
          rw [hcc]
          by_cases hpc : p = c
          · subst hpc; rw [upd_eq, if_pos rfl]
          · rw [upd_ne hpc, if_neg (fun z => hpc z.symm), Nat.add_zero]; exact hp p hp8
        · intro p hp8; rw [gset_ne (by omega)]; exact hn p hp8
  have hF1 := fun (G : GG) (st : List Value) (r : List Instr) (lv : LV) (Q : Option Value → GG → Prop) (hl : st.length ≤ 4) => C_J7_fill (X := X) (G := G) (k := 20) (st := st) (r := r) (lv := lv) (Q := Q) (o := b + 8) (n := 8) (v := nI 0) (tsh7 hb) (by decide) (by omega) hl
  have hF2 := fun (G : GG) (st : List Value) (r : List Instr) (lv : LV) (Q : Option Value → GG → Prop) (hl : st.length ≤ 4) => C_J7_fill (X := X) (G := G) (k := 20) (st := st) (r := r) (lv := lv) (Q := Q) (o := b + 10) (n := 8) (v := nI 0) (tsh9 hb) (by decide) (by omega) hl
  simp (config := { maxSteps := 1000000 }) (disch := first | exact am_nl_i | exact am_nl_r | exact am_nl_n | exact am_l0 | exact am_l1 | exact am_l2 | exact am_l3 | assumption | omega) only [wp_ldc, wp_sipush, wp_ldc_w, wp_lconst, wp_iadd, wp_isub, wp_imul, wp_iand, wp_ior, wp_ixor, wp_ishl, wp_ishr, wp_iushr, wp_idiv, wp_irem, wp_ineg, wp_i2b, wp_i2s, wp_i2c, wp_i2l, wp_ladd, wp_lmul, wp_lcmp, wp_dup_i, wp_dup_r, wp_dup2, wp_pop, wp_getfield, wp_putfield, wp_getstatic, wp_iaload, wp_baload, wp_aaload, wp_iastore, wp_arraylength, wp_goto, wp_fall, wp_ieq, wp_ine, wp_ilt, wp_ige, wp_igt, wp_ile, wp_ceq, wp_cne, wp_clt, wp_cge, wp_cgt, wp_cle, wp_sw, wp_ret0, wp_ret1z, wp_ret1o, wp_ret1, wp_ret2, wp_ret3, wp_ret4, wp_ret5, wp_return, wp_min, wp_max, wp_abs, am_ex, gset_eq, gset_ne, upd_eq, upd_ne, gset_gset, am_ci_1, am_ci_6, am_toList_some, am_toList_none, true_implies, false_implies, and_self, and_true, true_and, not_true_eq_false, not_false_eq_true, imp_self, implies_true, Classical.not_not, if_true, if_false, false_and, and_false, or_false, false_or, true_or, or_true, Nat.reduceAdd, Nat.reduceMul, Nat.reduceSub, Nat.reduceLT, Nat.reduceLeDiff, Nat.reduceEqDiff, Nat.reduceBneDiff, Nat.add_zero, Nat.zero_add, reduceCtorEq, wil0, wal0, wis0, wic0, wil1, wal1, wis1, wic1, wil2, wll2, wal2, wis2, was2, wls2, wic2, wil3, wis3, wic3, wic3m, wic3s, wil4, wis4, wic4, wil5, wis5, wic5, wic5m, wil6, wll6, wal6, wis6, was6, wls6, wic6, wil7, wal7, wis7, was7, wic7, wil8, wis8, wic8, wil9, wis9, wic9, wil10, wis10, wic10, am_nI_inj, am_nI_lt, am_nI_le, nI_add, pk_mul, am_nI_sub, am_add_m1, am_gfs, am_pfs, am_alds, am_asts, am_lens, tgf0, tgf1, tgf2, tgf3, tgf4, tgf5, tgf6, tgf7, tgf8, tgf9, tgf10, tgf11, tgf12, tpf7, tpf8, tpf9, tal0, tas0, tln0, tal1, tas1, tln1, tal2, tas2, tln2, tal3, tas3, tln3, tal4, tas4, tln4, tal5, tas5, tln5, tal6, tas6, tln6, tal7, tas7, tln7, tal8, tas8, tln8, tal9, tas9, tln9, bk20_0, am_B20_0, bn20_18, hF1, hF2]
  refine key1 n 0 (by omega) _ _ ?_ ?_ ?_
  · intro o ho; rw [gset_ne (by omega), gset_ne (by omega)]
  · intro p hp8; rw [gset_ne (by omega), gset_eq]; unfold flt; rw [if_pos hp8]; rfl
  · intro p hp8; rw [gset_eq]; unfold flt; rw [if_pos hp8]
