/-! ===== the class's town: Tuesdays, copies, traits ===== -/
theorem TB.sep {b b2 : Nat} (h : TB b) (h2 : TB b2) (hne : b ≠ b2) : b2 + 11 ≤ b ∨ b + 11 ≤ b2 := by
  unfold TB at h h2; omega
theorem E_X3_getsNowW {X : AmX} {G : GG} (b n i : Nat) (T : TT) (hb : TB b) (a3 : ∀ p, p < 8 → G (b + 1) p = nI (T 0 p)) (hV : TV n T) (hS : SE G b n T) (hi : i < n) : Ev X 46 [.ref b, .int (nI i)] G (some (.int (nI (getN T n i)))) (G) := by
  have hb5 : b < 500 := hb.lt
  refine Ev_of ?_
  show WP X 46 (am_blk 46 0) [some (.ref b), some (.int (nI i)), none] [] G _
  obtain ⟨v1, v2, v3, v4⟩ := hV
  obtain ⟨s1, s2, s3⟩ := hS
  have hi8 : i < 8 := by omega
  have f1 := s2 i hi
  have hcl := chN_le (T := T) (n := n) (i := i) (v3 i hi).2.1
  unfold getN
  generalize chN T n i = c at f1 hcl
  by_cases h8 : c = 8
  · subst h8
    rw [eP_8] at f1
    have e1 : inR nM (nI 0) (nI 7) = false := by decide
    simp (config := { maxSteps := 1000000 }) (disch := first | exact am_nl_i | exact am_nl_r | exact am_nl_n | exact am_l0 | exact am_l1 | exact am_l2 | exact am_l3 | assumption | omega) only [wp_ldc, wp_sipush, wp_ldc_w, wp_lconst, wp_iadd, wp_isub, wp_imul, wp_iand, wp_ior, wp_ixor, wp_ishl, wp_ishr, wp_iushr, wp_idiv, wp_irem, wp_ineg, wp_i2b, wp_i2s, wp_i2c, wp_i2l, wp_ladd, wp_lmul, wp_lcmp, wp_dup_i, wp_dup_r, wp_dup2, wp_pop, wp_getfield, wp_putfield, wp_getstatic, wp_iaload, wp_baload, wp_aaload, wp_iastore, wp_arraylength, wp_goto, wp_fall, wp_ieq, wp_ine, wp_ilt, wp_ige, wp_igt, wp_ile, wp_ceq, wp_cne, wp_clt, wp_cge, wp_cgt, wp_cle, wp_sw, wp_ret0, wp_ret1z, wp_ret1o, wp_ret1, wp_ret2, wp_ret3, wp_ret4, wp_ret5, wp_return, wp_min, wp_max, wp_abs, am_ex, gset_eq, gset_ne, upd_eq, upd_ne, gset_gset, am_ci_1, am_ci_6, am_toList_some, am_toList_none, true_implies, false_implies, and_self, and_true, true_and, not_true_eq_false, not_false_eq_true, imp_self, implies_true, Classical.not_not, if_true, if_false, false_and, and_false, or_false, false_or, true_or, or_true, Nat.reduceAdd, Nat.reduceMul, Nat.reduceSub, Nat.reduceLT, Nat.reduceLeDiff, Nat.reduceEqDiff, Nat.reduceBneDiff, Nat.add_zero, Nat.zero_add, reduceCtorEq, wil0, wal0, wis0, wic0, wil1, wal1, wis1, wic1, wil2, wll2, wal2, wis2, was2, wls2, wic2, wil3, wis3, wic3, wic3m, wic3s, wil4, wis4, wic4, wil5, wis5, wic5, wic5m, wil6, wll6, wal6, wis6, was6, wls6, wic6, wil7, wal7, wis7, was7, wic7, wil8, wis8, wic8, wil9, wis9, wic9, wil10, wis10, wic10, am_nI_inj, am_nI_lt, am_nI_le, nI_add, pk_mul, am_nI_sub, am_add_m1, am_gfs, am_pfs, am_alds, am_asts, am_lens, tgf0, tgf1, tgf2, tgf3, tgf4, tgf5, tgf6, tgf7, tgf8, tgf9, tgf10, tgf11, tgf12, tpf7, tpf8, tpf9, tal0, tas0, tln0, tal1, tas1, tln1, tal2, tas2, tln2, tal3, tas3, tln3, tal4, tas4, tln4, tal5, tas5, tln5, tal6, tas6, tln6, tal7, tas7, tln7, tal8, tas8, tln8, tal9, tas9, tln9, bs46, am_B46_0, am_B46_32, am_B46_33, f1, C_X4_isPlace, e1, bI_f]
  · rw [eP_lt h8] at f1
    have hc8 : c < 8 := by omega
    have f2 := s3 c hc8
    have f3 := a3 c hc8
    have e1 : inR (nI c) (nI 0) (nI 7) = true := by rw [inR_nI (by omega) (by omega) (by omega)]; simp; omega
    have e2 : (nI 1 = nI 0) = False := eq_false (by decide)
    have hcc := ccN_le T n c
    have hpz := v2 c hc8
    have hsh := fun (st : List Value) (r : List Instr) (lv : LV) (Q : Option Value → GG → Prop) (hl : st.length ≤ 4) => C_X4_shareOf (X := X) (G := G) (k := 46) (st := st) (r := r) (lv := lv) (Q := Q) (x := nI (T 0 c)) (m := ccN T n c) (by omega) hl
    rw [share_nat (by omega) (by omega)] at hsh
    simp (config := { maxSteps := 1000000 }) (disch := first | exact am_nl_i | exact am_nl_r | exact am_nl_n | exact am_l0 | exact am_l1 | exact am_l2 | exact am_l3 | assumption | omega) only [wp_ldc, wp_sipush, wp_ldc_w, wp_lconst, wp_iadd, wp_isub, wp_imul, wp_iand, wp_ior, wp_ixor, wp_ishl, wp_ishr, wp_iushr, wp_idiv, wp_irem, wp_ineg, wp_i2b, wp_i2s, wp_i2c, wp_i2l, wp_ladd, wp_lmul, wp_lcmp, wp_dup_i, wp_dup_r, wp_dup2, wp_pop, wp_getfield, wp_putfield, wp_getstatic, wp_iaload, wp_baload, wp_aaload, wp_iastore, wp_arraylength, wp_goto, wp_fall, wp_ieq, wp_ine, wp_ilt, wp_ige, wp_igt, wp_ile, wp_ceq, wp_cne, wp_clt, wp_cge, wp_cgt, wp_cle, wp_sw, wp_ret0, wp_ret1z, wp_ret1o, wp_ret1, wp_ret2, wp_ret3, wp_ret4, wp_ret5, wp_return, wp_min, wp_max, wp_abs, am_ex, gset_eq, gset_ne, upd_eq, upd_ne, gset_gset, am_ci_1, am_ci_6, am_toList_some, am_toList_none, true_implies, false_implies, and_self, and_true, true_and, not_true_eq_false, not_false_eq_true, imp_self, implies_true, Classical.not_not, if_true, if_false, false_and, and_false, or_false, false_or, true_or, or_true, Nat.reduceAdd, Nat.reduceMul, Nat.reduceSub, Nat.reduceLT, Nat.reduceLeDiff, Nat.reduceEqDiff, Nat.reduceBneDiff, Nat.add_zero, Nat.zero_add, reduceCtorEq, wil0, wal0, wis0, wic0, wil1, wal1, wis1, wic1, wil2, wll2, wal2, wis2, was2, wls2, wic2, wil3, wis3, wic3, wic3m, wic3s, wil4, wis4, wic4, wil5, wis5, wic5, wic5m, wil6, wll6, wal6, wis6, was6, wls6, wic6, wil7, wal7, wis7, was7, wic7, wil8, wis8, wic8, wil9, wis9, wic9, wil10, wis10, wic10, am_nI_inj, am_nI_lt, am_nI_le, nI_add, pk_mul, am_nI_sub, am_add_m1, am_gfs, am_pfs, am_alds, am_asts, am_lens, tgf0, tgf1, tgf2, tgf3, tgf4, tgf5, tgf6, tgf7, tgf8, tgf9, tgf10, tgf11, tgf12, tpf7, tpf8, tpf9, tal0, tas0, tln0, tal1, tas1, tln1, tal2, tas2, tln2, tal3, tas3, tln3, tal4, tas4, tln4, tal5, tas5, tln5, tal6, tas6, tln6, tal7, tas7, tln7, tal8, tas8, tln8, tal9, tas9, tln9, bs46, am_B46_0, am_B46_32, am_B46_33, f1, f2, f3, C_X4_isPlace, e1, e2, bI_t, hsh, h8]
theorem C_X3_getsNowW {X : AmX} {G : GG} {k : Nat} {r : List Instr} {lv : LV} {st : List Value} {Q : Option Value → GG → Prop} {b n i : Nat} {T : TT} (hb : TB b) (a3 : ∀ p, p < 8 → G (b + 1) p = nI (T 0 p)) (hV : TV n T) (hS : SE G b n T) (hi : i < n) (hl : st.length ≤ 4) : WP X k (.invokeinterface 46 2 :: r) lv ((.int (nI i)) :: (.ref b) :: st) G Q ↔ WP X k r lv ((.int (nI (getN T n i))) :: st) (G) Q := WP_ev (E_X3_getsNowW b n i T hb a3 hV hS hi) (by decide) rfl rfl hl (am_rcv_of rfl (tcls hb))
theorem X3_passTuesdays {X : AmX} {G : GG} (k b n : Nat) (T : TT) (t : Nat) (z : Int32) (hb : TB b) (hE : TE G b n T t z) (hV : TV n T) (ht : t ≤ 99999) (hk : k < 2 ^ 30) : ∃ G1, Ev X 64 [.ref b, .int (nI k)] G none G1 ∧ TE G1 b n (runN n k T) (min 99999 (t + k)) z ∧ (∀ o, ¬ (b ≤ o ∧ o ≤ b + 10) → G1 o = G o) ∧ ∀ j, k = j + 1 → ∀ p, p < 8 → G1 (b + 10) p = nI (ccN (runN n j T) n p) := by
  suffices h : WPm X 64 [.ref b, .int (nI k)] G (fun v G1 => v = none ∧ TE G1 b n (runN n k T) (min 99999 (t + k)) z ∧ (∀ o, ¬ (b ≤ o ∧ o ≤ b + 10) → G1 o = G o) ∧ ∀ j, k = j + 1 → ∀ p, p < 8 → G1 (b + 10) p = nI (ccN (runN n j T) n p)) by
    obtain ⟨v, G1, h1, rfl, h2⟩ := WPm_ev h
    exact ⟨G1, h1, h2⟩
  have hb5 : b < 500 := hb.lt
  have v1 := hV.1
  show WP X 64 (am_blk 64 0) [some (.ref b), some (.int (nI k)), none, none] [] G _
  generalize hQ : (fun (v : Option Value) (G1 : GG) => v = none ∧ TE G1 b n (runN n k T) (min 99999 (t + k)) z ∧ (∀ o, ¬ (b ≤ o ∧ o ≤ b + 10) → G1 o = G o) ∧ ∀ j, k = j + 1 → ∀ p, p < 8 → G1 (b + 10) p = nI (ccN (runN n j T) n p)) = Q
  -- the plans
  have key3 : ∀ (U : TT) (t' : Nat) (G2 : GG) (i : Nat) (R : Prop), TV n U → t' ≤ 99999 → TE G2 b n U t' z → SE G2 b n U → i < 2 ^ 30 → (∀ (G' : GG) (x : Option Value), TE G' b n (stepN n U) (min 99999 (t' + 1)) z → (∀ o, ¬ (b ≤ o ∧ o ≤ b + 10) → G' o = G2 o) → (∀ p, p < 8 → G' (b + 10) p = nI (ccN U n p)) → WP X 64 (am_blk 64 2) [some (.ref b), some (.int (nI k)), some (.int (nI (i + 1))), x] [] G' Q) → ∀ d i3 : Nat, i3 + d = n → ∀ G3 : GG, (∀ o, ¬ o = b + 6 → ¬ o = b + 3 → G3 o = G2 o) → (∀ j, j < n → G3 (b + 6) j = nI (min 99999 (U 5 j + getN U n j))) → (∀ j, j < n → G3 (b + 3) j = if j < i3 ∧ ¬ (U 1 j = 5 ∨ U 1 j = 6) then eP (chN U n j) else eP (U 2 j)) → WP X 64 (am_blk 64 52) [some (.ref b), some (.int (nI k)), some (.int (nI i)), some (.int (nI i3))] [] G3 Q := by
    intro U t' G2 i R hVU ht' hEU hSU hi30 hcont d
    obtain ⟨v1, v2, v3, v4⟩ := id hVU
    obtain ⟨a0, a1, a2, a3, a4, a5, a6, a7, a8, a9⟩ := id hEU
    obtain ⟨s1, s2, s3⟩ := id hSU
    induction d with
    | zero =>
      intro i3 hi3 G3 hf hg hp
      obtain rfl : i3 = n := by omega
      have c0 : G3 b 7 = nI i3 := by rw [hf b (by omega) (by omega)]; exact a0
      have c1 : G3 b 8 = nI t' := by rw [hf b (by omega) (by omega)]; exact a1
      have m1 : (if t' + 1 < 99999 then nI (t' + 1) else nI 99999) = nI (min 99999 (t' + 1)) := by
        by_cases h : t' + 1 < 99999
        · rw [if_pos h, show min 99999 (t' + 1) = t' + 1 by omega]
        · rw [if_neg h, show min 99999 (t' + 1) = 99999 by omega]
      rw [bh64_52]
      simp (config := { maxSteps := 1000000 }) (disch := first | exact am_nl_i | exact am_nl_r | exact am_nl_n | exact am_l0 | exact am_l1 | exact am_l2 | exact am_l3 | assumption | omega) only [wp_ldc, wp_sipush, wp_ldc_w, wp_lconst, wp_iadd, wp_isub, wp_imul, wp_iand, wp_ior, wp_ixor, wp_ishl, wp_ishr, wp_iushr, wp_idiv, wp_irem, wp_ineg, wp_i2b, wp_i2s, wp_i2c, wp_i2l, wp_ladd, wp_lmul, wp_lcmp, wp_dup_i, wp_dup_r, wp_dup2, wp_pop, wp_getfield, wp_putfield, wp_getstatic, wp_iaload, wp_baload, wp_aaload, wp_iastore, wp_arraylength, wp_goto, wp_fall, wp_ieq, wp_ine, wp_ilt, wp_ige, wp_igt, wp_ile, wp_ceq, wp_cne, wp_clt, wp_cge, wp_cgt, wp_cle, wp_sw, wp_ret0, wp_ret1z, wp_ret1o, wp_ret1, wp_ret2, wp_ret3, wp_ret4, wp_ret5, wp_return, wp_min, wp_max, wp_abs, am_ex, gset_eq, gset_ne, upd_eq, upd_ne, gset_gset, am_ci_1, am_ci_6, am_toList_some, am_toList_none, true_implies, false_implies, and_self, and_true, true_and, not_true_eq_false, not_false_eq_true, imp_self, implies_true, Classical.not_not, if_true, if_false, false_and, and_false, or_false, false_or, true_or, or_true, Nat.reduceAdd, Nat.reduceMul, Nat.reduceSub, Nat.reduceLT, Nat.reduceLeDiff, Nat.reduceEqDiff, Nat.reduceBneDiff, Nat.add_zero, Nat.zero_add, reduceCtorEq, wil0, wal0, wis0, wic0, wil1, wal1, wis1, wic1, wil2, wll2, wal2, wis2, was2, wls2, wic2, wil3, wis3, wic3, wic3m, wic3s, wil4, wis4, wic4, wil5, wis5, wic5, wic5m, wil6, wll6, wal6, wis6, was6, wls6, wic6, wil7, wal7, wis7, was7, wic7, wil8, wis8, wic8, wil9, wis9, wic9, wil10, wis10, wic10, am_nI_inj, am_nI_lt, am_nI_le, nI_add, pk_mul, am_nI_sub, am_add_m1, am_gfs, am_pfs, am_alds, am_asts, am_lens, tgf0, tgf1, tgf2, tgf3, tgf4, tgf5, tgf6, tgf7, tgf8, tgf9, tgf10, tgf11, tgf12, tpf7, tpf8, tpf9, tal0, tas0, tln0, tal1, tas1, tln1, tal2, tas2, tln2, tal3, tas3, tln3, tal4, tas4, tln4, tal5, tas5, tln5, tal6, tas6, tln6, tal7, tas7, tln7, tal8, tas8, tln8, tal9, tas9, tln9, bk64_99, am_B64_52, am_B64_99, bn64_2, c0, c1, Nat.le_refl, m1]
      refine hcont _ _ ?_ ?_ ?_
      · refine ⟨?_, ?_, ?_, fun p hp8 => ?_, fun j hj => ?_, fun j hj => ?_, fun j hj => ?_, fun j hj => ?_, fun j hj => ?_, fun j hj => ?_⟩
        · rw [gset_eq, upd_ne (by omega)]; exact c0
        · rw [gset_eq, upd_eq]
        · rw [gset_eq, upd_ne (by omega), hf b (by omega) (by omega)]; exact a2
        · rw [gset_ne (by omega), hf (b + 1) (by omega) (by omega)]; exact a3 p hp8
        · rw [gset_ne (by omega), hf (b + 2) (by omega) (by omega)]; exact a4 j hj
        · rw [gset_ne (by omega), hp j hj]
          simp only [stepN, hj, true_and, show ¬ ((2 : Nat) = 5) by decide, false_and, if_false, and_self, if_true]
          by_cases hk56 : U 1 j = 5 ∨ U 1 j = 6
          · rw [if_neg (fun z => z hk56), if_pos hk56]
          · rw [if_pos hk56, if_neg hk56]
        · rw [gset_ne (by omega), hf (b + 4) (by omega) (by omega)]; exact a6 j hj
        · rw [gset_ne (by omega), hf (b + 5) (by omega) (by omega)]; exact a7 j hj
        · rw [gset_ne (by omega), hg j hj]
          simp only [stepN, hj, and_self, if_true]
        · rw [gset_ne (by omega), hf (b + 7) (by omega) (by omega)]; exact a9 j hj
      · intro o ho
        rw [gset_ne (by omega)]; exact hf o (by omega) (by omega)
      · intro p hp8
        rw [gset_ne (by omega), hf (b + 10) (by omega) (by omega)]; exact s3 p hp8
    | succ d ih =>
      intro i3 hi3 G3 hf hg hp
      have hin : i3 < n := by omega
      have hi8 : i3 < 8 := by omega
      have hni : (n ≤ i3) = False := eq_false (by omega)
      have c0 : G3 b 7 = nI n := by rw [hf b (by omega) (by omega)]; exact a0
      have c1 : G3 (b + 2) i3 = nI (U 1 i3) := by rw [hf (b + 2) (by omega) (by omega)]; exact a4 i3 hin
      have c2 : G3 (b + 9) i3 = eP (chN U n i3) := by rw [hf (b + 9) (by omega) (by omega)]; exact s2 i3 hin
      have hkl := (v3 i3 hin).1
      rw [bh64_52]
      by_cases h5 : U 1 i3 = 5
      · rw [h5] at c1
        simp (config := { maxSteps := 1000000 }) (disch := first | exact am_nl_i | exact am_nl_r | exact am_nl_n | exact am_l0 | exact am_l1 | exact am_l2 | exact am_l3 | assumption | omega) only [wp_ldc, wp_sipush, wp_ldc_w, wp_lconst, wp_iadd, wp_isub, wp_imul, wp_iand, wp_ior, wp_ixor, wp_ishl, wp_ishr, wp_iushr, wp_idiv, wp_irem, wp_ineg, wp_i2b, wp_i2s, wp_i2c, wp_i2l, wp_ladd, wp_lmul, wp_lcmp, wp_dup_i, wp_dup_r, wp_dup2, wp_pop, wp_getfield, wp_putfield, wp_getstatic, wp_iaload, wp_baload, wp_aaload, wp_iastore, wp_arraylength, wp_goto, wp_fall, wp_ieq, wp_ine, wp_ilt, wp_ige, wp_igt, wp_ile, wp_ceq, wp_cne, wp_clt, wp_cge, wp_cgt, wp_cle, wp_sw, wp_ret0, wp_ret1z, wp_ret1o, wp_ret1, wp_ret2, wp_ret3, wp_ret4, wp_ret5, wp_return, wp_min, wp_max, wp_abs, am_ex, gset_eq, gset_ne, upd_eq, upd_ne, gset_gset, am_ci_1, am_ci_6, am_toList_some, am_toList_none, true_implies, false_implies, and_self, and_true, true_and, not_true_eq_false, not_false_eq_true, imp_self, implies_true, Classical.not_not, if_true, if_false, false_and, and_false, or_false, false_or, true_or, or_true, Nat.reduceAdd, Nat.reduceMul, Nat.reduceSub, Nat.reduceLT, Nat.reduceLeDiff, Nat.reduceEqDiff, Nat.reduceBneDiff, Nat.add_zero, Nat.zero_add, reduceCtorEq, wil0, wal0, wis0, wic0, wil1, wal1, wis1, wic1, wil2, wll2, wal2, wis2, was2, wls2, wic2, wil3, wis3, wic3, wic3m, wic3s, wil4, wis4, wic4, wil5, wis5, wic5, wic5m, wil6, wll6, wal6, wis6, was6, wls6, wic6, wil7, wal7, wis7, was7, wic7, wil8, wis8, wic8, wil9, wis9, wic9, wil10, wis10, wic10, am_nI_inj, am_nI_lt, am_nI_le, nI_add, pk_mul, am_nI_sub, am_add_m1, am_gfs, am_pfs, am_alds, am_asts, am_lens, tgf0, tgf1, tgf2, tgf3, tgf4, tgf5, tgf6, tgf7, tgf8, tgf9, tgf10, tgf11, tgf12, tpf7, tpf8, tpf9, tal0, tas0, tln0, tal1, tas1, tln1, tal2, tas2, tln2, tal3, tas3, tln3, tal4, tas4, tln4, tal5, tas5, tln5, tal6, tas6, tln6, tal7, tas7, tln7, tal8, tas8, tln8, tal9, tas9, tln9, bk64_93, am_B64_52, am_B64_93, bn64_52, c0, c1, hni]
        refine ih (i3 + 1) (by omega) _ hf hg (fun j hj => ?_)
        rw [hp j hj]
        by_cases hji : j = i3
        · subst hji; simp [h5]
        · simp only [show j < i3 + 1 ↔ j < i3 by omega]
      · have q5 : (U 1 i3 = 5) = False := eq_false h5
        by_cases h6 : U 1 i3 = 6
        · rw [h6] at c1
          simp (config := { maxSteps := 1000000 }) (disch := first | exact am_nl_i | exact am_nl_r | exact am_nl_n | exact am_l0 | exact am_l1 | exact am_l2 | exact am_l3 | assumption | omega) only [wp_ldc, wp_sipush, wp_ldc_w, wp_lconst, wp_iadd, wp_isub, wp_imul, wp_iand, wp_ior, wp_ixor, wp_ishl, wp_ishr, wp_iushr, wp_idiv, wp_irem, wp_ineg, wp_i2b, wp_i2s, wp_i2c, wp_i2l, wp_ladd, wp_lmul, wp_lcmp, wp_dup_i, wp_dup_r, wp_dup2, wp_pop, wp_getfield, wp_putfield, wp_getstatic, wp_iaload, wp_baload, wp_aaload, wp_iastore, wp_arraylength, wp_goto, wp_fall, wp_ieq, wp_ine, wp_ilt, wp_ige, wp_igt, wp_ile, wp_ceq, wp_cne, wp_clt, wp_cge, wp_cgt, wp_cle, wp_sw, wp_ret0, wp_ret1z, wp_ret1o, wp_ret1, wp_ret2, wp_ret3, wp_ret4, wp_ret5, wp_return, wp_min, wp_max, wp_abs, am_ex, gset_eq, gset_ne, upd_eq, upd_ne, gset_gset, am_ci_1, am_ci_6, am_toList_some, am_toList_none, true_implies, false_implies, and_self, and_true, true_and, not_true_eq_false, not_false_eq_true, imp_self, implies_true, Classical.not_not, if_true, if_false, false_and, and_false, or_false, false_or, true_or, or_true, Nat.reduceAdd, Nat.reduceMul, Nat.reduceSub, Nat.reduceLT, Nat.reduceLeDiff, Nat.reduceEqDiff, Nat.reduceBneDiff, Nat.add_zero, Nat.zero_add, reduceCtorEq, wil0, wal0, wis0, wic0, wil1, wal1, wis1, wic1, wil2, wll2, wal2, wis2, was2, wls2, wic2, wil3, wis3, wic3, wic3m, wic3s, wil4, wis4, wic4, wil5, wis5, wic5, wic5m, wil6, wll6, wal6, wis6, was6, wls6, wic6, wil7, wal7, wis7, was7, wic7, wil8, wis8, wic8, wil9, wis9, wic9, wil10, wis10, wic10, am_nI_inj, am_nI_lt, am_nI_le, nI_add, pk_mul, am_nI_sub, am_add_m1, am_gfs, am_pfs, am_alds, am_asts, am_lens, tgf0, tgf1, tgf2, tgf3, tgf4, tgf5, tgf6, tgf7, tgf8, tgf9, tgf10, tgf11, tgf12, tpf7, tpf8, tpf9, tal0, tas0, tln0, tal1, tas1, tln1, tal2, tas2, tln2, tal3, tas3, tln3, tal4, tas4, tln4, tal5, tas5, tln5, tal6, tas6, tln6, tal7, tas7, tln7, tal8, tas8, tln8, tal9, tas9, tln9, bk64_93, am_B64_52, am_B64_93, bn64_52, c0, c1, hni]
          refine ih (i3 + 1) (by omega) _ hf hg (fun j hj => ?_)
          rw [hp j hj]
          by_cases hji : j = i3
          · subst hji; simp [h6]
          · simp only [show j < i3 + 1 ↔ j < i3 by omega]
        · have q6 : (U 1 i3 = 6) = False := eq_false h6
          simp (config := { maxSteps := 1000000 }) (disch := first | exact am_nl_i | exact am_nl_r | exact am_nl_n | exact am_l0 | exact am_l1 | exact am_l2 | exact am_l3 | assumption | omega) only [wp_ldc, wp_sipush, wp_ldc_w, wp_lconst, wp_iadd, wp_isub, wp_imul, wp_iand, wp_ior, wp_ixor, wp_ishl, wp_ishr, wp_iushr, wp_idiv, wp_irem, wp_ineg, wp_i2b, wp_i2s, wp_i2c, wp_i2l, wp_ladd, wp_lmul, wp_lcmp, wp_dup_i, wp_dup_r, wp_dup2, wp_pop, wp_getfield, wp_putfield, wp_getstatic, wp_iaload, wp_baload, wp_aaload, wp_iastore, wp_arraylength, wp_goto, wp_fall, wp_ieq, wp_ine, wp_ilt, wp_ige, wp_igt, wp_ile, wp_ceq, wp_cne, wp_clt, wp_cge, wp_cgt, wp_cle, wp_sw, wp_ret0, wp_ret1z, wp_ret1o, wp_ret1, wp_ret2, wp_ret3, wp_ret4, wp_ret5, wp_return, wp_min, wp_max, wp_abs, am_ex, gset_eq, gset_ne, upd_eq, upd_ne, gset_gset, am_ci_1, am_ci_6, am_toList_some, am_toList_none, true_implies, false_implies, and_self, and_true, true_and, not_true_eq_false, not_false_eq_true, imp_self, implies_true, Classical.not_not, if_true, if_false, false_and, and_false, or_false, false_or, true_or, or_true, Nat.reduceAdd, Nat.reduceMul, Nat.reduceSub, Nat.reduceLT, Nat.reduceLeDiff, Nat.reduceEqDiff, Nat.reduceBneDiff, Nat.add_zero, Nat.zero_add, reduceCtorEq, wil0, wal0, wis0, wic0, wil1, wal1, wis1, wic1, wil2, wll2, wal2, wis2, was2, wls2, wic2, wil3, wis3, wic3, wic3m, wic3s, wil4, wis4, wic4, wil5, wis5, wic5, wic5m, wil6, wll6, wal6, wis6, was6, wls6, wic6, wil7, wal7, wis7, was7, wic7, wil8, wis8, wic8, wil9, wis9, wic9, wil10, wis10, wic10, am_nI_inj, am_nI_lt, am_nI_le, nI_add, pk_mul, am_nI_sub, am_add_m1, am_gfs, am_pfs, am_alds, am_asts, am_lens, tgf0, tgf1, tgf2, tgf3, tgf4, tgf5, tgf6, tgf7, tgf8, tgf9, tgf10, tgf11, tgf12, tpf7, tpf8, tpf9, tal0, tas0, tln0, tal1, tas1, tln1, tal2, tas2, tln2, tal3, tas3, tln3, tal4, tas4, tln4, tal5, tas5, tln5, tal6, tas6, tln6, tal7, tas7, tln7, tal8, tas8, tln8, tal9, tas9, tln9, bk64_93, am_B64_52, am_B64_93, bn64_52, c0, c1, c2, hni, q5, q6]
          refine ih (i3 + 1) (by omega) _ (fun o h1 h2 => ?_) (fun j hj => ?_) (fun j hj => ?_)
          · rw [gset_ne (by omega)]; exact hf o h1 h2
          · rw [gset_ne (by omega)]; exact hg j hj
          · rw [gset_eq]
            by_cases hji : j = i3
            · subst hji; rw [upd_eq]; simp [h5, h6]
            · rw [upd_ne hji, hp j hj]
              simp only [show j < i3 + 1 ↔ j < i3 by omega]
  -- the goods
  have key2 : ∀ (U : TT) (t' : Nat) (G2 : GG) (i : Nat), TV n U → t' ≤ 99999 → TE G2 b n U t' z → SE G2 b n U → i < 2 ^ 30 → (∀ (G' : GG) (x : Option Value), TE G' b n (stepN n U) (min 99999 (t' + 1)) z → (∀ o, ¬ (b ≤ o ∧ o ≤ b + 10) → G' o = G2 o) → (∀ p, p < 8 → G' (b + 10) p = nI (ccN U n p)) → WP X 64 (am_blk 64 2) [some (.ref b), some (.int (nI k)), some (.int (nI (i + 1))), x] [] G' Q) → ∀ d i2 : Nat, i2 + d = n → ∀ G3 : GG, (∀ o, ¬ o = b + 6 → G3 o = G2 o) → (∀ j, j < n → G3 (b + 6) j = if j < i2 then nI (min 99999 (U 5 j + getN U n j)) else nI (U 5 j)) → WP X 64 (am_blk 64 13) [some (.ref b), some (.int (nI k)), some (.int (nI i)), some (.int (nI i2))] [] G3 Q := by
    intro U t' G2 i hVU ht' hEU hSU hi30 hcont d
    obtain ⟨v1, v2, v3, v4⟩ := id hVU
    obtain ⟨a0, a1, a2, a3, a4, a5, a6, a7, a8, a9⟩ := id hEU
    induction d with
    | zero =>
      intro i2 hi2 G3 hf hg
      obtain rfl : i2 = n := by omega
      have c0 : G3 b 7 = nI i2 := by rw [hf b (by omega)]; exact a0
      rw [bh64_13]
      simp (config := { maxSteps := 1000000 }) (disch := first | exact am_nl_i | exact am_nl_r | exact am_nl_n | exact am_l0 | exact am_l1 | exact am_l2 | exact am_l3 | assumption | omega) only [wp_ldc, wp_sipush, wp_ldc_w, wp_lconst, wp_iadd, wp_isub, wp_imul, wp_iand, wp_ior, wp_ixor, wp_ishl, wp_ishr, wp_iushr, wp_idiv, wp_irem, wp_ineg, wp_i2b, wp_i2s, wp_i2c, wp_i2l, wp_ladd, wp_lmul, wp_lcmp, wp_dup_i, wp_dup_r, wp_dup2, wp_pop, wp_getfield, wp_putfield, wp_getstatic, wp_iaload, wp_baload, wp_aaload, wp_iastore, wp_arraylength, wp_goto, wp_fall, wp_ieq, wp_ine, wp_ilt, wp_ige, wp_igt, wp_ile, wp_ceq, wp_cne, wp_clt, wp_cge, wp_cgt, wp_cle, wp_sw, wp_ret0, wp_ret1z, wp_ret1o, wp_ret1, wp_ret2, wp_ret3, wp_ret4, wp_ret5, wp_return, wp_min, wp_max, wp_abs, am_ex, gset_eq, gset_ne, upd_eq, upd_ne, gset_gset, am_ci_1, am_ci_6, am_toList_some, am_toList_none, true_implies, false_implies, and_self, and_true, true_and, not_true_eq_false, not_false_eq_true, imp_self, implies_true, Classical.not_not, if_true, if_false, false_and, and_false, or_false, false_or, true_or, or_true, Nat.reduceAdd, Nat.reduceMul, Nat.reduceSub, Nat.reduceLT, Nat.reduceLeDiff, Nat.reduceEqDiff, Nat.reduceBneDiff, Nat.add_zero, Nat.zero_add, reduceCtorEq, wil0, wal0, wis0, wic0, wil1, wal1, wis1, wic1, wil2, wll2, wal2, wis2, was2, wls2, wic2, wil3, wis3, wic3, wic3m, wic3s, wil4, wis4, wic4, wil5, wis5, wic5, wic5m, wil6, wll6, wal6, wis6, was6, wls6, wic6, wil7, wal7, wis7, was7, wic7, wil8, wis8, wic8, wil9, wis9, wic9, wil10, wis10, wic10, am_nI_inj, am_nI_lt, am_nI_le, nI_add, pk_mul, am_nI_sub, am_add_m1, am_gfs, am_pfs, am_alds, am_asts, am_lens, tgf0, tgf1, tgf2, tgf3, tgf4, tgf5, tgf6, tgf7, tgf8, tgf9, tgf10, tgf11, tgf12, tpf7, tpf8, tpf9, tal0, tas0, tln0, tal1, tas1, tln1, tal2, tas2, tln2, tal3, tas3, tln3, tal4, tas4, tln4, tal5, tas5, tln5, tal6, tas6, tln6, tal7, tas7, tln7, tal8, tas8, tln8, tal9, tas9, tln9, bk64_50, am_B64_13, am_B64_50, bn64_52, c0, Nat.le_refl]
      refine key3 U t' G2 i True hVU ht' hEU hSU hi30 hcont i2 0 (by omega) G3 (fun o h1 _ => hf o h1) (fun j hj => ?_) (fun j hj => ?_)
      · rw [hg j hj, if_pos hj]
      · rw [hf (b + 3) (by omega), a5 j hj]; simp
    | succ d ih =>
      intro i2 hi2 G3 hf hg
      have hin : i2 < n := by omega
      have hi8 : i2 < 8 := by omega
      have hni : (n ≤ i2) = False := eq_false (by omega)
      have c0 : G3 b 7 = nI n := by rw [hf b (by omega)]; exact a0
      have c3 : ∀ p, p < 8 → G3 (b + 1) p = nI (U 0 p) := fun p hp => by rw [hf (b + 1) (by omega)]; exact a3 p hp
      have hS3 : SE G3 b n U := SE_congr hSU (fun o h1 h2 => hf o (by omega))
      have hgl := getN_le hVU hin
      have hg5 := (v3 i2 hin).2.2.2.2
      have c1 : G3 (b + 6) i2 = nI (U 5 i2) := by rw [hg i2 hin, if_neg (by omega)]
      have hG := fun (st : List Value) (r : List Instr) (lv : LV) (Q : Option Value → GG → Prop) (hl : st.length ≤ 4) => C_X3_getsNowW (X := X) (k := 64) (st := st) (r := r) (lv := lv) (Q := Q) hb c3 hVU hS3 hin hl
      have m1 : (if U 5 i2 + getN U n i2 < 99999 then nI (U 5 i2 + getN U n i2) else nI 99999) = nI (min 99999 (U 5 i2 + getN U n i2)) := by
        by_cases h : U 5 i2 + getN U n i2 < 99999
        · rw [if_pos h, show min 99999 (U 5 i2 + getN U n i2) = U 5 i2 + getN U n i2 by omega]
        · rw [if_neg h, show min 99999 (U 5 i2 + getN U n i2) = 99999 by omega]
      have hG4 := fun (r : List Instr) (lv : LV) (Q : Option Value → GG → Prop) => hG [.int (nI (U 5 i2)), .int (nI 99999), .int (nI i2), .ref (b + 6)] r lv Q (Nat.le_of_ble_eq_true rfl)
      rw [bh64_13]
      simp (config := { maxSteps := 1000000 }) (disch := first | exact am_nl_i | exact am_nl_r | exact am_nl_n | exact am_l0 | exact am_l1 | exact am_l2 | exact am_l3 | assumption | omega) only [wp_ldc, wp_sipush, wp_ldc_w, wp_lconst, wp_iadd, wp_isub, wp_imul, wp_iand, wp_ior, wp_ixor, wp_ishl, wp_ishr, wp_iushr, wp_idiv, wp_irem, wp_ineg, wp_i2b, wp_i2s, wp_i2c, wp_i2l, wp_ladd, wp_lmul, wp_lcmp, wp_dup_i, wp_dup_r, wp_dup2, wp_pop, wp_getfield, wp_putfield, wp_getstatic, wp_iaload, wp_baload, wp_aaload, wp_iastore, wp_arraylength, wp_goto, wp_fall, wp_ieq, wp_ine, wp_ilt, wp_ige, wp_igt, wp_ile, wp_ceq, wp_cne, wp_clt, wp_cge, wp_cgt, wp_cle, wp_sw, wp_ret0, wp_ret1z, wp_ret1o, wp_ret1, wp_ret2, wp_ret3, wp_ret4, wp_ret5, wp_return, wp_min, wp_max, wp_abs, am_ex, gset_eq, gset_ne, upd_eq, upd_ne, gset_gset, am_ci_1, am_ci_6, am_toList_some, am_toList_none, true_implies, false_implies, and_self, and_true, true_and, not_true_eq_false, not_false_eq_true, imp_self, implies_true, Classical.not_not, if_true, if_false, false_and, and_false, or_false, false_or, true_or, or_true, Nat.reduceAdd, Nat.reduceMul, Nat.reduceSub, Nat.reduceLT, Nat.reduceLeDiff, Nat.reduceEqDiff, Nat.reduceBneDiff, Nat.add_zero, Nat.zero_add, reduceCtorEq, wil0, wal0, wis0, wic0, wil1, wal1, wis1, wic1, wil2, wll2, wal2, wis2, was2, wls2, wic2, wil3, wis3, wic3, wic3m, wic3s, wil4, wis4, wic4, wil5, wis5, wic5, wic5m, wil6, wll6, wal6, wis6, was6, wls6, wic6, wil7, wal7, wis7, was7, wic7, wil8, wis8, wic8, wil9, wis9, wic9, wil10, wis10, wic10, am_nI_inj, am_nI_lt, am_nI_le, nI_add, pk_mul, am_nI_sub, am_add_m1, am_gfs, am_pfs, am_alds, am_asts, am_lens, tgf0, tgf1, tgf2, tgf3, tgf4, tgf5, tgf6, tgf7, tgf8, tgf9, tgf10, tgf11, tgf12, tpf7, tpf8, tpf9, tal0, tas0, tln0, tal1, tas1, tln1, tal2, tas2, tln2, tal3, tas3, tln3, tal4, tas4, tln4, tal5, tas5, tln5, tal6, tas6, tln6, tal7, tas7, tln7, tal8, tas8, tln8, tal9, tas9, tln9, am_B64_13, bn64_13, c0, c1, hni, hG4, m1]
      refine ih (i2 + 1) (by omega) _ (fun o h1 => ?_) (fun j hj => ?_)
      · rw [gset_ne (by omega)]; exact hf o h1
      · rw [gset_eq]
        by_cases hji : j = i2
        · subst hji; rw [upd_eq, if_pos (by omega)]
        · rw [upd_ne hji, hg j hj]
          simp only [show j < i2 + 1 ↔ j < i2 by omega]
  have key1 : ∀ d i : Nat, i + d = k → ∀ (G' : GG) (x : Option Value), TE G' b n (runN n i T) (min 99999 (t + i)) z → (∀ o, ¬ (b ≤ o ∧ o ≤ b + 10) → G' o = G o) → (∀ j, i = j + 1 → ∀ p, p < 8 → G' (b + 10) p = nI (ccN (runN n j T) n p)) → WP X 64 (am_blk 64 2) [some (.ref b), some (.int (nI k)), some (.int (nI i)), x] [] G' Q := by
    intro d
    induction d with
    | zero =>
      intro i hi G' x hE' hf hc
      obtain rfl : i = k := by omega
      rw [bh64_2]
      simp (config := { maxSteps := 1000000 }) (disch := first | exact am_nl_i | exact am_nl_r | exact am_nl_n | exact am_l0 | exact am_l1 | exact am_l2 | exact am_l3 | assumption | omega) only [wp_ldc, wp_sipush, wp_ldc_w, wp_lconst, wp_iadd, wp_isub, wp_imul, wp_iand, wp_ior, wp_ixor, wp_ishl, wp_ishr, wp_iushr, wp_idiv, wp_irem, wp_ineg, wp_i2b, wp_i2s, wp_i2c, wp_i2l, wp_ladd, wp_lmul, wp_lcmp, wp_dup_i, wp_dup_r, wp_dup2, wp_pop, wp_getfield, wp_putfield, wp_getstatic, wp_iaload, wp_baload, wp_aaload, wp_iastore, wp_arraylength, wp_goto, wp_fall, wp_ieq, wp_ine, wp_ilt, wp_ige, wp_igt, wp_ile, wp_ceq, wp_cne, wp_clt, wp_cge, wp_cgt, wp_cle, wp_sw, wp_ret0, wp_ret1z, wp_ret1o, wp_ret1, wp_ret2, wp_ret3, wp_ret4, wp_ret5, wp_return, wp_min, wp_max, wp_abs, am_ex, gset_eq, gset_ne, upd_eq, upd_ne, gset_gset, am_ci_1, am_ci_6, am_toList_some, am_toList_none, true_implies, false_implies, and_self, and_true, true_and, not_true_eq_false, not_false_eq_true, imp_self, implies_true, Classical.not_not, if_true, if_false, false_and, and_false, or_false, false_or, true_or, or_true, Nat.reduceAdd, Nat.reduceMul, Nat.reduceSub, Nat.reduceLT, Nat.reduceLeDiff, Nat.reduceEqDiff, Nat.reduceBneDiff, Nat.add_zero, Nat.zero_add, reduceCtorEq, wil0, wal0, wis0, wic0, wil1, wal1, wis1, wic1, wil2, wll2, wal2, wis2, was2, wls2, wic2, wil3, wis3, wic3, wic3m, wic3s, wil4, wis4, wic4, wil5, wis5, wic5, wic5m, wil6, wll6, wal6, wis6, was6, wls6, wic6, wil7, wal7, wis7, was7, wic7, wil8, wis8, wic8, wil9, wis9, wic9, wil10, wis10, wic10, am_nI_inj, am_nI_lt, am_nI_le, nI_add, pk_mul, am_nI_sub, am_add_m1, am_gfs, am_pfs, am_alds, am_asts, am_lens, tgf0, tgf1, tgf2, tgf3, tgf4, tgf5, tgf6, tgf7, tgf8, tgf9, tgf10, tgf11, tgf12, tpf7, tpf8, tpf9, tal0, tas0, tln0, tal1, tas1, tln1, tal2, tas2, tln2, tal3, tas3, tln3, tal4, tas4, tln4, tal5, tas5, tln5, tal6, tas6, tln6, tal7, tas7, tln7, tal8, tas8, tln8, tal9, tas9, tln9, bk64_120, am_B64_2, am_B64_120, Nat.le_refl]
      rw [← hQ]
      exact ⟨rfl, hE', hf, hc⟩
    | succ d ih =>
      intro i hi G' x hE' hf hc
      have hVU := TV_run (n := n) i hV
      have hnk : (k ≤ i) = False := eq_false (by omega)
      obtain ⟨G2, hev, hE2, hS2, hf2⟩ := X3_settle (X := X) b n (runN n i T) _ z hb hE' hVU
      have hC := fun (st : List Value) (r : List Instr) (lv : LV) (Q : Option Value → GG → Prop) (hl : st.length ≤ 4) => WP_ev (k := 64) (st := .ref b :: st) (rest := st) (r := r) (lv := lv) (Q := Q) hev (by decide) (c := 1) rfl rfl hl (am_rcv_of rfl (tcls hb))
      rw [bh64_2]
      simp (config := { maxSteps := 1000000 }) (disch := first | exact am_nl_i | exact am_nl_r | exact am_nl_n | exact am_l0 | exact am_l1 | exact am_l2 | exact am_l3 | assumption | omega) only [wp_ldc, wp_sipush, wp_ldc_w, wp_lconst, wp_iadd, wp_isub, wp_imul, wp_iand, wp_ior, wp_ixor, wp_ishl, wp_ishr, wp_iushr, wp_idiv, wp_irem, wp_ineg, wp_i2b, wp_i2s, wp_i2c, wp_i2l, wp_ladd, wp_lmul, wp_lcmp, wp_dup_i, wp_dup_r, wp_dup2, wp_pop, wp_getfield, wp_putfield, wp_getstatic, wp_iaload, wp_baload, wp_aaload, wp_iastore, wp_arraylength, wp_goto, wp_fall, wp_ieq, wp_ine, wp_ilt, wp_ige, wp_igt, wp_ile, wp_ceq, wp_cne, wp_clt, wp_cge, wp_cgt, wp_cle, wp_sw, wp_ret0, wp_ret1z, wp_ret1o, wp_ret1, wp_ret2, wp_ret3, wp_ret4, wp_ret5, wp_return, wp_min, wp_max, wp_abs, am_ex, gset_eq, gset_ne, upd_eq, upd_ne, gset_gset, am_ci_1, am_ci_6, am_toList_some, am_toList_none, true_implies, false_implies, and_self, and_true, true_and, not_true_eq_false, not_false_eq_true, imp_self, implies_true, Classical.not_not, if_true, if_false, false_and, and_false, or_false, false_or, true_or, or_true, Nat.reduceAdd, Nat.reduceMul, Nat.reduceSub, Nat.reduceLT, Nat.reduceLeDiff, Nat.reduceEqDiff, Nat.reduceBneDiff, Nat.add_zero, Nat.zero_add, reduceCtorEq, wil0, wal0, wis0, wic0, wil1, wal1, wis1, wic1, wil2, wll2, wal2, wis2, was2, wls2, wic2, wil3, wis3, wic3, wic3m, wic3s, wil4, wis4, wic4, wil5, wis5, wic5, wic5m, wil6, wll6, wal6, wis6, was6, wls6, wic6, wil7, wal7, wis7, was7, wic7, wil8, wis8, wic8, wil9, wis9, wic9, wil10, wis10, wic10, am_nI_inj, am_nI_lt, am_nI_le, nI_add, pk_mul, am_nI_sub, am_add_m1, am_gfs, am_pfs, am_alds, am_asts, am_lens, tgf0, tgf1, tgf2, tgf3, tgf4, tgf5, tgf6, tgf7, tgf8, tgf9, tgf10, tgf11, tgf12, tpf7, tpf8, tpf9, tal0, tas0, tln0, tal1, tas1, tln1, tal2, tas2, tln2, tal3, tas3, tln3, tal4, tas4, tln4, tal5, tas5, tln5, tal6, tas6, tln6, tal7, tas7, tln7, tal8, tas8, tln8, tal9, tas9, tln9, am_B64_2, bn64_13, hC, hnk]
      refine key2 (runN n i T) (min 99999 (t + i)) G2 i hVU (by omega) hE2 hS2 (by omega) ?_ n 0 (by omega) G2 (fun _ _ => rfl) (fun j hj => ?_)
      · intro G4 x4 hE4 hf4 hc4
        refine ih (i + 1) (by omega) G4 x4 ?_ ?_ ?_
        · rw [runN_s]
          rw [show min 99999 (t + (i + 1)) = min 99999 (min 99999 (t + i) + 1) by omega]
          exact hE4
        · intro o ho; rw [hf4 o ho, hf2 o (by omega), hf o ho]
        · intro j hj
          have e : j = i := by omega
          rw [e]; exact hc4
      · rw [if_neg (by omega)]; exact hE2.2.2.2.2.2.2.2.2.1 j hj
  simp (config := { maxSteps := 1000000 }) (disch := first | exact am_nl_i | exact am_nl_r | exact am_nl_n | exact am_l0 | exact am_l1 | exact am_l2 | exact am_l3 | assumption | omega) only [wp_ldc, wp_sipush, wp_ldc_w, wp_lconst, wp_iadd, wp_isub, wp_imul, wp_iand, wp_ior, wp_ixor, wp_ishl, wp_ishr, wp_iushr, wp_idiv, wp_irem, wp_ineg, wp_i2b, wp_i2s, wp_i2c, wp_i2l, wp_ladd, wp_lmul, wp_lcmp, wp_dup_i, wp_dup_r, wp_dup2, wp_pop, wp_getfield, wp_putfield, wp_getstatic, wp_iaload, wp_baload, wp_aaload, wp_iastore, wp_arraylength, wp_goto, wp_fall, wp_ieq, wp_ine, wp_ilt, wp_ige, wp_igt, wp_ile, wp_ceq, wp_cne, wp_clt, wp_cge, wp_cgt, wp_cle, wp_sw, wp_ret0, wp_ret1z, wp_ret1o, wp_ret1, wp_ret2, wp_ret3, wp_ret4, wp_ret5, wp_return, wp_min, wp_max, wp_abs, am_ex, gset_eq, gset_ne, upd_eq, upd_ne, gset_gset, am_ci_1, am_ci_6, am_toList_some, am_toList_none, true_implies, false_implies, and_self, and_true, true_and, not_true_eq_false, not_false_eq_true, imp_self, implies_true, Classical.not_not, if_true, if_false, false_and, and_false, or_false, false_or, true_or, or_true, Nat.reduceAdd, Nat.reduceMul, Nat.reduceSub, Nat.reduceLT, Nat.reduceLeDiff, Nat.reduceEqDiff, Nat.reduceBneDiff, Nat.add_zero, Nat.zero_add, reduceCtorEq, wil0, wal0, wis0, wic0, wil1, wal1, wis1, wic1, wil2, wll2, wal2, wis2, was2, wls2, wic2, wil3, wis3, wic3, wic3m, wic3s, wil4, wis4, wic4, wil5, wis5, wic5, wic5m, wil6, wll6, wal6, wis6, was6, wls6, wic6, wil7, wal7, wis7, was7, wic7, wil8, wis8, wic8, wil9, wis9, wic9, wil10, wis10, wic10, am_nI_inj, am_nI_lt, am_nI_le, nI_add, pk_mul, am_nI_sub, am_add_m1, am_gfs, am_pfs, am_alds, am_asts, am_lens, tgf0, tgf1, tgf2, tgf3, tgf4, tgf5, tgf6, tgf7, tgf8, tgf9, tgf10, tgf11, tgf12, tpf7, tpf8, tpf9, tal0, tas0, tln0, tal1, tas1, tln1, tal2, tas2, tln2, tal3, tas3, tln3, tal4, tas4, tln4, tal5, tas5, tln5, tal6, tas6, tln6, tal7, tas7, tln7, tal8, tas8, tln8, tal9, tas9, tln9, bk64_0, am_B64_0, bn64_2]
  refine key1 k 0 (by omega) G none ?_ (fun _ _ => rfl) (fun j hj => absurd hj (by omega))
  rw [show min 99999 (t + 0) = t by omega]
  exact hE
