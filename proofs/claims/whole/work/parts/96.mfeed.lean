/-! ===== the model's calls: feed, weather ===== -/
theorem MSt_fed {S : SS} {G : GG} {v : Int32} {n e : Nat} (h : MSt (fedS S v n e) G) (he : e < n) : MSt (fedS S v n (e + 1)) (gset (gset G 65 (upd (G 65) (S.2.2.2.2.1 + e) (nI (bN v (n - 1 - e))))) 58 (upd (G 58) 9 (nI (S.2.2.2.2.1 + e + 1)))) := by
  obtain ⟨a, b, ⟨c1, c2⟩, c3, c4, c5, c6⟩ := h
  have hg : ∀ o, o ≠ 58 → o ≠ 65 → gset (gset G 65 (upd (G 65) (S.2.2.2.2.1 + e) (nI (bN v (n - 1 - e))))) 58 (upd (G 58) 9 (nI (S.2.2.2.2.1 + e + 1))) o = G o := fun o h1 h2 => by rw [gset_ne h1, gset_ne h2]
  refine ⟨?_, ?_, ⟨?_, fun hk => ?_⟩, ?_, fun s hs => ?_, ?_, fun i hi => ?_⟩
  · unfold ME at a ⊢
    rw [hg 59 (by omega) (by omega)]; exact a
  · rw [gset_eq, upd_ne (by omega)]; exact b
  · rw [gset_eq, upd_ne (by omega)]; exact c1
  · have := c2 hk
    unfold ME at this ⊢
    rw [hg 60 (by omega) (by omega)]; exact this
  · rw [hg 62 (by omega) (by omega)]; exact c3
  · rw [hg 67 (by omega) (by omega), hg 68 (by omega) (by omega), hg 69 (by omega) (by omega)]; exact c4 s hs
  · rw [gset_eq, upd_eq]; rfl
  · have hi : i < S.2.2.2.2.1 + (e + 1) := hi
    rw [gset_ne (by omega), gset_eq]
    by_cases hie : i = S.2.2.2.2.1 + e
    · have e1 : (fedS S v n (e + 1)).2.2.2.2.2 i = bN v (n - 1 - e) := by
        show (if S.2.2.2.2.1 ≤ i ∧ i < S.2.2.2.2.1 + (e + 1) then bN v (n - 1 - (i - S.2.2.2.2.1)) else S.2.2.2.2.2 i) = _
        rw [if_pos (by omega), show i - S.2.2.2.2.1 = e by omega]
      rw [e1, hie, upd_eq]
    · have e1 : (fedS S v n (e + 1)).2.2.2.2.2 i = (fedS S v n e).2.2.2.2.2 i := by
        show (if S.2.2.2.2.1 ≤ i ∧ i < S.2.2.2.2.1 + (e + 1) then bN v (n - 1 - (i - S.2.2.2.2.1)) else S.2.2.2.2.2 i) = (if S.2.2.2.2.1 ≤ i ∧ i < S.2.2.2.2.1 + e then bN v (n - 1 - (i - S.2.2.2.2.1)) else S.2.2.2.2.2 i)
        by_cases hc : S.2.2.2.2.1 ≤ i
        · rw [if_pos (by omega), if_pos (by omega)]
        · rw [if_neg (by omega), if_neg (by omega)]
      rw [e1, upd_ne hie]
      exact c6 i (show i < S.2.2.2.2.1 + e by omega)
theorem MT_feed {X : AmX} {S : SS} {G : GG} (h : MSt S G) (hv : SV S) (a1 a2 : Int32) : MW X 150 [.ref 58, .int a1, .int a2] G (sp_feed S a1 a2) := by
  have hE := h.1
  have f0 := hE.2.1
  have hv8 := hv.1.1.1
  have hm := MS_MR h hv
  unfold MW sp_feed
  have e2 : (nI 1 = nI 0) = False := eq_false (by decide)
  show WP X 150 (am_blk 150 0) [some (.ref 58), some (.int a1), some (.int a2), none] [] G _
  by_cases h1 : inR a2 (nI 1) (nI 4) = true
  rotate_left
  · rw [if_neg (fun z => h1 z)]
    rw [Bool.not_eq_true] at h1
    simp (config := { maxSteps := 1000000 }) (disch := first | exact am_nl_i | exact am_nl_r | exact am_nl_n | exact am_l0 | exact am_l1 | exact am_l2 | exact am_l3 | assumption | omega) only [wp_ldc, wp_sipush, wp_ldc_w, wp_lconst, wp_iadd, wp_isub, wp_imul, wp_iand, wp_ior, wp_ixor, wp_ishl, wp_ishr, wp_iushr, wp_idiv, wp_irem, wp_ineg, wp_i2b, wp_i2s, wp_i2c, wp_i2l, wp_ladd, wp_lmul, wp_lcmp, wp_dup_i, wp_dup_r, wp_dup2, wp_pop, wp_getfield, wp_putfield, wp_getstatic, wp_iaload, wp_baload, wp_aaload, wp_iastore, wp_arraylength, wp_goto, wp_fall, wp_ieq, wp_ine, wp_ilt, wp_ige, wp_igt, wp_ile, wp_ceq, wp_cne, wp_clt, wp_cge, wp_cgt, wp_cle, wp_sw, wp_ret0, wp_ret1z, wp_ret1o, wp_ret1, wp_ret2, wp_ret3, wp_ret4, wp_ret5, wp_return, wp_min, wp_max, wp_abs, am_ex, gset_eq, gset_ne, upd_eq, upd_ne, gset_gset, am_ci_1, am_ci_6, am_toList_some, am_toList_none, true_implies, false_implies, and_self, and_true, true_and, not_true_eq_false, not_false_eq_true, imp_self, implies_true, Classical.not_not, if_true, if_false, false_and, and_false, or_false, false_or, true_or, or_true, Nat.reduceAdd, Nat.reduceMul, Nat.reduceSub, Nat.reduceLT, Nat.reduceLeDiff, Nat.reduceEqDiff, Nat.reduceBneDiff, Nat.add_zero, Nat.zero_add, reduceCtorEq, wil0, wal0, wis0, wic0, wil1, wal1, wis1, wic1, wil2, wll2, wal2, wis2, was2, wls2, wic2, wil3, wis3, wic3, wic3m, wic3s, wil4, wis4, wic4, wil5, wis5, wic5, wic5m, wil6, wll6, wal6, wis6, was6, wls6, wic6, wil7, wal7, wis7, was7, wic7, wil8, wis8, wic8, wil9, wis9, wic9, wil10, wis10, wic10, am_nI_inj, am_nI_lt, am_nI_le, nI_add, pk_mul, am_nI_sub, am_add_m1, am_gfs, am_pfs, am_alds, am_asts, am_lens, bs150, am_B150_0, am_B150_16, am_B150_34, am_B150_38, am_B150_77, C_X5_isPerson, C_X5_isPlace, C_X5_within, C_X5_isKind, C_X5_isSpot, C_X5_isSheet, C_X5_isPrize, C_X5_isAhead, h1, bI_t, bI_f, e2, f0, fcs, C_X5_finding]
    first | exact ⟨rfl, MSt_fnd h (by omega), mfnd_frame⟩ | exact ⟨MSt_fnd h (by omega), mfnd_frame⟩
  rw [if_pos h1]
  obtain ⟨n, hn1, hn, rfl, h1'⟩ := rng1_of (by omega) h1
  rw [aN_nI (show n < 2 ^ 31 by omega)]
  have k9 := h.2.2.2.2.2.1
  have hl := hv.2.2.2.1
  by_cases hs : 120 < S.2.2.2.2.1 + n
  · rw [if_pos hs]
    have q1 : (S.2.2.2.2.1 + n ≤ 120) = False := eq_false (by omega)
    simp (config := { maxSteps := 1000000 }) (disch := first | exact am_nl_i | exact am_nl_r | exact am_nl_n | exact am_l0 | exact am_l1 | exact am_l2 | exact am_l3 | assumption | omega) only [wp_ldc, wp_sipush, wp_ldc_w, wp_lconst, wp_iadd, wp_isub, wp_imul, wp_iand, wp_ior, wp_ixor, wp_ishl, wp_ishr, wp_iushr, wp_idiv, wp_irem, wp_ineg, wp_i2b, wp_i2s, wp_i2c, wp_i2l, wp_ladd, wp_lmul, wp_lcmp, wp_dup_i, wp_dup_r, wp_dup2, wp_pop, wp_getfield, wp_putfield, wp_getstatic, wp_iaload, wp_baload, wp_aaload, wp_iastore, wp_arraylength, wp_goto, wp_fall, wp_ieq, wp_ine, wp_ilt, wp_ige, wp_igt, wp_ile, wp_ceq, wp_cne, wp_clt, wp_cge, wp_cgt, wp_cle, wp_sw, wp_ret0, wp_ret1z, wp_ret1o, wp_ret1, wp_ret2, wp_ret3, wp_ret4, wp_ret5, wp_return, wp_min, wp_max, wp_abs, am_ex, gset_eq, gset_ne, upd_eq, upd_ne, gset_gset, am_ci_1, am_ci_6, am_toList_some, am_toList_none, true_implies, false_implies, and_self, and_true, true_and, not_true_eq_false, not_false_eq_true, imp_self, implies_true, Classical.not_not, if_true, if_false, false_and, and_false, or_false, false_or, true_or, or_true, Nat.reduceAdd, Nat.reduceMul, Nat.reduceSub, Nat.reduceLT, Nat.reduceLeDiff, Nat.reduceEqDiff, Nat.reduceBneDiff, Nat.add_zero, Nat.zero_add, reduceCtorEq, wil0, wal0, wis0, wic0, wil1, wal1, wis1, wic1, wil2, wll2, wal2, wis2, was2, wls2, wic2, wil3, wis3, wic3, wic3m, wic3s, wil4, wis4, wic4, wil5, wis5, wic5, wic5m, wil6, wll6, wal6, wis6, was6, wls6, wic6, wil7, wal7, wis7, was7, wic7, wil8, wis8, wic8, wil9, wis9, wic9, wil10, wis10, wic10, am_nI_inj, am_nI_lt, am_nI_le, nI_add, pk_mul, am_nI_sub, am_add_m1, am_gfs, am_pfs, am_alds, am_asts, am_lens, bk150_0, bk150_16, am_B150_0, am_B150_16, C_X5_within, h1', bI_t, e2, k9, q1, fcs, C_X5_finding]
    first | exact ⟨rfl, MSt_fnd h (by omega), mfnd_frame⟩ | exact ⟨MSt_fnd h (by omega), mfnd_frame⟩
  rw [if_neg hs]
  have q1 : (S.2.2.2.2.1 + n ≤ 120) = True := eq_true (by omega)
  generalize hQ : (fun (w : Option Value) (G1 : GG) => w = some (.int (nI (S.2.2.2.2.1 + n), fedS S a1 n n).1) ∧ MSt (nI (S.2.2.2.2.1 + n), fedS S a1 n n).2 G1 ∧ ∀ o, o < 58 → G1 o = G o) = Q
  have key : ∀ j e : Nat, j + e = n → ∀ G' : GG, MSt (fedS S a1 n e) G' → (∀ o, o < 58 → G' o = G o) → WP X 150 (am_blk 150 38) [some (.ref 58), some (.int a1), some (.int (nI n)), some (.int (mI j))] [] G' Q := by
    intro j
    induction j with
    | zero =>
      intro e he G' hc hf
      obtain rfl : e = n := by omega
      have em : mI 0 = nM := rfl
      have q0 : (nM < nI 0) = True := nM_lt (by omega)
      have c9 : G' 58 9 = nI (S.2.2.2.2.1 + e) := hc.2.2.2.2.2.1
      rw [bh150_38, em]
      simp (config := { maxSteps := 1000000 }) (disch := first | exact am_nl_i | exact am_nl_r | exact am_nl_n | exact am_l0 | exact am_l1 | exact am_l2 | exact am_l3 | assumption | omega) only [wp_ldc, wp_sipush, wp_ldc_w, wp_lconst, wp_iadd, wp_isub, wp_imul, wp_iand, wp_ior, wp_ixor, wp_ishl, wp_ishr, wp_iushr, wp_idiv, wp_irem, wp_ineg, wp_i2b, wp_i2s, wp_i2c, wp_i2l, wp_ladd, wp_lmul, wp_lcmp, wp_dup_i, wp_dup_r, wp_dup2, wp_pop, wp_getfield, wp_putfield, wp_getstatic, wp_iaload, wp_baload, wp_aaload, wp_iastore, wp_arraylength, wp_goto, wp_fall, wp_ieq, wp_ine, wp_ilt, wp_ige, wp_igt, wp_ile, wp_ceq, wp_cne, wp_clt, wp_cge, wp_cgt, wp_cle, wp_sw, wp_ret0, wp_ret1z, wp_ret1o, wp_ret1, wp_ret2, wp_ret3, wp_ret4, wp_ret5, wp_return, wp_min, wp_max, wp_abs, am_ex, gset_eq, gset_ne, upd_eq, upd_ne, gset_gset, am_ci_1, am_ci_6, am_toList_some, am_toList_none, true_implies, false_implies, and_self, and_true, true_and, not_true_eq_false, not_false_eq_true, imp_self, implies_true, Classical.not_not, if_true, if_false, false_and, and_false, or_false, false_or, true_or, or_true, Nat.reduceAdd, Nat.reduceMul, Nat.reduceSub, Nat.reduceLT, Nat.reduceLeDiff, Nat.reduceEqDiff, Nat.reduceBneDiff, Nat.add_zero, Nat.zero_add, reduceCtorEq, wil0, wal0, wis0, wic0, wil1, wal1, wis1, wic1, wil2, wll2, wal2, wis2, was2, wls2, wic2, wil3, wis3, wic3, wic3m, wic3s, wil4, wis4, wic4, wil5, wis5, wic5, wic5m, wil6, wll6, wal6, wis6, was6, wls6, wic6, wil7, wal7, wis7, was7, wic7, wil8, wis8, wic8, wil9, wis9, wic9, wil10, wis10, wic10, am_nI_inj, am_nI_lt, am_nI_le, nI_add, pk_mul, am_nI_sub, am_add_m1, am_gfs, am_pfs, am_alds, am_asts, am_lens, bk150_77, am_B150_38, am_B150_77, q0, c9]
      rw [← hQ]
      exact ⟨rfl, hc, hf⟩
    | succ j ih =>
      intro e he G' hc hf
      have em : mI (j + 1) = nI j := mI_s j
      have q0 : (j < 0) = False := eq_false (by omega)
      have c9 : G' 58 9 = nI (S.2.2.2.2.1 + e) := hc.2.2.2.2.2.1
      have hj4 : j < 4 := by omega
      have hsh := (shr_by a1 (k := j) hj4).trans (byI_N a1 j).1
      have hlt : S.2.2.2.2.1 + e < 120 := by omega
      have e1 := mI_dec2 (d := j) (by omega)
      have hT := MSt_fed hc (by omega)
      rw [show n - 1 - e = j by omega] at hT
      have ihk := ih (e + 1) (by omega) _ hT (fun o ho => by rw [gset_ne (by omega), gset_ne (by omega)]; exact hf o ho)
      have g58 : ∀ f, gset G' 65 f 58 = G' 58 := fun f => gset_ne (by omega)
      rw [bh150_38, em]
      simp (config := { maxSteps := 1000000 }) (disch := first | exact am_nl_i | exact am_nl_r | exact am_nl_n | exact am_l0 | exact am_l1 | exact am_l2 | exact am_l3 | assumption | omega) only [wp_ldc, wp_sipush, wp_ldc_w, wp_lconst, wp_iadd, wp_isub, wp_imul, wp_iand, wp_ior, wp_ixor, wp_ishl, wp_ishr, wp_iushr, wp_idiv, wp_irem, wp_ineg, wp_i2b, wp_i2s, wp_i2c, wp_i2l, wp_ladd, wp_lmul, wp_lcmp, wp_dup_i, wp_dup_r, wp_dup2, wp_pop, wp_getfield, wp_putfield, wp_getstatic, wp_iaload, wp_baload, wp_aaload, wp_iastore, wp_arraylength, wp_goto, wp_fall, wp_ieq, wp_ine, wp_ilt, wp_ige, wp_igt, wp_ile, wp_ceq, wp_cne, wp_clt, wp_cge, wp_cgt, wp_cle, wp_sw, wp_ret0, wp_ret1z, wp_ret1o, wp_ret1, wp_ret2, wp_ret3, wp_ret4, wp_ret5, wp_return, wp_min, wp_max, wp_abs, am_ex, gset_eq, gset_ne, upd_eq, upd_ne, gset_gset, am_ci_1, am_ci_6, am_toList_some, am_toList_none, true_implies, false_implies, and_self, and_true, true_and, not_true_eq_false, not_false_eq_true, imp_self, implies_true, Classical.not_not, if_true, if_false, false_and, and_false, or_false, false_or, true_or, or_true, Nat.reduceAdd, Nat.reduceMul, Nat.reduceSub, Nat.reduceLT, Nat.reduceLeDiff, Nat.reduceEqDiff, Nat.reduceBneDiff, Nat.add_zero, Nat.zero_add, reduceCtorEq, wil0, wal0, wis0, wic0, wil1, wal1, wis1, wic1, wil2, wll2, wal2, wis2, was2, wls2, wic2, wil3, wis3, wic3, wic3m, wic3s, wil4, wis4, wic4, wil5, wis5, wic5, wic5m, wil6, wll6, wal6, wis6, was6, wls6, wic6, wil7, wal7, wis7, was7, wic7, wil8, wis8, wic8, wil9, wis9, wic9, wil10, wis10, wic10, am_nI_inj, am_nI_lt, am_nI_le, nI_add, pk_mul, am_nI_sub, am_add_m1, am_gfs, am_pfs, am_alds, am_asts, am_lens, am_B150_38, bn150_38, q0, c9, hsh, g58, fcs, e1]
      exact ihk
  have e0 : nI n - nI 1 = mI n := (mI_dec (d := n) (by omega)).2
  have e00 : nI (n - 1) = mI n := by rw [← e0, am_nI_sub (by omega)]
  have k0 := key n 0 (by omega) G (by rw [fed_0]; exact h) (fun _ _ => rfl)
  rw [← e00] at k0
  simp (config := { maxSteps := 1000000 }) (disch := first | exact am_nl_i | exact am_nl_r | exact am_nl_n | exact am_l0 | exact am_l1 | exact am_l2 | exact am_l3 | assumption | omega) only [wp_ldc, wp_sipush, wp_ldc_w, wp_lconst, wp_iadd, wp_isub, wp_imul, wp_iand, wp_ior, wp_ixor, wp_ishl, wp_ishr, wp_iushr, wp_idiv, wp_irem, wp_ineg, wp_i2b, wp_i2s, wp_i2c, wp_i2l, wp_ladd, wp_lmul, wp_lcmp, wp_dup_i, wp_dup_r, wp_dup2, wp_pop, wp_getfield, wp_putfield, wp_getstatic, wp_iaload, wp_baload, wp_aaload, wp_iastore, wp_arraylength, wp_goto, wp_fall, wp_ieq, wp_ine, wp_ilt, wp_ige, wp_igt, wp_ile, wp_ceq, wp_cne, wp_clt, wp_cge, wp_cgt, wp_cle, wp_sw, wp_ret0, wp_ret1z, wp_ret1o, wp_ret1, wp_ret2, wp_ret3, wp_ret4, wp_ret5, wp_return, wp_min, wp_max, wp_abs, am_ex, gset_eq, gset_ne, upd_eq, upd_ne, gset_gset, am_ci_1, am_ci_6, am_toList_some, am_toList_none, true_implies, false_implies, and_self, and_true, true_and, not_true_eq_false, not_false_eq_true, imp_self, implies_true, Classical.not_not, if_true, if_false, false_and, and_false, or_false, false_or, true_or, or_true, Nat.reduceAdd, Nat.reduceMul, Nat.reduceSub, Nat.reduceLT, Nat.reduceLeDiff, Nat.reduceEqDiff, Nat.reduceBneDiff, Nat.add_zero, Nat.zero_add, reduceCtorEq, wil0, wal0, wis0, wic0, wil1, wal1, wis1, wic1, wil2, wll2, wal2, wis2, was2, wls2, wic2, wil3, wis3, wic3, wic3m, wic3s, wil4, wis4, wic4, wil5, wis5, wic5, wic5m, wil6, wll6, wal6, wis6, was6, wls6, wic6, wil7, wal7, wis7, was7, wic7, wil8, wis8, wic8, wil9, wis9, wic9, wil10, wis10, wic10, am_nI_inj, am_nI_lt, am_nI_le, nI_add, pk_mul, am_nI_sub, am_add_m1, am_gfs, am_pfs, am_alds, am_asts, am_lens, bk150_0, bk150_16, bk150_34, am_B150_0, am_B150_16, am_B150_34, bn150_38, C_X5_within, h1', bI_t, e2, k9, q1]
  exact k0
theorem CM_wth {X : AmX} {S : SS} {G : GG} (h : MSt S G) (hv : SV S) (ht : S.1.2.2.1 + 1 ≤ 99999) : ∃ G4, (∀ (k : Nat) (r : List Instr) (lv : LV) (st : List Value) (Q : Option Value → GG → Prop), st.length ≤ 4 → (WP X k (.invokeinterface 68 1 :: r) lv (.ref 58 :: st) (gset G 59 (upd (upd (upd (G 59) 2 (nzI S.1.2.2.2)) 2 (nzI (nzI S.1.2.2.2))) (13 + drN (nzI S.1.2.2.2) % 8) (nI (drN (nzI (nzI S.1.2.2.2)) % 100)))) Q ↔ WP X k r lv st G4 Q)) ∧ MSt (sTown S (S.1.1, stepN S.1.1 (wthT S.1.2.1 S.1.2.2.2), min 99999 (S.1.2.2.1 + 1), nzI (nzI S.1.2.2.2))) G4 ∧ ∀ o, o < 58 → G4 o = G o := by
  obtain ⟨⟨n, T, t, z⟩, S2⟩ := S
  have hc1 : ME G 59 n T (nI t) z := h.1
  have hv8 : n ≤ 8 := hv.1.1.1
  have hw0 : TWV (n, T, t, z) := hv.1
  have ht : t + 1 ≤ 99999 := ht
  have hp8 : drN (nzI z) % 8 < 8 := Nat.mod_lt _ (by decide)
  have hx : drN (nzI (nzI z)) % 100 ≤ 9999 := by
    have := Nat.mod_lt (drN (nzI (nzI z))) (show 100 > 0 by decide)
    omega
  have hTW : wthT T z = updT T 0 (drN (nzI z) % 8) (drN (nzI (nzI z)) % 100) := rfl
  have hT1 := ME_z (v := nzI (nzI z)) (ME_z (v := nzI z) hc1)
  rw [gset_gset, gset_eq] at hT1
  show ∃ G4, (∀ (k : Nat) (r : List Instr) (lv : LV) (st : List Value) (Q : Option Value → GG → Prop), st.length ≤ 4 → (WP X k (.invokeinterface 68 1 :: r) lv (.ref 58 :: st) (gset G 59 (upd (upd (upd (G 59) 2 (nzI z)) 2 (nzI (nzI z))) (13 + drN (nzI z) % 8) (nI (drN (nzI (nzI z)) % 100)))) Q ↔ WP X k r lv st G4 Q)) ∧ MSt (sTown ((n, T, t, z), S2) (n, stepN n (wthT T z), min 99999 (t + 1), nzI (nzI z))) G4 ∧ ∀ o, o < 58 → G4 o = G o
  rw [hTW]
  generalize drN (nzI z) % 8 = p at *
  generalize drN (nzI (nzI z)) % 100 = pr at *
  generalize nzI (nzI z) = z2 at *
  generalize nzI z = z1 at *
  have hT2 := ME_prize (p := p) (x := pr) hT1 hv8 hp8
  rw [gset_gset, gset_eq] at hT2
  have hv2 : TWV (n, updT T 0 p pr, t, z2) := TWV_prz hw0 hx
  have hr : MR (gset G 59 (upd (upd (upd (G 59) 2 z1) 2 z2) (13 + p) (nI pr))) n (updT T 0 p pr) (nI t) z2 8 := MR_of hT2 (by rw [gset_ne (by omega)]; exact h.2.1) hv2.1 hv2.2.1
  obtain ⟨G4, hev, hr4, hf4⟩ := X5_goes (X := X) hr
  refine ⟨G4, fun k r lv st Q hl => WP_ev (st := .ref 58 :: st) (rest := st) hev (by decide) (c := 1) rfl rfl hl rfl, MSt_town (w := (n, stepN n (updT T 0 p pr), min 99999 (t + 1), z2)) h ?_ (fun o h1 _ h3 h4 => by rw [hf4 o h1 h3 h4, gset_ne h1]), fun o ho => by rw [hf4 o (by omega) (by omega) (by omega), gset_ne (by omega)]⟩
  have h5 := hr4.1
  rw [nI_add, ← show min 99999 (t + 1) = t + 1 by omega] at h5
  exact h5
theorem TWV_step1 {n t t2 p x : Nat} {T : TT} {z z2 : Int32} (h : TWV (n, T, t, z)) (hx : x ≤ 9999) (ht : t2 ≤ 99999) : TWV (n, stepN n (updT T 0 p x), t2, z2) := by
  obtain ⟨y1, y2, y3⟩ := TWV_prz (z2 := z2) h hx (p := p)
  exact ⟨TV_step y1, plan_step y2, ht⟩
theorem TWV_wth {w : TW} {z1 z2 : Int32} (h : TWV w) (hz : z1 = w.2.2.2) : TWV (w.1, stepN w.1 (wthT w.2.1 z1), min 99999 (w.2.2.1 + 1), z2) := by
  obtain ⟨n, T, t, z⟩ := w
  have hx : drN (nzI (nzI z1)) % 100 ≤ 9999 := by
    have := Nat.mod_lt (drN (nzI (nzI z1))) (show 100 > 0 by decide)
    omega
  exact TWV_step1 h hx (Nat.min_le_left _ _)
theorem wthW_TWV {S : SS} (h : TWV S.1) : ∀ i, TWV (wthW S i)
  | 0 => ⟨h.1, h.2.1, Nat.min_le_left _ _⟩
  | i + 1 => by
    rw [wthW_s]
    exact TWV_wth (w := wthW S i) (wthW_TWV h i) rfl
theorem MT_weather {X : AmX} {S : SS} {G : GG} (h : MSt S G) (hv : SV S) (a1 : Int32) : MW X 141 [.ref 58, .int a1] G (sp_weather S a1) := by
  have hE := h.1
  have f0 := hE.2.1
  have hv8 := hv.1.1.1
  have hm := MS_MR h hv
  unfold MW sp_weather
  have e2 : (nI 1 = nI 0) = False := eq_false (by decide)
  show WP X 141 (am_blk 141 0) [some (.ref 58), some (.int a1), none, none] [] G _
  by_cases h1 : inR a1 (nI 1) (nI 20) = true
  rotate_left
  · rw [if_neg (fun z => h1 z)]
    rw [Bool.not_eq_true] at h1
    simp (config := { maxSteps := 1000000 }) (disch := first | exact am_nl_i | exact am_nl_r | exact am_nl_n | exact am_l0 | exact am_l1 | exact am_l2 | exact am_l3 | assumption | omega) only [wp_ldc, wp_sipush, wp_ldc_w, wp_lconst, wp_iadd, wp_isub, wp_imul, wp_iand, wp_ior, wp_ixor, wp_ishl, wp_ishr, wp_iushr, wp_idiv, wp_irem, wp_ineg, wp_i2b, wp_i2s, wp_i2c, wp_i2l, wp_ladd, wp_lmul, wp_lcmp, wp_dup_i, wp_dup_r, wp_dup2, wp_pop, wp_getfield, wp_putfield, wp_getstatic, wp_iaload, wp_baload, wp_aaload, wp_iastore, wp_arraylength, wp_goto, wp_fall, wp_ieq, wp_ine, wp_ilt, wp_ige, wp_igt, wp_ile, wp_ceq, wp_cne, wp_clt, wp_cge, wp_cgt, wp_cle, wp_sw, wp_ret0, wp_ret1z, wp_ret1o, wp_ret1, wp_ret2, wp_ret3, wp_ret4, wp_ret5, wp_return, wp_min, wp_max, wp_abs, am_ex, gset_eq, gset_ne, upd_eq, upd_ne, gset_gset, am_ci_1, am_ci_6, am_toList_some, am_toList_none, true_implies, false_implies, and_self, and_true, true_and, not_true_eq_false, not_false_eq_true, imp_self, implies_true, Classical.not_not, if_true, if_false, false_and, and_false, or_false, false_or, true_or, or_true, Nat.reduceAdd, Nat.reduceMul, Nat.reduceSub, Nat.reduceLT, Nat.reduceLeDiff, Nat.reduceEqDiff, Nat.reduceBneDiff, Nat.add_zero, Nat.zero_add, reduceCtorEq, wil0, wal0, wis0, wic0, wil1, wal1, wis1, wic1, wil2, wll2, wal2, wis2, was2, wls2, wic2, wil3, wis3, wic3, wic3m, wic3s, wil4, wis4, wic4, wil5, wis5, wic5, wic5m, wil6, wll6, wal6, wis6, was6, wls6, wic6, wil7, wal7, wis7, was7, wic7, wil8, wis8, wic8, wil9, wis9, wic9, wil10, wis10, wic10, am_nI_inj, am_nI_lt, am_nI_le, nI_add, pk_mul, am_nI_sub, am_add_m1, am_gfs, am_pfs, am_alds, am_asts, am_lens, bs141, am_B141_0, am_B141_17, am_B141_37, am_B141_39, am_B141_78, C_X5_isPerson, C_X5_isPlace, C_X5_within, C_X5_isKind, C_X5_isSpot, C_X5_isSheet, C_X5_isPrize, C_X5_isAhead, h1, bI_t, bI_f, e2, f0, fcs, C_X5_finding]
    first | exact ⟨rfl, MSt_fnd h (by omega), mfnd_frame⟩ | exact ⟨MSt_fnd h (by omega), mfnd_frame⟩
  rw [if_pos h1]
  obtain ⟨x, hx1, hx, rfl, h1'⟩ := rng1_of (by omega) h1
  rw [aN_nI (show x < 2 ^ 31 by omega)]
  have c0 := hE.1
  have ht := hv.1.2.2
  by_cases hs : 99999 - x < S.1.2.2.1
  · rw [if_pos hs]
    have q1 : (S.1.2.2.1 + x ≤ 99999) = False := eq_false (by omega)
    simp (config := { maxSteps := 1000000 }) (disch := first | exact am_nl_i | exact am_nl_r | exact am_nl_n | exact am_l0 | exact am_l1 | exact am_l2 | exact am_l3 | assumption | omega) only [wp_ldc, wp_sipush, wp_ldc_w, wp_lconst, wp_iadd, wp_isub, wp_imul, wp_iand, wp_ior, wp_ixor, wp_ishl, wp_ishr, wp_iushr, wp_idiv, wp_irem, wp_ineg, wp_i2b, wp_i2s, wp_i2c, wp_i2l, wp_ladd, wp_lmul, wp_lcmp, wp_dup_i, wp_dup_r, wp_dup2, wp_pop, wp_getfield, wp_putfield, wp_getstatic, wp_iaload, wp_baload, wp_aaload, wp_iastore, wp_arraylength, wp_goto, wp_fall, wp_ieq, wp_ine, wp_ilt, wp_ige, wp_igt, wp_ile, wp_ceq, wp_cne, wp_clt, wp_cge, wp_cgt, wp_cle, wp_sw, wp_ret0, wp_ret1z, wp_ret1o, wp_ret1, wp_ret2, wp_ret3, wp_ret4, wp_ret5, wp_return, wp_min, wp_max, wp_abs, am_ex, gset_eq, gset_ne, upd_eq, upd_ne, gset_gset, am_ci_1, am_ci_6, am_toList_some, am_toList_none, true_implies, false_implies, and_self, and_true, true_and, not_true_eq_false, not_false_eq_true, imp_self, implies_true, Classical.not_not, if_true, if_false, false_and, and_false, or_false, false_or, true_or, or_true, Nat.reduceAdd, Nat.reduceMul, Nat.reduceSub, Nat.reduceLT, Nat.reduceLeDiff, Nat.reduceEqDiff, Nat.reduceBneDiff, Nat.add_zero, Nat.zero_add, reduceCtorEq, wil0, wal0, wis0, wic0, wil1, wal1, wis1, wic1, wil2, wll2, wal2, wis2, was2, wls2, wic2, wil3, wis3, wic3, wic3m, wic3s, wil4, wis4, wic4, wil5, wis5, wic5, wic5m, wil6, wll6, wal6, wis6, was6, wls6, wic6, wil7, wal7, wis7, was7, wic7, wil8, wis8, wic8, wil9, wis9, wic9, wil10, wis10, wic10, am_nI_inj, am_nI_lt, am_nI_le, nI_add, pk_mul, am_nI_sub, am_add_m1, am_gfs, am_pfs, am_alds, am_asts, am_lens, bk141_0, bk141_17, am_B141_0, am_B141_17, C_X5_within, h1', bI_t, e2, c0, q1, fcs, C_X5_finding]
    first | exact ⟨rfl, MSt_fnd h (by omega), mfnd_frame⟩ | exact ⟨MSt_fnd h (by omega), mfnd_frame⟩
  rw [if_neg hs]
  have q1 : (S.1.2.2.1 + x ≤ 99999) = True := eq_true (by omega)
  generalize hQ : (fun (w : Option Value) (G1 : GG) => w = some (.int (nI (sumN ((wthW S x).2.1 5) S.1.1), sTown S (wthW S x)).1) ∧ MSt (nI (sumN ((wthW S x).2.1 5) S.1.1), sTown S (wthW S x)).2 G1 ∧ ∀ o, o < 58 → G1 o = G o) = Q
  have key : ∀ d i : Nat, i + d = x → ∀ (G' : GG) (v3 : Option Value), MSt (sTown S (wthW S i)) G' → (∀ o, o < 58 → G' o = G o) → WP X 141 (am_blk 141 39) [some (.ref 58), some (.int (nI x)), some (.int (nI i)), v3] [] G' Q := by
    intro d
    induction d with
    | zero =>
      intro i hi G' v3 hc hf
      obtain rfl : i = x := by omega
      have hP := fun (k : Nat) (r : List Instr) (lv : LV) (st : List Value) (Q : Option Value → GG → Prop) (hl : st.length ≤ 4) => C_X5_goodsAll (X := X) (k := k) (st := st) (r := r) (lv := lv) (Q := Q) (G := G') (n := S.1.1) (T := (wthW S i).2.1) hc.1 (wthW_TWV hv.1 i).1 hl
      rw [bh141_39]
      simp (config := { maxSteps := 1000000 }) (disch := first | exact am_nl_i | exact am_nl_r | exact am_nl_n | exact am_l0 | exact am_l1 | exact am_l2 | exact am_l3 | assumption | omega) only [wp_ldc, wp_sipush, wp_ldc_w, wp_lconst, wp_iadd, wp_isub, wp_imul, wp_iand, wp_ior, wp_ixor, wp_ishl, wp_ishr, wp_iushr, wp_idiv, wp_irem, wp_ineg, wp_i2b, wp_i2s, wp_i2c, wp_i2l, wp_ladd, wp_lmul, wp_lcmp, wp_dup_i, wp_dup_r, wp_dup2, wp_pop, wp_getfield, wp_putfield, wp_getstatic, wp_iaload, wp_baload, wp_aaload, wp_iastore, wp_arraylength, wp_goto, wp_fall, wp_ieq, wp_ine, wp_ilt, wp_ige, wp_igt, wp_ile, wp_ceq, wp_cne, wp_clt, wp_cge, wp_cgt, wp_cle, wp_sw, wp_ret0, wp_ret1z, wp_ret1o, wp_ret1, wp_ret2, wp_ret3, wp_ret4, wp_ret5, wp_return, wp_min, wp_max, wp_abs, am_ex, gset_eq, gset_ne, upd_eq, upd_ne, gset_gset, am_ci_1, am_ci_6, am_toList_some, am_toList_none, true_implies, false_implies, and_self, and_true, true_and, not_true_eq_false, not_false_eq_true, imp_self, implies_true, Classical.not_not, if_true, if_false, false_and, and_false, or_false, false_or, true_or, or_true, Nat.reduceAdd, Nat.reduceMul, Nat.reduceSub, Nat.reduceLT, Nat.reduceLeDiff, Nat.reduceEqDiff, Nat.reduceBneDiff, Nat.add_zero, Nat.zero_add, reduceCtorEq, wil0, wal0, wis0, wic0, wil1, wal1, wis1, wic1, wil2, wll2, wal2, wis2, was2, wls2, wic2, wil3, wis3, wic3, wic3m, wic3s, wil4, wis4, wic4, wil5, wis5, wic5, wic5m, wil6, wll6, wal6, wis6, was6, wls6, wic6, wil7, wal7, wis7, was7, wic7, wil8, wis8, wic8, wil9, wis9, wic9, wil10, wis10, wic10, am_nI_inj, am_nI_lt, am_nI_le, nI_add, pk_mul, am_nI_sub, am_add_m1, am_gfs, am_pfs, am_alds, am_asts, am_lens, bk141_78, am_B141_39, am_B141_78, Nat.le_refl, hP]
      rw [← hQ]
      exact ⟨rfl, hc, hf⟩
    | succ d ih =>
      intro i hi G' v3 hc hf
      have q3 : (x ≤ i) = False := eq_false (by omega)
      have hc1 : ME G' 59 S.1.1 (wthW S i).2.1 (nI (wthW S i).2.2.1) (wthW S i).2.2.2 := hc.1
      have g2 : G' 59 2 = (wthW S i).2.2.2 := hc1.2.2.1
      have htw : (wthW S i).2.2.1 = min 99999 (S.1.2.2.1 + i) := rfl
      obtain ⟨G4, hD, hc4, hf4⟩ := CM_wth (X := X) hc (SV_fr hv (wthW_TWV hv.1 i)) (by show (wthW S i).2.2.1 + 1 ≤ 99999; rw [htw]; omega)
      have hc5 : MSt (sTown S (wthW S (i + 1))) G4 := by rw [wthW_s]; exact hc4
      have hD : ∀ (k : Nat) (r : List Instr) (lv : LV) (st : List Value) (Q : Option Value → GG → Prop), st.length ≤ 4 → (WP X k (.invokeinterface 68 1 :: r) lv (.ref 58 :: st) (gset G' 59 (upd (upd (upd (G' 59) 2 (nzI (wthW S i).2.2.2)) 2 (nzI (nzI (wthW S i).2.2.2))) (13 + drN (nzI (wthW S i).2.2.2) % 8) (nI (drN (nzI (nzI (wthW S i).2.2.2)) % 100)))) Q ↔ WP X k r lv st G4 Q) := hD
      have ihk := fun v3 => ih (i + 1) (by omega) G4 v3 hc5 (fun o ho => (hf4 o ho).trans (hf o ho))
      generalize (wthW S i).2.2.2 = z at *
      have hz0 := nzI_def z
      have hz1 := nzI_def (nzI z)
      have d1 := drI_N (nzI z)
      have d2 := drI_N (nzI (nzI z))
      have l1 := drN_lt (nzI z)
      have l2 := drN_lt (nzI (nzI z))
      have r1 := pk_rem (a := drN (nzI z)) (d := 8) (by omega) (by omega) (by omega)
      have r2 := pk_rem (a := drN (nzI (nzI z))) (d := 100) (by omega) (by omega) (by omega)
      have hp8 : drN (nzI z) % 8 < 8 := Nat.mod_lt _ (by decide)
      have g91 : ∀ f, gset G' 59 f 59 = f := fun f => gset_eq
      have u9 : ∀ (f : Nat → Int32) y, upd f 2 y 2 = y := fun f y => upd_eq
      generalize drN (nzI z) = D1 at *
      generalize drN (nzI (nzI z)) = D2 at *
      generalize nzI (nzI z) = z2 at *
      generalize nzI z = z1 at *
      generalize D1 % 8 = p at *
      generalize D2 % 100 = pr at *
      rw [bh141_39]
      simp (config := { maxSteps := 1000000 }) (disch := first | exact am_nl_i | exact am_nl_r | exact am_nl_n | exact am_l0 | exact am_l1 | exact am_l2 | exact am_l3 | assumption | omega) only [wp_ldc, wp_sipush, wp_ldc_w, wp_lconst, wp_iadd, wp_isub, wp_imul, wp_iand, wp_ior, wp_ixor, wp_ishl, wp_ishr, wp_iushr, wp_idiv, wp_irem, wp_ineg, wp_i2b, wp_i2s, wp_i2c, wp_i2l, wp_ladd, wp_lmul, wp_lcmp, wp_dup_i, wp_dup_r, wp_dup2, wp_pop, wp_getfield, wp_putfield, wp_getstatic, wp_iaload, wp_baload, wp_aaload, wp_iastore, wp_arraylength, wp_goto, wp_fall, wp_ieq, wp_ine, wp_ilt, wp_ige, wp_igt, wp_ile, wp_ceq, wp_cne, wp_clt, wp_cge, wp_cgt, wp_cle, wp_sw, wp_ret0, wp_ret1z, wp_ret1o, wp_ret1, wp_ret2, wp_ret3, wp_ret4, wp_ret5, wp_return, wp_min, wp_max, wp_abs, am_ex, gset_eq, gset_ne, upd_eq, upd_ne, gset_gset, am_ci_1, am_ci_6, am_toList_some, am_toList_none, true_implies, false_implies, and_self, and_true, true_and, not_true_eq_false, not_false_eq_true, imp_self, implies_true, Classical.not_not, if_true, if_false, false_and, and_false, or_false, false_or, true_or, or_true, Nat.reduceAdd, Nat.reduceMul, Nat.reduceSub, Nat.reduceLT, Nat.reduceLeDiff, Nat.reduceEqDiff, Nat.reduceBneDiff, Nat.add_zero, Nat.zero_add, reduceCtorEq, wil0, wal0, wis0, wic0, wil1, wal1, wis1, wic1, wil2, wll2, wal2, wis2, was2, wls2, wic2, wil3, wis3, wic3, wic3m, wic3s, wil4, wis4, wic4, wil5, wis5, wic5, wic5m, wil6, wll6, wal6, wis6, was6, wls6, wic6, wil7, wal7, wis7, was7, wic7, wil8, wis8, wic8, wil9, wis9, wic9, wil10, wis10, wic10, am_nI_inj, am_nI_lt, am_nI_le, nI_add, pk_mul, am_nI_sub, am_add_m1, am_gfs, am_pfs, am_alds, am_asts, am_lens, am_B141_39, bn141_39, q3, C_X5_drawn, g2, ← hz0, g91, u9, ← hz1, d1, d2, r1, r2, hD]
      exact ihk _
  have w0 : wthW S 0 = S.1 := by
    unfold wthW
    rw [show min 99999 (S.1.2.2.1 + 0) = S.1.2.2.1 by omega]
    rfl
  have k0 := key x 0 (by omega) G none (by rw [w0]; exact h) (fun _ _ => rfl)
  simp (config := { maxSteps := 1000000 }) (disch := first | exact am_nl_i | exact am_nl_r | exact am_nl_n | exact am_l0 | exact am_l1 | exact am_l2 | exact am_l3 | assumption | omega) only [wp_ldc, wp_sipush, wp_ldc_w, wp_lconst, wp_iadd, wp_isub, wp_imul, wp_iand, wp_ior, wp_ixor, wp_ishl, wp_ishr, wp_iushr, wp_idiv, wp_irem, wp_ineg, wp_i2b, wp_i2s, wp_i2c, wp_i2l, wp_ladd, wp_lmul, wp_lcmp, wp_dup_i, wp_dup_r, wp_dup2, wp_pop, wp_getfield, wp_putfield, wp_getstatic, wp_iaload, wp_baload, wp_aaload, wp_iastore, wp_arraylength, wp_goto, wp_fall, wp_ieq, wp_ine, wp_ilt, wp_ige, wp_igt, wp_ile, wp_ceq, wp_cne, wp_clt, wp_cge, wp_cgt, wp_cle, wp_sw, wp_ret0, wp_ret1z, wp_ret1o, wp_ret1, wp_ret2, wp_ret3, wp_ret4, wp_ret5, wp_return, wp_min, wp_max, wp_abs, am_ex, gset_eq, gset_ne, upd_eq, upd_ne, gset_gset, am_ci_1, am_ci_6, am_toList_some, am_toList_none, true_implies, false_implies, and_self, and_true, true_and, not_true_eq_false, not_false_eq_true, imp_self, implies_true, Classical.not_not, if_true, if_false, false_and, and_false, or_false, false_or, true_or, or_true, Nat.reduceAdd, Nat.reduceMul, Nat.reduceSub, Nat.reduceLT, Nat.reduceLeDiff, Nat.reduceEqDiff, Nat.reduceBneDiff, Nat.add_zero, Nat.zero_add, reduceCtorEq, wil0, wal0, wis0, wic0, wil1, wal1, wis1, wic1, wil2, wll2, wal2, wis2, was2, wls2, wic2, wil3, wis3, wic3, wic3m, wic3s, wil4, wis4, wic4, wil5, wis5, wic5, wic5m, wil6, wll6, wal6, wis6, was6, wls6, wic6, wil7, wal7, wis7, was7, wic7, wil8, wis8, wic8, wil9, wis9, wic9, wil10, wis10, wic10, am_nI_inj, am_nI_lt, am_nI_le, nI_add, pk_mul, am_nI_sub, am_add_m1, am_gfs, am_pfs, am_alds, am_asts, am_lens, bk141_0, bk141_17, bk141_37, am_B141_0, am_B141_17, am_B141_37, bn141_39, C_X5_within, h1', bI_t, e2, c0, q1]
  exact k0
