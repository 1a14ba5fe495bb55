/-! ===== texts: the class reads ===== -/
def CF (G G1 : GG) : Prop := G1 46 1 = G 46 1 ∧ ∀ o, ¬ (34 ≤ o ∧ o ≤ 44 ∨ o = 46) → G1 o = G o
theorem CF.refl (G : GG) : CF G G := ⟨rfl, fun _ _ => rfl⟩
theorem CF.trans {G G1 G2 : GG} (h1 : CF G G1) (h2 : CF G1 G2) : CF G G2 := ⟨h2.1.trans h1.1, fun o ho => (h2.2 o ho).trans (h1.2 o ho)⟩
/-- one step of the class from a cursor -/
theorem CS_step {X : AmX} {G : GG} {n : Nat} {b : Nat → Nat} {c : Cur} (hC : CC G n c) (hv : CV n c) (hT : TBy G 47 n b) : ∃ G1, Ev X 156 [.ref 46] G none G1 ∧ CC G1 n (nxt b n c.2.1) ∧ CV n (nxt b n c.2.1) ∧ TBy G1 47 n b ∧ CF G G1 ∧ ∀ o, ¬ o = 46 → G1 o = G o := by
  obtain ⟨G1, h1, h2, h3⟩ := X1_step (X := X) hC.1 hC.2.2.2.1 hv.2.1 hT
  exact ⟨G1, h1, h2, (nxt_ok hv.2.1).1, TBy_congr hT (h3 47 (by omega)), ⟨by rw [h2.1, hC.1], fun o ho => h3 o (by omega)⟩, h3⟩
theorem E_X2_isNumberHere {X : AmX} {G : GG} (n : Nat) (c : Cur) (hi : Int32) (hC : CC G n c) (hv : CV n c) (hh : hi.toInt < 10000) : Ev X 162 [.ref 45, .int hi] G (some (.int (bI (numOk c hi)))) (G) := by
  refine Ev_of ?_
  show WP X 162 (am_blk 162 0) [some (.ref 45), some (.int hi)] [] G _
  rw [num_c hh hv.2.2.2.2]
  obtain ⟨g, en, so, va⟩ := c
  obtain ⟨_, c2, _, _, c4⟩ := hC
  have c2 : G 46 2 = nI so := c2
  have c4 : so = 2 → G 46 4 = nI va := c4
  have v3 : so ≤ 4 := hv.2.2.1
  show WP X _ _ _ _ _ (fun v H => v = some (.int (bI (decide (so = 2 ∧ ¬ hi < nI va)))) ∧ H = G)
  by_cases hs : so = 2
  · have q1 := eq_true hs
    have c4 := c4 hs
    by_cases hl : hi < nI va
    · have q2 := eq_true hl
      rw [decide_eq_false (fun z => z.2 hl)]
      simp (config := { maxSteps := 1000000 }) (disch := first | exact am_nl_i | exact am_nl_r | exact am_nl_n | exact am_l0 | exact am_l1 | exact am_l2 | exact am_l3 | assumption | omega) only [wp_ldc, wp_sipush, wp_ldc_w, wp_lconst, wp_iadd, wp_isub, wp_imul, wp_iand, wp_ior, wp_ixor, wp_ishl, wp_ishr, wp_iushr, wp_idiv, wp_irem, wp_ineg, wp_i2b, wp_i2s, wp_i2c, wp_i2l, wp_ladd, wp_lmul, wp_lcmp, wp_dup_i, wp_dup_r, wp_dup2, wp_pop, wp_getfield, wp_putfield, wp_getstatic, wp_iaload, wp_baload, wp_aaload, wp_iastore, wp_arraylength, wp_goto, wp_fall, wp_ieq, wp_ine, wp_ilt, wp_ige, wp_igt, wp_ile, wp_ceq, wp_cne, wp_clt, wp_cge, wp_cgt, wp_cle, wp_sw, wp_ret0, wp_ret1z, wp_ret1o, wp_ret1, wp_ret2, wp_ret3, wp_ret4, wp_ret5, wp_return, wp_min, wp_max, wp_abs, am_ex, gset_eq, gset_ne, upd_eq, upd_ne, gset_gset, am_ci_1, am_ci_6, am_toList_some, am_toList_none, true_implies, false_implies, and_self, and_true, true_and, not_true_eq_false, not_false_eq_true, imp_self, implies_true, Classical.not_not, if_true, if_false, false_and, and_false, or_false, false_or, true_or, or_true, Nat.reduceAdd, Nat.reduceMul, Nat.reduceSub, Nat.reduceLT, Nat.reduceLeDiff, Nat.reduceEqDiff, Nat.reduceBneDiff, Nat.add_zero, Nat.zero_add, reduceCtorEq, wil0, wal0, wis0, wic0, wil1, wal1, wis1, wic1, wil2, wll2, wal2, wis2, was2, wls2, wic2, wil3, wis3, wic3, wic3m, wic3s, wil4, wis4, wic4, wil5, wis5, wic5, wic5m, wil6, wll6, wal6, wis6, was6, wls6, wic6, wil7, wal7, wis7, was7, wic7, wil8, wis8, wic8, wil9, wis9, wic9, wil10, wis10, wic10, am_nI_inj, am_nI_lt, am_nI_le, nI_add, pk_mul, am_nI_sub, am_add_m1, am_gfs, am_pfs, am_alds, am_asts, am_lens, bs162, am_B162_0, am_B162_26, am_B162_27, c2, c4, q1, q2, bI_f]
    · have q2 := eq_false hl
      rw [decide_eq_true ⟨hs, hl⟩]
      simp (config := { maxSteps := 1000000 }) (disch := first | exact am_nl_i | exact am_nl_r | exact am_nl_n | exact am_l0 | exact am_l1 | exact am_l2 | exact am_l3 | assumption | omega) only [wp_ldc, wp_sipush, wp_ldc_w, wp_lconst, wp_iadd, wp_isub, wp_imul, wp_iand, wp_ior, wp_ixor, wp_ishl, wp_ishr, wp_iushr, wp_idiv, wp_irem, wp_ineg, wp_i2b, wp_i2s, wp_i2c, wp_i2l, wp_ladd, wp_lmul, wp_lcmp, wp_dup_i, wp_dup_r, wp_dup2, wp_pop, wp_getfield, wp_putfield, wp_getstatic, wp_iaload, wp_baload, wp_aaload, wp_iastore, wp_arraylength, wp_goto, wp_fall, wp_ieq, wp_ine, wp_ilt, wp_ige, wp_igt, wp_ile, wp_ceq, wp_cne, wp_clt, wp_cge, wp_cgt, wp_cle, wp_sw, wp_ret0, wp_ret1z, wp_ret1o, wp_ret1, wp_ret2, wp_ret3, wp_ret4, wp_ret5, wp_return, wp_min, wp_max, wp_abs, am_ex, gset_eq, gset_ne, upd_eq, upd_ne, gset_gset, am_ci_1, am_ci_6, am_toList_some, am_toList_none, true_implies, false_implies, and_self, and_true, true_and, not_true_eq_false, not_false_eq_true, imp_self, implies_true, Classical.not_not, if_true, if_false, false_and, and_false, or_false, false_or, true_or, or_true, Nat.reduceAdd, Nat.reduceMul, Nat.reduceSub, Nat.reduceLT, Nat.reduceLeDiff, Nat.reduceEqDiff, Nat.reduceBneDiff, Nat.add_zero, Nat.zero_add, reduceCtorEq, wil0, wal0, wis0, wic0, wil1, wal1, wis1, wic1, wil2, wll2, wal2, wis2, was2, wls2, wic2, wil3, wis3, wic3, wic3m, wic3s, wil4, wis4, wic4, wil5, wis5, wic5, wic5m, wil6, wll6, wal6, wis6, was6, wls6, wic6, wil7, wal7, wis7, was7, wic7, wil8, wis8, wic8, wil9, wis9, wic9, wil10, wis10, wic10, am_nI_inj, am_nI_lt, am_nI_le, nI_add, pk_mul, am_nI_sub, am_add_m1, am_gfs, am_pfs, am_alds, am_asts, am_lens, bs162, am_B162_0, am_B162_26, am_B162_27, c2, c4, q1, q2, bI_t]
  · have q1 := eq_false hs
    rw [decide_eq_false (fun z => hs z.1)]
    simp (config := { maxSteps := 1000000 }) (disch := first | exact am_nl_i | exact am_nl_r | exact am_nl_n | exact am_l0 | exact am_l1 | exact am_l2 | exact am_l3 | assumption | omega) only [wp_ldc, wp_sipush, wp_ldc_w, wp_lconst, wp_iadd, wp_isub, wp_imul, wp_iand, wp_ior, wp_ixor, wp_ishl, wp_ishr, wp_iushr, wp_idiv, wp_irem, wp_ineg, wp_i2b, wp_i2s, wp_i2c, wp_i2l, wp_ladd, wp_lmul, wp_lcmp, wp_dup_i, wp_dup_r, wp_dup2, wp_pop, wp_getfield, wp_putfield, wp_getstatic, wp_iaload, wp_baload, wp_aaload, wp_iastore, wp_arraylength, wp_goto, wp_fall, wp_ieq, wp_ine, wp_ilt, wp_ige, wp_igt, wp_ile, wp_ceq, wp_cne, wp_clt, wp_cge, wp_cgt, wp_cle, wp_sw, wp_ret0, wp_ret1z, wp_ret1o, wp_ret1, wp_ret2, wp_ret3, wp_ret4, wp_ret5, wp_return, wp_min, wp_max, wp_abs, am_ex, gset_eq, gset_ne, upd_eq, upd_ne, gset_gset, am_ci_1, am_ci_6, am_toList_some, am_toList_none, true_implies, false_implies, and_self, and_true, true_and, not_true_eq_false, not_false_eq_true, imp_self, implies_true, Classical.not_not, if_true, if_false, false_and, and_false, or_false, false_or, true_or, or_true, Nat.reduceAdd, Nat.reduceMul, Nat.reduceSub, Nat.reduceLT, Nat.reduceLeDiff, Nat.reduceEqDiff, Nat.reduceBneDiff, Nat.add_zero, Nat.zero_add, reduceCtorEq, wil0, wal0, wis0, wic0, wil1, wal1, wis1, wic1, wil2, wll2, wal2, wis2, was2, wls2, wic2, wil3, wis3, wic3, wic3m, wic3s, wil4, wis4, wic4, wil5, wis5, wic5, wic5m, wil6, wll6, wal6, wis6, was6, wls6, wic6, wil7, wal7, wis7, was7, wic7, wil8, wis8, wic8, wil9, wis9, wic9, wil10, wis10, wic10, am_nI_inj, am_nI_lt, am_nI_le, nI_add, pk_mul, am_nI_sub, am_add_m1, am_gfs, am_pfs, am_alds, am_asts, am_lens, bs162, am_B162_0, am_B162_26, am_B162_27, c2, q1, bI_f]
theorem C_X2_isNumberHere {X : AmX} {G : GG} {k : Nat} {r : List Instr} {lv : LV} {st : List Value} {Q : Option Value → GG → Prop} {n : Nat} {c : Cur} {hi : Int32} (hC : CC G n c) (hv : CV n c) (hh : hi.toInt < 10000) (hl : st.length ≤ 4) : WP X k (.invokeinterface 162 2 :: r) lv ((.int hi) :: (.ref 45) :: st) G Q ↔ WP X k r lv ((.int (bI (numOk c hi))) :: st) (G) Q := WP_ev (E_X2_isNumberHere n c hi hC hv hh) (by decide) rfl rfl hl (rfl)
theorem X2_readTrait {X : AmX} {G : GG} {n m t j p tr : Nat} {b : Nat → Nat} {T : TT} {z : Int32} {c : Cur} {hi : Int32} (hj : j < 11) (hC : CC G n c) (hv : CV n c) (hT : TBy G 47 n b) (hE : TE G 34 m T t z) (hp : p < 8) (htr : 1 ≤ tr ∧ tr ≤ 3) (hh : hi.toInt < 10000) (h7 : ∀ c', numOk c' hi = true → c'.2.2.1 = 2 ∧ c'.2.2.2 < 8) : ∃ G1, Ev X 166 [.ref 45, .ref (100 + j), .int (nI p), .int (nI tr), .int hi] G (some (.int (bI (!(mAft b n (false, c) j hi).1)))) G1 ∧ CC G1 n (mAft b n (false, c) j hi).2 ∧ CV n (mAft b n (false, c) j hi).2 ∧ TBy G1 47 n b ∧ ((mAft b n (false, c) j hi).1 = false → TE G1 34 m (if isWd b c j = true then updT T (tr + 1) p (nxt b n c.2.1).2.2.2 else T) t z) ∧ CF G G1 := by
  have hj5 : 100 + j < 500 := by omega
  have e2 : (nI 1 = nI 0) = False := eq_false (by decide)
  have hW := fun (k : Nat) (r : List Instr) (lv : LV) (st : List Value) (Q : Option Value → GG → Prop) (hl : st.length ≤ 4) => C_X1_isWord (X := X) (k := k) (st := st) (r := r) (lv := lv) (Q := Q) (G := G) (n := n) (j := j) (b := b) (c := c) hj hC hv hT hl
  cases hd : isWd b c j
  · have hm : mAft b n (false, c) j hi = (false, c) := if_pos (by show (false || !isWd b c j) = true; rw [hd]; rfl)
    rw [hm]
    rw [hd] at hW
    refine ⟨G, Ev_of ?_, hC, hv, hT, fun _ => by rw [if_neg Bool.false_ne_true]; exact hE, CF.refl G⟩
    show WP X 166 (am_blk 166 0) [some (.ref 45), some (.ref (100 + j)), some (.int (nI p)), some (.int (nI tr)), some (.int hi)] [] G _
    have e4 : bI (!false) = nI 1 := rfl
    simp (config := { maxSteps := 1000000 }) (disch := first | exact am_nl_i | exact am_nl_r | exact am_nl_n | exact am_l0 | exact am_l1 | exact am_l2 | exact am_l3 | assumption | omega) only [wp_ldc, wp_sipush, wp_ldc_w, wp_lconst, wp_iadd, wp_isub, wp_imul, wp_iand, wp_ior, wp_ixor, wp_ishl, wp_ishr, wp_iushr, wp_idiv, wp_irem, wp_ineg, wp_i2b, wp_i2s, wp_i2c, wp_i2l, wp_ladd, wp_lmul, wp_lcmp, wp_dup_i, wp_dup_r, wp_dup2, wp_pop, wp_getfield, wp_putfield, wp_getstatic, wp_iaload, wp_baload, wp_aaload, wp_iastore, wp_arraylength, wp_goto, wp_fall, wp_ieq, wp_ine, wp_ilt, wp_ige, wp_igt, wp_ile, wp_ceq, wp_cne, wp_clt, wp_cge, wp_cgt, wp_cle, wp_sw, wp_ret0, wp_ret1z, wp_ret1o, wp_ret1, wp_ret2, wp_ret3, wp_ret4, wp_ret5, wp_return, wp_min, wp_max, wp_abs, am_ex, gset_eq, gset_ne, upd_eq, upd_ne, gset_gset, am_ci_1, am_ci_6, am_toList_some, am_toList_none, true_implies, false_implies, and_self, and_true, true_and, not_true_eq_false, not_false_eq_true, imp_self, implies_true, Classical.not_not, if_true, if_false, false_and, and_false, or_false, false_or, true_or, or_true, Nat.reduceAdd, Nat.reduceMul, Nat.reduceSub, Nat.reduceLT, Nat.reduceLeDiff, Nat.reduceEqDiff, Nat.reduceBneDiff, Nat.add_zero, Nat.zero_add, reduceCtorEq, wil0, wal0, wis0, wic0, wil1, wal1, wis1, wic1, wil2, wll2, wal2, wis2, was2, wls2, wic2, wil3, wis3, wic3, wic3m, wic3s, wil4, wis4, wic4, wil5, wis5, wic5, wic5m, wil6, wll6, wal6, wis6, was6, wls6, wic6, wil7, wal7, wis7, was7, wic7, wil8, wis8, wic8, wil9, wis9, wic9, wil10, wis10, wic10, am_nI_inj, am_nI_lt, am_nI_le, nI_add, pk_mul, am_nI_sub, am_add_m1, am_gfs, am_pfs, am_alds, am_asts, am_lens, bk166_0, am_B166_0, hW, bI_f, e4]
  · rw [hd] at hW
    obtain ⟨G2, hev2, hC2, hv2, hT2, hf2, ho2⟩ := CS_step (X := X) hC hv hT
    have hS := fun (k : Nat) (r : List Instr) (lv : LV) (st : List Value) (Q : Option Value → GG → Prop) (hl : st.length ≤ 4) => WP_ev (k := k) (st := .ref 46 :: st) (rest := st) (r := r) (lv := lv) (Q := Q) hev2 (by decide) (c := 1) rfl rfl hl rfl
    have hN := fun (k : Nat) (r : List Instr) (lv : LV) (st : List Value) (Q : Option Value → GG → Prop) (hl : st.length ≤ 4) => C_X2_isNumberHere (X := X) (k := k) (st := st) (r := r) (lv := lv) (Q := Q) (G := G2) (n := n) (c := nxt b n c.2.1) (hi := hi) hC2 hv2 hh hl
    have hm0 : mAft b n (false, c) j hi = mMust b n (false, nxt b n c.2.1) (numOk (nxt b n c.2.1) hi) := if_neg (by show ¬ (false || !isWd b c j) = true; rw [hd]; exact Bool.false_ne_true)
    rw [hm0]
    cases hno : numOk (nxt b n c.2.1) hi
    · rw [hno] at hN
      have hm : mMust b n (false, nxt b n c.2.1) false = (true, nxt b n c.2.1) := rfl
      rw [hm]
      refine ⟨G2, Ev_of ?_, hC2, hv2, hT2, fun q => absurd (show true = false from q) (by decide), hf2⟩
      show WP X 166 (am_blk 166 0) [some (.ref 45), some (.ref (100 + j)), some (.int (nI p)), some (.int (nI tr)), some (.int hi)] [] G _
      have e4 : bI (!true) = nI 0 := rfl
      simp (config := { maxSteps := 1000000 }) (disch := first | exact am_nl_i | exact am_nl_r | exact am_nl_n | exact am_l0 | exact am_l1 | exact am_l2 | exact am_l3 | assumption | omega) only [wp_ldc, wp_sipush, wp_ldc_w, wp_lconst, wp_iadd, wp_isub, wp_imul, wp_iand, wp_ior, wp_ixor, wp_ishl, wp_ishr, wp_iushr, wp_idiv, wp_irem, wp_ineg, wp_i2b, wp_i2s, wp_i2c, wp_i2l, wp_ladd, wp_lmul, wp_lcmp, wp_dup_i, wp_dup_r, wp_dup2, wp_pop, wp_getfield, wp_putfield, wp_getstatic, wp_iaload, wp_baload, wp_aaload, wp_iastore, wp_arraylength, wp_goto, wp_fall, wp_ieq, wp_ine, wp_ilt, wp_ige, wp_igt, wp_ile, wp_ceq, wp_cne, wp_clt, wp_cge, wp_cgt, wp_cle, wp_sw, wp_ret0, wp_ret1z, wp_ret1o, wp_ret1, wp_ret2, wp_ret3, wp_ret4, wp_ret5, wp_return, wp_min, wp_max, wp_abs, am_ex, gset_eq, gset_ne, upd_eq, upd_ne, gset_gset, am_ci_1, am_ci_6, am_toList_some, am_toList_none, true_implies, false_implies, and_self, and_true, true_and, not_true_eq_false, not_false_eq_true, imp_self, implies_true, Classical.not_not, if_true, if_false, false_and, and_false, or_false, false_or, true_or, or_true, Nat.reduceAdd, Nat.reduceMul, Nat.reduceSub, Nat.reduceLT, Nat.reduceLeDiff, Nat.reduceEqDiff, Nat.reduceBneDiff, Nat.add_zero, Nat.zero_add, reduceCtorEq, wil0, wal0, wis0, wic0, wil1, wal1, wis1, wic1, wil2, wll2, wal2, wis2, was2, wls2, wic2, wil3, wis3, wic3, wic3m, wic3s, wil4, wis4, wic4, wil5, wis5, wic5, wic5m, wil6, wll6, wal6, wis6, was6, wls6, wic6, wil7, wal7, wis7, was7, wic7, wil8, wis8, wic8, wil9, wis9, wic9, wil10, wis10, wic10, am_nI_inj, am_nI_lt, am_nI_le, nI_add, pk_mul, am_nI_sub, am_add_m1, am_gfs, am_pfs, am_alds, am_asts, am_lens, bk166_0, bk166_13, am_B166_0, am_B166_13, hW, bI_t, bI_f, e2, hS, hN, e4]
    · rw [hno] at hN
      have hm : mMust b n (false, nxt b n c.2.1) true = (false, nxt b n (nxt b n c.2.1).2.1) := rfl
      rw [hm]
      obtain ⟨hso, hva⟩ := h7 _ hno
      have f4 : G2 46 4 = nI (nxt b n c.2.1).2.2.2 := hC2.2.2.2.2 hso
      generalize hc1 : nxt b n c.2.1 = c1 at *
      have hev3 := E_X3_setTrait (X := X) (G := G2) 34 p tr (nI c1.2.2.2) tb34 hp (by omega)
      have hU := fun (kk : Nat) (r : List Instr) (lv : LV) (st : List Value) (Q : Option Value → GG → Prop) (hl : st.length ≤ 4) => WP_ev (k := kk) (st := .int (nI c1.2.2.2) :: .int (nI tr) :: .int (nI p) :: .ref 34 :: st) (rest := st) (r := r) (lv := lv) (Q := Q) hev3 (by decide) (c := 4) rfl rfl hl rfl
      have hE2 : TE G2 34 m T t z := TE_congr hE (fun o a b => ho2 o (by omega))
      have hE3 := TE_set (i := p) (k := tr) (x := c1.2.2.2) hE2 (by omega)
      have eKv : eK tr c1.2.2.2 = nI c1.2.2.2 := by
        unfold eK
        split
        · exact eP_lt (by omega)
        · rfl
      rw [eKv] at hE3
      have hne : ¬ (46 : Nat) = 34 + (2 + tr) := by omega
      have hG3 : ∀ o, ¬ (34 ≤ o ∧ o ≤ 44) → gset G2 (34 + (2 + tr)) (upd (G2 (34 + (2 + tr))) p (nI c1.2.2.2)) o = G2 o := fun o ho => gset_ne (by omega)
      have hC3 : CC (gset G2 (34 + (2 + tr)) (upd (G2 (34 + (2 + tr))) p (nI c1.2.2.2))) n c1 := by
        unfold CC at hC2 ⊢
        rw [hG3 46 (by omega)]; exact hC2
      have hT3 : TBy (gset G2 (34 + (2 + tr)) (upd (G2 (34 + (2 + tr))) p (nI c1.2.2.2))) 47 n b := TBy_congr hT2 (hG3 47 (by omega))
      have hf3 : CF G2 (gset G2 (34 + (2 + tr)) (upd (G2 (34 + (2 + tr))) p (nI c1.2.2.2))) := ⟨by rw [hG3 46 (by omega)], fun o ho => hG3 o (by omega)⟩
      generalize gset G2 (34 + (2 + tr)) (upd (G2 (34 + (2 + tr))) p (nI c1.2.2.2)) = G3 at *
      obtain ⟨G4, hev4, hC4, hv4, hT4, hf4, ho4⟩ := CS_step (X := X) hC3 hv2 hT3
      have hS4 := fun (kk : Nat) (r : List Instr) (lv : LV) (st : List Value) (Q : Option Value → GG → Prop) (hl : st.length ≤ 4) => WP_ev (k := kk) (st := .ref 46 :: st) (rest := st) (r := r) (lv := lv) (Q := Q) hev4 (by decide) (c := 1) rfl rfl hl rfl
      refine ⟨G4, Ev_of ?_, hC4, hv4, hT4, fun _ => by rw [if_pos rfl]; exact TE_congr hE3 (fun o a b => ho4 o (by omega)), (hf2.trans hf3).trans hf4⟩
      show WP X 166 (am_blk 166 0) [some (.ref 45), some (.ref (100 + j)), some (.int (nI p)), some (.int (nI tr)), some (.int hi)] [] G _
      have e4 : bI (!false) = nI 1 := rfl
      simp (config := { maxSteps := 1000000 }) (disch := first | exact am_nl_i | exact am_nl_r | exact am_nl_n | exact am_l0 | exact am_l1 | exact am_l2 | exact am_l3 | assumption | omega) only [wp_ldc, wp_sipush, wp_ldc_w, wp_lconst, wp_iadd, wp_isub, wp_imul, wp_iand, wp_ior, wp_ixor, wp_ishl, wp_ishr, wp_iushr, wp_idiv, wp_irem, wp_ineg, wp_i2b, wp_i2s, wp_i2c, wp_i2l, wp_ladd, wp_lmul, wp_lcmp, wp_dup_i, wp_dup_r, wp_dup2, wp_pop, wp_getfield, wp_putfield, wp_getstatic, wp_iaload, wp_baload, wp_aaload, wp_iastore, wp_arraylength, wp_goto, wp_fall, wp_ieq, wp_ine, wp_ilt, wp_ige, wp_igt, wp_ile, wp_ceq, wp_cne, wp_clt, wp_cge, wp_cgt, wp_cle, wp_sw, wp_ret0, wp_ret1z, wp_ret1o, wp_ret1, wp_ret2, wp_ret3, wp_ret4, wp_ret5, wp_return, wp_min, wp_max, wp_abs, am_ex, gset_eq, gset_ne, upd_eq, upd_ne, gset_gset, am_ci_1, am_ci_6, am_toList_some, am_toList_none, true_implies, false_implies, and_self, and_true, true_and, not_true_eq_false, not_false_eq_true, imp_self, implies_true, Classical.not_not, if_true, if_false, false_and, and_false, or_false, false_or, true_or, or_true, Nat.reduceAdd, Nat.reduceMul, Nat.reduceSub, Nat.reduceLT, Nat.reduceLeDiff, Nat.reduceEqDiff, Nat.reduceBneDiff, Nat.add_zero, Nat.zero_add, reduceCtorEq, wil0, wal0, wis0, wic0, wil1, wal1, wis1, wic1, wil2, wll2, wal2, wis2, was2, wls2, wic2, wil3, wis3, wic3, wic3m, wic3s, wil4, wis4, wic4, wil5, wis5, wic5, wic5m, wil6, wll6, wal6, wis6, was6, wls6, wic6, wil7, wal7, wis7, was7, wic7, wil8, wis8, wic8, wil9, wis9, wic9, wil10, wis10, wic10, am_nI_inj, am_nI_lt, am_nI_le, nI_add, pk_mul, am_nI_sub, am_add_m1, am_gfs, am_pfs, am_alds, am_asts, am_lens, bk166_0, bk166_13, bk166_31, am_B166_0, am_B166_13, am_B166_31, hW, bI_t, e2, hS, hN, f4, hU, hS4, e4]
theorem aft_t {b : Nat → Nat} {n j : Nat} {c : Cur} {hi : Int32} : mAft b n (true, c) j hi = (true, c) := rfl
theorem nI_m1_lt {m : Nat} (hm : m ≤ 8) : (nI m - nI 1).toInt < 10000 := by
  by_cases h : m = 0
  · subst h; decide
  · rw [am_nI_sub (by omega), nI_toInt (by omega)]; omega
theorem X2_readTraits {X : AmX} {G : GG} {n m t kk : Nat} {b : Nat → Nat} {T : TT} {z : Int32} {c : Cur} (hC : CC G n c) (hv : CV n c) (hT : TBy G 47 n b) (hm : m < 8) (hE : TE G 34 (m + 1) (addT T m kk 0) t z) : ∃ G1, Ev X 165 [.ref 45, .int (nI m)] G (some (.int (bI (!(mAft b n (mAft b n (mAft b n (false, c) 8 (nI 7)) 9 (nI 7)) 10 (nI m - nI 1)).1)))) G1 ∧ CC G1 n (mAft b n (mAft b n (mAft b n (false, c) 8 (nI 7)) 9 (nI 7)) 10 (nI m - nI 1)).2 ∧ ((mAft b n (mAft b n (mAft b n (false, c) 8 (nI 7)) 9 (nI 7)) 10 (nI m - nI 1)).1 = false → TE G1 34 (m + 1) (addF T m kk (vOf b n c 8 0) (vOf b n (mAft b n (false, c) 8 (nI 7)).2 9 1) (vOf b n (mAft b n (mAft b n (false, c) 8 (nI 7)) 9 (nI 7)).2 10 8)) t z) ∧ CF G G1 := by
  have e2 : (nI 1 = nI 0) = False := eq_false (by decide)
  have n7 : ∀ c' : Cur, numOk c' (nI 7) = true → c'.2.2.1 = 2 ∧ c'.2.2.2 < 8 := fun c' h => by
    have := num_7 (by omega) h; omega
  have nm : ∀ c' : Cur, numOk c' (nI m - nI 1) = true → c'.2.2.1 = 2 ∧ c'.2.2.2 < 8 := fun c' h => by
    have := num_m (by omega) h; omega
  have t7 : (nI 7).toInt < 10000 := by decide
  obtain ⟨G2, hev2, hC2, hv2, hT2, hE2, hf2⟩ := X2_readTrait (X := X) (j := 8) (p := m) (tr := 1) (hi := nI 7) (by omega) hC hv hT hE hm (by omega) t7 n7
  have hev2 : Ev X 166 [.ref 45, .ref 108, .int (nI m), .int (nI 1), .int (nI 7)] G (some (.int (bI (!(mAft b n (false, c) 8 (nI 7)).1)))) G2 := hev2
  have hA := fun (kq : Nat) (r : List Instr) (lv : LV) (Q : Option Value → GG → Prop) => WP_ev (k := kq) (st := [.int (nI 7), .int (nI 1), .int (nI m), .ref 108, .ref 45]) (rest := []) (r := r) (lv := lv) (Q := Q) hev2 (by decide) (c := 5) rfl rfl (by decide) rfl
  have ht1 : updT (addT T m kk 0) (1 + 1) m (nxt b n c.2.1).2.2.2 = addF T m kk (nxt b n c.2.1).2.2.2 1 8 := by
    funext cc i
    unfold updT addT addF
    by_cases hi : i = m
    · subst hi
      by_cases c2 : cc = 2
      · simp [c2]
      · simp [c2]
    · simp [hi]
  rcases hs2 : mAft b n (false, c) 8 (nI 7) with ⟨w2, d2⟩
  rw [hs2] at hev2 hC2 hv2 hE2 hA
  have hC2 : CC G2 n d2 := hC2
  have hv2 : CV n d2 := hv2
  cases w2
  rotate_left
  · rw [aft_t, aft_t]
    have e4 : bI (!true) = nI 0 := rfl
    refine ⟨G2, Ev_of ?_, hC2, fun q => absurd (show true = false from q) (by decide), hf2⟩
    show WP X 165 (am_blk 165 0) [some (.ref 45), some (.int (nI m))] [] G _
    simp only [e4] at hA
    simp (config := { maxSteps := 1000000 }) (disch := first | exact am_nl_i | exact am_nl_r | exact am_nl_n | exact am_l0 | exact am_l1 | exact am_l2 | exact am_l3 | assumption | omega) only [wp_ldc, wp_sipush, wp_ldc_w, wp_lconst, wp_iadd, wp_isub, wp_imul, wp_iand, wp_ior, wp_ixor, wp_ishl, wp_ishr, wp_iushr, wp_idiv, wp_irem, wp_ineg, wp_i2b, wp_i2s, wp_i2c, wp_i2l, wp_ladd, wp_lmul, wp_lcmp, wp_dup_i, wp_dup_r, wp_dup2, wp_pop, wp_getfield, wp_putfield, wp_getstatic, wp_iaload, wp_baload, wp_aaload, wp_iastore, wp_arraylength, wp_goto, wp_fall, wp_ieq, wp_ine, wp_ilt, wp_ige, wp_igt, wp_ile, wp_ceq, wp_cne, wp_clt, wp_cge, wp_cgt, wp_cle, wp_sw, wp_ret0, wp_ret1z, wp_ret1o, wp_ret1, wp_ret2, wp_ret3, wp_ret4, wp_ret5, wp_return, wp_min, wp_max, wp_abs, am_ex, gset_eq, gset_ne, upd_eq, upd_ne, gset_gset, am_ci_1, am_ci_6, am_toList_some, am_toList_none, true_implies, false_implies, and_self, and_true, true_and, not_true_eq_false, not_false_eq_true, imp_self, implies_true, Classical.not_not, if_true, if_false, false_and, and_false, or_false, false_or, true_or, or_true, Nat.reduceAdd, Nat.reduceMul, Nat.reduceSub, Nat.reduceLT, Nat.reduceLeDiff, Nat.reduceEqDiff, Nat.reduceBneDiff, Nat.add_zero, Nat.zero_add, reduceCtorEq, wil0, wal0, wis0, wic0, wil1, wal1, wis1, wic1, wil2, wll2, wal2, wis2, was2, wls2, wic2, wil3, wis3, wic3, wic3m, wic3s, wil4, wis4, wic4, wil5, wis5, wic5, wic5m, wil6, wll6, wal6, wis6, was6, wls6, wic6, wil7, wal7, wis7, was7, wic7, wil8, wis8, wic8, wil9, wis9, wic9, wil10, wis10, wic10, am_nI_inj, am_nI_lt, am_nI_le, nI_add, pk_mul, am_nI_sub, am_add_m1, am_gfs, am_pfs, am_alds, am_asts, am_lens, bk165_0, bk165_44, bk165_45, am_B165_0, am_B165_44, am_B165_45, hA, e4]
  have hE2 : TE G2 34 (m + 1) (addF T m kk (vOf b n c 8 0) 1 8) t z := by
    have := hE2 rfl
    unfold vOf
    cases hd : isWd b c 8
    · rw [hd, if_neg Bool.false_ne_true] at this
      rw [if_neg Bool.false_ne_true]; exact this
    · rw [hd, if_pos rfl, ht1] at this
      rw [if_pos rfl]; exact this
  generalize vOf b n c 8 0 = pl at *
  obtain ⟨G3, hev3, hC3, hv3, hT3, hE3, hf3⟩ := X2_readTrait (X := X) (j := 9) (p := m) (tr := 2) (hi := nI 7) (by omega) hC2 hv2 hT2 hE2 hm (by omega) t7 n7
  have hev3 : Ev X 166 [.ref 45, .ref 109, .int (nI m), .int (nI 2), .int (nI 7)] G2 (some (.int (bI (!(mAft b n (false, d2) 9 (nI 7)).1)))) G3 := hev3
  have hB := fun (kq : Nat) (r : List Instr) (lv : LV) (Q : Option Value → GG → Prop) => WP_ev (k := kq) (st := [.int (nI 7), .int (nI 2), .int (nI m), .ref 109, .ref 45]) (rest := []) (r := r) (lv := lv) (Q := Q) hev3 (by decide) (c := 5) rfl rfl (by decide) rfl
  have ht2 : updT (addF T m kk pl 1 8) (2 + 1) m (nxt b n d2.2.1).2.2.2 = addF T m kk pl (nxt b n d2.2.1).2.2.2 8 := by
    funext cc i
    unfold updT addF
    by_cases hi : i = m
    · subst hi
      by_cases c2 : cc = 3
      · simp [c2]
      · simp [c2]
    · simp [hi]
  rcases hs3 : mAft b n (false, d2) 9 (nI 7) with ⟨w3, d3⟩
  rw [hs3] at hev3 hC3 hv3 hE3 hB
  have hC3 : CC G3 n d3 := hC3
  have hv3 : CV n d3 := hv3
  have e4t : bI (!true) = nI 0 := rfl
  have e4f : bI (!false) = nI 1 := rfl
  simp only [e4f] at hA
  cases w3
  rotate_left
  · rw [aft_t]
    refine ⟨G3, Ev_of ?_, hC3, fun q => absurd (show true = false from q) (by decide), hf2.trans hf3⟩
    show WP X 165 (am_blk 165 0) [some (.ref 45), some (.int (nI m))] [] G _
    simp only [e4t] at hB
    simp (config := { maxSteps := 1000000 }) (disch := first | exact am_nl_i | exact am_nl_r | exact am_nl_n | exact am_l0 | exact am_l1 | exact am_l2 | exact am_l3 | assumption | omega) only [wp_ldc, wp_sipush, wp_ldc_w, wp_lconst, wp_iadd, wp_isub, wp_imul, wp_iand, wp_ior, wp_ixor, wp_ishl, wp_ishr, wp_iushr, wp_idiv, wp_irem, wp_ineg, wp_i2b, wp_i2s, wp_i2c, wp_i2l, wp_ladd, wp_lmul, wp_lcmp, wp_dup_i, wp_dup_r, wp_dup2, wp_pop, wp_getfield, wp_putfield, wp_getstatic, wp_iaload, wp_baload, wp_aaload, wp_iastore, wp_arraylength, wp_goto, wp_fall, wp_ieq, wp_ine, wp_ilt, wp_ige, wp_igt, wp_ile, wp_ceq, wp_cne, wp_clt, wp_cge, wp_cgt, wp_cle, wp_sw, wp_ret0, wp_ret1z, wp_ret1o, wp_ret1, wp_ret2, wp_ret3, wp_ret4, wp_ret5, wp_return, wp_min, wp_max, wp_abs, am_ex, gset_eq, gset_ne, upd_eq, upd_ne, gset_gset, am_ci_1, am_ci_6, am_toList_some, am_toList_none, true_implies, false_implies, and_self, and_true, true_and, not_true_eq_false, not_false_eq_true, imp_self, implies_true, Classical.not_not, if_true, if_false, false_and, and_false, or_false, false_or, true_or, or_true, Nat.reduceAdd, Nat.reduceMul, Nat.reduceSub, Nat.reduceLT, Nat.reduceLeDiff, Nat.reduceEqDiff, Nat.reduceBneDiff, Nat.add_zero, Nat.zero_add, reduceCtorEq, wil0, wal0, wis0, wic0, wil1, wal1, wis1, wic1, wil2, wll2, wal2, wis2, was2, wls2, wic2, wil3, wis3, wic3, wic3m, wic3s, wil4, wis4, wic4, wil5, wis5, wic5, wic5m, wil6, wll6, wal6, wis6, was6, wls6, wic6, wil7, wal7, wis7, was7, wic7, wil8, wis8, wic8, wil9, wis9, wic9, wil10, wis10, wic10, am_nI_inj, am_nI_lt, am_nI_le, nI_add, pk_mul, am_nI_sub, am_add_m1, am_gfs, am_pfs, am_alds, am_asts, am_lens, bk165_0, bk165_44, bk165_45, am_B165_0, am_B165_44, am_B165_45, hA, e2, hB, e4t]
  have hE3 : TE G3 34 (m + 1) (addF T m kk pl (vOf b n d2 9 1) 8) t z := by
    have := hE3 rfl
    unfold vOf
    cases hd : isWd b d2 9
    · rw [hd, if_neg Bool.false_ne_true] at this
      rw [if_neg Bool.false_ne_true]; exact this
    · rw [hd, if_pos rfl, ht2] at this
      rw [if_pos rfl]; exact this
  show ∃ G1, Ev X 165 [.ref 45, .int (nI m)] G (some (.int (bI (!(mAft b n (false, d3) 10 (nI m - nI 1)).1)))) G1 ∧ CC G1 n (mAft b n (false, d3) 10 (nI m - nI 1)).2 ∧ ((mAft b n (false, d3) 10 (nI m - nI 1)).1 = false → TE G1 34 (m + 1) (addF T m kk pl (vOf b n d2 9 1) (vOf b n d3 10 8)) t z) ∧ CF G G1
  generalize vOf b n d2 9 1 = lo at *
  obtain ⟨G4, hev4, hC4, hv4, hT4, hE4, hf4⟩ := X2_readTrait (X := X) (j := 10) (p := m) (tr := 3) (hi := nI m - nI 1) (by omega) hC3 hv3 hT3 hE3 hm (by omega) (nI_m1_lt (by omega)) nm
  have hev4 : Ev X 166 [.ref 45, .ref 110, .int (nI m), .int (nI 3), .int (nI m - nI 1)] G3 (some (.int (bI (!(mAft b n (false, d3) 10 (nI m - nI 1)).1)))) G4 := hev4
  have ht3 : updT (addF T m kk pl lo 8) (3 + 1) m (nxt b n d3.2.1).2.2.2 = addF T m kk pl lo (nxt b n d3.2.1).2.2.2 := by
    funext cc i
    unfold updT addF
    by_cases hi : i = m
    · subst hi
      by_cases c2 : cc = 4
      · simp [c2]
      · simp [c2]
    · simp [hi]
  refine ⟨G4, Ev_of ?_, hC4, fun q => ?_, (hf2.trans hf3).trans hf4⟩
  rotate_left
  · have := hE4 q
    unfold vOf
    cases hd : isWd b d3 10
    · rw [hd, if_neg Bool.false_ne_true] at this
      rw [if_neg Bool.false_ne_true]; exact this
    · rw [hd, if_pos rfl, ht3] at this
      rw [if_pos rfl]; exact this
  show WP X 165 (am_blk 165 0) [some (.ref 45), some (.int (nI m))] [] G _
  simp only [e4f] at hB
  generalize mAft b n (false, d3) 10 (nI m - nI 1) = s4 at *
  generalize hhi : nI m - nI 1 = hi4 at *
  have hD := fun (kq : Nat) (r : List Instr) (lv : LV) (Q : Option Value → GG → Prop) => WP_ev (k := kq) (st := [.int hi4, .int (nI 3), .int (nI m), .ref 110, .ref 45]) (rest := []) (r := r) (lv := lv) (Q := Q) hev4 (by decide) (c := 5) rfl rfl (by decide) rfl
  have hhi2 : 1 ≤ m → nI (m - 1) = hi4 := fun h1 => by rw [← hhi, am_nI_sub h1]
  have hD2 : 1 ≤ m → ∀ (kq : Nat) (r : List Instr) (lv : LV) (Q : Option Value → GG → Prop), WP X kq (.invokeinterface 166 5 :: r) lv [.int (nI (m - 1)), .int (nI 3), .int (nI m), .ref 110, .ref 45] G3 Q ↔ WP X kq r lv ((some (.int (bI (!s4.1)))).toList ++ []) G4 Q := fun h1 => by rw [hhi2 h1]; exact hD
  cases hb4 : s4.1
  · rw [hb4] at hD hD2
    simp only [e4f] at hD hD2
    by_cases hm1 : 1 ≤ m
    · have hD2 := hD2 hm1
      simp (config := { maxSteps := 1000000 }) (disch := first | exact am_nl_i | exact am_nl_r | exact am_nl_n | exact am_l0 | exact am_l1 | exact am_l2 | exact am_l3 | assumption | omega) only [wp_ldc, wp_sipush, wp_ldc_w, wp_lconst, wp_iadd, wp_isub, wp_imul, wp_iand, wp_ior, wp_ixor, wp_ishl, wp_ishr, wp_iushr, wp_idiv, wp_irem, wp_ineg, wp_i2b, wp_i2s, wp_i2c, wp_i2l, wp_ladd, wp_lmul, wp_lcmp, wp_dup_i, wp_dup_r, wp_dup2, wp_pop, wp_getfield, wp_putfield, wp_getstatic, wp_iaload, wp_baload, wp_aaload, wp_iastore, wp_arraylength, wp_goto, wp_fall, wp_ieq, wp_ine, wp_ilt, wp_ige, wp_igt, wp_ile, wp_ceq, wp_cne, wp_clt, wp_cge, wp_cgt, wp_cle, wp_sw, wp_ret0, wp_ret1z, wp_ret1o, wp_ret1, wp_ret2, wp_ret3, wp_ret4, wp_ret5, wp_return, wp_min, wp_max, wp_abs, am_ex, gset_eq, gset_ne, upd_eq, upd_ne, gset_gset, am_ci_1, am_ci_6, am_toList_some, am_toList_none, true_implies, false_implies, and_self, and_true, true_and, not_true_eq_false, not_false_eq_true, imp_self, implies_true, Classical.not_not, if_true, if_false, false_and, and_false, or_false, false_or, true_or, or_true, Nat.reduceAdd, Nat.reduceMul, Nat.reduceSub, Nat.reduceLT, Nat.reduceLeDiff, Nat.reduceEqDiff, Nat.reduceBneDiff, Nat.add_zero, Nat.zero_add, reduceCtorEq, wil0, wal0, wis0, wic0, wil1, wal1, wis1, wic1, wil2, wll2, wal2, wis2, was2, wls2, wic2, wil3, wis3, wic3, wic3m, wic3s, wil4, wis4, wic4, wil5, wis5, wic5, wic5m, wil6, wll6, wal6, wis6, was6, wls6, wic6, wil7, wal7, wis7, was7, wic7, wil8, wis8, wic8, wil9, wis9, wic9, wil10, wis10, wic10, am_nI_inj, am_nI_lt, am_nI_le, nI_add, pk_mul, am_nI_sub, am_add_m1, am_gfs, am_pfs, am_alds, am_asts, am_lens, bk165_0, bk165_44, bk165_45, am_B165_0, am_B165_44, am_B165_45, hA, e2, hB, hhi, hD, hD2, e4f]
    · obtain rfl : m = 0 := by omega
      simp (config := { maxSteps := 1000000 }) (disch := first | exact am_nl_i | exact am_nl_r | exact am_nl_n | exact am_l0 | exact am_l1 | exact am_l2 | exact am_l3 | assumption | omega) only [wp_ldc, wp_sipush, wp_ldc_w, wp_lconst, wp_iadd, wp_isub, wp_imul, wp_iand, wp_ior, wp_ixor, wp_ishl, wp_ishr, wp_iushr, wp_idiv, wp_irem, wp_ineg, wp_i2b, wp_i2s, wp_i2c, wp_i2l, wp_ladd, wp_lmul, wp_lcmp, wp_dup_i, wp_dup_r, wp_dup2, wp_pop, wp_getfield, wp_putfield, wp_getstatic, wp_iaload, wp_baload, wp_aaload, wp_iastore, wp_arraylength, wp_goto, wp_fall, wp_ieq, wp_ine, wp_ilt, wp_ige, wp_igt, wp_ile, wp_ceq, wp_cne, wp_clt, wp_cge, wp_cgt, wp_cle, wp_sw, wp_ret0, wp_ret1z, wp_ret1o, wp_ret1, wp_ret2, wp_ret3, wp_ret4, wp_ret5, wp_return, wp_min, wp_max, wp_abs, am_ex, gset_eq, gset_ne, upd_eq, upd_ne, gset_gset, am_ci_1, am_ci_6, am_toList_some, am_toList_none, true_implies, false_implies, and_self, and_true, true_and, not_true_eq_false, not_false_eq_true, imp_self, implies_true, Classical.not_not, if_true, if_false, false_and, and_false, or_false, false_or, true_or, or_true, Nat.reduceAdd, Nat.reduceMul, Nat.reduceSub, Nat.reduceLT, Nat.reduceLeDiff, Nat.reduceEqDiff, Nat.reduceBneDiff, Nat.add_zero, Nat.zero_add, reduceCtorEq, wil0, wal0, wis0, wic0, wil1, wal1, wis1, wic1, wil2, wll2, wal2, wis2, was2, wls2, wic2, wil3, wis3, wic3, wic3m, wic3s, wil4, wis4, wic4, wil5, wis5, wic5, wic5m, wil6, wll6, wal6, wis6, was6, wls6, wic6, wil7, wal7, wis7, was7, wic7, wil8, wis8, wic8, wil9, wis9, wic9, wil10, wis10, wic10, am_nI_inj, am_nI_lt, am_nI_le, nI_add, pk_mul, am_nI_sub, am_add_m1, am_gfs, am_pfs, am_alds, am_asts, am_lens, bk165_0, bk165_44, bk165_45, am_B165_0, am_B165_44, am_B165_45, hA, e2, hB, hhi, hD, e4f]
  · rw [hb4] at hD hD2
    simp only [e4t] at hD hD2
    by_cases hm1 : 1 ≤ m
    · have hD2 := hD2 hm1
      simp (config := { maxSteps := 1000000 }) (disch := first | exact am_nl_i | exact am_nl_r | exact am_nl_n | exact am_l0 | exact am_l1 | exact am_l2 | exact am_l3 | assumption | omega) only [wp_ldc, wp_sipush, wp_ldc_w, wp_lconst, wp_iadd, wp_isub, wp_imul, wp_iand, wp_ior, wp_ixor, wp_ishl, wp_ishr, wp_iushr, wp_idiv, wp_irem, wp_ineg, wp_i2b, wp_i2s, wp_i2c, wp_i2l, wp_ladd, wp_lmul, wp_lcmp, wp_dup_i, wp_dup_r, wp_dup2, wp_pop, wp_getfield, wp_putfield, wp_getstatic, wp_iaload, wp_baload, wp_aaload, wp_iastore, wp_arraylength, wp_goto, wp_fall, wp_ieq, wp_ine, wp_ilt, wp_ige, wp_igt, wp_ile, wp_ceq, wp_cne, wp_clt, wp_cge, wp_cgt, wp_cle, wp_sw, wp_ret0, wp_ret1z, wp_ret1o, wp_ret1, wp_ret2, wp_ret3, wp_ret4, wp_ret5, wp_return, wp_min, wp_max, wp_abs, am_ex, gset_eq, gset_ne, upd_eq, upd_ne, gset_gset, am_ci_1, am_ci_6, am_toList_some, am_toList_none, true_implies, false_implies, and_self, and_true, true_and, not_true_eq_false, not_false_eq_true, imp_self, implies_true, Classical.not_not, if_true, if_false, false_and, and_false, or_false, false_or, true_or, or_true, Nat.reduceAdd, Nat.reduceMul, Nat.reduceSub, Nat.reduceLT, Nat.reduceLeDiff, Nat.reduceEqDiff, Nat.reduceBneDiff, Nat.add_zero, Nat.zero_add, reduceCtorEq, wil0, wal0, wis0, wic0, wil1, wal1, wis1, wic1, wil2, wll2, wal2, wis2, was2, wls2, wic2, wil3, wis3, wic3, wic3m, wic3s, wil4, wis4, wic4, wil5, wis5, wic5, wic5m, wil6, wll6, wal6, wis6, was6, wls6, wic6, wil7, wal7, wis7, was7, wic7, wil8, wis8, wic8, wil9, wis9, wic9, wil10, wis10, wic10, am_nI_inj, am_nI_lt, am_nI_le, nI_add, pk_mul, am_nI_sub, am_add_m1, am_gfs, am_pfs, am_alds, am_asts, am_lens, bk165_0, bk165_44, bk165_45, am_B165_0, am_B165_44, am_B165_45, hA, e2, hB, hhi, hD, hD2, e4t]
    · obtain rfl : m = 0 := by omega
      simp (config := { maxSteps := 1000000 }) (disch := first | exact am_nl_i | exact am_nl_r | exact am_nl_n | exact am_l0 | exact am_l1 | exact am_l2 | exact am_l3 | assumption | omega) only [wp_ldc, wp_sipush, wp_ldc_w, wp_lconst, wp_iadd, wp_isub, wp_imul, wp_iand, wp_ior, wp_ixor, wp_ishl, wp_ishr, wp_iushr, wp_idiv, wp_irem, wp_ineg, wp_i2b, wp_i2s, wp_i2c, wp_i2l, wp_ladd, wp_lmul, wp_lcmp, wp_dup_i, wp_dup_r, wp_dup2, wp_pop, wp_getfield, wp_putfield, wp_getstatic, wp_iaload, wp_baload, wp_aaload, wp_iastore, wp_arraylength, wp_goto, wp_fall, wp_ieq, wp_ine, wp_ilt, wp_ige, wp_igt, wp_ile, wp_ceq, wp_cne, wp_clt, wp_cge, wp_cgt, wp_cle, wp_sw, wp_ret0, wp_ret1z, wp_ret1o, wp_ret1, wp_ret2, wp_ret3, wp_ret4, wp_ret5, wp_return, wp_min, wp_max, wp_abs, am_ex, gset_eq, gset_ne, upd_eq, upd_ne, gset_gset, am_ci_1, am_ci_6, am_toList_some, am_toList_none, true_implies, false_implies, and_self, and_true, true_and, not_true_eq_false, not_false_eq_true, imp_self, implies_true, Classical.not_not, if_true, if_false, false_and, and_false, or_false, false_or, true_or, or_true, Nat.reduceAdd, Nat.reduceMul, Nat.reduceSub, Nat.reduceLT, Nat.reduceLeDiff, Nat.reduceEqDiff, Nat.reduceBneDiff, Nat.add_zero, Nat.zero_add, reduceCtorEq, wil0, wal0, wis0, wic0, wil1, wal1, wis1, wic1, wil2, wll2, wal2, wis2, was2, wls2, wic2, wil3, wis3, wic3, wic3m, wic3s, wil4, wis4, wic4, wil5, wis5, wic5, wic5m, wil6, wll6, wal6, wis6, was6, wls6, wic6, wil7, wal7, wis7, was7, wic7, wil8, wis8, wic8, wil9, wis9, wic9, wil10, wis10, wic10, am_nI_inj, am_nI_lt, am_nI_le, nI_add, pk_mul, am_nI_sub, am_add_m1, am_gfs, am_pfs, am_alds, am_asts, am_lens, bk165_0, bk165_44, bk165_45, am_B165_0, am_B165_44, am_B165_45, hA, e2, hB, hhi, hD, e4t]
