/-! ===== the class: which trait makes richest ===== -/
/-- the best of several: what was best, and one more than its goods -/
def bst (ok : Nat → Bool) (g : Nat → Nat) (v : Nat → Int32) (b0 : Int32) : Nat → Int32 × Nat
  | 0 => (b0, 0)
  | j + 1 => if ok j = true ∧ (bst ok g v b0 j).2 ≤ g j then (v j, g j + 1) else bst ok g v b0 j
def mI (m : Nat) : Int32 := if m = 0 then nM else nI (m - 1)
theorem mI_s (m : Nat) : mI (m + 1) = nI m := by unfold mI; rw [if_neg (by omega)]; rfl
theorem mI_le {m g : Nat} (hm : m < 2 ^ 31) (hg : g < 2 ^ 31) : (nI g ≤ mI m) = (g + 1 ≤ m) := by
  unfold mI
  by_cases h : m = 0
  · subst h
    rw [if_pos rfl]
    refine propext ⟨fun z => ?_, fun z => by omega⟩
    have z1 := Int32.le_iff_toInt_le.mp z
    rw [nI_toInt (by omega)] at z1
    have e1 : nM.toInt = -1 := by decide
    omega
  · rw [if_neg h, am_nI_le (by omega) (by omega)]
    exact propext ⟨fun z => by omega, fun z => by omega⟩
theorem bst_le {ok : Nat → Bool} {g : Nat → Nat} {v : Nat → Int32} {b0 : Int32} {m : Nat} (h : ∀ j, g j ≤ m) : ∀ j, (bst ok g v b0 j).2 ≤ m + 1
  | 0 => Nat.zero_le _
  | j + 1 => by
    unfold bst
    split
    · have := h j; show g j + 1 ≤ m + 1; omega
    · exact bst_le h j
theorem vI_in {j : Nat} (hj : j < 9) : (nI 8 ≤ mI j) = False := by
  unfold mI
  by_cases h : j = 0
  · rw [if_pos h]; exact eq_false (by decide)
  · rw [if_neg h, am_nI_le (by omega) (by omega)]; exact eq_false (by omega)
theorem vI_out : (nI 8 ≤ mI 9) = True := eq_true (by decide)
theorem vI_inc {j : Nat} (hj : j < 9) : mI j + nI 1 = mI (j + 1) := by
  have h : ∀ j, j < 9 → mI j + nI 1 = mI (j + 1) := by decide +kernel
  exact h j hj
theorem TV_goods {n : Nat} {T : TT} {i : Nat} (h : TV n T) (hi : i < n) : T 5 i ≤ 99999 := (h.2.2.1 i hi).2.2.2.2
def ricG (S : SS) (k i m j : Nat) : Nat := min 99999 (runN S.1.1 m (updT S.1.2.1 (k + 1) i (pK (mI j))) 5 i)
def ricN (S : SS) (k i m : Nat) : Nat → Int32 × Nat := bst (fun j => mayB S.1.1 i k (mI j)) (ricG S k i m) mI nM
def sp_rich (S : SS) (k : Nat) (a1 a2 : Int32) : Int32 × SS := if inR a1 (nI 0) (nI S.1.1 - nI 1) = true ∧ inR a2 (nI 0) (nI 60) = true then ((ricN S k (aN a1) (aN a2) 9).1, S) else sFnd S 0
theorem CT_rich {X : AmX} {S : SS} {G : GG} (h : CSt S G) (k : Nat) (hk : k < 4) (a1 a2 : Int32) : CW X 102 [.ref 0, .int a1, .int a2, .int (nI k)] G (sp_rich S k a1 a2) := by
  have hE := h.1
  unfold TWE at hE
  have f0 := hE.1
  have hv8 := h.2.1.1.1
  unfold CW sp_rich
  have hb := tb1
  have hb23 := tb23
  have e2 : (nI 1 = nI 0) = False := eq_false (by decide)
  show WP X 102 (am_blk 102 0) [some (.ref 0), some (.int a1), some (.int a2), some (.int (nI k)), none, none, none] [] G _
  by_cases h1 : inR a1 (nI 0) (nI S.1.1 - nI 1) = true
  rotate_left
  · rw [if_neg (fun z => h1 z.1)]
    rw [Bool.not_eq_true] at h1
    simp (config := { maxSteps := 1000000 }) (disch := first | exact am_nl_i | exact am_nl_r | exact am_nl_n | exact am_l0 | exact am_l1 | exact am_l2 | exact am_l3 | assumption | omega) only [wp_ldc, wp_sipush, wp_ldc_w, wp_lconst, wp_iadd, wp_isub, wp_imul, wp_iand, wp_ior, wp_ixor, wp_ishl, wp_ishr, wp_iushr, wp_idiv, wp_irem, wp_ineg, wp_i2b, wp_i2s, wp_i2c, wp_i2l, wp_ladd, wp_lmul, wp_lcmp, wp_dup_i, wp_dup_r, wp_dup2, wp_pop, wp_getfield, wp_putfield, wp_getstatic, wp_iaload, wp_baload, wp_aaload, wp_iastore, wp_arraylength, wp_goto, wp_fall, wp_ieq, wp_ine, wp_ilt, wp_ige, wp_igt, wp_ile, wp_ceq, wp_cne, wp_clt, wp_cge, wp_cgt, wp_cle, wp_sw, wp_ret0, wp_ret1z, wp_ret1o, wp_ret1, wp_ret2, wp_ret3, wp_ret4, wp_ret5, wp_return, wp_min, wp_max, wp_abs, am_ex, gset_eq, gset_ne, upd_eq, upd_ne, gset_gset, am_ci_1, am_ci_6, am_toList_some, am_toList_none, true_implies, false_implies, and_self, and_true, true_and, not_true_eq_false, not_false_eq_true, imp_self, implies_true, Classical.not_not, if_true, if_false, false_and, and_false, or_false, false_or, true_or, or_true, Nat.reduceAdd, Nat.reduceMul, Nat.reduceSub, Nat.reduceLT, Nat.reduceLeDiff, Nat.reduceEqDiff, Nat.reduceBneDiff, Nat.add_zero, Nat.zero_add, reduceCtorEq, wil0, wal0, wis0, wic0, wil1, wal1, wis1, wic1, wil2, wll2, wal2, wis2, was2, wls2, wic2, wil3, wis3, wic3, wic3m, wic3s, wil4, wis4, wic4, wil5, wis5, wic5, wic5m, wil6, wll6, wal6, wis6, was6, wls6, wic6, wil7, wal7, wis7, was7, wic7, wil8, wis8, wic8, wil9, wis9, wic9, wil10, wis10, wic10, am_nI_inj, am_nI_lt, am_nI_le, nI_add, pk_mul, am_nI_sub, am_add_m1, am_gfs, am_pfs, am_alds, am_asts, am_lens, tgf0, tgf1, tgf2, tgf3, tgf4, tgf5, tgf6, tgf7, tgf8, tgf9, tgf10, tgf11, tgf12, tpf7, tpf8, tpf9, tal0, tas0, tln0, tal1, tas1, tln1, tal2, tas2, tln2, tal3, tas3, tln3, tal4, tas4, tln4, tal5, tas5, tln5, tal6, tas6, tln6, tal7, tas7, tln7, tal8, tas8, tln8, tal9, tas9, tln9, bs102, am_B102_0, am_B102_18, am_B102_25, am_B102_34, am_B102_58, am_B102_117, am_B102_123, C_X4_isThere, C_X4_isPlace, C_X4_isWithin, C_X4_isKind, C_X4_isSpot, C_X4_isSheet, h1, bI_t, bI_f, e2, f0, fcs, C_X4_found]
    first | exact ⟨rfl, CSt_fnd h (by omega), fnd_frame⟩ | exact ⟨CSt_fnd h (by omega), fnd_frame⟩
  by_cases h2 : inR a2 (nI 0) (nI 60) = true
  rotate_left
  · rw [if_neg (fun z => h2 z.2)]
    rw [Bool.not_eq_true] at h2
    simp (config := { maxSteps := 1000000 }) (disch := first | exact am_nl_i | exact am_nl_r | exact am_nl_n | exact am_l0 | exact am_l1 | exact am_l2 | exact am_l3 | assumption | omega) only [wp_ldc, wp_sipush, wp_ldc_w, wp_lconst, wp_iadd, wp_isub, wp_imul, wp_iand, wp_ior, wp_ixor, wp_ishl, wp_ishr, wp_iushr, wp_idiv, wp_irem, wp_ineg, wp_i2b, wp_i2s, wp_i2c, wp_i2l, wp_ladd, wp_lmul, wp_lcmp, wp_dup_i, wp_dup_r, wp_dup2, wp_pop, wp_getfield, wp_putfield, wp_getstatic, wp_iaload, wp_baload, wp_aaload, wp_iastore, wp_arraylength, wp_goto, wp_fall, wp_ieq, wp_ine, wp_ilt, wp_ige, wp_igt, wp_ile, wp_ceq, wp_cne, wp_clt, wp_cge, wp_cgt, wp_cle, wp_sw, wp_ret0, wp_ret1z, wp_ret1o, wp_ret1, wp_ret2, wp_ret3, wp_ret4, wp_ret5, wp_return, wp_min, wp_max, wp_abs, am_ex, gset_eq, gset_ne, upd_eq, upd_ne, gset_gset, am_ci_1, am_ci_6, am_toList_some, am_toList_none, true_implies, false_implies, and_self, and_true, true_and, not_true_eq_false, not_false_eq_true, imp_self, implies_true, Classical.not_not, if_true, if_false, false_and, and_false, or_false, false_or, true_or, or_true, Nat.reduceAdd, Nat.reduceMul, Nat.reduceSub, Nat.reduceLT, Nat.reduceLeDiff, Nat.reduceEqDiff, Nat.reduceBneDiff, Nat.add_zero, Nat.zero_add, reduceCtorEq, wil0, wal0, wis0, wic0, wil1, wal1, wis1, wic1, wil2, wll2, wal2, wis2, was2, wls2, wic2, wil3, wis3, wic3, wic3m, wic3s, wil4, wis4, wic4, wil5, wis5, wic5, wic5m, wil6, wll6, wal6, wis6, was6, wls6, wic6, wil7, wal7, wis7, was7, wic7, wil8, wis8, wic8, wil9, wis9, wic9, wil10, wis10, wic10, am_nI_inj, am_nI_lt, am_nI_le, nI_add, pk_mul, am_nI_sub, am_add_m1, am_gfs, am_pfs, am_alds, am_asts, am_lens, tgf0, tgf1, tgf2, tgf3, tgf4, tgf5, tgf6, tgf7, tgf8, tgf9, tgf10, tgf11, tgf12, tpf7, tpf8, tpf9, tal0, tas0, tln0, tal1, tas1, tln1, tal2, tas2, tln2, tal3, tas3, tln3, tal4, tas4, tln4, tal5, tas5, tln5, tal6, tas6, tln6, tal7, tas7, tln7, tal8, tas8, tln8, tal9, tas9, tln9, bs102, am_B102_0, am_B102_18, am_B102_25, am_B102_34, am_B102_58, am_B102_117, am_B102_123, C_X4_isThere, C_X4_isPlace, C_X4_isWithin, C_X4_isKind, C_X4_isSpot, C_X4_isSheet, h1, h2, bI_t, bI_f, e2, f0, fcs, C_X4_found]
    first | exact ⟨rfl, CSt_fnd h (by omega), fnd_frame⟩ | exact ⟨CSt_fnd h (by omega), fnd_frame⟩
  rw [if_pos ⟨h1, h2⟩]
  obtain ⟨p, hp, rfl, h1'⟩ := there_of hv8 h1
  obtain ⟨x, hx, rfl, h2'⟩ := rng_of (by omega) h2
  rw [aN_nI (show p < 2 ^ 31 by omega), aN_nI (show x < 2 ^ 31 by omega)]
  generalize hQ : (fun (w : Option Value) (G1 : GG) => w = some (.int ((ricN S k p x 9).1, S).1) ∧ CSt ((ricN S k p x 9).1, S).2 G1 ∧ ∀ o, 58 ≤ o → G1 o = G o) = Q
  have hle : ∀ j, (ricN S k p x j).2 ≤ 99999 + 1 := fun j => bst_le (fun j => Nat.min_le_left _ _) j
  have key : ∀ d j : Nat, j + d = 9 → ∀ G', CSt S G' → (∀ o, 58 ≤ o → G' o = G o) → WP X 102 (am_blk 102 34) [some (.ref 0), some (.int (nI p)), some (.int (nI x)), some (.int (nI k)), some (.int (ricN S k p x j).1), some (.int (mI (ricN S k p x j).2)), some (.int (mI j))] [] G' Q := by
    intro d
    induction d with
    | zero =>
      intro j hj G' hc hf
      obtain rfl : j = 9 := by omega
      rw [bh102_34]
      simp (config := { maxSteps := 1000000 }) (disch := first | exact am_nl_i | exact am_nl_r | exact am_nl_n | exact am_l0 | exact am_l1 | exact am_l2 | exact am_l3 | assumption | omega) only [wp_ldc, wp_sipush, wp_ldc_w, wp_lconst, wp_iadd, wp_isub, wp_imul, wp_iand, wp_ior, wp_ixor, wp_ishl, wp_ishr, wp_iushr, wp_idiv, wp_irem, wp_ineg, wp_i2b, wp_i2s, wp_i2c, wp_i2l, wp_ladd, wp_lmul, wp_lcmp, wp_dup_i, wp_dup_r, wp_dup2, wp_pop, wp_getfield, wp_putfield, wp_getstatic, wp_iaload, wp_baload, wp_aaload, wp_iastore, wp_arraylength, wp_goto, wp_fall, wp_ieq, wp_ine, wp_ilt, wp_ige, wp_igt, wp_ile, wp_ceq, wp_cne, wp_clt, wp_cge, wp_cgt, wp_cle, wp_sw, wp_ret0, wp_ret1z, wp_ret1o, wp_ret1, wp_ret2, wp_ret3, wp_ret4, wp_ret5, wp_return, wp_min, wp_max, wp_abs, am_ex, gset_eq, gset_ne, upd_eq, upd_ne, gset_gset, am_ci_1, am_ci_6, am_toList_some, am_toList_none, true_implies, false_implies, and_self, and_true, true_and, not_true_eq_false, not_false_eq_true, imp_self, implies_true, Classical.not_not, if_true, if_false, false_and, and_false, or_false, false_or, true_or, or_true, Nat.reduceAdd, Nat.reduceMul, Nat.reduceSub, Nat.reduceLT, Nat.reduceLeDiff, Nat.reduceEqDiff, Nat.reduceBneDiff, Nat.add_zero, Nat.zero_add, reduceCtorEq, wil0, wal0, wis0, wic0, wil1, wal1, wis1, wic1, wil2, wll2, wal2, wis2, was2, wls2, wic2, wil3, wis3, wic3, wic3m, wic3s, wil4, wis4, wic4, wil5, wis5, wic5, wic5m, wil6, wll6, wal6, wis6, was6, wls6, wic6, wil7, wal7, wis7, was7, wic7, wil8, wis8, wic8, wil9, wis9, wic9, wil10, wis10, wic10, am_nI_inj, am_nI_lt, am_nI_le, nI_add, pk_mul, am_nI_sub, am_add_m1, am_gfs, am_pfs, am_alds, am_asts, am_lens, tgf0, tgf1, tgf2, tgf3, tgf4, tgf5, tgf6, tgf7, tgf8, tgf9, tgf10, tgf11, tgf12, tpf7, tpf8, tpf9, tal0, tas0, tln0, tal1, tas1, tln1, tal2, tas2, tln2, tal3, tas3, tln3, tal4, tas4, tln4, tal5, tas5, tln5, tal6, tas6, tln6, tal7, tas7, tln7, tal8, tas8, tln8, tal9, tas9, tln9, bk102_123, am_B102_34, am_B102_123, vI_out]
      rw [← hQ]
      exact ⟨rfl, hc, hf⟩
    | succ d ih =>
      intro j hj G' hc hf
      have q1 := vI_in (j := j) (by omega)
      have q2 := vI_inc (j := j) (by omega)
      have g0 := hc.1.1
      have hev := E_X3_mayBecome (X := X) (G := G') 1 S.1.1 p k (mI j) tb1 g0 (by omega) hv8 hp (by omega)
      have hP := fun (kq : Nat) (r : List Instr) (lv : LV) (st : List Value) (Q : Option Value → GG → Prop) (hl : st.length ≤ 4) => WP_ev (k := kq) (st := .int (mI j) :: .int (nI k) :: .int (nI p) :: .ref 1 :: st) (rest := st) (r := r) (lv := lv) (Q := Q) hev (by decide) (c := 4) rfl rfl hl rfl
      rw [bh102_34]
      by_cases hm : mayB S.1.1 p k (mI j) = true
      · rw [hm] at hP
        obtain ⟨y, hy, hpk, c0, c1, c2, c3, c4⟩ := may_x hv8 hp (by omega) hm
        obtain ⟨G1, hC, hc1, hf1⟩ := CS_become (X := X) hc
        have hev2 := E_X3_setTrait (X := X) (G := G1) 23 p k (mI j) tb23 (by omega) (by omega)
        have hU := fun (kq : Nat) (r : List Instr) (lv : LV) (st : List Value) (Q : Option Value → GG → Prop) (hl : st.length ≤ 4) => WP_ev (k := kq) (st := .int (mI j) :: .int (nI k) :: .int (nI p) :: .ref 23 :: st) (rest := st) (r := r) (lv := lv) (Q := Q) hev2 (by decide) (c := 4) rfl rfl hl rfl
        have hT := TE_set (i := p) (k := k) (x := y) hc1.2.1 (by omega)
        rw [← hy] at hT
        have hr2 : TRS S (S.1.1, updT S.1.2.1 (k + 1) p y, S.1.2.2) (gset G1 (23 + (2 + k)) (upd (G1 (23 + (2 + k))) p (mI j))) := ⟨CSt_congr hc1.1 (fun o ho => gset_ne (by unfold cdep at ho; omega)), hT, TV_set hc1.2.2.1 hp c0 (fun e => by have := c1 e; omega) c2 c3 c4 (by omega), h.2.1.2.2⟩
        have hf2 : ∀ o, 58 ≤ o → gset G1 (23 + (2 + k)) (upd (G1 (23 + (2 + k))) p (mI j)) o = G o := fun o ho => by rw [gset_ne (by omega), hf1 o ho, hf o ho]
        generalize gset G1 (23 + (2 + k)) (upd (G1 (23 + (2 + k))) p (mI j)) = G2 at *
        obtain ⟨G3, hD, hr3, hf3, _⟩ := CS_tpass (X := X) hr2 x (by omega)
        have g5 : G3 29 p = nI (runN S.1.1 x (updT S.1.2.1 (k + 1) p y) 5 p) := hr3.2.1.2.2.2.2.2.2.2.2.1 p hp
        have l5 : runN S.1.1 x (updT S.1.2.1 (k + 1) p y) 5 p ≤ 99999 := TV_goods hr3.2.2.1 hp
        have eg : ricG S k p x j = runN S.1.1 x (updT S.1.2.1 (k + 1) p y) 5 p := by unfold ricG; rw [hpk]; omega
        rw [← eg] at g5 l5
        have hl2 := hle j
        have q3 := mI_le (m := (ricN S k p x j).2) (g := ricG S k p x j) (by omega) (by omega)
        have hff : ∀ o, 58 ≤ o → G3 o = G o := fun o ho => (hf3 o ho).trans (hf2 o ho)
        by_cases hb : (ricN S k p x j).2 ≤ ricG S k p x j
        · have es : ricN S k p x (j + 1) = (mI j, ricG S k p x j + 1) := if_pos ⟨hm, hb⟩
          have ih := ih (j + 1) (by omega) G3 hr3.1 hff
          rw [es] at ih
          have e5 : mI (ricG S k p x j + 1) = nI (ricG S k p x j) := mI_s _
          simp only [e5] at ih
          rw [eq_false (by omega : ¬ ricG S k p x j + 1 ≤ (ricN S k p x j).2)] at q3
          simp (config := { maxSteps := 1000000 }) (disch := first | exact am_nl_i | exact am_nl_r | exact am_nl_n | exact am_l0 | exact am_l1 | exact am_l2 | exact am_l3 | assumption | omega) only [wp_ldc, wp_sipush, wp_ldc_w, wp_lconst, wp_iadd, wp_isub, wp_imul, wp_iand, wp_ior, wp_ixor, wp_ishl, wp_ishr, wp_iushr, wp_idiv, wp_irem, wp_ineg, wp_i2b, wp_i2s, wp_i2c, wp_i2l, wp_ladd, wp_lmul, wp_lcmp, wp_dup_i, wp_dup_r, wp_dup2, wp_pop, wp_getfield, wp_putfield, wp_getstatic, wp_iaload, wp_baload, wp_aaload, wp_iastore, wp_arraylength, wp_goto, wp_fall, wp_ieq, wp_ine, wp_ilt, wp_ige, wp_igt, wp_ile, wp_ceq, wp_cne, wp_clt, wp_cge, wp_cgt, wp_cle, wp_sw, wp_ret0, wp_ret1z, wp_ret1o, wp_ret1, wp_ret2, wp_ret3, wp_ret4, wp_ret5, wp_return, wp_min, wp_max, wp_abs, am_ex, gset_eq, gset_ne, upd_eq, upd_ne, gset_gset, am_ci_1, am_ci_6, am_toList_some, am_toList_none, true_implies, false_implies, and_self, and_true, true_and, not_true_eq_false, not_false_eq_true, imp_self, implies_true, Classical.not_not, if_true, if_false, false_and, and_false, or_false, false_or, true_or, or_true, Nat.reduceAdd, Nat.reduceMul, Nat.reduceSub, Nat.reduceLT, Nat.reduceLeDiff, Nat.reduceEqDiff, Nat.reduceBneDiff, Nat.add_zero, Nat.zero_add, reduceCtorEq, wil0, wal0, wis0, wic0, wil1, wal1, wis1, wic1, wil2, wll2, wal2, wis2, was2, wls2, wic2, wil3, wis3, wic3, wic3m, wic3s, wil4, wis4, wic4, wil5, wis5, wic5, wic5m, wil6, wll6, wal6, wis6, was6, wls6, wic6, wil7, wal7, wis7, was7, wic7, wil8, wis8, wic8, wil9, wis9, wic9, wil10, wis10, wic10, am_nI_inj, am_nI_lt, am_nI_le, nI_add, pk_mul, am_nI_sub, am_add_m1, am_gfs, am_pfs, am_alds, am_asts, am_lens, tgf0, tgf1, tgf2, tgf3, tgf4, tgf5, tgf6, tgf7, tgf8, tgf9, tgf10, tgf11, tgf12, tpf7, tpf8, tpf9, tal0, tas0, tln0, tal1, tas1, tln1, tal2, tas2, tln2, tal3, tas3, tln3, tal4, tas4, tln4, tal5, tas5, tln5, tal6, tas6, tln6, tal7, tas7, tln7, tal8, tas8, tln8, tal9, tas9, tln9, bk102_58, bk102_117, am_B102_34, am_B102_58, am_B102_117, bn102_34, q1, q2, hP, bI_t, e2, hC, hU, hD, g5, q3]
          exact ih
        · have es : ricN S k p x (j + 1) = ricN S k p x j := if_neg (fun z => hb z.2)
          have ih := ih (j + 1) (by omega) G3 hr3.1 hff
          rw [es] at ih
          rw [eq_true (by omega : ricG S k p x j + 1 ≤ (ricN S k p x j).2)] at q3
          simp (config := { maxSteps := 1000000 }) (disch := first | exact am_nl_i | exact am_nl_r | exact am_nl_n | exact am_l0 | exact am_l1 | exact am_l2 | exact am_l3 | assumption | omega) only [wp_ldc, wp_sipush, wp_ldc_w, wp_lconst, wp_iadd, wp_isub, wp_imul, wp_iand, wp_ior, wp_ixor, wp_ishl, wp_ishr, wp_iushr, wp_idiv, wp_irem, wp_ineg, wp_i2b, wp_i2s, wp_i2c, wp_i2l, wp_ladd, wp_lmul, wp_lcmp, wp_dup_i, wp_dup_r, wp_dup2, wp_pop, wp_getfield, wp_putfield, wp_getstatic, wp_iaload, wp_baload, wp_aaload, wp_iastore, wp_arraylength, wp_goto, wp_fall, wp_ieq, wp_ine, wp_ilt, wp_ige, wp_igt, wp_ile, wp_ceq, wp_cne, wp_clt, wp_cge, wp_cgt, wp_cle, wp_sw, wp_ret0, wp_ret1z, wp_ret1o, wp_ret1, wp_ret2, wp_ret3, wp_ret4, wp_ret5, wp_return, wp_min, wp_max, wp_abs, am_ex, gset_eq, gset_ne, upd_eq, upd_ne, gset_gset, am_ci_1, am_ci_6, am_toList_some, am_toList_none, true_implies, false_implies, and_self, and_true, true_and, not_true_eq_false, not_false_eq_true, imp_self, implies_true, Classical.not_not, if_true, if_false, false_and, and_false, or_false, false_or, true_or, or_true, Nat.reduceAdd, Nat.reduceMul, Nat.reduceSub, Nat.reduceLT, Nat.reduceLeDiff, Nat.reduceEqDiff, Nat.reduceBneDiff, Nat.add_zero, Nat.zero_add, reduceCtorEq, wil0, wal0, wis0, wic0, wil1, wal1, wis1, wic1, wil2, wll2, wal2, wis2, was2, wls2, wic2, wil3, wis3, wic3, wic3m, wic3s, wil4, wis4, wic4, wil5, wis5, wic5, wic5m, wil6, wll6, wal6, wis6, was6, wls6, wic6, wil7, wal7, wis7, was7, wic7, wil8, wis8, wic8, wil9, wis9, wic9, wil10, wis10, wic10, am_nI_inj, am_nI_lt, am_nI_le, nI_add, pk_mul, am_nI_sub, am_add_m1, am_gfs, am_pfs, am_alds, am_asts, am_lens, tgf0, tgf1, tgf2, tgf3, tgf4, tgf5, tgf6, tgf7, tgf8, tgf9, tgf10, tgf11, tgf12, tpf7, tpf8, tpf9, tal0, tas0, tln0, tal1, tas1, tln1, tal2, tas2, tln2, tal3, tas3, tln3, tal4, tas4, tln4, tal5, tas5, tln5, tal6, tas6, tln6, tal7, tas7, tln7, tal8, tas8, tln8, tal9, tas9, tln9, bk102_58, bk102_117, am_B102_34, am_B102_58, am_B102_117, bn102_34, q1, q2, hP, bI_t, e2, hC, hU, hD, g5, q3]
          exact ih
      · have es : ricN S k p x (j + 1) = ricN S k p x j := if_neg (fun z => hm z.1)
        have ih := ih (j + 1) (by omega) G' hc hf
        rw [es] at ih
        rw [Bool.not_eq_true] at hm
        rw [hm] at hP
        simp (config := { maxSteps := 1000000 }) (disch := first | exact am_nl_i | exact am_nl_r | exact am_nl_n | exact am_l0 | exact am_l1 | exact am_l2 | exact am_l3 | assumption | omega) only [wp_ldc, wp_sipush, wp_ldc_w, wp_lconst, wp_iadd, wp_isub, wp_imul, wp_iand, wp_ior, wp_ixor, wp_ishl, wp_ishr, wp_iushr, wp_idiv, wp_irem, wp_ineg, wp_i2b, wp_i2s, wp_i2c, wp_i2l, wp_ladd, wp_lmul, wp_lcmp, wp_dup_i, wp_dup_r, wp_dup2, wp_pop, wp_getfield, wp_putfield, wp_getstatic, wp_iaload, wp_baload, wp_aaload, wp_iastore, wp_arraylength, wp_goto, wp_fall, wp_ieq, wp_ine, wp_ilt, wp_ige, wp_igt, wp_ile, wp_ceq, wp_cne, wp_clt, wp_cge, wp_cgt, wp_cle, wp_sw, wp_ret0, wp_ret1z, wp_ret1o, wp_ret1, wp_ret2, wp_ret3, wp_ret4, wp_ret5, wp_return, wp_min, wp_max, wp_abs, am_ex, gset_eq, gset_ne, upd_eq, upd_ne, gset_gset, am_ci_1, am_ci_6, am_toList_some, am_toList_none, true_implies, false_implies, and_self, and_true, true_and, not_true_eq_false, not_false_eq_true, imp_self, implies_true, Classical.not_not, if_true, if_false, false_and, and_false, or_false, false_or, true_or, or_true, Nat.reduceAdd, Nat.reduceMul, Nat.reduceSub, Nat.reduceLT, Nat.reduceLeDiff, Nat.reduceEqDiff, Nat.reduceBneDiff, Nat.add_zero, Nat.zero_add, reduceCtorEq, wil0, wal0, wis0, wic0, wil1, wal1, wis1, wic1, wil2, wll2, wal2, wis2, was2, wls2, wic2, wil3, wis3, wic3, wic3m, wic3s, wil4, wis4, wic4, wil5, wis5, wic5, wic5m, wil6, wll6, wal6, wis6, was6, wls6, wic6, wil7, wal7, wis7, was7, wic7, wil8, wis8, wic8, wil9, wis9, wic9, wil10, wis10, wic10, am_nI_inj, am_nI_lt, am_nI_le, nI_add, pk_mul, am_nI_sub, am_add_m1, am_gfs, am_pfs, am_alds, am_asts, am_lens, tgf0, tgf1, tgf2, tgf3, tgf4, tgf5, tgf6, tgf7, tgf8, tgf9, tgf10, tgf11, tgf12, tpf7, tpf8, tpf9, tal0, tas0, tln0, tal1, tas1, tln1, tal2, tas2, tln2, tal3, tas3, tln3, tal4, tas4, tln4, tal5, tas5, tln5, tal6, tas6, tln6, tal7, tas7, tln7, tal8, tas8, tln8, tal9, tas9, tln9, bk102_117, am_B102_34, am_B102_117, bn102_34, q1, q2, hP, bI_f]
        exact ih
  have key := key 9 0 rfl G h (fun _ _ => rfl)
  have hm1 : mI 0 = nM := rfl
  have hr0 : ricN S k p x 0 = (nM, 0) := rfl
  rw [hr0] at key
  simp only [hm1] at key
  simp (config := { maxSteps := 1000000 }) (disch := first | exact am_nl_i | exact am_nl_r | exact am_nl_n | exact am_l0 | exact am_l1 | exact am_l2 | exact am_l3 | assumption | omega) only [wp_ldc, wp_sipush, wp_ldc_w, wp_lconst, wp_iadd, wp_isub, wp_imul, wp_iand, wp_ior, wp_ixor, wp_ishl, wp_ishr, wp_iushr, wp_idiv, wp_irem, wp_ineg, wp_i2b, wp_i2s, wp_i2c, wp_i2l, wp_ladd, wp_lmul, wp_lcmp, wp_dup_i, wp_dup_r, wp_dup2, wp_pop, wp_getfield, wp_putfield, wp_getstatic, wp_iaload, wp_baload, wp_aaload, wp_iastore, wp_arraylength, wp_goto, wp_fall, wp_ieq, wp_ine, wp_ilt, wp_ige, wp_igt, wp_ile, wp_ceq, wp_cne, wp_clt, wp_cge, wp_cgt, wp_cle, wp_sw, wp_ret0, wp_ret1z, wp_ret1o, wp_ret1, wp_ret2, wp_ret3, wp_ret4, wp_ret5, wp_return, wp_min, wp_max, wp_abs, am_ex, gset_eq, gset_ne, upd_eq, upd_ne, gset_gset, am_ci_1, am_ci_6, am_toList_some, am_toList_none, true_implies, false_implies, and_self, and_true, true_and, not_true_eq_false, not_false_eq_true, imp_self, implies_true, Classical.not_not, if_true, if_false, false_and, and_false, or_false, false_or, true_or, or_true, Nat.reduceAdd, Nat.reduceMul, Nat.reduceSub, Nat.reduceLT, Nat.reduceLeDiff, Nat.reduceEqDiff, Nat.reduceBneDiff, Nat.add_zero, Nat.zero_add, reduceCtorEq, wil0, wal0, wis0, wic0, wil1, wal1, wis1, wic1, wil2, wll2, wal2, wis2, was2, wls2, wic2, wil3, wis3, wic3, wic3m, wic3s, wil4, wis4, wic4, wil5, wis5, wic5, wic5m, wil6, wll6, wal6, wis6, was6, wls6, wic6, wil7, wal7, wis7, was7, wic7, wil8, wis8, wic8, wil9, wis9, wic9, wil10, wis10, wic10, am_nI_inj, am_nI_lt, am_nI_le, nI_add, pk_mul, am_nI_sub, am_add_m1, am_gfs, am_pfs, am_alds, am_asts, am_lens, tgf0, tgf1, tgf2, tgf3, tgf4, tgf5, tgf6, tgf7, tgf8, tgf9, tgf10, tgf11, tgf12, tpf7, tpf8, tpf9, tal0, tas0, tln0, tal1, tas1, tln1, tal2, tas2, tln2, tal3, tas3, tln3, tal4, tas4, tln4, tal5, tas5, tln5, tal6, tas6, tln6, tal7, tas7, tln7, tal8, tas8, tln8, tal9, tas9, tln9, bk102_0, bk102_25, am_B102_0, am_B102_25, bn102_34, C_X4_isThere, C_X4_isWithin, f0, h1', h2', bI_t, e2, fcs]
  exact key
def sp_planFor (S : SS) (a1 a2 : Int32) : Int32 × SS := sp_rich S 1 a1 a2
theorem CT_planFor {X : AmX} {S : SS} {G : GG} (h : CSt S G) (a1 a2 : Int32) : CW X 101 [.ref 0, .int a1, .int a2] G (sp_planFor S a1 a2) := by
  have hE := h.1
  unfold TWE at hE
  have f0 := hE.1
  have hv8 := h.2.1.1.1
  unfold CW sp_planFor
  have hb := tb1
  have hb12 := tb12
  have hb23 := tb23
  have e2 : (nI 1 = nI 0) = False := eq_false (by decide)
  show WP X 101 (am_blk 101 0) [some (.ref 0), some (.int a1), some (.int a2)] [] G _
  obtain ⟨G1, hev, hc1, hf1⟩ := CW_ev (CT_rich (X := X) h 1 (by decide) a1 a2)
  have hC := fun (kq : Nat) (r : List Instr) (lv : LV) (st : List Value) (Q : Option Value → GG → Prop) (hl : st.length ≤ 4) => WP_ev (k := kq) (st := .int (nI 1) :: .int a2 :: .int a1 :: .ref 0 :: st) (rest := st) (r := r) (lv := lv) (Q := Q) hev (by decide) (c := 4) rfl rfl hl rfl
  simp (config := { maxSteps := 1000000 }) (disch := first | exact am_nl_i | exact am_nl_r | exact am_nl_n | exact am_l0 | exact am_l1 | exact am_l2 | exact am_l3 | assumption | omega) only [wp_ldc, wp_sipush, wp_ldc_w, wp_lconst, wp_iadd, wp_isub, wp_imul, wp_iand, wp_ior, wp_ixor, wp_ishl, wp_ishr, wp_iushr, wp_idiv, wp_irem, wp_ineg, wp_i2b, wp_i2s, wp_i2c, wp_i2l, wp_ladd, wp_lmul, wp_lcmp, wp_dup_i, wp_dup_r, wp_dup2, wp_pop, wp_getfield, wp_putfield, wp_getstatic, wp_iaload, wp_baload, wp_aaload, wp_iastore, wp_arraylength, wp_goto, wp_fall, wp_ieq, wp_ine, wp_ilt, wp_ige, wp_igt, wp_ile, wp_ceq, wp_cne, wp_clt, wp_cge, wp_cgt, wp_cle, wp_sw, wp_ret0, wp_ret1z, wp_ret1o, wp_ret1, wp_ret2, wp_ret3, wp_ret4, wp_ret5, wp_return, wp_min, wp_max, wp_abs, am_ex, gset_eq, gset_ne, upd_eq, upd_ne, gset_gset, am_ci_1, am_ci_6, am_toList_some, am_toList_none, true_implies, false_implies, and_self, and_true, true_and, not_true_eq_false, not_false_eq_true, imp_self, implies_true, Classical.not_not, if_true, if_false, false_and, and_false, or_false, false_or, true_or, or_true, Nat.reduceAdd, Nat.reduceMul, Nat.reduceSub, Nat.reduceLT, Nat.reduceLeDiff, Nat.reduceEqDiff, Nat.reduceBneDiff, Nat.add_zero, Nat.zero_add, reduceCtorEq, wil0, wal0, wis0, wic0, wil1, wal1, wis1, wic1, wil2, wll2, wal2, wis2, was2, wls2, wic2, wil3, wis3, wic3, wic3m, wic3s, wil4, wis4, wic4, wil5, wis5, wic5, wic5m, wil6, wll6, wal6, wis6, was6, wls6, wic6, wil7, wal7, wis7, was7, wic7, wil8, wis8, wic8, wil9, wis9, wic9, wil10, wis10, wic10, am_nI_inj, am_nI_lt, am_nI_le, nI_add, pk_mul, am_nI_sub, am_add_m1, am_gfs, am_pfs, am_alds, am_asts, am_lens, tgf0, tgf1, tgf2, tgf3, tgf4, tgf5, tgf6, tgf7, tgf8, tgf9, tgf10, tgf11, tgf12, tpf7, tpf8, tpf9, tal0, tas0, tln0, tal1, tas1, tln1, tal2, tas2, tln2, tal3, tas3, tln3, tal4, tas4, tln4, tal5, tas5, tln5, tal6, tas6, tln6, tal7, tas7, tln7, tal8, tas8, tln8, tal9, tas9, tln9, bs101, am_B101_0, hC]
  first | exact ⟨rfl, hc1, hf1⟩ | exact ⟨hc1, hf1⟩
def sp_kindFor (S : SS) (a1 a2 : Int32) : Int32 × SS := sp_rich S 0 a1 a2
theorem CT_kindFor {X : AmX} {S : SS} {G : GG} (h : CSt S G) (a1 a2 : Int32) : CW X 106 [.ref 0, .int a1, .int a2] G (sp_kindFor S a1 a2) := by
  have hE := h.1
  unfold TWE at hE
  have f0 := hE.1
  have hv8 := h.2.1.1.1
  unfold CW sp_kindFor
  have hb := tb1
  have hb12 := tb12
  have hb23 := tb23
  have e2 : (nI 1 = nI 0) = False := eq_false (by decide)
  show WP X 106 (am_blk 106 0) [some (.ref 0), some (.int a1), some (.int a2)] [] G _
  obtain ⟨G1, hev, hc1, hf1⟩ := CW_ev (CT_rich (X := X) h 0 (by decide) a1 a2)
  have hC := fun (kq : Nat) (r : List Instr) (lv : LV) (st : List Value) (Q : Option Value → GG → Prop) (hl : st.length ≤ 4) => WP_ev (k := kq) (st := .int (nI 0) :: .int a2 :: .int a1 :: .ref 0 :: st) (rest := st) (r := r) (lv := lv) (Q := Q) hev (by decide) (c := 4) rfl rfl hl rfl
  simp (config := { maxSteps := 1000000 }) (disch := first | exact am_nl_i | exact am_nl_r | exact am_nl_n | exact am_l0 | exact am_l1 | exact am_l2 | exact am_l3 | assumption | omega) only [wp_ldc, wp_sipush, wp_ldc_w, wp_lconst, wp_iadd, wp_isub, wp_imul, wp_iand, wp_ior, wp_ixor, wp_ishl, wp_ishr, wp_iushr, wp_idiv, wp_irem, wp_ineg, wp_i2b, wp_i2s, wp_i2c, wp_i2l, wp_ladd, wp_lmul, wp_lcmp, wp_dup_i, wp_dup_r, wp_dup2, wp_pop, wp_getfield, wp_putfield, wp_getstatic, wp_iaload, wp_baload, wp_aaload, wp_iastore, wp_arraylength, wp_goto, wp_fall, wp_ieq, wp_ine, wp_ilt, wp_ige, wp_igt, wp_ile, wp_ceq, wp_cne, wp_clt, wp_cge, wp_cgt, wp_cle, wp_sw, wp_ret0, wp_ret1z, wp_ret1o, wp_ret1, wp_ret2, wp_ret3, wp_ret4, wp_ret5, wp_return, wp_min, wp_max, wp_abs, am_ex, gset_eq, gset_ne, upd_eq, upd_ne, gset_gset, am_ci_1, am_ci_6, am_toList_some, am_toList_none, true_implies, false_implies, and_self, and_true, true_and, not_true_eq_false, not_false_eq_true, imp_self, implies_true, Classical.not_not, if_true, if_false, false_and, and_false, or_false, false_or, true_or, or_true, Nat.reduceAdd, Nat.reduceMul, Nat.reduceSub, Nat.reduceLT, Nat.reduceLeDiff, Nat.reduceEqDiff, Nat.reduceBneDiff, Nat.add_zero, Nat.zero_add, reduceCtorEq, wil0, wal0, wis0, wic0, wil1, wal1, wis1, wic1, wil2, wll2, wal2, wis2, was2, wls2, wic2, wil3, wis3, wic3, wic3m, wic3s, wil4, wis4, wic4, wil5, wis5, wic5, wic5m, wil6, wll6, wal6, wis6, was6, wls6, wic6, wil7, wal7, wis7, was7, wic7, wil8, wis8, wic8, wil9, wis9, wic9, wil10, wis10, wic10, am_nI_inj, am_nI_lt, am_nI_le, nI_add, pk_mul, am_nI_sub, am_add_m1, am_gfs, am_pfs, am_alds, am_asts, am_lens, tgf0, tgf1, tgf2, tgf3, tgf4, tgf5, tgf6, tgf7, tgf8, tgf9, tgf10, tgf11, tgf12, tpf7, tpf8, tpf9, tal0, tas0, tln0, tal1, tas1, tln1, tal2, tas2, tln2, tal3, tas3, tln3, tal4, tas4, tln4, tal5, tas5, tln5, tal6, tas6, tln6, tal7, tas7, tln7, tal8, tas8, tln8, tal9, tas9, tln9, bs106, am_B106_0, hC]
  first | exact ⟨rfl, hc1, hf1⟩ | exact ⟨hc1, hf1⟩
def sp_looksFor (S : SS) (a1 a2 : Int32) : Int32 × SS := sp_rich S 2 a1 a2
theorem CT_looksFor {X : AmX} {S : SS} {G : GG} (h : CSt S G) (a1 a2 : Int32) : CW X 108 [.ref 0, .int a1, .int a2] G (sp_looksFor S a1 a2) := by
  have hE := h.1
  unfold TWE at hE
  have f0 := hE.1
  have hv8 := h.2.1.1.1
  unfold CW sp_looksFor
  have hb := tb1
  have hb12 := tb12
  have hb23 := tb23
  have e2 : (nI 1 = nI 0) = False := eq_false (by decide)
  show WP X 108 (am_blk 108 0) [some (.ref 0), some (.int a1), some (.int a2)] [] G _
  obtain ⟨G1, hev, hc1, hf1⟩ := CW_ev (CT_rich (X := X) h 2 (by decide) a1 a2)
  have hC := fun (kq : Nat) (r : List Instr) (lv : LV) (st : List Value) (Q : Option Value → GG → Prop) (hl : st.length ≤ 4) => WP_ev (k := kq) (st := .int (nI 2) :: .int a2 :: .int a1 :: .ref 0 :: st) (rest := st) (r := r) (lv := lv) (Q := Q) hev (by decide) (c := 4) rfl rfl hl rfl
  simp (config := { maxSteps := 1000000 }) (disch := first | exact am_nl_i | exact am_nl_r | exact am_nl_n | exact am_l0 | exact am_l1 | exact am_l2 | exact am_l3 | assumption | omega) only [wp_ldc, wp_sipush, wp_ldc_w, wp_lconst, wp_iadd, wp_isub, wp_imul, wp_iand, wp_ior, wp_ixor, wp_ishl, wp_ishr, wp_iushr, wp_idiv, wp_irem, wp_ineg, wp_i2b, wp_i2s, wp_i2c, wp_i2l, wp_ladd, wp_lmul, wp_lcmp, wp_dup_i, wp_dup_r, wp_dup2, wp_pop, wp_getfield, wp_putfield, wp_getstatic, wp_iaload, wp_baload, wp_aaload, wp_iastore, wp_arraylength, wp_goto, wp_fall, wp_ieq, wp_ine, wp_ilt, wp_ige, wp_igt, wp_ile, wp_ceq, wp_cne, wp_clt, wp_cge, wp_cgt, wp_cle, wp_sw, wp_ret0, wp_ret1z, wp_ret1o, wp_ret1, wp_ret2, wp_ret3, wp_ret4, wp_ret5, wp_return, wp_min, wp_max, wp_abs, am_ex, gset_eq, gset_ne, upd_eq, upd_ne, gset_gset, am_ci_1, am_ci_6, am_toList_some, am_toList_none, true_implies, false_implies, and_self, and_true, true_and, not_true_eq_false, not_false_eq_true, imp_self, implies_true, Classical.not_not, if_true, if_false, false_and, and_false, or_false, false_or, true_or, or_true, Nat.reduceAdd, Nat.reduceMul, Nat.reduceSub, Nat.reduceLT, Nat.reduceLeDiff, Nat.reduceEqDiff, Nat.reduceBneDiff, Nat.add_zero, Nat.zero_add, reduceCtorEq, wil0, wal0, wis0, wic0, wil1, wal1, wis1, wic1, wil2, wll2, wal2, wis2, was2, wls2, wic2, wil3, wis3, wic3, wic3m, wic3s, wil4, wis4, wic4, wil5, wis5, wic5, wic5m, wil6, wll6, wal6, wis6, was6, wls6, wic6, wil7, wal7, wis7, was7, wic7, wil8, wis8, wic8, wil9, wis9, wic9, wil10, wis10, wic10, am_nI_inj, am_nI_lt, am_nI_le, nI_add, pk_mul, am_nI_sub, am_add_m1, am_gfs, am_pfs, am_alds, am_asts, am_lens, tgf0, tgf1, tgf2, tgf3, tgf4, tgf5, tgf6, tgf7, tgf8, tgf9, tgf10, tgf11, tgf12, tpf7, tpf8, tpf9, tal0, tas0, tln0, tal1, tas1, tln1, tal2, tas2, tln2, tal3, tas3, tln3, tal4, tas4, tln4, tal5, tas5, tln5, tal6, tas6, tln6, tal7, tas7, tln7, tal8, tas8, tln8, tal9, tas9, tln9, bs108, am_B108_0, hC]
  first | exact ⟨rfl, hc1, hf1⟩ | exact ⟨hc1, hf1⟩
def sp_loveFor (S : SS) (a1 a2 : Int32) : Int32 × SS := sp_rich S 3 a1 a2
theorem CT_loveFor {X : AmX} {S : SS} {G : GG} (h : CSt S G) (a1 a2 : Int32) : CW X 110 [.ref 0, .int a1, .int a2] G (sp_loveFor S a1 a2) := by
  have hE := h.1
  unfold TWE at hE
  have f0 := hE.1
  have hv8 := h.2.1.1.1
  unfold CW sp_loveFor
  have hb := tb1
  have hb12 := tb12
  have hb23 := tb23
  have e2 : (nI 1 = nI 0) = False := eq_false (by decide)
  show WP X 110 (am_blk 110 0) [some (.ref 0), some (.int a1), some (.int a2)] [] G _
  obtain ⟨G1, hev, hc1, hf1⟩ := CW_ev (CT_rich (X := X) h 3 (by decide) a1 a2)
  have hC := fun (kq : Nat) (r : List Instr) (lv : LV) (st : List Value) (Q : Option Value → GG → Prop) (hl : st.length ≤ 4) => WP_ev (k := kq) (st := .int (nI 3) :: .int a2 :: .int a1 :: .ref 0 :: st) (rest := st) (r := r) (lv := lv) (Q := Q) hev (by decide) (c := 4) rfl rfl hl rfl
  simp (config := { maxSteps := 1000000 }) (disch := first | exact am_nl_i | exact am_nl_r | exact am_nl_n | exact am_l0 | exact am_l1 | exact am_l2 | exact am_l3 | assumption | omega) only [wp_ldc, wp_sipush, wp_ldc_w, wp_lconst, wp_iadd, wp_isub, wp_imul, wp_iand, wp_ior, wp_ixor, wp_ishl, wp_ishr, wp_iushr, wp_idiv, wp_irem, wp_ineg, wp_i2b, wp_i2s, wp_i2c, wp_i2l, wp_ladd, wp_lmul, wp_lcmp, wp_dup_i, wp_dup_r, wp_dup2, wp_pop, wp_getfield, wp_putfield, wp_getstatic, wp_iaload, wp_baload, wp_aaload, wp_iastore, wp_arraylength, wp_goto, wp_fall, wp_ieq, wp_ine, wp_ilt, wp_ige, wp_igt, wp_ile, wp_ceq, wp_cne, wp_clt, wp_cge, wp_cgt, wp_cle, wp_sw, wp_ret0, wp_ret1z, wp_ret1o, wp_ret1, wp_ret2, wp_ret3, wp_ret4, wp_ret5, wp_return, wp_min, wp_max, wp_abs, am_ex, gset_eq, gset_ne, upd_eq, upd_ne, gset_gset, am_ci_1, am_ci_6, am_toList_some, am_toList_none, true_implies, false_implies, and_self, and_true, true_and, not_true_eq_false, not_false_eq_true, imp_self, implies_true, Classical.not_not, if_true, if_false, false_and, and_false, or_false, false_or, true_or, or_true, Nat.reduceAdd, Nat.reduceMul, Nat.reduceSub, Nat.reduceLT, Nat.reduceLeDiff, Nat.reduceEqDiff, Nat.reduceBneDiff, Nat.add_zero, Nat.zero_add, reduceCtorEq, wil0, wal0, wis0, wic0, wil1, wal1, wis1, wic1, wil2, wll2, wal2, wis2, was2, wls2, wic2, wil3, wis3, wic3, wic3m, wic3s, wil4, wis4, wic4, wil5, wis5, wic5, wic5m, wil6, wll6, wal6, wis6, was6, wls6, wic6, wil7, wal7, wis7, was7, wic7, wil8, wis8, wic8, wil9, wis9, wic9, wil10, wis10, wic10, am_nI_inj, am_nI_lt, am_nI_le, nI_add, pk_mul, am_nI_sub, am_add_m1, am_gfs, am_pfs, am_alds, am_asts, am_lens, tgf0, tgf1, tgf2, tgf3, tgf4, tgf5, tgf6, tgf7, tgf8, tgf9, tgf10, tgf11, tgf12, tpf7, tpf8, tpf9, tal0, tas0, tln0, tal1, tas1, tln1, tal2, tas2, tln2, tal3, tas3, tln3, tal4, tas4, tln4, tal5, tas5, tln5, tal6, tas6, tln6, tal7, tas7, tln7, tal8, tas8, tln8, tal9, tas9, tln9, bs110, am_B110_0, hC]
  first | exact ⟨rfl, hc1, hf1⟩ | exact ⟨hc1, hf1⟩
