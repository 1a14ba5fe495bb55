def telN (S : SS) (p k : Nat) : Nat → Option Nat
  | 0 => none
  | m + 1 => if (match telN S p k m with | none => true | some b => decide (popN m < popN b)) = true ∧ k ≤ ccN (telT S.1.2.1 m p S.1.1) S.1.1 p then some m else telN S p k m
def eO (o : Option Nat) : Int32 := match o with
  | none => nM
  | some b => nI b
def sp_tell (S : SS) (a1 a2 : Int32) : Int32 × SS := if inR a1 (nI 0) (nI 7) = true ∧ inR a2 (nI 0) (nI 8) = true then orFnd S 3 (telN S (aN a1) (aN a2) (2 ^ S.1.1)) else sFnd S 0
theorem telN_lt {S : SS} {p k : Nat} : ∀ m b, telN S p k m = some b → b < m
  | 0, b, h => by cases h
  | m + 1, b, h => by
    have e : telN S p k (m + 1) = if (match telN S p k m with | none => true | some b => decide (popN m < popN b)) = true ∧ k ≤ ccN (telT S.1.2.1 m p S.1.1) S.1.1 p then some m else telN S p k m := rfl
    by_cases hc : (match telN S p k m with | none => true | some b => decide (popN m < popN b)) = true ∧ k ≤ ccN (telT S.1.2.1 m p S.1.1) S.1.1 p
    · rw [e, if_pos hc] at h
      have := Option.some.inj h
      omega
    · rw [e, if_neg hc] at h
      have := telN_lt m b h
      omega
theorem CT_tell {X : AmX} {S : SS} {G : GG} (h : CSt S G) (a1 a2 : Int32) : CW X 115 [.ref 0, .int a1, .int a2] G (sp_tell S a1 a2) := by
  have hE := h.1
  unfold TWE at hE
  have f0 := hE.1
  have hv8 := h.2.1.1.1
  unfold CW sp_tell
  have hb := tb1
  have hb12 := tb12
  have hb23 := tb23
  have e2 : (nI 1 = nI 0) = False := eq_false (by decide)
  show WP X 115 (am_blk 115 0) [some (.ref 0), some (.int a1), some (.int a2), none, none, none] [] G _
  by_cases h1 : inR a1 (nI 0) (nI 7) = true
  rotate_left
  · rw [if_neg (fun z => h1 z.1)]
    rw [Bool.not_eq_true] at h1
    simp (config := { maxSteps := 1000000 }) (disch := first | exact am_nl_i | exact am_nl_r | exact am_nl_n | exact am_l0 | exact am_l1 | exact am_l2 | exact am_l3 | assumption | omega) only [wp_ldc, wp_sipush, wp_ldc_w, wp_lconst, wp_iadd, wp_isub, wp_imul, wp_iand, wp_ior, wp_ixor, wp_ishl, wp_ishr, wp_iushr, wp_idiv, wp_irem, wp_ineg, wp_i2b, wp_i2s, wp_i2c, wp_i2l, wp_ladd, wp_lmul, wp_lcmp, wp_dup_i, wp_dup_r, wp_dup2, wp_pop, wp_getfield, wp_putfield, wp_getstatic, wp_iaload, wp_baload, wp_aaload, wp_iastore, wp_arraylength, wp_goto, wp_fall, wp_ieq, wp_ine, wp_ilt, wp_ige, wp_igt, wp_ile, wp_ceq, wp_cne, wp_clt, wp_cge, wp_cgt, wp_cle, wp_sw, wp_ret0, wp_ret1z, wp_ret1o, wp_ret1, wp_ret2, wp_ret3, wp_ret4, wp_ret5, wp_return, wp_min, wp_max, wp_abs, am_ex, gset_eq, gset_ne, upd_eq, upd_ne, gset_gset, am_ci_1, am_ci_6, am_toList_some, am_toList_none, true_implies, false_implies, and_self, and_true, true_and, not_true_eq_false, not_false_eq_true, imp_self, implies_true, Classical.not_not, if_true, if_false, false_and, and_false, or_false, false_or, true_or, or_true, Nat.reduceAdd, Nat.reduceMul, Nat.reduceSub, Nat.reduceLT, Nat.reduceLeDiff, Nat.reduceEqDiff, Nat.reduceBneDiff, Nat.add_zero, Nat.zero_add, reduceCtorEq, wil0, wal0, wis0, wic0, wil1, wal1, wis1, wic1, wil2, wll2, wal2, wis2, was2, wls2, wic2, wil3, wis3, wic3, wic3m, wic3s, wil4, wis4, wic4, wil5, wis5, wic5, wic5m, wil6, wll6, wal6, wis6, was6, wls6, wic6, wil7, wal7, wis7, was7, wic7, wil8, wis8, wic8, wil9, wis9, wic9, wil10, wis10, wic10, am_nI_inj, am_nI_lt, am_nI_le, nI_add, pk_mul, am_nI_sub, am_add_m1, am_gfs, am_pfs, am_alds, am_asts, am_lens, tgf0, tgf1, tgf2, tgf3, tgf4, tgf5, tgf6, tgf7, tgf8, tgf9, tgf10, tgf11, tgf12, tpf7, tpf8, tpf9, tal0, tas0, tln0, tal1, tas1, tln1, tal2, tas2, tln2, tal3, tas3, tln3, tal4, tas4, tln4, tal5, tas5, tln5, tal6, tas6, tln6, tal7, tas7, tln7, tal8, tas8, tln8, tal9, tas9, tln9, bs115, am_B115_0, am_B115_17, am_B115_24, am_B115_29, am_B115_59, am_B115_63, am_B115_64, am_B115_85, am_B115_91, am_B115_104, am_B115_105, C_X4_isThere, C_X4_isPlace, C_X4_isWithin, C_X4_isKind, C_X4_isSpot, C_X4_isSheet, h1, bI_t, bI_f, e2, f0, fcs, C_X4_found]
    first | exact ⟨rfl, CSt_fnd h (by omega), fnd_frame⟩ | exact ⟨CSt_fnd h (by omega), fnd_frame⟩
  by_cases h2 : inR a2 (nI 0) (nI 8) = true
  rotate_left
  · rw [if_neg (fun z => h2 z.2)]
    rw [Bool.not_eq_true] at h2
    simp (config := { maxSteps := 1000000 }) (disch := first | exact am_nl_i | exact am_nl_r | exact am_nl_n | exact am_l0 | exact am_l1 | exact am_l2 | exact am_l3 | assumption | omega) only [wp_ldc, wp_sipush, wp_ldc_w, wp_lconst, wp_iadd, wp_isub, wp_imul, wp_iand, wp_ior, wp_ixor, wp_ishl, wp_ishr, wp_iushr, wp_idiv, wp_irem, wp_ineg, wp_i2b, wp_i2s, wp_i2c, wp_i2l, wp_ladd, wp_lmul, wp_lcmp, wp_dup_i, wp_dup_r, wp_dup2, wp_pop, wp_getfield, wp_putfield, wp_getstatic, wp_iaload, wp_baload, wp_aaload, wp_iastore, wp_arraylength, wp_goto, wp_fall, wp_ieq, wp_ine, wp_ilt, wp_ige, wp_igt, wp_ile, wp_ceq, wp_cne, wp_clt, wp_cge, wp_cgt, wp_cle, wp_sw, wp_ret0, wp_ret1z, wp_ret1o, wp_ret1, wp_ret2, wp_ret3, wp_ret4, wp_ret5, wp_return, wp_min, wp_max, wp_abs, am_ex, gset_eq, gset_ne, upd_eq, upd_ne, gset_gset, am_ci_1, am_ci_6, am_toList_some, am_toList_none, true_implies, false_implies, and_self, and_true, true_and, not_true_eq_false, not_false_eq_true, imp_self, implies_true, Classical.not_not, if_true, if_false, false_and, and_false, or_false, false_or, true_or, or_true, Nat.reduceAdd, Nat.reduceMul, Nat.reduceSub, Nat.reduceLT, Nat.reduceLeDiff, Nat.reduceEqDiff, Nat.reduceBneDiff, Nat.add_zero, Nat.zero_add, reduceCtorEq, wil0, wal0, wis0, wic0, wil1, wal1, wis1, wic1, wil2, wll2, wal2, wis2, was2, wls2, wic2, wil3, wis3, wic3, wic3m, wic3s, wil4, wis4, wic4, wil5, wis5, wic5, wic5m, wil6, wll6, wal6, wis6, was6, wls6, wic6, wil7, wal7, wis7, was7, wic7, wil8, wis8, wic8, wil9, wis9, wic9, wil10, wis10, wic10, am_nI_inj, am_nI_lt, am_nI_le, nI_add, pk_mul, am_nI_sub, am_add_m1, am_gfs, am_pfs, am_alds, am_asts, am_lens, tgf0, tgf1, tgf2, tgf3, tgf4, tgf5, tgf6, tgf7, tgf8, tgf9, tgf10, tgf11, tgf12, tpf7, tpf8, tpf9, tal0, tas0, tln0, tal1, tas1, tln1, tal2, tas2, tln2, tal3, tas3, tln3, tal4, tas4, tln4, tal5, tas5, tln5, tal6, tas6, tln6, tal7, tas7, tln7, tal8, tas8, tln8, tal9, tas9, tln9, bs115, am_B115_0, am_B115_17, am_B115_24, am_B115_29, am_B115_59, am_B115_63, am_B115_64, am_B115_85, am_B115_91, am_B115_104, am_B115_105, C_X4_isThere, C_X4_isPlace, C_X4_isWithin, C_X4_isKind, C_X4_isSpot, C_X4_isSheet, h1, h2, bI_t, bI_f, e2, f0, fcs, C_X4_found]
    first | exact ⟨rfl, CSt_fnd h (by omega), fnd_frame⟩ | exact ⟨CSt_fnd h (by omega), fnd_frame⟩
  rw [if_pos ⟨h1, h2⟩]
  obtain ⟨p, hp, rfl, h1'⟩ := rng_of (by omega) h1
  obtain ⟨x, hx, rfl, h2'⟩ := rng_of (by omega) h2
  rw [aN_nI (show p < 2 ^ 31 by omega), aN_nI (show x < 2 ^ 31 by omega)]
  generalize hQ : (fun (w : Option Value) (G1 : GG) => w = some (.int (orFnd S 3 (telN S p x (2 ^ S.1.1))).1) ∧ CSt (orFnd S 3 (telN S p x (2 ^ S.1.1))).2 G1 ∧ ∀ o, 58 ≤ o → G1 o = G o) = Q
  have hpw := pow_of S.1.1 (by omega)
  have hp256 : 2 ^ S.1.1 ≤ 2 ^ 8 := Nat.pow_le_pow_right (by decide) hv8
  have hp256 : 2 ^ S.1.1 ≤ 256 := hp256
  have n0 : (nM < nI 0) = True := eq_true (by decide)
  have n1 : (nI 0 ≤ nM) = False := eq_false (by decide)
  have key : ∀ d m : Nat, m + d = 2 ^ S.1.1 → ∀ (G' : GG) (v5 : Option Value), CSt S G' → (∀ o, 58 ≤ o → G' o = G o) → WP X 115 (am_blk 115 29) [some (.ref 0), some (.int (nI p)), some (.int (nI x)), some (.int (eO (telN S p x m))), some (.int (nI m)), v5] [] G' Q := by
    intro d
    induction d with
    | zero =>
      intro m hm G' v5 hc hf
      have g0 := hc.1.1
      obtain rfl : m = 2 ^ S.1.1 := by omega
      have h := hc
      rw [bh115_29, ← hQ]
      cases ht : telN S p x (2 ^ S.1.1) with
      | none =>
        have e3 : eO none = nM := rfl
        have e4 : orFnd S 3 none = sFnd S 3 := rfl
        rw [e4]
        generalize 2 ^ S.1.1 = pw at *
        simp (config := { maxSteps := 1000000 }) (disch := first | exact am_nl_i | exact am_nl_r | exact am_nl_n | exact am_l0 | exact am_l1 | exact am_l2 | exact am_l3 | assumption | omega) only [wp_ldc, wp_sipush, wp_ldc_w, wp_lconst, wp_iadd, wp_isub, wp_imul, wp_iand, wp_ior, wp_ixor, wp_ishl, wp_ishr, wp_iushr, wp_idiv, wp_irem, wp_ineg, wp_i2b, wp_i2s, wp_i2c, wp_i2l, wp_ladd, wp_lmul, wp_lcmp, wp_dup_i, wp_dup_r, wp_dup2, wp_pop, wp_getfield, wp_putfield, wp_getstatic, wp_iaload, wp_baload, wp_aaload, wp_iastore, wp_arraylength, wp_goto, wp_fall, wp_ieq, wp_ine, wp_ilt, wp_ige, wp_igt, wp_ile, wp_ceq, wp_cne, wp_clt, wp_cge, wp_cgt, wp_cle, wp_sw, wp_ret0, wp_ret1z, wp_ret1o, wp_ret1, wp_ret2, wp_ret3, wp_ret4, wp_ret5, wp_return, wp_min, wp_max, wp_abs, am_ex, gset_eq, gset_ne, upd_eq, upd_ne, gset_gset, am_ci_1, am_ci_6, am_toList_some, am_toList_none, true_implies, false_implies, and_self, and_true, true_and, not_true_eq_false, not_false_eq_true, imp_self, implies_true, Classical.not_not, if_true, if_false, false_and, and_false, or_false, false_or, true_or, or_true, Nat.reduceAdd, Nat.reduceMul, Nat.reduceSub, Nat.reduceLT, Nat.reduceLeDiff, Nat.reduceEqDiff, Nat.reduceBneDiff, Nat.add_zero, Nat.zero_add, reduceCtorEq, wil0, wal0, wis0, wic0, wil1, wal1, wis1, wic1, wil2, wll2, wal2, wis2, was2, wls2, wic2, wil3, wis3, wic3, wic3m, wic3s, wil4, wis4, wic4, wil5, wis5, wic5, wic5m, wil6, wll6, wal6, wis6, was6, wls6, wic6, wil7, wal7, wis7, was7, wic7, wil8, wis8, wic8, wil9, wis9, wic9, wil10, wis10, wic10, am_nI_inj, am_nI_lt, am_nI_le, nI_add, pk_mul, am_nI_sub, am_add_m1, am_gfs, am_pfs, am_alds, am_asts, am_lens, tgf0, tgf1, tgf2, tgf3, tgf4, tgf5, tgf6, tgf7, tgf8, tgf9, tgf10, tgf11, tgf12, tpf7, tpf8, tpf9, tal0, tas0, tln0, tal1, tas1, tln1, tal2, tas2, tln2, tal3, tas3, tln3, tal4, tas4, tln4, tal5, tas5, tln5, tal6, tas6, tln6, tal7, tas7, tln7, tal8, tas8, tln8, tal9, tas9, tln9, bk115_91, bk115_105, am_B115_29, am_B115_91, am_B115_105, g0, hpw, Nat.le_refl, e3, n0, n1, fcs, C_X4_found]
        first
          | exact ⟨rfl, CSt_fnd h (by omega), fun o ho => (fnd_frame o ho).trans (hf o ho)⟩
          | exact ⟨CSt_fnd h (by omega), fun o ho => (fnd_frame o ho).trans (hf o ho)⟩
      | some b =>
        have hlt := telN_lt _ _ ht
        have e3 : eO (some b) = nI b := rfl
        have e4 : orFnd S 3 (some b) = (nI b, S) := rfl
        rw [e4]
        have q0 : (0 ≤ b) = True := eq_true (Nat.zero_le b)
        generalize 2 ^ S.1.1 = pw at *
        simp (config := { maxSteps := 1000000 }) (disch := first | exact am_nl_i | exact am_nl_r | exact am_nl_n | exact am_l0 | exact am_l1 | exact am_l2 | exact am_l3 | assumption | omega) only [wp_ldc, wp_sipush, wp_ldc_w, wp_lconst, wp_iadd, wp_isub, wp_imul, wp_iand, wp_ior, wp_ixor, wp_ishl, wp_ishr, wp_iushr, wp_idiv, wp_irem, wp_ineg, wp_i2b, wp_i2s, wp_i2c, wp_i2l, wp_ladd, wp_lmul, wp_lcmp, wp_dup_i, wp_dup_r, wp_dup2, wp_pop, wp_getfield, wp_putfield, wp_getstatic, wp_iaload, wp_baload, wp_aaload, wp_iastore, wp_arraylength, wp_goto, wp_fall, wp_ieq, wp_ine, wp_ilt, wp_ige, wp_igt, wp_ile, wp_ceq, wp_cne, wp_clt, wp_cge, wp_cgt, wp_cle, wp_sw, wp_ret0, wp_ret1z, wp_ret1o, wp_ret1, wp_ret2, wp_ret3, wp_ret4, wp_ret5, wp_return, wp_min, wp_max, wp_abs, am_ex, gset_eq, gset_ne, upd_eq, upd_ne, gset_gset, am_ci_1, am_ci_6, am_toList_some, am_toList_none, true_implies, false_implies, and_self, and_true, true_and, not_true_eq_false, not_false_eq_true, imp_self, implies_true, Classical.not_not, if_true, if_false, false_and, and_false, or_false, false_or, true_or, or_true, Nat.reduceAdd, Nat.reduceMul, Nat.reduceSub, Nat.reduceLT, Nat.reduceLeDiff, Nat.reduceEqDiff, Nat.reduceBneDiff, Nat.add_zero, Nat.zero_add, reduceCtorEq, wil0, wal0, wis0, wic0, wil1, wal1, wis1, wic1, wil2, wll2, wal2, wis2, was2, wls2, wic2, wil3, wis3, wic3, wic3m, wic3s, wil4, wis4, wic4, wil5, wis5, wic5, wic5m, wil6, wll6, wal6, wis6, was6, wls6, wic6, wil7, wal7, wis7, was7, wic7, wil8, wis8, wic8, wil9, wis9, wic9, wil10, wis10, wic10, am_nI_inj, am_nI_lt, am_nI_le, nI_add, pk_mul, am_nI_sub, am_add_m1, am_gfs, am_pfs, am_alds, am_asts, am_lens, tgf0, tgf1, tgf2, tgf3, tgf4, tgf5, tgf6, tgf7, tgf8, tgf9, tgf10, tgf11, tgf12, tpf7, tpf8, tpf9, tal0, tas0, tln0, tal1, tas1, tln1, tal2, tas2, tln2, tal3, tas3, tln3, tal4, tas4, tln4, tal5, tas5, tln5, tal6, tas6, tln6, tal7, tas7, tln7, tal8, tas8, tln8, tal9, tas9, tln9, bk115_91, bk115_104, bk115_105, am_B115_29, am_B115_91, am_B115_104, am_B115_105, g0, hpw, Nat.le_refl, e3, q0, fcs]
        first
          | exact ⟨rfl, hc, hf⟩
          | exact ⟨hc, hf⟩
    | succ d ih =>
      intro m hm G' v5 hc hf
      have g0 := hc.1.1
      have q1 : (2 ^ S.1.1 ≤ m) = False := eq_false (by omega)
      have hm256 : m < 256 := by omega
      obtain ⟨G1, hev, hc1, hf1⟩ := CS_tell (X := X) hc m p hm256 (by omega)
      have hC := fun (kq : Nat) (r : List Instr) (lv : LV) (st : List Value) (Q : Option Value → GG → Prop) (hl : st.length ≤ 4) => WP_ev (k := kq) (st := .int (nI p) :: .int (nI m) :: .ref 0 :: st) (rest := st) (r := r) (lv := lv) (Q := Q) hev (by decide) (c := 3) rfl rfl hl rfl
      have hff : ∀ o, 58 ≤ o → G1 o = G o := fun o ho => (hf1 o ho).trans (hf o ho)
      have lcc := ccN_le (telT S.1.2.1 m p S.1.1) S.1.1 p
      have b1 := bc_pop m hm256
      have l1 := popN_le m hm256
      rw [bh115_29]
      have ihs : ∀ (v : Option Nat), telN S p x (m + 1) = v → ∀ v5, WP X 115 (am_blk 115 29) [some (.ref 0), some (.int (nI p)), some (.int (nI x)), some (.int (eO v)), some (.int (nI (m + 1))), v5] [] G1 Q := fun v hv v5 => by rw [← hv]; exact ih (m + 1) (by omega) G1 v5 hc1 hff
      have ihf : telN S p x (m + 1) = telN S p x m → ∀ v5, WP X 115 (am_blk 115 29) [some (.ref 0), some (.int (nI p)), some (.int (nI x)), some (.int (eO (telN S p x m))), some (.int (nI (m + 1))), v5] [] G' Q := fun hv v5 => by rw [← hv]; exact ih (m + 1) (by omega) G' v5 hc hf
      have hst : telN S p x (m + 1) = if (match telN S p x m with | none => true | some b => decide (popN m < popN b)) = true ∧ x ≤ ccN (telT S.1.2.1 m p S.1.1) S.1.1 p then some m else telN S p x m := rfl
      generalize ccN (telT S.1.2.1 m p S.1.1) S.1.1 p = cc at *
      cases ht : telN S p x m with
      | none =>
        have e3 : eO none = nM := rfl
        rw [ht] at hst
        by_cases hx2 : x ≤ cc
        · rw [if_pos ⟨rfl, hx2⟩] at hst
          have ihk := ihs _ hst
          have e4 : eO (some m) = nI m := rfl
          rw [e4] at ihk
          have q3 : (cc < x) = False := eq_false (by omega)
          generalize 2 ^ S.1.1 = pw at *
          simp (config := { maxSteps := 1000000 }) (disch := first | exact am_nl_i | exact am_nl_r | exact am_nl_n | exact am_l0 | exact am_l1 | exact am_l2 | exact am_l3 | assumption | omega) only [wp_ldc, wp_sipush, wp_ldc_w, wp_lconst, wp_iadd, wp_isub, wp_imul, wp_iand, wp_ior, wp_ixor, wp_ishl, wp_ishr, wp_iushr, wp_idiv, wp_irem, wp_ineg, wp_i2b, wp_i2s, wp_i2c, wp_i2l, wp_ladd, wp_lmul, wp_lcmp, wp_dup_i, wp_dup_r, wp_dup2, wp_pop, wp_getfield, wp_putfield, wp_getstatic, wp_iaload, wp_baload, wp_aaload, wp_iastore, wp_arraylength, wp_goto, wp_fall, wp_ieq, wp_ine, wp_ilt, wp_ige, wp_igt, wp_ile, wp_ceq, wp_cne, wp_clt, wp_cge, wp_cgt, wp_cle, wp_sw, wp_ret0, wp_ret1z, wp_ret1o, wp_ret1, wp_ret2, wp_ret3, wp_ret4, wp_ret5, wp_return, wp_min, wp_max, wp_abs, am_ex, gset_eq, gset_ne, upd_eq, upd_ne, gset_gset, am_ci_1, am_ci_6, am_toList_some, am_toList_none, true_implies, false_implies, and_self, and_true, true_and, not_true_eq_false, not_false_eq_true, imp_self, implies_true, Classical.not_not, if_true, if_false, false_and, and_false, or_false, false_or, true_or, or_true, Nat.reduceAdd, Nat.reduceMul, Nat.reduceSub, Nat.reduceLT, Nat.reduceLeDiff, Nat.reduceEqDiff, Nat.reduceBneDiff, Nat.add_zero, Nat.zero_add, reduceCtorEq, wil0, wal0, wis0, wic0, wil1, wal1, wis1, wic1, wil2, wll2, wal2, wis2, was2, wls2, wic2, wil3, wis3, wic3, wic3m, wic3s, wil4, wis4, wic4, wil5, wis5, wic5, wic5m, wil6, wll6, wal6, wis6, was6, wls6, wic6, wil7, wal7, wis7, was7, wic7, wil8, wis8, wic8, wil9, wis9, wic9, wil10, wis10, wic10, am_nI_inj, am_nI_lt, am_nI_le, nI_add, pk_mul, am_nI_sub, am_add_m1, am_gfs, am_pfs, am_alds, am_asts, am_lens, tgf0, tgf1, tgf2, tgf3, tgf4, tgf5, tgf6, tgf7, tgf8, tgf9, tgf10, tgf11, tgf12, tpf7, tpf8, tpf9, tal0, tas0, tln0, tal1, tas1, tln1, tal2, tas2, tln2, tal3, tas3, tln3, tal4, tas4, tln4, tal5, tas5, tln5, tal6, tas6, tln6, tal7, tas7, tln7, tal8, tas8, tln8, tal9, tas9, tln9, bk115_59, bk115_64, bk115_85, am_B115_29, am_B115_59, am_B115_64, am_B115_85, bn115_29, g0, hpw, q1, e3, n0, e2, hC, q3]
          exact ihk _
        · rw [if_neg (fun z => hx2 z.2)] at hst
          have ihk := ihs _ hst
          rw [e3] at ihk
          have q3 : (cc < x) = True := eq_true (by omega)
          generalize 2 ^ S.1.1 = pw at *
          simp (config := { maxSteps := 1000000 }) (disch := first | exact am_nl_i | exact am_nl_r | exact am_nl_n | exact am_l0 | exact am_l1 | exact am_l2 | exact am_l3 | assumption | omega) only [wp_ldc, wp_sipush, wp_ldc_w, wp_lconst, wp_iadd, wp_isub, wp_imul, wp_iand, wp_ior, wp_ixor, wp_ishl, wp_ishr, wp_iushr, wp_idiv, wp_irem, wp_ineg, wp_i2b, wp_i2s, wp_i2c, wp_i2l, wp_ladd, wp_lmul, wp_lcmp, wp_dup_i, wp_dup_r, wp_dup2, wp_pop, wp_getfield, wp_putfield, wp_getstatic, wp_iaload, wp_baload, wp_aaload, wp_iastore, wp_arraylength, wp_goto, wp_fall, wp_ieq, wp_ine, wp_ilt, wp_ige, wp_igt, wp_ile, wp_ceq, wp_cne, wp_clt, wp_cge, wp_cgt, wp_cle, wp_sw, wp_ret0, wp_ret1z, wp_ret1o, wp_ret1, wp_ret2, wp_ret3, wp_ret4, wp_ret5, wp_return, wp_min, wp_max, wp_abs, am_ex, gset_eq, gset_ne, upd_eq, upd_ne, gset_gset, am_ci_1, am_ci_6, am_toList_some, am_toList_none, true_implies, false_implies, and_self, and_true, true_and, not_true_eq_false, not_false_eq_true, imp_self, implies_true, Classical.not_not, if_true, if_false, false_and, and_false, or_false, false_or, true_or, or_true, Nat.reduceAdd, Nat.reduceMul, Nat.reduceSub, Nat.reduceLT, Nat.reduceLeDiff, Nat.reduceEqDiff, Nat.reduceBneDiff, Nat.add_zero, Nat.zero_add, reduceCtorEq, wil0, wal0, wis0, wic0, wil1, wal1, wis1, wic1, wil2, wll2, wal2, wis2, was2, wls2, wic2, wil3, wis3, wic3, wic3m, wic3s, wil4, wis4, wic4, wil5, wis5, wic5, wic5m, wil6, wll6, wal6, wis6, was6, wls6, wic6, wil7, wal7, wis7, was7, wic7, wil8, wis8, wic8, wil9, wis9, wic9, wil10, wis10, wic10, am_nI_inj, am_nI_lt, am_nI_le, nI_add, pk_mul, am_nI_sub, am_add_m1, am_gfs, am_pfs, am_alds, am_asts, am_lens, tgf0, tgf1, tgf2, tgf3, tgf4, tgf5, tgf6, tgf7, tgf8, tgf9, tgf10, tgf11, tgf12, tpf7, tpf8, tpf9, tal0, tas0, tln0, tal1, tas1, tln1, tal2, tas2, tln2, tal3, tas3, tln3, tal4, tas4, tln4, tal5, tas5, tln5, tal6, tas6, tln6, tal7, tas7, tln7, tal8, tas8, tln8, tal9, tas9, tln9, bk115_59, bk115_64, bk115_85, am_B115_29, am_B115_59, am_B115_64, am_B115_85, bn115_29, g0, hpw, q1, e3, n0, e2, hC, q3]
          exact ihk _
      | some b =>
        have hlt := telN_lt _ _ ht
        have e3 : eO (some b) = nI b := rfl
        have b2 := bc_pop b (by omega)
        have l2 := popN_le b (by omega)
        rw [ht] at hst
        have hst : telN S p x (m + 1) = if decide (popN m < popN b) = true ∧ x ≤ cc then some m else some b := hst
        by_cases hpp : popN m < popN b
        · have q4 : (popN b ≤ popN m) = False := eq_false (by omega)
          by_cases hx2 : x ≤ cc
          · rw [if_pos ⟨decide_eq_true hpp, hx2⟩] at hst
            have ihk := ihs _ hst
            have e4 : eO (some m) = nI m := rfl
            rw [e4] at ihk
            have q3 : (cc < x) = False := eq_false (by omega)
            generalize 2 ^ S.1.1 = pw at *
            simp (config := { maxSteps := 1000000 }) (disch := first | exact am_nl_i | exact am_nl_r | exact am_nl_n | exact am_l0 | exact am_l1 | exact am_l2 | exact am_l3 | assumption | omega) only [wp_ldc, wp_sipush, wp_ldc_w, wp_lconst, wp_iadd, wp_isub, wp_imul, wp_iand, wp_ior, wp_ixor, wp_ishl, wp_ishr, wp_iushr, wp_idiv, wp_irem, wp_ineg, wp_i2b, wp_i2s, wp_i2c, wp_i2l, wp_ladd, wp_lmul, wp_lcmp, wp_dup_i, wp_dup_r, wp_dup2, wp_pop, wp_getfield, wp_putfield, wp_getstatic, wp_iaload, wp_baload, wp_aaload, wp_iastore, wp_arraylength, wp_goto, wp_fall, wp_ieq, wp_ine, wp_ilt, wp_ige, wp_igt, wp_ile, wp_ceq, wp_cne, wp_clt, wp_cge, wp_cgt, wp_cle, wp_sw, wp_ret0, wp_ret1z, wp_ret1o, wp_ret1, wp_ret2, wp_ret3, wp_ret4, wp_ret5, wp_return, wp_min, wp_max, wp_abs, am_ex, gset_eq, gset_ne, upd_eq, upd_ne, gset_gset, am_ci_1, am_ci_6, am_toList_some, am_toList_none, true_implies, false_implies, and_self, and_true, true_and, not_true_eq_false, not_false_eq_true, imp_self, implies_true, Classical.not_not, if_true, if_false, false_and, and_false, or_false, false_or, true_or, or_true, Nat.reduceAdd, Nat.reduceMul, Nat.reduceSub, Nat.reduceLT, Nat.reduceLeDiff, Nat.reduceEqDiff, Nat.reduceBneDiff, Nat.add_zero, Nat.zero_add, reduceCtorEq, wil0, wal0, wis0, wic0, wil1, wal1, wis1, wic1, wil2, wll2, wal2, wis2, was2, wls2, wic2, wil3, wis3, wic3, wic3m, wic3s, wil4, wis4, wic4, wil5, wis5, wic5, wic5m, wil6, wll6, wal6, wis6, was6, wls6, wic6, wil7, wal7, wis7, was7, wic7, wil8, wis8, wic8, wil9, wis9, wic9, wil10, wis10, wic10, am_nI_inj, am_nI_lt, am_nI_le, nI_add, pk_mul, am_nI_sub, am_add_m1, am_gfs, am_pfs, am_alds, am_asts, am_lens, tgf0, tgf1, tgf2, tgf3, tgf4, tgf5, tgf6, tgf7, tgf8, tgf9, tgf10, tgf11, tgf12, tpf7, tpf8, tpf9, tal0, tas0, tln0, tal1, tas1, tln1, tal2, tas2, tln2, tal3, tas3, tln3, tal4, tas4, tln4, tal5, tas5, tln5, tal6, tas6, tln6, tal7, tas7, tln7, tal8, tas8, tln8, tal9, tas9, tln9, bk115_59, bk115_64, bk115_85, am_B115_29, am_B115_59, am_B115_64, am_B115_85, bn115_29, C_J6_bitCount, b1, b2, q4, g0, hpw, q1, e3, e2, hC, q3, Nat.not_lt_zero]
            exact ihk _
          · rw [if_neg (fun z => hx2 z.2)] at hst
            have ihk := ihs _ hst
            rw [e3] at ihk
            have q3 : (cc < x) = True := eq_true (by omega)
            generalize 2 ^ S.1.1 = pw at *
            simp (config := { maxSteps := 1000000 }) (disch := first | exact am_nl_i | exact am_nl_r | exact am_nl_n | exact am_l0 | exact am_l1 | exact am_l2 | exact am_l3 | assumption | omega) only [wp_ldc, wp_sipush, wp_ldc_w, wp_lconst, wp_iadd, wp_isub, wp_imul, wp_iand, wp_ior, wp_ixor, wp_ishl, wp_ishr, wp_iushr, wp_idiv, wp_irem, wp_ineg, wp_i2b, wp_i2s, wp_i2c, wp_i2l, wp_ladd, wp_lmul, wp_lcmp, wp_dup_i, wp_dup_r, wp_dup2, wp_pop, wp_getfield, wp_putfield, wp_getstatic, wp_iaload, wp_baload, wp_aaload, wp_iastore, wp_arraylength, wp_goto, wp_fall, wp_ieq, wp_ine, wp_ilt, wp_ige, wp_igt, wp_ile, wp_ceq, wp_cne, wp_clt, wp_cge, wp_cgt, wp_cle, wp_sw, wp_ret0, wp_ret1z, wp_ret1o, wp_ret1, wp_ret2, wp_ret3, wp_ret4, wp_ret5, wp_return, wp_min, wp_max, wp_abs, am_ex, gset_eq, gset_ne, upd_eq, upd_ne, gset_gset, am_ci_1, am_ci_6, am_toList_some, am_toList_none, true_implies, false_implies, and_self, and_true, true_and, not_true_eq_false, not_false_eq_true, imp_self, implies_true, Classical.not_not, if_true, if_false, false_and, and_false, or_false, false_or, true_or, or_true, Nat.reduceAdd, Nat.reduceMul, Nat.reduceSub, Nat.reduceLT, Nat.reduceLeDiff, Nat.reduceEqDiff, Nat.reduceBneDiff, Nat.add_zero, Nat.zero_add, reduceCtorEq, wil0, wal0, wis0, wic0, wil1, wal1, wis1, wic1, wil2, wll2, wal2, wis2, was2, wls2, wic2, wil3, wis3, wic3, wic3m, wic3s, wil4, wis4, wic4, wil5, wis5, wic5, wic5m, wil6, wll6, wal6, wis6, was6, wls6, wic6, wil7, wal7, wis7, was7, wic7, wil8, wis8, wic8, wil9, wis9, wic9, wil10, wis10, wic10, am_nI_inj, am_nI_lt, am_nI_le, nI_add, pk_mul, am_nI_sub, am_add_m1, am_gfs, am_pfs, am_alds, am_asts, am_lens, tgf0, tgf1, tgf2, tgf3, tgf4, tgf5, tgf6, tgf7, tgf8, tgf9, tgf10, tgf11, tgf12, tpf7, tpf8, tpf9, tal0, tas0, tln0, tal1, tas1, tln1, tal2, tas2, tln2, tal3, tas3, tln3, tal4, tas4, tln4, tal5, tas5, tln5, tal6, tas6, tln6, tal7, tas7, tln7, tal8, tas8, tln8, tal9, tas9, tln9, bk115_59, bk115_64, bk115_85, am_B115_29, am_B115_59, am_B115_64, am_B115_85, bn115_29, C_J6_bitCount, b1, b2, q4, g0, hpw, q1, e3, e2, hC, q3, Nat.not_lt_zero]
            exact ihk _
        · have q4 : (popN b ≤ popN m) = True := eq_true (by omega)
          rw [if_neg (fun z => hpp (of_decide_eq_true z.1))] at hst
          have ihk := ihf (by rw [hst, ht])
          rw [ht, e3] at ihk
          generalize 2 ^ S.1.1 = pw at *
          simp (config := { maxSteps := 1000000 }) (disch := first | exact am_nl_i | exact am_nl_r | exact am_nl_n | exact am_l0 | exact am_l1 | exact am_l2 | exact am_l3 | assumption | omega) only [wp_ldc, wp_sipush, wp_ldc_w, wp_lconst, wp_iadd, wp_isub, wp_imul, wp_iand, wp_ior, wp_ixor, wp_ishl, wp_ishr, wp_iushr, wp_idiv, wp_irem, wp_ineg, wp_i2b, wp_i2s, wp_i2c, wp_i2l, wp_ladd, wp_lmul, wp_lcmp, wp_dup_i, wp_dup_r, wp_dup2, wp_pop, wp_getfield, wp_putfield, wp_getstatic, wp_iaload, wp_baload, wp_aaload, wp_iastore, wp_arraylength, wp_goto, wp_fall, wp_ieq, wp_ine, wp_ilt, wp_ige, wp_igt, wp_ile, wp_ceq, wp_cne, wp_clt, wp_cge, wp_cgt, wp_cle, wp_sw, wp_ret0, wp_ret1z, wp_ret1o, wp_ret1, wp_ret2, wp_ret3, wp_ret4, wp_ret5, wp_return, wp_min, wp_max, wp_abs, am_ex, gset_eq, gset_ne, upd_eq, upd_ne, gset_gset, am_ci_1, am_ci_6, am_toList_some, am_toList_none, true_implies, false_implies, and_self, and_true, true_and, not_true_eq_false, not_false_eq_true, imp_self, implies_true, Classical.not_not, if_true, if_false, false_and, and_false, or_false, false_or, true_or, or_true, Nat.reduceAdd, Nat.reduceMul, Nat.reduceSub, Nat.reduceLT, Nat.reduceLeDiff, Nat.reduceEqDiff, Nat.reduceBneDiff, Nat.add_zero, Nat.zero_add, reduceCtorEq, wil0, wal0, wis0, wic0, wil1, wal1, wis1, wic1, wil2, wll2, wal2, wis2, was2, wls2, wic2, wil3, wis3, wic3, wic3m, wic3s, wil4, wis4, wic4, wil5, wis5, wic5, wic5m, wil6, wll6, wal6, wis6, was6, wls6, wic6, wil7, wal7, wis7, was7, wic7, wil8, wis8, wic8, wil9, wis9, wic9, wil10, wis10, wic10, am_nI_inj, am_nI_lt, am_nI_le, nI_add, pk_mul, am_nI_sub, am_add_m1, am_gfs, am_pfs, am_alds, am_asts, am_lens, tgf0, tgf1, tgf2, tgf3, tgf4, tgf5, tgf6, tgf7, tgf8, tgf9, tgf10, tgf11, tgf12, tpf7, tpf8, tpf9, tal0, tas0, tln0, tal1, tas1, tln1, tal2, tas2, tln2, tal3, tas3, tln3, tal4, tas4, tln4, tal5, tas5, tln5, tal6, tas6, tln6, tal7, tas7, tln7, tal8, tas8, tln8, tal9, tas9, tln9, bk115_63, bk115_64, bk115_85, am_B115_29, am_B115_63, am_B115_64, am_B115_85, bn115_29, C_J6_bitCount, b1, b2, q4, g0, hpw, q1, e3, Nat.not_lt_zero]
          exact ihk _
  have key := key (2 ^ S.1.1) 0 (Nat.zero_add _) G none h (fun _ _ => rfl)
  have e3 : eO (telN S p x 0) = nM := rfl
  rw [e3] at key
  simp (config := { maxSteps := 1000000 }) (disch := first | exact am_nl_i | exact am_nl_r | exact am_nl_n | exact am_l0 | exact am_l1 | exact am_l2 | exact am_l3 | assumption | omega) only [wp_ldc, wp_sipush, wp_ldc_w, wp_lconst, wp_iadd, wp_isub, wp_imul, wp_iand, wp_ior, wp_ixor, wp_ishl, wp_ishr, wp_iushr, wp_idiv, wp_irem, wp_ineg, wp_i2b, wp_i2s, wp_i2c, wp_i2l, wp_ladd, wp_lmul, wp_lcmp, wp_dup_i, wp_dup_r, wp_dup2, wp_pop, wp_getfield, wp_putfield, wp_getstatic, wp_iaload, wp_baload, wp_aaload, wp_iastore, wp_arraylength, wp_goto, wp_fall, wp_ieq, wp_ine, wp_ilt, wp_ige, wp_igt, wp_ile, wp_ceq, wp_cne, wp_clt, wp_cge, wp_cgt, wp_cle, wp_sw, wp_ret0, wp_ret1z, wp_ret1o, wp_ret1, wp_ret2, wp_ret3, wp_ret4, wp_ret5, wp_return, wp_min, wp_max, wp_abs, am_ex, gset_eq, gset_ne, upd_eq, upd_ne, gset_gset, am_ci_1, am_ci_6, am_toList_some, am_toList_none, true_implies, false_implies, and_self, and_true, true_and, not_true_eq_false, not_false_eq_true, imp_self, implies_true, Classical.not_not, if_true, if_false, false_and, and_false, or_false, false_or, true_or, or_true, Nat.reduceAdd, Nat.reduceMul, Nat.reduceSub, Nat.reduceLT, Nat.reduceLeDiff, Nat.reduceEqDiff, Nat.reduceBneDiff, Nat.add_zero, Nat.zero_add, reduceCtorEq, wil0, wal0, wis0, wic0, wil1, wal1, wis1, wic1, wil2, wll2, wal2, wis2, was2, wls2, wic2, wil3, wis3, wic3, wic3m, wic3s, wil4, wis4, wic4, wil5, wis5, wic5, wic5m, wil6, wll6, wal6, wis6, was6, wls6, wic6, wil7, wal7, wis7, was7, wic7, wil8, wis8, wic8, wil9, wis9, wic9, wil10, wis10, wic10, am_nI_inj, am_nI_lt, am_nI_le, nI_add, pk_mul, am_nI_sub, am_add_m1, am_gfs, am_pfs, am_alds, am_asts, am_lens, tgf0, tgf1, tgf2, tgf3, tgf4, tgf5, tgf6, tgf7, tgf8, tgf9, tgf10, tgf11, tgf12, tpf7, tpf8, tpf9, tal0, tas0, tln0, tal1, tas1, tln1, tal2, tas2, tln2, tal3, tas3, tln3, tal4, tas4, tln4, tal5, tas5, tln5, tal6, tas6, tln6, tal7, tas7, tln7, tal8, tas8, tln8, tal9, tas9, tln9, bk115_0, bk115_24, am_B115_0, am_B115_24, bn115_29, C_X4_isPlace, C_X4_isWithin, h1', h2', bI_t, e2, fcs]
  exact key
