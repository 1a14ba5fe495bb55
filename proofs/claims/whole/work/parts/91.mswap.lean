/-! ===== the model's calls: swapFor, spots, images ===== -/
def swM (g : Nat → Nat → Nat) (n : Nat) : Nat → Int32 × Nat
  | 0 => (nM, 0)
  | a + 1 => swI g a (swM g n a) (n - (a + 1))
theorem swI_s (g : Nat → Nat → Nat) (a : Nat) (s0 : Int32 × Nat) (e : Nat) : swI g a s0 (e + 1) = if (swI g a s0 e).2 ≤ g a (a + 1 + e) then (nI (8 * a + (a + 1 + e)), g a (a + 1 + e) + 1) else swI g a s0 e := rfl
theorem swI_rel {g : Nat → Nat → Nat} {a : Nat} {s s' : Int32 × Nat} (h1 : s.2 = s'.2) (h2 : ¬ s.2 = 0 → s.1 = s'.1) : ∀ e, (swI g a s e).2 = (swI g a s' e).2 ∧ (¬ (swI g a s e).2 = 0 → (swI g a s e).1 = (swI g a s' e).1)
  | 0 => ⟨h1, h2⟩
  | e + 1 => by
    obtain ⟨i1, i2⟩ := swI_rel (g := g) (a := a) h1 h2 e
    rw [swI_s, swI_s, ← i1]
    by_cases hc : (swI g a s e).2 ≤ g a (a + 1 + e)
    · rw [if_pos hc, if_pos hc]; exact ⟨rfl, fun _ => rfl⟩
    · rw [if_neg hc, if_neg hc]; exact ⟨i1, i2⟩
theorem swM_rel {g : Nat → Nat → Nat} {n : Nat} : ∀ a, (swM g n a).2 = (swO g n a).2 ∧ (¬ (swM g n a).2 = 0 → (swM g n a).1 = (swO g n a).1)
  | 0 => ⟨rfl, fun h => absurd rfl h⟩
  | a + 1 => swI_rel (swM_rel a).1 (swM_rel a).2 _
def swOk (s : Int32 × Nat) : Prop := (s.2 = 0 ∧ s.1 = nM) ∨ (1 ≤ s.2 ∧ ∃ x, x < 100 ∧ s.1 = nI x)
theorem swI_ok {g : Nat → Nat → Nat} {a : Nat} {s : Int32 × Nat} (h : swOk s) (ha : a < 8) : ∀ e, a + 1 + e ≤ 8 → swOk (swI g a s e)
  | 0, _ => h
  | e + 1, he => by
    rw [swI_s]
    split
    · exact Or.inr ⟨by show 1 ≤ g a (a + 1 + e) + 1; omega, 8 * a + (a + 1 + e), by omega, rfl⟩
    · exact swI_ok h ha e (by omega)
theorem swM_ok {g : Nat → Nat → Nat} {n : Nat} (hn : n ≤ 8) : ∀ a, a ≤ n → swOk (swM g n a)
  | 0, _ => Or.inl ⟨rfl, rfl⟩
  | a + 1, h => swI_ok (swM_ok hn a (by omega)) (by omega) _ (by omega)
theorem swI_le1 {g : Nat → Nat → Nat} {a : Nat} {s : Int32 × Nat} (h : 1 ≤ s.2) : ∀ e, 1 ≤ (swI g a s e).2
  | 0 => h
  | e + 1 => by
    rw [swI_s]
    split
    · show 1 ≤ g a (a + 1 + e) + 1; omega
    · exact swI_le1 h e
theorem swI_p1 {g : Nat → Nat → Nat} {a : Nat} {s : Int32 × Nat} (e : Nat) : 1 ≤ (swI g a s (e + 1)).2 := by
  rw [swI_s]
  by_cases hc : (swI g a s e).2 ≤ g a (a + 1 + e)
  · rw [if_pos hc]; show 1 ≤ g a (a + 1 + e) + 1; omega
  · rw [if_neg hc]; omega
theorem swM_pos {g : Nat → Nat → Nat} {n : Nat} (hn : 2 ≤ n) : ∀ a, 1 ≤ (swM g n (a + 1)).2
  | 0 => by
    show 1 ≤ (swI g 0 (swM g n 0) (n - (0 + 1))).2
    rw [show n - (0 + 1) = (n - 2) + 1 by omega]
    exact swI_p1 _
  | a + 1 => swI_le1 (swM_pos hn a) _
theorem MT_swapFor {X : AmX} {S : SS} {G : GG} (h : MSt S G) (hv : SV S) (a1 : Int32) : MW X 125 [.ref 58, .int a1] G (sp_swapFor S a1) := by
  have hE := h.1
  have f0 := hE.2.1
  have hv8 := hv.1.1.1
  have hm := MS_MR h hv
  unfold MW sp_swapFor
  have e2 : (nI 1 = nI 0) = False := eq_false (by decide)
  show WP X 125 (am_blk 125 0) [some (.ref 58), some (.int a1), none, none, none, none, none] [] G _
  by_cases h1 : inR a1 (nI 0) (nI 40) = true
  rotate_left
  · rw [if_neg (fun z => h1 z)]
    rw [Bool.not_eq_true] at h1
    simp (config := { maxSteps := 1000000 }) (disch := first | exact am_nl_i | exact am_nl_r | exact am_nl_n | exact am_l0 | exact am_l1 | exact am_l2 | exact am_l3 | assumption | omega) only [wp_ldc, wp_sipush, wp_ldc_w, wp_lconst, wp_iadd, wp_isub, wp_imul, wp_iand, wp_ior, wp_ixor, wp_ishl, wp_ishr, wp_iushr, wp_idiv, wp_irem, wp_ineg, wp_i2b, wp_i2s, wp_i2c, wp_i2l, wp_ladd, wp_lmul, wp_lcmp, wp_dup_i, wp_dup_r, wp_dup2, wp_pop, wp_getfield, wp_putfield, wp_getstatic, wp_iaload, wp_baload, wp_aaload, wp_iastore, wp_arraylength, wp_goto, wp_fall, wp_ieq, wp_ine, wp_ilt, wp_ige, wp_igt, wp_ile, wp_ceq, wp_cne, wp_clt, wp_cge, wp_cgt, wp_cle, wp_sw, wp_ret0, wp_ret1z, wp_ret1o, wp_ret1, wp_ret2, wp_ret3, wp_ret4, wp_ret5, wp_return, wp_min, wp_max, wp_abs, am_ex, gset_eq, gset_ne, upd_eq, upd_ne, gset_gset, am_ci_1, am_ci_6, am_toList_some, am_toList_none, true_implies, false_implies, and_self, and_true, true_and, not_true_eq_false, not_false_eq_true, imp_self, implies_true, Classical.not_not, if_true, if_false, false_and, and_false, or_false, false_or, true_or, or_true, Nat.reduceAdd, Nat.reduceMul, Nat.reduceSub, Nat.reduceLT, Nat.reduceLeDiff, Nat.reduceEqDiff, Nat.reduceBneDiff, Nat.add_zero, Nat.zero_add, reduceCtorEq, wil0, wal0, wis0, wic0, wil1, wal1, wis1, wic1, wil2, wll2, wal2, wis2, was2, wls2, wic2, wil3, wis3, wic3, wic3m, wic3s, wil4, wis4, wic4, wil5, wis5, wic5, wic5m, wil6, wll6, wal6, wis6, was6, wls6, wic6, wil7, wal7, wis7, was7, wic7, wil8, wis8, wic8, wil9, wis9, wic9, wil10, wis10, wic10, am_nI_inj, am_nI_lt, am_nI_le, nI_add, pk_mul, am_nI_sub, am_add_m1, am_gfs, am_pfs, am_alds, am_asts, am_lens, bs125, am_B125_0, am_B125_17, am_B125_24, am_B125_41, am_B125_80, am_B125_81, am_B125_95, am_B125_101, C_X5_isPerson, C_X5_isPlace, C_X5_within, C_X5_isKind, C_X5_isSpot, C_X5_isSheet, C_X5_isPrize, C_X5_isAhead, h1, bI_t, bI_f, e2, f0, fcs, C_X5_finding]
    first | exact ⟨rfl, MSt_fnd h (by omega), mfnd_frame⟩ | exact ⟨MSt_fnd h (by omega), mfnd_frame⟩
  rw [if_pos h1]
  obtain ⟨x, hx, rfl, h1'⟩ := rng_of (by omega) h1
  rw [aN_nI (show x < 2 ^ 31 by omega)]
  have hgle : ∀ a b, swpG S x a b ≤ 800000 := fun a b => Nat.min_le_left _ _
  generalize hg : swpG S x = g at hgle
  have hMle : ∀ a, (swM g S.1.1 a).2 ≤ 800000 + 1 := fun a => by rw [(swM_rel a).1]; exact swO_le hgle a
  have hIle : ∀ a e, (swI g a (swM g S.1.1 a) e).2 ≤ 800000 + 1 := fun a e => swI_le hgle (hMle a) e
  have hfin : (∃ y, y < 100 ∧ (swM g S.1.1 S.1.1).1 = nI y ∧ (if S.1.1 < 2 then sFnd S 3 else ((swO g S.1.1 S.1.1).1, S)) = (nI y, S)) ∨ ((swM g S.1.1 S.1.1).1 = nM ∧ (if S.1.1 < 2 then sFnd S 3 else ((swO g S.1.1 S.1.1).1, S)) = sFnd S 3) := by
    by_cases hn : S.1.1 < 2
    · right
      rw [if_pos hn]
      refine ⟨?_, rfl⟩
      rcases (by omega : S.1.1 = 0 ∨ S.1.1 = 1) with e | e
      · rw [e]; rfl
      · rw [e]; rfl
    · left
      have hp := swM_pos (g := g) (n := S.1.1) (by omega) (S.1.1 - 1)
      rw [show S.1.1 - 1 + 1 = S.1.1 by omega] at hp
      rcases swM_ok (g := g) hv8 S.1.1 (Nat.le_refl _) with hz | ⟨_, y, hy, e⟩
      · omega
      · refine ⟨y, hy, e, ?_⟩
        rw [if_neg hn, ← e, (swM_rel (g := g) S.1.1).2 (by omega)]
  generalize hR : (if S.1.1 < 2 then sFnd S 3 else ((swO g S.1.1 S.1.1).1, S)) = R at hfin ⊢
  generalize hQ : (fun (w : Option Value) (G1 : GG) => w = some (.int R.1) ∧ MSt R.2 G1 ∧ ∀ o, o < 58 → G1 o = G o) = Q
  have key2 : ∀ (a : Nat), a < S.1.1 → (∀ (G' : GG) (v5 v6 : Option Value), MSt S G' → (∀ o, o < 58 → G' o = G o) → WP X 125 (am_blk 125 24) [some (.ref 58), some (.int (nI x)), some (.int (swM g S.1.1 (a + 1)).1), some (.int (mI (swM g S.1.1 (a + 1)).2)), some (.int (nI (a + 1))), v5, v6] [] G' Q) → ∀ d e : Nat, a + 1 + e + d = S.1.1 → ∀ (G' : GG) (v6 : Option Value), MSt S G' → (∀ o, o < 58 → G' o = G o) → WP X 125 (am_blk 125 41) [some (.ref 58), some (.int (nI x)), some (.int (swI g a (swM g S.1.1 a) e).1), some (.int (mI (swI g a (swM g S.1.1 a) e).2)), some (.int (nI a)), some (.int (nI (a + 1 + e))), v6] [] G' Q := by
    intro a ha hnext d
    induction d with
    | zero =>
      intro e he G' v6 hc hf
      have g0 := hc.1.2.1
      have e1 : e = S.1.1 - (a + 1) := by omega
      have es : swM g S.1.1 (a + 1) = swI g a (swM g S.1.1 a) e := by rw [e1]; rfl
      have q1 : (S.1.1 ≤ a + 1 + e) = True := eq_true (by omega)
      have hnx := fun v5 v6 => hnext G' v5 v6 hc hf
      rw [es] at hnx
      rw [bh125_41]
      simp (config := { maxSteps := 1000000 }) (disch := first | exact am_nl_i | exact am_nl_r | exact am_nl_n | exact am_l0 | exact am_l1 | exact am_l2 | exact am_l3 | assumption | omega) only [wp_ldc, wp_sipush, wp_ldc_w, wp_lconst, wp_iadd, wp_isub, wp_imul, wp_iand, wp_ior, wp_ixor, wp_ishl, wp_ishr, wp_iushr, wp_idiv, wp_irem, wp_ineg, wp_i2b, wp_i2s, wp_i2c, wp_i2l, wp_ladd, wp_lmul, wp_lcmp, wp_dup_i, wp_dup_r, wp_dup2, wp_pop, wp_getfield, wp_putfield, wp_getstatic, wp_iaload, wp_baload, wp_aaload, wp_iastore, wp_arraylength, wp_goto, wp_fall, wp_ieq, wp_ine, wp_ilt, wp_ige, wp_igt, wp_ile, wp_ceq, wp_cne, wp_clt, wp_cge, wp_cgt, wp_cle, wp_sw, wp_ret0, wp_ret1z, wp_ret1o, wp_ret1, wp_ret2, wp_ret3, wp_ret4, wp_ret5, wp_return, wp_min, wp_max, wp_abs, am_ex, gset_eq, gset_ne, upd_eq, upd_ne, gset_gset, am_ci_1, am_ci_6, am_toList_some, am_toList_none, true_implies, false_implies, and_self, and_true, true_and, not_true_eq_false, not_false_eq_true, imp_self, implies_true, Classical.not_not, if_true, if_false, false_and, and_false, or_false, false_or, true_or, or_true, Nat.reduceAdd, Nat.reduceMul, Nat.reduceSub, Nat.reduceLT, Nat.reduceLeDiff, Nat.reduceEqDiff, Nat.reduceBneDiff, Nat.add_zero, Nat.zero_add, reduceCtorEq, wil0, wal0, wis0, wic0, wil1, wal1, wis1, wic1, wil2, wll2, wal2, wis2, was2, wls2, wic2, wil3, wis3, wic3, wic3m, wic3s, wil4, wis4, wic4, wil5, wis5, wic5, wic5m, wil6, wll6, wal6, wis6, was6, wls6, wic6, wil7, wal7, wis7, was7, wic7, wil8, wis8, wic8, wil9, wis9, wic9, wil10, wis10, wic10, am_nI_inj, am_nI_lt, am_nI_le, nI_add, pk_mul, am_nI_sub, am_add_m1, am_gfs, am_pfs, am_alds, am_asts, am_lens, bk125_95, am_B125_41, am_B125_95, bn125_24, g0, q1]
      exact hnx _ _
    | succ d ih =>
      intro e he G' v6 hc hf
      have g0 := hc.1.2.1
      have hb : a + 1 + e < S.1.1 := by omega
      have q1 : (S.1.1 ≤ a + 1 + e) = False := eq_false (by omega)
      obtain ⟨G1, hev, hc1, hf1⟩ := CM_swap (X := X) hc hv a (a + 1 + e) x ha hb hx
      rw [hg] at hev
      have hD := fun (k : Nat) (r : List Instr) (lv : LV) (st : List Value) (Q : Option Value → GG → Prop) (hl : st.length ≤ 4) => WP_ev (k := k) (st := .int (nI x) :: .int (nI (a + 1 + e)) :: .int (nI a) :: .ref 58 :: st) (rest := st) (r := r) (lv := lv) (Q := Q) hev (by decide) (c := 4) rfl rfl hl rfl
      have hle := hIle a e
      have hss := swI_s g a (swM g S.1.1 a) e
      have l5 := hgle a (a + 1 + e)
      have ihk := fun v6 => ih (e + 1) (by omega) G1 v6 hc1 (fun o ho => (hf1 o ho).trans (hf o ho))
      have eb : a + 1 + (e + 1) = a + 1 + e + 1 := by omega
      rw [eb] at ihk
      have q5 := mI_le (m := (swI g a (swM g S.1.1 a) e).2) (g := g a (a + 1 + e)) (by omega) (by omega)
      have q6 := mI_ltg (m := (swI g a (swM g S.1.1 a) e).2) (g := g a (a + 1 + e)) (by omega) (by omega)
      rw [bh125_41]
      by_cases hbt : (swI g a (swM g S.1.1 a) e).2 ≤ g a (a + 1 + e)
      · rw [if_pos hbt] at hss
        rw [hss] at ihk
        have e5 : mI (g a (a + 1 + e) + 1) = nI (g a (a + 1 + e)) := mI_s _
        simp only [e5] at ihk
        rw [eq_false (by omega : ¬ g a (a + 1 + e) + 1 ≤ (swI g a (swM g S.1.1 a) e).2)] at q5
        rw [eq_true hbt] at q6
        generalize a + 1 + e = b at *
        simp (config := { maxSteps := 1000000 }) (disch := first | exact am_nl_i | exact am_nl_r | exact am_nl_n | exact am_l0 | exact am_l1 | exact am_l2 | exact am_l3 | assumption | omega) only [wp_ldc, wp_sipush, wp_ldc_w, wp_lconst, wp_iadd, wp_isub, wp_imul, wp_iand, wp_ior, wp_ixor, wp_ishl, wp_ishr, wp_iushr, wp_idiv, wp_irem, wp_ineg, wp_i2b, wp_i2s, wp_i2c, wp_i2l, wp_ladd, wp_lmul, wp_lcmp, wp_dup_i, wp_dup_r, wp_dup2, wp_pop, wp_getfield, wp_putfield, wp_getstatic, wp_iaload, wp_baload, wp_aaload, wp_iastore, wp_arraylength, wp_goto, wp_fall, wp_ieq, wp_ine, wp_ilt, wp_ige, wp_igt, wp_ile, wp_ceq, wp_cne, wp_clt, wp_cge, wp_cgt, wp_cle, wp_sw, wp_ret0, wp_ret1z, wp_ret1o, wp_ret1, wp_ret2, wp_ret3, wp_ret4, wp_ret5, wp_return, wp_min, wp_max, wp_abs, am_ex, gset_eq, gset_ne, upd_eq, upd_ne, gset_gset, am_ci_1, am_ci_6, am_toList_some, am_toList_none, true_implies, false_implies, and_self, and_true, true_and, not_true_eq_false, not_false_eq_true, imp_self, implies_true, Classical.not_not, if_true, if_false, false_and, and_false, or_false, false_or, true_or, or_true, Nat.reduceAdd, Nat.reduceMul, Nat.reduceSub, Nat.reduceLT, Nat.reduceLeDiff, Nat.reduceEqDiff, Nat.reduceBneDiff, Nat.add_zero, Nat.zero_add, reduceCtorEq, wil0, wal0, wis0, wic0, wil1, wal1, wis1, wic1, wil2, wll2, wal2, wis2, was2, wls2, wic2, wil3, wis3, wic3, wic3m, wic3s, wil4, wis4, wic4, wil5, wis5, wic5, wic5m, wil6, wll6, wal6, wis6, was6, wls6, wic6, wil7, wal7, wis7, was7, wic7, wil8, wis8, wic8, wil9, wis9, wic9, wil10, wis10, wic10, am_nI_inj, am_nI_lt, am_nI_le, nI_add, pk_mul, am_nI_sub, am_add_m1, am_gfs, am_pfs, am_alds, am_asts, am_lens, bk125_80, bk125_81, am_B125_41, am_B125_80, am_B125_81, bn125_41, g0, q1, q5, q6, hD]
        exact ihk _
      · rw [if_neg hbt] at hss
        rw [hss] at ihk
        rw [eq_true (by omega : g a (a + 1 + e) + 1 ≤ (swI g a (swM g S.1.1 a) e).2)] at q5
        rw [eq_false hbt] at q6
        generalize a + 1 + e = b at *
        simp (config := { maxSteps := 1000000 }) (disch := first | exact am_nl_i | exact am_nl_r | exact am_nl_n | exact am_l0 | exact am_l1 | exact am_l2 | exact am_l3 | assumption | omega) only [wp_ldc, wp_sipush, wp_ldc_w, wp_lconst, wp_iadd, wp_isub, wp_imul, wp_iand, wp_ior, wp_ixor, wp_ishl, wp_ishr, wp_iushr, wp_idiv, wp_irem, wp_ineg, wp_i2b, wp_i2s, wp_i2c, wp_i2l, wp_ladd, wp_lmul, wp_lcmp, wp_dup_i, wp_dup_r, wp_dup2, wp_pop, wp_getfield, wp_putfield, wp_getstatic, wp_iaload, wp_baload, wp_aaload, wp_iastore, wp_arraylength, wp_goto, wp_fall, wp_ieq, wp_ine, wp_ilt, wp_ige, wp_igt, wp_ile, wp_ceq, wp_cne, wp_clt, wp_cge, wp_cgt, wp_cle, wp_sw, wp_ret0, wp_ret1z, wp_ret1o, wp_ret1, wp_ret2, wp_ret3, wp_ret4, wp_ret5, wp_return, wp_min, wp_max, wp_abs, am_ex, gset_eq, gset_ne, upd_eq, upd_ne, gset_gset, am_ci_1, am_ci_6, am_toList_some, am_toList_none, true_implies, false_implies, and_self, and_true, true_and, not_true_eq_false, not_false_eq_true, imp_self, implies_true, Classical.not_not, if_true, if_false, false_and, and_false, or_false, false_or, true_or, or_true, Nat.reduceAdd, Nat.reduceMul, Nat.reduceSub, Nat.reduceLT, Nat.reduceLeDiff, Nat.reduceEqDiff, Nat.reduceBneDiff, Nat.add_zero, Nat.zero_add, reduceCtorEq, wil0, wal0, wis0, wic0, wil1, wal1, wis1, wic1, wil2, wll2, wal2, wis2, was2, wls2, wic2, wil3, wis3, wic3, wic3m, wic3s, wil4, wis4, wic4, wil5, wis5, wic5, wic5m, wil6, wll6, wal6, wis6, was6, wls6, wic6, wil7, wal7, wis7, was7, wic7, wil8, wis8, wic8, wil9, wis9, wic9, wil10, wis10, wic10, am_nI_inj, am_nI_lt, am_nI_le, nI_add, pk_mul, am_nI_sub, am_add_m1, am_gfs, am_pfs, am_alds, am_asts, am_lens, bk125_80, bk125_81, am_B125_41, am_B125_80, am_B125_81, bn125_41, g0, q1, q5, q6, hD]
        exact ihk _
  have key1 : ∀ d a : Nat, a + d = S.1.1 → ∀ (G' : GG) (v5 v6 : Option Value), MSt S G' → (∀ o, o < 58 → G' o = G o) → WP X 125 (am_blk 125 24) [some (.ref 58), some (.int (nI x)), some (.int (swM g S.1.1 a).1), some (.int (mI (swM g S.1.1 a).2)), some (.int (nI a)), v5, v6] [] G' Q := by
    intro d
    induction d with
    | zero =>
      intro a ha G' v5 v6 hc hf
      have ha' : a = S.1.1 := by omega
      have g0 := hc.1.2.1
      rw [ha', bh125_24, ← hQ]
      rcases hfin with ⟨y, hy, e1, e3⟩ | ⟨e1, e3⟩
      · rw [e1, e3]
        simp (config := { maxSteps := 1000000 }) (disch := first | exact am_nl_i | exact am_nl_r | exact am_nl_n | exact am_l0 | exact am_l1 | exact am_l2 | exact am_l3 | assumption | omega) only [wp_ldc, wp_sipush, wp_ldc_w, wp_lconst, wp_iadd, wp_isub, wp_imul, wp_iand, wp_ior, wp_ixor, wp_ishl, wp_ishr, wp_iushr, wp_idiv, wp_irem, wp_ineg, wp_i2b, wp_i2s, wp_i2c, wp_i2l, wp_ladd, wp_lmul, wp_lcmp, wp_dup_i, wp_dup_r, wp_dup2, wp_pop, wp_getfield, wp_putfield, wp_getstatic, wp_iaload, wp_baload, wp_aaload, wp_iastore, wp_arraylength, wp_goto, wp_fall, wp_ieq, wp_ine, wp_ilt, wp_ige, wp_igt, wp_ile, wp_ceq, wp_cne, wp_clt, wp_cge, wp_cgt, wp_cle, wp_sw, wp_ret0, wp_ret1z, wp_ret1o, wp_ret1, wp_ret2, wp_ret3, wp_ret4, wp_ret5, wp_return, wp_min, wp_max, wp_abs, am_ex, gset_eq, gset_ne, upd_eq, upd_ne, gset_gset, am_ci_1, am_ci_6, am_toList_some, am_toList_none, true_implies, false_implies, and_self, and_true, true_and, not_true_eq_false, not_false_eq_true, imp_self, implies_true, Classical.not_not, if_true, if_false, false_and, and_false, or_false, false_or, true_or, or_true, Nat.reduceAdd, Nat.reduceMul, Nat.reduceSub, Nat.reduceLT, Nat.reduceLeDiff, Nat.reduceEqDiff, Nat.reduceBneDiff, Nat.add_zero, Nat.zero_add, reduceCtorEq, wil0, wal0, wis0, wic0, wil1, wal1, wis1, wic1, wil2, wll2, wal2, wis2, was2, wls2, wic2, wil3, wis3, wic3, wic3m, wic3s, wil4, wis4, wic4, wil5, wis5, wic5, wic5m, wil6, wll6, wal6, wis6, was6, wls6, wic6, wil7, wal7, wis7, was7, wic7, wil8, wis8, wic8, wil9, wis9, wic9, wil10, wis10, wic10, am_nI_inj, am_nI_lt, am_nI_le, nI_add, pk_mul, am_nI_sub, am_add_m1, am_gfs, am_pfs, am_alds, am_asts, am_lens, bk125_101, am_B125_24, am_B125_101, g0, Nat.le_refl, C_X5_orNone]
        first | exact ⟨rfl, hc, hf⟩ | exact ⟨hc, hf⟩
      · rw [e1, e3]
        simp (config := { maxSteps := 1000000 }) (disch := first | exact am_nl_i | exact am_nl_r | exact am_nl_n | exact am_l0 | exact am_l1 | exact am_l2 | exact am_l3 | assumption | omega) only [wp_ldc, wp_sipush, wp_ldc_w, wp_lconst, wp_iadd, wp_isub, wp_imul, wp_iand, wp_ior, wp_ixor, wp_ishl, wp_ishr, wp_iushr, wp_idiv, wp_irem, wp_ineg, wp_i2b, wp_i2s, wp_i2c, wp_i2l, wp_ladd, wp_lmul, wp_lcmp, wp_dup_i, wp_dup_r, wp_dup2, wp_pop, wp_getfield, wp_putfield, wp_getstatic, wp_iaload, wp_baload, wp_aaload, wp_iastore, wp_arraylength, wp_goto, wp_fall, wp_ieq, wp_ine, wp_ilt, wp_ige, wp_igt, wp_ile, wp_ceq, wp_cne, wp_clt, wp_cge, wp_cgt, wp_cle, wp_sw, wp_ret0, wp_ret1z, wp_ret1o, wp_ret1, wp_ret2, wp_ret3, wp_ret4, wp_ret5, wp_return, wp_min, wp_max, wp_abs, am_ex, gset_eq, gset_ne, upd_eq, upd_ne, gset_gset, am_ci_1, am_ci_6, am_toList_some, am_toList_none, true_implies, false_implies, and_self, and_true, true_and, not_true_eq_false, not_false_eq_true, imp_self, implies_true, Classical.not_not, if_true, if_false, false_and, and_false, or_false, false_or, true_or, or_true, Nat.reduceAdd, Nat.reduceMul, Nat.reduceSub, Nat.reduceLT, Nat.reduceLeDiff, Nat.reduceEqDiff, Nat.reduceBneDiff, Nat.add_zero, Nat.zero_add, reduceCtorEq, wil0, wal0, wis0, wic0, wil1, wal1, wis1, wic1, wil2, wll2, wal2, wis2, was2, wls2, wic2, wil3, wis3, wic3, wic3m, wic3s, wil4, wis4, wic4, wil5, wis5, wic5, wic5m, wil6, wll6, wal6, wis6, was6, wls6, wic6, wil7, wal7, wis7, was7, wic7, wil8, wis8, wic8, wil9, wis9, wic9, wil10, wis10, wic10, am_nI_inj, am_nI_lt, am_nI_le, nI_add, pk_mul, am_nI_sub, am_add_m1, am_gfs, am_pfs, am_alds, am_asts, am_lens, bk125_101, am_B125_24, am_B125_101, g0, Nat.le_refl, C_orNoneM]
        first
          | exact ⟨rfl, MSt_fnd hc (f := 3) (by omega), fun o ho => (mfnd_frame o ho).trans (hf o ho)⟩
          | exact ⟨MSt_fnd hc (f := 3) (by omega), fun o ho => (mfnd_frame o ho).trans (hf o ho)⟩
    | succ d ih =>
      intro a ha G' v5 v6 hc hf
      have g0 := hc.1.2.1
      have han : a < S.1.1 := by omega
      have q1 : (S.1.1 ≤ a) = False := eq_false (by omega)
      have k2 := key2 a han (fun G' v5 v6 hc hf => ih (a + 1) (by omega) G' v5 v6 hc hf) (S.1.1 - (a + 1)) 0 (by omega) G' v6 hc hf
      rw [bh125_24]
      simp (config := { maxSteps := 1000000 }) (disch := first | exact am_nl_i | exact am_nl_r | exact am_nl_n | exact am_l0 | exact am_l1 | exact am_l2 | exact am_l3 | assumption | omega) only [wp_ldc, wp_sipush, wp_ldc_w, wp_lconst, wp_iadd, wp_isub, wp_imul, wp_iand, wp_ior, wp_ixor, wp_ishl, wp_ishr, wp_iushr, wp_idiv, wp_irem, wp_ineg, wp_i2b, wp_i2s, wp_i2c, wp_i2l, wp_ladd, wp_lmul, wp_lcmp, wp_dup_i, wp_dup_r, wp_dup2, wp_pop, wp_getfield, wp_putfield, wp_getstatic, wp_iaload, wp_baload, wp_aaload, wp_iastore, wp_arraylength, wp_goto, wp_fall, wp_ieq, wp_ine, wp_ilt, wp_ige, wp_igt, wp_ile, wp_ceq, wp_cne, wp_clt, wp_cge, wp_cgt, wp_cle, wp_sw, wp_ret0, wp_ret1z, wp_ret1o, wp_ret1, wp_ret2, wp_ret3, wp_ret4, wp_ret5, wp_return, wp_min, wp_max, wp_abs, am_ex, gset_eq, gset_ne, upd_eq, upd_ne, gset_gset, am_ci_1, am_ci_6, am_toList_some, am_toList_none, true_implies, false_implies, and_self, and_true, true_and, not_true_eq_false, not_false_eq_true, imp_self, implies_true, Classical.not_not, if_true, if_false, false_and, and_false, or_false, false_or, true_or, or_true, Nat.reduceAdd, Nat.reduceMul, Nat.reduceSub, Nat.reduceLT, Nat.reduceLeDiff, Nat.reduceEqDiff, Nat.reduceBneDiff, Nat.add_zero, Nat.zero_add, reduceCtorEq, wil0, wal0, wis0, wic0, wil1, wal1, wis1, wic1, wil2, wll2, wal2, wis2, was2, wls2, wic2, wil3, wis3, wic3, wic3m, wic3s, wil4, wis4, wic4, wil5, wis5, wic5, wic5m, wil6, wll6, wal6, wis6, was6, wls6, wic6, wil7, wal7, wis7, was7, wic7, wil8, wis8, wic8, wil9, wis9, wic9, wil10, wis10, wic10, am_nI_inj, am_nI_lt, am_nI_le, nI_add, pk_mul, am_nI_sub, am_add_m1, am_gfs, am_pfs, am_alds, am_asts, am_lens, am_B125_24, bn125_41, g0, q1]
      exact k2
  have k0 := key1 S.1.1 0 (by omega) G none none h (fun _ _ => rfl)
  have e0 : swM g S.1.1 0 = (nM, 0) := rfl
  have em : mI 0 = nM := rfl
  rw [e0] at k0
  simp only [em] at k0
  simp (config := { maxSteps := 1000000 }) (disch := first | exact am_nl_i | exact am_nl_r | exact am_nl_n | exact am_l0 | exact am_l1 | exact am_l2 | exact am_l3 | assumption | omega) only [wp_ldc, wp_sipush, wp_ldc_w, wp_lconst, wp_iadd, wp_isub, wp_imul, wp_iand, wp_ior, wp_ixor, wp_ishl, wp_ishr, wp_iushr, wp_idiv, wp_irem, wp_ineg, wp_i2b, wp_i2s, wp_i2c, wp_i2l, wp_ladd, wp_lmul, wp_lcmp, wp_dup_i, wp_dup_r, wp_dup2, wp_pop, wp_getfield, wp_putfield, wp_getstatic, wp_iaload, wp_baload, wp_aaload, wp_iastore, wp_arraylength, wp_goto, wp_fall, wp_ieq, wp_ine, wp_ilt, wp_ige, wp_igt, wp_ile, wp_ceq, wp_cne, wp_clt, wp_cge, wp_cgt, wp_cle, wp_sw, wp_ret0, wp_ret1z, wp_ret1o, wp_ret1, wp_ret2, wp_ret3, wp_ret4, wp_ret5, wp_return, wp_min, wp_max, wp_abs, am_ex, gset_eq, gset_ne, upd_eq, upd_ne, gset_gset, am_ci_1, am_ci_6, am_toList_some, am_toList_none, true_implies, false_implies, and_self, and_true, true_and, not_true_eq_false, not_false_eq_true, imp_self, implies_true, Classical.not_not, if_true, if_false, false_and, and_false, or_false, false_or, true_or, or_true, Nat.reduceAdd, Nat.reduceMul, Nat.reduceSub, Nat.reduceLT, Nat.reduceLeDiff, Nat.reduceEqDiff, Nat.reduceBneDiff, Nat.add_zero, Nat.zero_add, reduceCtorEq, wil0, wal0, wis0, wic0, wil1, wal1, wis1, wic1, wil2, wll2, wal2, wis2, was2, wls2, wic2, wil3, wis3, wic3, wic3m, wic3s, wil4, wis4, wic4, wil5, wis5, wic5, wic5m, wil6, wll6, wal6, wis6, was6, wls6, wic6, wil7, wal7, wis7, was7, wic7, wil8, wis8, wic8, wil9, wis9, wic9, wil10, wis10, wic10, am_nI_inj, am_nI_lt, am_nI_le, nI_add, pk_mul, am_nI_sub, am_add_m1, am_gfs, am_pfs, am_alds, am_asts, am_lens, bk125_0, bk125_17, am_B125_0, am_B125_17, bn125_24, C_X5_within, h1', bI_t, e2, fcs]
  exact k0
theorem MT_seed {X : AmX} {S : SS} {G : GG} (h : MSt S G) (hv : SV S) (a1 : Int32) : MW X 147 [.ref 58, .int a1] G (sp_seed S a1) := by
  have hE := h.1
  have f0 := hE.2.1
  have hv8 := hv.1.1.1
  have hm := MS_MR h hv
  unfold MW sp_seed
  have e2 : (nI 1 = nI 0) = False := eq_false (by decide)
  show WP X 147 (am_blk 147 0) [some (.ref 58), some (.int a1)] [] G _
  have c0 := hE.2.2.1
  simp (config := { maxSteps := 1000000 }) (disch := first | exact am_nl_i | exact am_nl_r | exact am_nl_n | exact am_l0 | exact am_l1 | exact am_l2 | exact am_l3 | assumption | omega) only [wp_ldc, wp_sipush, wp_ldc_w, wp_lconst, wp_iadd, wp_isub, wp_imul, wp_iand, wp_ior, wp_ixor, wp_ishl, wp_ishr, wp_iushr, wp_idiv, wp_irem, wp_ineg, wp_i2b, wp_i2s, wp_i2c, wp_i2l, wp_ladd, wp_lmul, wp_lcmp, wp_dup_i, wp_dup_r, wp_dup2, wp_pop, wp_getfield, wp_putfield, wp_getstatic, wp_iaload, wp_baload, wp_aaload, wp_iastore, wp_arraylength, wp_goto, wp_fall, wp_ieq, wp_ine, wp_ilt, wp_ige, wp_igt, wp_ile, wp_ceq, wp_cne, wp_clt, wp_cge, wp_cgt, wp_cle, wp_sw, wp_ret0, wp_ret1z, wp_ret1o, wp_ret1, wp_ret2, wp_ret3, wp_ret4, wp_ret5, wp_return, wp_min, wp_max, wp_abs, am_ex, gset_eq, gset_ne, upd_eq, upd_ne, gset_gset, am_ci_1, am_ci_6, am_toList_some, am_toList_none, true_implies, false_implies, and_self, and_true, true_and, not_true_eq_false, not_false_eq_true, imp_self, implies_true, Classical.not_not, if_true, if_false, false_and, and_false, or_false, false_or, true_or, or_true, Nat.reduceAdd, Nat.reduceMul, Nat.reduceSub, Nat.reduceLT, Nat.reduceLeDiff, Nat.reduceEqDiff, Nat.reduceBneDiff, Nat.add_zero, Nat.zero_add, reduceCtorEq, wil0, wal0, wis0, wic0, wil1, wal1, wis1, wic1, wil2, wll2, wal2, wis2, was2, wls2, wic2, wil3, wis3, wic3, wic3m, wic3s, wil4, wis4, wic4, wil5, wis5, wic5, wic5m, wil6, wll6, wal6, wis6, was6, wls6, wic6, wil7, wal7, wis7, was7, wic7, wil8, wis8, wic8, wil9, wis9, wic9, wil10, wis10, wic10, am_nI_inj, am_nI_lt, am_nI_le, nI_add, pk_mul, am_nI_sub, am_add_m1, am_gfs, am_pfs, am_alds, am_asts, am_lens, bs147, am_B147_0, C_X5_become, c0]
  first | exact ⟨rfl, MSt_town (w := (S.1.1, S.1.2.1, S.1.2.2.1, a1)) h (ME_z hE) (fun o h1 h2 h3 h4 => gset_ne h1), fun o ho => gset_ne (by omega)⟩ | exact ⟨MSt_town (w := (S.1.1, S.1.2.1, S.1.2.2.1, a1)) h (ME_z hE) (fun o h1 h2 h3 h4 => gset_ne h1), fun o ho => gset_ne (by omega)⟩
theorem MT_hold {X : AmX} {S : SS} {G : GG} (h : MSt S G) (hv : SV S) (a1 a2 : Int32) : MW X 181 [.ref 58, .int a1, .int a2] G (sp_hold S a1 a2) := by
  have hE := h.1
  have f0 := hE.2.1
  have hv8 := hv.1.1.1
  have hm := MS_MR h hv
  unfold MW sp_hold
  have e2 : (nI 1 = nI 0) = False := eq_false (by decide)
  show WP X 181 (am_blk 181 0) [some (.ref 58), some (.int a1), some (.int a2)] [] G _
  by_cases h1 : inR a1 (nI 0) (nI 9) = true
  rotate_left
  · rw [if_neg (fun z => h1 z)]
    rw [Bool.not_eq_true] at h1
    simp (config := { maxSteps := 1000000 }) (disch := first | exact am_nl_i | exact am_nl_r | exact am_nl_n | exact am_l0 | exact am_l1 | exact am_l2 | exact am_l3 | assumption | omega) only [wp_ldc, wp_sipush, wp_ldc_w, wp_lconst, wp_iadd, wp_isub, wp_imul, wp_iand, wp_ior, wp_ixor, wp_ishl, wp_ishr, wp_iushr, wp_idiv, wp_irem, wp_ineg, wp_i2b, wp_i2s, wp_i2c, wp_i2l, wp_ladd, wp_lmul, wp_lcmp, wp_dup_i, wp_dup_r, wp_dup2, wp_pop, wp_getfield, wp_putfield, wp_getstatic, wp_iaload, wp_baload, wp_aaload, wp_iastore, wp_arraylength, wp_goto, wp_fall, wp_ieq, wp_ine, wp_ilt, wp_ige, wp_igt, wp_ile, wp_ceq, wp_cne, wp_clt, wp_cge, wp_cgt, wp_cle, wp_sw, wp_ret0, wp_ret1z, wp_ret1o, wp_ret1, wp_ret2, wp_ret3, wp_ret4, wp_ret5, wp_return, wp_min, wp_max, wp_abs, am_ex, gset_eq, gset_ne, upd_eq, upd_ne, gset_gset, am_ci_1, am_ci_6, am_toList_some, am_toList_none, true_implies, false_implies, and_self, and_true, true_and, not_true_eq_false, not_false_eq_true, imp_self, implies_true, Classical.not_not, if_true, if_false, false_and, and_false, or_false, false_or, true_or, or_true, Nat.reduceAdd, Nat.reduceMul, Nat.reduceSub, Nat.reduceLT, Nat.reduceLeDiff, Nat.reduceEqDiff, Nat.reduceBneDiff, Nat.add_zero, Nat.zero_add, reduceCtorEq, wil0, wal0, wis0, wic0, wil1, wal1, wis1, wic1, wil2, wll2, wal2, wis2, was2, wls2, wic2, wil3, wis3, wic3, wic3m, wic3s, wil4, wis4, wic4, wil5, wis5, wic5, wic5m, wil6, wll6, wal6, wis6, was6, wls6, wic6, wil7, wal7, wis7, was7, wic7, wil8, wis8, wic8, wil9, wis9, wic9, wil10, wis10, wic10, am_nI_inj, am_nI_lt, am_nI_le, nI_add, pk_mul, am_nI_sub, am_add_m1, am_gfs, am_pfs, am_alds, am_asts, am_lens, bs181, am_B181_0, am_B181_20, am_B181_27, C_X5_isPerson, C_X5_isPlace, C_X5_within, C_X5_isKind, C_X5_isSpot, C_X5_isSheet, C_X5_isPrize, C_X5_isAhead, h1, bI_t, bI_f, e2, f0, fcs, C_X5_finding]
    first | exact ⟨rfl, MSt_fnd h (by omega), mfnd_frame⟩ | exact ⟨MSt_fnd h (by omega), mfnd_frame⟩
  rw [if_pos h1]
  obtain ⟨p, hp, rfl, h1'⟩ := rng_of (by omega) h1
  rw [aN_nI (show p < 2 ^ 31 by omega)]
  by_cases hM : a2 = nM
  · rw [if_pos hM]
    subst hM
    have hT := ME_spot (s := p) (x := 8) hE (by omega)
    simp (config := { maxSteps := 1000000 }) (disch := first | exact am_nl_i | exact am_nl_r | exact am_nl_n | exact am_l0 | exact am_l1 | exact am_l2 | exact am_l3 | assumption | omega) only [wp_ldc, wp_sipush, wp_ldc_w, wp_lconst, wp_iadd, wp_isub, wp_imul, wp_iand, wp_ior, wp_ixor, wp_ishl, wp_ishr, wp_iushr, wp_idiv, wp_irem, wp_ineg, wp_i2b, wp_i2s, wp_i2c, wp_i2l, wp_ladd, wp_lmul, wp_lcmp, wp_dup_i, wp_dup_r, wp_dup2, wp_pop, wp_getfield, wp_putfield, wp_getstatic, wp_iaload, wp_baload, wp_aaload, wp_iastore, wp_arraylength, wp_goto, wp_fall, wp_ieq, wp_ine, wp_ilt, wp_ige, wp_igt, wp_ile, wp_ceq, wp_cne, wp_clt, wp_cge, wp_cgt, wp_cle, wp_sw, wp_ret0, wp_ret1z, wp_ret1o, wp_ret1, wp_ret2, wp_ret3, wp_ret4, wp_ret5, wp_return, wp_min, wp_max, wp_abs, am_ex, gset_eq, gset_ne, upd_eq, upd_ne, gset_gset, am_ci_1, am_ci_6, am_toList_some, am_toList_none, true_implies, false_implies, and_self, and_true, true_and, not_true_eq_false, not_false_eq_true, imp_self, implies_true, Classical.not_not, if_true, if_false, false_and, and_false, or_false, false_or, true_or, or_true, Nat.reduceAdd, Nat.reduceMul, Nat.reduceSub, Nat.reduceLT, Nat.reduceLeDiff, Nat.reduceEqDiff, Nat.reduceBneDiff, Nat.add_zero, Nat.zero_add, reduceCtorEq, wil0, wal0, wis0, wic0, wil1, wal1, wis1, wic1, wil2, wll2, wal2, wis2, was2, wls2, wic2, wil3, wis3, wic3, wic3m, wic3s, wil4, wis4, wic4, wil5, wis5, wic5, wic5m, wil6, wll6, wal6, wis6, was6, wls6, wic6, wil7, wal7, wis7, was7, wic7, wil8, wis8, wic8, wil9, wis9, wic9, wil10, wis10, wic10, am_nI_inj, am_nI_lt, am_nI_le, nI_add, pk_mul, am_nI_sub, am_add_m1, am_gfs, am_pfs, am_alds, am_asts, am_lens, bs181, am_B181_0, am_B181_20, am_B181_27, C_X5_isSpot, h1', bI_t, e2, fcs]
    first | exact ⟨rfl, MSt_town (w := (S.1.1, updT S.1.2.1 6 p 8, S.1.2.2)) h hT (fun o h1 h2 h3 h4 => gset_ne h1), fun o ho => gset_ne (by omega)⟩ | exact ⟨MSt_town (w := (S.1.1, updT S.1.2.1 6 p 8, S.1.2.2)) h hT (fun o h1 h2 h3 h4 => gset_ne h1), fun o ho => gset_ne (by omega)⟩
  rw [if_neg hM]
  have qM := eq_false hM
  by_cases h2 : inR a2 (nI 0) (nI S.1.1 - nI 1) = true
  · rw [if_pos h2]
    obtain ⟨x, hx, rfl, h2'⟩ := there_of hv8 h2
    rw [aN_nI (show x < 2 ^ 31 by omega)]
    have hT := ME_spot (s := p) (x := x) hE (by omega)
    rw [eP_lt (by omega)] at hT
    simp (config := { maxSteps := 1000000 }) (disch := first | exact am_nl_i | exact am_nl_r | exact am_nl_n | exact am_l0 | exact am_l1 | exact am_l2 | exact am_l3 | assumption | omega) only [wp_ldc, wp_sipush, wp_ldc_w, wp_lconst, wp_iadd, wp_isub, wp_imul, wp_iand, wp_ior, wp_ixor, wp_ishl, wp_ishr, wp_iushr, wp_idiv, wp_irem, wp_ineg, wp_i2b, wp_i2s, wp_i2c, wp_i2l, wp_ladd, wp_lmul, wp_lcmp, wp_dup_i, wp_dup_r, wp_dup2, wp_pop, wp_getfield, wp_putfield, wp_getstatic, wp_iaload, wp_baload, wp_aaload, wp_iastore, wp_arraylength, wp_goto, wp_fall, wp_ieq, wp_ine, wp_ilt, wp_ige, wp_igt, wp_ile, wp_ceq, wp_cne, wp_clt, wp_cge, wp_cgt, wp_cle, wp_sw, wp_ret0, wp_ret1z, wp_ret1o, wp_ret1, wp_ret2, wp_ret3, wp_ret4, wp_ret5, wp_return, wp_min, wp_max, wp_abs, am_ex, gset_eq, gset_ne, upd_eq, upd_ne, gset_gset, am_ci_1, am_ci_6, am_toList_some, am_toList_none, true_implies, false_implies, and_self, and_true, true_and, not_true_eq_false, not_false_eq_true, imp_self, implies_true, Classical.not_not, if_true, if_false, false_and, and_false, or_false, false_or, true_or, or_true, Nat.reduceAdd, Nat.reduceMul, Nat.reduceSub, Nat.reduceLT, Nat.reduceLeDiff, Nat.reduceEqDiff, Nat.reduceBneDiff, Nat.add_zero, Nat.zero_add, reduceCtorEq, wil0, wal0, wis0, wic0, wil1, wal1, wis1, wic1, wil2, wll2, wal2, wis2, was2, wls2, wic2, wil3, wis3, wic3, wic3m, wic3s, wil4, wis4, wic4, wil5, wis5, wic5, wic5m, wil6, wll6, wal6, wis6, was6, wls6, wic6, wil7, wal7, wis7, was7, wic7, wil8, wis8, wic8, wil9, wis9, wic9, wil10, wis10, wic10, am_nI_inj, am_nI_lt, am_nI_le, nI_add, pk_mul, am_nI_sub, am_add_m1, am_gfs, am_pfs, am_alds, am_asts, am_lens, bs181, am_B181_0, am_B181_20, am_B181_27, C_X5_isSpot, C_X5_isPerson, f0, h1', h2', bI_t, e2, fcs, qM]
    first | exact ⟨rfl, MSt_town (w := (S.1.1, updT S.1.2.1 6 p x, S.1.2.2)) h hT (fun o h1 h2 h3 h4 => gset_ne h1), fun o ho => gset_ne (by omega)⟩ | exact ⟨MSt_town (w := (S.1.1, updT S.1.2.1 6 p x, S.1.2.2)) h hT (fun o h1 h2 h3 h4 => gset_ne h1), fun o ho => gset_ne (by omega)⟩
  · rw [if_neg h2]
    rw [Bool.not_eq_true] at h2
    simp (config := { maxSteps := 1000000 }) (disch := first | exact am_nl_i | exact am_nl_r | exact am_nl_n | exact am_l0 | exact am_l1 | exact am_l2 | exact am_l3 | assumption | omega) only [wp_ldc, wp_sipush, wp_ldc_w, wp_lconst, wp_iadd, wp_isub, wp_imul, wp_iand, wp_ior, wp_ixor, wp_ishl, wp_ishr, wp_iushr, wp_idiv, wp_irem, wp_ineg, wp_i2b, wp_i2s, wp_i2c, wp_i2l, wp_ladd, wp_lmul, wp_lcmp, wp_dup_i, wp_dup_r, wp_dup2, wp_pop, wp_getfield, wp_putfield, wp_getstatic, wp_iaload, wp_baload, wp_aaload, wp_iastore, wp_arraylength, wp_goto, wp_fall, wp_ieq, wp_ine, wp_ilt, wp_ige, wp_igt, wp_ile, wp_ceq, wp_cne, wp_clt, wp_cge, wp_cgt, wp_cle, wp_sw, wp_ret0, wp_ret1z, wp_ret1o, wp_ret1, wp_ret2, wp_ret3, wp_ret4, wp_ret5, wp_return, wp_min, wp_max, wp_abs, am_ex, gset_eq, gset_ne, upd_eq, upd_ne, gset_gset, am_ci_1, am_ci_6, am_toList_some, am_toList_none, true_implies, false_implies, and_self, and_true, true_and, not_true_eq_false, not_false_eq_true, imp_self, implies_true, Classical.not_not, if_true, if_false, false_and, and_false, or_false, false_or, true_or, or_true, Nat.reduceAdd, Nat.reduceMul, Nat.reduceSub, Nat.reduceLT, Nat.reduceLeDiff, Nat.reduceEqDiff, Nat.reduceBneDiff, Nat.add_zero, Nat.zero_add, reduceCtorEq, wil0, wal0, wis0, wic0, wil1, wal1, wis1, wic1, wil2, wll2, wal2, wis2, was2, wls2, wic2, wil3, wis3, wic3, wic3m, wic3s, wil4, wis4, wic4, wil5, wis5, wic5, wic5m, wil6, wll6, wal6, wis6, was6, wls6, wic6, wil7, wal7, wis7, was7, wic7, wil8, wis8, wic8, wil9, wis9, wic9, wil10, wis10, wic10, am_nI_inj, am_nI_lt, am_nI_le, nI_add, pk_mul, am_nI_sub, am_add_m1, am_gfs, am_pfs, am_alds, am_asts, am_lens, bs181, am_B181_0, am_B181_20, am_B181_27, C_X5_isSpot, C_X5_isPerson, f0, h1', h2, bI_t, bI_f, e2, fcs, qM, C_X5_finding]
    first | exact ⟨rfl, MSt_fnd h (by omega), mfnd_frame⟩ | exact ⟨MSt_fnd h (by omega), mfnd_frame⟩
theorem pf163 : (∀ G : GG, am_pf G 58 163 (nI 0) = some (gset G 58 (upd (G 58) 3 (nI 0)))) ∧ (∀ G : GG, am_pf G 58 163 (nI 1) = some (gset G 58 (upd (G 58) 3 (nI 1)))) := ⟨fun G => am_pfs.2.2.2.2.2.2.2.2.1 G _ (Or.inl rfl), fun G => am_pfs.2.2.2.2.2.2.2.2.1 G _ (Or.inr rfl)⟩
theorem MSt_58 {S S' : SS} {G : GG} {f : Nat} {v : Int32} (h : MSt S G) (hf : f = 3 ∨ f = 9) (h1 : S'.1 = S.1) (hO : MO S' (gset G 58 (upd (G 58) f v))) : MSt S' (gset G 58 (upd (G 58) f v)) := by
  obtain ⟨a, b, c⟩ := h
  refine ⟨?_, ?_, hO⟩
  · rw [h1]
    unfold ME at a ⊢
    rw [gset_ne (by omega)]; exact a
  · rw [gset_eq, upd_ne (by omega)]; exact b
theorem MT_image {X : AmX} {S : SS} {G : GG} (h : MSt S G) (hv : SV S) : MW X 203 [.ref 58] G (sp_image S) := by
  have hE := h.1
  have f0 := hE.2.1
  have hv8 := hv.1.1.1
  have hm := MS_MR h hv
  unfold MW sp_image
  have e2 : (nI 1 = nI 0) = False := eq_false (by decide)
  show WP X 203 (am_blk 203 0) [some (.ref 58)] [] G _
  have hC := fun (k : Nat) (r : List Instr) (lv : LV) (st : List Value) (Q : Option Value → GG → Prop) (hl : st.length ≤ 4) => C_X5_copyRow (X := X) (k := k) (st := st) (r := r) (lv := lv) (Q := Q) (G := G) (a := 59) (b := 60) cA1 cA2 (by decide) hl
  have h1 : ME (gset G 60 (cpr 61 (G 59) (G 60))) 60 S.1.1 S.1.2.1 (nI S.1.2.2.1) S.1.2.2.2 := ME_congr (G := G) (o := 59) hv8 hE (fun j hj => by rw [gset_eq]; exact cpr_lt hj)
  simp (config := { maxSteps := 1000000 }) (disch := first | exact am_nl_i | exact am_nl_r | exact am_nl_n | exact am_l0 | exact am_l1 | exact am_l2 | exact am_l3 | assumption | omega) only [wp_ldc, wp_sipush, wp_ldc_w, wp_lconst, wp_iadd, wp_isub, wp_imul, wp_iand, wp_ior, wp_ixor, wp_ishl, wp_ishr, wp_iushr, wp_idiv, wp_irem, wp_ineg, wp_i2b, wp_i2s, wp_i2c, wp_i2l, wp_ladd, wp_lmul, wp_lcmp, wp_dup_i, wp_dup_r, wp_dup2, wp_pop, wp_getfield, wp_putfield, wp_getstatic, wp_iaload, wp_baload, wp_aaload, wp_iastore, wp_arraylength, wp_goto, wp_fall, wp_ieq, wp_ine, wp_ilt, wp_ige, wp_igt, wp_ile, wp_ceq, wp_cne, wp_clt, wp_cge, wp_cgt, wp_cle, wp_sw, wp_ret0, wp_ret1z, wp_ret1o, wp_ret1, wp_ret2, wp_ret3, wp_ret4, wp_ret5, wp_return, wp_min, wp_max, wp_abs, am_ex, gset_eq, gset_ne, upd_eq, upd_ne, gset_gset, am_ci_1, am_ci_6, am_toList_some, am_toList_none, true_implies, false_implies, and_self, and_true, true_and, not_true_eq_false, not_false_eq_true, imp_self, implies_true, Classical.not_not, if_true, if_false, false_and, and_false, or_false, false_or, true_or, or_true, Nat.reduceAdd, Nat.reduceMul, Nat.reduceSub, Nat.reduceLT, Nat.reduceLeDiff, Nat.reduceEqDiff, Nat.reduceBneDiff, Nat.add_zero, Nat.zero_add, reduceCtorEq, wil0, wal0, wis0, wic0, wil1, wal1, wis1, wic1, wil2, wll2, wal2, wis2, was2, wls2, wic2, wil3, wis3, wic3, wic3m, wic3s, wil4, wis4, wic4, wil5, wis5, wic5, wic5m, wil6, wll6, wal6, wis6, was6, wls6, wic6, wil7, wal7, wis7, was7, wic7, wil8, wis8, wic8, wil9, wis9, wic9, wil10, wis10, wic10, am_nI_inj, am_nI_lt, am_nI_le, nI_add, pk_mul, am_nI_sub, am_add_m1, am_gfs, am_pfs, am_alds, am_asts, am_lens, bs203, am_B203_0, hC, pf163]
  have hf2 : MSt (sKept S true S.1) (gset (gset G 60 (cpr 61 (G 59) (G 60))) 58 (upd (G 58) 3 (nI 1))) := by
    obtain ⟨a, b, ⟨c1, c2⟩, c3, c4, c5, c6⟩ := h
    refine ⟨?_, ?_, ⟨?_, fun _ => ?_⟩, ?_, fun s hs => ?_, ?_, fun i hi => ?_⟩
    · unfold ME at a ⊢
      rw [gset_ne (by omega), gset_ne (by omega)]; exact a
    · rw [gset_eq, upd_ne (by omega)]; exact b
    · rw [gset_eq, upd_eq]; rfl
    · unfold ME at h1 ⊢
      rw [gset_ne (by omega)]; exact h1
    · rw [gset_ne (by omega), gset_ne (by omega)]; exact c3
    · rw [gset_ne (by omega), gset_ne (by omega), gset_ne (by omega), gset_ne (by omega), gset_ne (by omega), gset_ne (by omega)]; exact c4 s hs
    · rw [gset_eq, upd_ne (by omega)]; exact c5
    · rw [gset_ne (by omega), gset_ne (by omega)]; exact c6 i hi
  first | exact ⟨rfl, hf2, fun o ho => by rw [gset_ne (by omega), gset_ne (by omega)]⟩ | exact ⟨hf2, fun o ho => by rw [gset_ne (by omega), gset_ne (by omega)]⟩
theorem MT_undo {X : AmX} {S : SS} {G : GG} (h : MSt S G) (hv : SV S) : MW X 205 [.ref 58] G (sp_undo S) := by
  have hE := h.1
  have f0 := hE.2.1
  have hv8 := hv.1.1.1
  have hm := MS_MR h hv
  unfold MW sp_undo
  have e2 : (nI 1 = nI 0) = False := eq_false (by decide)
  show WP X 205 (am_blk 205 0) [some (.ref 58)] [] G _
  have k3 := h.2.2.1.1
  cases hk : S.2.1.1
  · rw [if_neg Bool.false_ne_true]
    rw [hk, bI_f] at k3
    simp (config := { maxSteps := 1000000 }) (disch := first | exact am_nl_i | exact am_nl_r | exact am_nl_n | exact am_l0 | exact am_l1 | exact am_l2 | exact am_l3 | assumption | omega) only [wp_ldc, wp_sipush, wp_ldc_w, wp_lconst, wp_iadd, wp_isub, wp_imul, wp_iand, wp_ior, wp_ixor, wp_ishl, wp_ishr, wp_iushr, wp_idiv, wp_irem, wp_ineg, wp_i2b, wp_i2s, wp_i2c, wp_i2l, wp_ladd, wp_lmul, wp_lcmp, wp_dup_i, wp_dup_r, wp_dup2, wp_pop, wp_getfield, wp_putfield, wp_getstatic, wp_iaload, wp_baload, wp_aaload, wp_iastore, wp_arraylength, wp_goto, wp_fall, wp_ieq, wp_ine, wp_ilt, wp_ige, wp_igt, wp_ile, wp_ceq, wp_cne, wp_clt, wp_cge, wp_cgt, wp_cle, wp_sw, wp_ret0, wp_ret1z, wp_ret1o, wp_ret1, wp_ret2, wp_ret3, wp_ret4, wp_ret5, wp_return, wp_min, wp_max, wp_abs, am_ex, gset_eq, gset_ne, upd_eq, upd_ne, gset_gset, am_ci_1, am_ci_6, am_toList_some, am_toList_none, true_implies, false_implies, and_self, and_true, true_and, not_true_eq_false, not_false_eq_true, imp_self, implies_true, Classical.not_not, if_true, if_false, false_and, and_false, or_false, false_or, true_or, or_true, Nat.reduceAdd, Nat.reduceMul, Nat.reduceSub, Nat.reduceLT, Nat.reduceLeDiff, Nat.reduceEqDiff, Nat.reduceBneDiff, Nat.add_zero, Nat.zero_add, reduceCtorEq, wil0, wal0, wis0, wic0, wil1, wal1, wis1, wic1, wil2, wll2, wal2, wis2, was2, wls2, wic2, wil3, wis3, wic3, wic3m, wic3s, wil4, wis4, wic4, wil5, wis5, wic5, wic5m, wil6, wll6, wal6, wis6, was6, wls6, wic6, wil7, wal7, wis7, was7, wic7, wil8, wis8, wic8, wil9, wis9, wic9, wil10, wis10, wic10, am_nI_inj, am_nI_lt, am_nI_le, nI_add, pk_mul, am_nI_sub, am_add_m1, am_gfs, am_pfs, am_alds, am_asts, am_lens, bs205, am_B205_0, am_B205_14, k3, fcs, C_X5_finding]
    first | exact ⟨rfl, MSt_fnd h (by omega), mfnd_frame⟩ | exact ⟨MSt_fnd h (by omega), mfnd_frame⟩
  · rw [if_pos rfl]
    rw [hk, bI_t] at k3
    have k4 := h.2.2.1.2 hk
    have hv2 := hv.2.1 hk
    have hC := fun (k : Nat) (r : List Instr) (lv : LV) (st : List Value) (Q : Option Value → GG → Prop) (hl : st.length ≤ 4) => C_X5_copyRow (X := X) (k := k) (st := st) (r := r) (lv := lv) (Q := Q) (G := G) (a := 60) (b := 59) cA2 cA1 (by decide) hl
    have h1 : ME (gset G 59 (cpr 61 (G 60) (G 59))) 59 S.2.1.2.1 S.2.1.2.2.1 (nI S.2.1.2.2.2.1) S.2.1.2.2.2.2 := ME_congr (G := G) (o := 60) hv2.1.1 k4 (fun j hj => by rw [gset_eq]; exact cpr_lt hj)
    have h2 := h1.1
    rw [gset_eq] at h2
    simp (config := { maxSteps := 1000000 }) (disch := first | exact am_nl_i | exact am_nl_r | exact am_nl_n | exact am_l0 | exact am_l1 | exact am_l2 | exact am_l3 | assumption | omega) only [wp_ldc, wp_sipush, wp_ldc_w, wp_lconst, wp_iadd, wp_isub, wp_imul, wp_iand, wp_ior, wp_ixor, wp_ishl, wp_ishr, wp_iushr, wp_idiv, wp_irem, wp_ineg, wp_i2b, wp_i2s, wp_i2c, wp_i2l, wp_ladd, wp_lmul, wp_lcmp, wp_dup_i, wp_dup_r, wp_dup2, wp_pop, wp_getfield, wp_putfield, wp_getstatic, wp_iaload, wp_baload, wp_aaload, wp_iastore, wp_arraylength, wp_goto, wp_fall, wp_ieq, wp_ine, wp_ilt, wp_ige, wp_igt, wp_ile, wp_ceq, wp_cne, wp_clt, wp_cge, wp_cgt, wp_cle, wp_sw, wp_ret0, wp_ret1z, wp_ret1o, wp_ret1, wp_ret2, wp_ret3, wp_ret4, wp_ret5, wp_return, wp_min, wp_max, wp_abs, am_ex, gset_eq, gset_ne, upd_eq, upd_ne, gset_gset, am_ci_1, am_ci_6, am_toList_some, am_toList_none, true_implies, false_implies, and_self, and_true, true_and, not_true_eq_false, not_false_eq_true, imp_self, implies_true, Classical.not_not, if_true, if_false, false_and, and_false, or_false, false_or, true_or, or_true, Nat.reduceAdd, Nat.reduceMul, Nat.reduceSub, Nat.reduceLT, Nat.reduceLeDiff, Nat.reduceEqDiff, Nat.reduceBneDiff, Nat.add_zero, Nat.zero_add, reduceCtorEq, wil0, wal0, wis0, wic0, wil1, wal1, wis1, wic1, wil2, wll2, wal2, wis2, was2, wls2, wic2, wil3, wis3, wic3, wic3m, wic3s, wil4, wis4, wic4, wil5, wis5, wic5, wic5m, wil6, wll6, wal6, wis6, was6, wls6, wic6, wil7, wal7, wis7, was7, wic7, wil8, wis8, wic8, wil9, wis9, wic9, wil10, wis10, wic10, am_nI_inj, am_nI_lt, am_nI_le, nI_add, pk_mul, am_nI_sub, am_add_m1, am_gfs, am_pfs, am_alds, am_asts, am_lens, bs205, am_B205_0, am_B205_14, k3, e2, hC, h2]
    first | exact ⟨rfl, MSt_town (w := S.2.1.2) h h1 (fun o h1 h2 h3 h4 => gset_ne h1), fun o ho => gset_ne (by omega)⟩ | exact ⟨MSt_town (w := S.2.1.2) h h1 (fun o h1 h2 h3 h4 => gset_ne h1), fun o ho => gset_ne (by omega)⟩
theorem MT_tear {X : AmX} {S : SS} {G : GG} (h : MSt S G) (hv : SV S) : MW X 207 [.ref 58] G (sp_tear S) := by
  have hE := h.1
  have f0 := hE.2.1
  have hv8 := hv.1.1.1
  have hm := MS_MR h hv
  unfold MW sp_tear
  have e2 : (nI 1 = nI 0) = False := eq_false (by decide)
  show WP X 207 (am_blk 207 0) [some (.ref 58), none] [] G _
  have k3 := h.2.2.1.1
  have hf2 : MSt (sKept S false S.2.1.2) (gset G 58 (upd (G 58) 3 (nI 0))) := by
    refine MSt_58 h (Or.inl rfl) rfl ?_
    obtain ⟨a, b, ⟨c1, c2⟩, c3, c4, c5, c6⟩ := h
    refine ⟨⟨?_, fun z => absurd z Bool.false_ne_true⟩, ?_, fun s hs => ?_, ?_, fun i hi => ?_⟩
    · rw [gset_eq, upd_eq]; rfl
    · rw [gset_ne (by omega)]; exact c3
    · rw [gset_ne (by omega), gset_ne (by omega), gset_ne (by omega)]; exact c4 s hs
    · rw [gset_eq, upd_ne (by omega)]; exact c5
    · rw [gset_ne (by omega)]; exact c6 i hi
  cases hk : S.2.1.1
  · rw [hk] at k3
    simp (config := { maxSteps := 1000000 }) (disch := first | exact am_nl_i | exact am_nl_r | exact am_nl_n | exact am_l0 | exact am_l1 | exact am_l2 | exact am_l3 | assumption | omega) only [wp_ldc, wp_sipush, wp_ldc_w, wp_lconst, wp_iadd, wp_isub, wp_imul, wp_iand, wp_ior, wp_ixor, wp_ishl, wp_ishr, wp_iushr, wp_idiv, wp_irem, wp_ineg, wp_i2b, wp_i2s, wp_i2c, wp_i2l, wp_ladd, wp_lmul, wp_lcmp, wp_dup_i, wp_dup_r, wp_dup2, wp_pop, wp_getfield, wp_putfield, wp_getstatic, wp_iaload, wp_baload, wp_aaload, wp_iastore, wp_arraylength, wp_goto, wp_fall, wp_ieq, wp_ine, wp_ilt, wp_ige, wp_igt, wp_ile, wp_ceq, wp_cne, wp_clt, wp_cge, wp_cgt, wp_cle, wp_sw, wp_ret0, wp_ret1z, wp_ret1o, wp_ret1, wp_ret2, wp_ret3, wp_ret4, wp_ret5, wp_return, wp_min, wp_max, wp_abs, am_ex, gset_eq, gset_ne, upd_eq, upd_ne, gset_gset, am_ci_1, am_ci_6, am_toList_some, am_toList_none, true_implies, false_implies, and_self, and_true, true_and, not_true_eq_false, not_false_eq_true, imp_self, implies_true, Classical.not_not, if_true, if_false, false_and, and_false, or_false, false_or, true_or, or_true, Nat.reduceAdd, Nat.reduceMul, Nat.reduceSub, Nat.reduceLT, Nat.reduceLeDiff, Nat.reduceEqDiff, Nat.reduceBneDiff, Nat.add_zero, Nat.zero_add, reduceCtorEq, wil0, wal0, wis0, wic0, wil1, wal1, wis1, wic1, wil2, wll2, wal2, wis2, was2, wls2, wic2, wil3, wis3, wic3, wic3m, wic3s, wil4, wis4, wic4, wil5, wis5, wic5, wic5m, wil6, wll6, wal6, wis6, was6, wls6, wic6, wil7, wal7, wis7, was7, wic7, wil8, wis8, wic8, wil9, wis9, wic9, wil10, wis10, wic10, am_nI_inj, am_nI_lt, am_nI_le, nI_add, pk_mul, am_nI_sub, am_add_m1, am_gfs, am_pfs, am_alds, am_asts, am_lens, bs207, am_B207_0, am_B207_11, am_B207_12, k3, bI_f, pf163]
    first | exact ⟨rfl, hf2, fun o ho => gset_ne (by omega)⟩ | exact ⟨hf2, fun o ho => gset_ne (by omega)⟩
  · rw [hk, bI_t] at k3
    simp (config := { maxSteps := 1000000 }) (disch := first | exact am_nl_i | exact am_nl_r | exact am_nl_n | exact am_l0 | exact am_l1 | exact am_l2 | exact am_l3 | assumption | omega) only [wp_ldc, wp_sipush, wp_ldc_w, wp_lconst, wp_iadd, wp_isub, wp_imul, wp_iand, wp_ior, wp_ixor, wp_ishl, wp_ishr, wp_iushr, wp_idiv, wp_irem, wp_ineg, wp_i2b, wp_i2s, wp_i2c, wp_i2l, wp_ladd, wp_lmul, wp_lcmp, wp_dup_i, wp_dup_r, wp_dup2, wp_pop, wp_getfield, wp_putfield, wp_getstatic, wp_iaload, wp_baload, wp_aaload, wp_iastore, wp_arraylength, wp_goto, wp_fall, wp_ieq, wp_ine, wp_ilt, wp_ige, wp_igt, wp_ile, wp_ceq, wp_cne, wp_clt, wp_cge, wp_cgt, wp_cle, wp_sw, wp_ret0, wp_ret1z, wp_ret1o, wp_ret1, wp_ret2, wp_ret3, wp_ret4, wp_ret5, wp_return, wp_min, wp_max, wp_abs, am_ex, gset_eq, gset_ne, upd_eq, upd_ne, gset_gset, am_ci_1, am_ci_6, am_toList_some, am_toList_none, true_implies, false_implies, and_self, and_true, true_and, not_true_eq_false, not_false_eq_true, imp_self, implies_true, Classical.not_not, if_true, if_false, false_and, and_false, or_false, false_or, true_or, or_true, Nat.reduceAdd, Nat.reduceMul, Nat.reduceSub, Nat.reduceLT, Nat.reduceLeDiff, Nat.reduceEqDiff, Nat.reduceBneDiff, Nat.add_zero, Nat.zero_add, reduceCtorEq, wil0, wal0, wis0, wic0, wil1, wal1, wis1, wic1, wil2, wll2, wal2, wis2, was2, wls2, wic2, wil3, wis3, wic3, wic3m, wic3s, wil4, wis4, wic4, wil5, wis5, wic5, wic5m, wil6, wll6, wal6, wis6, was6, wls6, wic6, wil7, wal7, wis7, was7, wic7, wil8, wis8, wic8, wil9, wis9, wic9, wil10, wis10, wic10, am_nI_inj, am_nI_lt, am_nI_le, nI_add, pk_mul, am_nI_sub, am_add_m1, am_gfs, am_pfs, am_alds, am_asts, am_lens, bs207, am_B207_0, am_B207_11, am_B207_12, k3, bI_t, e2, pf163]
    first | exact ⟨rfl, hf2, fun o ho => gset_ne (by omega)⟩ | exact ⟨hf2, fun o ho => gset_ne (by omega)⟩
theorem MT_wipe {X : AmX} {S : SS} {G : GG} (h : MSt S G) (hv : SV S) : MW X 152 [.ref 58] G (sp_wipe S) := by
  have hE := h.1
  have f0 := hE.2.1
  have hv8 := hv.1.1.1
  have hm := MS_MR h hv
  unfold MW sp_wipe
  have e2 : (nI 1 = nI 0) = False := eq_false (by decide)
  show WP X 152 (am_blk 152 0) [some (.ref 58), none] [] G _
  have k9 := h.2.2.2.2.2.1
  have hf2 : MSt (S.1, S.2.1, S.2.2.1, S.2.2.2.1, (0, S.2.2.2.2.2)) (gset G 58 (upd (G 58) 9 (nI 0))) := by
    refine MSt_58 h (Or.inr rfl) rfl ?_
    obtain ⟨a, b, ⟨c1, c2⟩, c3, c4, c5, c6⟩ := h
    refine ⟨⟨?_, fun z => ?_⟩, ?_, fun s hs => ?_, ?_, fun i hi => absurd hi (Nat.not_lt_zero i)⟩
    · rw [gset_eq, upd_ne (by omega)]; exact c1
    · have := c2 z
      unfold ME at this ⊢
      rw [gset_ne (by omega)]; exact this
    · rw [gset_ne (by omega)]; exact c3
    · rw [gset_ne (by omega), gset_ne (by omega), gset_ne (by omega)]; exact c4 s hs
    · rw [gset_eq, upd_eq]
  simp (config := { maxSteps := 1000000 }) (disch := first | exact am_nl_i | exact am_nl_r | exact am_nl_n | exact am_l0 | exact am_l1 | exact am_l2 | exact am_l3 | assumption | omega) only [wp_ldc, wp_sipush, wp_ldc_w, wp_lconst, wp_iadd, wp_isub, wp_imul, wp_iand, wp_ior, wp_ixor, wp_ishl, wp_ishr, wp_iushr, wp_idiv, wp_irem, wp_ineg, wp_i2b, wp_i2s, wp_i2c, wp_i2l, wp_ladd, wp_lmul, wp_lcmp, wp_dup_i, wp_dup_r, wp_dup2, wp_pop, wp_getfield, wp_putfield, wp_getstatic, wp_iaload, wp_baload, wp_aaload, wp_iastore, wp_arraylength, wp_goto, wp_fall, wp_ieq, wp_ine, wp_ilt, wp_ige, wp_igt, wp_ile, wp_ceq, wp_cne, wp_clt, wp_cge, wp_cgt, wp_cle, wp_sw, wp_ret0, wp_ret1z, wp_ret1o, wp_ret1, wp_ret2, wp_ret3, wp_ret4, wp_ret5, wp_return, wp_min, wp_max, wp_abs, am_ex, gset_eq, gset_ne, upd_eq, upd_ne, gset_gset, am_ci_1, am_ci_6, am_toList_some, am_toList_none, true_implies, false_implies, and_self, and_true, true_and, not_true_eq_false, not_false_eq_true, imp_self, implies_true, Classical.not_not, if_true, if_false, false_and, and_false, or_false, false_or, true_or, or_true, Nat.reduceAdd, Nat.reduceMul, Nat.reduceSub, Nat.reduceLT, Nat.reduceLeDiff, Nat.reduceEqDiff, Nat.reduceBneDiff, Nat.add_zero, Nat.zero_add, reduceCtorEq, wil0, wal0, wis0, wic0, wil1, wal1, wis1, wic1, wil2, wll2, wal2, wis2, was2, wls2, wic2, wil3, wis3, wic3, wic3m, wic3s, wil4, wis4, wic4, wil5, wis5, wic5, wic5m, wil6, wll6, wal6, wis6, was6, wls6, wic6, wil7, wal7, wis7, was7, wic7, wil8, wis8, wic8, wil9, wis9, wic9, wil10, wis10, wic10, am_nI_inj, am_nI_lt, am_nI_le, nI_add, pk_mul, am_nI_sub, am_add_m1, am_gfs, am_pfs, am_alds, am_asts, am_lens, bs152, am_B152_0, k9]
  first | exact ⟨rfl, hf2, fun o ho => gset_ne (by omega)⟩ | exact ⟨hf2, fun o ho => gset_ne (by omega)⟩
theorem MT_status {X : AmX} {S : SS} {G : GG} (h : MSt S G) (hv : SV S) (a1 : Int32) : MW X 212 [.ref 58, .int a1] G (sp_status S a1) := by
  have hE := h.1
  have f0 := hE.2.1
  have hv8 := hv.1.1.1
  have hm := MS_MR h hv
  unfold MW sp_status
  have e2 : (nI 1 = nI 0) = False := eq_false (by decide)
  show WP X 212 (am_blk 212 0) [some (.ref 58), some (.int a1)] [] G _
  by_cases h1 : inR a1 nM (nI 6) = true
  rotate_left
  · rw [if_neg h1]
    rw [Bool.not_eq_true] at h1
    simp (config := { maxSteps := 1000000 }) (disch := first | exact am_nl_i | exact am_nl_r | exact am_nl_n | exact am_l0 | exact am_l1 | exact am_l2 | exact am_l3 | assumption | omega) only [wp_ldc, wp_sipush, wp_ldc_w, wp_lconst, wp_iadd, wp_isub, wp_imul, wp_iand, wp_ior, wp_ixor, wp_ishl, wp_ishr, wp_iushr, wp_idiv, wp_irem, wp_ineg, wp_i2b, wp_i2s, wp_i2c, wp_i2l, wp_ladd, wp_lmul, wp_lcmp, wp_dup_i, wp_dup_r, wp_dup2, wp_pop, wp_getfield, wp_putfield, wp_getstatic, wp_iaload, wp_baload, wp_aaload, wp_iastore, wp_arraylength, wp_goto, wp_fall, wp_ieq, wp_ine, wp_ilt, wp_ige, wp_igt, wp_ile, wp_ceq, wp_cne, wp_clt, wp_cge, wp_cgt, wp_cle, wp_sw, wp_ret0, wp_ret1z, wp_ret1o, wp_ret1, wp_ret2, wp_ret3, wp_ret4, wp_ret5, wp_return, wp_min, wp_max, wp_abs, am_ex, gset_eq, gset_ne, upd_eq, upd_ne, gset_gset, am_ci_1, am_ci_6, am_toList_some, am_toList_none, true_implies, false_implies, and_self, and_true, true_and, not_true_eq_false, not_false_eq_true, imp_self, implies_true, Classical.not_not, if_true, if_false, false_and, and_false, or_false, false_or, true_or, or_true, Nat.reduceAdd, Nat.reduceMul, Nat.reduceSub, Nat.reduceLT, Nat.reduceLeDiff, Nat.reduceEqDiff, Nat.reduceBneDiff, Nat.add_zero, Nat.zero_add, reduceCtorEq, wil0, wal0, wis0, wic0, wil1, wal1, wis1, wic1, wil2, wll2, wal2, wis2, was2, wls2, wic2, wil3, wis3, wic3, wic3m, wic3s, wil4, wis4, wic4, wil5, wis5, wic5, wic5m, wil6, wll6, wal6, wis6, was6, wls6, wic6, wil7, wal7, wis7, was7, wic7, wil8, wis8, wic8, wil9, wis9, wic9, wil10, wis10, wic10, am_nI_inj, am_nI_lt, am_nI_le, nI_add, pk_mul, am_nI_sub, am_add_m1, am_gfs, am_pfs, am_alds, am_asts, am_lens, bs212, am_B212_0, am_B212_21, am_B212_27, C_X5_within, h1, bI_f, fcs, C_X5_finding]
    first | exact ⟨rfl, MSt_fnd h (by omega), mfnd_frame⟩ | exact ⟨MSt_fnd h (by omega), mfnd_frame⟩
  rw [if_pos h1]
  have ht := h.2.2.2.1
  rcases rngM_of (by omega) h1 with rfl | ⟨p, hp, rfl⟩
  · rw [if_pos rfl]
    have e1 : nM + nI 1 = nI 0 := by decide
    have c0 := ht.1
    simp (config := { maxSteps := 1000000 }) (disch := first | exact am_nl_i | exact am_nl_r | exact am_nl_n | exact am_l0 | exact am_l1 | exact am_l2 | exact am_l3 | assumption | omega) only [wp_ldc, wp_sipush, wp_ldc_w, wp_lconst, wp_iadd, wp_isub, wp_imul, wp_iand, wp_ior, wp_ixor, wp_ishl, wp_ishr, wp_iushr, wp_idiv, wp_irem, wp_ineg, wp_i2b, wp_i2s, wp_i2c, wp_i2l, wp_ladd, wp_lmul, wp_lcmp, wp_dup_i, wp_dup_r, wp_dup2, wp_pop, wp_getfield, wp_putfield, wp_getstatic, wp_iaload, wp_baload, wp_aaload, wp_iastore, wp_arraylength, wp_goto, wp_fall, wp_ieq, wp_ine, wp_ilt, wp_ige, wp_igt, wp_ile, wp_ceq, wp_cne, wp_clt, wp_cge, wp_cgt, wp_cle, wp_sw, wp_ret0, wp_ret1z, wp_ret1o, wp_ret1, wp_ret2, wp_ret3, wp_ret4, wp_ret5, wp_return, wp_min, wp_max, wp_abs, am_ex, gset_eq, gset_ne, upd_eq, upd_ne, gset_gset, am_ci_1, am_ci_6, am_toList_some, am_toList_none, true_implies, false_implies, and_self, and_true, true_and, not_true_eq_false, not_false_eq_true, imp_self, implies_true, Classical.not_not, if_true, if_false, false_and, and_false, or_false, false_or, true_or, or_true, Nat.reduceAdd, Nat.reduceMul, Nat.reduceSub, Nat.reduceLT, Nat.reduceLeDiff, Nat.reduceEqDiff, Nat.reduceBneDiff, Nat.add_zero, Nat.zero_add, reduceCtorEq, wil0, wal0, wis0, wic0, wil1, wal1, wis1, wic1, wil2, wll2, wal2, wis2, was2, wls2, wic2, wil3, wis3, wic3, wic3m, wic3s, wil4, wis4, wic4, wil5, wis5, wic5, wic5m, wil6, wll6, wal6, wis6, was6, wls6, wic6, wil7, wal7, wis7, was7, wic7, wil8, wis8, wic8, wil9, wis9, wic9, wil10, wis10, wic10, am_nI_inj, am_nI_lt, am_nI_le, nI_add, pk_mul, am_nI_sub, am_add_m1, am_gfs, am_pfs, am_alds, am_asts, am_lens, bs212, am_B212_0, am_B212_21, am_B212_27, C_X5_within, h1, bI_t, e2, fcs, e1, c0]
    first | exact ⟨rfl, h, fun _ _ => rfl⟩ | exact ⟨h, fun _ _ => rfl⟩ | exact h
  · have q1 : (nI p = nM) = False := nM_ne (by omega)
    rw [if_neg (fun z => by rw [q1] at z; exact z), aN_nI (by omega)]
    have f1 := ht.2 p (by omega)
    have hp8 : p + 1 < 8 := by omega
    simp (config := { maxSteps := 1000000 }) (disch := first | exact am_nl_i | exact am_nl_r | exact am_nl_n | exact am_l0 | exact am_l1 | exact am_l2 | exact am_l3 | assumption | omega) only [wp_ldc, wp_sipush, wp_ldc_w, wp_lconst, wp_iadd, wp_isub, wp_imul, wp_iand, wp_ior, wp_ixor, wp_ishl, wp_ishr, wp_iushr, wp_idiv, wp_irem, wp_ineg, wp_i2b, wp_i2s, wp_i2c, wp_i2l, wp_ladd, wp_lmul, wp_lcmp, wp_dup_i, wp_dup_r, wp_dup2, wp_pop, wp_getfield, wp_putfield, wp_getstatic, wp_iaload, wp_baload, wp_aaload, wp_iastore, wp_arraylength, wp_goto, wp_fall, wp_ieq, wp_ine, wp_ilt, wp_ige, wp_igt, wp_ile, wp_ceq, wp_cne, wp_clt, wp_cge, wp_cgt, wp_cle, wp_sw, wp_ret0, wp_ret1z, wp_ret1o, wp_ret1, wp_ret2, wp_ret3, wp_ret4, wp_ret5, wp_return, wp_min, wp_max, wp_abs, am_ex, gset_eq, gset_ne, upd_eq, upd_ne, gset_gset, am_ci_1, am_ci_6, am_toList_some, am_toList_none, true_implies, false_implies, and_self, and_true, true_and, not_true_eq_false, not_false_eq_true, imp_self, implies_true, Classical.not_not, if_true, if_false, false_and, and_false, or_false, false_or, true_or, or_true, Nat.reduceAdd, Nat.reduceMul, Nat.reduceSub, Nat.reduceLT, Nat.reduceLeDiff, Nat.reduceEqDiff, Nat.reduceBneDiff, Nat.add_zero, Nat.zero_add, reduceCtorEq, wil0, wal0, wis0, wic0, wil1, wal1, wis1, wic1, wil2, wll2, wal2, wis2, was2, wls2, wic2, wil3, wis3, wic3, wic3m, wic3s, wil4, wis4, wic4, wil5, wis5, wic5, wic5m, wil6, wll6, wal6, wis6, was6, wls6, wic6, wil7, wal7, wis7, was7, wic7, wil8, wis8, wic8, wil9, wis9, wic9, wil10, wis10, wic10, am_nI_inj, am_nI_lt, am_nI_le, nI_add, pk_mul, am_nI_sub, am_add_m1, am_gfs, am_pfs, am_alds, am_asts, am_lens, bs212, am_B212_0, am_B212_21, am_B212_27, C_X5_within, h1, bI_t, e2, fcs, f1]
    first | exact ⟨rfl, h, fun _ _ => rfl⟩ | exact ⟨h, fun _ _ => rfl⟩ | exact h
