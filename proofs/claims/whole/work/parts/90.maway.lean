/-! ===== the model's calls: away, swapFor ===== -/
theorem bst_ix {ok : Nat → Bool} {g : Nat → Nat} {b0 : Int32} : ∀ j, ((bst ok g nI b0 j).2 = 0 ∧ (bst ok g nI b0 j).1 = b0) ∨ ∃ x, x < j ∧ (bst ok g nI b0 j).1 = nI x
  | 0 => Or.inl ⟨rfl, rfl⟩
  | j + 1 => by
    have e : bst ok g nI b0 (j + 1) = if ok j = true ∧ (bst ok g nI b0 j).2 ≤ g j then (nI j, g j + 1) else bst ok g nI b0 j := rfl
    rw [e]
    by_cases hc : ok j = true ∧ (bst ok g nI b0 j).2 ≤ g j
    · rw [if_pos hc]; exact Or.inr ⟨j, by omega, rfl⟩
    · rw [if_neg hc]
      rcases bst_ix (ok := ok) (g := g) (b0 := b0) j with h | ⟨x, h1, h2⟩
      · exact Or.inl h
      · exact Or.inr ⟨x, by omega, h2⟩
theorem ME_gone {G : GG} {n i : Nat} {T : TT} {t z : Int32} (h : ME G 59 n T t z) : ME G 59 n (updT T 2 i 8) t z := by
  obtain ⟨a0, a1, a2, a3, a4, a5, a6, a7, a8, a9⟩ := h
  have hu : ∀ c j, ¬ c = 2 → updT T 2 i 8 c j = T c j := fun c j hc => if_neg (fun z => hc z.1)
  refine ⟨a0, a1, a2, fun s hs => by rw [hu _ _ (by omega)]; exact a3 s hs, fun p hp => by rw [hu _ _ (by omega)]; exact a4 p hp, fun j hj => by rw [hu _ _ (by omega)]; exact a5 j hj, fun j hj h2 => ?_, fun j hj => by rw [hu _ _ (by omega)]; exact a7 j hj, fun j hj => by rw [hu _ _ (by omega)]; exact a8 j hj, fun j hj => by rw [hu _ _ (by omega)]; exact a9 j hj⟩
  by_cases e : j = i
  · subst e
    have e1 : updT T 2 j 8 2 j = 8 := if_pos ⟨rfl, rfl⟩
    rw [e1] at h2; omega
  · have e1 : updT T 2 i 8 2 j = T 2 j := if_neg (fun z => e z.2)
    rw [e1] at h2 ⊢
    exact a6 j hj h2
theorem MSt_back7 {S : SS} {G : GG} (h7 : G 58 7 = nM) (h2 : ME G 61 S.1.1 S.1.2.1 (nI S.1.2.2.1) S.1.2.2.2) (h3 : MO S G) (hv : SV S) : MSt S (gset G 59 (cpr 61 (G 61) (G 59))) := by
  refine ⟨?_, ?_, MO_congr h3 ?_ ?_ (fun o ho => gset_ne ?_)⟩
  · refine ME_congr (G := G) (o := 61) hv.1.1.1 h2 (fun j hj => ?_)
    rw [gset_eq]; exact cpr_lt hj
  · rw [gset_ne (by omega)]; exact h7
  · rw [gset_ne (by omega)]
  · rw [gset_ne (by omega)]
  · unfold mdep at ho; omega
theorem CM_without {X : AmX} {S : SS} {G : GG} (h : MSt S G) (hv : SV S) (i : Nat) (hi : i < S.1.1) : ∃ G1, Ev X 122 [.ref 58, .int (nI i)] G (some (.int (nI (awaG S i)))) G1 ∧ MSt S G1 ∧ ∀ o, o < 58 → G1 o = G o := by
  have hv8 := hv.1.1.1
  have hi8 : i < 8 := by omega
  obtain ⟨G1, hC, hc1, hf1⟩ := CM_copy (X := X) h hv
  have hT2 : ∀ j, j < S.1.1 → (updT S.1.2.1 2 i 8 2 j = 8 ↔ j = i) := fun j hj => by
    have hp := hv.1.2.1 j hj
    by_cases e : j = i
    · subst e
      have e1 : updT S.1.2.1 2 j 8 2 j = 8 := if_pos ⟨rfl, rfl⟩
      rw [e1]; simp
    · have e1 : updT S.1.2.1 2 i 8 2 j = S.1.2.1 2 j := if_neg (fun z => e z.2)
      rw [e1]; omega
  have hVt : TV S.1.1 (updT S.1.2.1 2 i 8) := TV_set (k := 1) hv.1.1 hi (fun e => absurd e (by omega)) (fun _ => by omega) (fun e => absurd e (by omega)) (fun e => absurd e (by omega)) (fun e => absurd e (by omega)) (by omega)
  have hr : MR (gset G1 58 (upd (G1 58) 7 (nI i))) S.1.1 (updT S.1.2.1 2 i 8) (nI S.1.2.2.1) S.1.2.2.2 i := by
    refine ⟨ME_gone ?_, ?_, by omega, hT2, hVt⟩
    · have := hc1.1.1
      unfold ME at this ⊢
      rw [gset_ne (by omega)]; exact this
    · rw [gset_eq, upd_eq, eP_lt (by omega)]
  obtain ⟨G3, hev, hr3, hf3⟩ := X5_goes (X := X) hr
  have hD := fun (k : Nat) (r : List Instr) (lv : LV) (st : List Value) (Q : Option Value → GG → Prop) (hl : st.length ≤ 4) => WP_ev (k := k) (st := .ref 58 :: st) (rest := st) (r := r) (lv := lv) (Q := Q) hev (by decide) (c := 1) rfl rfl hl rfl
  have hM4 : ME (gset G3 58 (upd (G3 58) 7 nM)) 59 S.1.1 (stepN S.1.1 (updT S.1.2.1 2 i 8)) (nI S.1.2.2.1 + nI 1) S.1.2.2.2 := by
    have := hr3.1
    unfold ME at this ⊢
    rw [gset_ne (by omega)]; exact this
  have hV4 := hr3.2.2.2.2
  have h61 : ME (gset G3 58 (upd (G3 58) 7 nM)) 61 S.1.1 S.1.2.1 (nI S.1.2.2.1) S.1.2.2.2 := by
    have := hc1.2.1
    unfold ME at this ⊢
    rw [gset_ne (by omega), hf3 61 (by omega) (by omega) (by omega), gset_ne (by omega)]; exact this
  have h58 : ∀ f, ¬ f = 7 → gset G3 58 (upd (G3 58) 7 nM) 58 f = G1 58 f := fun f hf => by
    rw [gset_eq, upd_ne hf, hf3 58 (by omega) (by omega) (by omega), gset_eq, upd_ne hf]
  have hO : MO S (gset G3 58 (upd (G3 58) 7 nM)) := MO_congr hc1.2.2 (h58 3 (by omega)) (h58 9 (by omega)) (fun o ho => by
    unfold mdep at ho
    rw [gset_ne (by omega), hf3 o (by omega) (by omega) (by omega), gset_ne (by omega)])
  have hfr : ∀ o, o < 58 → gset G3 58 (upd (G3 58) 7 nM) o = G o := fun o ho => by
    rw [gset_ne (by omega), hf3 o (by omega) (by omega) (by omega), gset_ne (by omega)]; exact hf1 o ho
  have h7 : gset G3 58 (upd (G3 58) 7 nM) 58 7 = nM := by rw [gset_eq, upd_eq]
  have hd58 : gset G3 58 (upd (G3 58) 7 nM) = gset G3 58 (upd (G3 58) 7 nM) := rfl
  have f5 : gset G3 58 (upd (G3 58) 7 nM) 59 (21 + 5 * i + 4) = nI (runN S.1.1 1 (updT S.1.2.1 2 i 8) 5 i) := hM4.2.2.2.2.2.2.2.2.2 i hi
  have g5 : G3 59 (21 + 5 * i + 4) = nI (runN S.1.1 1 (updT S.1.2.1 2 i 8) 5 i) := by rw [gset_ne (by omega)] at f5; exact f5
  have hG := fun (k : Nat) (r : List Instr) (lv : LV) (st : List Value) (Q : Option Value → GG → Prop) (hl : st.length ≤ 4) => C_X5_goodsAll (X := X) (k := k) (st := st) (r := r) (lv := lv) (Q := Q) (G := gset G3 58 (upd (G3 58) 7 nM)) (n := S.1.1) (T := stepN S.1.1 (updT S.1.2.1 2 i 8)) hM4 hV4 hl
  have hsum := sumN_goods hV4
  have hmem := sumN_mem (f := stepN S.1.1 (updT S.1.2.1 2 i 8) 5) S.1.1 hi
  have er : runN S.1.1 1 (updT S.1.2.1 2 i 8) = stepN S.1.1 (updT S.1.2.1 2 i 8) := rfl
  have eg : awaG S i = sumN (stepN S.1.1 (updT S.1.2.1 2 i 8) 5) S.1.1 - stepN S.1.1 (updT S.1.2.1 2 i 8) 5 i := by
    unfold awaG
    rw [er]; omega
  rw [er] at g5 f5
  have hgl : stepN S.1.1 (updT S.1.2.1 2 i 8) 5 i ≤ sumN (stepN S.1.1 (updT S.1.2.1 2 i 8) 5) S.1.1 := hmem
  rw [eg]
  generalize stepN S.1.1 (updT S.1.2.1 2 i 8) 5 i = gi at *
  generalize sumN (stepN S.1.1 (updT S.1.2.1 2 i 8) 5) S.1.1 = su at *
  have hB := MSt_back7 h7 h61 hO hv
  refine ⟨_, Ev_of ?_, hB, fun o ho => by rw [gset_ne (by omega)]; exact hfr o ho⟩
  show WP X 122 (am_blk 122 0) [some (.ref 58), some (.int (nI i))] [] G _
  simp (config := { maxSteps := 1000000 }) (disch := first | exact am_nl_i | exact am_nl_r | exact am_nl_n | exact am_l0 | exact am_l1 | exact am_l2 | exact am_l3 | assumption | omega) only [wp_ldc, wp_sipush, wp_ldc_w, wp_lconst, wp_iadd, wp_isub, wp_imul, wp_iand, wp_ior, wp_ixor, wp_ishl, wp_ishr, wp_iushr, wp_idiv, wp_irem, wp_ineg, wp_i2b, wp_i2s, wp_i2c, wp_i2l, wp_ladd, wp_lmul, wp_lcmp, wp_dup_i, wp_dup_r, wp_dup2, wp_pop, wp_getfield, wp_putfield, wp_getstatic, wp_iaload, wp_baload, wp_aaload, wp_iastore, wp_arraylength, wp_goto, wp_fall, wp_ieq, wp_ine, wp_ilt, wp_ige, wp_igt, wp_ile, wp_ceq, wp_cne, wp_clt, wp_cge, wp_cgt, wp_cle, wp_sw, wp_ret0, wp_ret1z, wp_ret1o, wp_ret1, wp_ret2, wp_ret3, wp_ret4, wp_ret5, wp_return, wp_min, wp_max, wp_abs, am_ex, gset_eq, gset_ne, upd_eq, upd_ne, gset_gset, am_ci_1, am_ci_6, am_toList_some, am_toList_none, true_implies, false_implies, and_self, and_true, true_and, not_true_eq_false, not_false_eq_true, imp_self, implies_true, Classical.not_not, if_true, if_false, false_and, and_false, or_false, false_or, true_or, or_true, Nat.reduceAdd, Nat.reduceMul, Nat.reduceSub, Nat.reduceLT, Nat.reduceLeDiff, Nat.reduceEqDiff, Nat.reduceBneDiff, Nat.add_zero, Nat.zero_add, reduceCtorEq, wil0, wal0, wis0, wic0, wil1, wal1, wis1, wic1, wil2, wll2, wal2, wis2, was2, wls2, wic2, wil3, wis3, wic3, wic3m, wic3s, wil4, wis4, wic4, wil5, wis5, wic5, wic5m, wil6, wll6, wal6, wis6, was6, wls6, wic6, wil7, wal7, wis7, was7, wic7, wil8, wis8, wic8, wil9, wis9, wic9, wil10, wis10, wic10, am_nI_inj, am_nI_lt, am_nI_le, nI_add, pk_mul, am_nI_sub, am_add_m1, am_gfs, am_pfs, am_alds, am_asts, am_lens, bs122, am_B122_0, hC, hD, fcs, hG, C_X5_personIs, g5, C_X5_putBack]
theorem MT_away {X : AmX} {S : SS} {G : GG} (h : MSt S G) (hv : SV S) : MW X 121 [.ref 58] G (sp_away S) := by
  have hE := h.1
  have f0 := hE.2.1
  have hv8 := hv.1.1.1
  have hm := MS_MR h hv
  unfold MW sp_away
  have e2 : (nI 1 = nI 0) = False := eq_false (by decide)
  show WP X 121 (am_blk 121 0) [some (.ref 58), none, none, none, none] [] G _
  generalize hB : bst (fun _ => true) (awaG S) nI nM = B
  have hBs : ∀ j, B (j + 1) = if (fun _ => true) j = true ∧ (B j).2 ≤ awaG S j then (nI j, awaG S j + 1) else B j := fun j => by rw [← hB]; rfl
  have hBle : ∀ j, (B j).2 ≤ 800000 + 1 := fun j => by rw [← hB]; exact bst_le (fun j => Nat.min_le_left _ _) j
  have hfin : ∀ G' : GG, MSt S G' → (∀ o, o < 58 → G' o = G o) → ((∃ x, x < 8 ∧ (B S.1.1).1 = nI x ∧ ((if S.1.1 = 0 then sFnd S 3 else ((awaN S S.1.1).1, S)) = (nI x, S))) ∨ ((B S.1.1).1 = nM ∧ (if S.1.1 = 0 then sFnd S 3 else ((awaN S S.1.1).1, S)) = sFnd S 3)) := by
    intro G' _ _
    by_cases hn : S.1.1 = 0
    · right
      rw [if_pos hn, hn, ← hB]
      exact ⟨rfl, rfl⟩
    · left
      have hpos := bst_pos (ok := fun _ => true) (g := awaG S) (v := nI) (b0 := nM) (a := 0) rfl (S.1.1 - 1)
      rw [show 0 + 1 + (S.1.1 - 1) = S.1.1 by omega] at hpos
      have he := (bst_b0 (ok := fun _ => true) (g := awaG S) (v := nI) (b0 := nM) (b1 := nI 0) S.1.1).2 (by omega)
      rcases bst_ix (ok := fun _ => true) (g := awaG S) (b0 := nM) S.1.1 with hz | ⟨x, h1, h2⟩
      · omega
      · refine ⟨x, by omega, by rw [← hB]; exact h2, ?_⟩
        rw [if_neg hn]
        have : (awaN S S.1.1).1 = nI x := by rw [← h2, he]; rfl
        rw [this]
  generalize hR : (if S.1.1 = 0 then sFnd S 3 else ((awaN S S.1.1).1, S)) = R at hfin ⊢
  generalize hQ : (fun (w : Option Value) (G1 : GG) => w = some (.int R.1) ∧ MSt R.2 G1 ∧ ∀ o, o < 58 → G1 o = G o) = Q
  have key : ∀ d j : Nat, j + d = S.1.1 → ∀ (G' : GG) (v4 : Option Value), MSt S G' → (∀ o, o < 58 → G' o = G o) → WP X 121 (am_blk 121 6) [some (.ref 58), some (.int (B j).1), some (.int (mI (B j).2)), some (.int (nI j)), v4] [] G' Q := by
    intro d
    induction d with
    | zero =>
      intro j hj G' v4 hc hf
      have hj' : j = S.1.1 := by omega
      have g0 := hc.1.2.1
      rw [hj', bh121_6, ← hQ]
      rcases hfin G' hc hf with ⟨x, hx, e1, e3⟩ | ⟨e1, e3⟩
      · rw [e1, e3]
        simp (config := { maxSteps := 1000000 }) (disch := first | exact am_nl_i | exact am_nl_r | exact am_nl_n | exact am_l0 | exact am_l1 | exact am_l2 | exact am_l3 | assumption | omega) only [wp_ldc, wp_sipush, wp_ldc_w, wp_lconst, wp_iadd, wp_isub, wp_imul, wp_iand, wp_ior, wp_ixor, wp_ishl, wp_ishr, wp_iushr, wp_idiv, wp_irem, wp_ineg, wp_i2b, wp_i2s, wp_i2c, wp_i2l, wp_ladd, wp_lmul, wp_lcmp, wp_dup_i, wp_dup_r, wp_dup2, wp_pop, wp_getfield, wp_putfield, wp_getstatic, wp_iaload, wp_baload, wp_aaload, wp_iastore, wp_arraylength, wp_goto, wp_fall, wp_ieq, wp_ine, wp_ilt, wp_ige, wp_igt, wp_ile, wp_ceq, wp_cne, wp_clt, wp_cge, wp_cgt, wp_cle, wp_sw, wp_ret0, wp_ret1z, wp_ret1o, wp_ret1, wp_ret2, wp_ret3, wp_ret4, wp_ret5, wp_return, wp_min, wp_max, wp_abs, am_ex, gset_eq, gset_ne, upd_eq, upd_ne, gset_gset, am_ci_1, am_ci_6, am_toList_some, am_toList_none, true_implies, false_implies, and_self, and_true, true_and, not_true_eq_false, not_false_eq_true, imp_self, implies_true, Classical.not_not, if_true, if_false, false_and, and_false, or_false, false_or, true_or, or_true, Nat.reduceAdd, Nat.reduceMul, Nat.reduceSub, Nat.reduceLT, Nat.reduceLeDiff, Nat.reduceEqDiff, Nat.reduceBneDiff, Nat.add_zero, Nat.zero_add, reduceCtorEq, wil0, wal0, wis0, wic0, wil1, wal1, wis1, wic1, wil2, wll2, wal2, wis2, was2, wls2, wic2, wil3, wis3, wic3, wic3m, wic3s, wil4, wis4, wic4, wil5, wis5, wic5, wic5m, wil6, wll6, wal6, wis6, was6, wls6, wic6, wil7, wal7, wis7, was7, wic7, wil8, wis8, wic8, wil9, wis9, wic9, wil10, wis10, wic10, am_nI_inj, am_nI_lt, am_nI_le, nI_add, pk_mul, am_nI_sub, am_add_m1, am_gfs, am_pfs, am_alds, am_asts, am_lens, bk121_48, am_B121_6, am_B121_48, g0, Nat.le_refl, C_X5_orNone]
        first | exact ⟨rfl, hc, hf⟩ | exact ⟨hc, hf⟩
      · rw [e1, e3]
        simp (config := { maxSteps := 1000000 }) (disch := first | exact am_nl_i | exact am_nl_r | exact am_nl_n | exact am_l0 | exact am_l1 | exact am_l2 | exact am_l3 | assumption | omega) only [wp_ldc, wp_sipush, wp_ldc_w, wp_lconst, wp_iadd, wp_isub, wp_imul, wp_iand, wp_ior, wp_ixor, wp_ishl, wp_ishr, wp_iushr, wp_idiv, wp_irem, wp_ineg, wp_i2b, wp_i2s, wp_i2c, wp_i2l, wp_ladd, wp_lmul, wp_lcmp, wp_dup_i, wp_dup_r, wp_dup2, wp_pop, wp_getfield, wp_putfield, wp_getstatic, wp_iaload, wp_baload, wp_aaload, wp_iastore, wp_arraylength, wp_goto, wp_fall, wp_ieq, wp_ine, wp_ilt, wp_ige, wp_igt, wp_ile, wp_ceq, wp_cne, wp_clt, wp_cge, wp_cgt, wp_cle, wp_sw, wp_ret0, wp_ret1z, wp_ret1o, wp_ret1, wp_ret2, wp_ret3, wp_ret4, wp_ret5, wp_return, wp_min, wp_max, wp_abs, am_ex, gset_eq, gset_ne, upd_eq, upd_ne, gset_gset, am_ci_1, am_ci_6, am_toList_some, am_toList_none, true_implies, false_implies, and_self, and_true, true_and, not_true_eq_false, not_false_eq_true, imp_self, implies_true, Classical.not_not, if_true, if_false, false_and, and_false, or_false, false_or, true_or, or_true, Nat.reduceAdd, Nat.reduceMul, Nat.reduceSub, Nat.reduceLT, Nat.reduceLeDiff, Nat.reduceEqDiff, Nat.reduceBneDiff, Nat.add_zero, Nat.zero_add, reduceCtorEq, wil0, wal0, wis0, wic0, wil1, wal1, wis1, wic1, wil2, wll2, wal2, wis2, was2, wls2, wic2, wil3, wis3, wic3, wic3m, wic3s, wil4, wis4, wic4, wil5, wis5, wic5, wic5m, wil6, wll6, wal6, wis6, was6, wls6, wic6, wil7, wal7, wis7, was7, wic7, wil8, wis8, wic8, wil9, wis9, wic9, wil10, wis10, wic10, am_nI_inj, am_nI_lt, am_nI_le, nI_add, pk_mul, am_nI_sub, am_add_m1, am_gfs, am_pfs, am_alds, am_asts, am_lens, bk121_48, am_B121_6, am_B121_48, g0, Nat.le_refl, C_orNoneM]
        first
          | exact ⟨rfl, MSt_fnd hc (f := 3) (by omega), fun o ho => (mfnd_frame o ho).trans (hf o ho)⟩
          | exact ⟨MSt_fnd hc (f := 3) (by omega), fun o ho => (mfnd_frame o ho).trans (hf o ho)⟩
    | succ d ih =>
      intro j hj G' v4 hc hf
      have hjn : j < S.1.1 := by omega
      have hj8 : j < 8 := by omega
      have g0 := hc.1.2.1
      have q1 : (S.1.1 ≤ j) = False := eq_false (by omega)
      obtain ⟨G1, hev, hc1, hf1⟩ := CM_without (X := X) hc hv j hjn
      have hD := fun (k : Nat) (r : List Instr) (lv : LV) (st : List Value) (Q : Option Value → GG → Prop) (hl : st.length ≤ 4) => WP_ev (k := k) (st := .int (nI j) :: .ref 58 :: st) (rest := st) (r := r) (lv := lv) (Q := Q) hev (by decide) (c := 2) rfl rfl hl rfl
      have hle := hBle j
      have hBsj := hBs j
      have l5 : awaG S j ≤ 800000 := Nat.min_le_left _ _
      have q5 := mI_le (m := (B j).2) (g := awaG S j) (by omega) (by omega)
      have q6 := mI_ltg (m := (B j).2) (g := awaG S j) (by omega) (by omega)
      have ihk := fun v4 => ih (j + 1) (by omega) G1 v4 hc1 (fun o ho => (hf1 o ho).trans (hf o ho))
      rw [bh121_6]
      by_cases hb : (B j).2 ≤ awaG S j
      · rw [if_pos ⟨rfl, hb⟩] at hBsj
        rw [hBsj] at ihk
        have e5 : mI (awaG S j + 1) = nI (awaG S j) := mI_s _
        simp only [e5] at ihk
        rw [eq_false (by omega : ¬ awaG S j + 1 ≤ (B j).2)] at q5
        rw [eq_true hb] at q6
        simp (config := { maxSteps := 1000000 }) (disch := first | exact am_nl_i | exact am_nl_r | exact am_nl_n | exact am_l0 | exact am_l1 | exact am_l2 | exact am_l3 | assumption | omega) only [wp_ldc, wp_sipush, wp_ldc_w, wp_lconst, wp_iadd, wp_isub, wp_imul, wp_iand, wp_ior, wp_ixor, wp_ishl, wp_ishr, wp_iushr, wp_idiv, wp_irem, wp_ineg, wp_i2b, wp_i2s, wp_i2c, wp_i2l, wp_ladd, wp_lmul, wp_lcmp, wp_dup_i, wp_dup_r, wp_dup2, wp_pop, wp_getfield, wp_putfield, wp_getstatic, wp_iaload, wp_baload, wp_aaload, wp_iastore, wp_arraylength, wp_goto, wp_fall, wp_ieq, wp_ine, wp_ilt, wp_ige, wp_igt, wp_ile, wp_ceq, wp_cne, wp_clt, wp_cge, wp_cgt, wp_cle, wp_sw, wp_ret0, wp_ret1z, wp_ret1o, wp_ret1, wp_ret2, wp_ret3, wp_ret4, wp_ret5, wp_return, wp_min, wp_max, wp_abs, am_ex, gset_eq, gset_ne, upd_eq, upd_ne, gset_gset, am_ci_1, am_ci_6, am_toList_some, am_toList_none, true_implies, false_implies, and_self, and_true, true_and, not_true_eq_false, not_false_eq_true, imp_self, implies_true, Classical.not_not, if_true, if_false, false_and, and_false, or_false, false_or, true_or, or_true, Nat.reduceAdd, Nat.reduceMul, Nat.reduceSub, Nat.reduceLT, Nat.reduceLeDiff, Nat.reduceEqDiff, Nat.reduceBneDiff, Nat.add_zero, Nat.zero_add, reduceCtorEq, wil0, wal0, wis0, wic0, wil1, wal1, wis1, wic1, wil2, wll2, wal2, wis2, was2, wls2, wic2, wil3, wis3, wic3, wic3m, wic3s, wil4, wis4, wic4, wil5, wis5, wic5, wic5m, wil6, wll6, wal6, wis6, was6, wls6, wic6, wil7, wal7, wis7, was7, wic7, wil8, wis8, wic8, wil9, wis9, wic9, wil10, wis10, wic10, am_nI_inj, am_nI_lt, am_nI_le, nI_add, pk_mul, am_nI_sub, am_add_m1, am_gfs, am_pfs, am_alds, am_asts, am_lens, bk121_33, bk121_34, am_B121_6, am_B121_33, am_B121_34, bn121_6, g0, q1, q5, q6, hD]
        exact ihk _
      · rw [if_neg (fun z => hb z.2)] at hBsj
        rw [hBsj] at ihk
        rw [eq_true (by omega : awaG S j + 1 ≤ (B j).2)] at q5
        rw [eq_false hb] at q6
        simp (config := { maxSteps := 1000000 }) (disch := first | exact am_nl_i | exact am_nl_r | exact am_nl_n | exact am_l0 | exact am_l1 | exact am_l2 | exact am_l3 | assumption | omega) only [wp_ldc, wp_sipush, wp_ldc_w, wp_lconst, wp_iadd, wp_isub, wp_imul, wp_iand, wp_ior, wp_ixor, wp_ishl, wp_ishr, wp_iushr, wp_idiv, wp_irem, wp_ineg, wp_i2b, wp_i2s, wp_i2c, wp_i2l, wp_ladd, wp_lmul, wp_lcmp, wp_dup_i, wp_dup_r, wp_dup2, wp_pop, wp_getfield, wp_putfield, wp_getstatic, wp_iaload, wp_baload, wp_aaload, wp_iastore, wp_arraylength, wp_goto, wp_fall, wp_ieq, wp_ine, wp_ilt, wp_ige, wp_igt, wp_ile, wp_ceq, wp_cne, wp_clt, wp_cge, wp_cgt, wp_cle, wp_sw, wp_ret0, wp_ret1z, wp_ret1o, wp_ret1, wp_ret2, wp_ret3, wp_ret4, wp_ret5, wp_return, wp_min, wp_max, wp_abs, am_ex, gset_eq, gset_ne, upd_eq, upd_ne, gset_gset, am_ci_1, am_ci_6, am_toList_some, am_toList_none, true_implies, false_implies, and_self, and_true, true_and, not_true_eq_false, not_false_eq_true, imp_self, implies_true, Classical.not_not, if_true, if_false, false_and, and_false, or_false, false_or, true_or, or_true, Nat.reduceAdd, Nat.reduceMul, Nat.reduceSub, Nat.reduceLT, Nat.reduceLeDiff, Nat.reduceEqDiff, Nat.reduceBneDiff, Nat.add_zero, Nat.zero_add, reduceCtorEq, wil0, wal0, wis0, wic0, wil1, wal1, wis1, wic1, wil2, wll2, wal2, wis2, was2, wls2, wic2, wil3, wis3, wic3, wic3m, wic3s, wil4, wis4, wic4, wil5, wis5, wic5, wic5m, wil6, wll6, wal6, wis6, was6, wls6, wic6, wil7, wal7, wis7, was7, wic7, wil8, wis8, wic8, wil9, wis9, wic9, wil10, wis10, wic10, am_nI_inj, am_nI_lt, am_nI_le, nI_add, pk_mul, am_nI_sub, am_add_m1, am_gfs, am_pfs, am_alds, am_asts, am_lens, bk121_33, bk121_34, am_B121_6, am_B121_33, am_B121_34, bn121_6, g0, q1, q5, q6, hD]
        exact ihk _
  have k0 := key S.1.1 0 (by omega) G none h (fun _ _ => rfl)
  have e0 : B 0 = (nM, 0) := by rw [← hB]; rfl
  have em : mI 0 = nM := rfl
  rw [e0] at k0
  simp only [em] at k0
  simp (config := { maxSteps := 1000000 }) (disch := first | exact am_nl_i | exact am_nl_r | exact am_nl_n | exact am_l0 | exact am_l1 | exact am_l2 | exact am_l3 | assumption | omega) only [wp_ldc, wp_sipush, wp_ldc_w, wp_lconst, wp_iadd, wp_isub, wp_imul, wp_iand, wp_ior, wp_ixor, wp_ishl, wp_ishr, wp_iushr, wp_idiv, wp_irem, wp_ineg, wp_i2b, wp_i2s, wp_i2c, wp_i2l, wp_ladd, wp_lmul, wp_lcmp, wp_dup_i, wp_dup_r, wp_dup2, wp_pop, wp_getfield, wp_putfield, wp_getstatic, wp_iaload, wp_baload, wp_aaload, wp_iastore, wp_arraylength, wp_goto, wp_fall, wp_ieq, wp_ine, wp_ilt, wp_ige, wp_igt, wp_ile, wp_ceq, wp_cne, wp_clt, wp_cge, wp_cgt, wp_cle, wp_sw, wp_ret0, wp_ret1z, wp_ret1o, wp_ret1, wp_ret2, wp_ret3, wp_ret4, wp_ret5, wp_return, wp_min, wp_max, wp_abs, am_ex, gset_eq, gset_ne, upd_eq, upd_ne, gset_gset, am_ci_1, am_ci_6, am_toList_some, am_toList_none, true_implies, false_implies, and_self, and_true, true_and, not_true_eq_false, not_false_eq_true, imp_self, implies_true, Classical.not_not, if_true, if_false, false_and, and_false, or_false, false_or, true_or, or_true, Nat.reduceAdd, Nat.reduceMul, Nat.reduceSub, Nat.reduceLT, Nat.reduceLeDiff, Nat.reduceEqDiff, Nat.reduceBneDiff, Nat.add_zero, Nat.zero_add, reduceCtorEq, wil0, wal0, wis0, wic0, wil1, wal1, wis1, wic1, wil2, wll2, wal2, wis2, was2, wls2, wic2, wil3, wis3, wic3, wic3m, wic3s, wil4, wis4, wic4, wil5, wis5, wic5, wic5m, wil6, wll6, wal6, wis6, was6, wls6, wic6, wil7, wal7, wis7, was7, wic7, wil8, wis8, wic8, wil9, wis9, wic9, wil10, wis10, wic10, am_nI_inj, am_nI_lt, am_nI_le, nI_add, pk_mul, am_nI_sub, am_add_m1, am_gfs, am_pfs, am_alds, am_asts, am_lens, bk121_0, am_B121_0, bn121_6, fcs]
  exact k0
theorem CM_swap {X : AmX} {S : SS} {G : GG} (h : MSt S G) (hv : SV S) (a b x : Nat) (ha : a < S.1.1) (hb : b < S.1.1) (hx : x ≤ 40) : ∃ G1, Ev X 126 [.ref 58, .int (nI a), .int (nI b), .int (nI x)] G (some (.int (nI (swpG S x a b)))) G1 ∧ MSt S G1 ∧ ∀ o, o < 58 → G1 o = G o := by
  have hv8 := hv.1.1.1
  have ha8 : a < 8 := by omega
  have hb8 : b < 8 := by omega
  obtain ⟨G1, hC, hc1, hf1⟩ := CM_copy (X := X) h hv
  have hpa := hv.1.2.1 a ha
  have hpb := hv.1.2.1 b hb
  have c1 := hc1.1.1.2.2.2.2.2.2.1 a ha hpa
  have c2 := hc1.1.1.2.2.2.2.2.2.1 b hb hpb
  have e12 : (1 + 1 : Nat) = 2 := rfl
  have hM1 := ME_set (i := a) (k := 1) (x := S.1.2.1 2 b) (v := nI (S.1.2.1 2 b)) hc1.1.1 hv8 ha (by omega) (fun e => absurd rfl e) (fun _ _ => rfl)
  have hM2 := ME_set (i := b) (k := 1) (x := S.1.2.1 2 a) (v := nI (S.1.2.1 2 a)) hM1 hv8 hb (by omega) (fun e => absurd rfl e) (fun _ _ => rfl)
  have hV1 := TV_set (i := a) (k := 1) (x := S.1.2.1 2 b) hv.1.1 ha (fun e => absurd e (by omega)) (fun _ => by omega) (fun e => absurd e (by omega)) (fun e => absurd e (by omega)) (fun e => absurd e (by omega)) (by omega)
  have hV2 := TV_set (i := b) (k := 1) (x := S.1.2.1 2 a) hV1 hb (fun e => absurd e (by omega)) (fun _ => by omega) (fun e => absurd e (by omega)) (fun e => absurd e (by omega)) (fun e => absurd e (by omega)) (by omega)
  rw [gset_gset, gset_eq] at hM2
  have hM2 : ME (gset G1 59 (upd (upd (G1 59) (21 + 5 * a + 1) (nI (S.1.2.1 2 b))) (21 + 5 * b + 1) (nI (S.1.2.1 2 a)))) 59 S.1.1 (swpT S.1.2.1 a b) (nI S.1.2.2.1) S.1.2.2.2 := hM2
  have hV2 : TV S.1.1 (swpT S.1.2.1 a b) := hV2
  have hpl : ∀ i, i < S.1.1 → swpT S.1.2.1 a b 2 i < 8 := fun i hi => by
    have := hv.1.2.1 i hi
    unfold swpT updT
    split
    · exact hpa
    · split
      · exact hpb
      · exact this
  have hr : MR (gset G1 59 (upd (upd (G1 59) (21 + 5 * a + 1) (nI (S.1.2.1 2 b))) (21 + 5 * b + 1) (nI (S.1.2.1 2 a)))) S.1.1 (swpT S.1.2.1 a b) (nI S.1.2.2.1) S.1.2.2.2 8 := MR_of hM2 (by rw [gset_ne (by omega)]; exact hc1.1.2.1) hV2 hpl
  have hc2 := MTS_row hc1 hr (fun o h1 h2 h3 => gset_ne h1)
  have hf2 : ∀ o, o < 58 → gset G1 59 (upd (upd (G1 59) (21 + 5 * a + 1) (nI (S.1.2.1 2 b))) (21 + 5 * b + 1) (nI (S.1.2.1 2 a))) o = G o := fun o ho => by rw [gset_ne (by omega)]; exact hf1 o ho
  obtain ⟨G3, hD, hc3, hf3⟩ := CM_goesOn (X := X) x (by omega) hc2
  have hG := fun (k : Nat) (r : List Instr) (lv : LV) (st : List Value) (Q : Option Value → GG → Prop) (hl : st.length ≤ 4) => C_X5_goodsAll (X := X) (k := k) (st := st) (r := r) (lv := lv) (Q := Q) (G := G3) (n := S.1.1) (T := runN S.1.1 x (swpT S.1.2.1 a b)) hc3.1.1 (TV_run x hV2) hl
  obtain ⟨G4, hP, hc4, hf4⟩ := CM_put (X := X) hc3 hv
  have hsum := sumN_goods (TV_run x hV2)
  have eg : swpG S x a b = sumN (runN S.1.1 x (swpT S.1.2.1 a b) 5) S.1.1 := by unfold swpG; omega
  rw [eg]
  refine ⟨G4, Ev_of ?_, hc4, fun o ho => (hf4 o ho).trans ((hf3 o ho).trans (hf2 o ho))⟩
  show WP X 126 (am_blk 126 0) [some (.ref 58), some (.int (nI a)), some (.int (nI b)), some (.int (nI x)), none] [] G _
  have ha61 : 21 + 5 * a + 1 < 61 := by omega
  simp (config := { maxSteps := 1000000 }) (disch := first | exact am_nl_i | exact am_nl_r | exact am_nl_n | exact am_l0 | exact am_l1 | exact am_l2 | exact am_l3 | assumption | omega) only [wp_ldc, wp_sipush, wp_ldc_w, wp_lconst, wp_iadd, wp_isub, wp_imul, wp_iand, wp_ior, wp_ixor, wp_ishl, wp_ishr, wp_iushr, wp_idiv, wp_irem, wp_ineg, wp_i2b, wp_i2s, wp_i2c, wp_i2l, wp_ladd, wp_lmul, wp_lcmp, wp_dup_i, wp_dup_r, wp_dup2, wp_pop, wp_getfield, wp_putfield, wp_getstatic, wp_iaload, wp_baload, wp_aaload, wp_iastore, wp_arraylength, wp_goto, wp_fall, wp_ieq, wp_ine, wp_ilt, wp_ige, wp_igt, wp_ile, wp_ceq, wp_cne, wp_clt, wp_cge, wp_cgt, wp_cle, wp_sw, wp_ret0, wp_ret1z, wp_ret1o, wp_ret1, wp_ret2, wp_ret3, wp_ret4, wp_ret5, wp_return, wp_min, wp_max, wp_abs, am_ex, gset_eq, gset_ne, upd_eq, upd_ne, gset_gset, am_ci_1, am_ci_6, am_toList_some, am_toList_none, true_implies, false_implies, and_self, and_true, true_and, not_true_eq_false, not_false_eq_true, imp_self, implies_true, Classical.not_not, if_true, if_false, false_and, and_false, or_false, false_or, true_or, or_true, Nat.reduceAdd, Nat.reduceMul, Nat.reduceSub, Nat.reduceLT, Nat.reduceLeDiff, Nat.reduceEqDiff, Nat.reduceBneDiff, Nat.add_zero, Nat.zero_add, reduceCtorEq, wil0, wal0, wis0, wic0, wil1, wal1, wis1, wic1, wil2, wll2, wal2, wis2, was2, wls2, wic2, wil3, wis3, wic3, wic3m, wic3s, wil4, wis4, wic4, wil5, wis5, wic5, wic5m, wil6, wll6, wal6, wis6, was6, wls6, wic6, wil7, wal7, wis7, was7, wic7, wil8, wis8, wic8, wil9, wis9, wic9, wil10, wis10, wic10, am_nI_inj, am_nI_lt, am_nI_le, nI_add, pk_mul, am_nI_sub, am_add_m1, am_gfs, am_pfs, am_alds, am_asts, am_lens, bs126, am_B126_0, hC, C_X5_at, C_X5_personIs, c1, c2, C_X5_become, hD, hG, hP]
