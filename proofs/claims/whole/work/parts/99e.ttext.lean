/-! ===== texts: the class's call ===== -/
def f0I : Nat → Itm := fun _ => (0, 0, 0, 0)
def txR (S : SS) : Bool × Cur × Nat × (Nat → Itm) := prs S.2.2.2.2.2 S.2.2.2.2.1 61 0 f0I S.1.1 (nxt S.2.2.2.2.2 S.2.2.2.2.1 0)
def txW (S : SS) : SS := (S.1, S.2.1, S.2.2.1, S.2.2.2.1, (0, S.2.2.2.2.2))
def txT (S : SS) : TW := ((appN (txR S).2.2.2 (S.1.1, S.1.2.1) (txR S).2.2.1).1, (appN (txR S).2.2.2 (S.1.1, S.1.2.1) (txR S).2.2.1).2, S.1.2.2)
def sp_text (S : SS) : Int32 × SS := if (txR S).1 = true then (nM - nI (txR S).2.1.1, txW S) else (nI (txR S).2.2.1, sTown (txW S) (txT S))
theorem CSt_wiped {S : SS} {G G1 : GG} (h : CSt S G) (e : ∀ o, cdep o → ¬ o = 46 → G1 o = G o) (e46 : G1 46 1 = nI 0) : CSt (txW S) G1 := by
  obtain ⟨h1, h2, h3, h4, h5, h6⟩ := h
  refine ⟨TE_congr h1 (fun o a b => e o (by unfold cdep; omega) (by omega)), h2, ⟨by rw [e 0 (by unfold cdep; omega) (by omega)]; exact h3.1, fun hk => ⟨TE_congr (h3.2 hk).1 (fun o a b => e o (by unfold cdep; omega) (by omega)), (h3.2 hk).2⟩⟩, fun f hf => by rw [e 57 (by unfold cdep; omega) (by omega)]; exact h4 f hf, fun s hs => ?_, ⟨e46, Nat.zero_le _, fun i hi => absurd hi (Nat.not_lt_zero i)⟩⟩
  rw [e (49 + 2 * s) (by unfold cdep; omega) (by omega), e (50 + 2 * s) (by unfold cdep; omega) (by omega)]
  exact h5 s hs
theorem prs_ok {b : Nat → Nat} {n t : Nat} {w : Nat × TT} {z : Int32} : ∀ (d k : Nat) (g : Nat → Itm) (c : Cur) (m : Nat), (appN g w k).1 = m → TWV ((appN g w k).1, (appN g w k).2, t, z) → CV n c → (prs b n d k g m c).1 = false → TWV ((appN (prs b n d k g m c).2.2.2 w (prs b n d k g m c).2.2.1).1, (appN (prs b n d k g m c).2.2.2 w (prs b n d k g m c).2.2.1).2, t, z)
  | 0, k, g, c, m, _, _, _, hr => absurd (show true = false from hr) (by decide)
  | d + 1, k, g, c, m, hm, hw, hv, hr => by
    have hps : prs b n (d + 1) k g m c = if (pI b n m c).1.1 = true then (true, (pI b n m c).1.2, k, g) else if (pI b n m c).1.2.2.2.1 = 0 then (false, (pI b n m c).1.2, k + 1, fU g k (pI b n m c).2) else if (pI b n m c).1.2.2.2.1 = 3 then prs b n d (k + 1) (fU g k (pI b n m c).2) (itM m (pI b n m c).2) (nxt b n (pI b n m c).1.2.2.1) else (true, (pI b n m c).1.2, k, g) := rfl
    rw [hps] at hr ⊢
    have hm8 : m ≤ 8 := by rw [← hm]; exact hw.1.1
    have hok := pI_ok (b := b) (n := n) (m := m) (c := c) hv hm8
    generalize pI b n m c = P at *
    by_cases h1 : P.1.1 = true
    · rw [if_pos h1] at hr
      exact absurd (show true = false from hr) (by decide)
    · rw [if_neg h1] at hr ⊢
      rw [Bool.not_eq_true] at h1
      obtain ⟨hiv, hcv, _⟩ := hok h1
      have hw2 : TWV ((itT (appN g w k) P.2).1, (itT (appN g w k) P.2).2, t, z) := by
        rw [← hm] at hiv
        exact TWV_item hw hiv
      have hap : appN (fU g k P.2) w (k + 1) = itT (appN g w k) P.2 := appN_fU g w k P.2
      by_cases h2 : P.1.2.2.2.1 = 0
      · rw [if_pos h2]
        show TWV ((appN (fU g k P.2) w (k + 1)).1, (appN (fU g k P.2) w (k + 1)).2, t, z)
        rw [hap]; exact hw2
      · rw [if_neg h2] at hr ⊢
        by_cases h3 : P.1.2.2.2.1 = 3
        · rw [if_pos h3] at hr ⊢
          exact prs_ok d (k + 1) (fU g k P.2) (nxt b n P.1.2.2.1) (itM m P.2) (by rw [hap, itM_T, hm]) (by rw [hap]; exact hw2) (nxt_ok hcv.2.1).1 hr
        · rw [if_neg h3] at hr
          exact absurd (show true = false from hr) (by decide)
theorem txT_ok {S : SS} (hv : SV S) (h : (txR S).1 = false) : TWV (txT S) := by
  have hw : TWV ((appN f0I (S.1.1, S.1.2.1) 0).1, (appN f0I (S.1.1, S.1.2.1) 0).2, S.1.2.2.1, S.1.2.2.2) := hv.1
  exact prs_ok (w := (S.1.1, S.1.2.1)) 61 0 f0I (nxt S.2.2.2.2.2 S.2.2.2.2.1 0) S.1.1 rfl hw (nxt_ok (Nat.zero_le _)).1 h
theorem CT_text {X : AmX} {S : SS} {G : GG} (h : CSt S G) : CW X 153 [.ref 0] G (sp_text S) := by
  have hE := h.1
  unfold TWE at hE
  have f0 := hE.1
  have hv8 := h.2.1.1.1
  unfold CW sp_text
  have hb := tb1
  have hb12 := tb12
  have hb23 := tb23
  have e2 : (nI 1 = nI 0) = False := eq_false (by decide)
  show WP X 153 (am_blk 153 0) [some (.ref 0), none] [] G _
  obtain ⟨G1, hev1, hE1, hf1⟩ := X3_become (X := X) 34 1 S.1.1 S.1.2.1 S.1.2.2.1 S.1.2.2.2 tb34 tb1 (by decide) hE hv8
  have hA := fun (k : Nat) (r : List Instr) (lv : LV) (st : List Value) (Q : Option Value → GG → Prop) (hl : st.length ≤ 4) => WP_ev (k := k) (st := .ref 1 :: .ref 34 :: st) (rest := st) (r := r) (lv := lv) (Q := Q) hev1 (by decide) (c := 2) rfl rfl hl rfl
  have hTp := h.2.2.2.2.2
  have h46 : G1 46 1 = nI S.2.2.2.2.1 := by rw [hf1 46 (by omega)]; exact hTp.1
  have hTB : TBy G1 47 S.2.2.2.2.1 S.2.2.2.2.2 := ⟨hTp.2.1, fun i hi => by rw [hf1 47 (by omega)]; exact hTp.2.2 i hi⟩
  obtain ⟨G2, hev2, hr1, hr2, hf2⟩ := X2_readItems (X := X) (w := (S.1.1, S.1.2.1)) h46 hTB hE1 hv8 f0I
  have hev2 : Ev X 154 [.ref 45] G1 (some (.int (bI (!(txR S).1)))) G2 := hev2
  have hr1 : (txR S).1 = true → G2 45 3 = nI (txR S).2.1.1 := hr1
  have hr2 : (txR S).1 = false → G2 45 2 = nI (txR S).2.2.1 ∧ TE G2 34 (appN (txR S).2.2.2 (S.1.1, S.1.2.1) (txR S).2.2.1).1 (appN (txR S).2.2.2 (S.1.1, S.1.2.1) (txR S).2.2.1).2 S.1.2.2.1 S.1.2.2.2 := hr2
  have hok := txT_ok (S := S) (SV_of h)
  have hdW : ∀ f, (∀ o, cdep o → ¬ o = 46 → gset G2 46 f o = G o) := fun f o ho h46 => by
    unfold cdep at ho
    rw [gset_ne h46, hf2.2 o (by omega), hf1 o (by omega)]
  have hW : CSt (txW S) (gset G2 46 (upd (G2 46) 1 (nI 0))) := CSt_wiped h (hdW _) (by rw [gset_eq, upd_eq])
  have hfr : ∀ o, 58 ≤ o → gset G2 46 (upd (G2 46) 1 (nI 0)) o = G o := fun o ho => by rw [gset_ne (by omega), hf2.2 o (by omega), hf1 o (by omega)]
  have g45 : ∀ f, gset G2 46 f 45 = G2 45 := fun f => gset_ne (by omega)
  cases hr : (txR S).1
  rotate_left
  · rw [if_pos rfl]
    rw [hr] at hev2
    have hev2 : Ev X 154 [.ref 45] G1 (some (.int (nI 0))) G2 := hev2
    have hB := fun (k : Nat) (r : List Instr) (lv : LV) (st : List Value) (Q : Option Value → GG → Prop) (hl : st.length ≤ 4) => WP_ev (k := k) (st := .ref 45 :: st) (rest := st) (r := r) (lv := lv) (Q := Q) hev2 (by decide) (c := 1) rfl rfl hl rfl
    have h3 := hr1 hr
    simp (config := { maxSteps := 1000000 }) (disch := first | exact am_nl_i | exact am_nl_r | exact am_nl_n | exact am_l0 | exact am_l1 | exact am_l2 | exact am_l3 | assumption | omega) only [wp_ldc, wp_sipush, wp_ldc_w, wp_lconst, wp_iadd, wp_isub, wp_imul, wp_iand, wp_ior, wp_ixor, wp_ishl, wp_ishr, wp_iushr, wp_idiv, wp_irem, wp_ineg, wp_i2b, wp_i2s, wp_i2c, wp_i2l, wp_ladd, wp_lmul, wp_lcmp, wp_dup_i, wp_dup_r, wp_dup2, wp_pop, wp_getfield, wp_putfield, wp_getstatic, wp_iaload, wp_baload, wp_aaload, wp_iastore, wp_arraylength, wp_goto, wp_fall, wp_ieq, wp_ine, wp_ilt, wp_ige, wp_igt, wp_ile, wp_ceq, wp_cne, wp_clt, wp_cge, wp_cgt, wp_cle, wp_sw, wp_ret0, wp_ret1z, wp_ret1o, wp_ret1, wp_ret2, wp_ret3, wp_ret4, wp_ret5, wp_return, wp_min, wp_max, wp_abs, am_ex, gset_eq, gset_ne, upd_eq, upd_ne, gset_gset, am_ci_1, am_ci_6, am_toList_some, am_toList_none, true_implies, false_implies, and_self, and_true, true_and, not_true_eq_false, not_false_eq_true, imp_self, implies_true, Classical.not_not, if_true, if_false, false_and, and_false, or_false, false_or, true_or, or_true, Nat.reduceAdd, Nat.reduceMul, Nat.reduceSub, Nat.reduceLT, Nat.reduceLeDiff, Nat.reduceEqDiff, Nat.reduceBneDiff, Nat.add_zero, Nat.zero_add, reduceCtorEq, wil0, wal0, wis0, wic0, wil1, wal1, wis1, wic1, wil2, wll2, wal2, wis2, was2, wls2, wic2, wil3, wis3, wic3, wic3m, wic3s, wil4, wis4, wic4, wil5, wis5, wic5, wic5m, wil6, wll6, wal6, wis6, was6, wls6, wic6, wil7, wal7, wis7, was7, wic7, wil8, wis8, wic8, wil9, wis9, wic9, wil10, wis10, wic10, am_nI_inj, am_nI_lt, am_nI_le, nI_add, pk_mul, am_nI_sub, am_add_m1, am_gfs, am_pfs, am_alds, am_asts, am_lens, tgf0, tgf1, tgf2, tgf3, tgf4, tgf5, tgf6, tgf7, tgf8, tgf9, tgf10, tgf11, tgf12, tpf7, tpf8, tpf9, tal0, tas0, tln0, tal1, tas1, tln1, tal2, tas2, tln2, tal3, tas3, tln3, tal4, tas4, tln4, tal5, tas5, tln5, tal6, tas6, tln6, tal7, tas7, tln7, tal8, tas8, tln8, tal9, tas9, tln9, bs153, am_B153_0, am_B153_47, hA, hB, fcs, g45, h3]
    first | exact ⟨rfl, hW, hfr⟩ | exact ⟨hW, hfr⟩
  · rw [if_neg Bool.false_ne_true]
    rw [hr] at hev2
    have hev2 : Ev X 154 [.ref 45] G1 (some (.int (nI 1))) G2 := hev2
    have hB := fun (k : Nat) (r : List Instr) (lv : LV) (st : List Value) (Q : Option Value → GG → Prop) (hl : st.length ≤ 4) => WP_ev (k := k) (st := .ref 45 :: st) (rest := st) (r := r) (lv := lv) (Q := Q) hev2 (by decide) (c := 1) rfl rfl hl rfl
    obtain ⟨h2, hE2⟩ := hr2 hr
    have hTW := hok hr
    have hE3 : TE (gset G2 46 (upd (G2 46) 1 (nI 0))) 34 (txT S).1 (txT S).2.1 S.1.2.2.1 S.1.2.2.2 := TE_congr hE2 (fun o a b => gset_ne (by omega))
    generalize hG3 : gset G2 46 (upd (G2 46) 1 (nI 0)) = G3 at *
    obtain ⟨G4, hev4, hE4, hf4⟩ := X3_become (X := X) 1 34 (txT S).1 (txT S).2.1 S.1.2.2.1 S.1.2.2.2 tb1 tb34 (by decide) hE3 hTW.1.1
    have hD := fun (k : Nat) (r : List Instr) (lv : LV) (st : List Value) (Q : Option Value → GG → Prop) (hl : st.length ≤ 4) => WP_ev (k := k) (st := .ref 34 :: .ref 1 :: st) (rest := st) (r := r) (lv := lv) (Q := Q) hev4 (by decide) (c := 2) rfl rfl hl rfl
    have hc4 := CSt_town (w := txT S) hW hE4 hTW (fun o ho => hf4 o (by omega))
    have h45 : G4 45 2 = nI (txR S).2.2.1 := by rw [hf4 45 (by omega), ← hG3, gset_ne (by omega)]; exact h2
    have hfr4 : ∀ o, 58 ≤ o → G4 o = G o := fun o ho => (hf4 o (by omega)).trans (hfr o ho)
    simp (config := { maxSteps := 1000000 }) (disch := first | exact am_nl_i | exact am_nl_r | exact am_nl_n | exact am_l0 | exact am_l1 | exact am_l2 | exact am_l3 | assumption | omega) only [wp_ldc, wp_sipush, wp_ldc_w, wp_lconst, wp_iadd, wp_isub, wp_imul, wp_iand, wp_ior, wp_ixor, wp_ishl, wp_ishr, wp_iushr, wp_idiv, wp_irem, wp_ineg, wp_i2b, wp_i2s, wp_i2c, wp_i2l, wp_ladd, wp_lmul, wp_lcmp, wp_dup_i, wp_dup_r, wp_dup2, wp_pop, wp_getfield, wp_putfield, wp_getstatic, wp_iaload, wp_baload, wp_aaload, wp_iastore, wp_arraylength, wp_goto, wp_fall, wp_ieq, wp_ine, wp_ilt, wp_ige, wp_igt, wp_ile, wp_ceq, wp_cne, wp_clt, wp_cge, wp_cgt, wp_cle, wp_sw, wp_ret0, wp_ret1z, wp_ret1o, wp_ret1, wp_ret2, wp_ret3, wp_ret4, wp_ret5, wp_return, wp_min, wp_max, wp_abs, am_ex, gset_eq, gset_ne, upd_eq, upd_ne, gset_gset, am_ci_1, am_ci_6, am_toList_some, am_toList_none, true_implies, false_implies, and_self, and_true, true_and, not_true_eq_false, not_false_eq_true, imp_self, implies_true, Classical.not_not, if_true, if_false, false_and, and_false, or_false, false_or, true_or, or_true, Nat.reduceAdd, Nat.reduceMul, Nat.reduceSub, Nat.reduceLT, Nat.reduceLeDiff, Nat.reduceEqDiff, Nat.reduceBneDiff, Nat.add_zero, Nat.zero_add, reduceCtorEq, wil0, wal0, wis0, wic0, wil1, wal1, wis1, wic1, wil2, wll2, wal2, wis2, was2, wls2, wic2, wil3, wis3, wic3, wic3m, wic3s, wil4, wis4, wic4, wil5, wis5, wic5, wic5m, wil6, wll6, wal6, wis6, was6, wls6, wic6, wil7, wal7, wis7, was7, wic7, wil8, wis8, wic8, wil9, wis9, wic9, wil10, wis10, wic10, am_nI_inj, am_nI_lt, am_nI_le, nI_add, pk_mul, am_nI_sub, am_add_m1, am_gfs, am_pfs, am_alds, am_asts, am_lens, tgf0, tgf1, tgf2, tgf3, tgf4, tgf5, tgf6, tgf7, tgf8, tgf9, tgf10, tgf11, tgf12, tpf7, tpf8, tpf9, tal0, tas0, tln0, tal1, tas1, tln1, tal2, tas2, tln2, tal3, tas3, tln3, tal4, tas4, tln4, tal5, tas5, tln5, tal6, tas6, tln6, tal7, tas7, tln7, tal8, tas8, tln8, tal9, tas9, tln9, bs153, am_B153_0, am_B153_47, hA, hB, hG3, e2, hD, h45]
    first | exact ⟨rfl, hc4, hfr4⟩ | exact ⟨hc4, hfr4⟩
