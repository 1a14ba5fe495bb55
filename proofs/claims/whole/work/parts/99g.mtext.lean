/-! ===== texts: the model's call ===== -/
theorem MSt_wiped {S : SS} {G G1 : GG} {w : TW} (h : MSt S G) (hE : ME G1 59 w.1 w.2.1 (nI w.2.2.1) w.2.2.2) (e3 : G1 58 3 = G 58 3) (e7 : G1 58 7 = G 58 7) (e9 : G1 58 9 = nI 0) (e : ∀ o, mdep o → G1 o = G o) : MSt (sTown (txW S) w) G1 := by
  obtain ⟨a, b, ⟨c1, c2⟩, c3, c4, c5, c6⟩ := h
  refine ⟨hE, by rw [e7]; exact b, ⟨by rw [e3]; exact c1, fun hk => ?_⟩, ?_, fun s hs => ?_, e9, fun i hi => absurd hi (Nat.not_lt_zero i)⟩
  · have := c2 hk
    unfold ME at this ⊢
    rw [e 60 (by simp [mdep])]; exact this
  · rw [e 62 (by simp [mdep])]; exact c3
  · rw [e 67 (by simp [mdep]), e 68 (by simp [mdep]), e 69 (by simp [mdep])]; exact c4 s hs
theorem X5_told {X : AmX} {G : GG} {i : Nat} {w : Nat × TT} {t z : Int32} {it : Itm} (hE : ME G 59 w.1 w.2 t z) (hV : TV w.1 w.2) (hi : i < 120) (hG : itG G i it) (hv : itV w.1 it) : ∃ G1 x, Ev X 178 [.ref 58, .int (nI (4 * i))] G (some (.int (nI x))) G1 ∧ x < 2 ^ 31 ∧ ME G1 59 (itT w it).1 (itT w it).2 t z ∧ ∀ o, ¬ o = 59 → G1 o = G o := by
  obtain ⟨what, pa, pb, pc⟩ := it
  obtain ⟨g0, g1, g2, g3⟩ := hG
  have g0 : G 66 (4 * i) = nI what := g0
  have g1 : G 66 (4 * i + 1) = nI pa := g1
  have g2 : G 66 (4 * i + 2) = nI pb := g2
  have a1 : 4 * i < 480 := by omega
  have a2 : 4 * i + 1 < 480 := by omega
  have a3 : 4 * i + 2 < 480 := by omega
  have a4 : 4 * i + 3 < 480 := by omega
  have hn8 := hV.1
  rcases hv with ⟨h1, h2, h3⟩ | ⟨h1, h2, h3, h4, h5⟩
  · have h1 : what = 10 := h1
    have h2 : pa < 8 := h2
    subst h1
    have c0 := hE.2.2.2.2.1 pa h2
    have hp := hV.2.1 pa h2
    have hit : itT w (10, pa, pb, pc) = (w.1, updT w.2 0 pa pb) := rfl
    rw [hit]
    refine ⟨gset G 59 (upd (G 59) (13 + pa) (nI pb)), w.2 0 pa, Ev_of ?_, by omega, ME_prize hE hn8 h2, fun o ho => gset_ne ho⟩
    show WP X 178 (am_blk 178 0) [some (.ref 58), some (.int (nI (4 * i))), none, none] [] G _
    simp (config := { maxSteps := 1000000 }) (disch := first | exact am_nl_i | exact am_nl_r | exact am_nl_n | exact am_l0 | exact am_l1 | exact am_l2 | exact am_l3 | assumption | omega) only [wp_ldc, wp_sipush, wp_ldc_w, wp_lconst, wp_iadd, wp_isub, wp_imul, wp_iand, wp_ior, wp_ixor, wp_ishl, wp_ishr, wp_iushr, wp_idiv, wp_irem, wp_ineg, wp_i2b, wp_i2s, wp_i2c, wp_i2l, wp_ladd, wp_lmul, wp_lcmp, wp_dup_i, wp_dup_r, wp_dup2, wp_pop, wp_getfield, wp_putfield, wp_getstatic, wp_iaload, wp_baload, wp_aaload, wp_iastore, wp_arraylength, wp_goto, wp_fall, wp_ieq, wp_ine, wp_ilt, wp_ige, wp_igt, wp_ile, wp_ceq, wp_cne, wp_clt, wp_cge, wp_cgt, wp_cle, wp_sw, wp_ret0, wp_ret1z, wp_ret1o, wp_ret1, wp_ret2, wp_ret3, wp_ret4, wp_ret5, wp_return, wp_min, wp_max, wp_abs, am_ex, gset_eq, gset_ne, upd_eq, upd_ne, gset_gset, am_ci_1, am_ci_6, am_toList_some, am_toList_none, true_implies, false_implies, and_self, and_true, true_and, not_true_eq_false, not_false_eq_true, imp_self, implies_true, Classical.not_not, if_true, if_false, false_and, and_false, or_false, false_or, true_or, or_true, Nat.reduceAdd, Nat.reduceMul, Nat.reduceSub, Nat.reduceLT, Nat.reduceLeDiff, Nat.reduceEqDiff, Nat.reduceBneDiff, Nat.add_zero, Nat.zero_add, reduceCtorEq, wil0, wal0, wis0, wic0, wil1, wal1, wis1, wic1, wil2, wll2, wal2, wis2, was2, wls2, wic2, wil3, wis3, wic3, wic3m, wic3s, wil4, wis4, wic4, wil5, wis5, wic5, wic5m, wil6, wll6, wal6, wis6, was6, wls6, wic6, wil7, wal7, wis7, was7, wic7, wil8, wis8, wic8, wil9, wis9, wic9, wil10, wis10, wic10, am_nI_inj, am_nI_lt, am_nI_le, nI_add, pk_mul, am_nI_sub, am_add_m1, am_gfs, am_pfs, am_alds, am_asts, am_lens, bs178, am_B178_0, am_B178_41, am_B178_61, g0, g1, g2, C_X5_become, c0]
  · have h1 : what < 7 := h1
    have h5 : w.1 < 8 := h5
    have g3 : G 66 (4 * i + 3) = eP pc := by
      rcases g3 with z | z
      · have z : what = 10 := z
        omega
      · exact z
    have q1 : (what = 10) = False := eq_false (by omega)
    have hit : itT w (what, pa, pb, pc) = (w.1 + 1, addF w.2 w.1 what pa pb pc) := if_neg (by show ¬ what = 10; omega)
    rw [hit]
    have f0 := hE.2.1
    refine ⟨_, w.1, Ev_of ?_, by omega, ME_add (kk := what) (q := pa) (l := pb) (lo := pc) hE h5, fun o ho => gset_ne ho⟩
    show WP X 178 (am_blk 178 0) [some (.ref 58), some (.int (nI (4 * i))), none, none] [] G _
    simp (config := { maxSteps := 1000000 }) (disch := first | exact am_nl_i | exact am_nl_r | exact am_nl_n | exact am_l0 | exact am_l1 | exact am_l2 | exact am_l3 | assumption | omega) only [wp_ldc, wp_sipush, wp_ldc_w, wp_lconst, wp_iadd, wp_isub, wp_imul, wp_iand, wp_ior, wp_ixor, wp_ishl, wp_ishr, wp_iushr, wp_idiv, wp_irem, wp_ineg, wp_i2b, wp_i2s, wp_i2c, wp_i2l, wp_ladd, wp_lmul, wp_lcmp, wp_dup_i, wp_dup_r, wp_dup2, wp_pop, wp_getfield, wp_putfield, wp_getstatic, wp_iaload, wp_baload, wp_aaload, wp_iastore, wp_arraylength, wp_goto, wp_fall, wp_ieq, wp_ine, wp_ilt, wp_ige, wp_igt, wp_ile, wp_ceq, wp_cne, wp_clt, wp_cge, wp_cgt, wp_cle, wp_sw, wp_ret0, wp_ret1z, wp_ret1o, wp_ret1, wp_ret2, wp_ret3, wp_ret4, wp_ret5, wp_return, wp_min, wp_max, wp_abs, am_ex, gset_eq, gset_ne, upd_eq, upd_ne, gset_gset, am_ci_1, am_ci_6, am_toList_some, am_toList_none, true_implies, false_implies, and_self, and_true, true_and, not_true_eq_false, not_false_eq_true, imp_self, implies_true, Classical.not_not, if_true, if_false, false_and, and_false, or_false, false_or, true_or, or_true, Nat.reduceAdd, Nat.reduceMul, Nat.reduceSub, Nat.reduceLT, Nat.reduceLeDiff, Nat.reduceEqDiff, Nat.reduceBneDiff, Nat.add_zero, Nat.zero_add, reduceCtorEq, wil0, wal0, wis0, wic0, wil1, wal1, wis1, wic1, wil2, wll2, wal2, wis2, was2, wls2, wic2, wil3, wis3, wic3, wic3m, wic3s, wil4, wis4, wic4, wil5, wis5, wic5, wic5m, wil6, wll6, wal6, wis6, was6, wls6, wic6, wil7, wal7, wis7, was7, wic7, wil8, wis8, wic8, wil9, wis9, wic9, wil10, wis10, wic10, am_nI_inj, am_nI_lt, am_nI_le, nI_add, pk_mul, am_nI_sub, am_add_m1, am_gfs, am_pfs, am_alds, am_asts, am_lens, bs178, am_B178_0, am_B178_41, am_B178_61, g0, g1, g2, g3, q1, C_X5_comes]
theorem appN_ok {t : Nat} {z : Int32} {w : Nat × TT} {f : Nat → Itm} {K : Nat} (hw : TWV (w.1, w.2, t, z)) (hf : ∀ i, i < K → itV (appN f w i).1 (f i)) : ∀ i, i ≤ K → TWV ((appN f w i).1, (appN f w i).2, t, z)
  | 0, _ => hw
  | i + 1, h => TWV_item (appN_ok hw hf i (by omega)) (hf i (by omega))
theorem prs_it {b : Nat → Nat} {n : Nat} {w : Nat × TT} : ∀ (d k : Nat) (g : Nat → Itm) (c : Cur) (m : Nat), (appN g w k).1 = m → m ≤ 8 → (∀ i, i < k → itV (appN g w i).1 (g i)) → CV n c → (prs b n d k g m c).1 = false → ∀ i, i < (prs b n d k g m c).2.2.1 → itV (appN (prs b n d k g m c).2.2.2 w i).1 ((prs b n d k g m c).2.2.2 i)
  | 0, k, g, c, m, _, _, _, _, hr => absurd (show true = false from hr) (by decide)
  | d + 1, k, g, c, m, hm, hm8, hw, hv, hr => by
    have hps : prs b n (d + 1) k g m c = if (pI b n m c).1.1 = true then (true, (pI b n m c).1.2, k, g) else if (pI b n m c).1.2.2.2.1 = 0 then (false, (pI b n m c).1.2, k + 1, fU g k (pI b n m c).2) else if (pI b n m c).1.2.2.2.1 = 3 then prs b n d (k + 1) (fU g k (pI b n m c).2) (itM m (pI b n m c).2) (nxt b n (pI b n m c).1.2.2.1) else (true, (pI b n m c).1.2, k, g) := rfl
    rw [hps] at hr ⊢
    have hok := pI_ok (b := b) (n := n) (m := m) (c := c) hv hm8
    generalize pI b n m c = P at *
    by_cases h1 : P.1.1 = true
    · rw [if_pos h1] at hr
      exact absurd (show true = false from hr) (by decide)
    · rw [if_neg h1] at hr ⊢
      rw [Bool.not_eq_true] at h1
      obtain ⟨hiv, hcv, _⟩ := hok h1
      have hap : appN (fU g k P.2) w (k + 1) = itT (appN g w k) P.2 := appN_fU g w k P.2
      have hw2 : ∀ i, i < k + 1 → itV (appN (fU g k P.2) w i).1 (fU g k P.2 i) := fun i hi => by
        rw [appN_congr (f := fU g k P.2) (g := g) i (fun j hj => if_neg (by omega))]
        by_cases e : i = k
        · subst e
          rw [show fU g i P.2 i = P.2 from if_pos rfl, hm]; exact hiv
        · rw [show fU g k P.2 i = g i from if_neg e]; exact hw i (by omega)
      by_cases h2 : P.1.2.2.2.1 = 0
      · rw [if_pos h2]; exact hw2
      · rw [if_neg h2] at hr ⊢
        by_cases h3 : P.1.2.2.2.1 = 3
        · rw [if_pos h3] at hr ⊢
          exact prs_it d (k + 1) (fU g k P.2) (nxt b n P.1.2.2.1) (itM m P.2) (by rw [hap, itM_T, hm]) (itV_le hiv hm8) hw2 (nxt_ok hcv.2.1).1 hr
        · rw [if_neg h3] at hr
          exact absurd (show true = false from hr) (by decide)
def MF (G G1 : GG) : Prop := (∀ f, ¬ (10 ≤ f ∧ f ≤ 14) → ¬ f = 17 → ¬ f = 18 → G1 58 f = G 58 f) ∧ ∀ o, ¬ o = 58 → ¬ o = 66 → G1 o = G o
theorem MF.trans {G G1 G2 : GG} (h1 : MF G G1) (h2 : MF G1 G2) : MF G G2 := ⟨fun f a b c => (h2.1 f a b c).trans (h1.1 f a b c), fun o a b => (h2.2 o a b).trans (h1.2 o a b)⟩
theorem MF.ofRF {G G1 : GG} (h : RF G G1) : MF G G1 := ⟨fun f a _ _ => h.1 f a, fun o a _ => h.2 o a⟩
theorem MF.ofRI {G G1 : GG} {k : Nat} (h : RI G G1 k) : MF G G1 := ⟨h.1, h.2.1⟩
theorem itG_congr {G G1 : GG} {k : Nat} {it : Itm} (h : itG G k it) (e : ∀ j, j < 4 * k + 4 → G1 66 j = G 66 j) : itG G1 k it := by
  unfold itG at h ⊢
  rw [e _ (by omega), e _ (by omega), e _ (by omega), e _ (by omega)]
  exact h
theorem MT_text {X : AmX} {S : SS} {G : GG} (h : MSt S G) (hv : SV S) : MW X 168 [.ref 58] G (sp_text S) := by
  have hE := h.1
  have f0 := hE.2.1
  have hv8 := hv.1.1.1
  have hm := MS_MR h hv
  unfold MW sp_text
  have e2 : (nI 1 = nI 0) = False := eq_false (by decide)
  show WP X 168 (am_blk 168 0) [some (.ref 58), none, none] [] G _
  have h9 : G 58 9 = nI S.2.2.2.2.1 := h.2.2.2.2.2.1
  have hTB : TBy G 65 S.2.2.2.2.1 S.2.2.2.2.2 := ⟨hv.2.2.2.1, fun i hi => ⟨h.2.2.2.2.2.2 i hi, hv.2.2.2.2 i hi⟩⟩
  generalize hn' : S.2.2.2.2.1 = n at *
  generalize hb' : S.2.2.2.2.2 = b at *
  have hn := hTB.1
  have hRd : txR S = prs b n 61 0 f0I S.1.1 (nxt b n 0) := by
    unfold txR
    rw [hn', hb']
  generalize hR : txR S = R at *
  have hit0 := fun (z : R.1 = false) => prs_it (w := (S.1.1, S.1.2.1)) (b := b) (n := n) 61 0 f0I (nxt b n 0) S.1.1 rfl hv8 (fun i hi => absurd hi (Nat.not_lt_zero i)) (nxt_ok (Nat.zero_le _)).1 (by rw [← hRd]; exact z)
  rw [← hRd] at hit0
  have hS0 : sTown (txW S) S.1 = txW S := rfl
  have htT : txT S = ((appN R.2.2.2 (S.1.1, S.1.2.1) R.2.2.1).1, (appN R.2.2.2 (S.1.1, S.1.2.1) R.2.2.1).2, S.1.2.2) := by
    unfold txT
    rw [hR]
  rw [htT]
  generalize hQ : (fun (v : Option Value) (G1 : GG) => v = some (.int (if R.1 = true then (nM - nI R.2.1.1, txW S) else (nI R.2.2.1, sTown (txW S) ((appN R.2.2.2 (S.1.1, S.1.2.1) R.2.2.1).1, (appN R.2.2.2 (S.1.1, S.1.2.1) R.2.2.1).2, S.1.2.2))).1) ∧ MSt (if R.1 = true then (nM - nI R.2.1.1, txW S) else (nI R.2.2.1, sTown (txW S) ((appN R.2.2.2 (S.1.1, S.1.2.1) R.2.2.1).1, (appN R.2.2.2 (S.1.1, S.1.2.1) R.2.2.1).2, S.1.2.2))).2 G1 ∧ ∀ o, o < 58 → G1 o = G o) = Q
  have e20 : (nI 0 = nI 1) = False := eq_false (by decide)
  -- the end
  have tail : ∀ (G' : GG) (s : Rd), MRd G' n s → MF G G' → (s.1 = true ∨ ¬ s.2.2.2.1 = 0) → R.1 = true → R.2.1 = s.2 → WP X 168 (am_blk 168 (Int.toNat 74)) [some (.ref 58), none, none] [] G' Q := by
    intro G' s hs hf hw hR1 hR2
    have h9' : G' 58 9 = nI n := by rw [hf.1 9 (by omega) (by omega) (by omega)]; exact h9
    have hT' : TBy G' 65 n b := TBy_congr hTB (hf.2 65 (by omega) (by omega))
    obtain ⟨G2, hev, hs2, hf2⟩ := X5_must (X := X) h9' hT' hs (decide (s.2.2.2.1 = 0))
    have hm : mMust b n s (decide (s.2.2.2.1 = 0)) = (true, s.2) := by
      refine if_pos ?_
      rcases hw with hw | hw
      · rw [hw]; rfl
      · rw [decide_eq_false hw]; exact Bool.or_true _
    rw [hm] at hs2
    have hso := min3 (k := 0) hs.2.2.2.2.1 (by omega)
    have hmin : min s.2.2.2.1 3 ≤ 3 := Nat.min_le_right _ _
    have s12 := hs.1.2.2.1
    have s14 : G2 58 14 = nI 1 := hs2.2.1
    have s10 : G2 58 10 = nI s.2.1 := hs2.1.1
    have hfin : Q (some (.int (nM - nI s.2.1))) (gset G2 58 (upd (G2 58) 9 (nI 0))) := by
      rw [← hQ]
      simp only [hR1]
      rw [if_pos trivial, hR2]
      have hff := hf.trans (MF.ofRF hf2)
      refine ⟨rfl, ?_, fun o ho => by rw [gset_ne (by omega)]; exact hff.2 o (by omega) (by omega)⟩
      have hmst := MSt_wiped (G1 := gset G2 58 (upd (G2 58) 9 (nI 0))) (w := S.1) h (by
        have := hE
        unfold ME at this ⊢
        rw [gset_ne (by omega), hff.2 59 (by omega) (by omega)]; exact this) (by rw [gset_eq, upd_ne (by omega)]; exact hff.1 3 (by omega) (by omega) (by omega)) (by rw [gset_eq, upd_ne (by omega)]; exact hff.1 7 (by omega) (by omega) (by omega)) (by rw [gset_eq, upd_eq]) (fun o ho => by
          unfold mdep at ho
          rw [gset_ne (by omega)]; exact hff.2 o (by omega) (by omega))
      exact hmst
    generalize s.2.1 = bg at *
    by_cases h0 : s.2.2.2.1 = 0
    · have q1 := hso.trans (eq_true h0)
      rw [decide_eq_true h0] at hev
      have hev : Ev X 174 [.ref 58, .int (nI 1)] G' none G2 := hev
      have hU := fun (k : Nat) (r : List Instr) (lv : LV) (st : List Value) (Q : Option Value → GG → Prop) (hl : st.length ≤ 4) => WP_ev (k := k) (st := .int (nI 1) :: .ref 58 :: st) (rest := st) (r := r) (lv := lv) (Q := Q) hev (by decide) (c := 2) rfl rfl hl rfl
      simp (config := { maxSteps := 1000000 }) (disch := first | exact am_nl_i | exact am_nl_r | exact am_nl_n | exact am_l0 | exact am_l1 | exact am_l2 | exact am_l3 | assumption | omega) only [wp_ldc, wp_sipush, wp_ldc_w, wp_lconst, wp_iadd, wp_isub, wp_imul, wp_iand, wp_ior, wp_ixor, wp_ishl, wp_ishr, wp_iushr, wp_idiv, wp_irem, wp_ineg, wp_i2b, wp_i2s, wp_i2c, wp_i2l, wp_ladd, wp_lmul, wp_lcmp, wp_dup_i, wp_dup_r, wp_dup2, wp_pop, wp_getfield, wp_putfield, wp_getstatic, wp_iaload, wp_baload, wp_aaload, wp_iastore, wp_arraylength, wp_goto, wp_fall, wp_ieq, wp_ine, wp_ilt, wp_ige, wp_igt, wp_ile, wp_ceq, wp_cne, wp_clt, wp_cge, wp_cgt, wp_cle, wp_sw, wp_ret0, wp_ret1z, wp_ret1o, wp_ret1, wp_ret2, wp_ret3, wp_ret4, wp_ret5, wp_return, wp_min, wp_max, wp_abs, am_ex, gset_eq, gset_ne, upd_eq, upd_ne, gset_gset, am_ci_1, am_ci_6, am_toList_some, am_toList_none, true_implies, false_implies, and_self, and_true, true_and, not_true_eq_false, not_false_eq_true, imp_self, implies_true, Classical.not_not, if_true, if_false, false_and, and_false, or_false, false_or, true_or, or_true, Nat.reduceAdd, Nat.reduceMul, Nat.reduceSub, Nat.reduceLT, Nat.reduceLeDiff, Nat.reduceEqDiff, Nat.reduceBneDiff, Nat.add_zero, Nat.zero_add, reduceCtorEq, wil0, wal0, wis0, wic0, wil1, wal1, wis1, wic1, wil2, wll2, wal2, wis2, was2, wls2, wic2, wil3, wis3, wic3, wic3m, wic3s, wil4, wis4, wic4, wil5, wis5, wic5, wic5m, wil6, wll6, wal6, wis6, was6, wls6, wic6, wil7, wal7, wis7, was7, wic7, wil8, wis8, wic8, wil9, wis9, wic9, wil10, wis10, wic10, am_nI_inj, am_nI_lt, am_nI_le, nI_add, pk_mul, am_nI_sub, am_add_m1, am_gfs, am_pfs, am_alds, am_asts, am_lens, bk168_74, bk168_86, bk168_87, am_B168_74, am_B168_86, am_B168_87, s12, q1, hU, s14, e2, s10, fcs]
      exact hfin
    · have q1 := hso.trans (eq_false h0)
      rw [decide_eq_false h0] at hev
      have hev : Ev X 174 [.ref 58, .int (nI 0)] G' none G2 := hev
      have hU := fun (k : Nat) (r : List Instr) (lv : LV) (st : List Value) (Q : Option Value → GG → Prop) (hl : st.length ≤ 4) => WP_ev (k := k) (st := .int (nI 0) :: .ref 58 :: st) (rest := st) (r := r) (lv := lv) (Q := Q) hev (by decide) (c := 2) rfl rfl hl rfl
      simp (config := { maxSteps := 1000000 }) (disch := first | exact am_nl_i | exact am_nl_r | exact am_nl_n | exact am_l0 | exact am_l1 | exact am_l2 | exact am_l3 | assumption | omega) only [wp_ldc, wp_sipush, wp_ldc_w, wp_lconst, wp_iadd, wp_isub, wp_imul, wp_iand, wp_ior, wp_ixor, wp_ishl, wp_ishr, wp_iushr, wp_idiv, wp_irem, wp_ineg, wp_i2b, wp_i2s, wp_i2c, wp_i2l, wp_ladd, wp_lmul, wp_lcmp, wp_dup_i, wp_dup_r, wp_dup2, wp_pop, wp_getfield, wp_putfield, wp_getstatic, wp_iaload, wp_baload, wp_aaload, wp_iastore, wp_arraylength, wp_goto, wp_fall, wp_ieq, wp_ine, wp_ilt, wp_ige, wp_igt, wp_ile, wp_ceq, wp_cne, wp_clt, wp_cge, wp_cgt, wp_cle, wp_sw, wp_ret0, wp_ret1z, wp_ret1o, wp_ret1, wp_ret2, wp_ret3, wp_ret4, wp_ret5, wp_return, wp_min, wp_max, wp_abs, am_ex, gset_eq, gset_ne, upd_eq, upd_ne, gset_gset, am_ci_1, am_ci_6, am_toList_some, am_toList_none, true_implies, false_implies, and_self, and_true, true_and, not_true_eq_false, not_false_eq_true, imp_self, implies_true, Classical.not_not, if_true, if_false, false_and, and_false, or_false, false_or, true_or, or_true, Nat.reduceAdd, Nat.reduceMul, Nat.reduceSub, Nat.reduceLT, Nat.reduceLeDiff, Nat.reduceEqDiff, Nat.reduceBneDiff, Nat.add_zero, Nat.zero_add, reduceCtorEq, wil0, wal0, wis0, wic0, wil1, wal1, wis1, wic1, wil2, wll2, wal2, wis2, was2, wls2, wic2, wil3, wis3, wic3, wic3m, wic3s, wil4, wis4, wic4, wil5, wis5, wic5, wic5m, wil6, wll6, wal6, wis6, was6, wls6, wic6, wil7, wal7, wis7, was7, wic7, wil8, wis8, wic8, wil9, wis9, wic9, wil10, wis10, wic10, am_nI_inj, am_nI_lt, am_nI_le, nI_add, pk_mul, am_nI_sub, am_add_m1, am_gfs, am_pfs, am_alds, am_asts, am_lens, bk168_74, bk168_86, bk168_87, am_B168_74, am_B168_86, am_B168_87, s12, q1, hU, s14, e2, s10, fcs]
      exact hfin
  have good : ∀ (G' : GG) (c : Cur), MRd G' n (false, c) → MF G G' → c.2.2.1 = 0 → R.1 = false → G' 58 17 = nI R.2.2.1 → R.2.2.1 ≤ 100 → (∀ i, i < R.2.2.1 → itG G' i (R.2.2.2 i)) → WP X 168 (am_blk 168 (Int.toNat 74)) [some (.ref 58), none, none] [] G' Q := by
    intro G' c hs hf hw hR1 h17 hK hits
    have hit := hit0 hR1
    have h9' : G' 58 9 = nI n := by rw [hf.1 9 (by omega) (by omega) (by omega)]; exact h9
    have hT' : TBy G' 65 n b := TBy_congr hTB (hf.2 65 (by omega) (by omega))
    obtain ⟨G2, hev, hs2, hf2⟩ := X5_must (X := X) h9' hT' hs true
    have hm : mMust b n (false, c) true = (false, nxt b n c.2.1) := rfl
    rw [hm] at hs2
    have s14 : G2 58 14 = nI 0 := hs2.2.1
    have hso := min3 (k := 0) hs.2.2.2.2.1 (by omega)
    have hmin : min c.2.2.1 3 ≤ 3 := Nat.min_le_right _ _
    have s12 : G' 58 12 = nI (min c.2.2.1 3) := hs.1.2.2.1
    have q1 := hso.trans (eq_true hw)
    have hff := hf.trans (MF.ofRF hf2)
    have hev : Ev X 174 [.ref 58, .int (nI 1)] G' none G2 := hev
    have hU := fun (k : Nat) (r : List Instr) (lv : LV) (st : List Value) (Q : Option Value → GG → Prop) (hl : st.length ≤ 4) => WP_ev (k := k) (st := .int (nI 1) :: .ref 58 :: st) (rest := st) (r := r) (lv := lv) (Q := Q) hev (by decide) (c := 2) rfl rfl hl rfl
    have hw0 : TWV (S.1.1, S.1.2.1, S.1.2.2.1, S.1.2.2.2) := hv.1
    have hTW := appN_ok (w := (S.1.1, S.1.2.1)) (f := R.2.2.2) (K := R.2.2.1) (t := S.1.2.2.1) (z := S.1.2.2.2) hw0 hit
    have h173 : gset G2 58 (upd (G2 58) 9 (nI 0)) 58 17 = nI R.2.2.1 := by rw [gset_eq, upd_ne (by omega), hf2.1 17 (by omega)]; exact h17
    have hit3 : ∀ i, i < R.2.2.1 → itG (gset G2 58 (upd (G2 58) 9 (nI 0))) i (R.2.2.2 i) := fun i hi => itG_congr (hits i hi) (fun j _ => by rw [gset_ne (by omega), hf2.2 66 (by omega)])
    have hE3 : ME (gset G2 58 (upd (G2 58) 9 (nI 0))) 59 S.1.1 S.1.2.1 (nI S.1.2.2.1) S.1.2.2.2 := by
      have := hE
      unfold ME at this ⊢
      rw [gset_ne (by omega), hff.2 59 (by omega) (by omega)]; exact this
    have hfin : ∀ G4 : GG, ME G4 59 (appN R.2.2.2 (S.1.1, S.1.2.1) R.2.2.1).1 (appN R.2.2.2 (S.1.1, S.1.2.1) R.2.2.1).2 (nI S.1.2.2.1) S.1.2.2.2 → (∀ o, ¬ o = 59 → G4 o = gset G2 58 (upd (G2 58) 9 (nI 0)) o) → Q (some (.int (nI R.2.2.1))) G4 := by
      intro G4 hE4 hf4
      rw [← hQ]
      simp only [hR1]
      rw [if_neg Bool.false_ne_true]
      refine ⟨rfl, ?_, fun o ho => by rw [hf4 o (by omega), gset_ne (by omega)]; exact hff.2 o (by omega) (by omega)⟩
      exact MSt_wiped (G1 := G4) (w := ((appN R.2.2.2 (S.1.1, S.1.2.1) R.2.2.1).1, (appN R.2.2.2 (S.1.1, S.1.2.1) R.2.2.1).2, S.1.2.2)) h hE4 (by rw [hf4 58 (by omega), gset_eq, upd_ne (by omega)]; exact hff.1 3 (by omega) (by omega) (by omega)) (by rw [hf4 58 (by omega), gset_eq, upd_ne (by omega)]; exact hff.1 7 (by omega) (by omega) (by omega)) (by rw [hf4 58 (by omega), gset_eq, upd_eq]) (fun o ho => by
        unfold mdep at ho
        rw [hf4 o (by omega), gset_ne (by omega)]; exact hff.2 o (by omega) (by omega))
    have s143 : gset G2 58 (upd (G2 58) 9 (nI 0)) 58 14 = nI 0 := by rw [gset_eq, upd_ne (by omega)]; exact s14
    generalize hG3 : gset G2 58 (upd (G2 58) 9 (nI 0)) = G3 at *
    have key2 : ∀ d i : Nat, i + d = R.2.2.1 → ∀ G4 : GG, ME G4 59 (appN R.2.2.2 (S.1.1, S.1.2.1) i).1 (appN R.2.2.2 (S.1.1, S.1.2.1) i).2 (nI S.1.2.2.1) S.1.2.2.2 → (∀ o, ¬ o = 59 → G4 o = G3 o) → WP X 168 (am_blk 168 113) [some (.ref 58), some (.int (nI i)), some (.int (nI i))] [] G4 Q := by
      intro d
      induction d with
      | zero =>
        intro i hi G4 hE4 hf4
        have hi' : i = R.2.2.1 := by omega
        have c17 : G4 58 17 = nI R.2.2.1 := by rw [hf4 58 (by omega)]; exact h173
        rw [hi'] at hE4 ⊢
        have hfi := hfin G4 hE4 hf4
        rw [bh168_113]
        simp (config := { maxSteps := 1000000 }) (disch := first | exact am_nl_i | exact am_nl_r | exact am_nl_n | exact am_l0 | exact am_l1 | exact am_l2 | exact am_l3 | assumption | omega) only [wp_ldc, wp_sipush, wp_ldc_w, wp_lconst, wp_iadd, wp_isub, wp_imul, wp_iand, wp_ior, wp_ixor, wp_ishl, wp_ishr, wp_iushr, wp_idiv, wp_irem, wp_ineg, wp_i2b, wp_i2s, wp_i2c, wp_i2l, wp_ladd, wp_lmul, wp_lcmp, wp_dup_i, wp_dup_r, wp_dup2, wp_pop, wp_getfield, wp_putfield, wp_getstatic, wp_iaload, wp_baload, wp_aaload, wp_iastore, wp_arraylength, wp_goto, wp_fall, wp_ieq, wp_ine, wp_ilt, wp_ige, wp_igt, wp_ile, wp_ceq, wp_cne, wp_clt, wp_cge, wp_cgt, wp_cle, wp_sw, wp_ret0, wp_ret1z, wp_ret1o, wp_ret1, wp_ret2, wp_ret3, wp_ret4, wp_ret5, wp_return, wp_min, wp_max, wp_abs, am_ex, gset_eq, gset_ne, upd_eq, upd_ne, gset_gset, am_ci_1, am_ci_6, am_toList_some, am_toList_none, true_implies, false_implies, and_self, and_true, true_and, not_true_eq_false, not_false_eq_true, imp_self, implies_true, Classical.not_not, if_true, if_false, false_and, and_false, or_false, false_or, true_or, or_true, Nat.reduceAdd, Nat.reduceMul, Nat.reduceSub, Nat.reduceLT, Nat.reduceLeDiff, Nat.reduceEqDiff, Nat.reduceBneDiff, Nat.add_zero, Nat.zero_add, reduceCtorEq, wil0, wal0, wis0, wic0, wil1, wal1, wis1, wic1, wil2, wll2, wal2, wis2, was2, wls2, wic2, wil3, wis3, wic3, wic3m, wic3s, wil4, wis4, wic4, wil5, wis5, wic5, wic5m, wil6, wll6, wal6, wis6, was6, wls6, wic6, wil7, wal7, wis7, was7, wic7, wil8, wis8, wic8, wil9, wis9, wic9, wil10, wis10, wic10, am_nI_inj, am_nI_lt, am_nI_le, nI_add, pk_mul, am_nI_sub, am_add_m1, am_gfs, am_pfs, am_alds, am_asts, am_lens, bk168_145, am_B168_113, am_B168_145, c17, Nat.le_refl]
        exact hfi
      | succ d ih =>
        intro i hi G4 hE4 hf4
        have q3 : (R.2.2.1 ≤ i) = False := eq_false (by omega)
        have hiK : i < R.2.2.1 := by omega
        have c17 : G4 58 17 = nI R.2.2.1 := by rw [hf4 58 (by omega)]; exact h173
        obtain ⟨G5, x, hev5, hx, hE5, hf5⟩ := X5_told (X := X) (w := appN R.2.2.2 (S.1.1, S.1.2.1) i) hE4 (hTW i (by omega)).1 (by omega) (itG_congr (hit3 i hiK) (fun j _ => by rw [hf4 66 (by omega)])) (hit i hiK)
        have hD := fun (k : Nat) (r : List Instr) (lv : LV) (st : List Value) (Q : Option Value → GG → Prop) (hl : st.length ≤ 4) => WP_ev (k := k) (st := .int (nI (4 * i)) :: .ref 58 :: st) (rest := st) (r := r) (lv := lv) (Q := Q) hev5 (by decide) (c := 2) rfl rfl hl rfl
        have q4 : (0 ≤ x) = True := eq_true (Nat.zero_le x)
        have ihk := ih (i + 1) (by omega) G5 hE5 (fun o ho => (hf5 o ho).trans (hf4 o ho))
        rw [bh168_113]
        simp (config := { maxSteps := 1000000 }) (disch := first | exact am_nl_i | exact am_nl_r | exact am_nl_n | exact am_l0 | exact am_l1 | exact am_l2 | exact am_l3 | assumption | omega) only [wp_ldc, wp_sipush, wp_ldc_w, wp_lconst, wp_iadd, wp_isub, wp_imul, wp_iand, wp_ior, wp_ixor, wp_ishl, wp_ishr, wp_iushr, wp_idiv, wp_irem, wp_ineg, wp_i2b, wp_i2s, wp_i2c, wp_i2l, wp_ladd, wp_lmul, wp_lcmp, wp_dup_i, wp_dup_r, wp_dup2, wp_pop, wp_getfield, wp_putfield, wp_getstatic, wp_iaload, wp_baload, wp_aaload, wp_iastore, wp_arraylength, wp_goto, wp_fall, wp_ieq, wp_ine, wp_ilt, wp_ige, wp_igt, wp_ile, wp_ceq, wp_cne, wp_clt, wp_cge, wp_cgt, wp_cle, wp_sw, wp_ret0, wp_ret1z, wp_ret1o, wp_ret1, wp_ret2, wp_ret3, wp_ret4, wp_ret5, wp_return, wp_min, wp_max, wp_abs, am_ex, gset_eq, gset_ne, upd_eq, upd_ne, gset_gset, am_ci_1, am_ci_6, am_toList_some, am_toList_none, true_implies, false_implies, and_self, and_true, true_and, not_true_eq_false, not_false_eq_true, imp_self, implies_true, Classical.not_not, if_true, if_false, false_and, and_false, or_false, false_or, true_or, or_true, Nat.reduceAdd, Nat.reduceMul, Nat.reduceSub, Nat.reduceLT, Nat.reduceLeDiff, Nat.reduceEqDiff, Nat.reduceBneDiff, Nat.add_zero, Nat.zero_add, reduceCtorEq, wil0, wal0, wis0, wic0, wil1, wal1, wis1, wic1, wil2, wll2, wal2, wis2, was2, wls2, wic2, wil3, wis3, wic3, wic3m, wic3s, wil4, wis4, wic4, wil5, wis5, wic5, wic5m, wil6, wll6, wal6, wis6, was6, wls6, wic6, wil7, wal7, wis7, was7, wic7, wil8, wis8, wic8, wil9, wis9, wic9, wil10, wis10, wic10, am_nI_inj, am_nI_lt, am_nI_le, nI_add, pk_mul, am_nI_sub, am_add_m1, am_gfs, am_pfs, am_alds, am_asts, am_lens, bk168_136, bk168_137, am_B168_113, am_B168_136, am_B168_137, bn168_113, c17, q3, hD, q4]
        exact ihk
    have k2 := key2 R.2.2.1 0 (by omega) G3 hE3 (fun _ _ => rfl)
    simp (config := { maxSteps := 1000000 }) (disch := first | exact am_nl_i | exact am_nl_r | exact am_nl_n | exact am_l0 | exact am_l1 | exact am_l2 | exact am_l3 | assumption | omega) only [wp_ldc, wp_sipush, wp_ldc_w, wp_lconst, wp_iadd, wp_isub, wp_imul, wp_iand, wp_ior, wp_ixor, wp_ishl, wp_ishr, wp_iushr, wp_idiv, wp_irem, wp_ineg, wp_i2b, wp_i2s, wp_i2c, wp_i2l, wp_ladd, wp_lmul, wp_lcmp, wp_dup_i, wp_dup_r, wp_dup2, wp_pop, wp_getfield, wp_putfield, wp_getstatic, wp_iaload, wp_baload, wp_aaload, wp_iastore, wp_arraylength, wp_goto, wp_fall, wp_ieq, wp_ine, wp_ilt, wp_ige, wp_igt, wp_ile, wp_ceq, wp_cne, wp_clt, wp_cge, wp_cgt, wp_cle, wp_sw, wp_ret0, wp_ret1z, wp_ret1o, wp_ret1, wp_ret2, wp_ret3, wp_ret4, wp_ret5, wp_return, wp_min, wp_max, wp_abs, am_ex, gset_eq, gset_ne, upd_eq, upd_ne, gset_gset, am_ci_1, am_ci_6, am_toList_some, am_toList_none, true_implies, false_implies, and_self, and_true, true_and, not_true_eq_false, not_false_eq_true, imp_self, implies_true, Classical.not_not, if_true, if_false, false_and, and_false, or_false, false_or, true_or, or_true, Nat.reduceAdd, Nat.reduceMul, Nat.reduceSub, Nat.reduceLT, Nat.reduceLeDiff, Nat.reduceEqDiff, Nat.reduceBneDiff, Nat.add_zero, Nat.zero_add, reduceCtorEq, wil0, wal0, wis0, wic0, wil1, wal1, wis1, wic1, wil2, wll2, wal2, wis2, was2, wls2, wic2, wil3, wis3, wic3, wic3m, wic3s, wil4, wis4, wic4, wil5, wis5, wic5, wic5m, wil6, wll6, wal6, wis6, was6, wls6, wic6, wil7, wal7, wis7, was7, wic7, wil8, wis8, wic8, wil9, wis9, wic9, wil10, wis10, wic10, am_nI_inj, am_nI_lt, am_nI_le, nI_add, pk_mul, am_nI_sub, am_add_m1, am_gfs, am_pfs, am_alds, am_asts, am_lens, bk168_74, bk168_86, bk168_87, bk168_109, am_B168_74, am_B168_86, am_B168_87, am_B168_109, bn168_113, s12, q1, hU, hG3, s143]
    exact k2
  have key : ∀ d k : Nat, k + d = 60 → ∀ (g : Nat → Itm) (m : Nat) (c : Cur) (G' : GG), prs b n (d + 1) k g m c = R → 2 * k ≤ c.1 → CV n c → CB b c → m ≤ 8 → (∀ i, i < k → itG G' i (g i)) → MRd G' n (pI b n m c).1 → ((pI b n m c).1.1 = false → G' 58 17 = nI (k + 1) ∧ G' 58 18 = nI (itM m (pI b n m c).2) ∧ itG G' k (pI b n m c).2) → MF G G' → WP X 168 (am_blk 168 33) [some (.ref 58), none, none] [] G' Q := by
    intro d
    induction d with
    | zero =>
      intro k hk g m c G' hp h2 hcv hcb hm hits hs hsi hf
      have hps : prs b n 1 k g m c = if (pI b n m c).1.1 = true then (true, (pI b n m c).1.2, k, g) else if (pI b n m c).1.2.2.2.1 = 0 then (false, (pI b n m c).1.2, k + 1, fU g k (pI b n m c).2) else if (pI b n m c).1.2.2.2.1 = 3 then prs b n 0 (k + 1) (fU g k (pI b n m c).2) (itM m (pI b n m c).2) (nxt b n (pI b n m c).1.2.2.1) else (true, (pI b n m c).1.2, k, g) := rfl
      rw [hps] at hp
      have hok := pI_ok (b := b) (n := n) (m := m) (c := c) hcv hm
      have hcb2 := pI_cb (b := b) (n := n) (m := m) (c := c) hcb
      generalize pI b n m c = P at *
      obtain ⟨⟨wr, c'⟩, it⟩ := P
      have s14 : G' 58 14 = bI wr := hs.2.1
      have s12 : G' 58 12 = nI (min c'.2.2.1 3) := hs.1.2.2.1
      have s10 : G' 58 10 = nI c'.1 := hs.1.1
      have hmin : min c'.2.2.1 3 ≤ 3 := Nat.min_le_right _ _
      rw [bh168_33]
      cases wr
      rotate_left
      · rw [if_pos rfl] at hp
        have tl := tail G' (true, c') hs hf (Or.inl rfl) (by rw [← hp]) (by rw [← hp])
        simp (config := { maxSteps := 1000000 }) (disch := first | exact am_nl_i | exact am_nl_r | exact am_nl_n | exact am_l0 | exact am_l1 | exact am_l2 | exact am_l3 | assumption | omega) only [wp_ldc, wp_sipush, wp_ldc_w, wp_lconst, wp_iadd, wp_isub, wp_imul, wp_iand, wp_ior, wp_ixor, wp_ishl, wp_ishr, wp_iushr, wp_idiv, wp_irem, wp_ineg, wp_i2b, wp_i2s, wp_i2c, wp_i2l, wp_ladd, wp_lmul, wp_lcmp, wp_dup_i, wp_dup_r, wp_dup2, wp_pop, wp_getfield, wp_putfield, wp_getstatic, wp_iaload, wp_baload, wp_aaload, wp_iastore, wp_arraylength, wp_goto, wp_fall, wp_ieq, wp_ine, wp_ilt, wp_ige, wp_igt, wp_ile, wp_ceq, wp_cne, wp_clt, wp_cge, wp_cgt, wp_cle, wp_sw, wp_ret0, wp_ret1z, wp_ret1o, wp_ret1, wp_ret2, wp_ret3, wp_ret4, wp_ret5, wp_return, wp_min, wp_max, wp_abs, am_ex, gset_eq, gset_ne, upd_eq, upd_ne, gset_gset, am_ci_1, am_ci_6, am_toList_some, am_toList_none, true_implies, false_implies, and_self, and_true, true_and, not_true_eq_false, not_false_eq_true, imp_self, implies_true, Classical.not_not, if_true, if_false, false_and, and_false, or_false, false_or, true_or, or_true, Nat.reduceAdd, Nat.reduceMul, Nat.reduceSub, Nat.reduceLT, Nat.reduceLeDiff, Nat.reduceEqDiff, Nat.reduceBneDiff, Nat.add_zero, Nat.zero_add, reduceCtorEq, wil0, wal0, wis0, wic0, wil1, wal1, wis1, wic1, wil2, wll2, wal2, wis2, was2, wls2, wic2, wil3, wis3, wic3, wic3m, wic3s, wil4, wis4, wic4, wil5, wis5, wic5, wic5m, wil6, wll6, wal6, wis6, was6, wls6, wic6, wil7, wal7, wis7, was7, wic7, wil8, wis8, wic8, wil9, wis9, wic9, wil10, wis10, wic10, am_nI_inj, am_nI_lt, am_nI_le, nI_add, pk_mul, am_nI_sub, am_add_m1, am_gfs, am_pfs, am_alds, am_asts, am_lens, am_B168_33, s14, bI_t, e2]
        exact tl
      rw [if_neg Bool.false_ne_true] at hp
      obtain ⟨i1, i2, i3⟩ := hsi rfl
      obtain ⟨_, hcv2, hcg⟩ := hok rfl
      have hcv2 : CV n c' := hcv2
      have hcg : c.1 + 1 ≤ c'.1 := hcg
      have b1 := hcv2.1
      have b2 := hcv2.2.1
      exfalso
      omega
    | succ d ih =>
      intro k hk g m c G' hp h2 hcv hcb hm hits hs hsi hf
      have hps : prs b n (d + 1 + 1) k g m c = if (pI b n m c).1.1 = true then (true, (pI b n m c).1.2, k, g) else if (pI b n m c).1.2.2.2.1 = 0 then (false, (pI b n m c).1.2, k + 1, fU g k (pI b n m c).2) else if (pI b n m c).1.2.2.2.1 = 3 then prs b n (d + 1) (k + 1) (fU g k (pI b n m c).2) (itM m (pI b n m c).2) (nxt b n (pI b n m c).1.2.2.1) else (true, (pI b n m c).1.2, k, g) := rfl
      rw [hps] at hp
      have hok := pI_ok (b := b) (n := n) (m := m) (c := c) hcv hm
      have hcb2 := pI_cb (b := b) (n := n) (m := m) (c := c) hcb
      generalize pI b n m c = P at *
      obtain ⟨⟨wr, c'⟩, it⟩ := P
      have s14 : G' 58 14 = bI wr := hs.2.1
      have s12 : G' 58 12 = nI (min c'.2.2.1 3) := hs.1.2.2.1
      have s10 : G' 58 10 = nI c'.1 := hs.1.1
      have hmin : min c'.2.2.1 3 ≤ 3 := Nat.min_le_right _ _
      rw [bh168_33]
      cases wr
      rotate_left
      · rw [if_pos rfl] at hp
        have tl := tail G' (true, c') hs hf (Or.inl rfl) (by rw [← hp]) (by rw [← hp])
        simp (config := { maxSteps := 1000000 }) (disch := first | exact am_nl_i | exact am_nl_r | exact am_nl_n | exact am_l0 | exact am_l1 | exact am_l2 | exact am_l3 | assumption | omega) only [wp_ldc, wp_sipush, wp_ldc_w, wp_lconst, wp_iadd, wp_isub, wp_imul, wp_iand, wp_ior, wp_ixor, wp_ishl, wp_ishr, wp_iushr, wp_idiv, wp_irem, wp_ineg, wp_i2b, wp_i2s, wp_i2c, wp_i2l, wp_ladd, wp_lmul, wp_lcmp, wp_dup_i, wp_dup_r, wp_dup2, wp_pop, wp_getfield, wp_putfield, wp_getstatic, wp_iaload, wp_baload, wp_aaload, wp_iastore, wp_arraylength, wp_goto, wp_fall, wp_ieq, wp_ine, wp_ilt, wp_ige, wp_igt, wp_ile, wp_ceq, wp_cne, wp_clt, wp_cge, wp_cgt, wp_cle, wp_sw, wp_ret0, wp_ret1z, wp_ret1o, wp_ret1, wp_ret2, wp_ret3, wp_ret4, wp_ret5, wp_return, wp_min, wp_max, wp_abs, am_ex, gset_eq, gset_ne, upd_eq, upd_ne, gset_gset, am_ci_1, am_ci_6, am_toList_some, am_toList_none, true_implies, false_implies, and_self, and_true, true_and, not_true_eq_false, not_false_eq_true, imp_self, implies_true, Classical.not_not, if_true, if_false, false_and, and_false, or_false, false_or, true_or, or_true, Nat.reduceAdd, Nat.reduceMul, Nat.reduceSub, Nat.reduceLT, Nat.reduceLeDiff, Nat.reduceEqDiff, Nat.reduceBneDiff, Nat.add_zero, Nat.zero_add, reduceCtorEq, wil0, wal0, wis0, wic0, wil1, wal1, wis1, wic1, wil2, wll2, wal2, wis2, was2, wls2, wic2, wil3, wis3, wic3, wic3m, wic3s, wil4, wis4, wic4, wil5, wis5, wic5, wic5m, wil6, wll6, wal6, wis6, was6, wls6, wic6, wil7, wal7, wis7, was7, wic7, wil8, wis8, wic8, wil9, wis9, wic9, wil10, wis10, wic10, am_nI_inj, am_nI_lt, am_nI_le, nI_add, pk_mul, am_nI_sub, am_add_m1, am_gfs, am_pfs, am_alds, am_asts, am_lens, am_B168_33, s14, bI_t, e2]
        exact tl
      rw [if_neg Bool.false_ne_true] at hp
      have hp : (if c'.2.2.1 = 0 then ((false, c', k + 1, fU g k it) : Bool × Cur × Nat × (Nat → Itm)) else if c'.2.2.1 = 3 then prs b n (d + 1) (k + 1) (fU g k it) (itM m it) (nxt b n c'.2.1) else (true, c', k, g)) = R := hp
      obtain ⟨i1, i2, i3⟩ := hsi rfl
      obtain ⟨hiv, hcv2, hcg⟩ := hok rfl
      have hcv2 : CV n c' := hcv2
      have hcb2 : CB b c' := hcb2
      have hcg : c.1 + 1 ≤ c'.1 := hcg
      have hiv : itV m it := hiv
      have i2 : G' 58 18 = nI (itM m it) := i2
      have i3 : itG G' k it := i3
      have hs : MRd G' n (false, c') := hs
      have b1 := hcv2.1
      have b2 := hcv2.2.1
      have b3 := hcv2.2.2.1
      have hits2 : ∀ i, i < k + 1 → itG G' i (fU g k it i) := fun i hi => by
        by_cases e : i = k
        · subst e
          rw [show fU g i it i = it from if_pos rfl]; exact i3
        · rw [show fU g k it i = g i from if_neg e]; exact hits i (by omega)
      by_cases h0 : c'.2.2.1 = 0
      · rw [if_pos h0] at hp
        have gd := good G' c' hs hf h0 (by rw [← hp]) (by rw [← hp]; exact i1) (by rw [← hp]; show k + 1 ≤ 100; omega) (by rw [← hp]; exact hits2)
        have q1 : (min c'.2.2.1 3 = 3) = False := eq_false (by omega)
        simp (config := { maxSteps := 1000000 }) (disch := first | exact am_nl_i | exact am_nl_r | exact am_nl_n | exact am_l0 | exact am_l1 | exact am_l2 | exact am_l3 | assumption | omega) only [wp_ldc, wp_sipush, wp_ldc_w, wp_lconst, wp_iadd, wp_isub, wp_imul, wp_iand, wp_ior, wp_ixor, wp_ishl, wp_ishr, wp_iushr, wp_idiv, wp_irem, wp_ineg, wp_i2b, wp_i2s, wp_i2c, wp_i2l, wp_ladd, wp_lmul, wp_lcmp, wp_dup_i, wp_dup_r, wp_dup2, wp_pop, wp_getfield, wp_putfield, wp_getstatic, wp_iaload, wp_baload, wp_aaload, wp_iastore, wp_arraylength, wp_goto, wp_fall, wp_ieq, wp_ine, wp_ilt, wp_ige, wp_igt, wp_ile, wp_ceq, wp_cne, wp_clt, wp_cge, wp_cgt, wp_cle, wp_sw, wp_ret0, wp_ret1z, wp_ret1o, wp_ret1, wp_ret2, wp_ret3, wp_ret4, wp_ret5, wp_return, wp_min, wp_max, wp_abs, am_ex, gset_eq, gset_ne, upd_eq, upd_ne, gset_gset, am_ci_1, am_ci_6, am_toList_some, am_toList_none, true_implies, false_implies, and_self, and_true, true_and, not_true_eq_false, not_false_eq_true, imp_self, implies_true, Classical.not_not, if_true, if_false, false_and, and_false, or_false, false_or, true_or, or_true, Nat.reduceAdd, Nat.reduceMul, Nat.reduceSub, Nat.reduceLT, Nat.reduceLeDiff, Nat.reduceEqDiff, Nat.reduceBneDiff, Nat.add_zero, Nat.zero_add, reduceCtorEq, wil0, wal0, wis0, wic0, wil1, wal1, wis1, wic1, wil2, wll2, wal2, wis2, was2, wls2, wic2, wil3, wis3, wic3, wic3m, wic3s, wil4, wis4, wic4, wil5, wis5, wic5, wic5m, wil6, wll6, wal6, wis6, was6, wls6, wic6, wil7, wal7, wis7, was7, wic7, wil8, wis8, wic8, wil9, wis9, wic9, wil10, wis10, wic10, am_nI_inj, am_nI_lt, am_nI_le, nI_add, pk_mul, am_nI_sub, am_add_m1, am_gfs, am_pfs, am_alds, am_asts, am_lens, am_B168_33, s14, bI_f, s12, q1]
        exact gd
      rw [if_neg h0] at hp
      have hlt := hcv2.2.2.2.1 h0
      have hbg : c'.1 < 120 := by omega
      have htp : G' 65 c'.1 = nI (b c'.1) := by rw [hf.2 65 (by omega) (by omega)]; exact (hTB.2 c'.1 (by omega)).1
      have hb256 := (hTB.2 c'.1 (by omega)).2
      by_cases h3 : c'.2.2.1 = 3
      · rw [if_pos h3] at hp
        have q1 : (min c'.2.2.1 3 = 3) = True := eq_true (by omega)
        have q2 : (b c'.1 = 59) = True := eq_true (hcb2.1 h3)
        have h9' : G' 58 9 = nI n := by rw [hf.1 9 (by omega) (by omega) (by omega)]; exact h9
        have hT' : TBy G' 65 n b := TBy_congr hTB (hf.2 65 (by omega) (by omega))
        obtain ⟨G2, hev, hs2, hf2⟩ := X5_must (X := X) h9' hT' hs true
        have hs2 : MRd G2 n (false, nxt b n c'.2.1) := hs2
        have hev : Ev X 174 [.ref 58, .int (nI 1)] G' none G2 := hev
        have hU := fun (k : Nat) (r : List Instr) (lv : LV) (st : List Value) (Q : Option Value → GG → Prop) (hl : st.length ≤ 4) => WP_ev (k := k) (st := .int (nI 1) :: .ref 58 :: st) (rest := st) (r := r) (lv := lv) (Q := Q) hev (by decide) (c := 2) rfl rfl hl rfl
        have hff := hf.trans (MF.ofRF hf2)
        have h92 : G2 58 9 = nI n := by rw [hff.1 9 (by omega) (by omega) (by omega)]; exact h9
        have hT2 : TBy G2 65 n b := TBy_congr hTB (hff.2 65 (by omega) (by omega))
        obtain ⟨G3, hev3, hs3, hsi3, hri⟩ := X5_readItem (X := X) h92 hT2 hs2 (k := k + 1) (m := itM m it) (by rw [hf2.1 17 (by omega)]; exact i1) (by rw [hf2.1 18 (by omega)]; exact i2) (by omega) (itV_le hiv hm)
        have hI := fun (k : Nat) (r : List Instr) (lv : LV) (st : List Value) (Q : Option Value → GG → Prop) (hl : st.length ≤ 4) => WP_ev (k := k) (st := .ref 58 :: st) (rest := st) (r := r) (lv := lv) (Q := Q) hev3 (by decide) (c := 1) rfl rfl hl rfl
        have hnx := nxt_ok (b := b) (n := n) (e := c'.2.1) b2
        have ihk := ih (k + 1) (by omega) (fU g k it) (itM m it) (nxt b n c'.2.1) G3 hp (by omega) hnx.1 (nxt_cb b n _) (itV_le hiv hm) (fun i hi => itG_congr (hits2 i hi) (fun j hj => by rw [hri.2.2 j (by omega), hf2.2 66 (by omega)])) hs3 hsi3 (hff.trans (MF.ofRI hri))
        simp (config := { maxSteps := 1000000 }) (disch := first | exact am_nl_i | exact am_nl_r | exact am_nl_n | exact am_l0 | exact am_l1 | exact am_l2 | exact am_l3 | assumption | omega) only [wp_ldc, wp_sipush, wp_ldc_w, wp_lconst, wp_iadd, wp_isub, wp_imul, wp_iand, wp_ior, wp_ixor, wp_ishl, wp_ishr, wp_iushr, wp_idiv, wp_irem, wp_ineg, wp_i2b, wp_i2s, wp_i2c, wp_i2l, wp_ladd, wp_lmul, wp_lcmp, wp_dup_i, wp_dup_r, wp_dup2, wp_pop, wp_getfield, wp_putfield, wp_getstatic, wp_iaload, wp_baload, wp_aaload, wp_iastore, wp_arraylength, wp_goto, wp_fall, wp_ieq, wp_ine, wp_ilt, wp_ige, wp_igt, wp_ile, wp_ceq, wp_cne, wp_clt, wp_cge, wp_cgt, wp_cle, wp_sw, wp_ret0, wp_ret1z, wp_ret1o, wp_ret1, wp_ret2, wp_ret3, wp_ret4, wp_ret5, wp_return, wp_min, wp_max, wp_abs, am_ex, gset_eq, gset_ne, upd_eq, upd_ne, gset_gset, am_ci_1, am_ci_6, am_toList_some, am_toList_none, true_implies, false_implies, and_self, and_true, true_and, not_true_eq_false, not_false_eq_true, imp_self, implies_true, Classical.not_not, if_true, if_false, false_and, and_false, or_false, false_or, true_or, or_true, Nat.reduceAdd, Nat.reduceMul, Nat.reduceSub, Nat.reduceLT, Nat.reduceLeDiff, Nat.reduceEqDiff, Nat.reduceBneDiff, Nat.add_zero, Nat.zero_add, reduceCtorEq, wil0, wal0, wis0, wic0, wil1, wal1, wis1, wic1, wil2, wll2, wal2, wis2, was2, wls2, wic2, wil3, wis3, wic3, wic3m, wic3s, wil4, wis4, wic4, wil5, wis5, wic5, wic5m, wil6, wll6, wal6, wis6, was6, wls6, wic6, wil7, wal7, wis7, was7, wic7, wil8, wis8, wic8, wil9, wis9, wic9, wil10, wis10, wic10, am_nI_inj, am_nI_lt, am_nI_le, nI_add, pk_mul, am_nI_sub, am_add_m1, am_gfs, am_pfs, am_alds, am_asts, am_lens, am_B168_33, bn168_33, s14, bI_f, s12, q1, s10, htp, q2, hU, hI]
        exact ihk
      · rw [if_neg h3] at hp
        have tl := tail G' (false, c') hs hf (Or.inr h0) (by rw [← hp]) (by rw [← hp])
        by_cases h4 : c'.2.2.1 = 4
        · have q1 : (min c'.2.2.1 3 = 3) = True := eq_true (by omega)
          have q2 : (b c'.1 = 59) = False := eq_false (hcb2.2 h4)
          simp (config := { maxSteps := 1000000 }) (disch := first | exact am_nl_i | exact am_nl_r | exact am_nl_n | exact am_l0 | exact am_l1 | exact am_l2 | exact am_l3 | assumption | omega) only [wp_ldc, wp_sipush, wp_ldc_w, wp_lconst, wp_iadd, wp_isub, wp_imul, wp_iand, wp_ior, wp_ixor, wp_ishl, wp_ishr, wp_iushr, wp_idiv, wp_irem, wp_ineg, wp_i2b, wp_i2s, wp_i2c, wp_i2l, wp_ladd, wp_lmul, wp_lcmp, wp_dup_i, wp_dup_r, wp_dup2, wp_pop, wp_getfield, wp_putfield, wp_getstatic, wp_iaload, wp_baload, wp_aaload, wp_iastore, wp_arraylength, wp_goto, wp_fall, wp_ieq, wp_ine, wp_ilt, wp_ige, wp_igt, wp_ile, wp_ceq, wp_cne, wp_clt, wp_cge, wp_cgt, wp_cle, wp_sw, wp_ret0, wp_ret1z, wp_ret1o, wp_ret1, wp_ret2, wp_ret3, wp_ret4, wp_ret5, wp_return, wp_min, wp_max, wp_abs, am_ex, gset_eq, gset_ne, upd_eq, upd_ne, gset_gset, am_ci_1, am_ci_6, am_toList_some, am_toList_none, true_implies, false_implies, and_self, and_true, true_and, not_true_eq_false, not_false_eq_true, imp_self, implies_true, Classical.not_not, if_true, if_false, false_and, and_false, or_false, false_or, true_or, or_true, Nat.reduceAdd, Nat.reduceMul, Nat.reduceSub, Nat.reduceLT, Nat.reduceLeDiff, Nat.reduceEqDiff, Nat.reduceBneDiff, Nat.add_zero, Nat.zero_add, reduceCtorEq, wil0, wal0, wis0, wic0, wil1, wal1, wis1, wic1, wil2, wll2, wal2, wis2, was2, wls2, wic2, wil3, wis3, wic3, wic3m, wic3s, wil4, wis4, wic4, wil5, wis5, wic5, wic5m, wil6, wll6, wal6, wis6, was6, wls6, wic6, wil7, wal7, wis7, was7, wic7, wil8, wis8, wic8, wil9, wis9, wic9, wil10, wis10, wic10, am_nI_inj, am_nI_lt, am_nI_le, nI_add, pk_mul, am_nI_sub, am_add_m1, am_gfs, am_pfs, am_alds, am_asts, am_lens, am_B168_33, s14, bI_f, s12, q1, s10, htp, q2]
          exact tl
        · have q1 : (min c'.2.2.1 3 = 3) = False := eq_false (by omega)
          simp (config := { maxSteps := 1000000 }) (disch := first | exact am_nl_i | exact am_nl_r | exact am_nl_n | exact am_l0 | exact am_l1 | exact am_l2 | exact am_l3 | assumption | omega) only [wp_ldc, wp_sipush, wp_ldc_w, wp_lconst, wp_iadd, wp_isub, wp_imul, wp_iand, wp_ior, wp_ixor, wp_ishl, wp_ishr, wp_iushr, wp_idiv, wp_irem, wp_ineg, wp_i2b, wp_i2s, wp_i2c, wp_i2l, wp_ladd, wp_lmul, wp_lcmp, wp_dup_i, wp_dup_r, wp_dup2, wp_pop, wp_getfield, wp_putfield, wp_getstatic, wp_iaload, wp_baload, wp_aaload, wp_iastore, wp_arraylength, wp_goto, wp_fall, wp_ieq, wp_ine, wp_ilt, wp_ige, wp_igt, wp_ile, wp_ceq, wp_cne, wp_clt, wp_cge, wp_cgt, wp_cle, wp_sw, wp_ret0, wp_ret1z, wp_ret1o, wp_ret1, wp_ret2, wp_ret3, wp_ret4, wp_ret5, wp_return, wp_min, wp_max, wp_abs, am_ex, gset_eq, gset_ne, upd_eq, upd_ne, gset_gset, am_ci_1, am_ci_6, am_toList_some, am_toList_none, true_implies, false_implies, and_self, and_true, true_and, not_true_eq_false, not_false_eq_true, imp_self, implies_true, Classical.not_not, if_true, if_false, false_and, and_false, or_false, false_or, true_or, or_true, Nat.reduceAdd, Nat.reduceMul, Nat.reduceSub, Nat.reduceLT, Nat.reduceLeDiff, Nat.reduceEqDiff, Nat.reduceBneDiff, Nat.add_zero, Nat.zero_add, reduceCtorEq, wil0, wal0, wis0, wic0, wil1, wal1, wis1, wic1, wil2, wll2, wal2, wis2, was2, wls2, wic2, wil3, wis3, wic3, wic3m, wic3s, wil4, wis4, wic4, wil5, wis5, wic5, wic5m, wil6, wll6, wal6, wis6, was6, wls6, wic6, wil7, wal7, wis7, was7, wic7, wil8, wis8, wic8, wil9, wis9, wic9, wil10, wis10, wic10, am_nI_inj, am_nI_lt, am_nI_le, nI_add, pk_mul, am_nI_sub, am_add_m1, am_gfs, am_pfs, am_alds, am_asts, am_lens, am_B168_33, s14, bI_f, s12, q1]
          exact tl
  -- the begin
  have hG1 : MF G (gset G 58 (upd (upd (upd (upd (G 58) 11 (nI 0)) 14 (nI 0)) 17 (nI 0)) 18 (nI S.1.1))) := ⟨fun f a b c => by rw [gset_eq, upd_ne c, upd_ne b, upd_ne (by omega), upd_ne (by omega)], fun o a _ => gset_ne a⟩
  obtain ⟨G2, hev2, hC2, hf2, ho2⟩ := X5_next (X := X) (G := gset G 58 (upd (upd (upd (upd (G 58) 11 (nI 0)) 14 (nI 0)) 17 (nI 0)) 18 (nI S.1.1))) (n := n) (e := 0) (b := b) (by rw [hG1.1 9 (by omega) (by omega) (by omega)]; exact h9) (by rw [gset_eq, upd_ne (by omega), upd_ne (by omega), upd_ne (by omega), upd_eq]) (Nat.zero_le _) (TBy_congr hTB (hG1.2 65 (by omega) (by omega)))
  have hD := fun (k : Nat) (r : List Instr) (lv : LV) (st : List Value) (Q : Option Value → GG → Prop) (hl : st.length ≤ 4) => WP_ev (k := k) (st := .ref 58 :: st) (rest := st) (r := r) (lv := lv) (Q := Q) hev2 (by decide) (c := 1) rfl rfl hl rfl
  have hf2' : MF (gset G 58 (upd (upd (upd (upd (G 58) 11 (nI 0)) 14 (nI 0)) 17 (nI 0)) 18 (nI S.1.1))) G2 := ⟨fun f a _ _ => hf2 f (by omega), fun o a _ => ho2 o a⟩
  have hff := hG1.trans hf2'
  have hs2 : MRd G2 n (false, nxt b n 0) := ⟨hC2, by rw [hf2 14 (by omega), gset_eq, upd_ne (by omega), upd_ne (by omega), upd_eq]; rfl, (nxt_ok (Nat.zero_le _)).1⟩
  obtain ⟨G3, hev3, hs3, hsi3, hri⟩ := X5_readItem (X := X) (b := b) (by rw [hff.1 9 (by omega) (by omega) (by omega)]; exact h9) (TBy_congr hTB (hff.2 65 (by omega) (by omega))) hs2 (k := 0) (m := S.1.1) (by rw [hf2 17 (by omega), gset_eq, upd_ne (by omega), upd_eq]) (by rw [hf2 18 (by omega), gset_eq, upd_eq]) (by omega) hv8
  have hI := fun (k : Nat) (r : List Instr) (lv : LV) (st : List Value) (Q : Option Value → GG → Prop) (hl : st.length ≤ 4) => WP_ev (k := k) (st := .ref 58 :: st) (rest := st) (r := r) (lv := lv) (Q := Q) hev3 (by decide) (c := 1) rfl rfl hl rfl
  have k0 := key 60 0 rfl f0I S.1.1 (nxt b n 0) G3 hRd.symm (Nat.zero_le _) (nxt_ok (Nat.zero_le _)).1 (nxt_cb b n 0) hv8 (fun i hi => absurd hi (Nat.not_lt_zero i)) hs3 hsi3 (hff.trans (MF.ofRI hri))
  simp (config := { maxSteps := 1000000 }) (disch := first | exact am_nl_i | exact am_nl_r | exact am_nl_n | exact am_l0 | exact am_l1 | exact am_l2 | exact am_l3 | assumption | omega) only [wp_ldc, wp_sipush, wp_ldc_w, wp_lconst, wp_iadd, wp_isub, wp_imul, wp_iand, wp_ior, wp_ixor, wp_ishl, wp_ishr, wp_iushr, wp_idiv, wp_irem, wp_ineg, wp_i2b, wp_i2s, wp_i2c, wp_i2l, wp_ladd, wp_lmul, wp_lcmp, wp_dup_i, wp_dup_r, wp_dup2, wp_pop, wp_getfield, wp_putfield, wp_getstatic, wp_iaload, wp_baload, wp_aaload, wp_iastore, wp_arraylength, wp_goto, wp_fall, wp_ieq, wp_ine, wp_ilt, wp_ige, wp_igt, wp_ile, wp_ceq, wp_cne, wp_clt, wp_cge, wp_cgt, wp_cle, wp_sw, wp_ret0, wp_ret1z, wp_ret1o, wp_ret1, wp_ret2, wp_ret3, wp_ret4, wp_ret5, wp_return, wp_min, wp_max, wp_abs, am_ex, gset_eq, gset_ne, upd_eq, upd_ne, gset_gset, am_ci_1, am_ci_6, am_toList_some, am_toList_none, true_implies, false_implies, and_self, and_true, true_and, not_true_eq_false, not_false_eq_true, imp_self, implies_true, Classical.not_not, if_true, if_false, false_and, and_false, or_false, false_or, true_or, or_true, Nat.reduceAdd, Nat.reduceMul, Nat.reduceSub, Nat.reduceLT, Nat.reduceLeDiff, Nat.reduceEqDiff, Nat.reduceBneDiff, Nat.add_zero, Nat.zero_add, reduceCtorEq, wil0, wal0, wis0, wic0, wil1, wal1, wis1, wic1, wil2, wll2, wal2, wis2, was2, wls2, wic2, wil3, wis3, wic3, wic3m, wic3s, wil4, wis4, wic4, wil5, wis5, wic5, wic5m, wil6, wll6, wal6, wis6, was6, wls6, wic6, wil7, wal7, wis7, was7, wic7, wil8, wis8, wic8, wil9, wis9, wic9, wil10, wis10, wic10, am_nI_inj, am_nI_lt, am_nI_le, nI_add, pk_mul, am_nI_sub, am_add_m1, am_gfs, am_pfs, am_alds, am_asts, am_lens, bk168_0, am_B168_0, bn168_33, pf174, f0, hD, hI]
  exact k0
