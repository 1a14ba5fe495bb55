/-! ===== the model's calls: which plan, as what ===== -/
theorem mI_lt : ∀ a, a < 10 → ∀ b, b < 10 → (mI a < mI b ↔ a < b) := by decide +kernel
theorem mI_eq : ∀ j, j < 10 → ∀ i, i < 8 → (mI j = nI i ↔ j = i + 1) := by decide +kernel
theorem mI_geM {m : Nat} (hm : m < 2 ^ 31) : (nM ≤ mI m) = True ∧ (mI m < nM) = False := by
  have e1 : nM.toInt = -1 := by decide
  unfold mI
  by_cases h : m = 0
  · rw [if_pos h]
    refine ⟨eq_true ?_, eq_false ?_⟩
    · rw [Int32.le_iff_toInt_le]; omega
    · rw [Int32.lt_iff_toInt_lt]; omega
  · rw [if_neg h]
    refine ⟨eq_true ?_, eq_false ?_⟩
    · rw [Int32.le_iff_toInt_le, nI_toInt (by omega)]; omega
    · rw [Int32.lt_iff_toInt_lt, nI_toInt (by omega)]; omega
theorem mI_ltg {m g : Nat} (hm : m < 2 ^ 31) (hg : g < 2 ^ 31) : (mI m < nI g) = (m ≤ g) := by
  have h := mI_le hm hg
  refine propext ⟨fun z => ?_, fun z => ?_⟩
  · by_cases hc : m ≤ g
    · exact hc
    · exact absurd z (Int32.not_lt.mpr (h.mpr (by omega)))
  · exact Int32.not_le.mp (fun q => by have := h.mp q; omega)
theorem bst_skip {ok : Nat → Bool} {g : Nat → Nat} {v : Nat → Int32} {b0 : Int32} {a : Nat} : ∀ d, (∀ j, a ≤ j → j < a + d → ok j = false) → bst ok g v b0 (a + d) = bst ok g v b0 a
  | 0, _ => rfl
  | d + 1, h => by
    have e : bst ok g v b0 (a + (d + 1)) = if ok (a + d) = true ∧ (bst ok g v b0 (a + d)).2 ≤ g (a + d) then (v (a + d), g (a + d) + 1) else bst ok g v b0 (a + d) := rfl
    rw [e, if_neg (fun z => by rw [h (a + d) (by omega) (by omega)] at z; exact absurd z.1 Bool.false_ne_true)]
    exact bst_skip d (fun j h1 h2 => h j h1 (by omega))
theorem bst_b0 {ok : Nat → Bool} {g : Nat → Nat} {v : Nat → Int32} {b0 b1 : Int32} : ∀ j, (bst ok g v b0 j).2 = (bst ok g v b1 j).2 ∧ (¬ (bst ok g v b0 j).2 = 0 → (bst ok g v b0 j).1 = (bst ok g v b1 j).1)
  | 0 => ⟨rfl, fun h => absurd rfl h⟩
  | j + 1 => by
    obtain ⟨h1, h2⟩ := bst_b0 (ok := ok) (g := g) (v := v) (b0 := b0) (b1 := b1) j
    have e : ∀ b, bst ok g v b (j + 1) = if ok j = true ∧ (bst ok g v b j).2 ≤ g j then (v j, g j + 1) else bst ok g v b j := fun b => rfl
    rw [e b0, e b1, ← h1]
    by_cases hc : ok j = true ∧ (bst ok g v b0 j).2 ≤ g j
    · rw [if_pos hc, if_pos hc]; exact ⟨rfl, fun _ => rfl⟩
    · rw [if_neg hc, if_neg hc]; exact ⟨h1, h2⟩
theorem bst_pos {ok : Nat → Bool} {g : Nat → Nat} {v : Nat → Int32} {b0 : Int32} {a : Nat} (h : ok a = true) : ∀ d, 1 ≤ (bst ok g v b0 (a + 1 + d)).2
  | 0 => by
    have e : bst ok g v b0 (a + 1) = if ok a = true ∧ (bst ok g v b0 a).2 ≤ g a then (v a, g a + 1) else bst ok g v b0 a := rfl
    show 1 ≤ (bst ok g v b0 (a + 1)).2
    rw [e]
    by_cases hc : (bst ok g v b0 a).2 ≤ g a
    · rw [if_pos ⟨h, hc⟩]; show 1 ≤ g a + 1; omega
    · rw [if_neg (fun z => hc z.2)]; omega
  | d + 1 => by
    have ih := bst_pos (ok := ok) (g := g) (v := v) (b0 := b0) h d
    have e : bst ok g v b0 (a + 1 + (d + 1)) = if ok (a + 1 + d) = true ∧ (bst ok g v b0 (a + 1 + d)).2 ≤ g (a + 1 + d) then (v (a + 1 + d), g (a + 1 + d) + 1) else bst ok g v b0 (a + 1 + d) := rfl
    rw [e]
    split
    · show 1 ≤ g (a + 1 + d) + 1; omega
    · exact ih
theorem ME_old {S : SS} {G : GG} (hE : ME G 59 S.1.1 S.1.2.1 (nI S.1.2.2.1) S.1.2.2.2) (hv : SV S) {p x : Nat} (hp : p < S.1.1) (hx : x < 5) : G 59 (21 + 5 * p + x) = eK x (S.1.2.1 (x + 1) p) := by
  have hpl := hv.1.2.1 p hp
  rcases (by omega : x = 0 ∨ x = 1 ∨ x = 2 ∨ x = 3 ∨ x = 4) with rfl | rfl | rfl | rfl | rfl
  · exact hE.2.2.2.2.2.1 p hp
  · exact (hE.2.2.2.2.2.2.1 p hp hpl).trans (eP_lt (by omega)).symm
  · exact hE.2.2.2.2.2.2.2.1 p hp
  · exact hE.2.2.2.2.2.2.2.2.1 p hp
  · exact hE.2.2.2.2.2.2.2.2.2 p hp
/-- one trait written -/
theorem MSt_set {S : SS} {G : GG} (h : MSt S G) (hn : S.1.1 ≤ 8) {i x y : Nat} {v : Int32} (hi : i < S.1.1) (hx : x < 5) (hv : ¬ x = 1 → v = eK x y) (hv1 : x = 1 → y < 8 → v = nI y) : MSt (sTown S (S.1.1, updT S.1.2.1 (x + 1) i y, S.1.2.2)) (gset G 59 (upd (G 59) (21 + 5 * i + x) v)) :=
  MSt_town (w := (S.1.1, updT S.1.2.1 (x + 1) i y, S.1.2.2)) h (ME_set h.1 hn hi hx hv hv1) (fun o h1 h2 h3 h4 => gset_ne h1)
theorem MSt_set2 {S : SS} {G : GG} {i x y0 y : Nat} {v : Int32} (h : MSt (sTown S (S.1.1, updT S.1.2.1 (x + 1) i y0, S.1.2.2)) G) (hn : S.1.1 ≤ 8) (hi : i < S.1.1) (hx : x < 5) (hv : ¬ x = 1 → v = eK x y) (hv1 : x = 1 → y < 8 → v = nI y) : MSt (sTown S (S.1.1, updT S.1.2.1 (x + 1) i y, S.1.2.2)) (gset G 59 (upd (G 59) (21 + 5 * i + x) v)) := by
  have h2 := MSt_set (S := sTown S (S.1.1, updT S.1.2.1 (x + 1) i y0, S.1.2.2)) h hn hi hx hv hv1
  have e : updT (updT S.1.2.1 (x + 1) i y0) (x + 1) i y = updT S.1.2.1 (x + 1) i y := updT_updT _ _ _ _ _
  have h3 : MSt (sTown S (S.1.1, updT (updT S.1.2.1 (x + 1) i y0) (x + 1) i y, S.1.2.2)) (gset G 59 (upd (G 59) (21 + 5 * i + x) v)) := h2
  rw [e] at h3
  exact h3
theorem sTown_self (S : SS) (c i : Nat) : sTown S (S.1.1, updT S.1.2.1 c i (S.1.2.1 c i), S.1.2.2) = S := by
  rw [updT_id]
  rfl
theorem CM_best {X : AmX} {S : SS} {G : GG} (h : MSt S G) (hv : SV S) (fd i m lo hi : Nat) (hfd : fd < 4) (hii : i < S.1.1) (hm : m ≤ 60) (hlh : lo ≤ hi) (hh : hi < 9) (hlo : ∀ j, j < lo → mayB S.1.1 i fd (mI j) = false) (hhi : ∀ j, hi < j → j < 9 → mayB S.1.1 i fd (mI j) = false) (hin : ∀ j, lo ≤ j → j ≤ hi → ¬ (fd = 3 ∧ j = i + 1) → mayB S.1.1 i fd (mI j) = true) (hno : fd = 3 → mayB S.1.1 i fd (mI (i + 1)) = false) (hok : mayB S.1.1 i fd (mI lo) = true) : ∃ G1, Ev X 105 [.ref 58, .int (nI i), .int (nI fd), .int (mI lo), .int (mI hi), .int (nI m)] G (some (.int (ricN S fd i m 9).1)) G1 ∧ MSt S G1 ∧ ∀ o, o < 58 → G1 o = G o := by
  suffices hh : WPm X 105 [.ref 58, .int (nI i), .int (nI fd), .int (mI lo), .int (mI hi), .int (nI m)] G (fun v G1 => v = some (.int (ricN S fd i m 9).1) ∧ MSt S G1 ∧ ∀ o, o < 58 → G1 o = G o) by
    obtain ⟨v, G1, h1, rfl, h2⟩ := WPm_ev hh
    exact ⟨G1, h1, h2⟩
  have hv8 := hv.1.1.1
  have hi8 : i < 8 := by omega
  have hi61 : 21 + 5 * i + fd < 61 := by omega
  have hfd5 : fd < 5 := by omega
  have hold := ME_old h.1 hv hii hfd5
  show WP X 105 (am_blk 105 0) [some (.ref 58), some (.int (nI i)), some (.int (nI fd)), some (.int (mI lo)), some (.int (mI hi)), some (.int (nI m)), none, none, none, none, none] [] G _
  generalize hB : bst (fun j => mayB S.1.1 i fd (mI j)) (ricG S fd i m) mI (mI lo) = B
  have hBs : ∀ j, B (j + 1) = if mayB S.1.1 i fd (mI j) = true ∧ (B j).2 ≤ ricG S fd i m j then (mI j, ricG S fd i m j + 1) else B j := fun j => by rw [← hB]; rfl
  have hBle : ∀ j, (B j).2 ≤ 99999 + 1 := fun j => by rw [← hB]; exact bst_le (fun j => Nat.min_le_left _ _) j
  have hB0 : B lo = (mI lo, 0) := by
    rw [← hB]
    have := bst_skip (ok := fun j => mayB S.1.1 i fd (mI j)) (g := ricG S fd i m) (v := mI) (b0 := mI lo) (a := 0) lo (fun j _ h2 => hlo j (by omega))
    rw [Nat.zero_add] at this
    exact this
  have hBe : (B (hi + 1)).1 = (ricN S fd i m 9).1 := by
    have e1 : B 9 = B (hi + 1) := by
      rw [← hB]
      have := bst_skip (ok := fun j => mayB S.1.1 i fd (mI j)) (g := ricG S fd i m) (v := mI) (b0 := mI lo) (a := hi + 1) (9 - (hi + 1)) (fun j h1 h2 => hhi j (by omega) (by omega))
      rw [show hi + 1 + (9 - (hi + 1)) = 9 by omega] at this
      exact this
    have e2 := bst_pos (ok := fun j => mayB S.1.1 i fd (mI j)) (g := ricG S fd i m) (v := mI) (b0 := mI lo) (a := lo) hok (9 - (lo + 1))
    rw [show lo + 1 + (9 - (lo + 1)) = 9 by omega] at e2
    have e3 := (bst_b0 (ok := fun j => mayB S.1.1 i fd (mI j)) (g := ricG S fd i m) (v := mI) (b0 := mI lo) (b1 := nM) 9).2 (by omega)
    rw [hB] at e3
    rw [← e1]
    exact e3
  generalize hQ : (fun (v : Option Value) (G1 : GG) => v = some (.int (ricN S fd i m 9).1) ∧ MSt S G1 ∧ ∀ o, o < 58 → G1 o = G o) = Q
  have key : ∀ d j : Nat, j + d = hi + 1 → lo ≤ j → ∀ (G' : GG) (y0 : Nat) (v10 : Option Value), MSt (sTown S (S.1.1, updT S.1.2.1 (fd + 1) i y0, S.1.2.2)) G' → (∀ o, o < 58 → G' o = G o) → WP X 105 (am_blk 105 17) [some (.ref 58), some (.int (nI i)), some (.int (nI fd)), some (.int (mI lo)), some (.int (mI hi)), some (.int (nI m)), some (.int (eK fd (S.1.2.1 (fd + 1) i))), some (.int (B j).1), some (.int (mI (B j).2)), some (.int (mI j)), v10] [] G' Q := by
    intro d
    induction d with
    | zero =>
      intro j hj hlj G' y0 v10 hc hf
      obtain rfl : j = hi + 1 := by omega
      have q1 : (mI hi < mI (hi + 1)) = True := eq_true ((mI_lt hi (by omega) (hi + 1) (by omega)).mpr (by omega))
      have hT := MSt_set2 (y := S.1.2.1 (fd + 1) i) (v := eK fd (S.1.2.1 (fd + 1) i)) hc hv8 hii hfd5 (fun _ => rfl) (fun e hy => by rw [e] at hy ⊢; exact eP_lt (by omega))
      rw [sTown_self] at hT
      rw [bh105_17]
      simp (config := { maxSteps := 1000000 }) (disch := first | exact am_nl_i | exact am_nl_r | exact am_nl_n | exact am_l0 | exact am_l1 | exact am_l2 | exact am_l3 | assumption | omega) only [wp_ldc, wp_sipush, wp_ldc_w, wp_lconst, wp_iadd, wp_isub, wp_imul, wp_iand, wp_ior, wp_ixor, wp_ishl, wp_ishr, wp_iushr, wp_idiv, wp_irem, wp_ineg, wp_i2b, wp_i2s, wp_i2c, wp_i2l, wp_ladd, wp_lmul, wp_lcmp, wp_dup_i, wp_dup_r, wp_dup2, wp_pop, wp_getfield, wp_putfield, wp_getstatic, wp_iaload, wp_baload, wp_aaload, wp_iastore, wp_arraylength, wp_goto, wp_fall, wp_ieq, wp_ine, wp_ilt, wp_ige, wp_igt, wp_ile, wp_ceq, wp_cne, wp_clt, wp_cge, wp_cgt, wp_cle, wp_sw, wp_ret0, wp_ret1z, wp_ret1o, wp_ret1, wp_ret2, wp_ret3, wp_ret4, wp_ret5, wp_return, wp_min, wp_max, wp_abs, am_ex, gset_eq, gset_ne, upd_eq, upd_ne, gset_gset, am_ci_1, am_ci_6, am_toList_some, am_toList_none, true_implies, false_implies, and_self, and_true, true_and, not_true_eq_false, not_false_eq_true, imp_self, implies_true, Classical.not_not, if_true, if_false, false_and, and_false, or_false, false_or, true_or, or_true, Nat.reduceAdd, Nat.reduceMul, Nat.reduceSub, Nat.reduceLT, Nat.reduceLeDiff, Nat.reduceEqDiff, Nat.reduceBneDiff, Nat.add_zero, Nat.zero_add, reduceCtorEq, wil0, wal0, wis0, wic0, wil1, wal1, wis1, wic1, wil2, wll2, wal2, wis2, was2, wls2, wic2, wil3, wis3, wic3, wic3m, wic3s, wil4, wis4, wic4, wil5, wis5, wic5, wic5m, wil6, wll6, wal6, wis6, was6, wls6, wic6, wil7, wal7, wis7, was7, wic7, wil8, wis8, wic8, wil9, wis9, wic9, wil10, wis10, wic10, am_nI_inj, am_nI_lt, am_nI_le, nI_add, pk_mul, am_nI_sub, am_add_m1, am_gfs, am_pfs, am_alds, am_asts, am_lens, bk105_95, am_B105_17, am_B105_95, q1, C_X5_at]
      rw [← hQ]
      exact ⟨by rw [hBe], hT, fun o ho => by rw [gset_ne (by omega)]; exact hf o ho⟩
    | succ d ih =>
      intro j hj hlj G' y0 v10 hc hf
      have hj9 : j < 9 := by omega
      have q1 : (mI hi < mI j) = False := eq_false (fun z => by have := (mI_lt hi (by omega) j (by omega)).mp z; omega)
      have q2 := vI_inc (j := j) hj9
      have hle := hBle j
      have hBsj := hBs j
      rw [bh105_17]
      by_cases hA : fd = 3 ∧ j = i + 1
      · have h3 := hA.1
        have hji := hA.2
        have hnok := hno h3
        rw [← hji] at hnok
        rw [if_neg (fun z => by rw [hnok] at z; exact absurd z.1 Bool.false_ne_true)] at hBsj
        have q3 : (mI j = nI i) = True := eq_true ((mI_eq j (by omega) i hi8).mpr hji)
        have q4 : (fd = 3) = True := eq_true h3
        obtain ⟨g1, g2⟩ := mI_geM (m := (B j).2) (by omega)
        have hT := MSt_set2 (y := i) (v := mI j) hc hv8 hii hfd5 (fun _ => by rw [h3, (mI_eq j (by omega) i hi8).mpr hji]; exact (eP_lt (by omega)).symm) (fun e => by omega)
        have ihk := fun v10 => ih (j + 1) (by omega) (by omega) _ i v10 hT (fun o ho => by rw [gset_ne (by omega)]; exact hf o ho)
        rw [hBsj] at ihk
        simp (config := { maxSteps := 1000000 }) (disch := first | exact am_nl_i | exact am_nl_r | exact am_nl_n | exact am_l0 | exact am_l1 | exact am_l2 | exact am_l3 | assumption | omega) only [wp_ldc, wp_sipush, wp_ldc_w, wp_lconst, wp_iadd, wp_isub, wp_imul, wp_iand, wp_ior, wp_ixor, wp_ishl, wp_ishr, wp_iushr, wp_idiv, wp_irem, wp_ineg, wp_i2b, wp_i2s, wp_i2c, wp_i2l, wp_ladd, wp_lmul, wp_lcmp, wp_dup_i, wp_dup_r, wp_dup2, wp_pop, wp_getfield, wp_putfield, wp_getstatic, wp_iaload, wp_baload, wp_aaload, wp_iastore, wp_arraylength, wp_goto, wp_fall, wp_ieq, wp_ine, wp_ilt, wp_ige, wp_igt, wp_ile, wp_ceq, wp_cne, wp_clt, wp_cge, wp_cgt, wp_cle, wp_sw, wp_ret0, wp_ret1z, wp_ret1o, wp_ret1, wp_ret2, wp_ret3, wp_ret4, wp_ret5, wp_return, wp_min, wp_max, wp_abs, am_ex, gset_eq, gset_ne, upd_eq, upd_ne, gset_gset, am_ci_1, am_ci_6, am_toList_some, am_toList_none, true_implies, false_implies, and_self, and_true, true_and, not_true_eq_false, not_false_eq_true, imp_self, implies_true, Classical.not_not, if_true, if_false, false_and, and_false, or_false, false_or, true_or, or_true, Nat.reduceAdd, Nat.reduceMul, Nat.reduceSub, Nat.reduceLT, Nat.reduceLeDiff, Nat.reduceEqDiff, Nat.reduceBneDiff, Nat.add_zero, Nat.zero_add, reduceCtorEq, wil0, wal0, wis0, wic0, wil1, wal1, wis1, wic1, wil2, wll2, wal2, wis2, was2, wls2, wic2, wil3, wis3, wic3, wic3m, wic3s, wil4, wis4, wic4, wil5, wis5, wic5, wic5m, wil6, wll6, wal6, wis6, was6, wls6, wic6, wil7, wal7, wis7, was7, wic7, wil8, wis8, wic8, wil9, wis9, wic9, wil10, wis10, wic10, am_nI_inj, am_nI_lt, am_nI_le, nI_add, pk_mul, am_nI_sub, am_add_m1, am_gfs, am_pfs, am_alds, am_asts, am_lens, bk105_62, bk105_76, bk105_78, am_B105_17, am_B105_62, am_B105_76, am_B105_78, bn105_17, q1, q2, q3, q4, g1, g2, C_X5_at, fcs]
        exact ihk _
      · have hmj := hin j hlj (by omega) hA
        obtain ⟨y, hy, hpk, c0, c1, c2, c3, c4⟩ := may_x hv8 hii hfd5 hmj
        have hT := MSt_set2 (y := y) (v := mI j) hc hv8 hii hfd5 (fun _ => hy) (fun e hy8 => by rw [hy, e]; exact eP_lt (by omega))
        have hvT := SV_fr (w := (S.1.1, updT S.1.2.1 (fd + 1) i y, S.1.2.2)) hv (TWV_set hv.1 hii c0 c1 c2 c3 c4 hfd5)
        have hfT : ∀ o, o < 58 → gset G' 59 (upd (G' 59) (21 + 5 * i + fd) (mI j)) o = G o := fun o ho => by rw [gset_ne (by omega)]; exact hf o ho
        have hbody : WP X 105 (am_blk 105 (Int.toNat 51)) [some (.ref 58), some (.int (nI i)), some (.int (nI fd)), some (.int (mI lo)), some (.int (mI hi)), some (.int (nI m)), some (.int (eK fd (S.1.2.1 (fd + 1) i))), some (.int (B j).1), some (.int (mI (B j).2)), some (.int (mI j)), v10] [] (gset G' 59 (upd (G' 59) (21 + 5 * i + fd) (mI j))) Q := by
          generalize gset G' 59 (upd (G' 59) (21 + 5 * i + fd) (mI j)) = G2 at *
          obtain ⟨G3, hev, hc3, hf3⟩ := CM_behind (X := X) hT hvT (21 + 5 * i + 4) m (nI (runN S.1.1 m (updT S.1.2.1 (fd + 1) i y) 5 i)) (by omega) (by omega) (fun G2 t' hM => hM.2.2.2.2.2.2.2.2.2 i hii)
          have hD := fun (k : Nat) (r : List Instr) (lv : LV) (st : List Value) (Q : Option Value → GG → Prop) (hl : st.length ≤ 4) => WP_ev (k := k) (st := .int (nI m) :: .int (nI (21 + 5 * i + 4)) :: .ref 58 :: st) (rest := st) (r := r) (lv := lv) (Q := Q) hev (by decide) (c := 3) rfl rfl hl rfl
          have l5 : runN S.1.1 m (updT S.1.2.1 (fd + 1) i y) 5 i ≤ 99999 := TV_goods (TV_run m hvT.1.1) hii
          have eg : ricG S fd i m j = runN S.1.1 m (updT S.1.2.1 (fd + 1) i y) 5 i := by unfold ricG; rw [hpk]; omega
          rw [← eg] at hD l5
          have q5 := mI_le (m := (B j).2) (g := ricG S fd i m j) (by omega) (by omega)
          have q6 := mI_ltg (m := (B j).2) (g := ricG S fd i m j) (by omega) (by omega)
          have ihk := fun v10 => ih (j + 1) (by omega) (by omega) G3 y v10 hc3 (fun o ho => (hf3 o ho).trans (hfT o ho))
          by_cases hb : (B j).2 ≤ ricG S fd i m j
          · rw [if_pos ⟨hmj, hb⟩] at hBsj
            rw [hBsj] at ihk
            have e5 : mI (ricG S fd i m j + 1) = nI (ricG S fd i m j) := mI_s _
            simp only [e5] at ihk
            rw [eq_false (by omega : ¬ ricG S fd i m j + 1 ≤ (B j).2)] at q5
            rw [eq_true hb] at q6
            simp (config := { maxSteps := 1000000 }) (disch := first | exact am_nl_i | exact am_nl_r | exact am_nl_n | exact am_l0 | exact am_l1 | exact am_l2 | exact am_l3 | assumption | omega) only [wp_ldc, wp_sipush, wp_ldc_w, wp_lconst, wp_iadd, wp_isub, wp_imul, wp_iand, wp_ior, wp_ixor, wp_ishl, wp_ishr, wp_iushr, wp_idiv, wp_irem, wp_ineg, wp_i2b, wp_i2s, wp_i2c, wp_i2l, wp_ladd, wp_lmul, wp_lcmp, wp_dup_i, wp_dup_r, wp_dup2, wp_pop, wp_getfield, wp_putfield, wp_getstatic, wp_iaload, wp_baload, wp_aaload, wp_iastore, wp_arraylength, wp_goto, wp_fall, wp_ieq, wp_ine, wp_ilt, wp_ige, wp_igt, wp_ile, wp_ceq, wp_cne, wp_clt, wp_cge, wp_cgt, wp_cle, wp_sw, wp_ret0, wp_ret1z, wp_ret1o, wp_ret1, wp_ret2, wp_ret3, wp_ret4, wp_ret5, wp_return, wp_min, wp_max, wp_abs, am_ex, gset_eq, gset_ne, upd_eq, upd_ne, gset_gset, am_ci_1, am_ci_6, am_toList_some, am_toList_none, true_implies, false_implies, and_self, and_true, true_and, not_true_eq_false, not_false_eq_true, imp_self, implies_true, Classical.not_not, if_true, if_false, false_and, and_false, or_false, false_or, true_or, or_true, Nat.reduceAdd, Nat.reduceMul, Nat.reduceSub, Nat.reduceLT, Nat.reduceLeDiff, Nat.reduceEqDiff, Nat.reduceBneDiff, Nat.add_zero, Nat.zero_add, reduceCtorEq, wil0, wal0, wis0, wic0, wil1, wal1, wis1, wic1, wil2, wll2, wal2, wis2, was2, wls2, wic2, wil3, wis3, wic3, wic3m, wic3s, wil4, wis4, wic4, wil5, wis5, wic5, wic5m, wil6, wll6, wal6, wis6, was6, wls6, wic6, wil7, wal7, wis7, was7, wic7, wil8, wis8, wic8, wil9, wis9, wic9, wil10, wis10, wic10, am_nI_inj, am_nI_lt, am_nI_le, nI_add, pk_mul, am_nI_sub, am_add_m1, am_gfs, am_pfs, am_alds, am_asts, am_lens, bk105_51, bk105_62, bk105_76, bk105_78, am_B105_51, am_B105_62, am_B105_76, am_B105_78, bn105_17, q2, q5, q6, C_X5_at, hD]
            exact ihk _
          · rw [if_neg (fun z => hb z.2)] at hBsj
            rw [hBsj] at ihk
            rw [eq_true (by omega : ricG S fd i m j + 1 ≤ (B j).2)] at q5
            rw [eq_false hb] at q6
            simp (config := { maxSteps := 1000000 }) (disch := first | exact am_nl_i | exact am_nl_r | exact am_nl_n | exact am_l0 | exact am_l1 | exact am_l2 | exact am_l3 | assumption | omega) only [wp_ldc, wp_sipush, wp_ldc_w, wp_lconst, wp_iadd, wp_isub, wp_imul, wp_iand, wp_ior, wp_ixor, wp_ishl, wp_ishr, wp_iushr, wp_idiv, wp_irem, wp_ineg, wp_i2b, wp_i2s, wp_i2c, wp_i2l, wp_ladd, wp_lmul, wp_lcmp, wp_dup_i, wp_dup_r, wp_dup2, wp_pop, wp_getfield, wp_putfield, wp_getstatic, wp_iaload, wp_baload, wp_aaload, wp_iastore, wp_arraylength, wp_goto, wp_fall, wp_ieq, wp_ine, wp_ilt, wp_ige, wp_igt, wp_ile, wp_ceq, wp_cne, wp_clt, wp_cge, wp_cgt, wp_cle, wp_sw, wp_ret0, wp_ret1z, wp_ret1o, wp_ret1, wp_ret2, wp_ret3, wp_ret4, wp_ret5, wp_return, wp_min, wp_max, wp_abs, am_ex, gset_eq, gset_ne, upd_eq, upd_ne, gset_gset, am_ci_1, am_ci_6, am_toList_some, am_toList_none, true_implies, false_implies, and_self, and_true, true_and, not_true_eq_false, not_false_eq_true, imp_self, implies_true, Classical.not_not, if_true, if_false, false_and, and_false, or_false, false_or, true_or, or_true, Nat.reduceAdd, Nat.reduceMul, Nat.reduceSub, Nat.reduceLT, Nat.reduceLeDiff, Nat.reduceEqDiff, Nat.reduceBneDiff, Nat.add_zero, Nat.zero_add, reduceCtorEq, wil0, wal0, wis0, wic0, wil1, wal1, wis1, wic1, wil2, wll2, wal2, wis2, was2, wls2, wic2, wil3, wis3, wic3, wic3m, wic3s, wil4, wis4, wic4, wil5, wis5, wic5, wic5m, wil6, wll6, wal6, wis6, was6, wls6, wic6, wil7, wal7, wis7, was7, wic7, wil8, wis8, wic8, wil9, wis9, wic9, wil10, wis10, wic10, am_nI_inj, am_nI_lt, am_nI_le, nI_add, pk_mul, am_nI_sub, am_add_m1, am_gfs, am_pfs, am_alds, am_asts, am_lens, bk105_51, bk105_62, bk105_76, bk105_78, am_B105_51, am_B105_62, am_B105_76, am_B105_78, bn105_17, q2, q5, q6, C_X5_at, hD]
            exact ihk _
        by_cases h3 : fd = 3
        · have q4 : (fd = 3) = True := eq_true h3
          have q3 : (mI j = nI i) = False := eq_false (fun z => hA ⟨h3, (mI_eq j (by omega) i hi8).mp z⟩)
          simp (config := { maxSteps := 1000000 }) (disch := first | exact am_nl_i | exact am_nl_r | exact am_nl_n | exact am_l0 | exact am_l1 | exact am_l2 | exact am_l3 | assumption | omega) only [wp_ldc, wp_sipush, wp_ldc_w, wp_lconst, wp_iadd, wp_isub, wp_imul, wp_iand, wp_ior, wp_ixor, wp_ishl, wp_ishr, wp_iushr, wp_idiv, wp_irem, wp_ineg, wp_i2b, wp_i2s, wp_i2c, wp_i2l, wp_ladd, wp_lmul, wp_lcmp, wp_dup_i, wp_dup_r, wp_dup2, wp_pop, wp_getfield, wp_putfield, wp_getstatic, wp_iaload, wp_baload, wp_aaload, wp_iastore, wp_arraylength, wp_goto, wp_fall, wp_ieq, wp_ine, wp_ilt, wp_ige, wp_igt, wp_ile, wp_ceq, wp_cne, wp_clt, wp_cge, wp_cgt, wp_cle, wp_sw, wp_ret0, wp_ret1z, wp_ret1o, wp_ret1, wp_ret2, wp_ret3, wp_ret4, wp_ret5, wp_return, wp_min, wp_max, wp_abs, am_ex, gset_eq, gset_ne, upd_eq, upd_ne, gset_gset, am_ci_1, am_ci_6, am_toList_some, am_toList_none, true_implies, false_implies, and_self, and_true, true_and, not_true_eq_false, not_false_eq_true, imp_self, implies_true, Classical.not_not, if_true, if_false, false_and, and_false, or_false, false_or, true_or, or_true, Nat.reduceAdd, Nat.reduceMul, Nat.reduceSub, Nat.reduceLT, Nat.reduceLeDiff, Nat.reduceEqDiff, Nat.reduceBneDiff, Nat.add_zero, Nat.zero_add, reduceCtorEq, wil0, wal0, wis0, wic0, wil1, wal1, wis1, wic1, wil2, wll2, wal2, wis2, was2, wls2, wic2, wil3, wis3, wic3, wic3m, wic3s, wil4, wis4, wic4, wil5, wis5, wic5, wic5m, wil6, wll6, wal6, wis6, was6, wls6, wic6, wil7, wal7, wis7, was7, wic7, wil8, wis8, wic8, wil9, wis9, wic9, wil10, wis10, wic10, am_nI_inj, am_nI_lt, am_nI_le, nI_add, pk_mul, am_nI_sub, am_add_m1, am_gfs, am_pfs, am_alds, am_asts, am_lens, am_B105_17, q1, q3, q4, C_X5_at]
          exact hbody
        · have q4 : (fd = 3) = False := eq_false h3
          simp (config := { maxSteps := 1000000 }) (disch := first | exact am_nl_i | exact am_nl_r | exact am_nl_n | exact am_l0 | exact am_l1 | exact am_l2 | exact am_l3 | assumption | omega) only [wp_ldc, wp_sipush, wp_ldc_w, wp_lconst, wp_iadd, wp_isub, wp_imul, wp_iand, wp_ior, wp_ixor, wp_ishl, wp_ishr, wp_iushr, wp_idiv, wp_irem, wp_ineg, wp_i2b, wp_i2s, wp_i2c, wp_i2l, wp_ladd, wp_lmul, wp_lcmp, wp_dup_i, wp_dup_r, wp_dup2, wp_pop, wp_getfield, wp_putfield, wp_getstatic, wp_iaload, wp_baload, wp_aaload, wp_iastore, wp_arraylength, wp_goto, wp_fall, wp_ieq, wp_ine, wp_ilt, wp_ige, wp_igt, wp_ile, wp_ceq, wp_cne, wp_clt, wp_cge, wp_cgt, wp_cle, wp_sw, wp_ret0, wp_ret1z, wp_ret1o, wp_ret1, wp_ret2, wp_ret3, wp_ret4, wp_ret5, wp_return, wp_min, wp_max, wp_abs, am_ex, gset_eq, gset_ne, upd_eq, upd_ne, gset_gset, am_ci_1, am_ci_6, am_toList_some, am_toList_none, true_implies, false_implies, and_self, and_true, true_and, not_true_eq_false, not_false_eq_true, imp_self, implies_true, Classical.not_not, if_true, if_false, false_and, and_false, or_false, false_or, true_or, or_true, Nat.reduceAdd, Nat.reduceMul, Nat.reduceSub, Nat.reduceLT, Nat.reduceLeDiff, Nat.reduceEqDiff, Nat.reduceBneDiff, Nat.add_zero, Nat.zero_add, reduceCtorEq, wil0, wal0, wis0, wic0, wil1, wal1, wis1, wic1, wil2, wll2, wal2, wis2, was2, wls2, wic2, wil3, wis3, wic3, wic3m, wic3s, wil4, wis4, wic4, wil5, wis5, wic5, wic5m, wil6, wll6, wal6, wis6, was6, wls6, wic6, wil7, wal7, wis7, was7, wic7, wil8, wis8, wic8, wil9, wis9, wic9, wil10, wis10, wic10, am_nI_inj, am_nI_lt, am_nI_le, nI_add, pk_mul, am_nI_sub, am_add_m1, am_gfs, am_pfs, am_alds, am_asts, am_lens, am_B105_17, q1, q4, C_X5_at]
          exact hbody
  have hs0 : MSt (sTown S (S.1.1, updT S.1.2.1 (fd + 1) i (S.1.2.1 (fd + 1) i), S.1.2.2)) G := by rw [sTown_self]; exact h
  have k0 := key (hi + 1 - lo) lo (by omega) (Nat.le_refl _) G _ none hs0 (fun _ _ => rfl)
  rw [hB0] at k0
  have em : mI 0 = nM := rfl
  simp only [em] at k0
  simp (config := { maxSteps := 1000000 }) (disch := first | exact am_nl_i | exact am_nl_r | exact am_nl_n | exact am_l0 | exact am_l1 | exact am_l2 | exact am_l3 | assumption | omega) only [wp_ldc, wp_sipush, wp_ldc_w, wp_lconst, wp_iadd, wp_isub, wp_imul, wp_iand, wp_ior, wp_ixor, wp_ishl, wp_ishr, wp_iushr, wp_idiv, wp_irem, wp_ineg, wp_i2b, wp_i2s, wp_i2c, wp_i2l, wp_ladd, wp_lmul, wp_lcmp, wp_dup_i, wp_dup_r, wp_dup2, wp_pop, wp_getfield, wp_putfield, wp_getstatic, wp_iaload, wp_baload, wp_aaload, wp_iastore, wp_arraylength, wp_goto, wp_fall, wp_ieq, wp_ine, wp_ilt, wp_ige, wp_igt, wp_ile, wp_ceq, wp_cne, wp_clt, wp_cge, wp_cgt, wp_cle, wp_sw, wp_ret0, wp_ret1z, wp_ret1o, wp_ret1, wp_ret2, wp_ret3, wp_ret4, wp_ret5, wp_return, wp_min, wp_max, wp_abs, am_ex, gset_eq, gset_ne, upd_eq, upd_ne, gset_gset, am_ci_1, am_ci_6, am_toList_some, am_toList_none, true_implies, false_implies, and_self, and_true, true_and, not_true_eq_false, not_false_eq_true, imp_self, implies_true, Classical.not_not, if_true, if_false, false_and, and_false, or_false, false_or, true_or, or_true, Nat.reduceAdd, Nat.reduceMul, Nat.reduceSub, Nat.reduceLT, Nat.reduceLeDiff, Nat.reduceEqDiff, Nat.reduceBneDiff, Nat.add_zero, Nat.zero_add, reduceCtorEq, wil0, wal0, wis0, wic0, wil1, wal1, wis1, wic1, wil2, wll2, wal2, wis2, was2, wls2, wic2, wil3, wis3, wic3, wic3m, wic3s, wil4, wis4, wic4, wil5, wis5, wic5, wic5m, wil6, wll6, wal6, wis6, was6, wls6, wic6, wil7, wal7, wis7, was7, wic7, wil8, wis8, wic8, wil9, wis9, wic9, wil10, wis10, wic10, am_nI_inj, am_nI_lt, am_nI_le, nI_add, pk_mul, am_nI_sub, am_add_m1, am_gfs, am_pfs, am_alds, am_asts, am_lens, bk105_0, am_B105_0, bn105_17, C_X5_personIs, hold, fcs]
  exact k0
theorem E_X5_isTried {X : AmX} {G : GG} (v w : Int32)  : Ev X 104 [.ref 58, .int v, .int w] G (some (.int (bI (inR v (nI 0) (G 59 1 - nI 1) && inR w (nI 0) (nI 60))))) (G) := by
  refine Ev_of ?_
  show WP X 104 (am_blk 104 0) [some (.ref 58), some (.int v), some (.int w)] [] G _
  have e2 : (nI 1 = nI 0) = False := eq_false (by decide)
  cases h1 : inR v (nI 0) (G 59 1 - nI 1)
  · simp (config := { maxSteps := 1000000 }) (disch := first | exact am_nl_i | exact am_nl_r | exact am_nl_n | exact am_l0 | exact am_l1 | exact am_l2 | exact am_l3 | assumption | omega) only [wp_ldc, wp_sipush, wp_ldc_w, wp_lconst, wp_iadd, wp_isub, wp_imul, wp_iand, wp_ior, wp_ixor, wp_ishl, wp_ishr, wp_iushr, wp_idiv, wp_irem, wp_ineg, wp_i2b, wp_i2s, wp_i2c, wp_i2l, wp_ladd, wp_lmul, wp_lcmp, wp_dup_i, wp_dup_r, wp_dup2, wp_pop, wp_getfield, wp_putfield, wp_getstatic, wp_iaload, wp_baload, wp_aaload, wp_iastore, wp_arraylength, wp_goto, wp_fall, wp_ieq, wp_ine, wp_ilt, wp_ige, wp_igt, wp_ile, wp_ceq, wp_cne, wp_clt, wp_cge, wp_cgt, wp_cle, wp_sw, wp_ret0, wp_ret1z, wp_ret1o, wp_ret1, wp_ret2, wp_ret3, wp_ret4, wp_ret5, wp_return, wp_min, wp_max, wp_abs, am_ex, gset_eq, gset_ne, upd_eq, upd_ne, gset_gset, am_ci_1, am_ci_6, am_toList_some, am_toList_none, true_implies, false_implies, and_self, and_true, true_and, not_true_eq_false, not_false_eq_true, imp_self, implies_true, Classical.not_not, if_true, if_false, false_and, and_false, or_false, false_or, true_or, or_true, Nat.reduceAdd, Nat.reduceMul, Nat.reduceSub, Nat.reduceLT, Nat.reduceLeDiff, Nat.reduceEqDiff, Nat.reduceBneDiff, Nat.add_zero, Nat.zero_add, reduceCtorEq, wil0, wal0, wis0, wic0, wil1, wal1, wis1, wic1, wil2, wll2, wal2, wis2, was2, wls2, wic2, wil3, wis3, wic3, wic3m, wic3s, wil4, wis4, wic4, wil5, wis5, wic5, wic5m, wil6, wll6, wal6, wis6, was6, wls6, wic6, wil7, wal7, wis7, was7, wic7, wil8, wis8, wic8, wil9, wis9, wic9, wil10, wis10, wic10, am_nI_inj, am_nI_lt, am_nI_le, nI_add, pk_mul, am_nI_sub, am_add_m1, am_gfs, am_pfs, am_alds, am_asts, am_lens, bs104, am_B104_0, am_B104_22, am_B104_23, C_X5_isPerson, h1, bI_f, Bool.false_and]
  · cases h2 : inR w (nI 0) (nI 60)
    · simp (config := { maxSteps := 1000000 }) (disch := first | exact am_nl_i | exact am_nl_r | exact am_nl_n | exact am_l0 | exact am_l1 | exact am_l2 | exact am_l3 | assumption | omega) only [wp_ldc, wp_sipush, wp_ldc_w, wp_lconst, wp_iadd, wp_isub, wp_imul, wp_iand, wp_ior, wp_ixor, wp_ishl, wp_ishr, wp_iushr, wp_idiv, wp_irem, wp_ineg, wp_i2b, wp_i2s, wp_i2c, wp_i2l, wp_ladd, wp_lmul, wp_lcmp, wp_dup_i, wp_dup_r, wp_dup2, wp_pop, wp_getfield, wp_putfield, wp_getstatic, wp_iaload, wp_baload, wp_aaload, wp_iastore, wp_arraylength, wp_goto, wp_fall, wp_ieq, wp_ine, wp_ilt, wp_ige, wp_igt, wp_ile, wp_ceq, wp_cne, wp_clt, wp_cge, wp_cgt, wp_cle, wp_sw, wp_ret0, wp_ret1z, wp_ret1o, wp_ret1, wp_ret2, wp_ret3, wp_ret4, wp_ret5, wp_return, wp_min, wp_max, wp_abs, am_ex, gset_eq, gset_ne, upd_eq, upd_ne, gset_gset, am_ci_1, am_ci_6, am_toList_some, am_toList_none, true_implies, false_implies, and_self, and_true, true_and, not_true_eq_false, not_false_eq_true, imp_self, implies_true, Classical.not_not, if_true, if_false, false_and, and_false, or_false, false_or, true_or, or_true, Nat.reduceAdd, Nat.reduceMul, Nat.reduceSub, Nat.reduceLT, Nat.reduceLeDiff, Nat.reduceEqDiff, Nat.reduceBneDiff, Nat.add_zero, Nat.zero_add, reduceCtorEq, wil0, wal0, wis0, wic0, wil1, wal1, wis1, wic1, wil2, wll2, wal2, wis2, was2, wls2, wic2, wil3, wis3, wic3, wic3m, wic3s, wil4, wis4, wic4, wil5, wis5, wic5, wic5m, wil6, wll6, wal6, wis6, was6, wls6, wic6, wil7, wal7, wis7, was7, wic7, wil8, wis8, wic8, wil9, wis9, wic9, wil10, wis10, wic10, am_nI_inj, am_nI_lt, am_nI_le, nI_add, pk_mul, am_nI_sub, am_add_m1, am_gfs, am_pfs, am_alds, am_asts, am_lens, bs104, am_B104_0, am_B104_22, am_B104_23, C_X5_isPerson, C_X5_within, h1, h2, bI_f, bI_t, Bool.and_false, e2]
    · simp (config := { maxSteps := 1000000 }) (disch := first | exact am_nl_i | exact am_nl_r | exact am_nl_n | exact am_l0 | exact am_l1 | exact am_l2 | exact am_l3 | assumption | omega) only [wp_ldc, wp_sipush, wp_ldc_w, wp_lconst, wp_iadd, wp_isub, wp_imul, wp_iand, wp_ior, wp_ixor, wp_ishl, wp_ishr, wp_iushr, wp_idiv, wp_irem, wp_ineg, wp_i2b, wp_i2s, wp_i2c, wp_i2l, wp_ladd, wp_lmul, wp_lcmp, wp_dup_i, wp_dup_r, wp_dup2, wp_pop, wp_getfield, wp_putfield, wp_getstatic, wp_iaload, wp_baload, wp_aaload, wp_iastore, wp_arraylength, wp_goto, wp_fall, wp_ieq, wp_ine, wp_ilt, wp_ige, wp_igt, wp_ile, wp_ceq, wp_cne, wp_clt, wp_cge, wp_cgt, wp_cle, wp_sw, wp_ret0, wp_ret1z, wp_ret1o, wp_ret1, wp_ret2, wp_ret3, wp_ret4, wp_ret5, wp_return, wp_min, wp_max, wp_abs, am_ex, gset_eq, gset_ne, upd_eq, upd_ne, gset_gset, am_ci_1, am_ci_6, am_toList_some, am_toList_none, true_implies, false_implies, and_self, and_true, true_and, not_true_eq_false, not_false_eq_true, imp_self, implies_true, Classical.not_not, if_true, if_false, false_and, and_false, or_false, false_or, true_or, or_true, Nat.reduceAdd, Nat.reduceMul, Nat.reduceSub, Nat.reduceLT, Nat.reduceLeDiff, Nat.reduceEqDiff, Nat.reduceBneDiff, Nat.add_zero, Nat.zero_add, reduceCtorEq, wil0, wal0, wis0, wic0, wil1, wal1, wis1, wic1, wil2, wll2, wal2, wis2, was2, wls2, wic2, wil3, wis3, wic3, wic3m, wic3s, wil4, wis4, wic4, wil5, wis5, wic5, wic5m, wil6, wll6, wal6, wis6, was6, wls6, wic6, wil7, wal7, wis7, was7, wic7, wil8, wis8, wic8, wil9, wis9, wic9, wil10, wis10, wic10, am_nI_inj, am_nI_lt, am_nI_le, nI_add, pk_mul, am_nI_sub, am_add_m1, am_gfs, am_pfs, am_alds, am_asts, am_lens, bs104, am_B104_0, am_B104_22, am_B104_23, C_X5_isPerson, C_X5_within, h1, h2, bI_t, Bool.and_true, e2]
theorem C_X5_isTried {X : AmX} {G : GG} {k : Nat} {r : List Instr} {lv : LV} {st : List Value} {Q : Option Value → GG → Prop} {v w : Int32}  (hl : st.length ≤ 4) : WP X k (.invokeinterface 104 3 :: r) lv ((.int w) :: (.int v) :: (.ref 58) :: st) G Q ↔ WP X k r lv ((.int (bI (inR v (nI 0) (G 59 1 - nI 1) && inR w (nI 0) (nI 60)))) :: st) (G) Q := WP_ev (E_X5_isTried v w) (by decide) rfl rfl hl (rfl)
theorem may_dec : (∀ j, j < 9 → inR (mI j) (nI 0) (nI 7) = decide (1 ≤ j)) ∧ (∀ j, j < 9 → inR (mI j) (nI 0) (nI 6) = decide (1 ≤ j ∧ j ≤ 7)) ∧ ∀ n, n < 9 → 1 ≤ n → ∀ j, j < 9 → inR (mI j) nM (nI (n - 1)) = decide (j ≤ n) := by decide +kernel
theorem mayB3 {n i j : Nat} (hn : n ≤ 8) (hi : i < n) (hj : j < 9) : mayB n i 3 (mI j) = decide (j ≤ n ∧ ¬ j = i + 1) := by
  show (inR (mI j) nM (nI (n - 1)) && !decide (mI j = nI i)) = _
  rw [may_dec.2.2 n (by omega) (by omega) j hj]
  have h := mI_eq j (by omega) i (by omega)
  by_cases h1 : j = i + 1
  · rw [decide_eq_true (h.mpr h1)]; simp [h1]
  · rw [decide_eq_false (fun z => h1 (h.mp z))]; simp [h1]
theorem rich_fail {S : SS} {fd : Nat} {a1 a2 : Int32} (h : ¬ (inR a1 (nI 0) (nI S.1.1 - nI 1) && inR a2 (nI 0) (nI 60)) = true) : sp_rich S fd a1 a2 = sFnd S 0 := if_neg (fun z => h (by rw [z.1, z.2]; rfl))
theorem MT_planFor {X : AmX} {S : SS} {G : GG} (h : MSt S G) (hv : SV S) (a1 a2 : Int32) : MW X 103 [.ref 58, .int a1, .int a2] G (sp_planFor S a1 a2) := by
  have hE := h.1
  have f0 := hE.2.1
  have hv8 := hv.1.1.1
  have hm := MS_MR h hv
  unfold MW sp_planFor
  have e2 : (nI 1 = nI 0) = False := eq_false (by decide)
  show WP X 103 (am_blk 103 0) [some (.ref 58), some (.int a1), some (.int a2)] [] G _
  by_cases hc : (inR a1 (nI 0) (nI S.1.1 - nI 1) && inR a2 (nI 0) (nI 60)) = true
  rotate_left
  · rw [rich_fail hc]
    rw [Bool.not_eq_true] at hc
    simp (config := { maxSteps := 1000000 }) (disch := first | exact am_nl_i | exact am_nl_r | exact am_nl_n | exact am_l0 | exact am_l1 | exact am_l2 | exact am_l3 | assumption | omega) only [wp_ldc, wp_sipush, wp_ldc_w, wp_lconst, wp_iadd, wp_isub, wp_imul, wp_iand, wp_ior, wp_ixor, wp_ishl, wp_ishr, wp_iushr, wp_idiv, wp_irem, wp_ineg, wp_i2b, wp_i2s, wp_i2c, wp_i2l, wp_ladd, wp_lmul, wp_lcmp, wp_dup_i, wp_dup_r, wp_dup2, wp_pop, wp_getfield, wp_putfield, wp_getstatic, wp_iaload, wp_baload, wp_aaload, wp_iastore, wp_arraylength, wp_goto, wp_fall, wp_ieq, wp_ine, wp_ilt, wp_ige, wp_igt, wp_ile, wp_ceq, wp_cne, wp_clt, wp_cge, wp_cgt, wp_cle, wp_sw, wp_ret0, wp_ret1z, wp_ret1o, wp_ret1, wp_ret2, wp_ret3, wp_ret4, wp_ret5, wp_return, wp_min, wp_max, wp_abs, am_ex, gset_eq, gset_ne, upd_eq, upd_ne, gset_gset, am_ci_1, am_ci_6, am_toList_some, am_toList_none, true_implies, false_implies, and_self, and_true, true_and, not_true_eq_false, not_false_eq_true, imp_self, implies_true, Classical.not_not, if_true, if_false, false_and, and_false, or_false, false_or, true_or, or_true, Nat.reduceAdd, Nat.reduceMul, Nat.reduceSub, Nat.reduceLT, Nat.reduceLeDiff, Nat.reduceEqDiff, Nat.reduceBneDiff, Nat.add_zero, Nat.zero_add, reduceCtorEq, wil0, wal0, wis0, wic0, wil1, wal1, wis1, wic1, wil2, wll2, wal2, wis2, was2, wls2, wic2, wil3, wis3, wic3, wic3m, wic3s, wil4, wis4, wic4, wil5, wis5, wic5, wic5m, wil6, wll6, wal6, wis6, was6, wls6, wic6, wil7, wal7, wis7, was7, wic7, wil8, wis8, wic8, wil9, wis9, wic9, wil10, wis10, wic10, am_nI_inj, am_nI_lt, am_nI_le, nI_add, pk_mul, am_nI_sub, am_add_m1, am_gfs, am_pfs, am_alds, am_asts, am_lens, bs103, am_B103_0, am_B103_22, am_B103_28, C_X5_isTried, f0, hc, bI_f, fcs, C_X5_finding]
    first | exact ⟨rfl, MSt_fnd h (by omega), mfnd_frame⟩ | exact ⟨MSt_fnd h (by omega), mfnd_frame⟩
  rw [Bool.and_eq_true] at hc
  obtain ⟨h1, h2⟩ := hc
  have es : sp_rich S 1 a1 a2 = ((ricN S 1 (aN a1) (aN a2) 9).1, S) := if_pos ⟨h1, h2⟩
  rw [es]
  obtain ⟨p, hp, rfl, h1'⟩ := there_of hv8 h1
  obtain ⟨x, hx, rfl, h2'⟩ := rng_of (by omega) h2
  rw [aN_nI (show p < 2 ^ 31 by omega), aN_nI (show x < 2 ^ 31 by omega)]
  have hd := may_dec.1
  obtain ⟨G1, hev, hc1, hf1⟩ := CM_best (X := X) h hv 1 p x 1 8 (by omega) hp hx (by omega) (by omega) (fun j hj => (hd j (by omega)).trans (decide_eq_false (by omega))) (fun j h1 h2 => by omega) (fun j h1 h2 _ => (hd j (by omega)).trans (decide_eq_true (by omega))) (fun e => absurd e (by omega)) ((hd 1 (by omega)).trans (decide_eq_true (by omega)))
  have hev : Ev X 105 [.ref 58, .int (nI p), .int (nI 1), .int (nI 0), .int (nI 7), .int (nI x)] G (some (.int (ricN S 1 p x 9).1)) G1 := hev
  have hD := fun (k : Nat) (r : List Instr) (lv : LV) (Q : Option Value → GG → Prop) => WP_ev (k := k) (st := [.int (nI x), .int (nI 7), .int (nI 0), .int (nI 1), .int (nI p), .ref 58]) (rest := []) (r := r) (lv := lv) (Q := Q) hev (by decide) (c := 6) rfl rfl (by decide) rfl
  simp (config := { maxSteps := 1000000 }) (disch := first | exact am_nl_i | exact am_nl_r | exact am_nl_n | exact am_l0 | exact am_l1 | exact am_l2 | exact am_l3 | assumption | omega) only [wp_ldc, wp_sipush, wp_ldc_w, wp_lconst, wp_iadd, wp_isub, wp_imul, wp_iand, wp_ior, wp_ixor, wp_ishl, wp_ishr, wp_iushr, wp_idiv, wp_irem, wp_ineg, wp_i2b, wp_i2s, wp_i2c, wp_i2l, wp_ladd, wp_lmul, wp_lcmp, wp_dup_i, wp_dup_r, wp_dup2, wp_pop, wp_getfield, wp_putfield, wp_getstatic, wp_iaload, wp_baload, wp_aaload, wp_iastore, wp_arraylength, wp_goto, wp_fall, wp_ieq, wp_ine, wp_ilt, wp_ige, wp_igt, wp_ile, wp_ceq, wp_cne, wp_clt, wp_cge, wp_cgt, wp_cle, wp_sw, wp_ret0, wp_ret1z, wp_ret1o, wp_ret1, wp_ret2, wp_ret3, wp_ret4, wp_ret5, wp_return, wp_min, wp_max, wp_abs, am_ex, gset_eq, gset_ne, upd_eq, upd_ne, gset_gset, am_ci_1, am_ci_6, am_toList_some, am_toList_none, true_implies, false_implies, and_self, and_true, true_and, not_true_eq_false, not_false_eq_true, imp_self, implies_true, Classical.not_not, if_true, if_false, false_and, and_false, or_false, false_or, true_or, or_true, Nat.reduceAdd, Nat.reduceMul, Nat.reduceSub, Nat.reduceLT, Nat.reduceLeDiff, Nat.reduceEqDiff, Nat.reduceBneDiff, Nat.add_zero, Nat.zero_add, reduceCtorEq, wil0, wal0, wis0, wic0, wil1, wal1, wis1, wic1, wil2, wll2, wal2, wis2, was2, wls2, wic2, wil3, wis3, wic3, wic3m, wic3s, wil4, wis4, wic4, wil5, wis5, wic5, wic5m, wil6, wll6, wal6, wis6, was6, wls6, wic6, wil7, wal7, wis7, was7, wic7, wil8, wis8, wic8, wil9, wis9, wic9, wil10, wis10, wic10, am_nI_inj, am_nI_lt, am_nI_le, nI_add, pk_mul, am_nI_sub, am_add_m1, am_gfs, am_pfs, am_alds, am_asts, am_lens, bs103, am_B103_0, am_B103_22, am_B103_28, C_X5_isTried, f0, h1', h2', Bool.and_true, bI_t, e2, hD]
  first | exact ⟨rfl, hc1, hf1⟩ | exact ⟨hc1, hf1⟩
theorem MT_kindFor {X : AmX} {S : SS} {G : GG} (h : MSt S G) (hv : SV S) (a1 a2 : Int32) : MW X 107 [.ref 58, .int a1, .int a2] G (sp_kindFor S a1 a2) := by
  have hE := h.1
  have f0 := hE.2.1
  have hv8 := hv.1.1.1
  have hm := MS_MR h hv
  unfold MW sp_kindFor
  have e2 : (nI 1 = nI 0) = False := eq_false (by decide)
  show WP X 107 (am_blk 107 0) [some (.ref 58), some (.int a1), some (.int a2)] [] G _
  by_cases hc : (inR a1 (nI 0) (nI S.1.1 - nI 1) && inR a2 (nI 0) (nI 60)) = true
  rotate_left
  · rw [rich_fail hc]
    rw [Bool.not_eq_true] at hc
    simp (config := { maxSteps := 1000000 }) (disch := first | exact am_nl_i | exact am_nl_r | exact am_nl_n | exact am_l0 | exact am_l1 | exact am_l2 | exact am_l3 | assumption | omega) only [wp_ldc, wp_sipush, wp_ldc_w, wp_lconst, wp_iadd, wp_isub, wp_imul, wp_iand, wp_ior, wp_ixor, wp_ishl, wp_ishr, wp_iushr, wp_idiv, wp_irem, wp_ineg, wp_i2b, wp_i2s, wp_i2c, wp_i2l, wp_ladd, wp_lmul, wp_lcmp, wp_dup_i, wp_dup_r, wp_dup2, wp_pop, wp_getfield, wp_putfield, wp_getstatic, wp_iaload, wp_baload, wp_aaload, wp_iastore, wp_arraylength, wp_goto, wp_fall, wp_ieq, wp_ine, wp_ilt, wp_ige, wp_igt, wp_ile, wp_ceq, wp_cne, wp_clt, wp_cge, wp_cgt, wp_cle, wp_sw, wp_ret0, wp_ret1z, wp_ret1o, wp_ret1, wp_ret2, wp_ret3, wp_ret4, wp_ret5, wp_return, wp_min, wp_max, wp_abs, am_ex, gset_eq, gset_ne, upd_eq, upd_ne, gset_gset, am_ci_1, am_ci_6, am_toList_some, am_toList_none, true_implies, false_implies, and_self, and_true, true_and, not_true_eq_false, not_false_eq_true, imp_self, implies_true, Classical.not_not, if_true, if_false, false_and, and_false, or_false, false_or, true_or, or_true, Nat.reduceAdd, Nat.reduceMul, Nat.reduceSub, Nat.reduceLT, Nat.reduceLeDiff, Nat.reduceEqDiff, Nat.reduceBneDiff, Nat.add_zero, Nat.zero_add, reduceCtorEq, wil0, wal0, wis0, wic0, wil1, wal1, wis1, wic1, wil2, wll2, wal2, wis2, was2, wls2, wic2, wil3, wis3, wic3, wic3m, wic3s, wil4, wis4, wic4, wil5, wis5, wic5, wic5m, wil6, wll6, wal6, wis6, was6, wls6, wic6, wil7, wal7, wis7, was7, wic7, wil8, wis8, wic8, wil9, wis9, wic9, wil10, wis10, wic10, am_nI_inj, am_nI_lt, am_nI_le, nI_add, pk_mul, am_nI_sub, am_add_m1, am_gfs, am_pfs, am_alds, am_asts, am_lens, bs107, am_B107_0, am_B107_22, am_B107_28, C_X5_isTried, f0, hc, bI_f, fcs, C_X5_finding]
    first | exact ⟨rfl, MSt_fnd h (by omega), mfnd_frame⟩ | exact ⟨MSt_fnd h (by omega), mfnd_frame⟩
  rw [Bool.and_eq_true] at hc
  obtain ⟨h1, h2⟩ := hc
  have es : sp_rich S 0 a1 a2 = ((ricN S 0 (aN a1) (aN a2) 9).1, S) := if_pos ⟨h1, h2⟩
  rw [es]
  obtain ⟨p, hp, rfl, h1'⟩ := there_of hv8 h1
  obtain ⟨x, hx, rfl, h2'⟩ := rng_of (by omega) h2
  rw [aN_nI (show p < 2 ^ 31 by omega), aN_nI (show x < 2 ^ 31 by omega)]
  have hd := may_dec.2.1
  obtain ⟨G1, hev, hc1, hf1⟩ := CM_best (X := X) h hv 0 p x 1 7 (by omega) hp hx (by omega) (by omega) (fun j hj => (hd j (by omega)).trans (decide_eq_false (by omega))) (fun j h1 h2 => (hd j (by omega)).trans (decide_eq_false (by omega))) (fun j h1 h2 _ => (hd j (by omega)).trans (decide_eq_true (by omega))) (fun e => absurd e (by omega)) ((hd 1 (by omega)).trans (decide_eq_true (by omega)))
  have hev : Ev X 105 [.ref 58, .int (nI p), .int (nI 0), .int (nI 0), .int (nI 6), .int (nI x)] G (some (.int (ricN S 0 p x 9).1)) G1 := hev
  have hD := fun (k : Nat) (r : List Instr) (lv : LV) (Q : Option Value → GG → Prop) => WP_ev (k := k) (st := [.int (nI x), .int (nI 6), .int (nI 0), .int (nI 0), .int (nI p), .ref 58]) (rest := []) (r := r) (lv := lv) (Q := Q) hev (by decide) (c := 6) rfl rfl (by decide) rfl
  simp (config := { maxSteps := 1000000 }) (disch := first | exact am_nl_i | exact am_nl_r | exact am_nl_n | exact am_l0 | exact am_l1 | exact am_l2 | exact am_l3 | assumption | omega) only [wp_ldc, wp_sipush, wp_ldc_w, wp_lconst, wp_iadd, wp_isub, wp_imul, wp_iand, wp_ior, wp_ixor, wp_ishl, wp_ishr, wp_iushr, wp_idiv, wp_irem, wp_ineg, wp_i2b, wp_i2s, wp_i2c, wp_i2l, wp_ladd, wp_lmul, wp_lcmp, wp_dup_i, wp_dup_r, wp_dup2, wp_pop, wp_getfield, wp_putfield, wp_getstatic, wp_iaload, wp_baload, wp_aaload, wp_iastore, wp_arraylength, wp_goto, wp_fall, wp_ieq, wp_ine, wp_ilt, wp_ige, wp_igt, wp_ile, wp_ceq, wp_cne, wp_clt, wp_cge, wp_cgt, wp_cle, wp_sw, wp_ret0, wp_ret1z, wp_ret1o, wp_ret1, wp_ret2, wp_ret3, wp_ret4, wp_ret5, wp_return, wp_min, wp_max, wp_abs, am_ex, gset_eq, gset_ne, upd_eq, upd_ne, gset_gset, am_ci_1, am_ci_6, am_toList_some, am_toList_none, true_implies, false_implies, and_self, and_true, true_and, not_true_eq_false, not_false_eq_true, imp_self, implies_true, Classical.not_not, if_true, if_false, false_and, and_false, or_false, false_or, true_or, or_true, Nat.reduceAdd, Nat.reduceMul, Nat.reduceSub, Nat.reduceLT, Nat.reduceLeDiff, Nat.reduceEqDiff, Nat.reduceBneDiff, Nat.add_zero, Nat.zero_add, reduceCtorEq, wil0, wal0, wis0, wic0, wil1, wal1, wis1, wic1, wil2, wll2, wal2, wis2, was2, wls2, wic2, wil3, wis3, wic3, wic3m, wic3s, wil4, wis4, wic4, wil5, wis5, wic5, wic5m, wil6, wll6, wal6, wis6, was6, wls6, wic6, wil7, wal7, wis7, was7, wic7, wil8, wis8, wic8, wil9, wis9, wic9, wil10, wis10, wic10, am_nI_inj, am_nI_lt, am_nI_le, nI_add, pk_mul, am_nI_sub, am_add_m1, am_gfs, am_pfs, am_alds, am_asts, am_lens, bs107, am_B107_0, am_B107_22, am_B107_28, C_X5_isTried, f0, h1', h2', Bool.and_true, bI_t, e2, hD]
  first | exact ⟨rfl, hc1, hf1⟩ | exact ⟨hc1, hf1⟩
theorem MT_looksFor {X : AmX} {S : SS} {G : GG} (h : MSt S G) (hv : SV S) (a1 a2 : Int32) : MW X 109 [.ref 58, .int a1, .int a2] G (sp_looksFor S a1 a2) := by
  have hE := h.1
  have f0 := hE.2.1
  have hv8 := hv.1.1.1
  have hm := MS_MR h hv
  unfold MW sp_looksFor
  have e2 : (nI 1 = nI 0) = False := eq_false (by decide)
  show WP X 109 (am_blk 109 0) [some (.ref 58), some (.int a1), some (.int a2)] [] G _
  by_cases hc : (inR a1 (nI 0) (nI S.1.1 - nI 1) && inR a2 (nI 0) (nI 60)) = true
  rotate_left
  · rw [rich_fail hc]
    rw [Bool.not_eq_true] at hc
    simp (config := { maxSteps := 1000000 }) (disch := first | exact am_nl_i | exact am_nl_r | exact am_nl_n | exact am_l0 | exact am_l1 | exact am_l2 | exact am_l3 | assumption | omega) only [wp_ldc, wp_sipush, wp_ldc_w, wp_lconst, wp_iadd, wp_isub, wp_imul, wp_iand, wp_ior, wp_ixor, wp_ishl, wp_ishr, wp_iushr, wp_idiv, wp_irem, wp_ineg, wp_i2b, wp_i2s, wp_i2c, wp_i2l, wp_ladd, wp_lmul, wp_lcmp, wp_dup_i, wp_dup_r, wp_dup2, wp_pop, wp_getfield, wp_putfield, wp_getstatic, wp_iaload, wp_baload, wp_aaload, wp_iastore, wp_arraylength, wp_goto, wp_fall, wp_ieq, wp_ine, wp_ilt, wp_ige, wp_igt, wp_ile, wp_ceq, wp_cne, wp_clt, wp_cge, wp_cgt, wp_cle, wp_sw, wp_ret0, wp_ret1z, wp_ret1o, wp_ret1, wp_ret2, wp_ret3, wp_ret4, wp_ret5, wp_return, wp_min, wp_max, wp_abs, am_ex, gset_eq, gset_ne, upd_eq, upd_ne, gset_gset, am_ci_1, am_ci_6, am_toList_some, am_toList_none, true_implies, false_implies, and_self, and_true, true_and, not_true_eq_false, not_false_eq_true, imp_self, implies_true, Classical.not_not, if_true, if_false, false_and, and_false, or_false, false_or, true_or, or_true, Nat.reduceAdd, Nat.reduceMul, Nat.reduceSub, Nat.reduceLT, Nat.reduceLeDiff, Nat.reduceEqDiff, Nat.reduceBneDiff, Nat.add_zero, Nat.zero_add, reduceCtorEq, wil0, wal0, wis0, wic0, wil1, wal1, wis1, wic1, wil2, wll2, wal2, wis2, was2, wls2, wic2, wil3, wis3, wic3, wic3m, wic3s, wil4, wis4, wic4, wil5, wis5, wic5, wic5m, wil6, wll6, wal6, wis6, was6, wls6, wic6, wil7, wal7, wis7, was7, wic7, wil8, wis8, wic8, wil9, wis9, wic9, wil10, wis10, wic10, am_nI_inj, am_nI_lt, am_nI_le, nI_add, pk_mul, am_nI_sub, am_add_m1, am_gfs, am_pfs, am_alds, am_asts, am_lens, bs109, am_B109_0, am_B109_22, am_B109_28, C_X5_isTried, f0, hc, bI_f, fcs, C_X5_finding]
    first | exact ⟨rfl, MSt_fnd h (by omega), mfnd_frame⟩ | exact ⟨MSt_fnd h (by omega), mfnd_frame⟩
  rw [Bool.and_eq_true] at hc
  obtain ⟨h1, h2⟩ := hc
  have es : sp_rich S 2 a1 a2 = ((ricN S 2 (aN a1) (aN a2) 9).1, S) := if_pos ⟨h1, h2⟩
  rw [es]
  obtain ⟨p, hp, rfl, h1'⟩ := there_of hv8 h1
  obtain ⟨x, hx, rfl, h2'⟩ := rng_of (by omega) h2
  rw [aN_nI (show p < 2 ^ 31 by omega), aN_nI (show x < 2 ^ 31 by omega)]
  have hd := may_dec.1
  obtain ⟨G1, hev, hc1, hf1⟩ := CM_best (X := X) h hv 2 p x 1 8 (by omega) hp hx (by omega) (by omega) (fun j hj => (hd j (by omega)).trans (decide_eq_false (by omega))) (fun j h1 h2 => by omega) (fun j h1 h2 _ => (hd j (by omega)).trans (decide_eq_true (by omega))) (fun e => absurd e (by omega)) ((hd 1 (by omega)).trans (decide_eq_true (by omega)))
  have hev : Ev X 105 [.ref 58, .int (nI p), .int (nI 2), .int (nI 0), .int (nI 7), .int (nI x)] G (some (.int (ricN S 2 p x 9).1)) G1 := hev
  have hD := fun (k : Nat) (r : List Instr) (lv : LV) (Q : Option Value → GG → Prop) => WP_ev (k := k) (st := [.int (nI x), .int (nI 7), .int (nI 0), .int (nI 2), .int (nI p), .ref 58]) (rest := []) (r := r) (lv := lv) (Q := Q) hev (by decide) (c := 6) rfl rfl (by decide) rfl
  simp (config := { maxSteps := 1000000 }) (disch := first | exact am_nl_i | exact am_nl_r | exact am_nl_n | exact am_l0 | exact am_l1 | exact am_l2 | exact am_l3 | assumption | omega) only [wp_ldc, wp_sipush, wp_ldc_w, wp_lconst, wp_iadd, wp_isub, wp_imul, wp_iand, wp_ior, wp_ixor, wp_ishl, wp_ishr, wp_iushr, wp_idiv, wp_irem, wp_ineg, wp_i2b, wp_i2s, wp_i2c, wp_i2l, wp_ladd, wp_lmul, wp_lcmp, wp_dup_i, wp_dup_r, wp_dup2, wp_pop, wp_getfield, wp_putfield, wp_getstatic, wp_iaload, wp_baload, wp_aaload, wp_iastore, wp_arraylength, wp_goto, wp_fall, wp_ieq, wp_ine, wp_ilt, wp_ige, wp_igt, wp_ile, wp_ceq, wp_cne, wp_clt, wp_cge, wp_cgt, wp_cle, wp_sw, wp_ret0, wp_ret1z, wp_ret1o, wp_ret1, wp_ret2, wp_ret3, wp_ret4, wp_ret5, wp_return, wp_min, wp_max, wp_abs, am_ex, gset_eq, gset_ne, upd_eq, upd_ne, gset_gset, am_ci_1, am_ci_6, am_toList_some, am_toList_none, true_implies, false_implies, and_self, and_true, true_and, not_true_eq_false, not_false_eq_true, imp_self, implies_true, Classical.not_not, if_true, if_false, false_and, and_false, or_false, false_or, true_or, or_true, Nat.reduceAdd, Nat.reduceMul, Nat.reduceSub, Nat.reduceLT, Nat.reduceLeDiff, Nat.reduceEqDiff, Nat.reduceBneDiff, Nat.add_zero, Nat.zero_add, reduceCtorEq, wil0, wal0, wis0, wic0, wil1, wal1, wis1, wic1, wil2, wll2, wal2, wis2, was2, wls2, wic2, wil3, wis3, wic3, wic3m, wic3s, wil4, wis4, wic4, wil5, wis5, wic5, wic5m, wil6, wll6, wal6, wis6, was6, wls6, wic6, wil7, wal7, wis7, was7, wic7, wil8, wis8, wic8, wil9, wis9, wic9, wil10, wis10, wic10, am_nI_inj, am_nI_lt, am_nI_le, nI_add, pk_mul, am_nI_sub, am_add_m1, am_gfs, am_pfs, am_alds, am_asts, am_lens, bs109, am_B109_0, am_B109_22, am_B109_28, C_X5_isTried, f0, h1', h2', Bool.and_true, bI_t, e2, hD]
  first | exact ⟨rfl, hc1, hf1⟩ | exact ⟨hc1, hf1⟩
theorem MT_loveFor {X : AmX} {S : SS} {G : GG} (h : MSt S G) (hv : SV S) (a1 a2 : Int32) : MW X 111 [.ref 58, .int a1, .int a2] G (sp_loveFor S a1 a2) := by
  have hE := h.1
  have f0 := hE.2.1
  have hv8 := hv.1.1.1
  have hm := MS_MR h hv
  unfold MW sp_loveFor
  have e2 : (nI 1 = nI 0) = False := eq_false (by decide)
  show WP X 111 (am_blk 111 0) [some (.ref 58), some (.int a1), some (.int a2)] [] G _
  by_cases hc : (inR a1 (nI 0) (nI S.1.1 - nI 1) && inR a2 (nI 0) (nI 60)) = true
  rotate_left
  · rw [rich_fail hc]
    rw [Bool.not_eq_true] at hc
    simp (config := { maxSteps := 1000000 }) (disch := first | exact am_nl_i | exact am_nl_r | exact am_nl_n | exact am_l0 | exact am_l1 | exact am_l2 | exact am_l3 | assumption | omega) only [wp_ldc, wp_sipush, wp_ldc_w, wp_lconst, wp_iadd, wp_isub, wp_imul, wp_iand, wp_ior, wp_ixor, wp_ishl, wp_ishr, wp_iushr, wp_idiv, wp_irem, wp_ineg, wp_i2b, wp_i2s, wp_i2c, wp_i2l, wp_ladd, wp_lmul, wp_lcmp, wp_dup_i, wp_dup_r, wp_dup2, wp_pop, wp_getfield, wp_putfield, wp_getstatic, wp_iaload, wp_baload, wp_aaload, wp_iastore, wp_arraylength, wp_goto, wp_fall, wp_ieq, wp_ine, wp_ilt, wp_ige, wp_igt, wp_ile, wp_ceq, wp_cne, wp_clt, wp_cge, wp_cgt, wp_cle, wp_sw, wp_ret0, wp_ret1z, wp_ret1o, wp_ret1, wp_ret2, wp_ret3, wp_ret4, wp_ret5, wp_return, wp_min, wp_max, wp_abs, am_ex, gset_eq, gset_ne, upd_eq, upd_ne, gset_gset, am_ci_1, am_ci_6, am_toList_some, am_toList_none, true_implies, false_implies, and_self, and_true, true_and, not_true_eq_false, not_false_eq_true, imp_self, implies_true, Classical.not_not, if_true, if_false, false_and, and_false, or_false, false_or, true_or, or_true, Nat.reduceAdd, Nat.reduceMul, Nat.reduceSub, Nat.reduceLT, Nat.reduceLeDiff, Nat.reduceEqDiff, Nat.reduceBneDiff, Nat.add_zero, Nat.zero_add, reduceCtorEq, wil0, wal0, wis0, wic0, wil1, wal1, wis1, wic1, wil2, wll2, wal2, wis2, was2, wls2, wic2, wil3, wis3, wic3, wic3m, wic3s, wil4, wis4, wic4, wil5, wis5, wic5, wic5m, wil6, wll6, wal6, wis6, was6, wls6, wic6, wil7, wal7, wis7, was7, wic7, wil8, wis8, wic8, wil9, wis9, wic9, wil10, wis10, wic10, am_nI_inj, am_nI_lt, am_nI_le, nI_add, pk_mul, am_nI_sub, am_add_m1, am_gfs, am_pfs, am_alds, am_asts, am_lens, bs111, am_B111_0, am_B111_28, am_B111_34, C_X5_isTried, f0, hc, bI_f, fcs, C_X5_finding]
    first | exact ⟨rfl, MSt_fnd h (by omega), mfnd_frame⟩ | exact ⟨MSt_fnd h (by omega), mfnd_frame⟩
  rw [Bool.and_eq_true] at hc
  obtain ⟨h1, h2⟩ := hc
  have es : sp_rich S 3 a1 a2 = ((ricN S 3 (aN a1) (aN a2) 9).1, S) := if_pos ⟨h1, h2⟩
  rw [es]
  obtain ⟨p, hp, rfl, h1'⟩ := there_of hv8 h1
  obtain ⟨x, hx, rfl, h2'⟩ := rng_of (by omega) h2
  rw [aN_nI (show p < 2 ^ 31 by omega), aN_nI (show x < 2 ^ 31 by omega)]
  have hd : ∀ j, j < 9 → mayB S.1.1 p 3 (mI j) = decide (j ≤ S.1.1 ∧ ¬ j = p + 1) := fun j hj => mayB3 hv8 hp hj
  obtain ⟨G1, hev, hc1, hf1⟩ := CM_best (X := X) h hv 3 p x 0 S.1.1 (by omega) hp hx (by omega) (by omega) (fun j hj => absurd hj (Nat.not_lt_zero j)) (fun j h1 h2 => (hd j (by omega)).trans (decide_eq_false (by omega))) (fun j h1 h2 h3 => (hd j (by omega)).trans (decide_eq_true (by omega))) (fun _ => (hd (p + 1) (by omega)).trans (decide_eq_false (by omega))) ((hd 0 (by omega)).trans (decide_eq_true (by omega)))
  have em : mI S.1.1 = nI (S.1.1 - 1) := if_neg (by omega)
  rw [em] at hev
  have hev : Ev X 105 [.ref 58, .int (nI p), .int (nI 3), .int nM, .int (nI (S.1.1 - 1)), .int (nI x)] G (some (.int (ricN S 3 p x 9).1)) G1 := hev
  have hD := fun (k : Nat) (r : List Instr) (lv : LV) (Q : Option Value → GG → Prop) => WP_ev (k := k) (st := [.int (nI x), .int (nI (S.1.1 - 1)), .int nM, .int (nI 3), .int (nI p), .ref 58]) (rest := []) (r := r) (lv := lv) (Q := Q) hev (by decide) (c := 6) rfl rfl (by decide) rfl
  simp (config := { maxSteps := 1000000 }) (disch := first | exact am_nl_i | exact am_nl_r | exact am_nl_n | exact am_l0 | exact am_l1 | exact am_l2 | exact am_l3 | assumption | omega) only [wp_ldc, wp_sipush, wp_ldc_w, wp_lconst, wp_iadd, wp_isub, wp_imul, wp_iand, wp_ior, wp_ixor, wp_ishl, wp_ishr, wp_iushr, wp_idiv, wp_irem, wp_ineg, wp_i2b, wp_i2s, wp_i2c, wp_i2l, wp_ladd, wp_lmul, wp_lcmp, wp_dup_i, wp_dup_r, wp_dup2, wp_pop, wp_getfield, wp_putfield, wp_getstatic, wp_iaload, wp_baload, wp_aaload, wp_iastore, wp_arraylength, wp_goto, wp_fall, wp_ieq, wp_ine, wp_ilt, wp_ige, wp_igt, wp_ile, wp_ceq, wp_cne, wp_clt, wp_cge, wp_cgt, wp_cle, wp_sw, wp_ret0, wp_ret1z, wp_ret1o, wp_ret1, wp_ret2, wp_ret3, wp_ret4, wp_ret5, wp_return, wp_min, wp_max, wp_abs, am_ex, gset_eq, gset_ne, upd_eq, upd_ne, gset_gset, am_ci_1, am_ci_6, am_toList_some, am_toList_none, true_implies, false_implies, and_self, and_true, true_and, not_true_eq_false, not_false_eq_true, imp_self, implies_true, Classical.not_not, if_true, if_false, false_and, and_false, or_false, false_or, true_or, or_true, Nat.reduceAdd, Nat.reduceMul, Nat.reduceSub, Nat.reduceLT, Nat.reduceLeDiff, Nat.reduceEqDiff, Nat.reduceBneDiff, Nat.add_zero, Nat.zero_add, reduceCtorEq, wil0, wal0, wis0, wic0, wil1, wal1, wis1, wic1, wil2, wll2, wal2, wis2, was2, wls2, wic2, wil3, wis3, wic3, wic3m, wic3s, wil4, wis4, wic4, wil5, wis5, wic5, wic5m, wil6, wll6, wal6, wis6, was6, wls6, wic6, wil7, wal7, wis7, was7, wic7, wil8, wis8, wic8, wil9, wis9, wic9, wil10, wis10, wic10, am_nI_inj, am_nI_lt, am_nI_le, nI_add, pk_mul, am_nI_sub, am_add_m1, am_gfs, am_pfs, am_alds, am_asts, am_lens, bs111, am_B111_0, am_B111_28, am_B111_34, C_X5_isTried, f0, h1', h2', Bool.and_true, bI_t, e2, fcs, hD]
  first | exact ⟨rfl, hc1, hf1⟩ | exact ⟨hc1, hf1⟩
