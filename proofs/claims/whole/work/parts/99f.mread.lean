/-! ===== texts: the model reads an item ===== -/
theorem kdL_is {b : Nat → Nat} {c : Cur} : ∀ m, ¬ kdL b c m = 7 → isWd b c (kdL b c m) = true
  | 0, h => absurd rfl h
  | m + 1, h => by
    unfold kdL at h ⊢
    by_cases hw : isWd b c m = true
    · rw [if_pos hw]; exact hw
    · rw [if_neg hw] at h ⊢
      exact kdL_is m h
theorem kd_prize {b : Nat → Nat} {c : Cur} (h : isWd b c 7 = true) : kdL b c 7 = 7 := by
  by_cases hk : kdL b c 7 = 7
  · exact hk
  · have h1 := kdL_is 7 hk
    have h2 : kdL b c 7 < 7 := by
      rcases kdL_le b c 7 (by omega) with h3 | h3
      · exact absurd h3 hk
      · exact h3
    exact wd_uniq (by omega) (by omega) h1 h
def CB (b : Nat → Nat) (c : Cur) : Prop := (c.2.2.1 = 3 → b c.1 = 59) ∧ (c.2.2.1 = 4 → ¬ b c.1 = 59)
theorem nxt_cb (b : Nat → Nat) (n e : Nat) : CB b (nxt b n e) := by
  unfold nxt
  generalize bgN b n e = g
  by_cases hg : n ≤ g
  · rw [if_pos hg]; exact ⟨fun z => absurd (show (0 : Nat) = 3 from z) (by decide), fun z => absurd (show (0 : Nat) = 4 from z) (by decide)⟩
  · rw [if_neg hg]
    by_cases hl : isLet (b g) = true
    · rw [if_pos hl]; exact ⟨fun z => absurd (show (1 : Nat) = 3 from z) (by decide), fun z => absurd (show (1 : Nat) = 4 from z) (by decide)⟩
    · rw [if_neg hl]
      by_cases hd : isDig (b g) = true
      · rw [if_pos hd]; exact ⟨fun z => absurd (show (2 : Nat) = 3 from z) (by decide), fun z => absurd (show (2 : Nat) = 4 from z) (by decide)⟩
      · rw [if_neg hd]
        refine ⟨fun z => ?_, fun z => ?_⟩
        · have z : (if b g = 59 then 3 else 4) = 3 := z
          show b g = 59
          by_cases h : b g = 59
          · exact h
          · rw [if_neg h] at z; omega
        · have z : (if b g = 59 then 3 else 4) = 4 := z
          show ¬ b g = 59
          intro h
          rw [if_pos h] at z; omega
theorem must_cb {b : Nat → Nat} {n : Nat} {s : Rd} (h : CB b s.2) (v : Bool) : CB b (mMust b n s v).2 := by
  unfold mMust
  split
  · exact h
  · exact nxt_cb b n _
theorem aft_cb {b : Nat → Nat} {n j : Nat} {s : Rd} (h : CB b s.2) (hi : Int32) : CB b (mAft b n s j hi).2 := by
  unfold mAft
  split
  · exact h
  · exact must_cb (must_cb h true) _
theorem pI_cb {b : Nat → Nat} {n m : Nat} {c : Cur} (h : CB b c) : CB b (pI b n m c).1.2 := by
  unfold pI
  split
  · exact must_cb (must_cb (s := q1S b n c) (nxt_cb b n _) _) _
  · split
    · exact h
    · exact aft_cb (aft_cb (aft_cb (must_cb (s := (false, c)) h _) _) _) _
theorem E_X5_addItem {X : AmX} {G : GG} (q : Nat) (w x y v : Int32) (hq : q < 120) (h17 : G 58 17 = nI q) : Ev X 177 [.ref 58, .int w, .int x, .int y, .int v] G (none) (gset (gset G 66 (upd (upd (upd (upd (G 66) (4 * q) w) (4 * q + 1) x) (4 * q + 2) y) (4 * q + 3) v)) 58 (upd (G 58) 17 (nI (q + 1)))) := by
  refine Ev_of ?_
  show WP X 177 (am_blk 177 0) [some (.ref 58), some (.int w), some (.int x), some (.int y), some (.int v), none] [] G _
  have g58 : ∀ f, gset G 66 f 58 = G 58 := fun f => gset_ne (by omega)
  have a1 : 4 * q < 480 := by omega
  have a2 : 4 * q + 1 < 480 := by omega
  have a3 : 4 * q + 2 < 480 := by omega
  have a4 : 4 * q + 3 < 480 := by omega
  simp (config := { maxSteps := 1000000 }) (disch := first | exact am_nl_i | exact am_nl_r | exact am_nl_n | exact am_l0 | exact am_l1 | exact am_l2 | exact am_l3 | assumption | omega) only [wp_ldc, wp_sipush, wp_ldc_w, wp_lconst, wp_iadd, wp_isub, wp_imul, wp_iand, wp_ior, wp_ixor, wp_ishl, wp_ishr, wp_iushr, wp_idiv, wp_irem, wp_ineg, wp_i2b, wp_i2s, wp_i2c, wp_i2l, wp_ladd, wp_lmul, wp_lcmp, wp_dup_i, wp_dup_r, wp_dup2, wp_pop, wp_getfield, wp_putfield, wp_getstatic, wp_iaload, wp_baload, wp_aaload, wp_iastore, wp_arraylength, wp_goto, wp_fall, wp_ieq, wp_ine, wp_ilt, wp_ige, wp_igt, wp_ile, wp_ceq, wp_cne, wp_clt, wp_cge, wp_cgt, wp_cle, wp_sw, wp_ret0, wp_ret1z, wp_ret1o, wp_ret1, wp_ret2, wp_ret3, wp_ret4, wp_ret5, wp_return, wp_min, wp_max, wp_abs, am_ex, gset_eq, gset_ne, upd_eq, upd_ne, gset_gset, am_ci_1, am_ci_6, am_toList_some, am_toList_none, true_implies, false_implies, and_self, and_true, true_and, not_true_eq_false, not_false_eq_true, imp_self, implies_true, Classical.not_not, if_true, if_false, false_and, and_false, or_false, false_or, true_or, or_true, Nat.reduceAdd, Nat.reduceMul, Nat.reduceSub, Nat.reduceLT, Nat.reduceLeDiff, Nat.reduceEqDiff, Nat.reduceBneDiff, Nat.add_zero, Nat.zero_add, reduceCtorEq, wil0, wal0, wis0, wic0, wil1, wal1, wis1, wic1, wil2, wll2, wal2, wis2, was2, wls2, wic2, wil3, wis3, wic3, wic3m, wic3s, wil4, wis4, wic4, wil5, wis5, wic5, wic5m, wil6, wll6, wal6, wis6, was6, wls6, wic6, wil7, wal7, wis7, was7, wic7, wil8, wis8, wic8, wil9, wis9, wic9, wil10, wis10, wic10, am_nI_inj, am_nI_lt, am_nI_le, nI_add, pk_mul, am_nI_sub, am_add_m1, am_gfs, am_pfs, am_alds, am_asts, am_lens, bs177, am_B177_0, h17, g58]
theorem C_X5_addItem {X : AmX} {G : GG} {k : Nat} {r : List Instr} {lv : LV} {st : List Value} {Q : Option Value → GG → Prop} {q : Nat} {w x y v : Int32} (hq : q < 120) (h17 : G 58 17 = nI q) (hl : st.length ≤ 4) : WP X k (.invokeinterface 177 5 :: r) lv ((.int v) :: (.int y) :: (.int x) :: (.int w) :: (.ref 58) :: st) G Q ↔ WP X k r lv (st) (gset (gset G 66 (upd (upd (upd (upd (G 66) (4 * q) w) (4 * q + 1) x) (4 * q + 2) y) (4 * q + 3) v)) 58 (upd (G 58) 17 (nI (q + 1)))) Q := WP_ev (E_X5_addItem q w x y v hq h17) (by decide) rfl rfl hl (rfl)
def itG (G : GG) (k : Nat) (it : Itm) : Prop := G 66 (4 * k) = nI it.1 ∧ G 66 (4 * k + 1) = nI it.2.1 ∧ G 66 (4 * k + 2) = nI it.2.2.1 ∧ (it.1 = 10 ∨ G 66 (4 * k + 3) = eP it.2.2.2)
/-- what an item's reading may change -/
def RI (G G1 : GG) (k : Nat) : Prop := (∀ f, ¬ (10 ≤ f ∧ f ≤ 14) → ¬ f = 17 → ¬ f = 18 → G1 58 f = G 58 f) ∧ (∀ o, ¬ o = 58 → ¬ o = 66 → G1 o = G o) ∧ ∀ j, j < 4 * k → G1 66 j = G 66 j
theorem MRd_58 {G : GG} {n f : Nat} {s : Rd} {x : Int32} (h : MRd G n s) (hf : ¬ (10 ≤ f ∧ f ≤ 14)) : MRd (gset G 58 (upd (G 58) f x)) n s := by
  obtain ⟨⟨a1, a2, a3, a4⟩, h2, h3⟩ := h
  refine ⟨⟨?_, ?_, ?_, fun z => ?_⟩, ?_, h3⟩
  · rw [gset_eq, upd_ne (by omega)]; exact a1
  · rw [gset_eq, upd_ne (by omega)]; exact a2
  · rw [gset_eq, upd_ne (by omega)]; exact a3
  · rw [gset_eq, upd_ne (by omega)]; exact a4 z
  · rw [gset_eq, upd_ne (by omega)]; exact h2
theorem MRd_o {G G1 : GG} {n : Nat} {s : Rd} (h : MRd G n s) (e : G1 58 = G 58) : MRd G1 n s := by
  obtain ⟨h1, h2, h3⟩ := h
  unfold MRd MC at *
  rw [e]
  exact ⟨h1, h2, h3⟩
theorem X5_readItem {X : AmX} {G : GG} {n m k : Nat} {b : Nat → Nat} {c : Cur} (h9 : G 58 9 = nI n) (hT : TBy G 65 n b) (hR : MRd G n (false, c)) (h17 : G 58 17 = nI k) (h18 : G 58 18 = nI m) (hk : k ≤ 100) (hm : m ≤ 8) : ∃ G1, Ev X 171 [.ref 58] G none G1 ∧ MRd G1 n (pI b n m c).1 ∧ ((pI b n m c).1.1 = false → G1 58 17 = nI (k + 1) ∧ G1 58 18 = nI (itM m (pI b n m c).2) ∧ itG G1 k (pI b n m c).2) ∧ RI G G1 k := by
  have hC : MC G c := hR.1
  have hv : CV n c := hR.2.2
  have e2 : (nI 1 = nI 0) = False := eq_false (by decide)
  have hok := pI_ok (b := b) (n := n) (m := m) (c := c) hv hm
  have hK := fun (kk : Nat) (r : List Instr) (lv : LV) (st : List Value) (Q : Option Value → GG → Prop) (hl : st.length ≤ 4) => C_X5_kindTold (X := X) (G := G) (k := kk) (st := st) (r := r) (lv := lv) (Q := Q) (n := n) (b := b) (c := c) hC hv hT hl
  by_cases hk7 : kdL b c 7 = 7
  · -- no kind: a prize, or wrong
    rw [hk7, eX_7] at hK
    have q0 : (nM < nI 0) = True := nM_lt (by omega)
    have hW0 := fun (kk : Nat) (r : List Instr) (lv : LV) (st : List Value) (Q : Option Value → GG → Prop) (hl : st.length ≤ 4) => C_X5_isWord (X := X) (G := G) (k := kk) (st := st) (r := r) (lv := lv) (Q := Q) (n := n) (j := 7) (b := b) (c := c) (by omega) hC hv hT hl
    have hW : ∀ (kk : Nat) (r : List Instr) (lv : LV) (st : List Value) (Q : Option Value → GG → Prop), st.length ≤ 4 → (WP X kk (.invokeinterface 173 2 :: r) lv (.ref 107 :: .ref 58 :: st) G Q ↔ WP X kk r lv (.int (bI (isWd b c 7)) :: st) G Q) := hW0
    obtain ⟨G2, hev2, hR2, hf2⟩ := X5_must (X := X) h9 hT hR (isWd b c 7)
    have hU := fun (kk : Nat) (r : List Instr) (lv : LV) (st : List Value) (Q : Option Value → GG → Prop) (hl : st.length ≤ 4) => WP_ev (k := kk) (st := .int (bI (isWd b c 7)) :: .ref 58 :: st) (rest := st) (r := r) (lv := lv) (Q := Q) hev2 (by decide) (c := 2) rfl rfl hl rfl
    have h92 : G2 58 9 = nI n := by rw [hf2.1 9 (by omega)]; exact h9
    have hT2 : TBy G2 65 n b := TBy_congr hT (hf2.2 65 (by omega))
    obtain ⟨G3, hev3, hR3, hf3⟩ := X5_number (X := X) h92 hT2 hR2 (nI 7)
    have hN := fun (kk : Nat) (r : List Instr) (lv : LV) (st : List Value) (Q : Option Value → GG → Prop) (hl : st.length ≤ 4) => WP_ev (k := kk) (st := .int (nI 7) :: .int (nI 0) :: .ref 58 :: st) (rest := st) (r := r) (lv := lv) (Q := Q) hev3 (by decide) (c := 3) rfl rfl hl rfl
    have hf23 := hf2.trans hf3
    have h93 : G3 58 9 = nI n := by rw [hf23.1 9 (by omega)]; exact h9
    have hT3 : TBy G3 65 n b := TBy_congr hT (hf23.2 65 (by omega))
    obtain ⟨G4, hev4, hR4, hf4⟩ := X5_number (X := X) h93 hT3 hR3 (nI 9999)
    have hN2 := fun (kk : Nat) (r : List Instr) (lv : LV) (st : List Value) (Q : Option Value → GG → Prop) (hl : st.length ≤ 4) => WP_ev (k := kk) (st := .int (nI 9999) :: .int (nI 0) :: .ref 58 :: st) (rest := st) (r := r) (lv := lv) (Q := Q) hev4 (by decide) (c := 3) rfl rfl hl rfl
    have hf24 := hf23.trans hf4
    have h174 : G4 58 17 = nI k := by rw [hf24.1 17 (by omega)]; exact h17
    have h184 : G4 58 18 = nI m := by rw [hf24.1 18 (by omega)]; exact h18
    have hA := fun (kk : Nat) (r : List Instr) (lv : LV) (st : List Value) (Q : Option Value → GG → Prop) (hl : st.length ≤ 4) => C_X5_addItem (X := X) (G := G4) (k := kk) (st := st) (r := r) (lv := lv) (Q := Q) (q := k) (w := nI 10) (x := G2 58 13) (y := G3 58 13) (v := nI 0) (by omega) h174 hl
    have hst : (pI b n m c).1 = mNum b n (mNum b n (mMust b n (false, c) (isWd b c 7)) (nI 7)) (nI 9999) := by
      unfold pI
      cases h7 : isWd b c 7
      · rw [if_neg Bool.false_ne_true, if_pos hk7]; rfl
      · rw [if_pos rfl]; rfl
    refine ⟨gset (gset G4 66 (upd (upd (upd (upd (G4 66) (4 * k) (nI 10)) (4 * k + 1) (G2 58 13)) (4 * k + 2) (G3 58 13)) (4 * k + 3) (nI 0))) 58 (upd (G4 58) 17 (nI (k + 1))), Ev_of ?_, ?_, fun z => ?_, ?_⟩
    rotate_left
    · rw [hst]
      exact MRd_o (G := gset G4 58 (upd (G4 58) 17 (nI (k + 1)))) (MRd_58 hR4 (by omega)) (by rw [gset_eq, gset_eq])
    · have hok := hok z
      have z0 := z
      rw [hst] at z
      obtain ⟨z1, z2, _⟩ := must_f (s := mNum b n (mMust b n (false, c) (isWd b c 7)) (nI 7)) z
      have z1 : (mMust b n (mMust b n (false, c) (isWd b c 7)) (numOk (mMust b n (false, c) (isWd b c 7)).2 (nI 7))).1 = false := z1
      obtain ⟨y1, y2, y3⟩ := must_f z1
      obtain ⟨_, x2, x3⟩ := must_f y1
      have hit : (pI b n m c).2 = (10, (q1S b n c).2.2.2.2, (q2S b n c).2.2.2.2, 0) := by
        unfold pI
        rw [if_pos x2]
      have eq1 : mMust b n (false, c) (isWd b c 7) = q1S b n c := x3
      have eq2 : mNum b n (mMust b n (false, c) (isWd b c 7)) (nI 7) = q2S b n c := by rw [eq1]; rfl
      rw [eq1] at hR2 y2
      rw [eq2] at hR3 z2
      obtain ⟨s1, v1⟩ := num_7 (by omega) y2
      obtain ⟨s2, v2⟩ := num_7 (by omega) z2
      have f1 := hR2.1.2.2.2 s1
      have f2 := hR3.1.2.2.2 s2
      rw [show min 10000 (q1S b n c).2.2.2.2 = (q1S b n c).2.2.2.2 by omega] at f1
      rw [show min 10000 (q2S b n c).2.2.2.2 = (q2S b n c).2.2.2.2 by omega] at f2
      rw [hit]
      refine ⟨?_, ?_, ?_, ?_, ?_, Or.inl rfl⟩
      · rw [gset_eq, upd_eq]
      · rw [gset_eq, upd_ne (by omega)]; exact h184
      · rw [gset_ne (by omega), gset_eq, upd_ne (by omega), upd_ne (by omega), upd_ne (by omega), upd_eq]
      · rw [gset_ne (by omega), gset_eq, upd_ne (by omega), upd_ne (by omega), upd_eq]; exact f1
      · rw [gset_ne (by omega), gset_eq, upd_ne (by omega), upd_eq]; exact f2
    · refine ⟨fun f hf h1 h2 => ?_, fun o h1 h2 => ?_, fun j hj => ?_⟩
      · rw [gset_eq, upd_ne h1]; exact hf24.1 f hf
      · rw [gset_ne h1, gset_ne h2]; exact hf24.2 o h1
      · rw [gset_ne (by omega), gset_eq, upd_ne (by omega), upd_ne (by omega), upd_ne (by omega), upd_ne (by omega), hf24.2 66 (by omega)]
    show WP X 171 (am_blk 171 0) [some (.ref 58), none, none, none] [] G _
    generalize G2 58 13 = x2 at *
    generalize G3 58 13 = x3 at *
    simp (config := { maxSteps := 1000000 }) (disch := first | exact am_nl_i | exact am_nl_r | exact am_nl_n | exact am_l0 | exact am_l1 | exact am_l2 | exact am_l3 | assumption | omega) only [wp_ldc, wp_sipush, wp_ldc_w, wp_lconst, wp_iadd, wp_isub, wp_imul, wp_iand, wp_ior, wp_ixor, wp_ishl, wp_ishr, wp_iushr, wp_idiv, wp_irem, wp_ineg, wp_i2b, wp_i2s, wp_i2c, wp_i2l, wp_ladd, wp_lmul, wp_lcmp, wp_dup_i, wp_dup_r, wp_dup2, wp_pop, wp_getfield, wp_putfield, wp_getstatic, wp_iaload, wp_baload, wp_aaload, wp_iastore, wp_arraylength, wp_goto, wp_fall, wp_ieq, wp_ine, wp_ilt, wp_ige, wp_igt, wp_ile, wp_ceq, wp_cne, wp_clt, wp_cge, wp_cgt, wp_cle, wp_sw, wp_ret0, wp_ret1z, wp_ret1o, wp_ret1, wp_ret2, wp_ret3, wp_ret4, wp_ret5, wp_return, wp_min, wp_max, wp_abs, am_ex, gset_eq, gset_ne, upd_eq, upd_ne, gset_gset, am_ci_1, am_ci_6, am_toList_some, am_toList_none, true_implies, false_implies, and_self, and_true, true_and, not_true_eq_false, not_false_eq_true, imp_self, implies_true, Classical.not_not, if_true, if_false, false_and, and_false, or_false, false_or, true_or, or_true, Nat.reduceAdd, Nat.reduceMul, Nat.reduceSub, Nat.reduceLT, Nat.reduceLeDiff, Nat.reduceEqDiff, Nat.reduceBneDiff, Nat.add_zero, Nat.zero_add, reduceCtorEq, wil0, wal0, wis0, wic0, wil1, wal1, wis1, wic1, wil2, wll2, wal2, wis2, was2, wls2, wic2, wil3, wis3, wic3, wic3m, wic3s, wil4, wis4, wic4, wil5, wis5, wic5, wic5m, wil6, wll6, wal6, wis6, was6, wls6, wic6, wil7, wal7, wis7, was7, wic7, wil8, wis8, wic8, wil9, wis9, wic9, wil10, wis10, wic10, am_nI_inj, am_nI_lt, am_nI_le, nI_add, pk_mul, am_nI_sub, am_add_m1, am_gfs, am_pfs, am_alds, am_asts, am_lens, bk171_0, bk171_83, bk171_118, am_B171_0, am_B171_83, am_B171_118, hK, q0, hW, hU, hN, hN2, hA]
  · -- a kind
    have hkl : kdL b c 7 < 7 := by
      rcases kdL_le b c 7 (by omega) with h3 | h3
      · exact absurd h3 hk7
      · exact h3
    have h7f : ¬ isWd b c 7 = true := fun z => hk7 (kd_prize z)
    rw [eX_lt hkl] at hK
    have q0 : (kdL b c 7 < 0) = False := eq_false (by omega)
    obtain ⟨G2, hev2, hR2, hf2⟩ := X5_must (X := X) h9 hT hR (decide (m < 8))
    have h92 : G2 58 9 = nI n := by rw [hf2.1 9 (by omega)]; exact h9
    have hT2 : TBy G2 65 n b := TBy_congr hT (hf2.2 65 (by omega))
    obtain ⟨G3, x2, hev3, hR3, hf3, hx2⟩ := X5_afterWord (X := X) (j := 8) (by omega) h92 hT2 hR2 (nI 7) (nI 0)
    have hf23 := hf2.trans hf3
    have h93 : G3 58 9 = nI n := by rw [hf23.1 9 (by omega)]; exact h9
    have hT3 : TBy G3 65 n b := TBy_congr hT (hf23.2 65 (by omega))
    obtain ⟨G4, x3, hev4, hR4, hf4, hx3⟩ := X5_afterWord (X := X) (j := 9) (by omega) h93 hT3 hR3 (nI 7) (nI 1)
    have hf24 := hf23.trans hf4
    have h94 : G4 58 9 = nI n := by rw [hf24.1 9 (by omega)]; exact h9
    have hT4 : TBy G4 65 n b := TBy_congr hT (hf24.2 65 (by omega))
    obtain ⟨G5, x4, hev5, hR5, hf5, hx4⟩ := X5_afterWord (X := X) (j := 10) (by omega) h94 hT4 hR4 (nI m - nI 1) nM
    have hf25 := hf24.trans hf5
    have h184 : G4 58 18 = nI m := by rw [hf24.1 18 (by omega)]; exact h18
    have h175 : G5 58 17 = nI k := by rw [hf25.1 17 (by omega)]; exact h17
    have h185 : G5 58 18 = nI m := by rw [hf25.1 18 (by omega)]; exact h18
    have hev3 : Ev X 175 [.ref 58, .ref 108, .int (nI 7), .int (nI 0)] G2 (some (.int x2)) G3 := hev3
    have hev4 : Ev X 175 [.ref 58, .ref 109, .int (nI 7), .int (nI 1)] G3 (some (.int x3)) G4 := hev4
    have hev5 : Ev X 175 [.ref 58, .ref 110, .int (nI m - nI 1), .int nM] G4 (some (.int x4)) G5 := hev5
    have hW2 := fun (kk : Nat) (r : List Instr) (lv : LV) (Q : Option Value → GG → Prop) => WP_ev (k := kk) (st := [.int (nI 0), .int (nI 7), .ref 108, .ref 58]) (rest := []) (r := r) (lv := lv) (Q := Q) hev3 (by decide) (c := 4) rfl rfl (by decide) rfl
    have hW3 := fun (kk : Nat) (r : List Instr) (lv : LV) (Q : Option Value → GG → Prop) => WP_ev (k := kk) (st := [.int (nI 1), .int (nI 7), .ref 109, .ref 58]) (rest := []) (r := r) (lv := lv) (Q := Q) hev4 (by decide) (c := 4) rfl rfl (by decide) rfl
    have hst : (pI b n m c).1 = p4S b n m c := by
      unfold pI
      rw [if_neg h7f, if_neg hk7]
    have hit : (pI b n m c).2 = (kdL b c 7, vOf b n (p1S b n m c).2 8 0, vOf b n (p2S b n m c).2 9 1, vOf b n (p3S b n m c).2 10 8) := by
      unfold pI
      rw [if_neg h7f, if_neg hk7]
    have hR5 : MRd G5 n (p4S b n m c) := hR5
    have hx4 : (p4S b n m c).1 = false → x4 = if isWd b (p3S b n m c).2 10 = true then nI (min 10000 (nxt b n (p3S b n m c).2.2.1).2.2.2) else nM := hx4
    have hx3 : (p3S b n m c).1 = false → x3 = if isWd b (p2S b n m c).2 9 = true then nI (min 10000 (nxt b n (p2S b n m c).2.2.1).2.2.2) else nI 1 := hx3
    have hx2 : (p2S b n m c).1 = false → x2 = if isWd b (p1S b n m c).2 8 = true then nI (min 10000 (nxt b n (p1S b n m c).2.2.1).2.2.2) else nI 0 := hx2
    have hA := fun (kk : Nat) (r : List Instr) (lv : LV) (st : List Value) (Q : Option Value → GG → Prop) (hl : st.length ≤ 4) => C_X5_addItem (X := X) (G := G5) (k := kk) (st := st) (r := r) (lv := lv) (Q := Q) (q := k) (w := nI (kdL b c 7)) (x := x2) (y := x3) (v := x4) (by omega) h175 hl
    refine ⟨gset (gset (gset G5 66 (upd (upd (upd (upd (G5 66) (4 * k) (nI (kdL b c 7))) (4 * k + 1) x2) (4 * k + 2) x3) (4 * k + 3) x4)) 58 (upd (G5 58) 17 (nI (k + 1)))) 58 (upd (upd (G5 58) 17 (nI (k + 1))) 18 (nI (m + 1))), Ev_of ?_, ?_, fun z => ?_, ?_⟩
    rotate_left
    · rw [hst]
      have a := MRd_58 (f := 18) (x := nI (m + 1)) (MRd_58 (f := 17) (x := nI (k + 1)) hR5 (by omega)) (by omega)
      rw [gset_gset, gset_eq] at a
      exact MRd_o a (by rw [gset_eq, gset_eq])
    · have hok := (hok z).1
      rw [hit] at hok ⊢
      rw [hst] at z
      have z4 := z
      obtain ⟨z3, _⟩ := aft_f (s := p3S b n m c) z
      have z3' : (mAft b n (p2S b n m c) 9 (nI 7)).1 = false := z3
      obtain ⟨z2, _⟩ := aft_f z3'
      have a4 := hx4 z4
      have a3 := hx3 z3
      have a2 := hx2 z2
      rcases hok with ⟨o1, _⟩ | ⟨o1, o2, o3, o4, o5⟩
      · have o1 : kdL b c 7 = 10 := o1
        omega
      have o2 : vOf b n (p1S b n m c).2 8 0 < 8 := o2
      have o3 : vOf b n (p2S b n m c).2 9 1 < 8 := o3
      have o4 : vOf b n (p3S b n m c).2 10 8 = 8 ∨ vOf b n (p3S b n m c).2 10 8 < m := o4
      have b2 : x2 = nI (vOf b n (p1S b n m c).2 8 0) := by
        rw [a2]
        unfold vOf at o2 ⊢
        split
        · next hw => rw [if_pos hw] at o2; rw [show min 10000 (nxt b n (p1S b n m c).2.2.1).2.2.2 = (nxt b n (p1S b n m c).2.2.1).2.2.2 by omega]
        · rfl
      have b3 : x3 = nI (vOf b n (p2S b n m c).2 9 1) := by
        rw [a3]
        unfold vOf at o3 ⊢
        split
        · next hw => rw [if_pos hw] at o3; rw [show min 10000 (nxt b n (p2S b n m c).2.2.1).2.2.2 = (nxt b n (p2S b n m c).2.2.1).2.2.2 by omega]
        · rfl
      have hA4 := (aft_f (s := p3S b n m c) z4).2
      have b4 : x4 = eP (vOf b n (p3S b n m c).2 10 8) := by
        rw [a4]
        unfold vOf
        rcases hA4 with ⟨w1, w2, _⟩ | ⟨w1, _⟩
        · rw [if_pos w1, if_pos w1]
          have := (num_m hm w2).2
          rw [eP_lt (by omega), show min 10000 (nxt b n (p3S b n m c).2.2.1).2.2.2 = (nxt b n (p3S b n m c).2.2.1).2.2.2 by omega]
        · rw [if_neg (by rw [w1]; exact Bool.false_ne_true), if_neg (by rw [w1]; exact Bool.false_ne_true), eP_8]
      have hitm : itM m (kdL b c 7, vOf b n (p1S b n m c).2 8 0, vOf b n (p2S b n m c).2 9 1, vOf b n (p3S b n m c).2 10 8) = m + 1 := if_neg (by show ¬ kdL b c 7 = 10; omega)
      rw [hitm]
      refine ⟨?_, ?_, ?_, ?_, ?_, Or.inr ?_⟩
      · rw [gset_eq, upd_ne (by omega), upd_eq]
      · rw [gset_eq, upd_eq]
      · rw [gset_ne (by omega), gset_ne (by omega), gset_eq, upd_ne (by omega), upd_ne (by omega), upd_ne (by omega), upd_eq]
      · rw [gset_ne (by omega), gset_ne (by omega), gset_eq, upd_ne (by omega), upd_ne (by omega), upd_eq]; exact b2
      · rw [gset_ne (by omega), gset_ne (by omega), gset_eq, upd_ne (by omega), upd_eq]; exact b3
      · rw [gset_ne (by omega), gset_ne (by omega), gset_eq, upd_eq]; exact b4
    · refine ⟨fun f hf h1 h2 => ?_, fun o h1 h2 => ?_, fun j hj => ?_⟩
      · rw [gset_eq, upd_ne h2, upd_ne h1]; exact hf25.1 f hf
      · rw [gset_ne h1, gset_ne h1, gset_ne h2]; exact hf25.2 o h1
      · rw [gset_ne (by omega), gset_ne (by omega), gset_eq, upd_ne (by omega), upd_ne (by omega), upd_ne (by omega), upd_ne (by omega), hf25.2 66 (by omega)]
    show WP X 171 (am_blk 171 0) [some (.ref 58), none, none, none] [] G _
    have u18 : ∀ (f : Nat → Int32) (y : Int32), upd f 17 y 18 = f 18 := fun f y => upd_ne (by omega)
    generalize kdL b c 7 = kd at *
    generalize hhi : nI m - nI 1 = hi4 at *
    have hhi2 : 1 ≤ m → nI (m - 1) = hi4 := fun h1 => by rw [← hhi, am_nI_sub h1]
    have hW4 := fun (kk : Nat) (r : List Instr) (lv : LV) (Q : Option Value → GG → Prop) => WP_ev (k := kk) (st := [.int nM, .int hi4, .ref 110, .ref 58, .int x3, .int x2, .int (nI kd), .ref 58]) (rest := [.int x3, .int x2, .int (nI kd), .ref 58]) (r := r) (lv := lv) (Q := Q) hev5 (by decide) (c := 4) rfl rfl (Nat.le_of_ble_eq_true rfl) rfl
    by_cases hm8 : m < 8
    · have qm : (8 ≤ m) = False := eq_false (by omega)
      rw [decide_eq_true hm8] at hev2
      have hev2 : Ev X 174 [.ref 58, .int (nI 1)] G none G2 := hev2
      have hU := fun (k : Nat) (r : List Instr) (lv : LV) (st : List Value) (Q : Option Value → GG → Prop) (hl : st.length ≤ 4) => WP_ev (k := k) (st := .int (nI 1) :: .ref 58 :: st) (rest := st) (r := r) (lv := lv) (Q := Q) hev2 (by decide) (c := 2) rfl rfl hl rfl
      simp (config := { maxSteps := 1000000 }) (disch := first | exact am_nl_i | exact am_nl_r | exact am_nl_n | exact am_l0 | exact am_l1 | exact am_l2 | exact am_l3 | assumption | omega) only [wp_ldc, wp_sipush, wp_ldc_w, wp_lconst, wp_iadd, wp_isub, wp_imul, wp_iand, wp_ior, wp_ixor, wp_ishl, wp_ishr, wp_iushr, wp_idiv, wp_irem, wp_ineg, wp_i2b, wp_i2s, wp_i2c, wp_i2l, wp_ladd, wp_lmul, wp_lcmp, wp_dup_i, wp_dup_r, wp_dup2, wp_pop, wp_getfield, wp_putfield, wp_getstatic, wp_iaload, wp_baload, wp_aaload, wp_iastore, wp_arraylength, wp_goto, wp_fall, wp_ieq, wp_ine, wp_ilt, wp_ige, wp_igt, wp_ile, wp_ceq, wp_cne, wp_clt, wp_cge, wp_cgt, wp_cle, wp_sw, wp_ret0, wp_ret1z, wp_ret1o, wp_ret1, wp_ret2, wp_ret3, wp_ret4, wp_ret5, wp_return, wp_min, wp_max, wp_abs, am_ex, gset_eq, gset_ne, upd_eq, upd_ne, gset_gset, am_ci_1, am_ci_6, am_toList_some, am_toList_none, true_implies, false_implies, and_self, and_true, true_and, not_true_eq_false, not_false_eq_true, imp_self, implies_true, Classical.not_not, if_true, if_false, false_and, and_false, or_false, false_or, true_or, or_true, Nat.reduceAdd, Nat.reduceMul, Nat.reduceSub, Nat.reduceLT, Nat.reduceLeDiff, Nat.reduceEqDiff, Nat.reduceBneDiff, Nat.add_zero, Nat.zero_add, reduceCtorEq, wil0, wal0, wis0, wic0, wil1, wal1, wis1, wic1, wil2, wll2, wal2, wis2, was2, wls2, wic2, wil3, wis3, wic3, wic3m, wic3s, wil4, wis4, wic4, wil5, wis5, wic5, wic5m, wil6, wll6, wal6, wis6, was6, wls6, wic6, wil7, wal7, wis7, was7, wic7, wil8, wis8, wic8, wil9, wis9, wic9, wil10, wis10, wic10, am_nI_inj, am_nI_lt, am_nI_le, nI_add, pk_mul, am_nI_sub, am_add_m1, am_gfs, am_pfs, am_alds, am_asts, am_lens, bk171_0, bk171_23, bk171_24, bk171_118, am_B171_0, am_B171_23, am_B171_24, am_B171_118, hK, q0, h18, qm, hU, hW2, hW3, h184, hhi, fcs, hW4, hA, h185, u18]
    · have qm : (8 ≤ m) = True := eq_true (by omega)
      rw [decide_eq_false hm8] at hev2
      have hev2 : Ev X 174 [.ref 58, .int (nI 0)] G none G2 := hev2
      have hU := fun (k : Nat) (r : List Instr) (lv : LV) (st : List Value) (Q : Option Value → GG → Prop) (hl : st.length ≤ 4) => WP_ev (k := k) (st := .int (nI 0) :: .ref 58 :: st) (rest := st) (r := r) (lv := lv) (Q := Q) hev2 (by decide) (c := 2) rfl rfl hl rfl
      simp (config := { maxSteps := 1000000 }) (disch := first | exact am_nl_i | exact am_nl_r | exact am_nl_n | exact am_l0 | exact am_l1 | exact am_l2 | exact am_l3 | assumption | omega) only [wp_ldc, wp_sipush, wp_ldc_w, wp_lconst, wp_iadd, wp_isub, wp_imul, wp_iand, wp_ior, wp_ixor, wp_ishl, wp_ishr, wp_iushr, wp_idiv, wp_irem, wp_ineg, wp_i2b, wp_i2s, wp_i2c, wp_i2l, wp_ladd, wp_lmul, wp_lcmp, wp_dup_i, wp_dup_r, wp_dup2, wp_pop, wp_getfield, wp_putfield, wp_getstatic, wp_iaload, wp_baload, wp_aaload, wp_iastore, wp_arraylength, wp_goto, wp_fall, wp_ieq, wp_ine, wp_ilt, wp_ige, wp_igt, wp_ile, wp_ceq, wp_cne, wp_clt, wp_cge, wp_cgt, wp_cle, wp_sw, wp_ret0, wp_ret1z, wp_ret1o, wp_ret1, wp_ret2, wp_ret3, wp_ret4, wp_ret5, wp_return, wp_min, wp_max, wp_abs, am_ex, gset_eq, gset_ne, upd_eq, upd_ne, gset_gset, am_ci_1, am_ci_6, am_toList_some, am_toList_none, true_implies, false_implies, and_self, and_true, true_and, not_true_eq_false, not_false_eq_true, imp_self, implies_true, Classical.not_not, if_true, if_false, false_and, and_false, or_false, false_or, true_or, or_true, Nat.reduceAdd, Nat.reduceMul, Nat.reduceSub, Nat.reduceLT, Nat.reduceLeDiff, Nat.reduceEqDiff, Nat.reduceBneDiff, Nat.add_zero, Nat.zero_add, reduceCtorEq, wil0, wal0, wis0, wic0, wil1, wal1, wis1, wic1, wil2, wll2, wal2, wis2, was2, wls2, wic2, wil3, wis3, wic3, wic3m, wic3s, wil4, wis4, wic4, wil5, wis5, wic5, wic5m, wil6, wll6, wal6, wis6, was6, wls6, wic6, wil7, wal7, wis7, was7, wic7, wil8, wis8, wic8, wil9, wis9, wic9, wil10, wis10, wic10, am_nI_inj, am_nI_lt, am_nI_le, nI_add, pk_mul, am_nI_sub, am_add_m1, am_gfs, am_pfs, am_alds, am_asts, am_lens, bk171_0, bk171_23, bk171_24, bk171_118, am_B171_0, am_B171_23, am_B171_24, am_B171_118, hK, q0, h18, qm, hU, hW2, hW3, h184, hhi, fcs, hW4, hA, h185, u18]
