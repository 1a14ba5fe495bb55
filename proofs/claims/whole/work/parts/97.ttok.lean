/-! ===== texts: tokens, words ===== -/
def isLet (x : Nat) : Bool := decide (97 ≤ x ∧ x ≤ 122)
def isDig (x : Nat) : Bool := decide (48 ≤ x ∧ x ≤ 57)
def isBl (x : Nat) : Bool := decide (x = 32)
def runB (p : Nat → Bool) (b : Nat → Nat) (n : Nat) : Nat → Nat → Nat
  | 0, e => e
  | d + 1, e => if e < n ∧ p (b e) = true then runB p b n d (e + 1) else e
def dgV (b : Nat → Nat) (n : Nat) : Nat → Nat → Nat → Nat
  | 0, _, v => v
  | d + 1, e, v => if e < n ∧ isDig (b e) = true then dgV b n d (e + 1) (if v ≤ 9999 then v * 10 + (b e - 48) else v) else v
abbrev Cur : Type := Nat × Nat × Nat × Nat
def bgN (b : Nat → Nat) (n e : Nat) : Nat := runB isBl b n (n - e) e
def nxt (b : Nat → Nat) (n e : Nat) : Cur := if n ≤ bgN b n e then (bgN b n e, bgN b n e, 0, 0) else if isLet (b (bgN b n e)) = true then (bgN b n e, runB isLet b n (n - bgN b n e) (bgN b n e), 1, 0) else if isDig (b (bgN b n e)) = true then (bgN b n e, runB isDig b n (n - bgN b n e) (bgN b n e), 2, dgV b n (n - bgN b n e) (bgN b n e) 0) else (bgN b n e, bgN b n e + 1, if b (bgN b n e) = 59 then 3 else 4, 0)
theorem runB_y {p : Nat → Bool} {b : Nat → Nat} {n d e : Nat} (h : e < n) (hp : p (b e) = true) : runB p b n (d + 1) e = runB p b n d (e + 1) := if_pos ⟨h, hp⟩
theorem runB_n {p : Nat → Bool} {b : Nat → Nat} {n e : Nat} (h : ¬ (e < n ∧ p (b e) = true)) : ∀ d, runB p b n d e = e
  | 0 => rfl
  | _ + 1 => if_neg h
theorem runB_le {p : Nat → Bool} {b : Nat → Nat} {n : Nat} : ∀ d e, e ≤ n → e ≤ runB p b n d e ∧ runB p b n d e ≤ n
  | 0, e, h => ⟨Nat.le_refl _, h⟩
  | d + 1, e, h => by
    by_cases hc : e < n ∧ p (b e) = true
    · rw [runB_y hc.1 hc.2]
      have := runB_le (p := p) (b := b) (n := n) d (e + 1) (by omega)
      omega
    · rw [runB_n hc]; omega
theorem dgV_y {b : Nat → Nat} {n d e v : Nat} (h : e < n) (hp : isDig (b e) = true) : dgV b n (d + 1) e v = dgV b n d (e + 1) (if v ≤ 9999 then v * 10 + (b e - 48) else v) := if_pos ⟨h, hp⟩
theorem dgV_n {b : Nat → Nat} {n e v : Nat} (h : ¬ (e < n ∧ isDig (b e) = true)) : ∀ d, dgV b n d e v = v
  | 0 => rfl
  | _ + 1 => if_neg h
theorem dgV_le {b : Nat → Nat} {n : Nat} : ∀ d e v, v ≤ 99999 → dgV b n d e v ≤ 99999
  | 0, _, _, h => h
  | d + 1, e, v, h => by
    by_cases hc : e < n ∧ isDig (b e) = true
    · rw [dgV_y hc.1 hc.2]
      have h2 := of_decide_eq_true hc.2
      exact dgV_le d _ _ (by split <;> omega)
    · rw [dgV_n hc]; exact h
/-- a cursor is sound -/
def CV (n : Nat) (c : Cur) : Prop := c.1 ≤ c.2.1 ∧ c.2.1 ≤ n ∧ c.2.2.1 ≤ 4 ∧ (¬ c.2.2.1 = 0 → c.1 < c.2.1) ∧ c.2.2.2 ≤ 99999
theorem nxt_ok {b : Nat → Nat} {n e : Nat} (he : e ≤ n) : CV n (nxt b n e) ∧ e ≤ (nxt b n e).1 := by
  have h1 := runB_le (p := isBl) (b := b) (n := n) (n - e) e he
  have h1 : e ≤ bgN b n e ∧ bgN b n e ≤ n := h1
  unfold nxt
  generalize bgN b n e = g at *
  by_cases hg : n ≤ g
  · rw [if_pos hg]
    exact ⟨⟨Nat.le_refl _, h1.2, Nat.le_of_ble_eq_true rfl, fun z => absurd rfl z, Nat.le_of_ble_eq_true rfl⟩, h1.1⟩
  · rw [if_neg hg]
    have hs : ∀ p : Nat → Bool, p (b g) = true → g < runB p b n (n - g) g ∧ runB p b n (n - g) g ≤ n := fun p hp => by
      rw [show n - g = (n - (g + 1)) + 1 by omega, runB_y (by omega) hp]
      have := runB_le (p := p) (b := b) (n := n) (n - (g + 1)) (g + 1) (by omega)
      omega
    by_cases hl : isLet (b g) = true
    · rw [if_pos hl]
      have h2 := hs isLet hl
      exact ⟨⟨by show g ≤ runB isLet b n (n - g) g; omega, h2.2, Nat.le_of_ble_eq_true rfl, fun _ => h2.1, Nat.le_of_ble_eq_true rfl⟩, h1.1⟩
    · rw [if_neg hl]
      by_cases hd : isDig (b g) = true
      · rw [if_pos hd]
        have h2 := hs isDig hd
        exact ⟨⟨by show g ≤ runB isDig b n (n - g) g; omega, h2.2, Nat.le_of_ble_eq_true rfl, fun _ => h2.1, dgV_le _ _ _ (by decide)⟩, h1.1⟩
      · rw [if_neg hd]
        refine ⟨⟨by show g ≤ g + 1; omega, by show g + 1 ≤ n; omega, ?_, fun _ => by show g < g + 1; omega, Nat.le_of_ble_eq_true rfl⟩, h1.1⟩
        show (if b g = 59 then 3 else 4) ≤ 4
        split <;> omega
/-! words -/
def wl (j : Nat) : Nat := tt_len.getD j 0
def wb (j i : Nat) : Int32 := (tt_byt.getD j []).getD i 0
def wN (j i : Nat) : Nat := (wb j i).toNatClampNeg
theorem wl_le : ∀ j, j < 11 → wl j ≤ 7 := by decide +kernel
theorem wb_ok : ∀ j, j < 11 → ∀ i, i < 7 → i < wl j → ((wb j i &&& nI 255).toUInt32 % 65536).toInt32 = nI (wN j i) ∧ ((nI (wN j i)).toUInt32 % 65536).toInt32 = nI (wN j i) ∧ wN j i < 128 := by decide +kernel
theorem str_f {j : Nat} (hj : j < 11) : (∀ G, am_gf G (100 + j) 1000 = some (.ref (200 + j))) ∧ (∀ G, am_gf G (100 + j) 1001 = some (.int (nI 0))) ∧ (∀ X, am_len X (200 + j) = some (wl j)) ∧ ∀ i, i < wl j → am_bld (200 + j) (nI i) = some (wb j i) := by
  refine ⟨fun G => ?_, fun G => ?_, fun X => ?_, fun i hi => ?_⟩
  · unfold am_gf
    rw [if_pos rfl, if_pos ⟨by omega, by omega⟩, show 100 + j + 100 = 200 + j by omega]
  · unfold am_gf
    rw [if_neg (by decide), if_pos rfl, if_pos ⟨by omega, by omega⟩]
  · rcases (by omega : j = 0 ∨ j = 1 ∨ j = 2 ∨ j = 3 ∨ j = 4 ∨ j = 5 ∨ j = 6 ∨ j = 7 ∨ j = 8 ∨ j = 9 ∨ j = 10) with rfl | rfl | rfl | rfl | rfl | rfl | rfl | rfl | rfl | rfl | rfl <;> rfl
  · have hl := wl_le j hj
    have hc : (nI i).toNatClampNeg = i := nI_clamp (by omega)
    unfold am_bld
    rw [if_pos ⟨by omega, by omega⟩, show 200 + j - 200 = j by omega, hc, if_neg]
    · rfl
    · rintro (z | z)
      · exact nI_pos (by omega) z
      · have : wl j ≤ i := z
        omega
theorem am_strc {j : Nat} (hj : j < 11) : am_clsof (100 + j) = 6 := by
  rcases (by omega : j = 0 ∨ j = 1 ∨ j = 2 ∨ j = 3 ∨ j = 4 ∨ j = 5 ∨ j = 6 ∨ j = 7 ∨ j = 8 ∨ j = 9 ∨ j = 10) with rfl | rfl | rfl | rfl | rfl | rfl | rfl | rfl | rfl | rfl | rfl <;> rfl
theorem E_J0_coder {X : AmX} {G : GG} (j : Nat) (hj : j < 11) : Ev X 3 [.ref (100 + j)] G (some (.int (nI 0))) (G) := by
  refine Ev_of ?_
  show WP X 3 (am_blk 3 0) [some (.ref (100 + j))] [] G _
  have hs := (str_f hj).2.1
  have hj5 : 100 + j < 500 := by omega
  have e : (nI 0).toInt8.toInt32 = nI 0 := by decide
  have e2 : (nI 1 = nI 0) = False := eq_false (by decide)
  simp (config := { maxSteps := 1000000 }) (disch := first | exact am_nl_i | exact am_nl_r | exact am_nl_n | exact am_l0 | exact am_l1 | exact am_l2 | exact am_l3 | assumption | omega) only [wp_ldc, wp_sipush, wp_ldc_w, wp_lconst, wp_iadd, wp_isub, wp_imul, wp_iand, wp_ior, wp_ixor, wp_ishl, wp_ishr, wp_iushr, wp_idiv, wp_irem, wp_ineg, wp_i2b, wp_i2s, wp_i2c, wp_i2l, wp_ladd, wp_lmul, wp_lcmp, wp_dup_i, wp_dup_r, wp_dup2, wp_pop, wp_getfield, wp_putfield, wp_getstatic, wp_iaload, wp_baload, wp_aaload, wp_iastore, wp_arraylength, wp_goto, wp_fall, wp_ieq, wp_ine, wp_ilt, wp_ige, wp_igt, wp_ile, wp_ceq, wp_cne, wp_clt, wp_cge, wp_cgt, wp_cle, wp_sw, wp_ret0, wp_ret1z, wp_ret1o, wp_ret1, wp_ret2, wp_ret3, wp_ret4, wp_ret5, wp_return, wp_min, wp_max, wp_abs, am_ex, gset_eq, gset_ne, upd_eq, upd_ne, gset_gset, am_ci_1, am_ci_6, am_toList_some, am_toList_none, true_implies, false_implies, and_self, and_true, true_and, not_true_eq_false, not_false_eq_true, imp_self, implies_true, Classical.not_not, if_true, if_false, false_and, and_false, or_false, false_or, true_or, or_true, Nat.reduceAdd, Nat.reduceMul, Nat.reduceSub, Nat.reduceLT, Nat.reduceLeDiff, Nat.reduceEqDiff, Nat.reduceBneDiff, Nat.add_zero, Nat.zero_add, reduceCtorEq, wil0, wal0, wis0, wic0, wil1, wal1, wis1, wic1, wil2, wll2, wal2, wis2, was2, wls2, wic2, wil3, wis3, wic3, wic3m, wic3s, wil4, wis4, wic4, wil5, wis5, wic5, wic5m, wil6, wll6, wal6, wis6, was6, wls6, wic6, wil7, wal7, wis7, was7, wic7, wil8, wis8, wic8, wil9, wis9, wic9, wil10, wis10, wic10, am_nI_inj, am_nI_lt, am_nI_le, nI_add, pk_mul, am_nI_sub, am_add_m1, am_gfs, am_pfs, am_alds, am_asts, am_lens, bs3, am_B3_0, am_B3_13, am_B3_14, hs, e, e2]
theorem C_J0_coder {X : AmX} {G : GG} {k : Nat} {r : List Instr} {lv : LV} {st : List Value} {Q : Option Value → GG → Prop} {j : Nat} (hj : j < 11) (hl : st.length ≤ 4) : WP X k (.invokeinterface 3 1 :: r) lv ((.ref (100 + j)) :: st) G Q ↔ WP X k r lv ((.int (nI 0)) :: st) (G) Q := WP_ev (E_J0_coder j hj) (by decide) rfl rfl hl (am_rcv_of rfl (am_strc hj))
theorem E_J0_length {X : AmX} {G : GG} (j : Nat) (hj : j < 11) : Ev X 2 [.ref (100 + j)] G (some (.int (nI (wl j)))) (G) := by
  refine Ev_of ?_
  show WP X 2 (am_blk 2 0) [some (.ref (100 + j))] [] G _
  have hs := (str_f hj).1
  have hl := (str_f hj).2.2.1
  have hj5 : 100 + j < 500 := by omega
  have hj6 : 200 + j < 500 := by omega
  have e : ∀ x : Int32, x >>> (nI 0 &&& 31) = x := fun x => by
    have e1 : nI 0 &&& 31 = 0 := by decide
    rw [e1]
    exact Int32.shiftRight_zero
  simp (config := { maxSteps := 1000000 }) (disch := first | exact am_nl_i | exact am_nl_r | exact am_nl_n | exact am_l0 | exact am_l1 | exact am_l2 | exact am_l3 | assumption | omega) only [wp_ldc, wp_sipush, wp_ldc_w, wp_lconst, wp_iadd, wp_isub, wp_imul, wp_iand, wp_ior, wp_ixor, wp_ishl, wp_ishr, wp_iushr, wp_idiv, wp_irem, wp_ineg, wp_i2b, wp_i2s, wp_i2c, wp_i2l, wp_ladd, wp_lmul, wp_lcmp, wp_dup_i, wp_dup_r, wp_dup2, wp_pop, wp_getfield, wp_putfield, wp_getstatic, wp_iaload, wp_baload, wp_aaload, wp_iastore, wp_arraylength, wp_goto, wp_fall, wp_ieq, wp_ine, wp_ilt, wp_ige, wp_igt, wp_ile, wp_ceq, wp_cne, wp_clt, wp_cge, wp_cgt, wp_cle, wp_sw, wp_ret0, wp_ret1z, wp_ret1o, wp_ret1, wp_ret2, wp_ret3, wp_ret4, wp_ret5, wp_return, wp_min, wp_max, wp_abs, am_ex, gset_eq, gset_ne, upd_eq, upd_ne, gset_gset, am_ci_1, am_ci_6, am_toList_some, am_toList_none, true_implies, false_implies, and_self, and_true, true_and, not_true_eq_false, not_false_eq_true, imp_self, implies_true, Classical.not_not, if_true, if_false, false_and, and_false, or_false, false_or, true_or, or_true, Nat.reduceAdd, Nat.reduceMul, Nat.reduceSub, Nat.reduceLT, Nat.reduceLeDiff, Nat.reduceEqDiff, Nat.reduceBneDiff, Nat.add_zero, Nat.zero_add, reduceCtorEq, wil0, wal0, wis0, wic0, wil1, wal1, wis1, wic1, wil2, wll2, wal2, wis2, was2, wls2, wic2, wil3, wis3, wic3, wic3m, wic3s, wil4, wis4, wic4, wil5, wis5, wic5, wic5m, wil6, wll6, wal6, wis6, was6, wls6, wic6, wil7, wal7, wis7, was7, wic7, wil8, wis8, wic8, wil9, wis9, wic9, wil10, wis10, wic10, am_nI_inj, am_nI_lt, am_nI_le, nI_add, pk_mul, am_nI_sub, am_add_m1, am_gfs, am_pfs, am_alds, am_asts, am_lens, bs2, am_B2_0, hs, hl, C_J0_coder, e]
theorem C_J0_length {X : AmX} {G : GG} {k : Nat} {r : List Instr} {lv : LV} {st : List Value} {Q : Option Value → GG → Prop} {j : Nat} (hj : j < 11) (hl : st.length ≤ 4) : WP X k (.invokeinterface 2 1 :: r) lv ((.ref (100 + j)) :: st) G Q ↔ WP X k r lv ((.int (nI (wl j))) :: st) (G) Q := WP_ev (E_J0_length j hj) (by decide) rfl rfl hl (am_rcv_of rfl (am_strc hj))
theorem E_J0_isLatin1 {X : AmX} {G : GG} (j : Nat) (hj : j < 11) : Ev X 5 [.ref (100 + j)] G (some (.int (nI 1))) (G) := by
  refine Ev_of ?_
  show WP X 5 (am_blk 5 0) [some (.ref (100 + j))] [] G _
  have hs := (str_f hj).2.1
  have hj5 : 100 + j < 500 := by omega
  have e2 : (nI 1 = nI 0) = False := eq_false (by decide)
  simp (config := { maxSteps := 1000000 }) (disch := first | exact am_nl_i | exact am_nl_r | exact am_nl_n | exact am_l0 | exact am_l1 | exact am_l2 | exact am_l3 | assumption | omega) only [wp_ldc, wp_sipush, wp_ldc_w, wp_lconst, wp_iadd, wp_isub, wp_imul, wp_iand, wp_ior, wp_ixor, wp_ishl, wp_ishr, wp_iushr, wp_idiv, wp_irem, wp_ineg, wp_i2b, wp_i2s, wp_i2c, wp_i2l, wp_ladd, wp_lmul, wp_lcmp, wp_dup_i, wp_dup_r, wp_dup2, wp_pop, wp_getfield, wp_putfield, wp_getstatic, wp_iaload, wp_baload, wp_aaload, wp_iastore, wp_arraylength, wp_goto, wp_fall, wp_ieq, wp_ine, wp_ilt, wp_ige, wp_igt, wp_ile, wp_ceq, wp_cne, wp_clt, wp_cge, wp_cgt, wp_cle, wp_sw, wp_ret0, wp_ret1z, wp_ret1o, wp_ret1, wp_ret2, wp_ret3, wp_ret4, wp_ret5, wp_return, wp_min, wp_max, wp_abs, am_ex, gset_eq, gset_ne, upd_eq, upd_ne, gset_gset, am_ci_1, am_ci_6, am_toList_some, am_toList_none, true_implies, false_implies, and_self, and_true, true_and, not_true_eq_false, not_false_eq_true, imp_self, implies_true, Classical.not_not, if_true, if_false, false_and, and_false, or_false, false_or, true_or, or_true, Nat.reduceAdd, Nat.reduceMul, Nat.reduceSub, Nat.reduceLT, Nat.reduceLeDiff, Nat.reduceEqDiff, Nat.reduceBneDiff, Nat.add_zero, Nat.zero_add, reduceCtorEq, wil0, wal0, wis0, wic0, wil1, wal1, wis1, wic1, wil2, wll2, wal2, wis2, was2, wls2, wic2, wil3, wis3, wic3, wic3m, wic3s, wil4, wis4, wic4, wil5, wis5, wic5, wic5m, wil6, wll6, wal6, wis6, was6, wls6, wic6, wil7, wal7, wis7, was7, wic7, wil8, wis8, wic8, wil9, wis9, wic9, wil10, wis10, wic10, am_nI_inj, am_nI_lt, am_nI_le, nI_add, pk_mul, am_nI_sub, am_add_m1, am_gfs, am_pfs, am_alds, am_asts, am_lens, bs5, am_B5_0, am_B5_17, am_B5_18, hs, e2]
theorem C_J0_isLatin1 {X : AmX} {G : GG} {k : Nat} {r : List Instr} {lv : LV} {st : List Value} {Q : Option Value → GG → Prop} {j : Nat} (hj : j < 11) (hl : st.length ≤ 4) : WP X k (.invokeinterface 5 1 :: r) lv ((.ref (100 + j)) :: st) G Q ↔ WP X k r lv ((.int (nI 1)) :: st) (G) Q := WP_ev (E_J0_isLatin1 j hj) (by decide) rfl rfl hl (am_rcv_of rfl (am_strc hj))
theorem E_J3_checkIndex {X : AmX} {G : GG} (i m : Nat) (hi : i < m) (hm : m < 2 ^ 31) : Ev X 8 [.int (nI i), .int (nI m), .ref 500] G (some (.int (nI i))) (G) := by
  refine Ev_of ?_
  show WP X 8 (am_blk 8 0) [some (.int (nI i)), some (.int (nI m)), some (.ref 500)] [] G _
  have q0 : (i < 0) = False := eq_false (by omega)
  have q1 : (i < m) = True := eq_true hi
  simp (config := { maxSteps := 1000000 }) (disch := first | exact am_nl_i | exact am_nl_r | exact am_nl_n | exact am_l0 | exact am_l1 | exact am_l2 | exact am_l3 | assumption | omega) only [wp_ldc, wp_sipush, wp_ldc_w, wp_lconst, wp_iadd, wp_isub, wp_imul, wp_iand, wp_ior, wp_ixor, wp_ishl, wp_ishr, wp_iushr, wp_idiv, wp_irem, wp_ineg, wp_i2b, wp_i2s, wp_i2c, wp_i2l, wp_ladd, wp_lmul, wp_lcmp, wp_dup_i, wp_dup_r, wp_dup2, wp_pop, wp_getfield, wp_putfield, wp_getstatic, wp_iaload, wp_baload, wp_aaload, wp_iastore, wp_arraylength, wp_goto, wp_fall, wp_ieq, wp_ine, wp_ilt, wp_ige, wp_igt, wp_ile, wp_ceq, wp_cne, wp_clt, wp_cge, wp_cgt, wp_cle, wp_sw, wp_ret0, wp_ret1z, wp_ret1o, wp_ret1, wp_ret2, wp_ret3, wp_ret4, wp_ret5, wp_return, wp_min, wp_max, wp_abs, am_ex, gset_eq, gset_ne, upd_eq, upd_ne, gset_gset, am_ci_1, am_ci_6, am_toList_some, am_toList_none, true_implies, false_implies, and_self, and_true, true_and, not_true_eq_false, not_false_eq_true, imp_self, implies_true, Classical.not_not, if_true, if_false, false_and, and_false, or_false, false_or, true_or, or_true, Nat.reduceAdd, Nat.reduceMul, Nat.reduceSub, Nat.reduceLT, Nat.reduceLeDiff, Nat.reduceEqDiff, Nat.reduceBneDiff, Nat.add_zero, Nat.zero_add, reduceCtorEq, wil0, wal0, wis0, wic0, wil1, wal1, wis1, wic1, wil2, wll2, wal2, wis2, was2, wls2, wic2, wil3, wis3, wic3, wic3m, wic3s, wil4, wis4, wic4, wil5, wis5, wic5, wic5m, wil6, wll6, wal6, wis6, was6, wls6, wic6, wil7, wal7, wis7, was7, wic7, wil8, wis8, wic8, wil9, wis9, wic9, wil10, wis10, wic10, am_nI_inj, am_nI_lt, am_nI_le, nI_add, pk_mul, am_nI_sub, am_add_m1, am_gfs, am_pfs, am_alds, am_asts, am_lens, bs8, am_B8_0, am_B8_16, q0, q1]
theorem C_J3_checkIndex {X : AmX} {G : GG} {k : Nat} {r : List Instr} {lv : LV} {st : List Value} {Q : Option Value → GG → Prop} {i m : Nat} (hi : i < m) (hm : m < 2 ^ 31) (hl : st.length ≤ 4) : WP X k (.invokeinterface 8 3 :: r) lv ((.ref 500) :: (.int (nI m)) :: (.int (nI i)) :: st) G Q ↔ WP X k r lv ((.int (nI i)) :: st) (G) Q := WP_ev (E_J3_checkIndex i m hi hm) (by decide) rfl rfl hl (rfl)
theorem E_J0_checkIndex {X : AmX} {G : GG} (i m : Nat) (hi : i < m) (hm : m < 2 ^ 31) : Ev X 7 [.int (nI i), .int (nI m)] G (none) (G) := by
  refine Ev_of ?_
  show WP X 7 (am_blk 7 0) [some (.int (nI i)), some (.int (nI m))] [] G _
  have e3 : ((0 : Nat) = 2) = False := eq_false (by decide)
  have e20 : ((2 : Nat) = 0) = False := eq_false (by decide)
  have e21 : ((2 : Nat) = 1) = False := eq_false (by decide)
  simp (config := { maxSteps := 1000000 }) (disch := first | exact am_nl_i | exact am_nl_r | exact am_nl_n | exact am_l0 | exact am_l1 | exact am_l2 | exact am_l3 | assumption | omega) only [wp_ldc, wp_sipush, wp_ldc_w, wp_lconst, wp_iadd, wp_isub, wp_imul, wp_iand, wp_ior, wp_ixor, wp_ishl, wp_ishr, wp_iushr, wp_idiv, wp_irem, wp_ineg, wp_i2b, wp_i2s, wp_i2c, wp_i2l, wp_ladd, wp_lmul, wp_lcmp, wp_dup_i, wp_dup_r, wp_dup2, wp_pop, wp_getfield, wp_putfield, wp_getstatic, wp_iaload, wp_baload, wp_aaload, wp_iastore, wp_arraylength, wp_goto, wp_fall, wp_ieq, wp_ine, wp_ilt, wp_ige, wp_igt, wp_ile, wp_ceq, wp_cne, wp_clt, wp_cge, wp_cgt, wp_cle, wp_sw, wp_ret0, wp_ret1z, wp_ret1o, wp_ret1, wp_ret2, wp_ret3, wp_ret4, wp_ret5, wp_return, wp_min, wp_max, wp_abs, am_ex, gset_eq, gset_ne, upd_eq, upd_ne, gset_gset, am_ci_1, am_ci_6, am_toList_some, am_toList_none, true_implies, false_implies, and_self, and_true, true_and, not_true_eq_false, not_false_eq_true, imp_self, implies_true, Classical.not_not, if_true, if_false, false_and, and_false, or_false, false_or, true_or, or_true, Nat.reduceAdd, Nat.reduceMul, Nat.reduceSub, Nat.reduceLT, Nat.reduceLeDiff, Nat.reduceEqDiff, Nat.reduceBneDiff, Nat.add_zero, Nat.zero_add, reduceCtorEq, wil0, wal0, wis0, wic0, wil1, wal1, wis1, wic1, wil2, wll2, wal2, wis2, was2, wls2, wic2, wil3, wis3, wic3, wic3m, wic3s, wil4, wis4, wic4, wil5, wis5, wic5, wic5m, wil6, wll6, wal6, wis6, was6, wls6, wic6, wil7, wal7, wis7, was7, wic7, wil8, wis8, wic8, wil9, wis9, wic9, wil10, wis10, wic10, am_nI_inj, am_nI_lt, am_nI_le, nI_add, pk_mul, am_nI_sub, am_add_m1, am_gfs, am_pfs, am_alds, am_asts, am_lens, bs7, am_B7_0, e20, e21, C_J3_checkIndex]
theorem C_J0_checkIndex {X : AmX} {G : GG} {k : Nat} {r : List Instr} {lv : LV} {st : List Value} {Q : Option Value → GG → Prop} {i m : Nat} (hi : i < m) (hm : m < 2 ^ 31) (hl : st.length ≤ 4) : WP X k (.invokeinterface 7 2 :: r) lv ((.int (nI m)) :: (.int (nI i)) :: st) G Q ↔ WP X k r lv (st) (G) Q := WP_ev (E_J0_checkIndex i m hi hm) (by decide) rfl rfl hl (rfl)
theorem E_J1_charAt {X : AmX} {G : GG} (j i : Nat) (hj : j < 11) (hi : i < wl j) : Ev X 6 [.ref (200 + j), .int (nI i)] G (some (.int (nI (wN j i)))) (G) := by
  refine Ev_of ?_
  show WP X 6 (am_blk 6 0) [some (.ref (200 + j)), some (.int (nI i))] [] G _
  have hl7 := wl_le j hj
  have hl := (str_f hj).2.2.1
  have hb := (str_f hj).2.2.2 i hi
  have hj6 : 200 + j < 500 := by omega
  obtain ⟨w1, w2, w3⟩ := wb_ok j hj i (by omega) hi
  simp (config := { maxSteps := 1000000 }) (disch := first | exact am_nl_i | exact am_nl_r | exact am_nl_n | exact am_l0 | exact am_l1 | exact am_l2 | exact am_l3 | assumption | omega) only [wp_ldc, wp_sipush, wp_ldc_w, wp_lconst, wp_iadd, wp_isub, wp_imul, wp_iand, wp_ior, wp_ixor, wp_ishl, wp_ishr, wp_iushr, wp_idiv, wp_irem, wp_ineg, wp_i2b, wp_i2s, wp_i2c, wp_i2l, wp_ladd, wp_lmul, wp_lcmp, wp_dup_i, wp_dup_r, wp_dup2, wp_pop, wp_getfield, wp_putfield, wp_getstatic, wp_iaload, wp_baload, wp_aaload, wp_iastore, wp_arraylength, wp_goto, wp_fall, wp_ieq, wp_ine, wp_ilt, wp_ige, wp_igt, wp_ile, wp_ceq, wp_cne, wp_clt, wp_cge, wp_cgt, wp_cle, wp_sw, wp_ret0, wp_ret1z, wp_ret1o, wp_ret1, wp_ret2, wp_ret3, wp_ret4, wp_ret5, wp_return, wp_min, wp_max, wp_abs, am_ex, gset_eq, gset_ne, upd_eq, upd_ne, gset_gset, am_ci_1, am_ci_6, am_toList_some, am_toList_none, true_implies, false_implies, and_self, and_true, true_and, not_true_eq_false, not_false_eq_true, imp_self, implies_true, Classical.not_not, if_true, if_false, false_and, and_false, or_false, false_or, true_or, or_true, Nat.reduceAdd, Nat.reduceMul, Nat.reduceSub, Nat.reduceLT, Nat.reduceLeDiff, Nat.reduceEqDiff, Nat.reduceBneDiff, Nat.add_zero, Nat.zero_add, reduceCtorEq, wil0, wal0, wis0, wic0, wil1, wal1, wis1, wic1, wil2, wll2, wal2, wis2, was2, wls2, wic2, wil3, wis3, wic3, wic3m, wic3s, wil4, wis4, wic4, wil5, wis5, wic5, wic5m, wil6, wll6, wal6, wis6, was6, wls6, wic6, wil7, wal7, wis7, was7, wic7, wil8, wis8, wic8, wil9, wis9, wic9, wil10, wis10, wic10, am_nI_inj, am_nI_lt, am_nI_le, nI_add, pk_mul, am_nI_sub, am_add_m1, am_gfs, am_pfs, am_alds, am_asts, am_lens, bs6, am_B6_0, hl, hb, C_J0_checkIndex, w1, wp_ret3, w2]
theorem C_J1_charAt {X : AmX} {G : GG} {k : Nat} {r : List Instr} {lv : LV} {st : List Value} {Q : Option Value → GG → Prop} {j i : Nat} (hj : j < 11) (hi : i < wl j) (hl : st.length ≤ 4) : WP X k (.invokeinterface 6 2 :: r) lv ((.int (nI i)) :: (.ref (200 + j)) :: st) G Q ↔ WP X k r lv ((.int (nI (wN j i))) :: st) (G) Q := WP_ev (E_J1_charAt j i hj hi) (by decide) rfl rfl hl (rfl)
theorem E_J0_charAt {X : AmX} {G : GG} (j i : Nat) (hj : j < 11) (hi : i < wl j) : Ev X 4 [.ref (100 + j), .int (nI i)] G (some (.int (nI (wN j i)))) (G) := by
  refine Ev_of ?_
  show WP X 4 (am_blk 4 0) [some (.ref (100 + j)), some (.int (nI i))] [] G _
  have hl7 := wl_le j hj
  have hs := (str_f hj).1
  have hj5 : 100 + j < 500 := by omega
  have e2 : (nI 1 = nI 0) = False := eq_false (by decide)
  obtain ⟨w1, w2, w3⟩ := wb_ok j hj i (by omega) hi
  simp (config := { maxSteps := 1000000 }) (disch := first | exact am_nl_i | exact am_nl_r | exact am_nl_n | exact am_l0 | exact am_l1 | exact am_l2 | exact am_l3 | assumption | omega) only [wp_ldc, wp_sipush, wp_ldc_w, wp_lconst, wp_iadd, wp_isub, wp_imul, wp_iand, wp_ior, wp_ixor, wp_ishl, wp_ishr, wp_iushr, wp_idiv, wp_irem, wp_ineg, wp_i2b, wp_i2s, wp_i2c, wp_i2l, wp_ladd, wp_lmul, wp_lcmp, wp_dup_i, wp_dup_r, wp_dup2, wp_pop, wp_getfield, wp_putfield, wp_getstatic, wp_iaload, wp_baload, wp_aaload, wp_iastore, wp_arraylength, wp_goto, wp_fall, wp_ieq, wp_ine, wp_ilt, wp_ige, wp_igt, wp_ile, wp_ceq, wp_cne, wp_clt, wp_cge, wp_cgt, wp_cle, wp_sw, wp_ret0, wp_ret1z, wp_ret1o, wp_ret1, wp_ret2, wp_ret3, wp_ret4, wp_ret5, wp_return, wp_min, wp_max, wp_abs, am_ex, gset_eq, gset_ne, upd_eq, upd_ne, gset_gset, am_ci_1, am_ci_6, am_toList_some, am_toList_none, true_implies, false_implies, and_self, and_true, true_and, not_true_eq_false, not_false_eq_true, imp_self, implies_true, Classical.not_not, if_true, if_false, false_and, and_false, or_false, false_or, true_or, or_true, Nat.reduceAdd, Nat.reduceMul, Nat.reduceSub, Nat.reduceLT, Nat.reduceLeDiff, Nat.reduceEqDiff, Nat.reduceBneDiff, Nat.add_zero, Nat.zero_add, reduceCtorEq, wil0, wal0, wis0, wic0, wil1, wal1, wis1, wic1, wil2, wll2, wal2, wis2, was2, wls2, wic2, wil3, wis3, wic3, wic3m, wic3s, wil4, wis4, wic4, wil5, wis5, wic5, wic5m, wil6, wll6, wal6, wis6, was6, wls6, wic6, wil7, wal7, wis7, was7, wic7, wil8, wis8, wic8, wil9, wis9, wic9, wil10, wis10, wic10, am_nI_inj, am_nI_lt, am_nI_le, nI_add, pk_mul, am_nI_sub, am_add_m1, am_gfs, am_pfs, am_alds, am_asts, am_lens, bs4, am_B4_0, C_J0_isLatin1, hs, e2, C_J1_charAt, wp_ret3, w2]
theorem C_J0_charAt {X : AmX} {G : GG} {k : Nat} {r : List Instr} {lv : LV} {st : List Value} {Q : Option Value → GG → Prop} {j i : Nat} (hj : j < 11) (hi : i < wl j) (hl : st.length ≤ 4) : WP X k (.invokeinterface 4 2 :: r) lv ((.int (nI i)) :: (.ref (100 + j)) :: st) G Q ↔ WP X k r lv ((.int (nI (wN j i))) :: st) (G) Q := WP_ev (E_J0_charAt j i hj hi) (by decide) rfl rfl hl (am_rcv_of rfl (am_strc hj))
/-! the class's tape -/
def TBy (G : GG) (o n : Nat) (b : Nat → Nat) : Prop := n ≤ 120 ∧ ∀ i, i < n → G o i = nI (b i) ∧ b i < 256
theorem TBy_congr {G G1 : GG} {o n : Nat} {b : Nat → Nat} (h : TBy G o n b) (e : G1 o = G o) : TBy G1 o n b := ⟨h.1, fun i hi => by rw [e]; exact h.2 i hi⟩
theorem X1_skipWord {X : AmX} {G : GG} {n e : Nat} {b : Nat → Nat} (h1 : G 46 1 = nI n) (h5 : G 46 5 = nI e) (he : e ≤ n) (hT : TBy G 47 n b) : ∃ G1, Ev X 157 [.ref 46] G none G1 ∧ G1 46 5 = nI (runB isLet b n (n - e) e) ∧ (∀ f, ¬ f = 5 → G1 46 f = G 46 f) ∧ ∀ o, ¬ o = 46 → G1 o = G o := by
  suffices hh : WPm X 157 [.ref 46] G (fun v G1 => v = none ∧ G1 46 5 = nI (runB isLet b n (n - e) e) ∧ (∀ f, ¬ f = 5 → G1 46 f = G 46 f) ∧ ∀ o, ¬ o = 46 → G1 o = G o) by
    obtain ⟨v, G1, h1, rfl, h2⟩ := WPm_ev hh
    exact ⟨G1, h1, h2⟩
  have hn := hT.1
  generalize hr : runB isLet b n (n - e) e = r
  generalize hQ : (fun (v : Option Value) (G1 : GG) => v = none ∧ G1 46 5 = nI r ∧ (∀ f, ¬ f = 5 → G1 46 f = G 46 f) ∧ ∀ o, ¬ o = 46 → G1 o = G o) = Q
  have key : ∀ d e : Nat, e + d = n → runB isLet b n d e = r → ∀ G' : GG, G' 46 5 = nI e → (∀ f, ¬ f = 5 → G' 46 f = G 46 f) → (∀ o, ¬ o = 46 → G' o = G o) → WP X 157 (am_blk 157 0) [some (.ref 46)] [] G' Q := by
    intro d
    induction d with
    | zero =>
      intro e he hr G' g5 gf go
      have g1 : G' 46 1 = nI n := by rw [gf 1 (by omega)]; exact h1
      have q1 : (n ≤ e) = True := eq_true (by omega)
      have hr : e = r := hr
      rw [bh157_0]
      simp (config := { maxSteps := 1000000 }) (disch := first | exact am_nl_i | exact am_nl_r | exact am_nl_n | exact am_l0 | exact am_l1 | exact am_l2 | exact am_l3 | assumption | omega) only [wp_ldc, wp_sipush, wp_ldc_w, wp_lconst, wp_iadd, wp_isub, wp_imul, wp_iand, wp_ior, wp_ixor, wp_ishl, wp_ishr, wp_iushr, wp_idiv, wp_irem, wp_ineg, wp_i2b, wp_i2s, wp_i2c, wp_i2l, wp_ladd, wp_lmul, wp_lcmp, wp_dup_i, wp_dup_r, wp_dup2, wp_pop, wp_getfield, wp_putfield, wp_getstatic, wp_iaload, wp_baload, wp_aaload, wp_iastore, wp_arraylength, wp_goto, wp_fall, wp_ieq, wp_ine, wp_ilt, wp_ige, wp_igt, wp_ile, wp_ceq, wp_cne, wp_clt, wp_cge, wp_cgt, wp_cle, wp_sw, wp_ret0, wp_ret1z, wp_ret1o, wp_ret1, wp_ret2, wp_ret3, wp_ret4, wp_ret5, wp_return, wp_min, wp_max, wp_abs, am_ex, gset_eq, gset_ne, upd_eq, upd_ne, gset_gset, am_ci_1, am_ci_6, am_toList_some, am_toList_none, true_implies, false_implies, and_self, and_true, true_and, not_true_eq_false, not_false_eq_true, imp_self, implies_true, Classical.not_not, if_true, if_false, false_and, and_false, or_false, false_or, true_or, or_true, Nat.reduceAdd, Nat.reduceMul, Nat.reduceSub, Nat.reduceLT, Nat.reduceLeDiff, Nat.reduceEqDiff, Nat.reduceBneDiff, Nat.add_zero, Nat.zero_add, reduceCtorEq, wil0, wal0, wis0, wic0, wil1, wal1, wis1, wic1, wil2, wll2, wal2, wis2, was2, wls2, wic2, wil3, wis3, wic3, wic3m, wic3s, wil4, wis4, wic4, wil5, wis5, wic5, wic5m, wil6, wll6, wal6, wis6, was6, wls6, wic6, wil7, wal7, wis7, was7, wic7, wil8, wis8, wic8, wil9, wis9, wic9, wil10, wis10, wic10, am_nI_inj, am_nI_lt, am_nI_le, nI_add, pk_mul, am_nI_sub, am_add_m1, am_gfs, am_pfs, am_alds, am_asts, am_lens, bk157_52, am_B157_0, am_B157_52, g5, g1, q1]
      rw [← hQ]
      exact ⟨rfl, by rw [g5, hr], gf, go⟩
    | succ d ih =>
      intro e he hr G' g5 gf go
      have g1 : G' 46 1 = nI n := by rw [gf 1 (by omega)]; exact h1
      have q1 : (n ≤ e) = False := eq_false (by omega)
      have hen : e < n := by omega
      obtain ⟨hb, hb2⟩ := hT.2 e hen
      have g7 : G' 47 e = nI (b e) := by rw [go 47 (by omega)]; exact hb
      rw [bh157_0]
      by_cases hl : isLet (b e) = true
      · rw [runB_y hen hl] at hr
        have h2 := of_decide_eq_true hl
        have q2 : (b e < 97) = False := eq_false (by omega)
        have q3 : (122 < b e) = False := eq_false (by omega)
        have ihk := ih (e + 1) (by omega) hr (gset G' 46 (upd (G' 46) 5 (nI (e + 1)))) (by rw [gset_eq, upd_eq]) (fun f hf => by rw [gset_eq, upd_ne hf]; exact gf f hf) (fun o ho => by rw [gset_ne ho]; exact go o ho)
        simp (config := { maxSteps := 1000000 }) (disch := first | exact am_nl_i | exact am_nl_r | exact am_nl_n | exact am_l0 | exact am_l1 | exact am_l2 | exact am_l3 | assumption | omega) only [wp_ldc, wp_sipush, wp_ldc_w, wp_lconst, wp_iadd, wp_isub, wp_imul, wp_iand, wp_ior, wp_ixor, wp_ishl, wp_ishr, wp_iushr, wp_idiv, wp_irem, wp_ineg, wp_i2b, wp_i2s, wp_i2c, wp_i2l, wp_ladd, wp_lmul, wp_lcmp, wp_dup_i, wp_dup_r, wp_dup2, wp_pop, wp_getfield, wp_putfield, wp_getstatic, wp_iaload, wp_baload, wp_aaload, wp_iastore, wp_arraylength, wp_goto, wp_fall, wp_ieq, wp_ine, wp_ilt, wp_ige, wp_igt, wp_ile, wp_ceq, wp_cne, wp_clt, wp_cge, wp_cgt, wp_cle, wp_sw, wp_ret0, wp_ret1z, wp_ret1o, wp_ret1, wp_ret2, wp_ret3, wp_ret4, wp_ret5, wp_return, wp_min, wp_max, wp_abs, am_ex, gset_eq, gset_ne, upd_eq, upd_ne, gset_gset, am_ci_1, am_ci_6, am_toList_some, am_toList_none, true_implies, false_implies, and_self, and_true, true_and, not_true_eq_false, not_false_eq_true, imp_self, implies_true, Classical.not_not, if_true, if_false, false_and, and_false, or_false, false_or, true_or, or_true, Nat.reduceAdd, Nat.reduceMul, Nat.reduceSub, Nat.reduceLT, Nat.reduceLeDiff, Nat.reduceEqDiff, Nat.reduceBneDiff, Nat.add_zero, Nat.zero_add, reduceCtorEq, wil0, wal0, wis0, wic0, wil1, wal1, wis1, wic1, wil2, wll2, wal2, wis2, was2, wls2, wic2, wil3, wis3, wic3, wic3m, wic3s, wil4, wis4, wic4, wil5, wis5, wic5, wic5m, wil6, wll6, wal6, wis6, was6, wls6, wic6, wil7, wal7, wis7, was7, wic7, wil8, wis8, wic8, wil9, wis9, wic9, wil10, wis10, wic10, am_nI_inj, am_nI_lt, am_nI_le, nI_add, pk_mul, am_nI_sub, am_add_m1, am_gfs, am_pfs, am_alds, am_asts, am_lens, am_B157_0, bn157_0, g5, g1, q1, g7, q2, q3]
        exact ihk
      · rw [runB_n (fun z => hl z.2)] at hr
        by_cases h97 : b e < 97
        · have q2 : (b e < 97) = True := eq_true h97
          simp (config := { maxSteps := 1000000 }) (disch := first | exact am_nl_i | exact am_nl_r | exact am_nl_n | exact am_l0 | exact am_l1 | exact am_l2 | exact am_l3 | assumption | omega) only [wp_ldc, wp_sipush, wp_ldc_w, wp_lconst, wp_iadd, wp_isub, wp_imul, wp_iand, wp_ior, wp_ixor, wp_ishl, wp_ishr, wp_iushr, wp_idiv, wp_irem, wp_ineg, wp_i2b, wp_i2s, wp_i2c, wp_i2l, wp_ladd, wp_lmul, wp_lcmp, wp_dup_i, wp_dup_r, wp_dup2, wp_pop, wp_getfield, wp_putfield, wp_getstatic, wp_iaload, wp_baload, wp_aaload, wp_iastore, wp_arraylength, wp_goto, wp_fall, wp_ieq, wp_ine, wp_ilt, wp_ige, wp_igt, wp_ile, wp_ceq, wp_cne, wp_clt, wp_cge, wp_cgt, wp_cle, wp_sw, wp_ret0, wp_ret1z, wp_ret1o, wp_ret1, wp_ret2, wp_ret3, wp_ret4, wp_ret5, wp_return, wp_min, wp_max, wp_abs, am_ex, gset_eq, gset_ne, upd_eq, upd_ne, gset_gset, am_ci_1, am_ci_6, am_toList_some, am_toList_none, true_implies, false_implies, and_self, and_true, true_and, not_true_eq_false, not_false_eq_true, imp_self, implies_true, Classical.not_not, if_true, if_false, false_and, and_false, or_false, false_or, true_or, or_true, Nat.reduceAdd, Nat.reduceMul, Nat.reduceSub, Nat.reduceLT, Nat.reduceLeDiff, Nat.reduceEqDiff, Nat.reduceBneDiff, Nat.add_zero, Nat.zero_add, reduceCtorEq, wil0, wal0, wis0, wic0, wil1, wal1, wis1, wic1, wil2, wll2, wal2, wis2, was2, wls2, wic2, wil3, wis3, wic3, wic3m, wic3s, wil4, wis4, wic4, wil5, wis5, wic5, wic5m, wil6, wll6, wal6, wis6, was6, wls6, wic6, wil7, wal7, wis7, was7, wic7, wil8, wis8, wic8, wil9, wis9, wic9, wil10, wis10, wic10, am_nI_inj, am_nI_lt, am_nI_le, nI_add, pk_mul, am_nI_sub, am_add_m1, am_gfs, am_pfs, am_alds, am_asts, am_lens, bk157_52, am_B157_0, am_B157_52, g5, g1, q1, g7, q2]
          rw [← hQ]
          exact ⟨rfl, by rw [g5, hr], gf, go⟩
        · have h122 : 122 < b e := by
            have : ¬ (97 ≤ b e ∧ b e ≤ 122) := fun z => hl (decide_eq_true z)
            omega
          have q2 : (b e < 97) = False := eq_false h97
          have q3 : (122 < b e) = True := eq_true h122
          simp (config := { maxSteps := 1000000 }) (disch := first | exact am_nl_i | exact am_nl_r | exact am_nl_n | exact am_l0 | exact am_l1 | exact am_l2 | exact am_l3 | assumption | omega) only [wp_ldc, wp_sipush, wp_ldc_w, wp_lconst, wp_iadd, wp_isub, wp_imul, wp_iand, wp_ior, wp_ixor, wp_ishl, wp_ishr, wp_iushr, wp_idiv, wp_irem, wp_ineg, wp_i2b, wp_i2s, wp_i2c, wp_i2l, wp_ladd, wp_lmul, wp_lcmp, wp_dup_i, wp_dup_r, wp_dup2, wp_pop, wp_getfield, wp_putfield, wp_getstatic, wp_iaload, wp_baload, wp_aaload, wp_iastore, wp_arraylength, wp_goto, wp_fall, wp_ieq, wp_ine, wp_ilt, wp_ige, wp_igt, wp_ile, wp_ceq, wp_cne, wp_clt, wp_cge, wp_cgt, wp_cle, wp_sw, wp_ret0, wp_ret1z, wp_ret1o, wp_ret1, wp_ret2, wp_ret3, wp_ret4, wp_ret5, wp_return, wp_min, wp_max, wp_abs, am_ex, gset_eq, gset_ne, upd_eq, upd_ne, gset_gset, am_ci_1, am_ci_6, am_toList_some, am_toList_none, true_implies, false_implies, and_self, and_true, true_and, not_true_eq_false, not_false_eq_true, imp_self, implies_true, Classical.not_not, if_true, if_false, false_and, and_false, or_false, false_or, true_or, or_true, Nat.reduceAdd, Nat.reduceMul, Nat.reduceSub, Nat.reduceLT, Nat.reduceLeDiff, Nat.reduceEqDiff, Nat.reduceBneDiff, Nat.add_zero, Nat.zero_add, reduceCtorEq, wil0, wal0, wis0, wic0, wil1, wal1, wis1, wic1, wil2, wll2, wal2, wis2, was2, wls2, wic2, wil3, wis3, wic3, wic3m, wic3s, wil4, wis4, wic4, wil5, wis5, wic5, wic5m, wil6, wll6, wal6, wis6, was6, wls6, wic6, wil7, wal7, wis7, was7, wic7, wil8, wis8, wic8, wil9, wis9, wic9, wil10, wis10, wic10, am_nI_inj, am_nI_lt, am_nI_le, nI_add, pk_mul, am_nI_sub, am_add_m1, am_gfs, am_pfs, am_alds, am_asts, am_lens, bk157_52, am_B157_0, am_B157_52, g5, g1, q1, g7, q2, q3]
          rw [← hQ]
          exact ⟨rfl, by rw [g5, hr], gf, go⟩
  exact key (n - e) e (by omega) hr G h5 (fun _ _ => rfl) (fun _ _ => rfl)
theorem X1_skipNumber {X : AmX} {G : GG} {n e : Nat} {b : Nat → Nat} (h1 : G 46 1 = nI n) (h5 : G 46 5 = nI e) (he : e ≤ n) (hT : TBy G 47 n b) : ∃ G1, Ev X 158 [.ref 46] G none G1 ∧ G1 46 5 = nI (runB isDig b n (n - e) e) ∧ G1 46 4 = nI (dgV b n (n - e) e 0) ∧ (∀ f, ¬ f = 5 → ¬ f = 4 → G1 46 f = G 46 f) ∧ ∀ o, ¬ o = 46 → G1 o = G o := by
  suffices hh : WPm X 158 [.ref 46] G (fun v G1 => v = none ∧ G1 46 5 = nI (runB isDig b n (n - e) e) ∧ G1 46 4 = nI (dgV b n (n - e) e 0) ∧ (∀ f, ¬ f = 5 → ¬ f = 4 → G1 46 f = G 46 f) ∧ ∀ o, ¬ o = 46 → G1 o = G o) by
    obtain ⟨v, G1, h1, rfl, h2⟩ := WPm_ev hh
    exact ⟨G1, h1, h2⟩
  have hn := hT.1
  generalize hr : runB isDig b n (n - e) e = r
  generalize hw : dgV b n (n - e) e 0 = w
  generalize hQ : (fun (v : Option Value) (G1 : GG) => v = none ∧ G1 46 5 = nI r ∧ G1 46 4 = nI w ∧ (∀ f, ¬ f = 5 → ¬ f = 4 → G1 46 f = G 46 f) ∧ ∀ o, ¬ o = 46 → G1 o = G o) = Q
  have key : ∀ d e v : Nat, e + d = n → v ≤ 99999 → runB isDig b n d e = r → dgV b n d e v = w → ∀ G' : GG, G' 46 5 = nI e → G' 46 4 = nI v → (∀ f, ¬ f = 5 → ¬ f = 4 → G' 46 f = G 46 f) → (∀ o, ¬ o = 46 → G' o = G o) → WP X 158 (am_blk 158 5) [some (.ref 46)] [] G' Q := by
    intro d
    induction d with
    | zero =>
      intro e v he hv hr hw G' g5 g4 gf go
      have g1 : G' 46 1 = nI n := by rw [gf 1 (by omega) (by omega)]; exact h1
      have q1 : (n ≤ e) = True := eq_true (by omega)
      have hr : e = r := hr
      have hw : v = w := hw
      rw [bh158_5]
      simp (config := { maxSteps := 1000000 }) (disch := first | exact am_nl_i | exact am_nl_r | exact am_nl_n | exact am_l0 | exact am_l1 | exact am_l2 | exact am_l3 | assumption | omega) only [wp_ldc, wp_sipush, wp_ldc_w, wp_lconst, wp_iadd, wp_isub, wp_imul, wp_iand, wp_ior, wp_ixor, wp_ishl, wp_ishr, wp_iushr, wp_idiv, wp_irem, wp_ineg, wp_i2b, wp_i2s, wp_i2c, wp_i2l, wp_ladd, wp_lmul, wp_lcmp, wp_dup_i, wp_dup_r, wp_dup2, wp_pop, wp_getfield, wp_putfield, wp_getstatic, wp_iaload, wp_baload, wp_aaload, wp_iastore, wp_arraylength, wp_goto, wp_fall, wp_ieq, wp_ine, wp_ilt, wp_ige, wp_igt, wp_ile, wp_ceq, wp_cne, wp_clt, wp_cge, wp_cgt, wp_cle, wp_sw, wp_ret0, wp_ret1z, wp_ret1o, wp_ret1, wp_ret2, wp_ret3, wp_ret4, wp_ret5, wp_return, wp_min, wp_max, wp_abs, am_ex, gset_eq, gset_ne, upd_eq, upd_ne, gset_gset, am_ci_1, am_ci_6, am_toList_some, am_toList_none, true_implies, false_implies, and_self, and_true, true_and, not_true_eq_false, not_false_eq_true, imp_self, implies_true, Classical.not_not, if_true, if_false, false_and, and_false, or_false, false_or, true_or, or_true, Nat.reduceAdd, Nat.reduceMul, Nat.reduceSub, Nat.reduceLT, Nat.reduceLeDiff, Nat.reduceEqDiff, Nat.reduceBneDiff, Nat.add_zero, Nat.zero_add, reduceCtorEq, wil0, wal0, wis0, wic0, wil1, wal1, wis1, wic1, wil2, wll2, wal2, wis2, was2, wls2, wic2, wil3, wis3, wic3, wic3m, wic3s, wil4, wis4, wic4, wil5, wis5, wic5, wic5m, wil6, wll6, wal6, wis6, was6, wls6, wic6, wil7, wal7, wis7, was7, wic7, wil8, wis8, wic8, wil9, wis9, wic9, wil10, wis10, wic10, am_nI_inj, am_nI_lt, am_nI_le, nI_add, pk_mul, am_nI_sub, am_add_m1, am_gfs, am_pfs, am_alds, am_asts, am_lens, bk158_91, am_B158_5, am_B158_91, g5, g1, q1]
      rw [← hQ]
      exact ⟨rfl, by rw [g5, hr], by rw [g4, hw], gf, go⟩
    | succ d ih =>
      intro e v he hv hr hw G' g5 g4 gf go
      have g1 : G' 46 1 = nI n := by rw [gf 1 (by omega) (by omega)]; exact h1
      have q1 : (n ≤ e) = False := eq_false (by omega)
      have hen : e < n := by omega
      obtain ⟨hb, hb2⟩ := hT.2 e hen
      have g7 : G' 47 e = nI (b e) := by rw [go 47 (by omega)]; exact hb
      rw [bh158_5]
      by_cases hl : isDig (b e) = true
      · rw [runB_y hen hl] at hr
        rw [dgV_y hen hl] at hw
        have h2 := of_decide_eq_true hl
        have q2 : (b e < 48) = False := eq_false (by omega)
        have q3 : (57 < b e) = False := eq_false (by omega)
        have g46 : ∀ f, gset G' 46 f 47 = G' 47 := fun f => gset_ne (by omega)
        by_cases hv9 : v ≤ 9999
        · rw [if_pos hv9] at hw
          have q4 : (9999 < v) = False := eq_false (by omega)
          have es : nI (v * 10 + b e) - nI 48 = nI (v * 10 + (b e - 48)) := by rw [am_nI_sub (by omega), show v * 10 + b e - 48 = v * 10 + (b e - 48) by omega]
          have ihk := ih (e + 1) (v * 10 + (b e - 48)) (by omega) (by omega) hr hw (gset G' 46 (upd (upd (G' 46) 4 (nI (v * 10 + (b e - 48)))) 5 (nI (e + 1)))) (by rw [gset_eq, upd_eq]) (by rw [gset_eq, upd_ne (by omega), upd_eq]) (fun f hf hf4 => by rw [gset_eq, upd_ne hf, upd_ne hf4]; exact gf f hf hf4) (fun o ho => by rw [gset_ne ho]; exact go o ho)
          have em : ∀ f : Nat → Int32, upd f 4 (nI (v * 10 + (b e - 48))) 5 = f 5 := fun f => upd_ne (by omega)
          simp (config := { maxSteps := 1000000 }) (disch := first | exact am_nl_i | exact am_nl_r | exact am_nl_n | exact am_l0 | exact am_l1 | exact am_l2 | exact am_l3 | assumption | omega) only [wp_ldc, wp_sipush, wp_ldc_w, wp_lconst, wp_iadd, wp_isub, wp_imul, wp_iand, wp_ior, wp_ixor, wp_ishl, wp_ishr, wp_iushr, wp_idiv, wp_irem, wp_ineg, wp_i2b, wp_i2s, wp_i2c, wp_i2l, wp_ladd, wp_lmul, wp_lcmp, wp_dup_i, wp_dup_r, wp_dup2, wp_pop, wp_getfield, wp_putfield, wp_getstatic, wp_iaload, wp_baload, wp_aaload, wp_iastore, wp_arraylength, wp_goto, wp_fall, wp_ieq, wp_ine, wp_ilt, wp_ige, wp_igt, wp_ile, wp_ceq, wp_cne, wp_clt, wp_cge, wp_cgt, wp_cle, wp_sw, wp_ret0, wp_ret1z, wp_ret1o, wp_ret1, wp_ret2, wp_ret3, wp_ret4, wp_ret5, wp_return, wp_min, wp_max, wp_abs, am_ex, gset_eq, gset_ne, upd_eq, upd_ne, gset_gset, am_ci_1, am_ci_6, am_toList_some, am_toList_none, true_implies, false_implies, and_self, and_true, true_and, not_true_eq_false, not_false_eq_true, imp_self, implies_true, Classical.not_not, if_true, if_false, false_and, and_false, or_false, false_or, true_or, or_true, Nat.reduceAdd, Nat.reduceMul, Nat.reduceSub, Nat.reduceLT, Nat.reduceLeDiff, Nat.reduceEqDiff, Nat.reduceBneDiff, Nat.add_zero, Nat.zero_add, reduceCtorEq, wil0, wal0, wis0, wic0, wil1, wal1, wis1, wic1, wil2, wll2, wal2, wis2, was2, wls2, wic2, wil3, wis3, wic3, wic3m, wic3s, wil4, wis4, wic4, wil5, wis5, wic5, wic5m, wil6, wll6, wal6, wis6, was6, wls6, wic6, wil7, wal7, wis7, was7, wic7, wil8, wis8, wic8, wil9, wis9, wic9, wil10, wis10, wic10, am_nI_inj, am_nI_lt, am_nI_le, nI_add, pk_mul, am_nI_sub, am_add_m1, am_gfs, am_pfs, am_alds, am_asts, am_lens, bk158_78, am_B158_5, am_B158_78, bn158_5, g5, g1, q1, g7, q2, q3, g4, q4, es, em]
          exact ihk
        · rw [if_neg hv9] at hw
          have q4 : (9999 < v) = True := eq_true (by omega)
          have ihk := ih (e + 1) v (by omega) (by omega) hr hw (gset G' 46 (upd (G' 46) 5 (nI (e + 1)))) (by rw [gset_eq, upd_eq]) (by rw [gset_eq, upd_ne (by omega)]; exact g4) (fun f hf hf4 => by rw [gset_eq, upd_ne hf]; exact gf f hf hf4) (fun o ho => by rw [gset_ne ho]; exact go o ho)
          simp (config := { maxSteps := 1000000 }) (disch := first | exact am_nl_i | exact am_nl_r | exact am_nl_n | exact am_l0 | exact am_l1 | exact am_l2 | exact am_l3 | assumption | omega) only [wp_ldc, wp_sipush, wp_ldc_w, wp_lconst, wp_iadd, wp_isub, wp_imul, wp_iand, wp_ior, wp_ixor, wp_ishl, wp_ishr, wp_iushr, wp_idiv, wp_irem, wp_ineg, wp_i2b, wp_i2s, wp_i2c, wp_i2l, wp_ladd, wp_lmul, wp_lcmp, wp_dup_i, wp_dup_r, wp_dup2, wp_pop, wp_getfield, wp_putfield, wp_getstatic, wp_iaload, wp_baload, wp_aaload, wp_iastore, wp_arraylength, wp_goto, wp_fall, wp_ieq, wp_ine, wp_ilt, wp_ige, wp_igt, wp_ile, wp_ceq, wp_cne, wp_clt, wp_cge, wp_cgt, wp_cle, wp_sw, wp_ret0, wp_ret1z, wp_ret1o, wp_ret1, wp_ret2, wp_ret3, wp_ret4, wp_ret5, wp_return, wp_min, wp_max, wp_abs, am_ex, gset_eq, gset_ne, upd_eq, upd_ne, gset_gset, am_ci_1, am_ci_6, am_toList_some, am_toList_none, true_implies, false_implies, and_self, and_true, true_and, not_true_eq_false, not_false_eq_true, imp_self, implies_true, Classical.not_not, if_true, if_false, false_and, and_false, or_false, false_or, true_or, or_true, Nat.reduceAdd, Nat.reduceMul, Nat.reduceSub, Nat.reduceLT, Nat.reduceLeDiff, Nat.reduceEqDiff, Nat.reduceBneDiff, Nat.add_zero, Nat.zero_add, reduceCtorEq, wil0, wal0, wis0, wic0, wil1, wal1, wis1, wic1, wil2, wll2, wal2, wis2, was2, wls2, wic2, wil3, wis3, wic3, wic3m, wic3s, wil4, wis4, wic4, wil5, wis5, wic5, wic5m, wil6, wll6, wal6, wis6, was6, wls6, wic6, wil7, wal7, wis7, was7, wic7, wil8, wis8, wic8, wil9, wis9, wic9, wil10, wis10, wic10, am_nI_inj, am_nI_lt, am_nI_le, nI_add, pk_mul, am_nI_sub, am_add_m1, am_gfs, am_pfs, am_alds, am_asts, am_lens, bk158_78, am_B158_5, am_B158_78, bn158_5, g5, g1, q1, g7, q2, q3, g4, q4]
          exact ihk
      · rw [runB_n (fun z => hl z.2)] at hr
        rw [dgV_n (fun z => hl z.2)] at hw
        by_cases h97 : b e < 48
        · have q2 : (b e < 48) = True := eq_true h97
          simp (config := { maxSteps := 1000000 }) (disch := first | exact am_nl_i | exact am_nl_r | exact am_nl_n | exact am_l0 | exact am_l1 | exact am_l2 | exact am_l3 | assumption | omega) only [wp_ldc, wp_sipush, wp_ldc_w, wp_lconst, wp_iadd, wp_isub, wp_imul, wp_iand, wp_ior, wp_ixor, wp_ishl, wp_ishr, wp_iushr, wp_idiv, wp_irem, wp_ineg, wp_i2b, wp_i2s, wp_i2c, wp_i2l, wp_ladd, wp_lmul, wp_lcmp, wp_dup_i, wp_dup_r, wp_dup2, wp_pop, wp_getfield, wp_putfield, wp_getstatic, wp_iaload, wp_baload, wp_aaload, wp_iastore, wp_arraylength, wp_goto, wp_fall, wp_ieq, wp_ine, wp_ilt, wp_ige, wp_igt, wp_ile, wp_ceq, wp_cne, wp_clt, wp_cge, wp_cgt, wp_cle, wp_sw, wp_ret0, wp_ret1z, wp_ret1o, wp_ret1, wp_ret2, wp_ret3, wp_ret4, wp_ret5, wp_return, wp_min, wp_max, wp_abs, am_ex, gset_eq, gset_ne, upd_eq, upd_ne, gset_gset, am_ci_1, am_ci_6, am_toList_some, am_toList_none, true_implies, false_implies, and_self, and_true, true_and, not_true_eq_false, not_false_eq_true, imp_self, implies_true, Classical.not_not, if_true, if_false, false_and, and_false, or_false, false_or, true_or, or_true, Nat.reduceAdd, Nat.reduceMul, Nat.reduceSub, Nat.reduceLT, Nat.reduceLeDiff, Nat.reduceEqDiff, Nat.reduceBneDiff, Nat.add_zero, Nat.zero_add, reduceCtorEq, wil0, wal0, wis0, wic0, wil1, wal1, wis1, wic1, wil2, wll2, wal2, wis2, was2, wls2, wic2, wil3, wis3, wic3, wic3m, wic3s, wil4, wis4, wic4, wil5, wis5, wic5, wic5m, wil6, wll6, wal6, wis6, was6, wls6, wic6, wil7, wal7, wis7, was7, wic7, wil8, wis8, wic8, wil9, wis9, wic9, wil10, wis10, wic10, am_nI_inj, am_nI_lt, am_nI_le, nI_add, pk_mul, am_nI_sub, am_add_m1, am_gfs, am_pfs, am_alds, am_asts, am_lens, bk158_91, am_B158_5, am_B158_91, g5, g1, q1, g7, q2]
          rw [← hQ]
          exact ⟨rfl, by rw [g5, hr], by rw [g4, hw], gf, go⟩
        · have h122 : 57 < b e := by
            have : ¬ (48 ≤ b e ∧ b e ≤ 57) := fun z => hl (decide_eq_true z)
            omega
          have q2 : (b e < 48) = False := eq_false h97
          have q3 : (57 < b e) = True := eq_true h122
          simp (config := { maxSteps := 1000000 }) (disch := first | exact am_nl_i | exact am_nl_r | exact am_nl_n | exact am_l0 | exact am_l1 | exact am_l2 | exact am_l3 | assumption | omega) only [wp_ldc, wp_sipush, wp_ldc_w, wp_lconst, wp_iadd, wp_isub, wp_imul, wp_iand, wp_ior, wp_ixor, wp_ishl, wp_ishr, wp_iushr, wp_idiv, wp_irem, wp_ineg, wp_i2b, wp_i2s, wp_i2c, wp_i2l, wp_ladd, wp_lmul, wp_lcmp, wp_dup_i, wp_dup_r, wp_dup2, wp_pop, wp_getfield, wp_putfield, wp_getstatic, wp_iaload, wp_baload, wp_aaload, wp_iastore, wp_arraylength, wp_goto, wp_fall, wp_ieq, wp_ine, wp_ilt, wp_ige, wp_igt, wp_ile, wp_ceq, wp_cne, wp_clt, wp_cge, wp_cgt, wp_cle, wp_sw, wp_ret0, wp_ret1z, wp_ret1o, wp_ret1, wp_ret2, wp_ret3, wp_ret4, wp_ret5, wp_return, wp_min, wp_max, wp_abs, am_ex, gset_eq, gset_ne, upd_eq, upd_ne, gset_gset, am_ci_1, am_ci_6, am_toList_some, am_toList_none, true_implies, false_implies, and_self, and_true, true_and, not_true_eq_false, not_false_eq_true, imp_self, implies_true, Classical.not_not, if_true, if_false, false_and, and_false, or_false, false_or, true_or, or_true, Nat.reduceAdd, Nat.reduceMul, Nat.reduceSub, Nat.reduceLT, Nat.reduceLeDiff, Nat.reduceEqDiff, Nat.reduceBneDiff, Nat.add_zero, Nat.zero_add, reduceCtorEq, wil0, wal0, wis0, wic0, wil1, wal1, wis1, wic1, wil2, wll2, wal2, wis2, was2, wls2, wic2, wil3, wis3, wic3, wic3m, wic3s, wil4, wis4, wic4, wil5, wis5, wic5, wic5m, wil6, wll6, wal6, wis6, was6, wls6, wic6, wil7, wal7, wis7, was7, wic7, wil8, wis8, wic8, wil9, wis9, wic9, wil10, wis10, wic10, am_nI_inj, am_nI_lt, am_nI_le, nI_add, pk_mul, am_nI_sub, am_add_m1, am_gfs, am_pfs, am_alds, am_asts, am_lens, bk158_91, am_B158_5, am_B158_91, g5, g1, q1, g7, q2, q3]
          rw [← hQ]
          exact ⟨rfl, by rw [g5, hr], by rw [g4, hw], gf, go⟩
  show WP X 158 (am_blk 158 0) [some (.ref 46)] [] G Q
  have k0 := key (n - e) e 0 (by omega) (by omega) hr hw (gset G 46 (upd (G 46) 4 (nI 0))) (by rw [gset_eq, upd_ne (by omega)]; exact h5) (by rw [gset_eq, upd_eq]) (fun f h5 h4 => by rw [gset_eq, upd_ne h4]) (fun o ho => gset_ne ho)
  simp (config := { maxSteps := 1000000 }) (disch := first | exact am_nl_i | exact am_nl_r | exact am_nl_n | exact am_l0 | exact am_l1 | exact am_l2 | exact am_l3 | assumption | omega) only [wp_ldc, wp_sipush, wp_ldc_w, wp_lconst, wp_iadd, wp_isub, wp_imul, wp_iand, wp_ior, wp_ixor, wp_ishl, wp_ishr, wp_iushr, wp_idiv, wp_irem, wp_ineg, wp_i2b, wp_i2s, wp_i2c, wp_i2l, wp_ladd, wp_lmul, wp_lcmp, wp_dup_i, wp_dup_r, wp_dup2, wp_pop, wp_getfield, wp_putfield, wp_getstatic, wp_iaload, wp_baload, wp_aaload, wp_iastore, wp_arraylength, wp_goto, wp_fall, wp_ieq, wp_ine, wp_ilt, wp_ige, wp_igt, wp_ile, wp_ceq, wp_cne, wp_clt, wp_cge, wp_cgt, wp_cle, wp_sw, wp_ret0, wp_ret1z, wp_ret1o, wp_ret1, wp_ret2, wp_ret3, wp_ret4, wp_ret5, wp_return, wp_min, wp_max, wp_abs, am_ex, gset_eq, gset_ne, upd_eq, upd_ne, gset_gset, am_ci_1, am_ci_6, am_toList_some, am_toList_none, true_implies, false_implies, and_self, and_true, true_and, not_true_eq_false, not_false_eq_true, imp_self, implies_true, Classical.not_not, if_true, if_false, false_and, and_false, or_false, false_or, true_or, or_true, Nat.reduceAdd, Nat.reduceMul, Nat.reduceSub, Nat.reduceLT, Nat.reduceLeDiff, Nat.reduceEqDiff, Nat.reduceBneDiff, Nat.add_zero, Nat.zero_add, reduceCtorEq, wil0, wal0, wis0, wic0, wil1, wal1, wis1, wic1, wil2, wll2, wal2, wis2, was2, wls2, wic2, wil3, wis3, wic3, wic3m, wic3s, wil4, wis4, wic4, wil5, wis5, wic5, wic5m, wil6, wll6, wal6, wis6, was6, wls6, wic6, wil7, wal7, wis7, was7, wic7, wil8, wis8, wic8, wil9, wis9, wic9, wil10, wis10, wic10, am_nI_inj, am_nI_lt, am_nI_le, nI_add, pk_mul, am_nI_sub, am_add_m1, am_gfs, am_pfs, am_alds, am_asts, am_lens, bk158_0, am_B158_0, bn158_5]
  exact k0
