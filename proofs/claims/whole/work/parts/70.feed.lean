/-! ===== the class: feed ===== -/
theorem E_X1_append {X : AmX} {G : GG} (n : Nat) (v : Int32) (h33 : G 46 1 = nI n) (hn : n < 120) : Ev X 149 [.ref 46, .int v] G (none) (gset (gset G 47 (upd (G 47) n v)) 46 (upd (G 46) 1 (nI (n + 1)))) := by
  refine Ev_of ?_
  show WP X 149 (am_blk 149 0) [some (.ref 46), some (.int v)] [] G _
  have q1 : (120 ≤ n) = False := eq_false (by omega)
  have hg : ∀ f, gset G 47 f 46 = G 46 := fun f => gset_ne (by omega)
  simp (config := { maxSteps := 1000000 }) (disch := first | exact am_nl_i | exact am_nl_r | exact am_nl_n | exact am_l0 | exact am_l1 | exact am_l2 | exact am_l3 | assumption | omega) only [wp_ldc, wp_sipush, wp_ldc_w, wp_lconst, wp_iadd, wp_isub, wp_imul, wp_iand, wp_ior, wp_ixor, wp_ishl, wp_ishr, wp_iushr, wp_idiv, wp_irem, wp_ineg, wp_i2b, wp_i2s, wp_i2c, wp_i2l, wp_ladd, wp_lmul, wp_lcmp, wp_dup_i, wp_dup_r, wp_dup2, wp_pop, wp_getfield, wp_putfield, wp_getstatic, wp_iaload, wp_baload, wp_aaload, wp_iastore, wp_arraylength, wp_goto, wp_fall, wp_ieq, wp_ine, wp_ilt, wp_ige, wp_igt, wp_ile, wp_ceq, wp_cne, wp_clt, wp_cge, wp_cgt, wp_cle, wp_sw, wp_ret0, wp_ret1z, wp_ret1o, wp_ret1, wp_ret2, wp_ret3, wp_ret4, wp_ret5, wp_return, wp_min, wp_max, wp_abs, am_ex, gset_eq, gset_ne, upd_eq, upd_ne, gset_gset, am_ci_1, am_ci_6, am_toList_some, am_toList_none, true_implies, false_implies, and_self, and_true, true_and, not_true_eq_false, not_false_eq_true, imp_self, implies_true, Classical.not_not, if_true, if_false, false_and, and_false, or_false, false_or, true_or, or_true, Nat.reduceAdd, Nat.reduceMul, Nat.reduceSub, Nat.reduceLT, Nat.reduceLeDiff, Nat.reduceEqDiff, Nat.reduceBneDiff, Nat.add_zero, Nat.zero_add, reduceCtorEq, wil0, wal0, wis0, wic0, wil1, wal1, wis1, wic1, wil2, wll2, wal2, wis2, was2, wls2, wic2, wil3, wis3, wic3, wic3m, wic3s, wil4, wis4, wic4, wil5, wis5, wic5, wic5m, wil6, wll6, wal6, wis6, was6, wls6, wic6, wil7, wal7, wis7, was7, wic7, wil8, wis8, wic8, wil9, wis9, wic9, wil10, wis10, wic10, am_nI_inj, am_nI_lt, am_nI_le, nI_add, pk_mul, am_nI_sub, am_add_m1, am_gfs, am_pfs, am_alds, am_asts, am_lens, bs149, am_B149_0, am_B149_29, h33, q1, hg]
theorem C_X1_append {X : AmX} {G : GG} {k : Nat} {r : List Instr} {lv : LV} {st : List Value} {Q : Option Value → GG → Prop} {n : Nat} {v : Int32} (h33 : G 46 1 = nI n) (hn : n < 120) (hl : st.length ≤ 4) : WP X k (.invokeinterface 149 2 :: r) lv ((.int v) :: (.ref 46) :: st) G Q ↔ WP X k r lv (st) (gset (gset G 47 (upd (G 47) n v)) 46 (upd (G 46) 1 (nI (n + 1)))) Q := WP_ev (E_X1_append n v h33 hn) (by decide) rfl rfl hl (rfl)
def byI (v : Int32) (i : Nat) : Int32 := (v.toUInt32 >>> ((nI (8 * i)).toUInt32 &&& Int32.toUInt32 31)).toInt32 &&& nI 255
theorem and255 (x : Int32) : ∃ j, j < 256 ∧ x &&& nI 255 = nI j := by
  have h0 : (x &&& nI 255).toBitVec = x.toBitVec &&& 255#32 := rfl
  have hlt : (x.toBitVec &&& 255#32).toNat < 256 := by
    rw [BitVec.toNat_and]
    exact Nat.lt_of_le_of_lt Nat.and_le_right (by decide)
  refine ⟨(x.toBitVec &&& 255#32).toNat, hlt, ?_⟩
  apply Int32.toBitVec_inj.mp
  rw [h0]
  apply BitVec.eq_of_toNat_eq
  show _ = (BitVec.ofNat 32 _).toNat
  rw [BitVec.toNat_ofNat]
  omega
