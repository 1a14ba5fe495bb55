/-! ===== the model: Tuesdays go by ===== -/
theorem ME_set {G : GG} {o n : Nat} {T : TT} {t z : Int32} {i k x : Nat} {v : Int32} (h : ME G o n T t z) (hn : n ≤ 8) (hi : i < n) (hk : k < 5) (hv : ¬ k = 1 → v = eK k x) (hv1 : k = 1 → x < 8 → v = nI x) : ME (gset G o (upd (G o) (21 + 5 * i + k) v)) o n (updT T (k + 1) i x) t z := by
  obtain ⟨a0, a1, a2, a3, a4, a5, a6, a7, a8, a9⟩ := h
  have hu : ∀ c j, ¬ (c = k + 1 ∧ j = i) → updT T (k + 1) i x c j = T c j := fun c j hc => if_neg hc
  have hx : updT T (k + 1) i x (k + 1) i = x := if_pos ⟨rfl, rfl⟩
  refine ⟨?_, ?_, ?_, fun s hs => ?_, fun p hp => ?_, fun j hj => ?_, fun j hj h2 => ?_, fun j hj => ?_, fun j hj => ?_, fun j hj => ?_⟩
  · rw [gset_eq, upd_ne (by omega)]; exact a0
  · rw [gset_eq, upd_ne (by omega)]; exact a1
  · rw [gset_eq, upd_ne (by omega)]; exact a2
  · rw [gset_eq, upd_ne (by omega), hu _ _ (by omega)]; exact a3 s hs
  · rw [gset_eq, upd_ne (by omega), hu _ _ (by omega)]; exact a4 p hp
  · by_cases e : k = 0 ∧ j = i
    · obtain ⟨rfl, rfl⟩ := e
      rw [gset_eq, hx]
      show upd (G o) (21 + 5 * j) v (21 + 5 * j) = _
      rw [upd_eq, hv (by omega)]; rfl
    · rw [gset_eq, upd_ne (by omega), hu _ _ (by omega)]; exact a5 j hj
  · by_cases e : k = 1 ∧ j = i
    · obtain ⟨rfl, rfl⟩ := e
      rw [hx] at h2 ⊢
      rw [gset_eq, upd_eq]
      exact hv1 rfl h2
    · rw [hu _ _ (by omega)] at h2 ⊢
      rw [gset_eq, upd_ne (by omega)]; exact a6 j hj h2
  · by_cases e : k = 2 ∧ j = i
    · obtain ⟨rfl, rfl⟩ := e
      rw [hx, gset_eq, upd_eq, hv (by omega)]; rfl
    · rw [gset_eq, upd_ne (by omega), hu _ _ (by omega)]; exact a7 j hj
  · by_cases e : k = 3 ∧ j = i
    · obtain ⟨rfl, rfl⟩ := e
      rw [hx, gset_eq, upd_eq, hv (by omega)]; rfl
    · rw [gset_eq, upd_ne (by omega), hu _ _ (by omega)]; exact a8 j hj
  · by_cases e : k = 4 ∧ j = i
    · obtain ⟨rfl, rfl⟩ := e
      rw [hx, gset_eq, upd_eq, hv (by omega)]; rfl
    · rw [gset_eq, upd_ne (by omega), hu _ _ (by omega)]; exact a9 j hj
theorem ME_prize {G : GG} {o n : Nat} {T : TT} {t z : Int32} {p x : Nat} (h : ME G o n T t z) (hn : n ≤ 8) (hp : p < 8) : ME (gset G o (upd (G o) (13 + p) (nI x))) o n (updT T 0 p x) t z := by
  obtain ⟨a0, a1, a2, a3, a4, a5, a6, a7, a8, a9⟩ := h
  have hu : ∀ c j, ¬ c = 0 → updT T 0 p x c j = T c j := fun c j hc => if_neg (fun z => hc z.1)
  refine ⟨?_, ?_, ?_, fun s hs => ?_, fun q hq => ?_, fun j hj => ?_, fun j hj h2 => ?_, fun j hj => ?_, fun j hj => ?_, fun j hj => ?_⟩
  · rw [gset_eq, upd_ne (by omega)]; exact a0
  · rw [gset_eq, upd_ne (by omega)]; exact a1
  · rw [gset_eq, upd_ne (by omega)]; exact a2
  · rw [gset_eq, upd_ne (by omega), hu _ _ (by omega)]; exact a3 s hs
  · by_cases e : q = p
    · subst e
      rw [gset_eq, upd_eq]; unfold updT; simp
    · rw [gset_eq, upd_ne (by omega), a4 q hq]; unfold updT; simp [e]
  · rw [gset_eq, upd_ne (by omega), hu _ _ (by omega)]; exact a5 j hj
  · rw [hu _ _ (by omega)] at h2 ⊢
    rw [gset_eq, upd_ne (by omega)]; exact a6 j hj h2
  · rw [gset_eq, upd_ne (by omega), hu _ _ (by omega)]; exact a7 j hj
  · rw [gset_eq, upd_ne (by omega), hu _ _ (by omega)]; exact a8 j hj
  · rw [gset_eq, upd_ne (by omega), hu _ _ (by omega)]; exact a9 j hj
theorem ME_spot {G : GG} {o n : Nat} {T : TT} {t z : Int32} {s x : Nat} (h : ME G o n T t z) (hs : s < 10) : ME (gset G o (upd (G o) (3 + s) (eP x))) o n (updT T 6 s x) t z := by
  obtain ⟨a0, a1, a2, a3, a4, a5, a6, a7, a8, a9⟩ := h
  have hu : ∀ c j, ¬ c = 6 → updT T 6 s x c j = T c j := fun c j hc => if_neg (fun z => hc z.1)
  refine ⟨?_, ?_, ?_, fun q hq => ?_, fun q hq => ?_, fun j hj => ?_, fun j hj h2 => ?_, fun j hj => ?_, fun j hj => ?_, fun j hj => ?_⟩
  · rw [gset_eq, upd_ne (by omega)]; exact a0
  · rw [gset_eq, upd_ne (by omega)]; exact a1
  · rw [gset_eq, upd_ne (by omega)]; exact a2
  · by_cases e : q = s
    · subst e
      rw [gset_eq, upd_eq]; unfold updT; simp
    · rw [gset_eq, upd_ne (by omega), a3 q hq]; unfold updT; simp [e]
  · rw [gset_eq, upd_ne (by omega), hu _ _ (by omega)]; exact a4 q hq
  · rw [gset_eq, upd_ne (by omega), hu _ _ (by omega)]; exact a5 j hj
  · rw [hu _ _ (by omega)] at h2 ⊢
    rw [gset_eq, upd_ne (by omega)]; exact a6 j hj h2
  · rw [gset_eq, upd_ne (by omega), hu _ _ (by omega)]; exact a7 j hj
  · rw [gset_eq, upd_ne (by omega), hu _ _ (by omega)]; exact a8 j hj
  · rw [gset_eq, upd_ne (by omega), hu _ _ (by omega)]; exact a9 j hj
theorem ME_z {G : GG} {o n : Nat} {T : TT} {t z v : Int32} (h : ME G o n T t z) : ME (gset G o (upd (G o) 2 v)) o n T t v := by
  obtain ⟨a0, a1, a2, a3, a4, a5, a6, a7, a8, a9⟩ := h
  refine ⟨?_, ?_, ?_, fun q hq => ?_, fun q hq => ?_, fun j hj => ?_, fun j hj h2 => ?_, fun j hj => ?_, fun j hj => ?_, fun j hj => ?_⟩
  · rw [gset_eq, upd_ne (by omega)]; exact a0
  · rw [gset_eq, upd_ne (by omega)]; exact a1
  · rw [gset_eq, upd_eq]
  · rw [gset_eq, upd_ne (by omega)]; exact a3 q hq
  · rw [gset_eq, upd_ne (by omega)]; exact a4 q hq
  · rw [gset_eq, upd_ne (by omega)]; exact a5 j hj
  · rw [gset_eq, upd_ne (by omega)]; exact a6 j hj h2
  · rw [gset_eq, upd_ne (by omega)]; exact a7 j hj
  · rw [gset_eq, upd_ne (by omega)]; exact a8 j hj
  · rw [gset_eq, upd_ne (by omega)]; exact a9 j hj
theorem ME_t {G : GG} {o n : Nat} {T : TT} {t z v : Int32} (h : ME G o n T t z) : ME (gset G o (upd (G o) 0 v)) o n T v z := by
  obtain ⟨a0, a1, a2, a3, a4, a5, a6, a7, a8, a9⟩ := h
  refine ⟨?_, ?_, ?_, fun q hq => ?_, fun q hq => ?_, fun j hj => ?_, fun j hj h2 => ?_, fun j hj => ?_, fun j hj => ?_, fun j hj => ?_⟩
  · rw [gset_eq, upd_eq]
  · rw [gset_eq, upd_ne (by omega)]; exact a1
  · rw [gset_eq, upd_ne (by omega)]; exact a2
  · rw [gset_eq, upd_ne (by omega)]; exact a3 q hq
  · rw [gset_eq, upd_ne (by omega)]; exact a4 q hq
  · rw [gset_eq, upd_ne (by omega)]; exact a5 j hj
  · rw [gset_eq, upd_ne (by omega)]; exact a6 j hj h2
  · rw [gset_eq, upd_ne (by omega)]; exact a7 j hj
  · rw [gset_eq, upd_ne (by omega)]; exact a8 j hj
  · rw [gset_eq, upd_ne (by omega)]; exact a9 j hj
/-- the first i have had their Tuesday -/
def stI (T : TT) (n i : Nat) : TT := fun c j => if j < i ∧ (c = 5 ∨ c = 2) then stepN n T c j else T c j
theorem stI_0 (T : TT) (n : Nat) : stI T n 0 = T := by
  funext c j
  exact if_neg (fun z => absurd z.1 (Nat.not_lt_zero j))
theorem stI_n (T : TT) (n : Nat) : stI T n n = stepN n T := by
  funext c j
  unfold stI stepN
  by_cases h1 : c = 5 ∧ j < n
  · rw [if_pos ⟨h1.2, Or.inl h1.1⟩]
  · by_cases h2 : c = 2 ∧ j < n
    · rw [if_pos ⟨h2.2, Or.inr h2.1⟩]
    · rw [if_neg (by omega), if_neg h1, if_neg h2]
theorem stI_s {T : TT} {n i : Nat} (hi : i < n) : updT (updT (stI T n i) 5 i (min 99999 (T 5 i + getN T n i))) 2 i (if T 1 i = 5 ∨ T 1 i = 6 then T 2 i else chN T n i) = stI T n (i + 1) := by
  funext c j
  have e1 : stI T n (i + 1) c j = if j < i + 1 ∧ (c = 5 ∨ c = 2) then stepN n T c j else T c j := rfl
  have e0 : stI T n i c j = if j < i ∧ (c = 5 ∨ c = 2) then stepN n T c j else T c j := rfl
  show (if c = 2 ∧ j = i then (if T 1 i = 5 ∨ T 1 i = 6 then T 2 i else chN T n i) else if c = 5 ∧ j = i then min 99999 (T 5 i + getN T n i) else stI T n i c j) = stI T n (i + 1) c j
  rw [e1]
  by_cases hj : j = i
  · subst hj
    by_cases h2 : c = 2
    · subst h2
      rw [if_pos ⟨rfl, rfl⟩, if_pos (show j < j + 1 ∧ ((2 : Nat) = 5 ∨ (2 : Nat) = 2) from ⟨by omega, Or.inr rfl⟩)]
      simp [stepN, hi]
    · rw [if_neg (fun z => h2 z.1)]
      by_cases h5 : c = 5
      · subst h5
        rw [if_pos ⟨rfl, rfl⟩, if_pos (show j < j + 1 ∧ ((5 : Nat) = 5 ∨ (5 : Nat) = 2) from ⟨by omega, Or.inl rfl⟩)]
        simp [stepN, hi]
      · rw [if_neg (fun z => h5 z.1), e0, if_neg (by omega), if_neg (by omega)]
  · rw [if_neg (fun z => hj z.2), if_neg (fun z => hj z.2), e0]
    by_cases h : j < i ∧ (c = 5 ∨ c = 2)
    · rw [if_pos h, if_pos (show j < i + 1 ∧ (c = 5 ∨ c = 2) from ⟨by omega, h.2⟩)]
    · rw [if_neg h, if_neg (show ¬ (j < i + 1 ∧ (c = 5 ∨ c = 2)) from fun z => h ⟨by omega, z.2⟩)]
theorem X5_goes {X : AmX} {G : GG} {n a : Nat} {T : TT} {t z : Int32} (h : MR G n T t z a) : ∃ G1, Ev X 68 [.ref 58] G none G1 ∧ MR G1 n (stepN n T) (t + nI 1) z a ∧ ∀ o, ¬ o = 59 → ¬ o = 63 → ¬ o = 64 → G1 o = G o := by
  suffices hh : WPm X 68 [.ref 58] G (fun v G1 => v = none ∧ MR G1 n (stepN n T) (t + nI 1) z a ∧ ∀ o, ¬ o = 59 → ¬ o = 63 → ¬ o = 64 → G1 o = G o) by
    obtain ⟨v, G1, h1, rfl, h2⟩ := WPm_ev hh
    exact ⟨G1, h1, h2⟩
  obtain ⟨hM0, haw, ha8, hai, hV⟩ := id h
  obtain ⟨v1, v2, v3, v4⟩ := id hV
  obtain ⟨G2, hev, hk, hf2⟩ := X5_looksAt (X := X) h
  have hM : ME G2 59 n T t z := ME_congr v1 hM0 (fun j _ => by rw [hf2 59 (by omega) (by omega)])
  have haw2 : G2 58 7 = eP a := by rw [hf2 58 (by omega) (by omega)]; exact haw
  show WP X 68 (am_blk 68 0) [some (.ref 58), none, none] [] G _
  generalize hQ : (fun (v : Option Value) (G1 : GG) => v = none ∧ MR G1 n (stepN n T) (t + nI 1) z a ∧ ∀ o, ¬ o = 59 → ¬ o = 63 → ¬ o = 64 → G1 o = G o) = Q
  have hT8 : ∀ i, i < n → ¬ i = a → T 2 i < 8 := fun i hi hia => by
    have h1 := (v3 i hi).2.1
    have h2 : ¬ T 2 i = 8 := fun z => hia ((hai i hi).mp z)
    omega
  have hch8 : ∀ i, i < n → ¬ i = a → chN T n i < 8 := fun i hi hia => by
    have h1 := hT8 i hi hia
    unfold chN
    rw [if_neg (by omega)]
    exact chF_lt h1 8 (by omega)
  have hcha : ∀ i, i < n → i = a → chN T n i = 8 := fun i hi hia => by
    unfold chN
    rw [if_pos ((hai i hi).mpr hia)]
  have hai2 : ∀ i, i < n → (stepN n T 2 i = 8 ↔ i = a) := fun i hi => by
    simp only [stepN, hi, show ¬ ((2 : Nat) = 5) by decide, false_and, if_false, and_self, if_true]
    by_cases hia : i = a
    · have h1 := (hai i hi).mpr hia
      have h2 := hcha i hi hia
      rw [h1, h2]
      simp [hia]
    · have h1 := hT8 i hi hia
      have h2 := hch8 i hi hia
      split <;> omega
  have key : ∀ d i : Nat, i + d = n → ∀ (G' : GG) (x : Option Value), ME G' 59 n (stI T n i) t z → (∀ o, ¬ o = 59 → G' o = G2 o) → WP X 68 (am_blk 68 6) [some (.ref 58), some (.int (nI i)), x] [] G' Q := by
    intro d
    induction d with
    | zero =>
      intro i hi G' x hM' hf
      obtain rfl : i = n := by omega
      have c1 := hM'.2.1
      have c0 := hM'.1
      rw [bh68_6]
      simp (config := { maxSteps := 1000000 }) (disch := first | exact am_nl_i | exact am_nl_r | exact am_nl_n | exact am_l0 | exact am_l1 | exact am_l2 | exact am_l3 | assumption | omega) only [wp_ldc, wp_sipush, wp_ldc_w, wp_lconst, wp_iadd, wp_isub, wp_imul, wp_iand, wp_ior, wp_ixor, wp_ishl, wp_ishr, wp_iushr, wp_idiv, wp_irem, wp_ineg, wp_i2b, wp_i2s, wp_i2c, wp_i2l, wp_ladd, wp_lmul, wp_lcmp, wp_dup_i, wp_dup_r, wp_dup2, wp_pop, wp_getfield, wp_putfield, wp_getstatic, wp_iaload, wp_baload, wp_aaload, wp_iastore, wp_arraylength, wp_goto, wp_fall, wp_ieq, wp_ine, wp_ilt, wp_ige, wp_igt, wp_ile, wp_ceq, wp_cne, wp_clt, wp_cge, wp_cgt, wp_cle, wp_sw, wp_ret0, wp_ret1z, wp_ret1o, wp_ret1, wp_ret2, wp_ret3, wp_ret4, wp_ret5, wp_return, wp_min, wp_max, wp_abs, am_ex, gset_eq, gset_ne, upd_eq, upd_ne, gset_gset, am_ci_1, am_ci_6, am_toList_some, am_toList_none, true_implies, false_implies, and_self, and_true, true_and, not_true_eq_false, not_false_eq_true, imp_self, implies_true, Classical.not_not, if_true, if_false, false_and, and_false, or_false, false_or, true_or, or_true, Nat.reduceAdd, Nat.reduceMul, Nat.reduceSub, Nat.reduceLT, Nat.reduceLeDiff, Nat.reduceEqDiff, Nat.reduceBneDiff, Nat.add_zero, Nat.zero_add, reduceCtorEq, wil0, wal0, wis0, wic0, wil1, wal1, wis1, wic1, wil2, wll2, wal2, wis2, was2, wls2, wic2, wil3, wis3, wic3, wic3m, wic3s, wil4, wis4, wic4, wil5, wis5, wic5, wic5m, wil6, wll6, wal6, wis6, was6, wls6, wic6, wil7, wal7, wis7, was7, wic7, wil8, wis8, wic8, wil9, wis9, wic9, wil10, wis10, wic10, am_nI_inj, am_nI_lt, am_nI_le, nI_add, pk_mul, am_nI_sub, am_add_m1, am_gfs, am_pfs, am_alds, am_asts, am_lens, bk68_114, am_B68_6, am_B68_114, c1, c0, Nat.le_refl]
      rw [← hQ]
      refine ⟨rfl, ⟨?_, ?_, ha8, hai2, TV_step hV⟩, fun o h1 h2 h3 => by rw [gset_ne h1, hf o h1]; exact hf2 o h2 h3⟩
      · have hm := ME_t (v := t + nI 1) hM'
        rw [stI_n] at hm
        exact hm
      · rw [gset_ne (by omega), hf 58 (by omega)]; exact haw2
    | succ d ih =>
      intro i hi G' x hM' hf
      have hin : i < n := by omega
      have hi8 : i < 8 := by omega
      have hni : (n ≤ i) = False := eq_false (by omega)
      have c1 := hM'.2.1
      have c2 : G' 58 7 = eP a := by rw [hf 58 (by omega)]; exact haw2
      have sE : ∀ c, stI T n i c i = T c i := fun c => if_neg (fun z => by omega)
      have c3 := hM'.2.2.2.2.2.1 i hin
      have c4 := hM'.2.2.2.2.2.2.2.2.2 i hin
      have c5 := hM'.2.2.2.2.2.2.1 i hin
      rw [sE] at c3 c4 c5
      have c6 : G' 64 i = nI (getN T n i) := by rw [hf 64 (by omega)]; exact hk.2 i hin
      have c7 : G' 63 i = eP (chN T n i) := by rw [hf 63 (by omega)]; exact hk.1 i hin
      have hgl := getN_le hV hin
      have hgo := TV_goods hV hin
      have m1 : (if T 5 i + getN T n i < 99999 then nI (T 5 i + getN T n i) else nI 99999) = nI (min 99999 (T 5 i + getN T n i)) := by
        by_cases h : T 5 i + getN T n i < 99999
        · rw [if_pos h, show min 99999 (T 5 i + getN T n i) = T 5 i + getN T n i by omega]
        · rw [if_neg h, show min 99999 (T 5 i + getN T n i) = 99999 by omega]
      have hq := ne_eP hi8 ha8
      have hkl := (v3 i hin).1
      have hM1 := ME_set (i := i) (k := 4) (x := min 99999 (T 5 i + getN T n i)) (v := nI (min 99999 (T 5 i + getN T n i))) hM' v1 hin (by omega) (fun _ => rfl) (fun e => absurd e (by omega))
      have ihk := fun G1 x hm hf => ih (i + 1) (by omega) G1 x hm hf
      have hfin : ∀ w : Int32, ((if T 1 i = 5 ∨ T 1 i = 6 then T 2 i else chN T n i) < 8 → w = nI (if T 1 i = 5 ∨ T 1 i = 6 then T 2 i else chN T n i)) → ∀ x, WP X 68 (am_blk 68 6) [some (.ref 58), some (.int (nI (i + 1))), x] [] (gset G' 59 (upd (upd (G' 59) (21 + 5 * i + 4) (nI (min 99999 (T 5 i + getN T n i)))) (21 + 5 * i + 1) w)) Q := by
        intro w hw x
        refine ihk _ x ?_ (fun o ho => by rw [gset_ne ho]; exact hf o ho)
        have hM2 := ME_set (i := i) (k := 1) (x := if T 1 i = 5 ∨ T 1 i = 6 then T 2 i else chN T n i) (v := w) hM1 v1 hin (by omega) (fun e => absurd rfl e) (fun _ => hw)
        have e5 : (4 + 1 : Nat) = 5 := rfl
        have e2 : (1 + 1 : Nat) = 2 := rfl
        rw [gset_gset, gset_eq, e5, e2, stI_s hin] at hM2
        exact hM2
      have hst : (T 1 i = 5 ∨ T 1 i = 6 ∨ i = a) → (if T 1 i = 5 ∨ T 1 i = 6 then T 2 i else chN T n i) < 8 → G' 59 (21 + 5 * i + 1) = nI (if T 1 i = 5 ∨ T 1 i = 6 then T 2 i else chN T n i) := by
        intro ho hlt
        by_cases h56 : T 1 i = 5 ∨ T 1 i = 6
        · rw [if_pos h56] at hlt ⊢; exact c5 hlt
        · rw [if_neg h56] at hlt
          have hia : i = a := by omega
          have := hcha i hin hia
          omega
      have e2 : (nI 1 = nI 0) = False := eq_false (by decide)
      rw [bh68_6]
      by_cases hia : i = a
      · have hq1 : (nI i = eP a) = True := hq.trans (eq_true hia)
        simp (config := { maxSteps := 1000000 }) (disch := first | exact am_nl_i | exact am_nl_r | exact am_nl_n | exact am_l0 | exact am_l1 | exact am_l2 | exact am_l3 | assumption | omega) only [wp_ldc, wp_sipush, wp_ldc_w, wp_lconst, wp_iadd, wp_isub, wp_imul, wp_iand, wp_ior, wp_ixor, wp_ishl, wp_ishr, wp_iushr, wp_idiv, wp_irem, wp_ineg, wp_i2b, wp_i2s, wp_i2c, wp_i2l, wp_ladd, wp_lmul, wp_lcmp, wp_dup_i, wp_dup_r, wp_dup2, wp_pop, wp_getfield, wp_putfield, wp_getstatic, wp_iaload, wp_baload, wp_aaload, wp_iastore, wp_arraylength, wp_goto, wp_fall, wp_ieq, wp_ine, wp_ilt, wp_ige, wp_igt, wp_ile, wp_ceq, wp_cne, wp_clt, wp_cge, wp_cgt, wp_cle, wp_sw, wp_ret0, wp_ret1z, wp_ret1o, wp_ret1, wp_ret2, wp_ret3, wp_ret4, wp_ret5, wp_return, wp_min, wp_max, wp_abs, am_ex, gset_eq, gset_ne, upd_eq, upd_ne, gset_gset, am_ci_1, am_ci_6, am_toList_some, am_toList_none, true_implies, false_implies, and_self, and_true, true_and, not_true_eq_false, not_false_eq_true, imp_self, implies_true, Classical.not_not, if_true, if_false, false_and, and_false, or_false, false_or, true_or, or_true, Nat.reduceAdd, Nat.reduceMul, Nat.reduceSub, Nat.reduceLT, Nat.reduceLeDiff, Nat.reduceEqDiff, Nat.reduceBneDiff, Nat.add_zero, Nat.zero_add, reduceCtorEq, wil0, wal0, wis0, wic0, wil1, wal1, wis1, wic1, wil2, wll2, wal2, wis2, was2, wls2, wic2, wil3, wis3, wic3, wic3m, wic3s, wil4, wis4, wic4, wil5, wis5, wic5, wic5m, wil6, wll6, wal6, wis6, was6, wls6, wic6, wil7, wal7, wis7, was7, wic7, wil8, wis8, wic8, wil9, wis9, wic9, wil10, wis10, wic10, am_nI_inj, am_nI_lt, am_nI_le, nI_add, pk_mul, am_nI_sub, am_add_m1, am_gfs, am_pfs, am_alds, am_asts, am_lens, bk68_73, bk68_77, bk68_78, bk68_101, bk68_107, am_B68_6, am_B68_73, am_B68_77, am_B68_78, am_B68_101, am_B68_107, bn68_6, c1, c2, c3, c4, c6, c7, hni, hq1, C_X5_at, C_X5_personIs, m1, e2]
        exact hfin _ (hst (Or.inr (Or.inr hia))) _
      · have hq1 : (nI i = eP a) = False := hq.trans (eq_false hia)
        by_cases h5 : T 1 i = 5
        · have q5 : (T 1 i = 5) = True := eq_true h5
          simp (config := { maxSteps := 1000000 }) (disch := first | exact am_nl_i | exact am_nl_r | exact am_nl_n | exact am_l0 | exact am_l1 | exact am_l2 | exact am_l3 | assumption | omega) only [wp_ldc, wp_sipush, wp_ldc_w, wp_lconst, wp_iadd, wp_isub, wp_imul, wp_iand, wp_ior, wp_ixor, wp_ishl, wp_ishr, wp_iushr, wp_idiv, wp_irem, wp_ineg, wp_i2b, wp_i2s, wp_i2c, wp_i2l, wp_ladd, wp_lmul, wp_lcmp, wp_dup_i, wp_dup_r, wp_dup2, wp_pop, wp_getfield, wp_putfield, wp_getstatic, wp_iaload, wp_baload, wp_aaload, wp_iastore, wp_arraylength, wp_goto, wp_fall, wp_ieq, wp_ine, wp_ilt, wp_ige, wp_igt, wp_ile, wp_ceq, wp_cne, wp_clt, wp_cge, wp_cgt, wp_cle, wp_sw, wp_ret0, wp_ret1z, wp_ret1o, wp_ret1, wp_ret2, wp_ret3, wp_ret4, wp_ret5, wp_return, wp_min, wp_max, wp_abs, am_ex, gset_eq, gset_ne, upd_eq, upd_ne, gset_gset, am_ci_1, am_ci_6, am_toList_some, am_toList_none, true_implies, false_implies, and_self, and_true, true_and, not_true_eq_false, not_false_eq_true, imp_self, implies_true, Classical.not_not, if_true, if_false, false_and, and_false, or_false, false_or, true_or, or_true, Nat.reduceAdd, Nat.reduceMul, Nat.reduceSub, Nat.reduceLT, Nat.reduceLeDiff, Nat.reduceEqDiff, Nat.reduceBneDiff, Nat.add_zero, Nat.zero_add, reduceCtorEq, wil0, wal0, wis0, wic0, wil1, wal1, wis1, wic1, wil2, wll2, wal2, wis2, was2, wls2, wic2, wil3, wis3, wic3, wic3m, wic3s, wil4, wis4, wic4, wil5, wis5, wic5, wic5m, wil6, wll6, wal6, wis6, was6, wls6, wic6, wil7, wal7, wis7, was7, wic7, wil8, wis8, wic8, wil9, wis9, wic9, wil10, wis10, wic10, am_nI_inj, am_nI_lt, am_nI_le, nI_add, pk_mul, am_nI_sub, am_add_m1, am_gfs, am_pfs, am_alds, am_asts, am_lens, bk68_73, bk68_77, bk68_78, bk68_101, bk68_107, am_B68_6, am_B68_73, am_B68_77, am_B68_78, am_B68_101, am_B68_107, bn68_6, c1, c2, c3, c4, c6, c7, hni, hq1, C_X5_at, C_X5_personIs, m1, e2, q5]
          exact hfin _ (hst (Or.inl h5)) _
        · have q5 : (T 1 i = 5) = False := eq_false h5
          by_cases h6 : T 1 i = 6
          · have q6 : (T 1 i = 6) = True := eq_true h6
            simp (config := { maxSteps := 1000000 }) (disch := first | exact am_nl_i | exact am_nl_r | exact am_nl_n | exact am_l0 | exact am_l1 | exact am_l2 | exact am_l3 | assumption | omega) only [wp_ldc, wp_sipush, wp_ldc_w, wp_lconst, wp_iadd, wp_isub, wp_imul, wp_iand, wp_ior, wp_ixor, wp_ishl, wp_ishr, wp_iushr, wp_idiv, wp_irem, wp_ineg, wp_i2b, wp_i2s, wp_i2c, wp_i2l, wp_ladd, wp_lmul, wp_lcmp, wp_dup_i, wp_dup_r, wp_dup2, wp_pop, wp_getfield, wp_putfield, wp_getstatic, wp_iaload, wp_baload, wp_aaload, wp_iastore, wp_arraylength, wp_goto, wp_fall, wp_ieq, wp_ine, wp_ilt, wp_ige, wp_igt, wp_ile, wp_ceq, wp_cne, wp_clt, wp_cge, wp_cgt, wp_cle, wp_sw, wp_ret0, wp_ret1z, wp_ret1o, wp_ret1, wp_ret2, wp_ret3, wp_ret4, wp_ret5, wp_return, wp_min, wp_max, wp_abs, am_ex, gset_eq, gset_ne, upd_eq, upd_ne, gset_gset, am_ci_1, am_ci_6, am_toList_some, am_toList_none, true_implies, false_implies, and_self, and_true, true_and, not_true_eq_false, not_false_eq_true, imp_self, implies_true, Classical.not_not, if_true, if_false, false_and, and_false, or_false, false_or, true_or, or_true, Nat.reduceAdd, Nat.reduceMul, Nat.reduceSub, Nat.reduceLT, Nat.reduceLeDiff, Nat.reduceEqDiff, Nat.reduceBneDiff, Nat.add_zero, Nat.zero_add, reduceCtorEq, wil0, wal0, wis0, wic0, wil1, wal1, wis1, wic1, wil2, wll2, wal2, wis2, was2, wls2, wic2, wil3, wis3, wic3, wic3m, wic3s, wil4, wis4, wic4, wil5, wis5, wic5, wic5m, wil6, wll6, wal6, wis6, was6, wls6, wic6, wil7, wal7, wis7, was7, wic7, wil8, wis8, wic8, wil9, wis9, wic9, wil10, wis10, wic10, am_nI_inj, am_nI_lt, am_nI_le, nI_add, pk_mul, am_nI_sub, am_add_m1, am_gfs, am_pfs, am_alds, am_asts, am_lens, bk68_73, bk68_77, bk68_78, bk68_101, bk68_107, am_B68_6, am_B68_73, am_B68_77, am_B68_78, am_B68_101, am_B68_107, bn68_6, c1, c2, c3, c4, c6, c7, hni, hq1, C_X5_at, C_X5_personIs, m1, e2, q5, q6]
            exact hfin _ (hst (Or.inr (Or.inl h6))) _
          · have q6 : (T 1 i = 6) = False := eq_false h6
            simp (config := { maxSteps := 1000000 }) (disch := first | exact am_nl_i | exact am_nl_r | exact am_nl_n | exact am_l0 | exact am_l1 | exact am_l2 | exact am_l3 | assumption | omega) only [wp_ldc, wp_sipush, wp_ldc_w, wp_lconst, wp_iadd, wp_isub, wp_imul, wp_iand, wp_ior, wp_ixor, wp_ishl, wp_ishr, wp_iushr, wp_idiv, wp_irem, wp_ineg, wp_i2b, wp_i2s, wp_i2c, wp_i2l, wp_ladd, wp_lmul, wp_lcmp, wp_dup_i, wp_dup_r, wp_dup2, wp_pop, wp_getfield, wp_putfield, wp_getstatic, wp_iaload, wp_baload, wp_aaload, wp_iastore, wp_arraylength, wp_goto, wp_fall, wp_ieq, wp_ine, wp_ilt, wp_ige, wp_igt, wp_ile, wp_ceq, wp_cne, wp_clt, wp_cge, wp_cgt, wp_cle, wp_sw, wp_ret0, wp_ret1z, wp_ret1o, wp_ret1, wp_ret2, wp_ret3, wp_ret4, wp_ret5, wp_return, wp_min, wp_max, wp_abs, am_ex, gset_eq, gset_ne, upd_eq, upd_ne, gset_gset, am_ci_1, am_ci_6, am_toList_some, am_toList_none, true_implies, false_implies, and_self, and_true, true_and, not_true_eq_false, not_false_eq_true, imp_self, implies_true, Classical.not_not, if_true, if_false, false_and, and_false, or_false, false_or, true_or, or_true, Nat.reduceAdd, Nat.reduceMul, Nat.reduceSub, Nat.reduceLT, Nat.reduceLeDiff, Nat.reduceEqDiff, Nat.reduceBneDiff, Nat.add_zero, Nat.zero_add, reduceCtorEq, wil0, wal0, wis0, wic0, wil1, wal1, wis1, wic1, wil2, wll2, wal2, wis2, was2, wls2, wic2, wil3, wis3, wic3, wic3m, wic3s, wil4, wis4, wic4, wil5, wis5, wic5, wic5m, wil6, wll6, wal6, wis6, was6, wls6, wic6, wil7, wal7, wis7, was7, wic7, wil8, wis8, wic8, wil9, wis9, wic9, wil10, wis10, wic10, am_nI_inj, am_nI_lt, am_nI_le, nI_add, pk_mul, am_nI_sub, am_add_m1, am_gfs, am_pfs, am_alds, am_asts, am_lens, bk68_73, bk68_77, bk68_78, bk68_101, bk68_107, am_B68_6, am_B68_73, am_B68_77, am_B68_78, am_B68_101, am_B68_107, bn68_6, c1, c2, c3, c4, c6, c7, hni, hq1, C_X5_at, C_X5_personIs, m1, e2, q5, q6]
            refine hfin _ (fun _ => ?_) _
            rw [if_neg (by omega), eP_lt (by have := hch8 i hin hia; omega)]
  have hD := fun (k : Nat) (r : List Instr) (lv : LV) (st : List Value) (Q : Option Value → GG → Prop) (hl : st.length ≤ 4) => WP_ev (k := k) (st := .ref 58 :: st) (rest := st) (r := r) (lv := lv) (Q := Q) hev (by decide) (c := 1) rfl rfl hl rfl
  simp (config := { maxSteps := 1000000 }) (disch := first | exact am_nl_i | exact am_nl_r | exact am_nl_n | exact am_l0 | exact am_l1 | exact am_l2 | exact am_l3 | assumption | omega) only [wp_ldc, wp_sipush, wp_ldc_w, wp_lconst, wp_iadd, wp_isub, wp_imul, wp_iand, wp_ior, wp_ixor, wp_ishl, wp_ishr, wp_iushr, wp_idiv, wp_irem, wp_ineg, wp_i2b, wp_i2s, wp_i2c, wp_i2l, wp_ladd, wp_lmul, wp_lcmp, wp_dup_i, wp_dup_r, wp_dup2, wp_pop, wp_getfield, wp_putfield, wp_getstatic, wp_iaload, wp_baload, wp_aaload, wp_iastore, wp_arraylength, wp_goto, wp_fall, wp_ieq, wp_ine, wp_ilt, wp_ige, wp_igt, wp_ile, wp_ceq, wp_cne, wp_clt, wp_cge, wp_cgt, wp_cle, wp_sw, wp_ret0, wp_ret1z, wp_ret1o, wp_ret1, wp_ret2, wp_ret3, wp_ret4, wp_ret5, wp_return, wp_min, wp_max, wp_abs, am_ex, gset_eq, gset_ne, upd_eq, upd_ne, gset_gset, am_ci_1, am_ci_6, am_toList_some, am_toList_none, true_implies, false_implies, and_self, and_true, true_and, not_true_eq_false, not_false_eq_true, imp_self, implies_true, Classical.not_not, if_true, if_false, false_and, and_false, or_false, false_or, true_or, or_true, Nat.reduceAdd, Nat.reduceMul, Nat.reduceSub, Nat.reduceLT, Nat.reduceLeDiff, Nat.reduceEqDiff, Nat.reduceBneDiff, Nat.add_zero, Nat.zero_add, reduceCtorEq, wil0, wal0, wis0, wic0, wil1, wal1, wis1, wic1, wil2, wll2, wal2, wis2, was2, wls2, wic2, wil3, wis3, wic3, wic3m, wic3s, wil4, wis4, wic4, wil5, wis5, wic5, wic5m, wil6, wll6, wal6, wis6, was6, wls6, wic6, wil7, wal7, wis7, was7, wic7, wil8, wis8, wic8, wil9, wis9, wic9, wil10, wis10, wic10, am_nI_inj, am_nI_lt, am_nI_le, nI_add, pk_mul, am_nI_sub, am_add_m1, am_gfs, am_pfs, am_alds, am_asts, am_lens, bk68_0, am_B68_0, bn68_6, hD]
  exact key n 0 (by omega) _ _ (by rw [stI_0]; exact hM) (fun _ _ => rfl)
theorem X5_goesOn {X : AmX} {G : GG} {n a : Nat} {T : TT} {t z : Int32} (k : Nat) (hk : k < 2 ^ 30) (h : MR G n T t z a) : ∃ G1, Ev X 67 [.ref 58, .int (nI k)] G none G1 ∧ MR G1 n (runN n k T) (t + nI k) z a ∧ ∀ o, ¬ o = 59 → ¬ o = 63 → ¬ o = 64 → G1 o = G o := by
  suffices hh : WPm X 67 [.ref 58, .int (nI k)] G (fun v G1 => v = none ∧ MR G1 n (runN n k T) (t + nI k) z a ∧ ∀ o, ¬ o = 59 → ¬ o = 63 → ¬ o = 64 → G1 o = G o) by
    obtain ⟨v, G1, h1, rfl, h2⟩ := WPm_ev hh
    exact ⟨G1, h1, h2⟩
  show WP X 67 (am_blk 67 0) [some (.ref 58), some (.int (nI k)), none] [] G _
  have key : ∀ d i : Nat, i + d = k → ∀ G' : GG, MR G' n (runN n i T) (t + nI i) z a → (∀ o, ¬ o = 59 → ¬ o = 63 → ¬ o = 64 → G' o = G o) → WP X 67 (am_blk 67 2) [some (.ref 58), some (.int (nI k)), some (.int (nI i))] [] G' (fun v G1 => v = none ∧ MR G1 n (runN n k T) (t + nI k) z a ∧ ∀ o, ¬ o = 59 → ¬ o = 63 → ¬ o = 64 → G1 o = G o) := by
    intro d
    induction d with
    | zero =>
      intro i hi G' hm hf
      obtain rfl : i = k := by omega
      rw [bh67_2]
      simp (config := { maxSteps := 1000000 }) (disch := first | exact am_nl_i | exact am_nl_r | exact am_nl_n | exact am_l0 | exact am_l1 | exact am_l2 | exact am_l3 | assumption | omega) only [wp_ldc, wp_sipush, wp_ldc_w, wp_lconst, wp_iadd, wp_isub, wp_imul, wp_iand, wp_ior, wp_ixor, wp_ishl, wp_ishr, wp_iushr, wp_idiv, wp_irem, wp_ineg, wp_i2b, wp_i2s, wp_i2c, wp_i2l, wp_ladd, wp_lmul, wp_lcmp, wp_dup_i, wp_dup_r, wp_dup2, wp_pop, wp_getfield, wp_putfield, wp_getstatic, wp_iaload, wp_baload, wp_aaload, wp_iastore, wp_arraylength, wp_goto, wp_fall, wp_ieq, wp_ine, wp_ilt, wp_ige, wp_igt, wp_ile, wp_ceq, wp_cne, wp_clt, wp_cge, wp_cgt, wp_cle, wp_sw, wp_ret0, wp_ret1z, wp_ret1o, wp_ret1, wp_ret2, wp_ret3, wp_ret4, wp_ret5, wp_return, wp_min, wp_max, wp_abs, am_ex, gset_eq, gset_ne, upd_eq, upd_ne, gset_gset, am_ci_1, am_ci_6, am_toList_some, am_toList_none, true_implies, false_implies, and_self, and_true, true_and, not_true_eq_false, not_false_eq_true, imp_self, implies_true, Classical.not_not, if_true, if_false, false_and, and_false, or_false, false_or, true_or, or_true, Nat.reduceAdd, Nat.reduceMul, Nat.reduceSub, Nat.reduceLT, Nat.reduceLeDiff, Nat.reduceEqDiff, Nat.reduceBneDiff, Nat.add_zero, Nat.zero_add, reduceCtorEq, wil0, wal0, wis0, wic0, wil1, wal1, wis1, wic1, wil2, wll2, wal2, wis2, was2, wls2, wic2, wil3, wis3, wic3, wic3m, wic3s, wil4, wis4, wic4, wil5, wis5, wic5, wic5m, wil6, wll6, wal6, wis6, was6, wls6, wic6, wil7, wal7, wis7, was7, wic7, wil8, wis8, wic8, wil9, wis9, wic9, wil10, wis10, wic10, am_nI_inj, am_nI_lt, am_nI_le, nI_add, pk_mul, am_nI_sub, am_add_m1, am_gfs, am_pfs, am_alds, am_asts, am_lens, bk67_17, am_B67_2, am_B67_17, Nat.le_refl]
      first | exact ⟨rfl, hm, hf⟩ | exact ⟨hm, hf⟩
    | succ d ih =>
      intro i hi G' hm hf
      have hni : (k ≤ i) = False := eq_false (by omega)
      have hi30 : i < 2 ^ 30 := by omega
      obtain ⟨G2, hev, hm2, hf2⟩ := X5_goes (X := X) hm
      have hD := fun (k : Nat) (r : List Instr) (lv : LV) (st : List Value) (Q : Option Value → GG → Prop) (hl : st.length ≤ 4) => WP_ev (k := k) (st := .ref 58 :: st) (rest := st) (r := r) (lv := lv) (Q := Q) hev (by decide) (c := 1) rfl rfl hl rfl
      rw [← runN_s, Int32.add_assoc, nI_add] at hm2
      rw [bh67_2]
      simp (config := { maxSteps := 1000000 }) (disch := first | exact am_nl_i | exact am_nl_r | exact am_nl_n | exact am_l0 | exact am_l1 | exact am_l2 | exact am_l3 | assumption | omega) only [wp_ldc, wp_sipush, wp_ldc_w, wp_lconst, wp_iadd, wp_isub, wp_imul, wp_iand, wp_ior, wp_ixor, wp_ishl, wp_ishr, wp_iushr, wp_idiv, wp_irem, wp_ineg, wp_i2b, wp_i2s, wp_i2c, wp_i2l, wp_ladd, wp_lmul, wp_lcmp, wp_dup_i, wp_dup_r, wp_dup2, wp_pop, wp_getfield, wp_putfield, wp_getstatic, wp_iaload, wp_baload, wp_aaload, wp_iastore, wp_arraylength, wp_goto, wp_fall, wp_ieq, wp_ine, wp_ilt, wp_ige, wp_igt, wp_ile, wp_ceq, wp_cne, wp_clt, wp_cge, wp_cgt, wp_cle, wp_sw, wp_ret0, wp_ret1z, wp_ret1o, wp_ret1, wp_ret2, wp_ret3, wp_ret4, wp_ret5, wp_return, wp_min, wp_max, wp_abs, am_ex, gset_eq, gset_ne, upd_eq, upd_ne, gset_gset, am_ci_1, am_ci_6, am_toList_some, am_toList_none, true_implies, false_implies, and_self, and_true, true_and, not_true_eq_false, not_false_eq_true, imp_self, implies_true, Classical.not_not, if_true, if_false, false_and, and_false, or_false, false_or, true_or, or_true, Nat.reduceAdd, Nat.reduceMul, Nat.reduceSub, Nat.reduceLT, Nat.reduceLeDiff, Nat.reduceEqDiff, Nat.reduceBneDiff, Nat.add_zero, Nat.zero_add, reduceCtorEq, wil0, wal0, wis0, wic0, wil1, wal1, wis1, wic1, wil2, wll2, wal2, wis2, was2, wls2, wic2, wil3, wis3, wic3, wic3m, wic3s, wil4, wis4, wic4, wil5, wis5, wic5, wic5m, wil6, wll6, wal6, wis6, was6, wls6, wic6, wil7, wal7, wis7, was7, wic7, wil8, wis8, wic8, wil9, wis9, wic9, wil10, wis10, wic10, am_nI_inj, am_nI_lt, am_nI_le, nI_add, pk_mul, am_nI_sub, am_add_m1, am_gfs, am_pfs, am_alds, am_asts, am_lens, bk67_17, am_B67_2, am_B67_17, bn67_2, hni, hD]
      exact ih (i + 1) (by omega) G2 hm2 (fun o h1 h2 h3 => (hf2 o h1 h2 h3).trans (hf o h1 h2 h3))
  have k0 := key k 0 (by omega) G (by
    have e : t + nI 0 = t := Int32.add_zero t
    rw [e]
    exact h) (fun _ _ _ _ => rfl)
  simp (config := { maxSteps := 1000000 }) (disch := first | exact am_nl_i | exact am_nl_r | exact am_nl_n | exact am_l0 | exact am_l1 | exact am_l2 | exact am_l3 | assumption | omega) only [wp_ldc, wp_sipush, wp_ldc_w, wp_lconst, wp_iadd, wp_isub, wp_imul, wp_iand, wp_ior, wp_ixor, wp_ishl, wp_ishr, wp_iushr, wp_idiv, wp_irem, wp_ineg, wp_i2b, wp_i2s, wp_i2c, wp_i2l, wp_ladd, wp_lmul, wp_lcmp, wp_dup_i, wp_dup_r, wp_dup2, wp_pop, wp_getfield, wp_putfield, wp_getstatic, wp_iaload, wp_baload, wp_aaload, wp_iastore, wp_arraylength, wp_goto, wp_fall, wp_ieq, wp_ine, wp_ilt, wp_ige, wp_igt, wp_ile, wp_ceq, wp_cne, wp_clt, wp_cge, wp_cgt, wp_cle, wp_sw, wp_ret0, wp_ret1z, wp_ret1o, wp_ret1, wp_ret2, wp_ret3, wp_ret4, wp_ret5, wp_return, wp_min, wp_max, wp_abs, am_ex, gset_eq, gset_ne, upd_eq, upd_ne, gset_gset, am_ci_1, am_ci_6, am_toList_some, am_toList_none, true_implies, false_implies, and_self, and_true, true_and, not_true_eq_false, not_false_eq_true, imp_self, implies_true, Classical.not_not, if_true, if_false, false_and, and_false, or_false, false_or, true_or, or_true, Nat.reduceAdd, Nat.reduceMul, Nat.reduceSub, Nat.reduceLT, Nat.reduceLeDiff, Nat.reduceEqDiff, Nat.reduceBneDiff, Nat.add_zero, Nat.zero_add, reduceCtorEq, wil0, wal0, wis0, wic0, wil1, wal1, wis1, wic1, wil2, wll2, wal2, wis2, was2, wls2, wic2, wil3, wis3, wic3, wic3m, wic3s, wil4, wis4, wic4, wil5, wis5, wic5, wic5m, wil6, wll6, wal6, wis6, was6, wls6, wic6, wil7, wal7, wis7, was7, wic7, wil8, wis8, wic8, wil9, wis9, wic9, wil10, wis10, wic10, am_nI_inj, am_nI_lt, am_nI_le, nI_add, pk_mul, am_nI_sub, am_add_m1, am_gfs, am_pfs, am_alds, am_asts, am_lens, bk67_0, am_B67_0, bn67_2]
  exact k0
theorem E_X5_goodsAll {X : AmX} {G : GG} (n : Nat) (T : TT) (t z : Int32) (hE : ME G 59 n T t z) (hV : TV n T) : Ev X 69 [.ref 58] G (some (.int (nI (sumN (T 5) n)))) (G) := by
  refine Ev_of ?_
  show WP X 69 (am_blk 69 0) [some (.ref 58), none, none] [] G _
  have v1 := hV.1
  obtain ⟨a0, a1, a2, a3, a4, a5, a6, a7, a8, a9⟩ := id hE
  have key : ∀ d i : Nat, i + d = n → WP X 69 (am_blk 69 4) [some (.ref 58), some (.int (nI (sumN (T 5) i))), some (.int (nI i))] [] G (fun v H => v = some (.int (nI (sumN (T 5) n))) ∧ H = G) := by
    intro d
    induction d with
    | zero =>
      intro i hi
      obtain rfl : i = n := by omega
      rw [bh69_4]
      simp (config := { maxSteps := 1000000 }) (disch := first | exact am_nl_i | exact am_nl_r | exact am_nl_n | exact am_l0 | exact am_l1 | exact am_l2 | exact am_l3 | assumption | omega) only [wp_ldc, wp_sipush, wp_ldc_w, wp_lconst, wp_iadd, wp_isub, wp_imul, wp_iand, wp_ior, wp_ixor, wp_ishl, wp_ishr, wp_iushr, wp_idiv, wp_irem, wp_ineg, wp_i2b, wp_i2s, wp_i2c, wp_i2l, wp_ladd, wp_lmul, wp_lcmp, wp_dup_i, wp_dup_r, wp_dup2, wp_pop, wp_getfield, wp_putfield, wp_getstatic, wp_iaload, wp_baload, wp_aaload, wp_iastore, wp_arraylength, wp_goto, wp_fall, wp_ieq, wp_ine, wp_ilt, wp_ige, wp_igt, wp_ile, wp_ceq, wp_cne, wp_clt, wp_cge, wp_cgt, wp_cle, wp_sw, wp_ret0, wp_ret1z, wp_ret1o, wp_ret1, wp_ret2, wp_ret3, wp_ret4, wp_ret5, wp_return, wp_min, wp_max, wp_abs, am_ex, gset_eq, gset_ne, upd_eq, upd_ne, gset_gset, am_ci_1, am_ci_6, am_toList_some, am_toList_none, true_implies, false_implies, and_self, and_true, true_and, not_true_eq_false, not_false_eq_true, imp_self, implies_true, Classical.not_not, if_true, if_false, false_and, and_false, or_false, false_or, true_or, or_true, Nat.reduceAdd, Nat.reduceMul, Nat.reduceSub, Nat.reduceLT, Nat.reduceLeDiff, Nat.reduceEqDiff, Nat.reduceBneDiff, Nat.add_zero, Nat.zero_add, reduceCtorEq, wil0, wal0, wis0, wic0, wil1, wal1, wis1, wic1, wil2, wll2, wal2, wis2, was2, wls2, wic2, wil3, wis3, wic3, wic3m, wic3s, wil4, wis4, wic4, wil5, wis5, wic5, wic5m, wil6, wll6, wal6, wis6, was6, wls6, wic6, wil7, wal7, wis7, was7, wic7, wil8, wis8, wic8, wil9, wis9, wic9, wil10, wis10, wic10, am_nI_inj, am_nI_lt, am_nI_le, nI_add, pk_mul, am_nI_sub, am_add_m1, am_gfs, am_pfs, am_alds, am_asts, am_lens, bk69_29, am_B69_4, am_B69_29, a1, Nat.le_refl]
    | succ d ih =>
      intro i hi
      have hin : i < n := by omega
      have hi8 : i < 8 := by omega
      have hc0 : (n ≤ i) = False := eq_false (by omega)
      have f2 := a9 i hin
      have ih := ih (i + 1) (by omega)
      rw [bh69_4]
      simp (config := { maxSteps := 1000000 }) (disch := first | exact am_nl_i | exact am_nl_r | exact am_nl_n | exact am_l0 | exact am_l1 | exact am_l2 | exact am_l3 | assumption | omega) only [wp_ldc, wp_sipush, wp_ldc_w, wp_lconst, wp_iadd, wp_isub, wp_imul, wp_iand, wp_ior, wp_ixor, wp_ishl, wp_ishr, wp_iushr, wp_idiv, wp_irem, wp_ineg, wp_i2b, wp_i2s, wp_i2c, wp_i2l, wp_ladd, wp_lmul, wp_lcmp, wp_dup_i, wp_dup_r, wp_dup2, wp_pop, wp_getfield, wp_putfield, wp_getstatic, wp_iaload, wp_baload, wp_aaload, wp_iastore, wp_arraylength, wp_goto, wp_fall, wp_ieq, wp_ine, wp_ilt, wp_ige, wp_igt, wp_ile, wp_ceq, wp_cne, wp_clt, wp_cge, wp_cgt, wp_cle, wp_sw, wp_ret0, wp_ret1z, wp_ret1o, wp_ret1, wp_ret2, wp_ret3, wp_ret4, wp_ret5, wp_return, wp_min, wp_max, wp_abs, am_ex, gset_eq, gset_ne, upd_eq, upd_ne, gset_gset, am_ci_1, am_ci_6, am_toList_some, am_toList_none, true_implies, false_implies, and_self, and_true, true_and, not_true_eq_false, not_false_eq_true, imp_self, implies_true, Classical.not_not, if_true, if_false, false_and, and_false, or_false, false_or, true_or, or_true, Nat.reduceAdd, Nat.reduceMul, Nat.reduceSub, Nat.reduceLT, Nat.reduceLeDiff, Nat.reduceEqDiff, Nat.reduceBneDiff, Nat.add_zero, Nat.zero_add, reduceCtorEq, wil0, wal0, wis0, wic0, wil1, wal1, wis1, wic1, wil2, wll2, wal2, wis2, was2, wls2, wic2, wil3, wis3, wic3, wic3m, wic3s, wil4, wis4, wic4, wil5, wis5, wic5, wic5m, wil6, wll6, wal6, wis6, was6, wls6, wic6, wil7, wal7, wis7, was7, wic7, wil8, wis8, wic8, wil9, wis9, wic9, wil10, wis10, wic10, am_nI_inj, am_nI_lt, am_nI_le, nI_add, pk_mul, am_nI_sub, am_add_m1, am_gfs, am_pfs, am_alds, am_asts, am_lens, bk69_29, am_B69_4, am_B69_29, bn69_4, a1, hc0, C_X5_personIs, f2]
      exact ih
  simp (config := { maxSteps := 1000000 }) (disch := first | exact am_nl_i | exact am_nl_r | exact am_nl_n | exact am_l0 | exact am_l1 | exact am_l2 | exact am_l3 | assumption | omega) only [wp_ldc, wp_sipush, wp_ldc_w, wp_lconst, wp_iadd, wp_isub, wp_imul, wp_iand, wp_ior, wp_ixor, wp_ishl, wp_ishr, wp_iushr, wp_idiv, wp_irem, wp_ineg, wp_i2b, wp_i2s, wp_i2c, wp_i2l, wp_ladd, wp_lmul, wp_lcmp, wp_dup_i, wp_dup_r, wp_dup2, wp_pop, wp_getfield, wp_putfield, wp_getstatic, wp_iaload, wp_baload, wp_aaload, wp_iastore, wp_arraylength, wp_goto, wp_fall, wp_ieq, wp_ine, wp_ilt, wp_ige, wp_igt, wp_ile, wp_ceq, wp_cne, wp_clt, wp_cge, wp_cgt, wp_cle, wp_sw, wp_ret0, wp_ret1z, wp_ret1o, wp_ret1, wp_ret2, wp_ret3, wp_ret4, wp_ret5, wp_return, wp_min, wp_max, wp_abs, am_ex, gset_eq, gset_ne, upd_eq, upd_ne, gset_gset, am_ci_1, am_ci_6, am_toList_some, am_toList_none, true_implies, false_implies, and_self, and_true, true_and, not_true_eq_false, not_false_eq_true, imp_self, implies_true, Classical.not_not, if_true, if_false, false_and, and_false, or_false, false_or, true_or, or_true, Nat.reduceAdd, Nat.reduceMul, Nat.reduceSub, Nat.reduceLT, Nat.reduceLeDiff, Nat.reduceEqDiff, Nat.reduceBneDiff, Nat.add_zero, Nat.zero_add, reduceCtorEq, wil0, wal0, wis0, wic0, wil1, wal1, wis1, wic1, wil2, wll2, wal2, wis2, was2, wls2, wic2, wil3, wis3, wic3, wic3m, wic3s, wil4, wis4, wic4, wil5, wis5, wic5, wic5m, wil6, wll6, wal6, wis6, was6, wls6, wic6, wil7, wal7, wis7, was7, wic7, wil8, wis8, wic8, wil9, wis9, wic9, wil10, wis10, wic10, am_nI_inj, am_nI_lt, am_nI_le, nI_add, pk_mul, am_nI_sub, am_add_m1, am_gfs, am_pfs, am_alds, am_asts, am_lens, bk69_0, am_B69_0, bn69_4]
  exact key n 0 (by omega)
theorem C_X5_goodsAll {X : AmX} {G : GG} {k : Nat} {r : List Instr} {lv : LV} {st : List Value} {Q : Option Value → GG → Prop} {n : Nat} {T : TT} {t z : Int32} (hE : ME G 59 n T t z) (hV : TV n T) (hl : st.length ≤ 4) : WP X k (.invokeinterface 69 1 :: r) lv ((.ref 58) :: st) G Q ↔ WP X k r lv ((.int (nI (sumN (T 5) n))) :: st) (G) Q := WP_ev (E_X5_goodsAll n T t z hE hV) (by decide) rfl rfl hl (rfl)
/-- a row copied -/
def cpr (k : Nat) (f g : Nat → Int32) : Nat → Int32 := fun j => if j < k then f j else g j
theorem cpr_0 (f g : Nat → Int32) : cpr 0 f g = g := by funext j; exact if_neg (Nat.not_lt_zero j)
theorem cpr_s (f g : Nat → Int32) (k : Nat) : upd (cpr k f g) k (f k) = cpr (k + 1) f g := by
  funext j
  unfold upd cpr
  by_cases h : j = k
  · subst h; simp
  · by_cases h2 : j < k
    · simp [h, h2, show j < k + 1 by omega]
    · simp [h, h2, show ¬ j < k + 1 by omega]
theorem cpr_lt {k j : Nat} {f g : Nat → Int32} (h : j < k) : cpr k f g j = f j := if_pos h
theorem E_X5_copyRow {X : AmX} {G : GG} (a b : Nat) (ha : a = 59 ∨ a = 60 ∨ a = 61) (hb : b = 59 ∨ b = 60 ∨ b = 61) (hab : ¬ a = b) : Ev X 85 [.ref a, .ref b] G (none) (gset G b (cpr 61 (G a) (G b))) := by
  refine Ev_of ?_
  show WP X 85 (am_blk 85 0) [some (.ref a), some (.ref b), none] [] G _
  have ha5 : a < 500 := by omega
  have hb5 : b < 500 := by omega
  have s1 : am_sh a = [0, 61] := by rcases ha with rfl | rfl | rfl <;> rfl
  have s2 : am_sh b = [0, 61] := by rcases hb with rfl | rfl | rfl <;> rfl
  have key : ∀ d k : Nat, k + d = 61 → WP X 85 (am_blk 85 2) [some (.ref a), some (.ref b), some (.int (nI k))] [] (gset G b (cpr k (G a) (G b))) (fun v H => v = none ∧ H = gset G b (cpr 61 (G a) (G b))) := by
    intro d
    induction d with
    | zero =>
      intro k hk
      obtain rfl : k = 61 := by omega
      rw [bh85_2]
      simp (config := { maxSteps := 1000000 }) (disch := first | exact am_nl_i | exact am_nl_r | exact am_nl_n | exact am_l0 | exact am_l1 | exact am_l2 | exact am_l3 | assumption | omega) only [wp_ldc, wp_sipush, wp_ldc_w, wp_lconst, wp_iadd, wp_isub, wp_imul, wp_iand, wp_ior, wp_ixor, wp_ishl, wp_ishr, wp_iushr, wp_idiv, wp_irem, wp_ineg, wp_i2b, wp_i2s, wp_i2c, wp_i2l, wp_ladd, wp_lmul, wp_lcmp, wp_dup_i, wp_dup_r, wp_dup2, wp_pop, wp_getfield, wp_putfield, wp_getstatic, wp_iaload, wp_baload, wp_aaload, wp_iastore, wp_arraylength, wp_goto, wp_fall, wp_ieq, wp_ine, wp_ilt, wp_ige, wp_igt, wp_ile, wp_ceq, wp_cne, wp_clt, wp_cge, wp_cgt, wp_cle, wp_sw, wp_ret0, wp_ret1z, wp_ret1o, wp_ret1, wp_ret2, wp_ret3, wp_ret4, wp_ret5, wp_return, wp_min, wp_max, wp_abs, am_ex, gset_eq, gset_ne, upd_eq, upd_ne, gset_gset, am_ci_1, am_ci_6, am_toList_some, am_toList_none, true_implies, false_implies, and_self, and_true, true_and, not_true_eq_false, not_false_eq_true, imp_self, implies_true, Classical.not_not, if_true, if_false, false_and, and_false, or_false, false_or, true_or, or_true, Nat.reduceAdd, Nat.reduceMul, Nat.reduceSub, Nat.reduceLT, Nat.reduceLeDiff, Nat.reduceEqDiff, Nat.reduceBneDiff, Nat.add_zero, Nat.zero_add, reduceCtorEq, wil0, wal0, wis0, wic0, wil1, wal1, wis1, wic1, wil2, wll2, wal2, wis2, was2, wls2, wic2, wil3, wis3, wic3, wic3m, wic3s, wil4, wis4, wic4, wil5, wis5, wic5, wic5m, wil6, wll6, wal6, wis6, was6, wls6, wic6, wil7, wal7, wis7, was7, wic7, wil8, wis8, wic8, wil9, wis9, wic9, wil10, wis10, wic10, am_nI_inj, am_nI_lt, am_nI_le, nI_add, pk_mul, am_nI_sub, am_add_m1, am_gfs, am_pfs, am_alds, am_asts, am_lens, bk85_20, am_B85_2, am_B85_20, Nat.le_refl]
    | succ d ih =>
      intro k hk
      have hk6 : k < 61 := by omega
      have hc : (61 ≤ k) = False := eq_false (by omega)
      have ih := ih (k + 1) (by omega)
      have r1 : ∀ G' : GG, am_ald X G' a (nI k) = some (G' a k) := fun G' => am_ald_of s1 (by decide) hk6
      have r2 : ∀ (G' : GG) (x : Int32), am_ast G' b (nI k) x = some (gset G' b (upd (G' b) k x)) := fun G' x => am_ast_of s2 (by decide) hk6
      rw [← cpr_s] at ih
      rw [bh85_2]
      simp (config := { maxSteps := 1000000 }) (disch := first | exact am_nl_i | exact am_nl_r | exact am_nl_n | exact am_l0 | exact am_l1 | exact am_l2 | exact am_l3 | assumption | omega) only [wp_ldc, wp_sipush, wp_ldc_w, wp_lconst, wp_iadd, wp_isub, wp_imul, wp_iand, wp_ior, wp_ixor, wp_ishl, wp_ishr, wp_iushr, wp_idiv, wp_irem, wp_ineg, wp_i2b, wp_i2s, wp_i2c, wp_i2l, wp_ladd, wp_lmul, wp_lcmp, wp_dup_i, wp_dup_r, wp_dup2, wp_pop, wp_getfield, wp_putfield, wp_getstatic, wp_iaload, wp_baload, wp_aaload, wp_iastore, wp_arraylength, wp_goto, wp_fall, wp_ieq, wp_ine, wp_ilt, wp_ige, wp_igt, wp_ile, wp_ceq, wp_cne, wp_clt, wp_cge, wp_cgt, wp_cle, wp_sw, wp_ret0, wp_ret1z, wp_ret1o, wp_ret1, wp_ret2, wp_ret3, wp_ret4, wp_ret5, wp_return, wp_min, wp_max, wp_abs, am_ex, gset_eq, gset_ne, upd_eq, upd_ne, gset_gset, am_ci_1, am_ci_6, am_toList_some, am_toList_none, true_implies, false_implies, and_self, and_true, true_and, not_true_eq_false, not_false_eq_true, imp_self, implies_true, Classical.not_not, if_true, if_false, false_and, and_false, or_false, false_or, true_or, or_true, Nat.reduceAdd, Nat.reduceMul, Nat.reduceSub, Nat.reduceLT, Nat.reduceLeDiff, Nat.reduceEqDiff, Nat.reduceBneDiff, Nat.add_zero, Nat.zero_add, reduceCtorEq, wil0, wal0, wis0, wic0, wil1, wal1, wis1, wic1, wil2, wll2, wal2, wis2, was2, wls2, wic2, wil3, wis3, wic3, wic3m, wic3s, wil4, wis4, wic4, wil5, wis5, wic5, wic5m, wil6, wll6, wal6, wis6, was6, wls6, wic6, wil7, wal7, wis7, was7, wic7, wil8, wis8, wic8, wil9, wis9, wic9, wil10, wis10, wic10, am_nI_inj, am_nI_lt, am_nI_le, nI_add, pk_mul, am_nI_sub, am_add_m1, am_gfs, am_pfs, am_alds, am_asts, am_lens, bk85_20, am_B85_2, am_B85_20, bn85_2, hc, r1, r2]
      exact ih
  have k0 := key 61 0 (by omega)
  rw [cpr_0] at k0
  have e0 : gset G b (G b) = G := by funext j; unfold gset; by_cases h : j = b <;> simp [h]
  rw [e0] at k0
  simp (config := { maxSteps := 1000000 }) (disch := first | exact am_nl_i | exact am_nl_r | exact am_nl_n | exact am_l0 | exact am_l1 | exact am_l2 | exact am_l3 | assumption | omega) only [wp_ldc, wp_sipush, wp_ldc_w, wp_lconst, wp_iadd, wp_isub, wp_imul, wp_iand, wp_ior, wp_ixor, wp_ishl, wp_ishr, wp_iushr, wp_idiv, wp_irem, wp_ineg, wp_i2b, wp_i2s, wp_i2c, wp_i2l, wp_ladd, wp_lmul, wp_lcmp, wp_dup_i, wp_dup_r, wp_dup2, wp_pop, wp_getfield, wp_putfield, wp_getstatic, wp_iaload, wp_baload, wp_aaload, wp_iastore, wp_arraylength, wp_goto, wp_fall, wp_ieq, wp_ine, wp_ilt, wp_ige, wp_igt, wp_ile, wp_ceq, wp_cne, wp_clt, wp_cge, wp_cgt, wp_cle, wp_sw, wp_ret0, wp_ret1z, wp_ret1o, wp_ret1, wp_ret2, wp_ret3, wp_ret4, wp_ret5, wp_return, wp_min, wp_max, wp_abs, am_ex, gset_eq, gset_ne, upd_eq, upd_ne, gset_gset, am_ci_1, am_ci_6, am_toList_some, am_toList_none, true_implies, false_implies, and_self, and_true, true_and, not_true_eq_false, not_false_eq_true, imp_self, implies_true, Classical.not_not, if_true, if_false, false_and, and_false, or_false, false_or, true_or, or_true, Nat.reduceAdd, Nat.reduceMul, Nat.reduceSub, Nat.reduceLT, Nat.reduceLeDiff, Nat.reduceEqDiff, Nat.reduceBneDiff, Nat.add_zero, Nat.zero_add, reduceCtorEq, wil0, wal0, wis0, wic0, wil1, wal1, wis1, wic1, wil2, wll2, wal2, wis2, was2, wls2, wic2, wil3, wis3, wic3, wic3m, wic3s, wil4, wis4, wic4, wil5, wis5, wic5, wic5m, wil6, wll6, wal6, wis6, was6, wls6, wic6, wil7, wal7, wis7, was7, wic7, wil8, wis8, wic8, wil9, wis9, wic9, wil10, wis10, wic10, am_nI_inj, am_nI_lt, am_nI_le, nI_add, pk_mul, am_nI_sub, am_add_m1, am_gfs, am_pfs, am_alds, am_asts, am_lens, bk85_0, am_B85_0, bn85_2]
  exact k0
theorem C_X5_copyRow {X : AmX} {G : GG} {k : Nat} {r : List Instr} {lv : LV} {st : List Value} {Q : Option Value → GG → Prop} {a b : Nat} (ha : a = 59 ∨ a = 60 ∨ a = 61) (hb : b = 59 ∨ b = 60 ∨ b = 61) (hab : ¬ a = b) (hl : st.length ≤ 4) : WP X k (.invokeinterface 85 2 :: r) lv ((.ref b) :: (.ref a) :: st) G Q ↔ WP X k r lv (st) (gset G b (cpr 61 (G a) (G b))) Q := WP_ev (E_X5_copyRow a b ha hb hab) (by decide) rfl rfl hl (rfl)
theorem cA1 : (59 : Nat) = 59 ∨ (59 : Nat) = 60 ∨ (59 : Nat) = 61 := Or.inl rfl
theorem cA2 : (60 : Nat) = 59 ∨ (60 : Nat) = 60 ∨ (60 : Nat) = 61 := Or.inr (Or.inl rfl)
theorem cA3 : (61 : Nat) = 59 ∨ (61 : Nat) = 60 ∨ (61 : Nat) = 61 := Or.inr (Or.inr rfl)
theorem E_X5_putBack {X : AmX} {G : GG} (v : Int32)  : Ev X 86 [.ref 58, .int v] G (some (.int v)) (gset G 59 (cpr 61 (G 61) (G 59))) := by
  refine Ev_of ?_
  show WP X 86 (am_blk 86 0) [some (.ref 58), some (.int v)] [] G _
  have hC := fun (k : Nat) (r : List Instr) (lv : LV) (st : List Value) (Q : Option Value → GG → Prop) (hl : st.length ≤ 4) => C_X5_copyRow (X := X) (k := k) (st := st) (r := r) (lv := lv) (Q := Q) (G := G) (a := 61) (b := 59) cA3 cA1 (by decide) hl
  simp (config := { maxSteps := 1000000 }) (disch := first | exact am_nl_i | exact am_nl_r | exact am_nl_n | exact am_l0 | exact am_l1 | exact am_l2 | exact am_l3 | assumption | omega) only [wp_ldc, wp_sipush, wp_ldc_w, wp_lconst, wp_iadd, wp_isub, wp_imul, wp_iand, wp_ior, wp_ixor, wp_ishl, wp_ishr, wp_iushr, wp_idiv, wp_irem, wp_ineg, wp_i2b, wp_i2s, wp_i2c, wp_i2l, wp_ladd, wp_lmul, wp_lcmp, wp_dup_i, wp_dup_r, wp_dup2, wp_pop, wp_getfield, wp_putfield, wp_getstatic, wp_iaload, wp_baload, wp_aaload, wp_iastore, wp_arraylength, wp_goto, wp_fall, wp_ieq, wp_ine, wp_ilt, wp_ige, wp_igt, wp_ile, wp_ceq, wp_cne, wp_clt, wp_cge, wp_cgt, wp_cle, wp_sw, wp_ret0, wp_ret1z, wp_ret1o, wp_ret1, wp_ret2, wp_ret3, wp_ret4, wp_ret5, wp_return, wp_min, wp_max, wp_abs, am_ex, gset_eq, gset_ne, upd_eq, upd_ne, gset_gset, am_ci_1, am_ci_6, am_toList_some, am_toList_none, true_implies, false_implies, and_self, and_true, true_and, not_true_eq_false, not_false_eq_true, imp_self, implies_true, Classical.not_not, if_true, if_false, false_and, and_false, or_false, false_or, true_or, or_true, Nat.reduceAdd, Nat.reduceMul, Nat.reduceSub, Nat.reduceLT, Nat.reduceLeDiff, Nat.reduceEqDiff, Nat.reduceBneDiff, Nat.add_zero, Nat.zero_add, reduceCtorEq, wil0, wal0, wis0, wic0, wil1, wal1, wis1, wic1, wil2, wll2, wal2, wis2, was2, wls2, wic2, wil3, wis3, wic3, wic3m, wic3s, wil4, wis4, wic4, wil5, wis5, wic5, wic5m, wil6, wll6, wal6, wis6, was6, wls6, wic6, wil7, wal7, wis7, was7, wic7, wil8, wis8, wic8, wil9, wis9, wic9, wil10, wis10, wic10, am_nI_inj, am_nI_lt, am_nI_le, nI_add, pk_mul, am_nI_sub, am_add_m1, am_gfs, am_pfs, am_alds, am_asts, am_lens, bs86, am_B86_0, hC]
theorem C_X5_putBack {X : AmX} {G : GG} {k : Nat} {r : List Instr} {lv : LV} {st : List Value} {Q : Option Value → GG → Prop} {v : Int32}  (hl : st.length ≤ 4) : WP X k (.invokeinterface 86 2 :: r) lv ((.int v) :: (.ref 58) :: st) G Q ↔ WP X k r lv ((.int v) :: st) (gset G 59 (cpr 61 (G 61) (G 59))) Q := WP_ev (E_X5_putBack v) (by decide) rfl rfl hl (rfl)
