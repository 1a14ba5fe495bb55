/-! ===== rules by place: locals, fields, arrays; printed by program ===== -/
section WPS
variable {X : AmX} {k : Nat} {r : List Instr} {l : LV} {st : List Value} {G : GG} {Q : Option Value → GG → Prop}
theorem am_nl_i {x : Int32} : am_nl (some (.int x)) = true := rfl
theorem am_nl_r {x : Nat} : am_nl (some (.ref x)) = true := rfl
theorem am_nl_n : am_nl none = true := rfl
theorem am_l0 : ([] : List Value).length ≤ 4 := Nat.le_of_ble_eq_true rfl
theorem am_l1 {a : Value} : [a].length ≤ 4 := Nat.le_of_ble_eq_true rfl
theorem am_l2 {a b : Value} : [a, b].length ≤ 4 := Nat.le_of_ble_eq_true rfl
theorem am_l3 {a b c : Value} : [a, b, c].length ≤ 4 := Nat.le_of_ble_eq_true rfl
theorem am_ok1_app (p : LV) (a b : Option Value) (l : LV) (h : am_nl a = true) : am_ok1 (p ++ a :: b :: l) (p.length + 1) = true := by
  have e : (p ++ a :: b :: l)[p.length]? = some a := by simp
  have e2 : p.length + 1 < (p ++ a :: b :: l).length := by simp
  simp only [am_ok1, e, e2, decide_true, Bool.true_and, h]
theorem am_ex {α : Type} {a : α} {P : α → Prop} : (∃ x, some a = some x ∧ P x) ↔ P a := by simp
theorem gset_eq {G : GG} {k : Nat} {f : Nat → Int32} : gset G k f k = f := if_pos rfl
theorem gset_ne {G : GG} {k j : Nat} {f : Nat → Int32} (h : ¬ j = k) : gset G k f j = G j := if_neg h
theorem upd_eq {f : Nat → Int32} {k : Nat} {x : Int32} : upd f k x k = x := if_pos rfl
theorem upd_ne {f : Nat → Int32} {k j : Nat} {x : Int32} (h : ¬ j = k) : upd f k x j = f j := if_neg h
theorem gset_gset {G : GG} {k : Nat} {f g : Nat → Int32} : gset (gset G k f) k g = gset G k g := by
  funext j; unfold gset; by_cases h : j = k <;> simp [h]
theorem am_nI_inj {a b : Nat} (ha : a < 2 ^ 31) (hb : b < 2 ^ 31) : (nI a = nI b) = (a = b) := propext (nI_eq ha hb)
theorem am_nI_lt {a b : Nat} (ha : a < 2 ^ 31) (hb : b < 2 ^ 31) : (nI a < nI b) = (a < b) := propext (nI_ltI ha hb)
theorem am_nI_le {a b : Nat} (ha : a < 2 ^ 31) (hb : b < 2 ^ 31) : (nI a ≤ nI b) = (a ≤ b) := propext (nI_leI ha hb)
theorem am_ci_1 : am_ci 1 = nI 1 := rfl
theorem am_ci_6 : am_ci 6 = nI 6 := rfl
theorem am_nI_sub {a b : Nat} (h : b ≤ a) : nI a - nI b = nI (a - b) := pk_sub h
theorem am_add_m1 {a : Nat} (h : 0 < a) : nI a + am_ci (-1) = nI (a - 1) := by
  rw [show a = (a - 1) + 1 by omega, show am_ci (-1) = -1 from rfl, pk_m1]; rfl
theorem am_toList_some {v : Value} {s : List Value} : (some v).toList ++ s = v :: s := rfl
theorem am_toList_none {s : List Value} : (none : Option Value).toList ++ s = s := rfl
theorem wil0 {x : Int32} : WP X k (.iload 0 :: r) (some (.int x) :: l) st G Q ↔ WP X k r (some (.int x) :: l) (.int x :: st) G Q := wp_iload rfl
theorem wal0 {x : Nat} (hx : x < 500) : WP X k (.aload 0 :: r) (some (.ref x) :: l) st G Q ↔ WP X k r (some (.ref x) :: l) (.ref x :: st) G Q := wp_aload rfl hx
theorem wis0 {a0 : Option Value} {x : Int32} : WP X k (.istore 0 :: r) (a0 :: l) (.int x :: st) G Q ↔ WP X k r (some (.int x) :: l) st G Q := wp_istore (by simp [am_ok1]) rfl
theorem wic0 {x : Int32} : WP X k (.iinc 0 (1) :: r) (some (.int x) :: l) st G Q ↔ WP X k r (some (.int (x + am_ci (1))) :: l) st G Q := wp_iinc rfl (by simp [am_ok1]) rfl
theorem wil1 {a0 : Option Value} {x : Int32} : WP X k (.iload 1 :: r) (a0 :: some (.int x) :: l) st G Q ↔ WP X k r (a0 :: some (.int x) :: l) (.int x :: st) G Q := wp_iload rfl
theorem wal1 {a0 : Option Value} {x : Nat} (hx : x < 500) : WP X k (.aload 1 :: r) (a0 :: some (.ref x) :: l) st G Q ↔ WP X k r (a0 :: some (.ref x) :: l) (.ref x :: st) G Q := wp_aload rfl hx
theorem wis1 {a0 a1 : Option Value} {x : Int32} (h : am_nl a0 = true) : WP X k (.istore 1 :: r) (a0 :: a1 :: l) (.int x :: st) G Q ↔ WP X k r (a0 :: some (.int x) :: l) st G Q := wp_istore (am_ok1_app [] a0 a1 l h) rfl
theorem wic1 {a0 : Option Value} {x : Int32} (h : am_nl a0 = true) : WP X k (.iinc 1 (1) :: r) (a0 :: some (.int x) :: l) st G Q ↔ WP X k r (a0 :: some (.int (x + am_ci (1))) :: l) st G Q := wp_iinc rfl (am_ok1_app [] a0 (some (.int x)) l h) rfl
theorem wil2 {a0 a1 : Option Value} {x : Int32} : WP X k (.iload 2 :: r) (a0 :: a1 :: some (.int x) :: l) st G Q ↔ WP X k r (a0 :: a1 :: some (.int x) :: l) (.int x :: st) G Q := wp_iload rfl
theorem wll2 {a0 a1 : Option Value} {x : Int64} : WP X k (.lload 2 :: r) (a0 :: a1 :: some (.long x) :: l) st G Q ↔ WP X k r (a0 :: a1 :: some (.long x) :: l) (.long x :: st) G Q := wp_lload rfl
theorem wal2 {a0 a1 : Option Value} {x : Nat} (hx : x < 500) : WP X k (.aload 2 :: r) (a0 :: a1 :: some (.ref x) :: l) st G Q ↔ WP X k r (a0 :: a1 :: some (.ref x) :: l) (.ref x :: st) G Q := wp_aload rfl hx
theorem wis2 {a0 a1 a2 : Option Value} {x : Int32} (h : am_nl a1 = true) : WP X k (.istore 2 :: r) (a0 :: a1 :: a2 :: l) (.int x :: st) G Q ↔ WP X k r (a0 :: a1 :: some (.int x) :: l) st G Q := wp_istore (am_ok1_app [a0] a1 a2 l h) rfl
theorem was2 {a0 a1 a2 : Option Value} {x : Nat} (h : am_nl a1 = true) (hx : x < 500) : WP X k (.astore 2 :: r) (a0 :: a1 :: a2 :: l) (.ref x :: st) G Q ↔ WP X k r (a0 :: a1 :: some (.ref x) :: l) st G Q := wp_astore (am_ok1_app [a0] a1 a2 l h) hx rfl
theorem wls2 {a0 a1 a2 a3 : Option Value} {x : Int64} (h : am_nl a1 = true) : WP X k (.lstore 2 :: r) (a0 :: a1 :: a2 :: a3 :: l) (.long x :: st) G Q ↔ WP X k r (a0 :: a1 :: some (.long x) :: none :: l) st G Q := wp_lstore (by have e := am_ok1_app [a0] a1 a2 (a3 :: l) h; simp only [am_ok2, Bool.and_eq_true, decide_eq_true_eq]; exact ⟨by simp, e⟩) rfl
theorem wic2 {a0 a1 : Option Value} {x : Int32} (h : am_nl a1 = true) : WP X k (.iinc 2 (1) :: r) (a0 :: a1 :: some (.int x) :: l) st G Q ↔ WP X k r (a0 :: a1 :: some (.int (x + am_ci (1))) :: l) st G Q := wp_iinc rfl (am_ok1_app [a0] a1 (some (.int x)) l h) rfl
theorem wil3 {a0 a1 a2 : Option Value} {x : Int32} : WP X k (.iload 3 :: r) (a0 :: a1 :: a2 :: some (.int x) :: l) st G Q ↔ WP X k r (a0 :: a1 :: a2 :: some (.int x) :: l) (.int x :: st) G Q := wp_iload rfl
theorem wis3 {a0 a1 a2 a3 : Option Value} {x : Int32} (h : am_nl a2 = true) : WP X k (.istore 3 :: r) (a0 :: a1 :: a2 :: a3 :: l) (.int x :: st) G Q ↔ WP X k r (a0 :: a1 :: a2 :: some (.int x) :: l) st G Q := wp_istore (am_ok1_app [a0, a1] a2 a3 l h) rfl
theorem wic3 {a0 a1 a2 : Option Value} {x : Int32} (h : am_nl a2 = true) : WP X k (.iinc 3 (1) :: r) (a0 :: a1 :: a2 :: some (.int x) :: l) st G Q ↔ WP X k r (a0 :: a1 :: a2 :: some (.int (x + am_ci (1))) :: l) st G Q := wp_iinc rfl (am_ok1_app [a0, a1] a2 (some (.int x)) l h) rfl
theorem wic3m {a0 a1 a2 : Option Value} {x : Int32} (h : am_nl a2 = true) : WP X k (.iinc 3 (-1) :: r) (a0 :: a1 :: a2 :: some (.int x) :: l) st G Q ↔ WP X k r (a0 :: a1 :: a2 :: some (.int (x + am_ci (-1))) :: l) st G Q := wp_iinc rfl (am_ok1_app [a0, a1] a2 (some (.int x)) l h) rfl
theorem wic3s {a0 a1 a2 : Option Value} {x : Int32} (h : am_nl a2 = true) : WP X k (.iinc 3 (6) :: r) (a0 :: a1 :: a2 :: some (.int x) :: l) st G Q ↔ WP X k r (a0 :: a1 :: a2 :: some (.int (x + am_ci (6))) :: l) st G Q := wp_iinc rfl (am_ok1_app [a0, a1] a2 (some (.int x)) l h) rfl
theorem wil4 {a0 a1 a2 a3 : Option Value} {x : Int32} : WP X k (.iload 4 :: r) (a0 :: a1 :: a2 :: a3 :: some (.int x) :: l) st G Q ↔ WP X k r (a0 :: a1 :: a2 :: a3 :: some (.int x) :: l) (.int x :: st) G Q := wp_iload rfl
theorem wis4 {a0 a1 a2 a3 a4 : Option Value} {x : Int32} (h : am_nl a3 = true) : WP X k (.istore 4 :: r) (a0 :: a1 :: a2 :: a3 :: a4 :: l) (.int x :: st) G Q ↔ WP X k r (a0 :: a1 :: a2 :: a3 :: some (.int x) :: l) st G Q := wp_istore (am_ok1_app [a0, a1, a2] a3 a4 l h) rfl
theorem wic4 {a0 a1 a2 a3 : Option Value} {x : Int32} (h : am_nl a3 = true) : WP X k (.iinc 4 (1) :: r) (a0 :: a1 :: a2 :: a3 :: some (.int x) :: l) st G Q ↔ WP X k r (a0 :: a1 :: a2 :: a3 :: some (.int (x + am_ci (1))) :: l) st G Q := wp_iinc rfl (am_ok1_app [a0, a1, a2] a3 (some (.int x)) l h) rfl
theorem wil5 {a0 a1 a2 a3 a4 : Option Value} {x : Int32} : WP X k (.iload 5 :: r) (a0 :: a1 :: a2 :: a3 :: a4 :: some (.int x) :: l) st G Q ↔ WP X k r (a0 :: a1 :: a2 :: a3 :: a4 :: some (.int x) :: l) (.int x :: st) G Q := wp_iload rfl
theorem wis5 {a0 a1 a2 a3 a4 a5 : Option Value} {x : Int32} (h : am_nl a4 = true) : WP X k (.istore 5 :: r) (a0 :: a1 :: a2 :: a3 :: a4 :: a5 :: l) (.int x :: st) G Q ↔ WP X k r (a0 :: a1 :: a2 :: a3 :: a4 :: some (.int x) :: l) st G Q := wp_istore (am_ok1_app [a0, a1, a2, a3] a4 a5 l h) rfl
theorem wic5 {a0 a1 a2 a3 a4 : Option Value} {x : Int32} (h : am_nl a4 = true) : WP X k (.iinc 5 (1) :: r) (a0 :: a1 :: a2 :: a3 :: a4 :: some (.int x) :: l) st G Q ↔ WP X k r (a0 :: a1 :: a2 :: a3 :: a4 :: some (.int (x + am_ci (1))) :: l) st G Q := wp_iinc rfl (am_ok1_app [a0, a1, a2, a3] a4 (some (.int x)) l h) rfl
theorem wic5m {a0 a1 a2 a3 a4 : Option Value} {x : Int32} (h : am_nl a4 = true) : WP X k (.iinc 5 (-1) :: r) (a0 :: a1 :: a2 :: a3 :: a4 :: some (.int x) :: l) st G Q ↔ WP X k r (a0 :: a1 :: a2 :: a3 :: a4 :: some (.int (x + am_ci (-1))) :: l) st G Q := wp_iinc rfl (am_ok1_app [a0, a1, a2, a3] a4 (some (.int x)) l h) rfl
theorem wil6 {a0 a1 a2 a3 a4 a5 : Option Value} {x : Int32} : WP X k (.iload 6 :: r) (a0 :: a1 :: a2 :: a3 :: a4 :: a5 :: some (.int x) :: l) st G Q ↔ WP X k r (a0 :: a1 :: a2 :: a3 :: a4 :: a5 :: some (.int x) :: l) (.int x :: st) G Q := wp_iload rfl
theorem wll6 {a0 a1 a2 a3 a4 a5 : Option Value} {x : Int64} : WP X k (.lload 6 :: r) (a0 :: a1 :: a2 :: a3 :: a4 :: a5 :: some (.long x) :: l) st G Q ↔ WP X k r (a0 :: a1 :: a2 :: a3 :: a4 :: a5 :: some (.long x) :: l) (.long x :: st) G Q := wp_lload rfl
theorem wal6 {a0 a1 a2 a3 a4 a5 : Option Value} {x : Nat} (hx : x < 500) : WP X k (.aload 6 :: r) (a0 :: a1 :: a2 :: a3 :: a4 :: a5 :: some (.ref x) :: l) st G Q ↔ WP X k r (a0 :: a1 :: a2 :: a3 :: a4 :: a5 :: some (.ref x) :: l) (.ref x :: st) G Q := wp_aload rfl hx
theorem wis6 {a0 a1 a2 a3 a4 a5 a6 : Option Value} {x : Int32} (h : am_nl a5 = true) : WP X k (.istore 6 :: r) (a0 :: a1 :: a2 :: a3 :: a4 :: a5 :: a6 :: l) (.int x :: st) G Q ↔ WP X k r (a0 :: a1 :: a2 :: a3 :: a4 :: a5 :: some (.int x) :: l) st G Q := wp_istore (am_ok1_app [a0, a1, a2, a3, a4] a5 a6 l h) rfl
theorem was6 {a0 a1 a2 a3 a4 a5 a6 : Option Value} {x : Nat} (h : am_nl a5 = true) (hx : x < 500) : WP X k (.astore 6 :: r) (a0 :: a1 :: a2 :: a3 :: a4 :: a5 :: a6 :: l) (.ref x :: st) G Q ↔ WP X k r (a0 :: a1 :: a2 :: a3 :: a4 :: a5 :: some (.ref x) :: l) st G Q := wp_astore (am_ok1_app [a0, a1, a2, a3, a4] a5 a6 l h) hx rfl
theorem wls6 {a0 a1 a2 a3 a4 a5 a6 a7 : Option Value} {x : Int64} (h : am_nl a5 = true) : WP X k (.lstore 6 :: r) (a0 :: a1 :: a2 :: a3 :: a4 :: a5 :: a6 :: a7 :: l) (.long x :: st) G Q ↔ WP X k r (a0 :: a1 :: a2 :: a3 :: a4 :: a5 :: some (.long x) :: none :: l) st G Q := wp_lstore (by have e := am_ok1_app [a0, a1, a2, a3, a4] a5 a6 (a7 :: l) h; simp only [am_ok2, Bool.and_eq_true, decide_eq_true_eq]; exact ⟨by simp, e⟩) rfl
theorem wic6 {a0 a1 a2 a3 a4 a5 : Option Value} {x : Int32} (h : am_nl a5 = true) : WP X k (.iinc 6 (1) :: r) (a0 :: a1 :: a2 :: a3 :: a4 :: a5 :: some (.int x) :: l) st G Q ↔ WP X k r (a0 :: a1 :: a2 :: a3 :: a4 :: a5 :: some (.int (x + am_ci (1))) :: l) st G Q := wp_iinc rfl (am_ok1_app [a0, a1, a2, a3, a4] a5 (some (.int x)) l h) rfl
theorem wil7 {a0 a1 a2 a3 a4 a5 a6 : Option Value} {x : Int32} : WP X k (.iload 7 :: r) (a0 :: a1 :: a2 :: a3 :: a4 :: a5 :: a6 :: some (.int x) :: l) st G Q ↔ WP X k r (a0 :: a1 :: a2 :: a3 :: a4 :: a5 :: a6 :: some (.int x) :: l) (.int x :: st) G Q := wp_iload rfl
theorem wal7 {a0 a1 a2 a3 a4 a5 a6 : Option Value} {x : Nat} (hx : x < 500) : WP X k (.aload 7 :: r) (a0 :: a1 :: a2 :: a3 :: a4 :: a5 :: a6 :: some (.ref x) :: l) st G Q ↔ WP X k r (a0 :: a1 :: a2 :: a3 :: a4 :: a5 :: a6 :: some (.ref x) :: l) (.ref x :: st) G Q := wp_aload rfl hx
theorem wis7 {a0 a1 a2 a3 a4 a5 a6 a7 : Option Value} {x : Int32} (h : am_nl a6 = true) : WP X k (.istore 7 :: r) (a0 :: a1 :: a2 :: a3 :: a4 :: a5 :: a6 :: a7 :: l) (.int x :: st) G Q ↔ WP X k r (a0 :: a1 :: a2 :: a3 :: a4 :: a5 :: a6 :: some (.int x) :: l) st G Q := wp_istore (am_ok1_app [a0, a1, a2, a3, a4, a5] a6 a7 l h) rfl
theorem was7 {a0 a1 a2 a3 a4 a5 a6 a7 : Option Value} {x : Nat} (h : am_nl a6 = true) (hx : x < 500) : WP X k (.astore 7 :: r) (a0 :: a1 :: a2 :: a3 :: a4 :: a5 :: a6 :: a7 :: l) (.ref x :: st) G Q ↔ WP X k r (a0 :: a1 :: a2 :: a3 :: a4 :: a5 :: a6 :: some (.ref x) :: l) st G Q := wp_astore (am_ok1_app [a0, a1, a2, a3, a4, a5] a6 a7 l h) hx rfl
theorem wic7 {a0 a1 a2 a3 a4 a5 a6 : Option Value} {x : Int32} (h : am_nl a6 = true) : WP X k (.iinc 7 (1) :: r) (a0 :: a1 :: a2 :: a3 :: a4 :: a5 :: a6 :: some (.int x) :: l) st G Q ↔ WP X k r (a0 :: a1 :: a2 :: a3 :: a4 :: a5 :: a6 :: some (.int (x + am_ci (1))) :: l) st G Q := wp_iinc rfl (am_ok1_app [a0, a1, a2, a3, a4, a5] a6 (some (.int x)) l h) rfl
theorem wil8 {a0 a1 a2 a3 a4 a5 a6 a7 : Option Value} {x : Int32} : WP X k (.iload 8 :: r) (a0 :: a1 :: a2 :: a3 :: a4 :: a5 :: a6 :: a7 :: some (.int x) :: l) st G Q ↔ WP X k r (a0 :: a1 :: a2 :: a3 :: a4 :: a5 :: a6 :: a7 :: some (.int x) :: l) (.int x :: st) G Q := wp_iload rfl
theorem wis8 {a0 a1 a2 a3 a4 a5 a6 a7 a8 : Option Value} {x : Int32} (h : am_nl a7 = true) : WP X k (.istore 8 :: r) (a0 :: a1 :: a2 :: a3 :: a4 :: a5 :: a6 :: a7 :: a8 :: l) (.int x :: st) G Q ↔ WP X k r (a0 :: a1 :: a2 :: a3 :: a4 :: a5 :: a6 :: a7 :: some (.int x) :: l) st G Q := wp_istore (am_ok1_app [a0, a1, a2, a3, a4, a5, a6] a7 a8 l h) rfl
theorem wic8 {a0 a1 a2 a3 a4 a5 a6 a7 : Option Value} {x : Int32} (h : am_nl a7 = true) : WP X k (.iinc 8 (1) :: r) (a0 :: a1 :: a2 :: a3 :: a4 :: a5 :: a6 :: a7 :: some (.int x) :: l) st G Q ↔ WP X k r (a0 :: a1 :: a2 :: a3 :: a4 :: a5 :: a6 :: a7 :: some (.int (x + am_ci (1))) :: l) st G Q := wp_iinc rfl (am_ok1_app [a0, a1, a2, a3, a4, a5, a6] a7 (some (.int x)) l h) rfl
theorem wil9 {a0 a1 a2 a3 a4 a5 a6 a7 a8 : Option Value} {x : Int32} : WP X k (.iload 9 :: r) (a0 :: a1 :: a2 :: a3 :: a4 :: a5 :: a6 :: a7 :: a8 :: some (.int x) :: l) st G Q ↔ WP X k r (a0 :: a1 :: a2 :: a3 :: a4 :: a5 :: a6 :: a7 :: a8 :: some (.int x) :: l) (.int x :: st) G Q := wp_iload rfl
theorem wis9 {a0 a1 a2 a3 a4 a5 a6 a7 a8 a9 : Option Value} {x : Int32} (h : am_nl a8 = true) : WP X k (.istore 9 :: r) (a0 :: a1 :: a2 :: a3 :: a4 :: a5 :: a6 :: a7 :: a8 :: a9 :: l) (.int x :: st) G Q ↔ WP X k r (a0 :: a1 :: a2 :: a3 :: a4 :: a5 :: a6 :: a7 :: a8 :: some (.int x) :: l) st G Q := wp_istore (am_ok1_app [a0, a1, a2, a3, a4, a5, a6, a7] a8 a9 l h) rfl
theorem wic9 {a0 a1 a2 a3 a4 a5 a6 a7 a8 : Option Value} {x : Int32} (h : am_nl a8 = true) : WP X k (.iinc 9 (1) :: r) (a0 :: a1 :: a2 :: a3 :: a4 :: a5 :: a6 :: a7 :: a8 :: some (.int x) :: l) st G Q ↔ WP X k r (a0 :: a1 :: a2 :: a3 :: a4 :: a5 :: a6 :: a7 :: a8 :: some (.int (x + am_ci (1))) :: l) st G Q := wp_iinc rfl (am_ok1_app [a0, a1, a2, a3, a4, a5, a6, a7] a8 (some (.int x)) l h) rfl
theorem wil10 {a0 a1 a2 a3 a4 a5 a6 a7 a8 a9 : Option Value} {x : Int32} : WP X k (.iload 10 :: r) (a0 :: a1 :: a2 :: a3 :: a4 :: a5 :: a6 :: a7 :: a8 :: a9 :: some (.int x) :: l) st G Q ↔ WP X k r (a0 :: a1 :: a2 :: a3 :: a4 :: a5 :: a6 :: a7 :: a8 :: a9 :: some (.int x) :: l) (.int x :: st) G Q := wp_iload rfl
theorem wis10 {a0 a1 a2 a3 a4 a5 a6 a7 a8 a9 a10 : Option Value} {x : Int32} (h : am_nl a9 = true) : WP X k (.istore 10 :: r) (a0 :: a1 :: a2 :: a3 :: a4 :: a5 :: a6 :: a7 :: a8 :: a9 :: a10 :: l) (.int x :: st) G Q ↔ WP X k r (a0 :: a1 :: a2 :: a3 :: a4 :: a5 :: a6 :: a7 :: a8 :: a9 :: some (.int x) :: l) st G Q := wp_istore (am_ok1_app [a0, a1, a2, a3, a4, a5, a6, a7, a8] a9 a10 l h) rfl
theorem wic10 {a0 a1 a2 a3 a4 a5 a6 a7 a8 a9 : Option Value} {x : Int32} (h : am_nl a9 = true) : WP X k (.iinc 10 (1) :: r) (a0 :: a1 :: a2 :: a3 :: a4 :: a5 :: a6 :: a7 :: a8 :: a9 :: some (.int x) :: l) st G Q ↔ WP X k r (a0 :: a1 :: a2 :: a3 :: a4 :: a5 :: a6 :: a7 :: a8 :: a9 :: some (.int (x + am_ci (1))) :: l) st G Q := wp_iinc rfl (am_ok1_app [a0, a1, a2, a3, a4, a5, a6, a7, a8] a9 (some (.int x)) l h) rfl
end WPS
theorem am_gfs : (∀ G : GG, am_gf G 0 128 = some (.ref 1)) ∧
  (∀ G : GG, am_gf G 0 129 = some (.ref 12)) ∧
  (∀ G : GG, am_gf G 0 130 = some (.ref 23)) ∧
  (∀ G : GG, am_gf G 0 131 = some (.ref 45)) ∧
  (∀ G : GG, am_gf G 0 132 = some (.ref 48)) ∧
  (∀ G : GG, am_gf G 0 133 = some (.ref 57)) ∧
  (∀ G : GG, am_gf G 0 134 = some (.int (G 0 6))) ∧
  (∀ G : GG, am_gf G 45 64 = some (.ref 46)) ∧
  (∀ G : GG, am_gf G 45 65 = some (.ref 34)) ∧
  (∀ G : GG, am_gf G 45 66 = some (.int (G 45 2))) ∧
  (∀ G : GG, am_gf G 45 67 = some (.int (G 45 3))) ∧
  (∀ G : GG, am_gf G 46 32 = some (.ref 47)) ∧
  (∀ G : GG, am_gf G 46 33 = some (.int (G 46 1))) ∧
  (∀ G : GG, am_gf G 46 34 = some (.int (G 46 2))) ∧
  (∀ G : GG, am_gf G 46 35 = some (.int (G 46 3))) ∧
  (∀ G : GG, am_gf G 46 36 = some (.int (G 46 4))) ∧
  (∀ G : GG, am_gf G 46 37 = some (.int (G 46 5))) ∧
  (∀ G : GG, am_gf G 58 160 = some (.ref 59)) ∧
  (∀ G : GG, am_gf G 58 161 = some (.ref 60)) ∧
  (∀ G : GG, am_gf G 58 162 = some (.ref 61)) ∧
  (∀ G : GG, am_gf G 58 163 = some (.int (G 58 3))) ∧
  (∀ G : GG, am_gf G 58 164 = some (.ref 62)) ∧
  (∀ G : GG, am_gf G 58 165 = some (.ref 63)) ∧
  (∀ G : GG, am_gf G 58 166 = some (.ref 64)) ∧
  (∀ G : GG, am_gf G 58 167 = some (.int (G 58 7))) ∧
  (∀ G : GG, am_gf G 58 168 = some (.ref 65)) ∧
  (∀ G : GG, am_gf G 58 169 = some (.int (G 58 9))) ∧
  (∀ G : GG, am_gf G 58 170 = some (.int (G 58 10))) ∧
  (∀ G : GG, am_gf G 58 171 = some (.int (G 58 11))) ∧
  (∀ G : GG, am_gf G 58 172 = some (.int (G 58 12))) ∧
  (∀ G : GG, am_gf G 58 173 = some (.int (G 58 13))) ∧
  (∀ G : GG, am_gf G 58 174 = some (.int (G 58 14))) ∧
  (∀ G : GG, am_gf G 58 175 = some (.ref 71)) ∧
  (∀ G : GG, am_gf G 58 176 = some (.ref 66)) ∧
  (∀ G : GG, am_gf G 58 177 = some (.int (G 58 17))) ∧
  (∀ G : GG, am_gf G 58 178 = some (.int (G 58 18))) ∧
  (∀ G : GG, am_gf G 58 179 = some (.ref 67)) ∧
  (∀ G : GG, am_gf G 58 180 = some (.ref 68)) ∧
  (∀ G : GG, am_gf G 58 181 = some (.ref 69)) ∧
  (∀ G : GG, am_gf G 58 182 = some (.ref 70)) :=
  ⟨fun _ => rfl, fun _ => rfl, fun _ => rfl, fun _ => rfl, fun _ => rfl, fun _ => rfl, fun _ => rfl, fun _ => rfl, fun _ => rfl, fun _ => rfl, fun _ => rfl, fun _ => rfl, fun _ => rfl, fun _ => rfl, fun _ => rfl, fun _ => rfl, fun _ => rfl, fun _ => rfl, fun _ => rfl, fun _ => rfl, fun _ => rfl, fun _ => rfl, fun _ => rfl, fun _ => rfl, fun _ => rfl, fun _ => rfl, fun _ => rfl, fun _ => rfl, fun _ => rfl, fun _ => rfl, fun _ => rfl, fun _ => rfl, fun _ => rfl, fun _ => rfl, fun _ => rfl, fun _ => rfl, fun _ => rfl, fun _ => rfl, fun _ => rfl, fun _ => rfl⟩
theorem am_pfs : (∀ (G : GG) (x : Int32), (x = nI 0 ∨ x = nI 1) → am_pf G 0 134 x = some (gset G 0 (upd (G 0) 6 x))) ∧
  (∀ (G : GG) (x : Int32), am_pf G 45 66 x = some (gset G 45 (upd (G 45) 2 x))) ∧
  (∀ (G : GG) (x : Int32), am_pf G 45 67 x = some (gset G 45 (upd (G 45) 3 x))) ∧
  (∀ (G : GG) (x : Int32), am_pf G 46 33 x = some (gset G 46 (upd (G 46) 1 x))) ∧
  (∀ (G : GG) (x : Int32), am_pf G 46 34 x = some (gset G 46 (upd (G 46) 2 x))) ∧
  (∀ (G : GG) (x : Int32), am_pf G 46 35 x = some (gset G 46 (upd (G 46) 3 x))) ∧
  (∀ (G : GG) (x : Int32), am_pf G 46 36 x = some (gset G 46 (upd (G 46) 4 x))) ∧
  (∀ (G : GG) (x : Int32), am_pf G 46 37 x = some (gset G 46 (upd (G 46) 5 x))) ∧
  (∀ (G : GG) (x : Int32), (x = nI 0 ∨ x = nI 1) → am_pf G 58 163 x = some (gset G 58 (upd (G 58) 3 x))) ∧
  (∀ (G : GG) (x : Int32), am_pf G 58 167 x = some (gset G 58 (upd (G 58) 7 x))) ∧
  (∀ (G : GG) (x : Int32), am_pf G 58 169 x = some (gset G 58 (upd (G 58) 9 x))) ∧
  (∀ (G : GG) (x : Int32), am_pf G 58 170 x = some (gset G 58 (upd (G 58) 10 x))) ∧
  (∀ (G : GG) (x : Int32), am_pf G 58 171 x = some (gset G 58 (upd (G 58) 11 x))) ∧
  (∀ (G : GG) (x : Int32), am_pf G 58 172 x = some (gset G 58 (upd (G 58) 12 x))) ∧
  (∀ (G : GG) (x : Int32), am_pf G 58 173 x = some (gset G 58 (upd (G 58) 13 x))) ∧
  (∀ (G : GG) (x : Int32), (x = nI 0 ∨ x = nI 1) → am_pf G 58 174 x = some (gset G 58 (upd (G 58) 14 x))) ∧
  (∀ (G : GG) (x : Int32), am_pf G 58 177 x = some (gset G 58 (upd (G 58) 17 x))) ∧
  (∀ (G : GG) (x : Int32), am_pf G 58 178 x = some (gset G 58 (upd (G 58) 18 x))) :=
  ⟨fun _ _ h => if_pos (fun _ => h), fun _ _ => rfl, fun _ _ => rfl, fun _ _ => rfl, fun _ _ => rfl, fun _ _ => rfl, fun _ _ => rfl, fun _ _ => rfl, fun _ _ h => if_pos (fun _ => h), fun _ _ => rfl, fun _ _ => rfl, fun _ _ => rfl, fun _ _ => rfl, fun _ _ => rfl, fun _ _ => rfl, fun _ _ h => if_pos (fun _ => h), fun _ _ => rfl, fun _ _ => rfl⟩
theorem am_ald_of {X : AmX} {G : GG} {o n i : Nat} (h : am_sh o = [0, n]) (hn : n < 2 ^ 31) (hi : i < n) : am_ald X G o (nI i) = some (G o i) := by
  have hc : (nI i).toNatClampNeg = i := nI_clamp (by omega)
  unfold am_ald
  rw [h]
  simp only [hc]
  rw [if_neg]
  rintro (z | z)
  · exact nI_pos (by omega) z
  · omega
theorem am_ast_of {G : GG} {o n i : Nat} {x : Int32} (h : am_sh o = [0, n]) (hn : n < 2 ^ 31) (hi : i < n) : am_ast G o (nI i) x = some (gset G o (upd (G o) i x)) := by
  have hc : (nI i).toNatClampNeg = i := nI_clamp (by omega)
  unfold am_ast
  rw [h]
  simp only [hc]
  rw [if_neg]
  rintro (z | z)
  · exact nI_pos (by omega) z
  · omega
theorem am_len_of {X : AmX} {o n : Nat} (h : am_sh o = [0, n]) : am_len X o = some n := by unfold am_len; rw [h]; rfl
theorem am_cpy_of {G : GG} {o1 o2 n1 n2 sp dp n : Nat} (h1 : am_sh o1 = [0, n1]) (h2 : am_sh o2 = [0, n2]) (b1 : n1 < 2 ^ 31) (b2 : n2 < 2 ^ 31) (e1 : sp + n ≤ n1) (e2 : dp + n ≤ n2) : am_cpy G o1 (nI sp) o2 (nI dp) (nI n) = some (gset G o2 (va_cpy (G o1) (G o2) sp dp n)) := by
  have c1 : (nI sp).toNatClampNeg = sp := nI_clamp (by omega)
  have c2 : (nI dp).toNatClampNeg = dp := nI_clamp (by omega)
  have c3 : (nI n).toNatClampNeg = n := nI_clamp (by omega)
  unfold am_cpy
  rw [h1, h2]
  simp only [c1, c2, c3]
  rw [if_pos ⟨nI_pos (by omega), nI_pos (by omega), nI_pos (by omega), e1, e2⟩]
theorem am_alds : (∀ (X : AmX) (G : GG) (i : Nat), i < 120 → am_ald X G 47 (nI i) = some (G 47 i)) ∧
  (∀ (X : AmX) (G : GG) (i : Nat), i < 7 → am_ald X G 57 (nI i) = some (G 57 i)) ∧
  (∀ (X : AmX) (G : GG) (i : Nat), i < 61 → am_ald X G 59 (nI i) = some (G 59 i)) ∧
  (∀ (X : AmX) (G : GG) (i : Nat), i < 61 → am_ald X G 60 (nI i) = some (G 60 i)) ∧
  (∀ (X : AmX) (G : GG) (i : Nat), i < 61 → am_ald X G 61 (nI i) = some (G 61 i)) ∧
  (∀ (X : AmX) (G : GG) (i : Nat), i < 8 → am_ald X G 62 (nI i) = some (G 62 i)) ∧
  (∀ (X : AmX) (G : GG) (i : Nat), i < 8 → am_ald X G 63 (nI i) = some (G 63 i)) ∧
  (∀ (X : AmX) (G : GG) (i : Nat), i < 8 → am_ald X G 64 (nI i) = some (G 64 i)) ∧
  (∀ (X : AmX) (G : GG) (i : Nat), i < 120 → am_ald X G 65 (nI i) = some (G 65 i)) ∧
  (∀ (X : AmX) (G : GG) (i : Nat), i < 480 → am_ald X G 66 (nI i) = some (G 66 i)) ∧
  (∀ (X : AmX) (G : GG) (i : Nat), i < 4 → am_ald X G 67 (nI i) = some (G 67 i)) ∧
  (∀ (X : AmX) (G : GG) (i : Nat), i < 4 → am_ald X G 68 (nI i) = some (G 68 i)) ∧
  (∀ (X : AmX) (G : GG) (i : Nat), i < 160 → am_ald X G 69 (nI i) = some (G 69 i)) ∧
  (∀ (X : AmX) (G : GG) (i : Nat), i < 40 → am_ald X G 70 (nI i) = some (G 70 i)) :=
  ⟨fun _ _ _ h => am_ald_of rfl (by decide) h, fun _ _ _ h => am_ald_of rfl (by decide) h, fun _ _ _ h => am_ald_of rfl (by decide) h, fun _ _ _ h => am_ald_of rfl (by decide) h, fun _ _ _ h => am_ald_of rfl (by decide) h, fun _ _ _ h => am_ald_of rfl (by decide) h, fun _ _ _ h => am_ald_of rfl (by decide) h, fun _ _ _ h => am_ald_of rfl (by decide) h, fun _ _ _ h => am_ald_of rfl (by decide) h, fun _ _ _ h => am_ald_of rfl (by decide) h, fun _ _ _ h => am_ald_of rfl (by decide) h, fun _ _ _ h => am_ald_of rfl (by decide) h, fun _ _ _ h => am_ald_of rfl (by decide) h, fun _ _ _ h => am_ald_of rfl (by decide) h⟩
theorem am_asts : (∀ (G : GG) (i : Nat) (x : Int32), i < 120 → am_ast G 47 (nI i) x = some (gset G 47 (upd (G 47) i x))) ∧
  (∀ (G : GG) (i : Nat) (x : Int32), i < 7 → am_ast G 57 (nI i) x = some (gset G 57 (upd (G 57) i x))) ∧
  (∀ (G : GG) (i : Nat) (x : Int32), i < 61 → am_ast G 59 (nI i) x = some (gset G 59 (upd (G 59) i x))) ∧
  (∀ (G : GG) (i : Nat) (x : Int32), i < 61 → am_ast G 60 (nI i) x = some (gset G 60 (upd (G 60) i x))) ∧
  (∀ (G : GG) (i : Nat) (x : Int32), i < 61 → am_ast G 61 (nI i) x = some (gset G 61 (upd (G 61) i x))) ∧
  (∀ (G : GG) (i : Nat) (x : Int32), i < 8 → am_ast G 62 (nI i) x = some (gset G 62 (upd (G 62) i x))) ∧
  (∀ (G : GG) (i : Nat) (x : Int32), i < 8 → am_ast G 63 (nI i) x = some (gset G 63 (upd (G 63) i x))) ∧
  (∀ (G : GG) (i : Nat) (x : Int32), i < 8 → am_ast G 64 (nI i) x = some (gset G 64 (upd (G 64) i x))) ∧
  (∀ (G : GG) (i : Nat) (x : Int32), i < 120 → am_ast G 65 (nI i) x = some (gset G 65 (upd (G 65) i x))) ∧
  (∀ (G : GG) (i : Nat) (x : Int32), i < 480 → am_ast G 66 (nI i) x = some (gset G 66 (upd (G 66) i x))) ∧
  (∀ (G : GG) (i : Nat) (x : Int32), i < 4 → am_ast G 67 (nI i) x = some (gset G 67 (upd (G 67) i x))) ∧
  (∀ (G : GG) (i : Nat) (x : Int32), i < 4 → am_ast G 68 (nI i) x = some (gset G 68 (upd (G 68) i x))) ∧
  (∀ (G : GG) (i : Nat) (x : Int32), i < 160 → am_ast G 69 (nI i) x = some (gset G 69 (upd (G 69) i x))) ∧
  (∀ (G : GG) (i : Nat) (x : Int32), i < 40 → am_ast G 70 (nI i) x = some (gset G 70 (upd (G 70) i x))) :=
  ⟨fun _ _ _ h => am_ast_of rfl (by decide) h, fun _ _ _ h => am_ast_of rfl (by decide) h, fun _ _ _ h => am_ast_of rfl (by decide) h, fun _ _ _ h => am_ast_of rfl (by decide) h, fun _ _ _ h => am_ast_of rfl (by decide) h, fun _ _ _ h => am_ast_of rfl (by decide) h, fun _ _ _ h => am_ast_of rfl (by decide) h, fun _ _ _ h => am_ast_of rfl (by decide) h, fun _ _ _ h => am_ast_of rfl (by decide) h, fun _ _ _ h => am_ast_of rfl (by decide) h, fun _ _ _ h => am_ast_of rfl (by decide) h, fun _ _ _ h => am_ast_of rfl (by decide) h, fun _ _ _ h => am_ast_of rfl (by decide) h, fun _ _ _ h => am_ast_of rfl (by decide) h⟩
theorem am_lens : (∀ X : AmX, am_len X 47 = some 120) ∧
  (∀ X : AmX, am_len X 57 = some 7) ∧
  (∀ X : AmX, am_len X 59 = some 61) ∧
  (∀ X : AmX, am_len X 60 = some 61) ∧
  (∀ X : AmX, am_len X 61 = some 61) ∧
  (∀ X : AmX, am_len X 62 = some 8) ∧
  (∀ X : AmX, am_len X 63 = some 8) ∧
  (∀ X : AmX, am_len X 64 = some 8) ∧
  (∀ X : AmX, am_len X 65 = some 120) ∧
  (∀ X : AmX, am_len X 66 = some 480) ∧
  (∀ X : AmX, am_len X 67 = some 4) ∧
  (∀ X : AmX, am_len X 68 = some 4) ∧
  (∀ X : AmX, am_len X 69 = some 160) ∧
  (∀ X : AmX, am_len X 70 = some 40) :=
  ⟨fun _ => am_len_of rfl, fun _ => am_len_of rfl, fun _ => am_len_of rfl, fun _ => am_len_of rfl, fun _ => am_len_of rfl, fun _ => am_len_of rfl, fun _ => am_len_of rfl, fun _ => am_len_of rfl, fun _ => am_len_of rfl, fun _ => am_len_of rfl, fun _ => am_len_of rfl, fun _ => am_len_of rfl, fun _ => am_len_of rfl, fun _ => am_len_of rfl⟩
def TB (b : Nat) : Prop := b = 1 ∨ b = 12 ∨ b = 23 ∨ b = 34
theorem tb1 : TB 1 := by simp [TB]
theorem tb12 : TB 12 := by simp [TB]
theorem tb23 : TB 23 := by simp [TB]
theorem tb34 : TB 34 := by simp [TB]
theorem am_gft {b : Nat} (h : TB b) : (∀ G : GG, am_gf G b 96 = some (.ref (b + 1))) ∧
  (∀ G : GG, am_gf G b 97 = some (.ref (b + 2))) ∧
  (∀ G : GG, am_gf G b 98 = some (.ref (b + 3))) ∧
  (∀ G : GG, am_gf G b 99 = some (.ref (b + 4))) ∧
  (∀ G : GG, am_gf G b 100 = some (.ref (b + 5))) ∧
  (∀ G : GG, am_gf G b 101 = some (.ref (b + 6))) ∧
  (∀ G : GG, am_gf G b 102 = some (.ref (b + 7))) ∧
  (∀ G : GG, am_gf G b 103 = some (.int (G b 7))) ∧
  (∀ G : GG, am_gf G b 104 = some (.int (G b 8))) ∧
  (∀ G : GG, am_gf G b 105 = some (.int (G b 9))) ∧
  (∀ G : GG, am_gf G b 106 = some (.ref (b + 8))) ∧
  (∀ G : GG, am_gf G b 107 = some (.ref (b + 9))) ∧
  (∀ G : GG, am_gf G b 108 = some (.ref (b + 10))) := by
  rcases h with rfl | rfl | rfl | rfl <;> exact ⟨fun _ => rfl, fun _ => rfl, fun _ => rfl, fun _ => rfl, fun _ => rfl, fun _ => rfl, fun _ => rfl, fun _ => rfl, fun _ => rfl, fun _ => rfl, fun _ => rfl, fun _ => rfl, fun _ => rfl⟩
theorem tgf0 {b : Nat} {G : GG} (h : TB b) : am_gf G b 96 = some (.ref (b + 1)) := (am_gft h).1 G
theorem tgf1 {b : Nat} {G : GG} (h : TB b) : am_gf G b 97 = some (.ref (b + 2)) := (am_gft h).2.1 G
theorem tgf2 {b : Nat} {G : GG} (h : TB b) : am_gf G b 98 = some (.ref (b + 3)) := (am_gft h).2.2.1 G
theorem tgf3 {b : Nat} {G : GG} (h : TB b) : am_gf G b 99 = some (.ref (b + 4)) := (am_gft h).2.2.2.1 G
theorem tgf4 {b : Nat} {G : GG} (h : TB b) : am_gf G b 100 = some (.ref (b + 5)) := (am_gft h).2.2.2.2.1 G
theorem tgf5 {b : Nat} {G : GG} (h : TB b) : am_gf G b 101 = some (.ref (b + 6)) := (am_gft h).2.2.2.2.2.1 G
theorem tgf6 {b : Nat} {G : GG} (h : TB b) : am_gf G b 102 = some (.ref (b + 7)) := (am_gft h).2.2.2.2.2.2.1 G
theorem tgf7 {b : Nat} {G : GG} (h : TB b) : am_gf G b 103 = some (.int (G b 7)) := (am_gft h).2.2.2.2.2.2.2.1 G
theorem tgf8 {b : Nat} {G : GG} (h : TB b) : am_gf G b 104 = some (.int (G b 8)) := (am_gft h).2.2.2.2.2.2.2.2.1 G
theorem tgf9 {b : Nat} {G : GG} (h : TB b) : am_gf G b 105 = some (.int (G b 9)) := (am_gft h).2.2.2.2.2.2.2.2.2.1 G
theorem tgf10 {b : Nat} {G : GG} (h : TB b) : am_gf G b 106 = some (.ref (b + 8)) := (am_gft h).2.2.2.2.2.2.2.2.2.2.1 G
theorem tgf11 {b : Nat} {G : GG} (h : TB b) : am_gf G b 107 = some (.ref (b + 9)) := (am_gft h).2.2.2.2.2.2.2.2.2.2.2.1 G
theorem tgf12 {b : Nat} {G : GG} (h : TB b) : am_gf G b 108 = some (.ref (b + 10)) := (am_gft h).2.2.2.2.2.2.2.2.2.2.2.2 G
theorem tpf7 {b : Nat} {G : GG} {x : Int32} (h : TB b) : am_pf G b 103 x = some (gset G b (upd (G b) 7 x)) := by rcases h with rfl | rfl | rfl | rfl <;> rfl
theorem tpf8 {b : Nat} {G : GG} {x : Int32} (h : TB b) : am_pf G b 104 x = some (gset G b (upd (G b) 8 x)) := by rcases h with rfl | rfl | rfl | rfl <;> rfl
theorem tpf9 {b : Nat} {G : GG} {x : Int32} (h : TB b) : am_pf G b 105 x = some (gset G b (upd (G b) 9 x)) := by rcases h with rfl | rfl | rfl | rfl <;> rfl
theorem tsh0 {b : Nat} (h : TB b) : am_sh (b + 1) = [0, 8] := by rcases h with rfl | rfl | rfl | rfl <;> rfl
theorem tal0 {b : Nat} {X : AmX} {G : GG} {i : Nat} (h : TB b) (hi : i < 8) : am_ald X G (b + 1) (nI i) = some (G (b + 1) i) := am_ald_of (tsh0 h) (by decide) hi
theorem tas0 {b : Nat} {G : GG} {i : Nat} {x : Int32} (h : TB b) (hi : i < 8) : am_ast G (b + 1) (nI i) x = some (gset G (b + 1) (upd (G (b + 1)) i x)) := am_ast_of (tsh0 h) (by decide) hi
theorem tln0 {b : Nat} {X : AmX} (h : TB b) : am_len X (b + 1) = some 8 := am_len_of (tsh0 h)
theorem tsh1 {b : Nat} (h : TB b) : am_sh (b + 2) = [0, 8] := by rcases h with rfl | rfl | rfl | rfl <;> rfl
theorem tal1 {b : Nat} {X : AmX} {G : GG} {i : Nat} (h : TB b) (hi : i < 8) : am_ald X G (b + 2) (nI i) = some (G (b + 2) i) := am_ald_of (tsh1 h) (by decide) hi
theorem tas1 {b : Nat} {G : GG} {i : Nat} {x : Int32} (h : TB b) (hi : i < 8) : am_ast G (b + 2) (nI i) x = some (gset G (b + 2) (upd (G (b + 2)) i x)) := am_ast_of (tsh1 h) (by decide) hi
theorem tln1 {b : Nat} {X : AmX} (h : TB b) : am_len X (b + 2) = some 8 := am_len_of (tsh1 h)
theorem tsh2 {b : Nat} (h : TB b) : am_sh (b + 3) = [0, 8] := by rcases h with rfl | rfl | rfl | rfl <;> rfl
theorem tal2 {b : Nat} {X : AmX} {G : GG} {i : Nat} (h : TB b) (hi : i < 8) : am_ald X G (b + 3) (nI i) = some (G (b + 3) i) := am_ald_of (tsh2 h) (by decide) hi
theorem tas2 {b : Nat} {G : GG} {i : Nat} {x : Int32} (h : TB b) (hi : i < 8) : am_ast G (b + 3) (nI i) x = some (gset G (b + 3) (upd (G (b + 3)) i x)) := am_ast_of (tsh2 h) (by decide) hi
theorem tln2 {b : Nat} {X : AmX} (h : TB b) : am_len X (b + 3) = some 8 := am_len_of (tsh2 h)
theorem tsh3 {b : Nat} (h : TB b) : am_sh (b + 4) = [0, 8] := by rcases h with rfl | rfl | rfl | rfl <;> rfl
theorem tal3 {b : Nat} {X : AmX} {G : GG} {i : Nat} (h : TB b) (hi : i < 8) : am_ald X G (b + 4) (nI i) = some (G (b + 4) i) := am_ald_of (tsh3 h) (by decide) hi
theorem tas3 {b : Nat} {G : GG} {i : Nat} {x : Int32} (h : TB b) (hi : i < 8) : am_ast G (b + 4) (nI i) x = some (gset G (b + 4) (upd (G (b + 4)) i x)) := am_ast_of (tsh3 h) (by decide) hi
theorem tln3 {b : Nat} {X : AmX} (h : TB b) : am_len X (b + 4) = some 8 := am_len_of (tsh3 h)
theorem tsh4 {b : Nat} (h : TB b) : am_sh (b + 5) = [0, 8] := by rcases h with rfl | rfl | rfl | rfl <;> rfl
theorem tal4 {b : Nat} {X : AmX} {G : GG} {i : Nat} (h : TB b) (hi : i < 8) : am_ald X G (b + 5) (nI i) = some (G (b + 5) i) := am_ald_of (tsh4 h) (by decide) hi
theorem tas4 {b : Nat} {G : GG} {i : Nat} {x : Int32} (h : TB b) (hi : i < 8) : am_ast G (b + 5) (nI i) x = some (gset G (b + 5) (upd (G (b + 5)) i x)) := am_ast_of (tsh4 h) (by decide) hi
theorem tln4 {b : Nat} {X : AmX} (h : TB b) : am_len X (b + 5) = some 8 := am_len_of (tsh4 h)
theorem tsh5 {b : Nat} (h : TB b) : am_sh (b + 6) = [0, 8] := by rcases h with rfl | rfl | rfl | rfl <;> rfl
theorem tal5 {b : Nat} {X : AmX} {G : GG} {i : Nat} (h : TB b) (hi : i < 8) : am_ald X G (b + 6) (nI i) = some (G (b + 6) i) := am_ald_of (tsh5 h) (by decide) hi
theorem tas5 {b : Nat} {G : GG} {i : Nat} {x : Int32} (h : TB b) (hi : i < 8) : am_ast G (b + 6) (nI i) x = some (gset G (b + 6) (upd (G (b + 6)) i x)) := am_ast_of (tsh5 h) (by decide) hi
theorem tln5 {b : Nat} {X : AmX} (h : TB b) : am_len X (b + 6) = some 8 := am_len_of (tsh5 h)
theorem tsh6 {b : Nat} (h : TB b) : am_sh (b + 7) = [0, 10] := by rcases h with rfl | rfl | rfl | rfl <;> rfl
theorem tal6 {b : Nat} {X : AmX} {G : GG} {i : Nat} (h : TB b) (hi : i < 10) : am_ald X G (b + 7) (nI i) = some (G (b + 7) i) := am_ald_of (tsh6 h) (by decide) hi
theorem tas6 {b : Nat} {G : GG} {i : Nat} {x : Int32} (h : TB b) (hi : i < 10) : am_ast G (b + 7) (nI i) x = some (gset G (b + 7) (upd (G (b + 7)) i x)) := am_ast_of (tsh6 h) (by decide) hi
theorem tln6 {b : Nat} {X : AmX} (h : TB b) : am_len X (b + 7) = some 10 := am_len_of (tsh6 h)
theorem tsh7 {b : Nat} (h : TB b) : am_sh (b + 8) = [0, 8] := by rcases h with rfl | rfl | rfl | rfl <;> rfl
theorem tal7 {b : Nat} {X : AmX} {G : GG} {i : Nat} (h : TB b) (hi : i < 8) : am_ald X G (b + 8) (nI i) = some (G (b + 8) i) := am_ald_of (tsh7 h) (by decide) hi
theorem tas7 {b : Nat} {G : GG} {i : Nat} {x : Int32} (h : TB b) (hi : i < 8) : am_ast G (b + 8) (nI i) x = some (gset G (b + 8) (upd (G (b + 8)) i x)) := am_ast_of (tsh7 h) (by decide) hi
theorem tln7 {b : Nat} {X : AmX} (h : TB b) : am_len X (b + 8) = some 8 := am_len_of (tsh7 h)
theorem tsh8 {b : Nat} (h : TB b) : am_sh (b + 9) = [0, 8] := by rcases h with rfl | rfl | rfl | rfl <;> rfl
theorem tal8 {b : Nat} {X : AmX} {G : GG} {i : Nat} (h : TB b) (hi : i < 8) : am_ald X G (b + 9) (nI i) = some (G (b + 9) i) := am_ald_of (tsh8 h) (by decide) hi
theorem tas8 {b : Nat} {G : GG} {i : Nat} {x : Int32} (h : TB b) (hi : i < 8) : am_ast G (b + 9) (nI i) x = some (gset G (b + 9) (upd (G (b + 9)) i x)) := am_ast_of (tsh8 h) (by decide) hi
theorem tln8 {b : Nat} {X : AmX} (h : TB b) : am_len X (b + 9) = some 8 := am_len_of (tsh8 h)
theorem tsh9 {b : Nat} (h : TB b) : am_sh (b + 10) = [0, 8] := by rcases h with rfl | rfl | rfl | rfl <;> rfl
theorem tal9 {b : Nat} {X : AmX} {G : GG} {i : Nat} (h : TB b) (hi : i < 8) : am_ald X G (b + 10) (nI i) = some (G (b + 10) i) := am_ald_of (tsh9 h) (by decide) hi
theorem tas9 {b : Nat} {G : GG} {i : Nat} {x : Int32} (h : TB b) (hi : i < 8) : am_ast G (b + 10) (nI i) x = some (gset G (b + 10) (upd (G (b + 10)) i x)) := am_ast_of (tsh9 h) (by decide) hi
theorem tln9 {b : Nat} {X : AmX} (h : TB b) : am_len X (b + 10) = some 8 := am_len_of (tsh9 h)
theorem tcls {b : Nat} (h : TB b) : am_clsof b = 3 := by rcases h with rfl | rfl | rfl | rfl <;> rfl
theorem TB.lt {b : Nat} (h : TB b) : b < 500 := by rcases h with rfl | rfl | rfl | rfl <;> decide
def SB (b : Nat) : Prop := b = 49 ∨ b = 51 ∨ b = 53 ∨ b = 55
theorem sb49 : SB 49 := by simp [SB]
theorem sb51 : SB 51 := by simp [SB]
theorem sb53 : SB 53 := by simp [SB]
theorem sb55 : SB 55 := by simp [SB]
theorem SB.of {s : Nat} (h : s < 4) : SB (49 + 2 * s) := by unfold SB; omega
theorem SB.lt {b : Nat} (h : SB b) : b < 500 := by rcases h with rfl | rfl | rfl | rfl <;> decide
theorem scls {b : Nat} (h : SB b) : am_clsof b = 0 := by rcases h with rfl | rfl | rfl | rfl <;> rfl
theorem sgf0 {b : Nat} {G : GG} (h : SB b) : am_gf G b 0 = some (.ref (b + 1)) := by rcases h with rfl | rfl | rfl | rfl <;> rfl
theorem sgf1 {b : Nat} {G : GG} (h : SB b) : am_gf G b 1 = some (.int (G b 1)) := by rcases h with rfl | rfl | rfl | rfl <;> rfl
theorem sgf2 {b : Nat} {G : GG} (h : SB b) : am_gf G b 2 = some (.int (G b 2)) := by rcases h with rfl | rfl | rfl | rfl <;> rfl
theorem spf1 {b : Nat} {G : GG} {x : Int32} (h : SB b) : am_pf G b 1 x = some (gset G b (upd (G b) 1 x)) := by rcases h with rfl | rfl | rfl | rfl <;> rfl
theorem spf2 {b : Nat} {G : GG} {x : Int32} (h : SB b) : am_pf G b 2 x = some (gset G b (upd (G b) 2 x)) := by rcases h with rfl | rfl | rfl | rfl <;> rfl
theorem ssh {b : Nat} (h : SB b) : am_sh (b + 1) = [0, 40] := by rcases h with rfl | rfl | rfl | rfl <;> rfl
theorem sal {b : Nat} {X : AmX} {G : GG} {i : Nat} (h : SB b) (hi : i < 40) : am_ald X G (b + 1) (nI i) = some (G (b + 1) i) := am_ald_of (ssh h) (by decide) hi
theorem sas {b : Nat} {G : GG} {i : Nat} {x : Int32} (h : SB b) (hi : i < 40) : am_ast G (b + 1) (nI i) x = some (gset G (b + 1) (upd (G (b + 1)) i x)) := am_ast_of (ssh h) (by decide) hi
theorem sln {b : Nat} {X : AmX} (h : SB b) : am_len X (b + 1) = some 40 := am_len_of (ssh h)
theorem am_qld48 {s : Nat} (h : s < 4) : am_qld 48 (nI s) = some (49 + 2 * s) := by
  rcases (by omega : s = 0 ∨ s = 1 ∨ s = 2 ∨ s = 3) with rfl | rfl | rfl | rfl <;> rfl
theorem am_qld71 {s : Nat} (h : s < 7) : am_qld 71 (nI s) = some (100 + s) := by
  rcases (by omega : s = 0 ∨ s = 1 ∨ s = 2 ∨ s = 3 ∨ s = 4 ∨ s = 5 ∨ s = 6) with rfl | rfl | rfl | rfl | rfl | rfl | rfl <;> rfl
theorem am_len71 {X : AmX} : am_len X 71 = some 7 := rfl
theorem am_ald300 {X : AmX} {G : GG} {i : Nat} (h : i < 7) : am_ald X G 300 (nI i) = some (tt_above i) := by
  rcases (by omega : i = 0 ∨ i = 1 ∨ i = 2 ∨ i = 3 ∨ i = 4 ∨ i = 5 ∨ i = 6) with rfl | rfl | rfl | rfl | rfl | rfl | rfl <;> rfl
