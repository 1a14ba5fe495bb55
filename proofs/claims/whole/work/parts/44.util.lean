/-! ===== small words: truth as a number, ranges, fills, counts ===== -/
def bI (b : Bool) : Int32 := if b = true then nI 1 else nI 0
theorem bI_t : bI true = nI 1 := rfl
theorem bI_f : bI false = nI 0 := rfl
theorem bI_eq0 (b : Bool) : (bI b = nI 0) = (b = false) := by cases b <;> simp [bI] <;> decide
theorem bI_01 (b : Bool) : bI b = nI 0 ∨ bI b = nI 1 := by cases b <;> simp [bI]
def inR (v lo hi : Int32) : Bool := decide (¬ v < lo ∧ ¬ hi < v)
theorem inR_nI {j a b : Nat} (hj : j < 2 ^ 31) (ha : a < 2 ^ 31) (hb : b < 2 ^ 31) : inR (nI j) (nI a) (nI b) = decide (a ≤ j ∧ j ≤ b) := by
  unfold inR
  refine decide_eq_decide.mpr ?_
  rw [am_nI_lt hj ha, am_nI_lt hb hj]
  omega
theorem inR_of {v : Int32} {n : Nat} (hn : n < 2 ^ 31) (h : inR v (nI 0) (nI n) = true) : ∃ j : Nat, j ≤ n ∧ v = nI j := by
  unfold inR at h
  have h := of_decide_eq_true h
  obtain ⟨j, hj, e⟩ := nI_of (x := v) h.1
  refine ⟨j, ?_, e⟩
  have h2 := h.2
  rw [e] at h2
  exact Nat.not_lt.mp fun q => h2 ((nI_ltI hn hj).mpr q)
theorem am_rcv_of {m o : Nat} {as : List Value} (h1 : as.all am_c1 = true) (h2 : am_clsof o = am_own m) : am_rcv m (.ref o :: as) = true := by
  unfold am_rcv
  simp [h1, h2, am_c1]
section JOIN
variable {X : AmX} {k : Nat} {ops : List Instr} {lv : LV} {st : List Value} {G : GG} {Q : Option Value → GG → Prop}
theorem WP_join {P : Prop} [Decidable P] {a b : Int32} : ((P → WP X k ops lv (.int a :: st) G Q) ∧ (¬ P → WP X k ops lv (.int b :: st) G Q)) ↔ WP X k ops lv (.int (if P then a else b) :: st) G Q := by
  by_cases h : P <;> simp [h]
theorem WP_joinB {P : Prop} [Decidable P] : ((P → WP X k ops lv (.int (nI 1) :: st) G Q) ∧ (¬ P → WP X k ops lv (.int (nI 0) :: st) G Q)) ↔ WP X k ops lv (.int (bI (decide P)) :: st) G Q := by
  by_cases h : P <;> simp [h, bI]
theorem WP_joinN {P : Prop} [Decidable P] : ((P → WP X k ops lv (.int (nI 0) :: st) G Q) ∧ (¬ P → WP X k ops lv (.int (nI 1) :: st) G Q)) ↔ WP X k ops lv (.int (bI (decide (¬ P))) :: st) G Q := by
  by_cases h : P <;> simp [h, bI]
theorem wp_ret1b {r : List Instr} {b : Bool} : WP X k (.ret 1 :: r) lv [.int (bI b)] G Q ↔ Q (some (.int (bI b))) G := wp_ret1 (bI_01 b)
end JOIN
/-- the first i numbers are v -/
def flt (i : Nat) (v : Int32) (f : Nat → Int32) : Nat → Int32 := fun j => if j < i then v else f j
theorem flt_0 (v : Int32) (f : Nat → Int32) : flt 0 v f = f := by funext j; simp [flt]
theorem flt_s (i : Nat) (v : Int32) (f : Nat → Int32) : upd (flt i v f) i v = flt (i + 1) v f := by
  funext j
  unfold upd flt
  by_cases h : j = i
  · subst h; simp
  · by_cases h2 : j < i
    · simp [h, h2, show j < i + 1 by omega]
    · simp [h, h2, show ¬ j < i + 1 by omega]
/-- how many of the first n are v -/
def cnt (f : Nat → Int32) (v : Int32) : Nat → Nat
  | 0 => 0
  | n + 1 => cnt f v n + if f n = v then 1 else 0
theorem cnt_le (f : Nat → Int32) (v : Int32) : ∀ n, cnt f v n ≤ n
  | 0 => Nat.le_refl 0
  | n + 1 => by have := cnt_le f v n; unfold cnt; split <;> omega
theorem cnt_pos {f : Nat → Int32} {v : Int32} {i : Nat} (h : f i = v) : ∀ n, i < n → 1 ≤ cnt f v n
  | 0, hi => absurd hi (Nat.not_lt_zero i)
  | n + 1, hi => by
    unfold cnt
    by_cases e : i = n
    · subst e; rw [if_pos h]; omega
    · have := cnt_pos h n (by omega); omega
theorem cnt_congr {f g : Nat → Int32} {v : Int32} : ∀ n, (∀ j, j < n → f j = g j) → cnt f v n = cnt g v n
  | 0, _ => rfl
  | n + 1, h => by
    unfold cnt
    rw [cnt_congr n (fun j hj => h j (by omega)), h n (by omega)]
