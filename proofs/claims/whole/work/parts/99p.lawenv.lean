/-! ===== what the law's start gives ===== -/
def icF : List Jvm.Cond := flatC (Jvm.Cond.and given_1 narrow_1)
def ic_tx (i : Nat) : Nat := ([103, 105, 107, 109, 111, 113, 115, 51, 89, 95, 97] : List Nat).getD i 0
def ic_ty (i : Nat) : Nat := ([37, 39, 41, 43, 45, 47, 49, 306, 293, 298, 300] : List Nat).getD i 0
def ic_tm (i : Nat) : Term := Term.string RX2 (ic_tx i)
set_option maxRecDepth 1000000 in
theorem icf_ex : ∀ i, i < 11 → Jvm.Cond.exactly (ic_tm i) "java/lang/String" ∈ icF := by decide +kernel
set_option maxRecDepth 1000000 in
theorem icf_co : ∀ i, i < 11 → Jvm.Cond.eq (.field (ic_tm i) "java/lang/String" "coder" "B") (.int 0) ∈ icF := by decide +kernel
set_option maxRecDepth 1000000 in
theorem icf_ar : ∀ i, i < 11 → Jvm.Cond.arrayOf (.field (ic_tm i) "java/lang/String" "value" "[B") .byte ∈ icF := by decide +kernel
set_option maxRecDepth 1000000 in
theorem icf_le : ∀ i, i < 11 → Jvm.Cond.eq (.length (.field (ic_tm i) "java/lang/String" "value" "[B")) (.int (Int32.ofNat (tt_len.getD i 0))) ∈ icF := by decide +kernel
set_option maxRecDepth 1000000 in
theorem icf_el : ∀ i, i < 11 → ∀ j, j < tt_len.getD i 0 → Jvm.Cond.eq (.elem (.field (ic_tm i) "java/lang/String" "value" "[B") (.int (Int32.ofNat j))) (.int ((tt_byt.getD i []).getD j 0)) ∈ icF := by decide +kernel
set_option maxRecDepth 1000000 in
theorem icf_ne_0 : ∀ j, j < 11 → 0 ≠ j → Jvm.Cond.not (Jvm.Cond.eq (ic_tm 0) (ic_tm j)) ∈ icF ∨ Jvm.Cond.not (Jvm.Cond.eq (ic_tm j) (ic_tm 0)) ∈ icF := by decide +kernel
set_option maxRecDepth 1000000 in
theorem icf_ne_1 : ∀ j, j < 11 → 1 ≠ j → Jvm.Cond.not (Jvm.Cond.eq (ic_tm 1) (ic_tm j)) ∈ icF ∨ Jvm.Cond.not (Jvm.Cond.eq (ic_tm j) (ic_tm 1)) ∈ icF := by decide +kernel
set_option maxRecDepth 1000000 in
theorem icf_ne_2 : ∀ j, j < 11 → 2 ≠ j → Jvm.Cond.not (Jvm.Cond.eq (ic_tm 2) (ic_tm j)) ∈ icF ∨ Jvm.Cond.not (Jvm.Cond.eq (ic_tm j) (ic_tm 2)) ∈ icF := by decide +kernel
set_option maxRecDepth 1000000 in
theorem icf_ne_3 : ∀ j, j < 11 → 3 ≠ j → Jvm.Cond.not (Jvm.Cond.eq (ic_tm 3) (ic_tm j)) ∈ icF ∨ Jvm.Cond.not (Jvm.Cond.eq (ic_tm j) (ic_tm 3)) ∈ icF := by decide +kernel
set_option maxRecDepth 1000000 in
theorem icf_ne_4 : ∀ j, j < 11 → 4 ≠ j → Jvm.Cond.not (Jvm.Cond.eq (ic_tm 4) (ic_tm j)) ∈ icF ∨ Jvm.Cond.not (Jvm.Cond.eq (ic_tm j) (ic_tm 4)) ∈ icF := by decide +kernel
set_option maxRecDepth 1000000 in
theorem icf_ne_5 : ∀ j, j < 11 → 5 ≠ j → Jvm.Cond.not (Jvm.Cond.eq (ic_tm 5) (ic_tm j)) ∈ icF ∨ Jvm.Cond.not (Jvm.Cond.eq (ic_tm j) (ic_tm 5)) ∈ icF := by decide +kernel
set_option maxRecDepth 1000000 in
theorem icf_ne_6 : ∀ j, j < 11 → 6 ≠ j → Jvm.Cond.not (Jvm.Cond.eq (ic_tm 6) (ic_tm j)) ∈ icF ∨ Jvm.Cond.not (Jvm.Cond.eq (ic_tm j) (ic_tm 6)) ∈ icF := by decide +kernel
set_option maxRecDepth 1000000 in
theorem icf_ne_7 : ∀ j, j < 11 → 7 ≠ j → Jvm.Cond.not (Jvm.Cond.eq (ic_tm 7) (ic_tm j)) ∈ icF ∨ Jvm.Cond.not (Jvm.Cond.eq (ic_tm j) (ic_tm 7)) ∈ icF := by decide +kernel
set_option maxRecDepth 1000000 in
theorem icf_ne_8 : ∀ j, j < 11 → 8 ≠ j → Jvm.Cond.not (Jvm.Cond.eq (ic_tm 8) (ic_tm j)) ∈ icF ∨ Jvm.Cond.not (Jvm.Cond.eq (ic_tm j) (ic_tm 8)) ∈ icF := by decide +kernel
set_option maxRecDepth 1000000 in
theorem icf_ne_9 : ∀ j, j < 11 → 9 ≠ j → Jvm.Cond.not (Jvm.Cond.eq (ic_tm 9) (ic_tm j)) ∈ icF ∨ Jvm.Cond.not (Jvm.Cond.eq (ic_tm j) (ic_tm 9)) ∈ icF := by decide +kernel
set_option maxRecDepth 1000000 in
theorem icf_ne_10 : ∀ j, j < 11 → 10 ≠ j → Jvm.Cond.not (Jvm.Cond.eq (ic_tm 10) (ic_tm j)) ∈ icF ∨ Jvm.Cond.not (Jvm.Cond.eq (ic_tm j) (ic_tm 10)) ∈ icF := by decide +kernel
set_option maxRecDepth 1000000 in
theorem icf_ne : ∀ i, i < 11 → ∀ j, j < 11 → i ≠ j → Jvm.Cond.not (Jvm.Cond.eq (ic_tm i) (ic_tm j)) ∈ icF ∨ Jvm.Cond.not (Jvm.Cond.eq (ic_tm j) (ic_tm i)) ∈ icF := fun i hi => match i, hi with
  | 0, _ => icf_ne_0
  | 1, _ => icf_ne_1
  | 2, _ => icf_ne_2
  | 3, _ => icf_ne_3
  | 4, _ => icf_ne_4
  | 5, _ => icf_ne_5
  | 6, _ => icf_ne_6
  | 7, _ => icf_ne_7
  | 8, _ => icf_ne_8
  | 9, _ => icf_ne_9
  | 10, _ => icf_ne_10
  | n + 11, h => absurd h (by omega)
set_option maxRecDepth 1000000 in
theorem icf_eq : ∀ i, i < 11 → Jvm.Cond.eq (ic_tm i) (Term.string RX5 (ic_ty i)) ∈ icF := by decide +kernel
set_option maxRecDepth 1000000 in
theorem icf_k : (Jvm.Cond.arrayOf (Term.static RX4 "KIND_ABOVE" "[I") .int ∈ icF ∧ Jvm.Cond.eq (Term.length (Term.static RX4 "KIND_ABOVE" "[I")) (Term.int (Int32.ofNat 7)) ∈ icF ∧ ∀ j, j < 7 → Jvm.Cond.eq (Term.elem (Term.static RX4 "KIND_ABOVE" "[I") (Term.int (Int32.ofNat j))) (Term.int (tt_above j)) ∈ icF) ∧ Jvm.Cond.eq (Term.static "java/lang/String" "COMPACT_STRINGS" "Z") (Term.int 1) ∈ icF ∧ Jvm.Cond.isRef (Term.static "jdk/internal/util/Preconditions" "SIOOBE_FORMATTER" "Ljava/util/function/BiFunction;") ∈ icF := by decide +kernel
set_option maxRecDepth 1000000 in
theorem ict_n : ∀ q ∈ tt_nests, Jvm.Cond.methodLinkNest q.1 q.2.1 q.2.2 RX4 ∈ lw_tbl := by decide +kernel
set_option maxRecDepth 1000000 in
theorem ict_r : ∀ q ∈ tt_refs, Jvm.Cond.stringRef q.1 q.2.1 q.2.2.1 ∈ lw_tbl := by decide +kernel
set_option maxRecDepth 1000000 in
theorem ict_l : ∀ w ∈ ([.laysStatic RX4 "KIND_ABOVE" "[I", .laysStatic "java/lang/String" "COMPACT_STRINGS" "Z", .laysStatic "jdk/internal/util/Preconditions" "SIOOBE_FORMATTER" "Ljava/util/function/BiFunction;", .initialized RX4, .initialized "java/lang/String", .initialized "jdk/internal/util/Preconditions", .arrayOver (.object RX0), .arrayOver (.object RJ0)] : List Jvm.Cond), w ∈ lw_tbl := by decide +kernel
theorem ict_q : ∀ q ∈ tt_refs, (q.1 = RX2 ∧ q.2.1 = ic_tx q.2.2.2 ∨ q.1 = RX5 ∧ q.2.1 = ic_ty q.2.2.2) ∧ q.2.2.2 < 11 := by decide +kernel
