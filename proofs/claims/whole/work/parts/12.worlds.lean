/-! ===== worlds: what cells a state is ===== -/
abbrev TS : Type := Nat → Nat → Int32
def tt_set (T : TS) (k : Nat) (f : Nat → Int32) : TS := fun j => if j = k then f else T j
theorem tt_set_same (T : TS) (k : Nat) (f : Nat → Int32) : tt_set T k f k = f := if_pos rfl
theorem tt_set_ne {T : TS} {k j : Nat} {f : Nat → Int32} (h : j ≠ k) : tt_set T k f j = T j := if_neg h
def tt_sub (X : TS) (b : Nat) : TS := fun k => X (b + k)
def tt_put (X : TS) (b n : Nat) (T : TS) : TS := fun k => if b ≤ k ∧ k < b + n then T (k - b) else X k
abbrev tt_tys (cI cR cS : ClassId) : List (ClassId × FieldType) := [(cI, .int), (cR, .object RX0), (cS, .object "java/lang/String")]
def tt_town (a : Nat → Nat) (cI : ClassId) (T : TS) : va_W := [(a 0, .inr (3, [.ref (a 1), .ref (a 2), .ref (a 3), .ref (a 4), .ref (a 5), .ref (a 6), .ref (a 7), .int (T 10 0), .int (T 10 1), .int (T 10 2), .ref (a 8), .ref (a 9), .ref (a 10)])), (a 1, .inl (cI, 8, .inl (T 0))), (a 2, .inl (cI, 8, .inl (T 1))), (a 3, .inl (cI, 8, .inl (T 2))), (a 4, .inl (cI, 8, .inl (T 3))), (a 5, .inl (cI, 8, .inl (T 4))), (a 6, .inl (cI, 8, .inl (T 5))), (a 7, .inl (cI, 10, .inl (T 6))), (a 8, .inl (cI, 8, .inl (T 7))), (a 9, .inl (cI, 8, .inl (T 8))), (a 10, .inl (cI, 8, .inl (T 9)))]
def tt_sheet (a : Nat → Nat) (cI : ClassId) (S : TS) : va_W := [(a 0, .inr (0, [.ref (a 1), .int (S 1 0), .int (S 1 1)])), (a 1, .inl (cI, 40, .inl (S 0)))]
def tt_tape (a : Nat → Nat) (cI : ClassId) (P : TS) : va_W := [(a 0, .inr (1, [.ref (a 1), .int (P 1 0), .int (P 1 1), .int (P 1 2), .int (P 1 3), .int (P 1 4)])), (a 1, .inl (cI, 120, .inl (P 0)))]
def tt_M (a ad : Nat → Nat) (cI cS : ClassId) (M : TS) : va_W := [(a 0, .inr (5, [.ref (a 1), .ref (a 2), .ref (a 3), .int (M 12 0), .ref (a 4), .ref (a 5), .ref (a 6), .int (M 12 1), .ref (a 7), .int (M 12 2), .int (M 12 3), .int (M 12 4), .int (M 12 5), .int (M 12 6), .int (M 12 7), .ref (a 13), .ref (a 8), .int (M 12 8), .int (M 12 9), .ref (a 9), .ref (a 10), .ref (a 11), .ref (a 12)])), (a 1, .inl (cI, 61, .inl (M 0))), (a 2, .inl (cI, 61, .inl (M 1))), (a 3, .inl (cI, 61, .inl (M 2))), (a 4, .inl (cI, 8, .inl (M 3))), (a 5, .inl (cI, 8, .inl (M 4))), (a 6, .inl (cI, 8, .inl (M 5))), (a 7, .inl (cI, 120, .inl (M 6))), (a 8, .inl (cI, 480, .inl (M 7))), (a 9, .inl (cI, 4, .inl (M 8))), (a 10, .inl (cI, 4, .inl (M 9))), (a 11, .inl (cI, 160, .inl (M 10))), (a 12, .inl (cI, 40, .inl (M 11))), (a 13, .inl (cS, 7, .inr (.inr (.inr (.inr (fun k => some (ad k)))))))]
theorem tt_arrx {cA : ClassId} {n : Nat} {f g : Nat → Int32} (e : ∀ j, j < n → f j = g j) : vp_cell cA (n, .inl f) = vp_cell cA (n, .inl g) := by
  rw [vp_cell_i, vp_cell_i]
  unfold arrV
  congr 1
  apply congrArg
  funext j
  show Value.int (f j.val) = Value.int (g j.val)
  rw [e j.val j.isLt]
theorem tt_cx {D : va_G} {cl : List vw_C} {H : Heap} {q q' : Nat × va_E} {ws ws' : va_W} (h : va_at D cl q H → va_at D cl q' H) (k : va_P D cl ws H → va_P D cl ws' H) : va_P D cl (q :: ws) H → va_P D cl (q' :: ws') H := by
  intro hP j r hj
  cases j with
  | zero => cases hj; exact h (hP 0 _ rfl)
  | succ j => exact k (fun i r hi => hP (i + 1) r hi) j r hj
theorem tt_ax {D : va_G} {cl : List vw_C} {H : Heap} {q : Nat} {cA : ClassId} {n : Nat} {f g : Nat → Int32} (e : ∀ j, j < n → f j = g j) : va_at D cl (q, .inl (cA, n, .inl f)) H → va_at D cl (q, .inl (cA, n, .inl g)) H := by
  intro h
  have h1 : H[q]? = some (vp_cell cA (n, .inl f)) := h
  rw [tt_arrx e] at h1
  exact h1
theorem tt_ox {D : va_G} {cl : List vw_C} {H : Heap} {q q' : Nat × va_E} (e : q = q') : va_at D cl q H → va_at D cl q' H := fun h => e ▸ h
def tt_tlen (k : Nat) : Nat := if k = 6 then 10 else if k = 10 then 3 else 8
theorem tt_town_ext {D : va_G} {cl : List vw_C} {H : Heap} {a : Nat → Nat} {cI : ClassId} {T T2 : TS} (e : ∀ k, k < 11 → ∀ j, j < tt_tlen k → T k j = T2 k j) : va_P D cl (tt_town a cI T) H → va_P D cl (tt_town a cI T2) H :=
  tt_cx (tt_ox (by rw [e 10 (by decide) 0 (by decide), e 10 (by decide) 1 (by decide), e 10 (by decide) 2 (by decide)])) (tt_cx (tt_ax (e 0 (by decide))) (tt_cx (tt_ax (e 1 (by decide))) (tt_cx (tt_ax (e 2 (by decide))) (tt_cx (tt_ax (e 3 (by decide))) (tt_cx (tt_ax (e 4 (by decide))) (tt_cx (tt_ax (e 5 (by decide))) (tt_cx (tt_ax (e 6 (by decide))) (tt_cx (tt_ax (e 7 (by decide))) (tt_cx (tt_ax (e 8 (by decide))) (tt_cx (tt_ax (e 9 (by decide))) id))))))))))
def tt_mlen (k : Nat) : Nat := if k < 3 then 61 else if k < 6 then 8 else if k = 6 then 120 else if k = 7 then 480 else if k < 10 then 4 else if k = 10 then 160 else if k = 11 then 40 else 10
theorem tt_M_ext {D : va_G} {cl : List vw_C} {H : Heap} {a ad : Nat → Nat} {cI cS : ClassId} {M M2 : TS} (e : ∀ k, k < 13 → ∀ j, j < tt_mlen k → M k j = M2 k j) : va_P D cl (tt_M a ad cI cS M) H → va_P D cl (tt_M a ad cI cS M2) H :=
  tt_cx (tt_ox (by rw [e 12 (by decide) 0 (by decide), e 12 (by decide) 1 (by decide), e 12 (by decide) 2 (by decide), e 12 (by decide) 3 (by decide), e 12 (by decide) 4 (by decide), e 12 (by decide) 5 (by decide), e 12 (by decide) 6 (by decide), e 12 (by decide) 7 (by decide), e 12 (by decide) 8 (by decide), e 12 (by decide) 9 (by decide)])) (tt_cx (tt_ax (e 0 (by decide))) (tt_cx (tt_ax (e 1 (by decide))) (tt_cx (tt_ax (e 2 (by decide))) (tt_cx (tt_ax (e 3 (by decide))) (tt_cx (tt_ax (e 4 (by decide))) (tt_cx (tt_ax (e 5 (by decide))) (tt_cx (tt_ax (e 6 (by decide))) (tt_cx (tt_ax (e 7 (by decide))) (tt_cx (tt_ax (e 8 (by decide))) (tt_cx (tt_ax (e 9 (by decide))) (tt_cx (tt_ax (e 10 (by decide))) (tt_cx (tt_ax (e 11 (by decide))) (tt_cx (tt_ox rfl) id)))))))))))))
theorem tt_cut0 (ws : va_W) : tt_Cut ws [] [] ws [] := ⟨rfl, rfl, rfl, rfl, rfl⟩
theorem tt_cutM (a ad : Nat → Nat) (cI cS : ClassId) (M M2 : TS) : tt_Cut (tt_M a ad cI cS M) (tt_M a ad cI cS M) (tt_M a ad cI cS M2) (tt_M a ad cI cS M2) [0, 1, 2, 3, 4, 5, 6, 7, 8, 9, 10, 11, 12, 13] := ⟨rfl, rfl, rfl, rfl, rfl⟩
theorem tt_cutT (a : Nat → Nat) (cI : ClassId) (T T2 : TS) : tt_Cut (tt_town a cI T) (tt_town a cI T) (tt_town a cI T2) (tt_town a cI T2) [0, 1, 2, 3, 4, 5, 6, 7, 8, 9, 10] := ⟨rfl, rfl, rfl, rfl, rfl⟩
def tt_two (p q : Nat) (cI : ClassId) (S : TS) : va_W := [(p, .inl (cI, 61, .inl (S 0))), (q, .inl (cI, 61, .inl (S 1)))]
def tt_pair (f g : Nat → Int32) : TS := fun k => if k = 0 then f else g
theorem tt_two_ext {D : va_G} {cl : List vw_C} {H : Heap} {p q : Nat} {cI : ClassId} {S S2 : TS} (e : ∀ k, k < 2 → ∀ j, j < 61 → S k j = S2 k j) : va_P D cl (tt_two p q cI S) H → va_P D cl (tt_two p q cI S2) H := tt_cx (tt_ax (e 0 (by decide))) (tt_cx (tt_ax (e 1 (by decide))) id)
theorem tt_tcase (x : Int32) (lo hi : Nat) (hh : hi < 2 ^ 31) : ((x.toInt < (lo : Int) ∨ (hi : Int) < x.toInt) ∧ ∀ j : Nat, lo ≤ j → j ≤ hi → ¬ x = nI j) ∨ ∃ j : Nat, lo ≤ j ∧ j ≤ hi ∧ x = nI j := by
  by_cases h : x.toInt < (lo : Int) ∨ (hi : Int) < x.toInt
  · refine Or.inl ⟨h, fun j h1 h2 e => ?_⟩
    rw [e, nI_toInt (by omega)] at h
    omega
  · refine Or.inr ⟨x.toInt.toNat, by omega, by omega, ?_⟩
    apply Int32.toInt_inj.mp
    rw [nI_toInt (by omega)]
    omega
