/-! ===== the small machine and the machine: worlds, values, what stays ===== -/
def am_flds (a : Nat → Nat) (g : Nat → Int32) : Nat → List Nat → List Value
  | _, [] => []
  | i, f :: fs => (match f with
    | 0 => Value.int (g i)
    | j + 1 => Value.ref (a j)) :: am_flds a g (i + 1) fs
def am_cell (a : Nat → Nat) (cI cR cS : ClassId) (G : GG) (k : Nat) : va_E := match am_sh k with
  | [0, n] => .inl (cI, n, .inl (G k))
  | 1 :: ci :: fs => .inr (ci, am_flds a (G k) 0 fs)
  | 2 :: c :: rs => .inl (if c = 0 then cR else cS, rs.length, .inr (.inr (.inr (.inr (fun i => (rs[i]?).map a)))))
  | _ => .inl (cI, 0, .inl (G k))
def am_W (a : Nat → Nat) (cI cR cS : ClassId) (G : GG) : va_W := (List.range 72).map fun k => (a k, am_cell a cI cR cS G k)
def am_v (a : Nat → Nat) (sio : Value) (v : Value) : Value := match v with
  | .ref k => if k = 500 then sio else .ref (a k)
  | v => v
def am_ty (cI cR cS : ClassId) : List (ClassId × FieldType) := [(cI, .int), (cR, .object RX0), (cS, .object "java/lang/String")]
theorem am_v_ref {a : Nat → Nat} {sio : Value} {k : Nat} (h : k < 500) : am_v a sio (.ref k) = .ref (a k) := by
  have hk : ¬ k = 500 := by omega
  exact if_neg hk
theorem am_v_cat {a : Nat → Nat} {sio : Value} (hs : sio.category = 1) (v : Value) : (am_v a sio v).category = v.category := by
  cases v with
  | ref k =>
    show (if k = 500 then sio else .ref (a k)).category = 1
    by_cases h : k = 500
    · rw [if_pos h]; exact hs
    · rw [if_neg h]; rfl
  | _ => rfl
theorem am_sh_lt {k : Nat} (h : am_sh k ≠ []) : k < 72 := by
  rcases Nat.lt_or_ge k 72 with q | q
  · exact q
  · exact absurd (by unfold am_sh; rw [List.getD_eq_getElem?_getD, List.getElem?_eq_none (by show 72 ≤ k; exact q)]; rfl) h
theorem am_W_get {a : Nat → Nat} {cI cR cS : ClassId} {G : GG} {k : Nat} (hk : k < 72) : (am_W a cI cR cS G)[k]? = some (a k, am_cell a cI cR cS G k) := by simp [am_W, hk]
theorem am_W_len {a : Nat → Nat} {cI cR cS : ClassId} {G : GG} : (am_W a cI cR cS G).length = 72 := by simp [am_W]
theorem am_W_set {a : Nat → Nat} {cI cR cS : ClassId} {G : GG} {k : Nat} {f : Nat → Int32} {e : va_E} (hk : k < 72) (he : am_cell a cI cR cS (gset G k f) k = e) : (am_W a cI cR cS G).set k (a k, e) = am_W a cI cR cS (gset G k f) := by
  apply List.ext_getElem?
  intro j
  by_cases hj : j = k
  · subst hj
    rw [List.getElem?_set_self (by rw [am_W_len]; exact hk), am_W_get hk, he]
  · rw [List.getElem?_set_ne (Ne.symm hj)]
    by_cases hl : j < 72
    · rw [am_W_get hl, am_W_get hl]
      unfold am_cell
      rw [show gset G k f j = G j from if_neg hj]
    · simp [am_W, hl]
theorem am_flds_get (a : Nat → Nat) (g : Nat → Int32) : ∀ (fs : List Nat) (i n : Nat), (am_flds a g i fs)[n]? = (fs[n]?).map (fun f => match f with
    | 0 => Value.int (g (i + n))
    | j + 1 => Value.ref (a j))
  | [], i, n => by simp [am_flds]
  | f :: fs, i, 0 => by simp [am_flds]
  | f :: fs, i, n + 1 => by
    simp only [am_flds, List.getElem?_cons_succ]
    rw [am_flds_get a g fs (i + 1) n, show i + 1 + n = i + (n + 1) by omega]
theorem am_flds_len (a : Nat → Nat) (g : Nat → Int32) : ∀ (fs : List Nat) (i : Nat), (am_flds a g i fs).length = fs.length
  | [], i => rfl
  | f :: fs, i => by simp [am_flds, am_flds_len a g fs (i + 1)]
theorem am_flds_far (a : Nat → Nat) (g : Nat → Int32) (p : Nat) (x : Int32) : ∀ (fs : List Nat) (i : Nat), p < i → am_flds a (upd g p x) i fs = am_flds a g i fs
  | [], i, _ => rfl
  | f :: fs, i, h => by
    simp only [am_flds]
    rw [am_flds_far a g p x fs (i + 1) (by omega), show upd g p x i = g i from if_neg (by omega)]
theorem am_flds_set (a : Nat → Nat) (g : Nat → Int32) (x : Int32) : ∀ (fs : List Nat) (i n : Nat), fs[n]? = some 0 → (am_flds a g i fs).set n (.int x) = am_flds a (upd g (i + n) x) i fs
  | [], i, n, h => by simp at h
  | f :: fs, i, 0, h => by
    simp only [List.getElem?_cons_zero, Option.some.injEq] at h
    subst h
    simp only [am_flds, List.set_cons_zero, Nat.add_zero]
    rw [am_flds_far a g i x fs (i + 1) (by omega), show upd g i x i = x from if_pos rfl]
  | f :: fs, i, n + 1, h => by
    simp only [List.getElem?_cons_succ] at h
    simp only [am_flds, List.set_cons_succ]
    rw [am_flds_set a g x fs (i + 1) n h, show i + 1 + n = i + (n + 1) by omega, show upd g (i + (n + 1)) x i = g i from if_neg (by omega)]
theorem am_W_D {a : Nat → Nat} {cI cR cS : ClassId} {G : GG} {A : Nat → Prop} (h : (∀ i j, i < 72 → j < 72 → a i = a j → i = j) ∧ ∀ k, k < 72 → A (a k)) : va_D A (am_W a cI cR cS G) := by
  have key : ∀ (i : Nat) (p : Nat × va_E), (am_W a cI cR cS G)[i]? = some p → i < 72 ∧ p.1 = a i := by
    intro i p hp
    have hi : i < 72 := by rw [← am_W_len (a := a) (cI := cI) (cR := cR) (cS := cS) (G := G)]; exact (List.getElem?_eq_some_iff.mp hp).1
    rw [am_W_get hi] at hp
    cases hp
    exact ⟨hi, rfl⟩
  refine ⟨fun i j p q hi hj hpq => ?_, fun k q hk => ?_⟩
  · obtain ⟨a1, a2⟩ := key i p hi
    obtain ⟨b1, b2⟩ := key j q hj
    exact h.1 i j a1 b1 (by rw [← a2, ← b2, hpq])
  · obtain ⟨a1, a2⟩ := key k q hk
    rw [a2]
    exact h.2 k a1
/-- what stays as it was at the start -/
def am_E (a : Nat → Nat) (sio : Value) (X : AmX) (A : Nat → Prop) (U : State) (H : Heap) : Prop :=
  tt_N U ∧ tt_R (fun j => a (100 + j)) U ∧ va_Z RX4 "KIND_ABOVE" "[I" (.ref (a 300)) A U H ∧ va_T .int (a 300) 7 (fun k => .int (tt_above k)) A U H ∧ va_Z "java/lang/String" "COMPACT_STRINGS" "Z" (.int 1) A U H ∧ va_Z "jdk/internal/util/Preconditions" "SIOOBE_FORMATTER" "Ljava/util/function/BiFunction;" sio A U H ∧ vk_S 11 tt_len tt_byt (fun j => a (100 + j)) (fun j => a (200 + j)) A U H ∧ va_T .int (a 400) X.1 (fun j => .int (X.2 j)) A U H
theorem am_E.warm {a : Nat → Nat} {sio : Value} {X : AmX} {A : Nat → Prop} {s U : State} {H : Heap} (hW : s.WarmedH U.vm) (h : am_E a sio X A s H) : am_E a sio X A U H :=
  ⟨fun q hq => va_Nw.warmM hW (h.1 q hq), fun q hq => vk_R.warm hW (h.2.1 q hq), h.2.2.1.moved hW.alike, h.2.2.2.1.moved hW.alike, h.2.2.2.2.1.moved hW.alike, h.2.2.2.2.2.1.moved hW.alike, h.2.2.2.2.2.2.1.moved hW.alike, h.2.2.2.2.2.2.2.moved hW.alike⟩
theorem am_E.same {a : Nat → Nat} {sio : Value} {X : AmX} {A : Nat → Prop} {u U : State} {H : Heap} (hv : U.vm = u.vm) (h : am_E a sio X A u H) : am_E a sio X A U H :=
  have hA : u.vm.Alike U.vm := by rw [hv]; exact Vm.Alike.refl u.vm
  ⟨fun q hq => va_Nw.same rfl hv.symm (h.1 q hq), fun q hq => vk_R.same hv (h.2.1 q hq), h.2.2.1.moved hA, h.2.2.2.1.moved hA, h.2.2.2.2.1.moved hA, h.2.2.2.2.2.1.moved hA, h.2.2.2.2.2.2.1.moved hA, h.2.2.2.2.2.2.2.moved hA⟩
theorem am_E.kept {a : Nat → Nat} {sio : Value} {X : AmX} {A : Nat → Prop} {U : State} {H0 H : Heap} {locs : List Loc} (h : am_E a sio X A U H0) (hS : va_S A H0 H locs) : am_E a sio X A U H :=
  ⟨h.1, h.2.1, h.2.2.1.kept hS.2.1, h.2.2.2.1.kept hS.2.1, h.2.2.2.2.1.kept hS.2.1, h.2.2.2.2.2.1.kept hS.2.1, h.2.2.2.2.2.2.1.kept hS.2.1, h.2.2.2.2.2.2.2.kept hS.2.1⟩
theorem am_E.narrow {a : Nat → Nat} {sio : Value} {X : AmX} {A B : Nat → Prop} {U : State} {H : Heap} (h : am_E a sio X A U H) (hAB : ∀ q, B q → A q) : am_E a sio X B U H :=
  ⟨h.1, h.2.1, h.2.2.1.narrow hAB, h.2.2.2.1.narrow hAB, h.2.2.2.2.1.narrow hAB, h.2.2.2.2.2.1.narrow hAB, h.2.2.2.2.2.2.1.narrow hAB, h.2.2.2.2.2.2.2.narrow hAB⟩
/-- locals -/
def am_lvo (mv : Value → Value) : Nat → LV → List (Nat × Value)
  | _, [] => []
  | i, none :: r => am_lvo mv (i + 1) r
  | i, some v :: r => (i, mv v) :: am_lvo mv (i + 1) r
theorem am_lvo_mem (mv : Value → Value) : ∀ (lv : LV) (i : Nat) (q : Nat × Value), q ∈ am_lvo mv i lv ↔ ∃ (j : Nat) (v : Value), lv[j]? = some (some v) ∧ q = (i + j, mv v)
  | [], i, q => by simp [am_lvo]
  | none :: r, i, q => by
    simp only [am_lvo]
    rw [am_lvo_mem mv r (i + 1) q]
    constructor
    · rintro ⟨j, v, h1, h2⟩
      exact ⟨j + 1, v, h1, by rw [h2, show i + 1 + j = i + (j + 1) by omega]⟩
    · rintro ⟨j, v, h1, h2⟩
      cases j with
      | zero => simp at h1
      | succ j => exact ⟨j, v, h1, by rw [h2, show i + 1 + j = i + (j + 1) by omega]⟩
  | some w :: r, i, q => by
    simp only [am_lvo, List.mem_cons]
    rw [am_lvo_mem mv r (i + 1) q]
    constructor
    · rintro (h | ⟨j, v, h1, h2⟩)
      · exact ⟨0, w, rfl, h⟩
      · exact ⟨j + 1, v, h1, by rw [h2, show i + 1 + j = i + (j + 1) by omega]⟩
    · rintro ⟨j, v, h1, h2⟩
      cases j with
      | zero =>
        simp only [List.getElem?_cons_zero, Option.some.injEq] at h1
        subst h1
        exact Or.inl h2
      | succ j => exact Or.inr ⟨j, v, h1, by rw [h2, show i + 1 + j = i + (j + 1) by omega]⟩
theorem am_lv_at {mv : Value → Value} {lv : LV} {ls : Array Slot} {nL j : Nat} {v : Value} (h : lv_has ls nL (am_lvo mv 0 lv)) (hj : lv[j]? = some (some v)) : ls[j]? = some (.val (mv v)) := by
  have := h.2.2 (j, mv v) ((am_lvo_mem mv lv 0 _).mpr ⟨j, v, hj, by simp⟩)
  exact this
theorem am_lv_lt {mv : Value → Value} {lv : LV} {ls : Array Slot} {nL j : Nat} (h : lv_has ls nL (am_lvo mv 0 lv)) (hL : lv.length = nL) (hj : j < lv.length) : j < nL := by omega
theorem am_ok1_spec {lv : LV} {j : Nat} (h : am_ok1 lv j = true) : j < lv.length ∧ ∀ i v, i + 1 = j → lv[i]? = some (some v) → v.category = 1 := by
  cases j with
  | zero => exact ⟨by simpa [am_ok1] using h, fun i v hi => by omega⟩
  | succ j =>
    simp only [am_ok1, Bool.and_eq_true, decide_eq_true_eq] at h
    refine ⟨h.1, fun i v hi hv => ?_⟩
    have : i = j := by omega
    subst this
    have h2 := h.2
    rw [hv] at h2
    simpa [am_nl] using h2
theorem am_lv_set {mv : Value → Value} {lv : LV} {ls : Array Slot} {nL j : Nat} {v : Value} (hc : ∀ v, (mv v).category = v.category) (ho : am_ok1 lv j = true) (h : lv_has ls nL ((j, mv v) :: (am_lvo mv 0 lv).filter (fun q => !(q.1 == j) && !(q.1 + 1 == j && q.2.category == 2)))) : lv_has ls nL (am_lvo mv 0 (lv.set j (some v))) := by
  obtain ⟨hlt, hpre⟩ := am_ok1_spec ho
  refine ⟨h.1, h.2.1, fun q hq => h.2.2 q ?_⟩
  obtain ⟨i, w, h1, h2⟩ := (am_lvo_mem mv _ 0 q).mp hq
  rw [Nat.zero_add] at h2
  by_cases hi : i = j
  · subst hi
    rw [List.getElem?_set_self hlt] at h1
    cases h1
    rw [h2]
    exact List.mem_cons_self
  · rw [List.getElem?_set_ne (Ne.symm hi)] at h1
    refine List.mem_cons_of_mem _ (List.mem_filter.mpr ⟨(am_lvo_mem mv _ 0 q).mpr ⟨i, w, h1, by rw [h2, Nat.zero_add]⟩, ?_⟩)
    subst h2
    simp only [Bool.and_eq_true, Bool.not_eq_true', beq_eq_false_iff_ne, ne_eq, Bool.and_eq_false_iff]
    refine ⟨hi, ?_⟩
    by_cases h3 : i + 1 = j
    · right
      rw [hc, hpre i w h3 h1]
      decide
    · exact Or.inl h3
theorem am_lv_set2 {mv : Value → Value} {lv : LV} {ls : Array Slot} {nL j : Nat} {v : Value} (hc : ∀ v, (mv v).category = v.category) (ho : am_ok2 lv j = true) (h : lv_has ls nL ((j, mv v) :: (am_lvo mv 0 lv).filter (fun q => !(q.1 == j) && (!(q.1 == j + 1) && !(q.1 + 1 == j && q.2.category == 2))))) : lv_has ls nL (am_lvo mv 0 ((lv.set j (some v)).set (j + 1) none)) := by
  simp only [am_ok2, Bool.and_eq_true, decide_eq_true_eq] at ho
  obtain ⟨hlt, hpre⟩ := am_ok1_spec ho.2
  refine ⟨h.1, h.2.1, fun q hq => h.2.2 q ?_⟩
  obtain ⟨i, w, h1, h2⟩ := (am_lvo_mem mv _ 0 q).mp hq
  rw [Nat.zero_add] at h2
  by_cases hi1 : i = j + 1
  · subst hi1
    rw [List.getElem?_set_self (by simpa using ho.1)] at h1
    cases h1
  rw [List.getElem?_set_ne (Ne.symm hi1)] at h1
  by_cases hi : i = j
  · subst hi
    rw [List.getElem?_set_self hlt] at h1
    cases h1
    rw [h2]
    exact List.mem_cons_self
  · rw [List.getElem?_set_ne (Ne.symm hi)] at h1
    refine List.mem_cons_of_mem _ (List.mem_filter.mpr ⟨(am_lvo_mem mv _ 0 q).mpr ⟨i, w, h1, by rw [h2, Nat.zero_add]⟩, ?_⟩)
    subst h2
    simp only [Bool.and_eq_true, Bool.not_eq_true', beq_eq_false_iff_ne, ne_eq, Bool.and_eq_false_iff]
    refine ⟨hi, hi1, ?_⟩
    by_cases h3 : i + 1 = j
    · right
      rw [hc, hpre i w h3 h1]
      decide
    · exact Or.inl h3
/-- what a walk needs, all in one -/
def am_C (a : Nat → Nat) (sio : Value) (X : AmX) (cI cR cS : ClassId) (D : va_G) (k : Nat) (p : Program) (R : Room) (s : State) (m : MethodId) (args : Array Value) (c : Code) (A : Nat → Prop) (cells slots : Nat) : Prop :=
  p.tables.exec = Jvm.exec ∧ c.code = am_cc k ∧ c.maxLocals = am_mx k ∧ s.vm.findClass (am_cn (am_own k)) = some m.cls ∧ (∀ w ∈ wsL_law, w.before args s = true) ∧ va_K D vwCl (am_ty cI cR cS) s ∧ am_E a sio X A s s.heap ∧ (∀ q : Nat, s.heap.size ≤ q → A q) ∧ am_fr k ≤ R.frames ∧ am_lo k ≤ R.locals ∧ cells ≤ R.cells ∧ slots ≤ R.slots ∧ ((∀ i j, i < 72 → j < 72 → a i = a j → i = j) ∧ ∀ k, k < 72 → A (a k)) ∧ sio.category = 1
def am_Wt (Wf : Heap → List Loc → JFrame → Prop) (D : va_G) (a : Nat → Nat) (sio : Value) (cI cR cS : ClassId) (m : MethodId) (nL : Nat) (A : Nat → Prop) (H0 : Heap) (pc : Nat) (lv : LV) (st : List Value) (G : GG) : Prop := lv.length = nL → ∀ (ls : Array Slot) (H : Heap) (locs : List Loc), va_P D vwCl (am_W a cI cR cS G) H → va_S A H0 H locs → lv_has ls nL (am_lvo (am_v a sio) 0 lv) → Wf H locs (F0 m pc ls (st.map (am_v a sio)))
theorem am_word {args : Array Value} {s : State} (h : ∀ w ∈ wsL_law, w.before args s = true) {i : Nat} {w : Jvm.Cond} (hi : wsL_law[i]? = some w) : w.before args s = true := h w (List.mem_of_getElem? hi)
theorem am_uws (ci : Nat) (hc : ci < 6) : ∀ w ∈ u_ws (am_cn ci) (am_T ci) ((vwCl[ci]?).map (fun q => q.2.2) |>.getD 0), w ∈ wsL_law := by
  rcases (by omega : ci = 0 ∨ ci = 1 ∨ ci = 2 ∨ ci = 3 ∨ ci = 4 ∨ ci = 5) with rfl | rfl | rfl | rfl | rfl | rfl
  · exact fun _ h => List.mem_append_left _ (List.mem_append_left _ (List.mem_append_right _ h))
  · exact fun _ h => List.mem_append_left _ (List.mem_append_right _ h)
  · exact fun _ h => List.mem_append_left _ (List.mem_append_left _ (List.mem_append_left _ (List.mem_append_right _ h)))
  · exact fun _ h => List.mem_append_left _ (List.mem_append_left _ (List.mem_append_left _ (List.mem_append_left _ (List.mem_append_right _ h))))
  · exact fun _ h => List.mem_append_left _ (List.mem_append_left _ (List.mem_append_left _ (List.mem_append_left _ (List.mem_append_left _ (List.mem_append_left _ (List.mem_append_right _ h))))))
  · exact fun _ h => List.mem_append_left _ (List.mem_append_left _ (List.mem_append_left _ (List.mem_append_left _ (List.mem_append_left _ (List.mem_append_right _ h)))))
