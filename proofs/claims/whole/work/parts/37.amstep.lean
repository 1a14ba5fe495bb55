/-! ===== one step of the small machine is a step of the machine: printed by program ===== -/
theorem am_lookup_memN {β : Type} {q : Nat} {v : β} : ∀ (l : List (Nat × β)), l.lookup q = some v → (q, v) ∈ l
  | [], h => by cases h
  | (q', v') :: l, h => by
    rw [List.lookup_cons] at h
    by_cases hq : q == q'
    · rw [hq] at h
      have e : q = q' := eq_of_beq hq
      cases h
      rw [e]
      exact List.mem_cons_self
    · rw [Bool.not_eq_true] at hq
      rw [hq] at h
      exact List.mem_cons_of_mem _ (am_lookup_memN l h)
theorem am_blk_at {k b : Nat} (hk : am_okm k = true) : am_blk k b = [] ∨ am_at k b (am_blk k b) = true := by
  unfold am_blk
  cases hl : (am_tL.getD k []).lookup b with
  | none => exact Or.inl rfl
  | some ops => exact Or.inr (List.all_eq_true.mp hk (b, ops) (am_lookup_memN _ hl))
theorem am_at_dec {k pc : Nat} {i : Instr} {r : List Instr} (h : am_at k pc (i :: r) = true) : (∃ t : Int, i = .goto_w t ∧ t = (pc : Int)) ∨ ∃ (real : Instr) (len : Nat), decode (am_cc k) pc = .ok (real, len) ∧ am_res k pc real = some i ∧ am_ln real len = true ∧ am_ctl k i = true ∧ (am_term i = true ∨ am_at k (pc + len) r = true) := by
  unfold am_at at h
  split at h
  next t => exact Or.inl ⟨t, rfl, by simpa using h⟩
  next hg =>
    split at h
    next real len hd =>
      simp only [Bool.and_eq_true, Bool.or_eq_true, decide_eq_true_eq] at h
      exact Or.inr ⟨real, len, hd, h.1.1.1, h.1.1.2, h.1.2, h.2⟩
    next => cases h
section AMI
variable {X : AmX} {k : Nat} {r ops1 : List Instr} {lv lv1 : LV} {st st1 : List Value} {G G1 : GG}
theorem am_push_inv {v : Value} (h : am_push r lv st G v = some (.inl (ops1, lv1, st1, G1))) : r = ops1 ∧ lv = lv1 ∧ v :: st = st1 ∧ G = G1 := by
  unfold am_push at h
  cases h
  exact ⟨rfl, rfl, rfl, rfl⟩
theorem am_some_inv {r' : List Instr} {lv' : LV} {st' : List Value} {G' : GG} (h : (some (.inl (r', lv', st', G')) : AmR) = some (.inl (ops1, lv1, st1, G1))) : r' = ops1 ∧ lv' = lv1 ∧ st' = st1 ∧ G' = G1 := by
  cases h
  exact ⟨rfl, rfl, rfl, rfl⟩
theorem am_bin_inv {f : Int32 → Int32 → Int32} (h : am_bin f r lv st G = some (.inl (ops1, lv1, st1, G1))) : ∃ x y s, st = .int y :: .int x :: s ∧ r = ops1 ∧ lv = lv1 ∧ .int (f x y) :: s = st1 ∧ G = G1 := by
  unfold am_bin at h
  split at h
  next y x s => exact ⟨x, y, s, rfl, am_push_inv h⟩
  next => cases h
theorem am_binZ_inv {f : Int32 → Int32 → Int32} (h : am_binZ f r lv st G = some (.inl (ops1, lv1, st1, G1))) : ∃ x y s, st = .int y :: .int x :: s ∧ ¬ y = nI 0 ∧ r = ops1 ∧ lv = lv1 ∧ .int (f x y) :: s = st1 ∧ G = G1 := by
  unfold am_binZ at h
  split at h
  next y x s =>
    split at h
    next => cases h
    next hy => exact ⟨x, y, s, rfl, hy, am_push_inv h⟩
  next => cases h
theorem am_binL_inv {f : Int64 → Int64 → Int64} (h : am_binL f r lv st G = some (.inl (ops1, lv1, st1, G1))) : ∃ x y s, st = .long y :: .long x :: s ∧ r = ops1 ∧ lv = lv1 ∧ .long (f x y) :: s = st1 ∧ G = G1 := by
  unfold am_binL at h
  split at h
  next y x s => exact ⟨x, y, s, rfl, am_push_inv h⟩
  next => cases h
theorem am_un_inv {f : Int32 → Int32} (h : am_un f r lv st G = some (.inl (ops1, lv1, st1, G1))) : ∃ x s, st = .int x :: s ∧ r = ops1 ∧ lv = lv1 ∧ .int (f x) :: s = st1 ∧ G = G1 := by
  unfold am_un at h
  split at h
  next x s => exact ⟨x, s, rfl, am_push_inv h⟩
  next => cases h
theorem am_opt_inv {α : Type} {o : Option α} {f : α → AmR} {z : (List Instr × LV × List Value × GG) ⊕ ((Option Value × GG) ⊕ (Nat × List Value × LV × List Value))} (h : am_opt o f = some z) : ∃ x, o = some x ∧ f x = some z := by
  cases o with
  | none => cases h
  | some x => exact ⟨x, rfl, h⟩
theorem am_cst_inv {n : Int} (h : am_st X k (am_cst n) r lv st G = some (.inl (ops1, lv1, st1, G1))) : r = ops1 ∧ lv = lv1 ∧ .int (Int32.ofInt n) :: st = st1 ∧ G = G1 := by
  cases n with
  | ofNat n => exact am_push_inv h
  | negSucc n => exact am_push_inv h
end AMI
theorem am_mlk_lt : ∀ q ∈ am_mlk, q.2.1 < 500 := by decide +kernel
theorem am_nlk_lt : ∀ q ∈ am_nlk, q.2.1 < 500 := by decide +kernel
theorem am_ctl_sw {k : Nat} {d lo hi : Int} {offs : Array Int} (h : am_ctl k (.tableswitch d lo hi offs) = true) : 0 ≤ d ∧ (∀ z ∈ offs.toList, 0 ≤ z) ∧ hi - lo < (offs.size : Int) := by
  simp only [am_ctl, Bool.and_eq_true, decide_eq_true_eq, List.all_eq_true] at h
  exact ⟨h.1.1, h.1.2, h.2⟩
theorem am_ret_ninl {X : AmX} {k t : Nat} {r ops1 : List Instr} {lv lv1 : LV} {st st1 : List Value} {G G1 : GG} : ¬ am_st X k (.ret t) r lv st G = some (.inl (ops1, lv1, st1, G1)) := by
  intro h
  simp only [am_st] at h
  split at h
  · split at h <;> cases h
  · split at h <;> cases h
  · split at h <;> cases h
  · cases h
section AMS
variable {p : Program} {l : Launch} {e : Env} {R : Room} {s : State} {m : MethodId} {args : Array Value} {below : List Frame} {meth : Method} {c : Code} {cells slots : Nat} {Q : State → Prop}
variable {a : Nat → Nat} {sio : Value} {X : AmX} {cI cR cS : ClassId} {D : va_G} {k : Nat} {A : Nat → Prop} {pc : Nat} {lv lv1 : LV} {st st1 : List Value} {G G1 : GG} {i : Instr} {r ops1 : List Instr}
theorem am_step (C : am_C a sio X cI cR cS D k p R s m args c A cells slots) (hat : am_at k pc (i :: r) = true) (hst : am_st X k i r lv st G = some (.inl (ops1, lv1, st1, G1))) : ∃ pc1, (am_at k pc1 ops1 = true ∨ ops1 = am_blk k pc1) ∧ (am_Wt (fun H locs g => W p l e R s m args below meth c H locs cells slots Q g) D a sio cI cR cS m (am_mx k) A s.heap (pc1) (lv1) (st1) (G1) → am_Wt (fun H locs g => W p l e R s m args below meth c H locs cells slots Q g) D a sio cI cR cS m (am_mx k) A s.heap (pc) (lv) (st) (G)) := by
  rcases am_at_dec hat with ⟨t, rfl, rfl⟩ | ⟨real, len, hd, hres, hln, hctl, hr⟩
  · obtain ⟨rfl, rfl, rfl, rfl⟩ := am_some_inv hst
    exact ⟨_, Or.inr rfl, fun h => h⟩
  cases real with
  | iload j =>
    obtain rfl := Option.some.inj (show some (.iload j) = some i from hres)
    obtain rfl : len = 2 := eq_of_beq hln
    have hr := hr.resolve_left (fun z => by cases z)
    simp only [am_st] at hst
    split at hst
    next x hj =>
      obtain ⟨rfl, rfl, rfl, rfl⟩ := am_push_inv hst
      exact ⟨_, Or.inl hr, as_iload C hd hj⟩
    next => cases hst
  | istore j =>
    obtain rfl := Option.some.inj (show some (.istore j) = some i from hres)
    obtain rfl : len = 2 := eq_of_beq hln
    have hr := hr.resolve_left (fun z => by cases z)
    simp only [am_st] at hst
    split at hst
    next x s1 =>
      split at hst
      next ho =>
        obtain ⟨rfl, rfl, rfl, rfl⟩ := am_some_inv hst
        exact ⟨_, Or.inl hr, as_istore C hd ho⟩
      next => cases hst
    next => cases hst
  | iload_n j =>
    obtain rfl := Option.some.inj (show some (.iload j.val) = some i from hres)
    obtain rfl : len = 1 := eq_of_beq hln
    have hr := hr.resolve_left (fun z => by cases z)
    simp only [am_st] at hst
    split at hst
    next x hj =>
      obtain ⟨rfl, rfl, rfl, rfl⟩ := am_push_inv hst
      exact ⟨_, Or.inl hr, as_iload_n C hd hj⟩
    next => cases hst
  | istore_n j =>
    obtain rfl := Option.some.inj (show some (.istore j.val) = some i from hres)
    obtain rfl : len = 1 := eq_of_beq hln
    have hr := hr.resolve_left (fun z => by cases z)
    simp only [am_st] at hst
    split at hst
    next x s1 =>
      split at hst
      next ho =>
        obtain ⟨rfl, rfl, rfl, rfl⟩ := am_some_inv hst
        exact ⟨_, Or.inl hr, as_istore_n C hd ho⟩
      next => cases hst
    next => cases hst
  | lload j =>
    obtain rfl := Option.some.inj (show some (.lload j) = some i from hres)
    obtain rfl : len = 2 := eq_of_beq hln
    have hr := hr.resolve_left (fun z => by cases z)
    simp only [am_st] at hst
    split at hst
    next x hj =>
      obtain ⟨rfl, rfl, rfl, rfl⟩ := am_push_inv hst
      exact ⟨_, Or.inl hr, as_lload C hd hj⟩
    next => cases hst
  | lstore j =>
    obtain rfl := Option.some.inj (show some (.lstore j) = some i from hres)
    obtain rfl : len = 2 := eq_of_beq hln
    have hr := hr.resolve_left (fun z => by cases z)
    simp only [am_st] at hst
    split at hst
    next x s1 =>
      split at hst
      next ho =>
        obtain ⟨rfl, rfl, rfl, rfl⟩ := am_some_inv hst
        exact ⟨_, Or.inl hr, as_lstore C hd ho⟩
      next => cases hst
    next => cases hst
  | lload_n j =>
    obtain rfl := Option.some.inj (show some (.lload j.val) = some i from hres)
    obtain rfl : len = 1 := eq_of_beq hln
    have hr := hr.resolve_left (fun z => by cases z)
    simp only [am_st] at hst
    split at hst
    next x hj =>
      obtain ⟨rfl, rfl, rfl, rfl⟩ := am_push_inv hst
      exact ⟨_, Or.inl hr, as_lload_n C hd hj⟩
    next => cases hst
  | lstore_n j =>
    obtain rfl := Option.some.inj (show some (.lstore j.val) = some i from hres)
    obtain rfl : len = 1 := eq_of_beq hln
    have hr := hr.resolve_left (fun z => by cases z)
    simp only [am_st] at hst
    split at hst
    next x s1 =>
      split at hst
      next ho =>
        obtain ⟨rfl, rfl, rfl, rfl⟩ := am_some_inv hst
        exact ⟨_, Or.inl hr, as_lstore_n C hd ho⟩
      next => cases hst
    next => cases hst
  | aload j =>
    obtain rfl := Option.some.inj (show some (.aload j) = some i from hres)
    obtain rfl : len = 2 := eq_of_beq hln
    have hr := hr.resolve_left (fun z => by cases z)
    simp only [am_st] at hst
    split at hst
    next x hj =>
      split at hst
      next hx5 =>
        obtain ⟨rfl, rfl, rfl, rfl⟩ := am_push_inv hst
        exact ⟨_, Or.inl hr, as_aload C hd hj hx5⟩
      next => cases hst
    next => cases hst
  | astore j =>
    obtain rfl := Option.some.inj (show some (.astore j) = some i from hres)
    obtain rfl : len = 2 := eq_of_beq hln
    have hr := hr.resolve_left (fun z => by cases z)
    simp only [am_st] at hst
    split at hst
    next x s1 =>
      split at hst
      next ho =>
        obtain ⟨rfl, rfl, rfl, rfl⟩ := am_some_inv hst
        exact ⟨_, Or.inl hr, as_astore C hd ho.1 ho.2⟩
      next => cases hst
    next => cases hst
  | aload_n j =>
    obtain rfl := Option.some.inj (show some (.aload j.val) = some i from hres)
    obtain rfl : len = 1 := eq_of_beq hln
    have hr := hr.resolve_left (fun z => by cases z)
    simp only [am_st] at hst
    split at hst
    next x hj =>
      split at hst
      next hx5 =>
        obtain ⟨rfl, rfl, rfl, rfl⟩ := am_push_inv hst
        exact ⟨_, Or.inl hr, as_aload_n C hd hj hx5⟩
      next => cases hst
    next => cases hst
  | astore_n j =>
    obtain rfl := Option.some.inj (show some (.astore j.val) = some i from hres)
    obtain rfl : len = 1 := eq_of_beq hln
    have hr := hr.resolve_left (fun z => by cases z)
    simp only [am_st] at hst
    split at hst
    next x s1 =>
      split at hst
      next ho =>
        obtain ⟨rfl, rfl, rfl, rfl⟩ := am_some_inv hst
        exact ⟨_, Or.inl hr, as_astore_n C hd ho.1 ho.2⟩
      next => cases hst
    next => cases hst
  | iconst n =>
    obtain rfl := Option.some.inj (show some (am_cst n) = some i from hres)
    obtain rfl : len = 1 := eq_of_beq hln
    have hr := hr.resolve_left (fun z => by cases n <;> cases z)
    obtain ⟨rfl, rfl, rfl, rfl⟩ := am_cst_inv hst
    exact ⟨_, Or.inl hr, as_iconst C hd⟩
  | bipush n =>
    obtain rfl : len = 2 := eq_of_beq hln
    have hres : (if -128 ≤ n ∧ n < 128 then some (am_cst n) else none) = some i := hres
    split at hres
    next hn =>
      obtain rfl := Option.some.inj hres
      have hr := hr.resolve_left (fun z => by cases n <;> cases z)
      obtain ⟨rfl, rfl, rfl, rfl⟩ := am_cst_inv hst
      refine ⟨_, Or.inl hr, fun kk => as_bipush C hd ?_⟩
      rw [am_i8 hn.1 hn.2]
      exact kk
    next => cases hres
  | sipush n =>
    obtain rfl : len = 3 := eq_of_beq hln
    have hres : (if -32768 ≤ n ∧ n < 32768 then some (am_cst n) else none) = some i := hres
    split at hres
    next hn =>
      obtain rfl := Option.some.inj hres
      have hr := hr.resolve_left (fun z => by cases n <;> cases z)
      obtain ⟨rfl, rfl, rfl, rfl⟩ := am_cst_inv hst
      refine ⟨_, Or.inl hr, fun kk => as_sipush C hd ?_⟩
      rw [am_i16 hn.1 hn.2]
      exact kk
    next => cases hres
  | lconst n =>
    obtain rfl := Option.some.inj (show some (.lconst n) = some i from hres)
    obtain rfl : len = 1 := eq_of_beq hln
    have hr := hr.resolve_left (fun z => by cases z)
    obtain ⟨rfl, rfl, rfl, rfl⟩ := am_push_inv hst
    exact ⟨_, Or.inl hr, as_lconst C hd⟩
  | ldc j =>
    obtain rfl : len = 2 := eq_of_beq hln
    simp only [am_res] at hres
    split at hres
    next q hq =>
      obtain rfl := Option.some.inj hres
      have hr := hr.resolve_left (fun z => by rcases q with ⟨n, _⟩; cases n <;> cases z)
      obtain ⟨rfl, rfl, rfl, rfl⟩ := am_cst_inv hst
      exact ⟨_, Or.inl hr, as_ldci C hd (am_clk_ok _ (am_lookup_mem _ hq))⟩
    next hq =>
      split at hres
      next q hq =>
        obtain rfl := Option.some.inj hres
        have hr := hr.resolve_left (fun z => by cases z)
        obtain ⟨rfl, rfl, rfl, rfl⟩ := am_push_inv hst
        obtain ⟨h1, h2⟩ := am_rlk_ok _ (am_lookup_mem _ hq)
        cases hz : tt_refs[q.2]? with
        | none => rw [hz] at h1; cases h1
        | some z =>
          rw [hz] at h1
          obtain ⟨z1, z2, z3, z4⟩ := z
          have h3 := Option.some.inj h1
          simp only [Prod.mk.injEq] at h3
          obtain ⟨rfl, rfl, rfl⟩ := h3
          exact ⟨_, Or.inl hr, as_ldcs C hd hz h2⟩
      next => cases hres
  | ldc_w j =>
    obtain rfl : len = 3 := eq_of_beq hln
    simp only [am_res] at hres
    split at hres
    next q hq =>
      obtain rfl := Option.some.inj hres
      have hr := hr.resolve_left (fun z => by rcases q with ⟨n, _⟩; cases n <;> cases z)
      obtain ⟨rfl, rfl, rfl, rfl⟩ := am_cst_inv hst
      exact ⟨_, Or.inl hr, as_ldcwi C hd (am_clk_ok _ (am_lookup_mem _ hq))⟩
    next hq =>
      split at hres
      next q hq =>
        obtain rfl := Option.some.inj hres
        have hr := hr.resolve_left (fun z => by cases z)
        obtain ⟨rfl, rfl, rfl, rfl⟩ := am_push_inv hst
        obtain ⟨h1, h2⟩ := am_rlk_ok _ (am_lookup_mem _ hq)
        cases hz : tt_refs[q.2]? with
        | none => rw [hz] at h1; cases h1
        | some z =>
          rw [hz] at h1
          obtain ⟨z1, z2, z3, z4⟩ := z
          have h3 := Option.some.inj h1
          simp only [Prod.mk.injEq] at h3
          obtain ⟨rfl, rfl, rfl⟩ := h3
          exact ⟨_, Or.inl hr, as_ldcws C hd hz h2⟩
      next => cases hres
  | iinc j n =>
    obtain rfl := Option.some.inj (show some (.iinc j n) = some i from hres)
    obtain rfl : len = 3 := eq_of_beq hln
    have hr := hr.resolve_left (fun z => by cases z)
    simp only [am_st] at hst
    split at hst
    next x hj =>
      split at hst
      next ho =>
        obtain ⟨rfl, rfl, rfl, rfl⟩ := am_some_inv hst
        exact ⟨_, Or.inl hr, as_iinc C hd hj ho⟩
      next => cases hst
    next => cases hst
  | iadd =>
    obtain rfl := Option.some.inj (show some (.iadd) = some i from hres)
    obtain rfl : len = 1 := eq_of_beq hln
    have hr := hr.resolve_left (fun z => by cases z)
    obtain ⟨x, y, s1, rfl, rfl, rfl, rfl, rfl⟩ := am_bin_inv hst
    exact ⟨_, Or.inl hr, as_iadd C hd⟩
  | isub =>
    obtain rfl := Option.some.inj (show some (.isub) = some i from hres)
    obtain rfl : len = 1 := eq_of_beq hln
    have hr := hr.resolve_left (fun z => by cases z)
    obtain ⟨x, y, s1, rfl, rfl, rfl, rfl, rfl⟩ := am_bin_inv hst
    exact ⟨_, Or.inl hr, as_isub C hd⟩
  | imul =>
    obtain rfl := Option.some.inj (show some (.imul) = some i from hres)
    obtain rfl : len = 1 := eq_of_beq hln
    have hr := hr.resolve_left (fun z => by cases z)
    obtain ⟨x, y, s1, rfl, rfl, rfl, rfl, rfl⟩ := am_bin_inv hst
    exact ⟨_, Or.inl hr, as_imul C hd⟩
  | iand =>
    obtain rfl := Option.some.inj (show some (.iand) = some i from hres)
    obtain rfl : len = 1 := eq_of_beq hln
    have hr := hr.resolve_left (fun z => by cases z)
    obtain ⟨x, y, s1, rfl, rfl, rfl, rfl, rfl⟩ := am_bin_inv hst
    exact ⟨_, Or.inl hr, as_iand C hd⟩
  | ior =>
    obtain rfl := Option.some.inj (show some (.ior) = some i from hres)
    obtain rfl : len = 1 := eq_of_beq hln
    have hr := hr.resolve_left (fun z => by cases z)
    obtain ⟨x, y, s1, rfl, rfl, rfl, rfl, rfl⟩ := am_bin_inv hst
    exact ⟨_, Or.inl hr, as_ior C hd⟩
  | ixor =>
    obtain rfl := Option.some.inj (show some (.ixor) = some i from hres)
    obtain rfl : len = 1 := eq_of_beq hln
    have hr := hr.resolve_left (fun z => by cases z)
    obtain ⟨x, y, s1, rfl, rfl, rfl, rfl, rfl⟩ := am_bin_inv hst
    exact ⟨_, Or.inl hr, as_ixor C hd⟩
  | ishl =>
    obtain rfl := Option.some.inj (show some (.ishl) = some i from hres)
    obtain rfl : len = 1 := eq_of_beq hln
    have hr := hr.resolve_left (fun z => by cases z)
    obtain ⟨x, y, s1, rfl, rfl, rfl, rfl, rfl⟩ := am_bin_inv hst
    exact ⟨_, Or.inl hr, as_ishl C hd⟩
  | ishr =>
    obtain rfl := Option.some.inj (show some (.ishr) = some i from hres)
    obtain rfl : len = 1 := eq_of_beq hln
    have hr := hr.resolve_left (fun z => by cases z)
    obtain ⟨x, y, s1, rfl, rfl, rfl, rfl, rfl⟩ := am_bin_inv hst
    exact ⟨_, Or.inl hr, as_ishr C hd⟩
  | iushr =>
    obtain rfl := Option.some.inj (show some (.iushr) = some i from hres)
    obtain rfl : len = 1 := eq_of_beq hln
    have hr := hr.resolve_left (fun z => by cases z)
    obtain ⟨x, y, s1, rfl, rfl, rfl, rfl, rfl⟩ := am_bin_inv hst
    exact ⟨_, Or.inl hr, as_iushr C hd⟩
  | idiv =>
    obtain rfl := Option.some.inj (show some (.idiv) = some i from hres)
    obtain rfl : len = 1 := eq_of_beq hln
    have hr := hr.resolve_left (fun z => by cases z)
    obtain ⟨x, y, s1, rfl, hy, rfl, rfl, rfl, rfl⟩ := am_binZ_inv hst
    exact ⟨_, Or.inl hr, as_idiv C hd hy⟩
  | irem =>
    obtain rfl := Option.some.inj (show some (.irem) = some i from hres)
    obtain rfl : len = 1 := eq_of_beq hln
    have hr := hr.resolve_left (fun z => by cases z)
    obtain ⟨x, y, s1, rfl, hy, rfl, rfl, rfl, rfl⟩ := am_binZ_inv hst
    exact ⟨_, Or.inl hr, as_irem C hd hy⟩
  | ladd =>
    obtain rfl := Option.some.inj (show some (.ladd) = some i from hres)
    obtain rfl : len = 1 := eq_of_beq hln
    have hr := hr.resolve_left (fun z => by cases z)
    obtain ⟨x, y, s1, rfl, rfl, rfl, rfl, rfl⟩ := am_binL_inv hst
    exact ⟨_, Or.inl hr, as_ladd C hd⟩
  | lmul =>
    obtain rfl := Option.some.inj (show some (.lmul) = some i from hres)
    obtain rfl : len = 1 := eq_of_beq hln
    have hr := hr.resolve_left (fun z => by cases z)
    obtain ⟨x, y, s1, rfl, rfl, rfl, rfl, rfl⟩ := am_binL_inv hst
    exact ⟨_, Or.inl hr, as_lmul C hd⟩
  | ineg =>
    obtain rfl := Option.some.inj (show some (.ineg) = some i from hres)
    obtain rfl : len = 1 := eq_of_beq hln
    have hr := hr.resolve_left (fun z => by cases z)
    obtain ⟨x, s1, rfl, rfl, rfl, rfl, rfl⟩ := am_un_inv hst
    exact ⟨_, Or.inl hr, as_ineg C hd⟩
  | i2b =>
    obtain rfl := Option.some.inj (show some (.i2b) = some i from hres)
    obtain rfl : len = 1 := eq_of_beq hln
    have hr := hr.resolve_left (fun z => by cases z)
    obtain ⟨x, s1, rfl, rfl, rfl, rfl, rfl⟩ := am_un_inv hst
    exact ⟨_, Or.inl hr, as_i2b C hd⟩
  | i2s =>
    obtain rfl := Option.some.inj (show some (.i2s) = some i from hres)
    obtain rfl : len = 1 := eq_of_beq hln
    have hr := hr.resolve_left (fun z => by cases z)
    obtain ⟨x, s1, rfl, rfl, rfl, rfl, rfl⟩ := am_un_inv hst
    exact ⟨_, Or.inl hr, as_i2s C hd⟩
  | i2c =>
    obtain rfl := Option.some.inj (show some (.i2c) = some i from hres)
    obtain rfl : len = 1 := eq_of_beq hln
    have hr := hr.resolve_left (fun z => by cases z)
    obtain ⟨x, s1, rfl, rfl, rfl, rfl, rfl⟩ := am_un_inv hst
    exact ⟨_, Or.inl hr, as_i2c C hd⟩
  | i2l =>
    obtain rfl := Option.some.inj (show some (.i2l) = some i from hres)
    obtain rfl : len = 1 := eq_of_beq hln
    have hr := hr.resolve_left (fun z => by cases z)
    simp only [am_st] at hst
    split at hst
    next =>
      obtain ⟨rfl, rfl, rfl, rfl⟩ := am_push_inv hst
      exact ⟨_, Or.inl hr, as_i2l C hd⟩
    next => cases hst
  | lcmp =>
    obtain rfl := Option.some.inj (show some (.lcmp) = some i from hres)
    obtain rfl : len = 1 := eq_of_beq hln
    have hr := hr.resolve_left (fun z => by cases z)
    simp only [am_st] at hst
    split at hst
    next =>
      obtain ⟨rfl, rfl, rfl, rfl⟩ := am_push_inv hst
      exact ⟨_, Or.inl hr, as_lcmp C hd⟩
    next => cases hst
  | dup =>
    obtain rfl := Option.some.inj (show some (.dup) = some i from hres)
    obtain rfl : len = 1 := eq_of_beq hln
    have hr := hr.resolve_left (fun z => by cases z)
    simp only [am_st] at hst
    split at hst
    next v s1 =>
      split at hst
      next hv =>
        obtain ⟨rfl, rfl, rfl, rfl⟩ := am_some_inv hst
        exact ⟨_, Or.inl hr, as_dup C hd hv⟩
      next => cases hst
    next => cases hst
  | dup2 =>
    obtain rfl := Option.some.inj (show some (.dup2) = some i from hres)
    obtain rfl : len = 1 := eq_of_beq hln
    have hr := hr.resolve_left (fun z => by cases z)
    simp only [am_st] at hst
    split at hst
    next v w s1 =>
      split at hst
      next hv =>
        obtain ⟨rfl, rfl, rfl, rfl⟩ := am_some_inv hst
        exact ⟨_, Or.inl hr, as_dup2 C hd hv.1 hv.2⟩
      next => cases hst
    next => cases hst
  | pop =>
    obtain rfl := Option.some.inj (show some (.pop) = some i from hres)
    obtain rfl : len = 1 := eq_of_beq hln
    have hr := hr.resolve_left (fun z => by cases z)
    simp only [am_st] at hst
    split at hst
    next v s1 =>
      split at hst
      next hv =>
        obtain ⟨rfl, rfl, rfl, rfl⟩ := am_some_inv hst
        exact ⟨_, Or.inl hr, as_pop C hd hv⟩
      next => cases hst
    next => cases hst
  | iaload =>
    obtain rfl := Option.some.inj (show some (.iaload) = some i from hres)
    obtain rfl : len = 1 := eq_of_beq hln
    have hr := hr.resolve_left (fun z => by cases z)
    simp only [am_st] at hst
    split at hst
    next =>
      obtain ⟨x, hg, hst⟩ := am_opt_inv hst
      obtain ⟨rfl, rfl, rfl, rfl⟩ := am_push_inv hst
      exact ⟨_, Or.inl hr, as_iaload C hd hg⟩
    next => cases hst
  | baload =>
    obtain rfl := Option.some.inj (show some (.baload) = some i from hres)
    obtain rfl : len = 1 := eq_of_beq hln
    have hr := hr.resolve_left (fun z => by cases z)
    simp only [am_st] at hst
    split at hst
    next =>
      obtain ⟨x, hg, hst⟩ := am_opt_inv hst
      obtain ⟨rfl, rfl, rfl, rfl⟩ := am_push_inv hst
      exact ⟨_, Or.inl hr, as_baload C hd hg⟩
    next => cases hst
  | aaload =>
    obtain rfl := Option.some.inj (show some (.aaload) = some i from hres)
    obtain rfl : len = 1 := eq_of_beq hln
    have hr := hr.resolve_left (fun z => by cases z)
    simp only [am_st] at hst
    split at hst
    next =>
      obtain ⟨x, hg, hst⟩ := am_opt_inv hst
      obtain ⟨rfl, rfl, rfl, rfl⟩ := am_push_inv hst
      exact ⟨_, Or.inl hr, as_aaload C hd hg⟩
    next => cases hst
  | iastore =>
    obtain rfl := Option.some.inj (show some (.iastore) = some i from hres)
    obtain rfl : len = 1 := eq_of_beq hln
    have hr := hr.resolve_left (fun z => by cases z)
    simp only [am_st] at hst
    split at hst
    next =>
      obtain ⟨x, hg, hst⟩ := am_opt_inv hst
      obtain ⟨rfl, rfl, rfl, rfl⟩ := am_some_inv hst
      exact ⟨_, Or.inl hr, as_iastore C hd hg⟩
    next => cases hst
  | arraylength =>
    obtain rfl := Option.some.inj (show some (.arraylength) = some i from hres)
    obtain rfl : len = 1 := eq_of_beq hln
    have hr := hr.resolve_left (fun z => by cases z)
    simp only [am_st] at hst
    split at hst
    next =>
      obtain ⟨x, hg, hst⟩ := am_opt_inv hst
      obtain ⟨rfl, rfl, rfl, rfl⟩ := am_push_inv hst
      exact ⟨_, Or.inl hr, as_arraylength C hd hg⟩
    next => cases hst
  | getfield j =>
    obtain rfl : len = 3 := eq_of_beq hln
    simp only [am_res] at hres
    split at hres
    next q hq =>
      obtain rfl := Option.some.inj hres
      have hr := hr.resolve_left (fun z => by cases z)
      simp only [am_st] at hst
      split at hst
      next =>
        obtain ⟨x, hg, hst⟩ := am_opt_inv hst
        obtain ⟨rfl, rfl, rfl, rfl⟩ := am_push_inv hst
        exact ⟨_, Or.inl hr, as_getfield C hd hq hg⟩
      next => cases hst
    next => cases hres
  | putfield j =>
    obtain rfl : len = 3 := eq_of_beq hln
    simp only [am_res] at hres
    split at hres
    next q hq =>
      obtain rfl := Option.some.inj hres
      have hr := hr.resolve_left (fun z => by cases z)
      simp only [am_st] at hst
      split at hst
      next =>
        obtain ⟨x, hg, hst⟩ := am_opt_inv hst
        obtain ⟨rfl, rfl, rfl, rfl⟩ := am_some_inv hst
        exact ⟨_, Or.inl hr, as_putfield C hd hq hg⟩
      next => cases hst
    next => cases hres
  | getstatic j =>
    obtain rfl : len = 3 := eq_of_beq hln
    simp only [am_res] at hres
    split at hres
    next q hq =>
      obtain rfl := Option.some.inj hres
      have hr := hr.resolve_left (fun z => by cases z)
      obtain ⟨rfl, rfl, rfl, rfl⟩ := am_push_inv hst
      exact ⟨_, Or.inl hr, as_getstatic C hd hq⟩
    next => cases hres
  | goto t =>
    obtain rfl := Option.some.inj (show some (Instr.goto ((pc : Int) + t)) = some i from hres)
    obtain rfl : len = 3 := eq_of_beq hln
    obtain ⟨rfl, rfl, rfl, rfl⟩ := am_some_inv hst
    exact ⟨_, Or.inr rfl, as_goto C hd (of_decide_eq_true hctl)⟩
  | ifCond q t =>
    obtain rfl := Option.some.inj (show some (Instr.ifCond q ((pc : Int) + t)) = some i from hres)
    obtain rfl : len = 3 := eq_of_beq hln
    have hr := hr.resolve_left (fun z => by cases z)
    simp only [am_st] at hst
    split at hst
    next x s1 =>
      obtain ⟨rfl, rfl, rfl, rfl⟩ := am_some_inv hst
      by_cases hc : am_cmpB q x (nI 0) = true
      · rw [if_pos hc]
        refine ⟨_, Or.inr rfl, fun kk => ?_⟩
        have hc := (am_cmpB_iff q x _).mp hc
        cases q with
        | eq => exact as_if_eq C hd (of_decide_eq_true hctl) (fun _ => kk) (fun z => absurd hc z)
        | ne => exact as_if_ne C hd (of_decide_eq_true hctl) (fun _ => kk) (fun z => absurd z hc)
        | lt => exact as_if_lt C hd (of_decide_eq_true hctl) (fun _ => kk) (fun z => absurd hc z)
        | ge => exact as_if_ge C hd (of_decide_eq_true hctl) (fun _ => kk) (fun z => absurd hc z)
        | gt => exact as_if_gt C hd (of_decide_eq_true hctl) (fun _ => kk) (fun z => absurd hc z)
        | le => exact as_if_le C hd (of_decide_eq_true hctl) (fun _ => kk) (fun z => absurd hc z)
      · rw [if_neg hc]
        refine ⟨_, Or.inl hr, fun kk => ?_⟩
        have hc : ¬ am_cmp q x _ := fun z => hc ((am_cmpB_iff q x _).mpr z)
        cases q with
        | eq => exact as_if_eq C hd (of_decide_eq_true hctl) (fun z => absurd z hc) (fun _ => kk)
        | ne => exact as_if_ne C hd (of_decide_eq_true hctl) (fun z => absurd z hc) (fun _ => kk)
        | lt => exact as_if_lt C hd (of_decide_eq_true hctl) (fun z => absurd z hc) (fun _ => kk)
        | ge => exact as_if_ge C hd (of_decide_eq_true hctl) (fun z => absurd z hc) (fun _ => kk)
        | gt => exact as_if_gt C hd (of_decide_eq_true hctl) (fun z => absurd z hc) (fun _ => kk)
        | le => exact as_if_le C hd (of_decide_eq_true hctl) (fun z => absurd z hc) (fun _ => kk)
    next => cases hst
  | if_icmp q t =>
    obtain rfl := Option.some.inj (show some (Instr.if_icmp q ((pc : Int) + t)) = some i from hres)
    obtain rfl : len = 3 := eq_of_beq hln
    have hr := hr.resolve_left (fun z => by cases z)
    simp only [am_st] at hst
    split at hst
    next y x s1 =>
      obtain ⟨rfl, rfl, rfl, rfl⟩ := am_some_inv hst
      by_cases hc : am_cmpB q x y = true
      · rw [if_pos hc]
        refine ⟨_, Or.inr rfl, fun kk => ?_⟩
        have hc := (am_cmpB_iff q x _).mp hc
        cases q with
        | eq => exact as_icmp_eq C hd (of_decide_eq_true hctl) (fun _ => kk) (fun z => absurd hc z)
        | ne => exact as_icmp_ne C hd (of_decide_eq_true hctl) (fun _ => kk) (fun z => absurd z hc)
        | lt => exact as_icmp_lt C hd (of_decide_eq_true hctl) (fun _ => kk) (fun z => absurd hc z)
        | ge => exact as_icmp_ge C hd (of_decide_eq_true hctl) (fun _ => kk) (fun z => absurd hc z)
        | gt => exact as_icmp_gt C hd (of_decide_eq_true hctl) (fun _ => kk) (fun z => absurd hc z)
        | le => exact as_icmp_le C hd (of_decide_eq_true hctl) (fun _ => kk) (fun z => absurd hc z)
      · rw [if_neg hc]
        refine ⟨_, Or.inl hr, fun kk => ?_⟩
        have hc : ¬ am_cmp q x _ := fun z => hc ((am_cmpB_iff q x _).mpr z)
        cases q with
        | eq => exact as_icmp_eq C hd (of_decide_eq_true hctl) (fun z => absurd z hc) (fun _ => kk)
        | ne => exact as_icmp_ne C hd (of_decide_eq_true hctl) (fun z => absurd z hc) (fun _ => kk)
        | lt => exact as_icmp_lt C hd (of_decide_eq_true hctl) (fun z => absurd z hc) (fun _ => kk)
        | ge => exact as_icmp_ge C hd (of_decide_eq_true hctl) (fun z => absurd z hc) (fun _ => kk)
        | gt => exact as_icmp_gt C hd (of_decide_eq_true hctl) (fun z => absurd z hc) (fun _ => kk)
        | le => exact as_icmp_le C hd (of_decide_eq_true hctl) (fun z => absurd z hc) (fun _ => kk)
    next => cases hst
  | tableswitch d lo hi offs =>
    obtain rfl := Option.some.inj (show some (Instr.tableswitch ((pc : Int) + d) lo hi (offs.map fun t => (pc : Int) + t)) = some i from hres)
    simp only [am_st] at hst
    split at hst
    next x s1 =>
      obtain ⟨rfl, rfl, rfl, rfl⟩ := am_some_inv hst
      obtain ⟨h1, h2, h3⟩ := am_ctl_sw hctl
      refine ⟨_, Or.inr rfl, as_switch C hd ?_ ?_⟩
      · unfold am_sw
        split
        next => exact h1
        next hx =>
          rw [List.getD_eq_getElem?_getD]
          cases hz : (offs.map fun t => (pc : Int) + t).toList[(x.toInt - lo).toNat]? with
          | none => exact h1
          | some z => exact h2 z (List.mem_of_getElem? hz)
      · intro hx
        rw [Array.size_map] at h3
        omega
    next => cases hst
  | invokevirtual j =>
    simp only [am_res] at hres
    split at hres
    next q hq =>
      split at hres
      next => cases hres
      next hs =>
        obtain rfl := Option.some.inj hres
        have hq1 : q.1 < 500 := am_mlk_lt _ (am_lookup_mem _ hq)
        simp only [am_st] at hst
        rw [if_neg (by omega), if_neg (by omega), if_neg (by omega), if_neg (by omega)] at hst
        split at hst
        next => cases hst
        next => cases hst
    next => cases hres
  | invokestatic j =>
    obtain rfl : len = 3 := eq_of_beq hln
    simp only [am_res] at hres
    split at hres
    next q hq =>
      split at hres
      next hs =>
        obtain rfl := Option.some.inj hres
        have hq1 : q.1 < 500 := am_mlk_lt _ (am_lookup_mem _ hq)
        simp only [am_st] at hst
        rw [if_neg (by omega), if_neg (by omega), if_neg (by omega), if_neg (by omega)] at hst
        split at hst
        next => cases hst
        next => cases hst
      next => cases hres
    next =>
      split at hres
      next q hq =>
        split at hres
        next hs =>
          obtain rfl := Option.some.inj hres
          have hq1 : q.1 < 500 := am_nlk_lt _ (am_lookup_mem _ hq)
          simp only [am_st] at hst
          rw [if_neg (by omega), if_neg (by omega), if_neg (by omega), if_neg (by omega)] at hst
          split at hst
          next => cases hst
          next => cases hst
        next => cases hres
      next =>
        split at hres
        next q hq =>
          obtain ⟨pos, num⟩ := q
          simp only at hres
          by_cases h999 : num = 999
          · subst h999
            rw [if_pos rfl] at hres
            obtain rfl := Option.some.inj hres
            have hr := hr.resolve_left (fun z => by cases z)
            have hctl : 1 ≤ am_fr k ∧ 60 ≤ am_lo k := of_decide_eq_true hctl
            simp only [am_st] at hst
            rw [if_pos trivial] at hst
            split at hst
            next n dp o2 sp o1 s1 =>
              split at hst
              next hlen =>
                obtain ⟨G2, hg, hst⟩ := am_opt_inv hst
                obtain ⟨rfl, rfl, rfl, rfl⟩ := am_some_inv hst
                exact ⟨_, Or.inl hr, as_copy C hd hq hctl.1 hctl.2 hlen hg⟩
              next => cases hst
            next => cases hst
          rw [if_neg h999] at hres
          by_cases h996 : num = 996
          · subst h996
            rw [if_pos rfl] at hres
            obtain rfl := Option.some.inj hres
            have hr := hr.resolve_left (fun z => by cases z)
            have hctl : 1 ≤ am_fr k ∧ 60 ≤ am_lo k := of_decide_eq_true hctl
            simp only [am_st] at hst
            rw [if_neg (by decide), if_pos trivial] at hst
            split at hst
            next =>
              split at hst
              next hlen =>
                obtain ⟨rfl, rfl, rfl, rfl⟩ := am_push_inv hst
                exact ⟨_, Or.inl hr, as_min C hd hq hctl.1 hctl.2 hlen⟩
              next => cases hst
            next => cases hst
          rw [if_neg h996] at hres
          by_cases h997 : num = 997
          · subst h997
            rw [if_pos rfl] at hres
            obtain rfl := Option.some.inj hres
            have hr := hr.resolve_left (fun z => by cases z)
            have hctl : 1 ≤ am_fr k ∧ 60 ≤ am_lo k := of_decide_eq_true hctl
            simp only [am_st] at hst
            rw [if_neg (by decide), if_neg (by decide), if_pos trivial] at hst
            split at hst
            next =>
              split at hst
              next hlen =>
                obtain ⟨rfl, rfl, rfl, rfl⟩ := am_push_inv hst
                exact ⟨_, Or.inl hr, as_max C hd hq hctl.1 hctl.2 hlen⟩
              next => cases hst
            next => cases hst
          rw [if_neg h997] at hres
          by_cases h998 : num = 998
          · subst h998
            rw [if_pos rfl] at hres
            obtain rfl := Option.some.inj hres
            have hr := hr.resolve_left (fun z => by cases z)
            have hctl : 1 ≤ am_fr k ∧ 60 ≤ am_lo k := of_decide_eq_true hctl
            simp only [am_st] at hst
            rw [if_neg (by decide), if_neg (by decide), if_neg (by decide), if_pos trivial] at hst
            split at hst
            next =>
              split at hst
              next hlen =>
                obtain ⟨rfl, rfl, rfl, rfl⟩ := am_push_inv hst
                exact ⟨_, Or.inl hr, as_abs C hd (y := 0) hq hctl.1 hctl.2 hlen⟩
              next => cases hst
            next => cases hst
          rw [if_neg h998] at hres
          cases hres
        next => cases hres
  | ireturn =>
    simp only [am_res] at hres
    split at hres
    · obtain rfl := Option.some.inj hres
      exact absurd hst am_ret_ninl
    · obtain rfl := Option.some.inj hres
      exact absurd hst am_ret_ninl
    · obtain rfl := Option.some.inj hres
      exact absurd hst am_ret_ninl
    · obtain rfl := Option.some.inj hres
      exact absurd hst am_ret_ninl
    · cases hres
  | lreturn =>
    simp only [am_res] at hres
    split at hres
    · obtain rfl := Option.some.inj hres
      exact absurd hst am_ret_ninl
    · cases hres
  | areturn =>
    simp only [am_res] at hres
    split at hres
    · obtain rfl := Option.some.inj hres
      exact absurd hst am_ret_ninl
    · cases hres
  | return_ =>
    simp only [am_res] at hres
    split at hres
    · obtain rfl := Option.some.inj hres
      simp only [am_st] at hst
      split at hst <;> cases hst
    · cases hres
  | _ => exact absurd (show (none : Option Instr) = some i from hres) (fun z => by cases z)
end AMS
