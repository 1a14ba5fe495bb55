/-! ===== reasoning about the small machine: WP, one rewriting rule an instruction ===== -/
theorem am_mono (X : AmX) : ∀ (n k : Nat) (ops : List Instr) (lv : LV) (st : List Value) (G : GG) (z : Option Value × GG), am_run X n k ops lv st G = some z → ∀ d : Nat, am_run X (n + d) k ops lv st G = some z := by
  intro n
  induction n with
  | zero => intro k ops lv st G z h; cases h
  | succ n ih =>
    intro k ops lv st G z h d
    rw [show n + 1 + d = (n + d) + 1 by omega]
    cases ops with
    | nil => cases h
    | cons i r =>
      unfold am_run at h ⊢
      cases hs : am_st X k i r lv st G with
      | none => rw [hs] at h; cases h
      | some o =>
        rw [hs] at h
        rcases o with ⟨ops', lv', st', G'⟩ | z' | ⟨m, args, lv', st'⟩
        · exact ih _ _ _ _ _ _ h d
        · exact h
        · simp only at h ⊢
          cases hc : am_run X n m (am_blk m 0) (am_ent m args) [] G with
          | none => rw [hc] at h; cases h
          | some w =>
            rw [hc] at h
            rw [ih _ _ _ _ _ _ hc d]
            exact ih _ _ _ _ _ _ h d
def WP (X : AmX) (k : Nat) (ops : List Instr) (lv : LV) (st : List Value) (G : GG) (Q : Option Value → GG → Prop) : Prop := ∃ (n : Nat) (v : Option Value) (G' : GG), am_run X n k ops lv st G = some (v, G') ∧ Q v G'
abbrev WPm (X : AmX) (m : Nat) (args : List Value) (G : GG) (Q : Option Value → GG → Prop) : Prop := WP X m (am_blk m 0) (am_ent m args) [] G Q
def Ev (X : AmX) (m : Nat) (args : List Value) (G : GG) (v : Option Value) (G' : GG) : Prop := ∃ n, am_run X n m (am_blk m 0) (am_ent m args) [] G = some (v, G')
theorem am_det {X : AmX} {n1 n2 k : Nat} {ops : List Instr} {lv : LV} {st : List Value} {G : GG} {z1 z2 : Option Value × GG} (h1 : am_run X n1 k ops lv st G = some z1) (h2 : am_run X n2 k ops lv st G = some z2) : z1 = z2 := by
  have a := am_mono X n1 k ops lv st G z1 h1 n2
  have b := am_mono X n2 k ops lv st G z2 h2 n1
  rw [Nat.add_comm] at b
  exact Option.some.inj (a.symm.trans b)
theorem Ev_of {X : AmX} {m : Nat} {args : List Value} {G G' : GG} {v : Option Value} (h : WPm X m args G (fun w H => w = v ∧ H = G')) : Ev X m args G v G' := by
  obtain ⟨n, w, H, h1, rfl, rfl⟩ := h
  exact ⟨n, h1⟩
theorem WPm_ev {X : AmX} {m : Nat} {args : List Value} {G : GG} {Q : Option Value → GG → Prop} (h : WPm X m args G Q) : ∃ v G', Ev X m args G v G' ∧ Q v G' := by
  obtain ⟨n, v, G', h1, h2⟩ := h
  exact ⟨v, G', ⟨n, h1⟩, h2⟩
theorem WP_mono {X : AmX} {k : Nat} {ops : List Instr} {lv : LV} {st : List Value} {G : GG} {Q Q' : Option Value → GG → Prop} (h : WP X k ops lv st G Q) (hq : ∀ v H, Q v H → Q' v H) : WP X k ops lv st G Q' := by
  obtain ⟨n, v, G', h1, h2⟩ := h
  exact ⟨n, v, G', h1, hq _ _ h2⟩
section WPr
variable {X : AmX} {k : Nat} {i : Instr} {r : List Instr} {lv : LV} {st : List Value} {G : GG} {Q : Option Value → GG → Prop}
theorem WP_go {ops' : List Instr} {lv' : LV} {st' : List Value} {G' : GG} (h : am_st X k i r lv st G = some (.inl (ops', lv', st', G'))) : WP X k (i :: r) lv st G Q ↔ WP X k ops' lv' st' G' Q := by
  constructor
  · rintro ⟨n, v, H, h1, h2⟩
    cases n with
    | zero => cases h1
    | succ n => unfold am_run at h1; rw [h] at h1; exact ⟨n, v, H, h1, h2⟩
  · rintro ⟨n, v, H, h1, h2⟩
    exact ⟨n + 1, v, H, by unfold am_run; rw [h]; exact h1, h2⟩
theorem WP_end {v : Option Value} {G' : GG} (h : am_st X k i r lv st G = some (.inr (.inl (v, G')))) : WP X k (i :: r) lv st G Q ↔ Q v G' := by
  constructor
  · rintro ⟨n, w, H, h1, h2⟩
    cases n with
    | zero => cases h1
    | succ n => unfold am_run at h1; rw [h] at h1; cases h1; exact h2
  · intro h2
    exact ⟨1, v, G', by unfold am_run; rw [h], h2⟩
theorem WP_stuck (h : am_st X k i r lv st G = none) : WP X k (i :: r) lv st G Q ↔ False := by
  constructor
  · rintro ⟨n, w, H, h1, h2⟩
    cases n with
    | zero => cases h1
    | succ n => unfold am_run at h1; rw [h] at h1; cases h1
  · exact False.elim
theorem WP_opt {α : Type} {o : Option α} {f : α → AmR} (h : am_st X k i r lv st G = am_opt o f) {P : α → Prop} (hf : ∀ x, o = some x → (∃ ops' lv' st' G', f x = some (.inl (ops', lv', st', G')) ∧ (WP X k ops' lv' st' G' Q ↔ P x))) : WP X k (i :: r) lv st G Q ↔ ∃ x, o = some x ∧ P x := by
  cases ho : o with
  | none => rw [ho] at h; rw [WP_stuck h]; simp
  | some x =>
    rw [ho] at h
    obtain ⟨a, b, c, d, e1, e2⟩ := hf x ho
    rw [WP_go (h.trans e1), e2]
    simp
theorem WP_callIn {m : Nat} {args : List Value} {lv' : LV} {st' : List Value} (h : am_st X k i r lv st G = some (.inr (.inr (m, args, lv', st')))) : WP X k (i :: r) lv st G Q ↔ WPm X m args G (fun v G1 => WP X k r lv' (v.toList ++ st') G1 Q) := by
  constructor
  · rintro ⟨n, w, H, h1, h2⟩
    cases n with
    | zero => cases h1
    | succ n =>
      unfold am_run at h1
      rw [h] at h1
      simp only at h1
      cases hc : am_run X n m (am_blk m 0) (am_ent m args) [] G with
      | none => rw [hc] at h1; cases h1
      | some z =>
        rw [hc] at h1
        exact ⟨n, z.1, z.2, hc, n, w, H, h1, h2⟩
  · rintro ⟨n1, v, G1, h1, n2, w, H, h2, h3⟩
    refine ⟨n1 + n2 + 1, w, H, ?_, h3⟩
    unfold am_run
    rw [h]
    simp only
    rw [am_mono X _ _ _ _ _ _ _ h1 n2, Nat.add_comm n1 n2]
    exact am_mono X _ _ _ _ _ _ _ h2 n1
theorem WPm_Ev {m : Nat} {args : List Value} {v : Option Value} {G' : GG} (h : Ev X m args G v G') : WPm X m args G Q ↔ Q v G' := by
  obtain ⟨n, hn⟩ := h
  constructor
  · rintro ⟨n2, w, H, h1, h2⟩
    have e := am_det h1 hn
    cases e
    exact h2
  · intro h2
    exact ⟨n, v, G', hn, h2⟩
/-- a call, with the callee's contract -/
theorem WP_ev {m c : Nat} {args rest : List Value} {v : Option Value} {G' : GG} (hev : Ev X m args G v G') (hm : m < 996) (hc : args.length = c) (hst : st = args.reverse ++ rest) (hl : rest.length ≤ 4) (hr : am_rcv m args = true) : WP X k (.invokeinterface m c :: r) lv st G Q ↔ WP X k r lv (v.toList ++ rest) G' Q := by
  have h1 : st.take c = args.reverse := by rw [hst, ← hc, ← List.length_reverse]; exact List.take_left
  have h2 : st.drop c = rest := by rw [hst, ← hc, ← List.length_reverse]; exact List.drop_left
  have h3 : c ≤ st.length := by rw [hst, List.length_append, List.length_reverse]; omega
  have h : am_st X k (.invokeinterface m c) r lv st G = some (.inr (.inr (m, args, lv, rest))) := by
    show (if m = 999 then _ else _) = _
    rw [if_neg (by omega), if_neg (by omega), if_neg (by omega), if_neg (by omega), h1, h2, List.reverse_reverse, if_pos ⟨h3, hl, hr⟩]
  rw [WP_callIn h, WPm_Ev hev]
theorem WP_ifc {c : Jvm.ClassFile.Cond} {x y : Int32} {a b : List Instr} {P : Prop} [Decidable P] (hP : am_cmp c x y ↔ P) : WP X k (if am_cmpB c x y = true then a else b) lv st G Q ↔ ((P → WP X k a lv st G Q) ∧ (¬ P → WP X k b lv st G Q)) := by
  by_cases h : P
  · rw [if_pos ((am_cmpB_iff c x y).mpr (hP.mpr h))]; simp [h]
  · rw [if_neg (fun z => h (hP.mp ((am_cmpB_iff c x y).mp z)))]; simp [h]
theorem WP_ifn {c : Jvm.ClassFile.Cond} {x y : Int32} {a b : List Instr} {P : Prop} [Decidable P] (hP : am_cmp c x y ↔ ¬ P) : WP X k (if am_cmpB c x y = true then a else b) lv st G Q ↔ ((P → WP X k b lv st G Q) ∧ (¬ P → WP X k a lv st G Q)) := by
  by_cases h : P
  · rw [if_neg (fun z => (hP.mp ((am_cmpB_iff c x y).mp z)) h)]; simp [h]
  · rw [if_pos ((am_cmpB_iff c x y).mpr (hP.mpr h))]; simp [h]
-- constants, locals
theorem wp_ldc {n : Nat} : WP X k (.ldc n :: r) lv st G Q ↔ WP X k r lv (.int (nI n) :: st) G Q := WP_go rfl
theorem wp_sipush {n : Int} : WP X k (.sipush n :: r) lv st G Q ↔ WP X k r lv (.int (am_ci n) :: st) G Q := WP_go rfl
theorem wp_ldc_w {j : Nat} : WP X k (.ldc_w j :: r) lv st G Q ↔ WP X k r lv (.ref (100 + j) :: st) G Q := WP_go rfl
theorem wp_lconst {n : Fin 2} : WP X k (.lconst n :: r) lv st G Q ↔ WP X k r lv (.long (Int64.ofNat n.val) :: st) G Q := WP_go rfl
theorem wp_iload {j : Nat} {x : Int32} (h : lv[j]? = some (some (.int x))) : WP X k (.iload j :: r) lv st G Q ↔ WP X k r lv (.int x :: st) G Q := WP_go (by simp only [am_st, h]; rfl)
theorem wp_aload {j x : Nat} (h : lv[j]? = some (some (.ref x))) (hx : x < 500) : WP X k (.aload j :: r) lv st G Q ↔ WP X k r lv (.ref x :: st) G Q := WP_go (by simp only [am_st, h, if_pos hx]; rfl)
theorem wp_lload {j : Nat} {x : Int64} (h : lv[j]? = some (some (.long x))) : WP X k (.lload j :: r) lv st G Q ↔ WP X k r lv (.long x :: st) G Q := WP_go (by simp only [am_st, h]; rfl)
theorem wp_istore {j : Nat} {x : Int32} {lv' : LV} (h : am_ok1 lv j = true) (hl : lv.set j (some (.int x)) = lv') : WP X k (.istore j :: r) lv (.int x :: st) G Q ↔ WP X k r lv' st G Q := WP_go (by simp only [am_st, if_pos h, hl])
theorem wp_astore {j x : Nat} {lv' : LV} (h : am_ok1 lv j = true) (hx : x < 500) (hl : lv.set j (some (.ref x)) = lv') : WP X k (.astore j :: r) lv (.ref x :: st) G Q ↔ WP X k r lv' st G Q := WP_go (by simp only [am_st]; rw [if_pos ⟨h, hx⟩, hl])
theorem wp_lstore {j : Nat} {x : Int64} {lv' : LV} (h : am_ok2 lv j = true) (hl : (lv.set j (some (.long x))).set (j + 1) none = lv') : WP X k (.lstore j :: r) lv (.long x :: st) G Q ↔ WP X k r lv' st G Q := WP_go (by simp only [am_st, if_pos h, hl])
theorem wp_iinc {j : Nat} {n : Int} {x : Int32} {lv' : LV} (h : lv[j]? = some (some (.int x))) (h2 : am_ok1 lv j = true) (hl : lv.set j (some (.int (x + am_ci n))) = lv') : WP X k (.iinc j n :: r) lv st G Q ↔ WP X k r lv' st G Q := WP_go (by simp only [am_st, h, if_pos h2, hl])
-- arithmetic
theorem wp_iadd {x y : Int32} : WP X k (.iadd :: r) lv (.int y :: .int x :: st) G Q ↔ WP X k r lv (.int (x + y) :: st) G Q := WP_go rfl
theorem wp_isub {x y : Int32} : WP X k (.isub :: r) lv (.int y :: .int x :: st) G Q ↔ WP X k r lv (.int (x - y) :: st) G Q := WP_go rfl
theorem wp_imul {x y : Int32} : WP X k (.imul :: r) lv (.int y :: .int x :: st) G Q ↔ WP X k r lv (.int (x * y) :: st) G Q := WP_go rfl
theorem wp_iand {x y : Int32} : WP X k (.iand :: r) lv (.int y :: .int x :: st) G Q ↔ WP X k r lv (.int (x &&& y) :: st) G Q := WP_go rfl
theorem wp_ior {x y : Int32} : WP X k (.ior :: r) lv (.int y :: .int x :: st) G Q ↔ WP X k r lv (.int (x ||| y) :: st) G Q := WP_go rfl
theorem wp_ixor {x y : Int32} : WP X k (.ixor :: r) lv (.int y :: .int x :: st) G Q ↔ WP X k r lv (.int (x ^^^ y) :: st) G Q := WP_go rfl
theorem wp_ishl {x y : Int32} : WP X k (.ishl :: r) lv (.int y :: .int x :: st) G Q ↔ WP X k r lv (.int (x <<< (y &&& 31)) :: st) G Q := WP_go rfl
theorem wp_ishr {x y : Int32} : WP X k (.ishr :: r) lv (.int y :: .int x :: st) G Q ↔ WP X k r lv (.int (x >>> (y &&& 31)) :: st) G Q := WP_go rfl
theorem wp_iushr {x y : Int32} : WP X k (.iushr :: r) lv (.int y :: .int x :: st) G Q ↔ WP X k r lv (.int ((x.toUInt32 >>> (y.toUInt32 &&& Int32.toUInt32 31)).toInt32) :: st) G Q := WP_go rfl
theorem wp_idiv {x y : Int32} : WP X k (.idiv :: r) lv (.int y :: .int x :: st) G Q ↔ (¬ y = nI 0 ∧ WP X k r lv (.int (x / y) :: st) G Q) := by
  by_cases h : y = nI 0
  · rw [WP_stuck (by simp [am_st, am_binZ, h])]; simp [h]
  · rw [WP_go (by simp only [am_st, am_binZ, if_neg h]; rfl)]; simp [h]
theorem wp_irem {x y : Int32} : WP X k (.irem :: r) lv (.int y :: .int x :: st) G Q ↔ (¬ y = nI 0 ∧ WP X k r lv (.int (x - x / y * y) :: st) G Q) := by
  by_cases h : y = nI 0
  · rw [WP_stuck (by simp [am_st, am_binZ, h])]; simp [h]
  · rw [WP_go (by simp only [am_st, am_binZ, if_neg h]; rfl)]; simp [h]
theorem wp_ineg {x : Int32} : WP X k (.ineg :: r) lv (.int x :: st) G Q ↔ WP X k r lv (.int (-x) :: st) G Q := WP_go rfl
theorem wp_i2b {x : Int32} : WP X k (.i2b :: r) lv (.int x :: st) G Q ↔ WP X k r lv (.int x.toInt8.toInt32 :: st) G Q := WP_go rfl
theorem wp_i2s {x : Int32} : WP X k (.i2s :: r) lv (.int x :: st) G Q ↔ WP X k r lv (.int x.toInt16.toInt32 :: st) G Q := WP_go rfl
theorem wp_i2c {x : Int32} : WP X k (.i2c :: r) lv (.int x :: st) G Q ↔ WP X k r lv (.int (x.toUInt32 % 65536).toInt32 :: st) G Q := WP_go rfl
theorem wp_i2l {x : Int32} : WP X k (.i2l :: r) lv (.int x :: st) G Q ↔ WP X k r lv (.long x.toInt64 :: st) G Q := WP_go rfl
theorem wp_ladd {x y : Int64} : WP X k (.ladd :: r) lv (.long y :: .long x :: st) G Q ↔ WP X k r lv (.long (x + y) :: st) G Q := WP_go rfl
theorem wp_lmul {x y : Int64} : WP X k (.lmul :: r) lv (.long y :: .long x :: st) G Q ↔ WP X k r lv (.long (x * y) :: st) G Q := WP_go rfl
theorem wp_lcmp {x y : Int64} : WP X k (.lcmp :: r) lv (.long y :: .long x :: st) G Q ↔ WP X k r lv (.int (lg_cmp x y) :: st) G Q := WP_go rfl
theorem wp_dup_i {x : Int32} : WP X k (.dup :: r) lv (.int x :: st) G Q ↔ WP X k r lv (.int x :: .int x :: st) G Q := WP_go rfl
theorem wp_dup_r {x : Nat} : WP X k (.dup :: r) lv (.ref x :: st) G Q ↔ WP X k r lv (.ref x :: .ref x :: st) G Q := WP_go rfl
theorem wp_dup2 {x : Int32} {y : Nat} : WP X k (.dup2 :: r) lv (.int x :: .ref y :: st) G Q ↔ WP X k r lv (.int x :: .ref y :: .int x :: .ref y :: st) G Q := WP_go rfl
theorem wp_pop {x : Int32} : WP X k (.pop :: r) lv (.int x :: st) G Q ↔ WP X k r lv st G Q := WP_go rfl
-- fields, arrays
theorem wp_getfield {f o : Nat} : WP X k (.getfield f :: r) lv (.ref o :: st) G Q ↔ ∃ v, am_gf G o f = some v ∧ WP X k r lv (v :: st) G Q := WP_opt (by rfl) (fun x _ => ⟨_, _, _, _, rfl, Iff.rfl⟩)
theorem wp_putfield {f o : Nat} {x : Int32} : WP X k (.putfield f :: r) lv (.int x :: .ref o :: st) G Q ↔ ∃ G', am_pf G o f x = some G' ∧ WP X k r lv st G' Q := WP_opt (by rfl) (fun x _ => ⟨_, _, _, _, rfl, Iff.rfl⟩)
theorem wp_getstatic {j : Nat} : WP X k (.getstatic j :: r) lv st G Q ↔ WP X k r lv ((if j = 0 then .ref 300 else if j = 1 then .int (nI 1) else .ref 500) :: st) G Q := WP_go rfl
theorem wp_iaload {i : Int32} {o : Nat} : WP X k (.iaload :: r) lv (.int i :: .ref o :: st) G Q ↔ ∃ x, am_ald X G o i = some x ∧ WP X k r lv (.int x :: st) G Q := WP_opt (by rfl) (fun x _ => ⟨_, _, _, _, rfl, Iff.rfl⟩)
theorem wp_baload {i : Int32} {o : Nat} : WP X k (.baload :: r) lv (.int i :: .ref o :: st) G Q ↔ ∃ x, am_bld o i = some x ∧ WP X k r lv (.int x :: st) G Q := WP_opt (by rfl) (fun x _ => ⟨_, _, _, _, rfl, Iff.rfl⟩)
theorem wp_aaload {i : Int32} {o : Nat} : WP X k (.aaload :: r) lv (.int i :: .ref o :: st) G Q ↔ ∃ x, am_qld o i = some x ∧ WP X k r lv (.ref x :: st) G Q := WP_opt (by rfl) (fun x _ => ⟨_, _, _, _, rfl, Iff.rfl⟩)
theorem wp_iastore {i x : Int32} {o : Nat} : WP X k (.iastore :: r) lv (.int x :: .int i :: .ref o :: st) G Q ↔ ∃ G', am_ast G o i x = some G' ∧ WP X k r lv st G' Q := WP_opt (by rfl) (fun x _ => ⟨_, _, _, _, rfl, Iff.rfl⟩)
theorem wp_arraylength {o : Nat} : WP X k (.arraylength :: r) lv (.ref o :: st) G Q ↔ ∃ n, am_len X o = some n ∧ WP X k r lv (.int (nI n) :: st) G Q := WP_opt (by rfl) (fun x _ => ⟨_, _, _, _, rfl, Iff.rfl⟩)
-- jumps, ends
theorem wp_goto {t : Int} : WP X k (.goto t :: r) lv st G Q ↔ WP X k (am_blk k t.toNat) lv st G Q := WP_go rfl
theorem wp_fall {t : Int} : WP X k (.goto_w t :: r) lv st G Q ↔ WP X k (am_blk k t.toNat) lv st G Q := WP_go rfl
theorem wp_ieq {t : Int} {x : Int32} : WP X k (.ifCond .eq t :: r) lv (.int x :: st) G Q ↔ ((x = nI 0 → WP X k (am_blk k t.toNat) lv st G Q) ∧ (¬ x = nI 0 → WP X k r lv st G Q)) := (WP_go rfl).trans (WP_ifc Iff.rfl)
theorem wp_ine {t : Int} {x : Int32} : WP X k (.ifCond .ne t :: r) lv (.int x :: st) G Q ↔ ((x = nI 0 → WP X k r lv st G Q) ∧ (¬ x = nI 0 → WP X k (am_blk k t.toNat) lv st G Q)) := (WP_go rfl).trans (WP_ifn Iff.rfl)
theorem wp_ilt {t : Int} {x : Int32} : WP X k (.ifCond .lt t :: r) lv (.int x :: st) G Q ↔ ((x < nI 0 → WP X k (am_blk k t.toNat) lv st G Q) ∧ (¬ x < nI 0 → WP X k r lv st G Q)) := (WP_go rfl).trans (WP_ifc Iff.rfl)
theorem wp_ige {t : Int} {x : Int32} : WP X k (.ifCond .ge t :: r) lv (.int x :: st) G Q ↔ ((nI 0 ≤ x → WP X k (am_blk k t.toNat) lv st G Q) ∧ (¬ nI 0 ≤ x → WP X k r lv st G Q)) := (WP_go rfl).trans (WP_ifc Iff.rfl)
theorem wp_igt {t : Int} {x : Int32} : WP X k (.ifCond .gt t :: r) lv (.int x :: st) G Q ↔ ((nI 0 < x → WP X k (am_blk k t.toNat) lv st G Q) ∧ (¬ nI 0 < x → WP X k r lv st G Q)) := (WP_go rfl).trans (WP_ifc Iff.rfl)
theorem wp_ile {t : Int} {x : Int32} : WP X k (.ifCond .le t :: r) lv (.int x :: st) G Q ↔ ((x ≤ nI 0 → WP X k (am_blk k t.toNat) lv st G Q) ∧ (¬ x ≤ nI 0 → WP X k r lv st G Q)) := (WP_go rfl).trans (WP_ifc Iff.rfl)
theorem wp_ceq {t : Int} {x y : Int32} : WP X k (.if_icmp .eq t :: r) lv (.int y :: .int x :: st) G Q ↔ ((x = y → WP X k (am_blk k t.toNat) lv st G Q) ∧ (¬ x = y → WP X k r lv st G Q)) := (WP_go rfl).trans (WP_ifc Iff.rfl)
theorem wp_cne {t : Int} {x y : Int32} : WP X k (.if_icmp .ne t :: r) lv (.int y :: .int x :: st) G Q ↔ ((x = y → WP X k r lv st G Q) ∧ (¬ x = y → WP X k (am_blk k t.toNat) lv st G Q)) := (WP_go rfl).trans (WP_ifn Iff.rfl)
theorem wp_clt {t : Int} {x y : Int32} : WP X k (.if_icmp .lt t :: r) lv (.int y :: .int x :: st) G Q ↔ ((x < y → WP X k (am_blk k t.toNat) lv st G Q) ∧ (¬ x < y → WP X k r lv st G Q)) := (WP_go rfl).trans (WP_ifc Iff.rfl)
theorem wp_cge {t : Int} {x y : Int32} : WP X k (.if_icmp .ge t :: r) lv (.int y :: .int x :: st) G Q ↔ ((y ≤ x → WP X k (am_blk k t.toNat) lv st G Q) ∧ (¬ y ≤ x → WP X k r lv st G Q)) := (WP_go rfl).trans (WP_ifc Iff.rfl)
theorem wp_cgt {t : Int} {x y : Int32} : WP X k (.if_icmp .gt t :: r) lv (.int y :: .int x :: st) G Q ↔ ((y < x → WP X k (am_blk k t.toNat) lv st G Q) ∧ (¬ y < x → WP X k r lv st G Q)) := (WP_go rfl).trans (WP_ifc Iff.rfl)
theorem wp_cle {t : Int} {x y : Int32} : WP X k (.if_icmp .le t :: r) lv (.int y :: .int x :: st) G Q ↔ ((x ≤ y → WP X k (am_blk k t.toNat) lv st G Q) ∧ (¬ x ≤ y → WP X k r lv st G Q)) := (WP_go rfl).trans (WP_ifc Iff.rfl)
theorem wp_sw {d lo hi : Int} {offs : Array Int} {x : Int32} : WP X k (.tableswitch d lo hi offs :: r) lv (.int x :: st) G Q ↔ WP X k (am_blk k (am_sw d lo hi offs x).toNat) lv st G Q := WP_go rfl
theorem wp_ret0 {v : Int32} : WP X k (.ret 0 :: r) lv [.int v] G Q ↔ Q (some (.int v)) G := WP_end (by simp [am_st])
theorem wp_ret1 {v : Int32} (h : v = nI 0 ∨ v = nI 1) : WP X k (.ret 1 :: r) lv [.int v] G Q ↔ Q (some (.int v)) G := WP_end (by simp [am_st, h])
theorem wp_ret1z : WP X k (.ret 1 :: r) lv [.int (nI 0)] G Q ↔ Q (some (.int (nI 0))) G := wp_ret1 (Or.inl rfl)
theorem wp_ret1o : WP X k (.ret 1 :: r) lv [.int (nI 1)] G Q ↔ Q (some (.int (nI 1))) G := wp_ret1 (Or.inr rfl)
theorem wp_ret2 {v : Int32} (h : v.toInt8.toInt32 = v) : WP X k (.ret 2 :: r) lv [.int v] G Q ↔ Q (some (.int v)) G := WP_end (by simp only [am_st]; exact if_pos (Or.inr (Or.inr (Or.inl ⟨trivial, h⟩))))
theorem wp_ret3 {v : Int32} (h : (v.toUInt32 % 65536).toInt32 = v) : WP X k (.ret 3 :: r) lv [.int v] G Q ↔ Q (some (.int v)) G := WP_end (by simp only [am_st]; exact if_pos (Or.inr (Or.inr (Or.inr ⟨trivial, h⟩))))
theorem wp_ret4 {v : Int64} : WP X k (.ret 4 :: r) lv [.long v] G Q ↔ Q (some (.long v)) G := WP_end (by simp [am_st])
theorem wp_ret5 {v : Nat} (h : v < 500) : WP X k (.ret 5 :: r) lv [.ref v] G Q ↔ Q (some (.ref v)) G := WP_end (by simp [am_st, h])
theorem wp_return : WP X k (.return_ :: r) lv [] G Q ↔ Q none G := WP_end rfl
theorem wp_copy {n dp sp : Int32} {o1 o2 : Nat} (h : st.length ≤ 4) : WP X k (.invokeinterface 999 5 :: r) lv (.int n :: .int dp :: .ref o2 :: .int sp :: .ref o1 :: st) G Q ↔ ∃ G', am_cpy G o1 sp o2 dp n = some G' ∧ WP X k r lv st G' Q := WP_opt (by simp only [am_st, if_pos h]; rfl) (fun x _ => ⟨_, _, _, _, rfl, Iff.rfl⟩)
theorem wp_min {x y : Int32} (h : st.length ≤ 4) : WP X k (.invokeinterface 996 2 :: r) lv (.int y :: .int x :: st) G Q ↔ WP X k r lv (.int (if y < x then y else x) :: st) G Q := WP_go (by simp only [am_st, if_pos h]; rfl)
theorem wp_max {x y : Int32} (h : st.length ≤ 4) : WP X k (.invokeinterface 997 2 :: r) lv (.int y :: .int x :: st) G Q ↔ WP X k r lv (.int (if x < y then y else x) :: st) G Q := WP_go (by simp only [am_st, if_pos h]; rfl)
theorem wp_abs {x : Int32} (h : st.length ≤ 4) : WP X k (.invokeinterface 998 1 :: r) lv (.int x :: st) G Q ↔ WP X k r lv (.int (if nI 0 ≤ x then x else nI 0 - x) :: st) G Q := WP_go (by simp only [am_st, if_pos h]; rfl)
end WPr
