/-! ===== what the small machine runs, the machine runs; contracts out of runs ===== -/
theorem am_w_own : ∀ k, k < 213 → am_own k < 15 := by decide +kernel
theorem am_prim_of {k pc : Nat} {real : Instr} {m1 n1 : Nat} (h : am_res k pc real = some (.invokeinterface m1 n1)) : m1 < 500 ∨ m1 = 999 ∨ m1 = 996 ∨ m1 = 997 ∨ m1 = 998 := by
  cases real
  case invokevirtual j =>
    simp only [am_res] at h
    split at h
    next q hq =>
      split at h
      next => cases h
      next =>
        have hq1 : q.1 < 500 := am_mlk_lt _ (am_lookup_mem _ hq)
        cases h
        exact Or.inl hq1
    next => cases h
  case invokestatic j =>
    simp only [am_res] at h
    split at h
    next q hq =>
      split at h
      next =>
        have hq1 : q.1 < 500 := am_mlk_lt _ (am_lookup_mem _ hq)
        cases h
        exact Or.inl hq1
      next => cases h
    next =>
      split at h
      next q hq =>
        split at h
        next =>
          have hq1 : q.1 < 500 := am_nlk_lt _ (am_lookup_mem _ hq)
          cases h
          exact Or.inl hq1
        next => cases h
      next =>
        split at h
        next q hq =>
          repeat' split at h
          all_goals first | (cases h; done) | (cases h; omega)
        next => cases h
  all_goals exfalso
  all_goals simp only [am_res] at h
  all_goals try (repeat' split at h)
  all_goals first | (simp at h; done) | (have h := Option.some.inj h; revert h; unfold am_cst; split <;> intro h <;> cases h)
theorem am_na_of {k pc : Nat} {real : Instr} {m1 n1 : Nat} (h : am_res k pc real = some (.invokeinterface m1 n1)) (hm : m1 < 900) : n1 = am_na m1 := by
  cases real
  case invokevirtual j =>
    simp only [am_res] at h
    split at h
    next q hq =>
      split at h
      next => cases h
      next => cases h; rfl
    next => cases h
  case invokestatic j =>
    simp only [am_res] at h
    split at h
    next q hq =>
      split at h
      next => cases h; rfl
      next => cases h
    next =>
      split at h
      next q hq =>
        split at h
        next => cases h; rfl
        next => cases h
      next =>
        split at h
        next q hq =>
          repeat' split at h
          all_goals first | (cases h; done) | (cases h; omega)
        next => cases h
  all_goals exfalso
  all_goals simp only [am_res] at h
  all_goals try (repeat' split at h)
  all_goals first | (simp at h; done) | (have h := Option.some.inj h; revert h; unfold am_cst; split <;> intro h <;> cases h)
theorem am_goodin {ws : List Jvm.Cond} (h : ∀ w ∈ ws, w ∈ wsL_law) : GoodIn wsL_law ws := fun w hw => ⟨h w hw, good_of_word (List.all_eq_true.mp am_good w (h w hw))⟩
noncomputable def am_ws (k : Nat) : List Jvm.Cond := Jvm.Cond.code (am_y k) (am_cc k) (am_mx k) (am_rt k) :: wsL_law
def am_rm (k : Nat) : Room := { frames := am_fr k, cells := 0, slots := 0, locals := am_lo k }
def am_pre (a : Nat → Nat) (sio : Value) (X : AmX) (cI cR cS : ClassId) (D : va_G) (G : GG) (sz : Nat) : State → Prop := fun U => U.heap.size = sz ∧ va_P D vwCl (am_W a cI cR cS G) U.heap ∧ va_K D vwCl (am_ty cI cR cS) U ∧ (∀ i j, i < 72 → j < 72 → a i = a j → i = j) ∧ sio.category = 1 ∧ am_E a sio X (va_A (am_W a cI cR cS G) sz) U U.heap
def am_Qe (a : Nat → Nat) (sio : Value) (cI cR cS : ClassId) (D : va_G) (G1 : GG) (A : Nat → Prop) (v : Option Value) : Array Value → State → Outcome → State → Prop := fun _ st oc t => (oc = .returned (v.map (am_v a sio)) ∧ va_P D vwCl (am_W a cI cR cS G1) t.heap) ∧ va_F A st t
def am_Met (l : Launch) (a : Nat → Nat) (sio : Value) (X : AmX) (cI cR cS : ClassId) (D : va_G) (k : Nat) (as : List Value) (G : GG) (v : Option Value) (G1 : GG) : Prop :=
  ∀ sz : Nat, Met l (am_y k) (am_ws k) (am_rm k) (va_Pc (as.map (am_v a sio)) (am_pre a sio X cI cR cS D G sz)) (am_Qe a sio cI cR cS D G1 (va_A (am_W a cI cR cS G) sz) v) 0 0 (va_A (am_W a cI cR cS G) sz)
def am_ret (k pc : Nat) (v : Option Value) : Prop :=
  (∃ (x : Int32) (ty : FieldType), v = some (.int x) ∧ am_rt k = some ty ∧ narrow ty (.int x) = .int x ∧ decode (am_cc k) pc = .ok (.ireturn, 1)) ∨
  (∃ x : Int64, v = some (.long x) ∧ am_rt k = some .long ∧ decode (am_cc k) pc = .ok (.lreturn, 1)) ∨
  (∃ (x : Nat) (nm : String), v = some (.ref x) ∧ x < 500 ∧ am_rt k = some (.object nm) ∧ decode (am_cc k) pc = .ok (.areturn, 1)) ∨
  (v = none ∧ am_rt k = none ∧ decode (am_cc k) pc = .ok (.return_, 1))
theorem am_blind {a : Nat → Nat} {sio : Value} {X : AmX} {cI cR cS : ClassId} {D : va_G} {G : GG} {sz : Nat} {av : List Value} : FrameBlind (va_Pc av (am_pre a sio X cI cR cS D G sz)) :=
  fun b U g mk q => ⟨q.1, q.2.1, q.2.2.1, va_K.moved (u := U) (U := U.calling g mk b) (Vm.Alike.refl U.vm) q.2.2.2.1, q.2.2.2.2.1, q.2.2.2.2.2.1, am_E.same (u := U) (U := U.calling g mk b) rfl q.2.2.2.2.2.2⟩
theorem am_st_end {X : AmX} {k : Nat} {i : Instr} {r : List Instr} {lv : LV} {st : List Value} {G : GG} {z : Option Value × GG} (h : am_st X k i r lv st G = some (.inr (.inl z))) : (∃ t, i = .ret t) ∨ i = .return_ := by
  cases i
  case ret t => exact Or.inl ⟨t, rfl⟩
  case return_ => exact Or.inr rfl
  all_goals
    exfalso
    simp only [am_st, am_push, am_bin, am_binZ, am_binL, am_un, am_opt] at h
    try cases h
    repeat' split at h
    all_goals cases h
theorem am_st_call {X : AmX} {k m : Nat} {i : Instr} {r : List Instr} {lv lv1 : LV} {st st1 as : List Value} {G : GG} (h : am_st X k i r lv st G = some (.inr (.inr (m, as, lv1, st1)))) : ∃ c, i = .invokeinterface m c ∧ ¬ m = 999 ∧ ¬ m = 996 ∧ ¬ m = 997 ∧ ¬ m = 998 ∧ c ≤ st.length ∧ st1.length ≤ 4 ∧ am_rcv m as = true ∧ as = (st.take c).reverse ∧ st1 = st.drop c ∧ lv1 = lv := by
  cases i
  case invokeinterface m' c =>
    simp only [am_st] at h
    split at h
    next =>
      split at h
      next =>
        split at h
        next => obtain ⟨x, h1, h2⟩ := am_opt_inv h; cases h2
        next => cases h
      next => cases h
    next h999 =>
      split at h
      next =>
        simp only [am_push] at h
        repeat' split at h
        all_goals cases h
      next h996 =>
        split at h
        next =>
          simp only [am_push] at h
          repeat' split at h
          all_goals cases h
        next h997 =>
          split at h
          next =>
            simp only [am_push] at h
            repeat' split at h
            all_goals cases h
          next h998 =>
            split at h
            next hc =>
              cases h
              exact ⟨c, rfl, h999, h996, h997, h998, hc.1, hc.2.1, hc.2.2, rfl, rfl, rfl⟩
            next => cases h
  all_goals
    exfalso
    simp only [am_st, am_push, am_bin, am_binZ, am_binL, am_un, am_opt] at h
    try cases h
    repeat' split at h
    all_goals cases h
def am_kind (i : Instr) : Nat := match i with
  | .ret _ => 1
  | .return_ => 2
  | .invokeinterface _ _ => 3
  | _ => 0
def am_rkind (i : Instr) : Nat := match i with
  | .ireturn => 1
  | .lreturn => 1
  | .areturn => 1
  | .return_ => 2
  | .invokevirtual _ => 3
  | .invokestatic _ => 3
  | _ => 0
theorem am_kind_cst (n : Int) : am_kind (am_cst n) = 0 := by cases n <;> rfl
theorem am_res_kind {k pc : Nat} {real i : Instr} (h : am_res k pc real = some i) : am_rkind real = am_kind i := by
  cases real
  all_goals simp only [am_res] at h
  all_goals try (repeat' split at h)
  all_goals first | (simp at h; done) | (obtain rfl := Option.some.inj h; first | rfl | exact (am_kind_cst _).symm)
theorem am_ret_of {X : AmX} {k pc : Nat} {i : Instr} {r : List Instr} {lv : LV} {st : List Value} {G G1 : GG} {v : Option Value} (hat : am_at k pc (i :: r) = true) (h : am_st X k i r lv st G = some (.inr (.inl (v, G1)))) : am_ret k pc v ∧ G = G1 ∧ st = v.toList := by
  rcases am_at_dec hat with ⟨t, rfl, rfl⟩ | ⟨real, len, hd, hres, hln, hctl, hr⟩
  · cases h
  have hkd := am_res_kind hres
  rcases am_st_end h with ⟨t, rfl⟩ | rfl
  · simp only [am_st] at h
    cases real
    case ireturn =>
      obtain rfl : len = 1 := eq_of_beq hln
      simp only [am_res] at hres
      split at h
      next x =>
        split at h
        next hx =>
          cases h
          refine ⟨Or.inl ?_, rfl, rfl⟩
          split at hres
          next hrt => exact ⟨x, _, rfl, hrt, rfl, hd⟩
          next hrt =>
            cases hres
            refine ⟨x, _, rfl, hrt, ?_, hd⟩
            rcases (show x = nI 0 ∨ x = nI 1 by rcases hx with h | h | h | h <;> first | exact h.2 | (exact absurd h (by decide)) | (exact absurd h.1 (by decide))) with rfl | rfl <;> rfl
          next hrt =>
            cases hres
            refine ⟨x, _, rfl, hrt, ?_, hd⟩
            have hx2 : x.toInt8.toInt32 = x := by rcases hx with h | h | h | h <;> first | exact h.2 | (exact absurd h (by decide)) | (exact absurd h.1 (by decide))
            show Value.int x.toInt8.toInt32 = _
            rw [hx2]
          next hrt =>
            cases hres
            refine ⟨x, _, rfl, hrt, ?_, hd⟩
            have hx2 : (x.toUInt32 % 65536).toInt32 = x := by rcases hx with h | h | h | h <;> first | exact h.2 | (exact absurd h (by decide)) | (exact absurd h.1 (by decide))
            have hn := pk_nc x
            rw [hx2] at hn
            exact hn
          next => cases hres
        next => cases h
      next x =>
        split at h
        next hx => subst hx; exfalso; revert hres; split <;> intro hres <;> cases hres
        next => cases h
      next x =>
        split at h
        next hx => obtain ⟨rfl, -⟩ := hx; exfalso; revert hres; split <;> intro hres <;> cases hres
        next => cases h
      next => cases h
    case lreturn =>
      obtain rfl : len = 1 := eq_of_beq hln
      simp only [am_res] at hres
      split at hres
      next hrt =>
        cases hres
        split at h
        next x => exact absurd h (by simp)
        next x => simp only [if_true] at h; cases h; exact ⟨Or.inr (Or.inl ⟨x, rfl, hrt, hd⟩), rfl, rfl⟩
        next x => exact absurd h (by simp)
        next => cases h
      next => cases hres
    case areturn =>
      obtain rfl : len = 1 := eq_of_beq hln
      simp only [am_res] at hres
      split at hres
      next nm hrt =>
        cases hres
        split at h
        next x => exact absurd h (by simp)
        next x => exact absurd h (by simp)
        next x =>
          split at h
          next hx => cases h; exact ⟨Or.inr (Or.inr (Or.inl ⟨x, nm, rfl, hx.2, hrt, hd⟩)), rfl, rfl⟩
          next => cases h
        next => cases h
      next => cases hres
    all_goals first | exact absurd (show (0 : Nat) = 1 from hkd) (by decide) | exact absurd (show (2 : Nat) = 1 from hkd) (by decide) | exact absurd (show (3 : Nat) = 1 from hkd) (by decide)
  · simp only [am_st] at h
    split at h
    next =>
      cases h
      cases real
      case return_ =>
        obtain rfl : len = 1 := eq_of_beq hln
        simp only [am_res] at hres
        split at hres
        next hrt => exact ⟨Or.inr (Or.inr (Or.inr ⟨rfl, hrt, hd⟩)), rfl, rfl⟩
        next => cases hres
      all_goals first | exact absurd (show (0 : Nat) = 2 from hkd) (by decide) | exact absurd (show (1 : Nat) = 2 from hkd) (by decide) | exact absurd (show (3 : Nat) = 2 from hkd) (by decide)
    next => cases h
section AMC
variable {p : Program} {l : Launch} {e : Env} {R : Room} {s : State} {m : MethodId} {args : Array Value} {below : List Frame} {meth : Method} {c : Code} {cells slots : Nat} {Q : State → Prop}
variable {a : Nat → Nat} {sio : Value} {X : AmX} {cI cR cS : ClassId} {D : va_G} {k : Nat} {A : Nat → Prop} {pc : Nat} {lv lv1 : LV} {st st1 : List Value} {G G1 : GG} {i : Instr} {r ops1 : List Instr}
theorem am_callW {H : Heap} {locs : List Loc} {ls : Array Slot} {rest st0 : List Value} {w1 : va_W} {A0 A1 : Nat → Prop} {H0 : Heap} {free : Addr → Prop} {v : Option Value} (hr : va_Run p l e R s m args below meth c H locs cells slots 0 0 (F0 m pc ls st0) rest (fun sx oc t => (oc = .returned v ∧ va_P D vwCl w1 t.heap) ∧ va_F A1 sx t) free) (hS : va_S A0 H0 H locs) (hA : ∀ q, A1 q → A0 q) (hf : ∀ q, free q → A0 q)
    (kk : ∀ (H1 : Heap) (locs1 : List Loc), va_P D vwCl w1 H1 → va_S A0 H0 H1 locs1 → W p l e R s m args below meth c H1 locs1 cells slots Q (F0 m (pc + 3) ls (v.toList ++ rest))) : W p l e R s m args below meth c H locs cells slots Q (F0 m pc ls st0) := by
  intro T hT Y
  obtain ⟨v1, sx, t, T', L, h0, Y', hL, e1, e2, ⟨⟨hv, hp⟩, hz, hk⟩, hst⟩ := hr T hT Y
  cases hv
  rw [h0] at hz hk
  obtain ⟨t2, a1, b1⟩ := kk T'.heap (locs ++ L) (by rw [e1]; exact hp)
    ⟨Nat.le_trans hS.1 (by rw [e1]; exact hz), fun q h1 h2 => by rw [e1, hk q (Nat.lt_of_lt_of_le h1 hS.1) (fun z => h2 (hA q z))]; exact hS.2.1 q h1 h2, fun q hq => by
      rcases List.mem_append.mp hq with h | h
      · exact hS.2.2 q h
      · exact hf _ (hL q h)⟩ T' rfl Y'
  exact ⟨t2, hst t2 a1, b1⟩
theorem am_w_in {k : Nat} (hk : k < 213) : ∀ w ∈ am_ws k, w ∈ wsL_law := fun w hw => (List.mem_cons.mp hw).elim (fun e => e ▸ am_w_code k hk) id
theorem am_narrowA {H : Heap} {locs : List Loc} {A0 : Nat → Prop} {H0 : Heap} (hap : ∀ k, k < 72 → A0 (a k)) (hA : ∀ q : Nat, H0.size ≤ q → A0 q) (hS : va_S A0 H0 H locs) : ∀ q, va_A (am_W a cI cR cS G) H.size q → A0 q := by
  rintro q (⟨j, e', hj⟩ | h)
  · have hj72 : j < 72 := by rw [← am_W_len (a := a) (cI := cI) (cR := cR) (cS := cS) (G := G)]; exact (List.getElem?_eq_some_iff.mp hj).1
    rw [am_W_get hj72] at hj
    cases hj
    exact hap j hj72
  · exact hA q (Nat.le_trans hS.1 h)
theorem am_clsof_c (o : Nat) : (∃ ci fs, am_sh o = 1 :: ci :: fs ∧ am_clsof o = ci) ∨ (100 ≤ o ∧ o < 111 ∧ am_clsof o = 6) ∨ am_clsof o = 99 := by
  unfold am_clsof
  split
  next ci fs hsh => exact Or.inl ⟨ci, fs, hsh, rfl⟩
  next =>
    split
    next h => exact Or.inr (Or.inl ⟨h.1, h.2, rfl⟩)
    next => exact Or.inr (Or.inr rfl)
theorem am_call (C : am_C a sio X cI cR cS D k p R s m args c A cells slots) {m1 n1 : Nat} (hat : am_at k pc (.invokeinterface m1 n1 :: r) = true) (hm : ¬ m1 = 999 ∧ ¬ m1 = 996 ∧ ¬ m1 = 997 ∧ ¬ m1 = 998) {as rest : List Value} (hst : st = as.reverse ++ rest) (hn : n1 = as.length) (hlen : rest.length ≤ 4) (hrc : am_rcv m1 as = true) {v : Option Value} (hM : am_Met l a sio X cI cR cS D m1 as G v G1) (hat2 : ∀ pc1, am_at k pc1 r = true → am_Wt (fun H locs g => W p l e R s m args below meth c H locs cells slots Q g) D a sio cI cR cS m (am_mx k) A s.heap (pc1) (lv) (v.toList ++ rest) (G1)) : am_Wt (fun H locs g => W p l e R s m args below meth c H locs cells slots Q g) D a sio cI cR cS m (am_mx k) A s.heap (pc) (lv) (st) (G) := by
  obtain ⟨hx, hb, hml, hown, hts, hK, hE, hA, hfr, hlo, hce, hsl, hap, hsio⟩ := C
  rcases am_at_dec hat with ⟨t, h, -⟩ | ⟨real, len, hd, hres, hln, hctl, hr⟩
  · cases h
  have hkd := am_res_kind hres
  have hr2 := hr.resolve_left (fun z => by cases z)
  have hnprim : ¬ 996 ≤ m1 := by
    intro hge
    have hpr := am_prim_of hres
    omega
  have hct : m1 < am_nM ∧ am_fr m1 + 1 ≤ am_fr k ∧ 8 + (am_mx m1 + 11) + am_lo m1 ≤ am_lo k := by
    unfold am_ctl at hctl
    simp only at hctl
    rw [if_neg hnprim] at hctl
    exact of_decide_eq_true hctl
  obtain ⟨hm1, hf1, hl1⟩ := hct
  have hm1 : m1 < 213 := hm1
  obtain ⟨hyc, hyp, hy1, hy2, hy3⟩ := am_w_y m1 hm1
  intro hL ls H locs hP hS hl
  have hD := am_W_D (cI := cI) (cR := cR) (cS := cS) (G := G) hap
  have hfree := am_narrowA (cI := cI) (cR := cR) (cS := cS) (G := G) hap.2 hA hS
  have hsum := am_sum (am_cat2 (a := a) hsio) rest
  have hini := hts _ (List.mem_of_getElem? (am_w_ini m1 hm1))
  have hpre : ∀ U : State, U.heap = H → s.WarmedH U.vm → va_Pc (as.map (am_v a sio)) (am_pre a sio X cI cR cS D G H.size) (as.map (am_v a sio)).toArray U := fun U hU hW =>
    ⟨rfl, by rw [hU], by rw [hU]; exact hP, va_K.moved hW.alike hK, hap.1, hsio, by rw [hU]; exact ((hE.kept hS).warm hW).narrow hfree⟩
  have hkk := fun (H1 : Heap) (locs1 : List Loc) (h1 : va_P D vwCl (am_W a cI cR cS G1) H1) (h2 : va_S A s.heap H1 locs1) => hat2 (pc + 3)
  have hroom : (am_rm m1).frames + 1 ≤ R.frames ∧ 8 + (am_mx m1 + 11) + (am_rm m1).locals ≤ R.locals := ⟨Nat.le_trans hf1 hfr, Nat.le_trans hl1 hlo⟩
  have hmaps : st.map (am_v a sio) = (as.map (am_v a sio)).reverse ++ rest.map (am_v a sio) := by rw [hst, List.map_append, List.map_reverse]
  have hcat : (v.map (am_v a sio)).toList ++ rest.map (am_v a sio) = (v.toList ++ rest).map (am_v a sio) := by cases v <;> simp
  cases real
  case invokevirtual j =>
    obtain rfl : len = 3 := eq_of_beq hln
    simp only [am_res] at hres
    split at hres
    next q hq =>
      split at hres
      next => cases hres
      next hsf =>
        have hlinkw := am_mlk_ok _ (am_lookup_mem _ hq)
        have hres := Option.some.inj hres
        cases hres
        have hsf : am_stat q.1 = false := by simpa using hsf
        cases as with
        | nil => simp [am_rcv, hsf] at hrc
        | cons v0 as =>
          have hrc2 : ∃ o : Nat, v0 = .ref o ∧ am_clsof o = am_own q.1 := by
            simp only [am_rcv, hsf, Bool.false_or, Bool.and_eq_true] at hrc
            cases v0 with
            | ref o => exact ⟨o, rfl, eq_of_beq hrc.2⟩
            | _ => exact absurd hrc.2 (by simp)
          obtain ⟨o, rfl, hclo⟩ := hrc2
          have hsel := am_w_sel q.1 hm1 hsf
          have hinst := am_w_stat q.1 hm1
          rw [hsf] at hinst hy3
          have hin2 : ∀ w ∈ wsV (am_cn (am_own k)) j (am_cn (am_own q.1)) (am_y q.1) (am_ws q.1), w ∈ wsL_law := by
            intro w hw
            rcases List.mem_append.mp hw with h | h
            · simp only [List.mem_cons, List.not_mem_nil, or_false] at h
              rcases h with rfl | rfl | rfl | rfl
              · exact List.mem_of_getElem? hlinkw
              · exact List.mem_of_getElem? hinst
              · exact List.mem_of_getElem? hsel
              · rw [← hyc]; exact List.mem_of_getElem? (am_w_ini q.1 hm1)
            · exact am_w_in hm1 w h
          have hwo := am_w_own q.1 hm1
          have ho5 : o < 500 := by
            rcases am_clsof_c o with ⟨ci, fs, h1, h2⟩ | ⟨h1, h2, h3⟩ | h1
            · have := (am_sh_obj h1).1; omega
            · omega
            · omega
          have hrecv : ∃ cellB : Cell, H[a o]? = some cellB ∧ cellB.vm.isStatics = false ∧ s.vm.findClass (am_cn (am_own q.1)) = some cellB.cls := by
            rcases am_clsof_c o with ⟨ci, fs, hsh, h2⟩ | ⟨h1, h2, h3⟩ | h1
            · obtain ⟨ho, hci, -⟩ := am_sh_obj hsh
              rw [← hclo, h2]
              exact va_recv (q0 := o) hK hP (am_cl_ok hci) (by rw [am_W_get ho, am_cell_obj hsh])
            · rw [← hclo, h3]
              have h4 := vk_recv (N := 11) (i := o - 100) hE.2.2.2.2.2.2.1 (show o - 100 < 11 by omega) hS
              simp only [show 100 + (o - 100) = o by omega] at h4
              exact h4
            · omega
          simp only [List.map_cons, am_v_ref ho5] at hpre hmaps
          refine am_callW (rest := rest.map (am_v a sio)) (v := v.map (am_v a sio)) (free := va_A (am_W a cI cR cS G) H.size) (A1 := va_A (am_W a cI cR cS G) H.size) (w1 := am_W a cI cR cS G1) (va_runV (C := am_cn (am_own q.1)) (b := a o) (As := as.map (am_v a sio)) (n := am_na q.1 - 1) ⟨hx, hb, hml, hown, hts⟩ (hM H.size) (cwV (am_na q.1 - 1) hts (am_goodin hin2) rfl rfl rfl ⟨hyc, hy1, hy2, hy3⟩ hroom) ⟨am_blind, hrecv, fun U hU hW => by have := hpre U hU hW; simp only [List.map_cons, am_v_ref ho5]; exact this⟩ rfl (by rw [List.length_map]; simp only [List.length_cons] at hn; omega) hl.1 (by rw [hmaps]; simp) (lv_room (by omega)) hd ⟨hce, hsl⟩) hS hfree hfree (fun H1 locs1 h1 h2 => ?_)
          rw [hcat]
          exact hat2 (pc + 3) hr2 hL ls H1 locs1 h1 h2 hl
    next => cases hres
  case invokestatic j =>
    obtain rfl : len = 3 := eq_of_beq hln
    simp only [am_res] at hres
    split at hres
    next q hq =>
      split at hres
      next hsf =>
        have hlinkw := am_mlk_ok _ (am_lookup_mem _ hq)
        have hres := Option.some.inj hres
        cases hres
        have hinst := am_w_stat q.1 hm1
        rw [hsf] at hinst hy3
        have hin2 : ∀ w ∈ va_wsS (am_cn (am_own k)) j (am_y q.1) (am_ws q.1), w ∈ wsL_law := by
          intro w hw
          rcases List.mem_append.mp hw with h | h
          · simp only [List.mem_cons, List.not_mem_nil, or_false] at h
            rcases h with rfl | rfl | rfl
            · exact List.mem_of_getElem? hlinkw
            · exact List.mem_of_getElem? hinst
            · exact List.mem_of_getElem? (am_w_ini q.1 hm1)
          · exact am_w_in hm1 w h
        refine am_callW (rest := rest.map (am_v a sio)) (v := v.map (am_v a sio)) (free := va_A (am_W a cI cR cS G) H.size) (A1 := va_A (am_W a cI cR cS G) H.size) (w1 := am_W a cI cR cS G1) (va_runS (As := as.map (am_v a sio)) (n := am_na q.1) ⟨hx, hb, hml, hown, hts⟩ (hM H.size) (va_cwS (am_na q.1) hts (am_goodin hin2) rfl rfl rfl ⟨hy1, hy2, hy3⟩ hroom) ⟨am_blind, hpre⟩ rfl (by rw [List.length_map]; omega) hl.1 hmaps (lv_room (by omega)) hd ⟨hce, hsl⟩) hS hfree hfree (fun H1 locs1 h1 h2 => ?_)
        rw [hcat]
        exact hat2 (pc + 3) hr2 hL ls H1 locs1 h1 h2 hl
      next => cases hres
    next =>
      split at hres
      next q hq =>
        split at hres
        next hsf =>
          have hlinkn := am_nlk_ok _ (am_lookup_mem _ hq)
          have hres := Option.some.inj hres
          cases hres
          have hinst := am_w_stat q.1 hm1
          rw [hsf] at hinst hy3
          have hnest := hE.1 _ (List.mem_of_getElem? hlinkn)
          refine am_callW (rest := rest.map (am_v a sio)) (v := v.map (am_v a sio)) (free := va_A (am_W a cI cR cS G) H.size) (A1 := va_A (am_W a cI cR cS G) H.size) (w1 := am_W a cI cR cS G1) (va_runSN (As := as.map (am_v a sio)) (n := am_na q.1) ⟨hx, hb, hml, hown, hts⟩ (hM H.size) ⟨va_cnB (am_na q.1) hts (am_goodin (am_w_in hm1)) rfl rfl rfl hnest hini ⟨hy1, hy2, hy3⟩ hroom, am_word hts hinst, trivial⟩ ⟨am_blind, hpre⟩ rfl (by rw [List.length_map]; omega) hl.1 hmaps (lv_room (by omega)) hd ⟨hce, hsl⟩) hS hfree hfree (fun H1 locs1 h1 h2 => ?_)
          rw [hcat]
          exact hat2 (pc + 3) hr2 hL ls H1 locs1 h1 h2 hl
        next => cases hres
      next =>
        exfalso
        split at hres
        next q hq =>
          repeat' split at hres
          all_goals (try cases hres)
          all_goals omega
        next => cases hres
  all_goals first | exact absurd (show (0 : Nat) = 3 from hkd) (by decide) | exact absurd (show (1 : Nat) = 3 from hkd) (by decide) | exact absurd (show (2 : Nat) = 3 from hkd) (by decide)
end AMC
theorem am_run_nil {X : AmX} {n k : Nat} {lv : LV} {st : List Value} {G : GG} : am_run X n k [] lv st G = none := by cases n <;> rfl
theorem am_lv_args {vs : List Value} (hc : ∀ v ∈ vs, v.category = 1) : ∀ (i j : Nat) (v : Value), vs[j]? = some v → (i + j, v) ∈ lv_args i vs := by
  induction vs with
  | nil => intro i j v h; simp at h
  | cons w vs ih =>
    intro i j v h
    have hw : w.category = 1 := hc w List.mem_cons_self
    have e : lv_args i (w :: vs) = (i, w) :: lv_args (i + 1) vs := by simp [lv_args, hw]
    rw [e]
    cases j with
    | zero =>
      simp only [List.getElem?_cons_zero, Option.some.injEq] at h
      subst h
      exact List.mem_cons_self
    | succ j =>
      have := ih (fun v hv => hc v (List.mem_cons_of_mem _ hv)) (i + 1) j v (by simpa using h)
      rw [show i + 1 + j = i + (j + 1) by omega] at this
      exact List.mem_cons_of_mem _ this
theorem am_sl_len {vs : List Value} (hc : ∀ v ∈ vs, v.category = 1) : (lg_sl vs).length = vs.length := by
  induction vs with
  | nil => rfl
  | cons w vs ih =>
    have hw : w.category = 1 := hc w List.mem_cons_self
    have := ih (fun v hv => hc v (List.mem_cons_of_mem _ hv))
    simp only [lg_sl, List.flatMap_cons, hw, List.length_append, List.length_cons] at this ⊢
    simp at this ⊢
    omega
theorem am_ent_has {a : Nat → Nat} {sio : Value} (hs : sio.category = 1) {k : Nat} {as : List Value} (hc : ∀ v ∈ as, am_c1 v = true) (hn : as.length ≤ am_mx k) : lv_has ((lg_sl (as.map (am_v a sio)) ++ List.replicate (am_mx k - (lg_sl (as.map (am_v a sio))).length) Slot.unset).toArray) (am_mx k) (am_lvo (am_v a sio) 0 (am_ent k as)) := by
  have hc2 : ∀ v ∈ as.map (am_v a sio), v.category = 1 := by
    intro v hv
    obtain ⟨w, hw, rfl⟩ := List.mem_map.mp hv
    rw [am_v_cat hs]
    exact am_c1_cat (hc w hw)
  have h := lv_entry (as.map (am_v a sio)) (n := am_mx k) (by rw [am_sl_len hc2, List.length_map]; exact hn)
  refine ⟨h.1, h.2.1, fun q hq => h.2.2 q ?_⟩
  obtain ⟨j, v, h1, h2⟩ := (am_lvo_mem _ _ 0 q).mp hq
  have h3 : as[j]? = some v := by
    unfold am_ent at h1
    rcases Nat.lt_or_ge j as.length with z | z
    · rw [List.getElem?_append_left (by simpa using z), List.getElem?_map] at h1
      cases hz : as[j]? with
      | none => rw [hz] at h1; cases h1
      | some w => rw [hz] at h1; simpa using h1
    · rw [List.getElem?_append_right (by simpa using z)] at h1
      have := List.eq_of_mem_replicate (List.mem_of_getElem? h1)
      cases this
  rw [h2]
  exact am_lv_args hc2 0 j (am_v a sio v) (by rw [List.getElem?_map, h3]; rfl)
def am_Sim (l : Launch) (a : Nat → Nat) (sio : Value) (X : AmX) (cI cR cS : ClassId) (D : va_G) (n : Nat) : Prop :=
  ∀ (k : Nat), k < 214 → ∀ (pc : Nat) (ops : List Instr) (lv : LV) (st : List Value) (G : GG) (v : Option Value) (G1 : GG), am_run X n k ops lv st G = some (v, G1) → am_at k pc ops = true →
  ∀ (p : Program) (e : Env) (R : Room) (s : State) (m : MethodId) (args : Array Value) (below : List Frame) (meth : Method) (c : Code) (A : Nat → Prop) (cells slots : Nat) (Q : State → Prop), am_C a sio X cI cR cS D k p R s m args c A cells slots →
  (∀ (H1 : Heap) (locs1 : List Loc) (pc1 : Nat) (ls1 : Array Slot), am_ret k pc1 v → va_P D vwCl (am_W a cI cR cS G1) H1 → va_S A s.heap H1 locs1 → W p l e R s m args below meth c H1 locs1 cells slots Q (F0 m pc1 ls1 (v.toList.map (am_v a sio)))) →
  am_Wt (fun H locs g => W p l e R s m args below meth c H locs cells slots Q g) D a sio cI cR cS m (am_mx k) A s.heap (pc) (lv) (st) (G)
theorem am_met_of {l : Launch} {a : Nat → Nat} {sio : Value} {X : AmX} {cI cR cS : ClassId} {D : va_G} {n k : Nat} {as : List Value} {G G1 : GG} {v : Option Value} (hok : ∀ k, k < 214 → am_okm k = true) (hS : am_Sim l a sio X cI cR cS D n) (hk : k < 213) (hrun : am_run X n k (am_blk k 0) (am_ent k as) [] G = some (v, G1)) (hc : ∀ w ∈ as, am_c1 w = true) (hn : as.length ≤ am_mx k) : am_Met l a sio X cI cR cS D k as G v G1 := by
  intro sz
  obtain ⟨hyc, hyp, -⟩ := am_w_y k hk
  refine Met.ofW (cc := am_cc k) (maxL := am_mx k) (ret := am_rt k) hyp rfl ?_
  intro p e s m args0 below meth c s₁ B hml hv
  obtain ⟨rfl, hsz, hP, hK, hap, hsio, hE⟩ := hv
  subst hsz
  rw [lg_entry_eq]
  have hts := atoms_spec (ws := am_ws k) B.pre
  have hat : am_at k 0 (am_blk k 0) = true := by
    rcases am_blk_at (b := 0) (hok k (by omega)) with h | h
    · rw [h, am_run_nil] at hrun; cases hrun
    · exact h
  have hlocks := B.notSynchronized
  have hlen : (am_ent k as).length = am_mx k := by simp [am_ent]; omega
  refine hS k (by omega) 0 (am_blk k 0) (am_ent k as) [] G v G1 hrun hat p e (am_rm k) s m (as.map (am_v a sio)).toArray below meth c (va_A (am_W a cI cR cS G) s.heap.size) 0 0 _ ?_ ?_ hlen _ s.heap [] hP va_S.rf (am_ent_has hsio hc hn)
  · refine ⟨B.exec, B.bytes, hml, ?_, fun w hw => hts w (List.mem_cons_of_mem _ hw), hK, hE, fun q h => Or.inr h, Nat.le_refl _, Nat.le_refl _, Nat.zero_le _, Nat.zero_le _, ⟨hap, fun j hj => Or.inl ⟨j, _, am_W_get hj⟩⟩, hsio⟩
    rw [← hyc]
    exact findClass_of_methodNamed B.named
  · intro H1 locs1 pc1 ls1 hr hP1 hS1
    have hq : ∀ t : State, t.heap = H1 → s.WarmedH t.vm → am_Qe a sio cI cR cS D G1 (va_A (am_W a cI cR cS G) s.heap.size) v (as.map (am_v a sio)).toArray s (.returned (v.map (am_v a sio))) t := fun t ht _ => ⟨⟨rfl, by rw [ht]; exact hP1⟩, hS1.F ht⟩
    have hB := B.returns
    rcases hr with ⟨x, ty, rfl, hrt, hnr, hd⟩ | ⟨x, rfl, hrt, hd⟩ | ⟨x, nm, rfl, hx5, hrt, hd⟩ | ⟨rfl, hrt, hd⟩
    · exact W.zret B.exec B.bytes (hB.trans hrt) hnr hq hS1.2.2 hd hlocks
    · exact W.lret B.exec B.bytes (hB.trans hrt) hq hS1.2.2 hd hlocks
    · have hv : am_v a sio (.ref x) = .ref (a x) := am_v_ref hx5
      simp only [Option.map_some, hv] at hq
      simp only [Option.toList_some, List.map_cons, List.map_nil, hv]
      exact W.aret B.exec B.bytes (hB.trans hrt) (Or.inl ⟨nm, rfl⟩) (Or.inr ⟨_, rfl⟩) hq hS1.2.2 hd hlocks
    · exact W.vret B.exec B.bytes (hB.trans hrt) hq hS1.2.2 hd hlocks
theorem am_sim (l : Launch) (a : Nat → Nat) (sio : Value) (X : AmX) (cI cR cS : ClassId) (D : va_G) (hok : ∀ k, k < 214 → am_okm k = true) : ∀ n : Nat, am_Sim l a sio X cI cR cS D n := by
  intro n
  induction n with
  | zero => intro k hk pc ops lv st G v G1 h; cases h
  | succ n ih =>
    intro k hk pc ops lv st G v G1 h hat p e R s m args below meth c A cells slots Q C hret
    cases ops with
    | nil => cases h
    | cons i r =>
      unfold am_run at h
      cases hst : am_st X k i r lv st G with
      | none => rw [hst] at h; cases h
      | some z =>
        rw [hst] at h
        rcases z with ⟨ops1, lv1, st1, G2⟩ | ⟨v2, G2⟩ | ⟨m1, as, lv1, st1⟩
        · simp only at h
          obtain ⟨pc1, hat1, himp⟩ := am_step (l := l) (e := e) (below := below) (meth := meth) (Q := Q) C hat hst
          refine himp ?_
          have hat2 : am_at k pc1 ops1 = true := by
            rcases hat1 with h1 | rfl
            · exact h1
            · rcases am_blk_at (b := pc1) (hok k hk) with h2 | h2
              · rw [h2, am_run_nil] at h; cases h
              · exact h2
          exact ih k hk pc1 ops1 lv1 st1 G2 v G1 h hat2 p e R s m args below meth c A cells slots Q C hret
        · simp only at h
          cases h
          obtain ⟨h1, rfl, rfl⟩ := am_ret_of hat hst
          intro hL ls H locs hP hS hl
          exact hret H locs pc ls h1 hP hS
        · simp only at h
          obtain ⟨c1, rfl, m999, m996, m997, m998, hle, hlen, hrc, rfl, rfl, rfl⟩ := am_st_call hst
          cases hc : am_run X n m1 (am_blk m1 0) (am_ent m1 (st.take c1).reverse) [] G with
          | none => rw [hc] at h; cases h
          | some w =>
            obtain ⟨v1, G2⟩ := w
            rw [hc] at h
            simp only at h
            have hc1 : ∀ w ∈ (st.take c1).reverse, am_c1 w = true := by
              unfold am_rcv at hrc
              simp only [Bool.and_eq_true] at hrc
              exact List.all_eq_true.mp hrc.1
            have hlen1 : c1 = (st.take c1).reverse.length := by rw [List.length_reverse, List.length_take]; omega
            have hst1 : st = (st.take c1).reverse.reverse ++ st.drop c1 := by rw [List.reverse_reverse, List.take_append_drop]
            rcases am_at_dec hat with ⟨t, h9, -⟩ | ⟨real, len, hd, hres, hln, hctl, hr⟩
            · cases h9
            have hm1 : m1 < 213 := by
              have hpr := am_prim_of hres
              unfold am_ctl at hctl
              simp only at hctl
              rw [if_neg (by omega)] at hctl
              have h8 := (of_decide_eq_true hctl).1
              exact h8
            have hna := am_na_of hres (by omega)
            have hM : am_Met l a sio X cI cR cS D m1 (st.take c1).reverse G v1 G2 := am_met_of (fun k hk => hok k hk) ih hm1 hc hc1 (by rw [← hlen1]; have := (am_w_na m1 hm1).2; omega)
            exact am_call C hat ⟨m999, m996, m997, m998⟩ hst1 hlen1 hlen hrc hM (fun pc1 h1 => ih k hk pc1 r _ _ G2 v G1 h h1 p e R s m args below meth c A cells slots Q C hret)
