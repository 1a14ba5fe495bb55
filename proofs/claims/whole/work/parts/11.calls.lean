/-! ===== contracts whose end is a function of the start; calls that put back in place ===== -/
def tt_spl : va_W → List Nat → va_W → va_W
  | ws, i :: is, q :: qs => tt_spl (ws.set i q) is qs
  | ws, _, _ => ws
theorem tt_spl_get : ∀ (is : List Nat) (w1 ws : va_W) (k : Nat) (q : Nat × va_E), is.length = w1.length → (tt_spl ws is w1)[k]? = some q → (∃ j : Nat, is[j]? = some k ∧ w1[j]? = some q) ∨ (k ∉ is ∧ ws[k]? = some q)
  | [], [], ws, k, q, _, h => Or.inr ⟨List.not_mem_nil, h⟩
  | [], _ :: _, ws, k, q, hl, _ => by simp at hl
  | _ :: _, [], ws, k, q, hl, _ => by simp at hl
  | i :: is, q' :: qs, ws, k, q, hl, h => by
    have h2 : (tt_spl (ws.set i q') is qs)[k]? = some q := h
    rcases tt_spl_get is qs (ws.set i q') k q (by simpa using hl) h2 with ⟨j, a, b⟩ | ⟨a, b⟩
    · exact Or.inl ⟨j + 1, by simpa using a, by simpa using b⟩
    · by_cases hk : i = k
      · subst hk
        have hlt : i < ws.length := by
          have h3 := (List.getElem?_eq_some_iff.mp b).1
          simpa using h3
        rw [List.getElem?_set_self hlt] at b
        exact Or.inl ⟨0, rfl, b⟩
      · rw [List.getElem?_set_ne hk] at b
        refine Or.inr ⟨fun hm => ?_, b⟩
        rcases List.mem_cons.mp hm with h4 | h4
        · exact hk h4.symm
        · exact a h4
theorem tt_D_fst {A : Nat → Prop} {ws ws' : va_W} (h : va_D A ws) (e : ws'.map Prod.fst = ws.map Prod.fst) : va_D A ws' := by
  have at' : ∀ (k : Nat) (q : Nat × va_E), ws'[k]? = some q → ∃ q0, ws[k]? = some q0 ∧ q0.1 = q.1 := by
    intro k q hq
    have h1 : (ws'.map Prod.fst)[k]? = some q.1 := by rw [List.getElem?_map, hq]; rfl
    rw [e, List.getElem?_map] at h1
    cases hk : ws[k]? with
    | none => rw [hk] at h1; cases h1
    | some q0 => rw [hk] at h1; exact ⟨q0, rfl, Option.some.inj h1⟩
  refine ⟨fun i j p q hi hj hpq => ?_, fun k q hk => ?_⟩
  · obtain ⟨p0, a, b⟩ := at' i p hi
    obtain ⟨q0, c, d⟩ := at' j q hj
    exact h.1 i j p0 q0 a c (by rw [b, d, hpq])
  · obtain ⟨q0, a, b⟩ := at' k q hk
    rw [← b]
    exact h.2 k q0 a
theorem tt_subP {D : va_G} {cl : List vw_C} {ws w0 : va_W} {H : Heap} (hP : va_P D cl ws H) (isC : List Nat) (hC : isC.map (fun i => ws[i]?) = w0.map some) : va_P D cl w0 H := by
  intro k q hq
  have h1 : (isC.map (fun i => ws[i]?))[k]? = some (some q) := by rw [hC, List.getElem?_map, hq]; rfl
  rw [List.getElem?_map] at h1
  cases hi : isC[k]? with
  | none => rw [hi] at h1; cases h1
  | some i => rw [hi] at h1; exact hP i q (Option.some.inj h1)
theorem tt_splP {D : va_G} {cl : List vw_C} {A : Nat → Prop} {ws w0 w1 w2 : va_W} {H H1 : Heap} (hP : va_P D cl ws H) (hD : va_D A ws) {isC : List Nat} (hC : isC.map (fun i => ws[i]?) = w0.map some) (hlen : isC.length = w1.length) (hw2 : tt_spl ws isC w1 = w2)
    (hk : ∀ q : Nat, q < H.size → ¬ va_A w0 H.size q → H1[q]? = H[q]?) (hB : va_P D cl w1 H1) : va_P D cl w2 H1 := by
  intro k q hq
  subst hw2
  rcases tt_spl_get isC w1 ws k q hlen hq with ⟨j, a, b⟩ | ⟨a, b⟩
  · exact hB j q b
  · have h1 := hP k q b
    refine h1.kept (hk q.1 h1.lt ?_)
    rintro (⟨j, e, hj⟩ | h)
    · have h2 : (isC.map (fun i => ws[i]?))[j]? = some (some (q.1, e)) := by rw [hC, List.getElem?_map, hj]; rfl
      rw [List.getElem?_map] at h2
      cases hi : isC[j]? with
      | none => rw [hi] at h2; cases h2
      | some i =>
        rw [hi] at h2
        have h3 : ws[i]? = some (q.1, e) := Option.some.inj h2
        have h4 := hD.1 i k (q.1, e) q h3 b rfl
        subst h4
        exact a (List.mem_of_getElem? hi)
    · exact absurd h (Nat.not_le.mpr h1.lt)
def tt_pre (ad : Nat → Nat) (D : va_G) (cl : List vw_C) (tys : List (ClassId × FieldType)) (w0 : va_W) (sz : Nat) : State → Prop := fun U => U.heap.size = sz ∧ va_P D cl w0 U.heap ∧ va_K D cl tys U ∧ va_D (fun _ => True) w0 ∧ tt_E ad (va_A w0 sz) U U.heap
theorem tt_blind {ad : Nat → Nat} {D : va_G} {cl : List vw_C} {tys : List (ClassId × FieldType)} {w0 : va_W} {sz : Nat} {av : List Value} : FrameBlind (va_Pc av (tt_pre ad D cl tys w0 sz)) :=
  fun a U g mk q => ⟨q.1, q.2.1, q.2.2.1, va_K.moved (u := U) (U := U.calling g mk a) (Vm.Alike.refl U.vm) q.2.2.2.1, q.2.2.2.2.1, tt_E.same (u := U) (U := U.calling g mk a) rfl q.2.2.2.2.2⟩
def tt_rm (fr lo : Nat) : Room := { frames := fr, cells := 0, slots := 0, locals := lo }
def tt_QI (D : va_G) (cl : List vw_C) (w1 : va_W) (A : Nat → Prop) (r : Int32) : Array Value → State → Outcome → State → Prop := va_Qi (fun (r' : Int32) (_ : Unit) => r' = r) (fun _ t => va_P D cl w1 t.heap) A
def tt_QL (D : va_G) (cl : List vw_C) (w1 : va_W) (A : Nat → Prop) (r : Int64) : Array Value → State → Outcome → State → Prop := va_Ql (fun (r' : Int64) (_ : Unit) => r' = r) (fun _ t => va_P D cl w1 t.heap) A
def tt_QV (D : va_G) (cl : List vw_C) (w1 : va_W) (A : Nat → Prop) : Array Value → State → Outcome → State → Prop := va_Qv (fun (_ : Unit) => True) (fun _ t => va_P D cl w1 t.heap) A
def tt_CI (l : Launch) (y : MethodName) (ws : List Cond) (fr lo : Nat) (ad : Nat → Nat) (D : va_G) (cl : List vw_C) (tys : List (ClassId × FieldType)) (av : List Value) (w0 w1 : va_W) (r : Int32) : Prop :=
  ∀ sz : Nat, Met l y ws (tt_rm fr lo) (va_Pc av (tt_pre ad D cl tys w0 sz)) (tt_QI D cl w1 (va_A w0 sz) r) 0 0 (va_A w0 sz)
def tt_CL (l : Launch) (y : MethodName) (ws : List Cond) (fr lo : Nat) (ad : Nat → Nat) (D : va_G) (cl : List vw_C) (tys : List (ClassId × FieldType)) (av : List Value) (w0 w1 : va_W) (r : Int64) : Prop :=
  ∀ sz : Nat, Met l y ws (tt_rm fr lo) (va_Pc av (tt_pre ad D cl tys w0 sz)) (tt_QL D cl w1 (va_A w0 sz) r) 0 0 (va_A w0 sz)
def tt_CV (l : Launch) (y : MethodName) (ws : List Cond) (fr lo : Nat) (ad : Nat → Nat) (D : va_G) (cl : List vw_C) (tys : List (ClassId × FieldType)) (av : List Value) (w0 w1 : va_W) : Prop :=
  ∀ sz : Nat, Met l y ws (tt_rm fr lo) (va_Pc av (tt_pre ad D cl tys w0 sz)) (tt_QV D cl w1 (va_A w0 sz)) 0 0 (va_A w0 sz)
/-- a method's body, from its entry: all that a walk needs -/
def tt_Body (l : Launch) (y : MethodName) (ws : List Cond) (rm : Room) (ad : Nat → Nat) (D : va_G) (cl : List vw_C) (tys : List (ClassId × FieldType)) (av : List Value) (w0 : va_W) (cc : ByteArray) (maxL : Nat) (ret : Option FieldType) (Qc : (Nat → Prop) → Array Value → State → Outcome → State → Prop) : Prop :=
  ∀ (p : Program) (e : Env) (s : State) (m : MethodId) (below : List Frame) (meth : Method) (c : Code) (A : Nat → Prop) (ls : Array Slot), p.tables.exec = Jvm.exec → c.code = cc → meth.sig.returnType = ret → meth.locks = false → c.maxLocals = maxL → s.vm.findClass y.cls = some m.cls →
    (∀ w ∈ ws, w.before av.toArray s = true) → va_K D cl tys s → va_P D cl w0 s.heap → va_D A w0 → va_S A s.heap s.heap [] → (∀ q : Nat, s.heap.size ≤ q → A q) → tt_E ad A s s.heap → lv_has ls maxL (lv_args 0 av) →
    W p l e rm s m av.toArray below meth c s.heap [] 0 0 (MQ below (Qc A) av.toArray s 0 0 A) (F0 m 0 ls [])
theorem tt_of {l : Launch} {y : MethodName} {ws ws' : List Cond} {rm : Room} {ad : Nat → Nat} {D : va_G} {cl : List vw_C} {tys : List (ClassId × FieldType)} {av : List Value} {w0 : va_W} {cc : ByteArray} {maxL : Nat} {ret : Option FieldType} {Qc : (Nat → Prop) → Array Value → State → Outcome → State → Prop} (hy : plainName y.cls = true) (hw : ws = Cond.code y cc maxL ret :: ws') (hn : (lg_sl av).length ≤ maxL)
    (body : tt_Body l y ws rm ad D cl tys av w0 cc maxL ret Qc) (sz : Nat) : Met l y ws rm (va_Pc av (tt_pre ad D cl tys w0 sz)) (Qc (va_A w0 sz)) 0 0 (va_A w0 sz) := by
  refine Met.ofW (cc := cc) (maxL := maxL) (ret := ret) hy hw ?_
  intro p e s m args below meth c s₁ B hml hv
  obtain ⟨rfl, hsz, hP, hK, hD0, hE0⟩ := hv
  subst hsz
  rw [lg_entry_eq]
  exact body p e s m below meth c (va_A w0 s.heap.size) _ B.exec B.bytes B.returns B.notSynchronized hml (findClass_of_methodNamed B.named) (atoms_spec (ws := ws) B.pre) hK hP (hD0.self) va_S.rf (fun q h => Or.inr h) hE0 (lv_entry av hn)
section TTc
variable {p : Program} {l : Launch} {e : Env} {R : Room} {s : State} {m : MethodId} {args : Array Value} {below : List Frame} {meth : Method} {c : Code} {H : Heap} {locs : List Loc} {cells slots : Nat} {Q : State → Prop}
variable {cc bytes : ByteArray} {pc nL maxL n index fr lo : Nat} {ls : Array Slot} {rest As st0 : List Value} {ad : Nat → Nat} {D : va_G} {cl : List vw_C} {tys tysC : List (ClassId × FieldType)} {ws w0 w1 w2 : va_W} {A : Nat → Prop} {H0 : Heap} {b : Nat} {own C host : String} {y : MethodName} {wsC Ts : List Cond} {ret : Option FieldType} {isC : List Nat}
theorem tt_iret {v r : Int32} (hx : p.tables.exec = Jvm.exec) (hb : c.code = cc) (hr : meth.sig.returnType = some .int) (er : v = r) (hP : va_P D cl w1 H) (hS : va_S A s.heap H locs) (hlocks : meth.locks = false) (hdg : decode cc pc = .ok (.ireturn, 1)) : W p l e R s m args below meth c H locs cells slots (MQ below (tt_QI D cl w1 A r) args s cells slots A) (F0 m pc ls [.int v]) :=
  W.iret hx hb hr (fun t ht _ => ⟨⟨v, (), rfl, er, by show va_P D cl w1 t.heap; rw [ht]; exact hP⟩, hS.F ht⟩) hS.2.2 hdg hlocks
theorem tt_zret {v r : Int32} {ty : FieldType} (hx : p.tables.exec = Jvm.exec) (hb : c.code = cc) (hr : meth.sig.returnType = some ty) (hn : narrow ty (.int v) = .int v) (er : v = r) (hP : va_P D cl w1 H) (hS : va_S A s.heap H locs) (hlocks : meth.locks = false) (hdg : decode cc pc = .ok (.ireturn, 1)) : W p l e R s m args below meth c H locs cells slots (MQ below (tt_QI D cl w1 A r) args s cells slots A) (F0 m pc ls [.int v]) :=
  W.zret hx hb hr hn (fun t ht _ => ⟨⟨v, (), rfl, er, by show va_P D cl w1 t.heap; rw [ht]; exact hP⟩, hS.F ht⟩) hS.2.2 hdg hlocks
theorem tt_lret {v r : Int64} (hx : p.tables.exec = Jvm.exec) (hb : c.code = cc) (hr : meth.sig.returnType = some .long) (er : v = r) (hP : va_P D cl w1 H) (hS : va_S A s.heap H locs) (hlocks : meth.locks = false) (hdg : decode cc pc = .ok (.lreturn, 1)) : W p l e R s m args below meth c H locs cells slots (MQ below (tt_QL D cl w1 A r) args s cells slots A) (F0 m pc ls [.long v]) :=
  W.lret hx hb hr (fun t ht _ => ⟨⟨v, (), rfl, er, by show va_P D cl w1 t.heap; rw [ht]; exact hP⟩, hS.F ht⟩) hS.2.2 hdg hlocks
theorem tt_vret (hx : p.tables.exec = Jvm.exec) (hb : c.code = cc) (hr : meth.sig.returnType = none) (hP : va_P D cl w1 H) (hS : va_S A s.heap H locs) (hlocks : meth.locks = false) (hdg : decode cc pc = .ok (.return_, 1)) : W p l e R s m args below meth c H locs cells slots (MQ below (tt_QV D cl w1 A) args s cells slots A) (F0 m pc ls []) :=
  W.vret hx hb hr (fun t ht _ => ⟨⟨(), rfl, trivial, by show va_P D cl w1 t.heap; rw [ht]; exact hP⟩, hS.F ht⟩) hS.2.2 hdg hlocks
/-- what a call needs of the caller's world: the callee's cells by their places, and where they come back -/
def tt_Cut (ws w0 w1 w2 : va_W) (isC : List Nat) : Prop := isC.map (fun i => ws[i]?) = w0.map some ∧ va_nd isC = true ∧ isC.length = w1.length ∧ tt_spl ws isC w1 = w2 ∧ w2.map Prod.fst = ws.map Prod.fst
theorem tt_back {free : Addr → Prop} {H1 : Heap} (cut : tt_Cut ws w0 w1 w2 isC) (hP : va_P D cl ws H) (hD : va_D A ws) (hk : ∀ q : Nat, q < H.size → ¬ va_A w0 H.size q → H1[q]? = H[q]?) (hB : va_P D cl w1 H1) : va_P D cl w2 H1 ∧ va_D A w2 :=
  ⟨tt_splP hP hD cut.1 cut.2.2.1 cut.2.2.2.1 hk hB, tt_D_fst hD cut.2.2.2.2⟩
theorem tt_preS {U : State} {av : List Value} (cut : tt_Cut ws w0 w1 w2 isC) (hP : va_P D cl ws H) (hD : va_D A ws) (hKc : va_K D cl tysC s) (hS : va_S A H0 H locs) (hA : ∀ q, H0.size ≤ q → A q) (hE : tt_E ad A s H0) (hU : U.heap = H) (hW : s.WarmedH U.vm) : va_Pc av (tt_pre ad D cl tysC w0 H.size) av.toArray U :=
  ⟨rfl, by rw [hU], by rw [hU]; exact tt_subP hP isC cut.1, va_K.moved hW.alike hKc, (hD.sub isC cut.2.1 cut.1).weaken (fun _ _ _ _ => trivial), by rw [hU]; exact tt_E.warm hW ((hE.kept hS).narrow (va_free hD hS hA isC cut.1))⟩
theorem tt_callVi {r : Int32} (S : CallFix p m c cc nL s args Ts own) (hM : tt_CI l y wsC fr lo ad D cl tysC (.ref b :: As) w0 w1 r) (cw : CallW R s args own C index y bytes maxL ret wsC (tt_rm fr lo) 0 0 n) (hKc : va_K D cl tysC s) (hP : va_P D cl ws H) (hD : va_D A ws) (hS : va_S A H0 H locs) (hA : ∀ q, H0.size ≤ q → A q) (hE : tt_E ad A s H0) (cut : tt_Cut ws w0 w1 w2 isC)
    (hrc : ∃ cellB : Cell, H[b]? = some cellB ∧ cellB.vm.isStatics = false ∧ s.vm.findClass C = some cellB.cls) (hn : As.length = n) (hsize : ls.size = nL) (hst : st0 = As.reverse ++ .ref b :: rest) (hW : (rest.map fun v => v.category).sum ≤ 8) (hdg : decode cc pc = .ok (.invokevirtual index, 3)) (hf : cells + 0 ≤ R.cells ∧ slots + 0 ≤ R.slots)
    (kk : ∀ (H1 : Heap) (locs1 : List Loc), va_P D cl w2 H1 → va_D A w2 → va_S A H0 H1 locs1 → W p l e R s m args below meth c H1 locs1 cells slots Q (F0 m (pc + 3) ls (.int r :: rest))) : W p l e R s m args below meth c H locs cells slots Q (F0 m pc ls st0) := by
  have hFc := va_free hD hS hA isC cut.1
  refine va_calli (va_runV S (hM H.size) cw ⟨tt_blind, hrc, fun U hU hW => tt_preS cut hP hD hKc hS hA hE hU hW⟩ rfl hn hsize hst (lv_room hW) hdg hf) hS (fun q _ h => hFc q h) hFc (fun r' u t H1 locs1 ht hvm hr hB hz1 hk1 hS1 => ?_)
  have hr : r' = r := hr
  subst hr
  have hB : va_P D cl w1 t.heap := hB
  rw [ht] at hB
  obtain ⟨h1, h2⟩ := tt_back (free := fun _ => True) cut hP hD hk1 hB
  exact kk H1 locs1 h1 h2 hS1
theorem tt_callVv (S : CallFix p m c cc nL s args Ts own) (hM : tt_CV l y wsC fr lo ad D cl tysC (.ref b :: As) w0 w1) (cw : CallW R s args own C index y bytes maxL ret wsC (tt_rm fr lo) 0 0 n) (hKc : va_K D cl tysC s) (hP : va_P D cl ws H) (hD : va_D A ws) (hS : va_S A H0 H locs) (hA : ∀ q, H0.size ≤ q → A q) (hE : tt_E ad A s H0) (cut : tt_Cut ws w0 w1 w2 isC)
    (hrc : ∃ cellB : Cell, H[b]? = some cellB ∧ cellB.vm.isStatics = false ∧ s.vm.findClass C = some cellB.cls) (hn : As.length = n) (hsize : ls.size = nL) (hst : st0 = As.reverse ++ .ref b :: rest) (hW : (rest.map fun v => v.category).sum ≤ 8) (hdg : decode cc pc = .ok (.invokevirtual index, 3)) (hf : cells + 0 ≤ R.cells ∧ slots + 0 ≤ R.slots)
    (kk : ∀ (H1 : Heap) (locs1 : List Loc), va_P D cl w2 H1 → va_D A w2 → va_S A H0 H1 locs1 → W p l e R s m args below meth c H1 locs1 cells slots Q (F0 m (pc + 3) ls rest)) : W p l e R s m args below meth c H locs cells slots Q (F0 m pc ls st0) := by
  have hFc := va_free hD hS hA isC cut.1
  refine va_callv (va_runV S (hM H.size) cw ⟨tt_blind, hrc, fun U hU hW => tt_preS cut hP hD hKc hS hA hE hU hW⟩ rfl hn hsize hst (lv_room hW) hdg hf) hS (fun q _ h => hFc q h) hFc (fun u t H1 locs1 ht hvm _ hB hz1 hk1 hS1 => ?_)
  have hB : va_P D cl w1 t.heap := hB
  rw [ht] at hB
  obtain ⟨h1, h2⟩ := tt_back (free := fun _ => True) cut hP hD hk1 hB
  exact kk H1 locs1 h1 h2 hS1
theorem tt_callVl {r : Int64} (S : CallFix p m c cc nL s args Ts own) (hM : tt_CL l y wsC fr lo ad D cl tysC (.ref b :: As) w0 w1 r) (cw : CallW R s args own C index y bytes maxL ret wsC (tt_rm fr lo) 0 0 n) (hKc : va_K D cl tysC s) (hP : va_P D cl ws H) (hD : va_D A ws) (hS : va_S A H0 H locs) (hA : ∀ q, H0.size ≤ q → A q) (hE : tt_E ad A s H0) (cut : tt_Cut ws w0 w1 w2 isC)
    (hrc : ∃ cellB : Cell, H[b]? = some cellB ∧ cellB.vm.isStatics = false ∧ s.vm.findClass C = some cellB.cls) (hn : As.length = n) (hsize : ls.size = nL) (hst : st0 = As.reverse ++ .ref b :: rest) (hW : (rest.map fun v => v.category).sum ≤ 8) (hdg : decode cc pc = .ok (.invokevirtual index, 3)) (hf : cells + 0 ≤ R.cells ∧ slots + 0 ≤ R.slots)
    (kk : ∀ (H1 : Heap) (locs1 : List Loc), va_P D cl w2 H1 → va_D A w2 → va_S A H0 H1 locs1 → W p l e R s m args below meth c H1 locs1 cells slots Q (F0 m (pc + 3) ls (.long r :: rest))) : W p l e R s m args below meth c H locs cells slots Q (F0 m pc ls st0) := by
  have hFc := va_free hD hS hA isC cut.1
  refine va_calll (va_runV S (hM H.size) cw ⟨tt_blind, hrc, fun U hU hW => tt_preS cut hP hD hKc hS hA hE hU hW⟩ rfl hn hsize hst (lv_room hW) hdg hf) hS (fun q _ h => hFc q h) hFc (fun r' u t H1 locs1 ht hvm hr hB hz1 hk1 hS1 => ?_)
  have hr : r' = r := hr
  subst hr
  have hB : va_P D cl w1 t.heap := hB
  rw [ht] at hB
  obtain ⟨h1, h2⟩ := tt_back (free := fun _ => True) cut hP hD hk1 hB
  exact kk H1 locs1 h1 h2 hS1
theorem tt_callSi {r : Int32} (S : CallFix p m c cc nL s args Ts own) (hM : tt_CI l y wsC fr lo ad D cl tysC As w0 w1 r) (cw : CallB R s args own index y bytes maxL ret wsC (tt_rm fr lo) 0 0 n ∧ (Cond.static y).before args s = true) (hKc : va_K D cl tysC s) (hP : va_P D cl ws H) (hD : va_D A ws) (hS : va_S A H0 H locs) (hA : ∀ q, H0.size ≤ q → A q) (hE : tt_E ad A s H0) (cut : tt_Cut ws w0 w1 w2 isC)
    (hn : As.length = n) (hsize : ls.size = nL) (hst : st0 = As.reverse ++ rest) (hW : (rest.map fun v => v.category).sum ≤ 8) (hdg : decode cc pc = .ok (.invokestatic index, 3)) (hf : cells + 0 ≤ R.cells ∧ slots + 0 ≤ R.slots)
    (kk : ∀ (H1 : Heap) (locs1 : List Loc), va_P D cl w2 H1 → va_D A w2 → va_S A H0 H1 locs1 → W p l e R s m args below meth c H1 locs1 cells slots Q (F0 m (pc + 3) ls (.int r :: rest))) : W p l e R s m args below meth c H locs cells slots Q (F0 m pc ls st0) := by
  have hFc := va_free hD hS hA isC cut.1
  refine va_calli (va_runS S (hM H.size) cw ⟨tt_blind, fun U hU hW => tt_preS cut hP hD hKc hS hA hE hU hW⟩ rfl hn hsize hst (lv_room hW) hdg hf) hS (fun q _ h => hFc q h) hFc (fun r' u t H1 locs1 ht hvm hr hB hz1 hk1 hS1 => ?_)
  have hr : r' = r := hr
  subst hr
  have hB : va_P D cl w1 t.heap := hB
  rw [ht] at hB
  obtain ⟨h1, h2⟩ := tt_back (free := fun _ => True) cut hP hD hk1 hB
  exact kk H1 locs1 h1 h2 hS1
theorem tt_callSv (S : CallFix p m c cc nL s args Ts own) (hM : tt_CV l y wsC fr lo ad D cl tysC As w0 w1) (cw : CallB R s args own index y bytes maxL ret wsC (tt_rm fr lo) 0 0 n ∧ (Cond.static y).before args s = true) (hKc : va_K D cl tysC s) (hP : va_P D cl ws H) (hD : va_D A ws) (hS : va_S A H0 H locs) (hA : ∀ q, H0.size ≤ q → A q) (hE : tt_E ad A s H0) (cut : tt_Cut ws w0 w1 w2 isC)
    (hn : As.length = n) (hsize : ls.size = nL) (hst : st0 = As.reverse ++ rest) (hW : (rest.map fun v => v.category).sum ≤ 8) (hdg : decode cc pc = .ok (.invokestatic index, 3)) (hf : cells + 0 ≤ R.cells ∧ slots + 0 ≤ R.slots)
    (kk : ∀ (H1 : Heap) (locs1 : List Loc), va_P D cl w2 H1 → va_D A w2 → va_S A H0 H1 locs1 → W p l e R s m args below meth c H1 locs1 cells slots Q (F0 m (pc + 3) ls rest)) : W p l e R s m args below meth c H locs cells slots Q (F0 m pc ls st0) := by
  have hFc := va_free hD hS hA isC cut.1
  refine va_callv (va_runS S (hM H.size) cw ⟨tt_blind, fun U hU hW => tt_preS cut hP hD hKc hS hA hE hU hW⟩ rfl hn hsize hst (lv_room hW) hdg hf) hS (fun q _ h => hFc q h) hFc (fun u t H1 locs1 ht hvm _ hB hz1 hk1 hS1 => ?_)
  have hB : va_P D cl w1 t.heap := hB
  rw [ht] at hB
  obtain ⟨h1, h2⟩ := tt_back (free := fun _ => True) cut hP hD hk1 hB
  exact kk H1 locs1 h1 h2 hS1
theorem tt_callNi {r : Int32} (S : CallFix p m c cc nL s args Ts own) (hM : tt_CI l y wsC fr lo ad D cl tysC As w0 w1 r) (cw : va_CN R s args own index y host bytes maxL ret wsC (tt_rm fr lo) 0 0 n ∧ (Cond.static y).before args s = true ∧ True) (hKc : va_K D cl tysC s) (hP : va_P D cl ws H) (hD : va_D A ws) (hS : va_S A H0 H locs) (hA : ∀ q, H0.size ≤ q → A q) (hE : tt_E ad A s H0) (cut : tt_Cut ws w0 w1 w2 isC)
    (hn : As.length = n) (hsize : ls.size = nL) (hst : st0 = As.reverse ++ rest) (hW : (rest.map fun v => v.category).sum ≤ 8) (hdg : decode cc pc = .ok (.invokestatic index, 3)) (hf : cells + 0 ≤ R.cells ∧ slots + 0 ≤ R.slots)
    (kk : ∀ (H1 : Heap) (locs1 : List Loc), va_P D cl w2 H1 → va_D A w2 → va_S A H0 H1 locs1 → W p l e R s m args below meth c H1 locs1 cells slots Q (F0 m (pc + 3) ls (.int r :: rest))) : W p l e R s m args below meth c H locs cells slots Q (F0 m pc ls st0) := by
  have hFc := va_free hD hS hA isC cut.1
  refine va_calli (va_runSN S (hM H.size) cw ⟨tt_blind, fun U hU hW => tt_preS cut hP hD hKc hS hA hE hU hW⟩ rfl hn hsize hst (lv_room hW) hdg hf) hS (fun q _ h => hFc q h) hFc (fun r' u t H1 locs1 ht hvm hr hB hz1 hk1 hS1 => ?_)
  have hr : r' = r := hr
  subst hr
  have hB : va_P D cl w1 t.heap := hB
  rw [ht] at hB
  obtain ⟨h1, h2⟩ := tt_back (free := fun _ => True) cut hP hD hk1 hB
  exact kk H1 locs1 h1 h2 hS1
end TTc
