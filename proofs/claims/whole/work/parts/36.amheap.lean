/-! ===== fields, arrays, the JDK's own calls: the small machine's step is the machine's ===== -/
theorem am_lookup_mem {β : Type} {q : Nat × Nat} {v : β} : ∀ (l : List ((Nat × Nat) × β)), l.lookup q = some v → (q, v) ∈ l
  | [], h => by cases h
  | (q', v') :: l, h => by
    rw [List.lookup_cons] at h
    by_cases hq : q == q'
    · rw [hq] at h
      have e : q = q' := eq_of_beq hq
      cases h
      rw [e]
      exact List.mem_cons_self
    · rw [Bool.not_eq_true] at hq
      rw [hq] at h
      exact List.mem_cons_of_mem _ (am_lookup_mem l h)
def am_N (ci : Nat) : Nat := match ci with
  | 0 => 3
  | 1 => 6
  | 2 => 4
  | 3 => 13
  | 4 => 7
  | _ => 23
def am_tyv (ci : Nat) : Nat → FieldType := match ci with
  | 0 => tyX0
  | 1 => tyX1
  | 2 => tyX2
  | 3 => tyX3
  | 4 => tyX4
  | _ => tyX5
theorem am_six {P : Nat → Prop} (h0 : P 0) (h1 : P 1) (h2 : P 2) (h3 : P 3) (h4 : P 4) (h5 : P 5) {ci : Nat} (h : ci < 6) : P ci := by
  rcases (by omega : ci = 0 ∨ ci = 1 ∨ ci = 2 ∨ ci = 3 ∨ ci = 4 ∨ ci = 5) with rfl | rfl | rfl | rfl | rfl | rfl <;> assumption
theorem am_cl_ok {ci : Nat} (h : ci < 6) : vwCl[ci]? = some (am_cn ci, am_T ci, am_N ci) := am_six (P := fun ci => vwCl[ci]? = some (am_cn ci, am_T ci, am_N ci)) rfl rfl rfl rfl rfl rfl h
theorem am_ty_ok {ci : Nat} (h : ci < 6) : ∀ k, k < am_N ci → parseFieldDescriptor (am_T ci k).2.2.1 = some (am_tyv ci k) := am_six (P := fun ci => ∀ k, k < am_N ci → parseFieldDescriptor (am_T ci k).2.2.1 = some (am_tyv ci k)) tyX0_ok tyX1_ok tyX2_ok tyX3_ok tyX4_ok tyX5_ok h
theorem am_nm_ok {ci : Nat} (h : ci < 6) : ∀ a, a < am_N ci → ∀ b, b < am_N ci → a ≠ b → (am_T ci a).2.1 ≠ (am_T ci b).2.1 := am_six (P := fun ci => ∀ a, a < am_N ci → ∀ b, b < am_N ci → a ≠ b → (am_T ci a).2.1 ≠ (am_T ci b).2.1) nmX0 nmX1 nmX2 nmX3 nmX4 nmX5 h
theorem am_in_ok {ci : Nat} (h : ci < 6) : ∀ w ∈ u_ws (am_cn ci) (am_T ci) (am_N ci), w ∈ wsL_law := am_six (P := fun ci => ∀ w ∈ u_ws (am_cn ci) (am_T ci) (am_N ci), w ∈ wsL_law) (am_uws 0 (by decide)) (am_uws 1 (by decide)) (am_uws 2 (by decide)) (am_uws 3 (by decide)) (am_uws 4 (by decide)) (am_uws 5 (by decide)) h
theorem am_own_ok : ∀ ci, ci < 6 → ∀ k, k < am_N ci → (am_T ci k).1 = am_cn ci := by decide +kernel
/-- the shapes' check -/
def am_shok (o : Nat) : Bool := match am_sh o with
  | [0, _] => true
  | 1 :: ci :: fs => decide (ci < 6) && decide (fs.length = am_N ci) && fs.all (fun x => decide (x < 501)) && (List.range fs.length).all (fun i => decide (fs[i]? = some 0 → (am_T ci i).2.2.2 = false ∧ am_tyv ci i = if am_isz (32 * ci + i) = true then .boolean else .int))
  | 2 :: c :: rs => decide (c < 2) && rs.all (fun x => decide (x < 500)) && decide (rs.length < 100)
  | _ => false
theorem am_shok_all : ∀ o, o < 72 → am_shok o = true := by decide +kernel
theorem am_sh_obj {o ci : Nat} {fs : List Nat} (h : am_sh o = 1 :: ci :: fs) : o < 72 ∧ ci < 6 ∧ fs.length = am_N ci ∧ (∀ x ∈ fs, x < 501) ∧ ∀ i, fs[i]? = some 0 → (am_T ci i).2.2.2 = false ∧ am_tyv ci i = if am_isz (32 * ci + i) = true then .boolean else .int := by
  have ho : o < 72 := am_sh_lt (by rw [h]; exact List.cons_ne_nil _ _)
  have h1 := am_shok_all o ho
  unfold am_shok at h1
  rw [h] at h1
  simp only [Bool.and_eq_true, decide_eq_true_eq, List.all_eq_true, List.mem_range] at h1
  obtain ⟨⟨⟨a1, a2⟩, a3⟩, a4⟩ := h1
  exact ⟨ho, a1, a2, a3, fun i hi => a4 i (List.getElem?_eq_some_iff.mp hi).1 hi⟩
theorem am_sh_ref {o c : Nat} {rs : List Nat} (h : am_sh o = 2 :: c :: rs) : o < 72 ∧ c < 2 ∧ (∀ x ∈ rs, x < 500) := by
  have ho : o < 72 := am_sh_lt (by rw [h]; exact List.cons_ne_nil _ _)
  have h1 := am_shok_all o ho
  unfold am_shok at h1
  rw [h] at h1
  simp only [Bool.and_eq_true, decide_eq_true_eq, List.all_eq_true] at h1
  exact ⟨ho, h1.1.1, h1.1.2⟩
theorem am_sh_arr {o n : Nat} (h : am_sh o = [0, n]) : o < 72 := am_sh_lt (by rw [h]; exact List.cons_ne_nil _ _)
theorem am_cell_obj {a : Nat → Nat} {cI cR cS : ClassId} {G : GG} {o ci : Nat} {fs : List Nat} (h : am_sh o = 1 :: ci :: fs) : am_cell a cI cR cS G o = .inr (ci, am_flds a (G o) 0 fs) := by
  unfold am_cell; rw [h]; first | done | rfl
theorem am_cell_arr {a : Nat → Nat} {cI cR cS : ClassId} {G : GG} {o n : Nat} (h : am_sh o = [0, n]) : am_cell a cI cR cS G o = .inl (cI, n, .inl (G o)) := by
  unfold am_cell; rw [h]; first | done | rfl
theorem am_cell_ref {a : Nat → Nat} {cI cR cS : ClassId} {G : GG} {o c : Nat} {rs : List Nat} (h : am_sh o = 2 :: c :: rs) : am_cell a cI cR cS G o = .inl (if c = 0 then cR else cS, rs.length, .inr (.inr (.inr (.inr (fun i => (rs[i]?).map a))))) := by
  unfold am_cell; rw [h]; first | done | rfl
theorem am_sum {mv : Value → Value} (hc : ∀ v, (mv v).category ≤ 2) : ∀ (st : List Value), ((st.map mv).map fun v => v.category).sum ≤ 2 * st.length
  | [] => Nat.le_refl 0
  | v :: st => by
    have h1 := am_sum hc st
    have h2 := hc v
    simp only [List.map_cons, List.sum_cons, List.length_cons]
    omega
theorem am_cat2 {a : Nat → Nat} {sio : Value} (hs : sio.category = 1) (v : Value) : (am_v a sio v).category ≤ 2 := by
  rw [am_v_cat hs]
  cases v <;> first | exact Nat.le_refl _ | exact Nat.le_of_ble_eq_true rfl
theorem am_inb {i : Int32} {n : Nat} (h : ¬ (i < 0 ∨ n ≤ i.toNatClampNeg)) : vp_in i n := h
section ASH
variable {p : Program} {l : Launch} {e : Env} {R : Room} {s : State} {m : MethodId} {args : Array Value} {below : List Frame} {meth : Method} {c : Code} {cells slots : Nat} {Q : State → Prop}
variable {a : Nat → Nat} {sio : Value} {X : AmX} {cI cR cS : ClassId} {D : va_G} {k : Nat} {A : Nat → Prop} {pc : Nat} {lv : LV} {st : List Value} {G : GG} {r : List Instr}
theorem as_getfield (C : am_C a sio X cI cR cS D k p R s m args c A cells slots) {j f o pos : Nat} {v : Value} (hd : decode (am_cc k) pc = .ok (.getfield j, 3)) (hq : am_fl.lookup (am_own k, j) = some (f, pos)) (hg : am_gf G o f = some v) (kk : am_Wt (fun H locs g => W p l e R s m args below meth c H locs cells slots Q g) D a sio cI cR cS m (am_mx k) A s.heap (pc + 3) (lv) (v :: st) (G)) : am_Wt (fun H locs g => W p l e R s m args below meth c H locs cells slots Q g) D a sio cI cR cS m (am_mx k) A s.heap (pc) (lv) (.ref o :: st) (G) := by
  obtain ⟨hx, hb, hml, hown, hts, hK, hE, hA, hfr, hlo, hce, hsl, hap, hsio⟩ := C
  have hm := am_lookup_mem _ hq
  have hf2 := am_fl_ok2 _ hm
  unfold am_gf at hg
  intro hL ls H locs hP hS hl
  have kk := kk hL ls H locs hP hS hl
  by_cases h1 : f = 1000
  · rw [if_pos h1] at hg
    by_cases h2 : 100 ≤ o ∧ o < 111
    · rw [if_pos h2] at hg
      cases hg
      have h3 := ((hE.2.2.2.2.2.2.1).1 (o - 100) (by omega)).2.2.1
      simp only [show 100 + (o - 100) = o by omega, show 200 + (o - 100) = o + 100 by omega] at h3
      rw [List.map_cons, am_v_ref (by omega)] at kk
      rw [List.map_cons, am_v_ref (by omega)]
      exact vk_getf hx hb h3 hS hown (am_word hts (hf2.1 h1)) (fun _ h => h) hd kk
    · rw [if_neg h2] at hg; cases hg
  rw [if_neg h1] at hg
  by_cases h2 : f = 1001
  · rw [if_pos h2] at hg
    by_cases h3 : 100 ≤ o ∧ o < 111
    · rw [if_pos h3] at hg
      cases hg
      have h4 := ((hE.2.2.2.2.2.2.1).1 (o - 100) (by omega)).2.1
      simp only [show 100 + (o - 100) = o by omega] at h4
      rw [List.map_cons, am_v_ref (by omega)]
      exact vk_getf hx hb h4 hS hown (am_word hts (hf2.2 h2)) (fun _ h => h) hd kk
    · rw [if_neg h3] at hg; cases hg
  rw [if_neg h2] at hg
  split at hg
  next ci fs hsh =>
    obtain ⟨ho, hci, hlen, hrefs, -⟩ := am_sh_obj hsh
    split at hg
    next hcf =>
      have hf1 : f < 1000 := by omega
      have hlink := am_word hts (am_fl_ok _ hm hf1)
      rw [← hcf] at hlink
      have hcell : (am_W a cI cR cS G)[o]? = some (a o, .inr (ci, am_flds a (G o) 0 fs)) := by rw [am_W_get ho, am_cell_obj hsh]
      have hget := am_flds_get a (G o) fs 0 (f % 32)
      have hlt : f % 32 < am_N ci := by
        rw [← hlen]
        split at hg
        next h => exact (List.getElem?_eq_some_iff.mp h).1
        next h => exact (List.getElem?_eq_some_iff.mp h).1
        next => cases hg
      have hv : (am_flds a (G o) 0 fs)[f % 32]? = some (am_v a sio v) := by
        rw [hget]
        split at hg
        next h =>
          rw [h]; cases hg
          simp [am_v]
        next j' h =>
          rw [h]; cases hg
          have := hrefs _ (List.mem_of_getElem? h)
          rw [am_v_ref (by omega)]; rfl
        next => cases hg
      rw [List.map_cons, am_v_ref (by omega)]
      exact va_get hx hb hts (am_in_ok hci) hown hK hP o hcell (am_cl_ok hci) (f % 32) hlt hlink (fun x h => by rw [am_own_ok ci hci _ hlt] at h; exact h) hv hd kk
    next => cases hg
  next => cases hg
theorem as_putfield (C : am_C a sio X cI cR cS D k p R s m args c A cells slots) {j f o pos : Nat} {x : Int32} {G1 : GG} (hd : decode (am_cc k) pc = .ok (.putfield j, 3)) (hq : am_fl.lookup (am_own k, j) = some (f, pos)) (hg : am_pf G o f x = some G1) (kk : am_Wt (fun H locs g => W p l e R s m args below meth c H locs cells slots Q g) D a sio cI cR cS m (am_mx k) A s.heap (pc + 3) (lv) (st) (G1)) : am_Wt (fun H locs g => W p l e R s m args below meth c H locs cells slots Q g) D a sio cI cR cS m (am_mx k) A s.heap (pc) (lv) (.int x :: .ref o :: st) (G) := by
  obtain ⟨hx, hb, hml, hown, hts, hK, hE, hA, hfr, hlo, hce, hsl, hap, hsio⟩ := C
  have hm := am_lookup_mem _ hq
  unfold am_pf at hg
  intro hL ls H locs hP hS hl
  split at hg
  next ci fs hsh =>
    obtain ⟨ho, hci, hlen, hrefs, hz⟩ := am_sh_obj hsh
    split at hg
    next hcf =>
      split at hg
      next hb01 =>
        cases hg
        have hf1 : f < 1000 := by omega
        have hlink := am_word hts (am_fl_ok _ hm hf1)
        rw [← hcf.1] at hlink
        have hcell : (am_W a cI cR cS G)[o]? = some (a o, .inr (ci, am_flds a (G o) 0 fs)) := by rw [am_W_get ho, am_cell_obj hsh]
        have hlt : f % 32 < am_N ci := by rw [← hlen]; exact (List.getElem?_eq_some_iff.mp hcf.2).1
        obtain ⟨hfin, hty⟩ := hz _ hcf.2
        have hd1 := am_ty_ok hci _ hlt
        have hfz : 32 * ci + f % 32 = f := by omega
        rw [hfz] at hty
        have hnf : narrow (am_tyv ci (f % 32)) (.int x) = .int x ∧ fits (am_tyv ci (f % 32)) (.int x) = true := by
          rw [hty]
          by_cases hzz : am_isz f = true
          · rw [if_pos hzz]
            rcases hb01 hzz with rfl | rfl <;> exact ⟨rfl, rfl⟩
          · rw [if_neg hzz]; exact ⟨rfl, rfl⟩
        have hset : (am_W a cI cR cS G).set o (a o, .inr (ci, (am_flds a (G o) 0 fs).set (f % 32) (.int x))) = am_W a cI cR cS (gset G o (upd (G o) (f % 32) x)) := by
          refine am_W_set ho ?_
          rw [am_cell_obj hsh, am_flds_set a (G o) x fs 0 (f % 32) hcf.2, Nat.zero_add, show gset G o (upd (G o) (f % 32) x) o = upd (G o) (f % 32) x from if_pos rfl]
        rw [List.map_cons, List.map_cons, am_v_ref (by omega)]
        refine va_put hx hb hts (am_in_ok hci) (am_tyv ci) (am_ty_ok hci) (am_nm_ok hci) hown hK hP (am_W_D hap) hS o hcell (am_cl_ok hci) (f % 32) hlt hlink (fun z h => by rw [am_own_ok ci hci _ hlt] at h; exact h) hfin hd1 hnf.1 hnf.2 (by rw [am_flds_len, hlen]; exact hlt) hd (fun H1 locs1 h1 _ h3 => ?_)
        rw [show am_v a sio (Value.int x) = .int x from rfl, hset] at h1
        exact kk hL ls H1 locs1 h1 h3 hl
      next => cases hg
    next => cases hg
  next => cases hg
theorem as_getstatic (C : am_C a sio X cI cR cS D k p R s m args c A cells slots) {j q pos : Nat} (hd : decode (am_cc k) pc = .ok (.getstatic j, 3)) (hq : am_slk.lookup (am_own k, j) = some (q, pos)) (kk : am_Wt (fun H locs g => W p l e R s m args below meth c H locs cells slots Q g) D a sio cI cR cS m (am_mx k) A s.heap (pc + 3) (lv) ((if q = 0 then .ref 300 else if q = 1 then .int (nI 1) else .ref 500) :: st) (G)) : am_Wt (fun H locs g => W p l e R s m args below meth c H locs cells slots Q g) D a sio cI cR cS m (am_mx k) A s.heap (pc) (lv) (st) (G) := by
  obtain ⟨hx, hb, hml, hown, hts, hK, hE, hA, hfr, hlo, hce, hsl, hap, hsio⟩ := C
  have hm := am_slk_ok _ (am_lookup_mem _ hq)
  intro hL ls H locs hP hS hl
  have kk := kk hL ls H locs hP hS hl
  have hq3 : q < 3 := hm.2.2.2
  rcases (by omega : q = 0 ∨ q = 1 ∨ q = 2) with rfl | rfl | rfl
  · exact va_gets hx hb hE.2.2.1 hS hown (am_word hts (hm.1 rfl)) (fun _ h => h) hd kk
  · exact va_gets hx hb hE.2.2.2.2.1 hS hown (am_word hts (hm.2.1 rfl)) (fun _ h => h) hd kk
  · exact va_gets hx hb hE.2.2.2.2.2.1 hS hown (am_word hts (hm.2.2.1 rfl)) (fun _ h => h) hd kk
theorem as_iaload (C : am_C a sio X cI cR cS D k p R s m args c A cells slots) {o : Nat} {i x : Int32} (hd : decode (am_cc k) pc = .ok (.iaload, 1)) (hg : am_ald X G o i = some x) (kk : am_Wt (fun H locs g => W p l e R s m args below meth c H locs cells slots Q g) D a sio cI cR cS m (am_mx k) A s.heap (pc + 1) (lv) (.int x :: st) (G)) : am_Wt (fun H locs g => W p l e R s m args below meth c H locs cells slots Q g) D a sio cI cR cS m (am_mx k) A s.heap (pc) (lv) (.int i :: .ref o :: st) (G) := by
  obtain ⟨hx, hb, hml, hown, hts, hK, hE, hA, hfr, hlo, hce, hsl, hap, hsio⟩ := C
  unfold am_ald at hg
  intro hL ls H locs hP hS hl
  have kk := kk hL ls H locs hP hS hl
  split at hg
  next n hsh =>
    have ho := am_sh_arr hsh
    split at hg
    next => cases hg
    next hin =>
      cases hg
      have hcell : (am_W a cI cR cS G)[o]? = some (a o, .inl (cI, n, .inl (G o))) := by rw [am_W_get ho, am_cell_arr hsh]
      rw [List.map_cons, List.map_cons, am_v_ref (by omega)]
      exact va_iald hx hb hK hP o 0 hcell rfl (am_inb hin) hd kk
  next =>
    split at hg
    next h3 =>
      subst h3
      split at hg
      next => cases hg
      next hin =>
        cases hg
        rw [List.map_cons, List.map_cons, am_v_ref (by omega)]
        exact va_ti hx hb hE.2.2.2.1 hS (am_inb hin) rfl hd kk
    next =>
      split at hg
      next h4 =>
        subst h4
        split at hg
        next => cases hg
        next hin =>
          cases hg
          rw [List.map_cons, List.map_cons, am_v_ref (by omega)]
          exact va_ti hx hb hE.2.2.2.2.2.2.2 hS (am_inb hin) rfl hd kk
      next => cases hg
theorem as_baload (C : am_C a sio X cI cR cS D k p R s m args c A cells slots) {o : Nat} {i x : Int32} (hd : decode (am_cc k) pc = .ok (.baload, 1)) (hg : am_bld o i = some x) (kk : am_Wt (fun H locs g => W p l e R s m args below meth c H locs cells slots Q g) D a sio cI cR cS m (am_mx k) A s.heap (pc + 1) (lv) (.int x :: st) (G)) : am_Wt (fun H locs g => W p l e R s m args below meth c H locs cells slots Q g) D a sio cI cR cS m (am_mx k) A s.heap (pc) (lv) (.int i :: .ref o :: st) (G) := by
  obtain ⟨hx, hb, hml, hown, hts, hK, hE, hA, hfr, hlo, hce, hsl, hap, hsio⟩ := C
  unfold am_bld at hg
  intro hL ls H locs hP hS hl
  have kk := kk hL ls H locs hP hS hl
  split at hg
  next ho =>
    split at hg
    next => cases hg
    next hin =>
      obtain rfl := Option.some.inj hg
      have h3 := ((hE.2.2.2.2.2.2.1).1 (o - 200) (by omega)).2.2.2
      simp only [show 200 + (o - 200) = o by omega] at h3
      rw [List.map_cons, List.map_cons, am_v_ref (by omega)]
      exact va_tb hx hb h3 hS (am_inb hin) rfl hd kk
  next => cases hg
theorem as_aaload (C : am_C a sio X cI cR cS D k p R s m args c A cells slots) {o x : Nat} {i : Int32} (hd : decode (am_cc k) pc = .ok (.aaload, 1)) (hg : am_qld o i = some x) (kk : am_Wt (fun H locs g => W p l e R s m args below meth c H locs cells slots Q g) D a sio cI cR cS m (am_mx k) A s.heap (pc + 1) (lv) (.ref x :: st) (G)) : am_Wt (fun H locs g => W p l e R s m args below meth c H locs cells slots Q g) D a sio cI cR cS m (am_mx k) A s.heap (pc) (lv) (.int i :: .ref o :: st) (G) := by
  obtain ⟨hx, hb, hml, hown, hts, hK, hE, hA, hfr, hlo, hce, hsl, hap, hsio⟩ := C
  unfold am_qld at hg
  intro hL ls H locs hP hS hl
  have kk := kk hL ls H locs hP hS hl
  split at hg
  next c0 rs hsh =>
    obtain ⟨ho, hc, hr⟩ := am_sh_ref hsh
    split at hg
    next => cases hg
    next hi0 =>
      have hlt := (List.getElem?_eq_some_iff.mp hg).1
      have hx5 := hr _ (List.mem_of_getElem? hg)
      have hcell : (am_W a cI cR cS G)[o]? = some (a o, .inl (if c0 = 0 then cR else cS, rs.length, .inr (.inr (.inr (.inr (fun i => (rs[i]?).map a)))))) := by rw [am_W_get ho, am_cell_ref hsh]
      have hv : va_rf ((rs[i.toNatClampNeg]?).map a) = .ref (a x) := by rw [hg]; rfl
      rw [List.map_cons, List.map_cons, am_v_ref (by omega)]
      rw [List.map_cons, am_v_ref hx5, ← hv] at kk
      have hin : vp_in i rs.length := by
        rintro (z | z)
        · exact hi0 z
        · omega
      rcases (by omega : c0 = 0 ∨ c0 = 1) with rfl | rfl
      · exact va_aldq hx hb hK hP o 1 hcell rfl hin hd kk
      · exact va_aldq hx hb hK hP o 2 hcell rfl hin hd kk
  next => cases hg
theorem as_iastore (C : am_C a sio X cI cR cS D k p R s m args c A cells slots) {o : Nat} {i x : Int32} {G1 : GG} (hd : decode (am_cc k) pc = .ok (.iastore, 1)) (hg : am_ast G o i x = some G1) (kk : am_Wt (fun H locs g => W p l e R s m args below meth c H locs cells slots Q g) D a sio cI cR cS m (am_mx k) A s.heap (pc + 1) (lv) (st) (G1)) : am_Wt (fun H locs g => W p l e R s m args below meth c H locs cells slots Q g) D a sio cI cR cS m (am_mx k) A s.heap (pc) (lv) (.int x :: .int i :: .ref o :: st) (G) := by
  obtain ⟨hx, hb, hml, hown, hts, hK, hE, hA, hfr, hlo, hce, hsl, hap, hsio⟩ := C
  unfold am_ast at hg
  intro hL ls H locs hP hS hl
  split at hg
  next n hsh =>
    have ho := am_sh_arr hsh
    split at hg
    next => cases hg
    next hin =>
      cases hg
      have hcell : (am_W a cI cR cS G)[o]? = some (a o, .inl (cI, n, .inl (G o))) := by rw [am_W_get ho, am_cell_arr hsh]
      have hset : (am_W a cI cR cS G).set o (a o, .inl (cI, n, .inl (upd (G o) i.toNatClampNeg x))) = am_W a cI cR cS (gset G o (upd (G o) i.toNatClampNeg x)) := by
        refine am_W_set ho ?_
        rw [am_cell_arr hsh]
        rw [show gset G o (upd (G o) i.toNatClampNeg x) o = upd (G o) i.toNatClampNeg x from if_pos rfl]
      rw [List.map_cons, List.map_cons, List.map_cons, am_v_ref (by omega)]
      refine va_iast hx hb hK hP (am_W_D hap) hS o 0 hcell rfl (am_inb hin) hd (fun H1 locs1 h1 _ h3 => ?_)
      rw [hset] at h1
      exact kk hL ls H1 locs1 h1 h3 hl
  next => cases hg
theorem as_arraylength (C : am_C a sio X cI cR cS D k p R s m args c A cells slots) {o n : Nat} (hd : decode (am_cc k) pc = .ok (.arraylength, 1)) (hg : am_len X o = some n) (kk : am_Wt (fun H locs g => W p l e R s m args below meth c H locs cells slots Q g) D a sio cI cR cS m (am_mx k) A s.heap (pc + 1) (lv) (.int (nI n) :: st) (G)) : am_Wt (fun H locs g => W p l e R s m args below meth c H locs cells slots Q g) D a sio cI cR cS m (am_mx k) A s.heap (pc) (lv) (.ref o :: st) (G) := by
  obtain ⟨hx, hb, hml, hown, hts, hK, hE, hA, hfr, hlo, hce, hsl, hap, hsio⟩ := C
  unfold am_len at hg
  intro hL ls H locs hP hS hl
  have kk := kk hL ls H locs hP hS hl
  split at hg
  next n' hsh =>
    have ho := am_sh_arr hsh
    cases hg
    have hcell : (am_W a cI cR cS G)[o]? = some (a o, .inl (cI, n, .inl (G o))) := by rw [am_W_get ho, am_cell_arr hsh]
    rw [List.map_cons, am_v_ref (by omega)]
    exact va_alen hx hb hK hP o 0 hcell (ty := .int) rfl rfl hd kk
  next c0 rs hsh =>
    obtain ⟨ho, hc, hr⟩ := am_sh_ref hsh
    cases hg
    have hcell : (am_W a cI cR cS G)[o]? = some (a o, .inl (if c0 = 0 then cR else cS, rs.length, .inr (.inr (.inr (.inr (fun i => (rs[i]?).map a)))))) := by rw [am_W_get ho, am_cell_ref hsh]
    rw [List.map_cons, am_v_ref (by omega)]
    rcases (by omega : c0 = 0 ∨ c0 = 1) with rfl | rfl
    · exact va_alen hx hb hK hP o 1 hcell (ty := .object RX0) rfl rfl hd kk
    · exact va_alen hx hb hK hP o 2 hcell (ty := .object "java/lang/String") rfl rfl hd kk
  next =>
    split at hg
    next h4 =>
      subst h4
      cases hg
      rw [List.map_cons, am_v_ref (by omega)]
      exact va_tlen hx hb hE.2.2.2.2.2.2.2 hS rfl hd kk
    next =>
      split at hg
      next ho =>
        obtain rfl := Option.some.inj hg
        have h3 := ((hE.2.2.2.2.2.2.1).1 (o - 200) (by omega)).2.2.2
        simp only [show 200 + (o - 200) = o by omega] at h3
        rw [List.map_cons, am_v_ref (by omega)]
        exact va_tlen hx hb h3 hS rfl hd kk
      next => cases hg
theorem as_copy (C : am_C a sio X cI cR cS D k p R s m args c A cells slots) {j pos o1 o2 : Nat} {sp dp n : Int32} {G1 : GG} (hd : decode (am_cc k) pc = .ok (.invokestatic j, 3)) (hq : am_alk.lookup (am_own k, j) = some (pos, 999)) (hfr1 : 1 ≤ am_fr k) (hlo1 : 60 ≤ am_lo k) (hlen : st.length ≤ 4) (hg : am_cpy G o1 sp o2 dp n = some G1) (kk : am_Wt (fun H locs g => W p l e R s m args below meth c H locs cells slots Q g) D a sio cI cR cS m (am_mx k) A s.heap (pc + 3) (lv) (st) (G1)) : am_Wt (fun H locs g => W p l e R s m args below meth c H locs cells slots Q g) D a sio cI cR cS m (am_mx k) A s.heap (pc) (lv) (.int n :: .int dp :: .ref o2 :: .int sp :: .ref o1 :: st) (G) := by
  obtain ⟨hx, hb, hml, hown, hts, hK, hE, hA, hfr, hlo, hce, hsl, hap, hsio⟩ := C
  have hlink := am_word hts (am_alk_ok _ (am_lookup_mem _ hq))
  unfold am_cpy at hg
  intro hL ls H locs hP hS hl
  split at hg
  next n1 n2 hs1 hs2 =>
    have ho1 := am_sh_arr hs1
    have ho2 := am_sh_arr hs2
    split at hg
    next hcond =>
      cases hg
      obtain ⟨b1, b2, b3, b4, b5⟩ := hcond
      have hcell1 : (am_W a cI cR cS G)[o1]? = some (a o1, .inl (cI, n1, .inl (G o1))) := by rw [am_W_get ho1, am_cell_arr hs1]
      have hcell2 : (am_W a cI cR cS G)[o2]? = some (a o2, .inl (cI, n2, .inl (G o2))) := by rw [am_W_get ho2, am_cell_arr hs2]
      have hset : (am_W a cI cR cS G).set o2 (a o2, .inl (cI, n2, .inl (va_cpy (G o1) (G o2) sp.toNatClampNeg dp.toNatClampNeg n.toNatClampNeg))) = am_W a cI cR cS (gset G o2 (va_cpy (G o1) (G o2) sp.toNatClampNeg dp.toNatClampNeg n.toNatClampNeg)) := by
        refine am_W_set ho2 ?_
        rw [am_cell_arr hs2]
        rw [show gset G o2 (va_cpy (G o1) (G o2) sp.toNatClampNeg dp.toNatClampNeg n.toNatClampNeg) o2 = va_cpy (G o1) (G o2) sp.toNatClampNeg dp.toNatClampNeg n.toNatClampNeg from if_pos rfl]
      have hsum := am_sum (am_cat2 (a := a) hsio) st
      have hnw : nativeFrameWords "java/lang/System" "arraycopy" 5 ≤ 41 := by decide +kernel
      simp only [List.map_cons]
      rw [am_v_ref (show o1 < 500 by omega), am_v_ref (show o2 < 500 by omega)]
      refine va_copyi hx hb (hml.trans hl.1.symm) hown hlink (am_word hts am_w_nat.1) (am_word hts am_w_nat.2.1) (am_word hts am_w_nat.2.2) hK hP (am_W_D hap) hS o1 o2 0 0 hcell1 hcell2 rfl rfl rfl b1 b2 b3 b4 b5 (fun _ _ => rfl) (by omega) (by omega) hd (fun H1 locs1 h1 _ h3 => ?_)
      rw [hset] at h1
      exact kk hL ls H1 locs1 h1 h3 hl
    next => cases hg
  next => cases hg
theorem as_min (C : am_C a sio X cI cR cS D k p R s m args c A cells slots) {j pos : Nat} {x y : Int32} (hd : decode (am_cc k) pc = .ok (.invokestatic j, 3)) (hq : am_alk.lookup (am_own k, j) = some (pos, 996)) (hfr1 : 1 ≤ am_fr k) (hlo1 : 60 ≤ am_lo k) (hlen : st.length ≤ 4) (kk : am_Wt (fun H locs g => W p l e R s m args below meth c H locs cells slots Q g) D a sio cI cR cS m (am_mx k) A s.heap (pc + 3) (lv) (.int (if y < x then y else x) :: st) (G)) : am_Wt (fun H locs g => W p l e R s m args below meth c H locs cells slots Q g) D a sio cI cR cS m (am_mx k) A s.heap (pc) (lv) (.int y :: .int x :: st) (G) := by
  obtain ⟨hx, hb, hml, hown, hts, hK, hE, hA, hfr, hlo, hce, hsl, hap, hsio⟩ := C
  have hlink := am_word hts (am_alk_ok _ (am_lookup_mem _ hq))
  intro hL ls H locs hP hS hl
  have hsum := am_sum (am_cat2 (a := a) hsio) st
  exact va_mmin hx hb (hml.trans hl.1.symm) hown hlink (hts _ am_w_min.1) (hts _ am_w_min.2.2) (hts _ am_w_min.2.1) (by omega) (by omega) hce hsl hd (kk hL ls H locs hP hS hl)
theorem as_max (C : am_C a sio X cI cR cS D k p R s m args c A cells slots) {j pos : Nat} {x y : Int32} (hd : decode (am_cc k) pc = .ok (.invokestatic j, 3)) (hq : am_alk.lookup (am_own k, j) = some (pos, 997)) (hfr1 : 1 ≤ am_fr k) (hlo1 : 60 ≤ am_lo k) (hlen : st.length ≤ 4) (kk : am_Wt (fun H locs g => W p l e R s m args below meth c H locs cells slots Q g) D a sio cI cR cS m (am_mx k) A s.heap (pc + 3) (lv) (.int (if x < y then y else x) :: st) (G)) : am_Wt (fun H locs g => W p l e R s m args below meth c H locs cells slots Q g) D a sio cI cR cS m (am_mx k) A s.heap (pc) (lv) (.int y :: .int x :: st) (G) := by
  obtain ⟨hx, hb, hml, hown, hts, hK, hE, hA, hfr, hlo, hce, hsl, hap, hsio⟩ := C
  have hlink := am_word hts (am_alk_ok _ (am_lookup_mem _ hq))
  intro hL ls H locs hP hS hl
  have hsum := am_sum (am_cat2 (a := a) hsio) st
  exact va_mmax hx hb (hml.trans hl.1.symm) hown hlink (hts _ am_w_max.1) (hts _ am_w_max.2.2) (hts _ am_w_max.2.1) (by omega) (by omega) hce hsl hd (kk hL ls H locs hP hS hl)
theorem as_abs (C : am_C a sio X cI cR cS D k p R s m args c A cells slots) {j pos : Nat} {x y : Int32} (hd : decode (am_cc k) pc = .ok (.invokestatic j, 3)) (hq : am_alk.lookup (am_own k, j) = some (pos, 998)) (hfr1 : 1 ≤ am_fr k) (hlo1 : 60 ≤ am_lo k) (hlen : st.length ≤ 4) (kk : am_Wt (fun H locs g => W p l e R s m args below meth c H locs cells slots Q g) D a sio cI cR cS m (am_mx k) A s.heap (pc + 3) (lv) (.int (if nI 0 ≤ x then x else nI 0 - x) :: st) (G)) : am_Wt (fun H locs g => W p l e R s m args below meth c H locs cells slots Q g) D a sio cI cR cS m (am_mx k) A s.heap (pc) (lv) (.int x :: st) (G) := by
  obtain ⟨hx, hb, hml, hown, hts, hK, hE, hA, hfr, hlo, hce, hsl, hap, hsio⟩ := C
  have hlink := am_word hts (am_alk_ok _ (am_lookup_mem _ hq))
  intro hL ls H locs hP hS hl
  have hsum := am_sum (am_cat2 (a := a) hsio) st
  exact va_mabs hx hb (hml.trans hl.1.symm) hown hlink (hts _ am_w_abs.1) (hts _ am_w_abs.2.2) (hts _ am_w_abs.2.1) (by omega) (by omega) hce hsl hd (kk hL ls H locs hP hS hl)
end ASH
