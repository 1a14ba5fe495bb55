/-! ===== one row an instruction: the small machine's step is the machine's: printed by program ===== -/
theorem am_cst_v (n : Int) (hn : -2 ^ 31 ≤ n) (hn2 : n < 2 ^ 31) : ∀ {X : AmX} {k : Nat} {r : List Instr} {lv : LV} {st : List Value} {G : GG}, am_st X k (am_cst n) r lv st G = am_push r lv st G (.int (Int32.ofInt n)) := by
  intro X k r lv st G
  cases n with
  | ofNat n => rfl
  | negSucc n => rfl
theorem am_i8 {n : Int} (h1 : -128 ≤ n) (h2 : n < 128) : (Int8.ofInt n).toInt32 = Int32.ofInt n := by
  apply Int32.toInt_inj.mp
  rw [Int8.toInt_toInt32, Int8.toInt_ofInt_of_le (by omega) (by omega), Int32.toInt_ofInt_of_le (by omega) (by omega)]
theorem am_i16 {n : Int} (h1 : -32768 ≤ n) (h2 : n < 32768) : (Int16.ofInt n).toInt32 = Int32.ofInt n := by
  apply Int32.toInt_inj.mp
  rw [Int16.toInt_toInt32, Int16.toInt_ofInt_of_le (by omega) (by omega), Int32.toInt_ofInt_of_le (by omega) (by omega)]
section ASR
variable {p : Program} {l : Launch} {e : Env} {R : Room} {s : State} {m : MethodId} {args : Array Value} {below : List Frame} {meth : Method} {c : Code} {cells slots : Nat} {Q : State → Prop}
variable {a : Nat → Nat} {sio : Value} {X : AmX} {cI cR cS : ClassId} {D : va_G} {k : Nat} {A : Nat → Prop} {pc : Nat} {lv : LV} {st : List Value} {G : GG} {r : List Instr}
theorem as_iconst (C : am_C a sio X cI cR cS D k p R s m args c A cells slots) {n : Int} (hd : decode (am_cc k) pc = .ok (.iconst n, 1)) (kk : am_Wt (fun H locs g => W p l e R s m args below meth c H locs cells slots Q g) D a sio cI cR cS m (am_mx k) A s.heap (pc + 1) (lv) (.int (Int32.ofInt n) :: st) (G)) : am_Wt (fun H locs g => W p l e R s m args below meth c H locs cells slots Q g) D a sio cI cR cS m (am_mx k) A s.heap (pc) (lv) (st) (G) := by
  obtain ⟨hx, hb, hml, hown, hts, hK, hE, hA, hfr, hlo, hce, hsl, hap, hsio⟩ := C
  intro hL ls H locs hP hS hl
  exact lv_iconst hx hb hd rfl (kk hL ls H locs hP hS hl)
theorem as_bipush (C : am_C a sio X cI cR cS D k p R s m args c A cells slots) {n : Int} (hd : decode (am_cc k) pc = .ok (.bipush n, 2)) (kk : am_Wt (fun H locs g => W p l e R s m args below meth c H locs cells slots Q g) D a sio cI cR cS m (am_mx k) A s.heap (pc + 2) (lv) (.int (Int8.ofInt n).toInt32 :: st) (G)) : am_Wt (fun H locs g => W p l e R s m args below meth c H locs cells slots Q g) D a sio cI cR cS m (am_mx k) A s.heap (pc) (lv) (st) (G) := by
  obtain ⟨hx, hb, hml, hown, hts, hK, hE, hA, hfr, hlo, hce, hsl, hap, hsio⟩ := C
  intro hL ls H locs hP hS hl
  exact lv_bipush hx hb hd rfl (kk hL ls H locs hP hS hl)
theorem as_sipush (C : am_C a sio X cI cR cS D k p R s m args c A cells slots) {n : Int} (hd : decode (am_cc k) pc = .ok (.sipush n, 3)) (kk : am_Wt (fun H locs g => W p l e R s m args below meth c H locs cells slots Q g) D a sio cI cR cS m (am_mx k) A s.heap (pc + 3) (lv) (.int (Int16.ofInt n).toInt32 :: st) (G)) : am_Wt (fun H locs g => W p l e R s m args below meth c H locs cells slots Q g) D a sio cI cR cS m (am_mx k) A s.heap (pc) (lv) (st) (G) := by
  obtain ⟨hx, hb, hml, hown, hts, hK, hE, hA, hfr, hlo, hce, hsl, hap, hsio⟩ := C
  intro hL ls H locs hP hS hl
  exact lv_sipush hx hb hd rfl (kk hL ls H locs hP hS hl)
theorem as_lconst (C : am_C a sio X cI cR cS D k p R s m args c A cells slots) {n : Fin 2} (hd : decode (am_cc k) pc = .ok (.lconst n, 1)) (kk : am_Wt (fun H locs g => W p l e R s m args below meth c H locs cells slots Q g) D a sio cI cR cS m (am_mx k) A s.heap (pc + 1) (lv) (.long (Int64.ofNat n.val) :: st) (G)) : am_Wt (fun H locs g => W p l e R s m args below meth c H locs cells slots Q g) D a sio cI cR cS m (am_mx k) A s.heap (pc) (lv) (st) (G) := by
  obtain ⟨hx, hb, hml, hown, hts, hK, hE, hA, hfr, hlo, hce, hsl, hap, hsio⟩ := C
  intro hL ls H locs hP hS hl
  exact lv_lconst hx hb hd rfl (kk hL ls H locs hP hS hl)
theorem as_ldci (C : am_C a sio X cI cR cS D k p R s m args c A cells slots) {j : Nat} {n : Int} (hd : decode (am_cc k) pc = .ok (.ldc j, 2)) {i : Nat} (hc : wsL_law[i]? = some (.constant (am_cn (am_own k)) j (Int32.ofInt n))) (kk : am_Wt (fun H locs g => W p l e R s m args below meth c H locs cells slots Q g) D a sio cI cR cS m (am_mx k) A s.heap (pc + 2) (lv) (.int (Int32.ofInt n) :: st) (G)) : am_Wt (fun H locs g => W p l e R s m args below meth c H locs cells slots Q g) D a sio cI cR cS m (am_mx k) A s.heap (pc) (lv) (st) (G) := by
  obtain ⟨hx, hb, hml, hown, hts, hK, hE, hA, hfr, hlo, hce, hsl, hap, hsio⟩ := C
  intro hL ls H locs hP hS hl
  exact lv_ldc hx hb hown (am_word hts hc) hd (kk hL ls H locs hP hS hl)
theorem as_ldcwi (C : am_C a sio X cI cR cS D k p R s m args c A cells slots) {j : Nat} {n : Int} (hd : decode (am_cc k) pc = .ok (.ldc_w j, 3)) {i : Nat} (hc : wsL_law[i]? = some (.constant (am_cn (am_own k)) j (Int32.ofInt n))) (kk : am_Wt (fun H locs g => W p l e R s m args below meth c H locs cells slots Q g) D a sio cI cR cS m (am_mx k) A s.heap (pc + 3) (lv) (.int (Int32.ofInt n) :: st) (G)) : am_Wt (fun H locs g => W p l e R s m args below meth c H locs cells slots Q g) D a sio cI cR cS m (am_mx k) A s.heap (pc) (lv) (st) (G) := by
  obtain ⟨hx, hb, hml, hown, hts, hK, hE, hA, hfr, hlo, hce, hsl, hap, hsio⟩ := C
  intro hL ls H locs hP hS hl
  exact lv_ldcw hx hb hown (am_word hts hc) hd (kk hL ls H locs hP hS hl)
theorem as_ldcs (C : am_C a sio X cI cR cS D k p R s m args c A cells slots) {j q : Nat} {tx : String} (hd : decode (am_cc k) pc = .ok (.ldc j, 2)) {i : Nat} (hr : tt_refs[i]? = some (am_cn (am_own k), j, tx, q)) (hq0 : q < 11) (kk : am_Wt (fun H locs g => W p l e R s m args below meth c H locs cells slots Q g) D a sio cI cR cS m (am_mx k) A s.heap (pc + 2) (lv) (.ref (100 + q) :: st) (G)) : am_Wt (fun H locs g => W p l e R s m args below meth c H locs cells slots Q g) D a sio cI cR cS m (am_mx k) A s.heap (pc) (lv) (st) (G) := by
  obtain ⟨hx, hb, hml, hown, hts, hK, hE, hA, hfr, hlo, hce, hsl, hap, hsio⟩ := C
  intro hL ls H locs hP hS hl
  have hq : q < 11 := by omega
  have h1 : vk_R (am_cn (am_own k)) j tx (a (100 + q)) s := hE.2.1 (am_cn (am_own k), j, tx, q) (List.mem_of_getElem? hr)
  have kk := kk hL ls H locs hP hS hl
  rw [List.map_cons, am_v_ref (by omega)] at kk
  exact va_ldcS hx hb hown h1 hd kk
theorem as_ldcws (C : am_C a sio X cI cR cS D k p R s m args c A cells slots) {j q : Nat} {tx : String} (hd : decode (am_cc k) pc = .ok (.ldc_w j, 3)) {i : Nat} (hr : tt_refs[i]? = some (am_cn (am_own k), j, tx, q)) (hq0 : q < 11) (kk : am_Wt (fun H locs g => W p l e R s m args below meth c H locs cells slots Q g) D a sio cI cR cS m (am_mx k) A s.heap (pc + 3) (lv) (.ref (100 + q) :: st) (G)) : am_Wt (fun H locs g => W p l e R s m args below meth c H locs cells slots Q g) D a sio cI cR cS m (am_mx k) A s.heap (pc) (lv) (st) (G) := by
  obtain ⟨hx, hb, hml, hown, hts, hK, hE, hA, hfr, hlo, hce, hsl, hap, hsio⟩ := C
  intro hL ls H locs hP hS hl
  have hq : q < 11 := by omega
  have h1 : vk_R (am_cn (am_own k)) j tx (a (100 + q)) s := hE.2.1 (am_cn (am_own k), j, tx, q) (List.mem_of_getElem? hr)
  have kk := kk hL ls H locs hP hS hl
  rw [List.map_cons, am_v_ref (by omega)] at kk
  intro T hT Y
  obtain ⟨t, a1, b1⟩ := kk T hT Y
  exact ⟨t, Y.ldcStringW hx hown (text := tx) (a := a (100 + q)) h1.1 h1.2 (g := F0 m pc ls (st.map (am_v a sio))) rfl (by rw [hb]; exact hd) t a1, b1⟩
theorem as_iload (C : am_C a sio X cI cR cS D k p R s m args c A cells slots) {j : Nat} {x : Int32} (hd : decode (am_cc k) pc = .ok (.iload j, 2)) (hj : lv[j]? = some (some (.int x))) (kk : am_Wt (fun H locs g => W p l e R s m args below meth c H locs cells slots Q g) D a sio cI cR cS m (am_mx k) A s.heap (pc + 2) (lv) (.int x :: st) (G)) : am_Wt (fun H locs g => W p l e R s m args below meth c H locs cells slots Q g) D a sio cI cR cS m (am_mx k) A s.heap (pc) (lv) (st) (G) := by
  obtain ⟨hx, hb, hml, hown, hts, hK, hE, hA, hfr, hlo, hce, hsl, hap, hsio⟩ := C
  intro hL ls H locs hP hS hl
  exact lv_iload hx hb hd (am_lv_at hl hj) (kk hL ls H locs hP hS hl)
theorem as_iload_n (C : am_C a sio X cI cR cS D k p R s m args c A cells slots) {f : Fin 4} {x : Int32} (hd : decode (am_cc k) pc = .ok (.iload_n f, 1)) (hj : lv[f.val]? = some (some (.int x))) (kk : am_Wt (fun H locs g => W p l e R s m args below meth c H locs cells slots Q g) D a sio cI cR cS m (am_mx k) A s.heap (pc + 1) (lv) (.int x :: st) (G)) : am_Wt (fun H locs g => W p l e R s m args below meth c H locs cells slots Q g) D a sio cI cR cS m (am_mx k) A s.heap (pc) (lv) (st) (G) := by
  obtain ⟨hx, hb, hml, hown, hts, hK, hE, hA, hfr, hlo, hce, hsl, hap, hsio⟩ := C
  intro hL ls H locs hP hS hl
  exact lv_iload_n hx hb hd rfl (am_lv_at hl hj) (kk hL ls H locs hP hS hl)
theorem as_lload (C : am_C a sio X cI cR cS D k p R s m args c A cells slots) {j : Nat} {x : Int64} (hd : decode (am_cc k) pc = .ok (.lload j, 2)) (hj : lv[j]? = some (some (.long x))) (kk : am_Wt (fun H locs g => W p l e R s m args below meth c H locs cells slots Q g) D a sio cI cR cS m (am_mx k) A s.heap (pc + 2) (lv) (.long x :: st) (G)) : am_Wt (fun H locs g => W p l e R s m args below meth c H locs cells slots Q g) D a sio cI cR cS m (am_mx k) A s.heap (pc) (lv) (st) (G) := by
  obtain ⟨hx, hb, hml, hown, hts, hK, hE, hA, hfr, hlo, hce, hsl, hap, hsio⟩ := C
  intro hL ls H locs hP hS hl
  exact lv_lload hx hb hd (am_lv_at hl hj) (kk hL ls H locs hP hS hl)
theorem as_lload_n (C : am_C a sio X cI cR cS D k p R s m args c A cells slots) {f : Fin 4} {x : Int64} (hd : decode (am_cc k) pc = .ok (.lload_n f, 1)) (hj : lv[f.val]? = some (some (.long x))) (kk : am_Wt (fun H locs g => W p l e R s m args below meth c H locs cells slots Q g) D a sio cI cR cS m (am_mx k) A s.heap (pc + 1) (lv) (.long x :: st) (G)) : am_Wt (fun H locs g => W p l e R s m args below meth c H locs cells slots Q g) D a sio cI cR cS m (am_mx k) A s.heap (pc) (lv) (st) (G) := by
  obtain ⟨hx, hb, hml, hown, hts, hK, hE, hA, hfr, hlo, hce, hsl, hap, hsio⟩ := C
  intro hL ls H locs hP hS hl
  exact lv_lload_n hx hb hd rfl (am_lv_at hl hj) (kk hL ls H locs hP hS hl)
theorem as_aload (C : am_C a sio X cI cR cS D k p R s m args c A cells slots) {x : Nat} {j : Nat} (hd : decode (am_cc k) pc = .ok (.aload j, 2)) (hj : lv[j]? = some (some (.ref x))) (hx5 : x < 500) (kk : am_Wt (fun H locs g => W p l e R s m args below meth c H locs cells slots Q g) D a sio cI cR cS m (am_mx k) A s.heap (pc + 2) (lv) (.ref x :: st) (G)) : am_Wt (fun H locs g => W p l e R s m args below meth c H locs cells slots Q g) D a sio cI cR cS m (am_mx k) A s.heap (pc) (lv) (st) (G) := by
  obtain ⟨hx, hb, hml, hown, hts, hK, hE, hA, hfr, hlo, hce, hsl, hap, hsio⟩ := C
  intro hL ls H locs hP hS hl
  have h1 := am_lv_at hl hj
  rw [am_v_ref hx5] at h1
  have kk := kk hL ls H locs hP hS hl
  rw [List.map_cons, am_v_ref hx5] at kk
  exact lv_aload hx hb hd h1 kk
theorem as_aload_n (C : am_C a sio X cI cR cS D k p R s m args c A cells slots) {x : Nat} {f : Fin 4} (hd : decode (am_cc k) pc = .ok (.aload_n f, 1)) (hj : lv[f.val]? = some (some (.ref x))) (hx5 : x < 500) (kk : am_Wt (fun H locs g => W p l e R s m args below meth c H locs cells slots Q g) D a sio cI cR cS m (am_mx k) A s.heap (pc + 1) (lv) (.ref x :: st) (G)) : am_Wt (fun H locs g => W p l e R s m args below meth c H locs cells slots Q g) D a sio cI cR cS m (am_mx k) A s.heap (pc) (lv) (st) (G) := by
  obtain ⟨hx, hb, hml, hown, hts, hK, hE, hA, hfr, hlo, hce, hsl, hap, hsio⟩ := C
  intro hL ls H locs hP hS hl
  have h1 := am_lv_at hl hj
  rw [am_v_ref hx5] at h1
  have kk := kk hL ls H locs hP hS hl
  rw [List.map_cons, am_v_ref hx5] at kk
  exact lv_aload_n hx hb hd rfl h1 kk
theorem as_istore (C : am_C a sio X cI cR cS D k p R s m args c A cells slots) {x : Int32} {j : Nat} (hd : decode (am_cc k) pc = .ok (.istore j, 2)) (ho : am_ok1 lv j = true) (kk : am_Wt (fun H locs g => W p l e R s m args below meth c H locs cells slots Q g) D a sio cI cR cS m (am_mx k) A s.heap (pc + 2) (lv.set j (some (.int x))) (st) (G)) : am_Wt (fun H locs g => W p l e R s m args below meth c H locs cells slots Q g) D a sio cI cR cS m (am_mx k) A s.heap (pc) (lv) (.int x :: st) (G) := by
  obtain ⟨hx, hb, hml, hown, hts, hK, hE, hA, hfr, hlo, hce, hsl, hap, hsio⟩ := C
  intro hL ls H locs hP hS hl
  have hlt := (am_ok1_spec ho).1
  refine lv_istore hx hb hd hl (by omega) rfl (fun ls' hl' => ?_)
  exact kk (by rw [List.length_set]; exact hL) ls' H locs hP hS (am_lv_set (am_v_cat hsio) ho (by exact hl'))
theorem as_istore_n (C : am_C a sio X cI cR cS D k p R s m args c A cells slots) {x : Int32} {f : Fin 4} (hd : decode (am_cc k) pc = .ok (.istore_n f, 1)) (ho : am_ok1 lv f.val = true) (kk : am_Wt (fun H locs g => W p l e R s m args below meth c H locs cells slots Q g) D a sio cI cR cS m (am_mx k) A s.heap (pc + 1) (lv.set f.val (some (.int x))) (st) (G)) : am_Wt (fun H locs g => W p l e R s m args below meth c H locs cells slots Q g) D a sio cI cR cS m (am_mx k) A s.heap (pc) (lv) (.int x :: st) (G) := by
  obtain ⟨hx, hb, hml, hown, hts, hK, hE, hA, hfr, hlo, hce, hsl, hap, hsio⟩ := C
  intro hL ls H locs hP hS hl
  have hlt := (am_ok1_spec ho).1
  refine lv_istore_n hx hb hd rfl hl (by omega) rfl (fun ls' hl' => ?_)
  exact kk (by rw [List.length_set]; exact hL) ls' H locs hP hS (am_lv_set (am_v_cat hsio) ho (by exact hl'))
theorem as_astore (C : am_C a sio X cI cR cS D k p R s m args c A cells slots) {x : Nat} {j : Nat} (hd : decode (am_cc k) pc = .ok (.astore j, 2)) (ho : am_ok1 lv j = true) (hx5 : x < 500) (kk : am_Wt (fun H locs g => W p l e R s m args below meth c H locs cells slots Q g) D a sio cI cR cS m (am_mx k) A s.heap (pc + 2) (lv.set j (some (.ref x))) (st) (G)) : am_Wt (fun H locs g => W p l e R s m args below meth c H locs cells slots Q g) D a sio cI cR cS m (am_mx k) A s.heap (pc) (lv) (.ref x :: st) (G) := by
  obtain ⟨hx, hb, hml, hown, hts, hK, hE, hA, hfr, hlo, hce, hsl, hap, hsio⟩ := C
  intro hL ls H locs hP hS hl
  have hlt := (am_ok1_spec ho).1
  rw [List.map_cons, am_v_ref hx5]
  refine lv_astore hx hb hd hl (by omega) rfl (fun ls' hl' => ?_)
  exact kk (by rw [List.length_set]; exact hL) ls' H locs hP hS (am_lv_set (am_v_cat hsio) ho (by rw [am_v_ref hx5]; exact hl'))
theorem as_astore_n (C : am_C a sio X cI cR cS D k p R s m args c A cells slots) {x : Nat} {f : Fin 4} (hd : decode (am_cc k) pc = .ok (.astore_n f, 1)) (ho : am_ok1 lv f.val = true) (hx5 : x < 500) (kk : am_Wt (fun H locs g => W p l e R s m args below meth c H locs cells slots Q g) D a sio cI cR cS m (am_mx k) A s.heap (pc + 1) (lv.set f.val (some (.ref x))) (st) (G)) : am_Wt (fun H locs g => W p l e R s m args below meth c H locs cells slots Q g) D a sio cI cR cS m (am_mx k) A s.heap (pc) (lv) (.ref x :: st) (G) := by
  obtain ⟨hx, hb, hml, hown, hts, hK, hE, hA, hfr, hlo, hce, hsl, hap, hsio⟩ := C
  intro hL ls H locs hP hS hl
  have hlt := (am_ok1_spec ho).1
  rw [List.map_cons, am_v_ref hx5]
  refine lv_astore_n hx hb hd rfl hl (by omega) rfl (fun ls' hl' => ?_)
  exact kk (by rw [List.length_set]; exact hL) ls' H locs hP hS (am_lv_set (am_v_cat hsio) ho (by rw [am_v_ref hx5]; exact hl'))
theorem as_lstore (C : am_C a sio X cI cR cS D k p R s m args c A cells slots) {x : Int64} {j : Nat} (hd : decode (am_cc k) pc = .ok (.lstore j, 2)) (ho : am_ok2 lv j = true) (kk : am_Wt (fun H locs g => W p l e R s m args below meth c H locs cells slots Q g) D a sio cI cR cS m (am_mx k) A s.heap (pc + 2) ((lv.set j (some (.long x))).set (j + 1) none) (st) (G)) : am_Wt (fun H locs g => W p l e R s m args below meth c H locs cells slots Q g) D a sio cI cR cS m (am_mx k) A s.heap (pc) (lv) (.long x :: st) (G) := by
  obtain ⟨hx, hb, hml, hown, hts, hK, hE, hA, hfr, hlo, hce, hsl, hap, hsio⟩ := C
  intro hL ls H locs hP hS hl
  have ho2 := ho
  simp only [am_ok2, Bool.and_eq_true, decide_eq_true_eq] at ho2
  refine lv_lstore hx hb hd hl (by omega) rfl (fun ls' hl' => ?_)
  exact kk (by rw [List.length_set, List.length_set]; exact hL) ls' H locs hP hS (am_lv_set2 (am_v_cat hsio) ho hl')
theorem as_lstore_n (C : am_C a sio X cI cR cS D k p R s m args c A cells slots) {x : Int64} {f : Fin 4} (hd : decode (am_cc k) pc = .ok (.lstore_n f, 1)) (ho : am_ok2 lv f.val = true) (kk : am_Wt (fun H locs g => W p l e R s m args below meth c H locs cells slots Q g) D a sio cI cR cS m (am_mx k) A s.heap (pc + 1) ((lv.set f.val (some (.long x))).set (f.val + 1) none) (st) (G)) : am_Wt (fun H locs g => W p l e R s m args below meth c H locs cells slots Q g) D a sio cI cR cS m (am_mx k) A s.heap (pc) (lv) (.long x :: st) (G) := by
  obtain ⟨hx, hb, hml, hown, hts, hK, hE, hA, hfr, hlo, hce, hsl, hap, hsio⟩ := C
  intro hL ls H locs hP hS hl
  have ho2 := ho
  simp only [am_ok2, Bool.and_eq_true, decide_eq_true_eq] at ho2
  refine lv_lstore_n hx hb hd rfl hl (by omega) rfl (fun ls' hl' => ?_)
  exact kk (by rw [List.length_set, List.length_set]; exact hL) ls' H locs hP hS (am_lv_set2 (am_v_cat hsio) ho hl')
theorem as_iinc (C : am_C a sio X cI cR cS D k p R s m args c A cells slots) {j : Nat} {n : Int} {x : Int32} (hd : decode (am_cc k) pc = .ok (.iinc j n, 3)) (hj : lv[j]? = some (some (.int x))) (ho : am_ok1 lv j = true) (kk : am_Wt (fun H locs g => W p l e R s m args below meth c H locs cells slots Q g) D a sio cI cR cS m (am_mx k) A s.heap (pc + 3) (lv.set j (some (.int (x + am_ci n)))) (st) (G)) : am_Wt (fun H locs g => W p l e R s m args below meth c H locs cells slots Q g) D a sio cI cR cS m (am_mx k) A s.heap (pc) (lv) (st) (G) := by
  obtain ⟨hx, hb, hml, hown, hts, hK, hE, hA, hfr, hlo, hce, hsl, hap, hsio⟩ := C
  intro hL ls H locs hP hS hl
  have hlt := (am_ok1_spec ho).1
  obtain ⟨q, hq⟩ := List.getElem?_of_mem ((am_lvo_mem (am_v a sio) lv 0 (j, .int x)).mpr ⟨j, .int x, hj, by simp [am_v]⟩)
  refine lv_iinc hx hb hd hl hq rfl (by omega) rfl (fun ls' hl' => ?_)
  exact kk (by rw [List.length_set]; exact hL) ls' H locs hP hS (am_lv_set (am_v_cat hsio) ho hl')
theorem as_iadd (C : am_C a sio X cI cR cS D k p R s m args c A cells slots) {x y : Int32} (hd : decode (am_cc k) pc = .ok (.iadd, 1)) (kk : am_Wt (fun H locs g => W p l e R s m args below meth c H locs cells slots Q g) D a sio cI cR cS m (am_mx k) A s.heap (pc + 1) (lv) (.int (x + y) :: st) (G)) : am_Wt (fun H locs g => W p l e R s m args below meth c H locs cells slots Q g) D a sio cI cR cS m (am_mx k) A s.heap (pc) (lv) (.int y :: .int x :: st) (G) := by
  obtain ⟨hx, hb, hml, hown, hts, hK, hE, hA, hfr, hlo, hce, hsl, hap, hsio⟩ := C
  intro hL ls H locs hP hS hl
  exact lv_iadd hx hb hd (kk hL ls H locs hP hS hl)
theorem as_isub (C : am_C a sio X cI cR cS D k p R s m args c A cells slots) {x y : Int32} (hd : decode (am_cc k) pc = .ok (.isub, 1)) (kk : am_Wt (fun H locs g => W p l e R s m args below meth c H locs cells slots Q g) D a sio cI cR cS m (am_mx k) A s.heap (pc + 1) (lv) (.int (x - y) :: st) (G)) : am_Wt (fun H locs g => W p l e R s m args below meth c H locs cells slots Q g) D a sio cI cR cS m (am_mx k) A s.heap (pc) (lv) (.int y :: .int x :: st) (G) := by
  obtain ⟨hx, hb, hml, hown, hts, hK, hE, hA, hfr, hlo, hce, hsl, hap, hsio⟩ := C
  intro hL ls H locs hP hS hl
  exact lv_isub hx hb hd (kk hL ls H locs hP hS hl)
theorem as_imul (C : am_C a sio X cI cR cS D k p R s m args c A cells slots) {x y : Int32} (hd : decode (am_cc k) pc = .ok (.imul, 1)) (kk : am_Wt (fun H locs g => W p l e R s m args below meth c H locs cells slots Q g) D a sio cI cR cS m (am_mx k) A s.heap (pc + 1) (lv) (.int (x * y) :: st) (G)) : am_Wt (fun H locs g => W p l e R s m args below meth c H locs cells slots Q g) D a sio cI cR cS m (am_mx k) A s.heap (pc) (lv) (.int y :: .int x :: st) (G) := by
  obtain ⟨hx, hb, hml, hown, hts, hK, hE, hA, hfr, hlo, hce, hsl, hap, hsio⟩ := C
  intro hL ls H locs hP hS hl
  exact lv_imul hx hb hd (kk hL ls H locs hP hS hl)
theorem as_iand (C : am_C a sio X cI cR cS D k p R s m args c A cells slots) {x y : Int32} (hd : decode (am_cc k) pc = .ok (.iand, 1)) (kk : am_Wt (fun H locs g => W p l e R s m args below meth c H locs cells slots Q g) D a sio cI cR cS m (am_mx k) A s.heap (pc + 1) (lv) (.int (x &&& y) :: st) (G)) : am_Wt (fun H locs g => W p l e R s m args below meth c H locs cells slots Q g) D a sio cI cR cS m (am_mx k) A s.heap (pc) (lv) (.int y :: .int x :: st) (G) := by
  obtain ⟨hx, hb, hml, hown, hts, hK, hE, hA, hfr, hlo, hce, hsl, hap, hsio⟩ := C
  intro hL ls H locs hP hS hl
  exact lv_iand hx hb hd (kk hL ls H locs hP hS hl)
theorem as_ior (C : am_C a sio X cI cR cS D k p R s m args c A cells slots) {x y : Int32} (hd : decode (am_cc k) pc = .ok (.ior, 1)) (kk : am_Wt (fun H locs g => W p l e R s m args below meth c H locs cells slots Q g) D a sio cI cR cS m (am_mx k) A s.heap (pc + 1) (lv) (.int (x ||| y) :: st) (G)) : am_Wt (fun H locs g => W p l e R s m args below meth c H locs cells slots Q g) D a sio cI cR cS m (am_mx k) A s.heap (pc) (lv) (.int y :: .int x :: st) (G) := by
  obtain ⟨hx, hb, hml, hown, hts, hK, hE, hA, hfr, hlo, hce, hsl, hap, hsio⟩ := C
  intro hL ls H locs hP hS hl
  exact lv_ior hx hb hd (kk hL ls H locs hP hS hl)
theorem as_ixor (C : am_C a sio X cI cR cS D k p R s m args c A cells slots) {x y : Int32} (hd : decode (am_cc k) pc = .ok (.ixor, 1)) (kk : am_Wt (fun H locs g => W p l e R s m args below meth c H locs cells slots Q g) D a sio cI cR cS m (am_mx k) A s.heap (pc + 1) (lv) (.int (x ^^^ y) :: st) (G)) : am_Wt (fun H locs g => W p l e R s m args below meth c H locs cells slots Q g) D a sio cI cR cS m (am_mx k) A s.heap (pc) (lv) (.int y :: .int x :: st) (G) := by
  obtain ⟨hx, hb, hml, hown, hts, hK, hE, hA, hfr, hlo, hce, hsl, hap, hsio⟩ := C
  intro hL ls H locs hP hS hl
  exact lv_ixor hx hb hd (kk hL ls H locs hP hS hl)
theorem as_ishl (C : am_C a sio X cI cR cS D k p R s m args c A cells slots) {x y : Int32} (hd : decode (am_cc k) pc = .ok (.ishl, 1)) (kk : am_Wt (fun H locs g => W p l e R s m args below meth c H locs cells slots Q g) D a sio cI cR cS m (am_mx k) A s.heap (pc + 1) (lv) (.int (x <<< (y &&& 31)) :: st) (G)) : am_Wt (fun H locs g => W p l e R s m args below meth c H locs cells slots Q g) D a sio cI cR cS m (am_mx k) A s.heap (pc) (lv) (.int y :: .int x :: st) (G) := by
  obtain ⟨hx, hb, hml, hown, hts, hK, hE, hA, hfr, hlo, hce, hsl, hap, hsio⟩ := C
  intro hL ls H locs hP hS hl
  exact lv_ishl hx hb hd (kk hL ls H locs hP hS hl)
theorem as_ishr (C : am_C a sio X cI cR cS D k p R s m args c A cells slots) {x y : Int32} (hd : decode (am_cc k) pc = .ok (.ishr, 1)) (kk : am_Wt (fun H locs g => W p l e R s m args below meth c H locs cells slots Q g) D a sio cI cR cS m (am_mx k) A s.heap (pc + 1) (lv) (.int (x >>> (y &&& 31)) :: st) (G)) : am_Wt (fun H locs g => W p l e R s m args below meth c H locs cells slots Q g) D a sio cI cR cS m (am_mx k) A s.heap (pc) (lv) (.int y :: .int x :: st) (G) := by
  obtain ⟨hx, hb, hml, hown, hts, hK, hE, hA, hfr, hlo, hce, hsl, hap, hsio⟩ := C
  intro hL ls H locs hP hS hl
  exact lv_ishr hx hb hd (kk hL ls H locs hP hS hl)
theorem as_iushr (C : am_C a sio X cI cR cS D k p R s m args c A cells slots) {x y : Int32} (hd : decode (am_cc k) pc = .ok (.iushr, 1)) (kk : am_Wt (fun H locs g => W p l e R s m args below meth c H locs cells slots Q g) D a sio cI cR cS m (am_mx k) A s.heap (pc + 1) (lv) (.int ((x.toUInt32 >>> (y.toUInt32 &&& Int32.toUInt32 31)).toInt32) :: st) (G)) : am_Wt (fun H locs g => W p l e R s m args below meth c H locs cells slots Q g) D a sio cI cR cS m (am_mx k) A s.heap (pc) (lv) (.int y :: .int x :: st) (G) := by
  obtain ⟨hx, hb, hml, hown, hts, hK, hE, hA, hfr, hlo, hce, hsl, hap, hsio⟩ := C
  intro hL ls H locs hP hS hl
  exact lv_iushr hx hb hd rfl (kk hL ls H locs hP hS hl)
theorem as_idiv (C : am_C a sio X cI cR cS D k p R s m args c A cells slots) {x y : Int32} (hd : decode (am_cc k) pc = .ok (.idiv, 1)) (hne : ¬ y = nI 0) (kk : am_Wt (fun H locs g => W p l e R s m args below meth c H locs cells slots Q g) D a sio cI cR cS m (am_mx k) A s.heap (pc + 1) (lv) (.int (x / y) :: st) (G)) : am_Wt (fun H locs g => W p l e R s m args below meth c H locs cells slots Q g) D a sio cI cR cS m (am_mx k) A s.heap (pc) (lv) (.int y :: .int x :: st) (G) := by
  obtain ⟨hx, hb, hml, hown, hts, hK, hE, hA, hfr, hlo, hce, hsl, hap, hsio⟩ := C
  intro hL ls H locs hP hS hl
  exact lv_idiv hx hb hd hne (kk hL ls H locs hP hS hl)
theorem as_irem (C : am_C a sio X cI cR cS D k p R s m args c A cells slots) {x y : Int32} (hd : decode (am_cc k) pc = .ok (.irem, 1)) (hne : ¬ y = nI 0) (kk : am_Wt (fun H locs g => W p l e R s m args below meth c H locs cells slots Q g) D a sio cI cR cS m (am_mx k) A s.heap (pc + 1) (lv) (.int (x - x / y * y) :: st) (G)) : am_Wt (fun H locs g => W p l e R s m args below meth c H locs cells slots Q g) D a sio cI cR cS m (am_mx k) A s.heap (pc) (lv) (.int y :: .int x :: st) (G) := by
  obtain ⟨hx, hb, hml, hown, hts, hK, hE, hA, hfr, hlo, hce, hsl, hap, hsio⟩ := C
  intro hL ls H locs hP hS hl
  exact lv_irem hx hb hd hne (kk hL ls H locs hP hS hl)
theorem as_ladd (C : am_C a sio X cI cR cS D k p R s m args c A cells slots) {x y : Int64} (hd : decode (am_cc k) pc = .ok (.ladd, 1)) (kk : am_Wt (fun H locs g => W p l e R s m args below meth c H locs cells slots Q g) D a sio cI cR cS m (am_mx k) A s.heap (pc + 1) (lv) (.long (x + y) :: st) (G)) : am_Wt (fun H locs g => W p l e R s m args below meth c H locs cells slots Q g) D a sio cI cR cS m (am_mx k) A s.heap (pc) (lv) (.long y :: .long x :: st) (G) := by
  obtain ⟨hx, hb, hml, hown, hts, hK, hE, hA, hfr, hlo, hce, hsl, hap, hsio⟩ := C
  intro hL ls H locs hP hS hl
  exact lv_ladd hx hb hd (kk hL ls H locs hP hS hl)
theorem as_lmul (C : am_C a sio X cI cR cS D k p R s m args c A cells slots) {x y : Int64} (hd : decode (am_cc k) pc = .ok (.lmul, 1)) (kk : am_Wt (fun H locs g => W p l e R s m args below meth c H locs cells slots Q g) D a sio cI cR cS m (am_mx k) A s.heap (pc + 1) (lv) (.long (x * y) :: st) (G)) : am_Wt (fun H locs g => W p l e R s m args below meth c H locs cells slots Q g) D a sio cI cR cS m (am_mx k) A s.heap (pc) (lv) (.long y :: .long x :: st) (G) := by
  obtain ⟨hx, hb, hml, hown, hts, hK, hE, hA, hfr, hlo, hce, hsl, hap, hsio⟩ := C
  intro hL ls H locs hP hS hl
  exact lv_lmul hx hb hd (kk hL ls H locs hP hS hl)
theorem as_lcmp (C : am_C a sio X cI cR cS D k p R s m args c A cells slots) {x y : Int64} (hd : decode (am_cc k) pc = .ok (.lcmp, 1)) (kk : am_Wt (fun H locs g => W p l e R s m args below meth c H locs cells slots Q g) D a sio cI cR cS m (am_mx k) A s.heap (pc + 1) (lv) (.int (lg_cmp x y) :: st) (G)) : am_Wt (fun H locs g => W p l e R s m args below meth c H locs cells slots Q g) D a sio cI cR cS m (am_mx k) A s.heap (pc) (lv) (.long y :: .long x :: st) (G) := by
  obtain ⟨hx, hb, hml, hown, hts, hK, hE, hA, hfr, hlo, hce, hsl, hap, hsio⟩ := C
  intro hL ls H locs hP hS hl
  exact W.lcmp hx hb hd (kk hL ls H locs hP hS hl)
theorem as_ineg (C : am_C a sio X cI cR cS D k p R s m args c A cells slots) {x : Int32} (hd : decode (am_cc k) pc = .ok (.ineg, 1)) (kk : am_Wt (fun H locs g => W p l e R s m args below meth c H locs cells slots Q g) D a sio cI cR cS m (am_mx k) A s.heap (pc + 1) (lv) (.int (-x) :: st) (G)) : am_Wt (fun H locs g => W p l e R s m args below meth c H locs cells slots Q g) D a sio cI cR cS m (am_mx k) A s.heap (pc) (lv) (.int x :: st) (G) := by
  obtain ⟨hx, hb, hml, hown, hts, hK, hE, hA, hfr, hlo, hce, hsl, hap, hsio⟩ := C
  intro hL ls H locs hP hS hl
  exact lv_ineg hx hb hd (kk hL ls H locs hP hS hl)
theorem as_i2b (C : am_C a sio X cI cR cS D k p R s m args c A cells slots) {x : Int32} (hd : decode (am_cc k) pc = .ok (.i2b, 1)) (kk : am_Wt (fun H locs g => W p l e R s m args below meth c H locs cells slots Q g) D a sio cI cR cS m (am_mx k) A s.heap (pc + 1) (lv) (.int (x.toInt8.toInt32) :: st) (G)) : am_Wt (fun H locs g => W p l e R s m args below meth c H locs cells slots Q g) D a sio cI cR cS m (am_mx k) A s.heap (pc) (lv) (.int x :: st) (G) := by
  obtain ⟨hx, hb, hml, hown, hts, hK, hE, hA, hfr, hlo, hce, hsl, hap, hsio⟩ := C
  intro hL ls H locs hP hS hl
  exact lv_i2b hx hb hd rfl (kk hL ls H locs hP hS hl)
theorem as_i2s (C : am_C a sio X cI cR cS D k p R s m args c A cells slots) {x : Int32} (hd : decode (am_cc k) pc = .ok (.i2s, 1)) (kk : am_Wt (fun H locs g => W p l e R s m args below meth c H locs cells slots Q g) D a sio cI cR cS m (am_mx k) A s.heap (pc + 1) (lv) (.int (x.toInt16.toInt32) :: st) (G)) : am_Wt (fun H locs g => W p l e R s m args below meth c H locs cells slots Q g) D a sio cI cR cS m (am_mx k) A s.heap (pc) (lv) (.int x :: st) (G) := by
  obtain ⟨hx, hb, hml, hown, hts, hK, hE, hA, hfr, hlo, hce, hsl, hap, hsio⟩ := C
  intro hL ls H locs hP hS hl
  exact lv_i2s hx hb hd rfl (kk hL ls H locs hP hS hl)
theorem as_i2c (C : am_C a sio X cI cR cS D k p R s m args c A cells slots) {x : Int32} (hd : decode (am_cc k) pc = .ok (.i2c, 1)) (kk : am_Wt (fun H locs g => W p l e R s m args below meth c H locs cells slots Q g) D a sio cI cR cS m (am_mx k) A s.heap (pc + 1) (lv) (.int ((x.toUInt32 % 65536).toInt32) :: st) (G)) : am_Wt (fun H locs g => W p l e R s m args below meth c H locs cells slots Q g) D a sio cI cR cS m (am_mx k) A s.heap (pc) (lv) (.int x :: st) (G) := by
  obtain ⟨hx, hb, hml, hown, hts, hK, hE, hA, hfr, hlo, hce, hsl, hap, hsio⟩ := C
  intro hL ls H locs hP hS hl
  exact lv_i2c hx hb hd rfl (kk hL ls H locs hP hS hl)
theorem as_i2l (C : am_C a sio X cI cR cS D k p R s m args c A cells slots) {x : Int32} (hd : decode (am_cc k) pc = .ok (.i2l, 1)) (kk : am_Wt (fun H locs g => W p l e R s m args below meth c H locs cells slots Q g) D a sio cI cR cS m (am_mx k) A s.heap (pc + 1) (lv) (.long (x.toInt64) :: st) (G)) : am_Wt (fun H locs g => W p l e R s m args below meth c H locs cells slots Q g) D a sio cI cR cS m (am_mx k) A s.heap (pc) (lv) (.int x :: st) (G) := by
  obtain ⟨hx, hb, hml, hown, hts, hK, hE, hA, hfr, hlo, hce, hsl, hap, hsio⟩ := C
  intro hL ls H locs hP hS hl
  exact lv_i2l hx hb hd rfl (kk hL ls H locs hP hS hl)
theorem am_c1_cat {v : Value} (h : am_c1 v = true) : v.category = 1 := by cases v <;> first | rfl | (exact absurd h Bool.false_ne_true)
theorem as_dup (C : am_C a sio X cI cR cS D k p R s m args c A cells slots) {v : Value} (hd : decode (am_cc k) pc = .ok (.dup, 1)) (hv : am_c1 v = true) (kk : am_Wt (fun H locs g => W p l e R s m args below meth c H locs cells slots Q g) D a sio cI cR cS m (am_mx k) A s.heap (pc + 1) (lv) (v :: v :: st) (G)) : am_Wt (fun H locs g => W p l e R s m args below meth c H locs cells slots Q g) D a sio cI cR cS m (am_mx k) A s.heap (pc) (lv) (v :: st) (G) := by
  obtain ⟨hx, hb, hml, hown, hts, hK, hE, hA, hfr, hlo, hce, hsl, hap, hsio⟩ := C
  intro hL ls H locs hP hS hl
  exact lv_dup hx hb hd ((am_v_cat hsio v).trans (am_c1_cat hv)) (kk hL ls H locs hP hS hl)
theorem as_dup2 (C : am_C a sio X cI cR cS D k p R s m args c A cells slots) {v w : Value} (hd : decode (am_cc k) pc = .ok (.dup2, 1)) (hv : am_c1 v = true) (hw : am_c1 w = true) (kk : am_Wt (fun H locs g => W p l e R s m args below meth c H locs cells slots Q g) D a sio cI cR cS m (am_mx k) A s.heap (pc + 1) (lv) (v :: w :: v :: w :: st) (G)) : am_Wt (fun H locs g => W p l e R s m args below meth c H locs cells slots Q g) D a sio cI cR cS m (am_mx k) A s.heap (pc) (lv) (v :: w :: st) (G) := by
  obtain ⟨hx, hb, hml, hown, hts, hK, hE, hA, hfr, hlo, hce, hsl, hap, hsio⟩ := C
  intro hL ls H locs hP hS hl
  exact lv_dup2_11 hx hb hd ((am_v_cat hsio v).trans (am_c1_cat hv)) ((am_v_cat hsio w).trans (am_c1_cat hw)) (kk hL ls H locs hP hS hl)
theorem as_pop (C : am_C a sio X cI cR cS D k p R s m args c A cells slots) {v : Value} (hd : decode (am_cc k) pc = .ok (.pop, 1)) (hv : am_c1 v = true) (kk : am_Wt (fun H locs g => W p l e R s m args below meth c H locs cells slots Q g) D a sio cI cR cS m (am_mx k) A s.heap (pc + 1) (lv) (st) (G)) : am_Wt (fun H locs g => W p l e R s m args below meth c H locs cells slots Q g) D a sio cI cR cS m (am_mx k) A s.heap (pc) (lv) (v :: st) (G) := by
  obtain ⟨hx, hb, hml, hown, hts, hK, hE, hA, hfr, hlo, hce, hsl, hap, hsio⟩ := C
  intro hL ls H locs hP hS hl
  exact lv_pop hx hb hd ((am_v_cat hsio v).trans (am_c1_cat hv)) (kk hL ls H locs hP hS hl)
theorem as_goto (C : am_C a sio X cI cR cS D k p R s m args c A cells slots) {t : Int} (hd : decode (am_cc k) pc = .ok (.goto t, 3)) (h0 : 0 ≤ (pc : Int) + t) (kk : am_Wt (fun H locs g => W p l e R s m args below meth c H locs cells slots Q g) D a sio cI cR cS m (am_mx k) A s.heap (((pc : Int) + t).toNat) (lv) (st) (G)) : am_Wt (fun H locs g => W p l e R s m args below meth c H locs cells slots Q g) D a sio cI cR cS m (am_mx k) A s.heap (pc) (lv) (st) (G) := by
  obtain ⟨hx, hb, hml, hown, hts, hK, hE, hA, hfr, hlo, hce, hsl, hap, hsio⟩ := C
  intro hL ls H locs hP hS hl
  exact lv_goto hx hb hd (Int.toNat_of_nonneg h0).symm (kk hL ls H locs hP hS hl)
theorem as_if_eq (C : am_C a sio X cI cR cS D k p R s m args c A cells slots) {t : Int} {x : Int32} (hd : decode (am_cc k) pc = .ok (.ifCond .eq t, 3)) (h0 : 0 ≤ (pc : Int) + t) (kt : x = 0 → am_Wt (fun H locs g => W p l e R s m args below meth c H locs cells slots Q g) D a sio cI cR cS m (am_mx k) A s.heap (((pc : Int) + t).toNat) (lv) (st) (G)) (kf : ¬ x = 0 → am_Wt (fun H locs g => W p l e R s m args below meth c H locs cells slots Q g) D a sio cI cR cS m (am_mx k) A s.heap (pc + 3) (lv) (st) (G)) : am_Wt (fun H locs g => W p l e R s m args below meth c H locs cells slots Q g) D a sio cI cR cS m (am_mx k) A s.heap (pc) (lv) (.int x :: st) (G) := by
  obtain ⟨hx, hb, hml, hown, hts, hK, hE, hA, hfr, hlo, hce, hsl, hap, hsio⟩ := C
  intro hL ls H locs hP hS hl
  exact lv_if_eq hx hb hd (Int.toNat_of_nonneg h0).symm (fun h => kt h hL ls H locs hP hS hl) (fun h => kf h hL ls H locs hP hS hl)
theorem as_icmp_eq (C : am_C a sio X cI cR cS D k p R s m args c A cells slots) {t : Int} {x y : Int32} (hd : decode (am_cc k) pc = .ok (.if_icmp .eq t, 3)) (h0 : 0 ≤ (pc : Int) + t) (kt : x = y → am_Wt (fun H locs g => W p l e R s m args below meth c H locs cells slots Q g) D a sio cI cR cS m (am_mx k) A s.heap (((pc : Int) + t).toNat) (lv) (st) (G)) (kf : ¬ x = y → am_Wt (fun H locs g => W p l e R s m args below meth c H locs cells slots Q g) D a sio cI cR cS m (am_mx k) A s.heap (pc + 3) (lv) (st) (G)) : am_Wt (fun H locs g => W p l e R s m args below meth c H locs cells slots Q g) D a sio cI cR cS m (am_mx k) A s.heap (pc) (lv) (.int y :: .int x :: st) (G) := by
  obtain ⟨hx, hb, hml, hown, hts, hK, hE, hA, hfr, hlo, hce, hsl, hap, hsio⟩ := C
  intro hL ls H locs hP hS hl
  exact lv_icmp_eq hx hb hd (Int.toNat_of_nonneg h0).symm (fun h => kt h hL ls H locs hP hS hl) (fun h => kf h hL ls H locs hP hS hl)
theorem as_if_ne (C : am_C a sio X cI cR cS D k p R s m args c A cells slots) {t : Int} {x : Int32} (hd : decode (am_cc k) pc = .ok (.ifCond .ne t, 3)) (h0 : 0 ≤ (pc : Int) + t) (kt : ¬ x = 0 → am_Wt (fun H locs g => W p l e R s m args below meth c H locs cells slots Q g) D a sio cI cR cS m (am_mx k) A s.heap (((pc : Int) + t).toNat) (lv) (st) (G)) (kf : x = 0 → am_Wt (fun H locs g => W p l e R s m args below meth c H locs cells slots Q g) D a sio cI cR cS m (am_mx k) A s.heap (pc + 3) (lv) (st) (G)) : am_Wt (fun H locs g => W p l e R s m args below meth c H locs cells slots Q g) D a sio cI cR cS m (am_mx k) A s.heap (pc) (lv) (.int x :: st) (G) := by
  obtain ⟨hx, hb, hml, hown, hts, hK, hE, hA, hfr, hlo, hce, hsl, hap, hsio⟩ := C
  intro hL ls H locs hP hS hl
  exact lv_if_ne hx hb hd (Int.toNat_of_nonneg h0).symm (fun h => kt h hL ls H locs hP hS hl) (fun h => kf h hL ls H locs hP hS hl)
theorem as_icmp_ne (C : am_C a sio X cI cR cS D k p R s m args c A cells slots) {t : Int} {x y : Int32} (hd : decode (am_cc k) pc = .ok (.if_icmp .ne t, 3)) (h0 : 0 ≤ (pc : Int) + t) (kt : ¬ x = y → am_Wt (fun H locs g => W p l e R s m args below meth c H locs cells slots Q g) D a sio cI cR cS m (am_mx k) A s.heap (((pc : Int) + t).toNat) (lv) (st) (G)) (kf : x = y → am_Wt (fun H locs g => W p l e R s m args below meth c H locs cells slots Q g) D a sio cI cR cS m (am_mx k) A s.heap (pc + 3) (lv) (st) (G)) : am_Wt (fun H locs g => W p l e R s m args below meth c H locs cells slots Q g) D a sio cI cR cS m (am_mx k) A s.heap (pc) (lv) (.int y :: .int x :: st) (G) := by
  obtain ⟨hx, hb, hml, hown, hts, hK, hE, hA, hfr, hlo, hce, hsl, hap, hsio⟩ := C
  intro hL ls H locs hP hS hl
  exact lv_icmp_ne hx hb hd (Int.toNat_of_nonneg h0).symm (fun h => kt h hL ls H locs hP hS hl) (fun h => kf h hL ls H locs hP hS hl)
theorem as_if_lt (C : am_C a sio X cI cR cS D k p R s m args c A cells slots) {t : Int} {x : Int32} (hd : decode (am_cc k) pc = .ok (.ifCond .lt t, 3)) (h0 : 0 ≤ (pc : Int) + t) (kt : x < 0 → am_Wt (fun H locs g => W p l e R s m args below meth c H locs cells slots Q g) D a sio cI cR cS m (am_mx k) A s.heap (((pc : Int) + t).toNat) (lv) (st) (G)) (kf : ¬ x < 0 → am_Wt (fun H locs g => W p l e R s m args below meth c H locs cells slots Q g) D a sio cI cR cS m (am_mx k) A s.heap (pc + 3) (lv) (st) (G)) : am_Wt (fun H locs g => W p l e R s m args below meth c H locs cells slots Q g) D a sio cI cR cS m (am_mx k) A s.heap (pc) (lv) (.int x :: st) (G) := by
  obtain ⟨hx, hb, hml, hown, hts, hK, hE, hA, hfr, hlo, hce, hsl, hap, hsio⟩ := C
  intro hL ls H locs hP hS hl
  exact lv_if_lt hx hb hd (Int.toNat_of_nonneg h0).symm (fun h => kt h hL ls H locs hP hS hl) (fun h => kf h hL ls H locs hP hS hl)
theorem as_icmp_lt (C : am_C a sio X cI cR cS D k p R s m args c A cells slots) {t : Int} {x y : Int32} (hd : decode (am_cc k) pc = .ok (.if_icmp .lt t, 3)) (h0 : 0 ≤ (pc : Int) + t) (kt : x < y → am_Wt (fun H locs g => W p l e R s m args below meth c H locs cells slots Q g) D a sio cI cR cS m (am_mx k) A s.heap (((pc : Int) + t).toNat) (lv) (st) (G)) (kf : ¬ x < y → am_Wt (fun H locs g => W p l e R s m args below meth c H locs cells slots Q g) D a sio cI cR cS m (am_mx k) A s.heap (pc + 3) (lv) (st) (G)) : am_Wt (fun H locs g => W p l e R s m args below meth c H locs cells slots Q g) D a sio cI cR cS m (am_mx k) A s.heap (pc) (lv) (.int y :: .int x :: st) (G) := by
  obtain ⟨hx, hb, hml, hown, hts, hK, hE, hA, hfr, hlo, hce, hsl, hap, hsio⟩ := C
  intro hL ls H locs hP hS hl
  exact lv_icmp_lt hx hb hd (Int.toNat_of_nonneg h0).symm (fun h => kt h hL ls H locs hP hS hl) (fun h => kf h hL ls H locs hP hS hl)
theorem as_if_ge (C : am_C a sio X cI cR cS D k p R s m args c A cells slots) {t : Int} {x : Int32} (hd : decode (am_cc k) pc = .ok (.ifCond .ge t, 3)) (h0 : 0 ≤ (pc : Int) + t) (kt : 0 ≤ x → am_Wt (fun H locs g => W p l e R s m args below meth c H locs cells slots Q g) D a sio cI cR cS m (am_mx k) A s.heap (((pc : Int) + t).toNat) (lv) (st) (G)) (kf : ¬ 0 ≤ x → am_Wt (fun H locs g => W p l e R s m args below meth c H locs cells slots Q g) D a sio cI cR cS m (am_mx k) A s.heap (pc + 3) (lv) (st) (G)) : am_Wt (fun H locs g => W p l e R s m args below meth c H locs cells slots Q g) D a sio cI cR cS m (am_mx k) A s.heap (pc) (lv) (.int x :: st) (G) := by
  obtain ⟨hx, hb, hml, hown, hts, hK, hE, hA, hfr, hlo, hce, hsl, hap, hsio⟩ := C
  intro hL ls H locs hP hS hl
  exact lv_if_ge hx hb hd (Int.toNat_of_nonneg h0).symm (fun h => kt h hL ls H locs hP hS hl) (fun h => kf h hL ls H locs hP hS hl)
theorem as_icmp_ge (C : am_C a sio X cI cR cS D k p R s m args c A cells slots) {t : Int} {x y : Int32} (hd : decode (am_cc k) pc = .ok (.if_icmp .ge t, 3)) (h0 : 0 ≤ (pc : Int) + t) (kt : y ≤ x → am_Wt (fun H locs g => W p l e R s m args below meth c H locs cells slots Q g) D a sio cI cR cS m (am_mx k) A s.heap (((pc : Int) + t).toNat) (lv) (st) (G)) (kf : ¬ y ≤ x → am_Wt (fun H locs g => W p l e R s m args below meth c H locs cells slots Q g) D a sio cI cR cS m (am_mx k) A s.heap (pc + 3) (lv) (st) (G)) : am_Wt (fun H locs g => W p l e R s m args below meth c H locs cells slots Q g) D a sio cI cR cS m (am_mx k) A s.heap (pc) (lv) (.int y :: .int x :: st) (G) := by
  obtain ⟨hx, hb, hml, hown, hts, hK, hE, hA, hfr, hlo, hce, hsl, hap, hsio⟩ := C
  intro hL ls H locs hP hS hl
  exact lv_icmp_ge hx hb hd (Int.toNat_of_nonneg h0).symm (fun h => kt h hL ls H locs hP hS hl) (fun h => kf h hL ls H locs hP hS hl)
theorem as_if_gt (C : am_C a sio X cI cR cS D k p R s m args c A cells slots) {t : Int} {x : Int32} (hd : decode (am_cc k) pc = .ok (.ifCond .gt t, 3)) (h0 : 0 ≤ (pc : Int) + t) (kt : 0 < x → am_Wt (fun H locs g => W p l e R s m args below meth c H locs cells slots Q g) D a sio cI cR cS m (am_mx k) A s.heap (((pc : Int) + t).toNat) (lv) (st) (G)) (kf : ¬ 0 < x → am_Wt (fun H locs g => W p l e R s m args below meth c H locs cells slots Q g) D a sio cI cR cS m (am_mx k) A s.heap (pc + 3) (lv) (st) (G)) : am_Wt (fun H locs g => W p l e R s m args below meth c H locs cells slots Q g) D a sio cI cR cS m (am_mx k) A s.heap (pc) (lv) (.int x :: st) (G) := by
  obtain ⟨hx, hb, hml, hown, hts, hK, hE, hA, hfr, hlo, hce, hsl, hap, hsio⟩ := C
  intro hL ls H locs hP hS hl
  exact lv_if_gt hx hb hd (Int.toNat_of_nonneg h0).symm (fun h => kt h hL ls H locs hP hS hl) (fun h => kf h hL ls H locs hP hS hl)
theorem as_icmp_gt (C : am_C a sio X cI cR cS D k p R s m args c A cells slots) {t : Int} {x y : Int32} (hd : decode (am_cc k) pc = .ok (.if_icmp .gt t, 3)) (h0 : 0 ≤ (pc : Int) + t) (kt : y < x → am_Wt (fun H locs g => W p l e R s m args below meth c H locs cells slots Q g) D a sio cI cR cS m (am_mx k) A s.heap (((pc : Int) + t).toNat) (lv) (st) (G)) (kf : ¬ y < x → am_Wt (fun H locs g => W p l e R s m args below meth c H locs cells slots Q g) D a sio cI cR cS m (am_mx k) A s.heap (pc + 3) (lv) (st) (G)) : am_Wt (fun H locs g => W p l e R s m args below meth c H locs cells slots Q g) D a sio cI cR cS m (am_mx k) A s.heap (pc) (lv) (.int y :: .int x :: st) (G) := by
  obtain ⟨hx, hb, hml, hown, hts, hK, hE, hA, hfr, hlo, hce, hsl, hap, hsio⟩ := C
  intro hL ls H locs hP hS hl
  exact lv_icmp_gt hx hb hd (Int.toNat_of_nonneg h0).symm (fun h => kt h hL ls H locs hP hS hl) (fun h => kf h hL ls H locs hP hS hl)
theorem as_if_le (C : am_C a sio X cI cR cS D k p R s m args c A cells slots) {t : Int} {x : Int32} (hd : decode (am_cc k) pc = .ok (.ifCond .le t, 3)) (h0 : 0 ≤ (pc : Int) + t) (kt : x ≤ 0 → am_Wt (fun H locs g => W p l e R s m args below meth c H locs cells slots Q g) D a sio cI cR cS m (am_mx k) A s.heap (((pc : Int) + t).toNat) (lv) (st) (G)) (kf : ¬ x ≤ 0 → am_Wt (fun H locs g => W p l e R s m args below meth c H locs cells slots Q g) D a sio cI cR cS m (am_mx k) A s.heap (pc + 3) (lv) (st) (G)) : am_Wt (fun H locs g => W p l e R s m args below meth c H locs cells slots Q g) D a sio cI cR cS m (am_mx k) A s.heap (pc) (lv) (.int x :: st) (G) := by
  obtain ⟨hx, hb, hml, hown, hts, hK, hE, hA, hfr, hlo, hce, hsl, hap, hsio⟩ := C
  intro hL ls H locs hP hS hl
  exact lv_if_le hx hb hd (Int.toNat_of_nonneg h0).symm (fun h => kt h hL ls H locs hP hS hl) (fun h => kf h hL ls H locs hP hS hl)
theorem as_icmp_le (C : am_C a sio X cI cR cS D k p R s m args c A cells slots) {t : Int} {x y : Int32} (hd : decode (am_cc k) pc = .ok (.if_icmp .le t, 3)) (h0 : 0 ≤ (pc : Int) + t) (kt : x ≤ y → am_Wt (fun H locs g => W p l e R s m args below meth c H locs cells slots Q g) D a sio cI cR cS m (am_mx k) A s.heap (((pc : Int) + t).toNat) (lv) (st) (G)) (kf : ¬ x ≤ y → am_Wt (fun H locs g => W p l e R s m args below meth c H locs cells slots Q g) D a sio cI cR cS m (am_mx k) A s.heap (pc + 3) (lv) (st) (G)) : am_Wt (fun H locs g => W p l e R s m args below meth c H locs cells slots Q g) D a sio cI cR cS m (am_mx k) A s.heap (pc) (lv) (.int y :: .int x :: st) (G) := by
  obtain ⟨hx, hb, hml, hown, hts, hK, hE, hA, hfr, hlo, hce, hsl, hap, hsio⟩ := C
  intro hL ls H locs hP hS hl
  exact lv_icmp_le hx hb hd (Int.toNat_of_nonneg h0).symm (fun h => kt h hL ls H locs hP hS hl) (fun h => kf h hL ls H locs hP hS hl)
theorem as_switch (C : am_C a sio X cI cR cS D k p R s m args c A cells slots) {d lo hi : Int} {offs : Array Int} {n : Nat} {x : Int32} (hd : decode (am_cc k) pc = .ok (.tableswitch d lo hi offs, n)) (h0 : 0 ≤ am_sw ((pc : Int) + d) lo hi (offs.map fun t => (pc : Int) + t) x) (hsz : ¬ (x.toInt < lo ∨ hi < x.toInt) → (x.toInt - lo).toNat < offs.size) (kk : am_Wt (fun H locs g => W p l e R s m args below meth c H locs cells slots Q g) D a sio cI cR cS m (am_mx k) A s.heap ((am_sw ((pc : Int) + d) lo hi (offs.map fun t => (pc : Int) + t) x).toNat) (lv) (st) (G)) : am_Wt (fun H locs g => W p l e R s m args below meth c H locs cells slots Q g) D a sio cI cR cS m (am_mx k) A s.heap (pc) (lv) (.int x :: st) (G) := by
  obtain ⟨hx, hb, hml, hown, hts, hK, hE, hA, hfr, hlo, hce, hsl, hap, hsio⟩ := C
  intro hL ls H locs hP hS hl
  have kk := kk hL ls H locs hP hS hl
  by_cases h : x.toInt < lo ∨ hi < x.toInt
  · have e : am_sw ((pc : Int) + d) lo hi (offs.map fun t => (pc : Int) + t) x = (pc : Int) + d := if_pos h
    rw [e] at kk h0
    exact lv_tableOut hx hb hd h (Int.toNat_of_nonneg h0).symm kk
  · have hlt := hsz h
    have e : am_sw ((pc : Int) + d) lo hi (offs.map fun t => (pc : Int) + t) x = (pc : Int) + offs[(x.toInt - lo).toNat] := by
      unfold am_sw
      rw [if_neg h, List.getD_eq_getElem?_getD]
      simp [hlt]
    rw [e] at kk h0
    exact lv_tableIn hx hb hd (fun q => h (Or.inl q)) (fun q => h (Or.inr q)) (Array.getElem?_eq_getElem hlt) (Int.toNat_of_nonneg h0).symm kk
end ASR
