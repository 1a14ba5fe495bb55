/-! ===== a small machine of my own: values are numbers and places of objects, a world of fixed shape; what it runs, the machine runs (part 34) ===== -/
abbrev GG : Type := Nat → Nat → Int32
abbrev LV : Type := List (Option Value)
abbrev AmX : Type := Nat × (Nat → Int32)
abbrev AmR : Type := Option ((List Instr × LV × List Value × GG) ⊕ ((Option Value × GG) ⊕ (Nat × List Value × LV × List Value)))
def gset (G : GG) (k : Nat) (f : Nat → Int32) : GG := fun j => if j = k then f else G j
def am_sh (k : Nat) : List Nat := am_shl.getD k []
noncomputable def am_blk (k b : Nat) : List Instr := ((am_tL.getD k []).lookup b).getD []
def am_mx (k : Nat) : Nat := am_mxL.getD k 0
def am_own (k : Nat) : Nat := am_ownL.getD k 99
def am_stat (k : Nat) : Bool := am_statL.getD k false
def am_ci (n : Int) : Int32 := Int32.ofInt n
def am_ent (m : Nat) (args : List Value) : LV := args.map some ++ List.replicate (am_mx m - args.length) none
def am_clsof (o : Nat) : Nat := match am_sh o with
  | 1 :: ci :: _ => ci
  | _ => if 100 ≤ o ∧ o < 111 then 6 else 99
/-- fields -/
def am_gf (G : GG) (k f : Nat) : Option Value :=
  if f = 1000 then (if 100 ≤ k ∧ k < 111 then some (.ref (k + 100)) else none)
  else if f = 1001 then (if 100 ≤ k ∧ k < 111 then some (.int (nI 0)) else none)
  else match am_sh k with
    | 1 :: ci :: fs => if ci = f / 32 then (match fs[f % 32]? with
      | some 0 => some (.int (G k (f % 32)))
      | some (j + 1) => some (.ref j)
      | none => none) else none
    | _ => none
def am_isz (f : Nat) : Bool := f == 134 || f == 163 || f == 174
def am_pf (G : GG) (k f : Nat) (x : Int32) : Option GG := match am_sh k with
  | 1 :: ci :: fs => if ci = f / 32 ∧ fs[f % 32]? = some 0 then (if am_isz f = true → x = nI 0 ∨ x = nI 1 then some (gset G k (upd (G k) (f % 32) x)) else none) else none
  | _ => none
/-- arrays -/
def am_ald (X : AmX) (G : GG) (k : Nat) (i : Int32) : Option Int32 := match am_sh k with
  | [0, n] => if i < 0 ∨ n ≤ i.toNatClampNeg then none else some (G k i.toNatClampNeg)
  | _ => if k = 300 then (if i < 0 ∨ 7 ≤ i.toNatClampNeg then none else some (tt_above i.toNatClampNeg))
    else if k = 400 then (if i < 0 ∨ X.1 ≤ i.toNatClampNeg then none else some (X.2 i.toNatClampNeg)) else none
def am_ast (G : GG) (k : Nat) (i x : Int32) : Option GG := match am_sh k with
  | [0, n] => if i < 0 ∨ n ≤ i.toNatClampNeg then none else some (gset G k (upd (G k) i.toNatClampNeg x))
  | _ => none
def am_bld (k : Nat) (i : Int32) : Option Int32 := if 200 ≤ k ∧ k < 211 then (if i < 0 ∨ tt_len.getD (k - 200) 0 ≤ i.toNatClampNeg then none else some ((tt_byt.getD (k - 200) []).getD i.toNatClampNeg 0)) else none
def am_qld (k : Nat) (i : Int32) : Option Nat := match am_sh k with
  | 2 :: _ :: rs => if i < 0 then none else rs[i.toNatClampNeg]?
  | _ => none
def am_len (X : AmX) (k : Nat) : Option Nat := match am_sh k with
  | [0, n] => some n
  | 2 :: _ :: rs => some rs.length
  | _ => if k = 400 then some X.1 else if 200 ≤ k ∧ k < 211 then some (tt_len.getD (k - 200) 0) else none
def am_cpy (G : GG) (o1 : Nat) (sp : Int32) (o2 : Nat) (dp n : Int32) : Option GG := match am_sh o1, am_sh o2 with
  | [0, n1], [0, n2] => if ¬ sp < 0 ∧ ¬ dp < 0 ∧ ¬ n < 0 ∧ sp.toNatClampNeg + n.toNatClampNeg ≤ n1 ∧ dp.toNatClampNeg + n.toNatClampNeg ≤ n2 then some (gset G o2 (va_cpy (G o1) (G o2) sp.toNatClampNeg dp.toNatClampNeg n.toNatClampNeg)) else none
  | _, _ => none
/-- comparisons, switches -/
def am_cmp (c : Jvm.ClassFile.Cond) (x y : Int32) : Prop := match c with
  | .eq => x = y
  | .ne => ¬ x = y
  | .lt => x < y
  | .ge => y ≤ x
  | .gt => y < x
  | .le => x ≤ y
def am_cmpB (c : Jvm.ClassFile.Cond) (x y : Int32) : Bool := match c with
  | .eq => decide (x = y)
  | .ne => decide (¬ x = y)
  | .lt => decide (x < y)
  | .ge => decide (y ≤ x)
  | .gt => decide (y < x)
  | .le => decide (x ≤ y)
def am_sw (d lo hi : Int) (offs : Array Int) (x : Int32) : Int := if x.toInt < lo ∨ hi < x.toInt then d else offs.toList.getD (x.toInt - lo).toNat d
/-- one instruction -/
def am_push (r : List Instr) (lv : LV) (st : List Value) (G : GG) (v : Value) : AmR := some (.inl (r, lv, v :: st, G))
def am_nl (a : Option Value) : Bool := match a with
  | some v => v.category == 1
  | none => true
def am_ok1 (lv : LV) : Nat → Bool
  | 0 => decide (0 < lv.length)
  | j + 1 => decide (j + 1 < lv.length) && (match lv[j]? with
    | some a => am_nl a
    | none => false)
def am_ok2 (lv : LV) (j : Nat) : Bool := decide (j + 1 < lv.length) && am_ok1 lv j
def am_bin (f : Int32 → Int32 → Int32) (r : List Instr) (lv : LV) (st : List Value) (G : GG) : AmR := match st with
  | .int y :: .int x :: s => am_push r lv s G (.int (f x y))
  | _ => none
def am_binZ (f : Int32 → Int32 → Int32) (r : List Instr) (lv : LV) (st : List Value) (G : GG) : AmR := match st with
  | .int y :: .int x :: s => if y = nI 0 then none else am_push r lv s G (.int (f x y))
  | _ => none
def am_binL (f : Int64 → Int64 → Int64) (r : List Instr) (lv : LV) (st : List Value) (G : GG) : AmR := match st with
  | .long y :: .long x :: s => am_push r lv s G (.long (f x y))
  | _ => none
def am_un (f : Int32 → Int32) (r : List Instr) (lv : LV) (st : List Value) (G : GG) : AmR := match st with
  | .int x :: s => am_push r lv s G (.int (f x))
  | _ => none
def am_c1 (v : Value) : Bool := match v with
  | .int _ => true
  | .ref _ => true
  | _ => false
def am_rcv (m : Nat) (args : List Value) : Bool := args.all am_c1 && (am_stat m || match args with
  | .ref o :: _ => am_clsof o == am_own m
  | _ => false)
def am_opt {α : Type} (o : Option α) (f : α → AmR) : AmR := match o with
  | some x => f x
  | none => none
noncomputable def am_st (X : AmX) (k : Nat) (i : Instr) (r : List Instr) (lv : LV) (st : List Value) (G : GG) : AmR :=
  match i with
  | .ldc n => am_push r lv st G (.int (nI n))
  | .sipush n => am_push r lv st G (.int (am_ci n))
  | .ldc_w j => am_push r lv st G (.ref (100 + j))
  | .lconst n => am_push r lv st G (.long (Int64.ofNat n.val))
  | .iload j => (match lv[j]? with
    | some (some (.int x)) => am_push r lv st G (.int x)
    | _ => none)
  | .aload j => (match lv[j]? with
    | some (some (.ref x)) => if x < 500 then am_push r lv st G (.ref x) else none
    | _ => none)
  | .lload j => (match lv[j]? with
    | some (some (.long x)) => am_push r lv st G (.long x)
    | _ => none)
  | .istore j => (match st with
    | .int x :: s => if am_ok1 lv j = true then some (.inl (r, lv.set j (some (.int x)), s, G)) else none
    | _ => none)
  | .astore j => (match st with
    | .ref x :: s => if am_ok1 lv j = true ∧ x < 500 then some (.inl (r, lv.set j (some (.ref x)), s, G)) else none
    | _ => none)
  | .lstore j => (match st with
    | .long x :: s => if am_ok2 lv j = true then some (.inl (r, (lv.set j (some (.long x))).set (j + 1) none, s, G)) else none
    | _ => none)
  | .iinc j n => (match lv[j]? with
    | some (some (.int x)) => if am_ok1 lv j = true then some (.inl (r, lv.set j (some (.int (x + am_ci n))), st, G)) else none
    | _ => none)
  | .iadd => am_bin (fun x y => x + y) r lv st G
  | .isub => am_bin (fun x y => x - y) r lv st G
  | .imul => am_bin (fun x y => x * y) r lv st G
  | .iand => am_bin (fun x y => x &&& y) r lv st G
  | .ior => am_bin (fun x y => x ||| y) r lv st G
  | .ixor => am_bin (fun x y => x ^^^ y) r lv st G
  | .ishl => am_bin (fun x y => x <<< (y &&& 31)) r lv st G
  | .ishr => am_bin (fun x y => x >>> (y &&& 31)) r lv st G
  | .iushr => am_bin (fun x y => (x.toUInt32 >>> (y.toUInt32 &&& Int32.toUInt32 31)).toInt32) r lv st G
  | .idiv => am_binZ (fun x y => x / y) r lv st G
  | .irem => am_binZ (fun x y => x - x / y * y) r lv st G
  | .ineg => am_un (fun x => -x) r lv st G
  | .i2b => am_un (fun x => x.toInt8.toInt32) r lv st G
  | .i2s => am_un (fun x => x.toInt16.toInt32) r lv st G
  | .i2c => am_un (fun x => (x.toUInt32 % 65536).toInt32) r lv st G
  | .i2l => (match st with
    | .int x :: s => am_push r lv s G (.long x.toInt64)
    | _ => none)
  | .ladd => am_binL (fun x y => x + y) r lv st G
  | .lmul => am_binL (fun x y => x * y) r lv st G
  | .lcmp => (match st with
    | .long y :: .long x :: s => am_push r lv s G (.int (lg_cmp x y))
    | _ => none)
  | .dup => (match st with
    | v :: s => if am_c1 v = true then some (.inl (r, lv, v :: v :: s, G)) else none
    | _ => none)
  | .dup2 => (match st with
    | v :: w :: s => if am_c1 v = true ∧ am_c1 w = true then some (.inl (r, lv, v :: w :: v :: w :: s, G)) else none
    | _ => none)
  | .pop => (match st with
    | v :: s => if am_c1 v = true then some (.inl (r, lv, s, G)) else none
    | _ => none)
  | .getfield f => (match st with
    | .ref o :: s => am_opt (am_gf G o f) fun v => am_push r lv s G v
    | _ => none)
  | .putfield f => (match st with
    | .int x :: .ref o :: s => am_opt (am_pf G o f x) fun G' => some (.inl (r, lv, s, G'))
    | _ => none)
  | .getstatic j => am_push r lv st G (if j = 0 then .ref 300 else if j = 1 then .int (nI 1) else .ref 500)
  | .iaload => (match st with
    | .int i :: .ref o :: s => am_opt (am_ald X G o i) fun x => am_push r lv s G (.int x)
    | _ => none)
  | .baload => (match st with
    | .int i :: .ref o :: s => am_opt (am_bld o i) fun x => am_push r lv s G (.int x)
    | _ => none)
  | .aaload => (match st with
    | .int i :: .ref o :: s => am_opt (am_qld o i) fun x => am_push r lv s G (.ref x)
    | _ => none)
  | .iastore => (match st with
    | .int x :: .int i :: .ref o :: s => am_opt (am_ast G o i x) fun G' => some (.inl (r, lv, s, G'))
    | _ => none)
  | .arraylength => (match st with
    | .ref o :: s => am_opt (am_len X o) fun n => am_push r lv s G (.int (nI n))
    | _ => none)
  | .goto t => some (.inl (am_blk k t.toNat, lv, st, G))
  | .goto_w t => some (.inl (am_blk k t.toNat, lv, st, G))
  | .ifCond c t => (match st with
    | .int x :: s => some (.inl (if am_cmpB c x (nI 0) = true then am_blk k t.toNat else r, lv, s, G))
    | _ => none)
  | .if_icmp c t => (match st with
    | .int y :: .int x :: s => some (.inl (if am_cmpB c x y = true then am_blk k t.toNat else r, lv, s, G))
    | _ => none)
  | .tableswitch d lo hi offs => (match st with
    | .int x :: s => some (.inl (am_blk k (am_sw d lo hi offs x).toNat, lv, s, G))
    | _ => none)
  | .ret t => (match st with
    | [.int v] => if t = 0 ∨ (t = 1 ∧ (v = nI 0 ∨ v = nI 1)) ∨ (t = 2 ∧ v.toInt8.toInt32 = v) ∨ (t = 3 ∧ (v.toUInt32 % 65536).toInt32 = v) then some (.inr (.inl (some (.int v), G))) else none
    | [.long v] => if t = 4 then some (.inr (.inl (some (.long v), G))) else none
    | [.ref v] => if t = 5 ∧ v < 500 then some (.inr (.inl (some (.ref v), G))) else none
    | _ => none)
  | .return_ => (match st with
    | [] => some (.inr (.inl (none, G)))
    | _ => none)
  | .invokeinterface m c => if m = 999 then (match st with
      | .int n :: .int dp :: .ref o2 :: .int sp :: .ref o1 :: s => if s.length ≤ 4 then am_opt (am_cpy G o1 sp o2 dp n) fun G' => some (.inl (r, lv, s, G')) else none
      | _ => none)
    else if m = 996 then (match st with
      | .int y :: .int x :: s => if s.length ≤ 4 then am_push r lv s G (.int (if y < x then y else x)) else none
      | _ => none)
    else if m = 997 then (match st with
      | .int y :: .int x :: s => if s.length ≤ 4 then am_push r lv s G (.int (if x < y then y else x)) else none
      | _ => none)
    else if m = 998 then (match st with
      | .int x :: s => if s.length ≤ 4 then am_push r lv s G (.int (if nI 0 ≤ x then x else nI 0 - x)) else none
      | _ => none)
    else if c ≤ st.length ∧ (st.drop c).length ≤ 4 ∧ am_rcv m (st.take c).reverse = true then some (.inr (.inr (m, (st.take c).reverse, lv, st.drop c))) else none
  | _ => none
noncomputable def am_run (X : AmX) : Nat → Nat → List Instr → LV → List Value → GG → Option (Option Value × GG)
  | 0, _, _, _, _, _ => none
  | _ + 1, _, [], _, _, _ => none
  | n + 1, k, i :: r, lv, st, G => match am_st X k i r lv st G with
    | none => none
    | some (.inl (ops, lv', st', G')) => am_run X n k ops lv' st' G'
    | some (.inr (.inl z)) => some z
    | some (.inr (.inr (m, args, lv', st'))) => match am_run X n m (am_blk m 0) (am_ent m args) [] G with
      | none => none
      | some (v, G') => am_run X n k r lv' (v.toList ++ st') G'
theorem am_cmpB_iff (c : Jvm.ClassFile.Cond) (x y : Int32) : am_cmpB c x y = true ↔ am_cmp c x y := by
  cases c <;> simp [am_cmpB, am_cmp]
