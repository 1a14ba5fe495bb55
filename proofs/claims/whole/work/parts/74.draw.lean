/-! ===== the class: draws ===== -/
def drN (y : Int32) : Nat := y.toUInt32.toNat / 256
theorem drN_lt (y : Int32) : drN y < 2 ^ 24 := by
  unfold drN
  have := y.toUInt32.toNat_lt
  omega
theorem drI_N (y : Int32) : (y.toUInt32 >>> ((nI 8).toUInt32 &&& Int32.toUInt32 31)).toInt32 = nI (drN y) := by
  have e : ((nI 8).toUInt32 &&& Int32.toUInt32 31) = 8 := by decide
  rw [e]
  have h1 : (y.toUInt32 >>> 8).toNat = drN y := by
    rw [UInt32.toNat_shiftRight]
    show y.toUInt32.toNat >>> (8 % 32) = _
    rw [Nat.shiftRight_eq_div_pow]
    rfl
  have h2 := drN_lt y
  apply Int32.toBitVec_inj.mp
  apply BitVec.eq_of_toNat_eq
  show (y.toUInt32 >>> 8).toNat = (BitVec.ofNat 32 (drN y)).toNat
  rw [h1, BitVec.toNat_ofNat]
  omega
def nzI (z : Int32) : Int32 := z * nI 1103515245 + nI 12345
/-- one Tuesday of weather: prizes and z -/
def wthT (T : TT) (z : Int32) : TT := updT T 0 (drN (nzI z) % 8) (drN (nzI (nzI z)) % 100)
def wthR (n : Nat) : Nat → TT × Int32 → TT × Int32
  | 0, p => p
  | k + 1, p => let q := wthR n k p; (stepN n (wthT q.1 q.2), nzI (nzI q.2))
