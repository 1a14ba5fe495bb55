def bN (v : Int32) (i : Nat) : Nat := aN (byI v i)
theorem byI_N (v : Int32) (i : Nat) : byI v i = nI (bN v i) ∧ bN v i < 256 := by
  obtain ⟨j, hj, e⟩ := and255 ((v.toUInt32 >>> ((nI (8 * i)).toUInt32 &&& Int32.toUInt32 31)).toInt32)
  unfold bN
  have e : byI v i = nI j := e
  rw [e, aN_nI (by omega)]
  exact ⟨rfl, hj⟩
def fedS (S : SS) (v : Int32) (n e : Nat) : SS := (S.1, S.2.1, S.2.2.1, S.2.2.2.1, (S.2.2.2.2.1 + e, fun j => if S.2.2.2.2.1 ≤ j ∧ j < S.2.2.2.2.1 + e then bN v (n - 1 - (j - S.2.2.2.2.1)) else S.2.2.2.2.2 j))
def sp_feed (S : SS) (a1 a2 : Int32) : Int32 × SS := if inR a2 (nI 1) (nI 4) = true then (if 120 < S.2.2.2.2.1 + aN a2 then sFnd S 1 else (nI (S.2.2.2.2.1 + aN a2), fedS S a1 (aN a2) (aN a2))) else sFnd S 0
theorem fed_0 (S : SS) (v : Int32) (n : Nat) : fedS S v n 0 = S := by
  unfold fedS
  have : (fun j => if S.2.2.2.2.1 ≤ j ∧ j < S.2.2.2.2.1 + 0 then bN v (n - 1 - (j - S.2.2.2.2.1)) else S.2.2.2.2.2 j) = S.2.2.2.2.2 := by
    funext j
    exact if_neg (by omega)
  rw [this]
  rfl
theorem mI_dec {d : Nat} (hd : d < 8) : nI d + nM = mI d ∧ nI d - nI 1 = mI d := by
  have h : ∀ d, d < 8 → nI d + nM = mI d ∧ nI d - nI 1 = mI d := by decide +kernel
  exact h d hd
theorem CSt_fed {S : SS} {G : GG} {v : Int32} {n e : Nat} (h : CSt (fedS S v n e) G) (hn : S.2.2.2.2.1 + n ≤ 120) (he : e < n) : CSt (fedS S v n (e + 1)) (gset (gset G 47 (upd (G 47) (S.2.2.2.2.1 + e) (nI (bN v (n - 1 - e))))) 46 (upd (G 46) 1 (nI (S.2.2.2.2.1 + e + 1)))) := by
  obtain ⟨k1, k2, k3, k4, k5, k6⟩ := h
  have hg : ∀ o, o ≠ 46 → o ≠ 47 → gset (gset G 47 (upd (G 47) (S.2.2.2.2.1 + e) (nI (bN v (n - 1 - e))))) 46 (upd (G 46) 1 (nI (S.2.2.2.2.1 + e + 1))) o = G o := fun o h1 h2 => by rw [gset_ne h1, gset_ne h2]
  refine ⟨TE_congr k1 (fun o a b => hg o (by omega) (by omega)), k2, ⟨by rw [hg 0 (by omega) (by omega)]; exact k3.1, fun hk => ⟨TE_congr (k3.2 hk).1 (fun o a b => hg o (by omega) (by omega)), (k3.2 hk).2⟩⟩, fun g hgg => by rw [hg 57 (by omega) (by omega)]; exact k4 g hgg, fun s hs => ?_, ?_⟩
  · rw [hg _ (by omega) (by omega), hg _ (by omega) (by omega)]; exact k5 s hs
  · obtain ⟨t1, t2, t3⟩ := k6
    have t2 : S.2.2.2.2.1 + e ≤ 120 := t2
    refine ⟨by rw [gset_eq, upd_eq]; rfl, (by omega : S.2.2.2.2.1 + (e + 1) ≤ 120), fun i hi => ?_⟩
    have hi : i < S.2.2.2.2.1 + (e + 1) := hi
    rw [gset_ne (by omega), gset_eq]
    by_cases hie : i = S.2.2.2.2.1 + e
    · have e1 : (fedS S v n (e + 1)).2.2.2.2.2 i = bN v (n - 1 - e) := by
        show (if S.2.2.2.2.1 ≤ i ∧ i < S.2.2.2.2.1 + (e + 1) then bN v (n - 1 - (i - S.2.2.2.2.1)) else S.2.2.2.2.2 i) = _
        rw [if_pos (by omega), show i - S.2.2.2.2.1 = e by omega]
      rw [e1, hie, upd_eq]
      exact ⟨rfl, (byI_N v _).2⟩
    · have e1 : (fedS S v n (e + 1)).2.2.2.2.2 i = (fedS S v n e).2.2.2.2.2 i := by
        show (if S.2.2.2.2.1 ≤ i ∧ i < S.2.2.2.2.1 + (e + 1) then bN v (n - 1 - (i - S.2.2.2.2.1)) else S.2.2.2.2.2 i) = (if S.2.2.2.2.1 ≤ i ∧ i < S.2.2.2.2.1 + e then bN v (n - 1 - (i - S.2.2.2.2.1)) else S.2.2.2.2.2 i)
        by_cases hc : S.2.2.2.2.1 ≤ i
        · rw [if_pos (by omega), if_pos (by omega)]
        · rw [if_neg (by omega), if_neg (by omega)]
      rw [e1, upd_ne hie]
      exact t3 i (show i < S.2.2.2.2.1 + e by omega)
