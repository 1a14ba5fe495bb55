/-! ===== the state that the constructors leave ===== -/
def ic_now : Nat → Int32 := (upd (upd (upd (upd (upd (upd (upd (upd (upd (upd (upd (upd (upd (upd (upd (upd (upd (upd (upd (fun _ => 0) 2 (nI 1)) 13 (nI 10)) 14 (nI 10)) 15 (nI 10)) 16 (nI 10)) 17 (nI 10)) 18 (nI 10)) 19 (nI 10)) 20 (nI 10)) 3 ((-1))) 4 ((-1))) 5 ((-1))) 6 ((-1))) 7 ((-1))) 8 ((-1))) 9 ((-1))) 10 ((-1))) 11 ((-1))) 12 ((-1)))
def ic_G : GG := fun o =>
  if o = 2 ∨ o = 13 ∨ o = 24 ∨ o = 35 then fun j => if j < 8 then nI 10 else 0
  else if o = 8 ∨ o = 19 ∨ o = 30 ∨ o = 41 then fun j => if j < 10 then (-1) else 0
  else if o = 1 ∨ o = 12 ∨ o = 23 ∨ o = 34 then fun j => if j = 9 then nI 1 else 0
  else if o = 58 then fun j => if j = 7 then (-1) else 0
  else if o = 59 then ic_now
  else fun _ => 0
def ic_T : TT := fun c _ => if c = 0 then 10 else 8
def ic_S : SS := ((0, ic_T, 0, nI 1), (false, (0, ic_T, 0, nI 1)), (fun _ => 0), (fun _ => 0, fun _ => 0, fun _ _ => 0), (0, fun _ => 0))
theorem ic_now3 : ∀ s, s < 10 → ic_now (3 + s) = eP 8 := by decide +kernel
theorem ic_now13 : ∀ p, p < 8 → ic_now (13 + p) = nI 10 := by decide +kernel
theorem ic_tv : TWV (0, ic_T, 0, nI 1) := ⟨⟨by decide, fun p _ => by show 10 ≤ 9999; decide, fun i hi => absurd hi (Nat.not_lt_zero i), fun s _ => Or.inl rfl⟩, fun i hi => absurd hi (Nat.not_lt_zero i), by decide⟩
theorem ic_cst : CSt ic_S ic_G := by
  refine ⟨⟨rfl, rfl, rfl, fun p hp => ?_, fun i hi => absurd hi (Nat.not_lt_zero i), fun i hi => absurd hi (Nat.not_lt_zero i), fun i hi => absurd hi (Nat.not_lt_zero i), fun i hi => absurd hi (Nat.not_lt_zero i), fun i hi => absurd hi (Nat.not_lt_zero i), fun s hs => ?_⟩, ic_tv, ⟨rfl, fun h => by cases h⟩, fun f _ => rfl, fun s hs => ?_, rfl, by decide, fun i hi => absurd hi (Nat.not_lt_zero i)⟩
  · show (if p < 8 then nI 10 else 0) = nI 10
    rw [if_pos hp]
  · show (if s < 10 then (-1) else 0) = eP 8
    rw [if_pos hs]
    rfl
  · rcases (by omega : s = 0 ∨ s = 1 ∨ s = 2 ∨ s = 3) with rfl | rfl | rfl | rfl <;> exact ⟨rfl, rfl, fun i _ => rfl, Or.inl rfl, by decide⟩
theorem ic_mst : MSt ic_S ic_G := by
  refine ⟨⟨by decide +kernel, by decide +kernel, by decide +kernel, fun s hs => ic_now3 s hs, fun p hp => ic_now13 p hp, fun i hi => absurd hi (Nat.not_lt_zero i), fun i hi => absurd hi (Nat.not_lt_zero i), fun i hi => absurd hi (Nat.not_lt_zero i), fun i hi => absurd hi (Nat.not_lt_zero i), fun i hi => absurd hi (Nat.not_lt_zero i)⟩, rfl, ⟨rfl, fun h => by cases h⟩, ⟨by decide +kernel, fun f _ => rfl⟩, fun s _ => ⟨rfl, rfl, fun i _ => rfl⟩, rfl, fun i hi => absurd hi (Nat.not_lt_zero i)⟩
