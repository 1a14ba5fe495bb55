/-! ===== the whole state, and how the class holds it ===== -/
abbrev TW : Type := Nat × TT × Nat × Int32
abbrev SS : Type := TW × (Bool × TW) × (Nat → Int32) × ((Nat → Nat) × (Nat → Nat) × (Nat → Nat → Int32)) × (Nat × (Nat → Nat))
def TWE (G : GG) (b : Nat) (w : TW) : Prop := TE G b w.1 w.2.1 w.2.2.1 w.2.2.2
def TWV (w : TW) : Prop := TV w.1 w.2.1 ∧ (∀ i, i < w.1 → w.2.1 2 i < 8) ∧ w.2.2.1 ≤ 99999
def CSh (G : GG) (S : SS) : Prop := ∀ s, s < 4 → G (49 + 2 * s) 1 = nI (S.2.2.2.1.1 s) ∧ G (49 + 2 * s) 2 = nI (S.2.2.2.1.2.1 s) ∧ (∀ i, i < 40 → G (50 + 2 * s) i = S.2.2.2.1.2.2 s i) ∧ (S.2.2.2.1.1 s = 0 ∨ S.2.2.2.1.1 s = 8 ∨ S.2.2.2.1.1 s = 16 ∨ S.2.2.2.1.1 s = 32) ∧ S.2.2.2.1.2.1 s ≤ 40
def CTp (G : GG) (S : SS) : Prop := G 46 1 = nI S.2.2.2.2.1 ∧ S.2.2.2.2.1 ≤ 120 ∧ ∀ i, i < S.2.2.2.2.1 → G 47 i = nI (S.2.2.2.2.2 i) ∧ S.2.2.2.2.2 i < 256
def CSt (S : SS) (G : GG) : Prop := TWE G 1 S.1 ∧ TWV S.1 ∧ (G 0 6 = bI S.2.1.1 ∧ (S.2.1.1 = true → TWE G 12 S.2.1.2 ∧ TWV S.2.1.2)) ∧ (∀ f, f < 7 → G 57 f = S.2.2.1 f) ∧ CSh G S ∧ CTp G S
/-- what the class's state hangs on -/
def cdep (o : Nat) : Prop := o = 0 ∨ (1 ≤ o ∧ o ≤ 8) ∨ (12 ≤ o ∧ o ≤ 19) ∨ (46 ≤ o ∧ o ≤ 57)
theorem CSt_congr {S : SS} {G G1 : GG} (h : CSt S G) (e : ∀ o, cdep o → G1 o = G o) : CSt S G1 := by
  obtain ⟨h1, h2, h3, h4, h5, h6⟩ := h
  refine ⟨TE_congr h1 (fun o a b => e o (by unfold cdep; omega)), h2, ⟨by rw [e 0 (by unfold cdep; omega)]; exact h3.1, fun hk => ⟨TE_congr (h3.2 hk).1 (fun o a b => e o (by unfold cdep; omega)), (h3.2 hk).2⟩⟩, fun f hf => by rw [e 57 (by unfold cdep; omega)]; exact h4 f hf, fun s hs => ?_, ?_⟩
  · rw [e (49 + 2 * s) (by unfold cdep; omega), e (50 + 2 * s) (by unfold cdep; omega)]
    exact h5 s hs
  · unfold CTp
    rw [e 46 (by unfold cdep; omega), e 47 (by unfold cdep; omega)]
    exact h6
def CW (X : AmX) (m : Nat) (as : List Value) (G : GG) (r : Int32 × SS) : Prop := WPm X m as G (fun w G1 => w = some (.int r.1) ∧ CSt r.2 G1 ∧ ∀ o, 58 ≤ o → G1 o = G o)
theorem CW_ev {X : AmX} {m : Nat} {as : List Value} {G : GG} {r : Int32 × SS} (h : CW X m as G r) : ∃ G1, Ev X m as G (some (.int r.1)) G1 ∧ CSt r.2 G1 ∧ ∀ o, 58 ≤ o → G1 o = G o := by
  obtain ⟨v, G1, h1, rfl, h2⟩ := WPm_ev h
  exact ⟨G1, h1, h2⟩
/-- a finding told and counted -/
def sFnd (S : SS) (f : Nat) : Int32 × SS := (fc f, S.1, S.2.1, upd S.2.2.1 f (S.2.2.1 f + nI 1), S.2.2.2)
theorem CSt_fnd {S : SS} {G : GG} {f : Nat} (h : CSt S G) (hf : f < 7) : CSt (sFnd S f).2 (gset G 57 (upd (G 57) f (G 57 f + nI 1))) := by
  obtain ⟨h1, h2, h3, h4, h5, h6⟩ := h
  refine ⟨TE_congr h1 (fun o a b => gset_ne (by omega)), h2, ⟨by rw [gset_ne (by omega)]; exact h3.1, fun hk => ⟨TE_congr (h3.2 hk).1 (fun o a b => gset_ne (by omega)), (h3.2 hk).2⟩⟩, fun g hg => ?_, fun s hs => ?_, ?_⟩
  · rw [gset_eq]
    show upd (G 57) f (G 57 f + nI 1) g = upd S.2.2.1 f (S.2.2.1 f + nI 1) g
    by_cases e : g = f
    · subst e; rw [upd_eq, upd_eq, h4 g hg]
    · rw [upd_ne e, upd_ne e]; exact h4 g hg
  · rw [gset_ne (by omega), gset_ne (by omega)]; exact h5 s hs
  · unfold CTp
    rw [gset_ne (by omega), gset_ne (by omega)]; exact h6
theorem fnd_frame {G : GG} {f : Nat → Int32} : ∀ o, 58 ≤ o → gset G 57 f o = G o := fun o h => gset_ne (by omega)
/-- the town changed -/
def sTown (S : SS) (w : TW) : SS := (w, S.2)
theorem CSt_town {S : SS} {G G1 : GG} {w : TW} (h : CSt S G) (hw : TWE G1 1 w) (hv : TWV w) (e : ∀ o, ¬ (1 ≤ o ∧ o ≤ 11) → G1 o = G o) : CSt (sTown S w) G1 := by
  obtain ⟨h1, h2, h3, h4, h5, h6⟩ := h
  refine ⟨hw, hv, ⟨by rw [e 0 (by omega)]; exact h3.1, fun hk => ⟨TE_congr (h3.2 hk).1 (fun o a b => e o (by omega)), (h3.2 hk).2⟩⟩, fun g hg => by rw [e 57 (by omega)]; exact h4 g hg, fun s hs => ?_, ?_⟩
  · rw [e (49 + 2 * s) (by omega), e (50 + 2 * s) (by omega)]; exact h5 s hs
  · unfold CTp
    rw [e 46 (by omega), e 47 (by omega)]; exact h6
/-- a number told as an argument -/
def aN (v : Int32) : Nat := v.toNatClampNeg
theorem aN_nI {j : Nat} (h : j < 2 ^ 31) : aN (nI j) = j := nI_clamp h
theorem inR_n {v : Int32} {n : Nat} (hn : n ≤ 100000) (h : inR v (nI 0) (nI n) = true) : v = nI (aN v) ∧ aN v ≤ n := by
  obtain ⟨j, hj, rfl⟩ := inR_of (by omega) h
  rw [aN_nI (by omega)]
  exact ⟨rfl, hj⟩
theorem inR_p {v : Int32} {n : Nat} (hn : n ≤ 8) : inR v (nI 0) (nI n - nI 1) = true ↔ v = nI (aN v) ∧ aN v < n := by
  by_cases h0 : n = 0
  · subst h0
    constructor
    · intro h
      exfalso
      have h := of_decide_eq_true h
      obtain ⟨h1, h2⟩ := h
      obtain ⟨j, hj, rfl⟩ := nI_of (x := v) h1
      have e : nI 0 - nI 1 = nM := by decide
      rw [e, nM_lt hj] at h2
      exact h2 trivial
    · intro h; omega
  · rw [am_nI_sub (by omega)]
    constructor
    · intro h
      have := inR_n (n := n - 1) (by omega) h
      exact ⟨this.1, by omega⟩
    · intro h
      rw [h.1, inR_nI (by omega) (by omega) (by omega)]
      exact decide_eq_true (by omega)
