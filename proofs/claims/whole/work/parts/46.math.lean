/-! ===== a town as numbers: what is wished, chosen, got; what a Tuesday does ===== -/
abbrev TT : Type := Nat → Nat → Nat
/-- a number that may be none (8) -/
def eP (x : Nat) : Int32 := if x = 8 then nM else nI x
theorem eP_8 : eP 8 = nM := rfl
theorem eP_lt {x : Nat} (h : ¬ x = 8) : eP x = nI x := if_neg h
theorem eP_eq {x p : Nat} (hx : x ≤ 8) (hp : p < 8) : (eP x = nI p) = (x = p) := by
  unfold eP
  by_cases h : x = 8
  · rw [if_pos h, nM_en (by omega)]
    exact propext ⟨False.elim, fun z => by omega⟩
  · rw [if_neg h, am_nI_inj (by omega) (by omega)]
theorem eP_inj {x y : Nat} (hx : x ≤ 8) (hy : y ≤ 8) : (eP x = eP y) = (x = y) := by
  by_cases h : y = 8
  · subst h
    rw [eP_8]
    unfold eP
    by_cases h2 : x = 8
    · rw [if_pos h2]; simp [h2]
    · rw [if_neg h2, nM_ne (by omega)]; simp [h2]
  · rw [eP_lt h, eP_eq hx (by omega)]
def cntN (f : Nat → Nat) (v : Nat) : Nat → Nat
  | 0 => 0
  | n + 1 => cntN f v n + if f n = v then 1 else 0

theorem cntN_le (f : Nat → Nat) (v : Nat) : ∀ n, cntN f v n ≤ n
  | 0 => Nat.le_refl 0
  | n + 1 => by have := cntN_le f v n; unfold cntN; split <;> omega
theorem cntN_pos {f : Nat → Nat} {v i : Nat} (h : f i = v) : ∀ n, i < n → 1 ≤ cntN f v n
  | 0, hi => absurd hi (Nat.not_lt_zero i)
  | n + 1, hi => by
    unfold cntN
    by_cases e : i = n
    · subst e; rw [if_pos h]; omega
    · have := cntN_pos h n (by omega); omega
theorem cntN_congr {f g : Nat → Nat} {v : Nat} : ∀ n, (∀ j, j < n → f j = g j) → cntN f v n = cntN g v n
  | 0, _ => rfl
  | n + 1, h => by
    unfold cntN
    rw [cntN_congr n (fun j hj => h j (by omega)), h n (by omega)]
def wishT (kk : Nat) (share whole : Int32) (o : Nat) (isP fl : Bool) : Int32 := match kk with
  | 1 => whole
  | 2 => share + (if fl = true then nI 100 else nI 0)
  | 3 => share + (if fl = true then nI 100 else nI 0) - nI (5 * o)
  | 4 => share + (if fl = true then nI 100 else nI 0) - nI (5 * o) + nI (7 * o)
  | 5 => bI isP
  | 6 => if isP = true then whole else nI 0
  | _ => share
/-- how many others one sees at a place -/
def othN (T : TT) (n i p : Nat) : Nat := cntN (T 2) p n - if T 2 i = p then 1 else 0
def flN (T : TT) (i p : Nat) : Bool := decide (T 4 i < 8 ∧ T 2 (T 4 i) = p)
def wishN (T : TT) (n i p : Nat) : Int32 := wishT (T 1 i) (nI (T 0 p) / nI (othN T n i p + 1)) (if othN T n i p = 0 then nI (T 0 p) else nI 0) (othN T n i p) (decide (T 2 i = p)) (flN T i p)
def seesN (T : TT) (i p : Nat) : Bool := decide (T 2 i ≤ p + T 3 i ∧ p ≤ T 2 i + T 3 i)
/-- the best among the first k places that are seen, beginning with q -/
def chF (w : Nat → Int32) (s : Nat → Bool) (q : Nat) : Nat → Nat
  | 0 => q
  | k + 1 => if s k = true ∧ w (chF w s q k) < w k then k else chF w s q k
theorem chF_skip {w : Nat → Int32} {s : Nat → Bool} {q a : Nat} : ∀ d, (∀ k, a ≤ k → k < a + d → s k = false) → chF w s q (a + d) = chF w s q a
  | 0, _ => rfl
  | d + 1, h => by
    have e : chF w s q (a + (d + 1)) = if s (a + d) = true ∧ w (chF w s q (a + d)) < w (a + d) then a + d else chF w s q (a + d) := rfl
    rw [e, if_neg (fun z => by rw [h (a + d) (by omega) (by omega)] at z; cases z.1)]
    exact chF_skip d (fun k h1 h2 => h k h1 (by omega))
theorem chF_lt {w : Nat → Int32} {s : Nat → Bool} {q m : Nat} (hq : q < m) : ∀ k, k ≤ m → chF w s q k < m
  | 0, _ => hq
  | k + 1, h => by
    unfold chF
    split
    · omega
    · exact chF_lt hq k (by omega)
def chN (T : TT) (n i : Nat) : Nat := if T 2 i = 8 then 8 else chF (wishN T n i) (seesN T i) (T 2 i) 8
theorem chN_le {T : TT} {n i : Nat} (h : T 2 i ≤ 8) : chN T n i ≤ 8 := by
  unfold chN
  split
  · omega
  · have := chF_lt (w := wishN T n i) (s := seesN T i) (q := T 2 i) (m := 8) (by omega) 8 (by omega); omega
def ccN (T : TT) (n p : Nat) : Nat := cntN (chN T n) p n
def getN (T : TT) (n i : Nat) : Nat := if chN T n i = 8 then 0 else T 0 (chN T n i) / ccN T n (chN T n i)
def stepN (n : Nat) (T : TT) : TT := fun c i => if c = 5 ∧ i < n then min 99999 (T 5 i + getN T n i) else if c = 2 ∧ i < n then (if T 1 i = 5 ∨ T 1 i = 6 then T 2 i else chN T n i) else T c i
def runN (n : Nat) : Nat → TT → TT
  | 0, T => T
  | k + 1, T => runN n k (stepN n T)
theorem runN_s (n : Nat) : ∀ (k : Nat) (T : TT), runN n (k + 1) T = stepN n (runN n k T)
  | 0, T => rfl
  | k + 1, T => by
    show runN n (k + 1) (stepN n T) = _
    rw [runN_s n k (stepN n T)]
    rfl
/-- a town is sound -/
def TV (n : Nat) (T : TT) : Prop := n ≤ 8 ∧ (∀ p, p < 8 → T 0 p ≤ 9999) ∧ (∀ i, i < n → T 1 i < 7 ∧ T 2 i ≤ 8 ∧ T 3 i < 8 ∧ (T 4 i = 8 ∨ T 4 i < n) ∧ T 5 i ≤ 99999) ∧ ∀ s, s < 10 → T 6 s = 8 ∨ T 6 s < n
theorem TV_step {n : Nat} {T : TT} (h : TV n T) : TV n (stepN n T) := by
  obtain ⟨h1, h2, h3, h4⟩ := h
  refine ⟨h1, fun p hp => ?_, fun i hi => ?_, fun s hs => ?_⟩
  · have := h2 p hp; simpa [stepN] using this
  · obtain ⟨a1, a2, a3, a4, a5⟩ := h3 i hi
    refine ⟨by simpa [stepN] using a1, ?_, by simpa [stepN] using a3, by simpa [stepN] using a4, ?_⟩
    · have hc := chN_le (n := n) a2
      simp only [stepN, hi]
      simp only [show ¬ (2 = 5) by decide, false_and, if_false, and_self, if_true]
      split <;> omega
    · simp only [stepN, hi]
      simp only [and_self, if_true]
      omega
  · simpa [stepN] using h4 s hs
theorem TV_run {n : Nat} : ∀ (k : Nat) {T : TT}, TV n T → TV n (runN n k T)
  | 0, _, h => h
  | k + 1, _, h => TV_run k (TV_step h)
/-- how a town of the class holds it -/
def TE (G : GG) (b n : Nat) (T : TT) (t : Nat) (z : Int32) : Prop := G b 7 = nI n ∧ G b 8 = nI t ∧ G b 9 = z ∧ (∀ p, p < 8 → G (b + 1) p = nI (T 0 p)) ∧ (∀ i, i < n → G (b + 2) i = nI (T 1 i)) ∧ (∀ i, i < n → G (b + 3) i = eP (T 2 i)) ∧ (∀ i, i < n → G (b + 4) i = nI (T 3 i)) ∧ (∀ i, i < n → G (b + 5) i = eP (T 4 i)) ∧ (∀ i, i < n → G (b + 6) i = nI (T 5 i)) ∧ ∀ s, s < 10 → G (b + 7) s = eP (T 6 s)
theorem TE_congr {G G1 : GG} {b n : Nat} {T : TT} {t : Nat} {z : Int32} (h : TE G b n T t z) (e : ∀ o, b ≤ o → o ≤ b + 7 → G1 o = G o) : TE G1 b n T t z := by
  obtain ⟨a0, a1, a2, a3, a4, a5, a6, a7, a8, a9⟩ := h
  unfold TE
  rw [e b (by omega) (by omega), e (b + 1) (by omega) (by omega), e (b + 2) (by omega) (by omega), e (b + 3) (by omega) (by omega), e (b + 4) (by omega) (by omega), e (b + 5) (by omega) (by omega), e (b + 6) (by omega) (by omega), e (b + 7) (by omega) (by omega)]
  exact ⟨a0, a1, a2, a3, a4, a5, a6, a7, a8, a9⟩
/-- planned: how many plan to be where -/
def PL (G : GG) (b n : Nat) (T : TT) : Prop := ∀ p, p < 8 → G (b + 8) p = nI (cntN (T 2) p n)
/-- settled: planned, chosen, how many come where -/
def SE (G : GG) (b n : Nat) (T : TT) : Prop := PL G b n T ∧ (∀ i, i < n → G (b + 9) i = eP (chN T n i)) ∧ ∀ p, p < 8 → G (b + 10) p = nI (ccN T n p)
theorem SE_congr {G G1 : GG} {b n : Nat} {T : TT} (h : SE G b n T) (e : ∀ o, b + 8 ≤ o → o ≤ b + 10 → G1 o = G o) : SE G1 b n T := by
  obtain ⟨a0, a1, a2⟩ := h
  refine ⟨fun p hp => ?_, ?_⟩
  · rw [e (b + 8) (by omega) (by omega)]; exact a0 p hp
  · rw [e (b + 9) (by omega) (by omega), e (b + 10) (by omega) (by omega)]
    exact ⟨a1, a2⟩
theorem inR_eP {q : Nat} (hq : q ≤ 8) : inR (eP q) (nI 0) (nI 7) = decide (q < 8) := by
  by_cases h : q = 8
  · subst h; decide
  · rw [eP_lt h, inR_nI (by omega) (by omega) (by omega)]
    exact decide_eq_decide.mpr (by omega)
theorem am_max0 {q l : Nat} (hq : q < 2 ^ 30) (hl : l < 2 ^ 30) : (if nI 0 < nI q - nI l then nI q - nI l else nI 0) = nI (q - l) := by
  rcases Nat.lt_or_ge q l with h | h
  · have h1 := pk_sneg (a := q) (b := l) hl h
    rw [if_neg, show q - l = 0 by omega]
    intro z
    rw [Int32.lt_iff_toInt_lt] at z h1
    have e0 : (nI 0).toInt = 0 := by decide
    have e1 : (0 : Int32).toInt = 0 := by decide
    omega
  · rw [am_nI_sub h]
    by_cases h0 : q - l = 0
    · rw [h0, if_neg (by decide)]
    · rw [if_pos (by rw [am_nI_lt (by omega) (by omega)]; omega)]
theorem am_min7 {x : Nat} (hx : x < 2 ^ 31) : (if nI x < nI 7 then nI x else nI 7) = nI (min x 7) := by
  by_cases h : x < 7
  · rw [if_pos (by rw [am_nI_lt hx (by omega)]; exact h), show min x 7 = x by omega]
  · rw [if_neg (by rw [am_nI_lt hx (by omega)]; exact h), show min x 7 = 7 by omega]
theorem cntN_s (f : Nat → Nat) (v n : Nat) : cntN f v (n + 1) = cntN f v n + if f n = v then 1 else 0 := rfl
