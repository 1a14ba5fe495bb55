/-! ===== texts: what is read, as pure words ===== -/
theorem allB_at {f : Nat → Bool} {i : Nat} : ∀ n, allB f n = true → i < n → f i = true
  | 0, _, h => absurd h (Nat.not_lt_zero i)
  | n + 1, ha, h => by
    have ha : (allB f n && f n) = true := ha
    rw [Bool.and_eq_true] at ha
    by_cases e : i = n
    · subst e; exact ha.2
    · exact allB_at n ha.1 (by omega)
theorem wd_dec : ∀ j, j < 11 → ∀ j', j' < 11 → wl j = wl j' → (∀ i, i < 7 → i < wl j → wN j i = wN j' i) → j = j' := by decide +kernel
theorem wd_uniq {b : Nat → Nat} {c : Cur} {j j' : Nat} (hj : j < 11) (hj' : j' < 11) (h : isWd b c j = true) (h' : isWd b c j' = true) : j = j' := by
  have h : (decide (c.2.2.1 = 1 ∧ c.2.1 - c.1 = wl j) && allB (fun i => decide (b (c.1 + i) = wN j i)) (wl j)) = true := h
  have h' : (decide (c.2.2.1 = 1 ∧ c.2.1 - c.1 = wl j') && allB (fun i => decide (b (c.1 + i) = wN j' i)) (wl j')) = true := h'
  rw [Bool.and_eq_true] at h h'
  have h1 := (of_decide_eq_true h.1).2
  have h2 := (of_decide_eq_true h'.1).2
  refine wd_dec j hj j' hj' (by omega) (fun i _ hi => ?_)
  have a1 := of_decide_eq_true (allB_at (wl j) h.2 hi)
  have a2 := of_decide_eq_true (allB_at (wl j') h'.2 (by omega : i < wl j'))
  exact a1.symm.trans a2
theorem kdL_of {b : Nat → Nat} {c : Cur} {j : Nat} (hj : j < 7) (h : isWd b c j = true) : ∀ m, m ≤ 7 → j < m → kdL b c m = j
  | 0, _, h2 => absurd h2 (Nat.not_lt_zero j)
  | m + 1, hm, h2 => by
    unfold kdL
    by_cases hw : isWd b c m = true
    · rw [if_pos hw]; exact wd_uniq (by omega) (by omega) hw h
    · rw [if_neg hw]
      have : ¬ j = m := fun z => hw (by rw [← z]; exact h)
      exact kdL_of hj h m (by omega) (by omega)
theorem kdL_none {b : Nat → Nat} {c : Cur} : ∀ m, (∀ j, j < m → isWd b c j = false) → kdL b c m = 7
  | 0, _ => rfl
  | m + 1, h => by
    unfold kdL
    rw [if_neg (by rw [h m (by omega)]; exact Bool.false_ne_true)]
    exact kdL_none m (fun j hj => h j (by omega))
/-! one item -/
abbrev Itm : Type := Nat × Nat × Nat × Nat
def vOf (b : Nat → Nat) (n : Nat) (c : Cur) (j ot : Nat) : Nat := if isWd b c j = true then (nxt b n c.2.1).2.2.2 else ot
def p1S (b : Nat → Nat) (n m : Nat) (c : Cur) : Rd := mMust b n (false, c) (decide (m < 8))
def p2S (b : Nat → Nat) (n m : Nat) (c : Cur) : Rd := mAft b n (p1S b n m c) 8 (nI 7)
def p3S (b : Nat → Nat) (n m : Nat) (c : Cur) : Rd := mAft b n (p2S b n m c) 9 (nI 7)
def p4S (b : Nat → Nat) (n m : Nat) (c : Cur) : Rd := mAft b n (p3S b n m c) 10 (nI m - nI 1)
def q1S (b : Nat → Nat) (n : Nat) (c : Cur) : Rd := (false, nxt b n c.2.1)
def q2S (b : Nat → Nat) (n : Nat) (c : Cur) : Rd := mNum b n (q1S b n c) (nI 7)
def q3S (b : Nat → Nat) (n : Nat) (c : Cur) : Rd := mNum b n (q2S b n c) (nI 9999)
def pI (b : Nat → Nat) (n m : Nat) (c : Cur) : Rd × Itm := if isWd b c 7 = true then (q3S b n c, (10, (q1S b n c).2.2.2.2, (q2S b n c).2.2.2.2, 0)) else if kdL b c 7 = 7 then ((true, c), (0, 0, 0, 0)) else (p4S b n m c, (kdL b c 7, vOf b n (p1S b n m c).2 8 0, vOf b n (p2S b n m c).2 9 1, vOf b n (p3S b n m c).2 10 8))
def itM (m : Nat) (it : Itm) : Nat := if it.1 = 10 then m else m + 1
def itT (w : Nat × TT) (it : Itm) : Nat × TT := if it.1 = 10 then (w.1, updT w.2 0 it.2.1 it.2.2.1) else (w.1 + 1, addF w.2 w.1 it.1 it.2.1 it.2.2.1 it.2.2.2)
def appN (f : Nat → Itm) (w : Nat × TT) : Nat → Nat × TT
  | 0 => w
  | k + 1 => itT (appN f w k) (f k)
theorem appN_congr {f g : Nat → Itm} {w : Nat × TT} : ∀ k, (∀ i, i < k → f i = g i) → appN f w k = appN g w k
  | 0, _ => rfl
  | k + 1, h => by
    unfold appN
    rw [appN_congr k (fun i hi => h i (by omega)), h k (by omega)]
def fU (f : Nat → Itm) (k : Nat) (it : Itm) : Nat → Itm := fun i => if i = k then it else f i
theorem appN_fU (f : Nat → Itm) (w : Nat × TT) (k : Nat) (it : Itm) : appN (fU f k it) w (k + 1) = itT (appN f w k) it := by
  have e : appN (fU f k it) w (k + 1) = itT (appN (fU f k it) w k) (fU f k it k) := rfl
  rw [e, appN_congr (f := fU f k it) (g := f) k (fun i hi => if_neg (by omega)), show fU f k it k = it from if_pos rfl]
def prs (b : Nat → Nat) (n : Nat) : Nat → Nat → (Nat → Itm) → Nat → Cur → Bool × Cur × Nat × (Nat → Itm)
  | 0, k, f, _, c => (true, c, k, f)
  | d + 1, k, f, m, c => if (pI b n m c).1.1 = true then (true, (pI b n m c).1.2, k, f) else if (pI b n m c).1.2.2.2.1 = 0 then (false, (pI b n m c).1.2, k + 1, fU f k (pI b n m c).2) else if (pI b n m c).1.2.2.2.1 = 3 then prs b n d (k + 1) (fU f k (pI b n m c).2) (itM m (pI b n m c).2) (nxt b n (pI b n m c).1.2.2.1) else (true, (pI b n m c).1.2, k, f)
/-! how far it has come -/
def CVS (n : Nat) (g : Nat) (s : Rd) : Prop := CV n s.2 ∧ g ≤ s.2.1
theorem must_cv {b : Nat → Nat} {n g : Nat} {s : Rd} (h : CVS n g s) (v : Bool) : CVS n g (mMust b n s v) := by
  unfold mMust
  split
  · exact h
  · have h1 := nxt_ok (b := b) (n := n) (e := s.2.2.1) h.1.2.1
    exact ⟨h1.1, Nat.le_trans h.2 (Nat.le_trans h.1.1 h1.2)⟩
theorem aft_cv {b : Nat → Nat} {n g j : Nat} {s : Rd} (h : CVS n g s) (hi : Int32) : CVS n g (mAft b n s j hi) := by
  unfold mAft
  split
  · exact h
  · exact must_cv (must_cv h true) _
theorem must_f {b : Nat → Nat} {n : Nat} {s : Rd} {v : Bool} (h : (mMust b n s v).1 = false) : s.1 = false ∧ v = true ∧ mMust b n s v = (false, nxt b n s.2.2.1) := by
  unfold mMust at h ⊢
  by_cases hc : (s.1 || !v) = true
  · rw [if_pos hc] at h; cases h
  · rw [if_neg hc]
    cases hs : s.1
    · cases v
      · rw [hs] at hc; exact absurd rfl hc
      · exact ⟨rfl, rfl, rfl⟩
    · rw [hs] at hc; exact absurd rfl hc
theorem num_f {c : Cur} {hi : Int32} (h : numOk c hi = true) : c.2.2.1 = 2 ∧ inR (nI (min 10000 c.2.2.2)) (nI 0) hi = true := by
  unfold numOk at h
  rw [Bool.and_eq_true] at h
  exact ⟨of_decide_eq_true h.1, h.2⟩
theorem num_7 {c : Cur} {k : Nat} (hk : k ≤ 9999) (h : numOk c (nI k) = true) : c.2.2.1 = 2 ∧ c.2.2.2 ≤ k := by
  obtain ⟨h1, h2⟩ := num_f h
  rw [inR_nI (by omega) (by omega) (by omega)] at h2
  have := of_decide_eq_true h2
  exact ⟨h1, by omega⟩
theorem num_m {c : Cur} {m : Nat} (hm : m ≤ 8) (h : numOk c (nI m - nI 1) = true) : c.2.2.1 = 2 ∧ c.2.2.2 < m := by
  obtain ⟨h1, h2⟩ := num_f h
  rw [inR_nat (by omega) (by omega)] at h2
  have := of_decide_eq_true h2
  exact ⟨h1, by omega⟩
theorem aft_f {b : Nat → Nat} {n j : Nat} {s : Rd} {hi : Int32} (h : (mAft b n s j hi).1 = false) : s.1 = false ∧ ((isWd b s.2 j = true ∧ numOk (nxt b n s.2.2.1) hi = true ∧ mAft b n s j hi = (false, nxt b n (nxt b n s.2.2.1).2.1)) ∨ (isWd b s.2 j = false ∧ mAft b n s j hi = s)) := by
  unfold mAft at h ⊢
  by_cases hc : (s.1 || !isWd b s.2 j) = true
  · rw [if_pos hc] at h ⊢
    rw [h, Bool.false_or] at hc
    refine ⟨h, Or.inr ⟨?_, rfl⟩⟩
    cases hw : isWd b s.2 j
    · rfl
    · rw [hw] at hc; cases hc
  · rw [if_neg hc] at h ⊢
    unfold mNum at h ⊢
    obtain ⟨h1, h2, h3⟩ := must_f h
    obtain ⟨k1, _, k3⟩ := must_f h1
    refine ⟨k1, Or.inl ⟨?_, ?_, ?_⟩⟩
    · cases hw : isWd b s.2 j
      · rw [hw] at hc; exact absurd (by rw [Bool.not_false, Bool.or_true]) hc
      · rfl
    · rw [k3] at h2; exact h2
    · rw [h3, k3]
def itV (m : Nat) (it : Itm) : Prop := (it.1 = 10 ∧ it.2.1 < 8 ∧ it.2.2.1 ≤ 9999) ∨ (it.1 < 7 ∧ it.2.1 < 8 ∧ it.2.2.1 < 8 ∧ (it.2.2.2 = 8 ∨ it.2.2.2 < m) ∧ m < 8)
theorem isWd_so {b : Nat → Nat} {c : Cur} {j : Nat} (h : isWd b c j = true) : c.2.2.1 = 1 := by
  have h : (decide (c.2.2.1 = 1 ∧ c.2.1 - c.1 = wl j) && allB (fun i => decide (b (c.1 + i) = wN j i)) (wl j)) = true := h
  rw [Bool.and_eq_true] at h
  exact (of_decide_eq_true h.1).1
theorem kdL_so {b : Nat → Nat} {c : Cur} (h : ¬ kdL b c 7 = 7) : c.2.2.1 = 1 := by
  by_cases he : ∀ j, j < 7 → isWd b c j = false
  · exact absurd (kdL_none 7 he) h
  · by_cases h1 : c.2.2.1 = 1
    · exact h1
    · exfalso
      refine he (fun j hj => ?_)
      cases hw : isWd b c j
      · rfl
      · exact absurd (isWd_so hw) h1
theorem pI_ok {b : Nat → Nat} {n m : Nat} {c : Cur} (hv : CV n c) (hm : m ≤ 8) (h : (pI b n m c).1.1 = false) : itV m (pI b n m c).2 ∧ CV n (pI b n m c).1.2 ∧ c.1 + 1 ≤ (pI b n m c).1.2.1 := by
  unfold pI at h ⊢
  have hn := nxt_ok (b := b) (n := n) (e := c.2.1) hv.2.1
  by_cases h7 : isWd b c 7 = true
  · rw [if_pos h7] at h ⊢
    have hso := isWd_so h7
    have hlt := hv.2.2.2.1 (by omega)
    have hc1 : CVS n (c.1 + 1) (q1S b n c) := ⟨hn.1, by show c.1 + 1 ≤ (nxt b n c.2.1).1; omega⟩
    have hc3 : CVS n (c.1 + 1) (q3S b n c) := must_cv (must_cv hc1 _) _
    have h : (mMust b n (q2S b n c) (numOk (q2S b n c).2 (nI 9999))).1 = false := h
    obtain ⟨k1, k2, _⟩ := must_f h
    have k1 : (mMust b n (q1S b n c) (numOk (q1S b n c).2 (nI 7))).1 = false := k1
    obtain ⟨_, l2, _⟩ := must_f k1
    have z1 := num_7 (by omega) l2
    have z2 := num_7 (by omega) k2
    exact ⟨Or.inl ⟨rfl, by show (q1S b n c).2.2.2.2 < 8; omega, z2.2⟩, hc3.1, hc3.2⟩
  rw [if_neg h7] at h ⊢
  by_cases hk : kdL b c 7 = 7
  · rw [if_pos hk] at h
    have h : true = false := h
    cases h
  rw [if_neg hk] at h ⊢
  have hkl : kdL b c 7 < 7 := by
    rcases kdL_le b c 7 (by omega) with h1 | h1
    · exact absurd h1 hk
    · exact h1
  have h4 : (mAft b n (p3S b n m c) 10 (nI m - nI 1)).1 = false := h
  obtain ⟨h3, hA⟩ := aft_f h4
  have h3 : (mAft b n (p2S b n m c) 9 (nI 7)).1 = false := h3
  obtain ⟨h2, hB⟩ := aft_f h3
  have h2 : (mAft b n (p1S b n m c) 8 (nI 7)).1 = false := h2
  obtain ⟨h1, hC⟩ := aft_f h2
  have h1 : (mMust b n (false, c) (decide (m < 8))).1 = false := h1
  obtain ⟨_, g2, g3⟩ := must_f h1
  have hm8 := of_decide_eq_true g2
  have hso := kdL_so hk
  have hlt := hv.2.2.2.1 (by omega)
  have e1 : p1S b n m c = (false, nxt b n c.2.1) := g3
  have hc1 : CVS n (c.1 + 1) (p1S b n m c) := by rw [e1]; exact ⟨hn.1, by show c.1 + 1 ≤ (nxt b n c.2.1).1; omega⟩
  have hc4 : CVS n (c.1 + 1) (p4S b n m c) := aft_cv (aft_cv (aft_cv hc1 _) _) _
  refine ⟨Or.inr ⟨hkl, ?_, ?_, ?_, hm8⟩, hc4.1, hc4.2⟩
  · show vOf b n (p1S b n m c).2 8 0 < 8
    unfold vOf
    rcases hC with ⟨a1, a2, _⟩ | ⟨a1, _⟩
    · rw [if_pos a1]; have := num_7 (by omega) a2; omega
    · rw [if_neg (by rw [a1]; exact Bool.false_ne_true)]; omega
  · show vOf b n (p2S b n m c).2 9 1 < 8
    unfold vOf
    rcases hB with ⟨a1, a2, _⟩ | ⟨a1, _⟩
    · rw [if_pos a1]; have := num_7 (by omega) a2; omega
    · rw [if_neg (by rw [a1]; exact Bool.false_ne_true)]; omega
  · show vOf b n (p3S b n m c).2 10 8 = 8 ∨ vOf b n (p3S b n m c).2 10 8 < m
    unfold vOf
    rcases hA with ⟨a1, a2, _⟩ | ⟨a1, _⟩
    · rw [if_pos a1]; exact Or.inr (num_m (by omega) a2).2
    · rw [if_neg (by rw [a1]; exact Bool.false_ne_true)]; exact Or.inl rfl
theorem num_c {c : Cur} {hi : Int32} (hh : hi.toInt < 10000) (hv : c.2.2.2 ≤ 99999) : numOk c hi = decide (c.2.2.1 = 2 ∧ ¬ hi < nI c.2.2.2) := by
  unfold numOk
  have e : inR (nI (min 10000 c.2.2.2)) (nI 0) hi = decide (¬ hi < nI c.2.2.2) := by
    refine decide_eq_decide.mpr ?_
    rw [Int32.lt_iff_toInt_lt, Int32.lt_iff_toInt_lt, Int32.lt_iff_toInt_lt, nI_toInt (by omega), nI_toInt (by omega), nI_toInt (by omega)]
    omega
  rw [e]
  by_cases h : c.2.2.1 = 2
  · simp [h]
  · simp [h]
/-! what is told of a town -/
theorem TWV_item {n : Nat} {T : TT} {t : Nat} {z : Int32} {it : Itm} (h : TWV (n, T, t, z)) (hi : itV n it) : TWV ((itT (n, T) it).1, (itT (n, T) it).2, t, z) := by
  unfold itT
  rcases hi with ⟨h1, h2, h3⟩ | ⟨h1, h2, h3, h4, h5⟩
  · rw [if_pos h1]
    exact TWV_prize (w := (n, T, t, z)) h h3
  · rw [if_neg (by omega)]
    obtain ⟨what, pl, lo, lv⟩ := it
    have h1 : what < 7 := h1
    have h2 : pl < 8 := h2
    have h3 : lo < 8 := h3
    have h4 : lv = 8 ∨ lv < n := h4
    have a := TWV_add (w := (n, T, t, z)) (kk := what) (q := pl) h h5 h1 h2
    have b := TWV_set (i := n) (k := 2) (x := lo) a (by show n < n + 1; omega) (fun e => absurd e (by omega)) (fun e => absurd e (by omega)) (fun _ => h3) (fun e => absurd e (by omega)) (fun e => absurd e (by omega)) (by omega)
    have hc3 := TWV_set (i := n) (k := 3) (x := lv) b (by show n < n + 1; omega) (fun e => absurd e (by omega)) (fun e => absurd e (by omega)) (fun e => absurd e (by omega)) (fun _ => by show lv = 8 ∨ lv < n + 1; omega) (fun e => absurd e (by omega)) (by omega)
    have e : updT (updT (addT T n what pl) (2 + 1) n lo) (3 + 1) n lv = addF T n what pl lo lv := by
      funext cc i
      unfold updT addT addF
      by_cases hi : i = n
      · subst hi
        by_cases c4 : cc = 4
        · simp [c4]
        · by_cases c3 : cc = 3
          · simp [c3]
          · simp [c3, c4]
      · simp [hi]
    have hc3 : TWV (n + 1, updT (updT (addT T n what pl) (2 + 1) n lo) (3 + 1) n lv, t, z) := hc3
    rw [e] at hc3
    exact hc3
