/-! ===== the law's start: what stays ===== -/
theorem ic_env {s : State} {b : Nat} (hts : ∀ w ∈ lw_tbl, w.before #[Value.ref b] s = true) (hgv : (Jvm.Cond.and given_1 narrow_1).before #[Value.ref b] s = true) :
    ∃ (adK adV : Nat → Nat) (kz : Nat) (sio : Value), (tt_N s ∧ tt_R adK s ∧ va_Z RX4 "KIND_ABOVE" "[I" (.ref kz) (fun q => s.heap.size ≤ q) s s.heap ∧ va_T .int kz 7 (fun k => .int (tt_above k)) (fun q => s.heap.size ≤ q) s s.heap ∧ va_Z "java/lang/String" "COMPACT_STRINGS" "Z" (.int 1) (fun q => s.heap.size ≤ q) s s.heap ∧ va_Z "jdk/internal/util/Preconditions" "SIOOBE_FORMATTER" "Ljava/util/function/BiFunction;" sio (fun q => s.heap.size ≤ q) s s.heap ∧ vk_S 11 tt_len tt_byt adK adV (fun q => s.heap.size ≤ q) s s.heap) ∧ sio.category = 1 ∧ ic_E s := by
  have hg : ∀ w ∈ icF, w.before #[Value.ref b] s = true := flat_of_before _ hgv
  have hA : ∀ a : Nat, a < s.heap.size → ¬ (fun q => s.heap.size ≤ q) a := fun a h => Nat.not_le.mpr h
  obtain ⟨adK, adV, hSt, hev⟩ := vk_Sof (N := 11) (tm := ic_tm) (len := tt_len) (byt := tt_byt) (A := fun q => s.heap.size ≤ q) (by decide) (fun i hi => hg _ (icf_ex i hi)) (fun i hi => hg _ (icf_co i hi)) (fun i hi => hg _ (icf_ar i hi)) (fun i hi => hg _ (icf_le i hi)) (fun i hi j hj => hg _ (icf_el i hi j hj)) (fun i j hi hj hij => (icf_ne i hi j hj hij).imp (hg _) (hg _)) hA
  obtain ⟨kz, hkz, hT⟩ := va_Tof (tm := Term.static RX4 "KIND_ABOVE" "[I") (ty := .int) (N := 7) (f := fun k => .int (tt_above k)) (A := fun q => s.heap.size ≤ q) (by decide) (hg _ icf_k.1.1) (va_eqt (hg _ icf_k.1.2.1)) (fun j hj => va_eqt (hg _ (icf_k.1.2.2 j hj))) hA
  have hN : tt_N s := fun q hq => va_Nw.of rfl (hts _ (ict_n q hq))
  have hR : tt_R adK s := by
    intro q hq
    have h1 := hts _ (ict_r q hq)
    obtain ⟨h2, h3⟩ := ict_q q hq
    refine vk_R.of h1 ?_
    rcases h2 with ⟨e1, e2⟩ | ⟨e1, e2⟩
    · rw [e1, e2]; exact hev _ h3
    · rw [e1, e2]; exact va_eqR (hg _ (icf_eq _ h3)) (hev _ h3)
  have hl : ∀ (i : Nat) (w : Jvm.Cond), ([.laysStatic RX4 "KIND_ABOVE" "[I", .laysStatic "java/lang/String" "COMPACT_STRINGS" "Z", .laysStatic "jdk/internal/util/Preconditions" "SIOOBE_FORMATTER" "Ljava/util/function/BiFunction;", .initialized RX4, .initialized "java/lang/String", .initialized "jdk/internal/util/Preconditions", .arrayOver (.object RX0), .arrayOver (.object RJ0)] : List Jvm.Cond)[i]? = some w → w.before #[Value.ref b] s = true := fun i w h => hts w (ict_l w (List.mem_of_getElem? h))
  have hE : ic_E s := ⟨hN, va_AO.of (hl 6 _ rfl), va_AO.of (hl 7 _ rfl)⟩
  have hZ := va_Zqof (A := fun q => s.heap.size ≤ q) (hl 2 _ rfl) (hl 5 _ rfl) (hg _ icf_k.2.2) hA
  have hk := va_Zof (A := fun q => s.heap.size ≤ q) (hl 0 _ rfl) (hl 3 _ rfl) hkz hA
  have hc := va_Zof (A := fun q => s.heap.size ≤ q) (hl 1 _ rfl) (hl 4 _ rfl) (va_eqi (hg _ icf_k.2.1)) hA
  rcases hZ with h | ⟨q, h⟩
  · exact ⟨adK, adV, kz, .null, ⟨hN, hR, hk, hT, hc, h, hSt⟩, rfl, hE⟩
  · exact ⟨adK, adV, kz, .ref q, ⟨hN, hR, hk, hT, hc, h, hSt⟩, rfl, hE⟩
