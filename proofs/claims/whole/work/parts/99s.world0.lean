/-! ===== the law, from its entry ===== -/
def ic_a (q0 : Nat) (u1 : Nat → Nat) (q2 : Nat) (u3 adK adV : Nat → Nat) (kz b : Nat) : Nat → Nat := fun k => if k = 0 then q0 else if k < 58 then u1 k else if k = 58 then q2 else if k < 72 then u3 k else if k < 200 then adK (k - 100) else if k < 300 then adV (k - 200) else if k = 300 then kz else b
set_option maxHeartbeats 8000000 in
set_option maxRecDepth 1000000 in
theorem ic_W0 (q0 : Nat) (u1 : Nat → Nat) (q2 : Nat) (u3 adK adV : Nat → Nat) (kz b : Nat) (cI cR cS : ClassId) : ([(q0, .inr (4, [.ref (u1 1), .ref (u1 12), .ref (u1 23), .ref (u1 45), .ref (u1 48), .ref (u1 57), .int (nI 0)])), (u1 1, .inr (3, [.ref (u1 2), .ref (u1 3), .ref (u1 4), .ref (u1 5), .ref (u1 6), .ref (u1 7), .ref (u1 8), .int (nI 0), .int (nI 0), .int (nI 1), .ref (u1 9), .ref (u1 10), .ref (u1 11)])), (u1 2, ic_f cI 8 (nI 10)), (u1 3, ic_i cI 8), (u1 4, ic_i cI 8), (u1 5, ic_i cI 8), (u1 6, ic_i cI 8), (u1 7, ic_i cI 8), (u1 8, ic_f cI 10 (-1)), (u1 9, ic_i cI 8), (u1 10, ic_i cI 8), (u1 11, ic_i cI 8), (u1 12, .inr (3, [.ref (u1 13), .ref (u1 14), .ref (u1 15), .ref (u1 16), .ref (u1 17), .ref (u1 18), .ref (u1 19), .int (nI 0), .int (nI 0), .int (nI 1), .ref (u1 20), .ref (u1 21), .ref (u1 22)])), (u1 13, ic_f cI 8 (nI 10)), (u1 14, ic_i cI 8), (u1 15, ic_i cI 8), (u1 16, ic_i cI 8), (u1 17, ic_i cI 8), (u1 18, ic_i cI 8), (u1 19, ic_f cI 10 (-1)), (u1 20, ic_i cI 8), (u1 21, ic_i cI 8), (u1 22, ic_i cI 8), (u1 23, .inr (3, [.ref (u1 24), .ref (u1 25), .ref (u1 26), .ref (u1 27), .ref (u1 28), .ref (u1 29), .ref (u1 30), .int (nI 0), .int (nI 0), .int (nI 1), .ref (u1 31), .ref (u1 32), .ref (u1 33)])), (u1 24, ic_f cI 8 (nI 10)), (u1 25, ic_i cI 8), (u1 26, ic_i cI 8), (u1 27, ic_i cI 8), (u1 28, ic_i cI 8), (u1 29, ic_i cI 8), (u1 30, ic_f cI 10 (-1)), (u1 31, ic_i cI 8), (u1 32, ic_i cI 8), (u1 33, ic_i cI 8), (u1 34, .inr (3, [.ref (u1 35), .ref (u1 36), .ref (u1 37), .ref (u1 38), .ref (u1 39), .ref (u1 40), .ref (u1 41), .int (nI 0), .int (nI 0), .int (nI 1), .ref (u1 42), .ref (u1 43), .ref (u1 44)])), (u1 35, ic_f cI 8 (nI 10)), (u1 36, ic_i cI 8), (u1 37, ic_i cI 8), (u1 38, ic_i cI 8), (u1 39, ic_i cI 8), (u1 40, ic_i cI 8), (u1 41, ic_f cI 10 (-1)), (u1 42, ic_i cI 8), (u1 43, ic_i cI 8), (u1 44, ic_i cI 8), (u1 45, .inr (2, [.ref (u1 46), .ref (u1 34), .int 0, .int 0])), (u1 46, .inr (1, [.ref (u1 47), .int 0, .int 0, .int 0, .int 0, .int 0])), (u1 47, ic_i cI 120), (u1 48, ic_q cR 4 (va_up (va_up (va_up (va_up (fun _ => none) 0 (some (u1 49))) 1 (some (u1 51))) 2 (some (u1 53))) 3 (some (u1 55)))), (u1 49, .inr (0, [.ref (u1 50), .int 0, .int 0])), (u1 50, ic_i cI 40), (u1 51, .inr (0, [.ref (u1 52), .int 0, .int 0])), (u1 52, ic_i cI 40), (u1 53, .inr (0, [.ref (u1 54), .int 0, .int 0])), (u1 54, ic_i cI 40), (u1 55, .inr (0, [.ref (u1 56), .int 0, .int 0])), (u1 56, ic_i cI 40), (u1 57, ic_i cI 7), (q2, .inr (5, [.ref (u3 59), .ref (u3 60), .ref (u3 61), .int 0, .ref (u3 62), .ref (u3 63), .ref (u3 64), .int ((-1)), .ref (u3 65), .int 0, .int 0, .int 0, .int 0, .int 0, .int 0, .ref (u3 71), .ref (u3 66), .int 0, .int 0, .ref (u3 67), .ref (u3 68), .ref (u3 69), .ref (u3 70)])), (u3 59, ic_g cI 61 (upd (upd (upd (upd (upd (upd (upd (upd (upd (upd (upd (upd (upd (upd (upd (upd (upd (upd (upd (fun _ => 0) 2 (nI 1)) 13 (nI 10)) 14 (nI 10)) 15 (nI 10)) 16 (nI 10)) 17 (nI 10)) 18 (nI 10)) 19 (nI 10)) 20 (nI 10)) 3 ((-1))) 4 ((-1))) 5 ((-1))) 6 ((-1))) 7 ((-1))) 8 ((-1))) 9 ((-1))) 10 ((-1))) 11 ((-1))) 12 ((-1)))), (u3 60, ic_i cI 61), (u3 61, ic_i cI 61), (u3 62, ic_i cI 8), (u3 63, ic_i cI 8), (u3 64, ic_i cI 8), (u3 65, ic_i cI 120), (u3 66, ic_i cI 480), (u3 67, ic_i cI 4), (u3 68, ic_i cI 4), (u3 69, ic_i cI 160), (u3 70, ic_i cI 40), (u3 71, ic_q cS 7 (va_up (va_up (va_up (va_up (va_up (va_up (va_up (fun _ => none) 0 (some (adK 0))) 1 (some (adK 1))) 2 (some (adK 2))) 3 (some (adK 3))) 4 (some (adK 4))) 5 (some (adK 5))) 6 (some (adK 6))))] : va_W) = am_W (ic_a q0 u1 q2 u3 adK adV kz b) cI cR cS ic_G := by
  have h1 : (va_up (va_up (va_up (va_up (fun _ => none) 0 (some (u1 49))) 1 (some (u1 51))) 2 (some (u1 53))) 3 (some (u1 55)) : Nat → Option Nat) = (fun i => (([49, 51, 53, 55] : List Nat)[i]?).map (ic_a q0 u1 q2 u3 adK adV kz b)) := by
    funext i
    match i with
    | 0 => rfl
    | 1 => rfl
    | 2 => rfl
    | 3 => rfl
    | n + 4 => rfl
  have h2 : (va_up (va_up (va_up (va_up (va_up (va_up (va_up (fun _ => none) 0 (some (adK 0))) 1 (some (adK 1))) 2 (some (adK 2))) 3 (some (adK 3))) 4 (some (adK 4))) 5 (some (adK 5))) 6 (some (adK 6)) : Nat → Option Nat) = (fun i => (([100, 101, 102, 103, 104, 105, 106] : List Nat)[i]?).map (ic_a q0 u1 q2 u3 adK adV kz b)) := by
    funext i
    match i with
    | 0 => rfl
    | 1 => rfl
    | 2 => rfl
    | 3 => rfl
    | 4 => rfl
    | 5 => rfl
    | 6 => rfl
    | n + 7 => rfl
  rw [h1, h2]
  rfl
set_option maxRecDepth 100000 in
theorem icw_0 : wsL_law[0]? = some (.classLink RL 7 RX4) := by decide +kernel
set_option maxRecDepth 100000 in
theorem icw_1 : wsL_law[1]? = some (.instantiable RX4 7) := by decide +kernel
set_option maxRecDepth 100000 in
theorem icw_2 : wsL_law[2]? = some (.initialized RX4) := by decide +kernel
set_option maxRecDepth 100000 in
theorem icw_3 : wsL_law[3]? = some (.classLink RL 10 RX5) := by decide +kernel
set_option maxRecDepth 100000 in
theorem icw_4 : wsL_law[4]? = some (.instantiable RX5 23) := by decide +kernel
set_option maxRecDepth 100000 in
theorem icw_5 : wsL_law[5]? = some (.initialized RX5) := by decide +kernel
set_option maxRecDepth 100000 in
theorem icw_6 : wsL_law[6]? = some (.methodLink RL 9 yX4_init) := by decide +kernel
set_option maxRecDepth 100000 in
theorem icw_7 : wsL_law[7]? = some (.instanceMethod yX4_init) := by decide +kernel
set_option maxRecDepth 100000 in
theorem icw_68 : wsL_law[68]? = some (.methodLink RL 12 yX5_init) := by decide +kernel
set_option maxRecDepth 100000 in
theorem icw_69 : wsL_law[69]? = some (.instanceMethod yX5_init) := by decide +kernel
