theorem cw_drones {l : Launch} {Y0 : x_Y} (hO : x_Ok Y0) {M : x_M} {c n : Nat} {f : Nat → Int32} {P : PL} {A : HS} {ep : Int32} (hP : p_ok P) (hk9 : h_ok P A) (w : wC M c n f P A ep) : x_C l Y0 yX8_drones cX8_drones 1 (some .int) 1 0 0 [.ref c] M (fun u M1 => u = some (.int (nI (p_nd P))) ∧ cQ M M1 c (n) (f) P (A) ep) := by
  have w0 := w
  obtain ⟨x0, v0, K2, Q, S, hx, sk, ht, T, hy, sl, hu, w9⟩ := w
  obtain ⟨w1, w2, w3, w4, hQ, w6, w7⟩ := id w9
  exact x_C_mono (c_X8_drones hO hP hQ w6 (wC_p w9) w1 rfl rfl hk9) (fun u M1 q => by obtain ⟨rfl, rfl⟩ := q; exact ⟨rfl, cQ_self w0⟩)
theorem cw_deals {l : Launch} {Y0 : x_Y} (hO : x_Ok Y0) {M : x_M} {c n : Nat} {f : Nat → Int32} {P : PL} {A : HS} {ep : Int32} (hP : p_ok P) (hk9 : h_ok P A) (w : wC M c n f P A ep) : x_C l Y0 yX8_deals cX8_deals 1 (some .int) 1 0 0 [.ref c] M (fun u M1 => u = some (.int (nI (p_nk P))) ∧ cQ M M1 c (n) (f) P (A) ep) := by
  have w0 := w
  obtain ⟨x0, v0, K2, Q, S, hx, sk, ht, T, hy, sl, hu, w9⟩ := w
  obtain ⟨w1, w2, w3, w4, hQ, w6, w7⟩ := id w9
  exact x_C_mono (c_X8_deals hO hP hQ w6 (wC_p w9) w1 rfl rfl hk9) (fun u M1 q => by obtain ⟨rfl, rfl⟩ := q; exact ⟨rfl, cQ_self w0⟩)
theorem cw_day {l : Launch} {Y0 : x_Y} (hO : x_Ok Y0) {M : x_M} {c n : Nat} {f : Nat → Int32} {P : PL} {A : HS} {ep : Int32} (hP : p_ok P) (hk9 : h_ok P A) (w : wC M c n f P A ep) : x_C l Y0 yX8_day cX8_day 1 (some .int) 1 0 0 [.ref c] M (fun u M1 => u = some (.int (A 8 0)) ∧ cQ M M1 c (n) (f) P (A) ep) := by
  have w0 := w
  obtain ⟨x0, v0, K2, Q, S, hx, sk, ht, T, hy, sl, hu, w9⟩ := w
  obtain ⟨w1, w2, w3, w4, hQ, w6, w7⟩ := id w9
  exact x_C_mono (c_X8_day hO hP hQ w6 (wC_p w9) w1 rfl rfl hk9) (fun u M1 q => by obtain ⟨rfl, rfl⟩ := q; exact ⟨rfl, cQ_self w0⟩)
theorem cw_ordersCarriedOut {l : Launch} {Y0 : x_Y} (hO : x_Ok Y0) {M : x_M} {c n : Nat} {f : Nat → Int32} {P : PL} {A : HS} {ep : Int32} (hP : p_ok P) (hk9 : h_ok P A) (w : wC M c n f P A ep) : x_C l Y0 yX8_ordersCarriedOut cX8_ordersCarriedOut 1 (some .int) 1 0 0 [.ref c] M (fun u M1 => u = some (.int (A 8 1)) ∧ cQ M M1 c (n) (f) P (A) ep) := by
  have w0 := w
  obtain ⟨x0, v0, K2, Q, S, hx, sk, ht, T, hy, sl, hu, w9⟩ := w
  obtain ⟨w1, w2, w3, w4, hQ, w6, w7⟩ := id w9
  exact x_C_mono (c_X8_ordersCarriedOut hO hP hQ w6 (wC_p w9) w1 rfl rfl hk9) (fun u M1 q => by obtain ⟨rfl, rfl⟩ := q; exact ⟨rfl, cQ_self w0⟩)
theorem cw_blocked {l : Launch} {Y0 : x_Y} (hO : x_Ok Y0) {M : x_M} {c n : Nat} {f : Nat → Int32} {P : PL} {A : HS} {ep : Int32} (hP : p_ok P) (hk9 : h_ok P A) (w : wC M c n f P A ep) : x_C l Y0 yX8_blocked cX8_blocked 1 (some .int) 3 0 0 [.ref c] M (fun u M1 => u = some (.int (h_blocked P A)) ∧ cQ M M1 c (n) (f) P (A) ep) := by
  have w0 := w
  obtain ⟨x0, v0, K2, Q, S, hx, sk, ht, T, hy, sl, hu, w9⟩ := w
  obtain ⟨w1, w2, w3, w4, hQ, w6, w7⟩ := id w9
  exact x_C_mono (c_X8_blocked hO hP hQ w6 (wC_p w9) w1 rfl rfl hk9) (fun u M1 q => by obtain ⟨rfl, rfl⟩ := q; exact ⟨rfl, cQ_self w0⟩)
theorem cw_honey {l : Launch} {Y0 : x_Y} (hO : x_Ok Y0) {M : x_M} {c n : Nat} {f : Nat → Int32} {P : PL} {A : HS} {ep : Int32} (hP : p_ok P) (hk9 : h_ok P A) (w : wC M c n f P A ep) : x_C l Y0 yX8_honey cX8_honey 1 (some .int) 3 0 0 [.ref c] M (fun u M1 => u = some (.int (h_honey P A)) ∧ cQ M M1 c (n) (f) P (A) ep) := by
  have w0 := w
  obtain ⟨x0, v0, K2, Q, S, hx, sk, ht, T, hy, sl, hu, w9⟩ := w
  obtain ⟨w1, w2, w3, w4, hQ, w6, w7⟩ := id w9
  exact x_C_mono (c_X8_honey hO hP hQ w6 (wC_p w9) w1 rfl rfl hk9) (fun u M1 q => by obtain ⟨rfl, rfl⟩ := q; exact ⟨rfl, cQ_self w0⟩)
theorem cw_isQueenAwake {l : Launch} {Y0 : x_Y} (hO : x_Ok Y0) {M : x_M} {c n : Nat} {f : Nat → Int32} {P : PL} {A : HS} {ep : Int32} (hP : p_ok P) (hk9 : h_ok P A) (w : wC M c n f P A ep) : x_C l Y0 yX8_isQueenAwake cX8_isQueenAwake 1 (some .boolean) 1 0 0 [.ref c] M (fun u M1 => u = some (.int (1 - A 1 8)) ∧ cQ M M1 c (n) (f) P (A) ep) := by
  have w0 := w
  obtain ⟨x0, v0, K2, Q, S, hx, sk, ht, T, hy, sl, hu, w9⟩ := w
  obtain ⟨w1, w2, w3, w4, hQ, w6, w7⟩ := id w9
  exact x_C_mono (c_X8_isQueenAwake hO hP hQ w6 (wC_p w9) w1 rfl rfl hk9) (fun u M1 q => by obtain ⟨rfl, rfl⟩ := q; exact ⟨rfl, cQ_self w0⟩)
theorem cw_meanHoney {l : Launch} {Y0 : x_Y} (hO : x_Ok Y0) {M : x_M} {c n : Nat} {f : Nat → Int32} {P : PL} {A : HS} {ep : Int32} (hP : p_ok P) (hk9 : h_ok P A) (w : wC M c n f P A ep) : x_C l Y0 yX8_meanHoney cX8_meanHoney 2 (some .double) 4 0 0 [.ref c] M (fun u M1 => u = some (.double (h_mean P A)) ∧ cQ M M1 c (n) (f) P (A) ep) := by
  have w0 := w
  obtain ⟨x0, v0, K2, Q, S, hx, sk, ht, T, hy, sl, hu, w9⟩ := w
  obtain ⟨w1, w2, w3, w4, hQ, w6, w7⟩ := id w9
  exact x_C_mono (c_X8_meanHoney hO hP hQ w6 (wC_p w9) w1 rfl rfl hk9) (fun u M1 q => by obtain ⟨rfl, rfl⟩ := q; exact ⟨rfl, cQ_self w0⟩)
theorem cw_errorAt {l : Launch} {Y0 : x_Y} (hO : x_Ok Y0) {M : x_M} {c n : Nat} {f : Nat → Int32} {P : PL} {A : HS} {ep : Int32} (hP : p_ok P) (hk9 : h_ok P A) (w : wC M c n f P A ep) : x_C l Y0 yX8_errorAt cX8_errorAt 1 (some .int) 1 0 0 [.ref c] M (fun u M1 => u = some (.int ep) ∧ cQ M M1 c (n) (f) P (A) ep) := by
  have w0 := w
  obtain ⟨x0, v0, K2, Q, S, hx, sk, ht, T, hy, sl, hu, w9⟩ := w
  obtain ⟨w1, w2, w3, w4, hQ, w6, w7⟩ := id w9
  exact x_C_mono (c_X8_errorAt hO w1 rfl) (fun u M1 q => by obtain ⟨rfl, rfl⟩ := q; exact ⟨rfl, cQ_self w0⟩)
theorem cw_honeyOf {l : Launch} {Y0 : x_Y} (hO : x_Ok Y0) {M : x_M} {c n : Nat} {f : Nat → Int32} {P : PL} {A : HS} {ep : Int32} (hP : p_ok P) (hk9 : h_ok P A) (w : wC M c n f P A ep) {d : Nat} (hd9 : d < p_nd P) : x_C l Y0 yX8_honeyOf cX8_honeyOf 2 (some .int) 3 0 0 [.ref c, .int (nI d)] M (fun u M1 => u = some (.int (A 0 d)) ∧ cQ M M1 c (n) (f) P (A) ep) := by
  have w0 := w
  obtain ⟨x0, v0, K2, Q, S, hx, sk, ht, T, hy, sl, hu, w9⟩ := w
  obtain ⟨w1, w2, w3, w4, hQ, w6, w7⟩ := id w9
  exact x_C_mono (c_X8_honeyOf hO hP hQ w6 (wC_p w9) w1 rfl rfl hk9 hd9) (fun u M1 q => by obtain ⟨rfl, rfl⟩ := q; exact ⟨rfl, cQ_self w0⟩)
theorem cw_isAwake {l : Launch} {Y0 : x_Y} (hO : x_Ok Y0) {M : x_M} {c n : Nat} {f : Nat → Int32} {P : PL} {A : HS} {ep : Int32} (hP : p_ok P) (hk9 : h_ok P A) (w : wC M c n f P A ep) {d : Nat} (hd9 : d < p_nd P) : x_C l Y0 yX8_isAwake cX8_isAwake 2 (some .boolean) 3 0 0 [.ref c, .int (nI d)] M (fun u M1 => u = some (.int (h_upI A d)) ∧ cQ M M1 c (n) (f) P (A) ep) := by
  have w0 := w
  obtain ⟨x0, v0, K2, Q, S, hx, sk, ht, T, hy, sl, hu, w9⟩ := w
  obtain ⟨w1, w2, w3, w4, hQ, w6, w7⟩ := id w9
  exact x_C_mono (c_X8_isAwake hO hP hQ w6 (wC_p w9) w1 rfl rfl hk9 hd9) (fun u M1 q => by obtain ⟨rfl, rfl⟩ := q; exact ⟨rfl, cQ_self w0⟩)
theorem cw_blockedBy {l : Launch} {Y0 : x_Y} (hO : x_Ok Y0) {M : x_M} {c n : Nat} {f : Nat → Int32} {P : PL} {A : HS} {ep : Int32} (hP : p_ok P) (hk9 : h_ok P A) (w : wC M c n f P A ep) {d : Nat} (hd9 : d < p_nd P) : x_C l Y0 yX8_blockedBy cX8_blockedBy 2 (some .int) 3 0 0 [.ref c, .int (nI d)] M (fun u M1 => u = some (.int (A 2 d)) ∧ cQ M M1 c (n) (f) P (A) ep) := by
  have w0 := w
  obtain ⟨x0, v0, K2, Q, S, hx, sk, ht, T, hy, sl, hu, w9⟩ := w
  obtain ⟨w1, w2, w3, w4, hQ, w6, w7⟩ := id w9
  exact x_C_mono (c_X8_blockedBy hO hP hQ w6 (wC_p w9) w1 rfl rfl hk9 hd9) (fun u M1 q => by obtain ⟨rfl, rfl⟩ := q; exact ⟨rfl, cQ_self w0⟩)
theorem cw_logOf {l : Launch} {Y0 : x_Y} (hO : x_Ok Y0) {M : x_M} {c n : Nat} {f : Nat → Int32} {P : PL} {A : HS} {ep : Int32} (hP : p_ok P) (hk9 : h_ok P A) (w : wC M c n f P A ep) {d : Nat} (hd9 : d < p_nd P) : x_C l Y0 yX8_logOf cX8_logOf 2 (some .int) 3 0 0 [.ref c, .int (nI d)] M (fun u M1 => u = some (.int (A 3 d)) ∧ cQ M M1 c (n) (f) P (A) ep) := by
  have w0 := w
  obtain ⟨x0, v0, K2, Q, S, hx, sk, ht, T, hy, sl, hu, w9⟩ := w
  obtain ⟨w1, w2, w3, w4, hQ, w6, w7⟩ := id w9
  exact x_C_mono (c_X8_logOf hO hP hQ w6 (wC_p w9) w1 rfl rfl hk9 hd9) (fun u M1 q => by obtain ⟨rfl, rfl⟩ := q; exact ⟨rfl, cQ_self w0⟩)
theorem cw_stateOf {l : Launch} {Y0 : x_Y} (hO : x_Ok Y0) {M : x_M} {c n : Nat} {f : Nat → Int32} {P : PL} {A : HS} {ep : Int32} (hP : p_ok P) (hk9 : h_ok P A) (w : wC M c n f P A ep) {k : Nat} (hk : k < p_nk P) : x_C l Y0 yX8_stateOf cX8_stateOf 2 (some .int) 3 0 0 [.ref c, .int (nI k)] M (fun u M1 => u = some (.int (A 4 k)) ∧ cQ M M1 c (n) (f) P (A) ep) := by
  have w0 := w
  obtain ⟨x0, v0, K2, Q, S, hx, sk, ht, T, hy, sl, hu, w9⟩ := w
  obtain ⟨w1, w2, w3, w4, hQ, w6, w7⟩ := id w9
  exact x_C_mono (c_X8_stateOf hO hP hQ w6 (wC_p w9) w1 rfl rfl hk9 hk) (fun u M1 q => by obtain ⟨rfl, rfl⟩ := q; exact ⟨rfl, cQ_self w0⟩)
theorem cw_waitsOf {l : Launch} {Y0 : x_Y} (hO : x_Ok Y0) {M : x_M} {c n : Nat} {f : Nat → Int32} {P : PL} {A : HS} {ep : Int32} (hP : p_ok P) (hk9 : h_ok P A) (w : wC M c n f P A ep) {k : Nat} (hk : k < p_nk P) : x_C l Y0 yX8_waitsOf cX8_waitsOf 2 (some .int) 3 0 0 [.ref c, .int (nI k)] M (fun u M1 => u = some (.int (h_waits A k)) ∧ cQ M M1 c (n) (f) P (A) ep) := by
  have w0 := w
  obtain ⟨x0, v0, K2, Q, S, hx, sk, ht, T, hy, sl, hu, w9⟩ := w
  obtain ⟨w1, w2, w3, w4, hQ, w6, w7⟩ := id w9
  exact x_C_mono (c_X8_waitsOf hO hP hQ w6 (wC_p w9) w1 rfl rfl hk9 hk) (fun u M1 q => by obtain ⟨rfl, rfl⟩ := q; exact ⟨rfl, cQ_self w0⟩)
theorem cw_partsOf {l : Launch} {Y0 : x_Y} (hO : x_Ok Y0) {M : x_M} {c n : Nat} {f : Nat → Int32} {P : PL} {A : HS} {ep : Int32} (hP : p_ok P) (hk9 : h_ok P A) (w : wC M c n f P A ep) {k : Nat} (hk : k < p_nk P) : x_C l Y0 yX8_partsOf cX8_partsOf 2 (some .int) 3 0 0 [.ref c, .int (nI k)] M (fun u M1 => u = some (.int (nI (p_np P k))) ∧ cQ M M1 c (n) (f) P (A) ep) := by
  have w0 := w
  obtain ⟨x0, v0, K2, Q, S, hx, sk, ht, T, hy, sl, hu, w9⟩ := w
  obtain ⟨w1, w2, w3, w4, hQ, w6, w7⟩ := id w9
  exact x_C_mono (c_X8_partsOf hO hP hQ w6 (wC_p w9) w1 rfl rfl hk9 hk) (fun u M1 q => by obtain ⟨rfl, rfl⟩ := q; exact ⟨rfl, cQ_self w0⟩)
theorem cw_votesFor {l : Launch} {Y0 : x_Y} (hO : x_Ok Y0) {M : x_M} {c n : Nat} {f : Nat → Int32} {P : PL} {A : HS} {ep : Int32} (hP : p_ok P) (hk9 : h_ok P A) (w : wC M c n f P A ep) {k : Nat} (hk : k < p_nk P) : x_C l Y0 yX8_votesFor cX8_votesFor 2 (some .int) 3 0 0 [.ref c, .int (nI k)] M (fun u M1 => u = some (.int (h_votes P A k 1)) ∧ cQ M M1 c (n) (f) P (A) ep) := by
  have w0 := w
  obtain ⟨x0, v0, K2, Q, S, hx, sk, ht, T, hy, sl, hu, w9⟩ := w
  obtain ⟨w1, w2, w3, w4, hQ, w6, w7⟩ := id w9
  exact x_C_mono (c_X8_votesFor hO hP hQ w6 (wC_p w9) w1 rfl rfl hk9 hk) (fun u M1 q => by obtain ⟨rfl, rfl⟩ := q; exact ⟨rfl, cQ_self w0⟩)
theorem cw_wouldAgree {l : Launch} {Y0 : x_Y} (hO : x_Ok Y0) {M : x_M} {c n : Nat} {f : Nat → Int32} {P : PL} {A : HS} {ep : Int32} (hP : p_ok P) (hk9 : h_ok P A) (w : wC M c n f P A ep) {k : Nat} (hk : k < p_nk P) : x_C l Y0 yX8_wouldAgree cX8_wouldAgree 2 (some .boolean) 4 0 0 [.ref c, .int (nI k)] M (fun u M1 => u = some (.int (h_b (h_agrAll P A k))) ∧ cQ M M1 c (n) (f) P (A) ep) := by
  have w0 := w
  obtain ⟨x0, v0, K2, Q, S, hx, sk, ht, T, hy, sl, hu, w9⟩ := w
  obtain ⟨w1, w2, w3, w4, hQ, w6, w7⟩ := id w9
  exact x_C_mono (c_X8_wouldAgree hO hP hQ w6 (wC_p w9) w1 rfl rfl hk9 hk) (fun u M1 q => by obtain ⟨rfl, rfl⟩ := q; exact ⟨rfl, cQ_self w0⟩)
theorem cw_droneIn {l : Launch} {Y0 : x_Y} (hO : x_Ok Y0) {M : x_M} {c n : Nat} {f : Nat → Int32} {P : PL} {A : HS} {ep : Int32} (hP : p_ok P) (hk9 : h_ok P A) (w : wC M c n f P A ep) {k : Nat} (hk : k < p_nk P) {j : Nat} (hj : j < p_np P k) : x_C l Y0 yX8_droneIn cX8_droneIn 3 (some .int) 3 0 0 [.ref c, .int (nI k), .int (nI j)] M (fun u M1 => u = some (.int (nI (p_who P (6 * k + j)))) ∧ cQ M M1 c (n) (f) P (A) ep) := by
  have w0 := w
  obtain ⟨x0, v0, K2, Q, S, hx, sk, ht, T, hy, sl, hu, w9⟩ := w
  obtain ⟨w1, w2, w3, w4, hQ, w6, w7⟩ := id w9
  exact x_C_mono (c_X8_droneIn hO hP hQ w6 (wC_p w9) w1 rfl rfl hk9 hk hj) (fun u M1 q => by obtain ⟨rfl, rfl⟩ := q; exact ⟨rfl, cQ_self w0⟩)
theorem cw_changeIn {l : Launch} {Y0 : x_Y} (hO : x_Ok Y0) {M : x_M} {c n : Nat} {f : Nat → Int32} {P : PL} {A : HS} {ep : Int32} (hP : p_ok P) (hk9 : h_ok P A) (w : wC M c n f P A ep) {k : Nat} (hk : k < p_nk P) {j : Nat} (hj : j < p_np P k) : x_C l Y0 yX8_changeIn cX8_changeIn 3 (some .int) 3 0 0 [.ref c, .int (nI k), .int (nI j)] M (fun u M1 => u = some (.int (p_mv P (6 * k + j))) ∧ cQ M M1 c (n) (f) P (A) ep) := by
  have w0 := w
  obtain ⟨x0, v0, K2, Q, S, hx, sk, ht, T, hy, sl, hu, w9⟩ := w
  obtain ⟨w1, w2, w3, w4, hQ, w6, w7⟩ := id w9
  exact x_C_mono (c_X8_changeIn hO hP hQ w6 (wC_p w9) w1 rfl rfl hk9 hk hj) (fun u M1 q => by obtain ⟨rfl, rfl⟩ := q; exact ⟨rfl, cQ_self w0⟩)
theorem cw_voteIn {l : Launch} {Y0 : x_Y} (hO : x_Ok Y0) {M : x_M} {c n : Nat} {f : Nat → Int32} {P : PL} {A : HS} {ep : Int32} (hP : p_ok P) (hk9 : h_ok P A) (w : wC M c n f P A ep) {k : Nat} (hk : k < p_nk P) {j : Nat} (hj : j < p_np P k) : x_C l Y0 yX8_voteIn cX8_voteIn 3 (some .int) 3 0 0 [.ref c, .int (nI k), .int (nI j)] M (fun u M1 => u = some (.int (A 6 (6 * k + j))) ∧ cQ M M1 c (n) (f) P (A) ep) := by
  have w0 := w
  obtain ⟨x0, v0, K2, Q, S, hx, sk, ht, T, hy, sl, hu, w9⟩ := w
  obtain ⟨w1, w2, w3, w4, hQ, w6, w7⟩ := id w9
  exact x_C_mono (c_X8_voteIn hO hP hQ w6 (wC_p w9) w1 rfl rfl hk9 hk hj) (fun u M1 q => by obtain ⟨rfl, rfl⟩ := q; exact ⟨rfl, cQ_self w0⟩)
theorem cw_hasHeard {l : Launch} {Y0 : x_Y} (hO : x_Ok Y0) {M : x_M} {c n : Nat} {f : Nat → Int32} {P : PL} {A : HS} {ep : Int32} (hP : p_ok P) (hk9 : h_ok P A) (w : wC M c n f P A ep) {k : Nat} (hk : k < p_nk P) {j : Nat} (hj : j < p_np P k) : x_C l Y0 yX8_hasHeard cX8_hasHeard 3 (some .boolean) 3 0 0 [.ref c, .int (nI k), .int (nI j)] M (fun u M1 => u = some (.int (A 7 (6 * k + j))) ∧ cQ M M1 c (n) (f) P (A) ep) := by
  have w0 := w
  obtain ⟨x0, v0, K2, Q, S, hx, sk, ht, T, hy, sl, hu, w9⟩ := w
  obtain ⟨w1, w2, w3, w4, hQ, w6, w7⟩ := id w9
  exact x_C_mono (c_X8_hasHeard hO hP hQ w6 (wC_p w9) w1 rfl rfl hk9 hk hj) (fun u M1 q => by obtain ⟨rfl, rfl⟩ := q; exact ⟨rfl, cQ_self w0⟩)
theorem cw_begin {l : Launch} {Y0 : x_Y} (hO : x_Ok Y0) {M : x_M} {c n : Nat} {f : Nat → Int32} {P : PL} {A : HS} {ep : Int32} (hP : p_ok P) (hk9 : h_ok P A) (w : wC M c n f P A ep) {k : Nat} (hk : k < p_nk P) (hcan : h_can P A k = true) : x_C l Y0 yX8_begin cX8_begin 2 (some .int) 4 0 0 [.ref c, .int (nI k)] M (fun u M1 => u = some (.int (h_begun P (h_begin P A k))) ∧ cQ M M1 c (n) (f) P (h_begin P A k) ep) := by
  have w0 := w
  obtain ⟨x0, v0, K2, Q, S, hx, sk, ht, T, hy, sl, hu, w9⟩ := w
  obtain ⟨w1, w2, w3, w4, hQ, w6, w7⟩ := id w9
  exact x_C_mono (c_X8_begin hO hP hQ w6 (wC_p w9) w1 rfl rfl hk9 (Or.inl (by omega)) (Or.inl (by omega)) hk hcan) (fun u M1 q => by obtain ⟨rfl, rfl⟩ := q; exact ⟨rfl, cQ_now w9⟩)
theorem cw_crash {l : Launch} {Y0 : x_Y} (hO : x_Ok Y0) {M : x_M} {c n : Nat} {f : Nat → Int32} {P : PL} {A : HS} {ep : Int32} (hP : p_ok P) (hk9 : h_ok P A) (w : wC M c n f P A ep) {d : Nat} (hd9 : d < p_nd P) (hu9 : A 1 d = 0) : x_C l Y0 yX8_crash cX8_crash 2 (some .int) 4 0 0 [.ref c, .int (nI d)] M (fun u M1 => u = some (.int (h_awake P (h_u A 1 d 1))) ∧ cQ M M1 c (n) (f) P (h_u A 1 d 1) ep) := by
  have w0 := w
  obtain ⟨x0, v0, K2, Q, S, hx, sk, ht, T, hy, sl, hu, w9⟩ := w
  obtain ⟨w1, w2, w3, w4, hQ, w6, w7⟩ := id w9
  exact x_C_mono (c_X8_crash hO hP hQ w6 (wC_p w9) w1 rfl rfl hk9 (Or.inl (by omega)) (Or.inl (by omega)) hd9 hu9) (fun u M1 q => by obtain ⟨rfl, rfl⟩ := q; exact ⟨rfl, cQ_now w9⟩)
theorem cw_wake {l : Launch} {Y0 : x_Y} (hO : x_Ok Y0) {M : x_M} {c n : Nat} {f : Nat → Int32} {P : PL} {A : HS} {ep : Int32} (hP : p_ok P) (hk9 : h_ok P A) (w : wC M c n f P A ep) {d : Nat} (hd9 : d < p_nd P) (hu9 : ¬ A 1 d = 0) : x_C l Y0 yX8_wake cX8_wake 2 (some .int) 4 0 0 [.ref c, .int (nI d)] M (fun u M1 => u = some (.int (h_awake P (h_u A 1 d 0))) ∧ cQ M M1 c (n) (f) P (h_u A 1 d 0) ep) := by
  have w0 := w
  obtain ⟨x0, v0, K2, Q, S, hx, sk, ht, T, hy, sl, hu, w9⟩ := w
  obtain ⟨w1, w2, w3, w4, hQ, w6, w7⟩ := id w9
  exact x_C_mono (c_X8_wake hO hP hQ w6 (wC_p w9) w1 rfl rfl hk9 (Or.inl (by omega)) (Or.inl (by omega)) hd9 hu9) (fun u M1 q => by obtain ⟨rfl, rfl⟩ := q; exact ⟨rfl, cQ_now w9⟩)
theorem cw_crashQueen {l : Launch} {Y0 : x_Y} (hO : x_Ok Y0) {M : x_M} {c n : Nat} {f : Nat → Int32} {P : PL} {A : HS} {ep : Int32} (hP : p_ok P) (hk9 : h_ok P A) (w : wC M c n f P A ep) (hu9 : A 1 8 = 0) : x_C l Y0 yX8_crashQueen cX8_crashQueen 1 (some .int) 4 0 0 [.ref c] M (fun u M1 => u = some (.int (h_begun P (h_u A 1 8 1))) ∧ cQ M M1 c (n) (f) P (h_u A 1 8 1) ep) := by
  have w0 := w
  obtain ⟨x0, v0, K2, Q, S, hx, sk, ht, T, hy, sl, hu, w9⟩ := w
  obtain ⟨w1, w2, w3, w4, hQ, w6, w7⟩ := id w9
  exact x_C_mono (c_X8_crashQueen hO hP hQ w6 (wC_p w9) w1 rfl rfl hk9 (Or.inl (by omega)) (Or.inl (by omega)) hu9) (fun u M1 q => by obtain ⟨rfl, rfl⟩ := q; exact ⟨rfl, cQ_now w9⟩)
theorem cw_wakeQueen {l : Launch} {Y0 : x_Y} (hO : x_Ok Y0) {M : x_M} {c n : Nat} {f : Nat → Int32} {P : PL} {A : HS} {ep : Int32} (hP : p_ok P) (hk9 : h_ok P A) (w : wC M c n f P A ep) (hu9 : ¬ A 1 8 = 0) : x_C l Y0 yX8_wakeQueen cX8_wakeQueen 2 (some .int) 4 0 0 [.ref c] M (fun u M1 => u = some (.int (h_begun P A)) ∧ cQ M M1 c (n) (f) P (h_refuse P (h_u A 1 8 0)) ep) := by
  have w0 := w
  obtain ⟨x0, v0, K2, Q, S, hx, sk, ht, T, hy, sl, hu, w9⟩ := w
  obtain ⟨w1, w2, w3, w4, hQ, w6, w7⟩ := id w9
  exact x_C_mono (c_X8_wakeQueen hO hP hQ w6 (wC_p w9) w1 rfl rfl hk9 (Or.inl (by omega)) (Or.inl (by omega)) hu9) (fun u M1 q => by obtain ⟨rfl, rfl⟩ := q; exact ⟨rfl, cQ_now w9⟩)
theorem cw_passDays {l : Launch} {Y0 : x_Y} (hO : x_Ok Y0) {M : x_M} {c n : Nat} {f : Nat → Int32} {P : PL} {A : HS} {ep : Int32} (hP : p_ok P) (hk9 : h_ok P A) (w : wC M c n f P A ep) {n9 : Nat} (hn1 : 1 ≤ n9) (hn30 : n9 ≤ 30) : x_C l Y0 yX8_passDays cX8_passDays 4 (some .int) 7 0 0 [.ref c, .int (nI n9)] M (fun u M1 => u = some (.int (h_it (h_pass P) n9 (A, 0)).2) ∧ cQ M M1 c (n) (f) P ((h_it (h_pass P) n9 (A, 0)).1) ep) := by
  have w0 := w
  obtain ⟨x0, v0, K2, Q, S, hx, sk, ht, T, hy, sl, hu, w9⟩ := w
  obtain ⟨w1, w2, w3, w4, hQ, w6, w7⟩ := id w9
  exact x_C_mono (c_X8_passDays hO hP hQ w6 (wC_p w9) w1 rfl rfl hk9 (Or.inl (by omega)) (Or.inl (by omega)) hn1 hn30) (fun u M1 q => by obtain ⟨rfl, sk1, ht1, rfl⟩ := q; exact ⟨rfl, cQ_now w9⟩)
theorem cw_honeyAfter {l : Launch} {Y0 : x_Y} (hO : x_Ok Y0) {M : x_M} {c n : Nat} {f : Nat → Int32} {P : PL} {A : HS} {ep : Int32} (hP : p_ok P) (hk9 : h_ok P A) (w : wC M c n f P A ep) {d : Nat} (hd9 : d < p_nd P) {n9 : Nat} (hn1 : 1 ≤ n9) (hn30 : n9 ≤ 30) : x_C l Y0 yX8_honeyAfter cX8_honeyAfter 3 (some .int) 8 0 0 [.ref c, .int (nI d), .int (nI n9)] M (fun u M1 => u = some (.int ((h_it (h_pass P) n9 (A, 0)).1 0 d)) ∧ cQ M M1 c (n) (f) P (A) ep) := by
  have w0 := w
  obtain ⟨x0, v0, K2, Q, S, hx, sk, ht, T, hy, sl, hu, w9⟩ := w
  obtain ⟨w1, w2, w3, w4, hQ, w6, w7⟩ := id w9
  exact x_C_mono (c_X8_honeyAfter hO hP hQ w6 (wC_p w9) w1 rfl rfl hk9 rfl w7 (Or.inl (by omega)) (Or.inl (by omega)) (Or.inl (by omega)) hd9 hn1 hn30) (fun u M1 q => by obtain ⟨rfl, sk1, ht1, rfl⟩ := q; exact ⟨rfl, cQ_trial w9⟩)
theorem cw_stateAfter {l : Launch} {Y0 : x_Y} (hO : x_Ok Y0) {M : x_M} {c n : Nat} {f : Nat → Int32} {P : PL} {A : HS} {ep : Int32} (hP : p_ok P) (hk9 : h_ok P A) (w : wC M c n f P A ep) {k : Nat} (hk : k < p_nk P) {n9 : Nat} (hn1 : 1 ≤ n9) (hn30 : n9 ≤ 30) : x_C l Y0 yX8_stateAfter cX8_stateAfter 3 (some .int) 8 0 0 [.ref c, .int (nI k), .int (nI n9)] M (fun u M1 => u = some (.int ((h_it (h_pass P) n9 (A, 0)).1 4 k)) ∧ cQ M M1 c (n) (f) P (A) ep) := by
  have w0 := w
  obtain ⟨x0, v0, K2, Q, S, hx, sk, ht, T, hy, sl, hu, w9⟩ := w
  obtain ⟨w1, w2, w3, w4, hQ, w6, w7⟩ := id w9
  exact x_C_mono (c_X8_stateAfter hO hP hQ w6 (wC_p w9) w1 rfl rfl hk9 rfl w7 (Or.inl (by omega)) (Or.inl (by omega)) (Or.inl (by omega)) hk hn1 hn30) (fun u M1 q => by obtain ⟨rfl, sk1, ht1, rfl⟩ := q; exact ⟨rfl, cQ_trial w9⟩)
theorem cw_daysUntilFree {l : Launch} {Y0 : x_Y} (hO : x_Ok Y0) {M : x_M} {c n : Nat} {f : Nat → Int32} {P : PL} {A : HS} {ep : Int32} (hP : p_ok P) (hk9 : h_ok P A) (w : wC M c n f P A ep) {d : Nat} (hd9 : d < p_nd P) : x_C l Y0 yX8_daysUntilFree cX8_daysUntilFree 3 (some .int) 7 0 0 [.ref c, .int (nI d)] M (fun u M1 => u = some (.int (h_fr P d 40 0 A)) ∧ cQ M M1 c (n) (f) P (A) ep) := by
  have w0 := w
  obtain ⟨x0, v0, K2, Q, S, hx, sk, ht, T, hy, sl, hu, w9⟩ := w
  obtain ⟨w1, w2, w3, w4, hQ, w6, w7⟩ := id w9
  exact x_C_mono (c_X8_daysUntilFree hO hP hQ w6 (wC_p w9) w1 rfl rfl hk9 rfl w7 (Or.inl (by omega)) (Or.inl (by omega)) (Or.inl (by omega)) hd9) (fun u M1 q => by obtain ⟨rfl, B, sk1, ht1, rfl⟩ := q; exact ⟨rfl, cQ_trial w9⟩)
theorem cw_bestToWake {l : Launch} {Y0 : x_Y} (hO : x_Ok Y0) {M : x_M} {c n : Nat} {f : Nat → Int32} {P : PL} {A : HS} {ep : Int32} (hP : p_ok P) (hk9 : h_ok P A) (w : wC M c n f P A ep) : x_C l Y0 yX8_bestToWake cX8_bestToWake 5 (some .int) 7 0 0 [.ref c] M (fun u M1 => u = some (.int (h_best P A)) ∧ cQ M M1 c (n) (f) P (A) ep) := by
  have w0 := w
  obtain ⟨x0, v0, K2, Q, S, hx, sk, ht, T, hy, sl, hu, w9⟩ := w
  obtain ⟨w1, w2, w3, w4, hQ, w6, w7⟩ := id w9
  exact x_C_mono (c_X8_bestToWake hO hP hQ w6 (wC_p w9) w1 rfl rfl hk9 rfl w7 (Or.inl (by omega)) (Or.inl (by omega)) (Or.inl (by omega))) (fun u M1 q => by obtain ⟨rfl, B, hy1, sk1, ht1, rfl⟩ := q; exact ⟨rfl, cQ_trial w9⟩)
theorem cw_digest {l : Launch} {Y0 : x_Y} (hO : x_Ok Y0) {M : x_M} {c n : Nat} {f : Nat → Int32} {P : PL} {A : HS} {ep : Int32} (hP : p_ok P) (hk9 : h_ok P A) (w : wC M c n f P A ep) : x_C l Y0 yX8_digest cX8_digest 5 (some .long) 9 0 0 [.ref c] M (fun u M1 => u = some (.long (h_digest P A)) ∧ cQ M M1 c (n) (f) P (A) ep) := by
  have w0 := w
  obtain ⟨x0, v0, K2, Q, S, hx, sk, ht, T, hy, sl, hu, w9⟩ := w
  obtain ⟨w1, w2, w3, w4, hQ, w6, w7⟩ := id w9
  exact x_C_mono (c_X8_digest hO hP hQ w6 (wC_p w9) w1 rfl rfl hk9 rfl w7 (Or.inl (by omega)) (Or.inl (by omega)) (Or.inl (by omega))) (fun u M1 q => by obtain ⟨rfl, B, hy1, sk1, ht1, rfl⟩ := q; exact ⟨rfl, cQ_trial w9⟩)
theorem cw_feed {l : Launch} {Y0 : x_Y} (hO : x_Ok Y0) {M : x_M} {c n : Nat} {f : Nat → Int32} {P : PL} {A : HS} {ep : Int32} (hP : p_ok P) (hk9 : h_ok P A) (w : wC M c n f P A ep) {x1 x2 x3 x4 x5 : Int32} (hn : n ≤ 1980) : x_C l Y0 yX8_feed cX8_feed 6 (some .int) 3 0 0 [.ref c, .int x1, .int x2, .int x3, .int x4, .int x5] M (fun u M1 => u = some (.int (nI (n + 20))) ∧ cQ M M1 c (n + 20) (b_feed f n x1 x2 x3 x4 x5) P (A) ep) := by
  have w0 := w
  obtain ⟨x0, v0, K2, Q, S, hx, sk, ht, T, hy, sl, hu, w9⟩ := w
  obtain ⟨w1, w2, w3, w4, hQ, w6, w7⟩ := id w9
  exact x_C_mono (c_X8_feed hO w2 w1 rfl (Or.inl (Nat.le_refl _)) hn) (fun u M1 q => by obtain ⟨rfl, rfl⟩ := q; exact ⟨rfl, cQ_tape w9⟩)
theorem cw_trim {l : Launch} {Y0 : x_Y} (hO : x_Ok Y0) {M : x_M} {c n : Nat} {f : Nat → Int32} {P : PL} {A : HS} {ep : Int32} (hP : p_ok P) (hk9 : h_ok P A) (w : wC M c n f P A ep) {k : Nat} (hk : k ≤ n) (hn : n ≤ 2000) : x_C l Y0 yX8_trim cX8_trim 2 (some .int) 1 0 0 [.ref c, .int (nI k)] M (fun u M1 => u = some (.int (nI k)) ∧ cQ M M1 c (k) (f) P (A) ep) := by
  have w0 := w
  obtain ⟨x0, v0, K2, Q, S, hx, sk, ht, T, hy, sl, hu, w9⟩ := w
  obtain ⟨w1, w2, w3, w4, hQ, w6, w7⟩ := id w9
  exact x_C_mono (c_X8_trim hO w2 w1 rfl (Or.inl (Nat.le_refl _)) hk hn) (fun u M1 q => by obtain ⟨rfl, rfl⟩ := q; exact ⟨rfl, cQ_tape w9⟩)
theorem cw_honeyOfN {l : Launch} {Y0 : x_Y} (hO : x_Ok Y0) {M : x_M} {c n : Nat} {f : Nat → Int32} {P : PL} {A : HS} {ep : Int32} (hP : p_ok P) (hk9 : h_ok P A) (w : wC M c n f P A ep) (hX : x_Ex l Y0) {x : Int32} (hv : h_inR x (p_nd P) = false) : x_T l Y0 yX8_honeyOf cX8_honeyOf 2 (some .int) 7 1 6 [.ref c, .int x] M "java/lang/IndexOutOfBoundsException" := by
  have w0 := w
  obtain ⟨x0, v0, K2, Q, S, hx, sk, ht, T, hy, sl, hu, w9⟩ := w
  obtain ⟨w1, w2, w3, w4, hQ, w6, w7⟩ := id w9
  exact c_X8_honeyOfN hO hX hP hQ w6 (wC_p w9) w1 rfl rfl hk9 hv
theorem cw_isAwakeN {l : Launch} {Y0 : x_Y} (hO : x_Ok Y0) {M : x_M} {c n : Nat} {f : Nat → Int32} {P : PL} {A : HS} {ep : Int32} (hP : p_ok P) (hk9 : h_ok P A) (w : wC M c n f P A ep) (hX : x_Ex l Y0) {x : Int32} (hv : h_inR x (p_nd P) = false) : x_T l Y0 yX8_isAwake cX8_isAwake 2 (some .boolean) 7 1 6 [.ref c, .int x] M "java/lang/IndexOutOfBoundsException" := by
  have w0 := w
  obtain ⟨x0, v0, K2, Q, S, hx, sk, ht, T, hy, sl, hu, w9⟩ := w
  obtain ⟨w1, w2, w3, w4, hQ, w6, w7⟩ := id w9
  exact c_X8_isAwakeN hO hX hP hQ w6 (wC_p w9) w1 rfl rfl hk9 hv
theorem cw_blockedByN {l : Launch} {Y0 : x_Y} (hO : x_Ok Y0) {M : x_M} {c n : Nat} {f : Nat → Int32} {P : PL} {A : HS} {ep : Int32} (hP : p_ok P) (hk9 : h_ok P A) (w : wC M c n f P A ep) (hX : x_Ex l Y0) {x : Int32} (hv : h_inR x (p_nd P) = false) : x_T l Y0 yX8_blockedBy cX8_blockedBy 2 (some .int) 7 1 6 [.ref c, .int x] M "java/lang/IndexOutOfBoundsException" := by
  have w0 := w
  obtain ⟨x0, v0, K2, Q, S, hx, sk, ht, T, hy, sl, hu, w9⟩ := w
  obtain ⟨w1, w2, w3, w4, hQ, w6, w7⟩ := id w9
  exact c_X8_blockedByN hO hX hP hQ w6 (wC_p w9) w1 rfl rfl hk9 hv
theorem cw_logOfN {l : Launch} {Y0 : x_Y} (hO : x_Ok Y0) {M : x_M} {c n : Nat} {f : Nat → Int32} {P : PL} {A : HS} {ep : Int32} (hP : p_ok P) (hk9 : h_ok P A) (w : wC M c n f P A ep) (hX : x_Ex l Y0) {x : Int32} (hv : h_inR x (p_nd P) = false) : x_T l Y0 yX8_logOf cX8_logOf 2 (some .int) 7 1 6 [.ref c, .int x] M "java/lang/IndexOutOfBoundsException" := by
  have w0 := w
  obtain ⟨x0, v0, K2, Q, S, hx, sk, ht, T, hy, sl, hu, w9⟩ := w
  obtain ⟨w1, w2, w3, w4, hQ, w6, w7⟩ := id w9
  exact c_X8_logOfN hO hX hP hQ w6 (wC_p w9) w1 rfl rfl hk9 hv
theorem cw_crashN {l : Launch} {Y0 : x_Y} (hO : x_Ok Y0) {M : x_M} {c n : Nat} {f : Nat → Int32} {P : PL} {A : HS} {ep : Int32} (hP : p_ok P) (hk9 : h_ok P A) (w : wC M c n f P A ep) (hX : x_Ex l Y0) {x : Int32} (hv : h_inR x (p_nd P) = false) : x_T l Y0 yX8_crash cX8_crash 2 (some .int) 7 1 6 [.ref c, .int x] M "java/lang/IndexOutOfBoundsException" := by
  have w0 := w
  obtain ⟨x0, v0, K2, Q, S, hx, sk, ht, T, hy, sl, hu, w9⟩ := w
  obtain ⟨w1, w2, w3, w4, hQ, w6, w7⟩ := id w9
  exact c_X8_crashN hO hX hP hQ w6 (wC_p w9) w1 rfl rfl hk9 hv
theorem cw_wakeN {l : Launch} {Y0 : x_Y} (hO : x_Ok Y0) {M : x_M} {c n : Nat} {f : Nat → Int32} {P : PL} {A : HS} {ep : Int32} (hP : p_ok P) (hk9 : h_ok P A) (w : wC M c n f P A ep) (hX : x_Ex l Y0) {x : Int32} (hv : h_inR x (p_nd P) = false) : x_T l Y0 yX8_wake cX8_wake 2 (some .int) 7 1 6 [.ref c, .int x] M "java/lang/IndexOutOfBoundsException" := by
  have w0 := w
  obtain ⟨x0, v0, K2, Q, S, hx, sk, ht, T, hy, sl, hu, w9⟩ := w
  obtain ⟨w1, w2, w3, w4, hQ, w6, w7⟩ := id w9
  exact c_X8_wakeN hO hX hP hQ w6 (wC_p w9) w1 rfl rfl hk9 hv
theorem cw_daysUntilFreeN {l : Launch} {Y0 : x_Y} (hO : x_Ok Y0) {M : x_M} {c n : Nat} {f : Nat → Int32} {P : PL} {A : HS} {ep : Int32} (hP : p_ok P) (hk9 : h_ok P A) (w : wC M c n f P A ep) (hX : x_Ex l Y0) {x : Int32} (hv : h_inR x (p_nd P) = false) : x_T l Y0 yX8_daysUntilFree cX8_daysUntilFree 3 (some .int) 7 1 6 [.ref c, .int x] M "java/lang/IndexOutOfBoundsException" := by
  have w0 := w
  obtain ⟨x0, v0, K2, Q, S, hx, sk, ht, T, hy, sl, hu, w9⟩ := w
  obtain ⟨w1, w2, w3, w4, hQ, w6, w7⟩ := id w9
  exact c_X8_daysUntilFreeN hO hX hP hQ w6 (wC_p w9) w1 rfl rfl hk9 hv
theorem cw_stateOfN {l : Launch} {Y0 : x_Y} (hO : x_Ok Y0) {M : x_M} {c n : Nat} {f : Nat → Int32} {P : PL} {A : HS} {ep : Int32} (hP : p_ok P) (hk9 : h_ok P A) (w : wC M c n f P A ep) (hX : x_Ex l Y0) {x : Int32} (hv : h_inR x (p_nk P) = false) : x_T l Y0 yX8_stateOf cX8_stateOf 2 (some .int) 7 1 6 [.ref c, .int x] M "java/lang/IndexOutOfBoundsException" := by
  have w0 := w
  obtain ⟨x0, v0, K2, Q, S, hx, sk, ht, T, hy, sl, hu, w9⟩ := w
  obtain ⟨w1, w2, w3, w4, hQ, w6, w7⟩ := id w9
  exact c_X8_stateOfN hO hX hP hQ w6 (wC_p w9) w1 rfl rfl hk9 hv
theorem cw_waitsOfN {l : Launch} {Y0 : x_Y} (hO : x_Ok Y0) {M : x_M} {c n : Nat} {f : Nat → Int32} {P : PL} {A : HS} {ep : Int32} (hP : p_ok P) (hk9 : h_ok P A) (w : wC M c n f P A ep) (hX : x_Ex l Y0) {x : Int32} (hv : h_inR x (p_nk P) = false) : x_T l Y0 yX8_waitsOf cX8_waitsOf 2 (some .int) 7 1 6 [.ref c, .int x] M "java/lang/IndexOutOfBoundsException" := by
  have w0 := w
  obtain ⟨x0, v0, K2, Q, S, hx, sk, ht, T, hy, sl, hu, w9⟩ := w
  obtain ⟨w1, w2, w3, w4, hQ, w6, w7⟩ := id w9
  exact c_X8_waitsOfN hO hX hP hQ w6 (wC_p w9) w1 rfl rfl hk9 hv
theorem cw_partsOfN {l : Launch} {Y0 : x_Y} (hO : x_Ok Y0) {M : x_M} {c n : Nat} {f : Nat → Int32} {P : PL} {A : HS} {ep : Int32} (hP : p_ok P) (hk9 : h_ok P A) (w : wC M c n f P A ep) (hX : x_Ex l Y0) {x : Int32} (hv : h_inR x (p_nk P) = false) : x_T l Y0 yX8_partsOf cX8_partsOf 2 (some .int) 7 1 6 [.ref c, .int x] M "java/lang/IndexOutOfBoundsException" := by
  have w0 := w
  obtain ⟨x0, v0, K2, Q, S, hx, sk, ht, T, hy, sl, hu, w9⟩ := w
  obtain ⟨w1, w2, w3, w4, hQ, w6, w7⟩ := id w9
  exact c_X8_partsOfN hO hX hP hQ w6 (wC_p w9) w1 rfl rfl hk9 hv
theorem cw_votesForN {l : Launch} {Y0 : x_Y} (hO : x_Ok Y0) {M : x_M} {c n : Nat} {f : Nat → Int32} {P : PL} {A : HS} {ep : Int32} (hP : p_ok P) (hk9 : h_ok P A) (w : wC M c n f P A ep) (hX : x_Ex l Y0) {x : Int32} (hv : h_inR x (p_nk P) = false) : x_T l Y0 yX8_votesFor cX8_votesFor 2 (some .int) 7 1 6 [.ref c, .int x] M "java/lang/IndexOutOfBoundsException" := by
  have w0 := w
  obtain ⟨x0, v0, K2, Q, S, hx, sk, ht, T, hy, sl, hu, w9⟩ := w
  obtain ⟨w1, w2, w3, w4, hQ, w6, w7⟩ := id w9
  exact c_X8_votesForN hO hX hP hQ w6 (wC_p w9) w1 rfl rfl hk9 hv
theorem cw_wouldAgreeN {l : Launch} {Y0 : x_Y} (hO : x_Ok Y0) {M : x_M} {c n : Nat} {f : Nat → Int32} {P : PL} {A : HS} {ep : Int32} (hP : p_ok P) (hk9 : h_ok P A) (w : wC M c n f P A ep) (hX : x_Ex l Y0) {x : Int32} (hv : h_inR x (p_nk P) = false) : x_T l Y0 yX8_wouldAgree cX8_wouldAgree 2 (some .boolean) 7 1 6 [.ref c, .int x] M "java/lang/IndexOutOfBoundsException" := by
  have w0 := w
  obtain ⟨x0, v0, K2, Q, S, hx, sk, ht, T, hy, sl, hu, w9⟩ := w
  obtain ⟨w1, w2, w3, w4, hQ, w6, w7⟩ := id w9
  exact c_X8_wouldAgreeN hO hX hP hQ w6 (wC_p w9) w1 rfl rfl hk9 hv
theorem cw_beginN {l : Launch} {Y0 : x_Y} (hO : x_Ok Y0) {M : x_M} {c n : Nat} {f : Nat → Int32} {P : PL} {A : HS} {ep : Int32} (hP : p_ok P) (hk9 : h_ok P A) (w : wC M c n f P A ep) (hX : x_Ex l Y0) {x : Int32} (hv : h_inR x (p_nk P) = false) : x_T l Y0 yX8_begin cX8_begin 2 (some .int) 7 1 6 [.ref c, .int x] M "java/lang/IndexOutOfBoundsException" := by
  have w0 := w
  obtain ⟨x0, v0, K2, Q, S, hx, sk, ht, T, hy, sl, hu, w9⟩ := w
  obtain ⟨w1, w2, w3, w4, hQ, w6, w7⟩ := id w9
  exact c_X8_beginN hO hX hP hQ w6 (wC_p w9) w1 rfl rfl hk9 hv
theorem cw_honeyAfterN {l : Launch} {Y0 : x_Y} (hO : x_Ok Y0) {M : x_M} {c n : Nat} {f : Nat → Int32} {P : PL} {A : HS} {ep : Int32} (hP : p_ok P) (hk9 : h_ok P A) (w : wC M c n f P A ep) (hX : x_Ex l Y0) {x y : Int32} (hv : h_inR x (p_nd P) = false) : x_T l Y0 yX8_honeyAfter cX8_honeyAfter 3 (some .int) 7 1 6 [.ref c, .int x, .int y] M "java/lang/IndexOutOfBoundsException" := by
  have w0 := w
  obtain ⟨x0, v0, K2, Q, S, hx, sk, ht, T, hy, sl, hu, w9⟩ := w
  obtain ⟨w1, w2, w3, w4, hQ, w6, w7⟩ := id w9
  exact c_X8_honeyAfterN hO hX hP hQ w6 (wC_p w9) w1 rfl rfl hk9 hv
theorem cw_stateAfterN {l : Launch} {Y0 : x_Y} (hO : x_Ok Y0) {M : x_M} {c n : Nat} {f : Nat → Int32} {P : PL} {A : HS} {ep : Int32} (hP : p_ok P) (hk9 : h_ok P A) (w : wC M c n f P A ep) (hX : x_Ex l Y0) {x y : Int32} (hv : h_inR x (p_nk P) = false) : x_T l Y0 yX8_stateAfter cX8_stateAfter 3 (some .int) 7 1 6 [.ref c, .int x, .int y] M "java/lang/IndexOutOfBoundsException" := by
  have w0 := w
  obtain ⟨x0, v0, K2, Q, S, hx, sk, ht, T, hy, sl, hu, w9⟩ := w
  obtain ⟨w1, w2, w3, w4, hQ, w6, w7⟩ := id w9
  exact c_X8_stateAfterN hO hX hP hQ w6 (wC_p w9) w1 rfl rfl hk9 hv
theorem cw_droneInN {l : Launch} {Y0 : x_Y} (hO : x_Ok Y0) {M : x_M} {c n : Nat} {f : Nat → Int32} {P : PL} {A : HS} {ep : Int32} (hP : p_ok P) (hk9 : h_ok P A) (w : wC M c n f P A ep) (hX : x_Ex l Y0) {x y : Int32} (hv : h_inR x (p_nk P) = false) : x_T l Y0 yX8_droneIn cX8_droneIn 3 (some .int) 8 1 6 [.ref c, .int x, .int y] M "java/lang/IndexOutOfBoundsException" := by
  have w0 := w
  obtain ⟨x0, v0, K2, Q, S, hx, sk, ht, T, hy, sl, hu, w9⟩ := w
  obtain ⟨w1, w2, w3, w4, hQ, w6, w7⟩ := id w9
  exact c_X8_droneInN hO hX hP hQ w6 (wC_p w9) w1 rfl rfl hk9 hv
theorem cw_droneInM {l : Launch} {Y0 : x_Y} (hO : x_Ok Y0) {M : x_M} {c n : Nat} {f : Nat → Int32} {P : PL} {A : HS} {ep : Int32} (hP : p_ok P) (hk9 : h_ok P A) (w : wC M c n f P A ep) (hX : x_Ex l Y0) {k : Nat} (hk : k < p_nk P) {x : Int32} (hv : h_inR x (p_np P k) = false) : x_T l Y0 yX8_droneIn cX8_droneIn 3 (some .int) 8 1 6 [.ref c, .int (nI k), .int x] M "java/lang/IndexOutOfBoundsException" := by
  have w0 := w
  obtain ⟨x0, v0, K2, Q, S, hx, sk, ht, T, hy, sl, hu, w9⟩ := w
  obtain ⟨w1, w2, w3, w4, hQ, w6, w7⟩ := id w9
  exact c_X8_droneInM hO hX hP hQ w6 (wC_p w9) w1 rfl rfl hk9 hk hv
theorem cw_changeInN {l : Launch} {Y0 : x_Y} (hO : x_Ok Y0) {M : x_M} {c n : Nat} {f : Nat → Int32} {P : PL} {A : HS} {ep : Int32} (hP : p_ok P) (hk9 : h_ok P A) (w : wC M c n f P A ep) (hX : x_Ex l Y0) {x y : Int32} (hv : h_inR x (p_nk P) = false) : x_T l Y0 yX8_changeIn cX8_changeIn 3 (some .int) 8 1 6 [.ref c, .int x, .int y] M "java/lang/IndexOutOfBoundsException" := by
  have w0 := w
  obtain ⟨x0, v0, K2, Q, S, hx, sk, ht, T, hy, sl, hu, w9⟩ := w
  obtain ⟨w1, w2, w3, w4, hQ, w6, w7⟩ := id w9
  exact c_X8_changeInN hO hX hP hQ w6 (wC_p w9) w1 rfl rfl hk9 hv
theorem cw_changeInM {l : Launch} {Y0 : x_Y} (hO : x_Ok Y0) {M : x_M} {c n : Nat} {f : Nat → Int32} {P : PL} {A : HS} {ep : Int32} (hP : p_ok P) (hk9 : h_ok P A) (w : wC M c n f P A ep) (hX : x_Ex l Y0) {k : Nat} (hk : k < p_nk P) {x : Int32} (hv : h_inR x (p_np P k) = false) : x_T l Y0 yX8_changeIn cX8_changeIn 3 (some .int) 8 1 6 [.ref c, .int (nI k), .int x] M "java/lang/IndexOutOfBoundsException" := by
  have w0 := w
  obtain ⟨x0, v0, K2, Q, S, hx, sk, ht, T, hy, sl, hu, w9⟩ := w
  obtain ⟨w1, w2, w3, w4, hQ, w6, w7⟩ := id w9
  exact c_X8_changeInM hO hX hP hQ w6 (wC_p w9) w1 rfl rfl hk9 hk hv
theorem cw_voteInN {l : Launch} {Y0 : x_Y} (hO : x_Ok Y0) {M : x_M} {c n : Nat} {f : Nat → Int32} {P : PL} {A : HS} {ep : Int32} (hP : p_ok P) (hk9 : h_ok P A) (w : wC M c n f P A ep) (hX : x_Ex l Y0) {x y : Int32} (hv : h_inR x (p_nk P) = false) : x_T l Y0 yX8_voteIn cX8_voteIn 3 (some .int) 8 1 6 [.ref c, .int x, .int y] M "java/lang/IndexOutOfBoundsException" := by
  have w0 := w
  obtain ⟨x0, v0, K2, Q, S, hx, sk, ht, T, hy, sl, hu, w9⟩ := w
  obtain ⟨w1, w2, w3, w4, hQ, w6, w7⟩ := id w9
  exact c_X8_voteInN hO hX hP hQ w6 (wC_p w9) w1 rfl rfl hk9 hv
theorem cw_voteInM {l : Launch} {Y0 : x_Y} (hO : x_Ok Y0) {M : x_M} {c n : Nat} {f : Nat → Int32} {P : PL} {A : HS} {ep : Int32} (hP : p_ok P) (hk9 : h_ok P A) (w : wC M c n f P A ep) (hX : x_Ex l Y0) {k : Nat} (hk : k < p_nk P) {x : Int32} (hv : h_inR x (p_np P k) = false) : x_T l Y0 yX8_voteIn cX8_voteIn 3 (some .int) 8 1 6 [.ref c, .int (nI k), .int x] M "java/lang/IndexOutOfBoundsException" := by
  have w0 := w
  obtain ⟨x0, v0, K2, Q, S, hx, sk, ht, T, hy, sl, hu, w9⟩ := w
  obtain ⟨w1, w2, w3, w4, hQ, w6, w7⟩ := id w9
  exact c_X8_voteInM hO hX hP hQ w6 (wC_p w9) w1 rfl rfl hk9 hk hv
theorem cw_hasHeardN {l : Launch} {Y0 : x_Y} (hO : x_Ok Y0) {M : x_M} {c n : Nat} {f : Nat → Int32} {P : PL} {A : HS} {ep : Int32} (hP : p_ok P) (hk9 : h_ok P A) (w : wC M c n f P A ep) (hX : x_Ex l Y0) {x y : Int32} (hv : h_inR x (p_nk P) = false) : x_T l Y0 yX8_hasHeard cX8_hasHeard 3 (some .boolean) 8 1 6 [.ref c, .int x, .int y] M "java/lang/IndexOutOfBoundsException" := by
  have w0 := w
  obtain ⟨x0, v0, K2, Q, S, hx, sk, ht, T, hy, sl, hu, w9⟩ := w
  obtain ⟨w1, w2, w3, w4, hQ, w6, w7⟩ := id w9
  exact c_X8_hasHeardN hO hX hP hQ w6 (wC_p w9) w1 rfl rfl hk9 hv
theorem cw_hasHeardM {l : Launch} {Y0 : x_Y} (hO : x_Ok Y0) {M : x_M} {c n : Nat} {f : Nat → Int32} {P : PL} {A : HS} {ep : Int32} (hP : p_ok P) (hk9 : h_ok P A) (w : wC M c n f P A ep) (hX : x_Ex l Y0) {k : Nat} (hk : k < p_nk P) {x : Int32} (hv : h_inR x (p_np P k) = false) : x_T l Y0 yX8_hasHeard cX8_hasHeard 3 (some .boolean) 8 1 6 [.ref c, .int (nI k), .int x] M "java/lang/IndexOutOfBoundsException" := by
  have w0 := w
  obtain ⟨x0, v0, K2, Q, S, hx, sk, ht, T, hy, sl, hu, w9⟩ := w
  obtain ⟨w1, w2, w3, w4, hQ, w6, w7⟩ := id w9
  exact c_X8_hasHeardM hO hX hP hQ w6 (wC_p w9) w1 rfl rfl hk9 hk hv
theorem cw_beginE {l : Launch} {Y0 : x_Y} (hO : x_Ok Y0) {M : x_M} {c n : Nat} {f : Nat → Int32} {P : PL} {A : HS} {ep : Int32} (hP : p_ok P) (hk9 : h_ok P A) (w : wC M c n f P A ep) (hX : x_Ex l Y0) {k : Nat} (hk : k < p_nk P) (hcan : h_can P A k = false) : x_T l Y0 yX8_begin cX8_begin 2 (some .int) 6 1 6 [.ref c, .int (nI k)] M "java/lang/IllegalStateException" := by
  have w0 := w
  obtain ⟨x0, v0, K2, Q, S, hx, sk, ht, T, hy, sl, hu, w9⟩ := w
  obtain ⟨w1, w2, w3, w4, hQ, w6, w7⟩ := id w9
  exact c_X8_beginE hO hX hP hQ w6 (wC_p w9) w1 rfl rfl hk9 (Or.inl (by omega)) hk hcan
theorem cw_crashE {l : Launch} {Y0 : x_Y} (hO : x_Ok Y0) {M : x_M} {c n : Nat} {f : Nat → Int32} {P : PL} {A : HS} {ep : Int32} (hP : p_ok P) (hk9 : h_ok P A) (w : wC M c n f P A ep) (hX : x_Ex l Y0) {d : Nat} (hd9 : d < p_nd P) (hu9 : ¬ A 1 d = 0) : x_T l Y0 yX8_crash cX8_crash 2 (some .int) 6 1 6 [.ref c, .int (nI d)] M "java/lang/IllegalStateException" := by
  have w0 := w
  obtain ⟨x0, v0, K2, Q, S, hx, sk, ht, T, hy, sl, hu, w9⟩ := w
  obtain ⟨w1, w2, w3, w4, hQ, w6, w7⟩ := id w9
  exact c_X8_crashE hO hX hP hQ w6 (wC_p w9) w1 rfl rfl hk9 (Or.inl (by omega)) hd9 hu9
theorem cw_wakeE {l : Launch} {Y0 : x_Y} (hO : x_Ok Y0) {M : x_M} {c n : Nat} {f : Nat → Int32} {P : PL} {A : HS} {ep : Int32} (hP : p_ok P) (hk9 : h_ok P A) (w : wC M c n f P A ep) (hX : x_Ex l Y0) {d : Nat} (hd9 : d < p_nd P) (hu9 : A 1 d = 0) : x_T l Y0 yX8_wake cX8_wake 2 (some .int) 6 1 6 [.ref c, .int (nI d)] M "java/lang/IllegalStateException" := by
  have w0 := w
  obtain ⟨x0, v0, K2, Q, S, hx, sk, ht, T, hy, sl, hu, w9⟩ := w
  obtain ⟨w1, w2, w3, w4, hQ, w6, w7⟩ := id w9
  exact c_X8_wakeE hO hX hP hQ w6 (wC_p w9) w1 rfl rfl hk9 (Or.inl (by omega)) hd9 hu9
theorem cw_crashQueenE {l : Launch} {Y0 : x_Y} (hO : x_Ok Y0) {M : x_M} {c n : Nat} {f : Nat → Int32} {P : PL} {A : HS} {ep : Int32} (hP : p_ok P) (hk9 : h_ok P A) (w : wC M c n f P A ep) (hX : x_Ex l Y0) (hu9 : ¬ A 1 8 = 0) : x_T l Y0 yX8_crashQueen cX8_crashQueen 1 (some .int) 6 1 6 [.ref c] M "java/lang/IllegalStateException" := by
  have w0 := w
  obtain ⟨x0, v0, K2, Q, S, hx, sk, ht, T, hy, sl, hu, w9⟩ := w
  obtain ⟨w1, w2, w3, w4, hQ, w6, w7⟩ := id w9
  exact c_X8_crashQueenE hO hX hP hQ w6 (wC_p w9) w1 rfl rfl hk9 (Or.inl (by omega)) hu9
theorem cw_wakeQueenE {l : Launch} {Y0 : x_Y} (hO : x_Ok Y0) {M : x_M} {c n : Nat} {f : Nat → Int32} {P : PL} {A : HS} {ep : Int32} (hP : p_ok P) (hk9 : h_ok P A) (w : wC M c n f P A ep) (hX : x_Ex l Y0) (hu9 : A 1 8 = 0) : x_T l Y0 yX8_wakeQueen cX8_wakeQueen 2 (some .int) 6 1 6 [.ref c] M "java/lang/IllegalStateException" := by
  have w0 := w
  obtain ⟨x0, v0, K2, Q, S, hx, sk, ht, T, hy, sl, hu, w9⟩ := w
  obtain ⟨w1, w2, w3, w4, hQ, w6, w7⟩ := id w9
  exact c_X8_wakeQueenE hO hX hP hQ w6 (wC_p w9) w1 rfl rfl hk9 (Or.inl (by omega)) hu9
theorem cw_passDaysN {l : Launch} {Y0 : x_Y} (hO : x_Ok Y0) {M : x_M} {c n : Nat} {f : Nat → Int32} {P : PL} {A : HS} {ep : Int32} (hP : p_ok P) (hk9 : h_ok P A) (w : wC M c n f P A ep) (hX : x_Ex l Y0) {x : Int32} (hv30 : (!decide (x < 1) && !decide (30 < x)) = false) : x_T l Y0 yX8_passDays cX8_passDays 4 (some .int) 7 1 6 [.ref c, .int x] M "java/lang/IllegalArgumentException" := by
  have w0 := w
  obtain ⟨x0, v0, K2, Q, S, hx, sk, ht, T, hy, sl, hu, w9⟩ := w
  obtain ⟨w1, w2, w3, w4, hQ, w6, w7⟩ := id w9
  exact c_X8_passDaysN hO hX hP hQ w6 (wC_p w9) w1 rfl rfl hk9 hv30
theorem cw_honeyAfterE {l : Launch} {Y0 : x_Y} (hO : x_Ok Y0) {M : x_M} {c n : Nat} {f : Nat → Int32} {P : PL} {A : HS} {ep : Int32} (hP : p_ok P) (hk9 : h_ok P A) (w : wC M c n f P A ep) (hX : x_Ex l Y0) {d : Nat} (hd9 : d < p_nd P) {x : Int32} (hv30 : (!decide (x < 1) && !decide (30 < x)) = false) : x_T l Y0 yX8_honeyAfter cX8_honeyAfter 3 (some .int) 7 1 6 [.ref c, .int (nI d), .int x] M "java/lang/IllegalArgumentException" := by
  have w0 := w
  obtain ⟨x0, v0, K2, Q, S, hx, sk, ht, T, hy, sl, hu, w9⟩ := w
  obtain ⟨w1, w2, w3, w4, hQ, w6, w7⟩ := id w9
  exact c_X8_honeyAfterE hO hX hP hQ w6 (wC_p w9) w1 rfl rfl hk9 hd9 hv30
theorem cw_stateAfterE {l : Launch} {Y0 : x_Y} (hO : x_Ok Y0) {M : x_M} {c n : Nat} {f : Nat → Int32} {P : PL} {A : HS} {ep : Int32} (hP : p_ok P) (hk9 : h_ok P A) (w : wC M c n f P A ep) (hX : x_Ex l Y0) {k : Nat} (hk : k < p_nk P) {x : Int32} (hv30 : (!decide (x < 1) && !decide (30 < x)) = false) : x_T l Y0 yX8_stateAfter cX8_stateAfter 3 (some .int) 7 1 6 [.ref c, .int (nI k), .int x] M "java/lang/IllegalArgumentException" := by
  have w0 := w
  obtain ⟨x0, v0, K2, Q, S, hx, sk, ht, T, hy, sl, hu, w9⟩ := w
  obtain ⟨w1, w2, w3, w4, hQ, w6, w7⟩ := id w9
  exact c_X8_stateAfterE hO hX hP hQ w6 (wC_p w9) w1 rfl rfl hk9 hk hv30
theorem cw_feedN {l : Launch} {Y0 : x_Y} (hO : x_Ok Y0) {M : x_M} {c n : Nat} {f : Nat → Int32} {P : PL} {A : HS} {ep : Int32} (hP : p_ok P) (hk9 : h_ok P A) (w : wC M c n f P A ep) (hX : x_Ex l Y0) {x1 x2 x3 x4 x5 : Int32} (h80 : ¬ nI n ≤ (1980 : Int32)) : x_T l Y0 yX8_feed cX8_feed 6 (some .int) 6 1 6 [.ref c, .int x1, .int x2, .int x3, .int x4, .int x5] M "java/lang/IllegalStateException" := by
  have w0 := w
  obtain ⟨x0, v0, K2, Q, S, hx, sk, ht, T, hy, sl, hu, w9⟩ := w
  obtain ⟨w1, w2, w3, w4, hQ, w6, w7⟩ := id w9
  exact c_X8_feedN hO hX w2 w1 rfl h80
theorem cw_trimN {l : Launch} {Y0 : x_Y} (hO : x_Ok Y0) {M : x_M} {c n : Nat} {f : Nat → Int32} {P : PL} {A : HS} {ep : Int32} (hP : p_ok P) (hk9 : h_ok P A) (w : wC M c n f P A ep) (hX : x_Ex l Y0) {x : Int32} (hv30 : (!decide (x < 0) && !decide (nI n < x)) = false) : x_T l Y0 yX8_trim cX8_trim 2 (some .int) 6 1 6 [.ref c, .int x] M "java/lang/IllegalArgumentException" := by
  have w0 := w
  obtain ⟨x0, v0, K2, Q, S, hx, sk, ht, T, hy, sl, hu, w9⟩ := w
  obtain ⟨w1, w2, w3, w4, hQ, w6, w7⟩ := id w9
  exact c_X8_trimN hO hX w2 w1 rfl hv30
