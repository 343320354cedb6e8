theorem mw_drones {l : Launch} {Y0 : x_Y} (hO : x_Ok Y0) {M : x_M} {o n : Nat} {th : Int32} {f : Nat → Int32} {P : PL} {A : HS} {ep : Int32} (hP : p_ok P) (hk9 : h_ok P A) (w : wM M o th n f P A ep) : x_C l Y0 yX11_drones cX11_drones 1 (some .int) 2 0 0 [.ref o] M (fun u M1 => u = some (.int (nI (p_nd P))) ∧ mQ M M1 o 0 (n) (f) P (A) ep) := by
  obtain ⟨r, q, E2, R, G, hz, z, sm, T, hy, y2, w9⟩ := w
  obtain ⟨w1, w2, w3, w4, w5, w6, w7, w8, wa, wb⟩ := id w9
  have ho : x_bk M o [.inr (11, mdF th (nI n) ep (nI R.1.1) (nI R.1.2) (o + 1) (o + 2) (o + 3) (o + 4) (o + 5) (o + 6) q r (o + 18) (o + 19) (o + 28))] := x_bk_sub w1 0 rfl
  exact x_C_mono (c_X11_drones hO hP w4 hk9 wa w3 ho (Or.inl (by omega)) (by omega)) (fun u M1 q => by obtain ⟨rfl, rfl⟩ := q; exact ⟨rfl, mQ_a w9⟩)
theorem mw_deals {l : Launch} {Y0 : x_Y} (hO : x_Ok Y0) {M : x_M} {o n : Nat} {th : Int32} {f : Nat → Int32} {P : PL} {A : HS} {ep : Int32} (hP : p_ok P) (hk9 : h_ok P A) (w : wM M o th n f P A ep) : x_C l Y0 yX11_deals cX11_deals 1 (some .int) 2 0 0 [.ref o] M (fun u M1 => u = some (.int (nI (p_nk P))) ∧ mQ M M1 o 0 (n) (f) P (A) ep) := by
  obtain ⟨r, q, E2, R, G, hz, z, sm, T, hy, y2, w9⟩ := w
  obtain ⟨w1, w2, w3, w4, w5, w6, w7, w8, wa, wb⟩ := id w9
  have ho : x_bk M o [.inr (11, mdF th (nI n) ep (nI R.1.1) (nI R.1.2) (o + 1) (o + 2) (o + 3) (o + 4) (o + 5) (o + 6) q r (o + 18) (o + 19) (o + 28))] := x_bk_sub w1 0 rfl
  exact x_C_mono (c_X11_deals hO hP w4 hk9 wa w3 ho (Or.inl (by omega)) (by omega)) (fun u M1 q => by obtain ⟨rfl, rfl⟩ := q; exact ⟨rfl, mQ_a w9⟩)
theorem mw_day {l : Launch} {Y0 : x_Y} (hO : x_Ok Y0) {M : x_M} {o n : Nat} {th : Int32} {f : Nat → Int32} {P : PL} {A : HS} {ep : Int32} (hP : p_ok P) (hk9 : h_ok P A) (w : wM M o th n f P A ep) : x_C l Y0 yX11_day cX11_day 1 (some .int) 2 0 0 [.ref o] M (fun u M1 => u = some (.int (A 8 0)) ∧ mQ M M1 o 0 (n) (f) P (A) ep) := by
  obtain ⟨r, q, E2, R, G, hz, z, sm, T, hy, y2, w9⟩ := w
  obtain ⟨w1, w2, w3, w4, w5, w6, w7, w8, wa, wb⟩ := id w9
  have ho : x_bk M o [.inr (11, mdF th (nI n) ep (nI R.1.1) (nI R.1.2) (o + 1) (o + 2) (o + 3) (o + 4) (o + 5) (o + 6) q r (o + 18) (o + 19) (o + 28))] := x_bk_sub w1 0 rfl
  exact x_C_mono (c_X11_day hO hP w4 hk9 wa w3 ho (Or.inl (by omega)) (by omega)) (fun u M1 q => by obtain ⟨rfl, rfl⟩ := q; exact ⟨rfl, mQ_a w9⟩)
theorem mw_ordersCarriedOut {l : Launch} {Y0 : x_Y} (hO : x_Ok Y0) {M : x_M} {o n : Nat} {th : Int32} {f : Nat → Int32} {P : PL} {A : HS} {ep : Int32} (hP : p_ok P) (hk9 : h_ok P A) (w : wM M o th n f P A ep) : x_C l Y0 yX11_ordersCarriedOut cX11_ordersCarriedOut 1 (some .int) 2 0 0 [.ref o] M (fun u M1 => u = some (.int (A 8 1)) ∧ mQ M M1 o 0 (n) (f) P (A) ep) := by
  obtain ⟨r, q, E2, R, G, hz, z, sm, T, hy, y2, w9⟩ := w
  obtain ⟨w1, w2, w3, w4, w5, w6, w7, w8, wa, wb⟩ := id w9
  have ho : x_bk M o [.inr (11, mdF th (nI n) ep (nI R.1.1) (nI R.1.2) (o + 1) (o + 2) (o + 3) (o + 4) (o + 5) (o + 6) q r (o + 18) (o + 19) (o + 28))] := x_bk_sub w1 0 rfl
  exact x_C_mono (c_X11_ordersCarriedOut hO hP w4 hk9 wa w3 ho (Or.inl (by omega)) (by omega)) (fun u M1 q => by obtain ⟨rfl, rfl⟩ := q; exact ⟨rfl, mQ_a w9⟩)
theorem mw_blocked {l : Launch} {Y0 : x_Y} (hO : x_Ok Y0) {M : x_M} {o n : Nat} {th : Int32} {f : Nat → Int32} {P : PL} {A : HS} {ep : Int32} (hP : p_ok P) (hk9 : h_ok P A) (w : wM M o th n f P A ep) : x_C l Y0 yX11_blocked cX11_blocked 1 (some .int) 3 0 0 [.ref o] M (fun u M1 => u = some (.int (h_blocked P A)) ∧ mQ M M1 o 0 (n) (f) P (A) ep) := by
  obtain ⟨r, q, E2, R, G, hz, z, sm, T, hy, y2, w9⟩ := w
  obtain ⟨w1, w2, w3, w4, w5, w6, w7, w8, wa, wb⟩ := id w9
  have ho : x_bk M o [.inr (11, mdF th (nI n) ep (nI R.1.1) (nI R.1.2) (o + 1) (o + 2) (o + 3) (o + 4) (o + 5) (o + 6) q r (o + 18) (o + 19) (o + 28))] := x_bk_sub w1 0 rfl
  exact x_C_mono (c_X11_blocked hO hP w4 hk9 wa w3 ho (Or.inl (by omega)) (by omega)) (fun u M1 q => by obtain ⟨rfl, rfl⟩ := q; exact ⟨rfl, mQ_a w9⟩)
theorem mw_honey {l : Launch} {Y0 : x_Y} (hO : x_Ok Y0) {M : x_M} {o n : Nat} {th : Int32} {f : Nat → Int32} {P : PL} {A : HS} {ep : Int32} (hP : p_ok P) (hk9 : h_ok P A) (w : wM M o th n f P A ep) : x_C l Y0 yX11_honey cX11_honey 1 (some .int) 3 0 0 [.ref o] M (fun u M1 => u = some (.int (h_honey P A)) ∧ mQ M M1 o 0 (n) (f) P (A) ep) := by
  obtain ⟨r, q, E2, R, G, hz, z, sm, T, hy, y2, w9⟩ := w
  obtain ⟨w1, w2, w3, w4, w5, w6, w7, w8, wa, wb⟩ := id w9
  have ho : x_bk M o [.inr (11, mdF th (nI n) ep (nI R.1.1) (nI R.1.2) (o + 1) (o + 2) (o + 3) (o + 4) (o + 5) (o + 6) q r (o + 18) (o + 19) (o + 28))] := x_bk_sub w1 0 rfl
  exact x_C_mono (c_X11_honey hO hP w4 hk9 wa w3 ho (Or.inl (by omega)) (by omega)) (fun u M1 q => by obtain ⟨rfl, rfl⟩ := q; exact ⟨rfl, mQ_a w9⟩)
theorem mw_isQueenAwake {l : Launch} {Y0 : x_Y} (hO : x_Ok Y0) {M : x_M} {o n : Nat} {th : Int32} {f : Nat → Int32} {P : PL} {A : HS} {ep : Int32} (hP : p_ok P) (hk9 : h_ok P A) (w : wM M o th n f P A ep) : x_C l Y0 yX11_isQueenAwake cX11_isQueenAwake 1 (some .boolean) 2 0 0 [.ref o] M (fun u M1 => u = some (.int (1 - A 1 8)) ∧ mQ M M1 o 0 (n) (f) P (A) ep) := by
  obtain ⟨r, q, E2, R, G, hz, z, sm, T, hy, y2, w9⟩ := w
  obtain ⟨w1, w2, w3, w4, w5, w6, w7, w8, wa, wb⟩ := id w9
  have ho : x_bk M o [.inr (11, mdF th (nI n) ep (nI R.1.1) (nI R.1.2) (o + 1) (o + 2) (o + 3) (o + 4) (o + 5) (o + 6) q r (o + 18) (o + 19) (o + 28))] := x_bk_sub w1 0 rfl
  exact x_C_mono (c_X11_isQueenAwake hO hP w4 hk9 wa w3 ho (Or.inl (by omega)) (by omega)) (fun u M1 q => by obtain ⟨rfl, rfl⟩ := q; exact ⟨rfl, mQ_a w9⟩)
theorem mw_meanHoney {l : Launch} {Y0 : x_Y} (hO : x_Ok Y0) {M : x_M} {o n : Nat} {th : Int32} {f : Nat → Int32} {P : PL} {A : HS} {ep : Int32} (hP : p_ok P) (hk9 : h_ok P A) (w : wM M o th n f P A ep) : x_C l Y0 yX11_meanHoney cX11_meanHoney 1 (some .double) 4 0 0 [.ref o] M (fun u M1 => u = some (.double (h_mean P A)) ∧ mQ M M1 o 0 (n) (f) P (A) ep) := by
  obtain ⟨r, q, E2, R, G, hz, z, sm, T, hy, y2, w9⟩ := w
  obtain ⟨w1, w2, w3, w4, w5, w6, w7, w8, wa, wb⟩ := id w9
  have ho : x_bk M o [.inr (11, mdF th (nI n) ep (nI R.1.1) (nI R.1.2) (o + 1) (o + 2) (o + 3) (o + 4) (o + 5) (o + 6) q r (o + 18) (o + 19) (o + 28))] := x_bk_sub w1 0 rfl
  exact x_C_mono (c_X11_meanHoney hO hP w4 hk9 wa w3 ho (Or.inl (by omega)) (by omega)) (fun u M1 q => by obtain ⟨rfl, rfl⟩ := q; exact ⟨rfl, mQ_a w9⟩)
theorem mw_errorAt {l : Launch} {Y0 : x_Y} (hO : x_Ok Y0) {M : x_M} {o n : Nat} {th : Int32} {f : Nat → Int32} {P : PL} {A : HS} {ep : Int32} (hP : p_ok P) (hk9 : h_ok P A) (w : wM M o th n f P A ep) : x_C l Y0 yX11_errorAt cX11_errorAt 1 (some .int) 2 0 0 [.ref o] M (fun u M1 => u = some (.int ep) ∧ mQ M M1 o 0 (n) (f) P (A) ep) := by
  obtain ⟨r, q, E2, R, G, hz, z, sm, T, hy, y2, w9⟩ := w
  obtain ⟨w1, w2, w3, w4, w5, w6, w7, w8, wa, wb⟩ := id w9
  have ho : x_bk M o [.inr (11, mdF th (nI n) ep (nI R.1.1) (nI R.1.2) (o + 1) (o + 2) (o + 3) (o + 4) (o + 5) (o + 6) q r (o + 18) (o + 19) (o + 28))] := x_bk_sub w1 0 rfl
  exact x_C_mono (c_X11_errorAt hO hP w4 hk9 wa w3 ho (Or.inl (by omega)) (by omega)) (fun u M1 q => by obtain ⟨rfl, rfl⟩ := q; exact ⟨rfl, mQ_a w9⟩)
theorem mw_honeyOf {l : Launch} {Y0 : x_Y} (hO : x_Ok Y0) {M : x_M} {o n : Nat} {th : Int32} {f : Nat → Int32} {P : PL} {A : HS} {ep : Int32} (hP : p_ok P) (hk9 : h_ok P A) (w : wM M o th n f P A ep) {d : Nat} (hd9 : d < p_nd P) : x_C l Y0 yX11_honeyOf cX11_honeyOf 2 (some .int) 3 0 0 [.ref o, .int (nI d)] M (fun u M1 => u = some (.int (A 0 d)) ∧ mQ M M1 o 0 (n) (f) P (A) ep) := by
  obtain ⟨r, q, E2, R, G, hz, z, sm, T, hy, y2, w9⟩ := w
  obtain ⟨w1, w2, w3, w4, w5, w6, w7, w8, wa, wb⟩ := id w9
  have ho : x_bk M o [.inr (11, mdF th (nI n) ep (nI R.1.1) (nI R.1.2) (o + 1) (o + 2) (o + 3) (o + 4) (o + 5) (o + 6) q r (o + 18) (o + 19) (o + 28))] := x_bk_sub w1 0 rfl
  exact x_C_mono (c_X11_honeyOf hO hP w4 hk9 wa w3 ho (Or.inl (by omega)) (by omega) hd9) (fun u M1 q => by obtain ⟨rfl, rfl⟩ := q; exact ⟨rfl, mQ_a w9⟩)
theorem mw_honeyOfN {l : Launch} {Y0 : x_Y} (hO : x_Ok Y0) {M : x_M} {o n : Nat} {th : Int32} {f : Nat → Int32} {P : PL} {A : HS} {ep : Int32} (hP : p_ok P) (hk9 : h_ok P A) (w : wM M o th n f P A ep) {x : Int32} (hv : h_inR x (p_nd P) = false) : x_C l Y0 yX11_honeyOf cX11_honeyOf 2 (some .int) 3 0 0 [.ref o, .int x] M (fun u M1 => u = some (.int 0) ∧ mQ M M1 o 1 (n) (f) P (A) ep) := by
  obtain ⟨r, q, E2, R, G, hz, z, sm, T, hy, y2, w9⟩ := w
  obtain ⟨w1, w2, w3, w4, w5, w6, w7, w8, wa, wb⟩ := id w9
  have ho : x_bk M o [.inr (11, mdF th (nI n) ep (nI R.1.1) (nI R.1.2) (o + 1) (o + 2) (o + 3) (o + 4) (o + 5) (o + 6) q r (o + 18) (o + 19) (o + 28))] := x_bk_sub w1 0 rfl
  exact x_C_mono (c_X11_honeyOfN hO hP w4 hk9 wa w3 ho (Or.inl (by omega)) (by omega) hv) (fun u M1 q => by obtain ⟨rfl, rfl⟩ := q; exact ⟨rfl, mQ_a w9⟩)
theorem mw_isAwake {l : Launch} {Y0 : x_Y} (hO : x_Ok Y0) {M : x_M} {o n : Nat} {th : Int32} {f : Nat → Int32} {P : PL} {A : HS} {ep : Int32} (hP : p_ok P) (hk9 : h_ok P A) (w : wM M o th n f P A ep) {d : Nat} (hd9 : d < p_nd P) : x_C l Y0 yX11_isAwake cX11_isAwake 2 (some .boolean) 3 0 0 [.ref o, .int (nI d)] M (fun u M1 => u = some (.int (h_upI A d)) ∧ mQ M M1 o 0 (n) (f) P (A) ep) := by
  obtain ⟨r, q, E2, R, G, hz, z, sm, T, hy, y2, w9⟩ := w
  obtain ⟨w1, w2, w3, w4, w5, w6, w7, w8, wa, wb⟩ := id w9
  have ho : x_bk M o [.inr (11, mdF th (nI n) ep (nI R.1.1) (nI R.1.2) (o + 1) (o + 2) (o + 3) (o + 4) (o + 5) (o + 6) q r (o + 18) (o + 19) (o + 28))] := x_bk_sub w1 0 rfl
  exact x_C_mono (c_X11_isAwake hO hP w4 hk9 wa w3 ho (Or.inl (by omega)) (by omega) hd9) (fun u M1 q => by obtain ⟨rfl, rfl⟩ := q; exact ⟨rfl, mQ_a w9⟩)
theorem mw_isAwakeN {l : Launch} {Y0 : x_Y} (hO : x_Ok Y0) {M : x_M} {o n : Nat} {th : Int32} {f : Nat → Int32} {P : PL} {A : HS} {ep : Int32} (hP : p_ok P) (hk9 : h_ok P A) (w : wM M o th n f P A ep) {x : Int32} (hv : h_inR x (p_nd P) = false) : x_C l Y0 yX11_isAwake cX11_isAwake 2 (some .boolean) 3 0 0 [.ref o, .int x] M (fun u M1 => u = some (.int 0) ∧ mQ M M1 o 1 (n) (f) P (A) ep) := by
  obtain ⟨r, q, E2, R, G, hz, z, sm, T, hy, y2, w9⟩ := w
  obtain ⟨w1, w2, w3, w4, w5, w6, w7, w8, wa, wb⟩ := id w9
  have ho : x_bk M o [.inr (11, mdF th (nI n) ep (nI R.1.1) (nI R.1.2) (o + 1) (o + 2) (o + 3) (o + 4) (o + 5) (o + 6) q r (o + 18) (o + 19) (o + 28))] := x_bk_sub w1 0 rfl
  exact x_C_mono (c_X11_isAwakeN hO hP w4 hk9 wa w3 ho (Or.inl (by omega)) (by omega) hv) (fun u M1 q => by obtain ⟨rfl, rfl⟩ := q; exact ⟨rfl, mQ_a w9⟩)
theorem mw_blockedBy {l : Launch} {Y0 : x_Y} (hO : x_Ok Y0) {M : x_M} {o n : Nat} {th : Int32} {f : Nat → Int32} {P : PL} {A : HS} {ep : Int32} (hP : p_ok P) (hk9 : h_ok P A) (w : wM M o th n f P A ep) {d : Nat} (hd9 : d < p_nd P) : x_C l Y0 yX11_blockedBy cX11_blockedBy 2 (some .int) 3 0 0 [.ref o, .int (nI d)] M (fun u M1 => u = some (.int (A 2 d)) ∧ mQ M M1 o 0 (n) (f) P (A) ep) := by
  obtain ⟨r, q, E2, R, G, hz, z, sm, T, hy, y2, w9⟩ := w
  obtain ⟨w1, w2, w3, w4, w5, w6, w7, w8, wa, wb⟩ := id w9
  have ho : x_bk M o [.inr (11, mdF th (nI n) ep (nI R.1.1) (nI R.1.2) (o + 1) (o + 2) (o + 3) (o + 4) (o + 5) (o + 6) q r (o + 18) (o + 19) (o + 28))] := x_bk_sub w1 0 rfl
  exact x_C_mono (c_X11_blockedBy hO hP w4 hk9 wa w3 ho (Or.inl (by omega)) (by omega) hd9) (fun u M1 q => by obtain ⟨rfl, rfl⟩ := q; exact ⟨rfl, mQ_a w9⟩)
theorem mw_blockedByN {l : Launch} {Y0 : x_Y} (hO : x_Ok Y0) {M : x_M} {o n : Nat} {th : Int32} {f : Nat → Int32} {P : PL} {A : HS} {ep : Int32} (hP : p_ok P) (hk9 : h_ok P A) (w : wM M o th n f P A ep) {x : Int32} (hv : h_inR x (p_nd P) = false) : x_C l Y0 yX11_blockedBy cX11_blockedBy 2 (some .int) 3 0 0 [.ref o, .int x] M (fun u M1 => u = some (.int 0) ∧ mQ M M1 o 1 (n) (f) P (A) ep) := by
  obtain ⟨r, q, E2, R, G, hz, z, sm, T, hy, y2, w9⟩ := w
  obtain ⟨w1, w2, w3, w4, w5, w6, w7, w8, wa, wb⟩ := id w9
  have ho : x_bk M o [.inr (11, mdF th (nI n) ep (nI R.1.1) (nI R.1.2) (o + 1) (o + 2) (o + 3) (o + 4) (o + 5) (o + 6) q r (o + 18) (o + 19) (o + 28))] := x_bk_sub w1 0 rfl
  exact x_C_mono (c_X11_blockedByN hO hP w4 hk9 wa w3 ho (Or.inl (by omega)) (by omega) hv) (fun u M1 q => by obtain ⟨rfl, rfl⟩ := q; exact ⟨rfl, mQ_a w9⟩)
theorem mw_logOf {l : Launch} {Y0 : x_Y} (hO : x_Ok Y0) {M : x_M} {o n : Nat} {th : Int32} {f : Nat → Int32} {P : PL} {A : HS} {ep : Int32} (hP : p_ok P) (hk9 : h_ok P A) (w : wM M o th n f P A ep) {d : Nat} (hd9 : d < p_nd P) : x_C l Y0 yX11_logOf cX11_logOf 2 (some .int) 3 0 0 [.ref o, .int (nI d)] M (fun u M1 => u = some (.int (A 3 d)) ∧ mQ M M1 o 0 (n) (f) P (A) ep) := by
  obtain ⟨r, q, E2, R, G, hz, z, sm, T, hy, y2, w9⟩ := w
  obtain ⟨w1, w2, w3, w4, w5, w6, w7, w8, wa, wb⟩ := id w9
  have ho : x_bk M o [.inr (11, mdF th (nI n) ep (nI R.1.1) (nI R.1.2) (o + 1) (o + 2) (o + 3) (o + 4) (o + 5) (o + 6) q r (o + 18) (o + 19) (o + 28))] := x_bk_sub w1 0 rfl
  exact x_C_mono (c_X11_logOf hO hP w4 hk9 wa w3 ho (Or.inl (by omega)) (by omega) hd9) (fun u M1 q => by obtain ⟨rfl, rfl⟩ := q; exact ⟨rfl, mQ_a w9⟩)
theorem mw_logOfN {l : Launch} {Y0 : x_Y} (hO : x_Ok Y0) {M : x_M} {o n : Nat} {th : Int32} {f : Nat → Int32} {P : PL} {A : HS} {ep : Int32} (hP : p_ok P) (hk9 : h_ok P A) (w : wM M o th n f P A ep) {x : Int32} (hv : h_inR x (p_nd P) = false) : x_C l Y0 yX11_logOf cX11_logOf 2 (some .int) 3 0 0 [.ref o, .int x] M (fun u M1 => u = some (.int 0) ∧ mQ M M1 o 1 (n) (f) P (A) ep) := by
  obtain ⟨r, q, E2, R, G, hz, z, sm, T, hy, y2, w9⟩ := w
  obtain ⟨w1, w2, w3, w4, w5, w6, w7, w8, wa, wb⟩ := id w9
  have ho : x_bk M o [.inr (11, mdF th (nI n) ep (nI R.1.1) (nI R.1.2) (o + 1) (o + 2) (o + 3) (o + 4) (o + 5) (o + 6) q r (o + 18) (o + 19) (o + 28))] := x_bk_sub w1 0 rfl
  exact x_C_mono (c_X11_logOfN hO hP w4 hk9 wa w3 ho (Or.inl (by omega)) (by omega) hv) (fun u M1 q => by obtain ⟨rfl, rfl⟩ := q; exact ⟨rfl, mQ_a w9⟩)
theorem mw_stateOf {l : Launch} {Y0 : x_Y} (hO : x_Ok Y0) {M : x_M} {o n : Nat} {th : Int32} {f : Nat → Int32} {P : PL} {A : HS} {ep : Int32} (hP : p_ok P) (hk9 : h_ok P A) (w : wM M o th n f P A ep) {k : Nat} (hk : k < p_nk P) : x_C l Y0 yX11_stateOf cX11_stateOf 2 (some .int) 3 0 0 [.ref o, .int (nI k)] M (fun u M1 => u = some (.int (A 4 k)) ∧ mQ M M1 o 0 (n) (f) P (A) ep) := by
  obtain ⟨r, q, E2, R, G, hz, z, sm, T, hy, y2, w9⟩ := w
  obtain ⟨w1, w2, w3, w4, w5, w6, w7, w8, wa, wb⟩ := id w9
  have ho : x_bk M o [.inr (11, mdF th (nI n) ep (nI R.1.1) (nI R.1.2) (o + 1) (o + 2) (o + 3) (o + 4) (o + 5) (o + 6) q r (o + 18) (o + 19) (o + 28))] := x_bk_sub w1 0 rfl
  exact x_C_mono (c_X11_stateOf hO hP w4 hk9 wa w3 ho (Or.inl (by omega)) (by omega) hk) (fun u M1 q => by obtain ⟨rfl, rfl⟩ := q; exact ⟨rfl, mQ_a w9⟩)
theorem mw_stateOfN {l : Launch} {Y0 : x_Y} (hO : x_Ok Y0) {M : x_M} {o n : Nat} {th : Int32} {f : Nat → Int32} {P : PL} {A : HS} {ep : Int32} (hP : p_ok P) (hk9 : h_ok P A) (w : wM M o th n f P A ep) {x : Int32} (hv : h_inR x (p_nk P) = false) : x_C l Y0 yX11_stateOf cX11_stateOf 2 (some .int) 3 0 0 [.ref o, .int x] M (fun u M1 => u = some (.int 0) ∧ mQ M M1 o 1 (n) (f) P (A) ep) := by
  obtain ⟨r, q, E2, R, G, hz, z, sm, T, hy, y2, w9⟩ := w
  obtain ⟨w1, w2, w3, w4, w5, w6, w7, w8, wa, wb⟩ := id w9
  have ho : x_bk M o [.inr (11, mdF th (nI n) ep (nI R.1.1) (nI R.1.2) (o + 1) (o + 2) (o + 3) (o + 4) (o + 5) (o + 6) q r (o + 18) (o + 19) (o + 28))] := x_bk_sub w1 0 rfl
  exact x_C_mono (c_X11_stateOfN hO hP w4 hk9 wa w3 ho (Or.inl (by omega)) (by omega) hv) (fun u M1 q => by obtain ⟨rfl, rfl⟩ := q; exact ⟨rfl, mQ_a w9⟩)
theorem mw_waitsOf {l : Launch} {Y0 : x_Y} (hO : x_Ok Y0) {M : x_M} {o n : Nat} {th : Int32} {f : Nat → Int32} {P : PL} {A : HS} {ep : Int32} (hP : p_ok P) (hk9 : h_ok P A) (w : wM M o th n f P A ep) {k : Nat} (hk : k < p_nk P) : x_C l Y0 yX11_waitsOf cX11_waitsOf 2 (some .int) 3 0 0 [.ref o, .int (nI k)] M (fun u M1 => u = some (.int (h_waits A k)) ∧ mQ M M1 o 0 (n) (f) P (A) ep) := by
  obtain ⟨r, q, E2, R, G, hz, z, sm, T, hy, y2, w9⟩ := w
  obtain ⟨w1, w2, w3, w4, w5, w6, w7, w8, wa, wb⟩ := id w9
  have ho : x_bk M o [.inr (11, mdF th (nI n) ep (nI R.1.1) (nI R.1.2) (o + 1) (o + 2) (o + 3) (o + 4) (o + 5) (o + 6) q r (o + 18) (o + 19) (o + 28))] := x_bk_sub w1 0 rfl
  exact x_C_mono (c_X11_waitsOf hO hP w4 hk9 wa w3 ho (Or.inl (by omega)) (by omega) hk) (fun u M1 q => by obtain ⟨rfl, rfl⟩ := q; exact ⟨rfl, mQ_a w9⟩)
theorem mw_waitsOfN {l : Launch} {Y0 : x_Y} (hO : x_Ok Y0) {M : x_M} {o n : Nat} {th : Int32} {f : Nat → Int32} {P : PL} {A : HS} {ep : Int32} (hP : p_ok P) (hk9 : h_ok P A) (w : wM M o th n f P A ep) {x : Int32} (hv : h_inR x (p_nk P) = false) : x_C l Y0 yX11_waitsOf cX11_waitsOf 2 (some .int) 3 0 0 [.ref o, .int x] M (fun u M1 => u = some (.int 0) ∧ mQ M M1 o 1 (n) (f) P (A) ep) := by
  obtain ⟨r, q, E2, R, G, hz, z, sm, T, hy, y2, w9⟩ := w
  obtain ⟨w1, w2, w3, w4, w5, w6, w7, w8, wa, wb⟩ := id w9
  have ho : x_bk M o [.inr (11, mdF th (nI n) ep (nI R.1.1) (nI R.1.2) (o + 1) (o + 2) (o + 3) (o + 4) (o + 5) (o + 6) q r (o + 18) (o + 19) (o + 28))] := x_bk_sub w1 0 rfl
  exact x_C_mono (c_X11_waitsOfN hO hP w4 hk9 wa w3 ho (Or.inl (by omega)) (by omega) hv) (fun u M1 q => by obtain ⟨rfl, rfl⟩ := q; exact ⟨rfl, mQ_a w9⟩)
theorem mw_partsOf {l : Launch} {Y0 : x_Y} (hO : x_Ok Y0) {M : x_M} {o n : Nat} {th : Int32} {f : Nat → Int32} {P : PL} {A : HS} {ep : Int32} (hP : p_ok P) (hk9 : h_ok P A) (w : wM M o th n f P A ep) {k : Nat} (hk : k < p_nk P) : x_C l Y0 yX11_partsOf cX11_partsOf 2 (some .int) 3 0 0 [.ref o, .int (nI k)] M (fun u M1 => u = some (.int (nI (p_np P k))) ∧ mQ M M1 o 0 (n) (f) P (A) ep) := by
  obtain ⟨r, q, E2, R, G, hz, z, sm, T, hy, y2, w9⟩ := w
  obtain ⟨w1, w2, w3, w4, w5, w6, w7, w8, wa, wb⟩ := id w9
  have ho : x_bk M o [.inr (11, mdF th (nI n) ep (nI R.1.1) (nI R.1.2) (o + 1) (o + 2) (o + 3) (o + 4) (o + 5) (o + 6) q r (o + 18) (o + 19) (o + 28))] := x_bk_sub w1 0 rfl
  exact x_C_mono (c_X11_partsOf hO hP w4 hk9 wa w3 ho (Or.inl (by omega)) (by omega) hk) (fun u M1 q => by obtain ⟨rfl, rfl⟩ := q; exact ⟨rfl, mQ_a w9⟩)
theorem mw_partsOfN {l : Launch} {Y0 : x_Y} (hO : x_Ok Y0) {M : x_M} {o n : Nat} {th : Int32} {f : Nat → Int32} {P : PL} {A : HS} {ep : Int32} (hP : p_ok P) (hk9 : h_ok P A) (w : wM M o th n f P A ep) {x : Int32} (hv : h_inR x (p_nk P) = false) : x_C l Y0 yX11_partsOf cX11_partsOf 2 (some .int) 3 0 0 [.ref o, .int x] M (fun u M1 => u = some (.int 0) ∧ mQ M M1 o 1 (n) (f) P (A) ep) := by
  obtain ⟨r, q, E2, R, G, hz, z, sm, T, hy, y2, w9⟩ := w
  obtain ⟨w1, w2, w3, w4, w5, w6, w7, w8, wa, wb⟩ := id w9
  have ho : x_bk M o [.inr (11, mdF th (nI n) ep (nI R.1.1) (nI R.1.2) (o + 1) (o + 2) (o + 3) (o + 4) (o + 5) (o + 6) q r (o + 18) (o + 19) (o + 28))] := x_bk_sub w1 0 rfl
  exact x_C_mono (c_X11_partsOfN hO hP w4 hk9 wa w3 ho (Or.inl (by omega)) (by omega) hv) (fun u M1 q => by obtain ⟨rfl, rfl⟩ := q; exact ⟨rfl, mQ_a w9⟩)
theorem mw_votesFor {l : Launch} {Y0 : x_Y} (hO : x_Ok Y0) {M : x_M} {o n : Nat} {th : Int32} {f : Nat → Int32} {P : PL} {A : HS} {ep : Int32} (hP : p_ok P) (hk9 : h_ok P A) (w : wM M o th n f P A ep) {k : Nat} (hk : k < p_nk P) : x_C l Y0 yX11_votesFor cX11_votesFor 2 (some .int) 3 0 0 [.ref o, .int (nI k)] M (fun u M1 => u = some (.int (h_votes P A k 1)) ∧ mQ M M1 o 0 (n) (f) P (A) ep) := by
  obtain ⟨r, q, E2, R, G, hz, z, sm, T, hy, y2, w9⟩ := w
  obtain ⟨w1, w2, w3, w4, w5, w6, w7, w8, wa, wb⟩ := id w9
  have ho : x_bk M o [.inr (11, mdF th (nI n) ep (nI R.1.1) (nI R.1.2) (o + 1) (o + 2) (o + 3) (o + 4) (o + 5) (o + 6) q r (o + 18) (o + 19) (o + 28))] := x_bk_sub w1 0 rfl
  exact x_C_mono (c_X11_votesFor hO hP w4 hk9 wa w3 ho (Or.inl (by omega)) (by omega) hk) (fun u M1 q => by obtain ⟨rfl, rfl⟩ := q; exact ⟨rfl, mQ_a w9⟩)
theorem mw_votesForN {l : Launch} {Y0 : x_Y} (hO : x_Ok Y0) {M : x_M} {o n : Nat} {th : Int32} {f : Nat → Int32} {P : PL} {A : HS} {ep : Int32} (hP : p_ok P) (hk9 : h_ok P A) (w : wM M o th n f P A ep) {x : Int32} (hv : h_inR x (p_nk P) = false) : x_C l Y0 yX11_votesFor cX11_votesFor 2 (some .int) 3 0 0 [.ref o, .int x] M (fun u M1 => u = some (.int 0) ∧ mQ M M1 o 1 (n) (f) P (A) ep) := by
  obtain ⟨r, q, E2, R, G, hz, z, sm, T, hy, y2, w9⟩ := w
  obtain ⟨w1, w2, w3, w4, w5, w6, w7, w8, wa, wb⟩ := id w9
  have ho : x_bk M o [.inr (11, mdF th (nI n) ep (nI R.1.1) (nI R.1.2) (o + 1) (o + 2) (o + 3) (o + 4) (o + 5) (o + 6) q r (o + 18) (o + 19) (o + 28))] := x_bk_sub w1 0 rfl
  exact x_C_mono (c_X11_votesForN hO hP w4 hk9 wa w3 ho (Or.inl (by omega)) (by omega) hv) (fun u M1 q => by obtain ⟨rfl, rfl⟩ := q; exact ⟨rfl, mQ_a w9⟩)
theorem mw_wouldAgree {l : Launch} {Y0 : x_Y} (hO : x_Ok Y0) {M : x_M} {o n : Nat} {th : Int32} {f : Nat → Int32} {P : PL} {A : HS} {ep : Int32} (hP : p_ok P) (hk9 : h_ok P A) (w : wM M o th n f P A ep) {k : Nat} (hk : k < p_nk P) : x_C l Y0 yX11_wouldAgree cX11_wouldAgree 2 (some .boolean) 4 0 0 [.ref o, .int (nI k)] M (fun u M1 => u = some (.int (h_b (h_agrAll P A k))) ∧ mQ M M1 o 0 (n) (f) P (A) ep) := by
  obtain ⟨r, q, E2, R, G, hz, z, sm, T, hy, y2, w9⟩ := w
  obtain ⟨w1, w2, w3, w4, w5, w6, w7, w8, wa, wb⟩ := id w9
  have ho : x_bk M o [.inr (11, mdF th (nI n) ep (nI R.1.1) (nI R.1.2) (o + 1) (o + 2) (o + 3) (o + 4) (o + 5) (o + 6) q r (o + 18) (o + 19) (o + 28))] := x_bk_sub w1 0 rfl
  exact x_C_mono (c_X11_wouldAgree hO hP w4 hk9 wa w3 ho (Or.inl (by omega)) (by omega) hk) (fun u M1 q => by obtain ⟨rfl, rfl⟩ := q; exact ⟨rfl, mQ_a w9⟩)
theorem mw_wouldAgreeN {l : Launch} {Y0 : x_Y} (hO : x_Ok Y0) {M : x_M} {o n : Nat} {th : Int32} {f : Nat → Int32} {P : PL} {A : HS} {ep : Int32} (hP : p_ok P) (hk9 : h_ok P A) (w : wM M o th n f P A ep) {x : Int32} (hv : h_inR x (p_nk P) = false) : x_C l Y0 yX11_wouldAgree cX11_wouldAgree 2 (some .boolean) 4 0 0 [.ref o, .int x] M (fun u M1 => u = some (.int 0) ∧ mQ M M1 o 1 (n) (f) P (A) ep) := by
  obtain ⟨r, q, E2, R, G, hz, z, sm, T, hy, y2, w9⟩ := w
  obtain ⟨w1, w2, w3, w4, w5, w6, w7, w8, wa, wb⟩ := id w9
  have ho : x_bk M o [.inr (11, mdF th (nI n) ep (nI R.1.1) (nI R.1.2) (o + 1) (o + 2) (o + 3) (o + 4) (o + 5) (o + 6) q r (o + 18) (o + 19) (o + 28))] := x_bk_sub w1 0 rfl
  exact x_C_mono (c_X11_wouldAgreeN hO hP w4 hk9 wa w3 ho (Or.inl (by omega)) (by omega) hv) (fun u M1 q => by obtain ⟨rfl, rfl⟩ := q; exact ⟨rfl, mQ_a w9⟩)
theorem mw_droneIn {l : Launch} {Y0 : x_Y} (hO : x_Ok Y0) {M : x_M} {o n : Nat} {th : Int32} {f : Nat → Int32} {P : PL} {A : HS} {ep : Int32} (hP : p_ok P) (hk9 : h_ok P A) (w : wM M o th n f P A ep) {k : Nat} (hk : k < p_nk P) {j : Nat} (hj : j < p_np P k) : x_C l Y0 yX11_droneIn cX11_droneIn 3 (some .int) 4 0 0 [.ref o, .int (nI k), .int (nI j)] M (fun u M1 => u = some (.int (nI (p_who P (6 * k + j)))) ∧ mQ M M1 o 0 (n) (f) P (A) ep) := by
  obtain ⟨r, q, E2, R, G, hz, z, sm, T, hy, y2, w9⟩ := w
  obtain ⟨w1, w2, w3, w4, w5, w6, w7, w8, wa, wb⟩ := id w9
  have ho : x_bk M o [.inr (11, mdF th (nI n) ep (nI R.1.1) (nI R.1.2) (o + 1) (o + 2) (o + 3) (o + 4) (o + 5) (o + 6) q r (o + 18) (o + 19) (o + 28))] := x_bk_sub w1 0 rfl
  exact x_C_mono (c_X11_droneIn hO hP w4 hk9 wa w3 ho (Or.inl (by omega)) (by omega) hk hj) (fun u M1 q => by obtain ⟨rfl, rfl⟩ := q; exact ⟨rfl, mQ_a w9⟩)
theorem mw_droneInN {l : Launch} {Y0 : x_Y} (hO : x_Ok Y0) {M : x_M} {o n : Nat} {th : Int32} {f : Nat → Int32} {P : PL} {A : HS} {ep : Int32} (hP : p_ok P) (hk9 : h_ok P A) (w : wM M o th n f P A ep) {x y : Int32} (hv : h_inR x (p_nk P) = false) : x_C l Y0 yX11_droneIn cX11_droneIn 3 (some .int) 4 0 0 [.ref o, .int x, .int y] M (fun u M1 => u = some (.int 0) ∧ mQ M M1 o 1 (n) (f) P (A) ep) := by
  obtain ⟨r, q, E2, R, G, hz, z, sm, T, hy, y2, w9⟩ := w
  obtain ⟨w1, w2, w3, w4, w5, w6, w7, w8, wa, wb⟩ := id w9
  have ho : x_bk M o [.inr (11, mdF th (nI n) ep (nI R.1.1) (nI R.1.2) (o + 1) (o + 2) (o + 3) (o + 4) (o + 5) (o + 6) q r (o + 18) (o + 19) (o + 28))] := x_bk_sub w1 0 rfl
  exact x_C_mono (c_X11_droneInN hO hP w4 hk9 wa w3 ho (Or.inl (by omega)) (by omega) hv) (fun u M1 q => by obtain ⟨rfl, rfl⟩ := q; exact ⟨rfl, mQ_a w9⟩)
theorem mw_droneInM {l : Launch} {Y0 : x_Y} (hO : x_Ok Y0) {M : x_M} {o n : Nat} {th : Int32} {f : Nat → Int32} {P : PL} {A : HS} {ep : Int32} (hP : p_ok P) (hk9 : h_ok P A) (w : wM M o th n f P A ep) {k : Nat} (hk : k < p_nk P) {x : Int32} (hv : h_inR x (p_np P k) = false) : x_C l Y0 yX11_droneIn cX11_droneIn 3 (some .int) 4 0 0 [.ref o, .int (nI k), .int x] M (fun u M1 => u = some (.int 0) ∧ mQ M M1 o 1 (n) (f) P (A) ep) := by
  obtain ⟨r, q, E2, R, G, hz, z, sm, T, hy, y2, w9⟩ := w
  obtain ⟨w1, w2, w3, w4, w5, w6, w7, w8, wa, wb⟩ := id w9
  have ho : x_bk M o [.inr (11, mdF th (nI n) ep (nI R.1.1) (nI R.1.2) (o + 1) (o + 2) (o + 3) (o + 4) (o + 5) (o + 6) q r (o + 18) (o + 19) (o + 28))] := x_bk_sub w1 0 rfl
  exact x_C_mono (c_X11_droneInM hO hP w4 hk9 wa w3 ho (Or.inl (by omega)) (by omega) hk hv) (fun u M1 q => by obtain ⟨rfl, rfl⟩ := q; exact ⟨rfl, mQ_a w9⟩)
theorem mw_changeIn {l : Launch} {Y0 : x_Y} (hO : x_Ok Y0) {M : x_M} {o n : Nat} {th : Int32} {f : Nat → Int32} {P : PL} {A : HS} {ep : Int32} (hP : p_ok P) (hk9 : h_ok P A) (w : wM M o th n f P A ep) {k : Nat} (hk : k < p_nk P) {j : Nat} (hj : j < p_np P k) : x_C l Y0 yX11_changeIn cX11_changeIn 3 (some .int) 4 0 0 [.ref o, .int (nI k), .int (nI j)] M (fun u M1 => u = some (.int (p_mv P (6 * k + j))) ∧ mQ M M1 o 0 (n) (f) P (A) ep) := by
  obtain ⟨r, q, E2, R, G, hz, z, sm, T, hy, y2, w9⟩ := w
  obtain ⟨w1, w2, w3, w4, w5, w6, w7, w8, wa, wb⟩ := id w9
  have ho : x_bk M o [.inr (11, mdF th (nI n) ep (nI R.1.1) (nI R.1.2) (o + 1) (o + 2) (o + 3) (o + 4) (o + 5) (o + 6) q r (o + 18) (o + 19) (o + 28))] := x_bk_sub w1 0 rfl
  exact x_C_mono (c_X11_changeIn hO hP w4 hk9 wa w3 ho (Or.inl (by omega)) (by omega) hk hj) (fun u M1 q => by obtain ⟨rfl, rfl⟩ := q; exact ⟨rfl, mQ_a w9⟩)
theorem mw_changeInN {l : Launch} {Y0 : x_Y} (hO : x_Ok Y0) {M : x_M} {o n : Nat} {th : Int32} {f : Nat → Int32} {P : PL} {A : HS} {ep : Int32} (hP : p_ok P) (hk9 : h_ok P A) (w : wM M o th n f P A ep) {x y : Int32} (hv : h_inR x (p_nk P) = false) : x_C l Y0 yX11_changeIn cX11_changeIn 3 (some .int) 4 0 0 [.ref o, .int x, .int y] M (fun u M1 => u = some (.int 0) ∧ mQ M M1 o 1 (n) (f) P (A) ep) := by
  obtain ⟨r, q, E2, R, G, hz, z, sm, T, hy, y2, w9⟩ := w
  obtain ⟨w1, w2, w3, w4, w5, w6, w7, w8, wa, wb⟩ := id w9
  have ho : x_bk M o [.inr (11, mdF th (nI n) ep (nI R.1.1) (nI R.1.2) (o + 1) (o + 2) (o + 3) (o + 4) (o + 5) (o + 6) q r (o + 18) (o + 19) (o + 28))] := x_bk_sub w1 0 rfl
  exact x_C_mono (c_X11_changeInN hO hP w4 hk9 wa w3 ho (Or.inl (by omega)) (by omega) hv) (fun u M1 q => by obtain ⟨rfl, rfl⟩ := q; exact ⟨rfl, mQ_a w9⟩)
theorem mw_changeInM {l : Launch} {Y0 : x_Y} (hO : x_Ok Y0) {M : x_M} {o n : Nat} {th : Int32} {f : Nat → Int32} {P : PL} {A : HS} {ep : Int32} (hP : p_ok P) (hk9 : h_ok P A) (w : wM M o th n f P A ep) {k : Nat} (hk : k < p_nk P) {x : Int32} (hv : h_inR x (p_np P k) = false) : x_C l Y0 yX11_changeIn cX11_changeIn 3 (some .int) 4 0 0 [.ref o, .int (nI k), .int x] M (fun u M1 => u = some (.int 0) ∧ mQ M M1 o 1 (n) (f) P (A) ep) := by
  obtain ⟨r, q, E2, R, G, hz, z, sm, T, hy, y2, w9⟩ := w
  obtain ⟨w1, w2, w3, w4, w5, w6, w7, w8, wa, wb⟩ := id w9
  have ho : x_bk M o [.inr (11, mdF th (nI n) ep (nI R.1.1) (nI R.1.2) (o + 1) (o + 2) (o + 3) (o + 4) (o + 5) (o + 6) q r (o + 18) (o + 19) (o + 28))] := x_bk_sub w1 0 rfl
  exact x_C_mono (c_X11_changeInM hO hP w4 hk9 wa w3 ho (Or.inl (by omega)) (by omega) hk hv) (fun u M1 q => by obtain ⟨rfl, rfl⟩ := q; exact ⟨rfl, mQ_a w9⟩)
theorem mw_voteIn {l : Launch} {Y0 : x_Y} (hO : x_Ok Y0) {M : x_M} {o n : Nat} {th : Int32} {f : Nat → Int32} {P : PL} {A : HS} {ep : Int32} (hP : p_ok P) (hk9 : h_ok P A) (w : wM M o th n f P A ep) {k : Nat} (hk : k < p_nk P) {j : Nat} (hj : j < p_np P k) : x_C l Y0 yX11_voteIn cX11_voteIn 3 (some .int) 4 0 0 [.ref o, .int (nI k), .int (nI j)] M (fun u M1 => u = some (.int (A 6 (6 * k + j))) ∧ mQ M M1 o 0 (n) (f) P (A) ep) := by
  obtain ⟨r, q, E2, R, G, hz, z, sm, T, hy, y2, w9⟩ := w
  obtain ⟨w1, w2, w3, w4, w5, w6, w7, w8, wa, wb⟩ := id w9
  have ho : x_bk M o [.inr (11, mdF th (nI n) ep (nI R.1.1) (nI R.1.2) (o + 1) (o + 2) (o + 3) (o + 4) (o + 5) (o + 6) q r (o + 18) (o + 19) (o + 28))] := x_bk_sub w1 0 rfl
  exact x_C_mono (c_X11_voteIn hO hP w4 hk9 wa w3 ho (Or.inl (by omega)) (by omega) hk hj) (fun u M1 q => by obtain ⟨rfl, rfl⟩ := q; exact ⟨rfl, mQ_a w9⟩)
theorem mw_voteInN {l : Launch} {Y0 : x_Y} (hO : x_Ok Y0) {M : x_M} {o n : Nat} {th : Int32} {f : Nat → Int32} {P : PL} {A : HS} {ep : Int32} (hP : p_ok P) (hk9 : h_ok P A) (w : wM M o th n f P A ep) {x y : Int32} (hv : h_inR x (p_nk P) = false) : x_C l Y0 yX11_voteIn cX11_voteIn 3 (some .int) 4 0 0 [.ref o, .int x, .int y] M (fun u M1 => u = some (.int 0) ∧ mQ M M1 o 1 (n) (f) P (A) ep) := by
  obtain ⟨r, q, E2, R, G, hz, z, sm, T, hy, y2, w9⟩ := w
  obtain ⟨w1, w2, w3, w4, w5, w6, w7, w8, wa, wb⟩ := id w9
  have ho : x_bk M o [.inr (11, mdF th (nI n) ep (nI R.1.1) (nI R.1.2) (o + 1) (o + 2) (o + 3) (o + 4) (o + 5) (o + 6) q r (o + 18) (o + 19) (o + 28))] := x_bk_sub w1 0 rfl
  exact x_C_mono (c_X11_voteInN hO hP w4 hk9 wa w3 ho (Or.inl (by omega)) (by omega) hv) (fun u M1 q => by obtain ⟨rfl, rfl⟩ := q; exact ⟨rfl, mQ_a w9⟩)
theorem mw_voteInM {l : Launch} {Y0 : x_Y} (hO : x_Ok Y0) {M : x_M} {o n : Nat} {th : Int32} {f : Nat → Int32} {P : PL} {A : HS} {ep : Int32} (hP : p_ok P) (hk9 : h_ok P A) (w : wM M o th n f P A ep) {k : Nat} (hk : k < p_nk P) {x : Int32} (hv : h_inR x (p_np P k) = false) : x_C l Y0 yX11_voteIn cX11_voteIn 3 (some .int) 4 0 0 [.ref o, .int (nI k), .int x] M (fun u M1 => u = some (.int 0) ∧ mQ M M1 o 1 (n) (f) P (A) ep) := by
  obtain ⟨r, q, E2, R, G, hz, z, sm, T, hy, y2, w9⟩ := w
  obtain ⟨w1, w2, w3, w4, w5, w6, w7, w8, wa, wb⟩ := id w9
  have ho : x_bk M o [.inr (11, mdF th (nI n) ep (nI R.1.1) (nI R.1.2) (o + 1) (o + 2) (o + 3) (o + 4) (o + 5) (o + 6) q r (o + 18) (o + 19) (o + 28))] := x_bk_sub w1 0 rfl
  exact x_C_mono (c_X11_voteInM hO hP w4 hk9 wa w3 ho (Or.inl (by omega)) (by omega) hk hv) (fun u M1 q => by obtain ⟨rfl, rfl⟩ := q; exact ⟨rfl, mQ_a w9⟩)
theorem mw_hasHeard {l : Launch} {Y0 : x_Y} (hO : x_Ok Y0) {M : x_M} {o n : Nat} {th : Int32} {f : Nat → Int32} {P : PL} {A : HS} {ep : Int32} (hP : p_ok P) (hk9 : h_ok P A) (w : wM M o th n f P A ep) {k : Nat} (hk : k < p_nk P) {j : Nat} (hj : j < p_np P k) : x_C l Y0 yX11_hasHeard cX11_hasHeard 3 (some .boolean) 4 0 0 [.ref o, .int (nI k), .int (nI j)] M (fun u M1 => u = some (.int (A 7 (6 * k + j))) ∧ mQ M M1 o 0 (n) (f) P (A) ep) := by
  obtain ⟨r, q, E2, R, G, hz, z, sm, T, hy, y2, w9⟩ := w
  obtain ⟨w1, w2, w3, w4, w5, w6, w7, w8, wa, wb⟩ := id w9
  have ho : x_bk M o [.inr (11, mdF th (nI n) ep (nI R.1.1) (nI R.1.2) (o + 1) (o + 2) (o + 3) (o + 4) (o + 5) (o + 6) q r (o + 18) (o + 19) (o + 28))] := x_bk_sub w1 0 rfl
  exact x_C_mono (c_X11_hasHeard hO hP w4 hk9 wa w3 ho (Or.inl (by omega)) (by omega) hk hj) (fun u M1 q => by obtain ⟨rfl, rfl⟩ := q; exact ⟨rfl, mQ_a w9⟩)
theorem mw_hasHeardN {l : Launch} {Y0 : x_Y} (hO : x_Ok Y0) {M : x_M} {o n : Nat} {th : Int32} {f : Nat → Int32} {P : PL} {A : HS} {ep : Int32} (hP : p_ok P) (hk9 : h_ok P A) (w : wM M o th n f P A ep) {x y : Int32} (hv : h_inR x (p_nk P) = false) : x_C l Y0 yX11_hasHeard cX11_hasHeard 3 (some .boolean) 4 0 0 [.ref o, .int x, .int y] M (fun u M1 => u = some (.int 0) ∧ mQ M M1 o 1 (n) (f) P (A) ep) := by
  obtain ⟨r, q, E2, R, G, hz, z, sm, T, hy, y2, w9⟩ := w
  obtain ⟨w1, w2, w3, w4, w5, w6, w7, w8, wa, wb⟩ := id w9
  have ho : x_bk M o [.inr (11, mdF th (nI n) ep (nI R.1.1) (nI R.1.2) (o + 1) (o + 2) (o + 3) (o + 4) (o + 5) (o + 6) q r (o + 18) (o + 19) (o + 28))] := x_bk_sub w1 0 rfl
  exact x_C_mono (c_X11_hasHeardN hO hP w4 hk9 wa w3 ho (Or.inl (by omega)) (by omega) hv) (fun u M1 q => by obtain ⟨rfl, rfl⟩ := q; exact ⟨rfl, mQ_a w9⟩)
theorem mw_hasHeardM {l : Launch} {Y0 : x_Y} (hO : x_Ok Y0) {M : x_M} {o n : Nat} {th : Int32} {f : Nat → Int32} {P : PL} {A : HS} {ep : Int32} (hP : p_ok P) (hk9 : h_ok P A) (w : wM M o th n f P A ep) {k : Nat} (hk : k < p_nk P) {x : Int32} (hv : h_inR x (p_np P k) = false) : x_C l Y0 yX11_hasHeard cX11_hasHeard 3 (some .boolean) 4 0 0 [.ref o, .int (nI k), .int x] M (fun u M1 => u = some (.int 0) ∧ mQ M M1 o 1 (n) (f) P (A) ep) := by
  obtain ⟨r, q, E2, R, G, hz, z, sm, T, hy, y2, w9⟩ := w
  obtain ⟨w1, w2, w3, w4, w5, w6, w7, w8, wa, wb⟩ := id w9
  have ho : x_bk M o [.inr (11, mdF th (nI n) ep (nI R.1.1) (nI R.1.2) (o + 1) (o + 2) (o + 3) (o + 4) (o + 5) (o + 6) q r (o + 18) (o + 19) (o + 28))] := x_bk_sub w1 0 rfl
  exact x_C_mono (c_X11_hasHeardM hO hP w4 hk9 wa w3 ho (Or.inl (by omega)) (by omega) hk hv) (fun u M1 q => by obtain ⟨rfl, rfl⟩ := q; exact ⟨rfl, mQ_a w9⟩)
theorem mw_begin {l : Launch} {Y0 : x_Y} (hO : x_Ok Y0) {M : x_M} {o n : Nat} {th : Int32} {f : Nat → Int32} {P : PL} {A : HS} {ep : Int32} (hP : p_ok P) (hk9 : h_ok P A) (w : wM M o th n f P A ep) {k : Nat} (hk : k < p_nk P) (hcan : h_can P A k = true) : x_C l Y0 yX11_begin cX11_begin 2 (some .int) 4 0 0 [.ref o, .int (nI k)] M (fun u M1 => u = some (.int (h_begun P (h_begin P A k))) ∧ mQ M M1 o 0 (n) (f) P (h_begin P A k) ep) := by
  obtain ⟨r, q, E2, R, G, hz, z, sm, T, hy, y2, w9⟩ := w
  obtain ⟨w1, w2, w3, w4, w5, w6, w7, w8, wa, wb⟩ := id w9
  have ho : x_bk M o [.inr (11, mdF th (nI n) ep (nI R.1.1) (nI R.1.2) (o + 1) (o + 2) (o + 3) (o + 4) (o + 5) (o + 6) q r (o + 18) (o + 19) (o + 28))] := x_bk_sub w1 0 rfl
  exact x_C_mono (c_X11_begin hO hP w4 hk9 wa w3 ho (Or.inl (by omega)) (by omega) (by omega) hk hcan) (fun u M1 q => by obtain ⟨rfl, rfl⟩ := q; exact ⟨rfl, mQ_as w9⟩)
theorem mw_beginE {l : Launch} {Y0 : x_Y} (hO : x_Ok Y0) {M : x_M} {o n : Nat} {th : Int32} {f : Nat → Int32} {P : PL} {A : HS} {ep : Int32} (hP : p_ok P) (hk9 : h_ok P A) (w : wM M o th n f P A ep) {k : Nat} (hk : k < p_nk P) (hcan : h_can P A k = false) : x_C l Y0 yX11_begin cX11_begin 2 (some .int) 4 0 0 [.ref o, .int (nI k)] M (fun u M1 => u = some (.int 0) ∧ mQ M M1 o 2 (n) (f) P (A) ep) := by
  obtain ⟨r, q, E2, R, G, hz, z, sm, T, hy, y2, w9⟩ := w
  obtain ⟨w1, w2, w3, w4, w5, w6, w7, w8, wa, wb⟩ := id w9
  have ho : x_bk M o [.inr (11, mdF th (nI n) ep (nI R.1.1) (nI R.1.2) (o + 1) (o + 2) (o + 3) (o + 4) (o + 5) (o + 6) q r (o + 18) (o + 19) (o + 28))] := x_bk_sub w1 0 rfl
  exact x_C_mono (c_X11_beginE hO hP w4 hk9 wa w3 ho (Or.inl (by omega)) (by omega) (by omega) hk hcan) (fun u M1 q => by obtain ⟨rfl, rfl⟩ := q; exact ⟨rfl, mQ_a w9⟩)
theorem mw_beginN {l : Launch} {Y0 : x_Y} (hO : x_Ok Y0) {M : x_M} {o n : Nat} {th : Int32} {f : Nat → Int32} {P : PL} {A : HS} {ep : Int32} (hP : p_ok P) (hk9 : h_ok P A) (w : wM M o th n f P A ep) {x : Int32} (hv : h_inR x (p_nk P) = false) : x_C l Y0 yX11_begin cX11_begin 2 (some .int) 4 0 0 [.ref o, .int x] M (fun u M1 => u = some (.int 0) ∧ mQ M M1 o 1 (n) (f) P (A) ep) := by
  obtain ⟨r, q, E2, R, G, hz, z, sm, T, hy, y2, w9⟩ := w
  obtain ⟨w1, w2, w3, w4, w5, w6, w7, w8, wa, wb⟩ := id w9
  have ho : x_bk M o [.inr (11, mdF th (nI n) ep (nI R.1.1) (nI R.1.2) (o + 1) (o + 2) (o + 3) (o + 4) (o + 5) (o + 6) q r (o + 18) (o + 19) (o + 28))] := x_bk_sub w1 0 rfl
  exact x_C_mono (c_X11_beginN hO hP w4 hk9 wa w3 ho (Or.inl (by omega)) (by omega) (by omega) hv) (fun u M1 q => by obtain ⟨rfl, rfl⟩ := q; exact ⟨rfl, mQ_a w9⟩)
theorem mw_crash {l : Launch} {Y0 : x_Y} (hO : x_Ok Y0) {M : x_M} {o n : Nat} {th : Int32} {f : Nat → Int32} {P : PL} {A : HS} {ep : Int32} (hP : p_ok P) (hk9 : h_ok P A) (w : wM M o th n f P A ep) {d : Nat} (hd9 : d < p_nd P) (hu9 : A 1 d = 0) : x_C l Y0 yX11_crash cX11_crash 2 (some .int) 5 0 0 [.ref o, .int (nI d)] M (fun u M1 => u = some (.int (h_awake P (h_u A 1 d 1))) ∧ mQ M M1 o 0 (n) (f) P (h_u A 1 d 1) ep) := by
  obtain ⟨r, q, E2, R, G, hz, z, sm, T, hy, y2, w9⟩ := w
  obtain ⟨w1, w2, w3, w4, w5, w6, w7, w8, wa, wb⟩ := id w9
  have ho : x_bk M o [.inr (11, mdF th (nI n) ep (nI R.1.1) (nI R.1.2) (o + 1) (o + 2) (o + 3) (o + 4) (o + 5) (o + 6) q r (o + 18) (o + 19) (o + 28))] := x_bk_sub w1 0 rfl
  exact x_C_mono (c_X11_crash hO hP w4 hk9 wa w3 ho (Or.inl (by omega)) (by omega) (by omega) hd9 hu9) (fun u M1 q => by obtain ⟨rfl, rfl⟩ := q; rw [if_pos hu9]; exact ⟨rfl, mQ_as w9⟩)
theorem mw_crashE {l : Launch} {Y0 : x_Y} (hO : x_Ok Y0) {M : x_M} {o n : Nat} {th : Int32} {f : Nat → Int32} {P : PL} {A : HS} {ep : Int32} (hP : p_ok P) (hk9 : h_ok P A) (w : wM M o th n f P A ep) {d : Nat} (hd9 : d < p_nd P) (hu9 : ¬ A 1 d = 0) : x_C l Y0 yX11_crash cX11_crash 2 (some .int) 5 0 0 [.ref o, .int (nI d)] M (fun u M1 => u = some (.int 0) ∧ mQ M M1 o 2 (n) (f) P (A) ep) := by
  obtain ⟨r, q, E2, R, G, hz, z, sm, T, hy, y2, w9⟩ := w
  obtain ⟨w1, w2, w3, w4, w5, w6, w7, w8, wa, wb⟩ := id w9
  have ho : x_bk M o [.inr (11, mdF th (nI n) ep (nI R.1.1) (nI R.1.2) (o + 1) (o + 2) (o + 3) (o + 4) (o + 5) (o + 6) q r (o + 18) (o + 19) (o + 28))] := x_bk_sub w1 0 rfl
  exact x_C_mono (c_X11_crashE hO hP w4 hk9 wa w3 ho (Or.inl (by omega)) (by omega) (by omega) hd9 hu9) (fun u M1 q => by obtain ⟨rfl, rfl⟩ := q; exact ⟨rfl, mQ_a w9⟩)
theorem mw_crashN {l : Launch} {Y0 : x_Y} (hO : x_Ok Y0) {M : x_M} {o n : Nat} {th : Int32} {f : Nat → Int32} {P : PL} {A : HS} {ep : Int32} (hP : p_ok P) (hk9 : h_ok P A) (w : wM M o th n f P A ep) {x : Int32} (hv : h_inR x (p_nd P) = false) : x_C l Y0 yX11_crash cX11_crash 2 (some .int) 5 0 0 [.ref o, .int x] M (fun u M1 => u = some (.int 0) ∧ mQ M M1 o 1 (n) (f) P (A) ep) := by
  obtain ⟨r, q, E2, R, G, hz, z, sm, T, hy, y2, w9⟩ := w
  obtain ⟨w1, w2, w3, w4, w5, w6, w7, w8, wa, wb⟩ := id w9
  have ho : x_bk M o [.inr (11, mdF th (nI n) ep (nI R.1.1) (nI R.1.2) (o + 1) (o + 2) (o + 3) (o + 4) (o + 5) (o + 6) q r (o + 18) (o + 19) (o + 28))] := x_bk_sub w1 0 rfl
  exact x_C_mono (c_X11_crashN hO hP w4 hk9 wa w3 ho (Or.inl (by omega)) (by omega) (by omega) hv) (fun u M1 q => by obtain ⟨rfl, rfl⟩ := q; exact ⟨rfl, mQ_a w9⟩)
theorem mw_wakeN {l : Launch} {Y0 : x_Y} (hO : x_Ok Y0) {M : x_M} {o n : Nat} {th : Int32} {f : Nat → Int32} {P : PL} {A : HS} {ep : Int32} (hP : p_ok P) (hk9 : h_ok P A) (w : wM M o th n f P A ep) {x : Int32} (hv : h_inR x (p_nd P) = false) : x_C l Y0 yX11_wake cX11_wake 2 (some .int) 5 0 0 [.ref o, .int x] M (fun u M1 => u = some (.int 0) ∧ mQ M M1 o 1 (n) (f) P (A) ep) := by
  obtain ⟨r, q, E2, R, G, hz, z, sm, T, hy, y2, w9⟩ := w
  obtain ⟨w1, w2, w3, w4, w5, w6, w7, w8, wa, wb⟩ := id w9
  have ho : x_bk M o [.inr (11, mdF th (nI n) ep (nI R.1.1) (nI R.1.2) (o + 1) (o + 2) (o + 3) (o + 4) (o + 5) (o + 6) q r (o + 18) (o + 19) (o + 28))] := x_bk_sub w1 0 rfl
  exact x_C_mono (c_X11_wakeN hO hP w4 hk9 wa w3 ho (Or.inl (by omega)) (by omega) (by omega) hv) (fun u M1 q => by obtain ⟨rfl, rfl⟩ := q; exact ⟨rfl, mQ_a w9⟩)
theorem mw_wake {l : Launch} {Y0 : x_Y} (hO : x_Ok Y0) {M : x_M} {o n : Nat} {th : Int32} {f : Nat → Int32} {P : PL} {A : HS} {ep : Int32} (hP : p_ok P) (hk9 : h_ok P A) (w : wM M o th n f P A ep) {d : Nat} (hd9 : d < p_nd P) (hu9 : ¬ A 1 d = 0) : x_C l Y0 yX11_wake cX11_wake 2 (some .int) 5 0 0 [.ref o, .int (nI d)] M (fun u M1 => u = some (.int (h_awake P (h_u A 1 d 0))) ∧ mQ M M1 o 0 (n) (f) P (h_u A 1 d 0) ep) := by
  obtain ⟨r, q, E2, R, G, hz, z, sm, T, hy, y2, w9⟩ := w
  obtain ⟨w1, w2, w3, w4, w5, w6, w7, w8, wa, wb⟩ := id w9
  have ho : x_bk M o [.inr (11, mdF th (nI n) ep (nI R.1.1) (nI R.1.2) (o + 1) (o + 2) (o + 3) (o + 4) (o + 5) (o + 6) q r (o + 18) (o + 19) (o + 28))] := x_bk_sub w1 0 rfl
  exact x_C_mono (c_X11_wake hO hP w4 hk9 wa w3 ho (Or.inl (by omega)) (by omega) (by omega) hd9 ((hk9.1 d).resolve_left hu9)) (fun u M1 q => by obtain ⟨rfl, rfl⟩ := q; rw [if_neg hu9, show h_wake P A d = h_u A 1 d 0 from if_neg (show ¬ d = 8 by have := hP.1; omega)]; exact ⟨rfl, mQ_as w9⟩)
theorem mw_wakeE {l : Launch} {Y0 : x_Y} (hO : x_Ok Y0) {M : x_M} {o n : Nat} {th : Int32} {f : Nat → Int32} {P : PL} {A : HS} {ep : Int32} (hP : p_ok P) (hk9 : h_ok P A) (w : wM M o th n f P A ep) {d : Nat} (hd9 : d < p_nd P) (hu9 : A 1 d = 0) : x_C l Y0 yX11_wake cX11_wake 2 (some .int) 5 0 0 [.ref o, .int (nI d)] M (fun u M1 => u = some (.int 0) ∧ mQ M M1 o 2 (n) (f) P (A) ep) := by
  obtain ⟨r, q, E2, R, G, hz, z, sm, T, hy, y2, w9⟩ := w
  obtain ⟨w1, w2, w3, w4, w5, w6, w7, w8, wa, wb⟩ := id w9
  have ho : x_bk M o [.inr (11, mdF th (nI n) ep (nI R.1.1) (nI R.1.2) (o + 1) (o + 2) (o + 3) (o + 4) (o + 5) (o + 6) q r (o + 18) (o + 19) (o + 28))] := x_bk_sub w1 0 rfl
  exact x_C_mono (c_X11_wakeE hO hP w4 hk9 wa w3 ho (Or.inl (by omega)) (by omega) (by omega) hd9 (fun e => by rw [hu9] at e; exact absurd e (by decide))) (fun u M1 q => by obtain ⟨rfl, rfl⟩ := q; exact ⟨rfl, mQ_a w9⟩)
theorem mw_crashQueen {l : Launch} {Y0 : x_Y} (hO : x_Ok Y0) {M : x_M} {o n : Nat} {th : Int32} {f : Nat → Int32} {P : PL} {A : HS} {ep : Int32} (hP : p_ok P) (hk9 : h_ok P A) (w : wM M o th n f P A ep) (hu9 : A 1 8 = 0) : x_C l Y0 yX11_crashQueen cX11_crashQueen 1 (some .int) 4 0 0 [.ref o] M (fun u M1 => u = some (.int (h_begun P (h_u A 1 8 1))) ∧ mQ M M1 o 0 (n) (f) P (h_u A 1 8 1) ep) := by
  obtain ⟨r, q, E2, R, G, hz, z, sm, T, hy, y2, w9⟩ := w
  obtain ⟨w1, w2, w3, w4, w5, w6, w7, w8, wa, wb⟩ := id w9
  have ho : x_bk M o [.inr (11, mdF th (nI n) ep (nI R.1.1) (nI R.1.2) (o + 1) (o + 2) (o + 3) (o + 4) (o + 5) (o + 6) q r (o + 18) (o + 19) (o + 28))] := x_bk_sub w1 0 rfl
  exact x_C_mono (c_X11_crashQueen hO hP w4 hk9 wa w3 ho (Or.inl (by omega)) (by omega) (by omega) hu9) (fun u M1 q => by obtain ⟨rfl, rfl⟩ := q; exact ⟨rfl, mQ_as w9⟩)
theorem mw_crashQueenE {l : Launch} {Y0 : x_Y} (hO : x_Ok Y0) {M : x_M} {o n : Nat} {th : Int32} {f : Nat → Int32} {P : PL} {A : HS} {ep : Int32} (hP : p_ok P) (hk9 : h_ok P A) (w : wM M o th n f P A ep) (hu9 : ¬ A 1 8 = 0) : x_C l Y0 yX11_crashQueen cX11_crashQueen 1 (some .int) 4 0 0 [.ref o] M (fun u M1 => u = some (.int 0) ∧ mQ M M1 o 1 (n) (f) P (A) ep) := by
  obtain ⟨r, q, E2, R, G, hz, z, sm, T, hy, y2, w9⟩ := w
  obtain ⟨w1, w2, w3, w4, w5, w6, w7, w8, wa, wb⟩ := id w9
  have ho : x_bk M o [.inr (11, mdF th (nI n) ep (nI R.1.1) (nI R.1.2) (o + 1) (o + 2) (o + 3) (o + 4) (o + 5) (o + 6) q r (o + 18) (o + 19) (o + 28))] := x_bk_sub w1 0 rfl
  exact x_C_mono (c_X11_crashQueenE hO hP w4 hk9 wa w3 ho (Or.inl (by omega)) (by omega) (by omega) hu9) (fun u M1 q => by obtain ⟨rfl, rfl⟩ := q; exact ⟨rfl, mQ_a w9⟩)
theorem mw_wakeQueen {l : Launch} {Y0 : x_Y} (hO : x_Ok Y0) {M : x_M} {o n : Nat} {th : Int32} {f : Nat → Int32} {P : PL} {A : HS} {ep : Int32} (hP : p_ok P) (hk9 : h_ok P A) (w : wM M o th n f P A ep) (hu9 : ¬ A 1 8 = 0) : x_C l Y0 yX11_wakeQueen cX11_wakeQueen 1 (some .int) 4 0 0 [.ref o] M (fun u M1 => u = some (.int (h_begun P A)) ∧ mQ M M1 o 0 (n) (f) P (h_refuse P (h_u A 1 8 0)) ep) := by
  obtain ⟨r, q, E2, R, G, hz, z, sm, T, hy, y2, w9⟩ := w
  obtain ⟨w1, w2, w3, w4, w5, w6, w7, w8, wa, wb⟩ := id w9
  have ho : x_bk M o [.inr (11, mdF th (nI n) ep (nI R.1.1) (nI R.1.2) (o + 1) (o + 2) (o + 3) (o + 4) (o + 5) (o + 6) q r (o + 18) (o + 19) (o + 28))] := x_bk_sub w1 0 rfl
  exact x_C_mono (c_X11_wakeQueen hO hP w4 hk9 wa w3 ho (Or.inl (by omega)) (by omega) (by omega) hu9) (fun u M1 q => by obtain ⟨rfl, rfl⟩ := q; exact ⟨rfl, mQ_as w9⟩)
theorem mw_wakeQueenE {l : Launch} {Y0 : x_Y} (hO : x_Ok Y0) {M : x_M} {o n : Nat} {th : Int32} {f : Nat → Int32} {P : PL} {A : HS} {ep : Int32} (hP : p_ok P) (hk9 : h_ok P A) (w : wM M o th n f P A ep) (hu9 : A 1 8 = 0) : x_C l Y0 yX11_wakeQueen cX11_wakeQueen 1 (some .int) 4 0 0 [.ref o] M (fun u M1 => u = some (.int 0) ∧ mQ M M1 o 1 (n) (f) P (A) ep) := by
  obtain ⟨r, q, E2, R, G, hz, z, sm, T, hy, y2, w9⟩ := w
  obtain ⟨w1, w2, w3, w4, w5, w6, w7, w8, wa, wb⟩ := id w9
  have ho : x_bk M o [.inr (11, mdF th (nI n) ep (nI R.1.1) (nI R.1.2) (o + 1) (o + 2) (o + 3) (o + 4) (o + 5) (o + 6) q r (o + 18) (o + 19) (o + 28))] := x_bk_sub w1 0 rfl
  exact x_C_mono (c_X11_wakeQueenE hO hP w4 hk9 wa w3 ho (Or.inl (by omega)) (by omega) (by omega) hu9) (fun u M1 q => by obtain ⟨rfl, rfl⟩ := q; exact ⟨rfl, mQ_a w9⟩)
theorem mw_passDays {l : Launch} {Y0 : x_Y} (hO : x_Ok Y0) {M : x_M} {o n : Nat} {th : Int32} {f : Nat → Int32} {P : PL} {A : HS} {ep : Int32} (hP : p_ok P) (hk9 : h_ok P A) (w : wM M o th n f P A ep) {n9 : Nat} (hn1 : 1 ≤ n9) (hn30 : n9 ≤ 30) : x_C l Y0 yX11_passDays cX11_passDays 3 (some .int) 7 0 0 [.ref o, .int (nI n9)] M (fun u M1 => u = some (.int (h_it (h_pass P) n9 (A, 0)).2) ∧ mQ M M1 o 0 (n) (f) P ((h_it (h_pass P) n9 (A, 0)).1) ep) := by
  obtain ⟨r, q, E2, R, G, hz, z, sm, T, hy, y2, w9⟩ := w
  obtain ⟨w1, w2, w3, w4, w5, w6, w7, w8, wa, wb⟩ := id w9
  have ho : x_bk M o [.inr (11, mdF th (nI n) ep (nI R.1.1) (nI R.1.2) (o + 1) (o + 2) (o + 3) (o + 4) (o + 5) (o + 6) q r (o + 18) (o + 19) (o + 28))] := x_bk_sub w1 0 rfl
  exact x_C_mono (c_X11_passDays hO hP w4 hk9 wa w3 ho (Or.inl (by omega)) (by omega) (by omega) w8 (by omega) (by omega) (by omega) hn1 hn30) (fun u M1 q => by obtain ⟨rfl, sk1, rfl⟩ := q; exact ⟨rfl, mQ_ats w9⟩)
theorem mw_passDaysN {l : Launch} {Y0 : x_Y} (hO : x_Ok Y0) {M : x_M} {o n : Nat} {th : Int32} {f : Nat → Int32} {P : PL} {A : HS} {ep : Int32} (hP : p_ok P) (hk9 : h_ok P A) (w : wM M o th n f P A ep) {x : Int32} (hv30 : (!decide (x < 1) && !decide (30 < x)) = false) : x_C l Y0 yX11_passDays cX11_passDays 3 (some .int) 7 0 0 [.ref o, .int x] M (fun u M1 => u = some (.int 0) ∧ mQ M M1 o 1 (n) (f) P (A) ep) := by
  obtain ⟨r, q, E2, R, G, hz, z, sm, T, hy, y2, w9⟩ := w
  obtain ⟨w1, w2, w3, w4, w5, w6, w7, w8, wa, wb⟩ := id w9
  have ho : x_bk M o [.inr (11, mdF th (nI n) ep (nI R.1.1) (nI R.1.2) (o + 1) (o + 2) (o + 3) (o + 4) (o + 5) (o + 6) q r (o + 18) (o + 19) (o + 28))] := x_bk_sub w1 0 rfl
  exact x_C_mono (c_X11_passDaysN hO hP w4 hk9 wa w3 ho (Or.inl (by omega)) (by omega) hv30) (fun u M1 q => by obtain ⟨rfl, rfl⟩ := q; exact ⟨rfl, mQ_a w9⟩)
theorem mw_honeyAfter {l : Launch} {Y0 : x_Y} (hO : x_Ok Y0) {M : x_M} {o n : Nat} {th : Int32} {f : Nat → Int32} {P : PL} {A : HS} {ep : Int32} (hP : p_ok P) (hk9 : h_ok P A) (w : wM M o th n f P A ep) {d : Nat} (hd9 : d < p_nd P) {n9 : Nat} (hn1 : 1 ≤ n9) (hn30 : n9 ≤ 30) : x_C l Y0 yX11_honeyAfter cX11_honeyAfter 3 (some .int) 8 0 0 [.ref o, .int (nI d), .int (nI n9)] M (fun u M1 => u = some (.int ((h_it (h_pass P) n9 (A, 0)).1 0 d)) ∧ mQ M M1 o 0 (n) (f) P (A) ep) := by
  obtain ⟨r, q, E2, R, G, hz, z, sm, T, hy, y2, w9⟩ := w
  obtain ⟨w1, w2, w3, w4, w5, w6, w7, w8, wa, wb⟩ := id w9
  have ho : x_bk M o [.inr (11, mdF th (nI n) ep (nI R.1.1) (nI R.1.2) (o + 1) (o + 2) (o + 3) (o + 4) (o + 5) (o + 6) q r (o + 18) (o + 19) (o + 28))] := x_bk_sub w1 0 rfl
  exact x_C_mono (c_X11_honeyAfter hO hP w4 hk9 wa w3 ho (Or.inl (by omega)) (by omega) (by omega) w8 (by omega) (by omega) (by omega) wb (by omega) (by omega) (by omega) (by omega) hd9 hn1 hn30) (fun u M1 q => by obtain ⟨rfl, sk1, B, y8, rfl⟩ := q; exact ⟨rfl, mQ_at2 w9⟩)
theorem mw_honeyAfterN {l : Launch} {Y0 : x_Y} (hO : x_Ok Y0) {M : x_M} {o n : Nat} {th : Int32} {f : Nat → Int32} {P : PL} {A : HS} {ep : Int32} (hP : p_ok P) (hk9 : h_ok P A) (w : wM M o th n f P A ep) {x y : Int32} (hv : h_inR x (p_nd P) = false) : x_C l Y0 yX11_honeyAfter cX11_honeyAfter 3 (some .int) 8 0 0 [.ref o, .int x, .int y] M (fun u M1 => u = some (.int 0) ∧ mQ M M1 o 1 (n) (f) P (A) ep) := by
  obtain ⟨r, q, E2, R, G, hz, z, sm, T, hy, y2, w9⟩ := w
  obtain ⟨w1, w2, w3, w4, w5, w6, w7, w8, wa, wb⟩ := id w9
  have ho : x_bk M o [.inr (11, mdF th (nI n) ep (nI R.1.1) (nI R.1.2) (o + 1) (o + 2) (o + 3) (o + 4) (o + 5) (o + 6) q r (o + 18) (o + 19) (o + 28))] := x_bk_sub w1 0 rfl
  exact x_C_mono (c_X11_honeyAfterN hO hP w4 hk9 wa w3 ho (Or.inl (by omega)) (by omega) hv) (fun u M1 q => by obtain ⟨rfl, rfl⟩ := q; exact ⟨rfl, mQ_a w9⟩)
theorem mw_honeyAfterE {l : Launch} {Y0 : x_Y} (hO : x_Ok Y0) {M : x_M} {o n : Nat} {th : Int32} {f : Nat → Int32} {P : PL} {A : HS} {ep : Int32} (hP : p_ok P) (hk9 : h_ok P A) (w : wM M o th n f P A ep) {d : Nat} (hd9 : d < p_nd P) {x : Int32} (hv30 : (!decide (x < 1) && !decide (30 < x)) = false) : x_C l Y0 yX11_honeyAfter cX11_honeyAfter 3 (some .int) 8 0 0 [.ref o, .int (nI d), .int x] M (fun u M1 => u = some (.int 0) ∧ mQ M M1 o 2 (n) (f) P (A) ep) := by
  obtain ⟨r, q, E2, R, G, hz, z, sm, T, hy, y2, w9⟩ := w
  obtain ⟨w1, w2, w3, w4, w5, w6, w7, w8, wa, wb⟩ := id w9
  have ho : x_bk M o [.inr (11, mdF th (nI n) ep (nI R.1.1) (nI R.1.2) (o + 1) (o + 2) (o + 3) (o + 4) (o + 5) (o + 6) q r (o + 18) (o + 19) (o + 28))] := x_bk_sub w1 0 rfl
  exact x_C_mono (c_X11_honeyAfterE hO hP w4 hk9 wa w3 ho (Or.inl (by omega)) (by omega) hd9 hv30) (fun u M1 q => by obtain ⟨rfl, rfl⟩ := q; exact ⟨rfl, mQ_a w9⟩)
theorem mw_stateAfter {l : Launch} {Y0 : x_Y} (hO : x_Ok Y0) {M : x_M} {o n : Nat} {th : Int32} {f : Nat → Int32} {P : PL} {A : HS} {ep : Int32} (hP : p_ok P) (hk9 : h_ok P A) (w : wM M o th n f P A ep) {k : Nat} (hk : k < p_nk P) {n9 : Nat} (hn1 : 1 ≤ n9) (hn30 : n9 ≤ 30) : x_C l Y0 yX11_stateAfter cX11_stateAfter 3 (some .int) 8 0 0 [.ref o, .int (nI k), .int (nI n9)] M (fun u M1 => u = some (.int ((h_it (h_pass P) n9 (A, 0)).1 4 k)) ∧ mQ M M1 o 0 (n) (f) P (A) ep) := by
  obtain ⟨r, q, E2, R, G, hz, z, sm, T, hy, y2, w9⟩ := w
  obtain ⟨w1, w2, w3, w4, w5, w6, w7, w8, wa, wb⟩ := id w9
  have ho : x_bk M o [.inr (11, mdF th (nI n) ep (nI R.1.1) (nI R.1.2) (o + 1) (o + 2) (o + 3) (o + 4) (o + 5) (o + 6) q r (o + 18) (o + 19) (o + 28))] := x_bk_sub w1 0 rfl
  exact x_C_mono (c_X11_stateAfter hO hP w4 hk9 wa w3 ho (Or.inl (by omega)) (by omega) (by omega) w8 (by omega) (by omega) (by omega) wb (by omega) (by omega) (by omega) (by omega) hk hn1 hn30) (fun u M1 q => by obtain ⟨rfl, sk1, B, y8, rfl⟩ := q; exact ⟨rfl, mQ_at2 w9⟩)
theorem mw_stateAfterN {l : Launch} {Y0 : x_Y} (hO : x_Ok Y0) {M : x_M} {o n : Nat} {th : Int32} {f : Nat → Int32} {P : PL} {A : HS} {ep : Int32} (hP : p_ok P) (hk9 : h_ok P A) (w : wM M o th n f P A ep) {x y : Int32} (hv : h_inR x (p_nk P) = false) : x_C l Y0 yX11_stateAfter cX11_stateAfter 3 (some .int) 8 0 0 [.ref o, .int x, .int y] M (fun u M1 => u = some (.int 0) ∧ mQ M M1 o 1 (n) (f) P (A) ep) := by
  obtain ⟨r, q, E2, R, G, hz, z, sm, T, hy, y2, w9⟩ := w
  obtain ⟨w1, w2, w3, w4, w5, w6, w7, w8, wa, wb⟩ := id w9
  have ho : x_bk M o [.inr (11, mdF th (nI n) ep (nI R.1.1) (nI R.1.2) (o + 1) (o + 2) (o + 3) (o + 4) (o + 5) (o + 6) q r (o + 18) (o + 19) (o + 28))] := x_bk_sub w1 0 rfl
  exact x_C_mono (c_X11_stateAfterN hO hP w4 hk9 wa w3 ho (Or.inl (by omega)) (by omega) hv) (fun u M1 q => by obtain ⟨rfl, rfl⟩ := q; exact ⟨rfl, mQ_a w9⟩)
theorem mw_stateAfterE {l : Launch} {Y0 : x_Y} (hO : x_Ok Y0) {M : x_M} {o n : Nat} {th : Int32} {f : Nat → Int32} {P : PL} {A : HS} {ep : Int32} (hP : p_ok P) (hk9 : h_ok P A) (w : wM M o th n f P A ep) {k : Nat} (hk : k < p_nk P) {x : Int32} (hv30 : (!decide (x < 1) && !decide (30 < x)) = false) : x_C l Y0 yX11_stateAfter cX11_stateAfter 3 (some .int) 8 0 0 [.ref o, .int (nI k), .int x] M (fun u M1 => u = some (.int 0) ∧ mQ M M1 o 2 (n) (f) P (A) ep) := by
  obtain ⟨r, q, E2, R, G, hz, z, sm, T, hy, y2, w9⟩ := w
  obtain ⟨w1, w2, w3, w4, w5, w6, w7, w8, wa, wb⟩ := id w9
  have ho : x_bk M o [.inr (11, mdF th (nI n) ep (nI R.1.1) (nI R.1.2) (o + 1) (o + 2) (o + 3) (o + 4) (o + 5) (o + 6) q r (o + 18) (o + 19) (o + 28))] := x_bk_sub w1 0 rfl
  exact x_C_mono (c_X11_stateAfterE hO hP w4 hk9 wa w3 ho (Or.inl (by omega)) (by omega) hk hv30) (fun u M1 q => by obtain ⟨rfl, rfl⟩ := q; exact ⟨rfl, mQ_a w9⟩)
theorem mw_daysUntilFree {l : Launch} {Y0 : x_Y} (hO : x_Ok Y0) {M : x_M} {o n : Nat} {th : Int32} {f : Nat → Int32} {P : PL} {A : HS} {ep : Int32} (hP : p_ok P) (hk9 : h_ok P A) (w : wM M o th n f P A ep) {d : Nat} (hd9 : d < p_nd P) : x_C l Y0 yX11_daysUntilFree cX11_daysUntilFree 2 (some .int) 8 0 0 [.ref o, .int (nI d)] M (fun u M1 => u = some (.int (h_fr P d 40 0 A)) ∧ mQ M M1 o 0 (n) (f) P (A) ep) := by
  obtain ⟨r, q, E2, R, G, hz, z, sm, T, hy, y2, w9⟩ := w
  obtain ⟨w1, w2, w3, w4, w5, w6, w7, w8, wa, wb⟩ := id w9
  have ho : x_bk M o [.inr (11, mdF th (nI n) ep (nI R.1.1) (nI R.1.2) (o + 1) (o + 2) (o + 3) (o + 4) (o + 5) (o + 6) q r (o + 18) (o + 19) (o + 28))] := x_bk_sub w1 0 rfl
  exact x_C_mono (c_X11_daysUntilFree hO hP w4 hk9 wa w3 ho (Or.inl (by omega)) (by omega) (by omega) w8 (by omega) (by omega) (by omega) wb (by omega) (by omega) (by omega) (by omega) hd9) (fun u M1 q => by obtain ⟨rfl, sk1, B, y8, rfl⟩ := q; exact ⟨rfl, mQ_at2 w9⟩)
theorem mw_daysUntilFreeN {l : Launch} {Y0 : x_Y} (hO : x_Ok Y0) {M : x_M} {o n : Nat} {th : Int32} {f : Nat → Int32} {P : PL} {A : HS} {ep : Int32} (hP : p_ok P) (hk9 : h_ok P A) (w : wM M o th n f P A ep) {x : Int32} (hv : h_inR x (p_nd P) = false) : x_C l Y0 yX11_daysUntilFree cX11_daysUntilFree 2 (some .int) 8 0 0 [.ref o, .int x] M (fun u M1 => u = some (.int 0) ∧ mQ M M1 o 1 (n) (f) P (A) ep) := by
  obtain ⟨r, q, E2, R, G, hz, z, sm, T, hy, y2, w9⟩ := w
  obtain ⟨w1, w2, w3, w4, w5, w6, w7, w8, wa, wb⟩ := id w9
  have ho : x_bk M o [.inr (11, mdF th (nI n) ep (nI R.1.1) (nI R.1.2) (o + 1) (o + 2) (o + 3) (o + 4) (o + 5) (o + 6) q r (o + 18) (o + 19) (o + 28))] := x_bk_sub w1 0 rfl
  exact x_C_mono (c_X11_daysUntilFreeN hO hP w4 hk9 wa w3 ho (Or.inl (by omega)) (by omega) hv) (fun u M1 q => by obtain ⟨rfl, rfl⟩ := q; exact ⟨rfl, mQ_a w9⟩)
theorem mw_bestToWake {l : Launch} {Y0 : x_Y} (hO : x_Ok Y0) {M : x_M} {o n : Nat} {th : Int32} {f : Nat → Int32} {P : PL} {A : HS} {ep : Int32} (hP : p_ok P) (hk9 : h_ok P A) (w : wM M o th n f P A ep) : x_C l Y0 yX11_bestToWake cX11_bestToWake 1 (some .int) 9 0 0 [.ref o] M (fun u M1 => u = some (.int (h_best P A)) ∧ mQ M M1 o 0 (n) (f) P (A) ep) := by
  obtain ⟨r, q, E2, R, G, hz, z, sm, T, hy, y2, w9⟩ := w
  obtain ⟨w1, w2, w3, w4, w5, w6, w7, w8, wa, wb⟩ := id w9
  have ho : x_bk M o [.inr (11, mdF th (nI n) ep (nI R.1.1) (nI R.1.2) (o + 1) (o + 2) (o + 3) (o + 4) (o + 5) (o + 6) q r (o + 18) (o + 19) (o + 28))] := x_bk_sub w1 0 rfl
  exact x_C_mono (c_X11_bestToWake hO hP w4 hk9 wa w3 ho (Or.inl (by omega)) (by omega) (by omega) w8 (by omega) (by omega) (by omega) wb (by omega) (by omega) (by omega) (by omega)) (fun u M1 q => by obtain ⟨rfl, sk1, B, hy1, y8, rfl⟩ := q; exact ⟨rfl, mQ_at2 w9⟩)
theorem mw_trim {l : Launch} {Y0 : x_Y} (hO : x_Ok Y0) {M : x_M} {o n : Nat} {th : Int32} {f : Nat → Int32} {P : PL} {A : HS} {ep : Int32} (hP : p_ok P) (hk9 : h_ok P A) (w : wM M o th n f P A ep) {k : Nat} (hk : k ≤ n) (hn : n ≤ 2000) : x_C l Y0 yX11_trim cX11_trim 2 (some .int) 2 0 0 [.ref o, .int (nI k)] M (fun u M1 => u = some (.int (nI k)) ∧ mQ M M1 o 0 (k) (f) P (A) ep) := by
  obtain ⟨r, q, E2, R, G, hz, z, sm, T, hy, y2, w9⟩ := w
  obtain ⟨w1, w2, w3, w4, w5, w6, w7, w8, wa, wb⟩ := id w9
  have ho : x_bk M o [.inr (11, mdF th (nI n) ep (nI R.1.1) (nI R.1.2) (o + 1) (o + 2) (o + 3) (o + 4) (o + 5) (o + 6) q r (o + 18) (o + 19) (o + 28))] := x_bk_sub w1 0 rfl
  exact x_C_mono (c_X11_trim hO ho hk hn) (fun u M1 q => by obtain ⟨rfl, rfl⟩ := q; exact ⟨rfl, mQ_a w9⟩)
theorem mw_trimN {l : Launch} {Y0 : x_Y} (hO : x_Ok Y0) {M : x_M} {o n : Nat} {th : Int32} {f : Nat → Int32} {P : PL} {A : HS} {ep : Int32} (hP : p_ok P) (hk9 : h_ok P A) (w : wM M o th n f P A ep) {x : Int32} (hv30 : (!decide (x < 0) && !decide (nI n < x)) = false) : x_C l Y0 yX11_trim cX11_trim 2 (some .int) 2 0 0 [.ref o, .int x] M (fun u M1 => u = some (.int 0) ∧ mQ M M1 o 1 (n) (f) P (A) ep) := by
  obtain ⟨r, q, E2, R, G, hz, z, sm, T, hy, y2, w9⟩ := w
  obtain ⟨w1, w2, w3, w4, w5, w6, w7, w8, wa, wb⟩ := id w9
  have ho : x_bk M o [.inr (11, mdF th (nI n) ep (nI R.1.1) (nI R.1.2) (o + 1) (o + 2) (o + 3) (o + 4) (o + 5) (o + 6) q r (o + 18) (o + 19) (o + 28))] := x_bk_sub w1 0 rfl
  exact x_C_mono (c_X11_trimN hO ho hv30) (fun u M1 q => by obtain ⟨rfl, rfl⟩ := q; exact ⟨rfl, mQ_a w9⟩)
theorem mw_feedN {l : Launch} {Y0 : x_Y} (hO : x_Ok Y0) {M : x_M} {o n : Nat} {th : Int32} {f : Nat → Int32} {P : PL} {A : HS} {ep : Int32} (hP : p_ok P) (hk9 : h_ok P A) (w : wM M o th n f P A ep) {x1 x2 x3 x4 x5 : Int32} (h80 : ¬ nI n ≤ (1980 : Int32)) : x_C l Y0 yX11_feed cX11_feed 8 (some .int) 2 0 0 [.ref o, .int x1, .int x2, .int x3, .int x4, .int x5] M (fun u M1 => u = some (.int 0) ∧ mQ M M1 o 1 (n) (f) P (A) ep) := by
  obtain ⟨r, q, E2, R, G, hz, z, sm, T, hy, y2, w9⟩ := w
  obtain ⟨w1, w2, w3, w4, w5, w6, w7, w8, wa, wb⟩ := id w9
  have ho : x_bk M o [.inr (11, mdF th (nI n) ep (nI R.1.1) (nI R.1.2) (o + 1) (o + 2) (o + 3) (o + 4) (o + 5) (o + 6) q r (o + 18) (o + 19) (o + 28))] := x_bk_sub w1 0 rfl
  exact x_C_mono (c_X11_feedN hO ho h80) (fun u M1 q => by obtain ⟨rfl, rfl⟩ := q; exact ⟨rfl, mQ_a w9⟩)
theorem mw_feed {l : Launch} {Y0 : x_Y} (hO : x_Ok Y0) {M : x_M} {o n : Nat} {th : Int32} {f : Nat → Int32} {P : PL} {A : HS} {ep : Int32} (hP : p_ok P) (hk9 : h_ok P A) (w : wM M o th n f P A ep) {x1 x2 x3 x4 x5 : Int32} (hn : n ≤ 1980) : x_C l Y0 yX11_feed cX11_feed 8 (some .int) 2 1 5 [.ref o, .int x1, .int x2, .int x3, .int x4, .int x5] M (fun u M1 => u = some (.int (nI (n + 20))) ∧ mQ M M1 o 0 (n + 20) (b_feed f n x1 x2 x3 x4 x5) P A ep) := by
  obtain ⟨r, q, E2, R, G, hz, z, sm, T, hy, y2, w9⟩ := w
  obtain ⟨w1, w2, w3, w4, w5, w6, w7, w8, wa, wb⟩ := id w9
  have ho : x_bk M o [.inr (11, mdF th (nI n) ep (nI R.1.1) (nI R.1.2) (o + 1) (o + 2) (o + 3) (o + 4) (o + 5) (o + 6) q r (o + 18) (o + 19) (o + 28))] := x_bk_sub w1 0 rfl
  have htp : x_bk M (o + 1) [.inl (0, 2000, .inl (E2 20))] := x_bk_sub w1 1 rfl
  refine x_C_mono (c_X11_feed hO ho htp hn (Or.inl (by omega)) (by omega) (by omega)) (fun u M1 q9 => ?_)
  obtain ⟨rfl, rfl⟩ := q9
  refine ⟨rfl, ?_⟩
  rw [w2]
  have l1 : (moT o r (((th, nI n, ep), (q, o + 18, o + 19, o + 28)), E2) R).length = 7 := rfl
  have l3 : (pmT q G).length = 11 := rfl
  have l9 : (stT (o + 19) o P A hz z).length = 9 := rfl
  have l0 : (stT (o + 28) o P T hy y2).length = 9 := rfl
  have e1 : ∀ (X Z W : x_E) (x : Nat), x < M.2 → x ≠ o → x ≠ o + 1 → (x_ov (x_ov (x_nw M X) (o + 1) [Z]) o [W]).1 x = M.1 x := fun X Z W x h1 h2 h3 => (x_ov_out (by simp only [List.length_cons, List.length_nil]; omega)).trans ((x_ov_out (by simp only [List.length_cons, List.length_nil]; omega)).trans (if_neg (by omega)))
  refine mQ_of (E2 := q_r E2 20 (b_feed f n x1 x2 x3 x4 x5)) (R := R) (r := r) (q := q) (G := G) (hz := hz) (z := z) (sm := sm) (T := T) (hy := hy) (y2 := y2) ⟨?_, rfl, ?_, w4, w5, Nat.le_succ_of_le w6, Nat.le_succ_of_le w7, ?_, ?_, ?_⟩ (Nat.le_succ _) (fun x h => e1 _ _ _ x (by omega) (by omega) (by omega))
  · intro j d hd
    match j, hd with
    | 0, hd => exact x_ovg (L := [_]) 0 hd
    | 1, hd => exact (x_ov_out (Or.inr (by simp only [List.length_cons, List.length_nil]; omega))).trans (x_ovg (L := [_]) 0 hd)
    | j + 2, hd =>
      have hj : j + 2 < 7 := (List.getElem?_eq_some_iff.mp hd).1
      exact (e1 _ _ _ _ (by omega) (by omega) (by omega)).trans (w1 (j + 2) d hd)
  · exact x_bk_eq w3 (fun x h1 h2 => e1 _ _ _ x (by omega) (by omega) (by omega))
  · exact x_bk_eq w8 (fun x h1 h2 => by simp only [List.length_cons, List.length_nil] at h2; exact e1 _ _ _ x (by omega) (by omega) (by omega))
  · exact x_bk_eq wa (fun x h1 h2 => e1 _ _ _ x (by omega) (by omega) (by omega))
  · exact x_bk_eq wb (fun x h1 h2 => e1 _ _ _ x (by omega) (by omega) (by omega))
theorem mw_digest {l : Launch} {Y0 : x_Y} (hO : x_Ok Y0) {M : x_M} {o n : Nat} {th : Int32} {f : Nat → Int32} {P : PL} {A : HS} {ep : Int32} (hP : p_ok P) (hk9 : h_ok P A) (w : wM M o th n f P A ep) : x_C l Y0 yX11_digest cX11_digest 10 (some .long) 9 15 72 [.ref o] M (fun u M1 => u = some (.long (h_digest P A)) ∧ mQ M M1 o 0 n f P A ep) := by
  obtain ⟨r, q, E2, R, G, hz, z, sm, T, hy, y2, w9⟩ := w
  obtain ⟨w1, w2, w3, w4, w5, w6, w7, w8, wa, wb⟩ := id w9
  have ho : x_bk M o [.inr (11, mdF th (nI n) ep (nI R.1.1) (nI R.1.2) (o + 1) (o + 2) (o + 3) (o + 4) (o + 5) (o + 6) q r (o + 18) (o + 19) (o + 28))] := x_bk_sub w1 0 rfl
  have l1 : (moT o r (((th, nI n, ep), (q, o + 18, o + 19, o + 28)), E2) R).length = 7 := rfl
  refine x_C_mono (c_X11_digest hO hP w4 hk9 wa w3 ho ⟨by omega, by omega, by omega, by omega, by omega⟩ (Or.inl (by omega)) (by omega) (by omega) w8 (by omega) (by omega) (by omega) wb (by omega) (by omega) (by omega) (by omega)) (fun u M1 q9 => ?_)
  obtain ⟨rfl, d1, d2, d3, d4, ⟨sk, d5⟩, ⟨B, hy1, y8, d6⟩, d7⟩ := q9
  refine ⟨rfl, mQ_of (E2 := E2) (R := R) (r := r) (q := q) (G := G) (hz := hz) (z := z) (sm := sk) (T := B) (hy := hy1) (y2 := y8) ⟨?_, w2, d3, w4, w5, by omega, by omega, d5, d4, d6⟩ d1 (fun x h => d7 x (by omega) (by omega) (by omega) (by omega))⟩
  intro j d hd
  cases j with
  | zero => exact d2 0 d hd
  | succ j =>
    have hj : j + 1 < 7 := (List.getElem?_eq_some_iff.mp hd).1
    exact (d7 _ (by omega) (by omega) (by omega) (by omega)).trans (w1 (j + 1) d hd)
