theorem x_bk_eq {M M1 : x_M} {a : Nat} {L : List x_E} (h : x_bk M a L) (e : ∀ x, a ≤ x → x < a + L.length → M1.1 x = M.1 x) : x_bk M1 a L := by
  intro j c hc
  have hj : j < L.length := (List.getElem?_eq_some_iff.mp hc).1
  rw [e (a + j) (by omega) (by omega)]
  exact h j c hc
theorem x_bk_nx {M : x_M} {a k : Nat} {L : List x_E} (h : x_bk M a L) : x_bk (x_nx M k) a L := h
theorem x_bk_set0 {M : x_M} {a : Nat} {c c' : x_E} {L : List x_E} (h : x_bk M a (c :: L)) : x_bk (x_ov M a [c']) a (c' :: L) := by
  intro j d hd
  cases j with
  | zero => exact x_ovg 0 hd
  | succ j => exact (x_ov_out (Or.inr (by simp only [List.length_cons, List.length_nil]; omega))).trans (h (j + 1) d hd)
/-- the class's cells, c to c + 95 -/
def wCr (M : x_M) (c n : Nat) (f : Nat → Int32) (P : PL) (A : HS) (ep : Int32) (x0 : Nat) (v0 : Int64) (K2 : (Nat → Int32) × (Nat → Int32) × (Nat → Int64)) (Q : HS) (S : tS) (hx sk : Nat → Int32) (ht : Int32) (T : HS) (hy sl : Nat → Int32) (hu : Int32) : Prop :=
  x_bk M c [.inr (8, [.ref (c + 1), .ref (c + 4), .ref (c + 4 + 21), .ref (c + 4 + 42), .ref (c + 56), .ref (c + 76), .int ep])] ∧ x_bk M (c + 1) (tpT (c + 1) (nI n) f) ∧ x_bk M (c + 4) (tcT (c + 4) ((c + 1, nI x0, v0), k_KW, K2) Q S) ∧ (∀ j, ¬ K2.2.1 j = -1) ∧ q_is Q P ∧ x_bk M (c + 56) (hvT (c + 56) (c + 4 + 21) P A hx sk ht) ∧ x_bk M (c + 76) (hvT (c + 76) (c + 4 + 21) P T hy sl hu)
def wC (M : x_M) (c n : Nat) (f : Nat → Int32) (P : PL) (A : HS) (ep : Int32) : Prop := ∃ (x0 : Nat) (v0 : Int64) (K2 : (Nat → Int32) × (Nat → Int32) × (Nat → Int64)) (Q : HS) (S : tS) (hx sk : Nat → Int32) (ht : Int32) (T : HS) (hy sl : Nat → Int32) (hu : Int32), wCr M c n f P A ep x0 v0 K2 Q S hx sk ht T hy sl hu
/-- a call of the class: its cells alone -/
def cQ (M M1 : x_M) (c n : Nat) (f : Nat → Int32) (P : PL) (A : HS) (ep : Int32) : Prop := wC M1 c n f P A ep ∧ M1.2 = M.2 ∧ ∀ x, x < c ∨ c + 96 ≤ x → M1.1 x = M.1 x
/-- the model's cells, from o on; its plan may lie behind -/
def wMr (M : x_M) (o : Nat) (th : Int32) (n : Nat) (f : Nat → Int32) (P : PL) (A : HS) (ep : Int32) (r q : Nat) (E2 : HS) (R : rS) (G : HS) (hz : Nat → Int32) (z : Int32) (sm : Nat → Int32) (T : HS) (hy : Nat → Int32) (y2 : Int32) : Prop :=
  x_bk M o (moT o r (((th, nI n, ep), (q, o + 18, o + 19, o + 28)), E2) R) ∧ E2 20 = f ∧ x_bk M q (pmT q G) ∧ g_is G P ∧ (q = o + 7 ∨ o + 47 ≤ q) ∧ q + 11 ≤ M.2 ∧ o + 47 ≤ M.2 ∧ x_bk M (o + 18) [.inl (0, 400, .inl sm)] ∧ x_bk M (o + 19) (stT (o + 19) o P A hz z) ∧ x_bk M (o + 28) (stT (o + 28) o P T hy y2)
def wM (M : x_M) (o : Nat) (th : Int32) (n : Nat) (f : Nat → Int32) (P : PL) (A : HS) (ep : Int32) : Prop := ∃ (r q : Nat) (E2 : HS) (R : rS) (G : HS) (hz : Nat → Int32) (z : Int32) (sm : Nat → Int32) (T : HS) (hy : Nat → Int32) (y2 : Int32), wMr M o th n f P A ep r q E2 R G hz z sm T hy y2
def mQ (M M1 : x_M) (o : Nat) (th : Int32) (n : Nat) (f : Nat → Int32) (P : PL) (A : HS) (ep : Int32) : Prop := wM M1 o th n f P A ep ∧ M.2 ≤ M1.2 ∧ ∀ x, x < o ∨ x = o + 46 → M1.1 x = M.1 x
/-- the law's world: class at c, model at c + 96, the answer's cell at c + 142 -/
def wV (M : x_M) (c n : Nat) (f : Nat → Int32) (P : PL) (A : HS) (ep th : Int32) (g : Nat → Int64) : Prop := n ≤ 2000 ∧ k_by f ∧ p_ok P ∧ h_ok P A ∧ x_bk M (c + 142) [.inl (1, 1, .inr (.inl g))] ∧ wC M c n f P A ep ∧ wM M (c + 96) th n f P A ep
def wL (M : x_M) (c : Nat) : Prop := ∃ (n : Nat) (f : Nat → Int32) (P : PL) (A : HS) (ep th : Int32) (g : Nat → Int64), wV M c n f P A ep th g
section XW
variable {M M1 : x_M}
theorem wC_p {c n : Nat} {f : Nat → Int32} {P : PL} {A : HS} {ep : Int32} {x0 : Nat} {v0 : Int64} {K2 : (Nat → Int32) × (Nat → Int32) × (Nat → Int64)} {Q : HS} {S : tS} {hx sk : Nat → Int32} {ht : Int32} {T : HS} {hy sl : Nat → Int32} {hu : Int32} (h : wCr M c n f P A ep x0 v0 K2 Q S hx sk ht T hy sl hu) : x_bk M (c + 4 + 21) (plT (c + 4 + 21) Q) := x_bk_sub h.2.2.1 21 rfl
theorem wC_far {c n : Nat} {f : Nat → Int32} {P : PL} {A : HS} {ep : Int32} (h : wC M c n f P A ep) (e : ∀ x, c ≤ x → x < c + 96 → M1.1 x = M.1 x) : wC M1 c n f P A ep := by
  obtain ⟨x0, v0, K2, Q, S, hx, sk, ht, T, hy, sl, hu, h1, h2, h3, h4, h5, h6, h7⟩ := h
  have l2 : (tpT (c + 1) (nI n) f).length = 3 := rfl
  have l3 : (tcT (c + 4) ((c + 1, nI x0, v0), k_KW, K2) Q S).length = 52 := rfl
  have l6 : (hvT (c + 56) (c + 4 + 21) P A hx sk ht).length = 20 := rfl
  have l7 : (hvT (c + 76) (c + 4 + 21) P T hy sl hu).length = 20 := rfl
  exact ⟨x0, v0, K2, Q, S, hx, sk, ht, T, hy, sl, hu, x_bk_eq h1 (fun x q1 q2 => e x (by omega) (by simp only [List.length_cons, List.length_nil] at q2; omega)), x_bk_eq h2 (fun x q1 q2 => e x (by omega) (by omega)), x_bk_eq h3 (fun x q1 q2 => e x (by omega) (by omega)), h4, h5, x_bk_eq h6 (fun x q1 q2 => e x (by omega) (by omega)), x_bk_eq h7 (fun x q1 q2 => e x (by omega) (by omega))⟩
theorem wM_far {o n : Nat} {th : Int32} {f : Nat → Int32} {P : PL} {A : HS} {ep : Int32} (h : wM M o th n f P A ep) (hM : M.2 ≤ M1.2) (e : ∀ x, o ≤ x → x ≠ o + 46 → x < M.2 → M1.1 x = M.1 x) : wM M1 o th n f P A ep := by
  obtain ⟨r, q, E2, R, G, hz, z, sm, T, hy, y2, h1, h2, h3, h4, h5, h6, h7, h8, h9, h0⟩ := h
  have l1 : (moT o r (((th, nI n, ep), (q, o + 18, o + 19, o + 28)), E2) R).length = 7 := rfl
  have l3 : (pmT q G).length = 11 := rfl
  have l9 : (stT (o + 19) o P A hz z).length = 9 := rfl
  have l0 : (stT (o + 28) o P T hy y2).length = 9 := rfl
  exact ⟨r, q, E2, R, G, hz, z, sm, T, hy, y2, x_bk_eq h1 (fun x q1 q2 => e x (by omega) (by omega) (by omega)), h2, x_bk_eq h3 (fun x q1 q2 => e x (by omega) (by omega) (by omega)), h4, h5, by omega, by omega, x_bk_eq h8 (fun x q1 q2 => by simp only [List.length_cons, List.length_nil] at q2; exact e x (by omega) (by omega) (by omega)), x_bk_eq h9 (fun x q1 q2 => e x (by omega) (by omega) (by omega)), x_bk_eq h0 (fun x q1 q2 => e x (by omega) (by omega) (by omega))⟩
theorem cQ_self {c n : Nat} {f : Nat → Int32} {P : PL} {A : HS} {ep : Int32} (h : wC M c n f P A ep) : cQ M M c n f P A ep := ⟨h, rfl, fun _ _ => rfl⟩
theorem cQ_tape {c n : Nat} {f : Nat → Int32} {P : PL} {A : HS} {ep : Int32} {x0 : Nat} {v0 : Int64} {K2 : (Nat → Int32) × (Nat → Int32) × (Nat → Int64)} {Q : HS} {S : tS} {hx sk : Nat → Int32} {ht : Int32} {T : HS} {hy sl : Nat → Int32} {hu : Int32} {n' : Nat} {f' : Nat → Int32} (h : wCr M c n f P A ep x0 v0 K2 Q S hx sk ht T hy sl hu) : cQ M (x_ov M (c + 1) (tpT (c + 1) (nI n') f')) c n' f' P A ep := by
  obtain ⟨h1, h2, h3, h4, h5, h6, h7⟩ := h
  have l2 : (tpT (c + 1) (nI n') f').length = 3 := rfl
  have l3 : (tcT (c + 4) ((c + 1, nI x0, v0), k_KW, K2) Q S).length = 52 := rfl
  have l6 : (hvT (c + 56) (c + 4 + 21) P A hx sk ht).length = 20 := rfl
  have l7 : (hvT (c + 76) (c + 4 + 21) P T hy sl hu).length = 20 := rfl
  exact ⟨⟨x0, v0, K2, Q, S, hx, sk, ht, T, hy, sl, hu, x_ov_far 3 h1 l2 (Or.inl (Nat.le_refl _)), x_ov_bk, x_ov_far 3 h3 l2 (by omega), h4, h5, x_ov_far 3 h6 l2 (by omega), x_ov_far 3 h7 l2 (by omega)⟩, rfl, fun x q => x_ov_out (by omega)⟩
theorem cQ_now {c n : Nat} {f : Nat → Int32} {P : PL} {A : HS} {ep : Int32} {x0 : Nat} {v0 : Int64} {K2 : (Nat → Int32) × (Nat → Int32) × (Nat → Int64)} {Q : HS} {S : tS} {hx sk : Nat → Int32} {ht : Int32} {T : HS} {hy sl : Nat → Int32} {hu : Int32} {A' : HS} {hx' sk' : Nat → Int32} {ht' : Int32} (h : wCr M c n f P A ep x0 v0 K2 Q S hx sk ht T hy sl hu) : cQ M (x_ov M (c + 56) (hvT (c + 56) (c + 4 + 21) P A' hx' sk' ht')) c n f P A' ep := by
  obtain ⟨h1, h2, h3, h4, h5, h6, h7⟩ := h
  have l2 : (tpT (c + 1) (nI n) f).length = 3 := rfl
  have l3 : (tcT (c + 4) ((c + 1, nI x0, v0), k_KW, K2) Q S).length = 52 := rfl
  have l6 : (hvT (c + 56) (c + 4 + 21) P A' hx' sk' ht').length = 20 := rfl
  have l7 : (hvT (c + 76) (c + 4 + 21) P T hy sl hu).length = 20 := rfl
  exact ⟨⟨x0, v0, K2, Q, S, hx', sk', ht', T, hy, sl, hu, x_ov_far 20 h1 l6 (Or.inl (by simp only [List.length_cons, List.length_nil]; omega)), x_ov_far 20 h2 l6 (by omega), x_ov_far 20 h3 l6 (by omega), h4, h5, x_ov_bk, x_ov_far 20 h7 l6 (by omega)⟩, rfl, fun x q => x_ov_out (by omega)⟩
theorem cQ_trial {c n : Nat} {f : Nat → Int32} {P : PL} {A : HS} {ep : Int32} {x0 : Nat} {v0 : Int64} {K2 : (Nat → Int32) × (Nat → Int32) × (Nat → Int64)} {Q : HS} {S : tS} {hx sk : Nat → Int32} {ht : Int32} {T : HS} {hy sl : Nat → Int32} {hu : Int32} {T' : HS} {hy' sl' : Nat → Int32} {hu' : Int32} (h : wCr M c n f P A ep x0 v0 K2 Q S hx sk ht T hy sl hu) : cQ M (x_ov M (c + 76) (hvT (c + 76) (c + 4 + 21) P T' hy' sl' hu')) c n f P A ep := by
  obtain ⟨h1, h2, h3, h4, h5, h6, h7⟩ := h
  have l2 : (tpT (c + 1) (nI n) f).length = 3 := rfl
  have l3 : (tcT (c + 4) ((c + 1, nI x0, v0), k_KW, K2) Q S).length = 52 := rfl
  have l6 : (hvT (c + 56) (c + 4 + 21) P A hx sk ht).length = 20 := rfl
  have l7 : (hvT (c + 76) (c + 4 + 21) P T' hy' sl' hu').length = 20 := rfl
  exact ⟨⟨x0, v0, K2, Q, S, hx, sk, ht, T', hy', sl', hu', x_ov_far 20 h1 l7 (Or.inl (by simp only [List.length_cons, List.length_nil]; omega)), x_ov_far 20 h2 l7 (by omega), x_ov_far 20 h3 l7 (by omega), h4, h5, x_ov_far 20 h6 l7 (by omega), x_ov_bk⟩, rfl, fun x q => x_ov_out (by omega)⟩
theorem wMr_a {o n : Nat} {th : Int32} {f : Nat → Int32} {P : PL} {A : HS} {ep : Int32} {r q : Nat} {E2 : HS} {R : rS} {G : HS} {hz : Nat → Int32} {z : Int32} {sm : Nat → Int32} {T : HS} {hy : Nat → Int32} {y2 : Int32} {th' : Int32} {n' : Nat} (h : wMr M o th n f P A ep r q E2 R G hz z sm T hy y2) : wMr (x_ov M o [.inr (11, mdF th' (nI n') ep (nI R.1.1) (nI R.1.2) (o + 1) (o + 2) (o + 3) (o + 4) (o + 5) (o + 6) q r (o + 18) (o + 19) (o + 28))]) o th' n' f P A ep r q E2 R G hz z sm T hy y2 := by
  obtain ⟨h1, h2, h3, h4, h5, h6, h7, h8, h9, h0⟩ := h
  have l3 : (pmT q G).length = 11 := rfl
  have l9 : (stT (o + 19) o P A hz z).length = 9 := rfl
  have l0 : (stT (o + 28) o P T hy y2).length = 9 := rfl
  exact ⟨x_bk_set0 h1, h2, x_ov_far 1 h3 rfl (by omega), h4, h5, h6, h7, x_ov_far 1 h8 rfl (Or.inr (by omega)), x_ov_far 1 h9 rfl (by omega), x_ov_far 1 h0 rfl (by omega)⟩
theorem wMr_t {o n : Nat} {th : Int32} {f : Nat → Int32} {P : PL} {A : HS} {ep : Int32} {r q : Nat} {E2 : HS} {R : rS} {G : HS} {hz : Nat → Int32} {z : Int32} {sm : Nat → Int32} {T : HS} {hy : Nat → Int32} {y2 : Int32} {sm' : Nat → Int32} (h : wMr M o th n f P A ep r q E2 R G hz z sm T hy y2) : wMr (x_ov M (o + 18) [.inl (0, 400, .inl sm')]) o th n f P A ep r q E2 R G hz z sm' T hy y2 := by
  obtain ⟨h1, h2, h3, h4, h5, h6, h7, h8, h9, h0⟩ := h
  have l1 : (moT o r (((th, nI n, ep), (q, o + 18, o + 19, o + 28)), E2) R).length = 7 := rfl
  have l3 : (pmT q G).length = 11 := rfl
  have l9 : (stT (o + 19) o P A hz z).length = 9 := rfl
  have l0 : (stT (o + 28) o P T hy y2).length = 9 := rfl
  exact ⟨x_ov_far 1 h1 rfl (by omega), h2, x_ov_far 1 h3 rfl (by omega), h4, h5, h6, h7, x_ov_bk, x_ov_far 1 h9 rfl (by omega), x_ov_far 1 h0 rfl (by omega)⟩
theorem wMr_s {o n : Nat} {th : Int32} {f : Nat → Int32} {P : PL} {A : HS} {ep : Int32} {r q : Nat} {E2 : HS} {R : rS} {G : HS} {hz : Nat → Int32} {z : Int32} {sm : Nat → Int32} {T : HS} {hy : Nat → Int32} {y2 : Int32} {A' : HS} {hz' : Nat → Int32} {z' : Int32} (h : wMr M o th n f P A ep r q E2 R G hz z sm T hy y2) : wMr (x_ov M (o + 19) (stT (o + 19) o P A' hz' z')) o th n f P A' ep r q E2 R G hz' z' sm T hy y2 := by
  obtain ⟨h1, h2, h3, h4, h5, h6, h7, h8, h9, h0⟩ := h
  have l1 : (moT o r (((th, nI n, ep), (q, o + 18, o + 19, o + 28)), E2) R).length = 7 := rfl
  have l3 : (pmT q G).length = 11 := rfl
  have l9 : (stT (o + 19) o P A' hz' z').length = 9 := rfl
  have l0 : (stT (o + 28) o P T hy y2).length = 9 := rfl
  exact ⟨x_ov_far 9 h1 l9 (by omega), h2, x_ov_far 9 h3 l9 (by omega), h4, h5, h6, h7, x_ov_far 9 h8 l9 (by simp only [List.length_cons, List.length_nil]; omega), x_ov_bk, x_ov_far 9 h0 l9 (by omega)⟩
theorem wMr_2 {o n : Nat} {th : Int32} {f : Nat → Int32} {P : PL} {A : HS} {ep : Int32} {r q : Nat} {E2 : HS} {R : rS} {G : HS} {hz : Nat → Int32} {z : Int32} {sm : Nat → Int32} {T : HS} {hy : Nat → Int32} {y2 : Int32} {T' : HS} {hy' : Nat → Int32} {y2' : Int32} (h : wMr M o th n f P A ep r q E2 R G hz z sm T hy y2) : wMr (x_ov M (o + 28) (stT (o + 28) o P T' hy' y2')) o th n f P A ep r q E2 R G hz z sm T' hy' y2' := by
  obtain ⟨h1, h2, h3, h4, h5, h6, h7, h8, h9, h0⟩ := h
  have l1 : (moT o r (((th, nI n, ep), (q, o + 18, o + 19, o + 28)), E2) R).length = 7 := rfl
  have l3 : (pmT q G).length = 11 := rfl
  have l9 : (stT (o + 19) o P A hz z).length = 9 := rfl
  have l0 : (stT (o + 28) o P T' hy' y2').length = 9 := rfl
  exact ⟨x_ov_far 9 h1 l0 (by omega), h2, x_ov_far 9 h3 l0 (by omega), h4, h5, h6, h7, x_ov_far 9 h8 l0 (by simp only [List.length_cons, List.length_nil]; omega), x_ov_far 9 h9 l0 (by omega), x_ov_bk⟩
theorem mQ_of {o n : Nat} {th : Int32} {f : Nat → Int32} {P : PL} {A : HS} {ep : Int32} {r q : Nat} {E2 : HS} {R : rS} {G : HS} {hz : Nat → Int32} {z : Int32} {sm : Nat → Int32} {T : HS} {hy : Nat → Int32} {y2 : Int32} (h : wMr M1 o th n f P A ep r q E2 R G hz z sm T hy y2) (hM : M.2 ≤ M1.2) (e : ∀ x, x < o ∨ x = o + 46 → M1.1 x = M.1 x) : mQ M M1 o th n f P A ep := ⟨⟨r, q, E2, R, G, hz, z, sm, T, hy, y2, h⟩, hM, e⟩
theorem mQ_a {o n : Nat} {th : Int32} {f : Nat → Int32} {P : PL} {A : HS} {ep : Int32} {r q : Nat} {E2 : HS} {R : rS} {G : HS} {hz : Nat → Int32} {z : Int32} {sm : Nat → Int32} {T : HS} {hy : Nat → Int32} {y2 : Int32} {th' : Int32} {n' : Nat} (h : wMr M o th n f P A ep r q E2 R G hz z sm T hy y2) : mQ M (x_ov M o [.inr (11, mdF th' (nI n') ep (nI R.1.1) (nI R.1.2) (o + 1) (o + 2) (o + 3) (o + 4) (o + 5) (o + 6) q r (o + 18) (o + 19) (o + 28))]) o th' n' f P A ep := mQ_of (wMr_a h) (Nat.le_refl _) (fun x q => x_ov_out (by simp only [List.length_cons, List.length_nil]; omega))
theorem mQ_as {o n : Nat} {th : Int32} {f : Nat → Int32} {P : PL} {A : HS} {ep : Int32} {r q : Nat} {E2 : HS} {R : rS} {G : HS} {hz : Nat → Int32} {z : Int32} {sm : Nat → Int32} {T : HS} {hy : Nat → Int32} {y2 : Int32} {th' : Int32} {n' : Nat} {A' : HS} {hz' : Nat → Int32} {z' : Int32} (h : wMr M o th n f P A ep r q E2 R G hz z sm T hy y2) : mQ M (x_ov (x_ov M o [.inr (11, mdF th' (nI n') ep (nI R.1.1) (nI R.1.2) (o + 1) (o + 2) (o + 3) (o + 4) (o + 5) (o + 6) q r (o + 18) (o + 19) (o + 28))]) (o + 19) (stT (o + 19) o P A' hz' z')) o th' n' f P A' ep := by
  have l9 : (stT (o + 19) o P A' hz' z').length = 9 := rfl
  exact mQ_of (wMr_s (wMr_a h)) (Nat.le_refl _) (fun x q => (x_ov_out (by omega)).trans (x_ov_out (by simp only [List.length_cons, List.length_nil]; omega)))
theorem mQ_ats {o n : Nat} {th : Int32} {f : Nat → Int32} {P : PL} {A : HS} {ep : Int32} {r q : Nat} {E2 : HS} {R : rS} {G : HS} {hz : Nat → Int32} {z : Int32} {sm : Nat → Int32} {T : HS} {hy : Nat → Int32} {y2 : Int32} {th' : Int32} {n' : Nat} {A' : HS} {sm' hz' : Nat → Int32} {z' : Int32} (h : wMr M o th n f P A ep r q E2 R G hz z sm T hy y2) : mQ M (x_ov (x_ov (x_ov M o [.inr (11, mdF th' (nI n') ep (nI R.1.1) (nI R.1.2) (o + 1) (o + 2) (o + 3) (o + 4) (o + 5) (o + 6) q r (o + 18) (o + 19) (o + 28))]) (o + 18) [.inl (0, 400, .inl sm')]) (o + 19) (stT (o + 19) o P A' hz' z')) o th' n' f P A' ep := by
  have l9 : (stT (o + 19) o P A' hz' z').length = 9 := rfl
  exact mQ_of (wMr_s (wMr_t (wMr_a h))) (Nat.le_refl _) (fun x q => (x_ov_out (by omega)).trans ((x_ov_out (by simp only [List.length_cons, List.length_nil]; omega)).trans (x_ov_out (by simp only [List.length_cons, List.length_nil]; omega))))
theorem mQ_at2 {o n : Nat} {th : Int32} {f : Nat → Int32} {P : PL} {A : HS} {ep : Int32} {r q : Nat} {E2 : HS} {R : rS} {G : HS} {hz : Nat → Int32} {z : Int32} {sm : Nat → Int32} {T : HS} {hy : Nat → Int32} {y2 : Int32} {th' : Int32} {n' : Nat} {T' : HS} {sm' hy' : Nat → Int32} {y2' : Int32} (h : wMr M o th n f P A ep r q E2 R G hz z sm T hy y2) : mQ M (x_ov (x_ov (x_ov M o [.inr (11, mdF th' (nI n') ep (nI R.1.1) (nI R.1.2) (o + 1) (o + 2) (o + 3) (o + 4) (o + 5) (o + 6) q r (o + 18) (o + 19) (o + 28))]) (o + 18) [.inl (0, 400, .inl sm')]) (o + 28) (stT (o + 28) o P T' hy' y2')) o th' n' f P A ep := by
  have l9 : (stT (o + 28) o P T' hy' y2').length = 9 := rfl
  exact mQ_of (wMr_2 (wMr_t (wMr_a h))) (Nat.le_refl _) (fun x q => (x_ov_out (by omega)).trans ((x_ov_out (by simp only [List.length_cons, List.length_nil]; omega)).trans (x_ov_out (by simp only [List.length_cons, List.length_nil]; omega))))
theorem wM_o {o n : Nat} {th : Int32} {f : Nat → Int32} {P : PL} {A : HS} {ep : Int32} (h : wM M o th n f P A ep) : ∃ (sz ea tk dp : Int32) (tp kd fr mn rl me q rd t m m2 : Nat), x_bk M o [.inr (11, mdF th sz ea tk dp tp kd fr mn rl me q rd t m m2)] := by
  obtain ⟨r, q, E2, R, G, hz, z, sm, T, hy, y2, h1, -⟩ := h
  exact ⟨_, _, _, _, _, _, _, _, _, _, _, _, _, _, _, (x_bk_sub h1 0 rfl : x_bk M o [.inr (11, mdF th (nI n) ep (nI R.1.1) (nI R.1.2) (o + 1) (o + 2) (o + 3) (o + 4) (o + 5) (o + 6) q r (o + 18) (o + 19) (o + 28))])⟩
theorem wC_c {c n : Nat} {f : Nat → Int32} {P : PL} {A : HS} {ep : Int32} (h : wC M c n f P A ep) : ∃ fs, x_bk M c [.inr (8, fs)] := by
  obtain ⟨x0, v0, K2, Q, S, hx, sk, ht, T, hy, sl, hu, h1, -⟩ := h
  exact ⟨_, h1⟩
/-- behind a helper: k is what it says; the class is in the world to come, the model in the old one -/
def hQ (M : x_M) (c : Nat) (k : Int32) (G : Int64) (n' : Nat) (f' : Nat → Int32) (A' : HS) (n : Nat) (f : Nat → Int32) (P : PL) (A : HS) (ep th : Int32) : Prop := wC M c n' f' P A' ep ∧ wM M (c + 96) th n f P A ep ∧ ∃ g : Nat → Int64, x_bk M (c + 142) [.inl (1, 1, .inr (.inl g))] ∧ (k = 0 → g 0 = G)
theorem hQ_out {c n n' : Nat} {f f' : Nat → Int32} {P : PL} {A A' : HS} {ep th : Int32} {g : Nat → Int64} (hw : wV M c n f P A ep th g) (h : cQ M M1 c n' f' P A' ep) : ∃ g : Nat → Int64, x_bk M1 (c + 142) [.inl (1, 1, .inr (.inl g))] := ⟨g, x_bk_eq hw.2.2.2.2.1 (fun x q1 q2 => h.2.2 x (by omega))⟩
theorem hQ_ok {c n n' : Nat} {f f' : Nat → Int32} {P : PL} {A A' : HS} {ep th : Int32} {g : Nat → Int64} {G : Int64} (hw : wV M c n f P A ep th g) (h : ∃ (M2 : x_M) (g : Nat → Int64), cQ M M2 c n' f' P A' ep ∧ g 0 = G ∧ M1 = x_ov M2 (c + 142) [.inl (1, 1, .inr (.inl g))]) : hQ M1 c 0 G n' f' A' n f P A ep th := by
  obtain ⟨M2, g2, h1, h2, rfl⟩ := h
  have e1 : ∀ x, x ≠ c + 142 → (x_ov M2 (c + 142) [.inl (1, 1, .inr (.inl g2))]).1 x = M2.1 x := fun x q => x_ov_out (by simp only [List.length_cons, List.length_nil]; omega)
  exact ⟨wC_far h1.1 (fun x q1 q2 => e1 x (by omega)), wM_far hw.2.2.2.2.2.2 (Nat.le_of_eq h1.2.1.symm) (fun x q1 q2 _ => (e1 x (by omega)).trans (h1.2.2 x (by omega))), g2, x_ov_bk, fun _ => h2⟩
theorem hQ_t {c n : Nat} {f : Nat → Int32} {P : PL} {A : HS} {ep th k : Int32} {g : Nat → Int64} {G : Int64} (hk : ¬ k = 0) (hw : wV M c n f P A ep th g) (h : ∃ j : Nat, M1 = x_nx M j) : hQ M1 c k G n f A n f P A ep th := by
  obtain ⟨j, rfl⟩ := h
  exact ⟨wC_far hw.2.2.2.2.2.1 (fun _ _ _ => rfl), wM_far hw.2.2.2.2.2.2 (Nat.le_add_right _ _) (fun _ _ _ _ => rfl), g, hw.2.2.2.2.1, fun q => absurd q hk⟩
/-- behind the model's call all is the law's world again -/
theorem hQ_end {c n n' : Nat} {f f' : Nat → Int32} {P : PL} {A A' : HS} {ep th k : Int32} {G : Int64} (h : hQ M c k G n' f' A' n f P A ep th) (hm : mQ M M1 (c + 96) k n' f' P A' ep) (hn : n' ≤ 2000) (hf : k_by f') (hP : p_ok P) (hk : h_ok P A') : ∃ g : Nat → Int64, wV M1 c n' f' P A' ep k g ∧ (k = 0 → g 0 = G) := by
  obtain ⟨h1, h2, g, h3, h4⟩ := h
  exact ⟨g, ⟨hn, hf, hP, hk, x_bk_eq h3 (fun x q1 q2 => hm.2.2 x (Or.inr (by simp only [List.length_cons, List.length_nil] at q2; omega))), wC_far h1 (fun x q1 q2 => hm.2.2 x (Or.inl (by omega))), hm.1⟩, h4⟩
/-- a call of the class, then one of the model, without a helper -/
theorem wV_end {M2 : x_M} {c n n' : Nat} {f f' : Nat → Int32} {P P' : PL} {A A' : HS} {ep ep' th th' : Int32} {g : Nat → Int64} (hw : wV M c n f P A ep th g) (h : cQ M M1 c n' f' P' A' ep') (hm : mQ M1 M2 (c + 96) th' n' f' P' A' ep') (hn : n' ≤ 2000) (hf : k_by f') (hP : p_ok P') (hk : h_ok P' A') : wV M2 c n' f' P' A' ep' th' g :=
  ⟨hn, hf, hP, hk, x_bk_eq hw.2.2.2.2.1 (fun x q1 q2 => by simp only [List.length_cons, List.length_nil] at q2; exact (hm.2.2 x (Or.inr (by omega))).trans (h.2.2 x (Or.inr (by omega)))), wC_far h.1 (fun x q1 q2 => hm.2.2 x (Or.inl (by omega))), hm.1⟩
theorem wM_c {c n n' : Nat} {f f' : Nat → Int32} {P P' : PL} {A A' : HS} {ep ep' th : Int32} (w : wM M (c + 96) th n f P A ep) (h : cQ M M1 c n' f' P' A' ep') : wM M1 (c + 96) th n f P A ep := wM_far w (Nat.le_of_eq h.2.1.symm) (fun x q1 q2 _ => h.2.2 x (Or.inr q1))
end XW
