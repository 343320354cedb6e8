def e_n (E : rE) (j : Nat) : Nat := (E.2 10 j).toNatClampNeg
def e_q (E : rE) (k : Nat) : Nat := (E.2 1 k).toNatClampNeg
def e_a7 (E : rE) (i : Nat) : Int32 := if E.2 12 (i - 1) = 6 then (2 : Int32) else 1
/-- the second pass at a token: the error, what it leaves -/
def e_at (E : rE) (R : rS) (i : Nat) : Int32 × rE :=
  if R.2.2.2.1 i = 1 then (r_new E R i (nI (e_n E 0)) 8, if r_new E R i (nI (e_n E 0)) 8 = 0 then e_dr E i (e_n E 0) else E)
  else if R.2.2.2.1 i = 2 then (r_new E R i (nI (e_n E 1)) 6, if r_new E R i (nI (e_n E 1)) 6 = 0 then e_dl E (e_n E 1) else E)
  else if R.2.2.2.1 i = 3 then (if e_n E 2 = 16 then 4 else 0, if e_n E 2 = 16 then E else e_or E i (e_n E 2))
  else if R.2.2.2.1 i = 4 then e_np E R i (e_n E 1) (e_q E (e_n E 1 - 1))
  else if R.2.2.2.1 i = 5 then (r_lk E R i 1, m_E E i (r_tld E R i 1))
  else if R.2.2.2.1 i = 6 then (r_lk E R i 2, m_E E i (r_tld E R i 2))
  else if R.2.2.2.1 i = 7 then (r_lk E R i (e_a7 E i), e_of E R i (e_n E 2) (e_a7 E i))
  else if R.2.2.2.1 i = 8 then (r_rng E i 0 60, E)
  else if R.2.2.2.1 i = 9 then (r_rng E i 1 20, E)
  else (0, E)
def e_lp (R : rS) : Nat → Nat → rE → Int32 × Nat × rE
  | 0, i, E => (0, i, E)
  | w + 1, i, E => if (e_at E R i).1 = 0 then e_lp R w (i + 1) (e_at E R i).2 else ((e_at E R i).1, i, (e_at E R i).2)
def e_cn (E : rE) : Prop := (∃ a, a ≤ 8 ∧ E.2 10 0 = nI a) ∧ (∃ a, a ≤ 6 ∧ E.2 10 1 = nI a) ∧ (∃ a, a ≤ 16 ∧ E.2 10 2 = nI a) ∧ ∀ k, k < 6 → ∃ a, a ≤ 6 ∧ E.2 1 k = nI a
def e_hd (E : rE) (R : rS) (i : Nat) : Prop := (∀ j, j < i → R.2.2.2.1 j = 2 → 1 ≤ e_n E 1) ∧ ∀ j, j < i → R.2.2.2.1 j = 3 → 1 ≤ e_n E 2
def e_rw (q : Nat) : Prop := q ≠ 0 ∧ q ≠ 1 ∧ q ≠ 2 ∧ q ≠ 3 ∧ q ≠ 4 ∧ q ≠ 5 ∧ q ≠ 10 ∧ q ≠ 16
section XE82
variable {E : rE} {R : rS} {i : Nat}
theorem e_nE {a j : Nat} (h : E.2 10 j = nI a) (h2 : a < 2 ^ 31) : e_n E j = a := by unfold e_n; rw [h, nI_clamp h2]
theorem e_qE {a k : Nat} (h : E.2 1 k = nI a) (h2 : a < 2 ^ 31) : e_q E k = a := by unfold e_q; rw [h, nI_clamp h2]
theorem e_cn0 (h : e_cn E) : E.2 10 0 = nI (e_n E 0) ∧ e_n E 0 ≤ 8 := by
  obtain ⟨a, h1, h2⟩ := h.1
  rw [e_nE h2 (by omega)]; exact ⟨h2, h1⟩
theorem e_cn1 (h : e_cn E) : E.2 10 1 = nI (e_n E 1) ∧ e_n E 1 ≤ 6 := by
  obtain ⟨a, h1, h2⟩ := h.2.1
  rw [e_nE h2 (by omega)]; exact ⟨h2, h1⟩
theorem e_cn2 (h : e_cn E) : E.2 10 2 = nI (e_n E 2) ∧ e_n E 2 ≤ 16 := by
  obtain ⟨a, h1, h2⟩ := h.2.2.1
  rw [e_nE h2 (by omega)]; exact ⟨h2, h1⟩
theorem e_cn3 (h : e_cn E) {k : Nat} (hk : k < 6) : E.2 1 k = nI (e_q E k) ∧ e_q E k ≤ 6 := by
  obtain ⟨a, h1, h2⟩ := h.2.2.2 k hk
  rw [e_qE h2 (by omega)]; exact ⟨h2, h1⟩
theorem e_at_tk {t : Nat × Nat} : e_at E (t, R.2) i = e_at E R i := rfl
theorem e_at1 (h : R.2.2.2.1 i = 1) : e_at E R i = (r_new E R i (nI (e_n E 0)) 8, if r_new E R i (nI (e_n E 0)) 8 = 0 then e_dr E i (e_n E 0) else E) := by unfold e_at; rw [if_pos h]
theorem e_at2 (h : R.2.2.2.1 i = 2) : e_at E R i = (r_new E R i (nI (e_n E 1)) 6, if r_new E R i (nI (e_n E 1)) 6 = 0 then e_dl E (e_n E 1) else E) := by unfold e_at; rw [h, if_neg (by decide), if_pos rfl]
theorem e_at3 (h : R.2.2.2.1 i = 3) : e_at E R i = (if e_n E 2 = 16 then 4 else 0, if e_n E 2 = 16 then E else e_or E i (e_n E 2)) := by unfold e_at; rw [h, if_neg (by decide), if_neg (by decide), if_pos rfl]
theorem e_at4 (h : R.2.2.2.1 i = 4) : e_at E R i = e_np E R i (e_n E 1) (e_q E (e_n E 1 - 1)) := by unfold e_at; rw [h, if_neg (by decide), if_neg (by decide), if_neg (by decide), if_pos rfl]
theorem e_at5 (h : R.2.2.2.1 i = 5) : e_at E R i = (r_lk E R i 1, m_E E i (r_tld E R i 1)) := by unfold e_at; rw [h, if_neg (by decide), if_neg (by decide), if_neg (by decide), if_neg (by decide), if_pos rfl]
theorem e_at6 (h : R.2.2.2.1 i = 6) : e_at E R i = (r_lk E R i 2, m_E E i (r_tld E R i 2)) := by unfold e_at; rw [h, if_neg (by decide), if_neg (by decide), if_neg (by decide), if_neg (by decide), if_neg (by decide), if_pos rfl]
theorem e_at7 (h : R.2.2.2.1 i = 7) : e_at E R i = (r_lk E R i (e_a7 E i), e_of E R i (e_n E 2) (e_a7 E i)) := by unfold e_at; rw [h, if_neg (by decide), if_neg (by decide), if_neg (by decide), if_neg (by decide), if_neg (by decide), if_neg (by decide), if_pos rfl]
theorem e_at8 (h : R.2.2.2.1 i = 8) : e_at E R i = (r_rng E i 0 60, E) := by unfold e_at; rw [h, if_neg (by decide), if_neg (by decide), if_neg (by decide), if_neg (by decide), if_neg (by decide), if_neg (by decide), if_neg (by decide), if_pos rfl]
theorem e_at9 (h : R.2.2.2.1 i = 9) : e_at E R i = (r_rng E i 1 20, E) := by unfold e_at; rw [h, if_neg (by decide), if_neg (by decide), if_neg (by decide), if_neg (by decide), if_neg (by decide), if_neg (by decide), if_neg (by decide), if_neg (by decide), if_pos rfl]
theorem e_at0 (h : R.2.2.2.1 i = 0) : e_at E R i = (0, E) := by unfold e_at; rw [h, if_neg (by decide), if_neg (by decide), if_neg (by decide), if_neg (by decide), if_neg (by decide), if_neg (by decide), if_neg (by decide), if_neg (by decide), if_neg (by decide)]
theorem e_keep {E' : rE} {q : Nat} (h : E'.1 = E.1 ∧ E'.2 q = E.2 q) {c : Prop} [Decidable c] : (if c then E' else E).1 = E.1 ∧ (if c then E' else E).2 q = E.2 q := by
  by_cases k : c
  · rw [if_pos k]; exact h
  · rw [if_neg k]; exact ⟨rfl, rfl⟩
theorem e_keepN {E' : rE} {q : Nat} (h : E'.1 = E.1 ∧ E'.2 q = E.2 q) {c : Prop} [Decidable c] : (if c then E else E').1 = E.1 ∧ (if c then E else E').2 q = E.2 q := by
  by_cases k : c
  · rw [if_pos k]; exact ⟨rfl, rfl⟩
  · rw [if_neg k]; exact h
theorem m_E_row {q : Nat} {x : Int32} (h : q ≠ 16) : (m_E E i x).2 q = E.2 q := h_u_row h
theorem e_dr_row {q n : Nat} (h : q ≠ 0) (h2 : q ≠ 10) : (e_dr E i n).2 q = E.2 q := by
  show h_u (h_u E.2 0 n ((tE E).2 (i + 2))) 10 0 (nI (n + 1)) q = E.2 q
  rw [h_u_row h2, h_u_row h]
theorem e_dr_10 {n j : Nat} (h : j ≠ 0) : (e_dr E i n).2 10 j = E.2 10 j := by
  show h_u (h_u E.2 0 n ((tE E).2 (i + 2))) 10 0 (nI (n + 1)) 10 j = E.2 10 j
  rw [h_u_ne h, h_u_row (by decide)]
theorem e_dl_row {q n : Nat} (h2 : q ≠ 10) : (e_dl E n).2 q = E.2 q := by
  show h_u E.2 10 1 (nI (n + 1)) q = E.2 q
  rw [h_u_row h2]
theorem e_dl_10 {n j : Nat} (h : j ≠ 1) : (e_dl E n).2 10 j = E.2 10 j := by
  show h_u E.2 10 1 (nI (n + 1)) 10 j = E.2 10 j
  rw [h_u_ne h]
theorem e_or_row {q n : Nat} (h4 : q ≠ 4) (h5 : q ≠ 5) (h2 : q ≠ 10) : (e_or E i n).2 q = E.2 q := by
  show h_u (h_u (h_u E.2 4 n (E.2 12 i)) 5 n 8) 10 2 (nI (n + 1)) q = E.2 q
  rw [h_u_row h2, h_u_row h5, h_u_row h4]
theorem e_or_10 {n j : Nat} (h : j ≠ 2) : (e_or E i n).2 10 j = E.2 10 j := by
  show h_u (h_u (h_u E.2 4 n (E.2 12 i)) 5 n 8) 10 2 (nI (n + 1)) 10 j = E.2 10 j
  rw [h_u_ne h, h_u_row (by decide), h_u_row (by decide)]
theorem e_pt_row {q a nk np : Nat} {x y : Int32} (h1 : q ≠ 16) (h2 : q ≠ 2) (h3 : q ≠ 3) (h4 : q ≠ 1) : (e_pt E i a nk np x y).2 q = E.2 q := by
  show h_u (h_u (h_u (h_u E.2 16 i x) 2 a x) 3 a y) 1 (nk - 1) (nI (np + 1)) q = E.2 q
  rw [h_u_row h4, h_u_row h3, h_u_row h2, h_u_row h1]
theorem e_pt_1 {q a nk np : Nat} {x y : Int32} (h : q ≠ nk - 1) : (e_pt E i a nk np x y).2 1 q = E.2 1 q := by
  show h_u (h_u (h_u (h_u E.2 16 i x) 2 a x) 3 a y) 1 (nk - 1) (nI (np + 1)) 1 q = E.2 1 q
  rw [h_u_ne h, h_u_row (by decide), h_u_row (by decide), h_u_row (by decide)]
theorem e_pt_1e {a nk np : Nat} {x y : Int32} : (e_pt E i a nk np x y).2 1 (nk - 1) = nI (np + 1) := by
  show h_u (h_u (h_u (h_u E.2 16 i x) 2 a x) 3 a y) 1 (nk - 1) (nI (np + 1)) 1 (nk - 1) = nI (np + 1)
  rw [h_u_eq]
theorem e_of_row {q n : Nat} {a : Int32} (h1 : q ≠ 16) (h2 : q ≠ 5) : (e_of E R i n a).2 q = E.2 q := by
  show h_u (m_E E i (r_tld E R i a)).2 5 (n - 1) (r_tld E R i a) q = E.2 q
  rw [h_u_row h2, m_E_row h1]
/-- the second pass leaves the tokens, the tape, the tests' places -/
theorem e_at_row {N q : Nat} (hq : e_rw q) (hr : rr_ok N R.2.2.2.1 i) : (e_at E R i).2.1 = E.1 ∧ (e_at E R i).2.2 q = E.2 q := by
  obtain ⟨q0, q1, q2, q3, q4, q5, q10, q16⟩ := hq
  rcases hr with k | ⟨k, -⟩ | k | k | ⟨k, -⟩ | k | k | ⟨k, -⟩ | k | k
  · rw [e_at0 k]; exact ⟨rfl, rfl⟩
  · rw [e_at1 k]; exact e_keep (E' := e_dr E i (e_n E 0)) (E := E) (q := q) ⟨rfl, e_dr_row q0 q10⟩
  · rw [e_at2 k]; exact e_keep (E' := e_dl E (e_n E 1)) (E := E) (q := q) ⟨rfl, e_dl_row q10⟩
  · rw [e_at3 k]; exact e_keepN (E' := e_or E i (e_n E 2)) (E := E) (q := q) ⟨rfl, e_or_row q4 q5 q10⟩
  · rw [e_at4 k]
    unfold e_np
    by_cases c1 : r_tld E R i 1 = -1
    · rw [if_pos c1]; exact ⟨rfl, m_E_row q16⟩
    rw [if_neg c1]
    by_cases c2 : e_q E (e_n E 1 - 1) = 6
    · rw [if_pos c2]; exact ⟨rfl, m_E_row q16⟩
    rw [if_neg c2]
    by_cases c3 : r_isp E (e_n E 1) (e_q E (e_n E 1 - 1)) (r_tld E R i 1) = true
    · rw [if_pos c3]; exact ⟨rfl, m_E_row q16⟩
    rw [if_neg c3]
    exact ⟨rfl, e_pt_row q16 q2 q3 q1⟩
  · rw [e_at5 k]; exact ⟨rfl, m_E_row q16⟩
  · rw [e_at6 k]; exact ⟨rfl, m_E_row q16⟩
  · rw [e_at7 k]; exact ⟨rfl, e_of_row q16 q5⟩
  · rw [e_at8 k]; exact ⟨rfl, rfl⟩
  · rw [e_at9 k]; exact ⟨rfl, rfl⟩
theorem r_new0 {c m : Int32} (h : r_new E R i c m = 0) : r_tld E R i 1 = -1 ∧ r_tld E R i 2 = -1 ∧ ¬ c = m := by
  unfold r_new at h
  by_cases c1 : r_tld E R i 1 = -1
  · rw [if_pos c1] at h
    by_cases c2 : r_tld E R i 2 = -1
    · rw [if_pos c2] at h
      by_cases c3 : c = m
      · rw [if_pos c3] at h; exact absurd h (by decide)
      · exact ⟨c1, c2, c3⟩
    · rw [if_neg c2] at h; exact absurd h (by decide)
  · rw [if_neg c1] at h; exact absurd h (by decide)
theorem e_hd_up {E' : rE} {R : rS} {i : Nat} (h : e_hd E R i) (h1 : e_n E 1 ≤ e_n E' 1) (h2 : e_n E 2 ≤ e_n E' 2) (h3 : R.2.2.2.1 i = 2 → 1 ≤ e_n E' 1) (h4 : R.2.2.2.1 i = 3 → 1 ≤ e_n E' 2) : e_hd E' R (i + 1) := by
  refine ⟨fun j a b => ?_, fun j a b => ?_⟩
  · by_cases q : j < i
    · exact Nat.le_trans (h.1 j q b) h1
    · rw [show j = i by omega] at b; exact h3 b
  · by_cases q : j < i
    · exact Nat.le_trans (h.2 j q b) h2
    · rw [show j = i by omega] at b; exact h4 b
/-- where no row of counts changes -/
theorem e_cn_same {E' : rE} (h : e_cn E) (h1 : E'.2 10 = E.2 10) (h2 : E'.2 1 = E.2 1) : e_cn E' := by
  unfold e_cn
  rw [h1, h2]
  exact h
theorem e_hd_same {E' : rE} {R : rS} {i : Nat} (h : e_hd E R i) (h1 : E'.2 10 = E.2 10) (h3 : R.2.2.2.1 i ≠ 2) (h4 : R.2.2.2.1 i ≠ 3) : e_hd E' R (i + 1) := by
  refine e_hd_up h ?_ ?_ (fun q => absurd q h3) (fun q => absurd q h4)
  · unfold e_n; rw [h1]; exact Nat.le_refl _
  · unfold e_n; rw [h1]; exact Nat.le_refl _
theorem ne_of_e {a b c : Int32} (h : a = b) (k : b ≠ c) : a ≠ c := fun q => k (h.symm.trans q)
theorem e_step {N : Nat} (hc : e_cn E) (hh : e_hd E R i) (hr : rr_ok N R.2.2.2.1 i) (h0 : (e_at E R i).1 = 0) : e_cn (e_at E R i).2 ∧ e_hd (e_at E R i).2 R (i + 1) := by
  obtain ⟨k0, k0'⟩ := e_cn0 hc
  obtain ⟨k1, k1'⟩ := e_cn1 hc
  obtain ⟨k2, k2'⟩ := e_cn2 hc
  rcases hr with k | ⟨k, -⟩ | k | k | ⟨k, -, j9, hj1, hj2⟩ | k | k | ⟨k, -⟩ | k | k
  · rw [e_at0 k]; exact ⟨hc, e_hd_same hh rfl (ne_of_e k (by decide)) (ne_of_e k (by decide))⟩
  · rw [e_at1 k] at h0 ⊢
    have h0 : r_new E R i (nI (e_n E 0)) 8 = 0 := h0
    rw [if_pos h0]
    obtain ⟨-, -, n8⟩ := r_new0 h0
    have n8 : e_n E 0 ≠ 8 := fun q => n8 (by rw [q]; rfl)
    have a0 : (e_dr E i (e_n E 0)).2 10 0 = nI (e_n E 0 + 1) := h_u_eq (A := h_u E.2 0 (e_n E 0) ((tE E).2 (i + 2))) (k := 10) (j := 0) (x := nI (e_n E 0 + 1))
    have a1 : (e_dr E i (e_n E 0)).2 10 1 = E.2 10 1 := e_dr_10 (by decide)
    have a2 : (e_dr E i (e_n E 0)).2 10 2 = E.2 10 2 := e_dr_10 (by decide)
    have a3 : (e_dr E i (e_n E 0)).2 1 = E.2 1 := e_dr_row (by decide) (by decide)
    have hn1 : e_n (e_dr E i (e_n E 0)) 1 = e_n E 1 := congrArg Int32.toNatClampNeg a1
    have hn2 : e_n (e_dr E i (e_n E 0)) 2 = e_n E 2 := congrArg Int32.toNatClampNeg a2
    refine ⟨⟨⟨e_n E 0 + 1, by omega, a0⟩, ⟨e_n E 1, k1', a1.trans k1⟩, ⟨e_n E 2, k2', a2.trans k2⟩, fun q hq => ?_⟩, e_hd_up hh (by rw [hn1]; exact Nat.le_refl _) (by rw [hn2]; exact Nat.le_refl _) (fun q => absurd q (ne_of_e k (by decide))) (fun q => absurd q (ne_of_e k (by decide)))⟩
    obtain ⟨a, p1, p2⟩ := hc.2.2.2 q hq
    exact ⟨a, p1, (congrFun a3 q).trans p2⟩
  · rw [e_at2 k] at h0 ⊢
    have h0 : r_new E R i (nI (e_n E 1)) 6 = 0 := h0
    rw [if_pos h0]
    obtain ⟨-, -, n8⟩ := r_new0 h0
    have n8 : e_n E 1 ≠ 6 := fun q => n8 (by rw [q]; rfl)
    have a0 : (e_dl E (e_n E 1)).2 10 1 = nI (e_n E 1 + 1) := h_u_eq (A := E.2) (k := 10) (j := 1) (x := nI (e_n E 1 + 1))
    have a1 : (e_dl E (e_n E 1)).2 10 0 = E.2 10 0 := e_dl_10 (by decide)
    have a2 : (e_dl E (e_n E 1)).2 10 2 = E.2 10 2 := e_dl_10 (by decide)
    have a3 : (e_dl E (e_n E 1)).2 1 = E.2 1 := e_dl_row (by decide)
    have hn1 : e_n (e_dl E (e_n E 1)) 1 = e_n E 1 + 1 := e_nE a0 (by omega)
    have hn2 : e_n (e_dl E (e_n E 1)) 2 = e_n E 2 := congrArg Int32.toNatClampNeg a2
    refine ⟨⟨⟨e_n E 0, k0', a1.trans k0⟩, ⟨e_n E 1 + 1, by omega, a0⟩, ⟨e_n E 2, k2', a2.trans k2⟩, fun q hq => ?_⟩, e_hd_up hh (by rw [hn1]; exact Nat.le_succ _) (by rw [hn2]; exact Nat.le_refl _) (fun _ => by rw [hn1]; omega) (fun q => absurd q (ne_of_e k (by decide)))⟩
    obtain ⟨a, p1, p2⟩ := hc.2.2.2 q hq
    exact ⟨a, p1, (congrFun a3 q).trans p2⟩
  · rw [e_at3 k] at h0 ⊢
    have n16 : ¬ e_n E 2 = 16 := fun q => by
      have h0 : (if e_n E 2 = 16 then (4 : Int32) else 0) = 0 := h0
      rw [if_pos q] at h0
      exact absurd h0 (by decide)
    rw [if_neg n16, if_neg n16]
    have a0 : (e_or E i (e_n E 2)).2 10 2 = nI (e_n E 2 + 1) := h_u_eq (A := h_u (h_u E.2 4 (e_n E 2) (E.2 12 i)) 5 (e_n E 2) 8) (k := 10) (j := 2) (x := nI (e_n E 2 + 1))
    have a1 : (e_or E i (e_n E 2)).2 10 0 = E.2 10 0 := e_or_10 (by decide)
    have a2 : (e_or E i (e_n E 2)).2 10 1 = E.2 10 1 := e_or_10 (by decide)
    have a3 : (e_or E i (e_n E 2)).2 1 = E.2 1 := e_or_row (by decide) (by decide) (by decide)
    have hn1 : e_n (e_or E i (e_n E 2)) 2 = e_n E 2 + 1 := e_nE a0 (by omega)
    have hn2 : e_n (e_or E i (e_n E 2)) 1 = e_n E 1 := congrArg Int32.toNatClampNeg a2
    refine ⟨⟨⟨e_n E 0, k0', a1.trans k0⟩, ⟨e_n E 1, k1', a2.trans k1⟩, ⟨e_n E 2 + 1, by omega, a0⟩, fun q hq => ?_⟩, e_hd_up hh (by rw [hn2]; exact Nat.le_refl _) (by rw [hn1]; exact Nat.le_succ _) (fun q => absurd q (ne_of_e k (by decide))) (fun _ => by rw [hn1]; omega)⟩
    obtain ⟨a, p1, p2⟩ := hc.2.2.2 q hq
    exact ⟨a, p1, (congrFun a3 q).trans p2⟩
  · have hk1 := hh.1 j9 hj1 hj2
    rw [e_at4 k] at h0 ⊢
    unfold e_np at h0 ⊢
    by_cases c1 : r_tld E R i 1 = -1
    · rw [if_pos c1] at h0; exact absurd (show (3 : Int32) = 0 from h0) (by decide)
    rw [if_neg c1] at h0 ⊢
    by_cases c2 : e_q E (e_n E 1 - 1) = 6
    · rw [if_pos c2] at h0; exact absurd (show (4 : Int32) = 0 from h0) (by decide)
    rw [if_neg c2] at h0 ⊢
    by_cases c3 : r_isp E (e_n E 1) (e_q E (e_n E 1 - 1)) (r_tld E R i 1) = true
    · rw [if_pos c3] at h0; exact absurd (show (5 : Int32) = 0 from h0) (by decide)
    rw [if_neg c3]
    obtain ⟨k3, k3'⟩ := e_cn3 hc (show e_n E 1 - 1 < 6 by omega)
    generalize hG : e_pt E i (6 * (e_n E 1 - 1) + e_q E (e_n E 1 - 1)) (e_n E 1) (e_q E (e_n E 1 - 1)) (r_tld E R i 1) (r_sgn E i) = G
    have a0 : G.2 10 = E.2 10 := by rw [← hG]; exact e_pt_row (by decide) (by decide) (by decide) (by decide)
    have a1 : G.2 1 (e_n E 1 - 1) = nI (e_q E (e_n E 1 - 1) + 1) := by rw [← hG]; exact e_pt_1e
    have a2 : ∀ q, q ≠ e_n E 1 - 1 → G.2 1 q = E.2 1 q := fun q hq => by rw [← hG]; exact e_pt_1 hq
    refine ⟨⟨⟨e_n E 0, k0', (congrFun a0 0).trans k0⟩, ⟨e_n E 1, k1', (congrFun a0 1).trans k1⟩, ⟨e_n E 2, k2', (congrFun a0 2).trans k2⟩, fun q hq => ?_⟩, e_hd_same hh a0 (ne_of_e k (by decide)) (ne_of_e k (by decide))⟩
    by_cases e : q = e_n E 1 - 1
    · rw [e]
      exact ⟨_, by omega, a1⟩
    · obtain ⟨a, p1, p2⟩ := hc.2.2.2 q hq
      exact ⟨a, p1, (a2 q e).trans p2⟩
  · rw [e_at5 k]; exact ⟨e_cn_same hc (m_E_row (by decide)) (m_E_row (by decide)), e_hd_same hh (m_E_row (by decide)) (ne_of_e k (by decide)) (ne_of_e k (by decide))⟩
  · rw [e_at6 k]; exact ⟨e_cn_same hc (m_E_row (by decide)) (m_E_row (by decide)), e_hd_same hh (m_E_row (by decide)) (ne_of_e k (by decide)) (ne_of_e k (by decide))⟩
  · rw [e_at7 k]
    have a1 : (e_of E R i (e_n E 2) (e_a7 E i)).2 10 = E.2 10 := e_of_row (by decide) (by decide)
    have a2 : (e_of E R i (e_n E 2) (e_a7 E i)).2 1 = E.2 1 := e_of_row (by decide) (by decide)
    exact ⟨e_cn_same hc a1 a2, e_hd_same hh a1 (ne_of_e k (by decide)) (ne_of_e k (by decide))⟩
  · rw [e_at8 k]; exact ⟨hc, e_hd_same hh rfl (ne_of_e k (by decide)) (ne_of_e k (by decide))⟩
  · rw [e_at9 k]; exact ⟨hc, e_hd_same hh rfl (ne_of_e k (by decide)) (ne_of_e k (by decide))⟩
end XE82
theorem c_X11_errorOf {l : Launch} {Y0 : x_Y} (hO : x_Ok Y0) {M : x_M} {o r i N : Nat} {Ev : rE} {R : rS} (hd : o + 7 ≤ r) (hb : rB M o r Ev R) (hN4 : N ≤ 400) (hi : i < N) (hin : ∀ k, k < N → r_in Ev k) (hcn : e_cn Ev) (hhd : e_hd Ev R i) (hrr : rr_ok N R.2.2.2.1 i) : x_C l Y0 yX11_errorOf cX11_errorOf 2 (some .int) 5 0 0 [.ref o, .int (nI i)] M (fun u M1 => u = some (.int (e_at Ev R i).1) ∧ M1 = rH M o r (e_at Ev R i).2 R) := by
  obtain ⟨k0, k0'⟩ := e_cn0 hcn
  obtain ⟨k1, k1'⟩ := e_cn1 hcn
  obtain ⟨k2, k2'⟩ := e_cn2 hcn
  have hin1 : ∀ k, k ≤ i → r_in Ev k := fun k hk => hin k (by omega)
  have hi4 : i < 401 := by omega
  rcases hrr with k | ⟨k, hl⟩ | k | k | ⟨k, hl, j9, hj1, hj2⟩ | k | k | ⟨k, hl, j9, hj1, hj2⟩ | k | k
  · rw [e_at0 k]; exact c_X11_errorOf0 hO hd hb hi4 hin1 k
  · rw [e_at1 k]; exact c_X11_errorOf1 hO hd hb hi4 hin1 k (by omega) (hin _ hl) k0 k0'
  · rw [e_at2 k]; exact c_X11_errorOf2 hO hd hb hi4 hin1 k k1 k1'
  · rw [e_at3 k]; exact c_X11_errorOf3 hO hd hb hi4 hin1 k k2 k2'
  · have hk1 := hhd.1 j9 hj1 hj2
    obtain ⟨k3, k3'⟩ := e_cn3 hcn (show e_n Ev 1 - 1 < 6 by omega)
    rw [e_at4 k]; exact c_X11_errorOf4 hO hd hb hi4 hin1 k k1 hk1 k1' k3 k3' (by omega) (hin _ hl)
  · rw [e_at5 k]; exact c_X11_errorOf5 hO hd hb hi4 hin1 k
  · rw [e_at6 k]; exact c_X11_errorOf6 hO hd hb hi4 hin1 k
  · have hk2 := hhd.2 j9 hj1 hj2
    rw [e_at7 k]; exact c_X11_errorOf7 hO hd hb hi4 hin1 k hl k2 hk2 k2'
  · rw [e_at8 k]; exact c_X11_errorOf8 hO hd hb hi4 hin1 k
  · rw [e_at9 k]; exact c_X11_errorOf9 hO hd hb hi4 hin1 k
