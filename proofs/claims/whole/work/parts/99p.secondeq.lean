/-- alike but for the tests' places and the orders read -/
def eqx (A B : rE) : Prop := A.1 = B.1 ∧ (∀ q, q ≠ 6 → q ≠ 7 → q ≠ 10 → A.2 q = B.2 q) ∧ ∀ j, j ≠ 3 → A.2 10 j = B.2 10 j
section XEQ
variable {A B : rE} {R : rS} {i : Nat}
theorem eqx_u {r j : Nat} {x : Int32} (h : eqx A B) (h6 : r ≠ 6) (h7 : r ≠ 7) : eqx (A.1, h_u A.2 r j x) (B.1, h_u B.2 r j x) := by
  obtain ⟨a, b, c⟩ := h
  refine ⟨a, fun q q6 q7 q10 => ?_, fun k hk => ?_⟩
  · show h_u A.2 r j x q = h_u B.2 r j x q
    by_cases e : q = r
    · subst e
      rw [h_u_self, h_u_self, b q q6 q7 q10]
    · rw [h_u_row e, h_u_row e, b q q6 q7 q10]
  · show h_u A.2 r j x 10 k = h_u B.2 r j x 10 k
    by_cases e : r = 10
    · subst e
      by_cases e2 : k = j
      · subst e2
        rw [h_u_eq, h_u_eq]
      · rw [h_u_ne e2, h_u_ne e2, c k hk]
    · rw [h_u_row (fun q => e q.symm), h_u_row (fun q => e q.symm), c k hk]
theorem eqx_n (h : eqx A B) {j : Nat} (hj : j ≠ 3) : e_n A j = e_n B j := by unfold e_n; rw [h.2.2 j hj]
theorem eqx_tld (h : eqx A B) {a : Int32} : r_tld A R i a = r_tld B R i a := r_tdl_E (h.2.1 13 (by decide) (by decide) (by decide)) (h.2.1 14 (by decide) (by decide) (by decide)) (h.2.1 20 (by decide) (by decide) (by decide)) _ _ _
theorem eqx_num (h : eqx A B) (k : Nat) : (tE A).2 k = (tE B).2 k := by
  show r_num A k = r_num B k
  unfold r_num
  rw [h.2.1 13 (by decide) (by decide) (by decide), h.2.1 14 (by decide) (by decide) (by decide), h.2.1 20 (by decide) (by decide) (by decide)]
theorem eqx_new (h : eqx A B) {c m : Int32} : r_new A R i c m = r_new B R i c m := by unfold r_new; rw [eqx_tld h, eqx_tld h]
theorem eqx_lk (h : eqx A B) {a : Int32} : r_lk A R i a = r_lk B R i a := by unfold r_lk; rw [eqx_tld h]
theorem eqx_ite {c : Prop} [Decidable c] {A' B' : rE} (h : eqx A B) (h' : eqx A' B') : eqx (if c then A else A') (if c then B else B') := by
  by_cases k : c
  · rw [if_pos k, if_pos k]; exact h
  · rw [if_neg k, if_neg k]; exact h'
theorem eqx_m (h : eqx A B) {x : Int32} : eqx (m_E A i x) (m_E B i x) := eqx_u h (by decide) (by decide)
theorem e_at_eqx {N : Nat} (h : eqx A B) (hr : rr_ok N R.2.2.2.1 i) : (e_at A R i).1 = (e_at B R i).1 ∧ eqx (e_at A R i).2 (e_at B R i).2 := by
  rcases hr with k | ⟨k, -⟩ | k | k | ⟨k, -⟩ | k | k | ⟨k, -⟩ | k | k
  · rw [e_at0 k, e_at0 k]; exact ⟨rfl, h⟩
  · rw [e_at1 k, e_at1 k, eqx_n h (by decide), eqx_new h]
    refine ⟨rfl, eqx_ite ?_ h⟩
    have e := eqx_u (r := 10) (j := 0) (x := nI (e_n B 0 + 1)) (eqx_u (r := 0) (j := e_n B 0) (x := (tE B).2 (i + 2)) h (by decide) (by decide)) (by decide) (by decide)
    unfold e_dr
    rw [eqx_num h]
    exact e
  · rw [e_at2 k, e_at2 k, eqx_n h (by decide), eqx_new h]
    exact ⟨rfl, eqx_ite (eqx_u (r := 10) (j := 1) (x := nI (e_n B 1 + 1)) h (by decide) (by decide)) h⟩
  · rw [e_at3 k, e_at3 k, eqx_n h (by decide)]
    refine ⟨rfl, eqx_ite h ?_⟩
    have e := eqx_u (r := 10) (j := 2) (x := nI (e_n B 2 + 1)) (eqx_u (r := 5) (j := e_n B 2) (x := 8) (eqx_u (r := 4) (j := e_n B 2) (x := B.2 12 i) h (by decide) (by decide)) (by decide) (by decide)) (by decide) (by decide)
    unfold e_or
    rw [h.2.1 12 (by decide) (by decide) (by decide)]
    exact e
  · have hq : e_q A (e_n B 1 - 1) = e_q B (e_n B 1 - 1) := by unfold e_q; rw [h.2.1 1 (by decide) (by decide) (by decide)]
    have hi : ∀ np x, r_isp A (e_n B 1) np x = r_isp B (e_n B 1) np x := fun np x => by unfold r_isp; rw [h.2.1 2 (by decide) (by decide) (by decide)]
    have hs : r_sgn A i = r_sgn B i := by unfold r_sgn; rw [h.2.1 12 (by decide) (by decide) (by decide), eqx_num h]
    rw [e_at4 k, e_at4 k, eqx_n h (by decide), hq]
    unfold e_np
    rw [eqx_tld h, hi, hs]
    by_cases c1 : r_tld B R i 1 = -1
    · rw [if_pos c1, if_pos c1]; exact ⟨rfl, eqx_m h⟩
    rw [if_neg c1, if_neg c1]
    by_cases c2 : e_q B (e_n B 1 - 1) = 6
    · rw [if_pos c2, if_pos c2]; exact ⟨rfl, eqx_m h⟩
    rw [if_neg c2, if_neg c2]
    by_cases c3 : r_isp B (e_n B 1) (e_q B (e_n B 1 - 1)) (r_tld B R i 1) = true
    · rw [if_pos c3, if_pos c3]; exact ⟨rfl, eqx_m h⟩
    rw [if_neg c3, if_neg c3]
    exact ⟨rfl, eqx_u (eqx_u (eqx_u (eqx_u (r := 16) h (by decide) (by decide)) (by decide) (by decide)) (by decide) (by decide)) (by decide) (by decide)⟩
  · rw [e_at5 k, e_at5 k, eqx_lk h, eqx_tld h]; exact ⟨rfl, eqx_m h⟩
  · rw [e_at6 k, e_at6 k, eqx_lk h, eqx_tld h]; exact ⟨rfl, eqx_m h⟩
  · have ha : e_a7 A i = e_a7 B i := by unfold e_a7; rw [h.2.1 12 (by decide) (by decide) (by decide)]
    rw [e_at7 k, e_at7 k, ha, eqx_lk h, eqx_n h (by decide)]
    refine ⟨rfl, ?_⟩
    unfold e_of
    rw [eqx_tld h]
    exact eqx_u (r := 5) (eqx_m h) (by decide) (by decide)
  · have hr : r_rng A i 0 60 = r_rng B i 0 60 := by unfold r_rng; rw [eqx_num h]
    rw [e_at8 k, e_at8 k, hr]; exact ⟨rfl, h⟩
  · have hr : r_rng A i 1 20 = r_rng B i 1 20 := by unfold r_rng; rw [eqx_num h]
    rw [e_at9 k, e_at9 k, hr]; exact ⟨rfl, h⟩
theorem e_lp_eqx {N : Nat} (hr : ∀ j, j < N → rr_ok N R.2.2.2.1 j) : ∀ (w i : Nat) (A B : rE), i + w = N → eqx A B → (e_lp R w i A).1 = (e_lp R w i B).1 ∧ (e_lp R w i A).2.1 = (e_lp R w i B).2.1 ∧ eqx (e_lp R w i A).2.2 (e_lp R w i B).2.2 := by
  intro w
  induction w with
  | zero => intro i A B _ h; exact ⟨rfl, rfl, h⟩
  | succ w ih =>
    intro i A B hi h
    obtain ⟨a, b⟩ := e_at_eqx h (hr i (by omega))
    simp only [e_lp]
    rw [a]
    by_cases c : (e_at B R i).1 = 0
    · rw [if_pos c, if_pos c]
      exact ih (i + 1) _ _ (by omega) b
    · rw [if_neg c, if_neg c]
      exact ⟨rfl, rfl, b⟩
theorem e_lp_ix : ∀ (w i : Nat) (A : rE), ((e_lp R w i A).1 = 0 → (e_lp R w i A).2.1 = i + w) ∧ (¬ (e_lp R w i A).1 = 0 → (e_lp R w i A).2.1 < i + w) := by
  intro w
  induction w with
  | zero => intro i A; exact ⟨fun _ => rfl, fun h => absurd rfl h⟩
  | succ w ih =>
    intro i A
    simp only [e_lp]
    by_cases c : (e_at A R i).1 = 0
    · rw [if_pos c]
      obtain ⟨a, b⟩ := ih (i + 1) (e_at A R i).2
      exact ⟨fun h => (a h).trans (by omega), fun h => by have := b h; omega⟩
    · rw [if_neg c]
      exact ⟨fun h => absurd h c, fun _ => by show i < i + (w + 1); omega⟩
theorem m_E_16 {x : Int32} {j : Nat} (h : j ≠ i) : (m_E A i x).2 16 j = A.2 16 j := by
  show h_u A.2 16 i x 16 j = _
  rw [h_u_ne h]
theorem e_at_16 {N j : Nat} (hj : j ≠ i) (hr : rr_ok N R.2.2.2.1 i) : (e_at A R i).2.2 16 j = A.2 16 j := by
  rcases hr with k | ⟨k, -⟩ | k | k | ⟨k, -⟩ | k | k | ⟨k, -⟩ | k | k
  · rw [e_at0 k]
  · rw [e_at1 k]
    exact congrFun (e_keep (E := A) (E' := e_dr A i (e_n A 0)) (q := 16) ⟨rfl, e_dr_row (by decide) (by decide)⟩).2 j
  · rw [e_at2 k]
    exact congrFun (e_keep (E := A) (E' := e_dl A (e_n A 1)) (q := 16) ⟨rfl, e_dl_row (by decide)⟩).2 j
  · rw [e_at3 k]
    exact congrFun (e_keepN (E := A) (E' := e_or A i (e_n A 2)) (q := 16) ⟨rfl, e_or_row (by decide) (by decide) (by decide)⟩).2 j
  · rw [e_at4 k]
    unfold e_np
    by_cases c1 : r_tld A R i 1 = -1
    · rw [if_pos c1]; exact m_E_16 hj
    rw [if_neg c1]
    by_cases c2 : e_q A (e_n A 1 - 1) = 6
    · rw [if_pos c2]; exact m_E_16 hj
    rw [if_neg c2]
    by_cases c3 : r_isp A (e_n A 1) (e_q A (e_n A 1 - 1)) (r_tld A R i 1) = true
    · rw [if_pos c3]; exact m_E_16 hj
    rw [if_neg c3]
    show h_u (h_u (h_u (h_u A.2 16 i (r_tld A R i 1)) 2 (6 * (e_n A 1 - 1) + e_q A (e_n A 1 - 1)) (r_tld A R i 1)) 3 (6 * (e_n A 1 - 1) + e_q A (e_n A 1 - 1)) (r_sgn A i)) 1 (e_n A 1 - 1) (nI (e_q A (e_n A 1 - 1) + 1)) 16 j = _
    rw [h_u_row (by decide), h_u_row (by decide), h_u_row (by decide), h_u_ne hj]
  · rw [e_at5 k]; exact m_E_16 hj
  · rw [e_at6 k]; exact m_E_16 hj
  · rw [e_at7 k]
    show h_u (m_E A i (r_tld A R i (e_a7 A i))).2 5 (e_n A 2 - 1) (r_tld A R i (e_a7 A i)) 16 j = _
    rw [h_u_row (by decide)]
    exact m_E_16 hj
  · rw [e_at8 k]
  · rw [e_at9 k]
theorem e_at_pos : 0 ≤ (e_at A R i).1 := by
  have hn : ∀ c m, 0 ≤ r_new A R i c m := fun c m => by
    unfold r_new
    split
    · split
      · split <;> decide
      · decide
    · decide
  have hl : ∀ a, 0 ≤ r_lk A R i a := fun a => by
    unfold r_lk
    split <;> decide
  have hg : ∀ a b, 0 ≤ r_rng A i a b := fun a b => by
    unfold r_rng
    split <;> decide
  unfold e_at
  split
  · exact hn _ _
  split
  · exact hn _ _
  split
  · show 0 ≤ (if e_n A 2 = 16 then (4 : Int32) else 0)
    split <;> decide
  split
  · unfold e_np
    split
    · show (0 : Int32) ≤ 3; decide
    split
    · show (0 : Int32) ≤ 4; decide
    split
    · show (0 : Int32) ≤ 5; decide
    · show (0 : Int32) ≤ 0; decide
  split
  · exact hl _
  split
  · exact hl _
  split
  · exact hl _
  split
  · exact hg _ _
  split
  · exact hg _ _
  · show (0 : Int32) ≤ 0; decide
theorem e_lp_pos : ∀ (w i : Nat) (A : rE), 0 ≤ (e_lp R w i A).1 := by
  intro w
  induction w with
  | zero => intro i A; show (0 : Int32) ≤ 0; decide
  | succ w ih =>
    intro i A
    simp only [e_lp]
    by_cases c : (e_at A R i).1 = 0
    · rw [if_pos c]; exact ih _ _
    · rw [if_neg c]; exact e_at_pos
end XEQ
/-- what the names of tests stand for -/
theorem P2_names {E : rE} {g : Nat → Int32} {N M : Nat} (hr : ∀ j, j < M → rr_ok N g j) : ∀ (t : Nat) (B : rE), t ≤ M → P2 E g t = (0, t, B) → ∀ j, j < t → (g j = 5 → ∃ d, d < cnt g 1 t ∧ B.2 16 j = nI d) ∧ (g j = 6 → ∃ d, d < cnt g 2 t ∧ B.2 16 j = nI d) := by
  intro t
  induction t with
  | zero => intro B _ _ j hj; exact absurd hj (Nat.not_lt_zero _)
  | succ t ih =>
    intro B ht h j hj
    by_cases c : (P2 E g t).1 = 0
    · have hi := (e_lp_ix (R := rf g) t 0 E).1 c
      rw [Nat.zero_add] at hi
      obtain ⟨B', hB'⟩ : ∃ B', P2 E g t = (0, t, B') := ⟨(P2 E g t).2.2, Prod.ext c (Prod.ext hi rfl)⟩
      have h2 := P2_ok hB'
      rw [h] at h2
      by_cases c2 : (e_at B' (rf g) t).1 = 0
      · rw [if_pos c2] at h2
        have hB : B = (e_at B' (rf g) t).2 := congrArg (fun q => q.2.2) h2
        have m1 := cnt_mono (g := g) (a := 1) (s := t) (t + 1) (Nat.le_succ _)
        have m2 := cnt_mono (g := g) (a := 2) (s := t) (t + 1) (Nat.le_succ _)
        by_cases e : j = t
        · subst e
          refine ⟨fun q => ?_, fun q => ?_⟩
          · have ea := e_at5 (E := B') (R := rf g) (i := j) q
            rw [ea] at c2 hB
            have c2 : r_lk B' (rf g) j 1 = 0 := c2
            have hx : ¬ r_tdl B' g j 1 j 0 0 = -1 := fun z => by
              unfold r_lk at c2
              rw [if_pos (show r_tld B' (rf g) j 1 = -1 from z)] at c2
              exact absurd c2 (by decide)
            obtain ⟨d, d1, d2⟩ := r_tdl_lt0 hx
            refine ⟨d, by omega, ?_⟩
            rw [hB]
            show h_u B'.2 16 j (r_tld B' (rf g) j 1) 16 j = _
            rw [h_u_eq]
            exact d2
          · have ea := e_at6 (E := B') (R := rf g) (i := j) q
            rw [ea] at c2 hB
            have c2 : r_lk B' (rf g) j 2 = 0 := c2
            have hx : ¬ r_tdl B' g j 2 j 0 0 = -1 := fun z => by
              unfold r_lk at c2
              rw [if_pos (show r_tld B' (rf g) j 2 = -1 from z)] at c2
              exact absurd c2 (by decide)
            obtain ⟨d, d1, d2⟩ := r_tdl_lt0 hx
            refine ⟨d, by omega, ?_⟩
            rw [hB]
            show h_u B'.2 16 j (r_tld B' (rf g) j 2) 16 j = _
            rw [h_u_eq]
            exact d2
        · obtain ⟨i1, i2⟩ := ih B' (by omega) hB' j (by omega)
          have e16 : B.2 16 j = B'.2 16 j := by
            rw [hB]
            exact e_at_16 e (hr t (by omega))
          rw [e16]
          exact ⟨fun q => by obtain ⟨d, d1, d2⟩ := i1 q; exact ⟨d, by omega, d2⟩, fun q => by obtain ⟨d, d1, d2⟩ := i2 q; exact ⟨d, by omega, d2⟩⟩
      · rw [if_neg c2] at h2
        exact absurd (congrArg (fun q => q.1) h2).symm c2
    · rw [P2_bad c] at h
      rw [h] at c
      exact absurd rfl c
