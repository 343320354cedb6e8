theorem h_u_nei {A : HS} {r i q k : Nat} {x : Int32} (h : k ≠ i) : h_u A r i x q k = A q k := by
  by_cases e : q = r
  · subst e
    exact h_u_ne h
  · rw [h_u_row e]
section XCO
variable {E : rE} {f : Nat → Int32} {n i g k : Nat}
theorem y_E3_ne {q : Nat} (h : k ≠ i) : (y_E3 E f n i g).2 q k = E.2 q k := by
  have e1 : (y_E1 E i g).2 q k = E.2 q k := by
    show h_u (h_u E.2 13 i (nI g)) 16 i 0 q k = E.2 q k
    rw [h_u_nei h, h_u_nei h]
  have e2 : (y_E2 E f n i g).2 q k = E.2 q k := by
    unfold y_E2
    by_cases c : g < n
    · rw [if_pos c]
      show h_u (y_E1 E i g).2 14 i (nI (r_kd9 f n g).2) q k = E.2 q k
      rw [h_u_nei h, e1]
    · rw [if_neg c]
      exact e1
  show h_u (y_E2 E f n i g).2 12 i (y_kd f n i g) q k = E.2 q k
  rw [h_u_nei h, e2]
theorem r_in_ne (h : k ≠ i) (a : r_in E k) : r_in (y_E3 E f n i g) k := by
  obtain ⟨p, m, a1, a2, a3⟩ := a
  exact ⟨p, m, (y_E3_ne h).trans a1, (y_E3_ne h).trans a2, a3⟩
theorem r_in_at (hn : n ≤ 2000) (h : g < n) : r_in (y_E3 E f n i g) i := by
  have := (r_kd9_le (f := f) h).2
  exact ⟨g, (r_kd9 f n g).2, y_from, y_many h, by omega⟩
theorem y_kd400 : ¬ y_kd f n 400 g < 900 := by
  unfold y_kd
  rw [if_pos rfl]
  by_cases c : y_k0 f n g = 900
  · rw [if_pos c]; decide
  · rw [if_neg c]; decide
end XCO
def y_ok (q : rE × rS) (N : Nat) : Prop := N ≤ 400 ∧ (∀ k, k < N → q.1.2 12 k < 900 ∧ r_in q.1 k) ∧ ¬ q.1.2 12 N < 900 ∧ ∀ k, k ≤ N → q.2.2.2.2.1 k = 0
theorem y_lp_ok {f : Nat → Int32} {n : Nat} (hn : n ≤ 2000) : ∀ (w i x : Nat) (q : rE × rS), i + w = 401 → i ≤ 400 → x ≤ n → (∀ k, k < i → q.1.2 12 k < 900 ∧ r_in q.1 k ∧ q.2.2.2.2.1 k = 0) → ∃ N, y_ok (y_lp f n w i x q) N := by
  intro w
  induction w with
  | zero => intro i x q h1 h2; omega
  | succ w ih =>
    intro i x q h1 h2 h3 h4
    have hg := (k_gap_le (f := f) h3).2
    have hE : ∀ k, k < i → (y_E3 q.1 f n i (k_gap f n x)).2 12 k < 900 ∧ r_in (y_E3 q.1 f n i (k_gap f n x)) k ∧ (y_R1 q.2 i).2.2.2.1 k = 0 := fun k hk => by
      obtain ⟨a, b, c⟩ := h4 k hk
      refine ⟨?_, r_in_ne (by omega) b, ?_⟩
      · rw [y_E3_ne (by omega)]; exact a
      · show upd q.2.2.2.2.1 i 0 k = 0
        rw [upd_ne (by omega)]; exact c
    simp only [y_lp]
    by_cases c : y_kd f n i (k_gap f n x) < 900
    · rw [if_pos c]
      have hlt := y_lt c
      have hi : i ≠ 400 := fun q => by rw [q] at c; exact y_kd400 c
      refine ih (i + 1) _ (y_E3 q.1 f n i (k_gap f n x), y_R1 q.2 i) (by omega) (by omega) (r_kd9_le hlt).2 (fun k hk => ?_)
      by_cases e : k = i
      · rw [e]
        exact ⟨by show (y_E3 q.1 f n i (k_gap f n x)).2 12 i < 900; rw [y_E3a]; exact c, r_in_at hn hlt, upd_at⟩
      · exact hE k (by omega)
    · rw [if_neg c]
      refine ⟨i, h2, fun k hk => ⟨(hE k hk).1, (hE k hk).2.1⟩, ?_, fun k hk => ?_⟩
      · show ¬ (y_E3 q.1 f n i (k_gap f n x)).2 12 i < 900
        rw [y_E3a]
        exact c
      · by_cases e : k = i
        · rw [e]
          exact upd_at
        · exact (hE k (by omega)).2.2
theorem y_lp_same {f : Nat → Int32} {n : Nat} : ∀ (w i x : Nat) (q : rE × rS), (y_lp f n w i x q).1.1 = q.1.1 ∧ (∀ r, r ≠ 12 → r ≠ 13 → r ≠ 14 → r ≠ 16 → (y_lp f n w i x q).1.2 r = q.1.2 r) ∧ (y_lp f n w i x q).2.1 = q.2.1 ∧ (y_lp f n w i x q).2.2.1 = q.2.2.1 ∧ (y_lp f n w i x q).2.2.2.1 = q.2.2.2.1 ∧ (y_lp f n w i x q).2.2.2.2.2 = q.2.2.2.2.2 := by
  intro w
  induction w with
  | zero => intro i x q; exact ⟨rfl, fun _ _ _ _ _ => rfl, rfl, rfl, rfl, rfl⟩
  | succ w ih =>
    intro i x q
    have h1 : (y_E3 q.1 f n i (k_gap f n x)).1 = q.1.1 := y_E3_1
    have h2 : ∀ r, r ≠ 12 → r ≠ 13 → r ≠ 14 → r ≠ 16 → (y_E3 q.1 f n i (k_gap f n x)).2 r = q.1.2 r := fun r a b c d => y_E3_row b d c a
    simp only [y_lp]
    by_cases c : y_kd f n i (k_gap f n x) < 900
    · rw [if_pos c]
      obtain ⟨i1, i2, i3, i4, i5, i6⟩ := ih (i + 1) (k_gap f n x + (r_kd9 f n (k_gap f n x)).2) (y_E3 q.1 f n i (k_gap f n x), y_R1 q.2 i)
      exact ⟨i1.trans h1, fun r a b c d => (i2 r a b c d).trans (h2 r a b c d), i3, i4, i5, i6⟩
    · rw [if_neg c]
      exact ⟨h1, h2, rfl, rfl, rfl, rfl⟩
