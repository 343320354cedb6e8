theorem nI_sb {a b : Nat} (h : b ≤ a) : nI a - nI b = nI (a - b) := by
  have e : nI a = nI (a - b) + nI b := by rw [nI_add]; congr 1; omega
  rw [e]
  exact Int32.add_sub_cancel _ _
theorem r_by_in {f : Nat → Int32} {n x : Nat} (h : x < n) : r_by f n x = f x := if_pos h
theorem r_by_out {f : Nat → Int32} {n x : Nat} (h : ¬ x < n) : r_by f n x = -1 := if_neg h
theorem r_by_ne {f : Nat → Int32} (hf : k_by f) {n x : Nat} (h : x < n) : ¬ r_by f n x = -1 := by
  rw [r_by_in h]
  obtain ⟨c, h1, h2⟩ := hf x
  rw [h2]
  intro q
  have := congrArg Int32.toNatClampNeg q
  rw [nI_clamp (show c < 2 ^ 31 by omega)] at this
  have e : c = 0 := this
  rw [e] at q
  exact absurd q (by decide)
abbrev r_qq (L : Bool) : Int32 → Bool := fun c => k_isD c || (L && k_isL c)
theorem r_runB {q : Int32 → Bool} (hq : q (-1) = false) {f : Nat → Int32} {n : Nat} : ∀ w e, n < e + w → e ≤ n → k_run q (r_by f n) w e = k_run q f (n - e) e := by
  intro w
  induction w with
  | zero => intro e h1 h2; omega
  | succ w ih =>
    intro e h1 h2
    unfold k_run
    by_cases h : e < n
    · rw [r_by_in h]
      obtain ⟨m, hm⟩ : ∃ m, n - e = m + 1 := ⟨n - e - 1, by omega⟩
      rw [hm]
      simp only
      by_cases c : q (f e) = true
      · rw [if_pos c, if_pos c, ih (e + 1) (by omega) (by omega), show n - (e + 1) = m by omega]
      · rw [if_neg c, if_neg c]
    · have e1 : n - e = 0 := by omega
      rw [r_by_out h, hq, e1]
      simp
theorem r_qq1 (L : Bool) : r_qq L (-1) = false := by cases L <;> decide
