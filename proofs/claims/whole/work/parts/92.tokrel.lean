/-- kinds of the class beside those of the reference -/
def tk_M : List (Int32 × Int32) := [(256, 0), (257, 1), (258, 2), (259, 3), (260, 4), (261, 5), (262, 6), (263, 7), (264, 8), (265, 9), (266, 10), (267, 11), (268, 12), (269, 13), (270, 14), (271, 15), (272, 16), (273, 17), (274, 18), (275, 19), (276, 20), (277, 21), (2, 40), (3, 41), (40, 90), (41, 91), (91, 141), (93, 143), (59, 109), (44, 94), (43, 93), (45, 95), (42, 92), (47, 97), (60, 110), (62, 112), (61, 111), (188, 300), (190, 301), (0, 900), (1, 901)]
def tkA (c r : Int32) : Prop := (c, r) ∈ tk_M
theorem tk_all : ∀ p, p ∈ tk_M → ∀ q, q ∈ tk_M → (p.1 = q.1 ↔ p.2 = q.2) := by decide +kernel
theorem tk_e {c r : Int32} (h : tkA c r) (c0 r0 : Int32) (hq : (c0, r0) ∈ tk_M) : c = c0 ↔ r = r0 := tk_all (c, r) h (c0, r0) hq
theorem tk_big : ∀ p, p ∈ tk_M → (¬ p.2 < 900 ↔ p.1 = 0 ∨ p.1 = 1) := by decide +kernel
theorem tk_word : ∀ j, j < 22 → (nI (256 + j), nI j) ∈ tk_M := by decide +kernel
theorem tk_sym : ∀ b, b < 256 → (k_sy1 (nI b), r_sy1 (nI b)) ∈ tk_M := by decide +kernel
theorem tk_sym9 : ∀ b, b < 256 → r_sy1 (nI b) ≠ 900 ∧ r_sy1 (nI b) ≠ 40 ∧ r_sy1 (nI b) ≠ 41 := by decide +kernel
theorem k_run_all {q : Int32 → Bool} {f : Nat → Int32} : ∀ w i j, i ≤ j → j < k_run q f w i → q (f j) = true := by
  intro w
  induction w with
  | zero => intro i j h1 h2; have h2 : j < i := h2; omega
  | succ w ih =>
    intro i j h1 h2
    unfold k_run at h2
    by_cases c : q (f i) = true
    · rw [if_pos c] at h2
      by_cases e : j = i
      · rw [e]; exact c
      · exact ih (i + 1) j (by omega) h2
    · rw [if_neg c] at h2
      omega
theorem k_run_one {q : Int32 → Bool} {f : Nat → Int32} {n g : Nat} (h : g < n) (hq : q (f g) = true) : k_run q f (n - g) g = k_run q f (n - (g + 1)) (g + 1) := by
  have e : n - g = (n - (g + 1)) + 1 := by omega
  rw [e]
  show (if q (f g) = true then k_run q f (n - (g + 1)) (g + 1) else g) = _
  rw [if_pos hq]
theorem pj_alW {f : Nat → Int32} {w g : Nat} (hf : k_by f) (hq : k_isW (f g) = true) : pj_al f g (k_run k_isW f w (g + 1) - g) := fun k hk => by
  obtain ⟨b, h1, h2⟩ := hf (g + k)
  refine ⟨b, h1, h2, (pj_W h1).mp ?_⟩
  rw [← h2]
  by_cases e : k = 0
  · rw [e]; exact hq
  · exact k_run_all w (g + 1) (g + k) (by omega) (by omega)
theorem pj_alD {f : Nat → Int32} {w g : Nat} (hf : k_by f) (hq : k_isD (f g) = true) : ∀ k, k < k_run k_isD f w (g + 1) - g → ∃ b, b < 256 ∧ f (g + k) = nI b ∧ 48 ≤ b ∧ b ≤ 57 := fun k hk => by
  obtain ⟨b, h1, h2⟩ := hf (g + k)
  refine ⟨b, h1, h2, (pj_D b h1).mp ?_⟩
  rw [← h2]
  by_cases e : k = 0
  · rw [e]; exact hq
  · exact k_run_all w (g + 1) (g + k) (by omega) (by omega)
theorem pj_nv {f : Nat → Int32} {g : Nat} : ∀ m, (∀ k, k < m → ∃ b, b < 256 ∧ f (g + k) = nI b ∧ 48 ≤ b ∧ b ≤ 57) → ∃ N, N < 10 ^ m ∧ r_nmF f g m = nI N := by
  intro m
  induction m with
  | zero => intro _; exact ⟨0, by decide, rfl⟩
  | succ m ih =>
    intro h
    obtain ⟨N, h1, h2⟩ := ih (fun k hk => h k (by omega))
    obtain ⟨b, b1, b2, b3, b4⟩ := h m (Nat.lt_succ_self _)
    refine ⟨10 * N + b - 48, by rw [Nat.pow_succ]; omega, ?_⟩
    show 10 * r_nmF f g m + f (g + m) - 48 = _
    rw [h2, b2]
    show nI 10 * nI N + nI b - nI 48 = _
    rw [pk_mul, nI_add, nI_sb (by omega)]
theorem pj_nn {f : Nat → Int32} {g m : Nat} (hm : m ≤ 6) (h : ∀ k, k < m → ∃ b, b < 256 ∧ f (g + k) = nI b ∧ 48 ≤ b ∧ b ≤ 57) : ¬ r_nmF f g m < 0 := by
  obtain ⟨N, h1, h2⟩ := pj_nv m h
  rw [h2]
  have : 10 ^ m ≤ 10 ^ 6 := Nat.pow_le_pow_right (by decide) hm
  exact nI_pos (by omega)
/-- what a token's value says -/
def tk_val (f : Nat → Int32) (g len : Nat) (r : Int32) (v : Int64) : Prop := (r = 41 → v.toInt32 = r_nmF f g len ∧ ¬ r_nmF f g len < 0) ∧ (r = 40 → v = k_pk f g len ∧ len ≤ 10 ∧ pj_al f g len)
theorem tk_val0 {f : Nat → Int32} {g len : Nat} {r : Int32} {v : Int64} (h1 : r ≠ 41) (h2 : r ≠ 40) : tk_val f g len r v := ⟨fun h => absurd h h1, fun h => absurd h h2⟩
theorem nI_ne41 : ∀ j, j < 22 → nI j ≠ 41 ∧ nI j ≠ 40 ∧ nI j ≠ 900 := by decide +kernel
theorem tk_at {kw : Nat → Int64} {f : Nat → Int32} {n g : Nat} {v : Int64} (hk : kw_ok kw) (hf : k_by f) (h : g < n) : tkA (k_tok f n kw g v).1 (r_kd9 f n g).1 ∧ (r_kd9 f n g).1 ≠ 900 ∧ ((r_kd9 f n g).1 < 900 → (k_tok f n kw g v).2.1 = g + (r_kd9 f n g).2 ∧ tk_val f g (r_kd9 f n g).2 (r_kd9 f n g).1 (k_tok f n kw g v).2.2) := by
  unfold k_tok r_kd9
  rw [if_neg (show ¬ n ≤ g by omega)]
  by_cases c1 : k_isL (f g) = true
  · rw [if_pos c1, if_pos c1]
    have hW : k_isW (f g) = true := by unfold k_isW; rw [c1]; rfl
    have e1 : k_wend f n g = r_kdL f n g := k_run_one h hW
    have e2 := (k_run_le (q := k_isW) (f := f) (n - (g + 1)) (g + 1)).1
    have e2 : g + 1 ≤ r_kdL f n g := e2
    rw [e1]
    unfold k_tW
    show tkA (if 10 < r_kdL f n g - g then 1 else k_kw kw (k_pk f g (r_kdL f n g - g)) 22 0) (if 10 < r_kdL f n g - g then 901 else r_word f g (r_kdL f n g - g)) ∧ (if 10 < r_kdL f n g - g then (901 : Int32) else r_word f g (r_kdL f n g - g)) ≠ 900 ∧ ((if 10 < r_kdL f n g - g then (901 : Int32) else r_word f g (r_kdL f n g - g)) < 900 → r_kdL f n g = g + (r_kdL f n g - g) ∧ tk_val f g (r_kdL f n g - g) (if 10 < r_kdL f n g - g then 901 else r_word f g (r_kdL f n g - g)) (k_pk f g (r_kdL f n g - g)))
    by_cases c2 : 10 < r_kdL f n g - g
    · rw [if_pos c2, if_pos c2]
      exact ⟨by unfold tkA; decide, by decide, fun q => absurd q (by decide)⟩
    · rw [if_neg c2, if_neg c2]
      have ha : pj_al f g (r_kdL f n g - g) := pj_alW hf hW
      have hl : r_kdL f n g - g ≤ 10 := by omega
      have hw : r_word f g (r_kdL f n g - g) = r_wlp f g (r_kdL f n g - g) 22 0 := rfl
      rw [hw]
      rcases pj_word hk ha hl 22 0 rfl with ⟨j, j1, j2, j3⟩ | ⟨j2, j3⟩
      · obtain ⟨n1, n2, n3⟩ := nI_ne41 j j1
        rw [j2, j3]
        exact ⟨tk_word j j1, n3, fun _ => ⟨by omega, tk_val0 n1 n2⟩⟩
      · rw [j2, j3]
        exact ⟨by unfold tkA; decide, by decide, fun _ => ⟨by omega, ⟨fun q => absurd q (by decide), fun _ => ⟨rfl, hl, ha⟩⟩⟩⟩
  rw [if_neg c1, if_neg c1]
  by_cases c2 : k_isD (f g) = true
  · rw [if_pos c2, if_pos c2]
    have e1 : k_dend f n g = r_kdD f n g := k_run_one h c2
    have e2 := (k_run_le (q := k_isD) (f := f) (n - (g + 1)) (g + 1)).1
    have e2 : g + 1 ≤ r_kdD f n g := e2
    rw [e1]
    unfold k_tD
    show tkA (if 6 < r_kdD f n g - g then 1 else 3) (if 6 < r_kdD f n g - g then 901 else 41) ∧ (if 6 < r_kdD f n g - g then (901 : Int32) else 41) ≠ 900 ∧ ((if 6 < r_kdD f n g - g then (901 : Int32) else 41) < 900 → r_kdD f n g = g + (r_kdD f n g - g) ∧ tk_val f g (r_kdD f n g - g) (if 6 < r_kdD f n g - g then 901 else 41) (k_nm f g (r_kdD f n g - g)))
    by_cases c3 : 6 < r_kdD f n g - g
    · rw [if_pos c3, if_pos c3]
      exact ⟨by unfold tkA; decide, by decide, fun q => absurd q (by decide)⟩
    · rw [if_neg c3, if_neg c3]
      exact ⟨by unfold tkA; decide, by decide, fun _ => ⟨by omega, ⟨fun _ => ⟨pj_num _, pj_nn (by omega) (pj_alD hf c2)⟩, fun q => absurd q (by decide)⟩⟩⟩
  rw [if_neg c2, if_neg c2]
  obtain ⟨b, hb1, hb2⟩ := hf g
  have s1 := tk_sym b hb1
  obtain ⟨s2, s3, s4⟩ := tk_sym9 b hb1
  rw [← hb2] at s1 s2 s3 s4
  have hat : k_at f n (g + 1) = 61 ↔ r_by f n (g + 1) = 61 := by
    unfold k_at r_by
    by_cases q : g + 1 < n
    · rw [if_pos q, if_pos q]
    · rw [if_neg q, if_neg q]
      exact ⟨fun q => absurd q (by decide), fun q => absurd q (by decide)⟩
  unfold k_tS
  by_cases c3 : f g = 60
  · rw [if_pos c3]
    by_cases c4 : k_at f n (g + 1) = 61
    · have hl : r_lng f n g = true := by unfold r_lng; rw [decide_eq_true c3, decide_eq_true (hat.mp c4)]; rfl
      rw [if_pos c4, if_pos hl, if_pos c3]
      exact ⟨by show ((188 : Int32), (300 : Int32)) ∈ tk_M; decide, show (300 : Int32) ≠ 900 by decide, fun _ => ⟨rfl, tk_val0 (show (300 : Int32) ≠ 41 by decide) (show (300 : Int32) ≠ 40 by decide)⟩⟩
    · have hl : ¬ r_lng f n g = true := by unfold r_lng; rw [decide_eq_false (fun q => c4 (hat.mpr q)), Bool.and_false]; exact Bool.false_ne_true
      rw [if_neg c4, if_neg hl]
      exact ⟨s1, s2, fun _ => ⟨rfl, tk_val0 s4 s3⟩⟩
  rw [if_neg c3]
  by_cases c5 : f g = 62
  · rw [if_pos c5]
    by_cases c4 : k_at f n (g + 1) = 61
    · have hl : r_lng f n g = true := by unfold r_lng; rw [decide_eq_true c5, decide_eq_true (hat.mp c4), Bool.or_true]; rfl
      rw [if_pos c4, if_pos hl, if_neg c3]
      exact ⟨by show ((190 : Int32), (301 : Int32)) ∈ tk_M; decide, show (301 : Int32) ≠ 900 by decide, fun _ => ⟨rfl, tk_val0 (show (301 : Int32) ≠ 41 by decide) (show (301 : Int32) ≠ 40 by decide)⟩⟩
    · have hl : ¬ r_lng f n g = true := by unfold r_lng; rw [decide_eq_false (fun q => c4 (hat.mpr q)), Bool.and_false]; exact Bool.false_ne_true
      rw [if_neg c4, if_neg hl]
      exact ⟨s1, s2, fun _ => ⟨rfl, tk_val0 s4 s3⟩⟩
  rw [if_neg c5]
  have hl : ¬ r_lng f n g = true := by unfold r_lng; rw [decide_eq_false c3, decide_eq_false c5]; exact Bool.false_ne_true
  rw [if_neg hl]
  exact ⟨s1, s2, fun _ => ⟨rfl, tk_val0 s4 s3⟩⟩
