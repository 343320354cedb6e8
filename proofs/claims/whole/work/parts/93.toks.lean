/-- a token of both -/
def TF (f : Nat → Int32) (K : (Nat → Int32) × (Nat → Int32) × (Nat → Int64)) (E : rE) (j : Nat) : Prop := tkA (K.1 j) (E.2 12 j) ∧ K.2.1 j = E.2 13 j ∧ (∃ p, p ≤ 2000 ∧ E.2 13 j = nI p) ∧ (E.2 12 j < 900 → ∃ p m, E.2 13 j = nI p ∧ E.2 14 j = nI m ∧ p + m ≤ 2000 ∧ tk_val f p m (E.2 12 j) (K.2.2 j))
theorem k_tok_end {kw : Nat → Int64} {f : Nat → Int32} {n g : Nat} {v : Int64} (h : ¬ g < n) : k_tok f n kw g v = (0, g, v) := by
  unfold k_tok
  rw [if_pos (by omega)]
theorem tk_nxt {kw : Nat → Int64} {f : Nat → Int32} {n i : Nat} {s : kS} (hk : kw_ok kw) (hf : k_by f) (hi : i ≤ 400) : tkA (k_nxt f n kw i s).1 (y_kd f n i (k_gap f n s.1.1)) ∧ (y_kd f n i (k_gap f n s.1.1) < 900 → (k_nxt f n kw i s).2.1 = k_gap f n s.1.1 + (r_kd9 f n (k_gap f n s.1.1)).2 ∧ tk_val f (k_gap f n s.1.1) (r_kd9 f n (k_gap f n s.1.1)).2 (y_kd f n i (k_gap f n s.1.1)) (k_nxt f n kw i s).2.2) := by
  obtain ⟨g, hg⟩ : ∃ g, k_gap f n s.1.1 = g := ⟨_, rfl⟩
  unfold k_nxt
  rw [hg]
  by_cases h : g < n
  · obtain ⟨a1, a2, a3⟩ := tk_at (v := s.1.2) hk hf h
    have e0 : y_k0 f n g = (r_kd9 f n g).1 := if_pos h
    by_cases c : i < 400
    · have e : y_kd f n i g = (r_kd9 f n g).1 := by unfold y_kd; rw [if_neg (by omega), e0]
      rw [if_pos c, e]
      exact ⟨a1, a3⟩
    · have e : y_kd f n i g = 901 := by unfold y_kd; rw [if_pos (by omega), e0, if_neg a2]
      rw [if_neg c, if_pos h, e]
      exact ⟨by show ((1 : Int32), (901 : Int32)) ∈ tk_M; decide, fun q => absurd q (by decide)⟩
  · have e0 : y_k0 f n g = 900 := if_neg h
    have e : y_kd f n i g = 900 := by
      unfold y_kd
      rw [e0]
      by_cases c : i = 400
      · rw [if_pos c, if_pos rfl]
      · rw [if_neg c]
    have e2 : (if i < 400 then k_tok f n kw g s.1.2 else if g < n then (1, g, s.1.2) else k_tok f n kw g s.1.2) = (0, g, s.1.2) := by
      rw [k_tok_end h, if_neg h]
      by_cases c : i < 400
      · rw [if_pos c]
      · rw [if_neg c]
    rw [e2, e]
    exact ⟨by show ((0 : Int32), (900 : Int32)) ∈ tk_M; decide, fun q => absurd q (by decide)⟩
theorem k_lp_stop {kw : Nat → Int64} {f : Nat → Int32} {n i w : Nat} {last : Int32} {s : kS} (h : last = 0 ∨ last = 1) : k_lp f n kw w i last s = s := by
  cases w with
  | zero => rfl
  | succ w =>
    simp only [k_lp]
    rcases h with h | h
    · rw [if_pos h]
    · rw [if_neg (by rw [h]; decide), if_pos h]
theorem vp_updL_at {f : Nat → Int64} {i : Nat} {x : Int64} : vp_updL f i x i = x := by simp [vp_updL]
theorem vp_updL_ne {f : Nat → Int64} {i j : Nat} {x : Int64} (h : j ≠ i) : vp_updL f i x j = f j := by simp [vp_updL, h]
theorem TF_ne {f : Nat → Int32} {n i j : Nat} {s : kS} {r : Int32 × Nat × Int64} {E : rE} {g : Nat} (h : j ≠ i) (t : TF f s.2 E j) : TF f (k_put f n i s r).2 (y_E3 E f n i g) j := by
  obtain ⟨a, b, c, d⟩ := t
  have e1 : (k_put f n i s r).2.1 j = s.2.1 j := upd_ne h
  have e2 : (k_put f n i s r).2.2.1 j = s.2.2.1 j := upd_ne h
  have e3 : (k_put f n i s r).2.2.2 j = s.2.2.2 j := vp_updL_ne h
  unfold TF
  rw [e1, e2, e3, y_E3_ne h, y_E3_ne h, y_E3_ne h]
  exact ⟨a, b, c, d⟩
/-- both cuts, side by side -/
theorem tk_loop {kw : Nat → Int64} {f : Nat → Int32} {n : Nat} (hk : kw_ok kw) (hf : k_by f) (hn : n ≤ 2000) : ∀ (w i x : Nat) (last : Int32) (s : kS) (q : rE × rS), i + w = 401 → i ≤ 400 → s.1.1 = x → x ≤ n → ¬ last = 0 → ¬ last = 1 → (∀ j, j < i → TF f s.2 q.1 j ∧ q.1.2 12 j < 900) → ∃ N, N ≤ 400 ∧ (∀ j, j ≤ N → TF f (k_lp f n kw w i last s).2 (y_lp f n w i x q).1 j) ∧ (∀ j, j < N → (y_lp f n w i x q).1.2 12 j < 900) ∧ ¬ (y_lp f n w i x q).1.2 12 N < 900 := by
  intro w
  induction w with
  | zero => intro i x last s q h1 h2; omega
  | succ w ih =>
    intro i x last s q h1 h2 hx h3 hl0 hl1 hT
    subst hx
    obtain ⟨a1, a2⟩ := tk_nxt (n := n) (s := s) hk hf h2
    have hgl := k_gap_le (f := f) h3
    simp only [k_lp, y_lp]
    rw [if_neg hl0, if_neg hl1]
    obtain ⟨g, hg⟩ : ∃ g, k_gap f n s.1.1 = g := ⟨_, rfl⟩
    obtain ⟨r, hr⟩ : ∃ r, k_nxt f n kw i s = r := ⟨_, rfl⟩
    rw [hg, hr] at a1 a2
    rw [hg] at hgl
    rw [hg, hr]
    have b1 : (k_put f n i s r).2.1 i = r.1 := upd_at
    have b2 : (k_put f n i s r).2.2.1 i = nI g := by rw [← hg]; exact upd_at
    have b3 : (k_put f n i s r).2.2.2 i = r.2.2 := vp_updL_at
    have hTi : TF f (k_put f n i s r).2 (y_E3 q.1 f n i g) i := by
      unfold TF
      rw [b1, b2, b3, y_E3a, y_from]
      refine ⟨a1, rfl, ⟨g, by omega, rfl⟩, fun hlt => ⟨g, (r_kd9 f n g).2, rfl, y_many (y_lt hlt), ?_, (a2 hlt).2⟩⟩
      have := (r_kd9_le (f := f) (y_lt hlt)).2
      omega
    have hbig := tk_big (r.1, y_kd f n i g) a1
    by_cases c : y_kd f n i g < 900
    · rw [if_pos c]
      have hlt := y_lt c
      have hi : i ≠ 400 := fun q => by rw [q] at c; exact y_kd400 c
      have hne : ¬ (r.1 = 0 ∨ r.1 = 1) := fun z => hbig.mpr z c
      refine ih (i + 1) _ r.1 (k_put f n i s r) (y_E3 q.1 f n i g, y_R1 q.2 i) (by omega) (by omega) (a2 c).1 (r_kd9_le hlt).2 (fun z => hne (Or.inl z)) (fun z => hne (Or.inr z)) (fun j hj => ?_)
      by_cases e : j = i
      · rw [e]
        exact ⟨hTi, by show (y_E3 q.1 f n i g).2 12 i < 900; rw [y_E3a]; exact c⟩
      · obtain ⟨t1, t2⟩ := hT j (by omega)
        exact ⟨TF_ne e t1, by show (y_E3 q.1 f n i g).2 12 j < 900; rw [y_E3_ne e]; exact t2⟩
    · rw [if_neg c, k_lp_stop (hbig.mp c)]
      refine ⟨i, h2, fun j hj => ?_, fun j hj => ?_, ?_⟩
      · by_cases e : j = i
        · rw [e]; exact hTi
        · exact TF_ne e (hT j (by omega)).1
      · show (y_E3 q.1 f n i g).2 12 j < 900
        rw [y_E3_ne (by omega)]
        exact (hT j hj).2
      · show ¬ (y_E3 q.1 f n i g).2 12 i < 900
        rw [y_E3a]
        exact c
