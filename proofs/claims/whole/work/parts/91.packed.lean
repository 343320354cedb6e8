/-- a sign's digit to the base 37 -/
def pj_dg (b : Nat) : Nat := if 97 ≤ b then b - 96 else b - 21
def pj_aln (b : Nat) : Prop := (97 ≤ b ∧ b ≤ 122) ∨ (48 ≤ b ∧ b ≤ 57)
theorem pj_L : ∀ b, b < 256 → (k_isL (nI b) = true ↔ 97 ≤ b ∧ b ≤ 122) := by decide +kernel
theorem pj_D : ∀ b, b < 256 → (k_isD (nI b) = true ↔ 48 ≤ b ∧ b ≤ 57) := by decide +kernel
theorem pj_W {b : Nat} (h : b < 256) : k_isW (nI b) = true ↔ pj_aln b := by
  unfold k_isW pj_aln
  rw [Bool.or_eq_true, pj_L b h, pj_D b h]
theorem pj_lon1 : ∀ b, b < 256 → k_isW (nI b) = true → (if k_isL (nI b) = true then nI b - 97 + 1 else nI b - 48 + 27).toInt64 = Int64.ofNat (pj_dg b) := by decide +kernel
theorem pj_dg_le {b : Nat} (h : pj_aln b) : 1 ≤ pj_dg b ∧ pj_dg b ≤ 36 := by
  unfold pj_aln at h
  unfold pj_dg
  split <;> omega
theorem pj_dg_in {b c : Nat} (h : pj_aln b) (h2 : pj_aln c) (e : pj_dg b = pj_dg c) : b = c := by
  unfold pj_aln at h h2
  unfold pj_dg at e
  split at e <;> split at e <;> omega
/-- bytes as numbers -/
def pj_b (f : Nat → Int32) (i : Nat) : Nat := (f i).toNatClampNeg
def pj_N (f : Nat → Int32) (i : Nat) : Nat → Nat
  | 0 => 0
  | m + 1 => pj_N f i m * 37 + pj_dg (pj_b f (i + m))
/-- m signs from i on are letters or digits -/
def pj_al (f : Nat → Int32) (i m : Nat) : Prop := ∀ k, k < m → ∃ b, b < 256 ∧ f (i + k) = nI b ∧ pj_aln b
theorem pj_bI {f : Nat → Int32} {i b : Nat} (h : f i = nI b) (hb : b < 256) : pj_b f i = b := by unfold pj_b; rw [h, nI_clamp (by omega)]
theorem pj_eq {f : Nat → Int32} {i : Nat} : ∀ m, pj_al f i m → k_pk f i m = Int64.ofNat (pj_N f i m) := by
  intro m
  induction m with
  | zero => intro _; rfl
  | succ m ih =>
    intro h
    obtain ⟨b, h1, h2, h3⟩ := h m (Nat.lt_succ_self _)
    have i1 := ih (fun k hk => h k (by omega))
    show k_lon (k_pk f i m) (f (i + m)) = Int64.ofNat (pj_N f i m * 37 + pj_dg (pj_b f (i + m)))
    rw [i1, pj_bI h2 h1, Int64.ofNat_add, Int64.ofNat_mul, h2]
    show Int64.ofNat (pj_N f i m) * 37 + (if k_isL (nI b) = true then nI b - 97 + 1 else nI b - 48 + 27).toInt64 = _
    rw [pj_lon1 b h1 ((pj_W h1).mpr h3)]
    rfl
theorem pj_lt {f : Nat → Int32} {i : Nat} : ∀ m, pj_al f i m → pj_N f i m < 37 ^ m := by
  intro m
  induction m with
  | zero => intro _; show 0 < 37 ^ 0; decide
  | succ m ih =>
    intro h
    obtain ⟨b, h1, h2, h3⟩ := h m (Nat.lt_succ_self _)
    have i1 := ih (fun k hk => h k (by omega))
    have i2 := (pj_dg_le h3).2
    show pj_N f i m * 37 + pj_dg (pj_b f (i + m)) < 37 ^ (m + 1)
    rw [pj_bI h2 h1, Nat.pow_succ]
    omega
theorem pj_inj {f g : Nat → Int32} {i j : Nat} : ∀ m m', pj_al f i m → pj_al g j m' → pj_N f i m = pj_N g j m' → m = m' ∧ ∀ k, k < m → f (i + k) = g (j + k) := by
  intro m
  induction m with
  | zero =>
    intro m' _ h2 e
    cases m' with
    | zero => exact ⟨rfl, fun k hk => absurd hk (Nat.not_lt_zero _)⟩
    | succ m' =>
      exfalso
      obtain ⟨b, h3, h4, h5⟩ := h2 m' (Nat.lt_succ_self _)
      have e : 0 = pj_N g j m' * 37 + pj_dg (pj_b g (j + m')) := e
      rw [pj_bI h4 h3] at e
      have := (pj_dg_le h5).1
      omega
  | succ m ih =>
    intro m' h1 h2 e
    obtain ⟨b, b1, b2, b3⟩ := h1 m (Nat.lt_succ_self _)
    have d1 := pj_dg_le b3
    cases m' with
    | zero =>
      exfalso
      have e : pj_N f i m * 37 + pj_dg (pj_b f (i + m)) = 0 := e
      rw [pj_bI b2 b1] at e
      omega
    | succ m' =>
      obtain ⟨c, c1, c2, c3⟩ := h2 m' (Nat.lt_succ_self _)
      have d2 := pj_dg_le c3
      have e : pj_N f i m * 37 + pj_dg (pj_b f (i + m)) = pj_N g j m' * 37 + pj_dg (pj_b g (j + m')) := e
      rw [pj_bI b2 b1, pj_bI c2 c1] at e
      have e1 : pj_N f i m = pj_N g j m' := by omega
      have e2 : pj_dg b = pj_dg c := by omega
      obtain ⟨a1, a2⟩ := ih m' (fun k hk => h1 k (by omega)) (fun k hk => h2 k (by omega)) e1
      subst a1
      refine ⟨rfl, fun k hk => ?_⟩
      by_cases q : k < m
      · exact a2 k q
      · rw [show k = m by omega, b2, c2, pj_dg_in b3 c3 e2]
theorem pj_cong {f g : Nat → Int32} {i j : Nat} : ∀ m, (∀ k, k < m → f (i + k) = g (j + k)) → k_pk f i m = k_pk g j m := by
  intro m
  induction m with
  | zero => intro _; rfl
  | succ m ih =>
    intro h
    show k_lon (k_pk f i m) (f (i + m)) = k_lon (k_pk g j m) (g (j + m))
    rw [ih (fun k hk => h k (by omega)), h m (Nat.lt_succ_self _)]
/-- one word, one long -/
theorem pj_iff {f g : Nat → Int32} {i j m m' : Nat} (h1 : pj_al f i m) (h2 : pj_al g j m') (hm : m ≤ 10) (hm' : m' ≤ 10) : k_pk f i m = k_pk g j m' ↔ m = m' ∧ ∀ k, k < m → f (i + k) = g (j + k) := by
  constructor
  · intro e
    rw [pj_eq m h1, pj_eq m' h2] at e
    have l1 : pj_N f i m < 2 ^ 63 := Nat.lt_of_lt_of_le (pj_lt m h1) (Nat.le_trans (Nat.pow_le_pow_right (by decide) hm) (by decide))
    have l2 : pj_N g j m' < 2 ^ 63 := Nat.lt_of_lt_of_le (pj_lt m' h2) (Nat.le_trans (Nat.pow_le_pow_right (by decide) hm') (by decide))
    have e2 := congrArg Int64.toInt e
    rw [Int64.toInt_ofNat_of_lt l1, Int64.toInt_ofNat_of_lt l2] at e2
    exact pj_inj m m' h1 h2 (by omega)
  · rintro ⟨rfl, h⟩
    exact pj_cong m h
/-- a number's value is the reference's -/
theorem pj_num {f : Nat → Int32} {i : Nat} : ∀ m, (k_nm f i m).toInt32 = r_nmF f i m := by
  intro m
  induction m with
  | zero => rfl
  | succ m ih =>
    show (k_nm f i m * 10 + (f (i + m)).toInt64 - 48).toInt32 = 10 * r_nmF f i m + f (i + m) - 48
    rw [Int64.toInt32_sub, Int64.toInt32_add, Int64.toInt32_mul, Int32.toInt32_toInt64, ih]
    have e : Int64.toInt32 10 = 10 := by decide
    have e2 : Int64.toInt32 48 = 48 := by decide
    rw [e, e2, Int32.mul_comm]
/-- the keywords, packed -/
def pj_w (k i : Nat) : Int32 := nI ((w_L.getD k []).getD i 0)
def kw_ok (kw : Nat → Int64) : Prop := ∀ k, k < 22 → kw k = k_pk (pj_w k) 0 (w_L.getD k []).length
theorem w_al : ∀ k, k < 22 → (w_L.getD k []).length ≤ 10 ∧ ∀ i, i < (w_L.getD k []).length → (97 ≤ (w_L.getD k []).getD i 0 ∧ (w_L.getD k []).getD i 0 ≤ 122) := by decide +kernel
theorem pj_wal {k : Nat} (h : k < 22) : pj_al (pj_w k) 0 (w_L.getD k []).length := fun i hi => by
  obtain ⟨a, b⟩ := (w_al k h).2 i hi
  refine ⟨(w_L.getD k []).getD i 0, by omega, ?_, Or.inl ⟨a, b⟩⟩
  unfold pj_w
  rw [Nat.zero_add]
theorem h_all_iff {q : Nat → Bool} : ∀ n, h_all q n = true ↔ ∀ k, k < n → q k = true := by
  intro n
  induction n with
  | zero => exact ⟨fun _ k hk => absurd hk (Nat.not_lt_zero _), fun _ => rfl⟩
  | succ n ih =>
    show (h_all q n && q n) = true ↔ _
    rw [Bool.and_eq_true, ih]
    constructor
    · rintro ⟨a, b⟩ k hk
      by_cases c : k < n
      · exact a k c
      · rw [show k = n by omega]; exact b
    · intro h
      exact ⟨fun k hk => h k (by omega), h n (Nat.lt_succ_self _)⟩
/-- a word is a keyword for both, or for none -/
theorem pj_wq {kw : Nat → Int64} {f : Nat → Int32} {x len k : Nat} (hk : kw_ok kw) (h : pj_al f x len) (hl : len ≤ 10) (h22 : k < 22) : kw k = k_pk f x len ↔ r_wq f x len k = true := by
  rw [hk k h22, pj_iff (pj_wal h22) h (w_al k h22).1 hl]
  unfold r_wq
  rw [Bool.and_eq_true, decide_eq_true_eq, h_all_iff]
  constructor
  · rintro ⟨a, b⟩
    refine ⟨a, fun i hi => ?_⟩
    have e := b i (by omega)
    rw [Nat.zero_add] at e
    exact decide_eq_true e
  · rintro ⟨a, b⟩
    refine ⟨a, fun i hi => ?_⟩
    rw [Nat.zero_add]
    exact of_decide_eq_true (b i (by omega))
theorem pj_word {kw : Nat → Int64} {f : Nat → Int32} {x len : Nat} (hk : kw_ok kw) (h : pj_al f x len) (hl : len ≤ 10) : ∀ w k, k + w = 22 → (∃ j, j < 22 ∧ k_kw kw (k_pk f x len) w k = nI (256 + j) ∧ r_wlp f x len w k = nI j) ∨ (k_kw kw (k_pk f x len) w k = 2 ∧ r_wlp f x len w k = 40) := by
  intro w
  induction w with
  | zero => intro k _; exact Or.inr ⟨rfl, rfl⟩
  | succ w ih =>
    intro k hk9
    simp only [k_kw, r_wlp]
    by_cases c : kw k = k_pk f x len
    · rw [if_pos c, if_pos ((pj_wq hk h hl (by omega)).mp c)]
      exact Or.inl ⟨k, by omega, rfl, rfl⟩
    · rw [if_neg c, if_neg (fun q => c ((pj_wq hk h hl (by omega)).mpr q))]
      exact ih (k + 1) (by omega)
