def k_isL (x : Int32) : Bool := !decide (x < 97) && !decide (122 < x)
def k_isD (x : Int32) : Bool := !decide (x < 48) && !decide (57 < x)
/-- behind blanks and line ends -/
def k_skip (f : Nat → Int32) (n : Nat) : Nat → Nat → Nat
  | 0, i => i
  | w + 1, i => if f i = 32 then k_skip f n w (i + 1) else if f i = 10 then k_skip f n w (i + 1) else i
def k_gap (f : Nat → Int32) (n i : Nat) : Nat := k_skip f n (n - i) i
/-- behind a run of signs -/
def k_run (q : Int32 → Bool) (f : Nat → Int32) : Nat → Nat → Nat
  | 0, i => i
  | w + 1, i => if q (f i) = true then k_run q f w (i + 1) else i
def k_isW (x : Int32) : Bool := k_isL x || k_isD x
def k_wend (f : Nat → Int32) (n i : Nat) : Nat := k_run k_isW f (n - i) i
def k_dend (f : Nat → Int32) (n i : Nat) : Nat := k_run k_isD f (n - i) i
def k_lon (v : Int64) (c : Int32) : Int64 := v * 37 + (if k_isL c = true then c - 97 + 1 else c - 48 + 27).toInt64
/-- a word packed, a number's value, out of m signs -/
def k_pk (f : Nat → Int32) (i : Nat) : Nat → Int64
  | 0 => 0
  | m + 1 => k_lon (k_pk f i m) (f (i + m))
def k_nm (f : Nat → Int32) (i : Nat) : Nat → Int64
  | 0 => 0
  | m + 1 => k_nm f i m * 10 + (f (i + m)).toInt64 - 48
def k_kw (kw : Nat → Int64) (v : Int64) : Nat → Nat → Int32
  | 0, _ => 2
  | k + 1, i => if kw i = v then nI (256 + i) else k_kw kw v k (i + 1)
def k_SYM : List Nat := [40, 41, 91, 93, 59, 44, 43, 45, 42, 47, 60, 62, 61]
theorem k_SYMa : s_as k_SYM := by unfold s_as; exact ⟨by decide, by decide⟩
def k_sy1 (c : Int32) : Int32 := if s_ix c.toNatClampNeg k_SYM 0 < 0 then 1 else c
/-- all entries are bytes -/
def k_by (f : Nat → Int32) : Prop := ∀ i, ∃ c, c < 256 ∧ f i = nI c
/-- a token's kind, where it ends, the value behind it -/
def k_tW (f : Nat → Int32) (kw : Nat → Int64) (x e : Nat) : Int32 × Nat × Int64 := (if 10 < e - x then 1 else k_kw kw (k_pk f x (e - x)) 22 0, e, k_pk f x (e - x))
def k_tD (f : Nat → Int32) (x e : Nat) : Int32 × Nat × Int64 := (if 6 < e - x then 1 else 3, e, k_nm f x (e - x))
def k_at (f : Nat → Int32) (n i : Nat) : Int32 := if i < n then f i else 0
def k_tS (f : Nat → Int32) (n x : Nat) (v : Int64) : Int32 × Nat × Int64 := if f x = 60 then (if k_at f n (x + 1) = 61 then (188, x + 1 + 1, v) else (k_sy1 (f x), x + 1, v)) else if f x = 62 then (if k_at f n (x + 1) = 61 then (190, x + 1 + 1, v) else (k_sy1 (f x), x + 1, v)) else (k_sy1 (f x), x + 1, v)
theorem k_at61 {f : Nat → Int32} {n i : Nat} (h : k_at f n i = 61) : i < n := by
  refine Decidable.byContradiction (fun q => ?_)
  unfold k_at at h
  rw [if_neg q] at h
  exact absurd h (by decide)
def k_tok (f : Nat → Int32) (n : Nat) (kw : Nat → Int64) (x : Nat) (v : Int64) : Int32 × Nat × Int64 :=
  if n ≤ x then (0, x, v) else if k_isL (f x) = true then k_tW f kw x (k_wend f n x) else if k_isD (f x) = true then k_tD f x (k_dend f n x) else k_tS f n x v
abbrev kS : Type := (Nat × Int64) × (Nat → Int32) × (Nat → Int32) × (Nat → Int64)
def k_nxt (f : Nat → Int32) (n : Nat) (kw : Nat → Int64) (i : Nat) (s : kS) : Int32 × Nat × Int64 := if i < 400 then k_tok f n kw (k_gap f n s.1.1) s.1.2 else if k_gap f n s.1.1 < n then (1, k_gap f n s.1.1, s.1.2) else k_tok f n kw (k_gap f n s.1.1) s.1.2
def k_put (f : Nat → Int32) (n i : Nat) (s : kS) (r : Int32 × Nat × Int64) : kS := (r.2, upd s.2.1 i r.1, upd s.2.2.1 i (nI (k_gap f n s.1.1)), vp_updL s.2.2.2 i r.2.2)
def k_lp (f : Nat → Int32) (n : Nat) (kw : Nat → Int64) : Nat → Nat → Int32 → kS → kS
  | 0, _, _, s => s
  | w + 1, i, last, s => if last = 0 then s else if last = 1 then s else k_lp f n kw w (i + 1) (k_nxt f n kw i s).1 (k_put f n i s (k_nxt f n kw i s))
theorem k_skip_le {f : Nat → Int32} {n : Nat} : ∀ w i, i + w = n → i ≤ k_skip f n w i ∧ k_skip f n w i ≤ n := by
  intro w
  induction w with
  | zero => intro i h; unfold k_skip; omega
  | succ w ih =>
    intro i h
    unfold k_skip
    have := ih (i + 1) (by omega)
    split
    · omega
    · split
      · omega
      · omega
theorem k_gap_le {f : Nat → Int32} {n i : Nat} (h : i ≤ n) : i ≤ k_gap f n i ∧ k_gap f n i ≤ n := k_skip_le _ _ (by omega)
theorem k_run_le {q : Int32 → Bool} {f : Nat → Int32} : ∀ w i, i ≤ k_run q f w i ∧ k_run q f w i ≤ i + w := by
  intro w
  induction w with
  | zero => intro i; unfold k_run; omega
  | succ w ih =>
    intro i
    unfold k_run
    have := ih (i + 1)
    split <;> omega
theorem k_wend_le {f : Nat → Int32} {n i : Nat} (h : i ≤ n) : i ≤ k_wend f n i ∧ k_wend f n i ≤ n := by
  have := k_run_le (q := k_isW) (f := f) (n - i) i
  unfold k_wend
  omega
theorem k_dend_le {f : Nat → Int32} {n i : Nat} (h : i ≤ n) : i ≤ k_dend f n i ∧ k_dend f n i ≤ n := by
  have := k_run_le (q := k_isD) (f := f) (n - i) i
  unfold k_dend
  omega
theorem k_tS_le {f : Nat → Int32} {n x : Nat} {v : Int64} (h : x < n) : (k_tS f n x v).2.1 ≤ n := by
  unfold k_tS
  split
  · split
    · rename_i q
      exact k_at61 q
    · exact h
  split
  · split
    · rename_i q
      exact k_at61 q
    · exact h
  · exact h
theorem k_tok_le {f : Nat → Int32} {n : Nat} {kw : Nat → Int64} {x : Nat} {v : Int64} (h : x ≤ n) : (k_tok f n kw x v).2.1 ≤ n := by
  unfold k_tok
  split
  · exact h
  split
  · exact (k_wend_le h).2
  split
  · exact (k_dend_le h).2
  · exact k_tS_le (by omega)
theorem k_nxt_le {f : Nat → Int32} {n : Nat} {kw : Nat → Int64} {i : Nat} {s : kS} (h : s.1.1 ≤ n) : (k_nxt f n kw i s).2.1 ≤ n := by
  have h1 := k_gap_le (f := f) h
  unfold k_nxt
  split
  · exact k_tok_le h1.2
  split
  · exact h1.2
  · exact k_tok_le h1.2
/-- the cells of a Tokens: at t; its tape at tp; next, valueRead; index, kind, start, value; kinds, starts, values -/
def tkT (t tp : Nat) (kw : Nat → Int64) (s : kS) (ix kd st : Int32) (vl : Int64) : List x_E :=
  [.inr (7, [.ref tp, .ref (t + 1), .ref (t + 2), .ref (t + 3), .ref (t + 4), .int (nI s.1.1), .long s.1.2, .int ix, .int kd, .int st, .long vl]),
   .inl (1, 22, .inr (.inl kw)), .inl (0, 401, .inl s.2.1), .inl (0, 401, .inl s.2.2.1), .inl (1, 401, .inr (.inl s.2.2.2))]
theorem tk_len {t tp : Nat} {kw : Nat → Int64} {s s' : kS} {ix kd st ix' kd' st' : Int32} {vl vl' : Int64} : (tkT t tp kw s ix kd st vl).length = (tkT t tp kw s' ix' kd' st' vl').length := (show (tkT t tp kw s ix kd st vl).length = 5 from rfl).trans (show (tkT t tp kw s' ix' kd' st' vl').length = 5 from rfl).symm
theorem x_lconst0 {n : Fin 2} (h : n = 0) : Int64.ofNat (n : Nat) = 0 := by rw [h]; rfl
set_option maxHeartbeats 4000000 in
set_option maxRecDepth 100000 in
theorem c_X7_isLetter {l : Launch} {Y0 : x_Y} (hO : x_Ok Y0) {M : x_M} {x : Int32} : x_C l Y0 yX7_isLetter cX7_isLetter 1 (some .boolean) 1 0 0 [.int x] M (fun u M1 => u = some (.int (h_b (k_isL x))) ∧ M1 = M) := by
  refine x_start hO (by decide +kernel) (Nat.le_of_ble_eq_true rfl) (fun K C E => ?_)
  refine x_iload_n C dX7_isLetter_0 rfl rfl ?_
  refine x_bipush (v := 97) C dX7_isLetter_1 (by decide) ?_
  refine x_icmp_lt (tgt := 16) C dX7_isLetter_3 (by decide) (fun c3 => ?_) (fun c3 => ?_)
  · refine x_iconst (v := 0) C dX7_isLetter_16 (by decide) ?_
    refine x_zret C E dX7_isLetter_17 rfl ?_
    exact ⟨by simp [k_isL, h_b, c3], rfl⟩
  · refine x_iload_n C dX7_isLetter_6 rfl rfl ?_
    refine x_bipush (v := 122) C dX7_isLetter_7 (by decide) ?_
    refine x_icmp_gt (tgt := 16) C dX7_isLetter_9 (by decide) (fun c9 => ?_) (fun c9 => ?_)
    · refine x_iconst (v := 0) C dX7_isLetter_16 (by decide) ?_
      refine x_zret C E dX7_isLetter_17 rfl ?_
      exact ⟨by simp [k_isL, h_b, c3, c9], rfl⟩
    · refine x_iconst (v := 1) C dX7_isLetter_12 (by decide) ?_
      refine x_goto (tgt := 17) C dX7_isLetter_13 (by decide) ?_
      refine x_zret C E dX7_isLetter_17 rfl ?_
      exact ⟨by simp [k_isL, h_b, c3, c9], rfl⟩
set_option maxHeartbeats 4000000 in
set_option maxRecDepth 100000 in
theorem c_X7_isDigit {l : Launch} {Y0 : x_Y} (hO : x_Ok Y0) {M : x_M} {x : Int32} : x_C l Y0 yX7_isDigit cX7_isDigit 1 (some .boolean) 1 0 0 [.int x] M (fun u M1 => u = some (.int (h_b (k_isD x))) ∧ M1 = M) := by
  refine x_start hO (by decide +kernel) (Nat.le_of_ble_eq_true rfl) (fun K C E => ?_)
  refine x_iload_n C dX7_isDigit_0 rfl rfl ?_
  refine x_bipush (v := 48) C dX7_isDigit_1 (by decide) ?_
  refine x_icmp_lt (tgt := 16) C dX7_isDigit_3 (by decide) (fun c3 => ?_) (fun c3 => ?_)
  · refine x_iconst (v := 0) C dX7_isDigit_16 (by decide) ?_
    refine x_zret C E dX7_isDigit_17 rfl ?_
    exact ⟨by simp [k_isD, h_b, c3], rfl⟩
  · refine x_iload_n C dX7_isDigit_6 rfl rfl ?_
    refine x_bipush (v := 57) C dX7_isDigit_7 (by decide) ?_
    refine x_icmp_gt (tgt := 16) C dX7_isDigit_9 (by decide) (fun c9 => ?_) (fun c9 => ?_)
    · refine x_iconst (v := 0) C dX7_isDigit_16 (by decide) ?_
      refine x_zret C E dX7_isDigit_17 rfl ?_
      exact ⟨by simp [k_isD, h_b, c3, c9], rfl⟩
    · refine x_iconst (v := 1) C dX7_isDigit_12 (by decide) ?_
      refine x_goto (tgt := 17) C dX7_isDigit_13 (by decide) ?_
      refine x_zret C E dX7_isDigit_17 rfl ?_
      exact ⟨by simp [k_isD, h_b, c3, c9], rfl⟩
set_option maxHeartbeats 4000000 in
set_option maxRecDepth 100000 in
theorem c_X7_longer {l : Launch} {Y0 : x_Y} (hO : x_Ok Y0) {M : x_M} {v : Int64} {x : Int32} : x_C l Y0 yX7_longer cX7_longer 3 (some .long) 2 0 0 [.long v, .int x] M (fun u M1 => u = some (.long (k_lon v x)) ∧ M1 = M) := by
  refine x_start hO (by decide +kernel) (Nat.le_of_ble_eq_true rfl) (fun K C E => ?_)
  refine x_lload_n C dX7_longer_0 rfl rfl ?_
  refine x_ldc2 C dX7_longer_1 lX7_45 ?_
  refine x_lmul C dX7_longer_4 ?_
  refine x_iload_n C dX7_longer_5 rfl rfl ?_
  refine x_callS1 C dX7_longer_6 kX7_47 (c_X7_isLetter hO) (by decide) ⟨Nat.zero_le _, Nat.zero_le _⟩ (Nat.le_of_ble_eq_true rfl) ?_
  rintro _ _ ⟨rfl, rfl⟩
  refine x_if_eq (tgt := 21) C dX7_longer_9 (by decide) (fun c9 => ?_) (fun c9 => ?_)
  · have c9 := b_n c9
    refine x_iload_n C dX7_longer_21 rfl rfl ?_
    refine x_bipush (v := 48) C dX7_longer_22 (by decide) ?_
    refine x_isub C dX7_longer_24 ?_
    refine x_bipush (v := 27) C dX7_longer_25 (by decide) ?_
    refine x_iadd C dX7_longer_27 ?_
    refine x_i2l C dX7_longer_28 ?_
    refine x_ladd C dX7_longer_29 ?_
    refine x_lret C E dX7_longer_30 ?_
    exact ⟨by unfold k_lon; rw [if_neg c9], rfl⟩
  · have c9 := b_y c9
    refine x_iload_n C dX7_longer_12 rfl rfl ?_
    refine x_bipush (v := 97) C dX7_longer_13 (by decide) ?_
    refine x_isub C dX7_longer_15 ?_
    refine x_iconst (v := 1) C dX7_longer_16 (by decide) ?_
    refine x_iadd C dX7_longer_17 ?_
    refine x_goto (tgt := 28) C dX7_longer_18 (by decide) ?_
    refine x_i2l C dX7_longer_28 ?_
    refine x_ladd C dX7_longer_29 ?_
    refine x_lret C E dX7_longer_30 ?_
    exact ⟨by unfold k_lon; rw [if_pos c9], rfl⟩
set_option maxHeartbeats 4000000 in
set_option maxRecDepth 100000 in
theorem c_X7_skipGaps {l : Launch} {Y0 : x_Y} (hO : x_Ok Y0) {M : x_M} {t tp n : Nat} {f : Nat → Int32} {kw : Nat → Int64} {s : kS} {ix kd st : Int32} {vl : Int64} (hn : n ≤ 2000) (hp : x_bk M tp (tpT tp (nI n) f)) (hd : tp + 3 ≤ t ∨ t + 5 ≤ tp) (hb : x_bk M t (tkT t tp kw s ix kd st vl)) (hs : s.1.1 ≤ n) : x_C l Y0 yX7_skipGaps cX7_skipGaps 1 none 3 0 0 [.ref t] M (fun u M1 => u = none ∧ M1 = x_ov M t (tkT t tp kw ((k_gap f n s.1.1, s.1.2), s.2) ix kd st vl)) := by
  refine x_start hO (by decide +kernel) (Nat.le_of_ble_eq_true rfl) (fun K C E => ?_)
  have hpF : ∀ L : List x_E, L.length = 5 → x_bk (x_ov M t L) tp (tpT tp (nI n) f) := fun L h => x_ov_far 5 hp h hd
  refine x_to (x_ov_self hb).symm ?_
  have lp : ∀ (w x : Nat), x + w = n → k_gap f n s.1.1 = k_skip f n w x → x_X K 1 0 0 0 [(0, .ref t)] [] (x_ov M t (tkT t tp kw ((x, s.1.2), s.2) ix kd st vl)) := by
    intro w
    induction w with
    | zero =>
      intro x hw hq
      have e : x = n := by omega
      subst e
      refine x_aload_n C dX7_skipGaps_0 rfl rfl ?_
      refine x_getfield C dX7_skipGaps_1 fX7_51 (x_ovg 0 rfl) rfl ?_
      refine x_aload_n C dX7_skipGaps_4 rfl rfl ?_
      refine x_getfield C dX7_skipGaps_5 fX7_25 (x_ovg 0 rfl) rfl ?_
      refine x_getfield C dX7_skipGaps_8 fX7_64 ((hpF _ rfl) 0 _ rfl) rfl ?_
      refine x_icmp_ge (tgt := 59) C dX7_skipGaps_11 (by decide) (fun c11 => ?_) (fun c11 => absurd (nI_le (Nat.le_refl _) (by omega)) c11)
      refine x_vret C E dX7_skipGaps_59 ?_
      exact ⟨rfl, by rw [hq]; first | rfl | (simp only [k_skip]; done) | fail⟩
    | succ w ih =>
      intro x hw hq
      have hx : x < n := by omega
      refine x_aload_n C dX7_skipGaps_0 rfl rfl ?_
      refine x_getfield C dX7_skipGaps_1 fX7_51 (x_ovg 0 rfl) rfl ?_
      refine x_aload_n C dX7_skipGaps_4 rfl rfl ?_
      refine x_getfield C dX7_skipGaps_5 fX7_25 (x_ovg 0 rfl) rfl ?_
      refine x_getfield C dX7_skipGaps_8 fX7_64 ((hpF _ rfl) 0 _ rfl) rfl ?_
      refine x_icmp_ge (tgt := 59) C dX7_skipGaps_11 (by decide) (fun c11 => absurd c11 (nI_ge hx (by omega))) (fun c11 => ?_)
      refine x_aload_n C dX7_skipGaps_14 rfl rfl ?_
      refine x_getfield C dX7_skipGaps_15 fX7_25 (x_ovg 0 rfl) rfl ?_
      refine x_aload_n C dX7_skipGaps_18 rfl rfl ?_
      refine x_getfield C dX7_skipGaps_19 fX7_51 (x_ovg 0 rfl) rfl ?_
      refine x_callV1 C dX7_skipGaps_22 kX7_90 (c_X5_at (i := x) hO (hpF _ rfl) hn (by omega)) ((hpF _ rfl) 0 _ rfl) rfl (by decide) ⟨Nat.zero_le _, Nat.zero_le _⟩ (Nat.le_of_ble_eq_true rfl) ?_
      rintro _ _ ⟨rfl, rfl⟩
      rw [if_pos hx]
      refine x_bipush (v := 32) C dX7_skipGaps_25 (by decide) ?_
      refine x_icmp_eq (tgt := 46) C dX7_skipGaps_27 (by decide) (fun c27 => ?_) (fun c27 => ?_)
      · refine x_aload_n C dX7_skipGaps_46 rfl rfl ?_
        refine x_dup C dX7_skipGaps_47 rfl ?_
        refine x_getfield C dX7_skipGaps_48 fX7_51 (x_ovg 0 rfl) rfl ?_
        refine x_iconst (v := 1) C dX7_skipGaps_51 (by decide) ?_
        refine x_iadd C dX7_skipGaps_52 ?_
        rw [nI_1 x]
        refine x_putfield C dX7_skipGaps_53 fX7_51 (x_ovg 0 rfl) rfl rfl (Nat.le_of_ble_eq_true rfl) ?_
        refine x_to (x_st_ov 0 (Nat.le_of_ble_eq_true rfl)) ?_
        refine x_to (show _ = x_ov M t (tkT t tp kw ((x + 1, s.1.2), s.2) ix kd st vl) from rfl) ?_
        refine x_goto (tgt := 0) C dX7_skipGaps_56 (by decide) ?_
        exact ih (x + 1) (by omega) (by rw [hq]; simp only [k_skip, if_pos c27])
      · refine x_aload_n C dX7_skipGaps_30 rfl rfl ?_
        refine x_getfield C dX7_skipGaps_31 fX7_25 (x_ovg 0 rfl) rfl ?_
        refine x_aload_n C dX7_skipGaps_34 rfl rfl ?_
        refine x_getfield C dX7_skipGaps_35 fX7_51 (x_ovg 0 rfl) rfl ?_
        refine x_callV1 C dX7_skipGaps_38 kX7_90 (c_X5_at (i := x) hO (hpF _ rfl) hn (by omega)) ((hpF _ rfl) 0 _ rfl) rfl (by decide) ⟨Nat.zero_le _, Nat.zero_le _⟩ (Nat.le_of_ble_eq_true rfl) ?_
        rintro _ _ ⟨rfl, rfl⟩
        rw [if_pos hx]
        refine x_bipush (v := 10) C dX7_skipGaps_41 (by decide) ?_
        refine x_icmp_ne (tgt := 59) C dX7_skipGaps_43 (by decide) (fun c43 => ?_) (fun c43 => ?_)
        · refine x_vret C E dX7_skipGaps_59 ?_
          exact ⟨rfl, by rw [hq]; first | rfl | (simp only [k_skip, if_neg c27, if_neg c43]; done) | fail⟩
        · refine x_aload_n C dX7_skipGaps_46 rfl rfl ?_
          refine x_dup C dX7_skipGaps_47 rfl ?_
          refine x_getfield C dX7_skipGaps_48 fX7_51 (x_ovg 0 rfl) rfl ?_
          refine x_iconst (v := 1) C dX7_skipGaps_51 (by decide) ?_
          refine x_iadd C dX7_skipGaps_52 ?_
          rw [nI_1 x]
          refine x_putfield C dX7_skipGaps_53 fX7_51 (x_ovg 0 rfl) rfl rfl (Nat.le_of_ble_eq_true rfl) ?_
          refine x_to (x_st_ov 0 (Nat.le_of_ble_eq_true rfl)) ?_
          refine x_to (show _ = x_ov M t (tkT t tp kw ((x + 1, s.1.2), s.2) ix kd st vl) from rfl) ?_
          refine x_goto (tgt := 0) C dX7_skipGaps_56 (by decide) ?_
          exact ih (x + 1) (by omega) (by rw [hq]; simp only [k_skip, if_neg c27, if_pos c43])
  exact lp (n - s.1.1) s.1.1 (by omega) rfl
set_option maxHeartbeats 4000000 in
set_option maxRecDepth 100000 in
theorem c_X7_kindOfWord {l : Launch} {Y0 : x_Y} (hO : x_Ok Y0) {M : x_M} {t tp n : Nat} {f : Nat → Int32} {kw : Nat → Int64} {s : kS} {ix kd st : Int32} {vl : Int64} (hn : n ≤ 2000) (hp : x_bk M tp (tpT tp (nI n) f)) (hd : tp + 3 ≤ t ∨ t + 5 ≤ tp) (hb : x_bk M t (tkT t tp kw s ix kd st vl)) : x_C l Y0 yX7_kindOfWord cX7_kindOfWord 2 (some .int) 1 0 0 [.ref t] M (fun u M1 => u = some (.int (k_kw kw s.1.2 22 0)) ∧ M1 = M) := by
  refine x_start hO (by decide +kernel) (Nat.le_of_ble_eq_true rfl) (fun K C E => ?_)
  have lp : ∀ (w i : Nat) (z : Int32), i + w = 22 → z = nI i → k_kw kw s.1.2 22 0 = k_kw kw s.1.2 w i → x_X K 2 0 0 2 [(0, .ref t), (1, .int z)] [] M := by
    intro w
    induction w with
    | zero =>
      intro i z hi hz hq
      subst hz
      have e : i = 22 := by omega
      subst e
      refine x_iload_n C dX7_kindOfWord_2 rfl rfl ?_
      refine x_aload_n C dX7_kindOfWord_3 rfl rfl ?_
      refine x_getfield C dX7_kindOfWord_4 fX7_9 (hb 0 _ rfl) rfl ?_
      refine x_alen C dX7_kindOfWord_7 (hb 1 _ rfl) (by decide) ?_
      refine x_icmp_ge (tgt := 37) C dX7_kindOfWord_8 (by decide) (fun c8 => ?_) (fun c8 => absurd (show nI 22 ≤ nI 22 by decide) c8)
      refine x_iconst (v := 2) C dX7_kindOfWord_37 (by decide) ?_
      refine x_iret C E dX7_kindOfWord_38 ?_
      exact ⟨by rw [hq]; rfl, rfl⟩
    | succ w ih =>
      intro i z hi hz hq
      subst hz
      refine x_iload_n C dX7_kindOfWord_2 rfl rfl ?_
      refine x_aload_n C dX7_kindOfWord_3 rfl rfl ?_
      refine x_getfield C dX7_kindOfWord_4 fX7_9 (hb 0 _ rfl) rfl ?_
      refine x_alen C dX7_kindOfWord_7 (hb 1 _ rfl) (by decide) ?_
      refine x_icmp_ge (tgt := 37) C dX7_kindOfWord_8 (by decide) (fun c8 => absurd c8 (show ¬ nI 22 ≤ nI i from nI_ge (by omega) (by decide))) (fun c8 => ?_)
      refine x_aload_n C dX7_kindOfWord_11 rfl rfl ?_
      refine x_getfield C dX7_kindOfWord_12 fX7_9 (hb 0 _ rfl) rfl ?_
      refine x_iload_n C dX7_kindOfWord_15 rfl rfl ?_
      refine x_laload C dX7_kindOfWord_16 (hb 1 _ rfl) (nI_in (show i < 22 by omega) (by omega)) ?_
      rw [nI_clamp (show i < 2 ^ 31 by omega)]
      refine x_aload_n C dX7_kindOfWord_17 rfl rfl ?_
      refine x_getfield C dX7_kindOfWord_18 fX7_71 (hb 0 _ rfl) rfl ?_
      refine x_lcmp C dX7_kindOfWord_21 ?_
      refine x_if_ne (tgt := 31) C dX7_kindOfWord_22 (by decide) (fun c22 => ?_) (fun c22 => ?_)
      · have c22 : ¬ kw i = s.1.2 := fun q => c22 ((lg_cmp_eq _ _).mpr q)
        refine x_iinc (v := 1) C dX7_kindOfWord_31 rfl (by decide) rfl (by decide) ?_
        refine x_goto (tgt := 2) C dX7_kindOfWord_34 (by decide) ?_
        exact ih (i + 1) _ (by omega) (nI_1 i) (by rw [hq, k_kw, if_neg c22])
      · have c22 : kw i = s.1.2 := (lg_cmp_eq _ _).mp c22
        refine x_sipush (v := 256) C dX7_kindOfWord_25 (by decide) ?_
        refine x_iload_n C dX7_kindOfWord_28 rfl rfl ?_
        refine x_iadd C dX7_kindOfWord_29 ?_
        refine x_topi (nI (256 + i)) (nI_add 256 i) ?_
        refine x_iret C E dX7_kindOfWord_30 ?_
        exact ⟨by rw [hq, k_kw, if_pos c22], rfl⟩
  refine x_iconst (v := 0) C dX7_kindOfWord_0 (by decide) ?_
  refine x_istore_n C dX7_kindOfWord_1 rfl rfl (by decide) ?_
  exact lp 22 0 0 (by omega) rfl rfl
theorem t_sub {a b : Int32} : a + b - a = b := by
  rw [Int32.sub_eq_add_neg, Int32.add_comm a b, Int32.add_assoc, Int32.add_right_neg, Int32.add_zero]
set_option maxHeartbeats 4000000 in
set_option maxRecDepth 100000 in
theorem c_X7_readWord {l : Launch} {Y0 : x_Y} (hO : x_Ok Y0) {M : x_M} {t tp n : Nat} {f : Nat → Int32} {kw : Nat → Int64} {s : kS} {ix kd st : Int32} {vl : Int64} (hn : n ≤ 2000) (hp : x_bk M tp (tpT tp (nI n) f)) (hd : tp + 3 ≤ t ∨ t + 5 ≤ tp) (hb : x_bk M t (tkT t tp kw s ix kd st vl)) (hs : s.1.1 ≤ n) : x_C l Y0 yX7_readWord cX7_readWord 2 (some .int) 3 0 0 [.ref t] M (fun u M1 => u = some (.int (k_tW f kw s.1.1 (k_wend f n s.1.1)).1) ∧ M1 = x_ov M t (tkT t tp kw ((k_tW f kw s.1.1 (k_wend f n s.1.1)).2, s.2) ix kd st vl)) := by
  refine x_start hO (by decide +kernel) (Nat.le_of_ble_eq_true rfl) (fun K C E => ?_)
  have hpF : ∀ L : List x_E, L.length = 5 → x_bk (x_ov M t L) tp (tpT tp (nI n) f) := fun L h => x_ov_far 5 hp h hd
  refine x_to (x_ov_self hb).symm ?_
  have lp : ∀ (w m : Nat), s.1.1 + m + w = n → k_wend f n s.1.1 = k_run k_isW f w (s.1.1 + m) → x_X K 2 0 0 10 [(0, .ref t), (1, .int (nI s.1.1))] [] (x_ov M t (tkT t tp kw ((s.1.1 + m, k_pk f s.1.1 m), s.2) ix kd st vl)) := by
    intro w
    induction w with
    | zero =>
      intro m hw hq
      have e : s.1.1 + m = n := by omega
      refine x_aload_n C dX7_readWord_10 rfl rfl ?_
      refine x_getfield C dX7_readWord_11 fX7_51 (x_ovg 0 rfl) rfl ?_
      refine x_aload_n C dX7_readWord_14 rfl rfl ?_
      refine x_getfield C dX7_readWord_15 fX7_25 (x_ovg 0 rfl) rfl ?_
      refine x_getfield C dX7_readWord_18 fX7_64 ((hpF _ rfl) 0 _ rfl) rfl ?_
      refine x_icmp_ge (tgt := 93) C dX7_readWord_21 (by decide) (fun c21 => ?_) (fun c21 => absurd (show nI n ≤ nI (s.1.1 + m) from nI_le (by omega) (by omega)) c21)
      refine x_aload_n C dX7_readWord_93 rfl rfl ?_
      refine x_getfield C dX7_readWord_94 fX7_51 (x_ovg 0 rfl) rfl ?_
      refine x_iload_n C dX7_readWord_97 rfl rfl ?_
      refine x_isub C dX7_readWord_98 ?_
      rw [show nI (s.1.1 + m) - nI s.1.1 = nI m by rw [← nI_add]; exact t_sub]
      refine x_bipush (v := 10) C dX7_readWord_99 (by decide) ?_
      refine x_icmp_le (tgt := 108) C dX7_readWord_101 (by decide) (fun c101 => ?_) (fun c101 => ?_)
      · refine x_aload_n C dX7_readWord_108 rfl rfl ?_
        refine x_callV0 C dX7_readWord_109 kX7_106 (c_X7_kindOfWord hO hn (hpF _ rfl) hd x_ov_bk) (x_ovg 0 rfl) rfl (by decide) ⟨Nat.zero_le _, Nat.zero_le _⟩ (Nat.le_of_ble_eq_true rfl) ?_
        rintro _ _ ⟨rfl, rfl⟩
        refine x_iret C E dX7_readWord_112 ?_
        have he : k_wend f n s.1.1 = s.1.1 + m := by rw [hq]; first | rfl | (simp only [k_run, k_isW]; rfl) | (simp [k_run, k_isW]; done) | fail
        have hm : s.1.1 + m - s.1.1 = m := by omega
        have c9 : ¬ 10 < m := fun q => absurd c101 (show ¬ nI m ≤ nI 10 from nI_ge q (by omega))
        unfold k_tW
        rw [he, hm, if_neg c9]
        exact ⟨rfl, rfl⟩
      · refine x_iconst (v := 1) C dX7_readWord_104 (by decide) ?_
        refine x_goto (tgt := 112) C dX7_readWord_105 (by decide) ?_
        refine x_iret C E dX7_readWord_112 ?_
        have he : k_wend f n s.1.1 = s.1.1 + m := by rw [hq]; first | rfl | (simp only [k_run, k_isW]; rfl) | (simp [k_run, k_isW]; done) | fail
        have hm : s.1.1 + m - s.1.1 = m := by omega
        have c9 : 10 < m := Nat.lt_of_not_le (fun q => c101 (show nI m ≤ nI 10 from nI_le q (by omega)))
        unfold k_tW
        rw [he, hm, if_pos c9]
        exact ⟨rfl, rfl⟩
    | succ w ih =>
      intro m hw hq
      have hx : s.1.1 + m < n := by omega
      refine x_aload_n C dX7_readWord_10 rfl rfl ?_
      refine x_getfield C dX7_readWord_11 fX7_51 (x_ovg 0 rfl) rfl ?_
      refine x_aload_n C dX7_readWord_14 rfl rfl ?_
      refine x_getfield C dX7_readWord_15 fX7_25 (x_ovg 0 rfl) rfl ?_
      refine x_getfield C dX7_readWord_18 fX7_64 ((hpF _ rfl) 0 _ rfl) rfl ?_
      refine x_icmp_ge (tgt := 93) C dX7_readWord_21 (by decide) (fun c21 => absurd c21 (nI_ge hx (by omega))) (fun c21 => ?_)
      refine x_aload_n C dX7_readWord_24 rfl rfl ?_
      refine x_getfield C dX7_readWord_25 fX7_25 (x_ovg 0 rfl) rfl ?_
      refine x_aload_n C dX7_readWord_28 rfl rfl ?_
      refine x_getfield C dX7_readWord_29 fX7_51 (x_ovg 0 rfl) rfl ?_
      refine x_callV1 C dX7_readWord_32 kX7_90 (c_X5_at (i := s.1.1 + m) hO (hpF _ rfl) hn (by omega)) ((hpF _ rfl) 0 _ rfl) rfl (by decide) ⟨Nat.zero_le _, Nat.zero_le _⟩ (Nat.le_of_ble_eq_true rfl) ?_
      rintro _ _ ⟨rfl, rfl⟩
      rw [if_pos hx]
      refine x_callS1 C dX7_readWord_35 kX7_47 (c_X7_isLetter hO) (by decide) ⟨Nat.zero_le _, Nat.zero_le _⟩ (Nat.le_of_ble_eq_true rfl) ?_
      rintro _ _ ⟨rfl, rfl⟩
      refine x_if_ne (tgt := 58) C dX7_readWord_38 (by decide) (fun c38 => ?_) (fun c38 => ?_)
      · have c38 := b_y c38
        have h38 : k_isL (f (s.1.1 + m)) = true := c38
        refine x_aload_n C dX7_readWord_58 rfl rfl ?_
        refine x_aload_n C dX7_readWord_59 rfl rfl ?_
        refine x_getfield C dX7_readWord_60 fX7_71 (x_ovg 0 rfl) rfl ?_
        refine x_aload_n C dX7_readWord_63 rfl rfl ?_
        refine x_getfield C dX7_readWord_64 fX7_25 (x_ovg 0 rfl) rfl ?_
        refine x_aload_n C dX7_readWord_67 rfl rfl ?_
        refine x_getfield C dX7_readWord_68 fX7_51 (x_ovg 0 rfl) rfl ?_
        refine x_callV1 C dX7_readWord_71 kX7_90 (c_X5_at (i := s.1.1 + m) hO (hpF _ rfl) hn (by omega)) ((hpF _ rfl) 0 _ rfl) rfl (by decide) ⟨Nat.zero_le _, Nat.zero_le _⟩ (Nat.le_of_ble_eq_true rfl) ?_
        rintro _ _ ⟨rfl, rfl⟩
        rw [if_pos hx]
        refine x_callS2 C dX7_readWord_74 kX7_41 (c_X7_longer hO) (by decide) ⟨Nat.zero_le _, Nat.zero_le _⟩ (Nat.le_of_ble_eq_true rfl) ?_
        rintro _ _ ⟨rfl, rfl⟩
        refine x_putfield C dX7_readWord_77 fX7_71 (x_ovg 0 rfl) rfl rfl (Nat.le_of_ble_eq_true rfl) ?_
        refine x_to (x_st_ov 0 (Nat.le_of_ble_eq_true rfl)) ?_
        refine x_to (show _ = x_ov M t (tkT t tp kw ((s.1.1 + m, k_pk f s.1.1 (m + 1)), s.2) ix kd st vl) from rfl) ?_
        refine x_aload_n C dX7_readWord_80 rfl rfl ?_
        refine x_dup C dX7_readWord_81 rfl ?_
        refine x_getfield C dX7_readWord_82 fX7_51 (x_ovg 0 rfl) rfl ?_
        refine x_iconst (v := 1) C dX7_readWord_85 (by decide) ?_
        refine x_iadd C dX7_readWord_86 ?_
        rw [nI_1 (s.1.1 + m)]
        refine x_putfield C dX7_readWord_87 fX7_51 (x_ovg 0 rfl) rfl rfl (Nat.le_of_ble_eq_true rfl) ?_
        refine x_to (x_st_ov 0 (Nat.le_of_ble_eq_true rfl)) ?_
        refine x_to (show _ = x_ov M t (tkT t tp kw ((s.1.1 + (m + 1), k_pk f s.1.1 (m + 1)), s.2) ix kd st vl) from rfl) ?_
        refine x_goto (tgt := 10) C dX7_readWord_90 (by decide) ?_
        exact ih (m + 1) (by omega) (by rw [hq]; simp only [k_run, k_isW, h38]; rfl)
      · have c38 := b_n c38
        have h38 : k_isL (f (s.1.1 + m)) = false := Eq.mp (Bool.not_eq_true _) c38
        refine x_aload_n C dX7_readWord_41 rfl rfl ?_
        refine x_getfield C dX7_readWord_42 fX7_25 (x_ovg 0 rfl) rfl ?_
        refine x_aload_n C dX7_readWord_45 rfl rfl ?_
        refine x_getfield C dX7_readWord_46 fX7_51 (x_ovg 0 rfl) rfl ?_
        refine x_callV1 C dX7_readWord_49 kX7_90 (c_X5_at (i := s.1.1 + m) hO (hpF _ rfl) hn (by omega)) ((hpF _ rfl) 0 _ rfl) rfl (by decide) ⟨Nat.zero_le _, Nat.zero_le _⟩ (Nat.le_of_ble_eq_true rfl) ?_
        rintro _ _ ⟨rfl, rfl⟩
        rw [if_pos hx]
        refine x_callS1 C dX7_readWord_52 kX7_97 (c_X7_isDigit hO) (by decide) ⟨Nat.zero_le _, Nat.zero_le _⟩ (Nat.le_of_ble_eq_true rfl) ?_
        rintro _ _ ⟨rfl, rfl⟩
        refine x_if_eq (tgt := 93) C dX7_readWord_55 (by decide) (fun c55 => ?_) (fun c55 => ?_)
        · have c55 := b_n c55
          have h55 : k_isD (f (s.1.1 + m)) = false := Eq.mp (Bool.not_eq_true _) c55
          refine x_aload_n C dX7_readWord_93 rfl rfl ?_
          refine x_getfield C dX7_readWord_94 fX7_51 (x_ovg 0 rfl) rfl ?_
          refine x_iload_n C dX7_readWord_97 rfl rfl ?_
          refine x_isub C dX7_readWord_98 ?_
          rw [show nI (s.1.1 + m) - nI s.1.1 = nI m by rw [← nI_add]; exact t_sub]
          refine x_bipush (v := 10) C dX7_readWord_99 (by decide) ?_
          refine x_icmp_le (tgt := 108) C dX7_readWord_101 (by decide) (fun c101 => ?_) (fun c101 => ?_)
          · refine x_aload_n C dX7_readWord_108 rfl rfl ?_
            refine x_callV0 C dX7_readWord_109 kX7_106 (c_X7_kindOfWord hO hn (hpF _ rfl) hd x_ov_bk) (x_ovg 0 rfl) rfl (by decide) ⟨Nat.zero_le _, Nat.zero_le _⟩ (Nat.le_of_ble_eq_true rfl) ?_
            rintro _ _ ⟨rfl, rfl⟩
            refine x_iret C E dX7_readWord_112 ?_
            have he : k_wend f n s.1.1 = s.1.1 + m := by rw [hq]; first | rfl | (simp only [k_run, k_isW, h38, h55]; rfl) | (simp [k_run, k_isW, h38, h55]; done) | fail
            have hm : s.1.1 + m - s.1.1 = m := by omega
            have c9 : ¬ 10 < m := fun q => absurd c101 (show ¬ nI m ≤ nI 10 from nI_ge q (by omega))
            unfold k_tW
            rw [he, hm, if_neg c9]
            exact ⟨rfl, rfl⟩
          · refine x_iconst (v := 1) C dX7_readWord_104 (by decide) ?_
            refine x_goto (tgt := 112) C dX7_readWord_105 (by decide) ?_
            refine x_iret C E dX7_readWord_112 ?_
            have he : k_wend f n s.1.1 = s.1.1 + m := by rw [hq]; first | rfl | (simp only [k_run, k_isW, h38, h55]; rfl) | (simp [k_run, k_isW, h38, h55]; done) | fail
            have hm : s.1.1 + m - s.1.1 = m := by omega
            have c9 : 10 < m := Nat.lt_of_not_le (fun q => c101 (show nI m ≤ nI 10 from nI_le q (by omega)))
            unfold k_tW
            rw [he, hm, if_pos c9]
            exact ⟨rfl, rfl⟩
        · have c55 := b_y c55
          have h55 : k_isD (f (s.1.1 + m)) = true := c55
          refine x_aload_n C dX7_readWord_58 rfl rfl ?_
          refine x_aload_n C dX7_readWord_59 rfl rfl ?_
          refine x_getfield C dX7_readWord_60 fX7_71 (x_ovg 0 rfl) rfl ?_
          refine x_aload_n C dX7_readWord_63 rfl rfl ?_
          refine x_getfield C dX7_readWord_64 fX7_25 (x_ovg 0 rfl) rfl ?_
          refine x_aload_n C dX7_readWord_67 rfl rfl ?_
          refine x_getfield C dX7_readWord_68 fX7_51 (x_ovg 0 rfl) rfl ?_
          refine x_callV1 C dX7_readWord_71 kX7_90 (c_X5_at (i := s.1.1 + m) hO (hpF _ rfl) hn (by omega)) ((hpF _ rfl) 0 _ rfl) rfl (by decide) ⟨Nat.zero_le _, Nat.zero_le _⟩ (Nat.le_of_ble_eq_true rfl) ?_
          rintro _ _ ⟨rfl, rfl⟩
          rw [if_pos hx]
          refine x_callS2 C dX7_readWord_74 kX7_41 (c_X7_longer hO) (by decide) ⟨Nat.zero_le _, Nat.zero_le _⟩ (Nat.le_of_ble_eq_true rfl) ?_
          rintro _ _ ⟨rfl, rfl⟩
          refine x_putfield C dX7_readWord_77 fX7_71 (x_ovg 0 rfl) rfl rfl (Nat.le_of_ble_eq_true rfl) ?_
          refine x_to (x_st_ov 0 (Nat.le_of_ble_eq_true rfl)) ?_
          refine x_to (show _ = x_ov M t (tkT t tp kw ((s.1.1 + m, k_pk f s.1.1 (m + 1)), s.2) ix kd st vl) from rfl) ?_
          refine x_aload_n C dX7_readWord_80 rfl rfl ?_
          refine x_dup C dX7_readWord_81 rfl ?_
          refine x_getfield C dX7_readWord_82 fX7_51 (x_ovg 0 rfl) rfl ?_
          refine x_iconst (v := 1) C dX7_readWord_85 (by decide) ?_
          refine x_iadd C dX7_readWord_86 ?_
          rw [nI_1 (s.1.1 + m)]
          refine x_putfield C dX7_readWord_87 fX7_51 (x_ovg 0 rfl) rfl rfl (Nat.le_of_ble_eq_true rfl) ?_
          refine x_to (x_st_ov 0 (Nat.le_of_ble_eq_true rfl)) ?_
          refine x_to (show _ = x_ov M t (tkT t tp kw ((s.1.1 + (m + 1), k_pk f s.1.1 (m + 1)), s.2) ix kd st vl) from rfl) ?_
          refine x_goto (tgt := 10) C dX7_readWord_90 (by decide) ?_
          exact ih (m + 1) (by omega) (by rw [hq]; simp only [k_run, k_isW, h38, h55]; rfl)
  refine x_aload_n C dX7_readWord_0 rfl rfl ?_
  refine x_getfield C dX7_readWord_1 fX7_51 (x_ovg 0 rfl) rfl ?_
  refine x_istore_n C dX7_readWord_4 rfl rfl (by decide) ?_
  refine x_aload_n C dX7_readWord_5 rfl rfl ?_
  refine x_lconst (v := 0) C dX7_readWord_6 (by decide) ?_
  refine x_putfield C dX7_readWord_7 fX7_71 (x_ovg 0 rfl) rfl rfl (Nat.le_of_ble_eq_true rfl) ?_
  refine x_to (x_st_ov 0 (Nat.le_of_ble_eq_true rfl)) ?_
  refine x_to (show _ = x_ov M t (tkT t tp kw ((s.1.1 + 0, k_pk f s.1.1 0), s.2) ix kd st vl) from rfl) ?_
  exact lp (n - s.1.1) 0 (by omega) rfl
set_option maxHeartbeats 4000000 in
set_option maxRecDepth 100000 in
theorem c_X7_readNumber {l : Launch} {Y0 : x_Y} (hO : x_Ok Y0) {M : x_M} {t tp n : Nat} {f : Nat → Int32} {kw : Nat → Int64} {s : kS} {ix kd st : Int32} {vl : Int64} (hn : n ≤ 2000) (hp : x_bk M tp (tpT tp (nI n) f)) (hd : tp + 3 ≤ t ∨ t + 5 ≤ tp) (hb : x_bk M t (tkT t tp kw s ix kd st vl)) (hs : s.1.1 ≤ n) : x_C l Y0 yX7_readNumber cX7_readNumber 2 (some .int) 3 0 0 [.ref t] M (fun u M1 => u = some (.int (k_tD f s.1.1 (k_dend f n s.1.1)).1) ∧ M1 = x_ov M t (tkT t tp kw ((k_tD f s.1.1 (k_dend f n s.1.1)).2, s.2) ix kd st vl)) := by
  refine x_start hO (by decide +kernel) (Nat.le_of_ble_eq_true rfl) (fun K C E => ?_)
  have hpF : ∀ L : List x_E, L.length = 5 → x_bk (x_ov M t L) tp (tpT tp (nI n) f) := fun L h => x_ov_far 5 hp h hd
  refine x_to (x_ov_self hb).symm ?_
  have lp : ∀ (w m : Nat), s.1.1 + m + w = n → k_dend f n s.1.1 = k_run k_isD f w (s.1.1 + m) → x_X K 2 0 0 10 [(0, .ref t), (1, .int (nI s.1.1))] [] (x_ov M t (tkT t tp kw ((s.1.1 + m, k_nm f s.1.1 m), s.2) ix kd st vl)) := by
    intro w
    induction w with
    | zero =>
      intro m hw hq
      have e : s.1.1 + m = n := by omega
      refine x_aload_n C dX7_readNumber_10 rfl rfl ?_
      refine x_getfield C dX7_readNumber_11 fX7_51 (x_ovg 0 rfl) rfl ?_
      refine x_aload_n C dX7_readNumber_14 rfl rfl ?_
      refine x_getfield C dX7_readNumber_15 fX7_25 (x_ovg 0 rfl) rfl ?_
      refine x_getfield C dX7_readNumber_18 fX7_64 ((hpF _ rfl) 0 _ rfl) rfl ?_
      refine x_icmp_ge (tgt := 83) C dX7_readNumber_21 (by decide) (fun c21 => ?_) (fun c21 => absurd (show nI n ≤ nI (s.1.1 + m) from nI_le (by omega) (by omega)) c21)
      refine x_aload_n C dX7_readNumber_83 rfl rfl ?_
      refine x_getfield C dX7_readNumber_84 fX7_51 (x_ovg 0 rfl) rfl ?_
      refine x_iload_n C dX7_readNumber_87 rfl rfl ?_
      refine x_isub C dX7_readNumber_88 ?_
      rw [show nI (s.1.1 + m) - nI s.1.1 = nI m by rw [← nI_add]; exact t_sub]
      refine x_bipush (v := 6) C dX7_readNumber_89 (by decide) ?_
      refine x_icmp_le (tgt := 98) C dX7_readNumber_91 (by decide) (fun c91 => ?_) (fun c91 => ?_)
      · refine x_iconst (v := 3) C dX7_readNumber_98 (by decide) ?_
        refine x_iret C E dX7_readNumber_99 ?_
        have he : k_dend f n s.1.1 = s.1.1 + m := by rw [hq]; first | rfl | (simp only [k_run, k_isW]; rfl) | (simp [k_run, k_isW]; done) | fail
        have hm : s.1.1 + m - s.1.1 = m := by omega
        have c9 : ¬ 6 < m := fun q => absurd c91 (show ¬ nI m ≤ nI 6 from nI_ge q (by omega))
        unfold k_tD
        rw [he, hm, if_neg c9]
        exact ⟨rfl, rfl⟩
      · refine x_iconst (v := 1) C dX7_readNumber_94 (by decide) ?_
        refine x_goto (tgt := 99) C dX7_readNumber_95 (by decide) ?_
        refine x_iret C E dX7_readNumber_99 ?_
        have he : k_dend f n s.1.1 = s.1.1 + m := by rw [hq]; first | rfl | (simp only [k_run, k_isW]; rfl) | (simp [k_run, k_isW]; done) | fail
        have hm : s.1.1 + m - s.1.1 = m := by omega
        have c9 : 6 < m := Nat.lt_of_not_le (fun q => c91 (show nI m ≤ nI 6 from nI_le q (by omega)))
        unfold k_tD
        rw [he, hm, if_pos c9]
        exact ⟨rfl, rfl⟩
    | succ w ih =>
      intro m hw hq
      have hx : s.1.1 + m < n := by omega
      refine x_aload_n C dX7_readNumber_10 rfl rfl ?_
      refine x_getfield C dX7_readNumber_11 fX7_51 (x_ovg 0 rfl) rfl ?_
      refine x_aload_n C dX7_readNumber_14 rfl rfl ?_
      refine x_getfield C dX7_readNumber_15 fX7_25 (x_ovg 0 rfl) rfl ?_
      refine x_getfield C dX7_readNumber_18 fX7_64 ((hpF _ rfl) 0 _ rfl) rfl ?_
      refine x_icmp_ge (tgt := 83) C dX7_readNumber_21 (by decide) (fun c21 => absurd c21 (nI_ge hx (by omega))) (fun c21 => ?_)
      refine x_aload_n C dX7_readNumber_24 rfl rfl ?_
      refine x_getfield C dX7_readNumber_25 fX7_25 (x_ovg 0 rfl) rfl ?_
      refine x_aload_n C dX7_readNumber_28 rfl rfl ?_
      refine x_getfield C dX7_readNumber_29 fX7_51 (x_ovg 0 rfl) rfl ?_
      refine x_callV1 C dX7_readNumber_32 kX7_90 (c_X5_at (i := s.1.1 + m) hO (hpF _ rfl) hn (by omega)) ((hpF _ rfl) 0 _ rfl) rfl (by decide) ⟨Nat.zero_le _, Nat.zero_le _⟩ (Nat.le_of_ble_eq_true rfl) ?_
      rintro _ _ ⟨rfl, rfl⟩
      rw [if_pos hx]
      refine x_callS1 C dX7_readNumber_35 kX7_97 (c_X7_isDigit hO) (by decide) ⟨Nat.zero_le _, Nat.zero_le _⟩ (Nat.le_of_ble_eq_true rfl) ?_
      rintro _ _ ⟨rfl, rfl⟩
      refine x_if_eq (tgt := 83) C dX7_readNumber_38 (by decide) (fun c38 => ?_) (fun c38 => ?_)
      · have c38 := b_n c38
        have h38 : k_isD (f (s.1.1 + m)) = false := Eq.mp (Bool.not_eq_true _) c38
        refine x_aload_n C dX7_readNumber_83 rfl rfl ?_
        refine x_getfield C dX7_readNumber_84 fX7_51 (x_ovg 0 rfl) rfl ?_
        refine x_iload_n C dX7_readNumber_87 rfl rfl ?_
        refine x_isub C dX7_readNumber_88 ?_
        rw [show nI (s.1.1 + m) - nI s.1.1 = nI m by rw [← nI_add]; exact t_sub]
        refine x_bipush (v := 6) C dX7_readNumber_89 (by decide) ?_
        refine x_icmp_le (tgt := 98) C dX7_readNumber_91 (by decide) (fun c91 => ?_) (fun c91 => ?_)
        · refine x_iconst (v := 3) C dX7_readNumber_98 (by decide) ?_
          refine x_iret C E dX7_readNumber_99 ?_
          have he : k_dend f n s.1.1 = s.1.1 + m := by rw [hq]; first | rfl | (simp only [k_run, k_isW, h38]; rfl) | (simp [k_run, k_isW, h38]; done) | fail
          have hm : s.1.1 + m - s.1.1 = m := by omega
          have c9 : ¬ 6 < m := fun q => absurd c91 (show ¬ nI m ≤ nI 6 from nI_ge q (by omega))
          unfold k_tD
          rw [he, hm, if_neg c9]
          exact ⟨rfl, rfl⟩
        · refine x_iconst (v := 1) C dX7_readNumber_94 (by decide) ?_
          refine x_goto (tgt := 99) C dX7_readNumber_95 (by decide) ?_
          refine x_iret C E dX7_readNumber_99 ?_
          have he : k_dend f n s.1.1 = s.1.1 + m := by rw [hq]; first | rfl | (simp only [k_run, k_isW, h38]; rfl) | (simp [k_run, k_isW, h38]; done) | fail
          have hm : s.1.1 + m - s.1.1 = m := by omega
          have c9 : 6 < m := Nat.lt_of_not_le (fun q => c91 (show nI m ≤ nI 6 from nI_le q (by omega)))
          unfold k_tD
          rw [he, hm, if_pos c9]
          exact ⟨rfl, rfl⟩
      · have c38 := b_y c38
        have h38 : k_isD (f (s.1.1 + m)) = true := c38
        refine x_aload_n C dX7_readNumber_41 rfl rfl ?_
        refine x_aload_n C dX7_readNumber_42 rfl rfl ?_
        refine x_getfield C dX7_readNumber_43 fX7_71 (x_ovg 0 rfl) rfl ?_
        refine x_ldc2 C dX7_readNumber_46 lX7_109 ?_
        refine x_lmul C dX7_readNumber_49 ?_
        refine x_aload_n C dX7_readNumber_50 rfl rfl ?_
        refine x_getfield C dX7_readNumber_51 fX7_25 (x_ovg 0 rfl) rfl ?_
        refine x_aload_n C dX7_readNumber_54 rfl rfl ?_
        refine x_getfield C dX7_readNumber_55 fX7_51 (x_ovg 0 rfl) rfl ?_
        refine x_callV1 C dX7_readNumber_58 kX7_90 (c_X5_at (i := s.1.1 + m) hO (hpF _ rfl) hn (by omega)) ((hpF _ rfl) 0 _ rfl) rfl (by decide) ⟨Nat.zero_le _, Nat.zero_le _⟩ (Nat.le_of_ble_eq_true rfl) ?_
        rintro _ _ ⟨rfl, rfl⟩
        rw [if_pos hx]
        refine x_i2l C dX7_readNumber_61 ?_
        refine x_ladd C dX7_readNumber_62 ?_
        refine x_ldc2 C dX7_readNumber_63 lX7_111 ?_
        refine x_lsub C dX7_readNumber_66 ?_
        refine x_putfield C dX7_readNumber_67 fX7_71 (x_ovg 0 rfl) rfl rfl (Nat.le_of_ble_eq_true rfl) ?_
        refine x_to (x_st_ov 0 (Nat.le_of_ble_eq_true rfl)) ?_
        refine x_to (show _ = x_ov M t (tkT t tp kw ((s.1.1 + m, k_nm f s.1.1 (m + 1)), s.2) ix kd st vl) from rfl) ?_
        refine x_aload_n C dX7_readNumber_70 rfl rfl ?_
        refine x_dup C dX7_readNumber_71 rfl ?_
        refine x_getfield C dX7_readNumber_72 fX7_51 (x_ovg 0 rfl) rfl ?_
        refine x_iconst (v := 1) C dX7_readNumber_75 (by decide) ?_
        refine x_iadd C dX7_readNumber_76 ?_
        rw [nI_1 (s.1.1 + m)]
        refine x_putfield C dX7_readNumber_77 fX7_51 (x_ovg 0 rfl) rfl rfl (Nat.le_of_ble_eq_true rfl) ?_
        refine x_to (x_st_ov 0 (Nat.le_of_ble_eq_true rfl)) ?_
        refine x_to (show _ = x_ov M t (tkT t tp kw ((s.1.1 + (m + 1), k_nm f s.1.1 (m + 1)), s.2) ix kd st vl) from rfl) ?_
        refine x_goto (tgt := 10) C dX7_readNumber_80 (by decide) ?_
        exact ih (m + 1) (by omega) (by rw [hq]; simp only [k_run, k_isW, h38]; rfl)
  refine x_aload_n C dX7_readNumber_0 rfl rfl ?_
  refine x_getfield C dX7_readNumber_1 fX7_51 (x_ovg 0 rfl) rfl ?_
  refine x_istore_n C dX7_readNumber_4 rfl rfl (by decide) ?_
  refine x_aload_n C dX7_readNumber_5 rfl rfl ?_
  refine x_lconst (v := 0) C dX7_readNumber_6 (by decide) ?_
  refine x_putfield C dX7_readNumber_7 fX7_71 (x_ovg 0 rfl) rfl rfl (Nat.le_of_ble_eq_true rfl) ?_
  refine x_to (x_st_ov 0 (Nat.le_of_ble_eq_true rfl)) ?_
  refine x_to (show _ = x_ov M t (tkT t tp kw ((s.1.1 + 0, k_nm f s.1.1 0), s.2) ix kd st vl) from rfl) ?_
  exact lp (n - s.1.1) 0 (by omega) rfl
