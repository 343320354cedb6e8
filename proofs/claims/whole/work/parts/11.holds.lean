theorem x_dropc {α : Type} : ∀ (t : List α) (n : Nat) (q : α), t[n]? = some q → t.drop n = q :: t.drop (n + 1) := by
  intro t
  induction t with
  | nil => intro n q h; simp at h
  | cons a t ih =>
    intro n q h
    cases n with
    | zero => simp at h; subst h; rfl
    | succ n => exact ih n q (by simpa using h)
theorem p_ty_cons {q : Nat × Int32} {t : PT} {ty ty2 : List Bool} (h : p_ty (q :: t) ty = some ty2) : ∃ ty', p_op q.1 ty = some ty' ∧ p_ty t ty' = some ty2 := by
  unfold p_ty at h
  cases e : p_op q.1 ty with
  | none => rw [e] at h; cases h
  | some ty' => rw [e] at h; exact ⟨ty', rfl, h⟩
theorem p_op_cases {k : Nat} {ty ty' : List Bool} (h : p_op k ty = some ty') : (k = 273 ∧ ∃ r, ty = true :: r ∧ ty' = true :: r) ∨ (k = 4 ∧ ∃ r, ty = false :: r ∧ ty' = false :: r) ∨ (k ≠ 273 ∧ k ≠ 4 ∧ h_isval k = true ∧ ∃ c, ty' = c :: ty) ∨ (k ≠ 273 ∧ k ≠ 4 ∧ h_isval k = false ∧ h_bin k ∧ ∃ c d e r, ty = c :: d :: r ∧ ty' = e :: r) := by
  unfold p_op at h
  by_cases h1 : k = 273
  · rw [if_pos h1] at h
    left
    refine ⟨h1, ?_⟩
    split at h
    · cases h; exact ⟨_, rfl, rfl⟩
    · cases h
  · rw [if_neg h1] at h
    right
    by_cases h2 : k = 4
    · rw [if_pos h2] at h
      left
      refine ⟨h2, ?_⟩
      split at h
      · cases h; exact ⟨_, rfl, rfl⟩
      · cases h
    · rw [if_neg h2] at h
      right
      by_cases h3 : k = 272
      · rw [if_pos h3] at h
        left
        cases h
        exact ⟨h1, h2, by rw [h3]; rfl, _, rfl⟩
      · rw [if_neg h3] at h
        by_cases h4 : h_isval k = true
        · rw [if_pos h4] at h
          left
          cases h
          exact ⟨h1, h2, h4, _, rfl⟩
        · rw [if_neg h4] at h
          right
          have h4' : h_isval k = false := by simpa using h4
          refine ⟨h1, h2, h4', ?_⟩
          by_cases h5 : k = 274 ∨ k = 275
          · rw [if_pos h5] at h
            split at h
            · cases h
              exact ⟨by unfold h_bin; omega, _, _, _, _, rfl, rfl⟩
            · cases h
          · rw [if_neg h5] at h
            by_cases h6 : k = 60 ∨ k = 61 ∨ k = 62 ∨ k = 188 ∨ k = 190
            · rw [if_pos h6] at h
              split at h
              · cases h
                exact ⟨by unfold h_bin; omega, _, _, _, _, rfl, rfl⟩
              · cases h
            · rw [if_neg h6] at h
              by_cases h7 : k = 43 ∨ k = 45 ∨ k = 42 ∨ k = 47 ∨ k = 276 ∨ k = 277
              · rw [if_pos h7] at h
                split at h
                · cases h
                  exact ⟨by unfold h_bin; omega, _, _, _, _, rfl, rfl⟩
                · cases h
              · rw [if_neg h7] at h
                cases h
theorem h_isval_lt {k : Nat} (h : h_isval k = true) : k < 300 := by
  have : k = 3 ∨ k = 267 ∨ k = 268 ∨ k = 269 ∨ k = 257 ∨ k = 270 ∨ k = 272 := by simpa [h_isval] using h
  omega
theorem p_op_lt {k : Nat} {ty ty' : List Bool} (h : p_op k ty = some ty') : k < 300 := by
  rcases p_op_cases h with h | h | h | h
  · omega
  · omega
  · exact h_isval_lt h.2.2.1
  · have h1 := h.2.2.2.1
    unfold h_bin at h1
    omega
/-- the list lies in the stack's row, its head on top -/
def hstk (sk : Nat → Int32) : List Int32 → Prop
  | [] => True
  | v :: r => sk r.length = v ∧ hstk sk r
theorem hstk_up {sk : Nat → Int32} {v : Int32} {n : Nat} : ∀ {r : List Int32}, r.length ≤ n → hstk sk r → hstk (upd sk n v) r := by
  intro r
  induction r with
  | nil => intro _ _; trivial
  | cons a r ih =>
    intro hn h
    have hn' : r.length + 1 ≤ n := hn
    refine ⟨?_, ih (by omega) h.2⟩
    have h1 := h.1
    unfold upd
    rw [if_neg (by omega)]
    exact h1
theorem hstk_push {sk : Nat → Int32} {v : Int32} {r : List Int32} (h : hstk sk r) : hstk (upd sk r.length v) (v :: r) := ⟨by simp [upd], hstk_up (Nat.le_refl _) h⟩
theorem st_cons {α β : Type} {st : List α} {c : β} {r : List β} (h : st.length = (c :: r).length) : ∃ v s, st = v :: s ∧ s.length = r.length := by
  cases st with
  | nil => simp at h
  | cons v s => exact ⟨v, s, rfl, by simpa using h⟩
theorem h_op_not {P : PL} {A : HS} {k : Nat} {x v : Int32} {r : List Int32} (hk : k = 273) : h_op P A k x (v :: r) = (if v = 0 then 1 else 0) :: r := by
  subst hk
  rfl
theorem h_op_neg {P : PL} {A : HS} {k : Nat} {x v : Int32} {r : List Int32} (hk : k = 4) : h_op P A k x (v :: r) = (-v) :: r := by
  subst hk
  rfl
theorem h_op_val {P : PL} {A : HS} {k : Nat} {x : Int32} {r : List Int32} (h1 : ¬ k = 273) (h2 : ¬ k = 4) (h3 : h_isval k = true) : h_op P A k x r = h_val P A k x :: r := by
  unfold h_op
  rw [if_neg h1, if_neg h2, if_pos h3]
theorem h_op_bin {P : PL} {A : HS} {k : Nat} {x u v : Int32} {r : List Int32} (h1 : ¬ k = 273) (h2 : ¬ k = 4) (h3 : h_isval k = false) : h_op P A k x (v :: u :: r) = h_join k u v :: r := by
  unfold h_op
  rw [if_neg h1, if_neg h2, if_neg (by rw [h3]; decide)]

set_option maxHeartbeats 4000000 in
set_option maxRecDepth 100000 in
theorem c_X3_holds_nil {l : Launch} {Y0 : x_Y} (hO : x_Ok Y0) {M : x_M} {a p : Nat} {P : PL} {A : HS} {hx sk : Nat → Int32} {ht : Int32} {Q : HS} (hP : p_ok P) (hQ : q_is Q P) (hb : x_bk M a (hvT a p P A hx sk ht)) (hp : x_bk M p (plT p Q)) (hd : p + 21 ≤ a ∨ a + 20 ≤ p) (hk9 : h_ok P A) {o : Nat} (ho : o < p_no P) (hnil : p_ts P o = []) : x_C l Y0 yX3_holds cX3_holds 10 (some .boolean) 4 0 0 [.ref (a + 1), .ref p, .int (nI o), .ref a] M (fun u M1 => u = some (.int (h_b (h_holds P A o))) ∧ ∃ (sk1 : Nat → Int32) (ht1 : Int32), M1 = x_ov M a (hvT a p P A hx sk1 ht1)) := by
  refine x_start hO (by decide +kernel) (Nat.le_of_ble_eq_true rfl) (fun K C E => ?_)
  have hP0 := hP
  have hQ0 := hQ
  obtain ⟨h8, h6, h16, hnp, hwho, hvb, hts⟩ := hP
  obtain ⟨hq0, hq1, hq2, hq3, hq4, hq5, hq6⟩ := hQ
  have hpF : ∀ L : List x_E, L.length = 20 → x_bk (x_ov M a L) p (plT p Q) := fun L h => x_ov_far 20 hp h hd
  refine x_to (x_ov_self hb).symm ?_
  obtain ⟨hq5a, hq5b, b, hb6, hb7, hb8, hcode⟩ := hq5 o ho
  rw [hnil] at hb7
  have hb7 : Q 7 o = nI b := hb7
  refine x_aload_n C dX3_holds_0 rfl rfl ?_
  refine x_getfield C dX3_holds_1 fX3_20 ((hpF _ rfl) 0 _ rfl) rfl ?_
  refine x_iload_n C dX3_holds_4 rfl rfl ?_
  refine x_callV1 C dX3_holds_5 kX3_25 (c_X4_get hO (by decide) (x_bk_sub (hpF _ rfl) 13 rfl)) ((hpF _ rfl) 13 _ rfl) rfl (by decide) ⟨Nat.zero_le _, Nat.zero_le _⟩ (Nat.le_of_ble_eq_true rfl) ?_
  rintro _ _ ⟨rfl, rfl⟩
  rw [rg_nI (show o < 16 by omega) (by decide)]
  rw [hb6]
  refine x_istore C dX3_holds_8 rfl (by decide) ?_
  refine x_aload_n C dX3_holds_10 rfl rfl ?_
  refine x_getfield C dX3_holds_11 fX3_29 ((hpF _ rfl) 0 _ rfl) rfl ?_
  refine x_iload_n C dX3_holds_14 rfl rfl ?_
  refine x_callV1 C dX3_holds_15 kX3_25 (c_X4_get hO (by decide) (x_bk_sub (hpF _ rfl) 15 rfl)) ((hpF _ rfl) 15 _ rfl) rfl (by decide) ⟨Nat.zero_le _, Nat.zero_le _⟩ (Nat.le_of_ble_eq_true rfl) ?_
  rintro _ _ ⟨rfl, rfl⟩
  rw [rg_nI (show o < 16 by omega) (by decide)]
  rw [hb7]
  refine x_istore C dX3_holds_18 rfl (by decide) ?_
  refine x_aload_n C dX3_holds_20 rfl rfl ?_
  refine x_iconst (v := 0) C dX3_holds_21 (by decide) ?_
  refine x_putfield C dX3_holds_22 fX3_32 (x_ovg 1 rfl) rfl rfl (Nat.le_of_ble_eq_true rfl) ?_
  refine x_to (x_st_ov 1 (Nat.le_of_ble_eq_true rfl)) ?_
  refine x_iload C dX3_holds_25 rfl ?_
  refine x_istore C dX3_holds_27 rfl (by decide) ?_
  refine x_iload C dX3_holds_29 rfl ?_
  refine x_iload C dX3_holds_31 rfl ?_
  refine x_icmp_ge (tgt := 156) C dX3_holds_33 (by decide) (fun c33 => ?_) (fun c33 => absurd (nI_le (Nat.le_refl b) (by omega)) c33)
  refine x_iload C dX3_holds_156 rfl ?_
  refine x_iload C dX3_holds_158 rfl ?_
  refine x_icmp_eq (tgt := 170) C dX3_holds_160 (by decide) (fun c160 => ?_) (fun c160 => absurd rfl c160)
  refine x_iconst (v := 1) C dX3_holds_170 (by decide) ?_
  refine x_goto (tgt := 175) C dX3_holds_171 (by decide) ?_
  refine x_zret C E dX3_holds_175 rfl ?_
  exact ⟨by unfold h_holds; rw [hnil]; rfl, _, _, rfl⟩
set_option maxHeartbeats 4000000 in
set_option maxRecDepth 100000 in
theorem c_X3_holds_cons {l : Launch} {Y0 : x_Y} (hO : x_Ok Y0) {M : x_M} {a p : Nat} {P : PL} {A : HS} {hx sk : Nat → Int32} {ht : Int32} {Q : HS} (hP : p_ok P) (hQ : q_is Q P) (hb : x_bk M a (hvT a p P A hx sk ht)) (hp : x_bk M p (plT p Q)) (hd : p + 21 ≤ a ∨ a + 20 ≤ p) (hk9 : h_ok P A) {o : Nat} (ho : o < p_no P) (hcons : ¬ p_ts P o = []) : x_C l Y0 yX3_holds cX3_holds 10 (some .boolean) 4 0 0 [.ref (a + 1), .ref p, .int (nI o), .ref a] M (fun u M1 => u = some (.int (h_b (h_holds P A o))) ∧ ∃ (sk1 : Nat → Int32) (ht1 : Int32), M1 = x_ov M a (hvT a p P A hx sk1 ht1)) := by
  refine x_start hO (by decide +kernel) (Nat.le_of_ble_eq_true rfl) (fun K C E => ?_)
  have hP0 := hP
  have hQ0 := hQ
  obtain ⟨h8, h6, h16, hnp, hwho, hvb, hts⟩ := hP
  obtain ⟨hq0, hq1, hq2, hq3, hq4, hq5, hq6⟩ := hQ
  have hpF : ∀ L : List x_E, L.length = 20 → x_bk (x_ov M a L) p (plT p Q) := fun L h => x_ov_far 20 hp h hd
  refine x_to (x_ov_self hb).symm ?_
  obtain ⟨hq5a, hq5b, b, hb6, hb7, hb8, hcode⟩ := hq5 o ho
  have ht9 := hts o ho
  generalize ht0 : p_ts P o = t at *
  obtain ⟨hty0, hlen0, hdts⟩ := ht9.resolve_left hcons
  have lp : ∀ (w n : Nat) (x : Int32) (st : List Int32) (ty : List Bool) (sk : Nat → Int32), n + w = t.length → x = nI (b + n) → p_ty (t.drop n) ty = some [true] → st.length = ty.length → h_ev P A (t.drop n) st = h_ev P A t [] → hstk sk st → st.length ≤ n → x_X K 10 0 0 29 [(0, .ref (a + 1)), (1, .ref p), (2, .int (nI o)), (3, .ref a), (4, .int (nI b)), (5, .int (nI (b + t.length))), (6, .int x)] [] (x_ov M a (hvT a p P A hx sk (nI st.length))) := by
    intro w
    induction w with
    | zero =>
      intro n x st ty sk hn hx hty hlen hev hsk hle
      subst hx
      have e : n = t.length := by omega
      subst e
      rw [List.drop_length] at hty hev
      have hty : some ty = some [true] := hty
      cases hty
      obtain ⟨v, s, rfl, hs⟩ := st_cons hlen
      have hs0 : s = [] := by cases s with
        | nil => rfl
        | cons _ _ => simp at hs
      subst hs0
      have hev : [v] = h_ev P A t [] := hev
      refine x_iload C dX3_holds_29 rfl ?_
      refine x_iload C dX3_holds_31 rfl ?_
      refine x_icmp_ge (tgt := 156) C dX3_holds_33 (by decide) (fun c33 => ?_) (fun c33 => absurd (nI_le (Nat.le_refl _) (by omega)) c33)
      refine x_iload C dX3_holds_156 rfl ?_
      refine x_iload C dX3_holds_158 rfl ?_
      refine x_icmp_eq (tgt := 170) C dX3_holds_160 (by decide) (fun c160 => absurd c160 (fun h => hcons (List.eq_nil_of_length_eq_zero (by have := (nI_eq (by omega) (by omega)).mp h; omega)))) (fun c160 => ?_)
      refine x_aload_n C dX3_holds_163 rfl rfl ?_
      refine x_callV0 C dX3_holds_164 kX3_39 (c_X3_pop hO (x_bk_sub x_ov_bk 1 rfl)) (x_ovg 1 rfl) rfl (by decide) ⟨Nat.zero_le _, Nat.zero_le _⟩ (Nat.le_of_ble_eq_true rfl) ?_
      rintro _ _ ⟨rfl, rfl⟩
      refine x_to ((x_ov_in 1 (Nat.le_of_ble_eq_true rfl)).trans (show _ = x_ov M a (hvT a p P A hx _ _) from rfl)) ?_
      rw [show nI [v].length - 1 = nI 0 from nI_pred 0, rg_nI (show 0 < 400 by decide) (by decide), show sk 0 = v from hsk.1]
      refine x_if_eq (tgt := 174) C dX3_holds_167 (by decide) (fun c167 => ?_) (fun c167 => ?_)
      · refine x_iconst (v := 0) C dX3_holds_174 (by decide) ?_
        refine x_zret C E dX3_holds_175 rfl ?_
        have e9 : h_holds P A o = (v != 0) := by
          unfold h_holds
          rw [ht0]
          cases t with
          | nil => exact absurd rfl hcons
          | cons q9 t9 =>
            show ((h_ev P A (q9 :: t9) []).headD 0 != 0) = (v != 0)
            rw [← hev]
            rfl
        refine ⟨?_, _, _, rfl⟩
        rw [e9]
        first | (simp [h_b, c167]; done) | fail
      · refine x_iconst (v := 1) C dX3_holds_170 (by decide) ?_
        refine x_goto (tgt := 175) C dX3_holds_171 (by decide) ?_
        refine x_zret C E dX3_holds_175 rfl ?_
        have e9 : h_holds P A o = (v != 0) := by
          unfold h_holds
          rw [ht0]
          cases t with
          | nil => exact absurd rfl hcons
          | cons q9 t9 =>
            show ((h_ev P A (q9 :: t9) []).headD 0 != 0) = (v != 0)
            rw [← hev]
            rfl
        refine ⟨?_, _, _, rfl⟩
        rw [e9]
        first | (simp [h_b, c167]; done) | fail
    | succ w ih =>
      intro n x st ty sk hn hx hty hlen hev hsk hle
      subst hx
      obtain ⟨q, hq⟩ : ∃ q, t[n]? = some q := ⟨_, List.getElem?_eq_getElem (show n < t.length by omega)⟩
      rw [x_dropc t n q hq] at hty hev
      have hev : h_ev P A (t.drop (n + 1)) (h_op P A q.1 q.2 st) = h_ev P A t [] := hev
      obtain ⟨ty2, hop, hty2⟩ := p_ty_cons hty
      have hkc := hcode n q hq
      have hdt := hdts q (List.mem_of_getElem? hq)
      have hlt := p_op_lt hop
      have hoc := p_op_cases hop
      refine x_iload C dX3_holds_29 rfl ?_
      refine x_iload C dX3_holds_31 rfl ?_
      refine x_icmp_ge (tgt := 156) C dX3_holds_33 (by decide) (fun c33 => absurd c33 (nI_ge (by omega) (by omega))) (fun c33 => ?_)
      refine x_aload_n C dX3_holds_36 rfl rfl ?_
      refine x_getfield C dX3_holds_37 fX3_36 ((hpF _ rfl) 0 _ rfl) rfl ?_
      refine x_iload C dX3_holds_40 rfl ?_
      refine x_callV1 C dX3_holds_42 kX3_25 (c_X4_get hO (by decide) (x_bk_sub (hpF _ rfl) 17 rfl)) ((hpF _ rfl) 17 _ rfl) rfl (by decide) ⟨Nat.zero_le _, Nat.zero_le _⟩ (Nat.le_of_ble_eq_true rfl) ?_
      rintro _ _ ⟨rfl, rfl⟩
      rw [rg_nI (show b + n < 400 by omega) (by decide)]
      rw [hkc.1]
      refine x_istore C dX3_holds_45 rfl (by decide) ?_
      refine x_iload C dX3_holds_47 rfl ?_
      refine x_sipush (v := 273) C dX3_holds_49 (by decide) ?_
      refine x_icmp_ne (tgt := 77) C dX3_holds_52 (by decide) (fun c52 => ?_) (fun c52 => ?_)
      · have hk1 : ¬ q.1 = 273 := fun h => c52 (by rw [h]; rfl)
        refine x_iload C dX3_holds_77 rfl ?_
        refine x_iconst (v := 4) C dX3_holds_79 (by decide) ?_
        refine x_icmp_ne (tgt := 95) C dX3_holds_80 (by decide) (fun c80 => ?_) (fun c80 => ?_)
        · have hk2 : ¬ q.1 = 4 := fun h => c80 (by rw [h]; rfl)
          refine x_iload C dX3_holds_95 rfl ?_
          refine x_callS1 C dX3_holds_97 kX3_50 (c_X3_isValue hO (k := q.1) (by omega)) (by decide) ⟨Nat.zero_le _, Nat.zero_le _⟩ (Nat.le_of_ble_eq_true rfl) ?_
          rintro _ _ ⟨rfl, rfl⟩
          refine x_if_eq (tgt := 125) C dX3_holds_100 (by decide) (fun c100 => ?_) (fun c100 => ?_)
          · have hisv : h_isval q.1 = false := by
              cases h : h_isval q.1 with
              | false => rfl
              | true => rw [h] at c100; exact absurd c100 (by decide)
            obtain ⟨hbin, c, d, e, r, rfl, rfl⟩ : h_bin q.1 ∧ ∃ c d e r, ty = c :: d :: r ∧ ty2 = e :: r := by
              rcases hoc with h | h | h | h
              · omega
              · omega
              · rw [hisv] at h; exact absurd h.2.2.1 (by decide)
              · exact h.2.2.2
            obtain ⟨v, s1, rfl, hs1⟩ := st_cons hlen
            obtain ⟨u, s, rfl, hs⟩ := st_cons hs1
            have hle2 : s.length + 1 + 1 ≤ n := by simpa using hle
            have hsl : s.length + 1 < 400 := by omega
            refine x_aload_n C dX3_holds_125 rfl rfl ?_
            refine x_callV0 C dX3_holds_126 kX3_39 (c_X3_pop hO (x_bk_sub x_ov_bk 1 rfl)) (x_ovg 1 rfl) rfl (by decide) ⟨Nat.zero_le _, Nat.zero_le _⟩ (Nat.le_of_ble_eq_true rfl) ?_
            rintro _ _ ⟨rfl, rfl⟩
            refine x_to ((x_ov_in 1 (Nat.le_of_ble_eq_true rfl)).trans (show _ = x_ov M a (hvT a p P A hx _ _) from rfl)) ?_
            rw [show nI (v :: u :: s).length - 1 = nI (s.length + 1) from nI_pred _, rg_nI (show s.length + 1 < 400 by omega) (by decide), show sk (s.length + 1) = v from hsk.1]
            refine x_istore C dX3_holds_129 rfl (by decide) ?_
            refine x_aload_n C dX3_holds_131 rfl rfl ?_
            refine x_callV0 C dX3_holds_132 kX3_39 (c_X3_pop hO (x_bk_sub x_ov_bk 1 rfl)) (x_ovg 1 rfl) rfl (by decide) ⟨Nat.zero_le _, Nat.zero_le _⟩ (Nat.le_of_ble_eq_true rfl) ?_
            rintro _ _ ⟨rfl, rfl⟩
            refine x_to ((x_ov_in 1 (Nat.le_of_ble_eq_true rfl)).trans (show _ = x_ov M a (hvT a p P A hx _ _) from rfl)) ?_
            rw [show nI (s.length + 1) - 1 = nI s.length from nI_pred _, rg_nI (show s.length < 400 by omega) (by decide), show sk s.length = u from hsk.2.1]
            refine x_istore C dX3_holds_135 rfl (by decide) ?_
            refine x_aload_n C dX3_holds_137 rfl rfl ?_
            refine x_iload C dX3_holds_138 rfl ?_
            refine x_iload C dX3_holds_140 rfl ?_
            refine x_iload C dX3_holds_142 rfl ?_
            refine x_callS3 C dX3_holds_144 kX3_61 (c_X3_joined hO hbin) (by decide) ⟨Nat.zero_le _, Nat.zero_le _⟩ (Nat.le_of_ble_eq_true rfl) ?_
            rintro _ _ ⟨rfl, rfl⟩
            refine x_callV1 C dX3_holds_147 kX3_47 (c_X3_push hO (x_bk_sub x_ov_bk 1 rfl)) (x_ovg 1 rfl) rfl (by decide) ⟨Nat.zero_le _, Nat.zero_le _⟩ (Nat.le_of_ble_eq_true rfl) ?_
            rintro _ _ ⟨rfl, rfl⟩
            refine x_to ((x_ov_in 1 (Nat.le_of_ble_eq_true rfl)).trans (show _ = x_ov M a (hvT a p P A hx _ _) from rfl)) ?_
            rw [rs_nI (show s.length < 400 by omega) (by decide), show nI s.length + 1 = nI (s.length + 1) from nI_1 _]
            refine x_iinc (v := 1) C dX3_holds_150 rfl (by decide) rfl (by decide) ?_
            refine x_goto (tgt := 29) C dX3_holds_153 (by decide) ?_
            refine x_take 7 ?_
            first
              | (rw [show (if (1 : Int32) = 0 then (0 : Int32) else 1) = (if v = 0 then 1 else 0) by rw [if_neg (by decide), if_pos c60]]; exact ih (n + 1) _ ((if v = 0 then 1 else 0) :: s) (true :: r) (upd sk s.length (if v = 0 then 1 else 0)) (by omega) (nI_1 (b + n)) hty2 (by simp; omega) (by rw [← hev]; rw [h_op_not hk]) (hstk_push hsk.2) (by simp; omega))
              | (rw [show (if (0 : Int32) = 0 then (0 : Int32) else 1) = (if v = 0 then 1 else 0) by rw [if_pos rfl, if_neg c60]]; exact ih (n + 1) _ ((if v = 0 then 1 else 0) :: s) (true :: r) (upd sk s.length (if v = 0 then 1 else 0)) (by omega) (nI_1 (b + n)) hty2 (by simp; omega) (by rw [← hev]; rw [h_op_not hk]) (hstk_push hsk.2) (by simp; omega))
              | exact ih (n + 1) _ ((-v) :: s) (false :: r) (upd sk s.length (-v)) (by omega) (nI_1 (b + n)) hty2 (by simp; omega) (by rw [← hev, h_op_neg hk]) (hstk_push hsk.2) (by simp; omega)
              | exact ih (n + 1) _ (h_val P A q.1 q.2 :: st) (c :: ty) (upd sk st.length (h_val P A q.1 q.2)) (by omega) (nI_1 (b + n)) hty2 (by simp; omega) (by rw [← hev, h_op_val hk1 hk2 hisv]) (hstk_push hsk) (by simp; omega)
              | exact ih (n + 1) _ (h_join q.1 u v :: s) (e :: r) (upd sk s.length (h_join q.1 u v)) (by omega) (nI_1 (b + n)) hty2 (by simp; omega) (by rw [← hev, h_op_bin hk1 hk2 hisv]) (hstk_push hsk.2.2) (by simp; omega)
              | fail
          · have hisv : h_isval q.1 = true := by
              cases h : h_isval q.1 with
              | false => rw [h] at c100; exact absurd rfl c100
              | true => rfl
            obtain ⟨c, rfl⟩ : ∃ c, ty2 = c :: ty := by
              rcases hoc with h | h | h | h
              · omega
              · omega
              · exact h.2.2.2
              · rw [hisv] at h; exact absurd h.2.2.1 (by decide)
            refine x_aload_n C dX3_holds_103 rfl rfl ?_
            refine x_iload C dX3_holds_104 rfl ?_
            refine x_aload_n C dX3_holds_106 rfl rfl ?_
            refine x_getfield C dX3_holds_107 fX3_54 ((hpF _ rfl) 0 _ rfl) rfl ?_
            refine x_iload C dX3_holds_110 rfl ?_
            refine x_callV1 C dX3_holds_112 kX3_25 (c_X4_get hO (by decide) (x_bk_sub (hpF _ rfl) 19 rfl)) ((hpF _ rfl) 19 _ rfl) rfl (by decide) ⟨Nat.zero_le _, Nat.zero_le _⟩ (Nat.le_of_ble_eq_true rfl) ?_
            rintro _ _ ⟨rfl, rfl⟩
            rw [rg_nI (show b + n < 400 by omega) (by decide)]
            rw [hkc.2]
            refine x_aload_n C dX3_holds_115 rfl rfl ?_
            refine x_callS3 C dX3_holds_116 kX3_57 (c_X3_valueOf hO hP0 hQ0 x_ov_bk (hpF _ rfl) hk9 hisv hdt) (by decide) ⟨Nat.zero_le _, Nat.zero_le _⟩ (Nat.le_of_ble_eq_true rfl) ?_
            rintro _ _ ⟨rfl, rfl⟩
            refine x_callV1 C dX3_holds_119 kX3_47 (c_X3_push hO (x_bk_sub x_ov_bk 1 rfl)) (x_ovg 1 rfl) rfl (by decide) ⟨Nat.zero_le _, Nat.zero_le _⟩ (Nat.le_of_ble_eq_true rfl) ?_
            rintro _ _ ⟨rfl, rfl⟩
            refine x_to ((x_ov_in 1 (Nat.le_of_ble_eq_true rfl)).trans (show _ = x_ov M a (hvT a p P A hx _ _) from rfl)) ?_
            rw [rs_nI (show st.length < 400 by omega) (by decide), show nI st.length + 1 = nI (st.length + 1) from nI_1 _]
            refine x_goto (tgt := 150) C dX3_holds_122 (by decide) ?_
            refine x_iinc (v := 1) C dX3_holds_150 rfl (by decide) rfl (by decide) ?_
            refine x_goto (tgt := 29) C dX3_holds_153 (by decide) ?_
            refine x_take 7 ?_
            first
              | (rw [show (if (1 : Int32) = 0 then (0 : Int32) else 1) = (if v = 0 then 1 else 0) by rw [if_neg (by decide), if_pos c60]]; exact ih (n + 1) _ ((if v = 0 then 1 else 0) :: s) (true :: r) (upd sk s.length (if v = 0 then 1 else 0)) (by omega) (nI_1 (b + n)) hty2 (by simp; omega) (by rw [← hev]; rw [h_op_not hk]) (hstk_push hsk.2) (by simp; omega))
              | (rw [show (if (0 : Int32) = 0 then (0 : Int32) else 1) = (if v = 0 then 1 else 0) by rw [if_pos rfl, if_neg c60]]; exact ih (n + 1) _ ((if v = 0 then 1 else 0) :: s) (true :: r) (upd sk s.length (if v = 0 then 1 else 0)) (by omega) (nI_1 (b + n)) hty2 (by simp; omega) (by rw [← hev]; rw [h_op_not hk]) (hstk_push hsk.2) (by simp; omega))
              | exact ih (n + 1) _ ((-v) :: s) (false :: r) (upd sk s.length (-v)) (by omega) (nI_1 (b + n)) hty2 (by simp; omega) (by rw [← hev, h_op_neg hk]) (hstk_push hsk.2) (by simp; omega)
              | exact ih (n + 1) _ (h_val P A q.1 q.2 :: st) (c :: ty) (upd sk st.length (h_val P A q.1 q.2)) (by omega) (nI_1 (b + n)) hty2 (by simp; omega) (by rw [← hev, h_op_val hk1 hk2 hisv]) (hstk_push hsk) (by simp; omega)
              | exact ih (n + 1) _ (h_join q.1 u v :: s) (e :: r) (upd sk s.length (h_join q.1 u v)) (by omega) (nI_1 (b + n)) hty2 (by simp; omega) (by rw [← hev, h_op_bin hk1 hk2 hisv]) (hstk_push hsk.2.2) (by simp; omega)
              | fail
        · have hk : q.1 = 4 := (nI_eq (by omega) (by omega)).mp (show nI q.1 = nI 4 from c80)
          obtain ⟨r, rfl, rfl⟩ : ∃ r, ty = false :: r ∧ ty2 = false :: r := by rcases hoc with h | h | h | h <;> first | exact h.2 | omega
          obtain ⟨v, s, rfl, hs⟩ := st_cons hlen
          have hle2 : s.length + 1 ≤ n := by simpa using hle
          have hsl : s.length < 400 := by omega
          refine x_aload_n C dX3_holds_83 rfl rfl ?_
          refine x_aload_n C dX3_holds_84 rfl rfl ?_
          refine x_callV0 C dX3_holds_85 kX3_39 (c_X3_pop hO (x_bk_sub x_ov_bk 1 rfl)) (x_ovg 1 rfl) rfl (by decide) ⟨Nat.zero_le _, Nat.zero_le _⟩ (Nat.le_of_ble_eq_true rfl) ?_
          rintro _ _ ⟨rfl, rfl⟩
          refine x_to ((x_ov_in 1 (Nat.le_of_ble_eq_true rfl)).trans (show _ = x_ov M a (hvT a p P A hx _ _) from rfl)) ?_
          rw [show nI (v :: s).length - 1 = nI s.length from nI_pred _, rg_nI (show s.length < 400 by omega) (by decide), hsk.1]
          refine x_ineg C dX3_holds_88 ?_
          refine x_callV1 C dX3_holds_89 kX3_47 (c_X3_push hO (x_bk_sub x_ov_bk 1 rfl)) (x_ovg 1 rfl) rfl (by decide) ⟨Nat.zero_le _, Nat.zero_le _⟩ (Nat.le_of_ble_eq_true rfl) ?_
          rintro _ _ ⟨rfl, rfl⟩
          refine x_to ((x_ov_in 1 (Nat.le_of_ble_eq_true rfl)).trans (show _ = x_ov M a (hvT a p P A hx _ _) from rfl)) ?_
          rw [rs_nI (show s.length < 400 by omega) (by decide), show nI s.length + 1 = nI (s.length + 1) from nI_1 _]
          refine x_goto (tgt := 150) C dX3_holds_92 (by decide) ?_
          refine x_iinc (v := 1) C dX3_holds_150 rfl (by decide) rfl (by decide) ?_
          refine x_goto (tgt := 29) C dX3_holds_153 (by decide) ?_
          refine x_take 7 ?_
          first
            | (rw [show (if (1 : Int32) = 0 then (0 : Int32) else 1) = (if v = 0 then 1 else 0) by rw [if_neg (by decide), if_pos c60]]; exact ih (n + 1) _ ((if v = 0 then 1 else 0) :: s) (true :: r) (upd sk s.length (if v = 0 then 1 else 0)) (by omega) (nI_1 (b + n)) hty2 (by simp; omega) (by rw [← hev]; rw [h_op_not hk]) (hstk_push hsk.2) (by simp; omega))
            | (rw [show (if (0 : Int32) = 0 then (0 : Int32) else 1) = (if v = 0 then 1 else 0) by rw [if_pos rfl, if_neg c60]]; exact ih (n + 1) _ ((if v = 0 then 1 else 0) :: s) (true :: r) (upd sk s.length (if v = 0 then 1 else 0)) (by omega) (nI_1 (b + n)) hty2 (by simp; omega) (by rw [← hev]; rw [h_op_not hk]) (hstk_push hsk.2) (by simp; omega))
            | exact ih (n + 1) _ ((-v) :: s) (false :: r) (upd sk s.length (-v)) (by omega) (nI_1 (b + n)) hty2 (by simp; omega) (by rw [← hev, h_op_neg hk]) (hstk_push hsk.2) (by simp; omega)
            | exact ih (n + 1) _ (h_val P A q.1 q.2 :: st) (c :: ty) (upd sk st.length (h_val P A q.1 q.2)) (by omega) (nI_1 (b + n)) hty2 (by simp; omega) (by rw [← hev, h_op_val hk1 hk2 hisv]) (hstk_push hsk) (by simp; omega)
            | exact ih (n + 1) _ (h_join q.1 u v :: s) (e :: r) (upd sk s.length (h_join q.1 u v)) (by omega) (nI_1 (b + n)) hty2 (by simp; omega) (by rw [← hev, h_op_bin hk1 hk2 hisv]) (hstk_push hsk.2.2) (by simp; omega)
            | fail
      · have hk : q.1 = 273 := (nI_eq (by omega) (by omega)).mp (show nI q.1 = nI 273 from c52)
        obtain ⟨r, rfl, rfl⟩ : ∃ r, ty = true :: r ∧ ty2 = true :: r := by rcases hoc with h | h | h | h <;> first | exact h.2 | omega
        obtain ⟨v, s, rfl, hs⟩ := st_cons hlen
        have hle2 : s.length + 1 ≤ n := by simpa using hle
        have hsl : s.length < 400 := by omega
        refine x_aload_n C dX3_holds_55 rfl rfl ?_
        refine x_aload_n C dX3_holds_56 rfl rfl ?_
        refine x_callV0 C dX3_holds_57 kX3_39 (c_X3_pop hO (x_bk_sub x_ov_bk 1 rfl)) (x_ovg 1 rfl) rfl (by decide) ⟨Nat.zero_le _, Nat.zero_le _⟩ (Nat.le_of_ble_eq_true rfl) ?_
        rintro _ _ ⟨rfl, rfl⟩
        refine x_to ((x_ov_in 1 (Nat.le_of_ble_eq_true rfl)).trans (show _ = x_ov M a (hvT a p P A hx _ _) from rfl)) ?_
        rw [show nI (v :: s).length - 1 = nI s.length from nI_pred _, rg_nI (show s.length < 400 by omega) (by decide), hsk.1]
        refine x_if_ne (tgt := 67) C dX3_holds_60 (by decide) (fun c60 => ?_) (fun c60 => ?_)
        · refine x_iconst (v := 0) C dX3_holds_67 (by decide) ?_
          refine x_callS1 C dX3_holds_68 kX3_43 (c_X8_bit hO) (by decide) ⟨Nat.zero_le _, Nat.zero_le _⟩ (Nat.le_of_ble_eq_true rfl) ?_
          rintro _ _ ⟨rfl, rfl⟩
          refine x_callV1 C dX3_holds_71 kX3_47 (c_X3_push hO (x_bk_sub x_ov_bk 1 rfl)) (x_ovg 1 rfl) rfl (by decide) ⟨Nat.zero_le _, Nat.zero_le _⟩ (Nat.le_of_ble_eq_true rfl) ?_
          rintro _ _ ⟨rfl, rfl⟩
          refine x_to ((x_ov_in 1 (Nat.le_of_ble_eq_true rfl)).trans (show _ = x_ov M a (hvT a p P A hx _ _) from rfl)) ?_
          rw [rs_nI (show s.length < 400 by omega) (by decide), show nI s.length + 1 = nI (s.length + 1) from nI_1 _]
          refine x_goto (tgt := 150) C dX3_holds_74 (by decide) ?_
          refine x_iinc (v := 1) C dX3_holds_150 rfl (by decide) rfl (by decide) ?_
          refine x_goto (tgt := 29) C dX3_holds_153 (by decide) ?_
          refine x_take 7 ?_
          first
            | (rw [show (if (1 : Int32) = 0 then (0 : Int32) else 1) = (if v = 0 then 1 else 0) by rw [if_neg (by decide), if_pos c60]]; exact ih (n + 1) _ ((if v = 0 then 1 else 0) :: s) (true :: r) (upd sk s.length (if v = 0 then 1 else 0)) (by omega) (nI_1 (b + n)) hty2 (by simp; omega) (by rw [← hev]; rw [h_op_not hk]) (hstk_push hsk.2) (by simp; omega))
            | (rw [show (if (0 : Int32) = 0 then (0 : Int32) else 1) = (if v = 0 then 1 else 0) by rw [if_pos rfl, if_neg c60]]; exact ih (n + 1) _ ((if v = 0 then 1 else 0) :: s) (true :: r) (upd sk s.length (if v = 0 then 1 else 0)) (by omega) (nI_1 (b + n)) hty2 (by simp; omega) (by rw [← hev]; rw [h_op_not hk]) (hstk_push hsk.2) (by simp; omega))
            | exact ih (n + 1) _ ((-v) :: s) (false :: r) (upd sk s.length (-v)) (by omega) (nI_1 (b + n)) hty2 (by simp; omega) (by rw [← hev, h_op_neg hk]) (hstk_push hsk.2) (by simp; omega)
            | exact ih (n + 1) _ (h_val P A q.1 q.2 :: st) (c :: ty) (upd sk st.length (h_val P A q.1 q.2)) (by omega) (nI_1 (b + n)) hty2 (by simp; omega) (by rw [← hev, h_op_val hk1 hk2 hisv]) (hstk_push hsk) (by simp; omega)
            | exact ih (n + 1) _ (h_join q.1 u v :: s) (e :: r) (upd sk s.length (h_join q.1 u v)) (by omega) (nI_1 (b + n)) hty2 (by simp; omega) (by rw [← hev, h_op_bin hk1 hk2 hisv]) (hstk_push hsk.2.2) (by simp; omega)
            | fail
        · refine x_iconst (v := 1) C dX3_holds_63 (by decide) ?_
          refine x_goto (tgt := 68) C dX3_holds_64 (by decide) ?_
          refine x_callS1 C dX3_holds_68 kX3_43 (c_X8_bit hO) (by decide) ⟨Nat.zero_le _, Nat.zero_le _⟩ (Nat.le_of_ble_eq_true rfl) ?_
          rintro _ _ ⟨rfl, rfl⟩
          refine x_callV1 C dX3_holds_71 kX3_47 (c_X3_push hO (x_bk_sub x_ov_bk 1 rfl)) (x_ovg 1 rfl) rfl (by decide) ⟨Nat.zero_le _, Nat.zero_le _⟩ (Nat.le_of_ble_eq_true rfl) ?_
          rintro _ _ ⟨rfl, rfl⟩
          refine x_to ((x_ov_in 1 (Nat.le_of_ble_eq_true rfl)).trans (show _ = x_ov M a (hvT a p P A hx _ _) from rfl)) ?_
          rw [rs_nI (show s.length < 400 by omega) (by decide), show nI s.length + 1 = nI (s.length + 1) from nI_1 _]
          refine x_goto (tgt := 150) C dX3_holds_74 (by decide) ?_
          refine x_iinc (v := 1) C dX3_holds_150 rfl (by decide) rfl (by decide) ?_
          refine x_goto (tgt := 29) C dX3_holds_153 (by decide) ?_
          refine x_take 7 ?_
          first
            | (rw [show (if (1 : Int32) = 0 then (0 : Int32) else 1) = (if v = 0 then 1 else 0) by rw [if_neg (by decide), if_pos c60]]; exact ih (n + 1) _ ((if v = 0 then 1 else 0) :: s) (true :: r) (upd sk s.length (if v = 0 then 1 else 0)) (by omega) (nI_1 (b + n)) hty2 (by simp; omega) (by rw [← hev]; rw [h_op_not hk]) (hstk_push hsk.2) (by simp; omega))
            | (rw [show (if (0 : Int32) = 0 then (0 : Int32) else 1) = (if v = 0 then 1 else 0) by rw [if_pos rfl, if_neg c60]]; exact ih (n + 1) _ ((if v = 0 then 1 else 0) :: s) (true :: r) (upd sk s.length (if v = 0 then 1 else 0)) (by omega) (nI_1 (b + n)) hty2 (by simp; omega) (by rw [← hev]; rw [h_op_not hk]) (hstk_push hsk.2) (by simp; omega))
            | exact ih (n + 1) _ ((-v) :: s) (false :: r) (upd sk s.length (-v)) (by omega) (nI_1 (b + n)) hty2 (by simp; omega) (by rw [← hev, h_op_neg hk]) (hstk_push hsk.2) (by simp; omega)
            | exact ih (n + 1) _ (h_val P A q.1 q.2 :: st) (c :: ty) (upd sk st.length (h_val P A q.1 q.2)) (by omega) (nI_1 (b + n)) hty2 (by simp; omega) (by rw [← hev, h_op_val hk1 hk2 hisv]) (hstk_push hsk) (by simp; omega)
            | exact ih (n + 1) _ (h_join q.1 u v :: s) (e :: r) (upd sk s.length (h_join q.1 u v)) (by omega) (nI_1 (b + n)) hty2 (by simp; omega) (by rw [← hev, h_op_bin hk1 hk2 hisv]) (hstk_push hsk.2.2) (by simp; omega)
            | fail
  refine x_aload_n C dX3_holds_0 rfl rfl ?_
  refine x_getfield C dX3_holds_1 fX3_20 ((hpF _ rfl) 0 _ rfl) rfl ?_
  refine x_iload_n C dX3_holds_4 rfl rfl ?_
  refine x_callV1 C dX3_holds_5 kX3_25 (c_X4_get hO (by decide) (x_bk_sub (hpF _ rfl) 13 rfl)) ((hpF _ rfl) 13 _ rfl) rfl (by decide) ⟨Nat.zero_le _, Nat.zero_le _⟩ (Nat.le_of_ble_eq_true rfl) ?_
  rintro _ _ ⟨rfl, rfl⟩
  rw [rg_nI (show o < 16 by omega) (by decide)]
  rw [hb6]
  refine x_istore C dX3_holds_8 rfl (by decide) ?_
  refine x_aload_n C dX3_holds_10 rfl rfl ?_
  refine x_getfield C dX3_holds_11 fX3_29 ((hpF _ rfl) 0 _ rfl) rfl ?_
  refine x_iload_n C dX3_holds_14 rfl rfl ?_
  refine x_callV1 C dX3_holds_15 kX3_25 (c_X4_get hO (by decide) (x_bk_sub (hpF _ rfl) 15 rfl)) ((hpF _ rfl) 15 _ rfl) rfl (by decide) ⟨Nat.zero_le _, Nat.zero_le _⟩ (Nat.le_of_ble_eq_true rfl) ?_
  rintro _ _ ⟨rfl, rfl⟩
  rw [rg_nI (show o < 16 by omega) (by decide)]
  rw [hb7]
  refine x_istore C dX3_holds_18 rfl (by decide) ?_
  refine x_aload_n C dX3_holds_20 rfl rfl ?_
  refine x_iconst (v := 0) C dX3_holds_21 (by decide) ?_
  refine x_putfield C dX3_holds_22 fX3_32 (x_ovg 1 rfl) rfl rfl (Nat.le_of_ble_eq_true rfl) ?_
  refine x_to (x_st_ov 1 (Nat.le_of_ble_eq_true rfl)) ?_
  refine x_iload C dX3_holds_25 rfl ?_
  refine x_istore C dX3_holds_27 rfl (by decide) ?_
  refine x_take 7 ?_
  exact lp t.length 0 _ [] [] sk (by omega) rfl (by simpa using hty0) rfl rfl trivial (by simp)
theorem c_X3_holds {l : Launch} {Y0 : x_Y} (hO : x_Ok Y0) {M : x_M} {a p : Nat} {P : PL} {A : HS} {hx sk : Nat → Int32} {ht : Int32} {Q : HS} (hP : p_ok P) (hQ : q_is Q P) (hb : x_bk M a (hvT a p P A hx sk ht)) (hp : x_bk M p (plT p Q)) (hd : p + 21 ≤ a ∨ a + 20 ≤ p) (hk9 : h_ok P A) {o : Nat} (ho : o < p_no P) : x_C l Y0 yX3_holds cX3_holds 10 (some .boolean) 4 0 0 [.ref (a + 1), .ref p, .int (nI o), .ref a] M (fun u M1 => u = some (.int (h_b (h_holds P A o))) ∧ ∃ (sk1 : Nat → Int32) (ht1 : Int32), M1 = x_ov M a (hvT a p P A hx sk1 ht1)) := by
  by_cases h : p_ts P o = []
  · exact c_X3_holds_nil hO hP hQ hb hp hd hk9 ho h
  · exact c_X3_holds_cons hO hP hQ hb hp hd hk9 ho h
