/-- cells that are the same in the heap -/
def x_ceq (c c' : x_E) : Prop := c = c' ∨ ∃ (t n : Nat) (f g : Nat → Int32), c = .inl (t, n, .inl f) ∧ c' = .inl (t, n, .inl g) ∧ ∀ j, j < n → f j = g j
def x_leq : List x_E → List x_E → Prop
  | [], [] => True
  | c :: l, c' :: l' => x_ceq c c' ∧ x_leq l l'
  | _, _ => False
theorem x_leq_at : ∀ {L L' : List x_E}, x_leq L L' → L.length = L'.length ∧ ∀ (j : Nat) (c' : x_E), L'[j]? = some c' → ∃ c, L[j]? = some c ∧ x_ceq c c' := by
  intro L
  induction L with
  | nil =>
    intro L' h
    cases L' with
    | nil => exact ⟨rfl, fun j c' h => by simp at h⟩
    | cons _ _ => exact absurd h (by simp [x_leq])
  | cons c L ih =>
    intro L' h
    cases L' with
    | nil => exact absurd h (by simp [x_leq])
    | cons c2 L2 =>
      obtain ⟨h1, h2⟩ := h
      obtain ⟨g1, g2⟩ := ih h2
      refine ⟨by simp [g1], fun j c' hc => ?_⟩
      cases j with
      | zero => exact ⟨c, rfl, by have : c2 = c' := by simpa using hc
                                  rw [← this]; exact h1⟩
      | succ j => exact g2 j c' (by simpa using hc)
theorem x_at_eqv {Y : x_Y} {q : Nat} {c c' : x_E} {H : Heap} (h : x_ceq c c') (ha : va_at Y.2.2.1.1 vwCl (q, x_e Y.2.2.1 c) H) : va_at Y.2.2.1.1 vwCl (q, x_e Y.2.2.1 c') H := by
  rcases h with rfl | ⟨t, n, f, g, rfl, rfl, hfg⟩
  · exact ha
  · have h1 : H[q]? = some (arrV (Y.2.2.1.2 t) n (fun j => .int (f j))) := ha
    show H[q]? = some (arrV (Y.2.2.1.2 t) n (fun j => .int (g j)))
    rw [h1]
    have h2 : (fun j : Fin n => Value.int (f j.val)) = (fun j : Fin n => Value.int (g j.val)) := funext fun j => by rw [hfg j.val j.isLt]
    unfold arrV
    rw [h2]
theorem x_W_leq {Y : x_Y} {M : x_M} {a : Nat} {L L' : List x_E} {H : Heap} (h : x_leq L L') (hw : x_W Y (x_ov M a L) H) : x_W Y (x_ov M a L') H := by
  obtain ⟨g1, g2⟩ := x_leq_at h
  refine ⟨hw.1, fun q c hq => ?_⟩
  by_cases hr : a ≤ q ∧ q < a + L'.length
  · have hq' : L'[q - a]? = some c := by
      have : (x_ov M a L').1 q = L'[q - a]? := by simp only [x_ov]; rw [if_pos hr]
      rw [← this]; exact hq
    obtain ⟨c0, h0, h1⟩ := g2 _ _ hq'
    have h2 : (x_ov M a L).1 q = some c0 := by
      simp only [x_ov]
      rw [if_pos (by omega)]
      exact h0
    exact ⟨(hw.2 q c0 h2).1, x_at_eqv h1 (hw.2 q c0 h2).2⟩
  · have h2 : (x_ov M a L).1 q = some c := by
      rw [x_ov_out (by omega)]
      rw [x_ov_out (by omega)] at hq
      exact hq
    exact hw.2 q c h2
theorem x_toE {K : x_K} {nL cells slots pc a : Nat} {lv : List (Nat × Value)} {st : List Value} {M : x_M} {L : List x_E} (L' : List x_E) (h : x_leq L L') (k : x_X K nL cells slots pc lv st (x_ov M a L')) : x_X K nL cells slots pc lv st (x_ov M a L) := by
  obtain ⟨p, l1, e, R, s, m, args, below, meth, c, Y, Q⟩ := K
  intro H locs ls hw hs hl
  exact k H locs ls (x_W_leq h hw) hs hl
theorem x_cq {t n : Nat} {f g : Nat → Int32} (h : ∀ j, j < n → f j = g j) : x_ceq (.inl (t, n, .inl f)) (.inl (t, n, .inl g)) := Or.inr ⟨t, n, f, g, rfl, rfl, h⟩
theorem s_sum_congr {f g : Nat → Int32} : ∀ n, (∀ j, j < n → f j = g j) → s_sum f n = s_sum g n := by
  intro n
  induction n with
  | zero => intro _; rfl
  | succ n ih => intro h; unfold s_sum; rw [ih (fun j hj => h j (by omega)), h n (by omega)]
/-- how all stands when a plan has been told -/
def h_new (P : PL) : HS := fun k => if k = 0 then p_hn P else if k = 2 then fun _ => -1 else fun _ => 0
def h_awake (P : PL) (A : HS) : Int32 := nI (p_nd P) - s_sum (A 1) (p_nd P)
def h_honey (P : PL) (A : HS) : Int32 := s_sum (A 0) (p_nd P)
set_option maxHeartbeats 4000000 in
set_option maxRecDepth 100000 in
theorem c_X0_obeyOrders {l : Launch} {Y0 : x_Y} (hO : x_Ok Y0) {M : x_M} {a p : Nat} {P : PL} {A : HS} {hx sk : Nat → Int32} {ht : Int32} {Q : HS} (hP : p_ok P) (hQ : q_is Q P) (hb : x_bk M a (hvT a p P A hx sk ht)) (hp : x_bk M p (plT p Q)) (hd : p + 21 ≤ a ∨ a + 20 ≤ p) (hk9 : h_ok P A) : x_C l Y0 yX0_obeyOrders cX0_obeyOrders 2 none 5 0 0 [.ref a] M (fun u M1 => u = none ∧ ∃ (sk1 : Nat → Int32) (ht1 : Int32), M1 = x_ov M a (hvT a p P (h_ord P A) hx sk1 ht1)) := by
  refine x_start hO (by decide +kernel) (Nat.le_of_ble_eq_true rfl) (fun K C E => ?_)
  have hP0 := hP
  have hQ0 := hQ
  obtain ⟨h8, h6, h16, hnp, hwho, hvb, hts⟩ := hP
  obtain ⟨hq0, hq1, hq2, hq3, hq4, hq5, hq6⟩ := hQ
  have hpF : ∀ L : List x_E, L.length = 20 → x_bk (x_ov M a L) p (plT p Q) := fun L h => x_ov_far 20 hp h hd
  refine x_to (x_ov_self hb).symm ?_
  have lp : ∀ (w i : Nat) (x : Int32) (B : HS) (sk : Nat → Int32) (ht : Int32), i + w = p_no P → x = nI i → B = h_it (h_ord1 P) i A → h_ok P B → x_X K 2 0 0 2 [(0, .ref a), (1, .int x)] [] (x_ov M a (hvT a p P B hx sk ht)) := by
    intro w
    induction w with
    | zero =>
      intro i x B sk ht hi hx hz hkB
      subst hx
      have e : i = p_no P := by omega
      subst e
      refine x_iload_n C dX0_obeyOrders_2 rfl rfl ?_
      refine x_aload_n C dX0_obeyOrders_3 rfl rfl ?_
      refine x_getfield C dX0_obeyOrders_4 fX0_48 (x_ovg 0 rfl) rfl ?_
      refine x_getfield C dX0_obeyOrders_7 fX0_138 ((hpF _ rfl) 0 _ rfl) rfl ?_
      refine x_icmp_ge (tgt := 74) C dX0_obeyOrders_10 (by decide) (fun c10 => ?_) (fun c10 => absurd (by rw [hq2]; exact nI_le (Nat.le_refl _) (by omega)) c10)
      refine x_vret C E dX0_obeyOrders_74 ?_
      exact ⟨rfl, sk, ht, by unfold h_ord; rw [← hz]⟩
    | succ w ih =>
      intro i x B sk ht hi hx hz hkB
      subst hx
      have hB1 : h_ok P (h_ord1 P B i) := h_ok_ord1 hP0 (by omega) hkB
      obtain ⟨hq5a, hq5b, -⟩ := hq5 i (by omega)
      refine x_iload_n C dX0_obeyOrders_2 rfl rfl ?_
      refine x_aload_n C dX0_obeyOrders_3 rfl rfl ?_
      refine x_getfield C dX0_obeyOrders_4 fX0_48 (x_ovg 0 rfl) rfl ?_
      refine x_getfield C dX0_obeyOrders_7 fX0_138 ((hpF _ rfl) 0 _ rfl) rfl ?_
      refine x_icmp_ge (tgt := 74) C dX0_obeyOrders_10 (by decide) (fun c10 => absurd c10 (by rw [hq2]; exact nI_ge (by omega) (by omega))) (fun c10 => ?_)
      refine x_aload_n C dX0_obeyOrders_13 rfl rfl ?_
      refine x_getfield C dX0_obeyOrders_14 fX0_12 (x_ovg 0 rfl) rfl ?_
      refine x_aload_n C dX0_obeyOrders_17 rfl rfl ?_
      refine x_getfield C dX0_obeyOrders_18 fX0_48 (x_ovg 0 rfl) rfl ?_
      refine x_iload_n C dX0_obeyOrders_21 rfl rfl ?_
      refine x_aload_n C dX0_obeyOrders_22 rfl rfl ?_
      refine x_callV3 C dX0_obeyOrders_23 kX0_141 (c_X3_holds hO hP0 hQ0 x_ov_bk (hpF _ rfl) hd hkB (show i < p_no P by omega)) (x_ovg 1 rfl) rfl (by decide) ⟨Nat.zero_le _, Nat.zero_le _⟩ (Nat.le_of_ble_eq_true rfl) ?_
      rintro _ _ ⟨rfl, sk1, ht1, rfl⟩
      refine x_to (x_ov_ov rfl) ?_
      refine x_if_eq (tgt := 68) C dX0_obeyOrders_26 (by decide) (fun c26 => ?_) (fun c26 => ?_)
      · have hh : ¬ h_holds P B i = true := fun q => by rw [q] at c26; exact absurd c26 (by decide)
        refine x_iinc (v := 1) C dX0_obeyOrders_68 rfl (by decide) rfl (by decide) ?_
        refine x_goto (tgt := 2) C dX0_obeyOrders_71 (by decide) ?_
        refine x_take 2 ?_
        first
          | (have e9 : h_ord1 P B i = h_u (h_obey P B i).1 8 1 ((h_obey P B i).1 8 1 + 1) := by unfold h_ord1; rw [if_pos hh, if_pos hb2]
             exact ih (i + 1) _ (h_u (h_obey P B i).1 8 1 ((h_obey P B i).1 8 1 + 1)) _ _ (by omega) (nI_1 i) (by rw [← e9]; show _ = h_ord1 P (h_it (h_ord1 P) i A) i; rw [← hz]) (by rw [← e9]; exact hB1))
          | (have e9 : h_ord1 P B i = (h_obey P B i).1 := by unfold h_ord1; rw [if_pos hh, if_neg hb2]
             exact ih (i + 1) _ (h_obey P B i).1 _ _ (by omega) (nI_1 i) (by rw [← e9]; show _ = h_ord1 P (h_it (h_ord1 P) i A) i; rw [← hz]) (by rw [← e9]; exact hB1))
          | (have e9 : h_ord1 P B i = B := by unfold h_ord1; rw [if_neg hh]
             exact ih (i + 1) _ B _ _ (by omega) (nI_1 i) (by show B = h_ord1 P (h_it (h_ord1 P) i A) i; rw [← hz, e9]) hkB)
          | fail
      · have hh : h_holds P B i = true := by
          cases q : h_holds P B i with
          | false => rw [q] at c26; exact absurd rfl c26
          | true => rfl
        refine x_aload_n C dX0_obeyOrders_29 rfl rfl ?_
        refine x_aload_n C dX0_obeyOrders_30 rfl rfl ?_
        refine x_getfield C dX0_obeyOrders_31 fX0_48 (x_ovg 0 rfl) rfl ?_
        refine x_getfield C dX0_obeyOrders_34 fX0_145 ((hpF _ rfl) 0 _ rfl) rfl ?_
        refine x_iload_n C dX0_obeyOrders_37 rfl rfl ?_
        refine x_callV1 C dX0_obeyOrders_38 kX0_78 (c_X4_get hO (by decide) (x_bk_sub (hpF _ rfl) 9 rfl)) ((hpF _ rfl) 9 _ rfl) rfl (by decide) ⟨Nat.zero_le _, Nat.zero_le _⟩ (Nat.le_of_ble_eq_true rfl) ?_
        rintro _ _ ⟨rfl, rfl⟩
        rw [rg_nI (show i < 16 by omega) (by decide)]
        rw [hq5a]
        refine x_aload_n C dX0_obeyOrders_41 rfl rfl ?_
        refine x_getfield C dX0_obeyOrders_42 fX0_48 (x_ovg 0 rfl) rfl ?_
        refine x_getfield C dX0_obeyOrders_45 fX0_148 ((hpF _ rfl) 0 _ rfl) rfl ?_
        refine x_iload_n C dX0_obeyOrders_48 rfl rfl ?_
        refine x_callV1 C dX0_obeyOrders_49 kX0_78 (c_X4_get hO (by decide) (x_bk_sub (hpF _ rfl) 11 rfl)) ((hpF _ rfl) 11 _ rfl) rfl (by decide) ⟨Nat.zero_le _, Nat.zero_le _⟩ (Nat.le_of_ble_eq_true rfl) ?_
        rintro _ _ ⟨rfl, rfl⟩
        rw [rg_nI (show i < 16 by omega) (by decide)]
        rw [hq5b]
        refine x_callV2 C dX0_obeyOrders_52 kX0_151 (c_X0_obey hO hP0 hQ0 x_ov_bk (hpF _ rfl) hd hkB (show i < p_no P by omega)) (x_ovg 0 rfl) rfl (by decide) ⟨Nat.zero_le _, Nat.zero_le _⟩ (Nat.le_of_ble_eq_true rfl) ?_
        rintro _ _ ⟨rfl, rfl⟩
        refine x_to (x_ov_ov rfl) ?_
        refine x_if_eq (tgt := 68) C dX0_obeyOrders_55 (by decide) (fun c55 => ?_) (fun c55 => ?_)
        · have hb2 : ¬ (h_obey P B i).2 = true := fun q => by rw [q] at c55; exact absurd c55 (by decide)
          refine x_iinc (v := 1) C dX0_obeyOrders_68 rfl (by decide) rfl (by decide) ?_
          refine x_goto (tgt := 2) C dX0_obeyOrders_71 (by decide) ?_
          refine x_take 2 ?_
          first
            | (have e9 : h_ord1 P B i = h_u (h_obey P B i).1 8 1 ((h_obey P B i).1 8 1 + 1) := by unfold h_ord1; rw [if_pos hh, if_pos hb2]
               exact ih (i + 1) _ (h_u (h_obey P B i).1 8 1 ((h_obey P B i).1 8 1 + 1)) _ _ (by omega) (nI_1 i) (by rw [← e9]; show _ = h_ord1 P (h_it (h_ord1 P) i A) i; rw [← hz]) (by rw [← e9]; exact hB1))
            | (have e9 : h_ord1 P B i = (h_obey P B i).1 := by unfold h_ord1; rw [if_pos hh, if_neg hb2]
               exact ih (i + 1) _ (h_obey P B i).1 _ _ (by omega) (nI_1 i) (by rw [← e9]; show _ = h_ord1 P (h_it (h_ord1 P) i A) i; rw [← hz]) (by rw [← e9]; exact hB1))
            | (have e9 : h_ord1 P B i = B := by unfold h_ord1; rw [if_neg hh]
               exact ih (i + 1) _ B _ _ (by omega) (nI_1 i) (by show B = h_ord1 P (h_it (h_ord1 P) i A) i; rw [← hz, e9]) hkB)
            | fail
        · have hb2 : (h_obey P B i).2 = true := by
            cases q : (h_obey P B i).2 with
            | false => rw [q] at c55; exact absurd rfl c55
            | true => rfl
          refine x_aload_n C dX0_obeyOrders_58 rfl rfl ?_
          refine x_dup C dX0_obeyOrders_59 rfl ?_
          refine x_getfield C dX0_obeyOrders_60 fX0_71 (x_ovg 0 rfl) rfl ?_
          refine x_iconst (v := 1) C dX0_obeyOrders_63 (by decide) ?_
          refine x_iadd C dX0_obeyOrders_64 ?_
          refine x_putfield C dX0_obeyOrders_65 fX0_71 (x_ovg 0 rfl) rfl rfl (Nat.le_of_ble_eq_true rfl) ?_
          refine x_to (x_st_ov 0 (Nat.le_of_ble_eq_true rfl)) ?_
          refine x_iinc (v := 1) C dX0_obeyOrders_68 rfl (by decide) rfl (by decide) ?_
          refine x_goto (tgt := 2) C dX0_obeyOrders_71 (by decide) ?_
          refine x_take 2 ?_
          first
            | (have e9 : h_ord1 P B i = h_u (h_obey P B i).1 8 1 ((h_obey P B i).1 8 1 + 1) := by unfold h_ord1; rw [if_pos hh, if_pos hb2]
               exact ih (i + 1) _ (h_u (h_obey P B i).1 8 1 ((h_obey P B i).1 8 1 + 1)) _ _ (by omega) (nI_1 i) (by rw [← e9]; show _ = h_ord1 P (h_it (h_ord1 P) i A) i; rw [← hz]) (by rw [← e9]; exact hB1))
            | (have e9 : h_ord1 P B i = (h_obey P B i).1 := by unfold h_ord1; rw [if_pos hh, if_neg hb2]
               exact ih (i + 1) _ (h_obey P B i).1 _ _ (by omega) (nI_1 i) (by rw [← e9]; show _ = h_ord1 P (h_it (h_ord1 P) i A) i; rw [← hz]) (by rw [← e9]; exact hB1))
            | (have e9 : h_ord1 P B i = B := by unfold h_ord1; rw [if_neg hh]
               exact ih (i + 1) _ B _ _ (by omega) (nI_1 i) (by show B = h_ord1 P (h_it (h_ord1 P) i A) i; rw [← hz, e9]) hkB)
            | fail
  refine x_iconst (v := 0) C dX0_obeyOrders_0 (by decide) ?_
  refine x_istore_n C dX0_obeyOrders_1 rfl rfl (by decide) ?_
  refine x_take 2 ?_
  exact lp (p_no P) 0 0 A sk ht (by omega) rfl rfl hk9
set_option maxHeartbeats 4000000 in
set_option maxRecDepth 100000 in
theorem c_X0_passOneDay {l : Launch} {Y0 : x_Y} (hO : x_Ok Y0) {M : x_M} {a p : Nat} {P : PL} {A : HS} {hx sk : Nat → Int32} {ht : Int32} {Q : HS} (hP : p_ok P) (hQ : q_is Q P) (hb : x_bk M a (hvT a p P A hx sk ht)) (hp : x_bk M p (plT p Q)) (hd : p + 21 ≤ a ∨ a + 20 ≤ p) (hk9 : h_ok P A) : x_C l Y0 yX0_passOneDay cX0_passOneDay 2 (some .int) 6 0 0 [.ref a] M (fun u M1 => u = some (.int (h_day P A).2) ∧ ∃ (sk1 : Nat → Int32) (ht1 : Int32), M1 = x_ov M a (hvT a p P ((h_day P A).1) hx sk1 ht1)) := by
  refine x_start hO (by decide +kernel) (Nat.le_of_ble_eq_true rfl) (fun K C E => ?_)
  have hP0 := hP
  have hQ0 := hQ
  obtain ⟨h8, h6, h16, hnp, hwho, hvb, hts⟩ := hP
  obtain ⟨hq0, hq1, hq2, hq3, hq4, hq5, hq6⟩ := hQ
  have hpF : ∀ L : List x_E, L.length = 20 → x_bk (x_ov M a L) p (plT p Q) := fun L h => x_ov_far 20 hp h hd
  refine x_to (x_ov_self hb).symm ?_
  refine x_aload_n C dX0_passOneDay_0 rfl rfl ?_
  refine x_callV0 C dX0_passOneDay_1 kX0_125 (c_X0_obeyOrders hO hP0 hQ0 x_ov_bk (hpF _ rfl) hd hk9) (x_ovg 0 rfl) rfl (by decide) ⟨Nat.zero_le _, Nat.zero_le _⟩ (Nat.le_of_ble_eq_true rfl) ?_
  rintro _ _ ⟨rfl, sk1, ht1, rfl⟩
  refine x_to (x_ov_ov rfl) ?_
  have hkA := h_ok_ord hP0 hk9
  refine x_aload_n C dX0_passOneDay_4 rfl rfl ?_
  refine x_getfield C dX0_passOneDay_5 fX0_74 (x_ovg 0 rfl) rfl ?_
  refine x_if_eq (tgt := 19) C dX0_passOneDay_8 (by decide) (fun c8 => ?_) (fun c8 => ?_)
  · have hq8 : h_ord P A 1 8 = 1 := (hkA.1 8).resolve_left (fun q => by rw [q] at c8; exact absurd c8 (by decide))
    have e9 : h_mid P (h_ord P A) = h_ord P A := if_neg (by rw [hq8]; decide)
    refine x_aload_n C dX0_passOneDay_19 rfl rfl ?_
    refine x_callV0 C dX0_passOneDay_20 kX0_134 (c_X0_spreadNews hO hP0 hQ0 x_ov_bk (hpF _ rfl) hd (by first | exact h_ok_dec (h_ok_col hP0 hkA) | exact hkA)) (x_ovg 0 rfl) rfl (by decide) ⟨Nat.zero_le _, Nat.zero_le _⟩ (Nat.le_of_ble_eq_true rfl) ?_
    rintro _ _ ⟨rfl, rfl⟩
    refine x_to (x_ov_ov rfl) ?_
    refine x_istore_n C dX0_passOneDay_23 rfl rfl (by decide) ?_
    refine x_aload_n C dX0_passOneDay_24 rfl rfl ?_
    refine x_dup C dX0_passOneDay_25 rfl ?_
    refine x_getfield C dX0_passOneDay_26 fX0_67 (x_ovg 0 rfl) rfl ?_
    refine x_iconst (v := 1) C dX0_passOneDay_29 (by decide) ?_
    refine x_iadd C dX0_passOneDay_30 ?_
    refine x_putfield C dX0_passOneDay_31 fX0_67 (x_ovg 0 rfl) rfl rfl (Nat.le_of_ble_eq_true rfl) ?_
    refine x_to (x_st_ov 0 (Nat.le_of_ble_eq_true rfl)) ?_
    refine x_iload_n C dX0_passOneDay_34 rfl rfl ?_
    refine x_iret C E dX0_passOneDay_35 ?_
    refine ⟨?_, sk1, ht1, ?_⟩
    · show _ = some (Value.int (h_spr P (h_mid P (h_ord P A))).2)
      rw [e9]
    · show _ = x_ov M a (hvT a p P (h_u (h_spr P (h_mid P (h_ord P A))).1 8 0 ((h_spr P (h_mid P (h_ord P A))).1 8 0 + 1)) hx sk1 ht1)
      rw [e9]
      rfl
  · have hq8 : h_ord P A 1 8 = 0 := (hkA.1 8).resolve_right (fun q => by rw [q] at c8; exact absurd c8 (by decide))
    have e9 : h_mid P (h_ord P A) = h_dec P (h_col P (h_ord P A)) := if_pos hq8
    refine x_aload_n C dX0_passOneDay_11 rfl rfl ?_
    refine x_callV0 C dX0_passOneDay_12 kX0_128 (c_X0_collectVotes hO hP0 hQ0 x_ov_bk (hpF _ rfl) hd hkA) (x_ovg 0 rfl) rfl (by decide) ⟨Nat.zero_le _, Nat.zero_le _⟩ (Nat.le_of_ble_eq_true rfl) ?_
    rintro _ _ ⟨rfl, rfl⟩
    refine x_to (x_ov_ov rfl) ?_
    refine x_aload_n C dX0_passOneDay_15 rfl rfl ?_
    refine x_callV0 C dX0_passOneDay_16 kX0_131 (c_X0_decideDeals hO hP0 hQ0 x_ov_bk (hpF _ rfl) hd) (x_ovg 0 rfl) rfl (by decide) ⟨Nat.zero_le _, Nat.zero_le _⟩ (Nat.le_of_ble_eq_true rfl) ?_
    rintro _ _ ⟨rfl, rfl⟩
    refine x_to (x_ov_ov rfl) ?_
    refine x_aload_n C dX0_passOneDay_19 rfl rfl ?_
    refine x_callV0 C dX0_passOneDay_20 kX0_134 (c_X0_spreadNews hO hP0 hQ0 x_ov_bk (hpF _ rfl) hd (by first | exact h_ok_dec (h_ok_col hP0 hkA) | exact hkA)) (x_ovg 0 rfl) rfl (by decide) ⟨Nat.zero_le _, Nat.zero_le _⟩ (Nat.le_of_ble_eq_true rfl) ?_
    rintro _ _ ⟨rfl, rfl⟩
    refine x_to (x_ov_ov rfl) ?_
    refine x_istore_n C dX0_passOneDay_23 rfl rfl (by decide) ?_
    refine x_aload_n C dX0_passOneDay_24 rfl rfl ?_
    refine x_dup C dX0_passOneDay_25 rfl ?_
    refine x_getfield C dX0_passOneDay_26 fX0_67 (x_ovg 0 rfl) rfl ?_
    refine x_iconst (v := 1) C dX0_passOneDay_29 (by decide) ?_
    refine x_iadd C dX0_passOneDay_30 ?_
    refine x_putfield C dX0_passOneDay_31 fX0_67 (x_ovg 0 rfl) rfl rfl (Nat.le_of_ble_eq_true rfl) ?_
    refine x_to (x_st_ov 0 (Nat.le_of_ble_eq_true rfl)) ?_
    refine x_iload_n C dX0_passOneDay_34 rfl rfl ?_
    refine x_iret C E dX0_passOneDay_35 ?_
    refine ⟨?_, sk1, ht1, ?_⟩
    · show _ = some (Value.int (h_spr P (h_mid P (h_ord P A))).2)
      rw [e9]
    · show _ = x_ov M a (hvT a p P (h_u (h_spr P (h_mid P (h_ord P A))).1 8 0 ((h_spr P (h_mid P (h_ord P A))).1 8 0 + 1)) hx sk1 ht1)
      rw [e9]
      rfl
set_option maxHeartbeats 4000000 in
set_option maxRecDepth 100000 in
theorem c_X0_countUp {l : Launch} {Y0 : x_Y} (hO : x_Ok Y0) {M : x_M} {a p : Nat} {P : PL} {A : HS} {hx sk : Nat → Int32} {ht : Int32} {Q : HS} (hP : p_ok P) (hQ : q_is Q P) (hb : x_bk M a (hvT a p P A hx sk ht)) (hp : x_bk M p (plT p Q)) : x_C l Y0 yX0_countUp cX0_countUp 1 (some .int) 3 0 0 [.ref a] M (fun u M1 => u = some (.int (h_awake P A)) ∧ M1 = M) := by
  refine x_start hO (by decide +kernel) (Nat.le_of_ble_eq_true rfl) (fun K C E => ?_)
  obtain ⟨h8, h6, h16, hnp, hwho, hvb, hts⟩ := hP
  obtain ⟨hq0, hq1, hq2, hq3, hq4, hq5, hq6⟩ := hQ
  refine x_aload_n C dX0_countUp_0 rfl rfl ?_
  refine x_getfield C dX0_countUp_1 fX0_48 (hb 0 _ rfl) rfl ?_
  refine x_getfield C dX0_countUp_4 fX0_82 (hp 0 _ rfl) rfl ?_
  refine x_aload_n C dX0_countUp_7 rfl rfl ?_
  refine x_getfield C dX0_countUp_8 fX0_27 (hb 0 _ rfl) rfl ?_
  refine x_aload_n C dX0_countUp_11 rfl rfl ?_
  refine x_getfield C dX0_countUp_12 fX0_48 (hb 0 _ rfl) rfl ?_
  refine x_getfield C dX0_countUp_15 fX0_82 (hp 0 _ rfl) rfl ?_
  rw [hq0]
  refine x_callV1 C dX0_countUp_18 kX0_85 (c_X4_sum hO (by decide) h8 (x_bk_sub hb 6 rfl)) (hb 6 _ rfl) rfl (by decide) ⟨Nat.zero_le _, Nat.zero_le _⟩ (Nat.le_of_ble_eq_true rfl) ?_
  rintro _ _ ⟨rfl, rfl⟩
  refine x_isub C dX0_countUp_21 ?_
  refine x_iret C E dX0_countUp_22 ?_
  refine ⟨?_, rfl⟩
  unfold h_awake
  rw [s_sum_congr (g := A 1) (p_nd P) (fun j hj => s_fill_in (by omega))]
