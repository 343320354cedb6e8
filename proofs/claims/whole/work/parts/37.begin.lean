theorem x_nx_0 {M : x_M} {k : Nat} {c : x_E} {L : List x_E} (h : 1 ≤ L.length) : x_ov (x_nx (x_nw M c) k) M.2 L = x_ov (x_nx M (k + 1)) M.2 L := by
  refine Prod.ext (funext fun q => ?_) (show M.2 + 1 + k = M.2 + (k + 1) by omega)
  show (if M.2 ≤ q ∧ q < M.2 + L.length then L[q - M.2]? else (if q = M.2 then some c else M.1 q)) = (if M.2 ≤ q ∧ q < M.2 + L.length then L[q - M.2]? else M.1 q)
  by_cases h1 : M.2 ≤ q ∧ q < M.2 + L.length
  · rw [if_pos h1, if_pos h1]
  · rw [if_neg h1, if_neg h1, if_neg (by omega)]
theorem x_nx_far {M : x_M} {a k : Nat} {L L' : List x_E} (h : x_bk M a L) (hl : a + L.length ≤ M.2) : x_bk (x_ov (x_nx M k) M.2 L') a L := by
  intro j c' hc
  have hj : j < L.length := (List.getElem?_eq_some_iff.mp hc).1
  show (if M.2 ≤ a + j ∧ a + j < M.2 + L'.length then L'[a + j - M.2]? else M.1 (a + j)) = _
  rw [if_neg (by omega)]
  exact h j c' hc
theorem s_fill_i {i : Nat} {f g : Nat → Int32} : upd (s_fill i f g) i (g i) = s_fill (i + 1) f g := by
  funext j
  by_cases h : j = i
  · subst h
    simp [upd, s_fill]
  · have h1 : j < i ↔ j < i + 1 := by omega
    simp [upd, s_fill, h, h1]
set_option maxHeartbeats 4000000 in
set_option maxRecDepth 100000 in
theorem c_X10_begin {l : Launch} {Y0 : x_Y} (hO : x_Ok Y0) {M : x_M} {m o q : Nat} {P0 P : PL} {A : HS} {hx : Nat → Int32} {z : Int32} {G : HS} {fs : List Value} (hQ : g_is G P) (hb : x_bk M m (stT m o P0 A hx z)) (hp : x_bk M q (pmT q G)) (ho : x_bk M o [.inr (11, fs)]) (ho11 : fs[11]? = some (.ref q)) (hd : q + 11 ≤ m ∨ m + 9 ≤ q) (hdo : o + 1 ≤ m ∨ m + 9 ≤ o) (hmM : m + 9 ≤ M.2) (hqM : q + 11 ≤ M.2) (hoM : o + 1 ≤ M.2) : x_C l Y0 yX10_begin cX10_begin 2 none 5 9 129 [.ref m] M (fun u M1 => u = none ∧ M1 = x_ov (x_ov (x_nx M 9) M.2 (stT M.2 o P h_zz (fun _ => 0) 0)) m [.inr (10, [.int 0, .int 0, .int 0, .ref (m + 1), .ref (m + 2), .ref (m + 3), .ref (m + 4), .ref (m + 5), .ref (m + 6), .ref (m + 7), .ref (m + 8), .ref o]), .inl (0, 8, .inl (s_fill 8 (fun _ => 0) (G 0))), .inl (0, 8, .inl (s_fill 8 (fun _ => 0) (fun _ => -1))), .inl (0, 8, .inl (fun _ => 0)), .inl (2, 9, .inl (fun _ => 0)), .inl (0, 6, .inl (fun _ => 0)), .inl (0, 6, .inl (fun _ => 0)), .inl (0, 36, .inl (fun _ => 0)), .inl (2, 36, .inl (fun _ => 0))]) := by
  refine x_start hO (by decide +kernel) (Nat.le_of_ble_eq_true rfl) (fun K C E => ?_)
  have e0 : s_fill (p_nd P) (fun _ => 0) (h_zz 0) = fun _ => 0 := by
    funext j
    unfold s_fill h_zz
    split <;> rfl
  have hbN : x_bk (x_ov (x_nx M 9) M.2 (stT M.2 o P h_zz (fun _ => 0) 0)) m (stT m o P0 A hx z) := x_nx_far hb hmM
  have hpN : x_bk (x_ov (x_nx M 9) M.2 (stT M.2 o P h_zz (fun _ => 0) 0)) q (pmT q G) := x_nx_far hp hqM
  have hoN : x_bk (x_ov (x_nx M 9) M.2 (stT M.2 o P h_zz (fun _ => 0) 0)) o [.inr (11, fs)] := x_nx_far ho hoM
  have hpF : ∀ L : List x_E, L.length = 9 → x_bk (x_ov (x_ov (x_nx M 9) M.2 (stT M.2 o P h_zz (fun _ => 0) 0)) m L) q (pmT q G) := fun L h => x_ov_far 9 hpN h hd
  have hoF : ∀ L : List x_E, L.length = 9 → x_bk (x_ov (x_ov (x_nx M 9) M.2 (stT M.2 o P h_zz (fun _ => 0) 0)) m L) o [.inr (11, fs)] := fun L h => x_ov_far 9 hoN h hdo
  have lp : ∀ (w i : Nat) (x : Int32) (f b : Nat → Int32), i + w = 8 → x = nI i → f = s_fill i (fun _ => 0) (G 0) → b = s_fill i (fun _ => 0) (fun _ => -1) → x_X K 2 9 129 18 [(0, .ref m), (1, .int x)] [] (x_ov (x_ov (x_nx M 9) M.2 (stT M.2 o P h_zz (fun _ => 0) 0)) m [.inr (10, [.int 0, .int 0, .int 0, .ref (m + 1), .ref (m + 2), .ref (m + 3), .ref (m + 4), .ref (m + 5), .ref (m + 6), .ref (m + 7), .ref (m + 8), .ref o]), .inl (0, 8, .inl f), .inl (0, 8, .inl b), .inl (0, 8, .inl (fun _ => 0)), .inl (2, 9, .inl (fun _ => 0)), .inl (0, 6, .inl (fun _ => 0)), .inl (0, 6, .inl (fun _ => 0)), .inl (0, 36, .inl (fun _ => 0)), .inl (2, 36, .inl (fun _ => 0))]) := by
    intro w
    induction w with
    | zero =>
      intro i x f b hi hx9 hf hg
      subst hx9
      have e : i = 8 := by omega
      refine x_iload_n C dX10_begin_18 rfl rfl ?_
      refine x_bipush (v := 8) C dX10_begin_19 (by decide) ?_
      refine x_icmp_ge (tgt := 55) C dX10_begin_21 (by decide) (fun c21 => ?_) (fun c21 => absurd (show nI 8 ≤ nI i from nI_le (by omega) (by omega)) c21)
      refine x_vret C E dX10_begin_55 ?_
      rw [hf, hg, e]
      exact ⟨rfl, rfl⟩
    | succ w ih =>
      intro i x f b hi hx9 hf hg
      subst hx9
      refine x_iload_n C dX10_begin_18 rfl rfl ?_
      refine x_bipush (v := 8) C dX10_begin_19 (by decide) ?_
      refine x_icmp_ge (tgt := 55) C dX10_begin_21 (by decide) (fun c21 => absurd c21 (show ¬ nI 8 ≤ nI i from nI_ge (by omega) (by decide))) (fun c21 => ?_)
      refine x_aload_n C dX10_begin_24 rfl rfl ?_
      refine x_getfield C dX10_begin_25 fX10_15 (x_ovg 0 rfl) rfl ?_
      refine x_iload_n C dX10_begin_28 rfl rfl ?_
      refine x_aload_n C dX10_begin_29 rfl rfl ?_
      refine x_getfield C dX10_begin_30 fX10_3 (x_ovg 0 rfl) rfl ?_
      refine x_getfield C dX10_begin_33 fX10_64 ((hoF _ rfl) 0 _ rfl) ho11 ?_
      refine x_getfield C dX10_begin_36 fX10_68 ((hpF _ rfl) 0 _ rfl) rfl ?_
      refine x_iload_n C dX10_begin_39 rfl rfl ?_
      refine x_iaload C dX10_begin_40 ((hpF _ rfl) 1 _ rfl) (vp_in_nI (show i < 8 by omega) (by decide)) ?_
      rw [nI_clamp (show i < 2 ^ 31 by omega)]
      refine x_iastore C dX10_begin_41 (x_ovg 1 rfl) (vp_in_nI (show i < 8 by omega) (by decide)) ?_
      refine x_to (x_st_ov 1 (Nat.le_of_ble_eq_true rfl)) ?_
      rw [nI_clamp (show i < 2 ^ 31 by omega)]
      refine x_aload_n C dX10_begin_42 rfl rfl ?_
      refine x_getfield C dX10_begin_43 fX10_19 (x_ovg 0 rfl) rfl ?_
      refine x_iload_n C dX10_begin_46 rfl rfl ?_
      refine x_iconst (v := (-1)) C dX10_begin_47 (by decide) ?_
      refine x_iastore C dX10_begin_48 (x_ovg 2 rfl) (vp_in_nI (show i < 8 by omega) (by decide)) ?_
      refine x_to (x_st_ov 2 (Nat.le_of_ble_eq_true rfl)) ?_
      rw [nI_clamp (show i < 2 ^ 31 by omega)]
      refine x_iinc (v := 1) C dX10_begin_49 rfl (by decide) rfl (by decide) ?_
      refine x_goto (tgt := 18) C dX10_begin_52 (by decide) ?_
      refine x_take 2 ?_
      exact ih (i + 1) _ _ _ (by omega) (nI_1 i) (by rw [hf, s_fill_i]) (by rw [hg]; exact s_fill_i (g := fun _ => -1))
  refine x_aload_n C dX10_begin_0 rfl rfl ?_
  refine x_new C dX10_begin_1 nX10_4 (by decide) (by decide) ?_
  refine x_dup C dX10_begin_4 rfl ?_
  refine x_aload_n C dX10_begin_5 rfl rfl ?_
  refine x_getfield C dX10_begin_6 fX10_3 (x_nw_far hb hmM 0 _ rfl) rfl ?_
  refine x_callI (As := [.ref o]) C dX10_begin_9 kX10_57 (c_X10_init (P := P) hO x_nw_bk rfl) rfl rfl (by decide) (by decide) (Nat.le_of_ble_eq_true rfl) ?_
  rintro _ _ ⟨rfl, rfl⟩
  refine x_to (x_nx_0 (Nat.le_of_ble_eq_true rfl)) ?_
  refine x_callV1 C dX10_begin_12 kX10_60 (c_X10_become hO hbN x_ov_bk (fun _ => Or.inl rfl) (fun _ => Or.inl rfl) (Or.inr hmM)) (hbN 0 _ rfl) rfl (by decide) ⟨by decide, by decide⟩ (Nat.le_of_ble_eq_true rfl) ?_
  rintro _ _ ⟨rfl, rfl⟩
  refine x_pop C dX10_begin_15 rfl ?_
  refine x_iconst (v := 0) C dX10_begin_16 (by decide) ?_
  refine x_istore_n C dX10_begin_17 rfl rfl (by decide) ?_
  refine x_to (congrArg (x_ov _ m) (show stT m o P h_zz (fun _ => 0) 0 = [.inr (10, [.int 0, .int 0, .int 0, .ref (m + 1), .ref (m + 2), .ref (m + 3), .ref (m + 4), .ref (m + 5), .ref (m + 6), .ref (m + 7), .ref (m + 8), .ref o]), .inl (0, 8, .inl (fun _ => 0)), .inl (0, 8, .inl (fun _ => 0)), .inl (0, 8, .inl (fun _ => 0)), .inl (2, 9, .inl (fun _ => 0)), .inl (0, 6, .inl (fun _ => 0)), .inl (0, 6, .inl (fun _ => 0)), .inl (0, 36, .inl (fun _ => 0)), .inl (2, 36, .inl (fun _ => 0))] by unfold stT; rw [e0]; rfl)) ?_
  exact lp 8 0 0 _ _ (by omega) rfl (by funext j; rfl) (by funext j; rfl)
