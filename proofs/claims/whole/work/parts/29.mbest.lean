set_option maxHeartbeats 4000000 in
set_option maxRecDepth 100000 in
theorem c_X11_best {l : Launch} {Y0 : x_Y} (hO : x_Ok Y0) {M : x_M} {m o q : Nat} {P : PL} {A : HS} {hx : Nat → Int32} {z : Int32} {G : HS} {th sz ea tk dp : Int32} {tp kd fr mn rl me rd t m2 : Nat} (hP : p_ok P) (hQ : g_is G P) (hk9 : h_ok P A) (hb : x_bk M m (stT m o P A hx z)) (hp : x_bk M q (pmT q G)) (ho : x_bk M o [.inr (11, mdF th sz ea tk dp tp kd fr mn rl me q rd t m m2)]) (hdo : o + 1 ≤ m ∨ m + 9 ≤ o) (hqo : q + 11 ≤ o ∨ o + 1 ≤ q) (hd : q + 11 ≤ m ∨ m + 9 ≤ q) {sk : Nat → Int32} (ht : x_bk M t [.inl (0, 400, .inl sk)]) (htm : m + 9 ≤ t ∨ t + 1 ≤ m) (htq : q + 11 ≤ t ∨ t + 1 ≤ q) (hto : o + 1 ≤ t ∨ t + 1 ≤ o) {T : HS} {hy : Nat → Int32} {y9 : Int32} (hn2 : x_bk M m2 (stT m2 o P T hy y9)) (hm2 : m + 9 ≤ m2 ∨ m2 + 9 ≤ m) (hm2o : o + 1 ≤ m2 ∨ m2 + 9 ≤ o) (hm2q : q + 11 ≤ m2 ∨ m2 + 9 ≤ q) (htm2 : m2 + 9 ≤ t ∨ t + 1 ≤ m2) : x_C l Y0 yX11_best cX11_best 5 (some .int) 8 0 0 [.ref o] M (fun u M1 => u = some (.int (h_best P A)) ∧ ∃ (sk1 : Nat → Int32) (B : HS) (hy1 : Nat → Int32) (y8 : Int32), M1 = x_ov (x_ov M t [.inl (0, 400, .inl sk1)]) m2 (stT m2 o P B hy1 y8)) := by
  refine x_start hO (by decide +kernel) (Nat.le_of_ble_eq_true rfl) (fun K C E => ?_)
  have hP0 := hP
  have hQ0 := hQ
  obtain ⟨h8, h6, h16, hnp, hwho, hvb, hts⟩ := hP
  obtain ⟨hq0, hq1, hq2, hq3, hq4, hq5, hq6⟩ := hQ
  have hbS : ∀ Lt L2 : List x_E, Lt.length = 1 → L2.length = 9 → x_bk (x_ov (x_ov M t Lt) m2 L2) m (stT m o P A hx z) := fun Lt L2 h1 h2 => x_ov_far 9 (x_ov_far 1 hb h1 htm) h2 hm2
  have hpS : ∀ Lt L2 : List x_E, Lt.length = 1 → L2.length = 9 → x_bk (x_ov (x_ov M t Lt) m2 L2) q (pmT q G) := fun Lt L2 h1 h2 => x_ov_far 9 (x_ov_far 1 hp h1 htq) h2 hm2q
  have hoS : ∀ Lt L2 : List x_E, Lt.length = 1 → L2.length = 9 → x_bk (x_ov (x_ov M t Lt) m2 L2) o [.inr (11, mdF th sz ea tk dp tp kd fr mn rl me q rd t m m2)] := fun Lt L2 h1 h2 => x_ov_far 9 (x_ov_far 1 ho h1 hto) h2 hm2o
  have htS : ∀ (L : List x_E) (sk : Nat → Int32), L.length = 9 → x_bk (x_ov (x_ov M t [.inl (0, 400, .inl sk)]) m2 L) t [.inl (0, 400, .inl sk)] := fun L sk h => x_ov_far 9 x_ov_bk h (by simp only [List.length_cons, List.length_nil]; omega)
  have hst : M = x_ov (x_ov M t [.inl (0, 400, .inl sk)]) m2 (stT m2 o P T hy y9) := by
    rw [x_ov_self ht, x_ov_self hn2]
  refine x_to hst ?_
  have lp : ∀ (w i : Nat) (x : Int32) (qq : Int32 × Int32) (sk : Nat → Int32) (T : HS) (hy : Nat → Int32) (y9 : Int32), i + w = p_nd P → x = nI i → qq = h_it (h_b1 P A) i (-1, 0) → x_X K 5 0 0 6 [(0, .ref o), (1, .int qq.1), (2, .int qq.2), (3, .int x)] [] (x_ov (x_ov M t [.inl (0, 400, .inl sk)]) m2 (stT m2 o P T hy y9)) := by
    intro w
    induction w with
    | zero =>
      intro i x qq sk T hy y9 hi hx9 hz
      subst hx9
      have e : i = p_nd P := by omega
      refine x_iload_n C dX11_best_6 rfl rfl ?_
      refine x_aload_n C dX11_best_7 rfl rfl ?_
      refine x_getfield C dX11_best_8 fX11_35 ((hoS _ _ rfl rfl) 0 _ rfl) rfl ?_
      refine x_getfield C dX11_best_11 fX11_63 ((hpS _ _ rfl rfl) 0 _ rfl) rfl ?_
      refine x_icmp_ge (tgt := 79) C dX11_best_14 (by decide) (fun c14 => ?_) (fun c14 => absurd (by rw [hq0]; exact nI_le (by omega) (by omega)) c14)
      refine x_iload_n C dX11_best_79 rfl rfl ?_
      refine x_iret C E dX11_best_80 ?_
      refine ⟨?_, sk, T, hy, y9, rfl⟩
      unfold h_best
      rw [hz, e]
    | succ w ih =>
      intro i x qq sk T hy y9 hi hx9 hz
      subst hx9
      refine x_iload_n C dX11_best_6 rfl rfl ?_
      refine x_aload_n C dX11_best_7 rfl rfl ?_
      refine x_getfield C dX11_best_8 fX11_35 ((hoS _ _ rfl rfl) 0 _ rfl) rfl ?_
      refine x_getfield C dX11_best_11 fX11_63 ((hpS _ _ rfl rfl) 0 _ rfl) rfl ?_
      refine x_icmp_ge (tgt := 79) C dX11_best_14 (by decide) (fun c14 => absurd c14 (by rw [hq0]; exact nI_ge (by omega) (by omega))) (fun c14 => ?_)
      refine x_aload_n C dX11_best_17 rfl rfl ?_
      refine x_getfield C dX11_best_18 fX11_50 ((hoS _ _ rfl rfl) 0 _ rfl) rfl ?_
      refine x_getfield C dX11_best_21 fX11_297 ((hbS _ _ rfl rfl) 0 _ rfl) rfl ?_
      refine x_iload_n C dX11_best_24 rfl rfl ?_
      refine x_baload C dX11_best_25 ((hbS _ _ rfl rfl) 4 _ rfl) (vp_in_nI (show i < 9 by omega) (by decide)) ?_
      rw [nI_clamp (show i < 2 ^ 31 by omega)]
      refine x_if_ne (tgt := 32) C dX11_best_26 (by decide) (fun c26 => ?_) (fun c26 => ?_)
      · have hu9 : ¬ A 1 i = 0 := c26
        have hkW : h_ok P (h_wake P A i) := h_ok_wake hk9
        refine x_aload_n C dX11_best_32 rfl rfl ?_
        refine x_callV0 C dX11_best_33 kX11_364 (c_X11_ahead hO hP0 hQ0 hk9 (hbS _ _ rfl rfl) (hpS _ _ rfl rfl) (hoS _ _ rfl rfl) x_ov_bk hm2) ((hoS _ _ rfl rfl) 0 _ rfl) rfl (by decide) ⟨Nat.zero_le _, Nat.zero_le _⟩ (Nat.le_of_ble_eq_true rfl) ?_
        rintro _ _ ⟨rfl, rfl⟩
        refine x_to (x_ov_ov rfl) ?_
        refine x_iload_n C dX11_best_36 rfl rfl ?_
        refine x_callV1 C dX11_best_37 kX11_345 (c_X10_turn hO hP0 hQ0 hk9 x_ov_bk (hpS _ _ rfl rfl) (hoS _ _ rfl rfl) rfl hm2q hm2o (Or.inl (show i < 8 by omega))) (x_ovg 0 rfl) rfl (by decide) ⟨Nat.zero_le _, Nat.zero_le _⟩ (Nat.le_of_ble_eq_true rfl) ?_
        rintro _ _ ⟨rfl, rfl⟩
        refine x_to (x_ov_ov rfl) ?_
        rw [if_neg hu9, if_neg hu9]
        refine x_pop C dX11_best_40 rfl ?_
        refine x_aload_n C dX11_best_41 rfl rfl ?_
        refine x_getfield C dX11_best_42 fX11_54 ((hoS _ _ rfl rfl) 0 _ rfl) rfl ?_
        refine x_iconst (v := 3) C dX11_best_45 (by decide) ?_
        refine x_callV1 C dX11_best_46 kX11_360 (c_X10_pass (n := 3) hO hP0 hQ0 hkW x_ov_bk (hpS _ _ rfl rfl) (hoS _ _ rfl rfl) rfl rfl (htS _ _ rfl) htm2 htq hto hm2q hm2o (by decide)) (x_ovg 0 rfl) rfl (by decide) ⟨Nat.zero_le _, Nat.zero_le _⟩ (Nat.le_of_ble_eq_true rfl) ?_
        rintro _ _ ⟨rfl, sk1, rfl⟩
        refine x_to (x_ov4 (by exact htm2) rfl) ?_
        rw [h_pass_z 3]
        refine x_callV0 C dX11_best_49 kX11_291 (c_X10_manyBlocked hO hP0 hQ0 (h_ok_pass hP0 3 (_, 0) hkW) x_ov_bk (hpS _ _ rfl rfl) (hoS _ _ rfl rfl) rfl) (x_ovg 0 rfl) rfl (by decide) ⟨Nat.zero_le _, Nat.zero_le _⟩ (Nat.le_of_ble_eq_true rfl) ?_
        rintro _ _ ⟨rfl, rfl⟩
        refine x_istore C dX11_best_52 rfl (by decide) ?_
        refine x_iload_n C dX11_best_54 rfl rfl ?_
        refine x_iconst (v := (-1)) C dX11_best_55 (by decide) ?_
        refine x_icmp_eq (tgt := 68) C dX11_best_56 (by decide) (fun c56 => ?_) (fun c56 => ?_)
        · have e9 : h_b1 P A qq i = (nI i, h_blocked P (h_it (h_pass P) 3 (h_wake P A i, 0)).1) := (if_neg hu9).trans (if_pos (Or.inl c56))
          refine x_iload_n C dX11_best_68 rfl rfl ?_
          refine x_istore_n C dX11_best_69 rfl rfl (by decide) ?_
          refine x_iload C dX11_best_70 rfl ?_
          refine x_istore_n C dX11_best_72 rfl rfl (by decide) ?_
          refine x_iinc (v := 1) C dX11_best_73 rfl (by decide) rfl (by decide) ?_
          refine x_goto (tgt := 6) C dX11_best_76 (by decide) ?_
          refine x_take 4 ?_
          first
            | exact ih (i + 1) _ qq _ _ _ _ (by omega) (nI_1 i) (e9.symm.trans (by rw [hz]; rfl))
            | exact ih (i + 1) _ (nI i, h_blocked P (h_it (h_pass P) 3 (h_wake P A i, 0)).1) _ _ _ _ (by omega) (nI_1 i) (e9.symm.trans (by rw [hz]; rfl))
            | fail
        · refine x_iload C dX11_best_59 rfl ?_
          refine x_iload_n C dX11_best_61 rfl rfl ?_
          refine x_icmp_lt (tgt := 68) C dX11_best_62 (by decide) (fun c62 => ?_) (fun c62 => ?_)
          · have e9 : h_b1 P A qq i = (nI i, h_blocked P (h_it (h_pass P) 3 (h_wake P A i, 0)).1) := (if_neg hu9).trans (if_pos (Or.inr c62))
            refine x_iload_n C dX11_best_68 rfl rfl ?_
            refine x_istore_n C dX11_best_69 rfl rfl (by decide) ?_
            refine x_iload C dX11_best_70 rfl ?_
            refine x_istore_n C dX11_best_72 rfl rfl (by decide) ?_
            refine x_iinc (v := 1) C dX11_best_73 rfl (by decide) rfl (by decide) ?_
            refine x_goto (tgt := 6) C dX11_best_76 (by decide) ?_
            refine x_take 4 ?_
            first
              | exact ih (i + 1) _ qq _ _ _ _ (by omega) (nI_1 i) (e9.symm.trans (by rw [hz]; rfl))
              | exact ih (i + 1) _ (nI i, h_blocked P (h_it (h_pass P) 3 (h_wake P A i, 0)).1) _ _ _ _ (by omega) (nI_1 i) (e9.symm.trans (by rw [hz]; rfl))
              | fail
          · have e9 : h_b1 P A qq i = qq := (if_neg hu9).trans (if_neg (fun h => h.elim c56 c62))
            refine x_goto (tgt := 73) C dX11_best_65 (by decide) ?_
            refine x_iinc (v := 1) C dX11_best_73 rfl (by decide) rfl (by decide) ?_
            refine x_goto (tgt := 6) C dX11_best_76 (by decide) ?_
            refine x_take 4 ?_
            first
              | exact ih (i + 1) _ qq _ _ _ _ (by omega) (nI_1 i) (e9.symm.trans (by rw [hz]; rfl))
              | exact ih (i + 1) _ (nI i, h_blocked P (h_it (h_pass P) 3 (h_wake P A i, 0)).1) _ _ _ _ (by omega) (nI_1 i) (e9.symm.trans (by rw [hz]; rfl))
              | fail
      · have e9 : h_b1 P A qq i = qq := if_pos c26
        refine x_goto (tgt := 73) C dX11_best_29 (by decide) ?_
        refine x_iinc (v := 1) C dX11_best_73 rfl (by decide) rfl (by decide) ?_
        refine x_goto (tgt := 6) C dX11_best_76 (by decide) ?_
        refine x_take 4 ?_
        first
          | exact ih (i + 1) _ qq _ _ _ _ (by omega) (nI_1 i) (e9.symm.trans (by rw [hz]; rfl))
          | exact ih (i + 1) _ (nI i, h_blocked P (h_it (h_pass P) 3 (h_wake P A i, 0)).1) _ _ _ _ (by omega) (nI_1 i) (e9.symm.trans (by rw [hz]; rfl))
          | fail
  refine x_iconst (v := (-1)) C dX11_best_0 (by decide) ?_
  refine x_istore_n C dX11_best_1 rfl rfl (by decide) ?_
  refine x_iconst (v := 0) C dX11_best_2 (by decide) ?_
  refine x_istore_n C dX11_best_3 rfl rfl (by decide) ?_
  refine x_iconst (v := 0) C dX11_best_4 (by decide) ?_
  refine x_istore_n C dX11_best_5 rfl rfl (by decide) ?_
  refine x_take 4 ?_
  exact lp (p_nd P) 0 0 (-1, 0) sk T hy y9 (by omega) rfl rfl
