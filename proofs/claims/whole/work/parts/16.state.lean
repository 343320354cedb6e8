theorem h_told {P : PL} {A : HS} {k j : Nat} (h7 : A 7 (6 * k + j) = 0) : h_any (fun i => !(i == j) && (A 7 (6 * k + i) != 0 && A 1 (p_who P (6 * k + i)) == 0)) (p_np P k) = h_knows P A k := by
  unfold h_knows
  refine h_any_ext _ (fun i _ => ?_)
  by_cases h : i = j
  · subst h
    simp [h7]
  · have e : (i == j) = false := by simp [h]
    rw [e]
    rfl
theorem h_tell_z {P : PL} {k : Nat} {A : HS} {z : Int32} : ∀ n, h_it (h_tell P k) n (A, z) = ((h_it (h_tell P k) n (A, 0)).1, z + (h_it (h_tell P k) n (A, 0)).2) := by
  intro n
  induction n with
  | zero => show (A, z) = (A, z + 0); simp
  | succ n ih =>
    show h_tell P k (h_it (h_tell P k) n (A, z)) n = ((h_tell P k (h_it (h_tell P k) n (A, 0)) n).1, z + (h_tell P k (h_it (h_tell P k) n (A, 0)) n).2)
    rw [ih]
    generalize h_it (h_tell P k) n (A, 0) = B
    unfold h_tell
    dsimp only
    by_cases h : h_lis P k B.1 (6 * k + n) = true
    · rw [if_pos h, if_pos h, Int32.add_assoc]
    · rw [if_neg h, if_neg h]
theorem h_spr_z {P : PL} {A : HS} {z : Int32} : ∀ n, h_it (h_spr1 P) n (A, z) = ((h_it (h_spr1 P) n (A, 0)).1, z + (h_it (h_spr1 P) n (A, 0)).2) := by
  intro n
  induction n with
  | zero => show (A, z) = (A, z + 0); simp
  | succ n ih =>
    show h_spr1 P (h_it (h_spr1 P) n (A, z)) n = ((h_spr1 P (h_it (h_spr1 P) n (A, 0)) n).1, z + (h_spr1 P (h_it (h_spr1 P) n (A, 0)) n).2)
    rw [ih]
    generalize h_it (h_spr1 P) n (A, 0) = B
    unfold h_spr1
    dsimp only
    by_cases h : B.1 4 n = 2 ∨ B.1 4 n = 3
    · rw [if_pos h, if_pos h, Int32.add_assoc]
    · rw [if_neg h, if_neg h]
set_option maxHeartbeats 4000000 in
set_option maxRecDepth 100000 in
theorem c_X10_hear {l : Launch} {Y0 : x_Y} (hO : x_Ok Y0) {M : x_M} {m o q : Nat} {P : PL} {A : HS} {hx : Nat → Int32} {z : Int32} {G : HS} {fs : List Value} (hP : p_ok P) (hQ : g_is G P) (hk9 : h_ok P A) (hb : x_bk M m (stT m o P A hx z)) (hp : x_bk M q (pmT q G)) (ho : x_bk M o [.inr (11, fs)]) (ho11 : fs[11]? = some (.ref q)) (hd : q + 11 ≤ m ∨ m + 9 ≤ q) (hdo : o + 1 ≤ m ∨ m + 9 ≤ o) {k j : Nat} (hk : k < p_nk P) (hj : j < p_np P k) : x_C l Y0 yX10_hear cX10_hear 4 none 2 0 0 [.ref m, .int (nI k), .int (nI (6 * k + j))] M (fun u M1 => u = none ∧ M1 = x_ov M m (stT m o P (h_tell P k (A, z) j).1 hx (h_tell P k (A, z) j).2)) := by
  refine x_start hO (by decide +kernel) (Nat.le_of_ble_eq_true rfl) (fun K C E => ?_)
  have hP0 := hP
  have hQ0 := hQ
  obtain ⟨h8, h6, h16, hnp, hwho, hvb, hts⟩ := hP
  obtain ⟨hq0, hq1, hq2, hq3, hq4, hq5, hq6⟩ := hQ
  have hpF : ∀ L : List x_E, L.length = 9 → x_bk (x_ov M m L) q (pmT q G) := fun L h => x_ov_far 9 hp h hd
  have hoF : ∀ L : List x_E, L.length = 9 → x_bk (x_ov M m L) o [.inr (11, fs)] := fun L h => x_ov_far 9 ho h hdo
  refine x_to (x_ov_self hb).symm ?_
  have hk1 := hnp k hk
  have hw := hwho k j hk hj
  have hqs := hq4 k j hk hj
  have hs36 : 6 * k + j < 36 := by omega
  have hw8 : p_who P (6 * k + j) < 8 := by omega
  have hw9 : p_who P (6 * k + j) < 9 := by omega
  refine x_aload_n C dX10_hear_0 rfl rfl ?_
  refine x_getfield C dX10_hear_1 fX10_3 (x_ovg 0 rfl) rfl ?_
  refine x_getfield C dX10_hear_4 fX10_64 ((hoF _ rfl) 0 _ rfl) ho11 ?_
  refine x_getfield C dX10_hear_7 fX10_80 ((hpF _ rfl) 0 _ rfl) rfl ?_
  refine x_iload_n C dX10_hear_10 rfl rfl ?_
  refine x_iaload C dX10_hear_11 ((hpF _ rfl) 3 _ rfl) (vp_in_nI hs36 (by decide)) ?_
  rw [nI_clamp (show 6 * k + j < 2 ^ 31 by omega)]; rw [hqs.1]
  refine x_istore_n C dX10_hear_12 rfl rfl (by decide) ?_
  refine x_aload_n C dX10_hear_13 rfl rfl ?_
  refine x_getfield C dX10_hear_14 fX10_25 (x_ovg 0 rfl) rfl ?_
  refine x_iload_n C dX10_hear_17 rfl rfl ?_
  refine x_baload C dX10_hear_18 (x_ovg 4 rfl) (vp_in_nI hw9 (by decide)) ?_
  rw [nI_clamp (show p_who P (6 * k + j) < 2 ^ 31 by omega)]
  refine x_if_ne (tgt := 40) C dX10_hear_19 (by decide) (fun c19 => ?_) (fun c19 => ?_)
  · have hl : ¬ h_lis P k A (6 * k + j) = true := by
      unfold h_lis
      simp [c19]
    refine x_vret C E dX10_hear_40 ?_
    exact ⟨rfl, by unfold h_tell; rw [if_neg hl]⟩
  · refine x_aload_n C dX10_hear_22 rfl rfl ?_
    refine x_getfield C dX10_hear_23 fX10_38 (x_ovg 0 rfl) rfl ?_
    refine x_iload_n C dX10_hear_26 rfl rfl ?_
    refine x_baload C dX10_hear_27 (x_ovg 8 rfl) (vp_in_nI hs36 (by decide)) ?_
    rw [nI_clamp (show 6 * k + j < 2 ^ 31 by omega)]
    refine x_if_ne (tgt := 40) C dX10_hear_28 (by decide) (fun c28 => ?_) (fun c28 => ?_)
    · have hl : ¬ h_lis P k A (6 * k + j) = true := by
        unfold h_lis
        simp [c28]
      refine x_vret C E dX10_hear_40 ?_
      exact ⟨rfl, by unfold h_tell; rw [if_neg hl]⟩
    · refine x_aload_n C dX10_hear_31 rfl rfl ?_
      refine x_iload_n C dX10_hear_32 rfl rfl ?_
      refine x_iload_n C dX10_hear_33 rfl rfl ?_
      refine x_callV2 C dX10_hear_34 kX10_138 (c_X10_isTold hO hP0 hQ0 hk9 x_ov_bk (hpF _ rfl) (hoF _ rfl) ho11 hk hj) (x_ovg 0 rfl) rfl (by decide) ⟨Nat.zero_le _, Nat.zero_le _⟩ (Nat.le_of_ble_eq_true rfl) ?_
      rintro _ _ ⟨rfl, rfl⟩
      refine x_if_ne (tgt := 41) C dX10_hear_37 (by decide) (fun c37 => ?_) (fun c37 => ?_)
      · have hl : h_lis P k A (6 * k + j) = true := by
          have e : (A 1 8 == 0 || h_knows P A k) = true := by
            cases h : (A 1 8 == 0 || h_knows P A k) with
            | true => rfl
            | false => rw [h_told c28, h] at c37; exact absurd rfl c37
          unfold h_lis
          rw [e]
          simp [c19, c28]
        refine x_aload_n C dX10_hear_41 rfl rfl ?_
        refine x_getfield C dX10_hear_42 fX10_38 (x_ovg 0 rfl) rfl ?_
        refine x_iload_n C dX10_hear_45 rfl rfl ?_
        refine x_iconst (v := 1) C dX10_hear_46 (by decide) ?_
        refine x_bastore C dX10_hear_47 (x_ovg 8 rfl) (vp_in_nI hs36 (by decide)) ?_
        refine x_to (x_st_ov 8 (Nat.le_of_ble_eq_true rfl)) ?_
        rw [nI_clamp (show 6 * k + j < 2 ^ 31 by omega)]
        rw [show vp_nar .boolean 1 = 1 from rfl]
        refine x_aload_n C dX10_hear_48 rfl rfl ?_
        refine x_dup C dX10_hear_49 rfl ?_
        refine x_getfield C dX10_hear_50 fX10_48 (x_ovg 0 rfl) rfl ?_
        refine x_iconst (v := 1) C dX10_hear_53 (by decide) ?_
        refine x_iadd C dX10_hear_54 ?_
        refine x_putfield C dX10_hear_55 fX10_48 (x_ovg 0 rfl) rfl rfl (Nat.le_of_ble_eq_true rfl) ?_
        refine x_to (x_st_ov 0 (Nat.le_of_ble_eq_true rfl)) ?_
        refine x_aload_n C dX10_hear_58 rfl rfl ?_
        refine x_getfield C dX10_hear_59 fX10_22 (x_ovg 0 rfl) rfl ?_
        refine x_iload_n C dX10_hear_62 rfl rfl ?_
        refine x_dup2 C dX10_hear_63 rfl rfl ?_
        refine x_iaload C dX10_hear_64 (x_ovg 3 rfl) (vp_in_nI hw8 (by decide)) ?_
        rw [nI_clamp (show p_who P (6 * k + j) < 2 ^ 31 by omega)]
        refine x_iconst (v := 1) C dX10_hear_65 (by decide) ?_
        refine x_iadd C dX10_hear_66 ?_
        refine x_iastore C dX10_hear_67 (x_ovg 3 rfl) (vp_in_nI hw8 (by decide)) ?_
        refine x_to (x_st_ov 3 (Nat.le_of_ble_eq_true rfl)) ?_
        rw [nI_clamp (show p_who P (6 * k + j) < 2 ^ 31 by omega)]
        refine x_aload_n C dX10_hear_68 rfl rfl ?_
        refine x_getfield C dX10_hear_69 fX10_29 (x_ovg 0 rfl) rfl ?_
        refine x_iload_n C dX10_hear_72 rfl rfl ?_
        refine x_iaload C dX10_hear_73 (x_ovg 5 rfl) (vp_in_nI (show k < 6 by omega) (by decide)) ?_
        rw [nI_clamp (show k < 2 ^ 31 by omega)]
        refine x_iconst (v := 2) C dX10_hear_74 (by decide) ?_
        refine x_icmp_ne (tgt := 99) C dX10_hear_75 (by decide) (fun c75 => ?_) (fun c75 => ?_)
        · refine x_aload_n C dX10_hear_99 rfl rfl ?_
          refine x_getfield C dX10_hear_100 fX10_19 (x_ovg 0 rfl) rfl ?_
          refine x_iload_n C dX10_hear_103 rfl rfl ?_
          refine x_iaload C dX10_hear_104 (x_ovg 2 rfl) (vp_in_nI hw8 (by decide)) ?_
          rw [nI_clamp (show p_who P (6 * k + j) < 2 ^ 31 by omega)]
          refine x_iload_n C dX10_hear_105 rfl rfl ?_
          refine x_icmp_ne (tgt := 116) C dX10_hear_106 (by decide) (fun c106 => ?_) (fun c106 => ?_)
          · refine x_vret C E dX10_hear_116 ?_
            refine ⟨rfl, ?_⟩
            unfold h_tell
            rw [if_pos hl]
            show _ = x_ov M m (stT m o P (h_hear P k A (6 * k + j)) hx (z + 1))
            unfold h_hear h_hear3 h_hear2
            first
              | (rw [if_pos (show h_hear1 P A (6 * k + j) 4 k = 2 from c75), if_pos (show h_u (h_hear1 P A (6 * k + j)) 0 (p_who P (6 * k + j)) _ 2 (p_who P (6 * k + j)) = nI k from c106)]; rfl)
              | (rw [if_pos (show h_hear1 P A (6 * k + j) 4 k = 2 from c75), if_neg (show ¬ h_u (h_hear1 P A (6 * k + j)) 0 (p_who P (6 * k + j)) _ 2 (p_who P (6 * k + j)) = nI k from c106)]; rfl)
              | (rw [if_neg (show ¬ h_hear1 P A (6 * k + j) 4 k = 2 from c75), if_pos (show h_hear1 P A (6 * k + j) 2 (p_who P (6 * k + j)) = nI k from c106)]; rfl)
              | (rw [if_neg (show ¬ h_hear1 P A (6 * k + j) 4 k = 2 from c75), if_neg (show ¬ h_hear1 P A (6 * k + j) 2 (p_who P (6 * k + j)) = nI k from c106)]; rfl)
              | fail
          · refine x_aload_n C dX10_hear_109 rfl rfl ?_
            refine x_getfield C dX10_hear_110 fX10_19 (x_ovg 0 rfl) rfl ?_
            refine x_iload_n C dX10_hear_113 rfl rfl ?_
            refine x_iconst (v := (-1)) C dX10_hear_114 (by decide) ?_
            refine x_iastore C dX10_hear_115 (x_ovg 2 rfl) (vp_in_nI hw8 (by decide)) ?_
            refine x_to (x_st_ov 2 (Nat.le_of_ble_eq_true rfl)) ?_
            rw [nI_clamp (show p_who P (6 * k + j) < 2 ^ 31 by omega)]
            refine x_vret C E dX10_hear_116 ?_
            refine ⟨rfl, ?_⟩
            unfold h_tell
            rw [if_pos hl]
            show _ = x_ov M m (stT m o P (h_hear P k A (6 * k + j)) hx (z + 1))
            unfold h_hear h_hear3 h_hear2
            first
              | (rw [if_pos (show h_hear1 P A (6 * k + j) 4 k = 2 from c75), if_pos (show h_u (h_hear1 P A (6 * k + j)) 0 (p_who P (6 * k + j)) _ 2 (p_who P (6 * k + j)) = nI k from c106)]; rfl)
              | (rw [if_pos (show h_hear1 P A (6 * k + j) 4 k = 2 from c75), if_neg (show ¬ h_u (h_hear1 P A (6 * k + j)) 0 (p_who P (6 * k + j)) _ 2 (p_who P (6 * k + j)) = nI k from c106)]; rfl)
              | (rw [if_neg (show ¬ h_hear1 P A (6 * k + j) 4 k = 2 from c75), if_pos (show h_hear1 P A (6 * k + j) 2 (p_who P (6 * k + j)) = nI k from c106)]; rfl)
              | (rw [if_neg (show ¬ h_hear1 P A (6 * k + j) 4 k = 2 from c75), if_neg (show ¬ h_hear1 P A (6 * k + j) 2 (p_who P (6 * k + j)) = nI k from c106)]; rfl)
              | fail
        · refine x_aload_n C dX10_hear_78 rfl rfl ?_
          refine x_getfield C dX10_hear_79 fX10_15 (x_ovg 0 rfl) rfl ?_
          refine x_iload_n C dX10_hear_82 rfl rfl ?_
          refine x_dup2 C dX10_hear_83 rfl rfl ?_
          refine x_iaload C dX10_hear_84 (x_ovg 1 rfl) (vp_in_nI hw8 (by decide)) ?_
          rw [nI_clamp (show p_who P (6 * k + j) < 2 ^ 31 by omega)]
          rw [s_fill_in hw]
          refine x_aload_n C dX10_hear_85 rfl rfl ?_
          refine x_getfield C dX10_hear_86 fX10_3 (x_ovg 0 rfl) rfl ?_
          refine x_getfield C dX10_hear_89 fX10_64 ((hoF _ rfl) 0 _ rfl) ho11 ?_
          refine x_getfield C dX10_hear_92 fX10_83 ((hpF _ rfl) 0 _ rfl) rfl ?_
          refine x_iload_n C dX10_hear_95 rfl rfl ?_
          refine x_iaload C dX10_hear_96 ((hpF _ rfl) 4 _ rfl) (vp_in_nI hs36 (by decide)) ?_
          rw [nI_clamp (show 6 * k + j < 2 ^ 31 by omega)]; rw [hqs.2]
          refine x_iadd C dX10_hear_97 ?_
          refine x_iastore C dX10_hear_98 (x_ovg 1 rfl) (vp_in_nI hw8 (by decide)) ?_
          refine x_to (x_st_ov 1 (Nat.le_of_ble_eq_true rfl)) ?_
          rw [nI_clamp (show p_who P (6 * k + j) < 2 ^ 31 by omega)]
          rw [s_fill_u hw]
          refine x_aload_n C dX10_hear_99 rfl rfl ?_
          refine x_getfield C dX10_hear_100 fX10_19 (x_ovg 0 rfl) rfl ?_
          refine x_iload_n C dX10_hear_103 rfl rfl ?_
          refine x_iaload C dX10_hear_104 (x_ovg 2 rfl) (vp_in_nI hw8 (by decide)) ?_
          rw [nI_clamp (show p_who P (6 * k + j) < 2 ^ 31 by omega)]
          refine x_iload_n C dX10_hear_105 rfl rfl ?_
          refine x_icmp_ne (tgt := 116) C dX10_hear_106 (by decide) (fun c106 => ?_) (fun c106 => ?_)
          · refine x_vret C E dX10_hear_116 ?_
            refine ⟨rfl, ?_⟩
            unfold h_tell
            rw [if_pos hl]
            show _ = x_ov M m (stT m o P (h_hear P k A (6 * k + j)) hx (z + 1))
            unfold h_hear h_hear3 h_hear2
            first
              | (rw [if_pos (show h_hear1 P A (6 * k + j) 4 k = 2 from c75), if_pos (show h_u (h_hear1 P A (6 * k + j)) 0 (p_who P (6 * k + j)) _ 2 (p_who P (6 * k + j)) = nI k from c106)]; rfl)
              | (rw [if_pos (show h_hear1 P A (6 * k + j) 4 k = 2 from c75), if_neg (show ¬ h_u (h_hear1 P A (6 * k + j)) 0 (p_who P (6 * k + j)) _ 2 (p_who P (6 * k + j)) = nI k from c106)]; rfl)
              | (rw [if_neg (show ¬ h_hear1 P A (6 * k + j) 4 k = 2 from c75), if_pos (show h_hear1 P A (6 * k + j) 2 (p_who P (6 * k + j)) = nI k from c106)]; rfl)
              | (rw [if_neg (show ¬ h_hear1 P A (6 * k + j) 4 k = 2 from c75), if_neg (show ¬ h_hear1 P A (6 * k + j) 2 (p_who P (6 * k + j)) = nI k from c106)]; rfl)
              | fail
          · refine x_aload_n C dX10_hear_109 rfl rfl ?_
            refine x_getfield C dX10_hear_110 fX10_19 (x_ovg 0 rfl) rfl ?_
            refine x_iload_n C dX10_hear_113 rfl rfl ?_
            refine x_iconst (v := (-1)) C dX10_hear_114 (by decide) ?_
            refine x_iastore C dX10_hear_115 (x_ovg 2 rfl) (vp_in_nI hw8 (by decide)) ?_
            refine x_to (x_st_ov 2 (Nat.le_of_ble_eq_true rfl)) ?_
            rw [nI_clamp (show p_who P (6 * k + j) < 2 ^ 31 by omega)]
            refine x_vret C E dX10_hear_116 ?_
            refine ⟨rfl, ?_⟩
            unfold h_tell
            rw [if_pos hl]
            show _ = x_ov M m (stT m o P (h_hear P k A (6 * k + j)) hx (z + 1))
            unfold h_hear h_hear3 h_hear2
            first
              | (rw [if_pos (show h_hear1 P A (6 * k + j) 4 k = 2 from c75), if_pos (show h_u (h_hear1 P A (6 * k + j)) 0 (p_who P (6 * k + j)) _ 2 (p_who P (6 * k + j)) = nI k from c106)]; rfl)
              | (rw [if_pos (show h_hear1 P A (6 * k + j) 4 k = 2 from c75), if_neg (show ¬ h_u (h_hear1 P A (6 * k + j)) 0 (p_who P (6 * k + j)) _ 2 (p_who P (6 * k + j)) = nI k from c106)]; rfl)
              | (rw [if_neg (show ¬ h_hear1 P A (6 * k + j) 4 k = 2 from c75), if_pos (show h_hear1 P A (6 * k + j) 2 (p_who P (6 * k + j)) = nI k from c106)]; rfl)
              | (rw [if_neg (show ¬ h_hear1 P A (6 * k + j) 4 k = 2 from c75), if_neg (show ¬ h_hear1 P A (6 * k + j) 2 (p_who P (6 * k + j)) = nI k from c106)]; rfl)
              | fail
      · have hl : ¬ h_lis P k A (6 * k + j) = true := by
          have e : (A 1 8 == 0 || h_knows P A k) = false := by
            cases h : (A 1 8 == 0 || h_knows P A k) with
            | false => rfl
            | true => rw [h_told c28, h] at c37; exact absurd c37 (by decide)
          unfold h_lis
          rw [e]
          simp
        refine x_vret C E dX10_hear_40 ?_
        exact ⟨rfl, by unfold h_tell; rw [if_neg hl]⟩
theorem c_X10_turn {l : Launch} {Y0 : x_Y} (hO : x_Ok Y0) {M : x_M} {m o q : Nat} {P : PL} {A : HS} {hx : Nat → Int32} {z : Int32} {G : HS} {fs : List Value} (hP : p_ok P) (hQ : g_is G P) (hk9 : h_ok P A) (hb : x_bk M m (stT m o P A hx z)) (hp : x_bk M q (pmT q G)) (ho : x_bk M o [.inr (11, fs)]) (ho11 : fs[11]? = some (.ref q)) (hd : q + 11 ≤ m ∨ m + 9 ≤ q) (hdo : o + 1 ≤ m ∨ m + 9 ≤ o) {d : Nat} (hd9 : d < 8 ∨ d = 8) : x_C l Y0 yX10_turn cX10_turn 4 (some .int) 1 0 0 [.ref m, .int (nI d)] M (fun u M1 => u = some (.int (if A 1 d = 0 then 0 else if d = 8 then h_begun P A else 0)) ∧ M1 = x_ov M m (stT m o P (if A 1 d = 0 then h_u A 1 d 1 else h_wake P A d) hx z)) := by
  by_cases hu : A 1 d = 0
  · rw [if_pos hu, if_pos hu]
    rcases hd9 with h | rfl
    · exact c_turn1 hO hP hQ hk9 hb hp ho ho11 hd hdo h hu
    · exact c_turn3 hO hP hQ hk9 hb hp ho ho11 hd hdo hu
  · rw [if_neg hu, if_neg hu]
    rcases hd9 with h | rfl
    · rw [if_neg (show ¬ d = 8 by omega), show h_wake P A d = h_u A 1 d 0 from if_neg (by omega)]
      exact c_turn2 hO hP hQ hk9 hb hp ho ho11 hd hdo h hu
    · rw [if_pos rfl]
      exact c_turn4 hO hP hQ hk9 hb hp ho ho11 hd hdo hu
set_option maxHeartbeats 4000000 in
set_option maxRecDepth 100000 in
theorem c_X10_carry {l : Launch} {Y0 : x_Y} (hO : x_Ok Y0) {M : x_M} {m o q : Nat} {P : PL} {A : HS} {hx : Nat → Int32} {z : Int32} {G : HS} {fs : List Value} (hP : p_ok P) (hQ : g_is G P) (hk9 : h_ok P A) (hb : x_bk M m (stT m o P A hx z)) (hp : x_bk M q (pmT q G)) (ho : x_bk M o [.inr (11, fs)]) (ho11 : fs[11]? = some (.ref q)) (hd : q + 11 ≤ m ∨ m + 9 ≤ q) (hdo : o + 1 ≤ m ∨ m + 9 ≤ o) {i : Nat} (hi9 : i < p_no P) : x_C l Y0 yX10_carry cX10_carry 5 (some .boolean) 3 0 0 [.ref m, .int (nI i)] M (fun u M1 => u = some (.int (h_b (h_obey P A i).2)) ∧ M1 = x_ov M m (stT m o P (h_obey P A i).1 hx z)) := by
  refine x_start hO (by decide +kernel) (Nat.le_of_ble_eq_true rfl) (fun K C E => ?_)
  have hP0 := hP
  have hQ0 := hQ
  obtain ⟨h8, h6, h16, hnp, hwho, hvb, hts⟩ := hP
  obtain ⟨hq0, hq1, hq2, hq3, hq4, hq5, hq6⟩ := hQ
  have hpF : ∀ L : List x_E, L.length = 9 → x_bk (x_ov M m L) q (pmT q G) := fun L h => x_ov_far 9 hp h hd
  have hoF : ∀ L : List x_E, L.length = 9 → x_bk (x_ov M m L) o [.inr (11, fs)] := fun L h => x_ov_far 9 ho h hdo
  refine x_to (x_ov_self hb).symm ?_
  have hv9 := hvb i hi9
  have hvl : p_vb P i < 300 := by rcases hv9 with q | q <;> omega
  have hvg : 262 ≤ p_vb P i := by rcases hv9 with q | q <;> omega
  obtain ⟨hq5a, hq5b, -⟩ := hq5 i hi9
  have htl : p_tg P i ≤ 8 := by rcases hv9 with q | q <;> omega
  refine x_aload_n C dX10_carry_0 rfl rfl ?_
  refine x_getfield C dX10_carry_1 fX10_3 (x_ovg 0 rfl) rfl ?_
  refine x_getfield C dX10_carry_4 fX10_64 ((hoF _ rfl) 0 _ rfl) ho11 ?_
  refine x_getfield C dX10_carry_7 fX10_98 ((hpF _ rfl) 0 _ rfl) rfl ?_
  refine x_iload_n C dX10_carry_10 rfl rfl ?_
  refine x_iaload C dX10_carry_11 ((hpF _ rfl) 5 _ rfl) (vp_in_nI (show i < 16 by omega) (by decide)) ?_
  rw [nI_clamp (show i < 2 ^ 31 by omega)]
  rw [hq5a]
  refine x_istore_n C dX10_carry_12 rfl rfl (by decide) ?_
  refine x_aload_n C dX10_carry_13 rfl rfl ?_
  refine x_getfield C dX10_carry_14 fX10_3 (x_ovg 0 rfl) rfl ?_
  refine x_getfield C dX10_carry_17 fX10_64 ((hoF _ rfl) 0 _ rfl) ho11 ?_
  refine x_getfield C dX10_carry_20 fX10_101 ((hpF _ rfl) 0 _ rfl) rfl ?_
  refine x_iload_n C dX10_carry_23 rfl rfl ?_
  refine x_iaload C dX10_carry_24 ((hpF _ rfl) 6 _ rfl) (vp_in_nI (show i < 16 by omega) (by decide)) ?_
  rw [nI_clamp (show i < 2 ^ 31 by omega)]
  rw [hq5b]
  refine x_istore_n C dX10_carry_25 rfl rfl (by decide) ?_
  refine x_iload_n C dX10_carry_26 rfl rfl ?_
  refine x_bipush (v := 6) C dX10_carry_27 (by decide) ?_
  refine x_icmp_ne (tgt := 40) C dX10_carry_29 (by decide) (fun c29 => ?_) (fun c29 => ?_)
  · have hv : ¬ p_vb P i = 262 := fun q => c29 (by rw [q]; rfl)
    have htg : p_tg P i < 8 ∨ p_tg P i = 8 := by omega
    refine x_aload_n C dX10_carry_40 rfl rfl ?_
    refine x_getfield C dX10_carry_41 fX10_25 (x_ovg 0 rfl) rfl ?_
    refine x_iload_n C dX10_carry_44 rfl rfl ?_
    refine x_baload C dX10_carry_45 (x_ovg 4 rfl) (vp_in_nI (show p_tg P i < 9 by omega) (by decide)) ?_
    rw [nI_clamp (show p_tg P i < 2 ^ 31 by omega)]
    refine x_iload_n C dX10_carry_46 rfl rfl ?_
    refine x_bipush (v := 8) C dX10_carry_47 (by decide) ?_
    refine x_icmp_ne (tgt := 56) C dX10_carry_49 (by decide) (fun c49 => ?_) (fun c49 => ?_)
    · have hv2 : p_vb P i = 263 := by
        have : ¬ p_vb P i = 264 := fun q => c49 (by rw [q]; rfl)
        rcases hv9 with q | q <;> omega
      refine x_iconst (v := 0) C dX10_carry_56 (by decide) ?_
      refine x_icmp_ne (tgt := 64) C dX10_carry_57 (by decide) (fun c57 => ?_) (fun c57 => ?_)
      · refine x_iconst (v := 0) C dX10_carry_64 (by decide) ?_
        refine x_istore C dX10_carry_65 rfl (by decide) ?_
        refine x_iload C dX10_carry_67 rfl ?_
        refine x_if_eq (tgt := 86) C dX10_carry_69 (by decide) (fun c69 => ?_) (fun c69 => ?_)
        · refine x_iload C dX10_carry_86 rfl ?_
          refine x_if_eq (tgt := 97) C dX10_carry_88 (by decide) (fun c88 => ?_) (fun c88 => ?_)
          · refine x_iload C dX10_carry_97 rfl ?_
            refine x_zret C E dX10_carry_99 ?_ ?_
            · first | rfl | (unfold h_b; split <;> rfl) | fail
            · unfold h_obey
              first
                | (rw [if_pos hv]
                   by_cases q9 : h_can P A (p_tg P i) = true
                   · rw [if_pos q9]; refine ⟨by rw [q9], ?_⟩; first | rfl | exact absurd (show h_b (h_can P A (p_tg P i)) = 0 from c69) (by rw [q9]; decide) | fail
                   · rw [if_neg q9]; refine ⟨by simp [h_b, q9], ?_⟩; first | rfl | exact absurd (show h_b (h_can P A (p_tg P i)) = 0 by simp [h_b, q9]) c69 | fail)
                | (rw [if_neg hv, if_pos hv2]
                   by_cases q9 : A 1 (p_tg P i) = 0
                   · rw [if_pos q9]; first | exact ⟨rfl, by rw [if_pos q9]⟩ | exact absurd q9 c57 | fail
                   · rw [if_neg q9]; first | exact absurd c57 q9 | exact ⟨rfl, rfl⟩ | fail)
                | (rw [if_neg hv, if_neg hv2]
                   by_cases q9 : A 1 (p_tg P i) = 0
                   · rw [if_pos q9]; first | exact absurd (q9.symm.trans c57) (by decide) | exact ⟨rfl, rfl⟩ | fail
                   · rw [if_neg q9]; first | exact ⟨rfl, by rw [if_neg q9]⟩ | exact absurd ((hk9.1 (p_tg P i)).resolve_left q9) c57 | fail)
                | fail
          · exact absurd c69 c88
        · exact absurd rfl c69
      · refine x_iconst (v := 1) C dX10_carry_60 (by decide) ?_
        refine x_goto (tgt := 65) C dX10_carry_61 (by decide) ?_
        refine x_istore C dX10_carry_65 rfl (by decide) ?_
        refine x_iload C dX10_carry_67 rfl ?_
        refine x_if_eq (tgt := 86) C dX10_carry_69 (by decide) (fun c69 => ?_) (fun c69 => ?_)
        · exact absurd c69 (by decide)
        · refine x_iload_n C dX10_carry_72 rfl rfl ?_
          refine x_bipush (v := 6) C dX10_carry_73 (by decide) ?_
          refine x_icmp_ne (tgt := 86) C dX10_carry_75 (by decide) (fun c75 => ?_) (fun c75 => ?_)
          · refine x_iload C dX10_carry_86 rfl ?_
            refine x_if_eq (tgt := 97) C dX10_carry_88 (by decide) (fun c88 => ?_) (fun c88 => ?_)
            · exact absurd c88 c69
            · refine x_aload_n C dX10_carry_91 rfl rfl ?_
              refine x_iload_n C dX10_carry_92 rfl rfl ?_
              refine x_callV1 C dX10_carry_93 kX10_111 (c_X10_turn hO hP0 hQ0 hk9 x_ov_bk (hpF _ rfl) (hoF _ rfl) ho11 hd hdo htg) (x_ovg 0 rfl) rfl (by decide) ⟨Nat.zero_le _, Nat.zero_le _⟩ (Nat.le_of_ble_eq_true rfl) ?_
              rintro _ _ ⟨rfl, rfl⟩
              refine x_to (x_ov_ov rfl) ?_
              refine x_pop C dX10_carry_96 rfl ?_
              refine x_iload C dX10_carry_97 rfl ?_
              refine x_zret C E dX10_carry_99 ?_ ?_
              · first | rfl | (unfold h_b; split <;> rfl) | fail
              · unfold h_obey
                first
                  | (rw [if_pos hv]
                     by_cases q9 : h_can P A (p_tg P i) = true
                     · rw [if_pos q9]; refine ⟨by rw [q9], ?_⟩; first | rfl | exact absurd (show h_b (h_can P A (p_tg P i)) = 0 from c69) (by rw [q9]; decide) | fail
                     · rw [if_neg q9]; refine ⟨by simp [h_b, q9], ?_⟩; first | rfl | exact absurd (show h_b (h_can P A (p_tg P i)) = 0 by simp [h_b, q9]) c69 | fail)
                  | (rw [if_neg hv, if_pos hv2]
                     by_cases q9 : A 1 (p_tg P i) = 0
                     · rw [if_pos q9]; first | exact ⟨rfl, by rw [if_pos q9]⟩ | exact absurd q9 c57 | fail
                     · rw [if_neg q9]; first | exact absurd c57 q9 | exact ⟨rfl, rfl⟩ | fail)
                  | (rw [if_neg hv, if_neg hv2]
                     by_cases q9 : A 1 (p_tg P i) = 0
                     · rw [if_pos q9]; first | exact absurd (q9.symm.trans c57) (by decide) | exact ⟨rfl, rfl⟩ | fail
                     · rw [if_neg q9]; first | exact ⟨rfl, by rw [if_neg q9]⟩ | exact absurd ((hk9.1 (p_tg P i)).resolve_left q9) c57 | fail)
                  | fail
          · exact absurd c75 c29
    · have hv2 : ¬ p_vb P i = 263 := by
        have := (nI_eq (by omega) (by omega)).mp (show nI (p_vb P i - 256) = nI 8 from c49)
        omega
      refine x_iconst (v := 1) C dX10_carry_52 (by decide) ?_
      refine x_goto (tgt := 57) C dX10_carry_53 (by decide) ?_
      refine x_icmp_ne (tgt := 64) C dX10_carry_57 (by decide) (fun c57 => ?_) (fun c57 => ?_)
      · refine x_iconst (v := 0) C dX10_carry_64 (by decide) ?_
        refine x_istore C dX10_carry_65 rfl (by decide) ?_
        refine x_iload C dX10_carry_67 rfl ?_
        refine x_if_eq (tgt := 86) C dX10_carry_69 (by decide) (fun c69 => ?_) (fun c69 => ?_)
        · refine x_iload C dX10_carry_86 rfl ?_
          refine x_if_eq (tgt := 97) C dX10_carry_88 (by decide) (fun c88 => ?_) (fun c88 => ?_)
          · refine x_iload C dX10_carry_97 rfl ?_
            refine x_zret C E dX10_carry_99 ?_ ?_
            · first | rfl | (unfold h_b; split <;> rfl) | fail
            · unfold h_obey
              first
                | (rw [if_pos hv]
                   by_cases q9 : h_can P A (p_tg P i) = true
                   · rw [if_pos q9]; refine ⟨by rw [q9], ?_⟩; first | rfl | exact absurd (show h_b (h_can P A (p_tg P i)) = 0 from c69) (by rw [q9]; decide) | fail
                   · rw [if_neg q9]; refine ⟨by simp [h_b, q9], ?_⟩; first | rfl | exact absurd (show h_b (h_can P A (p_tg P i)) = 0 by simp [h_b, q9]) c69 | fail)
                | (rw [if_neg hv, if_pos hv2]
                   by_cases q9 : A 1 (p_tg P i) = 0
                   · rw [if_pos q9]; first | exact ⟨rfl, by rw [if_pos q9]⟩ | exact absurd q9 c57 | fail
                   · rw [if_neg q9]; first | exact absurd c57 q9 | exact ⟨rfl, rfl⟩ | fail)
                | (rw [if_neg hv, if_neg hv2]
                   by_cases q9 : A 1 (p_tg P i) = 0
                   · rw [if_pos q9]; first | exact absurd (q9.symm.trans c57) (by decide) | exact ⟨rfl, rfl⟩ | fail
                   · rw [if_neg q9]; first | exact ⟨rfl, by rw [if_neg q9]⟩ | exact absurd ((hk9.1 (p_tg P i)).resolve_left q9) c57 | fail)
                | fail
          · exact absurd c69 c88
        · exact absurd rfl c69
      · refine x_iconst (v := 1) C dX10_carry_60 (by decide) ?_
        refine x_goto (tgt := 65) C dX10_carry_61 (by decide) ?_
        refine x_istore C dX10_carry_65 rfl (by decide) ?_
        refine x_iload C dX10_carry_67 rfl ?_
        refine x_if_eq (tgt := 86) C dX10_carry_69 (by decide) (fun c69 => ?_) (fun c69 => ?_)
        · exact absurd c69 (by decide)
        · refine x_iload_n C dX10_carry_72 rfl rfl ?_
          refine x_bipush (v := 6) C dX10_carry_73 (by decide) ?_
          refine x_icmp_ne (tgt := 86) C dX10_carry_75 (by decide) (fun c75 => ?_) (fun c75 => ?_)
          · refine x_iload C dX10_carry_86 rfl ?_
            refine x_if_eq (tgt := 97) C dX10_carry_88 (by decide) (fun c88 => ?_) (fun c88 => ?_)
            · exact absurd c88 c69
            · refine x_aload_n C dX10_carry_91 rfl rfl ?_
              refine x_iload_n C dX10_carry_92 rfl rfl ?_
              refine x_callV1 C dX10_carry_93 kX10_111 (c_X10_turn hO hP0 hQ0 hk9 x_ov_bk (hpF _ rfl) (hoF _ rfl) ho11 hd hdo htg) (x_ovg 0 rfl) rfl (by decide) ⟨Nat.zero_le _, Nat.zero_le _⟩ (Nat.le_of_ble_eq_true rfl) ?_
              rintro _ _ ⟨rfl, rfl⟩
              refine x_to (x_ov_ov rfl) ?_
              refine x_pop C dX10_carry_96 rfl ?_
              refine x_iload C dX10_carry_97 rfl ?_
              refine x_zret C E dX10_carry_99 ?_ ?_
              · first | rfl | (unfold h_b; split <;> rfl) | fail
              · unfold h_obey
                first
                  | (rw [if_pos hv]
                     by_cases q9 : h_can P A (p_tg P i) = true
                     · rw [if_pos q9]; refine ⟨by rw [q9], ?_⟩; first | rfl | exact absurd (show h_b (h_can P A (p_tg P i)) = 0 from c69) (by rw [q9]; decide) | fail
                     · rw [if_neg q9]; refine ⟨by simp [h_b, q9], ?_⟩; first | rfl | exact absurd (show h_b (h_can P A (p_tg P i)) = 0 by simp [h_b, q9]) c69 | fail)
                  | (rw [if_neg hv, if_pos hv2]
                     by_cases q9 : A 1 (p_tg P i) = 0
                     · rw [if_pos q9]; first | exact ⟨rfl, by rw [if_pos q9]⟩ | exact absurd q9 c57 | fail
                     · rw [if_neg q9]; first | exact absurd c57 q9 | exact ⟨rfl, rfl⟩ | fail)
                  | (rw [if_neg hv, if_neg hv2]
                     by_cases q9 : A 1 (p_tg P i) = 0
                     · rw [if_pos q9]; first | exact absurd (q9.symm.trans c57) (by decide) | exact ⟨rfl, rfl⟩ | fail
                     · rw [if_neg q9]; first | exact ⟨rfl, by rw [if_neg q9]⟩ | exact absurd ((hk9.1 (p_tg P i)).resolve_left q9) c57 | fail)
                  | fail
          · exact absurd c75 c29
  · have hv : p_vb P i = 262 := by
      have := (nI_eq (by omega) (by omega)).mp (show nI (p_vb P i - 256) = nI 6 from c29)
      omega
    have htg : p_tg P i < p_nk P := by rcases hv9 with q | q <;> omega
    refine x_aload_n C dX10_carry_32 rfl rfl ?_
    refine x_iload_n C dX10_carry_33 rfl rfl ?_
    refine x_callV1 C dX10_carry_34 kX10_104 (c_X10_canBegin hO hP0 hQ0 hk9 x_ov_bk (hpF _ rfl) (hoF _ rfl) ho11 htg) (x_ovg 0 rfl) rfl (by decide) ⟨Nat.zero_le _, Nat.zero_le _⟩ (Nat.le_of_ble_eq_true rfl) ?_
    rintro _ _ ⟨rfl, rfl⟩
    refine x_goto (tgt := 65) C dX10_carry_37 (by decide) ?_
    refine x_istore C dX10_carry_65 rfl (by decide) ?_
    refine x_iload C dX10_carry_67 rfl ?_
    refine x_if_eq (tgt := 86) C dX10_carry_69 (by decide) (fun c69 => ?_) (fun c69 => ?_)
    · refine x_iload C dX10_carry_86 rfl ?_
      refine x_if_eq (tgt := 97) C dX10_carry_88 (by decide) (fun c88 => ?_) (fun c88 => ?_)
      · refine x_iload C dX10_carry_97 rfl ?_
        refine x_zret C E dX10_carry_99 ?_ ?_
        · first | rfl | (unfold h_b; split <;> rfl) | fail
        · unfold h_obey
          first
            | (rw [if_pos hv]
               by_cases q9 : h_can P A (p_tg P i) = true
               · rw [if_pos q9]; refine ⟨by rw [q9], ?_⟩; first | rfl | exact absurd (show h_b (h_can P A (p_tg P i)) = 0 from c69) (by rw [q9]; decide) | fail
               · rw [if_neg q9]; refine ⟨by simp [h_b, q9], ?_⟩; first | rfl | exact absurd (show h_b (h_can P A (p_tg P i)) = 0 by simp [h_b, q9]) c69 | fail)
            | (rw [if_neg hv, if_pos hv2]
               by_cases q9 : A 1 (p_tg P i) = 0
               · rw [if_pos q9]; first | exact ⟨rfl, by rw [if_pos q9]⟩ | exact absurd q9 c57 | fail
               · rw [if_neg q9]; first | exact absurd c57 q9 | exact ⟨rfl, rfl⟩ | fail)
            | (rw [if_neg hv, if_neg hv2]
               by_cases q9 : A 1 (p_tg P i) = 0
               · rw [if_pos q9]; first | exact absurd (q9.symm.trans c57) (by decide) | exact ⟨rfl, rfl⟩ | fail
               · rw [if_neg q9]; first | exact ⟨rfl, by rw [if_neg q9]⟩ | exact absurd ((hk9.1 (p_tg P i)).resolve_left q9) c57 | fail)
            | fail
      · exact absurd c69 c88
    · refine x_iload_n C dX10_carry_72 rfl rfl ?_
      refine x_bipush (v := 6) C dX10_carry_73 (by decide) ?_
      refine x_icmp_ne (tgt := 86) C dX10_carry_75 (by decide) (fun c75 => ?_) (fun c75 => ?_)
      · exact absurd (show nI (p_vb P i - 256) = 6 from c29) c75
      · refine x_aload_n C dX10_carry_78 rfl rfl ?_
        refine x_iload_n C dX10_carry_79 rfl rfl ?_
        refine x_callV1 C dX10_carry_80 kX10_107 (c_X10_beginDeal hO hP0 hQ0 hk9 x_ov_bk (hpF _ rfl) (hoF _ rfl) ho11 hd hdo htg) (x_ovg 0 rfl) rfl (by decide) ⟨Nat.zero_le _, Nat.zero_le _⟩ (Nat.le_of_ble_eq_true rfl) ?_
        rintro _ _ ⟨rfl, rfl⟩
        refine x_to (x_ov_ov rfl) ?_
        refine x_goto (tgt := 97) C dX10_carry_83 (by decide) ?_
        refine x_iload C dX10_carry_97 rfl ?_
        refine x_zret C E dX10_carry_99 ?_ ?_
        · first | rfl | (unfold h_b; split <;> rfl) | fail
        · unfold h_obey
          first
            | (rw [if_pos hv]
               by_cases q9 : h_can P A (p_tg P i) = true
               · rw [if_pos q9]; refine ⟨by rw [q9], ?_⟩; first | rfl | exact absurd (show h_b (h_can P A (p_tg P i)) = 0 from c69) (by rw [q9]; decide) | fail
               · rw [if_neg q9]; refine ⟨by simp [h_b, q9], ?_⟩; first | rfl | exact absurd (show h_b (h_can P A (p_tg P i)) = 0 by simp [h_b, q9]) c69 | fail)
            | (rw [if_neg hv, if_pos hv2]
               by_cases q9 : A 1 (p_tg P i) = 0
               · rw [if_pos q9]; first | exact ⟨rfl, by rw [if_pos q9]⟩ | exact absurd q9 c57 | fail
               · rw [if_neg q9]; first | exact absurd c57 q9 | exact ⟨rfl, rfl⟩ | fail)
            | (rw [if_neg hv, if_neg hv2]
               by_cases q9 : A 1 (p_tg P i) = 0
               · rw [if_pos q9]; first | exact absurd (q9.symm.trans c57) (by decide) | exact ⟨rfl, rfl⟩ | fail
               · rw [if_neg q9]; first | exact ⟨rfl, by rw [if_neg q9]⟩ | exact absurd ((hk9.1 (p_tg P i)).resolve_left q9) c57 | fail)
            | fail
