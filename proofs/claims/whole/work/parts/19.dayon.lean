theorem x_ov_comm {M : x_M} {a b : Nat} {L L' : List x_E} (hd : a + L.length ≤ b ∨ b + L'.length ≤ a) : x_ov (x_ov M a L) b L' = x_ov (x_ov M b L') a L := by
  refine Prod.ext (funext fun q => ?_) rfl
  simp only [x_ov]
  by_cases h1 : b ≤ q ∧ q < b + L'.length
  · rw [if_pos h1, if_neg (by omega), if_pos h1]
  · rw [if_neg h1]
    by_cases h2 : a ≤ q ∧ q < a + L.length
    · rw [if_pos h2, if_pos h2]
    · rw [if_neg h2, if_neg h2, if_neg h1]
theorem ite_len {c : Prop} {_ : Decidable c} {a b : List Int32} (ha : 1 ≤ a.length) (hb : 1 ≤ b.length) : 1 ≤ (if c then a else b).length := by
  split
  · exact ha
  · exact hb
theorem g_tr1_ne (q : Nat × Int32) : 1 ≤ (g_tr1 q).length := by
  unfold g_tr1
  repeat' (first | exact Nat.le_of_ble_eq_true rfl | refine ite_len ?_ ?_)
theorem g_tr_nil {t : PT} (h : (g_tr t).length = 0) : t = [] := by
  cases t with
  | nil => rfl
  | cons q t =>
    have h1 : (g_tr1 q ++ g_tr t).length = 0 := h
    rw [List.length_append] at h1
    have := g_tr1_ne q
    omega
theorem h_tell_row {P : PL} {k : Nat} {B : HS × Int32} {j : Nat} : (h_tell P k B j).1 4 = B.1 4 ∧ (h_tell P k B j).1 1 = B.1 1 := by
  have h2 : ∀ (A : HS) (s : Nat) (r : Nat), r ≠ 7 → r ≠ 3 → r ≠ 0 → r ≠ 2 → h_hear P k A s r = A r := by
    intro A s r h7 h3 h0 h2
    have e1 : h_hear1 P A s r = A r := by unfold h_hear1; rw [h_u_row h3, h_u_row h7]
    have e2 : h_hear2 P k (h_hear1 P A s) s r = A r := by
      unfold h_hear2
      split
      · rw [h_u_row h0]; exact e1
      · exact e1
    unfold h_hear h_hear3
    split
    · rw [h_u_row h2]; exact e2
    · exact e2
  unfold h_tell
  split
  · exact ⟨h2 _ _ 4 (by decide) (by decide) (by decide) (by decide), h2 _ _ 1 (by decide) (by decide) (by decide) (by decide)⟩
  · exact ⟨rfl, rfl⟩
theorem h_tells_row {P : PL} {k : Nat} {B : HS × Int32} : ∀ n, (h_it (h_tell P k) n B).1 4 = B.1 4 := by
  intro n
  induction n with
  | zero => rfl
  | succ n ih => show (h_tell P k (h_it (h_tell P k) n B) n).1 4 = _; rw [h_tell_row.1]; exact ih
theorem h_ok_tell1 {P : PL} {k : Nat} {B : HS × Int32} {j : Nat} (hj : j < p_np P k) (hj6 : j < 6) (h : h_ok P B.1) : h_ok P (h_tell P k B j).1 := by
  unfold h_tell
  split
  · exact h_ok_hear hj hj6 h
  · exact h
theorem h_holds_v {P : PL} {A : HS} {o : Nat} {v : Int32} (hn : ¬ p_ts P o = []) (hv : h_ev P A (p_ts P o) [] = [v]) : h_holds P A o = (v != 0) := by
  unfold h_holds
  cases e : p_ts P o with
  | nil => exact absurd e hn
  | cons q t =>
    rw [e] at hv
    show ((h_ev P A (q :: t) []).headD 0 != 0) = (v != 0)
    rw [hv]
    rfl
theorem h_ask_row {P : PL} {k : Nat} {B : HS} {j : Nat} : h_ask P k B j 4 = B 4 ∧ h_ask P k B j 1 = B 1 := by
  unfold h_ask
  split
  · split
    · split
      · exact ⟨rfl, rfl⟩
      · exact ⟨rfl, rfl⟩
    · exact ⟨rfl, rfl⟩
  · exact ⟨rfl, rfl⟩
theorem h_asks_row {P : PL} {k : Nat} {B : HS} : ∀ n, h_it (h_ask P k) n B 4 = B 4 ∧ h_it (h_ask P k) n B 1 = B 1 := by
  intro n
  induction n with
  | zero => exact ⟨rfl, rfl⟩
  | succ n ih =>
    refine ⟨?_, ?_⟩
    · show h_ask P k (h_it (h_ask P k) n B) n 4 = _; rw [h_ask_row.1]; exact ih.1
    · show h_ask P k (h_it (h_ask P k) n B) n 1 = _; rw [h_ask_row.2]; exact ih.2
theorem h_col_row {P : PL} {B : HS} : ∀ n, h_it (h_col1 P) n B 1 = B 1 := by
  intro n
  induction n with
  | zero => rfl
  | succ n ih =>
    show h_col1 P (h_it (h_col1 P) n B) n 1 = _
    unfold h_col1
    split
    · rw [(h_asks_row _).2]; exact ih
    · exact ih
theorem h_dec_row {P : PL} {B : HS} : ∀ n, h_it (h_dec1 P) n B 1 = B 1 := by
  intro n
  induction n with
  | zero => rfl
  | succ n ih =>
    show h_dec1 P (h_it (h_dec1 P) n B) n 1 = _
    unfold h_dec1
    split
    · split
      · exact ih
      · split
        · exact ih
        · split
          · exact ih
          · exact ih
    · exact ih
set_option maxHeartbeats 4000000 in
set_option maxRecDepth 100000 in
theorem c_X10_dayOn {l : Launch} {Y0 : x_Y} (hO : x_Ok Y0) {M : x_M} {m o q : Nat} {P : PL} {A : HS} {hx : Nat → Int32} {z : Int32} {G : HS} {fs : List Value} (hP : p_ok P) (hQ : g_is G P) (hk9 : h_ok P A) (hb : x_bk M m (stT m o P A hx z)) (hp : x_bk M q (pmT q G)) (ho : x_bk M o [.inr (11, fs)]) (ho11 : fs[11]? = some (.ref q)) {t : Nat} {sk : Nat → Int32} (ho13 : fs[13]? = some (.ref t)) (ht : x_bk M t [.inl (0, 400, .inl sk)]) (htm : m + 9 ≤ t ∨ t + 1 ≤ m) (htq : q + 11 ≤ t ∨ t + 1 ≤ q) (hto : o + 1 ≤ t ∨ t + 1 ≤ o) (hd : q + 11 ≤ m ∨ m + 9 ≤ q) (hdo : o + 1 ≤ m ∨ m + 9 ≤ o) : x_C l Y0 yX10_dayOn cX10_dayOn 3 none 5 0 0 [.ref m] M (fun u M1 => u = none ∧ ∃ sk1 : Nat → Int32, M1 = x_ov (x_ov M t [.inl (0, 400, .inl sk1)]) m (stT m o P (h_day P A).1 hx (z + (h_day P A).2))) := by
  refine x_start hO (by decide +kernel) (Nat.le_of_ble_eq_true rfl) (fun K C E => ?_)
  have hP0 := hP
  have hQ0 := hQ
  obtain ⟨h8, h6, h16, hnp, hwho, hvb, hts⟩ := hP
  obtain ⟨hq0, hq1, hq2, hq3, hq4, hq5, hq6⟩ := hQ
  have hpF : ∀ Lt L : List x_E, Lt.length = 1 → L.length = 9 → x_bk (x_ov (x_ov M t Lt) m L) q (pmT q G) := fun Lt L h1 h2 => x_ov_far 9 (x_ov_far 1 hp h1 htq) h2 hd
  have hoF : ∀ Lt L : List x_E, Lt.length = 1 → L.length = 9 → x_bk (x_ov (x_ov M t Lt) m L) o [.inr (11, fs)] := fun Lt L h1 h2 => x_ov_far 9 (x_ov_far 1 ho h1 hto) h2 hdo
  have htF : ∀ (L : List x_E) (sk : Nat → Int32), L.length = 9 → x_bk (x_ov (x_ov M t [.inl (0, 400, .inl sk)]) m L) t [.inl (0, 400, .inl sk)] := fun L sk h => x_ov_far 9 x_ov_bk h (by simp only [List.length_cons, List.length_nil]; omega)
  have hst : M = x_ov (x_ov M t [.inl (0, 400, .inl sk)]) m (stT m o P A hx z) := by
    rw [x_ov_self ht, x_ov_self hb]
  refine x_to hst ?_
  have lp4i : ∀ (i : Nat) (sk : Nat → Int32) (B0 : HS × Int32), i < p_nk P → (B0.1 4 i = 2 ∨ B0.1 4 i = 3) → (∀ B : HS × Int32, B = h_it (h_tell P i) (p_np P i) B0 → h_ok P B.1 → x_X K 3 0 0 294 [(0, .ref m), (1, .int (nI i))] [] (x_ov (x_ov M t [.inl (0, 400, .inl sk)]) m (stT m o P B.1 hx (B.2)))) → ∀ (w j : Nat) (x : Int32) (B : HS × Int32), j + w = p_np P i → x = nI j → B = h_it (h_tell P i) j B0 → h_ok P B.1 → x_X K 3 0 0 251 [(0, .ref m), (1, .int (nI i)), (2, .int x)] [] (x_ov (x_ov M t [.inl (0, 400, .inl sk)]) m (stT m o P B.1 hx (B.2))) := by
    intro i sk B0 hi9 hs9 cont w
    have hk1 := hnp i hi9
    induction w with
    | zero =>
      intro j x B hj hx9 hz hkB
      subst hx9
      have e : j = p_np P i := by omega
      subst e
      refine x_iload_n C dX10_dayOn_251 rfl rfl ?_
      refine x_aload_n C dX10_dayOn_252 rfl rfl ?_
      refine x_getfield C dX10_dayOn_253 fX10_3 (x_ovg 0 rfl) rfl ?_
      refine x_getfield C dX10_dayOn_256 fX10_64 ((hoF _ _ rfl rfl) 0 _ rfl) ho11 ?_
      refine x_getfield C dX10_dayOn_259 fX10_77 ((hpF _ _ rfl rfl) 0 _ rfl) rfl ?_
      refine x_iload_n C dX10_dayOn_262 rfl rfl ?_
      refine x_iaload C dX10_dayOn_263 ((hpF _ _ rfl rfl) 2 _ rfl) (vp_in_nI (show i < 6 by omega) (by decide)) ?_
      rw [nI_clamp (show i < 2 ^ 31 by omega)]
      rw [hq3 i (by omega)]
      refine x_icmp_ge (tgt := 294) C dX10_dayOn_264 (by decide) (fun c264 => ?_) (fun c264 => absurd (nI_le (Nat.le_refl _) (by omega)) c264)
      refine x_take 2 ?_
      exact cont B hz hkB
    | succ w ih =>
      intro j x B hj hx9 hz hkB
      subst hx9
      have hs8 : B.1 4 i = B0.1 4 i := by rw [hz, h_tells_row]
      have hs7 : ¬ B.1 4 i ≤ 1 := by rw [hs8]; rcases hs9 with h | h <;> rw [h] <;> decide
      refine x_iload_n C dX10_dayOn_251 rfl rfl ?_
      refine x_aload_n C dX10_dayOn_252 rfl rfl ?_
      refine x_getfield C dX10_dayOn_253 fX10_3 (x_ovg 0 rfl) rfl ?_
      refine x_getfield C dX10_dayOn_256 fX10_64 ((hoF _ _ rfl rfl) 0 _ rfl) ho11 ?_
      refine x_getfield C dX10_dayOn_259 fX10_77 ((hpF _ _ rfl rfl) 0 _ rfl) rfl ?_
      refine x_iload_n C dX10_dayOn_262 rfl rfl ?_
      refine x_iaload C dX10_dayOn_263 ((hpF _ _ rfl rfl) 2 _ rfl) (vp_in_nI (show i < 6 by omega) (by decide)) ?_
      rw [nI_clamp (show i < 2 ^ 31 by omega)]
      rw [hq3 i (by omega)]
      refine x_icmp_ge (tgt := 294) C dX10_dayOn_264 (by decide) (fun c264 => absurd c264 (nI_ge (by omega) (by omega))) (fun c264 => ?_)
      refine x_aload_n C dX10_dayOn_267 rfl rfl ?_
      refine x_getfield C dX10_dayOn_268 fX10_29 (x_ovg 0 rfl) rfl ?_
      refine x_iload_n C dX10_dayOn_271 rfl rfl ?_
      refine x_iaload C dX10_dayOn_272 (x_ovg 5 rfl) (vp_in_nI (show i < 6 by omega) (by decide)) ?_
      rw [nI_clamp (show i < 2 ^ 31 by omega)]
      refine x_iconst (v := 1) C dX10_dayOn_273 (by decide) ?_
      refine x_icmp_le (tgt := 294) C dX10_dayOn_274 (by decide) (fun c274 => absurd c274 hs7) (fun c274 => ?_)
      refine x_aload_n C dX10_dayOn_277 rfl rfl ?_
      refine x_iload_n C dX10_dayOn_278 rfl rfl ?_
      refine x_bipush (v := 6) C dX10_dayOn_279 (by decide) ?_
      refine x_iload_n C dX10_dayOn_281 rfl rfl ?_
      refine x_imul C dX10_dayOn_282 ?_
      refine x_iload_n C dX10_dayOn_283 rfl rfl ?_
      refine x_iadd C dX10_dayOn_284 ?_
      rw [slot_nI2]
      refine x_callV2 C dX10_dayOn_285 kX10_164 (c_X10_hear hO hP0 hQ0 hkB x_ov_bk (hpF _ _ rfl rfl) (hoF _ _ rfl rfl) ho11 hd hdo hi9 (show j < p_np P i by omega)) (x_ovg 0 rfl) rfl (by decide) ⟨Nat.zero_le _, Nat.zero_le _⟩ (Nat.le_of_ble_eq_true rfl) ?_
      rintro _ _ ⟨rfl, rfl⟩
      refine x_to (x_ov_ov rfl) ?_
      refine x_iinc (v := 1) C dX10_dayOn_288 rfl (by decide) rfl (by decide) ?_
      refine x_goto (tgt := 251) C dX10_dayOn_291 (by decide) ?_
      refine x_take 3 ?_
      exact ih (j + 1) _ (h_tell P i B j) (by omega) (nI_1 j) (by rw [hz]; rfl) (by exact h_ok_tell1 (by omega) (by omega) hkB)
  have lp4 : ∀ (A2 : HS) (sk : Nat → Int32), A2 = h_mid P (h_ord P A) → ∀ (w i : Nat) (x : Int32) (B : HS × Int32), i + w = p_nk P → x = nI i → B = h_it (h_spr1 P) i (A2, z) → h_ok P B.1 → x_X K 3 0 0 235 [(0, .ref m), (1, .int x)] [] (x_ov (x_ov M t [.inl (0, 400, .inl sk)]) m (stT m o P B.1 hx (B.2))) := by
    intro A2 sk hA2 w
    induction w with
    | zero =>
      intro i x B hi hx9 hz hkB
      subst hx9
      have e : i = p_nk P := by omega
      subst e
      refine x_iload_n C dX10_dayOn_235 rfl rfl ?_
      refine x_aload_n C dX10_dayOn_236 rfl rfl ?_
      refine x_getfield C dX10_dayOn_237 fX10_3 (x_ovg 0 rfl) rfl ?_
      refine x_getfield C dX10_dayOn_240 fX10_64 ((hoF _ _ rfl rfl) 0 _ rfl) ho11 ?_
      refine x_getfield C dX10_dayOn_243 fX10_74 ((hpF _ _ rfl rfl) 0 _ rfl) rfl ?_
      refine x_icmp_ge (tgt := 300) C dX10_dayOn_246 (by decide) (fun c246 => ?_) (fun c246 => absurd (by rw [hq1]; exact nI_le (Nat.le_refl _) (by omega)) c246)
      refine x_aload_n C dX10_dayOn_300 rfl rfl ?_
      refine x_dup C dX10_dayOn_301 rfl ?_
      refine x_getfield C dX10_dayOn_302 fX10_41 (x_ovg 0 rfl) rfl ?_
      refine x_iconst (v := 1) C dX10_dayOn_305 (by decide) ?_
      refine x_iadd C dX10_dayOn_306 ?_
      refine x_putfield C dX10_dayOn_307 fX10_41 (x_ovg 0 rfl) rfl rfl (Nat.le_of_ble_eq_true rfl) ?_
      refine x_to (x_st_ov 0 (Nat.le_of_ble_eq_true rfl)) ?_
      refine x_vret C E dX10_dayOn_310 ?_
      have hsp : B = ((h_spr P A2).1, z + (h_spr P A2).2) := by rw [hz]; exact h_spr_z _
      have e1 : (h_day P A).1 = h_u B.1 8 0 (B.1 8 0 + 1) := by rw [hsp, hA2]; rfl
      have e2 : z + (h_day P A).2 = B.2 := by rw [hsp, hA2]; rfl
      refine ⟨rfl, sk, ?_⟩
      rw [e1, e2]
      rfl
    | succ w ih =>
      intro i x B hi hx9 hz hkB
      subst hx9
      refine x_iload_n C dX10_dayOn_235 rfl rfl ?_
      refine x_aload_n C dX10_dayOn_236 rfl rfl ?_
      refine x_getfield C dX10_dayOn_237 fX10_3 (x_ovg 0 rfl) rfl ?_
      refine x_getfield C dX10_dayOn_240 fX10_64 ((hoF _ _ rfl rfl) 0 _ rfl) ho11 ?_
      refine x_getfield C dX10_dayOn_243 fX10_74 ((hpF _ _ rfl rfl) 0 _ rfl) rfl ?_
      refine x_icmp_ge (tgt := 300) C dX10_dayOn_246 (by decide) (fun c246 => absurd c246 (by rw [hq1]; exact nI_ge (by omega) (by omega))) (fun c246 => ?_)
      refine x_iconst (v := 0) C dX10_dayOn_249 (by decide) ?_
      refine x_istore_n C dX10_dayOn_250 rfl rfl (by decide) ?_
      by_cases hs9 : B.1 4 i = 2 ∨ B.1 4 i = 3
      · refine x_take 3 ?_
        refine lp4i i sk B (by omega) hs9 (fun B2 hB2 hk2 => ?_) (p_np P i) 0 0 B (by omega) rfl rfl hkB
        refine x_iinc (v := 1) C dX10_dayOn_294 rfl (by decide) rfl (by decide) ?_
        refine x_goto (tgt := 235) C dX10_dayOn_297 (by decide) ?_
        have e9 : h_spr1 P B i = B2 := by unfold h_spr1; rw [if_pos hs9, hB2]; exact (h_tell_z (P := P) (k := i) (A := B.1) (z := B.2) (p_np P i)).symm
        exact ih (i + 1) _ B2 (by omega) (nI_1 i) (by rw [← e9]; show _ = h_spr1 P (h_it (h_spr1 P) i (A2, z)) i; rw [← hz]) hk2
      have hs7 : B.1 4 i ≤ 1 := (hkB.2.2.1 i).elim (fun h => by rw [h]; decide) (fun h => h.elim (fun h => by rw [h]; decide) (fun h => absurd h hs9))
      refine x_iload_n C dX10_dayOn_251 rfl rfl ?_
      refine x_aload_n C dX10_dayOn_252 rfl rfl ?_
      refine x_getfield C dX10_dayOn_253 fX10_3 (x_ovg 0 rfl) rfl ?_
      refine x_getfield C dX10_dayOn_256 fX10_64 ((hoF _ _ rfl rfl) 0 _ rfl) ho11 ?_
      refine x_getfield C dX10_dayOn_259 fX10_77 ((hpF _ _ rfl rfl) 0 _ rfl) rfl ?_
      refine x_iload_n C dX10_dayOn_262 rfl rfl ?_
      refine x_iaload C dX10_dayOn_263 ((hpF _ _ rfl rfl) 2 _ rfl) (vp_in_nI (show i < 6 by omega) (by decide)) ?_
      rw [nI_clamp (show i < 2 ^ 31 by omega)]
      rw [hq3 i (by omega)]
      refine x_icmp_ge (tgt := 294) C dX10_dayOn_264 (by decide) (fun c264 => absurd c264 (nI_ge (show 0 < p_np P i by have := hnp i (by omega); omega) (by have := hnp i (by omega); omega))) (fun c264 => ?_)
      refine x_aload_n C dX10_dayOn_267 rfl rfl ?_
      refine x_getfield C dX10_dayOn_268 fX10_29 (x_ovg 0 rfl) rfl ?_
      refine x_iload_n C dX10_dayOn_271 rfl rfl ?_
      refine x_iaload C dX10_dayOn_272 (x_ovg 5 rfl) (vp_in_nI (show i < 6 by omega) (by decide)) ?_
      rw [nI_clamp (show i < 2 ^ 31 by omega)]
      refine x_iconst (v := 1) C dX10_dayOn_273 (by decide) ?_
      refine x_icmp_le (tgt := 294) C dX10_dayOn_274 (by decide) (fun c274 => ?_) (fun c274 => absurd hs7 c274)
      refine x_iinc (v := 1) C dX10_dayOn_294 rfl (by decide) rfl (by decide) ?_
      refine x_goto (tgt := 235) C dX10_dayOn_297 (by decide) ?_
      refine x_take 2 ?_
      have e9 : h_spr1 P B i = B := if_neg hs9
      exact ih (i + 1) _ B (by omega) (nI_1 i) (by show B = h_spr1 P (h_it (h_spr1 P) i (A2, z)) i; rw [← hz, e9]) hkB
  have lp3 : ∀ (A1 : HS) (sk : Nat → Int32), A1 = h_col P (h_ord P A) → h_ord P A 1 8 = 0 → ∀ (w i : Nat) (x : Int32) (B : HS), i + w = p_nk P → x = nI i → B = h_it (h_dec1 P) i A1 → h_ok P B → x_X K 3 0 0 188 [(0, .ref m), (1, .int x)] [] (x_ov (x_ov M t [.inl (0, 400, .inl sk)]) m (stT m o P B hx (z))) := by
    intro A1 sk hA1 hqu w
    induction w with
    | zero =>
      intro i x B hi hx9 hz hkB
      subst hx9
      have e : i = p_nk P := by omega
      subst e
      refine x_iload_n C dX10_dayOn_188 rfl rfl ?_
      refine x_aload_n C dX10_dayOn_189 rfl rfl ?_
      refine x_getfield C dX10_dayOn_190 fX10_3 (x_ovg 0 rfl) rfl ?_
      refine x_getfield C dX10_dayOn_193 fX10_64 ((hoF _ _ rfl rfl) 0 _ rfl) ho11 ?_
      refine x_getfield C dX10_dayOn_196 fX10_74 ((hpF _ _ rfl rfl) 0 _ rfl) rfl ?_
      refine x_icmp_ge (tgt := 233) C dX10_dayOn_199 (by decide) (fun c199 => ?_) (fun c199 => absurd (by rw [hq1]; exact nI_le (Nat.le_refl _) (by omega)) c199)
      refine x_iconst (v := 0) C dX10_dayOn_233 (by decide) ?_
      refine x_istore_n C dX10_dayOn_234 rfl rfl (by decide) ?_
      refine x_take 2 ?_
      first
        | exact lp4 B sk (by unfold h_mid; rw [if_pos hqu, hz, hA1]; rfl) (p_nk P) 0 0 (B, z) (by omega) rfl rfl hkB
        | exact lp4 B sk (by unfold h_mid; rw [if_neg hqu]; exact hz) (p_nk P) 0 0 (B, z) (by omega) rfl rfl hkB
        | fail
    | succ w ih =>
      intro i x B hi hx9 hz hkB
      subst hx9
      have hB8 : B 1 8 = 0 := by rw [hz, h_dec_row, hA1]; unfold h_col; rw [h_col_row]; exact hqu
      have hB1 : h_ok P (h_dec1 P B i) := h_ok_dec1 hkB
      refine x_iload_n C dX10_dayOn_188 rfl rfl ?_
      refine x_aload_n C dX10_dayOn_189 rfl rfl ?_
      refine x_getfield C dX10_dayOn_190 fX10_3 (x_ovg 0 rfl) rfl ?_
      refine x_getfield C dX10_dayOn_193 fX10_64 ((hoF _ _ rfl rfl) 0 _ rfl) ho11 ?_
      refine x_getfield C dX10_dayOn_196 fX10_74 ((hpF _ _ rfl rfl) 0 _ rfl) rfl ?_
      refine x_icmp_ge (tgt := 233) C dX10_dayOn_199 (by decide) (fun c199 => absurd c199 (by rw [hq1]; exact nI_ge (by omega) (by omega))) (fun c199 => ?_)
      refine x_aload_n C dX10_dayOn_202 rfl rfl ?_
      refine x_getfield C dX10_dayOn_203 fX10_25 (x_ovg 0 rfl) rfl ?_
      refine x_bipush (v := 8) C dX10_dayOn_206 (by decide) ?_
      refine x_baload C dX10_dayOn_208 (x_ovg 4 rfl) (vp_in_nI (n := 8) (show 8 < 9 by decide) (by decide)) ?_
      rw [show (8 : Int32).toNatClampNeg = 8 from rfl]
      refine x_if_ne (tgt := 233) C dX10_dayOn_209 (by decide) (fun c209 => absurd c209 (fun h => h hB8)) (fun c209 => ?_)
      refine x_aload_n C dX10_dayOn_212 rfl rfl ?_
      refine x_getfield C dX10_dayOn_213 fX10_29 (x_ovg 0 rfl) rfl ?_
      refine x_iload_n C dX10_dayOn_216 rfl rfl ?_
      refine x_iaload C dX10_dayOn_217 (x_ovg 5 rfl) (vp_in_nI (show i < 6 by omega) (by decide)) ?_
      rw [nI_clamp (show i < 2 ^ 31 by omega)]
      refine x_iconst (v := 1) C dX10_dayOn_218 (by decide) ?_
      refine x_icmp_ne (tgt := 227) C dX10_dayOn_219 (by decide) (fun c219 => ?_) (fun c219 => ?_)
      · refine x_iinc (v := 1) C dX10_dayOn_227 rfl (by decide) rfl (by decide) ?_
        refine x_goto (tgt := 188) C dX10_dayOn_230 (by decide) ?_
        refine x_take 2 ?_
        first
          | exact ih (i + 1) _ (h_dec1 P B i) (by omega) (nI_1 i) (by show _ = h_dec1 P (h_it (h_dec1 P) i A1) i; rw [← hz]) hB1
          | (have e9 : h_dec1 P B i = B := if_neg c219
             exact ih (i + 1) _ B (by omega) (nI_1 i) (by show B = h_dec1 P (h_it (h_dec1 P) i A1) i; rw [← hz, e9]) hkB)
          | fail
      · refine x_aload_n C dX10_dayOn_222 rfl rfl ?_
        refine x_iload_n C dX10_dayOn_223 rfl rfl ?_
        refine x_callV1 C dX10_dayOn_224 kX10_161 (c_X10_settle hO hP0 hQ0 hkB x_ov_bk (hpF _ _ rfl rfl) (hoF _ _ rfl rfl) ho11 hd hdo (show i < p_nk P by omega) c219) (x_ovg 0 rfl) rfl (by decide) ⟨Nat.zero_le _, Nat.zero_le _⟩ (Nat.le_of_ble_eq_true rfl) ?_
        rintro _ _ ⟨rfl, rfl⟩
        refine x_to (x_ov_ov rfl) ?_
        refine x_iinc (v := 1) C dX10_dayOn_227 rfl (by decide) rfl (by decide) ?_
        refine x_goto (tgt := 188) C dX10_dayOn_230 (by decide) ?_
        refine x_take 2 ?_
        first
          | exact ih (i + 1) _ (h_dec1 P B i) (by omega) (nI_1 i) (by show _ = h_dec1 P (h_it (h_dec1 P) i A1) i; rw [← hz]) hB1
          | (have e9 : h_dec1 P B i = B := if_neg c219
             exact ih (i + 1) _ B (by omega) (nI_1 i) (by show B = h_dec1 P (h_it (h_dec1 P) i A1) i; rw [← hz, e9]) hkB)
          | fail
  have lp2i : ∀ (i : Nat) (sk : Nat → Int32) (B0 : HS), i < p_nk P → B0 4 i = 1 → (∀ B : HS, B = h_it (h_ask P i) (p_np P i) B0 → h_ok P B → x_X K 3 0 0 180 [(0, .ref m), (1, .int (nI i))] [] (x_ov (x_ov M t [.inl (0, 400, .inl sk)]) m (stT m o P B hx (z)))) → ∀ (w j : Nat) (x : Int32) (B : HS), j + w = p_np P i → x = nI j → B = h_it (h_ask P i) j B0 → h_ok P B → x_X K 3 0 0 137 [(0, .ref m), (1, .int (nI i)), (2, .int x)] [] (x_ov (x_ov M t [.inl (0, 400, .inl sk)]) m (stT m o P B hx (z))) := by
    intro i sk B0 hi9 hs9 cont w
    have hk1 := hnp i hi9
    induction w with
    | zero =>
      intro j x B hj hx9 hz hkB
      subst hx9
      have e : j = p_np P i := by omega
      subst e
      refine x_iload_n C dX10_dayOn_137 rfl rfl ?_
      refine x_aload_n C dX10_dayOn_138 rfl rfl ?_
      refine x_getfield C dX10_dayOn_139 fX10_3 (x_ovg 0 rfl) rfl ?_
      refine x_getfield C dX10_dayOn_142 fX10_64 ((hoF _ _ rfl rfl) 0 _ rfl) ho11 ?_
      refine x_getfield C dX10_dayOn_145 fX10_77 ((hpF _ _ rfl rfl) 0 _ rfl) rfl ?_
      refine x_iload_n C dX10_dayOn_148 rfl rfl ?_
      refine x_iaload C dX10_dayOn_149 ((hpF _ _ rfl rfl) 2 _ rfl) (vp_in_nI (show i < 6 by omega) (by decide)) ?_
      rw [nI_clamp (show i < 2 ^ 31 by omega)]
      rw [hq3 i (by omega)]
      refine x_icmp_ge (tgt := 180) C dX10_dayOn_150 (by decide) (fun c150 => ?_) (fun c150 => absurd (nI_le (Nat.le_refl _) (by omega)) c150)
      refine x_take 2 ?_
      exact cont B hz hkB
    | succ w ih =>
      intro j x B hj hx9 hz hkB
      subst hx9
      have hs8 : B 4 i = 1 := by rw [hz, (h_asks_row _).1]; exact hs9
      refine x_iload_n C dX10_dayOn_137 rfl rfl ?_
      refine x_aload_n C dX10_dayOn_138 rfl rfl ?_
      refine x_getfield C dX10_dayOn_139 fX10_3 (x_ovg 0 rfl) rfl ?_
      refine x_getfield C dX10_dayOn_142 fX10_64 ((hoF _ _ rfl rfl) 0 _ rfl) ho11 ?_
      refine x_getfield C dX10_dayOn_145 fX10_77 ((hpF _ _ rfl rfl) 0 _ rfl) rfl ?_
      refine x_iload_n C dX10_dayOn_148 rfl rfl ?_
      refine x_iaload C dX10_dayOn_149 ((hpF _ _ rfl rfl) 2 _ rfl) (vp_in_nI (show i < 6 by omega) (by decide)) ?_
      rw [nI_clamp (show i < 2 ^ 31 by omega)]
      rw [hq3 i (by omega)]
      refine x_icmp_ge (tgt := 180) C dX10_dayOn_150 (by decide) (fun c150 => absurd c150 (nI_ge (by omega) (by omega))) (fun c150 => ?_)
      refine x_aload_n C dX10_dayOn_153 rfl rfl ?_
      refine x_getfield C dX10_dayOn_154 fX10_29 (x_ovg 0 rfl) rfl ?_
      refine x_iload_n C dX10_dayOn_157 rfl rfl ?_
      refine x_iaload C dX10_dayOn_158 (x_ovg 5 rfl) (vp_in_nI (show i < 6 by omega) (by decide)) ?_
      rw [nI_clamp (show i < 2 ^ 31 by omega)]
      refine x_iconst (v := 1) C dX10_dayOn_159 (by decide) ?_
      refine x_icmp_ne (tgt := 180) C dX10_dayOn_160 (by decide) (fun c160 => absurd c160 (fun h => h hs8)) (fun c160 => ?_)
      refine x_aload_n C dX10_dayOn_163 rfl rfl ?_
      refine x_bipush (v := 6) C dX10_dayOn_164 (by decide) ?_
      refine x_iload_n C dX10_dayOn_166 rfl rfl ?_
      refine x_imul C dX10_dayOn_167 ?_
      refine x_iload_n C dX10_dayOn_168 rfl rfl ?_
      refine x_iadd C dX10_dayOn_169 ?_
      rw [slot_nI2]
      refine x_iload_n C dX10_dayOn_170 rfl rfl ?_
      refine x_callV2 C dX10_dayOn_171 kX10_157 (c_X10_ask hO hP0 hQ0 hkB x_ov_bk (hpF _ _ rfl rfl) (hoF _ _ rfl rfl) ho11 hd hdo hi9 (show j < p_np P i by omega)) (x_ovg 0 rfl) rfl (by decide) ⟨Nat.zero_le _, Nat.zero_le _⟩ (Nat.le_of_ble_eq_true rfl) ?_
      rintro _ _ ⟨rfl, rfl⟩
      refine x_to (x_ov_ov rfl) ?_
      refine x_iinc (v := 1) C dX10_dayOn_174 rfl (by decide) rfl (by decide) ?_
      refine x_goto (tgt := 137) C dX10_dayOn_177 (by decide) ?_
      refine x_take 3 ?_
      exact ih (j + 1) _ (h_ask P i B j) (by omega) (nI_1 j) (by rw [hz]; rfl) (h_ok_ask (by omega) (by omega) hkB)
  have lp2 : ∀ (sk : Nat → Int32), h_ord P A 1 8 = 0 → ∀ (w i : Nat) (x : Int32) (B : HS), i + w = p_nk P → x = nI i → B = h_it (h_col1 P) i (h_ord P A) → h_ok P B → x_X K 3 0 0 111 [(0, .ref m), (1, .int x)] [] (x_ov (x_ov M t [.inl (0, 400, .inl sk)]) m (stT m o P B hx (z))) := by
    intro sk hqu w
    induction w with
    | zero =>
      intro i x B hi hx9 hz hkB
      subst hx9
      have e : i = p_nk P := by omega
      subst e
      refine x_iload_n C dX10_dayOn_111 rfl rfl ?_
      refine x_aload_n C dX10_dayOn_112 rfl rfl ?_
      refine x_getfield C dX10_dayOn_113 fX10_3 (x_ovg 0 rfl) rfl ?_
      refine x_getfield C dX10_dayOn_116 fX10_64 ((hoF _ _ rfl rfl) 0 _ rfl) ho11 ?_
      refine x_getfield C dX10_dayOn_119 fX10_74 ((hpF _ _ rfl rfl) 0 _ rfl) rfl ?_
      refine x_icmp_ge (tgt := 186) C dX10_dayOn_122 (by decide) (fun c122 => ?_) (fun c122 => absurd (by rw [hq1]; exact nI_le (Nat.le_refl _) (by omega)) c122)
      refine x_iconst (v := 0) C dX10_dayOn_186 (by decide) ?_
      refine x_istore_n C dX10_dayOn_187 rfl rfl (by decide) ?_
      refine x_take 2 ?_
      exact lp3 (h_col P (h_ord P A)) sk rfl hqu (p_nk P) 0 0 B (by omega) rfl hz hkB
    | succ w ih =>
      intro i x B hi hx9 hz hkB
      subst hx9
      have hB8 : B 1 8 = 0 := by rw [hz, h_col_row]; exact hqu
      refine x_iload_n C dX10_dayOn_111 rfl rfl ?_
      refine x_aload_n C dX10_dayOn_112 rfl rfl ?_
      refine x_getfield C dX10_dayOn_113 fX10_3 (x_ovg 0 rfl) rfl ?_
      refine x_getfield C dX10_dayOn_116 fX10_64 ((hoF _ _ rfl rfl) 0 _ rfl) ho11 ?_
      refine x_getfield C dX10_dayOn_119 fX10_74 ((hpF _ _ rfl rfl) 0 _ rfl) rfl ?_
      refine x_icmp_ge (tgt := 186) C dX10_dayOn_122 (by decide) (fun c122 => absurd c122 (by rw [hq1]; exact nI_ge (by omega) (by omega))) (fun c122 => ?_)
      refine x_aload_n C dX10_dayOn_125 rfl rfl ?_
      refine x_getfield C dX10_dayOn_126 fX10_25 (x_ovg 0 rfl) rfl ?_
      refine x_bipush (v := 8) C dX10_dayOn_129 (by decide) ?_
      refine x_baload C dX10_dayOn_131 (x_ovg 4 rfl) (vp_in_nI (n := 8) (show 8 < 9 by decide) (by decide)) ?_
      rw [show (8 : Int32).toNatClampNeg = 8 from rfl]
      refine x_if_ne (tgt := 186) C dX10_dayOn_132 (by decide) (fun c132 => absurd c132 (fun h => h hB8)) (fun c132 => ?_)
      refine x_iconst (v := 0) C dX10_dayOn_135 (by decide) ?_
      refine x_istore_n C dX10_dayOn_136 rfl rfl (by decide) ?_
      by_cases hs9 : B 4 i = 1
      · refine x_take 3 ?_
        refine lp2i i sk B (by omega) hs9 (fun B2 hB2 hk2 => ?_) (p_np P i) 0 0 B (by omega) rfl rfl hkB
        refine x_iinc (v := 1) C dX10_dayOn_180 rfl (by decide) rfl (by decide) ?_
        refine x_goto (tgt := 111) C dX10_dayOn_183 (by decide) ?_
        have e9 : h_col1 P B i = B2 := by unfold h_col1; rw [if_pos hs9, hB2]
        exact ih (i + 1) _ B2 (by omega) (nI_1 i) (by rw [← e9]; show _ = h_col1 P (h_it (h_col1 P) i (h_ord P A)) i; rw [← hz]) hk2
      refine x_iload_n C dX10_dayOn_137 rfl rfl ?_
      refine x_aload_n C dX10_dayOn_138 rfl rfl ?_
      refine x_getfield C dX10_dayOn_139 fX10_3 (x_ovg 0 rfl) rfl ?_
      refine x_getfield C dX10_dayOn_142 fX10_64 ((hoF _ _ rfl rfl) 0 _ rfl) ho11 ?_
      refine x_getfield C dX10_dayOn_145 fX10_77 ((hpF _ _ rfl rfl) 0 _ rfl) rfl ?_
      refine x_iload_n C dX10_dayOn_148 rfl rfl ?_
      refine x_iaload C dX10_dayOn_149 ((hpF _ _ rfl rfl) 2 _ rfl) (vp_in_nI (show i < 6 by omega) (by decide)) ?_
      rw [nI_clamp (show i < 2 ^ 31 by omega)]
      rw [hq3 i (by omega)]
      refine x_icmp_ge (tgt := 180) C dX10_dayOn_150 (by decide) (fun c150 => absurd c150 (nI_ge (show 0 < p_np P i by have := hnp i (by omega); omega) (by have := hnp i (by omega); omega))) (fun c150 => ?_)
      refine x_aload_n C dX10_dayOn_153 rfl rfl ?_
      refine x_getfield C dX10_dayOn_154 fX10_29 (x_ovg 0 rfl) rfl ?_
      refine x_iload_n C dX10_dayOn_157 rfl rfl ?_
      refine x_iaload C dX10_dayOn_158 (x_ovg 5 rfl) (vp_in_nI (show i < 6 by omega) (by decide)) ?_
      rw [nI_clamp (show i < 2 ^ 31 by omega)]
      refine x_iconst (v := 1) C dX10_dayOn_159 (by decide) ?_
      refine x_icmp_ne (tgt := 180) C dX10_dayOn_160 (by decide) (fun c160 => ?_) (fun c160 => absurd c160 hs9)
      refine x_iinc (v := 1) C dX10_dayOn_180 rfl (by decide) rfl (by decide) ?_
      refine x_goto (tgt := 111) C dX10_dayOn_183 (by decide) ?_
      refine x_take 2 ?_
      have e9 : h_col1 P B i = B := if_neg hs9
      exact ih (i + 1) _ B (by omega) (nI_1 i) (by show B = h_col1 P (h_it (h_col1 P) i (h_ord P A)) i; rw [← hz, e9]) hkB
  have lp1 : ∀ (w i : Nat) (x : Int32) (B : HS) (sk : Nat → Int32), i + w = p_no P → x = nI i → B = h_it (h_ord1 P) i A → h_ok P B → x_X K 3 0 0 2 [(0, .ref m), (1, .int x)] [] (x_ov (x_ov M t [.inl (0, 400, .inl sk)]) m (stT m o P B hx (z))) := by
    intro w
    induction w with
    | zero =>
      intro i x B sk hi hx9 hz hkB
      subst hx9
      have e : i = p_no P := by omega
      subst e
      refine x_iload_n C dX10_dayOn_2 rfl rfl ?_
      refine x_aload_n C dX10_dayOn_3 rfl rfl ?_
      refine x_getfield C dX10_dayOn_4 fX10_3 (x_ovg 0 rfl) rfl ?_
      refine x_getfield C dX10_dayOn_7 fX10_64 ((hoF _ _ rfl rfl) 0 _ rfl) ho11 ?_
      refine x_getfield C dX10_dayOn_10 fX10_142 ((hpF _ _ rfl rfl) 0 _ rfl) rfl ?_
      refine x_icmp_ge (tgt := 109) C dX10_dayOn_13 (by decide) (fun c13 => ?_) (fun c13 => absurd (by rw [hq2]; exact nI_le (Nat.le_refl _) (by omega)) c13)
      refine x_iconst (v := 0) C dX10_dayOn_109 (by decide) ?_
      refine x_istore_n C dX10_dayOn_110 rfl rfl (by decide) ?_
      by_cases hqu : h_ord P A 1 8 = 0
      · refine x_take 2 ?_
        exact lp2 sk hqu (p_nk P) 0 0 B (by omega) rfl hz hkB
      have hqn : ¬ B 1 8 = 0 := by rw [hz]; exact hqu
      refine x_iload_n C dX10_dayOn_111 rfl rfl ?_
      refine x_aload_n C dX10_dayOn_112 rfl rfl ?_
      refine x_getfield C dX10_dayOn_113 fX10_3 (x_ovg 0 rfl) rfl ?_
      refine x_getfield C dX10_dayOn_116 fX10_64 ((hoF _ _ rfl rfl) 0 _ rfl) ho11 ?_
      refine x_getfield C dX10_dayOn_119 fX10_74 ((hpF _ _ rfl rfl) 0 _ rfl) rfl ?_
      refine x_icmp_ge (tgt := 186) C dX10_dayOn_122 (by decide) (fun c122 => ?_) (fun c122 => ?_)
      · refine x_iconst (v := 0) C dX10_dayOn_186 (by decide) ?_
        refine x_istore_n C dX10_dayOn_187 rfl rfl (by decide) ?_
        refine x_iload_n C dX10_dayOn_188 rfl rfl ?_
        refine x_aload_n C dX10_dayOn_189 rfl rfl ?_
        refine x_getfield C dX10_dayOn_190 fX10_3 (x_ovg 0 rfl) rfl ?_
        refine x_getfield C dX10_dayOn_193 fX10_64 ((hoF _ _ rfl rfl) 0 _ rfl) ho11 ?_
        refine x_getfield C dX10_dayOn_196 fX10_74 ((hpF _ _ rfl rfl) 0 _ rfl) rfl ?_
        refine x_icmp_ge (tgt := 233) C dX10_dayOn_199 (by decide) (fun c199 => ?_) (fun c199 => ?_)
        · refine x_iconst (v := 0) C dX10_dayOn_233 (by decide) ?_
          refine x_istore_n C dX10_dayOn_234 rfl rfl (by decide) ?_
          refine x_take 2 ?_
          first
            | exact lp4 B sk (by unfold h_mid; rw [if_pos hqu, hz, hA1]; rfl) (p_nk P) 0 0 (B, z) (by omega) rfl rfl hkB
            | exact lp4 B sk (by unfold h_mid; rw [if_neg hqu]; exact hz) (p_nk P) 0 0 (B, z) (by omega) rfl rfl hkB
            | fail
        · refine x_aload_n C dX10_dayOn_202 rfl rfl ?_
          refine x_getfield C dX10_dayOn_203 fX10_25 (x_ovg 0 rfl) rfl ?_
          refine x_bipush (v := 8) C dX10_dayOn_206 (by decide) ?_
          refine x_baload C dX10_dayOn_208 (x_ovg 4 rfl) (vp_in_nI (n := 8) (show 8 < 9 by decide) (by decide)) ?_
          rw [show (8 : Int32).toNatClampNeg = 8 from rfl]
          refine x_if_ne (tgt := 233) C dX10_dayOn_209 (by decide) (fun c209 => ?_) (fun c209 => absurd c209 hqn)
          refine x_iconst (v := 0) C dX10_dayOn_233 (by decide) ?_
          refine x_istore_n C dX10_dayOn_234 rfl rfl (by decide) ?_
          refine x_take 2 ?_
          first
            | exact lp4 B sk (by unfold h_mid; rw [if_pos hqu, hz, hA1]; rfl) (p_nk P) 0 0 (B, z) (by omega) rfl rfl hkB
            | exact lp4 B sk (by unfold h_mid; rw [if_neg hqu]; exact hz) (p_nk P) 0 0 (B, z) (by omega) rfl rfl hkB
            | fail
      · refine x_aload_n C dX10_dayOn_125 rfl rfl ?_
        refine x_getfield C dX10_dayOn_126 fX10_25 (x_ovg 0 rfl) rfl ?_
        refine x_bipush (v := 8) C dX10_dayOn_129 (by decide) ?_
        refine x_baload C dX10_dayOn_131 (x_ovg 4 rfl) (vp_in_nI (n := 8) (show 8 < 9 by decide) (by decide)) ?_
        rw [show (8 : Int32).toNatClampNeg = 8 from rfl]
        refine x_if_ne (tgt := 186) C dX10_dayOn_132 (by decide) (fun c132 => ?_) (fun c132 => absurd c132 hqn)
        refine x_iconst (v := 0) C dX10_dayOn_186 (by decide) ?_
        refine x_istore_n C dX10_dayOn_187 rfl rfl (by decide) ?_
        refine x_iload_n C dX10_dayOn_188 rfl rfl ?_
        refine x_aload_n C dX10_dayOn_189 rfl rfl ?_
        refine x_getfield C dX10_dayOn_190 fX10_3 (x_ovg 0 rfl) rfl ?_
        refine x_getfield C dX10_dayOn_193 fX10_64 ((hoF _ _ rfl rfl) 0 _ rfl) ho11 ?_
        refine x_getfield C dX10_dayOn_196 fX10_74 ((hpF _ _ rfl rfl) 0 _ rfl) rfl ?_
        refine x_icmp_ge (tgt := 233) C dX10_dayOn_199 (by decide) (fun c199 => ?_) (fun c199 => ?_)
        · refine x_iconst (v := 0) C dX10_dayOn_233 (by decide) ?_
          refine x_istore_n C dX10_dayOn_234 rfl rfl (by decide) ?_
          refine x_take 2 ?_
          first
            | exact lp4 B sk (by unfold h_mid; rw [if_pos hqu, hz, hA1]; rfl) (p_nk P) 0 0 (B, z) (by omega) rfl rfl hkB
            | exact lp4 B sk (by unfold h_mid; rw [if_neg hqu]; exact hz) (p_nk P) 0 0 (B, z) (by omega) rfl rfl hkB
            | fail
        · refine x_aload_n C dX10_dayOn_202 rfl rfl ?_
          refine x_getfield C dX10_dayOn_203 fX10_25 (x_ovg 0 rfl) rfl ?_
          refine x_bipush (v := 8) C dX10_dayOn_206 (by decide) ?_
          refine x_baload C dX10_dayOn_208 (x_ovg 4 rfl) (vp_in_nI (n := 8) (show 8 < 9 by decide) (by decide)) ?_
          rw [show (8 : Int32).toNatClampNeg = 8 from rfl]
          refine x_if_ne (tgt := 233) C dX10_dayOn_209 (by decide) (fun c209 => ?_) (fun c209 => absurd c209 hqn)
          refine x_iconst (v := 0) C dX10_dayOn_233 (by decide) ?_
          refine x_istore_n C dX10_dayOn_234 rfl rfl (by decide) ?_
          refine x_take 2 ?_
          first
            | exact lp4 B sk (by unfold h_mid; rw [if_pos hqu, hz, hA1]; rfl) (p_nk P) 0 0 (B, z) (by omega) rfl rfl hkB
            | exact lp4 B sk (by unfold h_mid; rw [if_neg hqu]; exact hz) (p_nk P) 0 0 (B, z) (by omega) rfl rfl hkB
            | fail
    | succ w ih =>
      intro i x B sk hi hx9 hz hkB
      subst hx9
      obtain ⟨hq5a, hq5b, b, hb6, hb7, hb8, hcode⟩ := hq5 i (by omega)
      have hB1 : h_ok P (h_ord1 P B i) := h_ok_ord1 hP0 (by omega) hkB
      refine x_iload_n C dX10_dayOn_2 rfl rfl ?_
      refine x_aload_n C dX10_dayOn_3 rfl rfl ?_
      refine x_getfield C dX10_dayOn_4 fX10_3 (x_ovg 0 rfl) rfl ?_
      refine x_getfield C dX10_dayOn_7 fX10_64 ((hoF _ _ rfl rfl) 0 _ rfl) ho11 ?_
      refine x_getfield C dX10_dayOn_10 fX10_142 ((hpF _ _ rfl rfl) 0 _ rfl) rfl ?_
      refine x_icmp_ge (tgt := 109) C dX10_dayOn_13 (by decide) (fun c13 => absurd c13 (by rw [hq2]; exact nI_ge (by omega) (by omega))) (fun c13 => ?_)
      refine x_aload_n C dX10_dayOn_16 rfl rfl ?_
      refine x_getfield C dX10_dayOn_17 fX10_3 (x_ovg 0 rfl) rfl ?_
      refine x_getfield C dX10_dayOn_20 fX10_64 ((hoF _ _ rfl rfl) 0 _ rfl) ho11 ?_
      refine x_getfield C dX10_dayOn_23 fX10_145 ((hpF _ _ rfl rfl) 0 _ rfl) rfl ?_
      refine x_iload_n C dX10_dayOn_26 rfl rfl ?_
      refine x_iaload C dX10_dayOn_27 ((hpF _ _ rfl rfl) 7 _ rfl) (vp_in_nI (show i < 17 by omega) (by decide)) ?_
      rw [nI_clamp (show i < 2 ^ 31 by omega)]
      rw [hb6]
      refine x_aload_n C dX10_dayOn_28 rfl rfl ?_
      refine x_getfield C dX10_dayOn_29 fX10_3 (x_ovg 0 rfl) rfl ?_
      refine x_getfield C dX10_dayOn_32 fX10_64 ((hoF _ _ rfl rfl) 0 _ rfl) ho11 ?_
      refine x_getfield C dX10_dayOn_35 fX10_148 ((hpF _ _ rfl rfl) 0 _ rfl) rfl ?_
      refine x_iload_n C dX10_dayOn_38 rfl rfl ?_
      refine x_iaload C dX10_dayOn_39 ((hpF _ _ rfl rfl) 8 _ rfl) (vp_in_nI (show i < 17 by omega) (by decide)) ?_
      rw [nI_clamp (show i < 2 ^ 31 by omega)]
      rw [hb7]
      refine x_icmp_eq (tgt := 75) C dX10_dayOn_40 (by decide) (fun c40 => ?_) (fun c40 => ?_)
      · have hnil : p_ts P i = [] := g_tr_nil (by have := (nI_eq (by omega) (by omega)).mp c40; omega)
        have hh : h_holds P B i = true := by unfold h_holds; rw [hnil]
        refine x_iconst (v := 1) C dX10_dayOn_75 (by decide) ?_
        refine x_goto (tgt := 80) C dX10_dayOn_76 (by decide) ?_
        refine x_istore_n C dX10_dayOn_80 rfl rfl (by decide) ?_
        refine x_iload_n C dX10_dayOn_81 rfl rfl ?_
        refine x_if_eq (tgt := 103) C dX10_dayOn_82 (by decide) (fun c82 => absurd c82 (by decide)) (fun c82 => ?_)
        refine x_aload_n C dX10_dayOn_85 rfl rfl ?_
        refine x_iload_n C dX10_dayOn_86 rfl rfl ?_
        refine x_callV1 C dX10_dayOn_87 kX10_154 (c_X10_carry hO hP0 hQ0 hkB x_ov_bk (hpF _ _ rfl rfl) (hoF _ _ rfl rfl) ho11 hd hdo (show i < p_no P by omega)) (x_ovg 0 rfl) rfl (by decide) ⟨Nat.zero_le _, Nat.zero_le _⟩ (Nat.le_of_ble_eq_true rfl) ?_
        rintro _ _ ⟨rfl, rfl⟩
        refine x_to (x_ov_ov rfl) ?_
        refine x_if_eq (tgt := 103) C dX10_dayOn_90 (by decide) (fun c90 => ?_) (fun c90 => ?_)
        · have hb2 : ¬ (h_obey P B i).2 = true := fun q => by rw [q] at c90; exact absurd c90 (by decide)
          refine x_iinc (v := 1) C dX10_dayOn_103 rfl (by decide) rfl (by decide) ?_
          refine x_goto (tgt := 2) C dX10_dayOn_106 (by decide) ?_
          refine x_take 2 ?_
          first
            | (have e9 : h_ord1 P B i = h_u (h_obey P B i).1 8 1 ((h_obey P B i).1 8 1 + 1) := by unfold h_ord1; rw [if_pos hh, if_pos hb2]
               exact ih (i + 1) _ (h_u (h_obey P B i).1 8 1 ((h_obey P B i).1 8 1 + 1)) _ (by omega) (nI_1 i) (by rw [← e9]; show _ = h_ord1 P (h_it (h_ord1 P) i A) i; rw [← hz]) (by rw [← e9]; exact hB1))
            | (have e9 : h_ord1 P B i = (h_obey P B i).1 := by unfold h_ord1; rw [if_pos hh, if_neg hb2]
               exact ih (i + 1) _ ((h_obey P B i).1) _ (by omega) (nI_1 i) (by rw [← e9]; show _ = h_ord1 P (h_it (h_ord1 P) i A) i; rw [← hz]) (by rw [← e9]; exact hB1))
            | (have e9 : h_ord1 P B i = B := by unfold h_ord1; rw [if_neg hh]
               exact ih (i + 1) _ B _ (by omega) (nI_1 i) (by show B = h_ord1 P (h_it (h_ord1 P) i A) i; rw [← hz, e9]) hkB)
            | fail
        · have hb2 : (h_obey P B i).2 = true := by
            cases q : (h_obey P B i).2 with
            | false => rw [q] at c90; exact absurd rfl c90
            | true => rfl
          refine x_aload_n C dX10_dayOn_93 rfl rfl ?_
          refine x_dup C dX10_dayOn_94 rfl ?_
          refine x_getfield C dX10_dayOn_95 fX10_45 (x_ovg 0 rfl) rfl ?_
          refine x_iconst (v := 1) C dX10_dayOn_98 (by decide) ?_
          refine x_iadd C dX10_dayOn_99 ?_
          refine x_putfield C dX10_dayOn_100 fX10_45 (x_ovg 0 rfl) rfl rfl (Nat.le_of_ble_eq_true rfl) ?_
          refine x_to (x_st_ov 0 (Nat.le_of_ble_eq_true rfl)) ?_
          refine x_iinc (v := 1) C dX10_dayOn_103 rfl (by decide) rfl (by decide) ?_
          refine x_goto (tgt := 2) C dX10_dayOn_106 (by decide) ?_
          refine x_take 2 ?_
          first
            | (have e9 : h_ord1 P B i = h_u (h_obey P B i).1 8 1 ((h_obey P B i).1 8 1 + 1) := by unfold h_ord1; rw [if_pos hh, if_pos hb2]
               exact ih (i + 1) _ (h_u (h_obey P B i).1 8 1 ((h_obey P B i).1 8 1 + 1)) _ (by omega) (nI_1 i) (by rw [← e9]; show _ = h_ord1 P (h_it (h_ord1 P) i A) i; rw [← hz]) (by rw [← e9]; exact hB1))
            | (have e9 : h_ord1 P B i = (h_obey P B i).1 := by unfold h_ord1; rw [if_pos hh, if_neg hb2]
               exact ih (i + 1) _ ((h_obey P B i).1) _ (by omega) (nI_1 i) (by rw [← e9]; show _ = h_ord1 P (h_it (h_ord1 P) i A) i; rw [← hz]) (by rw [← e9]; exact hB1))
            | (have e9 : h_ord1 P B i = B := by unfold h_ord1; rw [if_neg hh]
               exact ih (i + 1) _ B _ (by omega) (nI_1 i) (by show B = h_ord1 P (h_it (h_ord1 P) i A) i; rw [← hz, e9]) hkB)
            | fail
      · have hne : ¬ p_ts P i = [] := fun h => c40 (by rw [h]; rfl)
        refine x_aload_n C dX10_dayOn_43 rfl rfl ?_
        refine x_aload_n C dX10_dayOn_44 rfl rfl ?_
        refine x_getfield C dX10_dayOn_45 fX10_3 (x_ovg 0 rfl) rfl ?_
        refine x_getfield C dX10_dayOn_48 fX10_64 ((hoF _ _ rfl rfl) 0 _ rfl) ho11 ?_
        refine x_getfield C dX10_dayOn_51 fX10_145 ((hpF _ _ rfl rfl) 0 _ rfl) rfl ?_
        refine x_iload_n C dX10_dayOn_54 rfl rfl ?_
        refine x_iaload C dX10_dayOn_55 ((hpF _ _ rfl rfl) 7 _ rfl) (vp_in_nI (show i < 17 by omega) (by decide)) ?_
        rw [nI_clamp (show i < 2 ^ 31 by omega)]
        rw [hb6]
        refine x_aload_n C dX10_dayOn_56 rfl rfl ?_
        refine x_getfield C dX10_dayOn_57 fX10_3 (x_ovg 0 rfl) rfl ?_
        refine x_getfield C dX10_dayOn_60 fX10_64 ((hoF _ _ rfl rfl) 0 _ rfl) ho11 ?_
        refine x_getfield C dX10_dayOn_63 fX10_148 ((hpF _ _ rfl rfl) 0 _ rfl) rfl ?_
        refine x_iload_n C dX10_dayOn_66 rfl rfl ?_
        refine x_iaload C dX10_dayOn_67 ((hpF _ _ rfl rfl) 8 _ rfl) (vp_in_nI (show i < 17 by omega) (by decide)) ?_
        rw [nI_clamp (show i < 2 ^ 31 by omega)]
        rw [hb7]
        refine x_callV2 C dX10_dayOn_68 kX10_151 (c_X10_reckon hO hP0 hQ0 hkB x_ov_bk (hpF _ _ rfl rfl) (hoF _ _ rfl rfl) ho11 ho13 (htF _ _ rfl) htm htq hto hne (hts i (by omega)) hcode rfl hb8) (x_ovg 0 rfl) rfl (by decide) ⟨Nat.zero_le _, Nat.zero_le _⟩ (Nat.le_of_ble_eq_true rfl) ?_
        rintro _ _ ⟨⟨v, rfl, hv, hv01⟩, sk1, rfl⟩
        refine x_to ((x_ov_comm (by show m + 9 ≤ t ∨ t + 1 ≤ m; exact htm)).trans (congrArg (fun N => x_ov N m _) (x_ov_ov rfl))) ?_
        refine x_iconst (v := 1) C dX10_dayOn_71 (by decide) ?_
        refine x_icmp_ne (tgt := 79) C dX10_dayOn_72 (by decide) (fun c72 => ?_) (fun c72 => ?_)
        · have hh : ¬ h_holds P B i = true := by
            rw [h_holds_v hne hv, hv01.resolve_right c72]
            decide
          refine x_iconst (v := 0) C dX10_dayOn_79 (by decide) ?_
          refine x_istore_n C dX10_dayOn_80 rfl rfl (by decide) ?_
          refine x_iload_n C dX10_dayOn_81 rfl rfl ?_
          refine x_if_eq (tgt := 103) C dX10_dayOn_82 (by decide) (fun c82 => ?_) (fun c82 => absurd (by decide) c82)
          refine x_iinc (v := 1) C dX10_dayOn_103 rfl (by decide) rfl (by decide) ?_
          refine x_goto (tgt := 2) C dX10_dayOn_106 (by decide) ?_
          refine x_take 2 ?_
          first
            | (have e9 : h_ord1 P B i = h_u (h_obey P B i).1 8 1 ((h_obey P B i).1 8 1 + 1) := by unfold h_ord1; rw [if_pos hh, if_pos hb2]
               exact ih (i + 1) _ (h_u (h_obey P B i).1 8 1 ((h_obey P B i).1 8 1 + 1)) _ (by omega) (nI_1 i) (by rw [← e9]; show _ = h_ord1 P (h_it (h_ord1 P) i A) i; rw [← hz]) (by rw [← e9]; exact hB1))
            | (have e9 : h_ord1 P B i = (h_obey P B i).1 := by unfold h_ord1; rw [if_pos hh, if_neg hb2]
               exact ih (i + 1) _ ((h_obey P B i).1) _ (by omega) (nI_1 i) (by rw [← e9]; show _ = h_ord1 P (h_it (h_ord1 P) i A) i; rw [← hz]) (by rw [← e9]; exact hB1))
            | (have e9 : h_ord1 P B i = B := by unfold h_ord1; rw [if_neg hh]
               exact ih (i + 1) _ B _ (by omega) (nI_1 i) (by show B = h_ord1 P (h_it (h_ord1 P) i A) i; rw [← hz, e9]) hkB)
            | fail
        · have hh : h_holds P B i = true := by
            rw [h_holds_v hne hv, c72]
            decide
          refine x_iconst (v := 1) C dX10_dayOn_75 (by decide) ?_
          refine x_goto (tgt := 80) C dX10_dayOn_76 (by decide) ?_
          refine x_istore_n C dX10_dayOn_80 rfl rfl (by decide) ?_
          refine x_iload_n C dX10_dayOn_81 rfl rfl ?_
          refine x_if_eq (tgt := 103) C dX10_dayOn_82 (by decide) (fun c82 => absurd c82 (by decide)) (fun c82 => ?_)
          refine x_aload_n C dX10_dayOn_85 rfl rfl ?_
          refine x_iload_n C dX10_dayOn_86 rfl rfl ?_
          refine x_callV1 C dX10_dayOn_87 kX10_154 (c_X10_carry hO hP0 hQ0 hkB x_ov_bk (hpF _ _ rfl rfl) (hoF _ _ rfl rfl) ho11 hd hdo (show i < p_no P by omega)) (x_ovg 0 rfl) rfl (by decide) ⟨Nat.zero_le _, Nat.zero_le _⟩ (Nat.le_of_ble_eq_true rfl) ?_
          rintro _ _ ⟨rfl, rfl⟩
          refine x_to (x_ov_ov rfl) ?_
          refine x_if_eq (tgt := 103) C dX10_dayOn_90 (by decide) (fun c90 => ?_) (fun c90 => ?_)
          · have hb2 : ¬ (h_obey P B i).2 = true := fun q => by rw [q] at c90; exact absurd c90 (by decide)
            refine x_iinc (v := 1) C dX10_dayOn_103 rfl (by decide) rfl (by decide) ?_
            refine x_goto (tgt := 2) C dX10_dayOn_106 (by decide) ?_
            refine x_take 2 ?_
            first
              | (have e9 : h_ord1 P B i = h_u (h_obey P B i).1 8 1 ((h_obey P B i).1 8 1 + 1) := by unfold h_ord1; rw [if_pos hh, if_pos hb2]
                 exact ih (i + 1) _ (h_u (h_obey P B i).1 8 1 ((h_obey P B i).1 8 1 + 1)) _ (by omega) (nI_1 i) (by rw [← e9]; show _ = h_ord1 P (h_it (h_ord1 P) i A) i; rw [← hz]) (by rw [← e9]; exact hB1))
              | (have e9 : h_ord1 P B i = (h_obey P B i).1 := by unfold h_ord1; rw [if_pos hh, if_neg hb2]
                 exact ih (i + 1) _ ((h_obey P B i).1) _ (by omega) (nI_1 i) (by rw [← e9]; show _ = h_ord1 P (h_it (h_ord1 P) i A) i; rw [← hz]) (by rw [← e9]; exact hB1))
              | (have e9 : h_ord1 P B i = B := by unfold h_ord1; rw [if_neg hh]
                 exact ih (i + 1) _ B _ (by omega) (nI_1 i) (by show B = h_ord1 P (h_it (h_ord1 P) i A) i; rw [← hz, e9]) hkB)
              | fail
          · have hb2 : (h_obey P B i).2 = true := by
              cases q : (h_obey P B i).2 with
              | false => rw [q] at c90; exact absurd rfl c90
              | true => rfl
            refine x_aload_n C dX10_dayOn_93 rfl rfl ?_
            refine x_dup C dX10_dayOn_94 rfl ?_
            refine x_getfield C dX10_dayOn_95 fX10_45 (x_ovg 0 rfl) rfl ?_
            refine x_iconst (v := 1) C dX10_dayOn_98 (by decide) ?_
            refine x_iadd C dX10_dayOn_99 ?_
            refine x_putfield C dX10_dayOn_100 fX10_45 (x_ovg 0 rfl) rfl rfl (Nat.le_of_ble_eq_true rfl) ?_
            refine x_to (x_st_ov 0 (Nat.le_of_ble_eq_true rfl)) ?_
            refine x_iinc (v := 1) C dX10_dayOn_103 rfl (by decide) rfl (by decide) ?_
            refine x_goto (tgt := 2) C dX10_dayOn_106 (by decide) ?_
            refine x_take 2 ?_
            first
              | (have e9 : h_ord1 P B i = h_u (h_obey P B i).1 8 1 ((h_obey P B i).1 8 1 + 1) := by unfold h_ord1; rw [if_pos hh, if_pos hb2]
                 exact ih (i + 1) _ (h_u (h_obey P B i).1 8 1 ((h_obey P B i).1 8 1 + 1)) _ (by omega) (nI_1 i) (by rw [← e9]; show _ = h_ord1 P (h_it (h_ord1 P) i A) i; rw [← hz]) (by rw [← e9]; exact hB1))
              | (have e9 : h_ord1 P B i = (h_obey P B i).1 := by unfold h_ord1; rw [if_pos hh, if_neg hb2]
                 exact ih (i + 1) _ ((h_obey P B i).1) _ (by omega) (nI_1 i) (by rw [← e9]; show _ = h_ord1 P (h_it (h_ord1 P) i A) i; rw [← hz]) (by rw [← e9]; exact hB1))
              | (have e9 : h_ord1 P B i = B := by unfold h_ord1; rw [if_neg hh]
                 exact ih (i + 1) _ B _ (by omega) (nI_1 i) (by show B = h_ord1 P (h_it (h_ord1 P) i A) i; rw [← hz, e9]) hkB)
              | fail
  refine x_iconst (v := 0) C dX10_dayOn_0 (by decide) ?_
  refine x_istore_n C dX10_dayOn_1 rfl rfl (by decide) ?_
  refine x_take 2 ?_
  exact lp1 (p_no P) 0 0 A sk (by omega) rfl rfl hk9
