theorem g_tr_0 : g_tr [] = [] := rfl
theorem p_ty_nil {ty : List Bool} (h : p_ty [] ty = some [true]) : ty = [true] := Option.some.inj h
theorem p_op_ne {k : Nat} {ty ty' : List Bool} (h : p_op k ty = some ty') (hv : h_isval k = false) : ty ≠ [] := by
  rcases p_op_cases h with h | h | h | h
  · obtain ⟨-, r, rfl, -⟩ := h; simp
  · obtain ⟨-, r, rfl, -⟩ := h; simp
  · rw [h.2.2.1] at hv; cases hv
  · obtain ⟨-, -, -, -, c, d, e, r, rfl, -⟩ := h; simp
theorem p_op_len {P : PL} {A : HS} {k : Nat} {x : Int32} {st : List Int32} {ty ty' : List Bool} (h : p_op k ty = some ty') (hl : st.length = ty.length) : (h_op P A k x st).length = ty'.length := by
  rcases p_op_cases h with h | h | h | h
  · obtain ⟨h1, r, rfl, rfl⟩ := h
    obtain ⟨v, s, rfl, hs⟩ := st_cons hl
    rw [h_op_not h1]; simpa using hs
  · obtain ⟨h1, r, rfl, rfl⟩ := h
    obtain ⟨v, s, rfl, hs⟩ := st_cons hl
    rw [h_op_neg h1]; simpa using hs
  · obtain ⟨h1, h2, h3, c, rfl⟩ := h
    rw [h_op_val h1 h2 h3]; simpa using hl
  · obtain ⟨h1, h2, h3, -, c, d, e, r, rfl, rfl⟩ := h
    obtain ⟨v, s1, rfl, hs1⟩ := st_cons hl
    obtain ⟨u, s, rfl, hs⟩ := st_cons hs1
    rw [h_op_bin h1 h2 h3]; simpa using hs
theorem p_op_kinds {k : Nat} {ty ty' : List Bool} (h : p_op k ty = some ty') : k = 3 ∨ k = 267 ∨ k = 268 ∨ k = 269 ∨ k = 257 ∨ k = 270 ∨ k = 272 ∨ k = 273 ∨ k = 4 ∨ k = 275 ∨ k = 274 ∨ k = 60 ∨ k = 62 ∨ k = 61 ∨ k = 188 ∨ k = 190 ∨ k = 43 ∨ k = 45 ∨ k = 42 ∨ k = 47 ∨ k = 276 ∨ k = 277 := by
  rcases p_op_cases h with h | h | h | h
  · omega
  · omega
  · have h1 : k = 3 ∨ k = 267 ∨ k = 268 ∨ k = 269 ∨ k = 257 ∨ k = 270 ∨ k = 272 := by simpa [h_isval] using h.2.2.1
    omega
  · have h1 := h.2.2.2.1
    unfold h_bin at h1
    omega
set_option maxHeartbeats 4000000 in
set_option maxRecDepth 100000 in
theorem c_X10_reckon {l : Launch} {Y0 : x_Y} (hO : x_Ok Y0) {M : x_M} {m o q : Nat} {P : PL} {A : HS} {hx : Nat → Int32} {z : Int32} {G : HS} {fs : List Value} (hP : p_ok P) (hQ : g_is G P) (hk9 : h_ok P A) (hb : x_bk M m (stT m o P A hx z)) (hp : x_bk M q (pmT q G)) (ho : x_bk M o [.inr (11, fs)]) (ho11 : fs[11]? = some (.ref q)) {t : Nat} {sk : Nat → Int32} (ho13 : fs[13]? = some (.ref t)) (ht : x_bk M t [.inl (0, 400, .inl sk)]) (htm : m + 9 ≤ t ∨ t + 1 ≤ m) (htq : q + 11 ≤ t ∨ t + 1 ≤ q) (hto : o + 1 ≤ t ∨ t + 1 ≤ o) {tt : PT} {b e : Nat} (hne : ¬ tt = []) (hts9 : p_tst P tt) (hcd : g_code G b (g_tr tt)) (hee : b + (g_tr tt).length = e) (he8 : e ≤ 800) : x_C l Y0 yX10_reckon cX10_reckon 7 (some .int) 4 0 0 [.ref m, .int (nI b), .int (nI e)] M (fun u M1 => (∃ v, u = some (.int v) ∧ h_ev P A tt [] = [v] ∧ (v = 0 ∨ v = 1)) ∧ ∃ sk1 : Nat → Int32, M1 = x_ov M t [.inl (0, 400, .inl sk1)]) := by
  refine x_start hO (by decide +kernel) (Nat.le_of_ble_eq_true rfl) (fun K C E => ?_)
  have hP0 := hP
  have hQ0 := hQ
  obtain ⟨h8, h6, h16, hnp, hwho, hvb, hts⟩ := hP
  obtain ⟨hq0, hq1, hq2, hq3, hq4, hq5, hq6⟩ := hQ
  have hmF : ∀ L : List x_E, L.length = 1 → x_bk (x_ov M t L) m (stT m o P A hx z) := fun L h => x_ov_far 1 hb h htm
  have hqF : ∀ L : List x_E, L.length = 1 → x_bk (x_ov M t L) q (pmT q G) := fun L h => x_ov_far 1 hp h htq
  have hoF : ∀ L : List x_E, L.length = 1 → x_bk (x_ov M t L) o [.inr (11, fs)] := fun L h => x_ov_far 1 ho h hto
  refine x_to (x_ov_self ht).symm ?_
  obtain ⟨hty0, hlen0, hdts0⟩ := hts9.resolve_left hne
  have lp : ∀ (w : Nat) (r : PT) (pos : Nat) (x : Int32) (st : List Int32) (ty : List Bool) (sk : Nat → Int32), r.length = w → g_code G pos (g_tr r) → pos + (g_tr r).length = e → x = nI pos → p_ty r ty = some [true] → st.length = ty.length → h_tyv st ty → h_ev P A r st = h_ev P A tt [] → hstk sk st → st.length + w ≤ 400 → (∀ q ∈ r, p_dt P q) → x_X K 7 0 0 5 [(0, .ref m), (1, .int (nI b)), (2, .int (nI e)), (3, .int (nI st.length)), (4, .int x)] [] (x_ov M t [.inl (0, 400, .inl sk)]) := by
    intro w
    induction w with
    | zero =>
      intro r pos x st ty sk hr hc hlen hx9 hty hsl htv hev hsk hle hdts
      subst hx9
      have hr0 := List.eq_nil_of_length_eq_zero hr
      subst hr0
      have e9 : pos = e := hlen
      subst e9
      have ht1 := p_ty_nil hty
      subst ht1
      obtain ⟨v, s, rfl, hs⟩ := st_cons hsl
      have hs0 := List.eq_nil_of_length_eq_zero hs
      subst hs0
      have hev : [v] = h_ev P A tt [] := hev
      refine x_iload C dX10_reckon_5 rfl ?_
      refine x_iload_n C dX10_reckon_7 rfl rfl ?_
      refine x_icmp_ge (tgt := 283) C dX10_reckon_8 (by decide) (fun c8 => ?_) (fun c8 => absurd (nI_le (Nat.le_refl _) (by omega)) c8)
      refine x_aload_n C dX10_reckon_283 rfl rfl ?_
      refine x_getfield C dX10_reckon_284 fX10_3 ((hmF _ rfl) 0 _ rfl) rfl ?_
      refine x_getfield C dX10_reckon_287 fX10_124 ((hoF _ rfl) 0 _ rfl) ho13 ?_
      refine x_iconst (v := 0) C dX10_reckon_290 (by decide) ?_
      refine x_iaload C dX10_reckon_291 (x_ovg 0 rfl) (vp_in_nI (n := 0) (show 0 < 400 by decide) (by decide)) ?_
      refine x_iret C E dX10_reckon_292 ?_
      exact ⟨⟨v, by rw [show sk (0 : Int32).toNatClampNeg = v from hsk.1], hev.symm, htv.1 rfl⟩, sk, rfl⟩
    | succ w ih =>
      intro r pos x st ty sk hr hc hlen hx9 hty hsl htv hev hsk hle hdts
      subst hx9
      obtain ⟨q9, r9, rfl, hr2⟩ := st_cons (st := r) (c := true) (r := List.replicate w true) (by simp [hr])
      obtain ⟨k9, x9⟩ := q9
      obtain ⟨ty2, hop, hty2⟩ := p_ty_cons hty
      have hop : p_op k9 ty = some ty2 := hop
      have hev : h_ev P A r9 (h_op P A k9 x9 st) = h_ev P A tt [] := hev
      have hl2 : (h_op P A k9 x9 st).length = ty2.length := p_op_len hop hsl
      have htv2 : h_tyv (h_op P A k9 x9 st) ty2 := h_tyv_op hop hsl htv
      have hkk := p_op_kinds hop
      rcases hkk with hk | hk | hk | hk | hk | hk | hk | hk | hk | hk | hk | hk | hk | hk | hk | hk | hk | hk | hk | hk | hk | hk
      · subst hk
        obtain ⟨hc0, hc1⟩ := g_code_c (a := 32) (c := x9 :: g_tr r9) hc
        obtain ⟨hc2, hc3⟩ := g_code_c hc1
        have hlen : pos + (g_tr r9).length + 2 = e := by rw [← hlen]; show _ = pos + ((g_tr r9).length + 1 + 1); omega
        have hp8 : pos < 800 := by omega
        have hp9 : pos + 1 < 800 := by omega
        refine x_iload C dX10_reckon_5 rfl ?_
        refine x_iload_n C dX10_reckon_7 rfl rfl ?_
        refine x_icmp_ge (tgt := 283) C dX10_reckon_8 (by decide) (fun c8 => absurd c8 (nI_ge (show pos < e by omega) (by omega))) (fun c8 => ?_)
        refine x_aload_n C dX10_reckon_11 rfl rfl ?_
        refine x_getfield C dX10_reckon_12 fX10_3 ((hmF _ rfl) 0 _ rfl) rfl ?_
        refine x_getfield C dX10_reckon_15 fX10_64 ((hoF _ rfl) 0 _ rfl) ho11 ?_
        refine x_getfield C dX10_reckon_18 fX10_121 ((hqF _ rfl) 0 _ rfl) rfl ?_
        refine x_iload C dX10_reckon_21 rfl ?_
        refine x_iaload C dX10_reckon_23 ((hqF _ rfl) 9 _ rfl) (vp_in_nI hp8 (by decide)) ?_
        rw [nI_clamp (show pos < 2 ^ 31 by omega)]
        rw [hc0]
        refine x_istore C dX10_reckon_24 rfl (by decide) ?_
        refine x_iinc (v := 1) C dX10_reckon_26 rfl (by decide) rfl (by decide) ?_
        refine x_iload C dX10_reckon_29 rfl ?_
        refine x_bipush (v := 32) C dX10_reckon_31 (by decide) ?_
        refine x_icmp_eq (tgt := 63) C dX10_reckon_33 (by decide) (fun c33 => ?_) (fun c33 => absurd (by decide) c33)
        refine x_iload C dX10_reckon_63 rfl ?_
        refine x_iconst (v := 1) C dX10_reckon_65 (by decide) ?_
        refine x_icmp_eq (tgt := 83) C dX10_reckon_66 (by decide) (fun c66 => absurd c66 (by decide)) (fun c66 => ?_)
        refine x_iload C dX10_reckon_69 rfl ?_
        refine x_bipush (v := 14) C dX10_reckon_71 (by decide) ?_
        refine x_icmp_eq (tgt := 83) C dX10_reckon_73 (by decide) (fun c73 => absurd c73 (by decide)) (fun c73 => ?_)
        refine x_iload C dX10_reckon_76 rfl ?_
        refine x_bipush (v := 16) C dX10_reckon_78 (by decide) ?_
        refine x_icmp_ne (tgt := 87) C dX10_reckon_80 (by decide) (fun c80 => ?_) (fun c80 => absurd c80 (by decide))
        refine x_iconst (v := 0) C dX10_reckon_87 (by decide) ?_
        refine x_istore C dX10_reckon_88 rfl (by decide) ?_
        refine x_aload_n C dX10_reckon_90 rfl rfl ?_
        refine x_getfield C dX10_reckon_91 fX10_3 ((hmF _ rfl) 0 _ rfl) rfl ?_
        refine x_getfield C dX10_reckon_94 fX10_124 ((hoF _ rfl) 0 _ rfl) ho13 ?_
        refine x_iload_n C dX10_reckon_97 rfl rfl ?_
        refine x_iload C dX10_reckon_98 rfl ?_
        refine x_bipush (v := 32) C dX10_reckon_100 (by decide) ?_
        refine x_icmp_ne (tgt := 121) C dX10_reckon_102 (by decide) (fun c102 => absurd c102 (by decide)) (fun c102 => ?_)
        refine x_aload_n C dX10_reckon_105 rfl rfl ?_
        refine x_getfield C dX10_reckon_106 fX10_3 ((hmF _ rfl) 0 _ rfl) rfl ?_
        refine x_getfield C dX10_reckon_109 fX10_64 ((hoF _ rfl) 0 _ rfl) ho11 ?_
        refine x_getfield C dX10_reckon_112 fX10_121 ((hqF _ rfl) 0 _ rfl) rfl ?_
        refine x_iload C dX10_reckon_115 rfl ?_
        refine x_iaload C dX10_reckon_117 ((hqF _ rfl) 9 _ rfl) (by rw [nI_1]; exact vp_in_nI hp9 (by decide)) ?_
        rw [show nI pos + 1 = nI (pos + 1) from nI_1 pos, nI_clamp (show pos + 1 < 2 ^ 31 by omega)]
        rw [hc2]
        refine x_goto (tgt := 149) C dX10_reckon_118 (by decide) ?_
        refine x_iastore C dX10_reckon_149 (x_ovg 0 rfl) (vp_in_nI (show st.length < 400 by omega) (by decide)) ?_
        refine x_to (x_st_ov 0 (Nat.le_of_ble_eq_true rfl)) ?_
        rw [nI_clamp (show st.length < 2 ^ 31 by omega)]
        refine x_iload C dX10_reckon_150 rfl ?_
        refine x_iload C dX10_reckon_152 rfl ?_
        refine x_if_ne (tgt := 164) C dX10_reckon_154 (by decide) (fun c154 => absurd c154 (by decide)) (fun c154 => ?_)
        refine x_iload C dX10_reckon_157 rfl ?_
        refine x_bipush (v := 32) C dX10_reckon_159 (by decide) ?_
        refine x_icmp_ne (tgt := 168) C dX10_reckon_161 (by decide) (fun c161 => absurd c161 (by decide)) (fun c161 => ?_)
        refine x_iconst (v := 1) C dX10_reckon_164 (by decide) ?_
        refine x_goto (tgt := 169) C dX10_reckon_165 (by decide) ?_
        refine x_iadd C dX10_reckon_169 ?_
        refine x_istore C dX10_reckon_170 rfl (by decide) ?_
        refine x_iinc (v := 1) C dX10_reckon_172 rfl (by decide) rfl (by decide) ?_
        rw [show nI st.length + 1 = nI (st.length + 1) from nI_1 _]
        refine x_goto (tgt := 280) C dX10_reckon_175 (by decide) ?_
        refine x_goto (tgt := 5) C dX10_reckon_280 (by decide) ?_
        refine x_take 5 ?_
        exact ih r9 (pos + 2) _ (h_val P A 3 x9 :: st) ty2 (upd sk st.length (h_val P A 3 x9)) (by simpa using hr) hc3 (by omega) (nI_1 (pos + 1)) hty2 (by rw [← hl2]; rfl) (htv2) hev (hstk_push hsk) (by simp; omega) (fun q hq => hdts q (List.mem_cons_of_mem _ hq))
      · subst hk
        obtain ⟨hc0, hc1⟩ := g_code_c (a := 11) (c := g_tr r9) hc
        have hlen : pos + (g_tr r9).length + 1 = e := by rw [← hlen]; show _ = pos + ((g_tr r9).length + 1); omega
        have hp8 : pos < 800 := by omega
        refine x_iload C dX10_reckon_5 rfl ?_
        refine x_iload_n C dX10_reckon_7 rfl rfl ?_
        refine x_icmp_ge (tgt := 283) C dX10_reckon_8 (by decide) (fun c8 => absurd c8 (nI_ge (show pos < e by omega) (by omega))) (fun c8 => ?_)
        refine x_aload_n C dX10_reckon_11 rfl rfl ?_
        refine x_getfield C dX10_reckon_12 fX10_3 ((hmF _ rfl) 0 _ rfl) rfl ?_
        refine x_getfield C dX10_reckon_15 fX10_64 ((hoF _ rfl) 0 _ rfl) ho11 ?_
        refine x_getfield C dX10_reckon_18 fX10_121 ((hqF _ rfl) 0 _ rfl) rfl ?_
        refine x_iload C dX10_reckon_21 rfl ?_
        refine x_iaload C dX10_reckon_23 ((hqF _ rfl) 9 _ rfl) (vp_in_nI hp8 (by decide)) ?_
        rw [nI_clamp (show pos < 2 ^ 31 by omega)]
        rw [hc0]
        refine x_istore C dX10_reckon_24 rfl (by decide) ?_
        refine x_iinc (v := 1) C dX10_reckon_26 rfl (by decide) rfl (by decide) ?_
        refine x_iload C dX10_reckon_29 rfl ?_
        refine x_bipush (v := 32) C dX10_reckon_31 (by decide) ?_
        refine x_icmp_eq (tgt := 63) C dX10_reckon_33 (by decide) (fun c33 => absurd c33 (by decide)) (fun c33 => ?_)
        refine x_iload C dX10_reckon_36 rfl ?_
        refine x_iconst (v := 1) C dX10_reckon_38 (by decide) ?_
        refine x_icmp_eq (tgt := 63) C dX10_reckon_39 (by decide) (fun c39 => absurd c39 (by decide)) (fun c39 => ?_)
        refine x_iload C dX10_reckon_42 rfl ?_
        refine x_bipush (v := 11) C dX10_reckon_44 (by decide) ?_
        refine x_icmp_lt (tgt := 56) C dX10_reckon_46 (by decide) (fun c46 => absurd c46 (by decide)) (fun c46 => ?_)
        refine x_iload C dX10_reckon_49 rfl ?_
        refine x_bipush (v := 14) C dX10_reckon_51 (by decide) ?_
        refine x_icmp_le (tgt := 63) C dX10_reckon_53 (by decide) (fun c53 => ?_) (fun c53 => absurd (by decide) c53)
        refine x_iload C dX10_reckon_63 rfl ?_
        refine x_iconst (v := 1) C dX10_reckon_65 (by decide) ?_
        refine x_icmp_eq (tgt := 83) C dX10_reckon_66 (by decide) (fun c66 => absurd c66 (by decide)) (fun c66 => ?_)
        refine x_iload C dX10_reckon_69 rfl ?_
        refine x_bipush (v := 14) C dX10_reckon_71 (by decide) ?_
        refine x_icmp_eq (tgt := 83) C dX10_reckon_73 (by decide) (fun c73 => absurd c73 (by decide)) (fun c73 => ?_)
        refine x_iload C dX10_reckon_76 rfl ?_
        refine x_bipush (v := 16) C dX10_reckon_78 (by decide) ?_
        refine x_icmp_ne (tgt := 87) C dX10_reckon_80 (by decide) (fun c80 => ?_) (fun c80 => absurd c80 (by decide))
        refine x_iconst (v := 0) C dX10_reckon_87 (by decide) ?_
        refine x_istore C dX10_reckon_88 rfl (by decide) ?_
        refine x_aload_n C dX10_reckon_90 rfl rfl ?_
        refine x_getfield C dX10_reckon_91 fX10_3 ((hmF _ rfl) 0 _ rfl) rfl ?_
        refine x_getfield C dX10_reckon_94 fX10_124 ((hoF _ rfl) 0 _ rfl) ho13 ?_
        refine x_iload_n C dX10_reckon_97 rfl rfl ?_
        refine x_iload C dX10_reckon_98 rfl ?_
        refine x_bipush (v := 32) C dX10_reckon_100 (by decide) ?_
        refine x_icmp_ne (tgt := 121) C dX10_reckon_102 (by decide) (fun c102 => ?_) (fun c102 => absurd c102 (by decide))
        refine x_aload_n C dX10_reckon_121 rfl rfl ?_
        refine x_iload C dX10_reckon_122 rfl ?_
        refine x_iload C dX10_reckon_124 rfl ?_
        refine x_if_eq (tgt := 145) C dX10_reckon_126 (by decide) (fun c126 => ?_) (fun c126 => absurd (by decide) c126)
        refine x_iconst (v := 0) C dX10_reckon_145 (by decide) ?_
        refine x_callV2 C dX10_reckon_146 kX10_127 (c_told11 hO hP0 hQ0 hk9 (hmF _ rfl) (hqF _ rfl) (hoF _ rfl) ho11) ((hmF _ rfl) 0 _ rfl) rfl (by decide) ⟨Nat.zero_le _, Nat.zero_le _⟩ (Nat.le_of_ble_eq_true rfl) ?_
        rintro _ _ ⟨rfl, rfl⟩
        refine x_iastore C dX10_reckon_149 (x_ovg 0 rfl) (vp_in_nI (show st.length < 400 by omega) (by decide)) ?_
        refine x_to (x_st_ov 0 (Nat.le_of_ble_eq_true rfl)) ?_
        rw [nI_clamp (show st.length < 2 ^ 31 by omega)]
        refine x_iload C dX10_reckon_150 rfl ?_
        refine x_iload C dX10_reckon_152 rfl ?_
        refine x_if_ne (tgt := 164) C dX10_reckon_154 (by decide) (fun c154 => absurd c154 (by decide)) (fun c154 => ?_)
        refine x_iload C dX10_reckon_157 rfl ?_
        refine x_bipush (v := 32) C dX10_reckon_159 (by decide) ?_
        refine x_icmp_ne (tgt := 168) C dX10_reckon_161 (by decide) (fun c161 => ?_) (fun c161 => absurd c161 (by decide))
        refine x_iconst (v := 0) C dX10_reckon_168 (by decide) ?_
        refine x_iadd C dX10_reckon_169 ?_
        refine x_istore C dX10_reckon_170 rfl (by decide) ?_
        refine x_iinc (v := 1) C dX10_reckon_172 rfl (by decide) rfl (by decide) ?_
        rw [show nI st.length + 1 = nI (st.length + 1) from nI_1 _]
        refine x_goto (tgt := 280) C dX10_reckon_175 (by decide) ?_
        refine x_goto (tgt := 5) C dX10_reckon_280 (by decide) ?_
        refine x_take 5 ?_
        exact ih r9 (pos + 1) _ (h_val P A 267 x9 :: st) ty2 (upd sk st.length (h_val P A 267 x9)) (by simpa using hr) hc1 (by omega) (by show nI pos + 1 + 0 = _; rw [nI_1]; simp) hty2 (by rw [← hl2]; rfl) (htv2) hev (hstk_push hsk) (by simp; omega) (fun q hq => hdts q (List.mem_cons_of_mem _ hq))
      · subst hk
        obtain ⟨hc0, hc1⟩ := g_code_c (a := 12) (c := g_tr r9) hc
        have hlen : pos + (g_tr r9).length + 1 = e := by rw [← hlen]; show _ = pos + ((g_tr r9).length + 1); omega
        have hp8 : pos < 800 := by omega
        refine x_iload C dX10_reckon_5 rfl ?_
        refine x_iload_n C dX10_reckon_7 rfl rfl ?_
        refine x_icmp_ge (tgt := 283) C dX10_reckon_8 (by decide) (fun c8 => absurd c8 (nI_ge (show pos < e by omega) (by omega))) (fun c8 => ?_)
        refine x_aload_n C dX10_reckon_11 rfl rfl ?_
        refine x_getfield C dX10_reckon_12 fX10_3 ((hmF _ rfl) 0 _ rfl) rfl ?_
        refine x_getfield C dX10_reckon_15 fX10_64 ((hoF _ rfl) 0 _ rfl) ho11 ?_
        refine x_getfield C dX10_reckon_18 fX10_121 ((hqF _ rfl) 0 _ rfl) rfl ?_
        refine x_iload C dX10_reckon_21 rfl ?_
        refine x_iaload C dX10_reckon_23 ((hqF _ rfl) 9 _ rfl) (vp_in_nI hp8 (by decide)) ?_
        rw [nI_clamp (show pos < 2 ^ 31 by omega)]
        rw [hc0]
        refine x_istore C dX10_reckon_24 rfl (by decide) ?_
        refine x_iinc (v := 1) C dX10_reckon_26 rfl (by decide) rfl (by decide) ?_
        refine x_iload C dX10_reckon_29 rfl ?_
        refine x_bipush (v := 32) C dX10_reckon_31 (by decide) ?_
        refine x_icmp_eq (tgt := 63) C dX10_reckon_33 (by decide) (fun c33 => absurd c33 (by decide)) (fun c33 => ?_)
        refine x_iload C dX10_reckon_36 rfl ?_
        refine x_iconst (v := 1) C dX10_reckon_38 (by decide) ?_
        refine x_icmp_eq (tgt := 63) C dX10_reckon_39 (by decide) (fun c39 => absurd c39 (by decide)) (fun c39 => ?_)
        refine x_iload C dX10_reckon_42 rfl ?_
        refine x_bipush (v := 11) C dX10_reckon_44 (by decide) ?_
        refine x_icmp_lt (tgt := 56) C dX10_reckon_46 (by decide) (fun c46 => absurd c46 (by decide)) (fun c46 => ?_)
        refine x_iload C dX10_reckon_49 rfl ?_
        refine x_bipush (v := 14) C dX10_reckon_51 (by decide) ?_
        refine x_icmp_le (tgt := 63) C dX10_reckon_53 (by decide) (fun c53 => ?_) (fun c53 => absurd (by decide) c53)
        refine x_iload C dX10_reckon_63 rfl ?_
        refine x_iconst (v := 1) C dX10_reckon_65 (by decide) ?_
        refine x_icmp_eq (tgt := 83) C dX10_reckon_66 (by decide) (fun c66 => absurd c66 (by decide)) (fun c66 => ?_)
        refine x_iload C dX10_reckon_69 rfl ?_
        refine x_bipush (v := 14) C dX10_reckon_71 (by decide) ?_
        refine x_icmp_eq (tgt := 83) C dX10_reckon_73 (by decide) (fun c73 => absurd c73 (by decide)) (fun c73 => ?_)
        refine x_iload C dX10_reckon_76 rfl ?_
        refine x_bipush (v := 16) C dX10_reckon_78 (by decide) ?_
        refine x_icmp_ne (tgt := 87) C dX10_reckon_80 (by decide) (fun c80 => ?_) (fun c80 => absurd c80 (by decide))
        refine x_iconst (v := 0) C dX10_reckon_87 (by decide) ?_
        refine x_istore C dX10_reckon_88 rfl (by decide) ?_
        refine x_aload_n C dX10_reckon_90 rfl rfl ?_
        refine x_getfield C dX10_reckon_91 fX10_3 ((hmF _ rfl) 0 _ rfl) rfl ?_
        refine x_getfield C dX10_reckon_94 fX10_124 ((hoF _ rfl) 0 _ rfl) ho13 ?_
        refine x_iload_n C dX10_reckon_97 rfl rfl ?_
        refine x_iload C dX10_reckon_98 rfl ?_
        refine x_bipush (v := 32) C dX10_reckon_100 (by decide) ?_
        refine x_icmp_ne (tgt := 121) C dX10_reckon_102 (by decide) (fun c102 => ?_) (fun c102 => absurd c102 (by decide))
        refine x_aload_n C dX10_reckon_121 rfl rfl ?_
        refine x_iload C dX10_reckon_122 rfl ?_
        refine x_iload C dX10_reckon_124 rfl ?_
        refine x_if_eq (tgt := 145) C dX10_reckon_126 (by decide) (fun c126 => ?_) (fun c126 => absurd (by decide) c126)
        refine x_iconst (v := 0) C dX10_reckon_145 (by decide) ?_
        refine x_callV2 C dX10_reckon_146 kX10_127 (c_told12 hO hP0 hQ0 hk9 (hmF _ rfl) (hqF _ rfl) (hoF _ rfl) ho11) ((hmF _ rfl) 0 _ rfl) rfl (by decide) ⟨Nat.zero_le _, Nat.zero_le _⟩ (Nat.le_of_ble_eq_true rfl) ?_
        rintro _ _ ⟨rfl, rfl⟩
        refine x_iastore C dX10_reckon_149 (x_ovg 0 rfl) (vp_in_nI (show st.length < 400 by omega) (by decide)) ?_
        refine x_to (x_st_ov 0 (Nat.le_of_ble_eq_true rfl)) ?_
        rw [nI_clamp (show st.length < 2 ^ 31 by omega)]
        refine x_iload C dX10_reckon_150 rfl ?_
        refine x_iload C dX10_reckon_152 rfl ?_
        refine x_if_ne (tgt := 164) C dX10_reckon_154 (by decide) (fun c154 => absurd c154 (by decide)) (fun c154 => ?_)
        refine x_iload C dX10_reckon_157 rfl ?_
        refine x_bipush (v := 32) C dX10_reckon_159 (by decide) ?_
        refine x_icmp_ne (tgt := 168) C dX10_reckon_161 (by decide) (fun c161 => ?_) (fun c161 => absurd c161 (by decide))
        refine x_iconst (v := 0) C dX10_reckon_168 (by decide) ?_
        refine x_iadd C dX10_reckon_169 ?_
        refine x_istore C dX10_reckon_170 rfl (by decide) ?_
        refine x_iinc (v := 1) C dX10_reckon_172 rfl (by decide) rfl (by decide) ?_
        rw [show nI st.length + 1 = nI (st.length + 1) from nI_1 _]
        refine x_goto (tgt := 280) C dX10_reckon_175 (by decide) ?_
        refine x_goto (tgt := 5) C dX10_reckon_280 (by decide) ?_
        refine x_take 5 ?_
        exact ih r9 (pos + 1) _ (h_val P A 268 x9 :: st) ty2 (upd sk st.length (h_val P A 268 x9)) (by simpa using hr) hc1 (by omega) (by show nI pos + 1 + 0 = _; rw [nI_1]; simp) hty2 (by rw [← hl2]; rfl) (htv2) hev (hstk_push hsk) (by simp; omega) (fun q hq => hdts q (List.mem_cons_of_mem _ hq))
      · subst hk
        obtain ⟨hc0, hc1⟩ := g_code_c (a := 13) (c := g_tr r9) hc
        have hlen : pos + (g_tr r9).length + 1 = e := by rw [← hlen]; show _ = pos + ((g_tr r9).length + 1); omega
        have hp8 : pos < 800 := by omega
        refine x_iload C dX10_reckon_5 rfl ?_
        refine x_iload_n C dX10_reckon_7 rfl rfl ?_
        refine x_icmp_ge (tgt := 283) C dX10_reckon_8 (by decide) (fun c8 => absurd c8 (nI_ge (show pos < e by omega) (by omega))) (fun c8 => ?_)
        refine x_aload_n C dX10_reckon_11 rfl rfl ?_
        refine x_getfield C dX10_reckon_12 fX10_3 ((hmF _ rfl) 0 _ rfl) rfl ?_
        refine x_getfield C dX10_reckon_15 fX10_64 ((hoF _ rfl) 0 _ rfl) ho11 ?_
        refine x_getfield C dX10_reckon_18 fX10_121 ((hqF _ rfl) 0 _ rfl) rfl ?_
        refine x_iload C dX10_reckon_21 rfl ?_
        refine x_iaload C dX10_reckon_23 ((hqF _ rfl) 9 _ rfl) (vp_in_nI hp8 (by decide)) ?_
        rw [nI_clamp (show pos < 2 ^ 31 by omega)]
        rw [hc0]
        refine x_istore C dX10_reckon_24 rfl (by decide) ?_
        refine x_iinc (v := 1) C dX10_reckon_26 rfl (by decide) rfl (by decide) ?_
        refine x_iload C dX10_reckon_29 rfl ?_
        refine x_bipush (v := 32) C dX10_reckon_31 (by decide) ?_
        refine x_icmp_eq (tgt := 63) C dX10_reckon_33 (by decide) (fun c33 => absurd c33 (by decide)) (fun c33 => ?_)
        refine x_iload C dX10_reckon_36 rfl ?_
        refine x_iconst (v := 1) C dX10_reckon_38 (by decide) ?_
        refine x_icmp_eq (tgt := 63) C dX10_reckon_39 (by decide) (fun c39 => absurd c39 (by decide)) (fun c39 => ?_)
        refine x_iload C dX10_reckon_42 rfl ?_
        refine x_bipush (v := 11) C dX10_reckon_44 (by decide) ?_
        refine x_icmp_lt (tgt := 56) C dX10_reckon_46 (by decide) (fun c46 => absurd c46 (by decide)) (fun c46 => ?_)
        refine x_iload C dX10_reckon_49 rfl ?_
        refine x_bipush (v := 14) C dX10_reckon_51 (by decide) ?_
        refine x_icmp_le (tgt := 63) C dX10_reckon_53 (by decide) (fun c53 => ?_) (fun c53 => absurd (by decide) c53)
        refine x_iload C dX10_reckon_63 rfl ?_
        refine x_iconst (v := 1) C dX10_reckon_65 (by decide) ?_
        refine x_icmp_eq (tgt := 83) C dX10_reckon_66 (by decide) (fun c66 => absurd c66 (by decide)) (fun c66 => ?_)
        refine x_iload C dX10_reckon_69 rfl ?_
        refine x_bipush (v := 14) C dX10_reckon_71 (by decide) ?_
        refine x_icmp_eq (tgt := 83) C dX10_reckon_73 (by decide) (fun c73 => absurd c73 (by decide)) (fun c73 => ?_)
        refine x_iload C dX10_reckon_76 rfl ?_
        refine x_bipush (v := 16) C dX10_reckon_78 (by decide) ?_
        refine x_icmp_ne (tgt := 87) C dX10_reckon_80 (by decide) (fun c80 => ?_) (fun c80 => absurd c80 (by decide))
        refine x_iconst (v := 0) C dX10_reckon_87 (by decide) ?_
        refine x_istore C dX10_reckon_88 rfl (by decide) ?_
        refine x_aload_n C dX10_reckon_90 rfl rfl ?_
        refine x_getfield C dX10_reckon_91 fX10_3 ((hmF _ rfl) 0 _ rfl) rfl ?_
        refine x_getfield C dX10_reckon_94 fX10_124 ((hoF _ rfl) 0 _ rfl) ho13 ?_
        refine x_iload_n C dX10_reckon_97 rfl rfl ?_
        refine x_iload C dX10_reckon_98 rfl ?_
        refine x_bipush (v := 32) C dX10_reckon_100 (by decide) ?_
        refine x_icmp_ne (tgt := 121) C dX10_reckon_102 (by decide) (fun c102 => ?_) (fun c102 => absurd c102 (by decide))
        refine x_aload_n C dX10_reckon_121 rfl rfl ?_
        refine x_iload C dX10_reckon_122 rfl ?_
        refine x_iload C dX10_reckon_124 rfl ?_
        refine x_if_eq (tgt := 145) C dX10_reckon_126 (by decide) (fun c126 => ?_) (fun c126 => absurd (by decide) c126)
        refine x_iconst (v := 0) C dX10_reckon_145 (by decide) ?_
        refine x_callV2 C dX10_reckon_146 kX10_127 (c_told13 hO hP0 hQ0 hk9 (hmF _ rfl) (hqF _ rfl) (hoF _ rfl) ho11) ((hmF _ rfl) 0 _ rfl) rfl (by decide) ⟨Nat.zero_le _, Nat.zero_le _⟩ (Nat.le_of_ble_eq_true rfl) ?_
        rintro _ _ ⟨rfl, rfl⟩
        refine x_iastore C dX10_reckon_149 (x_ovg 0 rfl) (vp_in_nI (show st.length < 400 by omega) (by decide)) ?_
        refine x_to (x_st_ov 0 (Nat.le_of_ble_eq_true rfl)) ?_
        rw [nI_clamp (show st.length < 2 ^ 31 by omega)]
        refine x_iload C dX10_reckon_150 rfl ?_
        refine x_iload C dX10_reckon_152 rfl ?_
        refine x_if_ne (tgt := 164) C dX10_reckon_154 (by decide) (fun c154 => absurd c154 (by decide)) (fun c154 => ?_)
        refine x_iload C dX10_reckon_157 rfl ?_
        refine x_bipush (v := 32) C dX10_reckon_159 (by decide) ?_
        refine x_icmp_ne (tgt := 168) C dX10_reckon_161 (by decide) (fun c161 => ?_) (fun c161 => absurd c161 (by decide))
        refine x_iconst (v := 0) C dX10_reckon_168 (by decide) ?_
        refine x_iadd C dX10_reckon_169 ?_
        refine x_istore C dX10_reckon_170 rfl (by decide) ?_
        refine x_iinc (v := 1) C dX10_reckon_172 rfl (by decide) rfl (by decide) ?_
        rw [show nI st.length + 1 = nI (st.length + 1) from nI_1 _]
        refine x_goto (tgt := 280) C dX10_reckon_175 (by decide) ?_
        refine x_goto (tgt := 5) C dX10_reckon_280 (by decide) ?_
        refine x_take 5 ?_
        exact ih r9 (pos + 1) _ (h_val P A 269 x9 :: st) ty2 (upd sk st.length (h_val P A 269 x9)) (by simpa using hr) hc1 (by omega) (by show nI pos + 1 + 0 = _; rw [nI_1]; simp) hty2 (by rw [← hl2]; rfl) (htv2) hev (hstk_push hsk) (by simp; omega) (fun q hq => hdts q (List.mem_cons_of_mem _ hq))
      · subst hk
        obtain ⟨hc0, hc1⟩ := g_code_c (a := 1) (c := x9 :: g_tr r9) hc
        obtain ⟨hc2, hc3⟩ := g_code_c hc1
        have hlen : pos + (g_tr r9).length + 2 = e := by rw [← hlen]; show _ = pos + ((g_tr r9).length + 1 + 1); omega
        have hp8 : pos < 800 := by omega
        have hp9 : pos + 1 < 800 := by omega
        obtain ⟨d9, hd9, hd9e⟩ := (hdts (257, x9) List.mem_cons_self).1 rfl
        have hd9e : x9 = nI d9 := hd9e
        subst hd9e
        refine x_iload C dX10_reckon_5 rfl ?_
        refine x_iload_n C dX10_reckon_7 rfl rfl ?_
        refine x_icmp_ge (tgt := 283) C dX10_reckon_8 (by decide) (fun c8 => absurd c8 (nI_ge (show pos < e by omega) (by omega))) (fun c8 => ?_)
        refine x_aload_n C dX10_reckon_11 rfl rfl ?_
        refine x_getfield C dX10_reckon_12 fX10_3 ((hmF _ rfl) 0 _ rfl) rfl ?_
        refine x_getfield C dX10_reckon_15 fX10_64 ((hoF _ rfl) 0 _ rfl) ho11 ?_
        refine x_getfield C dX10_reckon_18 fX10_121 ((hqF _ rfl) 0 _ rfl) rfl ?_
        refine x_iload C dX10_reckon_21 rfl ?_
        refine x_iaload C dX10_reckon_23 ((hqF _ rfl) 9 _ rfl) (vp_in_nI hp8 (by decide)) ?_
        rw [nI_clamp (show pos < 2 ^ 31 by omega)]
        rw [hc0]
        refine x_istore C dX10_reckon_24 rfl (by decide) ?_
        refine x_iinc (v := 1) C dX10_reckon_26 rfl (by decide) rfl (by decide) ?_
        refine x_iload C dX10_reckon_29 rfl ?_
        refine x_bipush (v := 32) C dX10_reckon_31 (by decide) ?_
        refine x_icmp_eq (tgt := 63) C dX10_reckon_33 (by decide) (fun c33 => absurd c33 (by decide)) (fun c33 => ?_)
        refine x_iload C dX10_reckon_36 rfl ?_
        refine x_iconst (v := 1) C dX10_reckon_38 (by decide) ?_
        refine x_icmp_eq (tgt := 63) C dX10_reckon_39 (by decide) (fun c39 => ?_) (fun c39 => absurd (by decide) c39)
        refine x_iload C dX10_reckon_63 rfl ?_
        refine x_iconst (v := 1) C dX10_reckon_65 (by decide) ?_
        refine x_icmp_eq (tgt := 83) C dX10_reckon_66 (by decide) (fun c66 => ?_) (fun c66 => absurd (by decide) c66)
        refine x_iconst (v := 1) C dX10_reckon_83 (by decide) ?_
        refine x_goto (tgt := 88) C dX10_reckon_84 (by decide) ?_
        refine x_istore C dX10_reckon_88 rfl (by decide) ?_
        refine x_aload_n C dX10_reckon_90 rfl rfl ?_
        refine x_getfield C dX10_reckon_91 fX10_3 ((hmF _ rfl) 0 _ rfl) rfl ?_
        refine x_getfield C dX10_reckon_94 fX10_124 ((hoF _ rfl) 0 _ rfl) ho13 ?_
        refine x_iload_n C dX10_reckon_97 rfl rfl ?_
        refine x_iload C dX10_reckon_98 rfl ?_
        refine x_bipush (v := 32) C dX10_reckon_100 (by decide) ?_
        refine x_icmp_ne (tgt := 121) C dX10_reckon_102 (by decide) (fun c102 => ?_) (fun c102 => absurd c102 (by decide))
        refine x_aload_n C dX10_reckon_121 rfl rfl ?_
        refine x_iload C dX10_reckon_122 rfl ?_
        refine x_iload C dX10_reckon_124 rfl ?_
        refine x_if_eq (tgt := 145) C dX10_reckon_126 (by decide) (fun c126 => absurd c126 (by decide)) (fun c126 => ?_)
        refine x_aload_n C dX10_reckon_129 rfl rfl ?_
        refine x_getfield C dX10_reckon_130 fX10_3 ((hmF _ rfl) 0 _ rfl) rfl ?_
        refine x_getfield C dX10_reckon_133 fX10_64 ((hoF _ rfl) 0 _ rfl) ho11 ?_
        refine x_getfield C dX10_reckon_136 fX10_121 ((hqF _ rfl) 0 _ rfl) rfl ?_
        refine x_iload C dX10_reckon_139 rfl ?_
        refine x_iaload C dX10_reckon_141 ((hqF _ rfl) 9 _ rfl) (by rw [nI_1]; exact vp_in_nI hp9 (by decide)) ?_
        rw [show nI pos + 1 = nI (pos + 1) from nI_1 pos, nI_clamp (show pos + 1 < 2 ^ 31 by omega)]
        rw [hc2]
        refine x_goto (tgt := 146) C dX10_reckon_142 (by decide) ?_
        refine x_callV2 C dX10_reckon_146 kX10_127 (c_told1 hO hP0 hQ0 hk9 (hmF _ rfl) (hqF _ rfl) (hoF _ rfl) ho11 hd9) ((hmF _ rfl) 0 _ rfl) rfl (by decide) ⟨Nat.zero_le _, Nat.zero_le _⟩ (Nat.le_of_ble_eq_true rfl) ?_
        rintro _ _ ⟨rfl, rfl⟩
        refine x_iastore C dX10_reckon_149 (x_ovg 0 rfl) (vp_in_nI (show st.length < 400 by omega) (by decide)) ?_
        refine x_to (x_st_ov 0 (Nat.le_of_ble_eq_true rfl)) ?_
        rw [nI_clamp (show st.length < 2 ^ 31 by omega)]
        refine x_iload C dX10_reckon_150 rfl ?_
        refine x_iload C dX10_reckon_152 rfl ?_
        refine x_if_ne (tgt := 164) C dX10_reckon_154 (by decide) (fun c154 => ?_) (fun c154 => absurd c154 (by decide))
        refine x_iconst (v := 1) C dX10_reckon_164 (by decide) ?_
        refine x_goto (tgt := 169) C dX10_reckon_165 (by decide) ?_
        refine x_iadd C dX10_reckon_169 ?_
        refine x_istore C dX10_reckon_170 rfl (by decide) ?_
        refine x_iinc (v := 1) C dX10_reckon_172 rfl (by decide) rfl (by decide) ?_
        rw [show nI st.length + 1 = nI (st.length + 1) from nI_1 _]
        refine x_goto (tgt := 280) C dX10_reckon_175 (by decide) ?_
        refine x_goto (tgt := 5) C dX10_reckon_280 (by decide) ?_
        refine x_take 5 ?_
        exact ih r9 (pos + 2) _ (h_val P A 257 (nI d9) :: st) ty2 (upd sk st.length (h_val P A 257 (nI d9))) (by simpa using hr) hc3 (by omega) (nI_1 (pos + 1)) hty2 (by rw [← hl2]; rfl) (htv2) hev (hstk_push hsk) (by simp; omega) (fun q hq => hdts q (List.mem_cons_of_mem _ hq))
      · subst hk
        obtain ⟨hc0, hc1⟩ := g_code_c (a := 14) (c := x9 :: g_tr r9) hc
        obtain ⟨hc2, hc3⟩ := g_code_c hc1
        have hlen : pos + (g_tr r9).length + 2 = e := by rw [← hlen]; show _ = pos + ((g_tr r9).length + 1 + 1); omega
        have hp8 : pos < 800 := by omega
        have hp9 : pos + 1 < 800 := by omega
        obtain ⟨d9, hd9, hd9e⟩ := (hdts (270, x9) List.mem_cons_self).2.1 rfl
        have hd9e : x9 = nI d9 := hd9e
        subst hd9e
        refine x_iload C dX10_reckon_5 rfl ?_
        refine x_iload_n C dX10_reckon_7 rfl rfl ?_
        refine x_icmp_ge (tgt := 283) C dX10_reckon_8 (by decide) (fun c8 => absurd c8 (nI_ge (show pos < e by omega) (by omega))) (fun c8 => ?_)
        refine x_aload_n C dX10_reckon_11 rfl rfl ?_
        refine x_getfield C dX10_reckon_12 fX10_3 ((hmF _ rfl) 0 _ rfl) rfl ?_
        refine x_getfield C dX10_reckon_15 fX10_64 ((hoF _ rfl) 0 _ rfl) ho11 ?_
        refine x_getfield C dX10_reckon_18 fX10_121 ((hqF _ rfl) 0 _ rfl) rfl ?_
        refine x_iload C dX10_reckon_21 rfl ?_
        refine x_iaload C dX10_reckon_23 ((hqF _ rfl) 9 _ rfl) (vp_in_nI hp8 (by decide)) ?_
        rw [nI_clamp (show pos < 2 ^ 31 by omega)]
        rw [hc0]
        refine x_istore C dX10_reckon_24 rfl (by decide) ?_
        refine x_iinc (v := 1) C dX10_reckon_26 rfl (by decide) rfl (by decide) ?_
        refine x_iload C dX10_reckon_29 rfl ?_
        refine x_bipush (v := 32) C dX10_reckon_31 (by decide) ?_
        refine x_icmp_eq (tgt := 63) C dX10_reckon_33 (by decide) (fun c33 => absurd c33 (by decide)) (fun c33 => ?_)
        refine x_iload C dX10_reckon_36 rfl ?_
        refine x_iconst (v := 1) C dX10_reckon_38 (by decide) ?_
        refine x_icmp_eq (tgt := 63) C dX10_reckon_39 (by decide) (fun c39 => absurd c39 (by decide)) (fun c39 => ?_)
        refine x_iload C dX10_reckon_42 rfl ?_
        refine x_bipush (v := 11) C dX10_reckon_44 (by decide) ?_
        refine x_icmp_lt (tgt := 56) C dX10_reckon_46 (by decide) (fun c46 => absurd c46 (by decide)) (fun c46 => ?_)
        refine x_iload C dX10_reckon_49 rfl ?_
        refine x_bipush (v := 14) C dX10_reckon_51 (by decide) ?_
        refine x_icmp_le (tgt := 63) C dX10_reckon_53 (by decide) (fun c53 => ?_) (fun c53 => absurd (by decide) c53)
        refine x_iload C dX10_reckon_63 rfl ?_
        refine x_iconst (v := 1) C dX10_reckon_65 (by decide) ?_
        refine x_icmp_eq (tgt := 83) C dX10_reckon_66 (by decide) (fun c66 => absurd c66 (by decide)) (fun c66 => ?_)
        refine x_iload C dX10_reckon_69 rfl ?_
        refine x_bipush (v := 14) C dX10_reckon_71 (by decide) ?_
        refine x_icmp_eq (tgt := 83) C dX10_reckon_73 (by decide) (fun c73 => ?_) (fun c73 => absurd (by decide) c73)
        refine x_iconst (v := 1) C dX10_reckon_83 (by decide) ?_
        refine x_goto (tgt := 88) C dX10_reckon_84 (by decide) ?_
        refine x_istore C dX10_reckon_88 rfl (by decide) ?_
        refine x_aload_n C dX10_reckon_90 rfl rfl ?_
        refine x_getfield C dX10_reckon_91 fX10_3 ((hmF _ rfl) 0 _ rfl) rfl ?_
        refine x_getfield C dX10_reckon_94 fX10_124 ((hoF _ rfl) 0 _ rfl) ho13 ?_
        refine x_iload_n C dX10_reckon_97 rfl rfl ?_
        refine x_iload C dX10_reckon_98 rfl ?_
        refine x_bipush (v := 32) C dX10_reckon_100 (by decide) ?_
        refine x_icmp_ne (tgt := 121) C dX10_reckon_102 (by decide) (fun c102 => ?_) (fun c102 => absurd c102 (by decide))
        refine x_aload_n C dX10_reckon_121 rfl rfl ?_
        refine x_iload C dX10_reckon_122 rfl ?_
        refine x_iload C dX10_reckon_124 rfl ?_
        refine x_if_eq (tgt := 145) C dX10_reckon_126 (by decide) (fun c126 => absurd c126 (by decide)) (fun c126 => ?_)
        refine x_aload_n C dX10_reckon_129 rfl rfl ?_
        refine x_getfield C dX10_reckon_130 fX10_3 ((hmF _ rfl) 0 _ rfl) rfl ?_
        refine x_getfield C dX10_reckon_133 fX10_64 ((hoF _ rfl) 0 _ rfl) ho11 ?_
        refine x_getfield C dX10_reckon_136 fX10_121 ((hqF _ rfl) 0 _ rfl) rfl ?_
        refine x_iload C dX10_reckon_139 rfl ?_
        refine x_iaload C dX10_reckon_141 ((hqF _ rfl) 9 _ rfl) (by rw [nI_1]; exact vp_in_nI hp9 (by decide)) ?_
        rw [show nI pos + 1 = nI (pos + 1) from nI_1 pos, nI_clamp (show pos + 1 < 2 ^ 31 by omega)]
        rw [hc2]
        refine x_goto (tgt := 146) C dX10_reckon_142 (by decide) ?_
        refine x_callV2 C dX10_reckon_146 kX10_127 (c_told14 hO hP0 hQ0 hk9 (hmF _ rfl) (hqF _ rfl) (hoF _ rfl) ho11 hd9) ((hmF _ rfl) 0 _ rfl) rfl (by decide) ⟨Nat.zero_le _, Nat.zero_le _⟩ (Nat.le_of_ble_eq_true rfl) ?_
        rintro _ _ ⟨rfl, rfl⟩
        refine x_iastore C dX10_reckon_149 (x_ovg 0 rfl) (vp_in_nI (show st.length < 400 by omega) (by decide)) ?_
        refine x_to (x_st_ov 0 (Nat.le_of_ble_eq_true rfl)) ?_
        rw [nI_clamp (show st.length < 2 ^ 31 by omega)]
        refine x_iload C dX10_reckon_150 rfl ?_
        refine x_iload C dX10_reckon_152 rfl ?_
        refine x_if_ne (tgt := 164) C dX10_reckon_154 (by decide) (fun c154 => ?_) (fun c154 => absurd c154 (by decide))
        refine x_iconst (v := 1) C dX10_reckon_164 (by decide) ?_
        refine x_goto (tgt := 169) C dX10_reckon_165 (by decide) ?_
        refine x_iadd C dX10_reckon_169 ?_
        refine x_istore C dX10_reckon_170 rfl (by decide) ?_
        refine x_iinc (v := 1) C dX10_reckon_172 rfl (by decide) rfl (by decide) ?_
        rw [show nI st.length + 1 = nI (st.length + 1) from nI_1 _]
        refine x_goto (tgt := 280) C dX10_reckon_175 (by decide) ?_
        refine x_goto (tgt := 5) C dX10_reckon_280 (by decide) ?_
        refine x_take 5 ?_
        exact ih r9 (pos + 2) _ (h_val P A 270 (nI d9) :: st) ty2 (upd sk st.length (h_val P A 270 (nI d9))) (by simpa using hr) hc3 (by omega) (nI_1 (pos + 1)) hty2 (by rw [← hl2]; rfl) (htv2) hev (hstk_push hsk) (by simp; omega) (fun q hq => hdts q (List.mem_cons_of_mem _ hq))
      · subst hk
        obtain ⟨hc0, hc1⟩ := g_code_c (a := 16) (c := x9 :: g_tr r9) hc
        obtain ⟨hc2, hc3⟩ := g_code_c hc1
        have hlen : pos + (g_tr r9).length + 2 = e := by rw [← hlen]; show _ = pos + ((g_tr r9).length + 1 + 1); omega
        have hp8 : pos < 800 := by omega
        have hp9 : pos + 1 < 800 := by omega
        obtain ⟨d9, hd9, hd9e⟩ := (hdts (272, x9) List.mem_cons_self).2.2 rfl
        have hd9e : x9 = nI d9 := hd9e
        subst hd9e
        refine x_iload C dX10_reckon_5 rfl ?_
        refine x_iload_n C dX10_reckon_7 rfl rfl ?_
        refine x_icmp_ge (tgt := 283) C dX10_reckon_8 (by decide) (fun c8 => absurd c8 (nI_ge (show pos < e by omega) (by omega))) (fun c8 => ?_)
        refine x_aload_n C dX10_reckon_11 rfl rfl ?_
        refine x_getfield C dX10_reckon_12 fX10_3 ((hmF _ rfl) 0 _ rfl) rfl ?_
        refine x_getfield C dX10_reckon_15 fX10_64 ((hoF _ rfl) 0 _ rfl) ho11 ?_
        refine x_getfield C dX10_reckon_18 fX10_121 ((hqF _ rfl) 0 _ rfl) rfl ?_
        refine x_iload C dX10_reckon_21 rfl ?_
        refine x_iaload C dX10_reckon_23 ((hqF _ rfl) 9 _ rfl) (vp_in_nI hp8 (by decide)) ?_
        rw [nI_clamp (show pos < 2 ^ 31 by omega)]
        rw [hc0]
        refine x_istore C dX10_reckon_24 rfl (by decide) ?_
        refine x_iinc (v := 1) C dX10_reckon_26 rfl (by decide) rfl (by decide) ?_
        refine x_iload C dX10_reckon_29 rfl ?_
        refine x_bipush (v := 32) C dX10_reckon_31 (by decide) ?_
        refine x_icmp_eq (tgt := 63) C dX10_reckon_33 (by decide) (fun c33 => absurd c33 (by decide)) (fun c33 => ?_)
        refine x_iload C dX10_reckon_36 rfl ?_
        refine x_iconst (v := 1) C dX10_reckon_38 (by decide) ?_
        refine x_icmp_eq (tgt := 63) C dX10_reckon_39 (by decide) (fun c39 => absurd c39 (by decide)) (fun c39 => ?_)
        refine x_iload C dX10_reckon_42 rfl ?_
        refine x_bipush (v := 11) C dX10_reckon_44 (by decide) ?_
        refine x_icmp_lt (tgt := 56) C dX10_reckon_46 (by decide) (fun c46 => absurd c46 (by decide)) (fun c46 => ?_)
        refine x_iload C dX10_reckon_49 rfl ?_
        refine x_bipush (v := 14) C dX10_reckon_51 (by decide) ?_
        refine x_icmp_le (tgt := 63) C dX10_reckon_53 (by decide) (fun c53 => absurd c53 (by decide)) (fun c53 => ?_)
        refine x_iload C dX10_reckon_56 rfl ?_
        refine x_bipush (v := 16) C dX10_reckon_58 (by decide) ?_
        refine x_icmp_ne (tgt := 178) C dX10_reckon_60 (by decide) (fun c60 => absurd c60 (by decide)) (fun c60 => ?_)
        refine x_iload C dX10_reckon_63 rfl ?_
        refine x_iconst (v := 1) C dX10_reckon_65 (by decide) ?_
        refine x_icmp_eq (tgt := 83) C dX10_reckon_66 (by decide) (fun c66 => absurd c66 (by decide)) (fun c66 => ?_)
        refine x_iload C dX10_reckon_69 rfl ?_
        refine x_bipush (v := 14) C dX10_reckon_71 (by decide) ?_
        refine x_icmp_eq (tgt := 83) C dX10_reckon_73 (by decide) (fun c73 => absurd c73 (by decide)) (fun c73 => ?_)
        refine x_iload C dX10_reckon_76 rfl ?_
        refine x_bipush (v := 16) C dX10_reckon_78 (by decide) ?_
        refine x_icmp_ne (tgt := 87) C dX10_reckon_80 (by decide) (fun c80 => absurd c80 (by decide)) (fun c80 => ?_)
        refine x_iconst (v := 1) C dX10_reckon_83 (by decide) ?_
        refine x_goto (tgt := 88) C dX10_reckon_84 (by decide) ?_
        refine x_istore C dX10_reckon_88 rfl (by decide) ?_
        refine x_aload_n C dX10_reckon_90 rfl rfl ?_
        refine x_getfield C dX10_reckon_91 fX10_3 ((hmF _ rfl) 0 _ rfl) rfl ?_
        refine x_getfield C dX10_reckon_94 fX10_124 ((hoF _ rfl) 0 _ rfl) ho13 ?_
        refine x_iload_n C dX10_reckon_97 rfl rfl ?_
        refine x_iload C dX10_reckon_98 rfl ?_
        refine x_bipush (v := 32) C dX10_reckon_100 (by decide) ?_
        refine x_icmp_ne (tgt := 121) C dX10_reckon_102 (by decide) (fun c102 => ?_) (fun c102 => absurd c102 (by decide))
        refine x_aload_n C dX10_reckon_121 rfl rfl ?_
        refine x_iload C dX10_reckon_122 rfl ?_
        refine x_iload C dX10_reckon_124 rfl ?_
        refine x_if_eq (tgt := 145) C dX10_reckon_126 (by decide) (fun c126 => absurd c126 (by decide)) (fun c126 => ?_)
        refine x_aload_n C dX10_reckon_129 rfl rfl ?_
        refine x_getfield C dX10_reckon_130 fX10_3 ((hmF _ rfl) 0 _ rfl) rfl ?_
        refine x_getfield C dX10_reckon_133 fX10_64 ((hoF _ rfl) 0 _ rfl) ho11 ?_
        refine x_getfield C dX10_reckon_136 fX10_121 ((hqF _ rfl) 0 _ rfl) rfl ?_
        refine x_iload C dX10_reckon_139 rfl ?_
        refine x_iaload C dX10_reckon_141 ((hqF _ rfl) 9 _ rfl) (by rw [nI_1]; exact vp_in_nI hp9 (by decide)) ?_
        rw [show nI pos + 1 = nI (pos + 1) from nI_1 pos, nI_clamp (show pos + 1 < 2 ^ 31 by omega)]
        rw [hc2]
        refine x_goto (tgt := 146) C dX10_reckon_142 (by decide) ?_
        refine x_callV2 C dX10_reckon_146 kX10_127 (c_told16 hO hP0 hQ0 hk9 (hmF _ rfl) (hqF _ rfl) (hoF _ rfl) ho11 hd9) ((hmF _ rfl) 0 _ rfl) rfl (by decide) ⟨Nat.zero_le _, Nat.zero_le _⟩ (Nat.le_of_ble_eq_true rfl) ?_
        rintro _ _ ⟨rfl, rfl⟩
        refine x_iastore C dX10_reckon_149 (x_ovg 0 rfl) (vp_in_nI (show st.length < 400 by omega) (by decide)) ?_
        refine x_to (x_st_ov 0 (Nat.le_of_ble_eq_true rfl)) ?_
        rw [nI_clamp (show st.length < 2 ^ 31 by omega)]
        refine x_iload C dX10_reckon_150 rfl ?_
        refine x_iload C dX10_reckon_152 rfl ?_
        refine x_if_ne (tgt := 164) C dX10_reckon_154 (by decide) (fun c154 => ?_) (fun c154 => absurd c154 (by decide))
        refine x_iconst (v := 1) C dX10_reckon_164 (by decide) ?_
        refine x_goto (tgt := 169) C dX10_reckon_165 (by decide) ?_
        refine x_iadd C dX10_reckon_169 ?_
        refine x_istore C dX10_reckon_170 rfl (by decide) ?_
        refine x_iinc (v := 1) C dX10_reckon_172 rfl (by decide) rfl (by decide) ?_
        rw [show nI st.length + 1 = nI (st.length + 1) from nI_1 _]
        refine x_goto (tgt := 280) C dX10_reckon_175 (by decide) ?_
        refine x_goto (tgt := 5) C dX10_reckon_280 (by decide) ?_
        refine x_take 5 ?_
        exact ih r9 (pos + 2) _ (h_val P A 272 (nI d9) :: st) ty2 (upd sk st.length (h_val P A 272 (nI d9))) (by simpa using hr) hc3 (by omega) (nI_1 (pos + 1)) hty2 (by rw [← hl2]; rfl) (htv2) hev (hstk_push hsk) (by simp; omega) (fun q hq => hdts q (List.mem_cons_of_mem _ hq))
      · subst hk
        obtain ⟨hc0, hc1⟩ := g_code_c (a := 17) (c := g_tr r9) hc
        have hlen : pos + (g_tr r9).length + 1 = e := by rw [← hlen]; show _ = pos + ((g_tr r9).length + 1); omega
        have hp8 : pos < 800 := by omega
        obtain ⟨v, s, rfl⟩ : ∃ v s, st = v :: s := by
          cases st with
          | nil => exact absurd (p_op_ne hop (by decide)) (by rw [List.length_eq_zero_iff.mp hsl.symm]; simp)
          | cons v s => exact ⟨v, s, rfl⟩
        have hs4 : s.length < 400 := by simp at hle; omega
        have htv01 : v = 0 ∨ v = 1 := by
          rcases p_op_cases hop with h | h | h | h
          · obtain ⟨-, r8, hr8, -⟩ := h
            subst hr8
            exact htv.1 rfl
          · exact absurd h.1 (by decide)
          · exact absurd rfl h.1
          · exact absurd rfl h.1
        refine x_iload C dX10_reckon_5 rfl ?_
        refine x_iload_n C dX10_reckon_7 rfl rfl ?_
        refine x_icmp_ge (tgt := 283) C dX10_reckon_8 (by decide) (fun c8 => absurd c8 (nI_ge (show pos < e by omega) (by omega))) (fun c8 => ?_)
        refine x_aload_n C dX10_reckon_11 rfl rfl ?_
        refine x_getfield C dX10_reckon_12 fX10_3 ((hmF _ rfl) 0 _ rfl) rfl ?_
        refine x_getfield C dX10_reckon_15 fX10_64 ((hoF _ rfl) 0 _ rfl) ho11 ?_
        refine x_getfield C dX10_reckon_18 fX10_121 ((hqF _ rfl) 0 _ rfl) rfl ?_
        refine x_iload C dX10_reckon_21 rfl ?_
        refine x_iaload C dX10_reckon_23 ((hqF _ rfl) 9 _ rfl) (vp_in_nI hp8 (by decide)) ?_
        rw [nI_clamp (show pos < 2 ^ 31 by omega)]
        rw [hc0]
        refine x_istore C dX10_reckon_24 rfl (by decide) ?_
        refine x_iinc (v := 1) C dX10_reckon_26 rfl (by decide) rfl (by decide) ?_
        refine x_iload C dX10_reckon_29 rfl ?_
        refine x_bipush (v := 32) C dX10_reckon_31 (by decide) ?_
        refine x_icmp_eq (tgt := 63) C dX10_reckon_33 (by decide) (fun c33 => absurd c33 (by decide)) (fun c33 => ?_)
        refine x_iload C dX10_reckon_36 rfl ?_
        refine x_iconst (v := 1) C dX10_reckon_38 (by decide) ?_
        refine x_icmp_eq (tgt := 63) C dX10_reckon_39 (by decide) (fun c39 => absurd c39 (by decide)) (fun c39 => ?_)
        refine x_iload C dX10_reckon_42 rfl ?_
        refine x_bipush (v := 11) C dX10_reckon_44 (by decide) ?_
        refine x_icmp_lt (tgt := 56) C dX10_reckon_46 (by decide) (fun c46 => absurd c46 (by decide)) (fun c46 => ?_)
        refine x_iload C dX10_reckon_49 rfl ?_
        refine x_bipush (v := 14) C dX10_reckon_51 (by decide) ?_
        refine x_icmp_le (tgt := 63) C dX10_reckon_53 (by decide) (fun c53 => absurd c53 (by decide)) (fun c53 => ?_)
        refine x_iload C dX10_reckon_56 rfl ?_
        refine x_bipush (v := 16) C dX10_reckon_58 (by decide) ?_
        refine x_icmp_ne (tgt := 178) C dX10_reckon_60 (by decide) (fun c60 => ?_) (fun c60 => absurd c60 (by decide))
        refine x_iload C dX10_reckon_178 rfl ?_
        refine x_bipush (v := 17) C dX10_reckon_180 (by decide) ?_
        refine x_icmp_eq (tgt := 192) C dX10_reckon_182 (by decide) (fun c182 => ?_) (fun c182 => absurd (by decide) c182)
        refine x_aload_n C dX10_reckon_192 rfl rfl ?_
        refine x_getfield C dX10_reckon_193 fX10_3 ((hmF _ rfl) 0 _ rfl) rfl ?_
        refine x_getfield C dX10_reckon_196 fX10_124 ((hoF _ rfl) 0 _ rfl) ho13 ?_
        refine x_iload_n C dX10_reckon_199 rfl rfl ?_
        refine x_iconst (v := 1) C dX10_reckon_200 (by decide) ?_
        refine x_isub C dX10_reckon_201 ?_
        rw [show nI (v :: s).length - 1 = nI s.length from nI_pred _]
        refine x_iload C dX10_reckon_202 rfl ?_
        refine x_bipush (v := 17) C dX10_reckon_204 (by decide) ?_
        refine x_icmp_ne (tgt := 225) C dX10_reckon_206 (by decide) (fun c206 => absurd c206 (by decide)) (fun c206 => ?_)
        refine x_iconst (v := 1) C dX10_reckon_209 (by decide) ?_
        refine x_aload_n C dX10_reckon_210 rfl rfl ?_
        refine x_getfield C dX10_reckon_211 fX10_3 ((hmF _ rfl) 0 _ rfl) rfl ?_
        refine x_getfield C dX10_reckon_214 fX10_124 ((hoF _ rfl) 0 _ rfl) ho13 ?_
        refine x_iload_n C dX10_reckon_217 rfl rfl ?_
        refine x_iconst (v := 1) C dX10_reckon_218 (by decide) ?_
        refine x_isub C dX10_reckon_219 ?_
        rw [show nI (v :: s).length - 1 = nI s.length from nI_pred _]
        refine x_iaload C dX10_reckon_220 (x_ovg 0 rfl) (vp_in_nI hs4 (by decide)) ?_
        rw [nI_clamp (show s.length < 2 ^ 31 by omega)]; rw [hsk.1]
        refine x_isub C dX10_reckon_221 ?_
        rw [show (1 : Int32) - v = if v = 0 then 1 else 0 by rcases htv01 with e9 | e9 <;> rw [e9] <;> decide]
        refine x_goto (tgt := 237) C dX10_reckon_222 (by decide) ?_
        refine x_iastore C dX10_reckon_237 (x_ovg 0 rfl) (vp_in_nI hs4 (by decide)) ?_
        refine x_to (x_st_ov 0 (Nat.le_of_ble_eq_true rfl)) ?_
        rw [nI_clamp (show s.length < 2 ^ 31 by omega)]
        refine x_goto (tgt := 280) C dX10_reckon_238 (by decide) ?_
        refine x_goto (tgt := 5) C dX10_reckon_280 (by decide) ?_
        refine x_take 5 ?_
        exact ih r9 (pos + 1) _ ((if v = 0 then 1 else 0) :: s) ty2 (upd sk s.length (if v = 0 then 1 else 0)) (by simpa using hr) hc1 (by omega) (nI_1 pos) hty2 hl2 htv2 hev (hstk_push hsk.2) (by simp at hle; simp; omega) (fun q hq => hdts q (List.mem_cons_of_mem _ hq))
      · subst hk
        obtain ⟨hc0, hc1⟩ := g_code_c (a := 33) (c := g_tr r9) hc
        have hlen : pos + (g_tr r9).length + 1 = e := by rw [← hlen]; show _ = pos + ((g_tr r9).length + 1); omega
        have hp8 : pos < 800 := by omega
        obtain ⟨v, s, rfl⟩ : ∃ v s, st = v :: s := by
          cases st with
          | nil => exact absurd (p_op_ne hop (by decide)) (by rw [List.length_eq_zero_iff.mp hsl.symm]; simp)
          | cons v s => exact ⟨v, s, rfl⟩
        have hs4 : s.length < 400 := by simp at hle; omega
        refine x_iload C dX10_reckon_5 rfl ?_
        refine x_iload_n C dX10_reckon_7 rfl rfl ?_
        refine x_icmp_ge (tgt := 283) C dX10_reckon_8 (by decide) (fun c8 => absurd c8 (nI_ge (show pos < e by omega) (by omega))) (fun c8 => ?_)
        refine x_aload_n C dX10_reckon_11 rfl rfl ?_
        refine x_getfield C dX10_reckon_12 fX10_3 ((hmF _ rfl) 0 _ rfl) rfl ?_
        refine x_getfield C dX10_reckon_15 fX10_64 ((hoF _ rfl) 0 _ rfl) ho11 ?_
        refine x_getfield C dX10_reckon_18 fX10_121 ((hqF _ rfl) 0 _ rfl) rfl ?_
        refine x_iload C dX10_reckon_21 rfl ?_
        refine x_iaload C dX10_reckon_23 ((hqF _ rfl) 9 _ rfl) (vp_in_nI hp8 (by decide)) ?_
        rw [nI_clamp (show pos < 2 ^ 31 by omega)]
        rw [hc0]
        refine x_istore C dX10_reckon_24 rfl (by decide) ?_
        refine x_iinc (v := 1) C dX10_reckon_26 rfl (by decide) rfl (by decide) ?_
        refine x_iload C dX10_reckon_29 rfl ?_
        refine x_bipush (v := 32) C dX10_reckon_31 (by decide) ?_
        refine x_icmp_eq (tgt := 63) C dX10_reckon_33 (by decide) (fun c33 => absurd c33 (by decide)) (fun c33 => ?_)
        refine x_iload C dX10_reckon_36 rfl ?_
        refine x_iconst (v := 1) C dX10_reckon_38 (by decide) ?_
        refine x_icmp_eq (tgt := 63) C dX10_reckon_39 (by decide) (fun c39 => absurd c39 (by decide)) (fun c39 => ?_)
        refine x_iload C dX10_reckon_42 rfl ?_
        refine x_bipush (v := 11) C dX10_reckon_44 (by decide) ?_
        refine x_icmp_lt (tgt := 56) C dX10_reckon_46 (by decide) (fun c46 => absurd c46 (by decide)) (fun c46 => ?_)
        refine x_iload C dX10_reckon_49 rfl ?_
        refine x_bipush (v := 14) C dX10_reckon_51 (by decide) ?_
        refine x_icmp_le (tgt := 63) C dX10_reckon_53 (by decide) (fun c53 => absurd c53 (by decide)) (fun c53 => ?_)
        refine x_iload C dX10_reckon_56 rfl ?_
        refine x_bipush (v := 16) C dX10_reckon_58 (by decide) ?_
        refine x_icmp_ne (tgt := 178) C dX10_reckon_60 (by decide) (fun c60 => ?_) (fun c60 => absurd c60 (by decide))
        refine x_iload C dX10_reckon_178 rfl ?_
        refine x_bipush (v := 17) C dX10_reckon_180 (by decide) ?_
        refine x_icmp_eq (tgt := 192) C dX10_reckon_182 (by decide) (fun c182 => absurd c182 (by decide)) (fun c182 => ?_)
        refine x_iload C dX10_reckon_185 rfl ?_
        refine x_bipush (v := 33) C dX10_reckon_187 (by decide) ?_
        refine x_icmp_ne (tgt := 241) C dX10_reckon_189 (by decide) (fun c189 => absurd c189 (by decide)) (fun c189 => ?_)
        refine x_aload_n C dX10_reckon_192 rfl rfl ?_
        refine x_getfield C dX10_reckon_193 fX10_3 ((hmF _ rfl) 0 _ rfl) rfl ?_
        refine x_getfield C dX10_reckon_196 fX10_124 ((hoF _ rfl) 0 _ rfl) ho13 ?_
        refine x_iload_n C dX10_reckon_199 rfl rfl ?_
        refine x_iconst (v := 1) C dX10_reckon_200 (by decide) ?_
        refine x_isub C dX10_reckon_201 ?_
        rw [show nI (v :: s).length - 1 = nI s.length from nI_pred _]
        refine x_iload C dX10_reckon_202 rfl ?_
        refine x_bipush (v := 17) C dX10_reckon_204 (by decide) ?_
        refine x_icmp_ne (tgt := 225) C dX10_reckon_206 (by decide) (fun c206 => ?_) (fun c206 => absurd c206 (by decide))
        refine x_aload_n C dX10_reckon_225 rfl rfl ?_
        refine x_getfield C dX10_reckon_226 fX10_3 ((hmF _ rfl) 0 _ rfl) rfl ?_
        refine x_getfield C dX10_reckon_229 fX10_124 ((hoF _ rfl) 0 _ rfl) ho13 ?_
        refine x_iload_n C dX10_reckon_232 rfl rfl ?_
        refine x_iconst (v := 1) C dX10_reckon_233 (by decide) ?_
        refine x_isub C dX10_reckon_234 ?_
        rw [show nI (v :: s).length - 1 = nI s.length from nI_pred _]
        refine x_iaload C dX10_reckon_235 (x_ovg 0 rfl) (vp_in_nI hs4 (by decide)) ?_
        rw [nI_clamp (show s.length < 2 ^ 31 by omega)]; rw [hsk.1]
        refine x_ineg C dX10_reckon_236 ?_
        refine x_iastore C dX10_reckon_237 (x_ovg 0 rfl) (vp_in_nI hs4 (by decide)) ?_
        refine x_to (x_st_ov 0 (Nat.le_of_ble_eq_true rfl)) ?_
        rw [nI_clamp (show s.length < 2 ^ 31 by omega)]
        refine x_goto (tgt := 280) C dX10_reckon_238 (by decide) ?_
        refine x_goto (tgt := 5) C dX10_reckon_280 (by decide) ?_
        refine x_take 5 ?_
        exact ih r9 (pos + 1) _ ((-v) :: s) ty2 (upd sk s.length (-v)) (by simpa using hr) hc1 (by omega) (nI_1 pos) hty2 hl2 htv2 hev (hstk_push hsk.2) (by simp at hle; simp; omega) (fun q hq => hdts q (List.mem_cons_of_mem _ hq))
      · subst hk
        obtain ⟨hc0, hc1⟩ := g_code_c (a := 19) (c := g_tr r9) hc
        have hlen : pos + (g_tr r9).length + 1 = e := by rw [← hlen]; show _ = pos + ((g_tr r9).length + 1); omega
        have hp8 : pos < 800 := by omega
        obtain ⟨v, u, s, rfl⟩ : ∃ v u s, st = v :: u :: s := by
          obtain ⟨c, d, e8, r8, hr8, -⟩ : ∃ c d e8 r8, ty = c :: d :: r8 ∧ ty2 = e8 :: r8 := by
            rcases p_op_cases hop with h | h | h | h
            · exact absurd h.1 (by decide)
            · exact absurd h.1 (by decide)
            · exact absurd h.2.2.1 (by decide)
            · exact h.2.2.2.2
          subst hr8
          obtain ⟨v, s1, rfl, hs1⟩ := st_cons hsl
          obtain ⟨u, s, rfl, hs⟩ := st_cons hs1
          exact ⟨v, u, s, rfl⟩
        have hs4 : s.length + 1 < 400 := by simp at hle; omega
        have hbin : h_bin 275 := by unfold h_bin; omega
        refine x_iload C dX10_reckon_5 rfl ?_
        refine x_iload_n C dX10_reckon_7 rfl rfl ?_
        refine x_icmp_ge (tgt := 283) C dX10_reckon_8 (by decide) (fun c8 => absurd c8 (nI_ge (show pos < e by omega) (by omega))) (fun c8 => ?_)
        refine x_aload_n C dX10_reckon_11 rfl rfl ?_
        refine x_getfield C dX10_reckon_12 fX10_3 ((hmF _ rfl) 0 _ rfl) rfl ?_
        refine x_getfield C dX10_reckon_15 fX10_64 ((hoF _ rfl) 0 _ rfl) ho11 ?_
        refine x_getfield C dX10_reckon_18 fX10_121 ((hqF _ rfl) 0 _ rfl) rfl ?_
        refine x_iload C dX10_reckon_21 rfl ?_
        refine x_iaload C dX10_reckon_23 ((hqF _ rfl) 9 _ rfl) (vp_in_nI hp8 (by decide)) ?_
        rw [nI_clamp (show pos < 2 ^ 31 by omega)]
        rw [hc0]
        refine x_istore C dX10_reckon_24 rfl (by decide) ?_
        refine x_iinc (v := 1) C dX10_reckon_26 rfl (by decide) rfl (by decide) ?_
        refine x_iload C dX10_reckon_29 rfl ?_
        refine x_bipush (v := 32) C dX10_reckon_31 (by decide) ?_
        refine x_icmp_eq (tgt := 63) C dX10_reckon_33 (by decide) (fun c33 => absurd c33 (by decide)) (fun c33 => ?_)
        refine x_iload C dX10_reckon_36 rfl ?_
        refine x_iconst (v := 1) C dX10_reckon_38 (by decide) ?_
        refine x_icmp_eq (tgt := 63) C dX10_reckon_39 (by decide) (fun c39 => absurd c39 (by decide)) (fun c39 => ?_)
        refine x_iload C dX10_reckon_42 rfl ?_
        refine x_bipush (v := 11) C dX10_reckon_44 (by decide) ?_
        refine x_icmp_lt (tgt := 56) C dX10_reckon_46 (by decide) (fun c46 => absurd c46 (by decide)) (fun c46 => ?_)
        refine x_iload C dX10_reckon_49 rfl ?_
        refine x_bipush (v := 14) C dX10_reckon_51 (by decide) ?_
        refine x_icmp_le (tgt := 63) C dX10_reckon_53 (by decide) (fun c53 => absurd c53 (by decide)) (fun c53 => ?_)
        refine x_iload C dX10_reckon_56 rfl ?_
        refine x_bipush (v := 16) C dX10_reckon_58 (by decide) ?_
        refine x_icmp_ne (tgt := 178) C dX10_reckon_60 (by decide) (fun c60 => ?_) (fun c60 => absurd c60 (by decide))
        refine x_iload C dX10_reckon_178 rfl ?_
        refine x_bipush (v := 17) C dX10_reckon_180 (by decide) ?_
        refine x_icmp_eq (tgt := 192) C dX10_reckon_182 (by decide) (fun c182 => absurd c182 (by decide)) (fun c182 => ?_)
        refine x_iload C dX10_reckon_185 rfl ?_
        refine x_bipush (v := 33) C dX10_reckon_187 (by decide) ?_
        refine x_icmp_ne (tgt := 241) C dX10_reckon_189 (by decide) (fun c189 => ?_) (fun c189 => absurd c189 (by decide))
        refine x_iinc (v := (-1)) C dX10_reckon_241 rfl (by decide) rfl (by decide) ?_
        rw [show nI (v :: u :: s).length + -1 = nI (s.length + 1) from pk_m1 _]
        refine x_aload_n C dX10_reckon_244 rfl rfl ?_
        refine x_getfield C dX10_reckon_245 fX10_3 ((hmF _ rfl) 0 _ rfl) rfl ?_
        refine x_getfield C dX10_reckon_248 fX10_124 ((hoF _ rfl) 0 _ rfl) ho13 ?_
        refine x_iload_n C dX10_reckon_251 rfl rfl ?_
        refine x_iconst (v := 1) C dX10_reckon_252 (by decide) ?_
        refine x_isub C dX10_reckon_253 ?_
        rw [show nI (s.length + 1) - 1 = nI s.length from nI_pred _]
        refine x_iload C dX10_reckon_254 rfl ?_
        refine x_aload_n C dX10_reckon_256 rfl rfl ?_
        refine x_getfield C dX10_reckon_257 fX10_3 ((hmF _ rfl) 0 _ rfl) rfl ?_
        refine x_getfield C dX10_reckon_260 fX10_124 ((hoF _ rfl) 0 _ rfl) ho13 ?_
        refine x_iload_n C dX10_reckon_263 rfl rfl ?_
        refine x_iconst (v := 1) C dX10_reckon_264 (by decide) ?_
        refine x_isub C dX10_reckon_265 ?_
        rw [show nI (s.length + 1) - 1 = nI s.length from nI_pred _]
        refine x_iaload C dX10_reckon_266 (x_ovg 0 rfl) (vp_in_nI (show s.length < 400 by omega) (by decide)) ?_
        rw [nI_clamp (show s.length < 2 ^ 31 by omega)]; rw [show sk s.length = u from hsk.2.1]
        refine x_aload_n C dX10_reckon_267 rfl rfl ?_
        refine x_getfield C dX10_reckon_268 fX10_3 ((hmF _ rfl) 0 _ rfl) rfl ?_
        refine x_getfield C dX10_reckon_271 fX10_124 ((hoF _ rfl) 0 _ rfl) ho13 ?_
        refine x_iload_n C dX10_reckon_274 rfl rfl ?_
        refine x_iaload C dX10_reckon_275 (x_ovg 0 rfl) (vp_in_nI hs4 (by decide)) ?_
        rw [nI_clamp (show s.length + 1 < 2 ^ 31 by omega)]; rw [show sk (s.length + 1) = v from hsk.1]
        refine x_callS3 C dX10_reckon_276 kX10_131 (c_X11_both hO hbin) (by decide) ⟨Nat.zero_le _, Nat.zero_le _⟩ (Nat.le_of_ble_eq_true rfl) ?_
        rintro _ _ ⟨rfl, rfl⟩
        refine x_iastore C dX10_reckon_279 (x_ovg 0 rfl) (vp_in_nI (show s.length < 400 by omega) (by decide)) ?_
        refine x_to (x_st_ov 0 (Nat.le_of_ble_eq_true rfl)) ?_
        rw [nI_clamp (show s.length < 2 ^ 31 by omega)]
        refine x_goto (tgt := 5) C dX10_reckon_280 (by decide) ?_
        refine x_take 5 ?_
        exact ih r9 (pos + 1) _ (h_join 275 u v :: s) ty2 (upd sk s.length (h_join 275 u v)) (by simpa using hr) hc1 (by omega) (nI_1 pos) hty2 hl2 htv2 hev (hstk_push hsk.2.2) (by simp at hle; simp; omega) (fun q hq => hdts q (List.mem_cons_of_mem _ hq))
      · subst hk
        obtain ⟨hc0, hc1⟩ := g_code_c (a := 18) (c := g_tr r9) hc
        have hlen : pos + (g_tr r9).length + 1 = e := by rw [← hlen]; show _ = pos + ((g_tr r9).length + 1); omega
        have hp8 : pos < 800 := by omega
        obtain ⟨v, u, s, rfl⟩ : ∃ v u s, st = v :: u :: s := by
          obtain ⟨c, d, e8, r8, hr8, -⟩ : ∃ c d e8 r8, ty = c :: d :: r8 ∧ ty2 = e8 :: r8 := by
            rcases p_op_cases hop with h | h | h | h
            · exact absurd h.1 (by decide)
            · exact absurd h.1 (by decide)
            · exact absurd h.2.2.1 (by decide)
            · exact h.2.2.2.2
          subst hr8
          obtain ⟨v, s1, rfl, hs1⟩ := st_cons hsl
          obtain ⟨u, s, rfl, hs⟩ := st_cons hs1
          exact ⟨v, u, s, rfl⟩
        have hs4 : s.length + 1 < 400 := by simp at hle; omega
        have hbin : h_bin 274 := by unfold h_bin; omega
        refine x_iload C dX10_reckon_5 rfl ?_
        refine x_iload_n C dX10_reckon_7 rfl rfl ?_
        refine x_icmp_ge (tgt := 283) C dX10_reckon_8 (by decide) (fun c8 => absurd c8 (nI_ge (show pos < e by omega) (by omega))) (fun c8 => ?_)
        refine x_aload_n C dX10_reckon_11 rfl rfl ?_
        refine x_getfield C dX10_reckon_12 fX10_3 ((hmF _ rfl) 0 _ rfl) rfl ?_
        refine x_getfield C dX10_reckon_15 fX10_64 ((hoF _ rfl) 0 _ rfl) ho11 ?_
        refine x_getfield C dX10_reckon_18 fX10_121 ((hqF _ rfl) 0 _ rfl) rfl ?_
        refine x_iload C dX10_reckon_21 rfl ?_
        refine x_iaload C dX10_reckon_23 ((hqF _ rfl) 9 _ rfl) (vp_in_nI hp8 (by decide)) ?_
        rw [nI_clamp (show pos < 2 ^ 31 by omega)]
        rw [hc0]
        refine x_istore C dX10_reckon_24 rfl (by decide) ?_
        refine x_iinc (v := 1) C dX10_reckon_26 rfl (by decide) rfl (by decide) ?_
        refine x_iload C dX10_reckon_29 rfl ?_
        refine x_bipush (v := 32) C dX10_reckon_31 (by decide) ?_
        refine x_icmp_eq (tgt := 63) C dX10_reckon_33 (by decide) (fun c33 => absurd c33 (by decide)) (fun c33 => ?_)
        refine x_iload C dX10_reckon_36 rfl ?_
        refine x_iconst (v := 1) C dX10_reckon_38 (by decide) ?_
        refine x_icmp_eq (tgt := 63) C dX10_reckon_39 (by decide) (fun c39 => absurd c39 (by decide)) (fun c39 => ?_)
        refine x_iload C dX10_reckon_42 rfl ?_
        refine x_bipush (v := 11) C dX10_reckon_44 (by decide) ?_
        refine x_icmp_lt (tgt := 56) C dX10_reckon_46 (by decide) (fun c46 => absurd c46 (by decide)) (fun c46 => ?_)
        refine x_iload C dX10_reckon_49 rfl ?_
        refine x_bipush (v := 14) C dX10_reckon_51 (by decide) ?_
        refine x_icmp_le (tgt := 63) C dX10_reckon_53 (by decide) (fun c53 => absurd c53 (by decide)) (fun c53 => ?_)
        refine x_iload C dX10_reckon_56 rfl ?_
        refine x_bipush (v := 16) C dX10_reckon_58 (by decide) ?_
        refine x_icmp_ne (tgt := 178) C dX10_reckon_60 (by decide) (fun c60 => ?_) (fun c60 => absurd c60 (by decide))
        refine x_iload C dX10_reckon_178 rfl ?_
        refine x_bipush (v := 17) C dX10_reckon_180 (by decide) ?_
        refine x_icmp_eq (tgt := 192) C dX10_reckon_182 (by decide) (fun c182 => absurd c182 (by decide)) (fun c182 => ?_)
        refine x_iload C dX10_reckon_185 rfl ?_
        refine x_bipush (v := 33) C dX10_reckon_187 (by decide) ?_
        refine x_icmp_ne (tgt := 241) C dX10_reckon_189 (by decide) (fun c189 => ?_) (fun c189 => absurd c189 (by decide))
        refine x_iinc (v := (-1)) C dX10_reckon_241 rfl (by decide) rfl (by decide) ?_
        rw [show nI (v :: u :: s).length + -1 = nI (s.length + 1) from pk_m1 _]
        refine x_aload_n C dX10_reckon_244 rfl rfl ?_
        refine x_getfield C dX10_reckon_245 fX10_3 ((hmF _ rfl) 0 _ rfl) rfl ?_
        refine x_getfield C dX10_reckon_248 fX10_124 ((hoF _ rfl) 0 _ rfl) ho13 ?_
        refine x_iload_n C dX10_reckon_251 rfl rfl ?_
        refine x_iconst (v := 1) C dX10_reckon_252 (by decide) ?_
        refine x_isub C dX10_reckon_253 ?_
        rw [show nI (s.length + 1) - 1 = nI s.length from nI_pred _]
        refine x_iload C dX10_reckon_254 rfl ?_
        refine x_aload_n C dX10_reckon_256 rfl rfl ?_
        refine x_getfield C dX10_reckon_257 fX10_3 ((hmF _ rfl) 0 _ rfl) rfl ?_
        refine x_getfield C dX10_reckon_260 fX10_124 ((hoF _ rfl) 0 _ rfl) ho13 ?_
        refine x_iload_n C dX10_reckon_263 rfl rfl ?_
        refine x_iconst (v := 1) C dX10_reckon_264 (by decide) ?_
        refine x_isub C dX10_reckon_265 ?_
        rw [show nI (s.length + 1) - 1 = nI s.length from nI_pred _]
        refine x_iaload C dX10_reckon_266 (x_ovg 0 rfl) (vp_in_nI (show s.length < 400 by omega) (by decide)) ?_
        rw [nI_clamp (show s.length < 2 ^ 31 by omega)]; rw [show sk s.length = u from hsk.2.1]
        refine x_aload_n C dX10_reckon_267 rfl rfl ?_
        refine x_getfield C dX10_reckon_268 fX10_3 ((hmF _ rfl) 0 _ rfl) rfl ?_
        refine x_getfield C dX10_reckon_271 fX10_124 ((hoF _ rfl) 0 _ rfl) ho13 ?_
        refine x_iload_n C dX10_reckon_274 rfl rfl ?_
        refine x_iaload C dX10_reckon_275 (x_ovg 0 rfl) (vp_in_nI hs4 (by decide)) ?_
        rw [nI_clamp (show s.length + 1 < 2 ^ 31 by omega)]; rw [show sk (s.length + 1) = v from hsk.1]
        refine x_callS3 C dX10_reckon_276 kX10_131 (c_X11_both hO hbin) (by decide) ⟨Nat.zero_le _, Nat.zero_le _⟩ (Nat.le_of_ble_eq_true rfl) ?_
        rintro _ _ ⟨rfl, rfl⟩
        refine x_iastore C dX10_reckon_279 (x_ovg 0 rfl) (vp_in_nI (show s.length < 400 by omega) (by decide)) ?_
        refine x_to (x_st_ov 0 (Nat.le_of_ble_eq_true rfl)) ?_
        rw [nI_clamp (show s.length < 2 ^ 31 by omega)]
        refine x_goto (tgt := 5) C dX10_reckon_280 (by decide) ?_
        refine x_take 5 ?_
        exact ih r9 (pos + 1) _ (h_join 274 u v :: s) ty2 (upd sk s.length (h_join 274 u v)) (by simpa using hr) hc1 (by omega) (nI_1 pos) hty2 hl2 htv2 hev (hstk_push hsk.2.2) (by simp at hle; simp; omega) (fun q hq => hdts q (List.mem_cons_of_mem _ hq))
      · subst hk
        obtain ⟨hc0, hc1⟩ := g_code_c (a := 38) (c := g_tr r9) hc
        have hlen : pos + (g_tr r9).length + 1 = e := by rw [← hlen]; show _ = pos + ((g_tr r9).length + 1); omega
        have hp8 : pos < 800 := by omega
        obtain ⟨v, u, s, rfl⟩ : ∃ v u s, st = v :: u :: s := by
          obtain ⟨c, d, e8, r8, hr8, -⟩ : ∃ c d e8 r8, ty = c :: d :: r8 ∧ ty2 = e8 :: r8 := by
            rcases p_op_cases hop with h | h | h | h
            · exact absurd h.1 (by decide)
            · exact absurd h.1 (by decide)
            · exact absurd h.2.2.1 (by decide)
            · exact h.2.2.2.2
          subst hr8
          obtain ⟨v, s1, rfl, hs1⟩ := st_cons hsl
          obtain ⟨u, s, rfl, hs⟩ := st_cons hs1
          exact ⟨v, u, s, rfl⟩
        have hs4 : s.length + 1 < 400 := by simp at hle; omega
        have hbin : h_bin 60 := by unfold h_bin; omega
        refine x_iload C dX10_reckon_5 rfl ?_
        refine x_iload_n C dX10_reckon_7 rfl rfl ?_
        refine x_icmp_ge (tgt := 283) C dX10_reckon_8 (by decide) (fun c8 => absurd c8 (nI_ge (show pos < e by omega) (by omega))) (fun c8 => ?_)
        refine x_aload_n C dX10_reckon_11 rfl rfl ?_
        refine x_getfield C dX10_reckon_12 fX10_3 ((hmF _ rfl) 0 _ rfl) rfl ?_
        refine x_getfield C dX10_reckon_15 fX10_64 ((hoF _ rfl) 0 _ rfl) ho11 ?_
        refine x_getfield C dX10_reckon_18 fX10_121 ((hqF _ rfl) 0 _ rfl) rfl ?_
        refine x_iload C dX10_reckon_21 rfl ?_
        refine x_iaload C dX10_reckon_23 ((hqF _ rfl) 9 _ rfl) (vp_in_nI hp8 (by decide)) ?_
        rw [nI_clamp (show pos < 2 ^ 31 by omega)]
        rw [hc0]
        refine x_istore C dX10_reckon_24 rfl (by decide) ?_
        refine x_iinc (v := 1) C dX10_reckon_26 rfl (by decide) rfl (by decide) ?_
        refine x_iload C dX10_reckon_29 rfl ?_
        refine x_bipush (v := 32) C dX10_reckon_31 (by decide) ?_
        refine x_icmp_eq (tgt := 63) C dX10_reckon_33 (by decide) (fun c33 => absurd c33 (by decide)) (fun c33 => ?_)
        refine x_iload C dX10_reckon_36 rfl ?_
        refine x_iconst (v := 1) C dX10_reckon_38 (by decide) ?_
        refine x_icmp_eq (tgt := 63) C dX10_reckon_39 (by decide) (fun c39 => absurd c39 (by decide)) (fun c39 => ?_)
        refine x_iload C dX10_reckon_42 rfl ?_
        refine x_bipush (v := 11) C dX10_reckon_44 (by decide) ?_
        refine x_icmp_lt (tgt := 56) C dX10_reckon_46 (by decide) (fun c46 => absurd c46 (by decide)) (fun c46 => ?_)
        refine x_iload C dX10_reckon_49 rfl ?_
        refine x_bipush (v := 14) C dX10_reckon_51 (by decide) ?_
        refine x_icmp_le (tgt := 63) C dX10_reckon_53 (by decide) (fun c53 => absurd c53 (by decide)) (fun c53 => ?_)
        refine x_iload C dX10_reckon_56 rfl ?_
        refine x_bipush (v := 16) C dX10_reckon_58 (by decide) ?_
        refine x_icmp_ne (tgt := 178) C dX10_reckon_60 (by decide) (fun c60 => ?_) (fun c60 => absurd c60 (by decide))
        refine x_iload C dX10_reckon_178 rfl ?_
        refine x_bipush (v := 17) C dX10_reckon_180 (by decide) ?_
        refine x_icmp_eq (tgt := 192) C dX10_reckon_182 (by decide) (fun c182 => absurd c182 (by decide)) (fun c182 => ?_)
        refine x_iload C dX10_reckon_185 rfl ?_
        refine x_bipush (v := 33) C dX10_reckon_187 (by decide) ?_
        refine x_icmp_ne (tgt := 241) C dX10_reckon_189 (by decide) (fun c189 => ?_) (fun c189 => absurd c189 (by decide))
        refine x_iinc (v := (-1)) C dX10_reckon_241 rfl (by decide) rfl (by decide) ?_
        rw [show nI (v :: u :: s).length + -1 = nI (s.length + 1) from pk_m1 _]
        refine x_aload_n C dX10_reckon_244 rfl rfl ?_
        refine x_getfield C dX10_reckon_245 fX10_3 ((hmF _ rfl) 0 _ rfl) rfl ?_
        refine x_getfield C dX10_reckon_248 fX10_124 ((hoF _ rfl) 0 _ rfl) ho13 ?_
        refine x_iload_n C dX10_reckon_251 rfl rfl ?_
        refine x_iconst (v := 1) C dX10_reckon_252 (by decide) ?_
        refine x_isub C dX10_reckon_253 ?_
        rw [show nI (s.length + 1) - 1 = nI s.length from nI_pred _]
        refine x_iload C dX10_reckon_254 rfl ?_
        refine x_aload_n C dX10_reckon_256 rfl rfl ?_
        refine x_getfield C dX10_reckon_257 fX10_3 ((hmF _ rfl) 0 _ rfl) rfl ?_
        refine x_getfield C dX10_reckon_260 fX10_124 ((hoF _ rfl) 0 _ rfl) ho13 ?_
        refine x_iload_n C dX10_reckon_263 rfl rfl ?_
        refine x_iconst (v := 1) C dX10_reckon_264 (by decide) ?_
        refine x_isub C dX10_reckon_265 ?_
        rw [show nI (s.length + 1) - 1 = nI s.length from nI_pred _]
        refine x_iaload C dX10_reckon_266 (x_ovg 0 rfl) (vp_in_nI (show s.length < 400 by omega) (by decide)) ?_
        rw [nI_clamp (show s.length < 2 ^ 31 by omega)]; rw [show sk s.length = u from hsk.2.1]
        refine x_aload_n C dX10_reckon_267 rfl rfl ?_
        refine x_getfield C dX10_reckon_268 fX10_3 ((hmF _ rfl) 0 _ rfl) rfl ?_
        refine x_getfield C dX10_reckon_271 fX10_124 ((hoF _ rfl) 0 _ rfl) ho13 ?_
        refine x_iload_n C dX10_reckon_274 rfl rfl ?_
        refine x_iaload C dX10_reckon_275 (x_ovg 0 rfl) (vp_in_nI hs4 (by decide)) ?_
        rw [nI_clamp (show s.length + 1 < 2 ^ 31 by omega)]; rw [show sk (s.length + 1) = v from hsk.1]
        refine x_callS3 C dX10_reckon_276 kX10_131 (c_X11_both hO hbin) (by decide) ⟨Nat.zero_le _, Nat.zero_le _⟩ (Nat.le_of_ble_eq_true rfl) ?_
        rintro _ _ ⟨rfl, rfl⟩
        refine x_iastore C dX10_reckon_279 (x_ovg 0 rfl) (vp_in_nI (show s.length < 400 by omega) (by decide)) ?_
        refine x_to (x_st_ov 0 (Nat.le_of_ble_eq_true rfl)) ?_
        rw [nI_clamp (show s.length < 2 ^ 31 by omega)]
        refine x_goto (tgt := 5) C dX10_reckon_280 (by decide) ?_
        refine x_take 5 ?_
        exact ih r9 (pos + 1) _ (h_join 60 u v :: s) ty2 (upd sk s.length (h_join 60 u v)) (by simpa using hr) hc1 (by omega) (nI_1 pos) hty2 hl2 htv2 hev (hstk_push hsk.2.2) (by simp at hle; simp; omega) (fun q hq => hdts q (List.mem_cons_of_mem _ hq))
      · subst hk
        obtain ⟨hc0, hc1⟩ := g_code_c (a := 39) (c := g_tr r9) hc
        have hlen : pos + (g_tr r9).length + 1 = e := by rw [← hlen]; show _ = pos + ((g_tr r9).length + 1); omega
        have hp8 : pos < 800 := by omega
        obtain ⟨v, u, s, rfl⟩ : ∃ v u s, st = v :: u :: s := by
          obtain ⟨c, d, e8, r8, hr8, -⟩ : ∃ c d e8 r8, ty = c :: d :: r8 ∧ ty2 = e8 :: r8 := by
            rcases p_op_cases hop with h | h | h | h
            · exact absurd h.1 (by decide)
            · exact absurd h.1 (by decide)
            · exact absurd h.2.2.1 (by decide)
            · exact h.2.2.2.2
          subst hr8
          obtain ⟨v, s1, rfl, hs1⟩ := st_cons hsl
          obtain ⟨u, s, rfl, hs⟩ := st_cons hs1
          exact ⟨v, u, s, rfl⟩
        have hs4 : s.length + 1 < 400 := by simp at hle; omega
        have hbin : h_bin 62 := by unfold h_bin; omega
        refine x_iload C dX10_reckon_5 rfl ?_
        refine x_iload_n C dX10_reckon_7 rfl rfl ?_
        refine x_icmp_ge (tgt := 283) C dX10_reckon_8 (by decide) (fun c8 => absurd c8 (nI_ge (show pos < e by omega) (by omega))) (fun c8 => ?_)
        refine x_aload_n C dX10_reckon_11 rfl rfl ?_
        refine x_getfield C dX10_reckon_12 fX10_3 ((hmF _ rfl) 0 _ rfl) rfl ?_
        refine x_getfield C dX10_reckon_15 fX10_64 ((hoF _ rfl) 0 _ rfl) ho11 ?_
        refine x_getfield C dX10_reckon_18 fX10_121 ((hqF _ rfl) 0 _ rfl) rfl ?_
        refine x_iload C dX10_reckon_21 rfl ?_
        refine x_iaload C dX10_reckon_23 ((hqF _ rfl) 9 _ rfl) (vp_in_nI hp8 (by decide)) ?_
        rw [nI_clamp (show pos < 2 ^ 31 by omega)]
        rw [hc0]
        refine x_istore C dX10_reckon_24 rfl (by decide) ?_
        refine x_iinc (v := 1) C dX10_reckon_26 rfl (by decide) rfl (by decide) ?_
        refine x_iload C dX10_reckon_29 rfl ?_
        refine x_bipush (v := 32) C dX10_reckon_31 (by decide) ?_
        refine x_icmp_eq (tgt := 63) C dX10_reckon_33 (by decide) (fun c33 => absurd c33 (by decide)) (fun c33 => ?_)
        refine x_iload C dX10_reckon_36 rfl ?_
        refine x_iconst (v := 1) C dX10_reckon_38 (by decide) ?_
        refine x_icmp_eq (tgt := 63) C dX10_reckon_39 (by decide) (fun c39 => absurd c39 (by decide)) (fun c39 => ?_)
        refine x_iload C dX10_reckon_42 rfl ?_
        refine x_bipush (v := 11) C dX10_reckon_44 (by decide) ?_
        refine x_icmp_lt (tgt := 56) C dX10_reckon_46 (by decide) (fun c46 => absurd c46 (by decide)) (fun c46 => ?_)
        refine x_iload C dX10_reckon_49 rfl ?_
        refine x_bipush (v := 14) C dX10_reckon_51 (by decide) ?_
        refine x_icmp_le (tgt := 63) C dX10_reckon_53 (by decide) (fun c53 => absurd c53 (by decide)) (fun c53 => ?_)
        refine x_iload C dX10_reckon_56 rfl ?_
        refine x_bipush (v := 16) C dX10_reckon_58 (by decide) ?_
        refine x_icmp_ne (tgt := 178) C dX10_reckon_60 (by decide) (fun c60 => ?_) (fun c60 => absurd c60 (by decide))
        refine x_iload C dX10_reckon_178 rfl ?_
        refine x_bipush (v := 17) C dX10_reckon_180 (by decide) ?_
        refine x_icmp_eq (tgt := 192) C dX10_reckon_182 (by decide) (fun c182 => absurd c182 (by decide)) (fun c182 => ?_)
        refine x_iload C dX10_reckon_185 rfl ?_
        refine x_bipush (v := 33) C dX10_reckon_187 (by decide) ?_
        refine x_icmp_ne (tgt := 241) C dX10_reckon_189 (by decide) (fun c189 => ?_) (fun c189 => absurd c189 (by decide))
        refine x_iinc (v := (-1)) C dX10_reckon_241 rfl (by decide) rfl (by decide) ?_
        rw [show nI (v :: u :: s).length + -1 = nI (s.length + 1) from pk_m1 _]
        refine x_aload_n C dX10_reckon_244 rfl rfl ?_
        refine x_getfield C dX10_reckon_245 fX10_3 ((hmF _ rfl) 0 _ rfl) rfl ?_
        refine x_getfield C dX10_reckon_248 fX10_124 ((hoF _ rfl) 0 _ rfl) ho13 ?_
        refine x_iload_n C dX10_reckon_251 rfl rfl ?_
        refine x_iconst (v := 1) C dX10_reckon_252 (by decide) ?_
        refine x_isub C dX10_reckon_253 ?_
        rw [show nI (s.length + 1) - 1 = nI s.length from nI_pred _]
        refine x_iload C dX10_reckon_254 rfl ?_
        refine x_aload_n C dX10_reckon_256 rfl rfl ?_
        refine x_getfield C dX10_reckon_257 fX10_3 ((hmF _ rfl) 0 _ rfl) rfl ?_
        refine x_getfield C dX10_reckon_260 fX10_124 ((hoF _ rfl) 0 _ rfl) ho13 ?_
        refine x_iload_n C dX10_reckon_263 rfl rfl ?_
        refine x_iconst (v := 1) C dX10_reckon_264 (by decide) ?_
        refine x_isub C dX10_reckon_265 ?_
        rw [show nI (s.length + 1) - 1 = nI s.length from nI_pred _]
        refine x_iaload C dX10_reckon_266 (x_ovg 0 rfl) (vp_in_nI (show s.length < 400 by omega) (by decide)) ?_
        rw [nI_clamp (show s.length < 2 ^ 31 by omega)]; rw [show sk s.length = u from hsk.2.1]
        refine x_aload_n C dX10_reckon_267 rfl rfl ?_
        refine x_getfield C dX10_reckon_268 fX10_3 ((hmF _ rfl) 0 _ rfl) rfl ?_
        refine x_getfield C dX10_reckon_271 fX10_124 ((hoF _ rfl) 0 _ rfl) ho13 ?_
        refine x_iload_n C dX10_reckon_274 rfl rfl ?_
        refine x_iaload C dX10_reckon_275 (x_ovg 0 rfl) (vp_in_nI hs4 (by decide)) ?_
        rw [nI_clamp (show s.length + 1 < 2 ^ 31 by omega)]; rw [show sk (s.length + 1) = v from hsk.1]
        refine x_callS3 C dX10_reckon_276 kX10_131 (c_X11_both hO hbin) (by decide) ⟨Nat.zero_le _, Nat.zero_le _⟩ (Nat.le_of_ble_eq_true rfl) ?_
        rintro _ _ ⟨rfl, rfl⟩
        refine x_iastore C dX10_reckon_279 (x_ovg 0 rfl) (vp_in_nI (show s.length < 400 by omega) (by decide)) ?_
        refine x_to (x_st_ov 0 (Nat.le_of_ble_eq_true rfl)) ?_
        rw [nI_clamp (show s.length < 2 ^ 31 by omega)]
        refine x_goto (tgt := 5) C dX10_reckon_280 (by decide) ?_
        refine x_take 5 ?_
        exact ih r9 (pos + 1) _ (h_join 62 u v :: s) ty2 (upd sk s.length (h_join 62 u v)) (by simpa using hr) hc1 (by omega) (nI_1 pos) hty2 hl2 htv2 hev (hstk_push hsk.2.2) (by simp at hle; simp; omega) (fun q hq => hdts q (List.mem_cons_of_mem _ hq))
      · subst hk
        obtain ⟨hc0, hc1⟩ := g_code_c (a := 42) (c := g_tr r9) hc
        have hlen : pos + (g_tr r9).length + 1 = e := by rw [← hlen]; show _ = pos + ((g_tr r9).length + 1); omega
        have hp8 : pos < 800 := by omega
        obtain ⟨v, u, s, rfl⟩ : ∃ v u s, st = v :: u :: s := by
          obtain ⟨c, d, e8, r8, hr8, -⟩ : ∃ c d e8 r8, ty = c :: d :: r8 ∧ ty2 = e8 :: r8 := by
            rcases p_op_cases hop with h | h | h | h
            · exact absurd h.1 (by decide)
            · exact absurd h.1 (by decide)
            · exact absurd h.2.2.1 (by decide)
            · exact h.2.2.2.2
          subst hr8
          obtain ⟨v, s1, rfl, hs1⟩ := st_cons hsl
          obtain ⟨u, s, rfl, hs⟩ := st_cons hs1
          exact ⟨v, u, s, rfl⟩
        have hs4 : s.length + 1 < 400 := by simp at hle; omega
        have hbin : h_bin 61 := by unfold h_bin; omega
        refine x_iload C dX10_reckon_5 rfl ?_
        refine x_iload_n C dX10_reckon_7 rfl rfl ?_
        refine x_icmp_ge (tgt := 283) C dX10_reckon_8 (by decide) (fun c8 => absurd c8 (nI_ge (show pos < e by omega) (by omega))) (fun c8 => ?_)
        refine x_aload_n C dX10_reckon_11 rfl rfl ?_
        refine x_getfield C dX10_reckon_12 fX10_3 ((hmF _ rfl) 0 _ rfl) rfl ?_
        refine x_getfield C dX10_reckon_15 fX10_64 ((hoF _ rfl) 0 _ rfl) ho11 ?_
        refine x_getfield C dX10_reckon_18 fX10_121 ((hqF _ rfl) 0 _ rfl) rfl ?_
        refine x_iload C dX10_reckon_21 rfl ?_
        refine x_iaload C dX10_reckon_23 ((hqF _ rfl) 9 _ rfl) (vp_in_nI hp8 (by decide)) ?_
        rw [nI_clamp (show pos < 2 ^ 31 by omega)]
        rw [hc0]
        refine x_istore C dX10_reckon_24 rfl (by decide) ?_
        refine x_iinc (v := 1) C dX10_reckon_26 rfl (by decide) rfl (by decide) ?_
        refine x_iload C dX10_reckon_29 rfl ?_
        refine x_bipush (v := 32) C dX10_reckon_31 (by decide) ?_
        refine x_icmp_eq (tgt := 63) C dX10_reckon_33 (by decide) (fun c33 => absurd c33 (by decide)) (fun c33 => ?_)
        refine x_iload C dX10_reckon_36 rfl ?_
        refine x_iconst (v := 1) C dX10_reckon_38 (by decide) ?_
        refine x_icmp_eq (tgt := 63) C dX10_reckon_39 (by decide) (fun c39 => absurd c39 (by decide)) (fun c39 => ?_)
        refine x_iload C dX10_reckon_42 rfl ?_
        refine x_bipush (v := 11) C dX10_reckon_44 (by decide) ?_
        refine x_icmp_lt (tgt := 56) C dX10_reckon_46 (by decide) (fun c46 => absurd c46 (by decide)) (fun c46 => ?_)
        refine x_iload C dX10_reckon_49 rfl ?_
        refine x_bipush (v := 14) C dX10_reckon_51 (by decide) ?_
        refine x_icmp_le (tgt := 63) C dX10_reckon_53 (by decide) (fun c53 => absurd c53 (by decide)) (fun c53 => ?_)
        refine x_iload C dX10_reckon_56 rfl ?_
        refine x_bipush (v := 16) C dX10_reckon_58 (by decide) ?_
        refine x_icmp_ne (tgt := 178) C dX10_reckon_60 (by decide) (fun c60 => ?_) (fun c60 => absurd c60 (by decide))
        refine x_iload C dX10_reckon_178 rfl ?_
        refine x_bipush (v := 17) C dX10_reckon_180 (by decide) ?_
        refine x_icmp_eq (tgt := 192) C dX10_reckon_182 (by decide) (fun c182 => absurd c182 (by decide)) (fun c182 => ?_)
        refine x_iload C dX10_reckon_185 rfl ?_
        refine x_bipush (v := 33) C dX10_reckon_187 (by decide) ?_
        refine x_icmp_ne (tgt := 241) C dX10_reckon_189 (by decide) (fun c189 => ?_) (fun c189 => absurd c189 (by decide))
        refine x_iinc (v := (-1)) C dX10_reckon_241 rfl (by decide) rfl (by decide) ?_
        rw [show nI (v :: u :: s).length + -1 = nI (s.length + 1) from pk_m1 _]
        refine x_aload_n C dX10_reckon_244 rfl rfl ?_
        refine x_getfield C dX10_reckon_245 fX10_3 ((hmF _ rfl) 0 _ rfl) rfl ?_
        refine x_getfield C dX10_reckon_248 fX10_124 ((hoF _ rfl) 0 _ rfl) ho13 ?_
        refine x_iload_n C dX10_reckon_251 rfl rfl ?_
        refine x_iconst (v := 1) C dX10_reckon_252 (by decide) ?_
        refine x_isub C dX10_reckon_253 ?_
        rw [show nI (s.length + 1) - 1 = nI s.length from nI_pred _]
        refine x_iload C dX10_reckon_254 rfl ?_
        refine x_aload_n C dX10_reckon_256 rfl rfl ?_
        refine x_getfield C dX10_reckon_257 fX10_3 ((hmF _ rfl) 0 _ rfl) rfl ?_
        refine x_getfield C dX10_reckon_260 fX10_124 ((hoF _ rfl) 0 _ rfl) ho13 ?_
        refine x_iload_n C dX10_reckon_263 rfl rfl ?_
        refine x_iconst (v := 1) C dX10_reckon_264 (by decide) ?_
        refine x_isub C dX10_reckon_265 ?_
        rw [show nI (s.length + 1) - 1 = nI s.length from nI_pred _]
        refine x_iaload C dX10_reckon_266 (x_ovg 0 rfl) (vp_in_nI (show s.length < 400 by omega) (by decide)) ?_
        rw [nI_clamp (show s.length < 2 ^ 31 by omega)]; rw [show sk s.length = u from hsk.2.1]
        refine x_aload_n C dX10_reckon_267 rfl rfl ?_
        refine x_getfield C dX10_reckon_268 fX10_3 ((hmF _ rfl) 0 _ rfl) rfl ?_
        refine x_getfield C dX10_reckon_271 fX10_124 ((hoF _ rfl) 0 _ rfl) ho13 ?_
        refine x_iload_n C dX10_reckon_274 rfl rfl ?_
        refine x_iaload C dX10_reckon_275 (x_ovg 0 rfl) (vp_in_nI hs4 (by decide)) ?_
        rw [nI_clamp (show s.length + 1 < 2 ^ 31 by omega)]; rw [show sk (s.length + 1) = v from hsk.1]
        refine x_callS3 C dX10_reckon_276 kX10_131 (c_X11_both hO hbin) (by decide) ⟨Nat.zero_le _, Nat.zero_le _⟩ (Nat.le_of_ble_eq_true rfl) ?_
        rintro _ _ ⟨rfl, rfl⟩
        refine x_iastore C dX10_reckon_279 (x_ovg 0 rfl) (vp_in_nI (show s.length < 400 by omega) (by decide)) ?_
        refine x_to (x_st_ov 0 (Nat.le_of_ble_eq_true rfl)) ?_
        rw [nI_clamp (show s.length < 2 ^ 31 by omega)]
        refine x_goto (tgt := 5) C dX10_reckon_280 (by decide) ?_
        refine x_take 5 ?_
        exact ih r9 (pos + 1) _ (h_join 61 u v :: s) ty2 (upd sk s.length (h_join 61 u v)) (by simpa using hr) hc1 (by omega) (nI_1 pos) hty2 hl2 htv2 hev (hstk_push hsk.2.2) (by simp at hle; simp; omega) (fun q hq => hdts q (List.mem_cons_of_mem _ hq))
      · subst hk
        obtain ⟨hc0, hc1⟩ := g_code_c (a := 43) (c := g_tr r9) hc
        have hlen : pos + (g_tr r9).length + 1 = e := by rw [← hlen]; show _ = pos + ((g_tr r9).length + 1); omega
        have hp8 : pos < 800 := by omega
        obtain ⟨v, u, s, rfl⟩ : ∃ v u s, st = v :: u :: s := by
          obtain ⟨c, d, e8, r8, hr8, -⟩ : ∃ c d e8 r8, ty = c :: d :: r8 ∧ ty2 = e8 :: r8 := by
            rcases p_op_cases hop with h | h | h | h
            · exact absurd h.1 (by decide)
            · exact absurd h.1 (by decide)
            · exact absurd h.2.2.1 (by decide)
            · exact h.2.2.2.2
          subst hr8
          obtain ⟨v, s1, rfl, hs1⟩ := st_cons hsl
          obtain ⟨u, s, rfl, hs⟩ := st_cons hs1
          exact ⟨v, u, s, rfl⟩
        have hs4 : s.length + 1 < 400 := by simp at hle; omega
        have hbin : h_bin 188 := by unfold h_bin; omega
        refine x_iload C dX10_reckon_5 rfl ?_
        refine x_iload_n C dX10_reckon_7 rfl rfl ?_
        refine x_icmp_ge (tgt := 283) C dX10_reckon_8 (by decide) (fun c8 => absurd c8 (nI_ge (show pos < e by omega) (by omega))) (fun c8 => ?_)
        refine x_aload_n C dX10_reckon_11 rfl rfl ?_
        refine x_getfield C dX10_reckon_12 fX10_3 ((hmF _ rfl) 0 _ rfl) rfl ?_
        refine x_getfield C dX10_reckon_15 fX10_64 ((hoF _ rfl) 0 _ rfl) ho11 ?_
        refine x_getfield C dX10_reckon_18 fX10_121 ((hqF _ rfl) 0 _ rfl) rfl ?_
        refine x_iload C dX10_reckon_21 rfl ?_
        refine x_iaload C dX10_reckon_23 ((hqF _ rfl) 9 _ rfl) (vp_in_nI hp8 (by decide)) ?_
        rw [nI_clamp (show pos < 2 ^ 31 by omega)]
        rw [hc0]
        refine x_istore C dX10_reckon_24 rfl (by decide) ?_
        refine x_iinc (v := 1) C dX10_reckon_26 rfl (by decide) rfl (by decide) ?_
        refine x_iload C dX10_reckon_29 rfl ?_
        refine x_bipush (v := 32) C dX10_reckon_31 (by decide) ?_
        refine x_icmp_eq (tgt := 63) C dX10_reckon_33 (by decide) (fun c33 => absurd c33 (by decide)) (fun c33 => ?_)
        refine x_iload C dX10_reckon_36 rfl ?_
        refine x_iconst (v := 1) C dX10_reckon_38 (by decide) ?_
        refine x_icmp_eq (tgt := 63) C dX10_reckon_39 (by decide) (fun c39 => absurd c39 (by decide)) (fun c39 => ?_)
        refine x_iload C dX10_reckon_42 rfl ?_
        refine x_bipush (v := 11) C dX10_reckon_44 (by decide) ?_
        refine x_icmp_lt (tgt := 56) C dX10_reckon_46 (by decide) (fun c46 => absurd c46 (by decide)) (fun c46 => ?_)
        refine x_iload C dX10_reckon_49 rfl ?_
        refine x_bipush (v := 14) C dX10_reckon_51 (by decide) ?_
        refine x_icmp_le (tgt := 63) C dX10_reckon_53 (by decide) (fun c53 => absurd c53 (by decide)) (fun c53 => ?_)
        refine x_iload C dX10_reckon_56 rfl ?_
        refine x_bipush (v := 16) C dX10_reckon_58 (by decide) ?_
        refine x_icmp_ne (tgt := 178) C dX10_reckon_60 (by decide) (fun c60 => ?_) (fun c60 => absurd c60 (by decide))
        refine x_iload C dX10_reckon_178 rfl ?_
        refine x_bipush (v := 17) C dX10_reckon_180 (by decide) ?_
        refine x_icmp_eq (tgt := 192) C dX10_reckon_182 (by decide) (fun c182 => absurd c182 (by decide)) (fun c182 => ?_)
        refine x_iload C dX10_reckon_185 rfl ?_
        refine x_bipush (v := 33) C dX10_reckon_187 (by decide) ?_
        refine x_icmp_ne (tgt := 241) C dX10_reckon_189 (by decide) (fun c189 => ?_) (fun c189 => absurd c189 (by decide))
        refine x_iinc (v := (-1)) C dX10_reckon_241 rfl (by decide) rfl (by decide) ?_
        rw [show nI (v :: u :: s).length + -1 = nI (s.length + 1) from pk_m1 _]
        refine x_aload_n C dX10_reckon_244 rfl rfl ?_
        refine x_getfield C dX10_reckon_245 fX10_3 ((hmF _ rfl) 0 _ rfl) rfl ?_
        refine x_getfield C dX10_reckon_248 fX10_124 ((hoF _ rfl) 0 _ rfl) ho13 ?_
        refine x_iload_n C dX10_reckon_251 rfl rfl ?_
        refine x_iconst (v := 1) C dX10_reckon_252 (by decide) ?_
        refine x_isub C dX10_reckon_253 ?_
        rw [show nI (s.length + 1) - 1 = nI s.length from nI_pred _]
        refine x_iload C dX10_reckon_254 rfl ?_
        refine x_aload_n C dX10_reckon_256 rfl rfl ?_
        refine x_getfield C dX10_reckon_257 fX10_3 ((hmF _ rfl) 0 _ rfl) rfl ?_
        refine x_getfield C dX10_reckon_260 fX10_124 ((hoF _ rfl) 0 _ rfl) ho13 ?_
        refine x_iload_n C dX10_reckon_263 rfl rfl ?_
        refine x_iconst (v := 1) C dX10_reckon_264 (by decide) ?_
        refine x_isub C dX10_reckon_265 ?_
        rw [show nI (s.length + 1) - 1 = nI s.length from nI_pred _]
        refine x_iaload C dX10_reckon_266 (x_ovg 0 rfl) (vp_in_nI (show s.length < 400 by omega) (by decide)) ?_
        rw [nI_clamp (show s.length < 2 ^ 31 by omega)]; rw [show sk s.length = u from hsk.2.1]
        refine x_aload_n C dX10_reckon_267 rfl rfl ?_
        refine x_getfield C dX10_reckon_268 fX10_3 ((hmF _ rfl) 0 _ rfl) rfl ?_
        refine x_getfield C dX10_reckon_271 fX10_124 ((hoF _ rfl) 0 _ rfl) ho13 ?_
        refine x_iload_n C dX10_reckon_274 rfl rfl ?_
        refine x_iaload C dX10_reckon_275 (x_ovg 0 rfl) (vp_in_nI hs4 (by decide)) ?_
        rw [nI_clamp (show s.length + 1 < 2 ^ 31 by omega)]; rw [show sk (s.length + 1) = v from hsk.1]
        refine x_callS3 C dX10_reckon_276 kX10_131 (c_X11_both hO hbin) (by decide) ⟨Nat.zero_le _, Nat.zero_le _⟩ (Nat.le_of_ble_eq_true rfl) ?_
        rintro _ _ ⟨rfl, rfl⟩
        refine x_iastore C dX10_reckon_279 (x_ovg 0 rfl) (vp_in_nI (show s.length < 400 by omega) (by decide)) ?_
        refine x_to (x_st_ov 0 (Nat.le_of_ble_eq_true rfl)) ?_
        rw [nI_clamp (show s.length < 2 ^ 31 by omega)]
        refine x_goto (tgt := 5) C dX10_reckon_280 (by decide) ?_
        refine x_take 5 ?_
        exact ih r9 (pos + 1) _ (h_join 188 u v :: s) ty2 (upd sk s.length (h_join 188 u v)) (by simpa using hr) hc1 (by omega) (nI_1 pos) hty2 hl2 htv2 hev (hstk_push hsk.2.2) (by simp at hle; simp; omega) (fun q hq => hdts q (List.mem_cons_of_mem _ hq))
      · subst hk
        obtain ⟨hc0, hc1⟩ := g_code_c (a := 44) (c := g_tr r9) hc
        have hlen : pos + (g_tr r9).length + 1 = e := by rw [← hlen]; show _ = pos + ((g_tr r9).length + 1); omega
        have hp8 : pos < 800 := by omega
        obtain ⟨v, u, s, rfl⟩ : ∃ v u s, st = v :: u :: s := by
          obtain ⟨c, d, e8, r8, hr8, -⟩ : ∃ c d e8 r8, ty = c :: d :: r8 ∧ ty2 = e8 :: r8 := by
            rcases p_op_cases hop with h | h | h | h
            · exact absurd h.1 (by decide)
            · exact absurd h.1 (by decide)
            · exact absurd h.2.2.1 (by decide)
            · exact h.2.2.2.2
          subst hr8
          obtain ⟨v, s1, rfl, hs1⟩ := st_cons hsl
          obtain ⟨u, s, rfl, hs⟩ := st_cons hs1
          exact ⟨v, u, s, rfl⟩
        have hs4 : s.length + 1 < 400 := by simp at hle; omega
        have hbin : h_bin 190 := by unfold h_bin; omega
        refine x_iload C dX10_reckon_5 rfl ?_
        refine x_iload_n C dX10_reckon_7 rfl rfl ?_
        refine x_icmp_ge (tgt := 283) C dX10_reckon_8 (by decide) (fun c8 => absurd c8 (nI_ge (show pos < e by omega) (by omega))) (fun c8 => ?_)
        refine x_aload_n C dX10_reckon_11 rfl rfl ?_
        refine x_getfield C dX10_reckon_12 fX10_3 ((hmF _ rfl) 0 _ rfl) rfl ?_
        refine x_getfield C dX10_reckon_15 fX10_64 ((hoF _ rfl) 0 _ rfl) ho11 ?_
        refine x_getfield C dX10_reckon_18 fX10_121 ((hqF _ rfl) 0 _ rfl) rfl ?_
        refine x_iload C dX10_reckon_21 rfl ?_
        refine x_iaload C dX10_reckon_23 ((hqF _ rfl) 9 _ rfl) (vp_in_nI hp8 (by decide)) ?_
        rw [nI_clamp (show pos < 2 ^ 31 by omega)]
        rw [hc0]
        refine x_istore C dX10_reckon_24 rfl (by decide) ?_
        refine x_iinc (v := 1) C dX10_reckon_26 rfl (by decide) rfl (by decide) ?_
        refine x_iload C dX10_reckon_29 rfl ?_
        refine x_bipush (v := 32) C dX10_reckon_31 (by decide) ?_
        refine x_icmp_eq (tgt := 63) C dX10_reckon_33 (by decide) (fun c33 => absurd c33 (by decide)) (fun c33 => ?_)
        refine x_iload C dX10_reckon_36 rfl ?_
        refine x_iconst (v := 1) C dX10_reckon_38 (by decide) ?_
        refine x_icmp_eq (tgt := 63) C dX10_reckon_39 (by decide) (fun c39 => absurd c39 (by decide)) (fun c39 => ?_)
        refine x_iload C dX10_reckon_42 rfl ?_
        refine x_bipush (v := 11) C dX10_reckon_44 (by decide) ?_
        refine x_icmp_lt (tgt := 56) C dX10_reckon_46 (by decide) (fun c46 => absurd c46 (by decide)) (fun c46 => ?_)
        refine x_iload C dX10_reckon_49 rfl ?_
        refine x_bipush (v := 14) C dX10_reckon_51 (by decide) ?_
        refine x_icmp_le (tgt := 63) C dX10_reckon_53 (by decide) (fun c53 => absurd c53 (by decide)) (fun c53 => ?_)
        refine x_iload C dX10_reckon_56 rfl ?_
        refine x_bipush (v := 16) C dX10_reckon_58 (by decide) ?_
        refine x_icmp_ne (tgt := 178) C dX10_reckon_60 (by decide) (fun c60 => ?_) (fun c60 => absurd c60 (by decide))
        refine x_iload C dX10_reckon_178 rfl ?_
        refine x_bipush (v := 17) C dX10_reckon_180 (by decide) ?_
        refine x_icmp_eq (tgt := 192) C dX10_reckon_182 (by decide) (fun c182 => absurd c182 (by decide)) (fun c182 => ?_)
        refine x_iload C dX10_reckon_185 rfl ?_
        refine x_bipush (v := 33) C dX10_reckon_187 (by decide) ?_
        refine x_icmp_ne (tgt := 241) C dX10_reckon_189 (by decide) (fun c189 => ?_) (fun c189 => absurd c189 (by decide))
        refine x_iinc (v := (-1)) C dX10_reckon_241 rfl (by decide) rfl (by decide) ?_
        rw [show nI (v :: u :: s).length + -1 = nI (s.length + 1) from pk_m1 _]
        refine x_aload_n C dX10_reckon_244 rfl rfl ?_
        refine x_getfield C dX10_reckon_245 fX10_3 ((hmF _ rfl) 0 _ rfl) rfl ?_
        refine x_getfield C dX10_reckon_248 fX10_124 ((hoF _ rfl) 0 _ rfl) ho13 ?_
        refine x_iload_n C dX10_reckon_251 rfl rfl ?_
        refine x_iconst (v := 1) C dX10_reckon_252 (by decide) ?_
        refine x_isub C dX10_reckon_253 ?_
        rw [show nI (s.length + 1) - 1 = nI s.length from nI_pred _]
        refine x_iload C dX10_reckon_254 rfl ?_
        refine x_aload_n C dX10_reckon_256 rfl rfl ?_
        refine x_getfield C dX10_reckon_257 fX10_3 ((hmF _ rfl) 0 _ rfl) rfl ?_
        refine x_getfield C dX10_reckon_260 fX10_124 ((hoF _ rfl) 0 _ rfl) ho13 ?_
        refine x_iload_n C dX10_reckon_263 rfl rfl ?_
        refine x_iconst (v := 1) C dX10_reckon_264 (by decide) ?_
        refine x_isub C dX10_reckon_265 ?_
        rw [show nI (s.length + 1) - 1 = nI s.length from nI_pred _]
        refine x_iaload C dX10_reckon_266 (x_ovg 0 rfl) (vp_in_nI (show s.length < 400 by omega) (by decide)) ?_
        rw [nI_clamp (show s.length < 2 ^ 31 by omega)]; rw [show sk s.length = u from hsk.2.1]
        refine x_aload_n C dX10_reckon_267 rfl rfl ?_
        refine x_getfield C dX10_reckon_268 fX10_3 ((hmF _ rfl) 0 _ rfl) rfl ?_
        refine x_getfield C dX10_reckon_271 fX10_124 ((hoF _ rfl) 0 _ rfl) ho13 ?_
        refine x_iload_n C dX10_reckon_274 rfl rfl ?_
        refine x_iaload C dX10_reckon_275 (x_ovg 0 rfl) (vp_in_nI hs4 (by decide)) ?_
        rw [nI_clamp (show s.length + 1 < 2 ^ 31 by omega)]; rw [show sk (s.length + 1) = v from hsk.1]
        refine x_callS3 C dX10_reckon_276 kX10_131 (c_X11_both hO hbin) (by decide) ⟨Nat.zero_le _, Nat.zero_le _⟩ (Nat.le_of_ble_eq_true rfl) ?_
        rintro _ _ ⟨rfl, rfl⟩
        refine x_iastore C dX10_reckon_279 (x_ovg 0 rfl) (vp_in_nI (show s.length < 400 by omega) (by decide)) ?_
        refine x_to (x_st_ov 0 (Nat.le_of_ble_eq_true rfl)) ?_
        rw [nI_clamp (show s.length < 2 ^ 31 by omega)]
        refine x_goto (tgt := 5) C dX10_reckon_280 (by decide) ?_
        refine x_take 5 ?_
        exact ih r9 (pos + 1) _ (h_join 190 u v :: s) ty2 (upd sk s.length (h_join 190 u v)) (by simpa using hr) hc1 (by omega) (nI_1 pos) hty2 hl2 htv2 hev (hstk_push hsk.2.2) (by simp at hle; simp; omega) (fun q hq => hdts q (List.mem_cons_of_mem _ hq))
      · subst hk
        obtain ⟨hc0, hc1⟩ := g_code_c (a := 34) (c := g_tr r9) hc
        have hlen : pos + (g_tr r9).length + 1 = e := by rw [← hlen]; show _ = pos + ((g_tr r9).length + 1); omega
        have hp8 : pos < 800 := by omega
        obtain ⟨v, u, s, rfl⟩ : ∃ v u s, st = v :: u :: s := by
          obtain ⟨c, d, e8, r8, hr8, -⟩ : ∃ c d e8 r8, ty = c :: d :: r8 ∧ ty2 = e8 :: r8 := by
            rcases p_op_cases hop with h | h | h | h
            · exact absurd h.1 (by decide)
            · exact absurd h.1 (by decide)
            · exact absurd h.2.2.1 (by decide)
            · exact h.2.2.2.2
          subst hr8
          obtain ⟨v, s1, rfl, hs1⟩ := st_cons hsl
          obtain ⟨u, s, rfl, hs⟩ := st_cons hs1
          exact ⟨v, u, s, rfl⟩
        have hs4 : s.length + 1 < 400 := by simp at hle; omega
        have hbin : h_bin 43 := by unfold h_bin; omega
        refine x_iload C dX10_reckon_5 rfl ?_
        refine x_iload_n C dX10_reckon_7 rfl rfl ?_
        refine x_icmp_ge (tgt := 283) C dX10_reckon_8 (by decide) (fun c8 => absurd c8 (nI_ge (show pos < e by omega) (by omega))) (fun c8 => ?_)
        refine x_aload_n C dX10_reckon_11 rfl rfl ?_
        refine x_getfield C dX10_reckon_12 fX10_3 ((hmF _ rfl) 0 _ rfl) rfl ?_
        refine x_getfield C dX10_reckon_15 fX10_64 ((hoF _ rfl) 0 _ rfl) ho11 ?_
        refine x_getfield C dX10_reckon_18 fX10_121 ((hqF _ rfl) 0 _ rfl) rfl ?_
        refine x_iload C dX10_reckon_21 rfl ?_
        refine x_iaload C dX10_reckon_23 ((hqF _ rfl) 9 _ rfl) (vp_in_nI hp8 (by decide)) ?_
        rw [nI_clamp (show pos < 2 ^ 31 by omega)]
        rw [hc0]
        refine x_istore C dX10_reckon_24 rfl (by decide) ?_
        refine x_iinc (v := 1) C dX10_reckon_26 rfl (by decide) rfl (by decide) ?_
        refine x_iload C dX10_reckon_29 rfl ?_
        refine x_bipush (v := 32) C dX10_reckon_31 (by decide) ?_
        refine x_icmp_eq (tgt := 63) C dX10_reckon_33 (by decide) (fun c33 => absurd c33 (by decide)) (fun c33 => ?_)
        refine x_iload C dX10_reckon_36 rfl ?_
        refine x_iconst (v := 1) C dX10_reckon_38 (by decide) ?_
        refine x_icmp_eq (tgt := 63) C dX10_reckon_39 (by decide) (fun c39 => absurd c39 (by decide)) (fun c39 => ?_)
        refine x_iload C dX10_reckon_42 rfl ?_
        refine x_bipush (v := 11) C dX10_reckon_44 (by decide) ?_
        refine x_icmp_lt (tgt := 56) C dX10_reckon_46 (by decide) (fun c46 => absurd c46 (by decide)) (fun c46 => ?_)
        refine x_iload C dX10_reckon_49 rfl ?_
        refine x_bipush (v := 14) C dX10_reckon_51 (by decide) ?_
        refine x_icmp_le (tgt := 63) C dX10_reckon_53 (by decide) (fun c53 => absurd c53 (by decide)) (fun c53 => ?_)
        refine x_iload C dX10_reckon_56 rfl ?_
        refine x_bipush (v := 16) C dX10_reckon_58 (by decide) ?_
        refine x_icmp_ne (tgt := 178) C dX10_reckon_60 (by decide) (fun c60 => ?_) (fun c60 => absurd c60 (by decide))
        refine x_iload C dX10_reckon_178 rfl ?_
        refine x_bipush (v := 17) C dX10_reckon_180 (by decide) ?_
        refine x_icmp_eq (tgt := 192) C dX10_reckon_182 (by decide) (fun c182 => absurd c182 (by decide)) (fun c182 => ?_)
        refine x_iload C dX10_reckon_185 rfl ?_
        refine x_bipush (v := 33) C dX10_reckon_187 (by decide) ?_
        refine x_icmp_ne (tgt := 241) C dX10_reckon_189 (by decide) (fun c189 => ?_) (fun c189 => absurd c189 (by decide))
        refine x_iinc (v := (-1)) C dX10_reckon_241 rfl (by decide) rfl (by decide) ?_
        rw [show nI (v :: u :: s).length + -1 = nI (s.length + 1) from pk_m1 _]
        refine x_aload_n C dX10_reckon_244 rfl rfl ?_
        refine x_getfield C dX10_reckon_245 fX10_3 ((hmF _ rfl) 0 _ rfl) rfl ?_
        refine x_getfield C dX10_reckon_248 fX10_124 ((hoF _ rfl) 0 _ rfl) ho13 ?_
        refine x_iload_n C dX10_reckon_251 rfl rfl ?_
        refine x_iconst (v := 1) C dX10_reckon_252 (by decide) ?_
        refine x_isub C dX10_reckon_253 ?_
        rw [show nI (s.length + 1) - 1 = nI s.length from nI_pred _]
        refine x_iload C dX10_reckon_254 rfl ?_
        refine x_aload_n C dX10_reckon_256 rfl rfl ?_
        refine x_getfield C dX10_reckon_257 fX10_3 ((hmF _ rfl) 0 _ rfl) rfl ?_
        refine x_getfield C dX10_reckon_260 fX10_124 ((hoF _ rfl) 0 _ rfl) ho13 ?_
        refine x_iload_n C dX10_reckon_263 rfl rfl ?_
        refine x_iconst (v := 1) C dX10_reckon_264 (by decide) ?_
        refine x_isub C dX10_reckon_265 ?_
        rw [show nI (s.length + 1) - 1 = nI s.length from nI_pred _]
        refine x_iaload C dX10_reckon_266 (x_ovg 0 rfl) (vp_in_nI (show s.length < 400 by omega) (by decide)) ?_
        rw [nI_clamp (show s.length < 2 ^ 31 by omega)]; rw [show sk s.length = u from hsk.2.1]
        refine x_aload_n C dX10_reckon_267 rfl rfl ?_
        refine x_getfield C dX10_reckon_268 fX10_3 ((hmF _ rfl) 0 _ rfl) rfl ?_
        refine x_getfield C dX10_reckon_271 fX10_124 ((hoF _ rfl) 0 _ rfl) ho13 ?_
        refine x_iload_n C dX10_reckon_274 rfl rfl ?_
        refine x_iaload C dX10_reckon_275 (x_ovg 0 rfl) (vp_in_nI hs4 (by decide)) ?_
        rw [nI_clamp (show s.length + 1 < 2 ^ 31 by omega)]; rw [show sk (s.length + 1) = v from hsk.1]
        refine x_callS3 C dX10_reckon_276 kX10_131 (c_X11_both hO hbin) (by decide) ⟨Nat.zero_le _, Nat.zero_le _⟩ (Nat.le_of_ble_eq_true rfl) ?_
        rintro _ _ ⟨rfl, rfl⟩
        refine x_iastore C dX10_reckon_279 (x_ovg 0 rfl) (vp_in_nI (show s.length < 400 by omega) (by decide)) ?_
        refine x_to (x_st_ov 0 (Nat.le_of_ble_eq_true rfl)) ?_
        rw [nI_clamp (show s.length < 2 ^ 31 by omega)]
        refine x_goto (tgt := 5) C dX10_reckon_280 (by decide) ?_
        refine x_take 5 ?_
        exact ih r9 (pos + 1) _ (h_join 43 u v :: s) ty2 (upd sk s.length (h_join 43 u v)) (by simpa using hr) hc1 (by omega) (nI_1 pos) hty2 hl2 htv2 hev (hstk_push hsk.2.2) (by simp at hle; simp; omega) (fun q hq => hdts q (List.mem_cons_of_mem _ hq))
      · subst hk
        obtain ⟨hc0, hc1⟩ := g_code_c (a := 35) (c := g_tr r9) hc
        have hlen : pos + (g_tr r9).length + 1 = e := by rw [← hlen]; show _ = pos + ((g_tr r9).length + 1); omega
        have hp8 : pos < 800 := by omega
        obtain ⟨v, u, s, rfl⟩ : ∃ v u s, st = v :: u :: s := by
          obtain ⟨c, d, e8, r8, hr8, -⟩ : ∃ c d e8 r8, ty = c :: d :: r8 ∧ ty2 = e8 :: r8 := by
            rcases p_op_cases hop with h | h | h | h
            · exact absurd h.1 (by decide)
            · exact absurd h.1 (by decide)
            · exact absurd h.2.2.1 (by decide)
            · exact h.2.2.2.2
          subst hr8
          obtain ⟨v, s1, rfl, hs1⟩ := st_cons hsl
          obtain ⟨u, s, rfl, hs⟩ := st_cons hs1
          exact ⟨v, u, s, rfl⟩
        have hs4 : s.length + 1 < 400 := by simp at hle; omega
        have hbin : h_bin 45 := by unfold h_bin; omega
        refine x_iload C dX10_reckon_5 rfl ?_
        refine x_iload_n C dX10_reckon_7 rfl rfl ?_
        refine x_icmp_ge (tgt := 283) C dX10_reckon_8 (by decide) (fun c8 => absurd c8 (nI_ge (show pos < e by omega) (by omega))) (fun c8 => ?_)
        refine x_aload_n C dX10_reckon_11 rfl rfl ?_
        refine x_getfield C dX10_reckon_12 fX10_3 ((hmF _ rfl) 0 _ rfl) rfl ?_
        refine x_getfield C dX10_reckon_15 fX10_64 ((hoF _ rfl) 0 _ rfl) ho11 ?_
        refine x_getfield C dX10_reckon_18 fX10_121 ((hqF _ rfl) 0 _ rfl) rfl ?_
        refine x_iload C dX10_reckon_21 rfl ?_
        refine x_iaload C dX10_reckon_23 ((hqF _ rfl) 9 _ rfl) (vp_in_nI hp8 (by decide)) ?_
        rw [nI_clamp (show pos < 2 ^ 31 by omega)]
        rw [hc0]
        refine x_istore C dX10_reckon_24 rfl (by decide) ?_
        refine x_iinc (v := 1) C dX10_reckon_26 rfl (by decide) rfl (by decide) ?_
        refine x_iload C dX10_reckon_29 rfl ?_
        refine x_bipush (v := 32) C dX10_reckon_31 (by decide) ?_
        refine x_icmp_eq (tgt := 63) C dX10_reckon_33 (by decide) (fun c33 => absurd c33 (by decide)) (fun c33 => ?_)
        refine x_iload C dX10_reckon_36 rfl ?_
        refine x_iconst (v := 1) C dX10_reckon_38 (by decide) ?_
        refine x_icmp_eq (tgt := 63) C dX10_reckon_39 (by decide) (fun c39 => absurd c39 (by decide)) (fun c39 => ?_)
        refine x_iload C dX10_reckon_42 rfl ?_
        refine x_bipush (v := 11) C dX10_reckon_44 (by decide) ?_
        refine x_icmp_lt (tgt := 56) C dX10_reckon_46 (by decide) (fun c46 => absurd c46 (by decide)) (fun c46 => ?_)
        refine x_iload C dX10_reckon_49 rfl ?_
        refine x_bipush (v := 14) C dX10_reckon_51 (by decide) ?_
        refine x_icmp_le (tgt := 63) C dX10_reckon_53 (by decide) (fun c53 => absurd c53 (by decide)) (fun c53 => ?_)
        refine x_iload C dX10_reckon_56 rfl ?_
        refine x_bipush (v := 16) C dX10_reckon_58 (by decide) ?_
        refine x_icmp_ne (tgt := 178) C dX10_reckon_60 (by decide) (fun c60 => ?_) (fun c60 => absurd c60 (by decide))
        refine x_iload C dX10_reckon_178 rfl ?_
        refine x_bipush (v := 17) C dX10_reckon_180 (by decide) ?_
        refine x_icmp_eq (tgt := 192) C dX10_reckon_182 (by decide) (fun c182 => absurd c182 (by decide)) (fun c182 => ?_)
        refine x_iload C dX10_reckon_185 rfl ?_
        refine x_bipush (v := 33) C dX10_reckon_187 (by decide) ?_
        refine x_icmp_ne (tgt := 241) C dX10_reckon_189 (by decide) (fun c189 => ?_) (fun c189 => absurd c189 (by decide))
        refine x_iinc (v := (-1)) C dX10_reckon_241 rfl (by decide) rfl (by decide) ?_
        rw [show nI (v :: u :: s).length + -1 = nI (s.length + 1) from pk_m1 _]
        refine x_aload_n C dX10_reckon_244 rfl rfl ?_
        refine x_getfield C dX10_reckon_245 fX10_3 ((hmF _ rfl) 0 _ rfl) rfl ?_
        refine x_getfield C dX10_reckon_248 fX10_124 ((hoF _ rfl) 0 _ rfl) ho13 ?_
        refine x_iload_n C dX10_reckon_251 rfl rfl ?_
        refine x_iconst (v := 1) C dX10_reckon_252 (by decide) ?_
        refine x_isub C dX10_reckon_253 ?_
        rw [show nI (s.length + 1) - 1 = nI s.length from nI_pred _]
        refine x_iload C dX10_reckon_254 rfl ?_
        refine x_aload_n C dX10_reckon_256 rfl rfl ?_
        refine x_getfield C dX10_reckon_257 fX10_3 ((hmF _ rfl) 0 _ rfl) rfl ?_
        refine x_getfield C dX10_reckon_260 fX10_124 ((hoF _ rfl) 0 _ rfl) ho13 ?_
        refine x_iload_n C dX10_reckon_263 rfl rfl ?_
        refine x_iconst (v := 1) C dX10_reckon_264 (by decide) ?_
        refine x_isub C dX10_reckon_265 ?_
        rw [show nI (s.length + 1) - 1 = nI s.length from nI_pred _]
        refine x_iaload C dX10_reckon_266 (x_ovg 0 rfl) (vp_in_nI (show s.length < 400 by omega) (by decide)) ?_
        rw [nI_clamp (show s.length < 2 ^ 31 by omega)]; rw [show sk s.length = u from hsk.2.1]
        refine x_aload_n C dX10_reckon_267 rfl rfl ?_
        refine x_getfield C dX10_reckon_268 fX10_3 ((hmF _ rfl) 0 _ rfl) rfl ?_
        refine x_getfield C dX10_reckon_271 fX10_124 ((hoF _ rfl) 0 _ rfl) ho13 ?_
        refine x_iload_n C dX10_reckon_274 rfl rfl ?_
        refine x_iaload C dX10_reckon_275 (x_ovg 0 rfl) (vp_in_nI hs4 (by decide)) ?_
        rw [nI_clamp (show s.length + 1 < 2 ^ 31 by omega)]; rw [show sk (s.length + 1) = v from hsk.1]
        refine x_callS3 C dX10_reckon_276 kX10_131 (c_X11_both hO hbin) (by decide) ⟨Nat.zero_le _, Nat.zero_le _⟩ (Nat.le_of_ble_eq_true rfl) ?_
        rintro _ _ ⟨rfl, rfl⟩
        refine x_iastore C dX10_reckon_279 (x_ovg 0 rfl) (vp_in_nI (show s.length < 400 by omega) (by decide)) ?_
        refine x_to (x_st_ov 0 (Nat.le_of_ble_eq_true rfl)) ?_
        rw [nI_clamp (show s.length < 2 ^ 31 by omega)]
        refine x_goto (tgt := 5) C dX10_reckon_280 (by decide) ?_
        refine x_take 5 ?_
        exact ih r9 (pos + 1) _ (h_join 45 u v :: s) ty2 (upd sk s.length (h_join 45 u v)) (by simpa using hr) hc1 (by omega) (nI_1 pos) hty2 hl2 htv2 hev (hstk_push hsk.2.2) (by simp at hle; simp; omega) (fun q hq => hdts q (List.mem_cons_of_mem _ hq))
      · subst hk
        obtain ⟨hc0, hc1⟩ := g_code_c (a := 36) (c := g_tr r9) hc
        have hlen : pos + (g_tr r9).length + 1 = e := by rw [← hlen]; show _ = pos + ((g_tr r9).length + 1); omega
        have hp8 : pos < 800 := by omega
        obtain ⟨v, u, s, rfl⟩ : ∃ v u s, st = v :: u :: s := by
          obtain ⟨c, d, e8, r8, hr8, -⟩ : ∃ c d e8 r8, ty = c :: d :: r8 ∧ ty2 = e8 :: r8 := by
            rcases p_op_cases hop with h | h | h | h
            · exact absurd h.1 (by decide)
            · exact absurd h.1 (by decide)
            · exact absurd h.2.2.1 (by decide)
            · exact h.2.2.2.2
          subst hr8
          obtain ⟨v, s1, rfl, hs1⟩ := st_cons hsl
          obtain ⟨u, s, rfl, hs⟩ := st_cons hs1
          exact ⟨v, u, s, rfl⟩
        have hs4 : s.length + 1 < 400 := by simp at hle; omega
        have hbin : h_bin 42 := by unfold h_bin; omega
        refine x_iload C dX10_reckon_5 rfl ?_
        refine x_iload_n C dX10_reckon_7 rfl rfl ?_
        refine x_icmp_ge (tgt := 283) C dX10_reckon_8 (by decide) (fun c8 => absurd c8 (nI_ge (show pos < e by omega) (by omega))) (fun c8 => ?_)
        refine x_aload_n C dX10_reckon_11 rfl rfl ?_
        refine x_getfield C dX10_reckon_12 fX10_3 ((hmF _ rfl) 0 _ rfl) rfl ?_
        refine x_getfield C dX10_reckon_15 fX10_64 ((hoF _ rfl) 0 _ rfl) ho11 ?_
        refine x_getfield C dX10_reckon_18 fX10_121 ((hqF _ rfl) 0 _ rfl) rfl ?_
        refine x_iload C dX10_reckon_21 rfl ?_
        refine x_iaload C dX10_reckon_23 ((hqF _ rfl) 9 _ rfl) (vp_in_nI hp8 (by decide)) ?_
        rw [nI_clamp (show pos < 2 ^ 31 by omega)]
        rw [hc0]
        refine x_istore C dX10_reckon_24 rfl (by decide) ?_
        refine x_iinc (v := 1) C dX10_reckon_26 rfl (by decide) rfl (by decide) ?_
        refine x_iload C dX10_reckon_29 rfl ?_
        refine x_bipush (v := 32) C dX10_reckon_31 (by decide) ?_
        refine x_icmp_eq (tgt := 63) C dX10_reckon_33 (by decide) (fun c33 => absurd c33 (by decide)) (fun c33 => ?_)
        refine x_iload C dX10_reckon_36 rfl ?_
        refine x_iconst (v := 1) C dX10_reckon_38 (by decide) ?_
        refine x_icmp_eq (tgt := 63) C dX10_reckon_39 (by decide) (fun c39 => absurd c39 (by decide)) (fun c39 => ?_)
        refine x_iload C dX10_reckon_42 rfl ?_
        refine x_bipush (v := 11) C dX10_reckon_44 (by decide) ?_
        refine x_icmp_lt (tgt := 56) C dX10_reckon_46 (by decide) (fun c46 => absurd c46 (by decide)) (fun c46 => ?_)
        refine x_iload C dX10_reckon_49 rfl ?_
        refine x_bipush (v := 14) C dX10_reckon_51 (by decide) ?_
        refine x_icmp_le (tgt := 63) C dX10_reckon_53 (by decide) (fun c53 => absurd c53 (by decide)) (fun c53 => ?_)
        refine x_iload C dX10_reckon_56 rfl ?_
        refine x_bipush (v := 16) C dX10_reckon_58 (by decide) ?_
        refine x_icmp_ne (tgt := 178) C dX10_reckon_60 (by decide) (fun c60 => ?_) (fun c60 => absurd c60 (by decide))
        refine x_iload C dX10_reckon_178 rfl ?_
        refine x_bipush (v := 17) C dX10_reckon_180 (by decide) ?_
        refine x_icmp_eq (tgt := 192) C dX10_reckon_182 (by decide) (fun c182 => absurd c182 (by decide)) (fun c182 => ?_)
        refine x_iload C dX10_reckon_185 rfl ?_
        refine x_bipush (v := 33) C dX10_reckon_187 (by decide) ?_
        refine x_icmp_ne (tgt := 241) C dX10_reckon_189 (by decide) (fun c189 => ?_) (fun c189 => absurd c189 (by decide))
        refine x_iinc (v := (-1)) C dX10_reckon_241 rfl (by decide) rfl (by decide) ?_
        rw [show nI (v :: u :: s).length + -1 = nI (s.length + 1) from pk_m1 _]
        refine x_aload_n C dX10_reckon_244 rfl rfl ?_
        refine x_getfield C dX10_reckon_245 fX10_3 ((hmF _ rfl) 0 _ rfl) rfl ?_
        refine x_getfield C dX10_reckon_248 fX10_124 ((hoF _ rfl) 0 _ rfl) ho13 ?_
        refine x_iload_n C dX10_reckon_251 rfl rfl ?_
        refine x_iconst (v := 1) C dX10_reckon_252 (by decide) ?_
        refine x_isub C dX10_reckon_253 ?_
        rw [show nI (s.length + 1) - 1 = nI s.length from nI_pred _]
        refine x_iload C dX10_reckon_254 rfl ?_
        refine x_aload_n C dX10_reckon_256 rfl rfl ?_
        refine x_getfield C dX10_reckon_257 fX10_3 ((hmF _ rfl) 0 _ rfl) rfl ?_
        refine x_getfield C dX10_reckon_260 fX10_124 ((hoF _ rfl) 0 _ rfl) ho13 ?_
        refine x_iload_n C dX10_reckon_263 rfl rfl ?_
        refine x_iconst (v := 1) C dX10_reckon_264 (by decide) ?_
        refine x_isub C dX10_reckon_265 ?_
        rw [show nI (s.length + 1) - 1 = nI s.length from nI_pred _]
        refine x_iaload C dX10_reckon_266 (x_ovg 0 rfl) (vp_in_nI (show s.length < 400 by omega) (by decide)) ?_
        rw [nI_clamp (show s.length < 2 ^ 31 by omega)]; rw [show sk s.length = u from hsk.2.1]
        refine x_aload_n C dX10_reckon_267 rfl rfl ?_
        refine x_getfield C dX10_reckon_268 fX10_3 ((hmF _ rfl) 0 _ rfl) rfl ?_
        refine x_getfield C dX10_reckon_271 fX10_124 ((hoF _ rfl) 0 _ rfl) ho13 ?_
        refine x_iload_n C dX10_reckon_274 rfl rfl ?_
        refine x_iaload C dX10_reckon_275 (x_ovg 0 rfl) (vp_in_nI hs4 (by decide)) ?_
        rw [nI_clamp (show s.length + 1 < 2 ^ 31 by omega)]; rw [show sk (s.length + 1) = v from hsk.1]
        refine x_callS3 C dX10_reckon_276 kX10_131 (c_X11_both hO hbin) (by decide) ⟨Nat.zero_le _, Nat.zero_le _⟩ (Nat.le_of_ble_eq_true rfl) ?_
        rintro _ _ ⟨rfl, rfl⟩
        refine x_iastore C dX10_reckon_279 (x_ovg 0 rfl) (vp_in_nI (show s.length < 400 by omega) (by decide)) ?_
        refine x_to (x_st_ov 0 (Nat.le_of_ble_eq_true rfl)) ?_
        rw [nI_clamp (show s.length < 2 ^ 31 by omega)]
        refine x_goto (tgt := 5) C dX10_reckon_280 (by decide) ?_
        refine x_take 5 ?_
        exact ih r9 (pos + 1) _ (h_join 42 u v :: s) ty2 (upd sk s.length (h_join 42 u v)) (by simpa using hr) hc1 (by omega) (nI_1 pos) hty2 hl2 htv2 hev (hstk_push hsk.2.2) (by simp at hle; simp; omega) (fun q hq => hdts q (List.mem_cons_of_mem _ hq))
      · subst hk
        obtain ⟨hc0, hc1⟩ := g_code_c (a := 37) (c := g_tr r9) hc
        have hlen : pos + (g_tr r9).length + 1 = e := by rw [← hlen]; show _ = pos + ((g_tr r9).length + 1); omega
        have hp8 : pos < 800 := by omega
        obtain ⟨v, u, s, rfl⟩ : ∃ v u s, st = v :: u :: s := by
          obtain ⟨c, d, e8, r8, hr8, -⟩ : ∃ c d e8 r8, ty = c :: d :: r8 ∧ ty2 = e8 :: r8 := by
            rcases p_op_cases hop with h | h | h | h
            · exact absurd h.1 (by decide)
            · exact absurd h.1 (by decide)
            · exact absurd h.2.2.1 (by decide)
            · exact h.2.2.2.2
          subst hr8
          obtain ⟨v, s1, rfl, hs1⟩ := st_cons hsl
          obtain ⟨u, s, rfl, hs⟩ := st_cons hs1
          exact ⟨v, u, s, rfl⟩
        have hs4 : s.length + 1 < 400 := by simp at hle; omega
        have hbin : h_bin 47 := by unfold h_bin; omega
        refine x_iload C dX10_reckon_5 rfl ?_
        refine x_iload_n C dX10_reckon_7 rfl rfl ?_
        refine x_icmp_ge (tgt := 283) C dX10_reckon_8 (by decide) (fun c8 => absurd c8 (nI_ge (show pos < e by omega) (by omega))) (fun c8 => ?_)
        refine x_aload_n C dX10_reckon_11 rfl rfl ?_
        refine x_getfield C dX10_reckon_12 fX10_3 ((hmF _ rfl) 0 _ rfl) rfl ?_
        refine x_getfield C dX10_reckon_15 fX10_64 ((hoF _ rfl) 0 _ rfl) ho11 ?_
        refine x_getfield C dX10_reckon_18 fX10_121 ((hqF _ rfl) 0 _ rfl) rfl ?_
        refine x_iload C dX10_reckon_21 rfl ?_
        refine x_iaload C dX10_reckon_23 ((hqF _ rfl) 9 _ rfl) (vp_in_nI hp8 (by decide)) ?_
        rw [nI_clamp (show pos < 2 ^ 31 by omega)]
        rw [hc0]
        refine x_istore C dX10_reckon_24 rfl (by decide) ?_
        refine x_iinc (v := 1) C dX10_reckon_26 rfl (by decide) rfl (by decide) ?_
        refine x_iload C dX10_reckon_29 rfl ?_
        refine x_bipush (v := 32) C dX10_reckon_31 (by decide) ?_
        refine x_icmp_eq (tgt := 63) C dX10_reckon_33 (by decide) (fun c33 => absurd c33 (by decide)) (fun c33 => ?_)
        refine x_iload C dX10_reckon_36 rfl ?_
        refine x_iconst (v := 1) C dX10_reckon_38 (by decide) ?_
        refine x_icmp_eq (tgt := 63) C dX10_reckon_39 (by decide) (fun c39 => absurd c39 (by decide)) (fun c39 => ?_)
        refine x_iload C dX10_reckon_42 rfl ?_
        refine x_bipush (v := 11) C dX10_reckon_44 (by decide) ?_
        refine x_icmp_lt (tgt := 56) C dX10_reckon_46 (by decide) (fun c46 => absurd c46 (by decide)) (fun c46 => ?_)
        refine x_iload C dX10_reckon_49 rfl ?_
        refine x_bipush (v := 14) C dX10_reckon_51 (by decide) ?_
        refine x_icmp_le (tgt := 63) C dX10_reckon_53 (by decide) (fun c53 => absurd c53 (by decide)) (fun c53 => ?_)
        refine x_iload C dX10_reckon_56 rfl ?_
        refine x_bipush (v := 16) C dX10_reckon_58 (by decide) ?_
        refine x_icmp_ne (tgt := 178) C dX10_reckon_60 (by decide) (fun c60 => ?_) (fun c60 => absurd c60 (by decide))
        refine x_iload C dX10_reckon_178 rfl ?_
        refine x_bipush (v := 17) C dX10_reckon_180 (by decide) ?_
        refine x_icmp_eq (tgt := 192) C dX10_reckon_182 (by decide) (fun c182 => absurd c182 (by decide)) (fun c182 => ?_)
        refine x_iload C dX10_reckon_185 rfl ?_
        refine x_bipush (v := 33) C dX10_reckon_187 (by decide) ?_
        refine x_icmp_ne (tgt := 241) C dX10_reckon_189 (by decide) (fun c189 => ?_) (fun c189 => absurd c189 (by decide))
        refine x_iinc (v := (-1)) C dX10_reckon_241 rfl (by decide) rfl (by decide) ?_
        rw [show nI (v :: u :: s).length + -1 = nI (s.length + 1) from pk_m1 _]
        refine x_aload_n C dX10_reckon_244 rfl rfl ?_
        refine x_getfield C dX10_reckon_245 fX10_3 ((hmF _ rfl) 0 _ rfl) rfl ?_
        refine x_getfield C dX10_reckon_248 fX10_124 ((hoF _ rfl) 0 _ rfl) ho13 ?_
        refine x_iload_n C dX10_reckon_251 rfl rfl ?_
        refine x_iconst (v := 1) C dX10_reckon_252 (by decide) ?_
        refine x_isub C dX10_reckon_253 ?_
        rw [show nI (s.length + 1) - 1 = nI s.length from nI_pred _]
        refine x_iload C dX10_reckon_254 rfl ?_
        refine x_aload_n C dX10_reckon_256 rfl rfl ?_
        refine x_getfield C dX10_reckon_257 fX10_3 ((hmF _ rfl) 0 _ rfl) rfl ?_
        refine x_getfield C dX10_reckon_260 fX10_124 ((hoF _ rfl) 0 _ rfl) ho13 ?_
        refine x_iload_n C dX10_reckon_263 rfl rfl ?_
        refine x_iconst (v := 1) C dX10_reckon_264 (by decide) ?_
        refine x_isub C dX10_reckon_265 ?_
        rw [show nI (s.length + 1) - 1 = nI s.length from nI_pred _]
        refine x_iaload C dX10_reckon_266 (x_ovg 0 rfl) (vp_in_nI (show s.length < 400 by omega) (by decide)) ?_
        rw [nI_clamp (show s.length < 2 ^ 31 by omega)]; rw [show sk s.length = u from hsk.2.1]
        refine x_aload_n C dX10_reckon_267 rfl rfl ?_
        refine x_getfield C dX10_reckon_268 fX10_3 ((hmF _ rfl) 0 _ rfl) rfl ?_
        refine x_getfield C dX10_reckon_271 fX10_124 ((hoF _ rfl) 0 _ rfl) ho13 ?_
        refine x_iload_n C dX10_reckon_274 rfl rfl ?_
        refine x_iaload C dX10_reckon_275 (x_ovg 0 rfl) (vp_in_nI hs4 (by decide)) ?_
        rw [nI_clamp (show s.length + 1 < 2 ^ 31 by omega)]; rw [show sk (s.length + 1) = v from hsk.1]
        refine x_callS3 C dX10_reckon_276 kX10_131 (c_X11_both hO hbin) (by decide) ⟨Nat.zero_le _, Nat.zero_le _⟩ (Nat.le_of_ble_eq_true rfl) ?_
        rintro _ _ ⟨rfl, rfl⟩
        refine x_iastore C dX10_reckon_279 (x_ovg 0 rfl) (vp_in_nI (show s.length < 400 by omega) (by decide)) ?_
        refine x_to (x_st_ov 0 (Nat.le_of_ble_eq_true rfl)) ?_
        rw [nI_clamp (show s.length < 2 ^ 31 by omega)]
        refine x_goto (tgt := 5) C dX10_reckon_280 (by decide) ?_
        refine x_take 5 ?_
        exact ih r9 (pos + 1) _ (h_join 47 u v :: s) ty2 (upd sk s.length (h_join 47 u v)) (by simpa using hr) hc1 (by omega) (nI_1 pos) hty2 hl2 htv2 hev (hstk_push hsk.2.2) (by simp at hle; simp; omega) (fun q hq => hdts q (List.mem_cons_of_mem _ hq))
      · subst hk
        obtain ⟨hc0, hc1⟩ := g_code_c (a := 20) (c := g_tr r9) hc
        have hlen : pos + (g_tr r9).length + 1 = e := by rw [← hlen]; show _ = pos + ((g_tr r9).length + 1); omega
        have hp8 : pos < 800 := by omega
        obtain ⟨v, u, s, rfl⟩ : ∃ v u s, st = v :: u :: s := by
          obtain ⟨c, d, e8, r8, hr8, -⟩ : ∃ c d e8 r8, ty = c :: d :: r8 ∧ ty2 = e8 :: r8 := by
            rcases p_op_cases hop with h | h | h | h
            · exact absurd h.1 (by decide)
            · exact absurd h.1 (by decide)
            · exact absurd h.2.2.1 (by decide)
            · exact h.2.2.2.2
          subst hr8
          obtain ⟨v, s1, rfl, hs1⟩ := st_cons hsl
          obtain ⟨u, s, rfl, hs⟩ := st_cons hs1
          exact ⟨v, u, s, rfl⟩
        have hs4 : s.length + 1 < 400 := by simp at hle; omega
        have hbin : h_bin 276 := by unfold h_bin; omega
        refine x_iload C dX10_reckon_5 rfl ?_
        refine x_iload_n C dX10_reckon_7 rfl rfl ?_
        refine x_icmp_ge (tgt := 283) C dX10_reckon_8 (by decide) (fun c8 => absurd c8 (nI_ge (show pos < e by omega) (by omega))) (fun c8 => ?_)
        refine x_aload_n C dX10_reckon_11 rfl rfl ?_
        refine x_getfield C dX10_reckon_12 fX10_3 ((hmF _ rfl) 0 _ rfl) rfl ?_
        refine x_getfield C dX10_reckon_15 fX10_64 ((hoF _ rfl) 0 _ rfl) ho11 ?_
        refine x_getfield C dX10_reckon_18 fX10_121 ((hqF _ rfl) 0 _ rfl) rfl ?_
        refine x_iload C dX10_reckon_21 rfl ?_
        refine x_iaload C dX10_reckon_23 ((hqF _ rfl) 9 _ rfl) (vp_in_nI hp8 (by decide)) ?_
        rw [nI_clamp (show pos < 2 ^ 31 by omega)]
        rw [hc0]
        refine x_istore C dX10_reckon_24 rfl (by decide) ?_
        refine x_iinc (v := 1) C dX10_reckon_26 rfl (by decide) rfl (by decide) ?_
        refine x_iload C dX10_reckon_29 rfl ?_
        refine x_bipush (v := 32) C dX10_reckon_31 (by decide) ?_
        refine x_icmp_eq (tgt := 63) C dX10_reckon_33 (by decide) (fun c33 => absurd c33 (by decide)) (fun c33 => ?_)
        refine x_iload C dX10_reckon_36 rfl ?_
        refine x_iconst (v := 1) C dX10_reckon_38 (by decide) ?_
        refine x_icmp_eq (tgt := 63) C dX10_reckon_39 (by decide) (fun c39 => absurd c39 (by decide)) (fun c39 => ?_)
        refine x_iload C dX10_reckon_42 rfl ?_
        refine x_bipush (v := 11) C dX10_reckon_44 (by decide) ?_
        refine x_icmp_lt (tgt := 56) C dX10_reckon_46 (by decide) (fun c46 => absurd c46 (by decide)) (fun c46 => ?_)
        refine x_iload C dX10_reckon_49 rfl ?_
        refine x_bipush (v := 14) C dX10_reckon_51 (by decide) ?_
        refine x_icmp_le (tgt := 63) C dX10_reckon_53 (by decide) (fun c53 => absurd c53 (by decide)) (fun c53 => ?_)
        refine x_iload C dX10_reckon_56 rfl ?_
        refine x_bipush (v := 16) C dX10_reckon_58 (by decide) ?_
        refine x_icmp_ne (tgt := 178) C dX10_reckon_60 (by decide) (fun c60 => ?_) (fun c60 => absurd c60 (by decide))
        refine x_iload C dX10_reckon_178 rfl ?_
        refine x_bipush (v := 17) C dX10_reckon_180 (by decide) ?_
        refine x_icmp_eq (tgt := 192) C dX10_reckon_182 (by decide) (fun c182 => absurd c182 (by decide)) (fun c182 => ?_)
        refine x_iload C dX10_reckon_185 rfl ?_
        refine x_bipush (v := 33) C dX10_reckon_187 (by decide) ?_
        refine x_icmp_ne (tgt := 241) C dX10_reckon_189 (by decide) (fun c189 => ?_) (fun c189 => absurd c189 (by decide))
        refine x_iinc (v := (-1)) C dX10_reckon_241 rfl (by decide) rfl (by decide) ?_
        rw [show nI (v :: u :: s).length + -1 = nI (s.length + 1) from pk_m1 _]
        refine x_aload_n C dX10_reckon_244 rfl rfl ?_
        refine x_getfield C dX10_reckon_245 fX10_3 ((hmF _ rfl) 0 _ rfl) rfl ?_
        refine x_getfield C dX10_reckon_248 fX10_124 ((hoF _ rfl) 0 _ rfl) ho13 ?_
        refine x_iload_n C dX10_reckon_251 rfl rfl ?_
        refine x_iconst (v := 1) C dX10_reckon_252 (by decide) ?_
        refine x_isub C dX10_reckon_253 ?_
        rw [show nI (s.length + 1) - 1 = nI s.length from nI_pred _]
        refine x_iload C dX10_reckon_254 rfl ?_
        refine x_aload_n C dX10_reckon_256 rfl rfl ?_
        refine x_getfield C dX10_reckon_257 fX10_3 ((hmF _ rfl) 0 _ rfl) rfl ?_
        refine x_getfield C dX10_reckon_260 fX10_124 ((hoF _ rfl) 0 _ rfl) ho13 ?_
        refine x_iload_n C dX10_reckon_263 rfl rfl ?_
        refine x_iconst (v := 1) C dX10_reckon_264 (by decide) ?_
        refine x_isub C dX10_reckon_265 ?_
        rw [show nI (s.length + 1) - 1 = nI s.length from nI_pred _]
        refine x_iaload C dX10_reckon_266 (x_ovg 0 rfl) (vp_in_nI (show s.length < 400 by omega) (by decide)) ?_
        rw [nI_clamp (show s.length < 2 ^ 31 by omega)]; rw [show sk s.length = u from hsk.2.1]
        refine x_aload_n C dX10_reckon_267 rfl rfl ?_
        refine x_getfield C dX10_reckon_268 fX10_3 ((hmF _ rfl) 0 _ rfl) rfl ?_
        refine x_getfield C dX10_reckon_271 fX10_124 ((hoF _ rfl) 0 _ rfl) ho13 ?_
        refine x_iload_n C dX10_reckon_274 rfl rfl ?_
        refine x_iaload C dX10_reckon_275 (x_ovg 0 rfl) (vp_in_nI hs4 (by decide)) ?_
        rw [nI_clamp (show s.length + 1 < 2 ^ 31 by omega)]; rw [show sk (s.length + 1) = v from hsk.1]
        refine x_callS3 C dX10_reckon_276 kX10_131 (c_X11_both hO hbin) (by decide) ⟨Nat.zero_le _, Nat.zero_le _⟩ (Nat.le_of_ble_eq_true rfl) ?_
        rintro _ _ ⟨rfl, rfl⟩
        refine x_iastore C dX10_reckon_279 (x_ovg 0 rfl) (vp_in_nI (show s.length < 400 by omega) (by decide)) ?_
        refine x_to (x_st_ov 0 (Nat.le_of_ble_eq_true rfl)) ?_
        rw [nI_clamp (show s.length < 2 ^ 31 by omega)]
        refine x_goto (tgt := 5) C dX10_reckon_280 (by decide) ?_
        refine x_take 5 ?_
        exact ih r9 (pos + 1) _ (h_join 276 u v :: s) ty2 (upd sk s.length (h_join 276 u v)) (by simpa using hr) hc1 (by omega) (nI_1 pos) hty2 hl2 htv2 hev (hstk_push hsk.2.2) (by simp at hle; simp; omega) (fun q hq => hdts q (List.mem_cons_of_mem _ hq))
      · subst hk
        obtain ⟨hc0, hc1⟩ := g_code_c (a := 21) (c := g_tr r9) hc
        have hlen : pos + (g_tr r9).length + 1 = e := by rw [← hlen]; show _ = pos + ((g_tr r9).length + 1); omega
        have hp8 : pos < 800 := by omega
        obtain ⟨v, u, s, rfl⟩ : ∃ v u s, st = v :: u :: s := by
          obtain ⟨c, d, e8, r8, hr8, -⟩ : ∃ c d e8 r8, ty = c :: d :: r8 ∧ ty2 = e8 :: r8 := by
            rcases p_op_cases hop with h | h | h | h
            · exact absurd h.1 (by decide)
            · exact absurd h.1 (by decide)
            · exact absurd h.2.2.1 (by decide)
            · exact h.2.2.2.2
          subst hr8
          obtain ⟨v, s1, rfl, hs1⟩ := st_cons hsl
          obtain ⟨u, s, rfl, hs⟩ := st_cons hs1
          exact ⟨v, u, s, rfl⟩
        have hs4 : s.length + 1 < 400 := by simp at hle; omega
        have hbin : h_bin 277 := by unfold h_bin; omega
        refine x_iload C dX10_reckon_5 rfl ?_
        refine x_iload_n C dX10_reckon_7 rfl rfl ?_
        refine x_icmp_ge (tgt := 283) C dX10_reckon_8 (by decide) (fun c8 => absurd c8 (nI_ge (show pos < e by omega) (by omega))) (fun c8 => ?_)
        refine x_aload_n C dX10_reckon_11 rfl rfl ?_
        refine x_getfield C dX10_reckon_12 fX10_3 ((hmF _ rfl) 0 _ rfl) rfl ?_
        refine x_getfield C dX10_reckon_15 fX10_64 ((hoF _ rfl) 0 _ rfl) ho11 ?_
        refine x_getfield C dX10_reckon_18 fX10_121 ((hqF _ rfl) 0 _ rfl) rfl ?_
        refine x_iload C dX10_reckon_21 rfl ?_
        refine x_iaload C dX10_reckon_23 ((hqF _ rfl) 9 _ rfl) (vp_in_nI hp8 (by decide)) ?_
        rw [nI_clamp (show pos < 2 ^ 31 by omega)]
        rw [hc0]
        refine x_istore C dX10_reckon_24 rfl (by decide) ?_
        refine x_iinc (v := 1) C dX10_reckon_26 rfl (by decide) rfl (by decide) ?_
        refine x_iload C dX10_reckon_29 rfl ?_
        refine x_bipush (v := 32) C dX10_reckon_31 (by decide) ?_
        refine x_icmp_eq (tgt := 63) C dX10_reckon_33 (by decide) (fun c33 => absurd c33 (by decide)) (fun c33 => ?_)
        refine x_iload C dX10_reckon_36 rfl ?_
        refine x_iconst (v := 1) C dX10_reckon_38 (by decide) ?_
        refine x_icmp_eq (tgt := 63) C dX10_reckon_39 (by decide) (fun c39 => absurd c39 (by decide)) (fun c39 => ?_)
        refine x_iload C dX10_reckon_42 rfl ?_
        refine x_bipush (v := 11) C dX10_reckon_44 (by decide) ?_
        refine x_icmp_lt (tgt := 56) C dX10_reckon_46 (by decide) (fun c46 => absurd c46 (by decide)) (fun c46 => ?_)
        refine x_iload C dX10_reckon_49 rfl ?_
        refine x_bipush (v := 14) C dX10_reckon_51 (by decide) ?_
        refine x_icmp_le (tgt := 63) C dX10_reckon_53 (by decide) (fun c53 => absurd c53 (by decide)) (fun c53 => ?_)
        refine x_iload C dX10_reckon_56 rfl ?_
        refine x_bipush (v := 16) C dX10_reckon_58 (by decide) ?_
        refine x_icmp_ne (tgt := 178) C dX10_reckon_60 (by decide) (fun c60 => ?_) (fun c60 => absurd c60 (by decide))
        refine x_iload C dX10_reckon_178 rfl ?_
        refine x_bipush (v := 17) C dX10_reckon_180 (by decide) ?_
        refine x_icmp_eq (tgt := 192) C dX10_reckon_182 (by decide) (fun c182 => absurd c182 (by decide)) (fun c182 => ?_)
        refine x_iload C dX10_reckon_185 rfl ?_
        refine x_bipush (v := 33) C dX10_reckon_187 (by decide) ?_
        refine x_icmp_ne (tgt := 241) C dX10_reckon_189 (by decide) (fun c189 => ?_) (fun c189 => absurd c189 (by decide))
        refine x_iinc (v := (-1)) C dX10_reckon_241 rfl (by decide) rfl (by decide) ?_
        rw [show nI (v :: u :: s).length + -1 = nI (s.length + 1) from pk_m1 _]
        refine x_aload_n C dX10_reckon_244 rfl rfl ?_
        refine x_getfield C dX10_reckon_245 fX10_3 ((hmF _ rfl) 0 _ rfl) rfl ?_
        refine x_getfield C dX10_reckon_248 fX10_124 ((hoF _ rfl) 0 _ rfl) ho13 ?_
        refine x_iload_n C dX10_reckon_251 rfl rfl ?_
        refine x_iconst (v := 1) C dX10_reckon_252 (by decide) ?_
        refine x_isub C dX10_reckon_253 ?_
        rw [show nI (s.length + 1) - 1 = nI s.length from nI_pred _]
        refine x_iload C dX10_reckon_254 rfl ?_
        refine x_aload_n C dX10_reckon_256 rfl rfl ?_
        refine x_getfield C dX10_reckon_257 fX10_3 ((hmF _ rfl) 0 _ rfl) rfl ?_
        refine x_getfield C dX10_reckon_260 fX10_124 ((hoF _ rfl) 0 _ rfl) ho13 ?_
        refine x_iload_n C dX10_reckon_263 rfl rfl ?_
        refine x_iconst (v := 1) C dX10_reckon_264 (by decide) ?_
        refine x_isub C dX10_reckon_265 ?_
        rw [show nI (s.length + 1) - 1 = nI s.length from nI_pred _]
        refine x_iaload C dX10_reckon_266 (x_ovg 0 rfl) (vp_in_nI (show s.length < 400 by omega) (by decide)) ?_
        rw [nI_clamp (show s.length < 2 ^ 31 by omega)]; rw [show sk s.length = u from hsk.2.1]
        refine x_aload_n C dX10_reckon_267 rfl rfl ?_
        refine x_getfield C dX10_reckon_268 fX10_3 ((hmF _ rfl) 0 _ rfl) rfl ?_
        refine x_getfield C dX10_reckon_271 fX10_124 ((hoF _ rfl) 0 _ rfl) ho13 ?_
        refine x_iload_n C dX10_reckon_274 rfl rfl ?_
        refine x_iaload C dX10_reckon_275 (x_ovg 0 rfl) (vp_in_nI hs4 (by decide)) ?_
        rw [nI_clamp (show s.length + 1 < 2 ^ 31 by omega)]; rw [show sk (s.length + 1) = v from hsk.1]
        refine x_callS3 C dX10_reckon_276 kX10_131 (c_X11_both hO hbin) (by decide) ⟨Nat.zero_le _, Nat.zero_le _⟩ (Nat.le_of_ble_eq_true rfl) ?_
        rintro _ _ ⟨rfl, rfl⟩
        refine x_iastore C dX10_reckon_279 (x_ovg 0 rfl) (vp_in_nI (show s.length < 400 by omega) (by decide)) ?_
        refine x_to (x_st_ov 0 (Nat.le_of_ble_eq_true rfl)) ?_
        rw [nI_clamp (show s.length < 2 ^ 31 by omega)]
        refine x_goto (tgt := 5) C dX10_reckon_280 (by decide) ?_
        refine x_take 5 ?_
        exact ih r9 (pos + 1) _ (h_join 277 u v :: s) ty2 (upd sk s.length (h_join 277 u v)) (by simpa using hr) hc1 (by omega) (nI_1 pos) hty2 hl2 htv2 hev (hstk_push hsk.2.2) (by simp at hle; simp; omega) (fun q hq => hdts q (List.mem_cons_of_mem _ hq))
  refine x_iconst (v := 0) C dX10_reckon_0 (by decide) ?_
  refine x_istore_n C dX10_reckon_1 rfl rfl (by decide) ?_
  refine x_iload_n C dX10_reckon_2 rfl rfl ?_
  refine x_istore C dX10_reckon_3 rfl (by decide) ?_
  refine x_take 5 ?_
  exact lp tt.length tt b _ [] [] sk rfl hcd hee rfl hty0 rfl trivial rfl trivial (by simpa using hlen0) hdts0
