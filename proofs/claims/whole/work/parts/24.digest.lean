theorem lX7_45 : Cond.constantLong RX7 45 (37 : Int64) ∈ lw_tbl := (x_t1 _ (List.mem_of_getElem? (i := 216) (by decide +kernel)))
theorem lX7_109 : Cond.constantLong RX7 109 (10 : Int64) ∈ lw_tbl := (x_t2 _ (List.mem_of_getElem? (i := 200) (by decide +kernel)))
theorem lX7_111 : Cond.constantLong RX7 111 (48 : Int64) ∈ lw_tbl := (x_t2 _ (List.mem_of_getElem? (i := 201) (by decide +kernel)))
theorem lX8_208 : Cond.constantLong RX8 208 (1087 : Int64) ∈ lw_tbl := (x_t4 _ (List.mem_of_getElem? (i := 92) (by decide +kernel)))
theorem lX8_271 : Cond.constantLong RX8 271 (31 : Int64) ∈ lw_tbl := (x_t4 _ (List.mem_of_getElem? (i := 96) (by decide +kernel)))
theorem lX11_374 : Cond.constantLong RX11 374 (1087 : Int64) ∈ lw_tbl := (x_t8 _ (List.mem_of_getElem? (i := 124) (by decide +kernel)))
theorem lX11_376 : Cond.constantLong RX11 376 (31 : Int64) ∈ lw_tbl := (x_t8 _ (List.mem_of_getElem? (i := 125) (by decide +kernel)))
section
variable {K : x_K} {l : Launch} {Y0 : x_Y} {y : MethodName} {cc : ByteArray} {nL d mc ms cells slots pc : Nat} {lv : List (Nat × Value)} {st : List Value} {M : x_M}
theorem x_ldc2 (C : x_Ctx K l Y0 y cc nL d mc ms) {idx : Nat} {v : Int64} (dd : decode cc pc = .ok (.ldc2_w idx, 3)) (hL : Cond.constantLong y.cls idx v ∈ lw_tbl) (k : x_X K nL cells slots (pc + 3) lv (.long v :: st) M) : x_X K nL cells slots pc lv st M := by
  obtain ⟨p, l1, e, R, s, m, args, below, meth, c, Y, Q⟩ := K
  have hw0 := fun {w : Cond} (h : w ∈ lw_tbl) (hg : x_gd w) => x_word C h hg
  obtain ⟨hx, hb, hml, hown, hlk, hnm, hW, hok, hB, hfz, rfl, rfl, rfl⟩ := C
  intro H locs ls hw hs hl
  exact lv_ldc2 hx hb hown (hw0 hL (Or.inl rfl)) dd (k H locs ls hw hs hl)
theorem x_dconst0 (C : x_Ctx K l Y0 y cc nL d mc ms) (dd : decode cc pc = .ok (.dconst 0, 1)) (k : x_X K nL cells slots (pc + 1) lv (.double FP.dconst0 :: st) M) : x_X K nL cells slots pc lv st M := by
  obtain ⟨p, l1, e, R, s, m, args, below, meth, c, Y, Q⟩ := K
  have hw0 := fun {w : Cond} (h : w ∈ lw_tbl) (hg : x_gd w) => x_word C h hg
  obtain ⟨hx, hb, hml, hown, hlk, hnm, hW, hok, hB, hfz, rfl, rfl, rfl⟩ := C
  intro H locs ls hw hs hl
  exact lv_dconst0 hx hb dd (k H locs ls hw hs hl)
theorem x_i2d (C : x_Ctx K l Y0 y cc nL d mc ms) {x : Int32} (dd : decode cc pc = .ok (.i2d, 1)) (k : x_X K nL cells slots (pc + 1) lv (.double (FP.i2d x) :: st) M) : x_X K nL cells slots pc lv (.int x :: st) M := by
  obtain ⟨p, l1, e, R, s, m, args, below, meth, c, Y, Q⟩ := K
  have hw0 := fun {w : Cond} (h : w ∈ lw_tbl) (hg : x_gd w) => x_word C h hg
  obtain ⟨hx, hb, hml, hown, hlk, hnm, hW, hok, hB, hfz, rfl, rfl, rfl⟩ := C
  intro H locs ls hw hs hl
  exact lv_i2d hx hb dd (k H locs ls hw hs hl)
theorem x_ddiv (C : x_Ctx K l Y0 y cc nL d mc ms) {x z : UInt64} (dd : decode cc pc = .ok (.ddiv, 1)) (hn : vf_n64 (FP.ddiv x z)) (k : x_X K nL cells slots (pc + 1) lv (.double (FP.ddiv x z) :: st) M) : x_X K nL cells slots pc lv (.double z :: .double x :: st) M := by
  obtain ⟨p, l1, e, R, s, m, args, below, meth, c, Y, Q⟩ := K
  have hw0 := fun {w : Cond} (h : w ∈ lw_tbl) (hg : x_gd w) => x_word C h hg
  obtain ⟨hx, hb, hml, hown, hlk, hnm, hW, hok, hB, hfz, rfl, rfl, rfl⟩ := C
  intro H locs ls hw hs hl
  exact lv_ddiv hx hb dd hn (k H locs ls hw hs hl)
end
def h_mx (d : Int64) (x : Int32) : Int64 := d * 31 + x.toInt64
def h_dig0 (P : PL) (A : HS) : Int64 := h_mx (h_mx (h_mx (h_mx (h_mx (h_mx (h_mx (h_mx 1087 (nI (p_nd P))) (nI (p_nk P))) (A 8 0)) (A 8 1)) (h_blocked P A)) (h_honey P A)) (1 - A 1 8)) (h_best P A)
def h_dig1 (P : PL) (A : HS) (d : Int64) (i : Nat) : Int64 := h_mx (h_mx (h_mx (h_mx (h_mx d (A 0 i)) (h_upI A i)) (A 2 i)) (A 3 i)) (h_fr P i 40 0 A)
def h_digp (A : HS) (k : Nat) (d : Int64) (j : Nat) : Int64 := h_mx (h_mx d (A 6 (6 * k + j))) (A 7 (6 * k + j))
def h_dig2 (P : PL) (A : HS) (d : Int64) (k : Nat) : Int64 := h_it (h_digp A k) (p_np P k) (h_mx (h_mx (h_mx (h_mx d (A 4 k)) (h_waits A k)) (h_votes P A k 1)) (h_b (h_agrAll P A k)))
def h_digest (P : PL) (A : HS) : Int64 := h_it (h_dig2 P A) (p_nk P) (h_it (h_dig1 P A) (p_nd P) (h_dig0 P A))
theorem h_bit {x : Int32} (h : x = 0 ∨ x = 1) : (if x = 0 then (0 : Int32) else 1) = x := by
  rcases h with h | h <;> rw [h] <;> rfl
theorem h_bitU {A : HS} {d : Nat} : h_upI A d = 0 ∨ h_upI A d = 1 := by
  unfold h_upI
  split
  · exact Or.inr rfl
  · exact Or.inl rfl
theorem h_bitB {q : Bool} : h_b q = 0 ∨ h_b q = 1 := by
  cases q
  · exact Or.inl rfl
  · exact Or.inr rfl
theorem h_bitQ {P : PL} {A : HS} (h : h_ok P A) : 1 - A 1 8 = 0 ∨ 1 - A 1 8 = 1 := by
  rcases h.1 8 with q | q <;> rw [q]
  · exact Or.inr (by decide)
  · exact Or.inl (by decide)
set_option maxHeartbeats 4000000 in
set_option maxRecDepth 100000 in
theorem c_X8_mixed {l : Launch} {Y0 : x_Y} (hO : x_Ok Y0) {M : x_M} {d0 : Int64} {x : Int32} : x_C l Y0 yX8_mixed cX8_mixed 3 (some .long) 1 0 0 [.long d0, .int x] M (fun u M1 => u = some (.long (h_mx d0 x)) ∧ M1 = M) := by
  refine x_start hO (by decide +kernel) (Nat.le_of_ble_eq_true rfl) (fun K C E => ?_)
  refine x_lload_n C dX8_mixed_0 rfl rfl ?_
  refine x_ldc2 C dX8_mixed_1 lX8_271 ?_
  refine x_lmul C dX8_mixed_4 ?_
  refine x_iload_n C dX8_mixed_5 rfl rfl ?_
  refine x_i2l C dX8_mixed_6 ?_
  refine x_ladd C dX8_mixed_7 ?_
  refine x_lret C E dX8_mixed_8 ?_
  exact ⟨rfl, rfl⟩
set_option maxHeartbeats 4000000 in
set_option maxRecDepth 100000 in
theorem c_X8_digest {l : Launch} {Y0 : x_Y} (hO : x_Ok Y0) {M : x_M} {a p : Nat} {P : PL} {A : HS} {hx sk : Nat → Int32} {ht : Int32} {Q : HS} (hP : p_ok P) (hQ : q_is Q P) (hb : x_bk M a (hvT a p P A hx sk ht)) (hp : x_bk M p (plT p Q)) {c : Nat} {fs : List Value} (hc : x_bk M c [.inr (8, fs)]) (hc2 : fs[2]? = some (.ref p)) (hc4 : fs[4]? = some (.ref a)) (hk9 : h_ok P A) {t : Nat} {T : HS} {hy sl : Nat → Int32} {hu : Int32} (hc5 : fs[5]? = some (.ref t)) (ht0 : x_bk M t (hvT t p P T hy sl hu)) (hdt : p + 21 ≤ t ∨ t + 20 ≤ p) (hdct : c + 1 ≤ t ∨ t + 20 ≤ c) (hat : a + 20 ≤ t ∨ t + 20 ≤ a) : x_C l Y0 yX8_digest cX8_digest 5 (some .long) 9 0 0 [.ref c] M (fun u M1 => u = some (.long (h_digest P A)) ∧ ∃ (B : HS) (hy1 sk1 : Nat → Int32) (ht1 : Int32), M1 = x_ov M t (hvT t p P B hy1 sk1 ht1)) := by
  refine x_start hO (by decide +kernel) (Nat.le_of_ble_eq_true rfl) (fun K C E => ?_)
  have hP0 := hP
  have hQ0 := hQ
  obtain ⟨h8, h6, h16, hnp, hwho, hvb, hts⟩ := hP
  obtain ⟨hq0, hq1, hq2, hq3, hq4, hq5, hq6⟩ := hQ
  have hpF : ∀ L : List x_E, L.length = 20 → x_bk (x_ov M t L) p (plT p Q) := fun L h => x_ov_far 20 hp h hdt
  have hcF : ∀ L : List x_E, L.length = 20 → x_bk (x_ov M t L) c [.inr (8, fs)] := fun L h => x_ov_far 20 hc h hdct
  have haF : ∀ L : List x_E, L.length = 20 → x_bk (x_ov M t L) a (hvT a p P A hx sk ht) := fun L h => x_ov_far 20 hb h hat
  refine x_to (x_ov_self ht0).symm ?_
  have lpi : ∀ (k : Nat) (hk : k < p_nk P) (d0 : Int64) (T : HS) (hy sl : Nat → Int32) (hu : Int32), x_X K 5 0 0 259 [(1, .long (h_it (h_digp A k) (p_np P k) d0)), (0, .ref c), (3, .int (nI k))] [] (x_ov M t (hvT t p P T hy sl hu)) → ∀ (w j : Nat) (x : Int32) (d : Int64), j + w = p_np P k → x = nI j → d = h_it (h_digp A k) j d0 → x_X K 5 0 0 210 [(1, .long d), (0, .ref c), (3, .int (nI k)), (4, .int x)] [] (x_ov M t (hvT t p P T hy sl hu)) := by
    intro k hk d0 T hy sl hu kk w
    have hk1 := hnp k hk
    induction w with
    | zero =>
      intro j x d hj hx9 hz
      subst hx9
      have e : j = p_np P k := by omega
      refine x_iload C dX8_digest_210 rfl ?_
      refine x_aload_n C dX8_digest_212 rfl rfl ?_
      refine x_getfield C dX8_digest_213 fX8_23 ((hcF _ rfl) 0 _ rfl) hc2 ?_
      refine x_getfield C dX8_digest_216 fX8_136 ((hpF _ rfl) 0 _ rfl) rfl ?_
      refine x_iload_n C dX8_digest_219 rfl rfl ?_
      refine x_callV1 C dX8_digest_220 kX8_114 (c_X4_get hO (by decide) (x_bk_sub (hpF _ rfl) 3 rfl)) ((hpF _ rfl) 3 _ rfl) rfl (by decide) ⟨Nat.zero_le _, Nat.zero_le _⟩ (Nat.le_of_ble_eq_true rfl) ?_
      rintro _ _ ⟨rfl, rfl⟩
      rw [rg_nI (show k < 6 by omega) (by decide), hq3 k (by omega)]
      refine x_icmp_ge (tgt := 259) C dX8_digest_223 (by decide) (fun c223 => ?_) (fun c223 => absurd (nI_le (by omega) (by omega)) c223)
      refine x_take 3 ?_
      rw [e] at hz
      rw [hz]
      exact kk
    | succ w ih =>
      intro j x d hj hx9 hz
      subst hx9
      refine x_iload C dX8_digest_210 rfl ?_
      refine x_aload_n C dX8_digest_212 rfl rfl ?_
      refine x_getfield C dX8_digest_213 fX8_23 ((hcF _ rfl) 0 _ rfl) hc2 ?_
      refine x_getfield C dX8_digest_216 fX8_136 ((hpF _ rfl) 0 _ rfl) rfl ?_
      refine x_iload_n C dX8_digest_219 rfl rfl ?_
      refine x_callV1 C dX8_digest_220 kX8_114 (c_X4_get hO (by decide) (x_bk_sub (hpF _ rfl) 3 rfl)) ((hpF _ rfl) 3 _ rfl) rfl (by decide) ⟨Nat.zero_le _, Nat.zero_le _⟩ (Nat.le_of_ble_eq_true rfl) ?_
      rintro _ _ ⟨rfl, rfl⟩
      rw [rg_nI (show k < 6 by omega) (by decide), hq3 k (by omega)]
      refine x_icmp_ge (tgt := 259) C dX8_digest_223 (by decide) (fun c223 => absurd c223 (nI_ge (by omega) (by omega))) (fun c223 => ?_)
      refine x_lload_n C dX8_digest_226 rfl rfl ?_
      refine x_aload_n C dX8_digest_227 rfl rfl ?_
      refine x_iload_n C dX8_digest_228 rfl rfl ?_
      refine x_iload C dX8_digest_229 rfl ?_
      refine x_callV2 C dX8_digest_231 kX8_264 (c_X8_voteIn hO hP0 hQ0 (haF _ rfl) (hpF _ rfl) (hcF _ rfl) hc2 hc4 hk9 hk (show j < p_np P k by omega)) ((hcF _ rfl) 0 _ rfl) rfl (by decide) ⟨Nat.zero_le _, Nat.zero_le _⟩ (Nat.le_of_ble_eq_true rfl) ?_
      rintro _ _ ⟨rfl, rfl⟩
      refine x_callS2 C dX8_digest_234 kX8_210 (c_X8_mixed hO) (by decide) ⟨Nat.zero_le _, Nat.zero_le _⟩ (Nat.le_of_ble_eq_true rfl) ?_
      rintro _ _ ⟨rfl, rfl⟩
      refine x_lstore_n C dX8_digest_237 rfl (by decide) ?_
      refine x_lload_n C dX8_digest_238 rfl rfl ?_
      refine x_aload_n C dX8_digest_239 rfl rfl ?_
      refine x_iload_n C dX8_digest_240 rfl rfl ?_
      refine x_iload C dX8_digest_241 rfl ?_
      refine x_callV2 C dX8_digest_243 kX8_267 (c_X8_hasHeard hO hP0 hQ0 (haF _ rfl) (hpF _ rfl) (hcF _ rfl) hc2 hc4 hk9 hk (show j < p_np P k by omega)) ((hcF _ rfl) 0 _ rfl) rfl (by decide) ⟨Nat.zero_le _, Nat.zero_le _⟩ (Nat.le_of_ble_eq_true rfl) ?_
      rintro _ _ ⟨rfl, rfl⟩
      refine x_callS1 C dX8_digest_246 kX8_230 (c_X8_bit hO) (by decide) ⟨Nat.zero_le _, Nat.zero_le _⟩ (Nat.le_of_ble_eq_true rfl) ?_
      rintro _ _ ⟨rfl, rfl⟩
      rw [h_bit (hk9.2.1 _)]
      refine x_callS2 C dX8_digest_249 kX8_210 (c_X8_mixed hO) (by decide) ⟨Nat.zero_le _, Nat.zero_le _⟩ (Nat.le_of_ble_eq_true rfl) ?_
      rintro _ _ ⟨rfl, rfl⟩
      refine x_lstore_n C dX8_digest_252 rfl (by decide) ?_
      refine x_iinc (v := 1) C dX8_digest_253 rfl (by decide) rfl (by decide) ?_
      refine x_goto (tgt := 210) C dX8_digest_256 (by decide) ?_
      exact ih (j + 1) _ (h_digp A k d j) (by omega) (nI_1 j) (by rw [hz]; rfl)
  have lp2 : ∀ (w i : Nat) (x : Int32) (d : Int64) (T : HS) (hy sl : Nat → Int32) (hu : Int32), i + w = p_nk P → x = nI i → d = h_it (h_dig2 P A) i (h_it (h_dig1 P A) (p_nd P) (h_dig0 P A)) → x_X K 5 0 0 153 [(1, .long d), (0, .ref c), (3, .int x)] [] (x_ov M t (hvT t p P T hy sl hu)) := by
    intro w
    induction w with
    | zero =>
      intro i x d T hy sl hu hi hx9 hz
      subst hx9
      have e : i = p_nk P := by omega
      refine x_iload_n C dX8_digest_153 rfl rfl ?_
      refine x_aload_n C dX8_digest_154 rfl rfl ?_
      refine x_getfield C dX8_digest_155 fX8_23 ((hcF _ rfl) 0 _ rfl) hc2 ?_
      refine x_getfield C dX8_digest_158 fX8_85 ((hpF _ rfl) 0 _ rfl) rfl ?_
      refine x_icmp_ge (tgt := 265) C dX8_digest_161 (by decide) (fun c161 => ?_) (fun c161 => absurd (by rw [hq1]; exact nI_le (by omega) (by omega)) c161)
      refine x_lload_n C dX8_digest_265 rfl rfl ?_
      refine x_lret C E dX8_digest_266 ?_
      exact ⟨by rw [hz, e]; rfl, T, hy, sl, hu, rfl⟩
    | succ w ih =>
      intro i x d T hy sl hu hi hx9 hz
      subst hx9
      refine x_iload_n C dX8_digest_153 rfl rfl ?_
      refine x_aload_n C dX8_digest_154 rfl rfl ?_
      refine x_getfield C dX8_digest_155 fX8_23 ((hcF _ rfl) 0 _ rfl) hc2 ?_
      refine x_getfield C dX8_digest_158 fX8_85 ((hpF _ rfl) 0 _ rfl) rfl ?_
      refine x_icmp_ge (tgt := 265) C dX8_digest_161 (by decide) (fun c161 => absurd c161 (by rw [hq1]; exact nI_ge (by omega) (by omega))) (fun c161 => ?_)
      refine x_lload_n C dX8_digest_164 rfl rfl ?_
      refine x_aload_n C dX8_digest_165 rfl rfl ?_
      refine x_iload_n C dX8_digest_166 rfl rfl ?_
      refine x_callV1 C dX8_digest_167 kX8_252 (c_X8_stateOf hO hP0 hQ0 (haF _ rfl) (hpF _ rfl) (hcF _ rfl) hc2 hc4 hk9 (show i < p_nk P by omega)) ((hcF _ rfl) 0 _ rfl) rfl (by decide) ⟨Nat.zero_le _, Nat.zero_le _⟩ (Nat.le_of_ble_eq_true rfl) ?_
      rintro _ _ ⟨rfl, rfl⟩
      refine x_callS2 C dX8_digest_170 kX8_210 (c_X8_mixed hO) (by decide) ⟨Nat.zero_le _, Nat.zero_le _⟩ (Nat.le_of_ble_eq_true rfl) ?_
      rintro _ _ ⟨rfl, rfl⟩
      refine x_lstore_n C dX8_digest_173 rfl (by decide) ?_
      refine x_lload_n C dX8_digest_174 rfl rfl ?_
      refine x_aload_n C dX8_digest_175 rfl rfl ?_
      refine x_iload_n C dX8_digest_176 rfl rfl ?_
      refine x_callV1 C dX8_digest_177 kX8_255 (c_X8_waitsOf hO hP0 hQ0 (haF _ rfl) (hpF _ rfl) (hcF _ rfl) hc2 hc4 hk9 (show i < p_nk P by omega)) ((hcF _ rfl) 0 _ rfl) rfl (by decide) ⟨Nat.zero_le _, Nat.zero_le _⟩ (Nat.le_of_ble_eq_true rfl) ?_
      rintro _ _ ⟨rfl, rfl⟩
      refine x_callS2 C dX8_digest_180 kX8_210 (c_X8_mixed hO) (by decide) ⟨Nat.zero_le _, Nat.zero_le _⟩ (Nat.le_of_ble_eq_true rfl) ?_
      rintro _ _ ⟨rfl, rfl⟩
      refine x_lstore_n C dX8_digest_183 rfl (by decide) ?_
      refine x_lload_n C dX8_digest_184 rfl rfl ?_
      refine x_aload_n C dX8_digest_185 rfl rfl ?_
      refine x_iload_n C dX8_digest_186 rfl rfl ?_
      refine x_callV1 C dX8_digest_187 kX8_258 (c_X8_votesFor hO hP0 hQ0 (haF _ rfl) (hpF _ rfl) (hcF _ rfl) hc2 hc4 hk9 (show i < p_nk P by omega)) ((hcF _ rfl) 0 _ rfl) rfl (by decide) ⟨Nat.zero_le _, Nat.zero_le _⟩ (Nat.le_of_ble_eq_true rfl) ?_
      rintro _ _ ⟨rfl, rfl⟩
      refine x_callS2 C dX8_digest_190 kX8_210 (c_X8_mixed hO) (by decide) ⟨Nat.zero_le _, Nat.zero_le _⟩ (Nat.le_of_ble_eq_true rfl) ?_
      rintro _ _ ⟨rfl, rfl⟩
      refine x_lstore_n C dX8_digest_193 rfl (by decide) ?_
      refine x_lload_n C dX8_digest_194 rfl rfl ?_
      refine x_aload_n C dX8_digest_195 rfl rfl ?_
      refine x_iload_n C dX8_digest_196 rfl rfl ?_
      refine x_callV1 C dX8_digest_197 kX8_261 (c_X8_wouldAgree hO hP0 hQ0 (haF _ rfl) (hpF _ rfl) (hcF _ rfl) hc2 hc4 hk9 (show i < p_nk P by omega)) ((hcF _ rfl) 0 _ rfl) rfl (by decide) ⟨Nat.zero_le _, Nat.zero_le _⟩ (Nat.le_of_ble_eq_true rfl) ?_
      rintro _ _ ⟨rfl, rfl⟩
      refine x_callS1 C dX8_digest_200 kX8_230 (c_X8_bit hO) (by decide) ⟨Nat.zero_le _, Nat.zero_le _⟩ (Nat.le_of_ble_eq_true rfl) ?_
      rintro _ _ ⟨rfl, rfl⟩
      rw [h_bit h_bitB]
      refine x_callS2 C dX8_digest_203 kX8_210 (c_X8_mixed hO) (by decide) ⟨Nat.zero_le _, Nat.zero_le _⟩ (Nat.le_of_ble_eq_true rfl) ?_
      rintro _ _ ⟨rfl, rfl⟩
      refine x_lstore_n C dX8_digest_206 rfl (by decide) ?_
      refine x_iconst (v := 0) C dX8_digest_207 (by decide) ?_
      refine x_istore C dX8_digest_208 rfl (by decide) ?_
      refine x_take 4 ?_
      refine lpi i (by omega) _ _ _ _ _ ?_ (p_np P i) 0 0 (h_mx (h_mx (h_mx (h_mx d (A 4 i)) (h_waits A i)) (h_votes P A i 1)) (h_b (h_agrAll P A i))) (by omega) rfl rfl
      refine x_iinc (v := 1) C dX8_digest_259 rfl (by decide) rfl (by decide) ?_
      refine x_goto (tgt := 153) C dX8_digest_262 (by decide) ?_
      exact ih (i + 1) _ (h_dig2 P A d i) _ _ _ _ (by omega) (nI_1 i) (by rw [hz]; rfl)
  have lp1 : ∀ (w i : Nat) (x : Int32) (d : Int64) (T : HS) (hy sl : Nat → Int32) (hu : Int32), i + w = p_nd P → x = nI i → d = h_it (h_dig1 P A) i (h_dig0 P A) → x_X K 5 0 0 81 [(1, .long d), (0, .ref c), (3, .int x)] [] (x_ov M t (hvT t p P T hy sl hu)) := by
    intro w
    induction w with
    | zero =>
      intro i x d T hy sl hu hi hx9 hz
      subst hx9
      have e : i = p_nd P := by omega
      refine x_iload_n C dX8_digest_81 rfl rfl ?_
      refine x_aload_n C dX8_digest_82 rfl rfl ?_
      refine x_getfield C dX8_digest_83 fX8_23 ((hcF _ rfl) 0 _ rfl) hc2 ?_
      refine x_getfield C dX8_digest_86 fX8_82 ((hpF _ rfl) 0 _ rfl) rfl ?_
      refine x_icmp_ge (tgt := 151) C dX8_digest_89 (by decide) (fun c89 => ?_) (fun c89 => absurd (by rw [hq0]; exact nI_le (by omega) (by omega)) c89)
      refine x_iconst (v := 0) C dX8_digest_151 (by decide) ?_
      refine x_istore_n C dX8_digest_152 rfl rfl (by decide) ?_
      exact lp2 (p_nk P) 0 0 d _ _ _ _ (by omega) rfl (by rw [hz, e]; rfl)
    | succ w ih =>
      intro i x d T hy sl hu hi hx9 hz
      subst hx9
      refine x_iload_n C dX8_digest_81 rfl rfl ?_
      refine x_aload_n C dX8_digest_82 rfl rfl ?_
      refine x_getfield C dX8_digest_83 fX8_23 ((hcF _ rfl) 0 _ rfl) hc2 ?_
      refine x_getfield C dX8_digest_86 fX8_82 ((hpF _ rfl) 0 _ rfl) rfl ?_
      refine x_icmp_ge (tgt := 151) C dX8_digest_89 (by decide) (fun c89 => absurd c89 (by rw [hq0]; exact nI_ge (by omega) (by omega))) (fun c89 => ?_)
      refine x_lload_n C dX8_digest_92 rfl rfl ?_
      refine x_aload_n C dX8_digest_93 rfl rfl ?_
      refine x_iload_n C dX8_digest_94 rfl rfl ?_
      refine x_callV1 C dX8_digest_95 kX8_237 (c_X8_honeyOf hO hP0 hQ0 (haF _ rfl) (hpF _ rfl) (hcF _ rfl) hc2 hc4 hk9 (show i < p_nd P by omega)) ((hcF _ rfl) 0 _ rfl) rfl (by decide) ⟨Nat.zero_le _, Nat.zero_le _⟩ (Nat.le_of_ble_eq_true rfl) ?_
      rintro _ _ ⟨rfl, rfl⟩
      refine x_callS2 C dX8_digest_98 kX8_210 (c_X8_mixed hO) (by decide) ⟨Nat.zero_le _, Nat.zero_le _⟩ (Nat.le_of_ble_eq_true rfl) ?_
      rintro _ _ ⟨rfl, rfl⟩
      refine x_lstore_n C dX8_digest_101 rfl (by decide) ?_
      refine x_lload_n C dX8_digest_102 rfl rfl ?_
      refine x_aload_n C dX8_digest_103 rfl rfl ?_
      refine x_iload_n C dX8_digest_104 rfl rfl ?_
      refine x_callV1 C dX8_digest_105 kX8_240 (c_X8_isAwake hO hP0 hQ0 (haF _ rfl) (hpF _ rfl) (hcF _ rfl) hc2 hc4 hk9 (show i < p_nd P by omega)) ((hcF _ rfl) 0 _ rfl) rfl (by decide) ⟨Nat.zero_le _, Nat.zero_le _⟩ (Nat.le_of_ble_eq_true rfl) ?_
      rintro _ _ ⟨rfl, rfl⟩
      refine x_callS1 C dX8_digest_108 kX8_230 (c_X8_bit hO) (by decide) ⟨Nat.zero_le _, Nat.zero_le _⟩ (Nat.le_of_ble_eq_true rfl) ?_
      rintro _ _ ⟨rfl, rfl⟩
      rw [h_bit h_bitU]
      refine x_callS2 C dX8_digest_111 kX8_210 (c_X8_mixed hO) (by decide) ⟨Nat.zero_le _, Nat.zero_le _⟩ (Nat.le_of_ble_eq_true rfl) ?_
      rintro _ _ ⟨rfl, rfl⟩
      refine x_lstore_n C dX8_digest_114 rfl (by decide) ?_
      refine x_lload_n C dX8_digest_115 rfl rfl ?_
      refine x_aload_n C dX8_digest_116 rfl rfl ?_
      refine x_iload_n C dX8_digest_117 rfl rfl ?_
      refine x_callV1 C dX8_digest_118 kX8_243 (c_X8_blockedBy hO hP0 hQ0 (haF _ rfl) (hpF _ rfl) (hcF _ rfl) hc2 hc4 hk9 (show i < p_nd P by omega)) ((hcF _ rfl) 0 _ rfl) rfl (by decide) ⟨Nat.zero_le _, Nat.zero_le _⟩ (Nat.le_of_ble_eq_true rfl) ?_
      rintro _ _ ⟨rfl, rfl⟩
      refine x_callS2 C dX8_digest_121 kX8_210 (c_X8_mixed hO) (by decide) ⟨Nat.zero_le _, Nat.zero_le _⟩ (Nat.le_of_ble_eq_true rfl) ?_
      rintro _ _ ⟨rfl, rfl⟩
      refine x_lstore_n C dX8_digest_124 rfl (by decide) ?_
      refine x_lload_n C dX8_digest_125 rfl rfl ?_
      refine x_aload_n C dX8_digest_126 rfl rfl ?_
      refine x_iload_n C dX8_digest_127 rfl rfl ?_
      refine x_callV1 C dX8_digest_128 kX8_246 (c_X8_logOf hO hP0 hQ0 (haF _ rfl) (hpF _ rfl) (hcF _ rfl) hc2 hc4 hk9 (show i < p_nd P by omega)) ((hcF _ rfl) 0 _ rfl) rfl (by decide) ⟨Nat.zero_le _, Nat.zero_le _⟩ (Nat.le_of_ble_eq_true rfl) ?_
      rintro _ _ ⟨rfl, rfl⟩
      refine x_callS2 C dX8_digest_131 kX8_210 (c_X8_mixed hO) (by decide) ⟨Nat.zero_le _, Nat.zero_le _⟩ (Nat.le_of_ble_eq_true rfl) ?_
      rintro _ _ ⟨rfl, rfl⟩
      refine x_lstore_n C dX8_digest_134 rfl (by decide) ?_
      refine x_lload_n C dX8_digest_135 rfl rfl ?_
      refine x_aload_n C dX8_digest_136 rfl rfl ?_
      refine x_iload_n C dX8_digest_137 rfl rfl ?_
      refine x_callV1 C dX8_digest_138 kX8_249 (c_X8_daysUntilFree hO hP0 hQ0 (haF _ rfl) (hpF _ rfl) (hcF _ rfl) hc2 hc4 hk9 hc5 x_ov_bk hdt hdct hat (show i < p_nd P by omega)) ((hcF _ rfl) 0 _ rfl) rfl (by decide) ⟨Nat.zero_le _, Nat.zero_le _⟩ (Nat.le_of_ble_eq_true rfl) ?_
      rintro _ _ ⟨rfl, B1, sk1, ht1, rfl⟩
      refine x_to (x_ov_ov rfl) ?_
      refine x_callS2 C dX8_digest_141 kX8_210 (c_X8_mixed hO) (by decide) ⟨Nat.zero_le _, Nat.zero_le _⟩ (Nat.le_of_ble_eq_true rfl) ?_
      rintro _ _ ⟨rfl, rfl⟩
      refine x_lstore_n C dX8_digest_144 rfl (by decide) ?_
      refine x_iinc (v := 1) C dX8_digest_145 rfl (by decide) rfl (by decide) ?_
      refine x_goto (tgt := 81) C dX8_digest_148 (by decide) ?_
      exact ih (i + 1) _ (h_dig1 P A d i) _ _ _ _ (by omega) (nI_1 i) (by rw [hz]; rfl)
  refine x_ldc2 C dX8_digest_0 lX8_208 ?_
  refine x_lstore_n C dX8_digest_3 rfl (by decide) ?_
  refine x_lload_n C dX8_digest_4 rfl rfl ?_
  refine x_aload_n C dX8_digest_5 rfl rfl ?_
  refine x_callV0 C dX8_digest_6 kX8_202 (c_X8_drones hO hP0 hQ0 (haF _ rfl) (hpF _ rfl) (hcF _ rfl) hc2 hc4 hk9) ((hcF _ rfl) 0 _ rfl) rfl (by decide) ⟨Nat.zero_le _, Nat.zero_le _⟩ (Nat.le_of_ble_eq_true rfl) ?_
  rintro _ _ ⟨rfl, rfl⟩
  refine x_callS2 C dX8_digest_9 kX8_210 (c_X8_mixed hO) (by decide) ⟨Nat.zero_le _, Nat.zero_le _⟩ (Nat.le_of_ble_eq_true rfl) ?_
  rintro _ _ ⟨rfl, rfl⟩
  refine x_lstore_n C dX8_digest_12 rfl (by decide) ?_
  refine x_lload_n C dX8_digest_13 rfl rfl ?_
  refine x_aload_n C dX8_digest_14 rfl rfl ?_
  refine x_callV0 C dX8_digest_15 kX8_214 (c_X8_deals hO hP0 hQ0 (haF _ rfl) (hpF _ rfl) (hcF _ rfl) hc2 hc4 hk9) ((hcF _ rfl) 0 _ rfl) rfl (by decide) ⟨Nat.zero_le _, Nat.zero_le _⟩ (Nat.le_of_ble_eq_true rfl) ?_
  rintro _ _ ⟨rfl, rfl⟩
  refine x_callS2 C dX8_digest_18 kX8_210 (c_X8_mixed hO) (by decide) ⟨Nat.zero_le _, Nat.zero_le _⟩ (Nat.le_of_ble_eq_true rfl) ?_
  rintro _ _ ⟨rfl, rfl⟩
  refine x_lstore_n C dX8_digest_21 rfl (by decide) ?_
  refine x_lload_n C dX8_digest_22 rfl rfl ?_
  refine x_aload_n C dX8_digest_23 rfl rfl ?_
  refine x_callV0 C dX8_digest_24 kX8_217 (c_X8_day hO hP0 hQ0 (haF _ rfl) (hpF _ rfl) (hcF _ rfl) hc2 hc4 hk9) ((hcF _ rfl) 0 _ rfl) rfl (by decide) ⟨Nat.zero_le _, Nat.zero_le _⟩ (Nat.le_of_ble_eq_true rfl) ?_
  rintro _ _ ⟨rfl, rfl⟩
  refine x_callS2 C dX8_digest_27 kX8_210 (c_X8_mixed hO) (by decide) ⟨Nat.zero_le _, Nat.zero_le _⟩ (Nat.le_of_ble_eq_true rfl) ?_
  rintro _ _ ⟨rfl, rfl⟩
  refine x_lstore_n C dX8_digest_30 rfl (by decide) ?_
  refine x_lload_n C dX8_digest_31 rfl rfl ?_
  refine x_aload_n C dX8_digest_32 rfl rfl ?_
  refine x_callV0 C dX8_digest_33 kX8_220 (c_X8_ordersCarriedOut hO hP0 hQ0 (haF _ rfl) (hpF _ rfl) (hcF _ rfl) hc2 hc4 hk9) ((hcF _ rfl) 0 _ rfl) rfl (by decide) ⟨Nat.zero_le _, Nat.zero_le _⟩ (Nat.le_of_ble_eq_true rfl) ?_
  rintro _ _ ⟨rfl, rfl⟩
  refine x_callS2 C dX8_digest_36 kX8_210 (c_X8_mixed hO) (by decide) ⟨Nat.zero_le _, Nat.zero_le _⟩ (Nat.le_of_ble_eq_true rfl) ?_
  rintro _ _ ⟨rfl, rfl⟩
  refine x_lstore_n C dX8_digest_39 rfl (by decide) ?_
  refine x_lload_n C dX8_digest_40 rfl rfl ?_
  refine x_aload_n C dX8_digest_41 rfl rfl ?_
  refine x_callV0 C dX8_digest_42 kX8_223 (c_X8_blocked hO hP0 hQ0 (haF _ rfl) (hpF _ rfl) (hcF _ rfl) hc2 hc4 hk9) ((hcF _ rfl) 0 _ rfl) rfl (by decide) ⟨Nat.zero_le _, Nat.zero_le _⟩ (Nat.le_of_ble_eq_true rfl) ?_
  rintro _ _ ⟨rfl, rfl⟩
  refine x_callS2 C dX8_digest_45 kX8_210 (c_X8_mixed hO) (by decide) ⟨Nat.zero_le _, Nat.zero_le _⟩ (Nat.le_of_ble_eq_true rfl) ?_
  rintro _ _ ⟨rfl, rfl⟩
  refine x_lstore_n C dX8_digest_48 rfl (by decide) ?_
  refine x_lload_n C dX8_digest_49 rfl rfl ?_
  refine x_aload_n C dX8_digest_50 rfl rfl ?_
  refine x_callV0 C dX8_digest_51 kX8_205 (c_X8_honey hO hP0 hQ0 (haF _ rfl) (hpF _ rfl) (hcF _ rfl) hc2 hc4 hk9) ((hcF _ rfl) 0 _ rfl) rfl (by decide) ⟨Nat.zero_le _, Nat.zero_le _⟩ (Nat.le_of_ble_eq_true rfl) ?_
  rintro _ _ ⟨rfl, rfl⟩
  refine x_callS2 C dX8_digest_54 kX8_210 (c_X8_mixed hO) (by decide) ⟨Nat.zero_le _, Nat.zero_le _⟩ (Nat.le_of_ble_eq_true rfl) ?_
  rintro _ _ ⟨rfl, rfl⟩
  refine x_lstore_n C dX8_digest_57 rfl (by decide) ?_
  refine x_lload_n C dX8_digest_58 rfl rfl ?_
  refine x_aload_n C dX8_digest_59 rfl rfl ?_
  refine x_callV0 C dX8_digest_60 kX8_226 (c_X8_isQueenAwake hO hP0 hQ0 (haF _ rfl) (hpF _ rfl) (hcF _ rfl) hc2 hc4 hk9) ((hcF _ rfl) 0 _ rfl) rfl (by decide) ⟨Nat.zero_le _, Nat.zero_le _⟩ (Nat.le_of_ble_eq_true rfl) ?_
  rintro _ _ ⟨rfl, rfl⟩
  refine x_callS1 C dX8_digest_63 kX8_230 (c_X8_bit hO) (by decide) ⟨Nat.zero_le _, Nat.zero_le _⟩ (Nat.le_of_ble_eq_true rfl) ?_
  rintro _ _ ⟨rfl, rfl⟩
  rw [h_bit (h_bitQ hk9)]
  refine x_callS2 C dX8_digest_66 kX8_210 (c_X8_mixed hO) (by decide) ⟨Nat.zero_le _, Nat.zero_le _⟩ (Nat.le_of_ble_eq_true rfl) ?_
  rintro _ _ ⟨rfl, rfl⟩
  refine x_lstore_n C dX8_digest_69 rfl (by decide) ?_
  refine x_lload_n C dX8_digest_70 rfl rfl ?_
  refine x_aload_n C dX8_digest_71 rfl rfl ?_
  refine x_callV0 C dX8_digest_72 kX8_234 (c_X8_bestToWake hO hP0 hQ0 (haF _ rfl) (hpF _ rfl) (hcF _ rfl) hc2 hc4 hk9 hc5 x_ov_bk hdt hdct hat) ((hcF _ rfl) 0 _ rfl) rfl (by decide) ⟨Nat.zero_le _, Nat.zero_le _⟩ (Nat.le_of_ble_eq_true rfl) ?_
  rintro _ _ ⟨rfl, B1, hy1, sk1, ht1, rfl⟩
  refine x_to (x_ov_ov rfl) ?_
  refine x_callS2 C dX8_digest_75 kX8_210 (c_X8_mixed hO) (by decide) ⟨Nat.zero_le _, Nat.zero_le _⟩ (Nat.le_of_ble_eq_true rfl) ?_
  rintro _ _ ⟨rfl, rfl⟩
  refine x_lstore_n C dX8_digest_78 rfl (by decide) ?_
  refine x_iconst (v := 0) C dX8_digest_79 (by decide) ?_
  refine x_istore_n C dX8_digest_80 rfl rfl (by decide) ?_
  exact lp1 (p_nd P) 0 0 (h_dig0 P A) _ _ _ _ (by omega) rfl rfl
theorem h_mean_ok {x z : Int32} (hz : z ≠ 0) : vf_n64 (FP.ddiv (FP.i2d x) (FP.i2d z)) := by
  have h : FP.Core.dIsNaN (FP.ddiv (FP.i2d x) (FP.i2d z)) = false := FP.Core.ddiv_out (FP.Core.i2d_fin x).notNaN (FP.Core.i2d_fin z) (fun q => FP.Core.i2d_ne_zero hz ((FP.Core.zero_bits2 _).mp q))
  show FP.ddiv (FP.i2d x) (FP.i2d z) &&& 0x7fffffffffffffff ≤ 0x7ff0000000000000
  rw [UInt64.le_iff_toNat_le, FP.Core.mask_toNat]
  exact (FP.Core.ne_nan _).mp ((FP.Core.notNaN_iff _).mp h)
def h_mean (P : PL) (A : HS) : UInt64 := if p_nd P = 0 then FP.dconst0 else FP.ddiv (FP.i2d (h_honey P A)) (FP.i2d (nI (p_nd P)))
set_option maxHeartbeats 4000000 in
set_option maxRecDepth 100000 in
theorem c_X8_meanHoney {l : Launch} {Y0 : x_Y} (hO : x_Ok Y0) {M : x_M} {a p : Nat} {P : PL} {A : HS} {hx sk : Nat → Int32} {ht : Int32} {Q : HS} (hP : p_ok P) (hQ : q_is Q P) (hb : x_bk M a (hvT a p P A hx sk ht)) (hp : x_bk M p (plT p Q)) {c : Nat} {fs : List Value} (hc : x_bk M c [.inr (8, fs)]) (hc2 : fs[2]? = some (.ref p)) (hc4 : fs[4]? = some (.ref a)) (hk9 : h_ok P A) : x_C l Y0 yX8_meanHoney cX8_meanHoney 2 (some .double) 4 0 0 [.ref c] M (fun u M1 => u = some (.double (h_mean P A)) ∧ M1 = M) := by
  refine x_start hO (by decide +kernel) (Nat.le_of_ble_eq_true rfl) (fun K C E => ?_)
  have hP0 := hP
  have hQ0 := hQ
  obtain ⟨h8, h6, h16, hnp, hwho, hvb, hts⟩ := hP
  obtain ⟨hq0, hq1, hq2, hq3, hq4, hq5, hq6⟩ := hQ
  refine x_aload_n C dX8_meanHoney_0 rfl rfl ?_
  refine x_callV0 C dX8_meanHoney_1 kX8_202 (c_X8_drones hO hP0 hQ0 hb hp hc hc2 hc4 hk9) (hc 0 _ rfl) rfl (by decide) ⟨Nat.zero_le _, Nat.zero_le _⟩ (Nat.le_of_ble_eq_true rfl) ?_
  rintro _ _ ⟨rfl, rfl⟩
  refine x_istore_n C dX8_meanHoney_4 rfl rfl (by decide) ?_
  refine x_iload_n C dX8_meanHoney_5 rfl rfl ?_
  refine x_if_ne (tgt := 13) C dX8_meanHoney_6 (by decide) (fun c6 => ?_) (fun c6 => ?_)
  · have e9 : ¬ p_nd P = 0 := fun q => by rw [q] at c6; exact absurd rfl c6
    refine x_aload_n C dX8_meanHoney_13 rfl rfl ?_
    refine x_callV0 C dX8_meanHoney_14 kX8_205 (c_X8_honey hO hP0 hQ0 hb hp hc hc2 hc4 hk9) (hc 0 _ rfl) rfl (by decide) ⟨Nat.zero_le _, Nat.zero_le _⟩ (Nat.le_of_ble_eq_true rfl) ?_
    rintro _ _ ⟨rfl, rfl⟩
    refine x_i2d C dX8_meanHoney_17 ?_
    refine x_iload_n C dX8_meanHoney_18 rfl rfl ?_
    refine x_i2d C dX8_meanHoney_19 ?_
    refine x_ddiv C dX8_meanHoney_20 (h_mean_ok c6) ?_
    refine x_dret C E dX8_meanHoney_21 ?_
    refine ⟨?_, rfl⟩
    unfold h_mean
    first | (rw [if_neg e9]; done) | (rw [if_pos e9]; done) | fail
  · have e9 : p_nd P = 0 := (nI_eq (by omega) (by omega)).mp (show nI (p_nd P) = nI 0 from c6)
    refine x_dconst0 C dX8_meanHoney_9 ?_
    refine x_goto (tgt := 21) C dX8_meanHoney_10 (by decide) ?_
    refine x_dret C E dX8_meanHoney_21 ?_
    refine ⟨?_, rfl⟩
    unfold h_mean
    first | (rw [if_neg e9]; done) | (rw [if_pos e9]; done) | fail
