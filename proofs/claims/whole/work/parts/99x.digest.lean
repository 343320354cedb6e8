set_option maxHeartbeats 4000000 in
set_option maxRecDepth 100000 in
theorem c_X11_digest {l : Launch} {Y0 : x_Y} (hO : x_Ok Y0) {M : x_M} {m o q : Nat} {P : PL} {A : HS} {hx : Nat → Int32} {z : Int32} {G : HS} {th sz ea tk dp : Int32} {tp kd fr mn rl me rd t m2 : Nat} (hP : p_ok P) (hQ : g_is G P) (hk9 : h_ok P A) (hb : x_bk M m (stT m o P A hx z)) (hp : x_bk M q (pmT q G)) (ho : x_bk M o [.inr (11, mdF th sz ea tk dp tp kd fr mn rl me q rd t m m2)]) (hbd : dgB M o q m t m2) (hdo : o + 1 ≤ m ∨ m + 9 ≤ o) (hqo : q + 11 ≤ o ∨ o + 1 ≤ q) (hd : q + 11 ≤ m ∨ m + 9 ≤ q) {sk : Nat → Int32} (ht : x_bk M t [.inl (0, 400, .inl sk)]) (htm : m + 9 ≤ t ∨ t + 1 ≤ m) (htq : q + 11 ≤ t ∨ t + 1 ≤ q) (hto : o + 1 ≤ t ∨ t + 1 ≤ o) {T : HS} {hy : Nat → Int32} {y9 : Int32} (hn2 : x_bk M m2 (stT m2 o P T hy y9)) (hm2 : m + 9 ≤ m2 ∨ m2 + 9 ≤ m) (hm2o : o + 1 ≤ m2 ∨ m2 + 9 ≤ o) (hm2q : q + 11 ≤ m2 ∨ m2 + 9 ≤ q) (htm2 : m2 + 9 ≤ t ∨ t + 1 ≤ m2) : x_C l Y0 yX11_digest cX11_digest 10 (some .long) 9 15 72 [.ref o] M (fun u M1 => u = some (.long (h_digest P A)) ∧ dgF M o q m t m2 (.inr (11, mdF 0 sz ea tk dp tp kd fr mn rl me q rd t m m2)) G P A hx z M1) := by
  refine x_start hO (by decide +kernel) (Nat.le_of_ble_eq_true rfl) (fun K C E => ?_)
  have hP0 := hP
  have hQ0 := hQ
  obtain ⟨h8, h6, h16, hnp, hwho, hvb, hts⟩ := hP
  obtain ⟨hq0, hq1, hq2, hq3, hq4, hq5, hq6⟩ := hQ
  obtain ⟨hb1, hb2, hb3, hb4, hb5⟩ := id hbd
  have nn8 : p_nd P ≤ 8 := hP0.1
  have nk6 : p_nk P ≤ 6 := hP0.2.1
  have hnp := hP0.2.2.2.1
  have hD0 : h_mx (h_mx (h_mx (h_mx (h_mx (h_mx (h_mx (h_mx 1087 (nI (p_nd P))) (nI (p_nk P))) (A 8 0)) (A 8 1)) (h_blocked P A)) (h_honey P A)) (1 - A 1 8)) (h_best P A) = h_dig0 P A := rfl
  refine x_to (x_ov_self ho).symm ?_
  have lp3 : ∀ (cs sl k : Nat) (hk : k < p_nk P) (d0 : Int64) (Mx : x_M) (Fx : dgF M o q m t m2 (.inr (11, mdF 0 sz ea tk dp tp kd fr mn rl me q rd t m m2)) G P A hx z Mx), x_X K 10 cs sl 481 [(2, .long (h_it (h_digp A k) (p_np P k) d0)), (0, .ref o), (4, .int (nI k))] [] Mx → ∀ (w j : Nat) (x : Int32) (d : Int64), j + w = p_np P k → x = nI (6 * k + j) → d = h_it (h_digp A k) j d0 → x_X K 10 cs sl 412 [(2, .long d), (0, .ref o), (4, .int (nI k)), (6, .int x)] [] Mx := by
    intro cs sl k hk d0 Mx Fx kk w
    have hk1 := hnp k hk
    induction w with
    | zero =>
      intro j x d hj hx9 hz
      subst hx9
      have e : j = p_np P k := by omega
      refine x_iload C dX11_digest_412 rfl ?_
      refine x_bipush (v := 6) C dX11_digest_414 (by decide) ?_
      refine x_iload C dX11_digest_416 rfl ?_
      refine x_imul C dX11_digest_418 ?_
      refine x_aload_n C dX11_digest_419 rfl rfl ?_
      refine x_getfield C dX11_digest_420 fX11_35 (Fx.2.1 0 _ rfl) rfl ?_
      refine x_getfield C dX11_digest_423 fX11_77 (Fx.2.2.1 0 _ rfl) rfl ?_
      refine x_iload C dX11_digest_426 rfl ?_
      refine x_iaload C dX11_digest_428 (Fx.2.2.1 2 _ rfl) (vp_in_nI (show k < 6 by omega) (by decide)) ?_
      rw [nI_clamp (show k < 2 ^ 31 by omega)]
      rw [hq3 k hk]
      refine x_iadd C dX11_digest_429 ?_
      rw [slot_nI2]
      refine x_icmp_ge (tgt := 481) C dX11_digest_430 (by decide) (fun c430 => ?_) (fun c430 => absurd (show nI (6 * k + p_np P k) ≤ nI (6 * k + j) from nI_le (by omega) (by omega)) c430)
      refine x_pick [0, 1, 2] rfl ?_
      rw [e] at hz
      rw [hz]
      exact kk
    | succ w ih =>
      intro j x d hj hx9 hz
      subst hx9
      refine x_iload C dX11_digest_412 rfl ?_
      refine x_bipush (v := 6) C dX11_digest_414 (by decide) ?_
      refine x_iload C dX11_digest_416 rfl ?_
      refine x_imul C dX11_digest_418 ?_
      refine x_aload_n C dX11_digest_419 rfl rfl ?_
      refine x_getfield C dX11_digest_420 fX11_35 (Fx.2.1 0 _ rfl) rfl ?_
      refine x_getfield C dX11_digest_423 fX11_77 (Fx.2.2.1 0 _ rfl) rfl ?_
      refine x_iload C dX11_digest_426 rfl ?_
      refine x_iaload C dX11_digest_428 (Fx.2.2.1 2 _ rfl) (vp_in_nI (show k < 6 by omega) (by decide)) ?_
      rw [nI_clamp (show k < 2 ^ 31 by omega)]
      rw [hq3 k hk]
      refine x_iadd C dX11_digest_429 ?_
      rw [slot_nI2]
      refine x_icmp_ge (tgt := 481) C dX11_digest_430 (by decide) (fun c430 => absurd c430 (show ¬ nI (6 * k + p_np P k) ≤ nI (6 * k + j) from nI_ge (by omega) (by omega))) (fun c430 => ?_)
      refine x_lload_n C dX11_digest_433 rfl rfl ?_
      refine x_ldc2 C dX11_digest_434 lX11_376 ?_
      refine x_lmul C dX11_digest_437 ?_
      refine x_aload_n C dX11_digest_438 rfl rfl ?_
      refine x_getfield C dX11_digest_439 fX11_50 (Fx.2.1 0 _ rfl) rfl ?_
      refine x_getfield C dX11_digest_442 fX11_324 (Fx.2.2.2.1 0 _ rfl) rfl ?_
      refine x_iload C dX11_digest_445 rfl ?_
      refine x_iaload C dX11_digest_447 (Fx.2.2.2.1 7 _ rfl) (vp_in_nI (show 6 * k + j < 36 by omega) (by decide)) ?_
      rw [nI_clamp (show 6 * k + j < 2 ^ 31 by omega)]
      refine x_i2l C dX11_digest_448 ?_
      refine x_ladd C dX11_digest_449 ?_
      refine x_ldc2 C dX11_digest_450 lX11_376 ?_
      refine x_lmul C dX11_digest_453 ?_
      refine x_aload_n C dX11_digest_454 rfl rfl ?_
      refine x_getfield C dX11_digest_455 fX11_50 (Fx.2.1 0 _ rfl) rfl ?_
      refine x_getfield C dX11_digest_458 fX11_327 (Fx.2.2.2.1 0 _ rfl) rfl ?_
      refine x_iload C dX11_digest_461 rfl ?_
      refine x_baload C dX11_digest_463 (Fx.2.2.2.1 8 _ rfl) (vp_in_nI (show 6 * k + j < 36 by omega) (by decide)) ?_
      rw [nI_clamp (show 6 * k + j < 2 ^ 31 by omega)]
      refine x_isb C dX11_digest_464 dX11_digest_467 dX11_digest_468 dX11_digest_471 (hk9.2.1 _) ?_
      refine x_i2l C dX11_digest_472 ?_
      refine x_ladd C dX11_digest_473 ?_
      refine x_lstore_n C dX11_digest_474 rfl (by decide) ?_
      refine x_iinc (v := 1) C dX11_digest_475 rfl (by decide) rfl (by decide) ?_
      refine x_goto (tgt := 412) C dX11_digest_478 (by decide) ?_
      refine x_pick [0, 1, 2, 3] rfl ?_
      exact ih (j + 1) _ _ (by omega) (nI_1 (6 * k + j)) (by rw [hz]; rfl)
  have lp2 : ∀ (w k : Nat) (x : Int32) (d : Int64) (Mx : x_M), k + w = p_nk P → x = nI k → d = h_it (h_dig2 P A) k (h_it (h_dig1 P A) (p_nd P) (h_dig0 P A)) → dgF M o q m t m2 (.inr (11, mdF 0 sz ea tk dp tp kd fr mn rl me q rd t m m2)) G P A hx z Mx → x_X K 10 (1 + p_nd P + k) (8 + 5 * p_nd P + 4 * k) 288 [(2, .long d), (0, .ref o), (4, .int x)] [] Mx := by
    intro w
    induction w with
    | zero =>
      intro k x d Mx hi hx9 hz Fx
      subst hx9
      have e : k = p_nk P := by omega
      refine x_iload C dX11_digest_288 rfl ?_
      refine x_aload_n C dX11_digest_290 rfl rfl ?_
      refine x_getfield C dX11_digest_291 fX11_35 (Fx.2.1 0 _ rfl) rfl ?_
      refine x_getfield C dX11_digest_294 fX11_70 (Fx.2.2.1 0 _ rfl) rfl ?_
      refine x_icmp_ge (tgt := 487) C dX11_digest_297 (by decide) (fun c297 => ?_) (fun c297 => absurd (by rw [hq1]; exact nI_le (by omega) (by omega)) c297)
      refine x_widen (k := 15) (n := 72) (by omega) (by omega) ?_
      refine x_lload_n C dX11_digest_487 rfl rfl ?_
      refine x_lret C E dX11_digest_488 ?_
      exact ⟨by rw [hz, e]; rfl, Fx⟩
    | succ w ih =>
      intro k x d Mx hi hx9 hz Fx
      subst hx9
      have hk : k < p_nk P := by omega
      have hk1 := hnp k hk
      have hE : ∀ d, h_it (h_digp A k) (p_np P k) (h_mx (h_mx (h_mx (h_mx d (A 4 k)) (h_waits A k)) (h_votes P A k 1)) (h_b (h_agrAll P A k))) = h_dig2 P A d k := fun d => rfl
      have kk : ∀ (M2 : x_M), dgF M o q m t m2 (.inr (11, mdF 0 sz ea tk dp tp kd fr mn rl me q rd t m m2)) G P A hx z M2 → x_X K 10 (1 + p_nd P + k + 1) (8 + 5 * p_nd P + 4 * k + 4) 481 [(2, .long (h_dig2 P A d k)), (0, .ref o), (4, .int (nI k))] [] M2 := by
        intro M2 F2
        refine x_iinc (v := 1) C dX11_digest_481 rfl (by decide) rfl (by decide) ?_
        refine x_goto (tgt := 288) C dX11_digest_484 (by decide) ?_
        refine x_widen (k := 1 + p_nd P + (k + 1)) (n := 8 + 5 * p_nd P + 4 * (k + 1)) (by omega) (by omega) ?_
        exact ih (k + 1) _ _ M2 (by omega) (nI_1 k) (by rw [hz]; rfl) F2
      refine x_iload C dX11_digest_288 rfl ?_
      refine x_aload_n C dX11_digest_290 rfl rfl ?_
      refine x_getfield C dX11_digest_291 fX11_35 (Fx.2.1 0 _ rfl) rfl ?_
      refine x_getfield C dX11_digest_294 fX11_70 (Fx.2.2.1 0 _ rfl) rfl ?_
      refine x_icmp_ge (tgt := 487) C dX11_digest_297 (by decide) (fun c297 => absurd c297 (by rw [hq1]; exact nI_ge (by omega) (by omega))) (fun c297 => ?_)
      refine x_iconst (v := 4) C dX11_digest_300 (by decide) ?_
      refine x_newarrI (N := 4) C dX11_digest_301 o_ai (by decide) rfl (by decide) (by omega) (by omega) ?_
      refine dg_new hbd Fx ?_
      intro Mb a hF ha9
      refine x_dup C dX11_digest_303 rfl ?_
      refine x_iconst (v := 0) C dX11_digest_304 (by decide) ?_
      refine x_aload_n C dX11_digest_305 rfl rfl ?_
      refine x_getfield C dX11_digest_306 fX11_50 ((hF _).2.1 0 _ rfl) rfl ?_
      refine x_getfield C dX11_digest_309 fX11_315 ((hF _).2.2.2.1 0 _ rfl) rfl ?_
      refine x_iload C dX11_digest_312 rfl ?_
      refine x_iaload C dX11_digest_314 ((hF _).2.2.2.1 5 _ rfl) (vp_in_nI (show k < 6 by omega) (by decide)) ?_
      rw [nI_clamp (show k < 2 ^ 31 by omega)]
      refine x_iastore C dX11_digest_315 (x_ovg 0 rfl) (by unfold vp_in; decide) ?_
      refine x_to (x_st_ov 0 (Nat.le_of_ble_eq_true rfl)) ?_
      refine x_dup C dX11_digest_316 rfl ?_
      refine x_iconst (v := 1) C dX11_digest_317 (by decide) ?_
      refine x_aload_n C dX11_digest_318 rfl rfl ?_
      refine x_getfield C dX11_digest_319 fX11_50 ((hF _).2.1 0 _ rfl) rfl ?_
      refine x_iload C dX11_digest_322 rfl ?_
      refine x_callV1 C dX11_digest_324 kX11_318 (c_X10_waits hO hP0 hQ0 hk9 (hF _).2.2.2.1 (hF _).2.2.1 (hF _).2.1 rfl hk) ((hF _).2.2.2.1 0 _ rfl) rfl (by decide) ⟨by omega, by omega⟩ (Nat.le_of_ble_eq_true rfl) ?_
      rintro _ _ ⟨rfl, rfl⟩
      refine x_iastore C dX11_digest_327 (x_ovg 0 rfl) (by unfold vp_in; decide) ?_
      refine x_to (x_st_ov 0 (Nat.le_of_ble_eq_true rfl)) ?_
      refine x_dup C dX11_digest_328 rfl ?_
      refine x_iconst (v := 2) C dX11_digest_329 (by decide) ?_
      refine x_aload_n C dX11_digest_330 rfl rfl ?_
      refine x_getfield C dX11_digest_331 fX11_50 ((hF _).2.1 0 _ rfl) rfl ?_
      refine x_iload C dX11_digest_334 rfl ?_
      refine x_iconst (v := 1) C dX11_digest_336 (by decide) ?_
      refine x_callV2 C dX11_digest_337 kX11_330 (c_X10_votes hO hP0 hQ0 hk9 (hF _).2.2.2.1 (hF _).2.2.1 (hF _).2.1 rfl hk) ((hF _).2.2.2.1 0 _ rfl) rfl (by decide) ⟨by omega, by omega⟩ (Nat.le_of_ble_eq_true rfl) ?_
      rintro _ _ ⟨rfl, rfl⟩
      refine x_iastore C dX11_digest_340 (x_ovg 0 rfl) (by unfold vp_in; decide) ?_
      refine x_to (x_st_ov 0 (Nat.le_of_ble_eq_true rfl)) ?_
      refine x_dup C dX11_digest_341 rfl ?_
      refine x_iconst (v := 3) C dX11_digest_342 (by decide) ?_
      refine x_aload_n C dX11_digest_343 rfl rfl ?_
      refine x_getfield C dX11_digest_344 fX11_50 ((hF _).2.1 0 _ rfl) rfl ?_
      refine x_iload C dX11_digest_347 rfl ?_
      refine x_callV1 C dX11_digest_349 kX11_333 (c_X10_allAgree hO hP0 hQ0 hk9 (hF _).2.2.2.1 (hF _).2.2.1 (hF _).2.1 rfl hk) ((hF _).2.2.2.1 0 _ rfl) rfl (by decide) ⟨by omega, by omega⟩ (Nat.le_of_ble_eq_true rfl) ?_
      rintro _ _ ⟨rfl, rfl⟩
      refine x_isb C dX11_digest_352 dX11_digest_355 dX11_digest_356 dX11_digest_359 (h_b_01 _) ?_
      refine x_iastore C dX11_digest_360 (x_ovg 0 rfl) (by unfold vp_in; decide) ?_
      refine x_to (x_st_ov 0 (Nat.le_of_ble_eq_true rfl)) ?_
      obtain ⟨e1, he1⟩ : ∃ v, v = h_waits A k := ⟨_, rfl⟩
      rw [← he1] at hE ⊢
      obtain ⟨e2, he2⟩ : ∃ v, v = h_votes P A k 1 := ⟨_, rfl⟩
      rw [← he2] at hE ⊢
      obtain ⟨e3, he3⟩ : ∃ v, v = h_b (h_agrAll P A k) := ⟨_, rfl⟩
      rw [← he3] at hE ⊢
      refine x_astore C dX11_digest_361 rfl (by decide) ?_
      refine x_aload C dX11_digest_363 rfl ?_
      refine x_astore C dX11_digest_365 rfl (by decide) ?_
      refine x_aload C dX11_digest_367 rfl ?_
      refine x_alen C dX11_digest_369 (x_ovg 0 rfl) (by decide) ?_
      refine x_topi 4 rfl ?_
      refine x_istore C dX11_digest_370 rfl (by decide) ?_
      refine x_iconst (v := 0) C dX11_digest_372 (by decide) ?_
      refine x_istore C dX11_digest_373 rfl (by decide) ?_
      refine x_pick (lv' := [(2, .long _), (0, .ref o), (4, .int _), (6, .ref _), (7, .int 4), (8, .int _)]) [0, 1, 2, 4, 5, 6] rfl ?_
      refine x_iload C dX11_digest_375 rfl ?_
      refine x_iload C dX11_digest_377 rfl ?_
      refine x_icmp_ge (tgt := 405) C dX11_digest_379 (by decide) (fun c379 => absurd c379 (by decide)) (fun c379 => ?_)
      refine x_aload C dX11_digest_382 rfl ?_
      refine x_iload C dX11_digest_384 rfl ?_
      refine x_iaload C dX11_digest_386 (x_ovg 0 rfl) (by unfold vp_in; decide) ?_
      refine x_istore C dX11_digest_387 rfl (by decide) ?_
      refine x_lload_n C dX11_digest_389 rfl rfl ?_
      refine x_ldc2 C dX11_digest_390 lX11_376 ?_
      refine x_lmul C dX11_digest_393 ?_
      refine x_iload C dX11_digest_394 rfl ?_
      refine x_i2l C dX11_digest_396 ?_
      refine x_ladd C dX11_digest_397 ?_
      refine x_lstore_n C dX11_digest_398 rfl (by decide) ?_
      refine x_iinc (v := 1) C dX11_digest_399 rfl (by decide) rfl (by decide) ?_
      refine x_goto (tgt := 375) C dX11_digest_402 (by decide) ?_
      refine x_pick (lv' := [(2, .long _), (0, .ref o), (4, .int _), (6, .ref _), (7, .int 4), (8, .int _)]) [0, 1, 2, 3, 4, 5] rfl ?_
      refine x_iload C dX11_digest_375 rfl ?_
      refine x_iload C dX11_digest_377 rfl ?_
      refine x_icmp_ge (tgt := 405) C dX11_digest_379 (by decide) (fun c379 => absurd c379 (by decide)) (fun c379 => ?_)
      refine x_aload C dX11_digest_382 rfl ?_
      refine x_iload C dX11_digest_384 rfl ?_
      refine x_iaload C dX11_digest_386 (x_ovg 0 rfl) (by unfold vp_in; decide) ?_
      refine x_istore C dX11_digest_387 rfl (by decide) ?_
      refine x_lload_n C dX11_digest_389 rfl rfl ?_
      refine x_ldc2 C dX11_digest_390 lX11_376 ?_
      refine x_lmul C dX11_digest_393 ?_
      refine x_iload C dX11_digest_394 rfl ?_
      refine x_i2l C dX11_digest_396 ?_
      refine x_ladd C dX11_digest_397 ?_
      refine x_lstore_n C dX11_digest_398 rfl (by decide) ?_
      refine x_iinc (v := 1) C dX11_digest_399 rfl (by decide) rfl (by decide) ?_
      refine x_goto (tgt := 375) C dX11_digest_402 (by decide) ?_
      refine x_pick (lv' := [(2, .long _), (0, .ref o), (4, .int _), (6, .ref _), (7, .int 4), (8, .int _)]) [0, 1, 2, 3, 4, 5] rfl ?_
      refine x_iload C dX11_digest_375 rfl ?_
      refine x_iload C dX11_digest_377 rfl ?_
      refine x_icmp_ge (tgt := 405) C dX11_digest_379 (by decide) (fun c379 => absurd c379 (by decide)) (fun c379 => ?_)
      refine x_aload C dX11_digest_382 rfl ?_
      refine x_iload C dX11_digest_384 rfl ?_
      refine x_iaload C dX11_digest_386 (x_ovg 0 rfl) (by unfold vp_in; decide) ?_
      refine x_istore C dX11_digest_387 rfl (by decide) ?_
      refine x_lload_n C dX11_digest_389 rfl rfl ?_
      refine x_ldc2 C dX11_digest_390 lX11_376 ?_
      refine x_lmul C dX11_digest_393 ?_
      refine x_iload C dX11_digest_394 rfl ?_
      refine x_i2l C dX11_digest_396 ?_
      refine x_ladd C dX11_digest_397 ?_
      refine x_lstore_n C dX11_digest_398 rfl (by decide) ?_
      refine x_iinc (v := 1) C dX11_digest_399 rfl (by decide) rfl (by decide) ?_
      refine x_goto (tgt := 375) C dX11_digest_402 (by decide) ?_
      refine x_pick (lv' := [(2, .long _), (0, .ref o), (4, .int _), (6, .ref _), (7, .int 4), (8, .int _)]) [0, 1, 2, 3, 4, 5] rfl ?_
      refine x_iload C dX11_digest_375 rfl ?_
      refine x_iload C dX11_digest_377 rfl ?_
      refine x_icmp_ge (tgt := 405) C dX11_digest_379 (by decide) (fun c379 => absurd c379 (by decide)) (fun c379 => ?_)
      refine x_aload C dX11_digest_382 rfl ?_
      refine x_iload C dX11_digest_384 rfl ?_
      refine x_iaload C dX11_digest_386 (x_ovg 0 rfl) (by unfold vp_in; decide) ?_
      refine x_istore C dX11_digest_387 rfl (by decide) ?_
      refine x_lload_n C dX11_digest_389 rfl rfl ?_
      refine x_ldc2 C dX11_digest_390 lX11_376 ?_
      refine x_lmul C dX11_digest_393 ?_
      refine x_iload C dX11_digest_394 rfl ?_
      refine x_i2l C dX11_digest_396 ?_
      refine x_ladd C dX11_digest_397 ?_
      refine x_lstore_n C dX11_digest_398 rfl (by decide) ?_
      refine x_iinc (v := 1) C dX11_digest_399 rfl (by decide) rfl (by decide) ?_
      refine x_goto (tgt := 375) C dX11_digest_402 (by decide) ?_
      refine x_pick (lv' := [(2, .long _), (0, .ref o), (4, .int _), (6, .ref _), (7, .int 4), (8, .int _)]) [0, 1, 2, 3, 4, 5] rfl ?_
      refine x_iload C dX11_digest_375 rfl ?_
      refine x_iload C dX11_digest_377 rfl ?_
      refine x_icmp_ge (tgt := 405) C dX11_digest_379 (by decide) (fun c379 => ?_) (fun c379 => absurd (by decide) c379)
      refine x_bipush (v := 6) C dX11_digest_405 (by decide) ?_
      refine x_iload C dX11_digest_407 rfl ?_
      refine x_imul C dX11_digest_409 ?_
      refine x_istore C dX11_digest_410 rfl (by decide) ?_
      refine x_pick [0, 1, 2, 3] rfl ?_
      refine lp3 _ _ k hk (h_mx (h_mx (h_mx (h_mx d (A 4 k)) e1) e2) e3) _ (hF _) ?_ (p_np P k) 0 _ _ (by omega) (show 6 * nI k = nI (6 * k) by show nI 6 * nI k = _; rw [pk_mul]) rfl
      rw [hE]
      exact kk _ (hF _)
  have lp1 : ∀ (w i : Nat) (x : Int32) (d : Int64) (Mx : x_M), i + w = p_nd P → x = nI i → d = h_it (h_dig1 P A) i (h_dig0 P A) → dgF M o q m t m2 (.inr (11, mdF 0 sz ea tk dp tp kd fr mn rl me q rd t m m2)) G P A hx z Mx → x_X K 10 (1 + i) (8 + 5 * i) 148 [(2, .long d), (0, .ref o), (4, .int x)] [] Mx := by
    intro w
    induction w with
    | zero =>
      intro i x d Mx hi hx9 hz Fx
      subst hx9
      have e : i = p_nd P := by omega
      refine x_iload C dX11_digest_148 rfl ?_
      refine x_aload_n C dX11_digest_150 rfl rfl ?_
      refine x_getfield C dX11_digest_151 fX11_35 (Fx.2.1 0 _ rfl) rfl ?_
      refine x_getfield C dX11_digest_154 fX11_63 (Fx.2.2.1 0 _ rfl) rfl ?_
      refine x_icmp_ge (tgt := 285) C dX11_digest_157 (by decide) (fun c157 => ?_) (fun c157 => absurd (by rw [hq0]; exact nI_le (by omega) (by omega)) c157)
      refine x_iconst (v := 0) C dX11_digest_285 (by decide) ?_
      refine x_istore C dX11_digest_286 rfl (by decide) ?_
      refine x_pick [0, 1, 2] rfl ?_
      subst e
      exact lp2 (p_nk P) 0 0 _ _ (by omega) rfl hz Fx
    | succ w ih =>
      intro i x d Mx hi hx9 hz Fx
      subst hx9
      have hi9 : i < p_nd P := by omega
      have hE : ∀ d, h_mx (h_mx (h_mx (h_mx (h_mx d (A 0 i)) (h_upI A i)) (A 2 i)) (A 3 i)) (h_fr P i 40 0 A) = h_dig1 P A d i := fun d => rfl
      refine x_iload C dX11_digest_148 rfl ?_
      refine x_aload_n C dX11_digest_150 rfl rfl ?_
      refine x_getfield C dX11_digest_151 fX11_35 (Fx.2.1 0 _ rfl) rfl ?_
      refine x_getfield C dX11_digest_154 fX11_63 (Fx.2.2.1 0 _ rfl) rfl ?_
      refine x_icmp_ge (tgt := 285) C dX11_digest_157 (by decide) (fun c157 => absurd c157 (by rw [hq0]; exact nI_ge (by omega) (by omega))) (fun c157 => ?_)
      refine x_iconst (v := 5) C dX11_digest_160 (by decide) ?_
      refine x_newarrI (N := 5) C dX11_digest_161 o_ai (by decide) rfl (by decide) (by omega) (by omega) ?_
      refine dg_new hbd Fx ?_
      intro Mb a hF ha9
      refine x_dup C dX11_digest_163 rfl ?_
      refine x_iconst (v := 0) C dX11_digest_164 (by decide) ?_
      refine x_aload_n C dX11_digest_165 rfl rfl ?_
      refine x_getfield C dX11_digest_166 fX11_50 ((hF _).2.1 0 _ rfl) rfl ?_
      refine x_getfield C dX11_digest_169 fX11_308 ((hF _).2.2.2.1 0 _ rfl) rfl ?_
      refine x_iload C dX11_digest_172 rfl ?_
      refine x_iaload C dX11_digest_174 ((hF _).2.2.2.1 1 _ rfl) (vp_in_nI (show i < 8 by omega) (by decide)) ?_
      rw [nI_clamp (show i < 2 ^ 31 by omega)]
      rw [s_fill_in hi9]
      refine x_iastore C dX11_digest_175 (x_ovg 0 rfl) (by unfold vp_in; decide) ?_
      refine x_to (x_st_ov 0 (Nat.le_of_ble_eq_true rfl)) ?_
      refine x_dup C dX11_digest_176 rfl ?_
      refine x_iconst (v := 1) C dX11_digest_177 (by decide) ?_
      refine x_aload_n C dX11_digest_178 rfl rfl ?_
      refine x_getfield C dX11_digest_179 fX11_50 ((hF _).2.1 0 _ rfl) rfl ?_
      refine x_getfield C dX11_digest_182 fX11_297 ((hF _).2.2.2.1 0 _ rfl) rfl ?_
      refine x_iload C dX11_digest_185 rfl ?_
      refine x_baload C dX11_digest_187 ((hF _).2.2.2.1 4 _ rfl) (vp_in_nI (show i < 9 by omega) (by decide)) ?_
      rw [nI_clamp (show i < 2 ^ 31 by omega)]
      refine x_notb C dX11_digest_188 dX11_digest_191 dX11_digest_192 dX11_digest_195 (hk9.1 i) ?_
      rw [h_upI_sub (hk9.1 i)]
      refine x_iastore C dX11_digest_196 (x_ovg 0 rfl) (by unfold vp_in; decide) ?_
      refine x_to (x_st_ov 0 (Nat.le_of_ble_eq_true rfl)) ?_
      refine x_dup C dX11_digest_197 rfl ?_
      refine x_iconst (v := 2) C dX11_digest_198 (by decide) ?_
      refine x_aload_n C dX11_digest_199 rfl rfl ?_
      refine x_getfield C dX11_digest_200 fX11_50 ((hF _).2.1 0 _ rfl) rfl ?_
      refine x_getfield C dX11_digest_203 fX11_309 ((hF _).2.2.2.1 0 _ rfl) rfl ?_
      refine x_iload C dX11_digest_206 rfl ?_
      refine x_iaload C dX11_digest_208 ((hF _).2.2.2.1 2 _ rfl) (vp_in_nI (show i < 8 by omega) (by decide)) ?_
      rw [nI_clamp (show i < 2 ^ 31 by omega)]
      refine x_iastore C dX11_digest_209 (x_ovg 0 rfl) (by unfold vp_in; decide) ?_
      refine x_to (x_st_ov 0 (Nat.le_of_ble_eq_true rfl)) ?_
      refine x_dup C dX11_digest_210 rfl ?_
      refine x_iconst (v := 3) C dX11_digest_211 (by decide) ?_
      refine x_aload_n C dX11_digest_212 rfl rfl ?_
      refine x_getfield C dX11_digest_213 fX11_50 ((hF _).2.1 0 _ rfl) rfl ?_
      refine x_getfield C dX11_digest_216 fX11_312 ((hF _).2.2.2.1 0 _ rfl) rfl ?_
      refine x_iload C dX11_digest_219 rfl ?_
      refine x_iaload C dX11_digest_221 ((hF _).2.2.2.1 3 _ rfl) (vp_in_nI (show i < 8 by omega) (by decide)) ?_
      rw [nI_clamp (show i < 2 ^ 31 by omega)]
      refine x_iastore C dX11_digest_222 (x_ovg 0 rfl) (by unfold vp_in; decide) ?_
      refine x_to (x_st_ov 0 (Nat.le_of_ble_eq_true rfl)) ?_
      refine x_dup C dX11_digest_223 rfl ?_
      refine x_iconst (v := 4) C dX11_digest_224 (by decide) ?_
      refine x_aload_n C dX11_digest_225 rfl rfl ?_
      refine dg_gen hF ?_
      intro Mc Fc hA
      obtain ⟨hle, hob, hqb, hmb, ⟨sk, htb⟩, ⟨B0, hy0, y0, h2b⟩, hkp⟩ := id Fc
      refine x_callV0 C dX11_digest_226 kX11_364 (c_X11_ahead hO hP0 hQ0 hk9 hmb hqb hob h2b hm2) (hob 0 _ rfl) rfl (by decide) ⟨by omega, by omega⟩ (Nat.le_of_ble_eq_true rfl) ?_
      rintro _ _ ⟨rfl, rfl⟩
      refine x_iload C dX11_digest_229 rfl ?_
      refine x_callV1 C dX11_digest_231 kX11_368 (c_X10_untilFree hO hP0 hQ0 hk9 x_ov_bk (x_ov_far 9 hqb rfl hm2q) (x_ov_far 9 hob rfl hm2o) rfl rfl (x_ov_far 9 htb rfl htm2.symm) htm2 htq hto hm2q hm2o hi9) (x_ovg 0 rfl) rfl (by decide) ⟨by omega, by omega⟩ (Nat.le_of_ble_eq_true rfl) ?_
      rintro _ _ ⟨rfl, sk1, B1, y1, -, rfl⟩
      refine x_to (x_ov3 (by exact htm2) rfl) ?_
      refine dg_set hbd ha9 (dgF_tm hto htq htm hm2o hm2q hm2 htm2 Fc) (x_ov_far 9 (x_ov_far 1 hA rfl (Or.inr (show t + 1 ≤ a by omega))) rfl (Or.inr (show m2 + 9 ≤ a by omega))) ?_
      intro Mb hF
      refine x_iastore C dX11_digest_234 (x_ovg 0 rfl) (by unfold vp_in; decide) ?_
      refine x_to (x_st_ov 0 (Nat.le_of_ble_eq_true rfl)) ?_
      obtain ⟨e4, he4⟩ : ∃ v, v = h_fr P i 40 0 A := ⟨_, rfl⟩
      rw [← he4] at hE ⊢
      refine x_astore C dX11_digest_235 rfl (by decide) ?_
      refine x_aload C dX11_digest_237 rfl ?_
      refine x_astore C dX11_digest_239 rfl (by decide) ?_
      refine x_aload C dX11_digest_241 rfl ?_
      refine x_alen C dX11_digest_243 (x_ovg 0 rfl) (by decide) ?_
      refine x_topi 5 rfl ?_
      refine x_istore C dX11_digest_244 rfl (by decide) ?_
      refine x_iconst (v := 0) C dX11_digest_246 (by decide) ?_
      refine x_istore C dX11_digest_247 rfl (by decide) ?_
      refine x_pick (lv' := [(2, .long _), (0, .ref o), (4, .int _), (6, .ref _), (7, .int 5), (8, .int _)]) [0, 1, 2, 4, 5, 6] rfl ?_
      refine x_iload C dX11_digest_249 rfl ?_
      refine x_iload C dX11_digest_251 rfl ?_
      refine x_icmp_ge (tgt := 279) C dX11_digest_253 (by decide) (fun c253 => absurd c253 (by decide)) (fun c253 => ?_)
      refine x_aload C dX11_digest_256 rfl ?_
      refine x_iload C dX11_digest_258 rfl ?_
      refine x_iaload C dX11_digest_260 (x_ovg 0 rfl) (by unfold vp_in; decide) ?_
      refine x_istore C dX11_digest_261 rfl (by decide) ?_
      refine x_lload_n C dX11_digest_263 rfl rfl ?_
      refine x_ldc2 C dX11_digest_264 lX11_376 ?_
      refine x_lmul C dX11_digest_267 ?_
      refine x_iload C dX11_digest_268 rfl ?_
      refine x_i2l C dX11_digest_270 ?_
      refine x_ladd C dX11_digest_271 ?_
      refine x_lstore_n C dX11_digest_272 rfl (by decide) ?_
      refine x_iinc (v := 1) C dX11_digest_273 rfl (by decide) rfl (by decide) ?_
      refine x_goto (tgt := 249) C dX11_digest_276 (by decide) ?_
      refine x_pick (lv' := [(2, .long _), (0, .ref o), (4, .int _), (6, .ref _), (7, .int 5), (8, .int _)]) [0, 1, 2, 3, 4, 5] rfl ?_
      refine x_iload C dX11_digest_249 rfl ?_
      refine x_iload C dX11_digest_251 rfl ?_
      refine x_icmp_ge (tgt := 279) C dX11_digest_253 (by decide) (fun c253 => absurd c253 (by decide)) (fun c253 => ?_)
      refine x_aload C dX11_digest_256 rfl ?_
      refine x_iload C dX11_digest_258 rfl ?_
      refine x_iaload C dX11_digest_260 (x_ovg 0 rfl) (by unfold vp_in; decide) ?_
      refine x_istore C dX11_digest_261 rfl (by decide) ?_
      refine x_lload_n C dX11_digest_263 rfl rfl ?_
      refine x_ldc2 C dX11_digest_264 lX11_376 ?_
      refine x_lmul C dX11_digest_267 ?_
      refine x_iload C dX11_digest_268 rfl ?_
      refine x_i2l C dX11_digest_270 ?_
      refine x_ladd C dX11_digest_271 ?_
      refine x_lstore_n C dX11_digest_272 rfl (by decide) ?_
      refine x_iinc (v := 1) C dX11_digest_273 rfl (by decide) rfl (by decide) ?_
      refine x_goto (tgt := 249) C dX11_digest_276 (by decide) ?_
      refine x_pick (lv' := [(2, .long _), (0, .ref o), (4, .int _), (6, .ref _), (7, .int 5), (8, .int _)]) [0, 1, 2, 3, 4, 5] rfl ?_
      refine x_iload C dX11_digest_249 rfl ?_
      refine x_iload C dX11_digest_251 rfl ?_
      refine x_icmp_ge (tgt := 279) C dX11_digest_253 (by decide) (fun c253 => absurd c253 (by decide)) (fun c253 => ?_)
      refine x_aload C dX11_digest_256 rfl ?_
      refine x_iload C dX11_digest_258 rfl ?_
      refine x_iaload C dX11_digest_260 (x_ovg 0 rfl) (by unfold vp_in; decide) ?_
      refine x_istore C dX11_digest_261 rfl (by decide) ?_
      refine x_lload_n C dX11_digest_263 rfl rfl ?_
      refine x_ldc2 C dX11_digest_264 lX11_376 ?_
      refine x_lmul C dX11_digest_267 ?_
      refine x_iload C dX11_digest_268 rfl ?_
      refine x_i2l C dX11_digest_270 ?_
      refine x_ladd C dX11_digest_271 ?_
      refine x_lstore_n C dX11_digest_272 rfl (by decide) ?_
      refine x_iinc (v := 1) C dX11_digest_273 rfl (by decide) rfl (by decide) ?_
      refine x_goto (tgt := 249) C dX11_digest_276 (by decide) ?_
      refine x_pick (lv' := [(2, .long _), (0, .ref o), (4, .int _), (6, .ref _), (7, .int 5), (8, .int _)]) [0, 1, 2, 3, 4, 5] rfl ?_
      refine x_iload C dX11_digest_249 rfl ?_
      refine x_iload C dX11_digest_251 rfl ?_
      refine x_icmp_ge (tgt := 279) C dX11_digest_253 (by decide) (fun c253 => absurd c253 (by decide)) (fun c253 => ?_)
      refine x_aload C dX11_digest_256 rfl ?_
      refine x_iload C dX11_digest_258 rfl ?_
      refine x_iaload C dX11_digest_260 (x_ovg 0 rfl) (by unfold vp_in; decide) ?_
      refine x_istore C dX11_digest_261 rfl (by decide) ?_
      refine x_lload_n C dX11_digest_263 rfl rfl ?_
      refine x_ldc2 C dX11_digest_264 lX11_376 ?_
      refine x_lmul C dX11_digest_267 ?_
      refine x_iload C dX11_digest_268 rfl ?_
      refine x_i2l C dX11_digest_270 ?_
      refine x_ladd C dX11_digest_271 ?_
      refine x_lstore_n C dX11_digest_272 rfl (by decide) ?_
      refine x_iinc (v := 1) C dX11_digest_273 rfl (by decide) rfl (by decide) ?_
      refine x_goto (tgt := 249) C dX11_digest_276 (by decide) ?_
      refine x_pick (lv' := [(2, .long _), (0, .ref o), (4, .int _), (6, .ref _), (7, .int 5), (8, .int _)]) [0, 1, 2, 3, 4, 5] rfl ?_
      refine x_iload C dX11_digest_249 rfl ?_
      refine x_iload C dX11_digest_251 rfl ?_
      refine x_icmp_ge (tgt := 279) C dX11_digest_253 (by decide) (fun c253 => absurd c253 (by decide)) (fun c253 => ?_)
      refine x_aload C dX11_digest_256 rfl ?_
      refine x_iload C dX11_digest_258 rfl ?_
      refine x_iaload C dX11_digest_260 (x_ovg 0 rfl) (by unfold vp_in; decide) ?_
      refine x_istore C dX11_digest_261 rfl (by decide) ?_
      refine x_lload_n C dX11_digest_263 rfl rfl ?_
      refine x_ldc2 C dX11_digest_264 lX11_376 ?_
      refine x_lmul C dX11_digest_267 ?_
      refine x_iload C dX11_digest_268 rfl ?_
      refine x_i2l C dX11_digest_270 ?_
      refine x_ladd C dX11_digest_271 ?_
      refine x_lstore_n C dX11_digest_272 rfl (by decide) ?_
      refine x_iinc (v := 1) C dX11_digest_273 rfl (by decide) rfl (by decide) ?_
      refine x_goto (tgt := 249) C dX11_digest_276 (by decide) ?_
      refine x_pick (lv' := [(2, .long _), (0, .ref o), (4, .int _), (6, .ref _), (7, .int 5), (8, .int _)]) [0, 1, 2, 3, 4, 5] rfl ?_
      refine x_iload C dX11_digest_249 rfl ?_
      refine x_iload C dX11_digest_251 rfl ?_
      refine x_icmp_ge (tgt := 279) C dX11_digest_253 (by decide) (fun c253 => ?_) (fun c253 => absurd (by decide) c253)
      refine x_iinc (v := 1) C dX11_digest_279 rfl (by decide) rfl (by decide) ?_
      refine x_goto (tgt := 148) C dX11_digest_282 (by decide) ?_
      refine x_pick [0, 1, 2] rfl ?_
      refine x_widen (k := 1 + (i + 1)) (n := 8 + 5 * (i + 1)) (by omega) (by omega) ?_
      exact ih (i + 1) _ _ _ (by omega) (nI_1 i) (show _ = h_dig1 P A (h_it (h_dig1 P A) i (h_dig0 P A)) i by rw [← hz, ← hE]; rfl) (hF _)
  refine x_aload_n C dX11_digest_0 rfl rfl ?_
  refine x_iconst (v := 0) C dX11_digest_1 (by decide) ?_
  refine x_putfield C dX11_digest_2 fX11_60 (x_ovg 0 rfl) rfl rfl (Nat.le_of_ble_eq_true rfl) ?_
  refine x_to (x_st_ov 0 (Nat.le_of_ble_eq_true rfl)) ?_
  obtain ⟨Mx, hMx, Fx⟩ : ∃ Mx, Mx = x_ov M o [.inr (11, mdF 0 sz ea tk dp tp kd fr mn rl me q rd t m m2)] ∧ dgF M o q m t m2 (.inr (11, mdF 0 sz ea tk dp tp kd fr mn rl me q rd t m m2)) G P A hx z Mx := ⟨_, rfl, Nat.le_refl _, x_ov_bk, x_ov_far 1 hp rfl hqo, x_ov_far 1 hb rfl hdo.symm, ⟨sk, x_ov_far 1 ht rfl hto.symm⟩, ⟨T, hy, y9, x_ov_far 1 hn2 rfl hm2o.symm⟩, fun r hr h1 _ _ => x_ov_out (by show r < o ∨ o + 1 ≤ r; omega)⟩
  refine x_to (show _ = Mx by rw [hMx]; rfl) ?_
  refine x_bipush (v := 8) C dX11_digest_5 (by decide) ?_
  refine x_newarrI (N := 8) C dX11_digest_7 o_ai (by decide) rfl (by decide) (by omega) (by omega) ?_
  refine dg_new hbd Fx ?_
  intro Mb a hF ha9
  refine x_dup C dX11_digest_9 rfl ?_
  refine x_iconst (v := 0) C dX11_digest_10 (by decide) ?_
  refine x_aload_n C dX11_digest_11 rfl rfl ?_
  refine x_getfield C dX11_digest_12 fX11_35 ((hF _).2.1 0 _ rfl) rfl ?_
  refine x_getfield C dX11_digest_15 fX11_63 ((hF _).2.2.1 0 _ rfl) rfl ?_
  rw [hq0]
  refine x_iastore C dX11_digest_18 (x_ovg 0 rfl) (by unfold vp_in; decide) ?_
  refine x_to (x_st_ov 0 (Nat.le_of_ble_eq_true rfl)) ?_
  refine x_dup C dX11_digest_19 rfl ?_
  refine x_iconst (v := 1) C dX11_digest_20 (by decide) ?_
  refine x_aload_n C dX11_digest_21 rfl rfl ?_
  refine x_getfield C dX11_digest_22 fX11_35 ((hF _).2.1 0 _ rfl) rfl ?_
  refine x_getfield C dX11_digest_25 fX11_70 ((hF _).2.2.1 0 _ rfl) rfl ?_
  rw [hq1]
  refine x_iastore C dX11_digest_28 (x_ovg 0 rfl) (by unfold vp_in; decide) ?_
  refine x_to (x_st_ov 0 (Nat.le_of_ble_eq_true rfl)) ?_
  refine x_dup C dX11_digest_29 rfl ?_
  refine x_iconst (v := 2) C dX11_digest_30 (by decide) ?_
  refine x_aload_n C dX11_digest_31 rfl rfl ?_
  refine x_getfield C dX11_digest_32 fX11_50 ((hF _).2.1 0 _ rfl) rfl ?_
  refine x_getfield C dX11_digest_35 fX11_285 ((hF _).2.2.2.1 0 _ rfl) rfl ?_
  refine x_iastore C dX11_digest_38 (x_ovg 0 rfl) (by unfold vp_in; decide) ?_
  refine x_to (x_st_ov 0 (Nat.le_of_ble_eq_true rfl)) ?_
  refine x_dup C dX11_digest_39 rfl ?_
  refine x_iconst (v := 3) C dX11_digest_40 (by decide) ?_
  refine x_aload_n C dX11_digest_41 rfl rfl ?_
  refine x_getfield C dX11_digest_42 fX11_50 ((hF _).2.1 0 _ rfl) rfl ?_
  refine x_getfield C dX11_digest_45 fX11_288 ((hF _).2.2.2.1 0 _ rfl) rfl ?_
  refine x_iastore C dX11_digest_48 (x_ovg 0 rfl) (by unfold vp_in; decide) ?_
  refine x_to (x_st_ov 0 (Nat.le_of_ble_eq_true rfl)) ?_
  refine x_dup C dX11_digest_49 rfl ?_
  refine x_iconst (v := 4) C dX11_digest_50 (by decide) ?_
  refine x_aload_n C dX11_digest_51 rfl rfl ?_
  refine x_getfield C dX11_digest_52 fX11_50 ((hF _).2.1 0 _ rfl) rfl ?_
  refine x_callV0 C dX11_digest_55 kX11_291 (c_X10_manyBlocked hO hP0 hQ0 hk9 (hF _).2.2.2.1 (hF _).2.2.1 (hF _).2.1 rfl) ((hF _).2.2.2.1 0 _ rfl) rfl (by decide) ⟨by omega, by omega⟩ (Nat.le_of_ble_eq_true rfl) ?_
  rintro _ _ ⟨rfl, rfl⟩
  refine x_iastore C dX11_digest_58 (x_ovg 0 rfl) (by unfold vp_in; decide) ?_
  refine x_to (x_st_ov 0 (Nat.le_of_ble_eq_true rfl)) ?_
  refine x_dup C dX11_digest_59 rfl ?_
  refine x_iconst (v := 5) C dX11_digest_60 (by decide) ?_
  refine x_aload_n C dX11_digest_61 rfl rfl ?_
  refine x_getfield C dX11_digest_62 fX11_50 ((hF _).2.1 0 _ rfl) rfl ?_
  refine x_callV0 C dX11_digest_65 kX11_294 (c_X10_allHoney hO hP0 hQ0 hk9 (hF _).2.2.2.1 (hF _).2.2.1 (hF _).2.1 rfl) ((hF _).2.2.2.1 0 _ rfl) rfl (by decide) ⟨by omega, by omega⟩ (Nat.le_of_ble_eq_true rfl) ?_
  rintro _ _ ⟨rfl, rfl⟩
  refine x_iastore C dX11_digest_68 (x_ovg 0 rfl) (by unfold vp_in; decide) ?_
  refine x_to (x_st_ov 0 (Nat.le_of_ble_eq_true rfl)) ?_
  refine x_dup C dX11_digest_69 rfl ?_
  refine x_bipush (v := 6) C dX11_digest_70 (by decide) ?_
  refine x_aload_n C dX11_digest_72 rfl rfl ?_
  refine x_getfield C dX11_digest_73 fX11_50 ((hF _).2.1 0 _ rfl) rfl ?_
  refine x_getfield C dX11_digest_76 fX11_297 ((hF _).2.2.2.1 0 _ rfl) rfl ?_
  refine x_bipush (v := 8) C dX11_digest_79 (by decide) ?_
  refine x_baload C dX11_digest_81 ((hF _).2.2.2.1 4 _ rfl) (by unfold vp_in; decide) ?_
  rw [show (8 : Int32).toNatClampNeg = 8 from rfl]
  refine x_notb C dX11_digest_82 dX11_digest_85 dX11_digest_86 dX11_digest_89 (hk9.1 8) ?_
  refine x_iastore C dX11_digest_90 (x_ovg 0 rfl) (by unfold vp_in; decide) ?_
  refine x_to (x_st_ov 0 (Nat.le_of_ble_eq_true rfl)) ?_
  refine x_dup C dX11_digest_91 rfl ?_
  refine x_bipush (v := 7) C dX11_digest_92 (by decide) ?_
  refine x_aload_n C dX11_digest_94 rfl rfl ?_
  refine dg_gen hF ?_
  intro Mc Fc hA
  obtain ⟨hle, hob, hqb, hmb, ⟨sk, htb⟩, ⟨B0, hy0, y0, h2b⟩, hkp⟩ := id Fc
  refine x_callV0 C dX11_digest_95 kX11_371 (c_X11_best hO hP0 hQ0 hk9 hmb hqb hob hdo hqo hd htb htm htq hto h2b hm2 hm2o hm2q htm2) (hob 0 _ rfl) rfl (by decide) ⟨by omega, by omega⟩ (Nat.le_of_ble_eq_true rfl) ?_
  rintro _ _ ⟨rfl, sk1, B1, hy1, y1, rfl⟩
  refine dg_set hbd ha9 (dgF_tm hto htq htm hm2o hm2q hm2 htm2 Fc) (x_ov_far 9 (x_ov_far 1 hA rfl (Or.inr (show t + 1 ≤ a by omega))) rfl (Or.inr (show m2 + 9 ≤ a by omega))) ?_
  intro Mb hF
  refine x_iastore C dX11_digest_98 (x_ovg 0 rfl) (by unfold vp_in; decide) ?_
  refine x_to (x_st_ov 0 (Nat.le_of_ble_eq_true rfl)) ?_
  obtain ⟨e4, he4⟩ : ∃ v, v = h_blocked P A := ⟨_, rfl⟩
  rw [← he4] at hD0 ⊢
  obtain ⟨e5, he5⟩ : ∃ v, v = h_honey P A := ⟨_, rfl⟩
  rw [← he5] at hD0 ⊢
  obtain ⟨e7, he7⟩ : ∃ v, v = h_best P A := ⟨_, rfl⟩
  rw [← he7] at hD0 ⊢
  refine x_astore_n C dX11_digest_99 rfl rfl (by decide) ?_
  refine x_ldc2 C dX11_digest_100 lX11_374 ?_
  refine x_lstore_n C dX11_digest_103 rfl (by decide) ?_
  refine x_aload_n C dX11_digest_104 rfl rfl ?_
  refine x_astore C dX11_digest_105 rfl (by decide) ?_
  refine x_aload C dX11_digest_107 rfl ?_
  refine x_alen C dX11_digest_109 (x_ovg 0 rfl) (by decide) ?_
  refine x_topi 8 rfl ?_
  refine x_istore C dX11_digest_110 rfl (by decide) ?_
  refine x_iconst (v := 0) C dX11_digest_112 (by decide) ?_
  refine x_istore C dX11_digest_113 rfl (by decide) ?_
  refine x_pick (lv' := [(2, .long _), (0, .ref o), (4, .ref _), (5, .int 8), (6, .int _)]) [0, 1, 3, 4, 5] rfl ?_
  refine x_iload C dX11_digest_115 rfl ?_
  refine x_iload C dX11_digest_117 rfl ?_
  refine x_icmp_ge (tgt := 145) C dX11_digest_119 (by decide) (fun c119 => absurd c119 (by decide)) (fun c119 => ?_)
  refine x_aload C dX11_digest_122 rfl ?_
  refine x_iload C dX11_digest_124 rfl ?_
  refine x_iaload C dX11_digest_126 (x_ovg 0 rfl) (by unfold vp_in; decide) ?_
  refine x_istore C dX11_digest_127 rfl (by decide) ?_
  refine x_lload_n C dX11_digest_129 rfl rfl ?_
  refine x_ldc2 C dX11_digest_130 lX11_376 ?_
  refine x_lmul C dX11_digest_133 ?_
  refine x_iload C dX11_digest_134 rfl ?_
  refine x_i2l C dX11_digest_136 ?_
  refine x_ladd C dX11_digest_137 ?_
  refine x_lstore_n C dX11_digest_138 rfl (by decide) ?_
  refine x_iinc (v := 1) C dX11_digest_139 rfl (by decide) rfl (by decide) ?_
  refine x_goto (tgt := 115) C dX11_digest_142 (by decide) ?_
  refine x_pick (lv' := [(2, .long _), (0, .ref o), (4, .ref _), (5, .int 8), (6, .int _)]) [0, 1, 2, 3, 4] rfl ?_
  refine x_iload C dX11_digest_115 rfl ?_
  refine x_iload C dX11_digest_117 rfl ?_
  refine x_icmp_ge (tgt := 145) C dX11_digest_119 (by decide) (fun c119 => absurd c119 (by decide)) (fun c119 => ?_)
  refine x_aload C dX11_digest_122 rfl ?_
  refine x_iload C dX11_digest_124 rfl ?_
  refine x_iaload C dX11_digest_126 (x_ovg 0 rfl) (by unfold vp_in; decide) ?_
  refine x_istore C dX11_digest_127 rfl (by decide) ?_
  refine x_lload_n C dX11_digest_129 rfl rfl ?_
  refine x_ldc2 C dX11_digest_130 lX11_376 ?_
  refine x_lmul C dX11_digest_133 ?_
  refine x_iload C dX11_digest_134 rfl ?_
  refine x_i2l C dX11_digest_136 ?_
  refine x_ladd C dX11_digest_137 ?_
  refine x_lstore_n C dX11_digest_138 rfl (by decide) ?_
  refine x_iinc (v := 1) C dX11_digest_139 rfl (by decide) rfl (by decide) ?_
  refine x_goto (tgt := 115) C dX11_digest_142 (by decide) ?_
  refine x_pick (lv' := [(2, .long _), (0, .ref o), (4, .ref _), (5, .int 8), (6, .int _)]) [0, 1, 2, 3, 4] rfl ?_
  refine x_iload C dX11_digest_115 rfl ?_
  refine x_iload C dX11_digest_117 rfl ?_
  refine x_icmp_ge (tgt := 145) C dX11_digest_119 (by decide) (fun c119 => absurd c119 (by decide)) (fun c119 => ?_)
  refine x_aload C dX11_digest_122 rfl ?_
  refine x_iload C dX11_digest_124 rfl ?_
  refine x_iaload C dX11_digest_126 (x_ovg 0 rfl) (by unfold vp_in; decide) ?_
  refine x_istore C dX11_digest_127 rfl (by decide) ?_
  refine x_lload_n C dX11_digest_129 rfl rfl ?_
  refine x_ldc2 C dX11_digest_130 lX11_376 ?_
  refine x_lmul C dX11_digest_133 ?_
  refine x_iload C dX11_digest_134 rfl ?_
  refine x_i2l C dX11_digest_136 ?_
  refine x_ladd C dX11_digest_137 ?_
  refine x_lstore_n C dX11_digest_138 rfl (by decide) ?_
  refine x_iinc (v := 1) C dX11_digest_139 rfl (by decide) rfl (by decide) ?_
  refine x_goto (tgt := 115) C dX11_digest_142 (by decide) ?_
  refine x_pick (lv' := [(2, .long _), (0, .ref o), (4, .ref _), (5, .int 8), (6, .int _)]) [0, 1, 2, 3, 4] rfl ?_
  refine x_iload C dX11_digest_115 rfl ?_
  refine x_iload C dX11_digest_117 rfl ?_
  refine x_icmp_ge (tgt := 145) C dX11_digest_119 (by decide) (fun c119 => absurd c119 (by decide)) (fun c119 => ?_)
  refine x_aload C dX11_digest_122 rfl ?_
  refine x_iload C dX11_digest_124 rfl ?_
  refine x_iaload C dX11_digest_126 (x_ovg 0 rfl) (by unfold vp_in; decide) ?_
  refine x_istore C dX11_digest_127 rfl (by decide) ?_
  refine x_lload_n C dX11_digest_129 rfl rfl ?_
  refine x_ldc2 C dX11_digest_130 lX11_376 ?_
  refine x_lmul C dX11_digest_133 ?_
  refine x_iload C dX11_digest_134 rfl ?_
  refine x_i2l C dX11_digest_136 ?_
  refine x_ladd C dX11_digest_137 ?_
  refine x_lstore_n C dX11_digest_138 rfl (by decide) ?_
  refine x_iinc (v := 1) C dX11_digest_139 rfl (by decide) rfl (by decide) ?_
  refine x_goto (tgt := 115) C dX11_digest_142 (by decide) ?_
  refine x_pick (lv' := [(2, .long _), (0, .ref o), (4, .ref _), (5, .int 8), (6, .int _)]) [0, 1, 2, 3, 4] rfl ?_
  refine x_iload C dX11_digest_115 rfl ?_
  refine x_iload C dX11_digest_117 rfl ?_
  refine x_icmp_ge (tgt := 145) C dX11_digest_119 (by decide) (fun c119 => absurd c119 (by decide)) (fun c119 => ?_)
  refine x_aload C dX11_digest_122 rfl ?_
  refine x_iload C dX11_digest_124 rfl ?_
  refine x_iaload C dX11_digest_126 (x_ovg 0 rfl) (by unfold vp_in; decide) ?_
  refine x_istore C dX11_digest_127 rfl (by decide) ?_
  refine x_lload_n C dX11_digest_129 rfl rfl ?_
  refine x_ldc2 C dX11_digest_130 lX11_376 ?_
  refine x_lmul C dX11_digest_133 ?_
  refine x_iload C dX11_digest_134 rfl ?_
  refine x_i2l C dX11_digest_136 ?_
  refine x_ladd C dX11_digest_137 ?_
  refine x_lstore_n C dX11_digest_138 rfl (by decide) ?_
  refine x_iinc (v := 1) C dX11_digest_139 rfl (by decide) rfl (by decide) ?_
  refine x_goto (tgt := 115) C dX11_digest_142 (by decide) ?_
  refine x_pick (lv' := [(2, .long _), (0, .ref o), (4, .ref _), (5, .int 8), (6, .int _)]) [0, 1, 2, 3, 4] rfl ?_
  refine x_iload C dX11_digest_115 rfl ?_
  refine x_iload C dX11_digest_117 rfl ?_
  refine x_icmp_ge (tgt := 145) C dX11_digest_119 (by decide) (fun c119 => absurd c119 (by decide)) (fun c119 => ?_)
  refine x_aload C dX11_digest_122 rfl ?_
  refine x_iload C dX11_digest_124 rfl ?_
  refine x_iaload C dX11_digest_126 (x_ovg 0 rfl) (by unfold vp_in; decide) ?_
  refine x_istore C dX11_digest_127 rfl (by decide) ?_
  refine x_lload_n C dX11_digest_129 rfl rfl ?_
  refine x_ldc2 C dX11_digest_130 lX11_376 ?_
  refine x_lmul C dX11_digest_133 ?_
  refine x_iload C dX11_digest_134 rfl ?_
  refine x_i2l C dX11_digest_136 ?_
  refine x_ladd C dX11_digest_137 ?_
  refine x_lstore_n C dX11_digest_138 rfl (by decide) ?_
  refine x_iinc (v := 1) C dX11_digest_139 rfl (by decide) rfl (by decide) ?_
  refine x_goto (tgt := 115) C dX11_digest_142 (by decide) ?_
  refine x_pick (lv' := [(2, .long _), (0, .ref o), (4, .ref _), (5, .int 8), (6, .int _)]) [0, 1, 2, 3, 4] rfl ?_
  refine x_iload C dX11_digest_115 rfl ?_
  refine x_iload C dX11_digest_117 rfl ?_
  refine x_icmp_ge (tgt := 145) C dX11_digest_119 (by decide) (fun c119 => absurd c119 (by decide)) (fun c119 => ?_)
  refine x_aload C dX11_digest_122 rfl ?_
  refine x_iload C dX11_digest_124 rfl ?_
  refine x_iaload C dX11_digest_126 (x_ovg 0 rfl) (by unfold vp_in; decide) ?_
  refine x_istore C dX11_digest_127 rfl (by decide) ?_
  refine x_lload_n C dX11_digest_129 rfl rfl ?_
  refine x_ldc2 C dX11_digest_130 lX11_376 ?_
  refine x_lmul C dX11_digest_133 ?_
  refine x_iload C dX11_digest_134 rfl ?_
  refine x_i2l C dX11_digest_136 ?_
  refine x_ladd C dX11_digest_137 ?_
  refine x_lstore_n C dX11_digest_138 rfl (by decide) ?_
  refine x_iinc (v := 1) C dX11_digest_139 rfl (by decide) rfl (by decide) ?_
  refine x_goto (tgt := 115) C dX11_digest_142 (by decide) ?_
  refine x_pick (lv' := [(2, .long _), (0, .ref o), (4, .ref _), (5, .int 8), (6, .int _)]) [0, 1, 2, 3, 4] rfl ?_
  refine x_iload C dX11_digest_115 rfl ?_
  refine x_iload C dX11_digest_117 rfl ?_
  refine x_icmp_ge (tgt := 145) C dX11_digest_119 (by decide) (fun c119 => absurd c119 (by decide)) (fun c119 => ?_)
  refine x_aload C dX11_digest_122 rfl ?_
  refine x_iload C dX11_digest_124 rfl ?_
  refine x_iaload C dX11_digest_126 (x_ovg 0 rfl) (by unfold vp_in; decide) ?_
  refine x_istore C dX11_digest_127 rfl (by decide) ?_
  refine x_lload_n C dX11_digest_129 rfl rfl ?_
  refine x_ldc2 C dX11_digest_130 lX11_376 ?_
  refine x_lmul C dX11_digest_133 ?_
  refine x_iload C dX11_digest_134 rfl ?_
  refine x_i2l C dX11_digest_136 ?_
  refine x_ladd C dX11_digest_137 ?_
  refine x_lstore_n C dX11_digest_138 rfl (by decide) ?_
  refine x_iinc (v := 1) C dX11_digest_139 rfl (by decide) rfl (by decide) ?_
  refine x_goto (tgt := 115) C dX11_digest_142 (by decide) ?_
  refine x_pick (lv' := [(2, .long _), (0, .ref o), (4, .ref _), (5, .int 8), (6, .int _)]) [0, 1, 2, 3, 4] rfl ?_
  refine x_iload C dX11_digest_115 rfl ?_
  refine x_iload C dX11_digest_117 rfl ?_
  refine x_icmp_ge (tgt := 145) C dX11_digest_119 (by decide) (fun c119 => ?_) (fun c119 => absurd (by decide) c119)
  refine x_iconst (v := 0) C dX11_digest_145 (by decide) ?_
  refine x_istore C dX11_digest_146 rfl (by decide) ?_
  refine x_pick [0, 1, 2] rfl ?_
  exact lp1 (p_nd P) 0 0 _ _ (by omega) rfl (show _ = h_dig0 P A by rw [← hD0]; rfl) (hF _)
