set_option maxHeartbeats 4000000 in
set_option maxRecDepth 100000 in
theorem S_feed {K : x_K} {l : Launch} {Y0 : x_Y} {nm9 : String} (hO : x_Ok Y0) (C : x_Ctx K l Y0 ⟨RL, nm9, ""⟩ cL_law 9 2048 601024 7293034) {b c i L cells slots : Nat} {xs : Nat → Int32} (hX9 : va_X b L xs Y0.1 Y0.1.heap) (hb9 : b < Y0.2.2.2) (hi : i + 6 ≤ L) (hL : L ≤ 3072) (hc9 : cells + 40 ≤ 601024 ∧ slots + 1600 ≤ 7293034) {M : x_M} {x1 x2 x3 x4 x5 : Int32} (e1 : xs (nI i + 1).toNatClampNeg = x1) (e2 : xs (nI i + 2).toNatClampNeg = x2) (e3 : xs (nI i + 3).toNatClampNeg = x3) (e4 : xs (nI i + 4).toNatClampNeg = x4) (e5 : xs (nI i + 5).toNatClampNeg = x5) {k r : Int32} {n n' : Nat} {f f' : Nat → Int32} {P : PL} {A A' : HS} {ep th : Int32} {dm mcm msm : Nat} (hh : x_H l Y0 yL_feed cL_feed 8 (some .int) [(0, 16, 19, 13)] 9 1 6 [.ref c, .int x1, .int x2, .int x3, .int x4, .int x5, .ref (c + 142)] M (fun u M1 => u = some (.int k) ∧ hQ M1 c k r.toInt64 n' f' A' n f P A ep th)) (hm : ∀ M1, wM M1 (c + 96) th n f P A ep → x_C l Y0 yX11_feed cX11_feed 8 (some .int) dm mcm msm [.ref (c + 96), .int x1, .int x2, .int x3, .int x4, .int x5] M1 (fun u M2 => u = some (.int r) ∧ mQ M1 M2 (c + 96) k n' f' P A' ep)) (hdm : dm + 1 ≤ 2048 ∧ mcm ≤ 5 ∧ msm ≤ 10) (hn : n' ≤ 2000) (hf : k_by f') (hP : p_ok P) (hk9 : h_ok P A') (kk : ∀ M1, wL M1 c → x_X K 9 (cells + 40) (slots + 1600) 1846 (lvL b c i) [] M1) : x_X K 9 cells slots 200 (lvL b c i) [] M := by
  refine x_aload_n C dL_law_200 rfl rfl ?_
  refine x_aload_n C dL_law_201 rfl rfl ?_
  refine x_iload C dL_law_202 rfl ?_
  refine x_iconst (v := 1) C dL_law_204 (by decide) ?_
  refine x_iadd C dL_law_205 ?_
  refine x_sld C dL_law_206 hX9 hb9 (l_in (k := 1) rfl (by decide) hi hL) ?_
  rw [e1]
  refine x_aload_n C dL_law_207 rfl rfl ?_
  refine x_iload C dL_law_208 rfl ?_
  refine x_iconst (v := 2) C dL_law_210 (by decide) ?_
  refine x_iadd C dL_law_211 ?_
  refine x_sld C dL_law_212 hX9 hb9 (l_in (k := 2) rfl (by decide) hi hL) ?_
  rw [e2]
  refine x_aload_n C dL_law_213 rfl rfl ?_
  refine x_iload C dL_law_214 rfl ?_
  refine x_iconst (v := 3) C dL_law_216 (by decide) ?_
  refine x_iadd C dL_law_217 ?_
  refine x_sld C dL_law_218 hX9 hb9 (l_in (k := 3) rfl (by decide) hi hL) ?_
  rw [e3]
  refine x_aload_n C dL_law_219 rfl rfl ?_
  refine x_iload C dL_law_220 rfl ?_
  refine x_iconst (v := 4) C dL_law_222 (by decide) ?_
  refine x_iadd C dL_law_223 ?_
  refine x_sld C dL_law_224 hX9 hb9 (l_in (k := 4) rfl (by decide) hi hL) ?_
  rw [e4]
  refine x_aload_n C dL_law_225 rfl rfl ?_
  refine x_iload C dL_law_226 rfl ?_
  refine x_iconst (v := 5) C dL_law_228 (by decide) ?_
  refine x_iadd C dL_law_229 ?_
  refine x_sld C dL_law_230 hX9 hb9 (l_in (k := 5) rfl (by decide) hi hL) ?_
  rw [e5]
  refine x_aload_n C dL_law_231 rfl rfl ?_
  refine x_callSH (As := [_, _, _, _, _, _, _]) C dL_law_232 hL_97 hh rfl rfl (by decide) ⟨by omega, by omega⟩ (Nat.le_of_ble_eq_true rfl) ?_
  rintro _ M1 ⟨rfl, q1⟩
  refine x_istore C dL_law_235 rfl (by decide) ?_
  refine x_aload_n C dL_law_237 rfl rfl ?_
  refine x_aload_n C dL_law_238 rfl rfl ?_
  refine x_iload C dL_law_239 rfl ?_
  refine x_iconst (v := 1) C dL_law_241 (by decide) ?_
  refine x_iadd C dL_law_242 ?_
  refine x_sld C dL_law_243 hX9 hb9 (l_in (k := 1) rfl (by decide) hi hL) ?_
  rw [e1]
  refine x_aload_n C dL_law_244 rfl rfl ?_
  refine x_iload C dL_law_245 rfl ?_
  refine x_iconst (v := 2) C dL_law_247 (by decide) ?_
  refine x_iadd C dL_law_248 ?_
  refine x_sld C dL_law_249 hX9 hb9 (l_in (k := 2) rfl (by decide) hi hL) ?_
  rw [e2]
  refine x_aload_n C dL_law_250 rfl rfl ?_
  refine x_iload C dL_law_251 rfl ?_
  refine x_iconst (v := 3) C dL_law_253 (by decide) ?_
  refine x_iadd C dL_law_254 ?_
  refine x_sld C dL_law_255 hX9 hb9 (l_in (k := 3) rfl (by decide) hi hL) ?_
  rw [e3]
  refine x_aload_n C dL_law_256 rfl rfl ?_
  refine x_iload C dL_law_257 rfl ?_
  refine x_iconst (v := 4) C dL_law_259 (by decide) ?_
  refine x_iadd C dL_law_260 ?_
  refine x_sld C dL_law_261 hX9 hb9 (l_in (k := 4) rfl (by decide) hi hL) ?_
  rw [e4]
  refine x_aload_n C dL_law_262 rfl rfl ?_
  refine x_iload C dL_law_263 rfl ?_
  refine x_iconst (v := 5) C dL_law_265 (by decide) ?_
  refine x_iadd C dL_law_266 ?_
  refine x_sld C dL_law_267 hX9 hb9 (l_in (k := 5) rfl (by decide) hi hL) ?_
  rw [e5]
  obtain ⟨sz, ea, tk, dp, tp, kd, fr, mn, rl, me, q, rd, t, m, m2, ho⟩ := wM_o q1.2.1
  refine x_callV (As := [_, _, _, _, _]) C dL_law_268 kL_102 (hm M1 q1.2.1) (ho 0 _ rfl) rfl rfl rfl hdm.1 ⟨by omega, by omega⟩ (Nat.le_of_ble_eq_true rfl) ?_
  rintro _ M2 ⟨rfl, q2⟩
  refine x_istore C dL_law_271 rfl (by decide) ?_
  refine x_aload_n C dL_law_273 rfl rfl ?_
  obtain ⟨sz, ea, tk, dp, tp, kd, fr, mn, rl, me, q, rd, t, m, m2, ho2⟩ := wM_o q2.1
  refine x_callV0 C dL_law_274 kL_103 (c_X11_thrown hO ho2) (ho2 0 _ rfl) rfl (by decide) ⟨by omega, by omega⟩ (Nat.le_of_ble_eq_true rfl) ?_
  rintro _ _ ⟨rfl, rfl⟩
  refine x_iload C dL_law_277 rfl ?_
  refine x_icmp_eq (tgt := 284) C dL_law_279 (by decide) (fun _ => ?_) (fun q => absurd rfl q)
  obtain ⟨g, q3, q4⟩ := hQ_end q1 q2 hn hf hP hk9
  refine x_iload C dL_law_284 rfl ?_
  refine x_if_ne (tgt := 301) C dL_law_286 (by decide) (fun c1 => ?_) (fun c1 => ?_)
  · refine x_goto (tgt := 1846) C dL_law_301 (by decide) ?_
    refine x_take 5 ?_
    refine x_widen (k := cells + 40) (n := slots + 1600) (by omega) (by omega) ?_
    exact kk _ ⟨n', f', P, A', ep, k, g, q3⟩
  · refine x_aload_n C dL_law_289 rfl rfl ?_
    refine x_iconst (v := 0) C dL_law_290 (by decide) ?_
    refine x_laload C dL_law_291 (q3.2.2.2.2.1 0 _ rfl) h_in0 ?_
    rw [show (0 : Int32).toNatClampNeg = 0 by decide, q4 c1]
    refine x_iload C dL_law_292 rfl ?_
    refine x_i2l C dL_law_294 ?_
    refine x_lcmp C dL_law_295 ?_
    refine x_if_eq (tgt := 301) C dL_law_296 (by decide) (fun _ => ?_) (fun q => absurd ((lg_cmp_eq _ _).mpr rfl) q)
    refine x_goto (tgt := 1846) C dL_law_301 (by decide) ?_
    refine x_take 5 ?_
    refine x_widen (k := cells + 40) (n := slots + 1600) (by omega) (by omega) ?_
    exact kk _ ⟨n', f', P, A', ep, k, g, q3⟩
set_option maxHeartbeats 4000000 in
set_option maxRecDepth 100000 in
theorem S_trim {K : x_K} {l : Launch} {Y0 : x_Y} {nm9 : String} (hO : x_Ok Y0) (C : x_Ctx K l Y0 ⟨RL, nm9, ""⟩ cL_law 9 2048 601024 7293034) {b c i L cells slots : Nat} {xs : Nat → Int32} (hX9 : va_X b L xs Y0.1 Y0.1.heap) (hb9 : b < Y0.2.2.2) (hi : i + 6 ≤ L) (hL : L ≤ 3072) (hc9 : cells + 40 ≤ 601024 ∧ slots + 1600 ≤ 7293034) {M : x_M} {x1 : Int32} (e1 : xs (nI i + 1).toNatClampNeg = x1) {k r : Int32} {n n' : Nat} {f f' : Nat → Int32} {P : PL} {A A' : HS} {ep th : Int32} {dm mcm msm : Nat} (hh : x_H l Y0 yL_trim cL_trim 4 (some .int) [(0, 9, 12, 19)] 9 1 6 [.ref c, .int x1, .ref (c + 142)] M (fun u M1 => u = some (.int k) ∧ hQ M1 c k r.toInt64 n' f' A' n f P A ep th)) (hm : ∀ M1, wM M1 (c + 96) th n f P A ep → x_C l Y0 yX11_trim cX11_trim 2 (some .int) dm mcm msm [.ref (c + 96), .int x1] M1 (fun u M2 => u = some (.int r) ∧ mQ M1 M2 (c + 96) k n' f' P A' ep)) (hdm : dm + 1 ≤ 2048 ∧ mcm ≤ 5 ∧ msm ≤ 10) (hn : n' ≤ 2000) (hf : k_by f') (hP : p_ok P) (hk9 : h_ok P A') (kk : ∀ M1, wL M1 c → x_X K 9 (cells + 40) (slots + 1600) 1846 (lvL b c i) [] M1) : x_X K 9 cells slots 304 (lvL b c i) [] M := by
  refine x_aload_n C dL_law_304 rfl rfl ?_
  refine x_aload_n C dL_law_305 rfl rfl ?_
  refine x_iload C dL_law_306 rfl ?_
  refine x_iconst (v := 1) C dL_law_308 (by decide) ?_
  refine x_iadd C dL_law_309 ?_
  refine x_sld C dL_law_310 hX9 hb9 (l_in (k := 1) rfl (by decide) hi hL) ?_
  rw [e1]
  refine x_aload_n C dL_law_311 rfl rfl ?_
  refine x_callSH (As := [_, _, _]) C dL_law_312 hL_106 hh rfl rfl (by decide) ⟨by omega, by omega⟩ (Nat.le_of_ble_eq_true rfl) ?_
  rintro _ M1 ⟨rfl, q1⟩
  refine x_istore C dL_law_315 rfl (by decide) ?_
  refine x_aload_n C dL_law_317 rfl rfl ?_
  refine x_aload_n C dL_law_318 rfl rfl ?_
  refine x_iload C dL_law_319 rfl ?_
  refine x_iconst (v := 1) C dL_law_321 (by decide) ?_
  refine x_iadd C dL_law_322 ?_
  refine x_sld C dL_law_323 hX9 hb9 (l_in (k := 1) rfl (by decide) hi hL) ?_
  rw [e1]
  obtain ⟨sz, ea, tk, dp, tp, kd, fr, mn, rl, me, q, rd, t, m, m2, ho⟩ := wM_o q1.2.1
  refine x_callV (As := [_]) C dL_law_324 kL_109 (hm M1 q1.2.1) (ho 0 _ rfl) rfl rfl rfl hdm.1 ⟨by omega, by omega⟩ (Nat.le_of_ble_eq_true rfl) ?_
  rintro _ M2 ⟨rfl, q2⟩
  refine x_istore C dL_law_327 rfl (by decide) ?_
  refine x_aload_n C dL_law_329 rfl rfl ?_
  obtain ⟨sz, ea, tk, dp, tp, kd, fr, mn, rl, me, q, rd, t, m, m2, ho2⟩ := wM_o q2.1
  refine x_callV0 C dL_law_330 kL_103 (c_X11_thrown hO ho2) (ho2 0 _ rfl) rfl (by decide) ⟨by omega, by omega⟩ (Nat.le_of_ble_eq_true rfl) ?_
  rintro _ _ ⟨rfl, rfl⟩
  refine x_iload C dL_law_333 rfl ?_
  refine x_icmp_eq (tgt := 340) C dL_law_335 (by decide) (fun _ => ?_) (fun q => absurd rfl q)
  obtain ⟨g, q3, q4⟩ := hQ_end q1 q2 hn hf hP hk9
  refine x_iload C dL_law_340 rfl ?_
  refine x_if_ne (tgt := 357) C dL_law_342 (by decide) (fun c1 => ?_) (fun c1 => ?_)
  · refine x_goto (tgt := 1846) C dL_law_357 (by decide) ?_
    refine x_take 5 ?_
    refine x_widen (k := cells + 40) (n := slots + 1600) (by omega) (by omega) ?_
    exact kk _ ⟨n', f', P, A', ep, k, g, q3⟩
  · refine x_aload_n C dL_law_345 rfl rfl ?_
    refine x_iconst (v := 0) C dL_law_346 (by decide) ?_
    refine x_laload C dL_law_347 (q3.2.2.2.2.1 0 _ rfl) h_in0 ?_
    rw [show (0 : Int32).toNatClampNeg = 0 by decide, q4 c1]
    refine x_iload C dL_law_348 rfl ?_
    refine x_i2l C dL_law_350 ?_
    refine x_lcmp C dL_law_351 ?_
    refine x_if_eq (tgt := 357) C dL_law_352 (by decide) (fun _ => ?_) (fun q => absurd ((lg_cmp_eq _ _).mpr rfl) q)
    refine x_goto (tgt := 1846) C dL_law_357 (by decide) ?_
    refine x_take 5 ?_
    refine x_widen (k := cells + 40) (n := slots + 1600) (by omega) (by omega) ?_
    exact kk _ ⟨n', f', P, A', ep, k, g, q3⟩
set_option maxHeartbeats 4000000 in
set_option maxRecDepth 100000 in
theorem S_honeyOf {K : x_K} {l : Launch} {Y0 : x_Y} {nm9 : String} (hO : x_Ok Y0) (C : x_Ctx K l Y0 ⟨RL, nm9, ""⟩ cL_law 9 2048 601024 7293034) {b c i L cells slots : Nat} {xs : Nat → Int32} (hX9 : va_X b L xs Y0.1 Y0.1.heap) (hb9 : b < Y0.2.2.2) (hi : i + 6 ≤ L) (hL : L ≤ 3072) (hc9 : cells + 40 ≤ 601024 ∧ slots + 1600 ≤ 7293034) {M : x_M} {x1 : Int32} (e1 : xs (nI i + 1).toNatClampNeg = x1) {k r : Int32} {n n' : Nat} {f f' : Nat → Int32} {P : PL} {A A' : HS} {ep th : Int32} {dm mcm msm : Nat} (hh : x_H l Y0 yL_honeyOf cL_honeyOf 4 (some .int) [(0, 9, 12, 24)] 9 1 6 [.ref c, .int x1, .ref (c + 142)] M (fun u M1 => u = some (.int k) ∧ hQ M1 c k r.toInt64 n' f' A' n f P A ep th)) (hm : ∀ M1, wM M1 (c + 96) th n f P A ep → x_C l Y0 yX11_honeyOf cX11_honeyOf 2 (some .int) dm mcm msm [.ref (c + 96), .int x1] M1 (fun u M2 => u = some (.int r) ∧ mQ M1 M2 (c + 96) k n' f' P A' ep)) (hdm : dm + 1 ≤ 2048 ∧ mcm ≤ 5 ∧ msm ≤ 10) (hn : n' ≤ 2000) (hf : k_by f') (hP : p_ok P) (hk9 : h_ok P A') (kk : ∀ M1, wL M1 c → x_X K 9 (cells + 40) (slots + 1600) 1846 (lvL b c i) [] M1) : x_X K 9 cells slots 477 (lvL b c i) [] M := by
  refine x_aload_n C dL_law_477 rfl rfl ?_
  refine x_aload_n C dL_law_478 rfl rfl ?_
  refine x_iload C dL_law_479 rfl ?_
  refine x_iconst (v := 1) C dL_law_481 (by decide) ?_
  refine x_iadd C dL_law_482 ?_
  refine x_sld C dL_law_483 hX9 hb9 (l_in (k := 1) rfl (by decide) hi hL) ?_
  rw [e1]
  refine x_aload_n C dL_law_484 rfl rfl ?_
  refine x_callSH (As := [_, _, _]) C dL_law_485 hL_147 hh rfl rfl (by decide) ⟨by omega, by omega⟩ (Nat.le_of_ble_eq_true rfl) ?_
  rintro _ M1 ⟨rfl, q1⟩
  refine x_istore C dL_law_488 rfl (by decide) ?_
  refine x_aload_n C dL_law_490 rfl rfl ?_
  refine x_aload_n C dL_law_491 rfl rfl ?_
  refine x_iload C dL_law_492 rfl ?_
  refine x_iconst (v := 1) C dL_law_494 (by decide) ?_
  refine x_iadd C dL_law_495 ?_
  refine x_sld C dL_law_496 hX9 hb9 (l_in (k := 1) rfl (by decide) hi hL) ?_
  rw [e1]
  obtain ⟨sz, ea, tk, dp, tp, kd, fr, mn, rl, me, q, rd, t, m, m2, ho⟩ := wM_o q1.2.1
  refine x_callV (As := [_]) C dL_law_497 kL_149 (hm M1 q1.2.1) (ho 0 _ rfl) rfl rfl rfl hdm.1 ⟨by omega, by omega⟩ (Nat.le_of_ble_eq_true rfl) ?_
  rintro _ M2 ⟨rfl, q2⟩
  refine x_istore C dL_law_500 rfl (by decide) ?_
  refine x_aload_n C dL_law_502 rfl rfl ?_
  obtain ⟨sz, ea, tk, dp, tp, kd, fr, mn, rl, me, q, rd, t, m, m2, ho2⟩ := wM_o q2.1
  refine x_callV0 C dL_law_503 kL_103 (c_X11_thrown hO ho2) (ho2 0 _ rfl) rfl (by decide) ⟨by omega, by omega⟩ (Nat.le_of_ble_eq_true rfl) ?_
  rintro _ _ ⟨rfl, rfl⟩
  refine x_iload C dL_law_506 rfl ?_
  refine x_icmp_eq (tgt := 513) C dL_law_508 (by decide) (fun _ => ?_) (fun q => absurd rfl q)
  obtain ⟨g, q3, q4⟩ := hQ_end q1 q2 hn hf hP hk9
  refine x_iload C dL_law_513 rfl ?_
  refine x_if_ne (tgt := 530) C dL_law_515 (by decide) (fun c1 => ?_) (fun c1 => ?_)
  · refine x_goto (tgt := 1846) C dL_law_530 (by decide) ?_
    refine x_take 5 ?_
    refine x_widen (k := cells + 40) (n := slots + 1600) (by omega) (by omega) ?_
    exact kk _ ⟨n', f', P, A', ep, k, g, q3⟩
  · refine x_aload_n C dL_law_518 rfl rfl ?_
    refine x_iconst (v := 0) C dL_law_519 (by decide) ?_
    refine x_laload C dL_law_520 (q3.2.2.2.2.1 0 _ rfl) h_in0 ?_
    rw [show (0 : Int32).toNatClampNeg = 0 by decide, q4 c1]
    refine x_iload C dL_law_521 rfl ?_
    refine x_i2l C dL_law_523 ?_
    refine x_lcmp C dL_law_524 ?_
    refine x_if_eq (tgt := 530) C dL_law_525 (by decide) (fun _ => ?_) (fun q => absurd ((lg_cmp_eq _ _).mpr rfl) q)
    refine x_goto (tgt := 1846) C dL_law_530 (by decide) ?_
    refine x_take 5 ?_
    refine x_widen (k := cells + 40) (n := slots + 1600) (by omega) (by omega) ?_
    exact kk _ ⟨n', f', P, A', ep, k, g, q3⟩
set_option maxHeartbeats 4000000 in
set_option maxRecDepth 100000 in
theorem S_isAwake {K : x_K} {l : Launch} {Y0 : x_Y} {nm9 : String} (hO : x_Ok Y0) (C : x_Ctx K l Y0 ⟨RL, nm9, ""⟩ cL_law 9 2048 601024 7293034) {b c i L cells slots : Nat} {xs : Nat → Int32} (hX9 : va_X b L xs Y0.1 Y0.1.heap) (hb9 : b < Y0.2.2.2) (hi : i + 6 ≤ L) (hL : L ≤ 3072) (hc9 : cells + 40 ≤ 601024 ∧ slots + 1600 ≤ 7293034) {M : x_M} {x1 : Int32} (e1 : xs (nI i + 1).toNatClampNeg = x1) {k r : Int32} {n n' : Nat} {f f' : Nat → Int32} {P : PL} {A A' : HS} {ep th : Int32} {dm mcm msm : Nat} (hh : x_H l Y0 yL_isAwake cL_isAwake 4 (some .int) [(0, 16, 19, 24)] 9 1 6 [.ref c, .int x1, .ref (c + 142)] M (fun u M1 => u = some (.int k) ∧ hQ M1 c k (if r = 0 then (0 : Int64) else 1) n' f' A' n f P A ep th)) (hm : ∀ M1, wM M1 (c + 96) th n f P A ep → x_C l Y0 yX11_isAwake cX11_isAwake 2 (some .boolean) dm mcm msm [.ref (c + 96), .int x1] M1 (fun u M2 => u = some (.int r) ∧ mQ M1 M2 (c + 96) k n' f' P A' ep)) (hdm : dm + 1 ≤ 2048 ∧ mcm ≤ 5 ∧ msm ≤ 10) (hn : n' ≤ 2000) (hf : k_by f') (hP : p_ok P) (hk9 : h_ok P A') (kk : ∀ M1, wL M1 c → x_X K 9 (cells + 40) (slots + 1600) 1846 (lvL b c i) [] M1) : x_X K 9 cells slots 533 (lvL b c i) [] M := by
  refine x_aload_n C dL_law_533 rfl rfl ?_
  refine x_aload_n C dL_law_534 rfl rfl ?_
  refine x_iload C dL_law_535 rfl ?_
  refine x_iconst (v := 1) C dL_law_537 (by decide) ?_
  refine x_iadd C dL_law_538 ?_
  refine x_sld C dL_law_539 hX9 hb9 (l_in (k := 1) rfl (by decide) hi hL) ?_
  rw [e1]
  refine x_aload_n C dL_law_540 rfl rfl ?_
  refine x_callSH (As := [_, _, _]) C dL_law_541 hL_150 hh rfl rfl (by decide) ⟨by omega, by omega⟩ (Nat.le_of_ble_eq_true rfl) ?_
  rintro _ M1 ⟨rfl, q1⟩
  refine x_istore C dL_law_544 rfl (by decide) ?_
  refine x_aload_n C dL_law_546 rfl rfl ?_
  refine x_aload_n C dL_law_547 rfl rfl ?_
  refine x_iload C dL_law_548 rfl ?_
  refine x_iconst (v := 1) C dL_law_550 (by decide) ?_
  refine x_iadd C dL_law_551 ?_
  refine x_sld C dL_law_552 hX9 hb9 (l_in (k := 1) rfl (by decide) hi hL) ?_
  rw [e1]
  obtain ⟨sz, ea, tk, dp, tp, kd, fr, mn, rl, me, q, rd, t, m, m2, ho⟩ := wM_o q1.2.1
  refine x_callV (As := [_]) C dL_law_553 kL_152 (hm M1 q1.2.1) (ho 0 _ rfl) rfl rfl rfl hdm.1 ⟨by omega, by omega⟩ (Nat.le_of_ble_eq_true rfl) ?_
  rintro _ M2 ⟨rfl, q2⟩
  refine x_istore C dL_law_556 rfl (by decide) ?_
  refine x_aload_n C dL_law_558 rfl rfl ?_
  obtain ⟨sz, ea, tk, dp, tp, kd, fr, mn, rl, me, q, rd, t, m, m2, ho2⟩ := wM_o q2.1
  refine x_callV0 C dL_law_559 kL_103 (c_X11_thrown hO ho2) (ho2 0 _ rfl) rfl (by decide) ⟨by omega, by omega⟩ (Nat.le_of_ble_eq_true rfl) ?_
  rintro _ _ ⟨rfl, rfl⟩
  refine x_iload C dL_law_562 rfl ?_
  refine x_icmp_eq (tgt := 569) C dL_law_564 (by decide) (fun _ => ?_) (fun q => absurd rfl q)
  obtain ⟨g, q3, q4⟩ := hQ_end q1 q2 hn hf hP hk9
  refine x_iload C dL_law_569 rfl ?_
  refine x_if_ne (tgt := 593) C dL_law_571 (by decide) (fun c1 => ?_) (fun c1 => ?_)
  · refine x_goto (tgt := 1846) C dL_law_593 (by decide) ?_
    refine x_take 5 ?_
    refine x_widen (k := cells + 40) (n := slots + 1600) (by omega) (by omega) ?_
    exact kk _ ⟨n', f', P, A', ep, k, g, q3⟩
  · refine x_aload_n C dL_law_574 rfl rfl ?_
    refine x_iconst (v := 0) C dL_law_575 (by decide) ?_
    refine x_laload C dL_law_576 (q3.2.2.2.2.1 0 _ rfl) h_in0 ?_
    rw [show (0 : Int32).toNatClampNeg = 0 by decide, q4 c1]
    refine x_iload C dL_law_577 rfl ?_
    refine x_if_eq (tgt := 586) C dL_law_579 (by decide) (fun c2 => ?_) (fun c2 => ?_)
    · rw [if_pos c2]
      refine x_lconst (v := 0) C dL_law_586 (by decide) ?_
      refine x_lcmp C dL_law_587 ?_
      refine x_if_eq (tgt := 593) C dL_law_588 (by decide) (fun _ => ?_) (fun q => absurd ((lg_cmp_eq _ _).mpr rfl) q)
      refine x_goto (tgt := 1846) C dL_law_593 (by decide) ?_
      refine x_take 5 ?_
      refine x_widen (k := cells + 40) (n := slots + 1600) (by omega) (by omega) ?_
      exact kk _ ⟨n', f', P, A', ep, k, g, q3⟩
    · rw [if_neg c2]
      refine x_lconst (v := 1) C dL_law_582 (by decide) ?_
      refine x_goto (tgt := 587) C dL_law_583 (by decide) ?_
      refine x_lcmp C dL_law_587 ?_
      refine x_if_eq (tgt := 593) C dL_law_588 (by decide) (fun _ => ?_) (fun q => absurd ((lg_cmp_eq _ _).mpr rfl) q)
      refine x_goto (tgt := 1846) C dL_law_593 (by decide) ?_
      refine x_take 5 ?_
      refine x_widen (k := cells + 40) (n := slots + 1600) (by omega) (by omega) ?_
      exact kk _ ⟨n', f', P, A', ep, k, g, q3⟩
set_option maxHeartbeats 4000000 in
set_option maxRecDepth 100000 in
theorem S_blockedBy {K : x_K} {l : Launch} {Y0 : x_Y} {nm9 : String} (hO : x_Ok Y0) (C : x_Ctx K l Y0 ⟨RL, nm9, ""⟩ cL_law 9 2048 601024 7293034) {b c i L cells slots : Nat} {xs : Nat → Int32} (hX9 : va_X b L xs Y0.1 Y0.1.heap) (hb9 : b < Y0.2.2.2) (hi : i + 6 ≤ L) (hL : L ≤ 3072) (hc9 : cells + 40 ≤ 601024 ∧ slots + 1600 ≤ 7293034) {M : x_M} {x1 : Int32} (e1 : xs (nI i + 1).toNatClampNeg = x1) {k r : Int32} {n n' : Nat} {f f' : Nat → Int32} {P : PL} {A A' : HS} {ep th : Int32} {dm mcm msm : Nat} (hh : x_H l Y0 yL_blockedBy cL_blockedBy 4 (some .int) [(0, 9, 12, 24)] 9 1 6 [.ref c, .int x1, .ref (c + 142)] M (fun u M1 => u = some (.int k) ∧ hQ M1 c k r.toInt64 n' f' A' n f P A ep th)) (hm : ∀ M1, wM M1 (c + 96) th n f P A ep → x_C l Y0 yX11_blockedBy cX11_blockedBy 2 (some .int) dm mcm msm [.ref (c + 96), .int x1] M1 (fun u M2 => u = some (.int r) ∧ mQ M1 M2 (c + 96) k n' f' P A' ep)) (hdm : dm + 1 ≤ 2048 ∧ mcm ≤ 5 ∧ msm ≤ 10) (hn : n' ≤ 2000) (hf : k_by f') (hP : p_ok P) (hk9 : h_ok P A') (kk : ∀ M1, wL M1 c → x_X K 9 (cells + 40) (slots + 1600) 1846 (lvL b c i) [] M1) : x_X K 9 cells slots 596 (lvL b c i) [] M := by
  refine x_aload_n C dL_law_596 rfl rfl ?_
  refine x_aload_n C dL_law_597 rfl rfl ?_
  refine x_iload C dL_law_598 rfl ?_
  refine x_iconst (v := 1) C dL_law_600 (by decide) ?_
  refine x_iadd C dL_law_601 ?_
  refine x_sld C dL_law_602 hX9 hb9 (l_in (k := 1) rfl (by decide) hi hL) ?_
  rw [e1]
  refine x_aload_n C dL_law_603 rfl rfl ?_
  refine x_callSH (As := [_, _, _]) C dL_law_604 hL_153 hh rfl rfl (by decide) ⟨by omega, by omega⟩ (Nat.le_of_ble_eq_true rfl) ?_
  rintro _ M1 ⟨rfl, q1⟩
  refine x_istore C dL_law_607 rfl (by decide) ?_
  refine x_aload_n C dL_law_609 rfl rfl ?_
  refine x_aload_n C dL_law_610 rfl rfl ?_
  refine x_iload C dL_law_611 rfl ?_
  refine x_iconst (v := 1) C dL_law_613 (by decide) ?_
  refine x_iadd C dL_law_614 ?_
  refine x_sld C dL_law_615 hX9 hb9 (l_in (k := 1) rfl (by decide) hi hL) ?_
  rw [e1]
  obtain ⟨sz, ea, tk, dp, tp, kd, fr, mn, rl, me, q, rd, t, m, m2, ho⟩ := wM_o q1.2.1
  refine x_callV (As := [_]) C dL_law_616 kL_155 (hm M1 q1.2.1) (ho 0 _ rfl) rfl rfl rfl hdm.1 ⟨by omega, by omega⟩ (Nat.le_of_ble_eq_true rfl) ?_
  rintro _ M2 ⟨rfl, q2⟩
  refine x_istore C dL_law_619 rfl (by decide) ?_
  refine x_aload_n C dL_law_621 rfl rfl ?_
  obtain ⟨sz, ea, tk, dp, tp, kd, fr, mn, rl, me, q, rd, t, m, m2, ho2⟩ := wM_o q2.1
  refine x_callV0 C dL_law_622 kL_103 (c_X11_thrown hO ho2) (ho2 0 _ rfl) rfl (by decide) ⟨by omega, by omega⟩ (Nat.le_of_ble_eq_true rfl) ?_
  rintro _ _ ⟨rfl, rfl⟩
  refine x_iload C dL_law_625 rfl ?_
  refine x_icmp_eq (tgt := 632) C dL_law_627 (by decide) (fun _ => ?_) (fun q => absurd rfl q)
  obtain ⟨g, q3, q4⟩ := hQ_end q1 q2 hn hf hP hk9
  refine x_iload C dL_law_632 rfl ?_
  refine x_if_ne (tgt := 649) C dL_law_634 (by decide) (fun c1 => ?_) (fun c1 => ?_)
  · refine x_goto (tgt := 1846) C dL_law_649 (by decide) ?_
    refine x_take 5 ?_
    refine x_widen (k := cells + 40) (n := slots + 1600) (by omega) (by omega) ?_
    exact kk _ ⟨n', f', P, A', ep, k, g, q3⟩
  · refine x_aload_n C dL_law_637 rfl rfl ?_
    refine x_iconst (v := 0) C dL_law_638 (by decide) ?_
    refine x_laload C dL_law_639 (q3.2.2.2.2.1 0 _ rfl) h_in0 ?_
    rw [show (0 : Int32).toNatClampNeg = 0 by decide, q4 c1]
    refine x_iload C dL_law_640 rfl ?_
    refine x_i2l C dL_law_642 ?_
    refine x_lcmp C dL_law_643 ?_
    refine x_if_eq (tgt := 649) C dL_law_644 (by decide) (fun _ => ?_) (fun q => absurd ((lg_cmp_eq _ _).mpr rfl) q)
    refine x_goto (tgt := 1846) C dL_law_649 (by decide) ?_
    refine x_take 5 ?_
    refine x_widen (k := cells + 40) (n := slots + 1600) (by omega) (by omega) ?_
    exact kk _ ⟨n', f', P, A', ep, k, g, q3⟩
set_option maxHeartbeats 4000000 in
set_option maxRecDepth 100000 in
theorem S_logOf {K : x_K} {l : Launch} {Y0 : x_Y} {nm9 : String} (hO : x_Ok Y0) (C : x_Ctx K l Y0 ⟨RL, nm9, ""⟩ cL_law 9 2048 601024 7293034) {b c i L cells slots : Nat} {xs : Nat → Int32} (hX9 : va_X b L xs Y0.1 Y0.1.heap) (hb9 : b < Y0.2.2.2) (hi : i + 6 ≤ L) (hL : L ≤ 3072) (hc9 : cells + 40 ≤ 601024 ∧ slots + 1600 ≤ 7293034) {M : x_M} {x1 : Int32} (e1 : xs (nI i + 1).toNatClampNeg = x1) {k r : Int32} {n n' : Nat} {f f' : Nat → Int32} {P : PL} {A A' : HS} {ep th : Int32} {dm mcm msm : Nat} (hh : x_H l Y0 yL_logOf cL_logOf 4 (some .int) [(0, 9, 12, 24)] 9 1 6 [.ref c, .int x1, .ref (c + 142)] M (fun u M1 => u = some (.int k) ∧ hQ M1 c k r.toInt64 n' f' A' n f P A ep th)) (hm : ∀ M1, wM M1 (c + 96) th n f P A ep → x_C l Y0 yX11_logOf cX11_logOf 2 (some .int) dm mcm msm [.ref (c + 96), .int x1] M1 (fun u M2 => u = some (.int r) ∧ mQ M1 M2 (c + 96) k n' f' P A' ep)) (hdm : dm + 1 ≤ 2048 ∧ mcm ≤ 5 ∧ msm ≤ 10) (hn : n' ≤ 2000) (hf : k_by f') (hP : p_ok P) (hk9 : h_ok P A') (kk : ∀ M1, wL M1 c → x_X K 9 (cells + 40) (slots + 1600) 1846 (lvL b c i) [] M1) : x_X K 9 cells slots 652 (lvL b c i) [] M := by
  refine x_aload_n C dL_law_652 rfl rfl ?_
  refine x_aload_n C dL_law_653 rfl rfl ?_
  refine x_iload C dL_law_654 rfl ?_
  refine x_iconst (v := 1) C dL_law_656 (by decide) ?_
  refine x_iadd C dL_law_657 ?_
  refine x_sld C dL_law_658 hX9 hb9 (l_in (k := 1) rfl (by decide) hi hL) ?_
  rw [e1]
  refine x_aload_n C dL_law_659 rfl rfl ?_
  refine x_callSH (As := [_, _, _]) C dL_law_660 hL_156 hh rfl rfl (by decide) ⟨by omega, by omega⟩ (Nat.le_of_ble_eq_true rfl) ?_
  rintro _ M1 ⟨rfl, q1⟩
  refine x_istore C dL_law_663 rfl (by decide) ?_
  refine x_aload_n C dL_law_665 rfl rfl ?_
  refine x_aload_n C dL_law_666 rfl rfl ?_
  refine x_iload C dL_law_667 rfl ?_
  refine x_iconst (v := 1) C dL_law_669 (by decide) ?_
  refine x_iadd C dL_law_670 ?_
  refine x_sld C dL_law_671 hX9 hb9 (l_in (k := 1) rfl (by decide) hi hL) ?_
  rw [e1]
  obtain ⟨sz, ea, tk, dp, tp, kd, fr, mn, rl, me, q, rd, t, m, m2, ho⟩ := wM_o q1.2.1
  refine x_callV (As := [_]) C dL_law_672 kL_158 (hm M1 q1.2.1) (ho 0 _ rfl) rfl rfl rfl hdm.1 ⟨by omega, by omega⟩ (Nat.le_of_ble_eq_true rfl) ?_
  rintro _ M2 ⟨rfl, q2⟩
  refine x_istore C dL_law_675 rfl (by decide) ?_
  refine x_aload_n C dL_law_677 rfl rfl ?_
  obtain ⟨sz, ea, tk, dp, tp, kd, fr, mn, rl, me, q, rd, t, m, m2, ho2⟩ := wM_o q2.1
  refine x_callV0 C dL_law_678 kL_103 (c_X11_thrown hO ho2) (ho2 0 _ rfl) rfl (by decide) ⟨by omega, by omega⟩ (Nat.le_of_ble_eq_true rfl) ?_
  rintro _ _ ⟨rfl, rfl⟩
  refine x_iload C dL_law_681 rfl ?_
  refine x_icmp_eq (tgt := 688) C dL_law_683 (by decide) (fun _ => ?_) (fun q => absurd rfl q)
  obtain ⟨g, q3, q4⟩ := hQ_end q1 q2 hn hf hP hk9
  refine x_iload C dL_law_688 rfl ?_
  refine x_if_ne (tgt := 705) C dL_law_690 (by decide) (fun c1 => ?_) (fun c1 => ?_)
  · refine x_goto (tgt := 1846) C dL_law_705 (by decide) ?_
    refine x_take 5 ?_
    refine x_widen (k := cells + 40) (n := slots + 1600) (by omega) (by omega) ?_
    exact kk _ ⟨n', f', P, A', ep, k, g, q3⟩
  · refine x_aload_n C dL_law_693 rfl rfl ?_
    refine x_iconst (v := 0) C dL_law_694 (by decide) ?_
    refine x_laload C dL_law_695 (q3.2.2.2.2.1 0 _ rfl) h_in0 ?_
    rw [show (0 : Int32).toNatClampNeg = 0 by decide, q4 c1]
    refine x_iload C dL_law_696 rfl ?_
    refine x_i2l C dL_law_698 ?_
    refine x_lcmp C dL_law_699 ?_
    refine x_if_eq (tgt := 705) C dL_law_700 (by decide) (fun _ => ?_) (fun q => absurd ((lg_cmp_eq _ _).mpr rfl) q)
    refine x_goto (tgt := 1846) C dL_law_705 (by decide) ?_
    refine x_take 5 ?_
    refine x_widen (k := cells + 40) (n := slots + 1600) (by omega) (by omega) ?_
    exact kk _ ⟨n', f', P, A', ep, k, g, q3⟩
set_option maxHeartbeats 4000000 in
set_option maxRecDepth 100000 in
theorem S_stateOf {K : x_K} {l : Launch} {Y0 : x_Y} {nm9 : String} (hO : x_Ok Y0) (C : x_Ctx K l Y0 ⟨RL, nm9, ""⟩ cL_law 9 2048 601024 7293034) {b c i L cells slots : Nat} {xs : Nat → Int32} (hX9 : va_X b L xs Y0.1 Y0.1.heap) (hb9 : b < Y0.2.2.2) (hi : i + 6 ≤ L) (hL : L ≤ 3072) (hc9 : cells + 40 ≤ 601024 ∧ slots + 1600 ≤ 7293034) {M : x_M} {x1 : Int32} (e1 : xs (nI i + 1).toNatClampNeg = x1) {k r : Int32} {n n' : Nat} {f f' : Nat → Int32} {P : PL} {A A' : HS} {ep th : Int32} {dm mcm msm : Nat} (hh : x_H l Y0 yL_stateOf cL_stateOf 4 (some .int) [(0, 9, 12, 24)] 9 1 6 [.ref c, .int x1, .ref (c + 142)] M (fun u M1 => u = some (.int k) ∧ hQ M1 c k r.toInt64 n' f' A' n f P A ep th)) (hm : ∀ M1, wM M1 (c + 96) th n f P A ep → x_C l Y0 yX11_stateOf cX11_stateOf 2 (some .int) dm mcm msm [.ref (c + 96), .int x1] M1 (fun u M2 => u = some (.int r) ∧ mQ M1 M2 (c + 96) k n' f' P A' ep)) (hdm : dm + 1 ≤ 2048 ∧ mcm ≤ 5 ∧ msm ≤ 10) (hn : n' ≤ 2000) (hf : k_by f') (hP : p_ok P) (hk9 : h_ok P A') (kk : ∀ M1, wL M1 c → x_X K 9 (cells + 40) (slots + 1600) 1846 (lvL b c i) [] M1) : x_X K 9 cells slots 708 (lvL b c i) [] M := by
  refine x_aload_n C dL_law_708 rfl rfl ?_
  refine x_aload_n C dL_law_709 rfl rfl ?_
  refine x_iload C dL_law_710 rfl ?_
  refine x_iconst (v := 1) C dL_law_712 (by decide) ?_
  refine x_iadd C dL_law_713 ?_
  refine x_sld C dL_law_714 hX9 hb9 (l_in (k := 1) rfl (by decide) hi hL) ?_
  rw [e1]
  refine x_aload_n C dL_law_715 rfl rfl ?_
  refine x_callSH (As := [_, _, _]) C dL_law_716 hL_159 hh rfl rfl (by decide) ⟨by omega, by omega⟩ (Nat.le_of_ble_eq_true rfl) ?_
  rintro _ M1 ⟨rfl, q1⟩
  refine x_istore C dL_law_719 rfl (by decide) ?_
  refine x_aload_n C dL_law_721 rfl rfl ?_
  refine x_aload_n C dL_law_722 rfl rfl ?_
  refine x_iload C dL_law_723 rfl ?_
  refine x_iconst (v := 1) C dL_law_725 (by decide) ?_
  refine x_iadd C dL_law_726 ?_
  refine x_sld C dL_law_727 hX9 hb9 (l_in (k := 1) rfl (by decide) hi hL) ?_
  rw [e1]
  obtain ⟨sz, ea, tk, dp, tp, kd, fr, mn, rl, me, q, rd, t, m, m2, ho⟩ := wM_o q1.2.1
  refine x_callV (As := [_]) C dL_law_728 kL_161 (hm M1 q1.2.1) (ho 0 _ rfl) rfl rfl rfl hdm.1 ⟨by omega, by omega⟩ (Nat.le_of_ble_eq_true rfl) ?_
  rintro _ M2 ⟨rfl, q2⟩
  refine x_istore C dL_law_731 rfl (by decide) ?_
  refine x_aload_n C dL_law_733 rfl rfl ?_
  obtain ⟨sz, ea, tk, dp, tp, kd, fr, mn, rl, me, q, rd, t, m, m2, ho2⟩ := wM_o q2.1
  refine x_callV0 C dL_law_734 kL_103 (c_X11_thrown hO ho2) (ho2 0 _ rfl) rfl (by decide) ⟨by omega, by omega⟩ (Nat.le_of_ble_eq_true rfl) ?_
  rintro _ _ ⟨rfl, rfl⟩
  refine x_iload C dL_law_737 rfl ?_
  refine x_icmp_eq (tgt := 744) C dL_law_739 (by decide) (fun _ => ?_) (fun q => absurd rfl q)
  obtain ⟨g, q3, q4⟩ := hQ_end q1 q2 hn hf hP hk9
  refine x_iload C dL_law_744 rfl ?_
  refine x_if_ne (tgt := 761) C dL_law_746 (by decide) (fun c1 => ?_) (fun c1 => ?_)
  · refine x_goto (tgt := 1846) C dL_law_761 (by decide) ?_
    refine x_take 5 ?_
    refine x_widen (k := cells + 40) (n := slots + 1600) (by omega) (by omega) ?_
    exact kk _ ⟨n', f', P, A', ep, k, g, q3⟩
  · refine x_aload_n C dL_law_749 rfl rfl ?_
    refine x_iconst (v := 0) C dL_law_750 (by decide) ?_
    refine x_laload C dL_law_751 (q3.2.2.2.2.1 0 _ rfl) h_in0 ?_
    rw [show (0 : Int32).toNatClampNeg = 0 by decide, q4 c1]
    refine x_iload C dL_law_752 rfl ?_
    refine x_i2l C dL_law_754 ?_
    refine x_lcmp C dL_law_755 ?_
    refine x_if_eq (tgt := 761) C dL_law_756 (by decide) (fun _ => ?_) (fun q => absurd ((lg_cmp_eq _ _).mpr rfl) q)
    refine x_goto (tgt := 1846) C dL_law_761 (by decide) ?_
    refine x_take 5 ?_
    refine x_widen (k := cells + 40) (n := slots + 1600) (by omega) (by omega) ?_
    exact kk _ ⟨n', f', P, A', ep, k, g, q3⟩
set_option maxHeartbeats 4000000 in
set_option maxRecDepth 100000 in
theorem S_waitsOf {K : x_K} {l : Launch} {Y0 : x_Y} {nm9 : String} (hO : x_Ok Y0) (C : x_Ctx K l Y0 ⟨RL, nm9, ""⟩ cL_law 9 2048 601024 7293034) {b c i L cells slots : Nat} {xs : Nat → Int32} (hX9 : va_X b L xs Y0.1 Y0.1.heap) (hb9 : b < Y0.2.2.2) (hi : i + 6 ≤ L) (hL : L ≤ 3072) (hc9 : cells + 40 ≤ 601024 ∧ slots + 1600 ≤ 7293034) {M : x_M} {x1 : Int32} (e1 : xs (nI i + 1).toNatClampNeg = x1) {k r : Int32} {n n' : Nat} {f f' : Nat → Int32} {P : PL} {A A' : HS} {ep th : Int32} {dm mcm msm : Nat} (hh : x_H l Y0 yL_waitsOf cL_waitsOf 4 (some .int) [(0, 9, 12, 24)] 9 1 6 [.ref c, .int x1, .ref (c + 142)] M (fun u M1 => u = some (.int k) ∧ hQ M1 c k r.toInt64 n' f' A' n f P A ep th)) (hm : ∀ M1, wM M1 (c + 96) th n f P A ep → x_C l Y0 yX11_waitsOf cX11_waitsOf 2 (some .int) dm mcm msm [.ref (c + 96), .int x1] M1 (fun u M2 => u = some (.int r) ∧ mQ M1 M2 (c + 96) k n' f' P A' ep)) (hdm : dm + 1 ≤ 2048 ∧ mcm ≤ 5 ∧ msm ≤ 10) (hn : n' ≤ 2000) (hf : k_by f') (hP : p_ok P) (hk9 : h_ok P A') (kk : ∀ M1, wL M1 c → x_X K 9 (cells + 40) (slots + 1600) 1846 (lvL b c i) [] M1) : x_X K 9 cells slots 764 (lvL b c i) [] M := by
  refine x_aload_n C dL_law_764 rfl rfl ?_
  refine x_aload_n C dL_law_765 rfl rfl ?_
  refine x_iload C dL_law_766 rfl ?_
  refine x_iconst (v := 1) C dL_law_768 (by decide) ?_
  refine x_iadd C dL_law_769 ?_
  refine x_sld C dL_law_770 hX9 hb9 (l_in (k := 1) rfl (by decide) hi hL) ?_
  rw [e1]
  refine x_aload_n C dL_law_771 rfl rfl ?_
  refine x_callSH (As := [_, _, _]) C dL_law_772 hL_162 hh rfl rfl (by decide) ⟨by omega, by omega⟩ (Nat.le_of_ble_eq_true rfl) ?_
  rintro _ M1 ⟨rfl, q1⟩
  refine x_istore C dL_law_775 rfl (by decide) ?_
  refine x_aload_n C dL_law_777 rfl rfl ?_
  refine x_aload_n C dL_law_778 rfl rfl ?_
  refine x_iload C dL_law_779 rfl ?_
  refine x_iconst (v := 1) C dL_law_781 (by decide) ?_
  refine x_iadd C dL_law_782 ?_
  refine x_sld C dL_law_783 hX9 hb9 (l_in (k := 1) rfl (by decide) hi hL) ?_
  rw [e1]
  obtain ⟨sz, ea, tk, dp, tp, kd, fr, mn, rl, me, q, rd, t, m, m2, ho⟩ := wM_o q1.2.1
  refine x_callV (As := [_]) C dL_law_784 kL_164 (hm M1 q1.2.1) (ho 0 _ rfl) rfl rfl rfl hdm.1 ⟨by omega, by omega⟩ (Nat.le_of_ble_eq_true rfl) ?_
  rintro _ M2 ⟨rfl, q2⟩
  refine x_istore C dL_law_787 rfl (by decide) ?_
  refine x_aload_n C dL_law_789 rfl rfl ?_
  obtain ⟨sz, ea, tk, dp, tp, kd, fr, mn, rl, me, q, rd, t, m, m2, ho2⟩ := wM_o q2.1
  refine x_callV0 C dL_law_790 kL_103 (c_X11_thrown hO ho2) (ho2 0 _ rfl) rfl (by decide) ⟨by omega, by omega⟩ (Nat.le_of_ble_eq_true rfl) ?_
  rintro _ _ ⟨rfl, rfl⟩
  refine x_iload C dL_law_793 rfl ?_
  refine x_icmp_eq (tgt := 800) C dL_law_795 (by decide) (fun _ => ?_) (fun q => absurd rfl q)
  obtain ⟨g, q3, q4⟩ := hQ_end q1 q2 hn hf hP hk9
  refine x_iload C dL_law_800 rfl ?_
  refine x_if_ne (tgt := 817) C dL_law_802 (by decide) (fun c1 => ?_) (fun c1 => ?_)
  · refine x_goto (tgt := 1846) C dL_law_817 (by decide) ?_
    refine x_take 5 ?_
    refine x_widen (k := cells + 40) (n := slots + 1600) (by omega) (by omega) ?_
    exact kk _ ⟨n', f', P, A', ep, k, g, q3⟩
  · refine x_aload_n C dL_law_805 rfl rfl ?_
    refine x_iconst (v := 0) C dL_law_806 (by decide) ?_
    refine x_laload C dL_law_807 (q3.2.2.2.2.1 0 _ rfl) h_in0 ?_
    rw [show (0 : Int32).toNatClampNeg = 0 by decide, q4 c1]
    refine x_iload C dL_law_808 rfl ?_
    refine x_i2l C dL_law_810 ?_
    refine x_lcmp C dL_law_811 ?_
    refine x_if_eq (tgt := 817) C dL_law_812 (by decide) (fun _ => ?_) (fun q => absurd ((lg_cmp_eq _ _).mpr rfl) q)
    refine x_goto (tgt := 1846) C dL_law_817 (by decide) ?_
    refine x_take 5 ?_
    refine x_widen (k := cells + 40) (n := slots + 1600) (by omega) (by omega) ?_
    exact kk _ ⟨n', f', P, A', ep, k, g, q3⟩
set_option maxHeartbeats 4000000 in
set_option maxRecDepth 100000 in
theorem S_partsOf {K : x_K} {l : Launch} {Y0 : x_Y} {nm9 : String} (hO : x_Ok Y0) (C : x_Ctx K l Y0 ⟨RL, nm9, ""⟩ cL_law 9 2048 601024 7293034) {b c i L cells slots : Nat} {xs : Nat → Int32} (hX9 : va_X b L xs Y0.1 Y0.1.heap) (hb9 : b < Y0.2.2.2) (hi : i + 6 ≤ L) (hL : L ≤ 3072) (hc9 : cells + 40 ≤ 601024 ∧ slots + 1600 ≤ 7293034) {M : x_M} {x1 : Int32} (e1 : xs (nI i + 1).toNatClampNeg = x1) {k r : Int32} {n n' : Nat} {f f' : Nat → Int32} {P : PL} {A A' : HS} {ep th : Int32} {dm mcm msm : Nat} (hh : x_H l Y0 yL_partsOf cL_partsOf 4 (some .int) [(0, 9, 12, 24)] 9 1 6 [.ref c, .int x1, .ref (c + 142)] M (fun u M1 => u = some (.int k) ∧ hQ M1 c k r.toInt64 n' f' A' n f P A ep th)) (hm : ∀ M1, wM M1 (c + 96) th n f P A ep → x_C l Y0 yX11_partsOf cX11_partsOf 2 (some .int) dm mcm msm [.ref (c + 96), .int x1] M1 (fun u M2 => u = some (.int r) ∧ mQ M1 M2 (c + 96) k n' f' P A' ep)) (hdm : dm + 1 ≤ 2048 ∧ mcm ≤ 5 ∧ msm ≤ 10) (hn : n' ≤ 2000) (hf : k_by f') (hP : p_ok P) (hk9 : h_ok P A') (kk : ∀ M1, wL M1 c → x_X K 9 (cells + 40) (slots + 1600) 1846 (lvL b c i) [] M1) : x_X K 9 cells slots 820 (lvL b c i) [] M := by
  refine x_aload_n C dL_law_820 rfl rfl ?_
  refine x_aload_n C dL_law_821 rfl rfl ?_
  refine x_iload C dL_law_822 rfl ?_
  refine x_iconst (v := 1) C dL_law_824 (by decide) ?_
  refine x_iadd C dL_law_825 ?_
  refine x_sld C dL_law_826 hX9 hb9 (l_in (k := 1) rfl (by decide) hi hL) ?_
  rw [e1]
  refine x_aload_n C dL_law_827 rfl rfl ?_
  refine x_callSH (As := [_, _, _]) C dL_law_828 hL_165 hh rfl rfl (by decide) ⟨by omega, by omega⟩ (Nat.le_of_ble_eq_true rfl) ?_
  rintro _ M1 ⟨rfl, q1⟩
  refine x_istore C dL_law_831 rfl (by decide) ?_
  refine x_aload_n C dL_law_833 rfl rfl ?_
  refine x_aload_n C dL_law_834 rfl rfl ?_
  refine x_iload C dL_law_835 rfl ?_
  refine x_iconst (v := 1) C dL_law_837 (by decide) ?_
  refine x_iadd C dL_law_838 ?_
  refine x_sld C dL_law_839 hX9 hb9 (l_in (k := 1) rfl (by decide) hi hL) ?_
  rw [e1]
  obtain ⟨sz, ea, tk, dp, tp, kd, fr, mn, rl, me, q, rd, t, m, m2, ho⟩ := wM_o q1.2.1
  refine x_callV (As := [_]) C dL_law_840 kL_167 (hm M1 q1.2.1) (ho 0 _ rfl) rfl rfl rfl hdm.1 ⟨by omega, by omega⟩ (Nat.le_of_ble_eq_true rfl) ?_
  rintro _ M2 ⟨rfl, q2⟩
  refine x_istore C dL_law_843 rfl (by decide) ?_
  refine x_aload_n C dL_law_845 rfl rfl ?_
  obtain ⟨sz, ea, tk, dp, tp, kd, fr, mn, rl, me, q, rd, t, m, m2, ho2⟩ := wM_o q2.1
  refine x_callV0 C dL_law_846 kL_103 (c_X11_thrown hO ho2) (ho2 0 _ rfl) rfl (by decide) ⟨by omega, by omega⟩ (Nat.le_of_ble_eq_true rfl) ?_
  rintro _ _ ⟨rfl, rfl⟩
  refine x_iload C dL_law_849 rfl ?_
  refine x_icmp_eq (tgt := 856) C dL_law_851 (by decide) (fun _ => ?_) (fun q => absurd rfl q)
  obtain ⟨g, q3, q4⟩ := hQ_end q1 q2 hn hf hP hk9
  refine x_iload C dL_law_856 rfl ?_
  refine x_if_ne (tgt := 873) C dL_law_858 (by decide) (fun c1 => ?_) (fun c1 => ?_)
  · refine x_goto (tgt := 1846) C dL_law_873 (by decide) ?_
    refine x_take 5 ?_
    refine x_widen (k := cells + 40) (n := slots + 1600) (by omega) (by omega) ?_
    exact kk _ ⟨n', f', P, A', ep, k, g, q3⟩
  · refine x_aload_n C dL_law_861 rfl rfl ?_
    refine x_iconst (v := 0) C dL_law_862 (by decide) ?_
    refine x_laload C dL_law_863 (q3.2.2.2.2.1 0 _ rfl) h_in0 ?_
    rw [show (0 : Int32).toNatClampNeg = 0 by decide, q4 c1]
    refine x_iload C dL_law_864 rfl ?_
    refine x_i2l C dL_law_866 ?_
    refine x_lcmp C dL_law_867 ?_
    refine x_if_eq (tgt := 873) C dL_law_868 (by decide) (fun _ => ?_) (fun q => absurd ((lg_cmp_eq _ _).mpr rfl) q)
    refine x_goto (tgt := 1846) C dL_law_873 (by decide) ?_
    refine x_take 5 ?_
    refine x_widen (k := cells + 40) (n := slots + 1600) (by omega) (by omega) ?_
    exact kk _ ⟨n', f', P, A', ep, k, g, q3⟩
set_option maxHeartbeats 4000000 in
set_option maxRecDepth 100000 in
theorem S_droneIn {K : x_K} {l : Launch} {Y0 : x_Y} {nm9 : String} (hO : x_Ok Y0) (C : x_Ctx K l Y0 ⟨RL, nm9, ""⟩ cL_law 9 2048 601024 7293034) {b c i L cells slots : Nat} {xs : Nat → Int32} (hX9 : va_X b L xs Y0.1 Y0.1.heap) (hb9 : b < Y0.2.2.2) (hi : i + 6 ≤ L) (hL : L ≤ 3072) (hc9 : cells + 40 ≤ 601024 ∧ slots + 1600 ≤ 7293034) {M : x_M} {x1 x2 : Int32} (e1 : xs (nI i + 1).toNatClampNeg = x1) (e2 : xs (nI i + 2).toNatClampNeg = x2) {k r : Int32} {n n' : Nat} {f f' : Nat → Int32} {P : PL} {A A' : HS} {ep th : Int32} {dm mcm msm : Nat} (hh : x_H l Y0 yL_droneIn cL_droneIn 5 (some .int) [(0, 10, 13, 24)] 9 1 6 [.ref c, .int x1, .int x2, .ref (c + 142)] M (fun u M1 => u = some (.int k) ∧ hQ M1 c k r.toInt64 n' f' A' n f P A ep th)) (hm : ∀ M1, wM M1 (c + 96) th n f P A ep → x_C l Y0 yX11_droneIn cX11_droneIn 3 (some .int) dm mcm msm [.ref (c + 96), .int x1, .int x2] M1 (fun u M2 => u = some (.int r) ∧ mQ M1 M2 (c + 96) k n' f' P A' ep)) (hdm : dm + 1 ≤ 2048 ∧ mcm ≤ 5 ∧ msm ≤ 10) (hn : n' ≤ 2000) (hf : k_by f') (hP : p_ok P) (hk9 : h_ok P A') (kk : ∀ M1, wL M1 c → x_X K 9 (cells + 40) (slots + 1600) 1846 (lvL b c i) [] M1) : x_X K 9 cells slots 876 (lvL b c i) [] M := by
  refine x_aload_n C dL_law_876 rfl rfl ?_
  refine x_aload_n C dL_law_877 rfl rfl ?_
  refine x_iload C dL_law_878 rfl ?_
  refine x_iconst (v := 1) C dL_law_880 (by decide) ?_
  refine x_iadd C dL_law_881 ?_
  refine x_sld C dL_law_882 hX9 hb9 (l_in (k := 1) rfl (by decide) hi hL) ?_
  rw [e1]
  refine x_aload_n C dL_law_883 rfl rfl ?_
  refine x_iload C dL_law_884 rfl ?_
  refine x_iconst (v := 2) C dL_law_886 (by decide) ?_
  refine x_iadd C dL_law_887 ?_
  refine x_sld C dL_law_888 hX9 hb9 (l_in (k := 2) rfl (by decide) hi hL) ?_
  rw [e2]
  refine x_aload_n C dL_law_889 rfl rfl ?_
  refine x_callSH (As := [_, _, _, _]) C dL_law_890 hL_168 hh rfl rfl (by decide) ⟨by omega, by omega⟩ (Nat.le_of_ble_eq_true rfl) ?_
  rintro _ M1 ⟨rfl, q1⟩
  refine x_istore C dL_law_893 rfl (by decide) ?_
  refine x_aload_n C dL_law_895 rfl rfl ?_
  refine x_aload_n C dL_law_896 rfl rfl ?_
  refine x_iload C dL_law_897 rfl ?_
  refine x_iconst (v := 1) C dL_law_899 (by decide) ?_
  refine x_iadd C dL_law_900 ?_
  refine x_sld C dL_law_901 hX9 hb9 (l_in (k := 1) rfl (by decide) hi hL) ?_
  rw [e1]
  refine x_aload_n C dL_law_902 rfl rfl ?_
  refine x_iload C dL_law_903 rfl ?_
  refine x_iconst (v := 2) C dL_law_905 (by decide) ?_
  refine x_iadd C dL_law_906 ?_
  refine x_sld C dL_law_907 hX9 hb9 (l_in (k := 2) rfl (by decide) hi hL) ?_
  rw [e2]
  obtain ⟨sz, ea, tk, dp, tp, kd, fr, mn, rl, me, q, rd, t, m, m2, ho⟩ := wM_o q1.2.1
  refine x_callV (As := [_, _]) C dL_law_908 kL_171 (hm M1 q1.2.1) (ho 0 _ rfl) rfl rfl rfl hdm.1 ⟨by omega, by omega⟩ (Nat.le_of_ble_eq_true rfl) ?_
  rintro _ M2 ⟨rfl, q2⟩
  refine x_istore C dL_law_911 rfl (by decide) ?_
  refine x_aload_n C dL_law_913 rfl rfl ?_
  obtain ⟨sz, ea, tk, dp, tp, kd, fr, mn, rl, me, q, rd, t, m, m2, ho2⟩ := wM_o q2.1
  refine x_callV0 C dL_law_914 kL_103 (c_X11_thrown hO ho2) (ho2 0 _ rfl) rfl (by decide) ⟨by omega, by omega⟩ (Nat.le_of_ble_eq_true rfl) ?_
  rintro _ _ ⟨rfl, rfl⟩
  refine x_iload C dL_law_917 rfl ?_
  refine x_icmp_eq (tgt := 924) C dL_law_919 (by decide) (fun _ => ?_) (fun q => absurd rfl q)
  obtain ⟨g, q3, q4⟩ := hQ_end q1 q2 hn hf hP hk9
  refine x_iload C dL_law_924 rfl ?_
  refine x_if_ne (tgt := 941) C dL_law_926 (by decide) (fun c1 => ?_) (fun c1 => ?_)
  · refine x_goto (tgt := 1846) C dL_law_941 (by decide) ?_
    refine x_take 5 ?_
    refine x_widen (k := cells + 40) (n := slots + 1600) (by omega) (by omega) ?_
    exact kk _ ⟨n', f', P, A', ep, k, g, q3⟩
  · refine x_aload_n C dL_law_929 rfl rfl ?_
    refine x_iconst (v := 0) C dL_law_930 (by decide) ?_
    refine x_laload C dL_law_931 (q3.2.2.2.2.1 0 _ rfl) h_in0 ?_
    rw [show (0 : Int32).toNatClampNeg = 0 by decide, q4 c1]
    refine x_iload C dL_law_932 rfl ?_
    refine x_i2l C dL_law_934 ?_
    refine x_lcmp C dL_law_935 ?_
    refine x_if_eq (tgt := 941) C dL_law_936 (by decide) (fun _ => ?_) (fun q => absurd ((lg_cmp_eq _ _).mpr rfl) q)
    refine x_goto (tgt := 1846) C dL_law_941 (by decide) ?_
    refine x_take 5 ?_
    refine x_widen (k := cells + 40) (n := slots + 1600) (by omega) (by omega) ?_
    exact kk _ ⟨n', f', P, A', ep, k, g, q3⟩
set_option maxHeartbeats 4000000 in
set_option maxRecDepth 100000 in
theorem S_changeIn {K : x_K} {l : Launch} {Y0 : x_Y} {nm9 : String} (hO : x_Ok Y0) (C : x_Ctx K l Y0 ⟨RL, nm9, ""⟩ cL_law 9 2048 601024 7293034) {b c i L cells slots : Nat} {xs : Nat → Int32} (hX9 : va_X b L xs Y0.1 Y0.1.heap) (hb9 : b < Y0.2.2.2) (hi : i + 6 ≤ L) (hL : L ≤ 3072) (hc9 : cells + 40 ≤ 601024 ∧ slots + 1600 ≤ 7293034) {M : x_M} {x1 x2 : Int32} (e1 : xs (nI i + 1).toNatClampNeg = x1) (e2 : xs (nI i + 2).toNatClampNeg = x2) {k r : Int32} {n n' : Nat} {f f' : Nat → Int32} {P : PL} {A A' : HS} {ep th : Int32} {dm mcm msm : Nat} (hh : x_H l Y0 yL_changeIn cL_changeIn 5 (some .int) [(0, 10, 13, 24)] 9 1 6 [.ref c, .int x1, .int x2, .ref (c + 142)] M (fun u M1 => u = some (.int k) ∧ hQ M1 c k r.toInt64 n' f' A' n f P A ep th)) (hm : ∀ M1, wM M1 (c + 96) th n f P A ep → x_C l Y0 yX11_changeIn cX11_changeIn 3 (some .int) dm mcm msm [.ref (c + 96), .int x1, .int x2] M1 (fun u M2 => u = some (.int r) ∧ mQ M1 M2 (c + 96) k n' f' P A' ep)) (hdm : dm + 1 ≤ 2048 ∧ mcm ≤ 5 ∧ msm ≤ 10) (hn : n' ≤ 2000) (hf : k_by f') (hP : p_ok P) (hk9 : h_ok P A') (kk : ∀ M1, wL M1 c → x_X K 9 (cells + 40) (slots + 1600) 1846 (lvL b c i) [] M1) : x_X K 9 cells slots 944 (lvL b c i) [] M := by
  refine x_aload_n C dL_law_944 rfl rfl ?_
  refine x_aload_n C dL_law_945 rfl rfl ?_
  refine x_iload C dL_law_946 rfl ?_
  refine x_iconst (v := 1) C dL_law_948 (by decide) ?_
  refine x_iadd C dL_law_949 ?_
  refine x_sld C dL_law_950 hX9 hb9 (l_in (k := 1) rfl (by decide) hi hL) ?_
  rw [e1]
  refine x_aload_n C dL_law_951 rfl rfl ?_
  refine x_iload C dL_law_952 rfl ?_
  refine x_iconst (v := 2) C dL_law_954 (by decide) ?_
  refine x_iadd C dL_law_955 ?_
  refine x_sld C dL_law_956 hX9 hb9 (l_in (k := 2) rfl (by decide) hi hL) ?_
  rw [e2]
  refine x_aload_n C dL_law_957 rfl rfl ?_
  refine x_callSH (As := [_, _, _, _]) C dL_law_958 hL_172 hh rfl rfl (by decide) ⟨by omega, by omega⟩ (Nat.le_of_ble_eq_true rfl) ?_
  rintro _ M1 ⟨rfl, q1⟩
  refine x_istore C dL_law_961 rfl (by decide) ?_
  refine x_aload_n C dL_law_963 rfl rfl ?_
  refine x_aload_n C dL_law_964 rfl rfl ?_
  refine x_iload C dL_law_965 rfl ?_
  refine x_iconst (v := 1) C dL_law_967 (by decide) ?_
  refine x_iadd C dL_law_968 ?_
  refine x_sld C dL_law_969 hX9 hb9 (l_in (k := 1) rfl (by decide) hi hL) ?_
  rw [e1]
  refine x_aload_n C dL_law_970 rfl rfl ?_
  refine x_iload C dL_law_971 rfl ?_
  refine x_iconst (v := 2) C dL_law_973 (by decide) ?_
  refine x_iadd C dL_law_974 ?_
  refine x_sld C dL_law_975 hX9 hb9 (l_in (k := 2) rfl (by decide) hi hL) ?_
  rw [e2]
  obtain ⟨sz, ea, tk, dp, tp, kd, fr, mn, rl, me, q, rd, t, m, m2, ho⟩ := wM_o q1.2.1
  refine x_callV (As := [_, _]) C dL_law_976 kL_174 (hm M1 q1.2.1) (ho 0 _ rfl) rfl rfl rfl hdm.1 ⟨by omega, by omega⟩ (Nat.le_of_ble_eq_true rfl) ?_
  rintro _ M2 ⟨rfl, q2⟩
  refine x_istore C dL_law_979 rfl (by decide) ?_
  refine x_aload_n C dL_law_981 rfl rfl ?_
  obtain ⟨sz, ea, tk, dp, tp, kd, fr, mn, rl, me, q, rd, t, m, m2, ho2⟩ := wM_o q2.1
  refine x_callV0 C dL_law_982 kL_103 (c_X11_thrown hO ho2) (ho2 0 _ rfl) rfl (by decide) ⟨by omega, by omega⟩ (Nat.le_of_ble_eq_true rfl) ?_
  rintro _ _ ⟨rfl, rfl⟩
  refine x_iload C dL_law_985 rfl ?_
  refine x_icmp_eq (tgt := 992) C dL_law_987 (by decide) (fun _ => ?_) (fun q => absurd rfl q)
  obtain ⟨g, q3, q4⟩ := hQ_end q1 q2 hn hf hP hk9
  refine x_iload C dL_law_992 rfl ?_
  refine x_if_ne (tgt := 1009) C dL_law_994 (by decide) (fun c1 => ?_) (fun c1 => ?_)
  · refine x_goto (tgt := 1846) C dL_law_1009 (by decide) ?_
    refine x_take 5 ?_
    refine x_widen (k := cells + 40) (n := slots + 1600) (by omega) (by omega) ?_
    exact kk _ ⟨n', f', P, A', ep, k, g, q3⟩
  · refine x_aload_n C dL_law_997 rfl rfl ?_
    refine x_iconst (v := 0) C dL_law_998 (by decide) ?_
    refine x_laload C dL_law_999 (q3.2.2.2.2.1 0 _ rfl) h_in0 ?_
    rw [show (0 : Int32).toNatClampNeg = 0 by decide, q4 c1]
    refine x_iload C dL_law_1000 rfl ?_
    refine x_i2l C dL_law_1002 ?_
    refine x_lcmp C dL_law_1003 ?_
    refine x_if_eq (tgt := 1009) C dL_law_1004 (by decide) (fun _ => ?_) (fun q => absurd ((lg_cmp_eq _ _).mpr rfl) q)
    refine x_goto (tgt := 1846) C dL_law_1009 (by decide) ?_
    refine x_take 5 ?_
    refine x_widen (k := cells + 40) (n := slots + 1600) (by omega) (by omega) ?_
    exact kk _ ⟨n', f', P, A', ep, k, g, q3⟩
set_option maxHeartbeats 4000000 in
set_option maxRecDepth 100000 in
theorem S_voteIn {K : x_K} {l : Launch} {Y0 : x_Y} {nm9 : String} (hO : x_Ok Y0) (C : x_Ctx K l Y0 ⟨RL, nm9, ""⟩ cL_law 9 2048 601024 7293034) {b c i L cells slots : Nat} {xs : Nat → Int32} (hX9 : va_X b L xs Y0.1 Y0.1.heap) (hb9 : b < Y0.2.2.2) (hi : i + 6 ≤ L) (hL : L ≤ 3072) (hc9 : cells + 40 ≤ 601024 ∧ slots + 1600 ≤ 7293034) {M : x_M} {x1 x2 : Int32} (e1 : xs (nI i + 1).toNatClampNeg = x1) (e2 : xs (nI i + 2).toNatClampNeg = x2) {k r : Int32} {n n' : Nat} {f f' : Nat → Int32} {P : PL} {A A' : HS} {ep th : Int32} {dm mcm msm : Nat} (hh : x_H l Y0 yL_voteIn cL_voteIn 5 (some .int) [(0, 10, 13, 24)] 9 1 6 [.ref c, .int x1, .int x2, .ref (c + 142)] M (fun u M1 => u = some (.int k) ∧ hQ M1 c k r.toInt64 n' f' A' n f P A ep th)) (hm : ∀ M1, wM M1 (c + 96) th n f P A ep → x_C l Y0 yX11_voteIn cX11_voteIn 3 (some .int) dm mcm msm [.ref (c + 96), .int x1, .int x2] M1 (fun u M2 => u = some (.int r) ∧ mQ M1 M2 (c + 96) k n' f' P A' ep)) (hdm : dm + 1 ≤ 2048 ∧ mcm ≤ 5 ∧ msm ≤ 10) (hn : n' ≤ 2000) (hf : k_by f') (hP : p_ok P) (hk9 : h_ok P A') (kk : ∀ M1, wL M1 c → x_X K 9 (cells + 40) (slots + 1600) 1846 (lvL b c i) [] M1) : x_X K 9 cells slots 1012 (lvL b c i) [] M := by
  refine x_aload_n C dL_law_1012 rfl rfl ?_
  refine x_aload_n C dL_law_1013 rfl rfl ?_
  refine x_iload C dL_law_1014 rfl ?_
  refine x_iconst (v := 1) C dL_law_1016 (by decide) ?_
  refine x_iadd C dL_law_1017 ?_
  refine x_sld C dL_law_1018 hX9 hb9 (l_in (k := 1) rfl (by decide) hi hL) ?_
  rw [e1]
  refine x_aload_n C dL_law_1019 rfl rfl ?_
  refine x_iload C dL_law_1020 rfl ?_
  refine x_iconst (v := 2) C dL_law_1022 (by decide) ?_
  refine x_iadd C dL_law_1023 ?_
  refine x_sld C dL_law_1024 hX9 hb9 (l_in (k := 2) rfl (by decide) hi hL) ?_
  rw [e2]
  refine x_aload_n C dL_law_1025 rfl rfl ?_
  refine x_callSH (As := [_, _, _, _]) C dL_law_1026 hL_175 hh rfl rfl (by decide) ⟨by omega, by omega⟩ (Nat.le_of_ble_eq_true rfl) ?_
  rintro _ M1 ⟨rfl, q1⟩
  refine x_istore C dL_law_1029 rfl (by decide) ?_
  refine x_aload_n C dL_law_1031 rfl rfl ?_
  refine x_aload_n C dL_law_1032 rfl rfl ?_
  refine x_iload C dL_law_1033 rfl ?_
  refine x_iconst (v := 1) C dL_law_1035 (by decide) ?_
  refine x_iadd C dL_law_1036 ?_
  refine x_sld C dL_law_1037 hX9 hb9 (l_in (k := 1) rfl (by decide) hi hL) ?_
  rw [e1]
  refine x_aload_n C dL_law_1038 rfl rfl ?_
  refine x_iload C dL_law_1039 rfl ?_
  refine x_iconst (v := 2) C dL_law_1041 (by decide) ?_
  refine x_iadd C dL_law_1042 ?_
  refine x_sld C dL_law_1043 hX9 hb9 (l_in (k := 2) rfl (by decide) hi hL) ?_
  rw [e2]
  obtain ⟨sz, ea, tk, dp, tp, kd, fr, mn, rl, me, q, rd, t, m, m2, ho⟩ := wM_o q1.2.1
  refine x_callV (As := [_, _]) C dL_law_1044 kL_177 (hm M1 q1.2.1) (ho 0 _ rfl) rfl rfl rfl hdm.1 ⟨by omega, by omega⟩ (Nat.le_of_ble_eq_true rfl) ?_
  rintro _ M2 ⟨rfl, q2⟩
  refine x_istore C dL_law_1047 rfl (by decide) ?_
  refine x_aload_n C dL_law_1049 rfl rfl ?_
  obtain ⟨sz, ea, tk, dp, tp, kd, fr, mn, rl, me, q, rd, t, m, m2, ho2⟩ := wM_o q2.1
  refine x_callV0 C dL_law_1050 kL_103 (c_X11_thrown hO ho2) (ho2 0 _ rfl) rfl (by decide) ⟨by omega, by omega⟩ (Nat.le_of_ble_eq_true rfl) ?_
  rintro _ _ ⟨rfl, rfl⟩
  refine x_iload C dL_law_1053 rfl ?_
  refine x_icmp_eq (tgt := 1060) C dL_law_1055 (by decide) (fun _ => ?_) (fun q => absurd rfl q)
  obtain ⟨g, q3, q4⟩ := hQ_end q1 q2 hn hf hP hk9
  refine x_iload C dL_law_1060 rfl ?_
  refine x_if_ne (tgt := 1077) C dL_law_1062 (by decide) (fun c1 => ?_) (fun c1 => ?_)
  · refine x_goto (tgt := 1846) C dL_law_1077 (by decide) ?_
    refine x_take 5 ?_
    refine x_widen (k := cells + 40) (n := slots + 1600) (by omega) (by omega) ?_
    exact kk _ ⟨n', f', P, A', ep, k, g, q3⟩
  · refine x_aload_n C dL_law_1065 rfl rfl ?_
    refine x_iconst (v := 0) C dL_law_1066 (by decide) ?_
    refine x_laload C dL_law_1067 (q3.2.2.2.2.1 0 _ rfl) h_in0 ?_
    rw [show (0 : Int32).toNatClampNeg = 0 by decide, q4 c1]
    refine x_iload C dL_law_1068 rfl ?_
    refine x_i2l C dL_law_1070 ?_
    refine x_lcmp C dL_law_1071 ?_
    refine x_if_eq (tgt := 1077) C dL_law_1072 (by decide) (fun _ => ?_) (fun q => absurd ((lg_cmp_eq _ _).mpr rfl) q)
    refine x_goto (tgt := 1846) C dL_law_1077 (by decide) ?_
    refine x_take 5 ?_
    refine x_widen (k := cells + 40) (n := slots + 1600) (by omega) (by omega) ?_
    exact kk _ ⟨n', f', P, A', ep, k, g, q3⟩
set_option maxHeartbeats 4000000 in
set_option maxRecDepth 100000 in
theorem S_hasHeard {K : x_K} {l : Launch} {Y0 : x_Y} {nm9 : String} (hO : x_Ok Y0) (C : x_Ctx K l Y0 ⟨RL, nm9, ""⟩ cL_law 9 2048 601024 7293034) {b c i L cells slots : Nat} {xs : Nat → Int32} (hX9 : va_X b L xs Y0.1 Y0.1.heap) (hb9 : b < Y0.2.2.2) (hi : i + 6 ≤ L) (hL : L ≤ 3072) (hc9 : cells + 40 ≤ 601024 ∧ slots + 1600 ≤ 7293034) {M : x_M} {x1 x2 : Int32} (e1 : xs (nI i + 1).toNatClampNeg = x1) (e2 : xs (nI i + 2).toNatClampNeg = x2) {k r : Int32} {n n' : Nat} {f f' : Nat → Int32} {P : PL} {A A' : HS} {ep th : Int32} {dm mcm msm : Nat} (hh : x_H l Y0 yL_hasHeard cL_hasHeard 5 (some .int) [(0, 17, 20, 24)] 9 1 6 [.ref c, .int x1, .int x2, .ref (c + 142)] M (fun u M1 => u = some (.int k) ∧ hQ M1 c k (if r = 0 then (0 : Int64) else 1) n' f' A' n f P A ep th)) (hm : ∀ M1, wM M1 (c + 96) th n f P A ep → x_C l Y0 yX11_hasHeard cX11_hasHeard 3 (some .boolean) dm mcm msm [.ref (c + 96), .int x1, .int x2] M1 (fun u M2 => u = some (.int r) ∧ mQ M1 M2 (c + 96) k n' f' P A' ep)) (hdm : dm + 1 ≤ 2048 ∧ mcm ≤ 5 ∧ msm ≤ 10) (hn : n' ≤ 2000) (hf : k_by f') (hP : p_ok P) (hk9 : h_ok P A') (kk : ∀ M1, wL M1 c → x_X K 9 (cells + 40) (slots + 1600) 1846 (lvL b c i) [] M1) : x_X K 9 cells slots 1080 (lvL b c i) [] M := by
  refine x_aload_n C dL_law_1080 rfl rfl ?_
  refine x_aload_n C dL_law_1081 rfl rfl ?_
  refine x_iload C dL_law_1082 rfl ?_
  refine x_iconst (v := 1) C dL_law_1084 (by decide) ?_
  refine x_iadd C dL_law_1085 ?_
  refine x_sld C dL_law_1086 hX9 hb9 (l_in (k := 1) rfl (by decide) hi hL) ?_
  rw [e1]
  refine x_aload_n C dL_law_1087 rfl rfl ?_
  refine x_iload C dL_law_1088 rfl ?_
  refine x_iconst (v := 2) C dL_law_1090 (by decide) ?_
  refine x_iadd C dL_law_1091 ?_
  refine x_sld C dL_law_1092 hX9 hb9 (l_in (k := 2) rfl (by decide) hi hL) ?_
  rw [e2]
  refine x_aload_n C dL_law_1093 rfl rfl ?_
  refine x_callSH (As := [_, _, _, _]) C dL_law_1094 hL_178 hh rfl rfl (by decide) ⟨by omega, by omega⟩ (Nat.le_of_ble_eq_true rfl) ?_
  rintro _ M1 ⟨rfl, q1⟩
  refine x_istore C dL_law_1097 rfl (by decide) ?_
  refine x_aload_n C dL_law_1099 rfl rfl ?_
  refine x_aload_n C dL_law_1100 rfl rfl ?_
  refine x_iload C dL_law_1101 rfl ?_
  refine x_iconst (v := 1) C dL_law_1103 (by decide) ?_
  refine x_iadd C dL_law_1104 ?_
  refine x_sld C dL_law_1105 hX9 hb9 (l_in (k := 1) rfl (by decide) hi hL) ?_
  rw [e1]
  refine x_aload_n C dL_law_1106 rfl rfl ?_
  refine x_iload C dL_law_1107 rfl ?_
  refine x_iconst (v := 2) C dL_law_1109 (by decide) ?_
  refine x_iadd C dL_law_1110 ?_
  refine x_sld C dL_law_1111 hX9 hb9 (l_in (k := 2) rfl (by decide) hi hL) ?_
  rw [e2]
  obtain ⟨sz, ea, tk, dp, tp, kd, fr, mn, rl, me, q, rd, t, m, m2, ho⟩ := wM_o q1.2.1
  refine x_callV (As := [_, _]) C dL_law_1112 kL_180 (hm M1 q1.2.1) (ho 0 _ rfl) rfl rfl rfl hdm.1 ⟨by omega, by omega⟩ (Nat.le_of_ble_eq_true rfl) ?_
  rintro _ M2 ⟨rfl, q2⟩
  refine x_istore C dL_law_1115 rfl (by decide) ?_
  refine x_aload_n C dL_law_1117 rfl rfl ?_
  obtain ⟨sz, ea, tk, dp, tp, kd, fr, mn, rl, me, q, rd, t, m, m2, ho2⟩ := wM_o q2.1
  refine x_callV0 C dL_law_1118 kL_103 (c_X11_thrown hO ho2) (ho2 0 _ rfl) rfl (by decide) ⟨by omega, by omega⟩ (Nat.le_of_ble_eq_true rfl) ?_
  rintro _ _ ⟨rfl, rfl⟩
  refine x_iload C dL_law_1121 rfl ?_
  refine x_icmp_eq (tgt := 1128) C dL_law_1123 (by decide) (fun _ => ?_) (fun q => absurd rfl q)
  obtain ⟨g, q3, q4⟩ := hQ_end q1 q2 hn hf hP hk9
  refine x_iload C dL_law_1128 rfl ?_
  refine x_if_ne (tgt := 1152) C dL_law_1130 (by decide) (fun c1 => ?_) (fun c1 => ?_)
  · refine x_goto (tgt := 1846) C dL_law_1152 (by decide) ?_
    refine x_take 5 ?_
    refine x_widen (k := cells + 40) (n := slots + 1600) (by omega) (by omega) ?_
    exact kk _ ⟨n', f', P, A', ep, k, g, q3⟩
  · refine x_aload_n C dL_law_1133 rfl rfl ?_
    refine x_iconst (v := 0) C dL_law_1134 (by decide) ?_
    refine x_laload C dL_law_1135 (q3.2.2.2.2.1 0 _ rfl) h_in0 ?_
    rw [show (0 : Int32).toNatClampNeg = 0 by decide, q4 c1]
    refine x_iload C dL_law_1136 rfl ?_
    refine x_if_eq (tgt := 1145) C dL_law_1138 (by decide) (fun c2 => ?_) (fun c2 => ?_)
    · rw [if_pos c2]
      refine x_lconst (v := 0) C dL_law_1145 (by decide) ?_
      refine x_lcmp C dL_law_1146 ?_
      refine x_if_eq (tgt := 1152) C dL_law_1147 (by decide) (fun _ => ?_) (fun q => absurd ((lg_cmp_eq _ _).mpr rfl) q)
      refine x_goto (tgt := 1846) C dL_law_1152 (by decide) ?_
      refine x_take 5 ?_
      refine x_widen (k := cells + 40) (n := slots + 1600) (by omega) (by omega) ?_
      exact kk _ ⟨n', f', P, A', ep, k, g, q3⟩
    · rw [if_neg c2]
      refine x_lconst (v := 1) C dL_law_1141 (by decide) ?_
      refine x_goto (tgt := 1146) C dL_law_1142 (by decide) ?_
      refine x_lcmp C dL_law_1146 ?_
      refine x_if_eq (tgt := 1152) C dL_law_1147 (by decide) (fun _ => ?_) (fun q => absurd ((lg_cmp_eq _ _).mpr rfl) q)
      refine x_goto (tgt := 1846) C dL_law_1152 (by decide) ?_
      refine x_take 5 ?_
      refine x_widen (k := cells + 40) (n := slots + 1600) (by omega) (by omega) ?_
      exact kk _ ⟨n', f', P, A', ep, k, g, q3⟩
set_option maxHeartbeats 4000000 in
set_option maxRecDepth 100000 in
theorem S_votesFor {K : x_K} {l : Launch} {Y0 : x_Y} {nm9 : String} (hO : x_Ok Y0) (C : x_Ctx K l Y0 ⟨RL, nm9, ""⟩ cL_law 9 2048 601024 7293034) {b c i L cells slots : Nat} {xs : Nat → Int32} (hX9 : va_X b L xs Y0.1 Y0.1.heap) (hb9 : b < Y0.2.2.2) (hi : i + 6 ≤ L) (hL : L ≤ 3072) (hc9 : cells + 40 ≤ 601024 ∧ slots + 1600 ≤ 7293034) {M : x_M} {x1 : Int32} (e1 : xs (nI i + 1).toNatClampNeg = x1) {k r : Int32} {n n' : Nat} {f f' : Nat → Int32} {P : PL} {A A' : HS} {ep th : Int32} {dm mcm msm : Nat} (hh : x_H l Y0 yL_votesFor cL_votesFor 4 (some .int) [(0, 9, 12, 24)] 9 1 6 [.ref c, .int x1, .ref (c + 142)] M (fun u M1 => u = some (.int k) ∧ hQ M1 c k r.toInt64 n' f' A' n f P A ep th)) (hm : ∀ M1, wM M1 (c + 96) th n f P A ep → x_C l Y0 yX11_votesFor cX11_votesFor 2 (some .int) dm mcm msm [.ref (c + 96), .int x1] M1 (fun u M2 => u = some (.int r) ∧ mQ M1 M2 (c + 96) k n' f' P A' ep)) (hdm : dm + 1 ≤ 2048 ∧ mcm ≤ 5 ∧ msm ≤ 10) (hn : n' ≤ 2000) (hf : k_by f') (hP : p_ok P) (hk9 : h_ok P A') (kk : ∀ M1, wL M1 c → x_X K 9 (cells + 40) (slots + 1600) 1846 (lvL b c i) [] M1) : x_X K 9 cells slots 1155 (lvL b c i) [] M := by
  refine x_aload_n C dL_law_1155 rfl rfl ?_
  refine x_aload_n C dL_law_1156 rfl rfl ?_
  refine x_iload C dL_law_1157 rfl ?_
  refine x_iconst (v := 1) C dL_law_1159 (by decide) ?_
  refine x_iadd C dL_law_1160 ?_
  refine x_sld C dL_law_1161 hX9 hb9 (l_in (k := 1) rfl (by decide) hi hL) ?_
  rw [e1]
  refine x_aload_n C dL_law_1162 rfl rfl ?_
  refine x_callSH (As := [_, _, _]) C dL_law_1163 hL_181 hh rfl rfl (by decide) ⟨by omega, by omega⟩ (Nat.le_of_ble_eq_true rfl) ?_
  rintro _ M1 ⟨rfl, q1⟩
  refine x_istore C dL_law_1166 rfl (by decide) ?_
  refine x_aload_n C dL_law_1168 rfl rfl ?_
  refine x_aload_n C dL_law_1169 rfl rfl ?_
  refine x_iload C dL_law_1170 rfl ?_
  refine x_iconst (v := 1) C dL_law_1172 (by decide) ?_
  refine x_iadd C dL_law_1173 ?_
  refine x_sld C dL_law_1174 hX9 hb9 (l_in (k := 1) rfl (by decide) hi hL) ?_
  rw [e1]
  obtain ⟨sz, ea, tk, dp, tp, kd, fr, mn, rl, me, q, rd, t, m, m2, ho⟩ := wM_o q1.2.1
  refine x_callV (As := [_]) C dL_law_1175 kL_183 (hm M1 q1.2.1) (ho 0 _ rfl) rfl rfl rfl hdm.1 ⟨by omega, by omega⟩ (Nat.le_of_ble_eq_true rfl) ?_
  rintro _ M2 ⟨rfl, q2⟩
  refine x_istore C dL_law_1178 rfl (by decide) ?_
  refine x_aload_n C dL_law_1180 rfl rfl ?_
  obtain ⟨sz, ea, tk, dp, tp, kd, fr, mn, rl, me, q, rd, t, m, m2, ho2⟩ := wM_o q2.1
  refine x_callV0 C dL_law_1181 kL_103 (c_X11_thrown hO ho2) (ho2 0 _ rfl) rfl (by decide) ⟨by omega, by omega⟩ (Nat.le_of_ble_eq_true rfl) ?_
  rintro _ _ ⟨rfl, rfl⟩
  refine x_iload C dL_law_1184 rfl ?_
  refine x_icmp_eq (tgt := 1191) C dL_law_1186 (by decide) (fun _ => ?_) (fun q => absurd rfl q)
  obtain ⟨g, q3, q4⟩ := hQ_end q1 q2 hn hf hP hk9
  refine x_iload C dL_law_1191 rfl ?_
  refine x_if_ne (tgt := 1208) C dL_law_1193 (by decide) (fun c1 => ?_) (fun c1 => ?_)
  · refine x_goto (tgt := 1846) C dL_law_1208 (by decide) ?_
    refine x_take 5 ?_
    refine x_widen (k := cells + 40) (n := slots + 1600) (by omega) (by omega) ?_
    exact kk _ ⟨n', f', P, A', ep, k, g, q3⟩
  · refine x_aload_n C dL_law_1196 rfl rfl ?_
    refine x_iconst (v := 0) C dL_law_1197 (by decide) ?_
    refine x_laload C dL_law_1198 (q3.2.2.2.2.1 0 _ rfl) h_in0 ?_
    rw [show (0 : Int32).toNatClampNeg = 0 by decide, q4 c1]
    refine x_iload C dL_law_1199 rfl ?_
    refine x_i2l C dL_law_1201 ?_
    refine x_lcmp C dL_law_1202 ?_
    refine x_if_eq (tgt := 1208) C dL_law_1203 (by decide) (fun _ => ?_) (fun q => absurd ((lg_cmp_eq _ _).mpr rfl) q)
    refine x_goto (tgt := 1846) C dL_law_1208 (by decide) ?_
    refine x_take 5 ?_
    refine x_widen (k := cells + 40) (n := slots + 1600) (by omega) (by omega) ?_
    exact kk _ ⟨n', f', P, A', ep, k, g, q3⟩
set_option maxHeartbeats 4000000 in
set_option maxRecDepth 100000 in
theorem S_wouldAgree {K : x_K} {l : Launch} {Y0 : x_Y} {nm9 : String} (hO : x_Ok Y0) (C : x_Ctx K l Y0 ⟨RL, nm9, ""⟩ cL_law 9 2048 601024 7293034) {b c i L cells slots : Nat} {xs : Nat → Int32} (hX9 : va_X b L xs Y0.1 Y0.1.heap) (hb9 : b < Y0.2.2.2) (hi : i + 6 ≤ L) (hL : L ≤ 3072) (hc9 : cells + 40 ≤ 601024 ∧ slots + 1600 ≤ 7293034) {M : x_M} {x1 : Int32} (e1 : xs (nI i + 1).toNatClampNeg = x1) {k r : Int32} {n n' : Nat} {f f' : Nat → Int32} {P : PL} {A A' : HS} {ep th : Int32} {dm mcm msm : Nat} (hh : x_H l Y0 yL_wouldAgree cL_wouldAgree 4 (some .int) [(0, 16, 19, 24)] 9 1 6 [.ref c, .int x1, .ref (c + 142)] M (fun u M1 => u = some (.int k) ∧ hQ M1 c k (if r = 0 then (0 : Int64) else 1) n' f' A' n f P A ep th)) (hm : ∀ M1, wM M1 (c + 96) th n f P A ep → x_C l Y0 yX11_wouldAgree cX11_wouldAgree 2 (some .boolean) dm mcm msm [.ref (c + 96), .int x1] M1 (fun u M2 => u = some (.int r) ∧ mQ M1 M2 (c + 96) k n' f' P A' ep)) (hdm : dm + 1 ≤ 2048 ∧ mcm ≤ 5 ∧ msm ≤ 10) (hn : n' ≤ 2000) (hf : k_by f') (hP : p_ok P) (hk9 : h_ok P A') (kk : ∀ M1, wL M1 c → x_X K 9 (cells + 40) (slots + 1600) 1846 (lvL b c i) [] M1) : x_X K 9 cells slots 1211 (lvL b c i) [] M := by
  refine x_aload_n C dL_law_1211 rfl rfl ?_
  refine x_aload_n C dL_law_1212 rfl rfl ?_
  refine x_iload C dL_law_1213 rfl ?_
  refine x_iconst (v := 1) C dL_law_1215 (by decide) ?_
  refine x_iadd C dL_law_1216 ?_
  refine x_sld C dL_law_1217 hX9 hb9 (l_in (k := 1) rfl (by decide) hi hL) ?_
  rw [e1]
  refine x_aload_n C dL_law_1218 rfl rfl ?_
  refine x_callSH (As := [_, _, _]) C dL_law_1219 hL_184 hh rfl rfl (by decide) ⟨by omega, by omega⟩ (Nat.le_of_ble_eq_true rfl) ?_
  rintro _ M1 ⟨rfl, q1⟩
  refine x_istore C dL_law_1222 rfl (by decide) ?_
  refine x_aload_n C dL_law_1224 rfl rfl ?_
  refine x_aload_n C dL_law_1225 rfl rfl ?_
  refine x_iload C dL_law_1226 rfl ?_
  refine x_iconst (v := 1) C dL_law_1228 (by decide) ?_
  refine x_iadd C dL_law_1229 ?_
  refine x_sld C dL_law_1230 hX9 hb9 (l_in (k := 1) rfl (by decide) hi hL) ?_
  rw [e1]
  obtain ⟨sz, ea, tk, dp, tp, kd, fr, mn, rl, me, q, rd, t, m, m2, ho⟩ := wM_o q1.2.1
  refine x_callV (As := [_]) C dL_law_1231 kL_186 (hm M1 q1.2.1) (ho 0 _ rfl) rfl rfl rfl hdm.1 ⟨by omega, by omega⟩ (Nat.le_of_ble_eq_true rfl) ?_
  rintro _ M2 ⟨rfl, q2⟩
  refine x_istore C dL_law_1234 rfl (by decide) ?_
  refine x_aload_n C dL_law_1236 rfl rfl ?_
  obtain ⟨sz, ea, tk, dp, tp, kd, fr, mn, rl, me, q, rd, t, m, m2, ho2⟩ := wM_o q2.1
  refine x_callV0 C dL_law_1237 kL_103 (c_X11_thrown hO ho2) (ho2 0 _ rfl) rfl (by decide) ⟨by omega, by omega⟩ (Nat.le_of_ble_eq_true rfl) ?_
  rintro _ _ ⟨rfl, rfl⟩
  refine x_iload C dL_law_1240 rfl ?_
  refine x_icmp_eq (tgt := 1247) C dL_law_1242 (by decide) (fun _ => ?_) (fun q => absurd rfl q)
  obtain ⟨g, q3, q4⟩ := hQ_end q1 q2 hn hf hP hk9
  refine x_iload C dL_law_1247 rfl ?_
  refine x_if_ne (tgt := 1271) C dL_law_1249 (by decide) (fun c1 => ?_) (fun c1 => ?_)
  · refine x_goto (tgt := 1846) C dL_law_1271 (by decide) ?_
    refine x_take 5 ?_
    refine x_widen (k := cells + 40) (n := slots + 1600) (by omega) (by omega) ?_
    exact kk _ ⟨n', f', P, A', ep, k, g, q3⟩
  · refine x_aload_n C dL_law_1252 rfl rfl ?_
    refine x_iconst (v := 0) C dL_law_1253 (by decide) ?_
    refine x_laload C dL_law_1254 (q3.2.2.2.2.1 0 _ rfl) h_in0 ?_
    rw [show (0 : Int32).toNatClampNeg = 0 by decide, q4 c1]
    refine x_iload C dL_law_1255 rfl ?_
    refine x_if_eq (tgt := 1264) C dL_law_1257 (by decide) (fun c2 => ?_) (fun c2 => ?_)
    · rw [if_pos c2]
      refine x_lconst (v := 0) C dL_law_1264 (by decide) ?_
      refine x_lcmp C dL_law_1265 ?_
      refine x_if_eq (tgt := 1271) C dL_law_1266 (by decide) (fun _ => ?_) (fun q => absurd ((lg_cmp_eq _ _).mpr rfl) q)
      refine x_goto (tgt := 1846) C dL_law_1271 (by decide) ?_
      refine x_take 5 ?_
      refine x_widen (k := cells + 40) (n := slots + 1600) (by omega) (by omega) ?_
      exact kk _ ⟨n', f', P, A', ep, k, g, q3⟩
    · rw [if_neg c2]
      refine x_lconst (v := 1) C dL_law_1260 (by decide) ?_
      refine x_goto (tgt := 1265) C dL_law_1261 (by decide) ?_
      refine x_lcmp C dL_law_1265 ?_
      refine x_if_eq (tgt := 1271) C dL_law_1266 (by decide) (fun _ => ?_) (fun q => absurd ((lg_cmp_eq _ _).mpr rfl) q)
      refine x_goto (tgt := 1846) C dL_law_1271 (by decide) ?_
      refine x_take 5 ?_
      refine x_widen (k := cells + 40) (n := slots + 1600) (by omega) (by omega) ?_
      exact kk _ ⟨n', f', P, A', ep, k, g, q3⟩
set_option maxHeartbeats 4000000 in
set_option maxRecDepth 100000 in
theorem S_begin {K : x_K} {l : Launch} {Y0 : x_Y} {nm9 : String} (hO : x_Ok Y0) (C : x_Ctx K l Y0 ⟨RL, nm9, ""⟩ cL_law 9 2048 601024 7293034) {b c i L cells slots : Nat} {xs : Nat → Int32} (hX9 : va_X b L xs Y0.1 Y0.1.heap) (hb9 : b < Y0.2.2.2) (hi : i + 6 ≤ L) (hL : L ≤ 3072) (hc9 : cells + 40 ≤ 601024 ∧ slots + 1600 ≤ 7293034) {M : x_M} {x1 : Int32} (e1 : xs (nI i + 1).toNatClampNeg = x1) {k r : Int32} {n n' : Nat} {f f' : Nat → Int32} {P : PL} {A A' : HS} {ep th : Int32} {dm mcm msm : Nat} (hh : x_H l Y0 yL_begin cL_begin 4 (some .int) [(0, 9, 12, 24), (0, 9, 15, 13)] 9 1 6 [.ref c, .int x1, .ref (c + 142)] M (fun u M1 => u = some (.int k) ∧ hQ M1 c k r.toInt64 n' f' A' n f P A ep th)) (hm : ∀ M1, wM M1 (c + 96) th n f P A ep → x_C l Y0 yX11_begin cX11_begin 2 (some .int) dm mcm msm [.ref (c + 96), .int x1] M1 (fun u M2 => u = some (.int r) ∧ mQ M1 M2 (c + 96) k n' f' P A' ep)) (hdm : dm + 1 ≤ 2048 ∧ mcm ≤ 5 ∧ msm ≤ 10) (hn : n' ≤ 2000) (hf : k_by f') (hP : p_ok P) (hk9 : h_ok P A') (kk : ∀ M1, wL M1 c → x_X K 9 (cells + 40) (slots + 1600) 1846 (lvL b c i) [] M1) : x_X K 9 cells slots 1274 (lvL b c i) [] M := by
  refine x_aload_n C dL_law_1274 rfl rfl ?_
  refine x_aload_n C dL_law_1275 rfl rfl ?_
  refine x_iload C dL_law_1276 rfl ?_
  refine x_iconst (v := 1) C dL_law_1278 (by decide) ?_
  refine x_iadd C dL_law_1279 ?_
  refine x_sld C dL_law_1280 hX9 hb9 (l_in (k := 1) rfl (by decide) hi hL) ?_
  rw [e1]
  refine x_aload_n C dL_law_1281 rfl rfl ?_
  refine x_callSH (As := [_, _, _]) C dL_law_1282 hL_187 hh rfl rfl (by decide) ⟨by omega, by omega⟩ (Nat.le_of_ble_eq_true rfl) ?_
  rintro _ M1 ⟨rfl, q1⟩
  refine x_istore C dL_law_1285 rfl (by decide) ?_
  refine x_aload_n C dL_law_1287 rfl rfl ?_
  refine x_aload_n C dL_law_1288 rfl rfl ?_
  refine x_iload C dL_law_1289 rfl ?_
  refine x_iconst (v := 1) C dL_law_1291 (by decide) ?_
  refine x_iadd C dL_law_1292 ?_
  refine x_sld C dL_law_1293 hX9 hb9 (l_in (k := 1) rfl (by decide) hi hL) ?_
  rw [e1]
  obtain ⟨sz, ea, tk, dp, tp, kd, fr, mn, rl, me, q, rd, t, m, m2, ho⟩ := wM_o q1.2.1
  refine x_callV (As := [_]) C dL_law_1294 kL_189 (hm M1 q1.2.1) (ho 0 _ rfl) rfl rfl rfl hdm.1 ⟨by omega, by omega⟩ (Nat.le_of_ble_eq_true rfl) ?_
  rintro _ M2 ⟨rfl, q2⟩
  refine x_istore C dL_law_1297 rfl (by decide) ?_
  refine x_aload_n C dL_law_1299 rfl rfl ?_
  obtain ⟨sz, ea, tk, dp, tp, kd, fr, mn, rl, me, q, rd, t, m, m2, ho2⟩ := wM_o q2.1
  refine x_callV0 C dL_law_1300 kL_103 (c_X11_thrown hO ho2) (ho2 0 _ rfl) rfl (by decide) ⟨by omega, by omega⟩ (Nat.le_of_ble_eq_true rfl) ?_
  rintro _ _ ⟨rfl, rfl⟩
  refine x_iload C dL_law_1303 rfl ?_
  refine x_icmp_eq (tgt := 1310) C dL_law_1305 (by decide) (fun _ => ?_) (fun q => absurd rfl q)
  obtain ⟨g, q3, q4⟩ := hQ_end q1 q2 hn hf hP hk9
  refine x_iload C dL_law_1310 rfl ?_
  refine x_if_ne (tgt := 1327) C dL_law_1312 (by decide) (fun c1 => ?_) (fun c1 => ?_)
  · refine x_goto (tgt := 1846) C dL_law_1327 (by decide) ?_
    refine x_take 5 ?_
    refine x_widen (k := cells + 40) (n := slots + 1600) (by omega) (by omega) ?_
    exact kk _ ⟨n', f', P, A', ep, k, g, q3⟩
  · refine x_aload_n C dL_law_1315 rfl rfl ?_
    refine x_iconst (v := 0) C dL_law_1316 (by decide) ?_
    refine x_laload C dL_law_1317 (q3.2.2.2.2.1 0 _ rfl) h_in0 ?_
    rw [show (0 : Int32).toNatClampNeg = 0 by decide, q4 c1]
    refine x_iload C dL_law_1318 rfl ?_
    refine x_i2l C dL_law_1320 ?_
    refine x_lcmp C dL_law_1321 ?_
    refine x_if_eq (tgt := 1327) C dL_law_1322 (by decide) (fun _ => ?_) (fun q => absurd ((lg_cmp_eq _ _).mpr rfl) q)
    refine x_goto (tgt := 1846) C dL_law_1327 (by decide) ?_
    refine x_take 5 ?_
    refine x_widen (k := cells + 40) (n := slots + 1600) (by omega) (by omega) ?_
    exact kk _ ⟨n', f', P, A', ep, k, g, q3⟩
set_option maxHeartbeats 4000000 in
set_option maxRecDepth 100000 in
theorem S_crash {K : x_K} {l : Launch} {Y0 : x_Y} {nm9 : String} (hO : x_Ok Y0) (C : x_Ctx K l Y0 ⟨RL, nm9, ""⟩ cL_law 9 2048 601024 7293034) {b c i L cells slots : Nat} {xs : Nat → Int32} (hX9 : va_X b L xs Y0.1 Y0.1.heap) (hb9 : b < Y0.2.2.2) (hi : i + 6 ≤ L) (hL : L ≤ 3072) (hc9 : cells + 40 ≤ 601024 ∧ slots + 1600 ≤ 7293034) {M : x_M} {x1 : Int32} (e1 : xs (nI i + 1).toNatClampNeg = x1) {k r : Int32} {n n' : Nat} {f f' : Nat → Int32} {P : PL} {A A' : HS} {ep th : Int32} {dm mcm msm : Nat} (hh : x_H l Y0 yL_crash cL_crash 4 (some .int) [(0, 9, 12, 24), (0, 9, 15, 13)] 9 1 6 [.ref c, .int x1, .ref (c + 142)] M (fun u M1 => u = some (.int k) ∧ hQ M1 c k r.toInt64 n' f' A' n f P A ep th)) (hm : ∀ M1, wM M1 (c + 96) th n f P A ep → x_C l Y0 yX11_crash cX11_crash 2 (some .int) dm mcm msm [.ref (c + 96), .int x1] M1 (fun u M2 => u = some (.int r) ∧ mQ M1 M2 (c + 96) k n' f' P A' ep)) (hdm : dm + 1 ≤ 2048 ∧ mcm ≤ 5 ∧ msm ≤ 10) (hn : n' ≤ 2000) (hf : k_by f') (hP : p_ok P) (hk9 : h_ok P A') (kk : ∀ M1, wL M1 c → x_X K 9 (cells + 40) (slots + 1600) 1846 (lvL b c i) [] M1) : x_X K 9 cells slots 1330 (lvL b c i) [] M := by
  refine x_aload_n C dL_law_1330 rfl rfl ?_
  refine x_aload_n C dL_law_1331 rfl rfl ?_
  refine x_iload C dL_law_1332 rfl ?_
  refine x_iconst (v := 1) C dL_law_1334 (by decide) ?_
  refine x_iadd C dL_law_1335 ?_
  refine x_sld C dL_law_1336 hX9 hb9 (l_in (k := 1) rfl (by decide) hi hL) ?_
  rw [e1]
  refine x_aload_n C dL_law_1337 rfl rfl ?_
  refine x_callSH (As := [_, _, _]) C dL_law_1338 hL_190 hh rfl rfl (by decide) ⟨by omega, by omega⟩ (Nat.le_of_ble_eq_true rfl) ?_
  rintro _ M1 ⟨rfl, q1⟩
  refine x_istore C dL_law_1341 rfl (by decide) ?_
  refine x_aload_n C dL_law_1343 rfl rfl ?_
  refine x_aload_n C dL_law_1344 rfl rfl ?_
  refine x_iload C dL_law_1345 rfl ?_
  refine x_iconst (v := 1) C dL_law_1347 (by decide) ?_
  refine x_iadd C dL_law_1348 ?_
  refine x_sld C dL_law_1349 hX9 hb9 (l_in (k := 1) rfl (by decide) hi hL) ?_
  rw [e1]
  obtain ⟨sz, ea, tk, dp, tp, kd, fr, mn, rl, me, q, rd, t, m, m2, ho⟩ := wM_o q1.2.1
  refine x_callV (As := [_]) C dL_law_1350 kL_192 (hm M1 q1.2.1) (ho 0 _ rfl) rfl rfl rfl hdm.1 ⟨by omega, by omega⟩ (Nat.le_of_ble_eq_true rfl) ?_
  rintro _ M2 ⟨rfl, q2⟩
  refine x_istore C dL_law_1353 rfl (by decide) ?_
  refine x_aload_n C dL_law_1355 rfl rfl ?_
  obtain ⟨sz, ea, tk, dp, tp, kd, fr, mn, rl, me, q, rd, t, m, m2, ho2⟩ := wM_o q2.1
  refine x_callV0 C dL_law_1356 kL_103 (c_X11_thrown hO ho2) (ho2 0 _ rfl) rfl (by decide) ⟨by omega, by omega⟩ (Nat.le_of_ble_eq_true rfl) ?_
  rintro _ _ ⟨rfl, rfl⟩
  refine x_iload C dL_law_1359 rfl ?_
  refine x_icmp_eq (tgt := 1366) C dL_law_1361 (by decide) (fun _ => ?_) (fun q => absurd rfl q)
  obtain ⟨g, q3, q4⟩ := hQ_end q1 q2 hn hf hP hk9
  refine x_iload C dL_law_1366 rfl ?_
  refine x_if_ne (tgt := 1383) C dL_law_1368 (by decide) (fun c1 => ?_) (fun c1 => ?_)
  · refine x_goto (tgt := 1846) C dL_law_1383 (by decide) ?_
    refine x_take 5 ?_
    refine x_widen (k := cells + 40) (n := slots + 1600) (by omega) (by omega) ?_
    exact kk _ ⟨n', f', P, A', ep, k, g, q3⟩
  · refine x_aload_n C dL_law_1371 rfl rfl ?_
    refine x_iconst (v := 0) C dL_law_1372 (by decide) ?_
    refine x_laload C dL_law_1373 (q3.2.2.2.2.1 0 _ rfl) h_in0 ?_
    rw [show (0 : Int32).toNatClampNeg = 0 by decide, q4 c1]
    refine x_iload C dL_law_1374 rfl ?_
    refine x_i2l C dL_law_1376 ?_
    refine x_lcmp C dL_law_1377 ?_
    refine x_if_eq (tgt := 1383) C dL_law_1378 (by decide) (fun _ => ?_) (fun q => absurd ((lg_cmp_eq _ _).mpr rfl) q)
    refine x_goto (tgt := 1846) C dL_law_1383 (by decide) ?_
    refine x_take 5 ?_
    refine x_widen (k := cells + 40) (n := slots + 1600) (by omega) (by omega) ?_
    exact kk _ ⟨n', f', P, A', ep, k, g, q3⟩
set_option maxHeartbeats 4000000 in
set_option maxRecDepth 100000 in
theorem S_wake {K : x_K} {l : Launch} {Y0 : x_Y} {nm9 : String} (hO : x_Ok Y0) (C : x_Ctx K l Y0 ⟨RL, nm9, ""⟩ cL_law 9 2048 601024 7293034) {b c i L cells slots : Nat} {xs : Nat → Int32} (hX9 : va_X b L xs Y0.1 Y0.1.heap) (hb9 : b < Y0.2.2.2) (hi : i + 6 ≤ L) (hL : L ≤ 3072) (hc9 : cells + 40 ≤ 601024 ∧ slots + 1600 ≤ 7293034) {M : x_M} {x1 : Int32} (e1 : xs (nI i + 1).toNatClampNeg = x1) {k r : Int32} {n n' : Nat} {f f' : Nat → Int32} {P : PL} {A A' : HS} {ep th : Int32} {dm mcm msm : Nat} (hh : x_H l Y0 yL_wake cL_wake 4 (some .int) [(0, 9, 12, 24), (0, 9, 15, 13)] 9 1 6 [.ref c, .int x1, .ref (c + 142)] M (fun u M1 => u = some (.int k) ∧ hQ M1 c k r.toInt64 n' f' A' n f P A ep th)) (hm : ∀ M1, wM M1 (c + 96) th n f P A ep → x_C l Y0 yX11_wake cX11_wake 2 (some .int) dm mcm msm [.ref (c + 96), .int x1] M1 (fun u M2 => u = some (.int r) ∧ mQ M1 M2 (c + 96) k n' f' P A' ep)) (hdm : dm + 1 ≤ 2048 ∧ mcm ≤ 5 ∧ msm ≤ 10) (hn : n' ≤ 2000) (hf : k_by f') (hP : p_ok P) (hk9 : h_ok P A') (kk : ∀ M1, wL M1 c → x_X K 9 (cells + 40) (slots + 1600) 1846 (lvL b c i) [] M1) : x_X K 9 cells slots 1386 (lvL b c i) [] M := by
  refine x_aload_n C dL_law_1386 rfl rfl ?_
  refine x_aload_n C dL_law_1387 rfl rfl ?_
  refine x_iload C dL_law_1388 rfl ?_
  refine x_iconst (v := 1) C dL_law_1390 (by decide) ?_
  refine x_iadd C dL_law_1391 ?_
  refine x_sld C dL_law_1392 hX9 hb9 (l_in (k := 1) rfl (by decide) hi hL) ?_
  rw [e1]
  refine x_aload_n C dL_law_1393 rfl rfl ?_
  refine x_callSH (As := [_, _, _]) C dL_law_1394 hL_193 hh rfl rfl (by decide) ⟨by omega, by omega⟩ (Nat.le_of_ble_eq_true rfl) ?_
  rintro _ M1 ⟨rfl, q1⟩
  refine x_istore C dL_law_1397 rfl (by decide) ?_
  refine x_aload_n C dL_law_1399 rfl rfl ?_
  refine x_aload_n C dL_law_1400 rfl rfl ?_
  refine x_iload C dL_law_1401 rfl ?_
  refine x_iconst (v := 1) C dL_law_1403 (by decide) ?_
  refine x_iadd C dL_law_1404 ?_
  refine x_sld C dL_law_1405 hX9 hb9 (l_in (k := 1) rfl (by decide) hi hL) ?_
  rw [e1]
  obtain ⟨sz, ea, tk, dp, tp, kd, fr, mn, rl, me, q, rd, t, m, m2, ho⟩ := wM_o q1.2.1
  refine x_callV (As := [_]) C dL_law_1406 kL_195 (hm M1 q1.2.1) (ho 0 _ rfl) rfl rfl rfl hdm.1 ⟨by omega, by omega⟩ (Nat.le_of_ble_eq_true rfl) ?_
  rintro _ M2 ⟨rfl, q2⟩
  refine x_istore C dL_law_1409 rfl (by decide) ?_
  refine x_aload_n C dL_law_1411 rfl rfl ?_
  obtain ⟨sz, ea, tk, dp, tp, kd, fr, mn, rl, me, q, rd, t, m, m2, ho2⟩ := wM_o q2.1
  refine x_callV0 C dL_law_1412 kL_103 (c_X11_thrown hO ho2) (ho2 0 _ rfl) rfl (by decide) ⟨by omega, by omega⟩ (Nat.le_of_ble_eq_true rfl) ?_
  rintro _ _ ⟨rfl, rfl⟩
  refine x_iload C dL_law_1415 rfl ?_
  refine x_icmp_eq (tgt := 1422) C dL_law_1417 (by decide) (fun _ => ?_) (fun q => absurd rfl q)
  obtain ⟨g, q3, q4⟩ := hQ_end q1 q2 hn hf hP hk9
  refine x_iload C dL_law_1422 rfl ?_
  refine x_if_ne (tgt := 1439) C dL_law_1424 (by decide) (fun c1 => ?_) (fun c1 => ?_)
  · refine x_goto (tgt := 1846) C dL_law_1439 (by decide) ?_
    refine x_take 5 ?_
    refine x_widen (k := cells + 40) (n := slots + 1600) (by omega) (by omega) ?_
    exact kk _ ⟨n', f', P, A', ep, k, g, q3⟩
  · refine x_aload_n C dL_law_1427 rfl rfl ?_
    refine x_iconst (v := 0) C dL_law_1428 (by decide) ?_
    refine x_laload C dL_law_1429 (q3.2.2.2.2.1 0 _ rfl) h_in0 ?_
    rw [show (0 : Int32).toNatClampNeg = 0 by decide, q4 c1]
    refine x_iload C dL_law_1430 rfl ?_
    refine x_i2l C dL_law_1432 ?_
    refine x_lcmp C dL_law_1433 ?_
    refine x_if_eq (tgt := 1439) C dL_law_1434 (by decide) (fun _ => ?_) (fun q => absurd ((lg_cmp_eq _ _).mpr rfl) q)
    refine x_goto (tgt := 1846) C dL_law_1439 (by decide) ?_
    refine x_take 5 ?_
    refine x_widen (k := cells + 40) (n := slots + 1600) (by omega) (by omega) ?_
    exact kk _ ⟨n', f', P, A', ep, k, g, q3⟩
set_option maxHeartbeats 4000000 in
set_option maxRecDepth 100000 in
theorem S_crashQueen {K : x_K} {l : Launch} {Y0 : x_Y} {nm9 : String} (hO : x_Ok Y0) (C : x_Ctx K l Y0 ⟨RL, nm9, ""⟩ cL_law 9 2048 601024 7293034) {b c i L cells slots : Nat} {xs : Nat → Int32} (hX9 : va_X b L xs Y0.1 Y0.1.heap) (hb9 : b < Y0.2.2.2) (hi : i + 6 ≤ L) (hL : L ≤ 3072) (hc9 : cells + 40 ≤ 601024 ∧ slots + 1600 ≤ 7293034) {M : x_M}  {k r : Int32} {n n' : Nat} {f f' : Nat → Int32} {P : PL} {A A' : HS} {ep th : Int32} {dm mcm msm : Nat} (hh : x_H l Y0 yL_crashQueen cL_crashQueen 3 (some .int) [(0, 8, 11, 13)] 9 1 6 [.ref c, .ref (c + 142)] M (fun u M1 => u = some (.int k) ∧ hQ M1 c k r.toInt64 n' f' A' n f P A ep th)) (hm : ∀ M1, wM M1 (c + 96) th n f P A ep → x_C l Y0 yX11_crashQueen cX11_crashQueen 1 (some .int) dm mcm msm [.ref (c + 96)] M1 (fun u M2 => u = some (.int r) ∧ mQ M1 M2 (c + 96) k n' f' P A' ep)) (hdm : dm + 1 ≤ 2048 ∧ mcm ≤ 5 ∧ msm ≤ 10) (hn : n' ≤ 2000) (hf : k_by f') (hP : p_ok P) (hk9 : h_ok P A') (kk : ∀ M1, wL M1 c → x_X K 9 (cells + 40) (slots + 1600) 1846 (lvL b c i) [] M1) : x_X K 9 cells slots 1442 (lvL b c i) [] M := by
  refine x_aload_n C dL_law_1442 rfl rfl ?_
  refine x_aload_n C dL_law_1443 rfl rfl ?_
  refine x_callSH (As := [_, _]) C dL_law_1444 hL_196 hh rfl rfl (by decide) ⟨by omega, by omega⟩ (Nat.le_of_ble_eq_true rfl) ?_
  rintro _ M1 ⟨rfl, q1⟩
  refine x_istore C dL_law_1447 rfl (by decide) ?_
  refine x_aload_n C dL_law_1449 rfl rfl ?_
  obtain ⟨sz, ea, tk, dp, tp, kd, fr, mn, rl, me, q, rd, t, m, m2, ho⟩ := wM_o q1.2.1
  refine x_callV (As := []) C dL_law_1450 kL_199 (hm M1 q1.2.1) (ho 0 _ rfl) rfl rfl rfl hdm.1 ⟨by omega, by omega⟩ (Nat.le_of_ble_eq_true rfl) ?_
  rintro _ M2 ⟨rfl, q2⟩
  refine x_istore C dL_law_1453 rfl (by decide) ?_
  refine x_aload_n C dL_law_1455 rfl rfl ?_
  obtain ⟨sz, ea, tk, dp, tp, kd, fr, mn, rl, me, q, rd, t, m, m2, ho2⟩ := wM_o q2.1
  refine x_callV0 C dL_law_1456 kL_103 (c_X11_thrown hO ho2) (ho2 0 _ rfl) rfl (by decide) ⟨by omega, by omega⟩ (Nat.le_of_ble_eq_true rfl) ?_
  rintro _ _ ⟨rfl, rfl⟩
  refine x_iload C dL_law_1459 rfl ?_
  refine x_icmp_eq (tgt := 1466) C dL_law_1461 (by decide) (fun _ => ?_) (fun q => absurd rfl q)
  obtain ⟨g, q3, q4⟩ := hQ_end q1 q2 hn hf hP hk9
  refine x_iload C dL_law_1466 rfl ?_
  refine x_if_ne (tgt := 1483) C dL_law_1468 (by decide) (fun c1 => ?_) (fun c1 => ?_)
  · refine x_goto (tgt := 1846) C dL_law_1483 (by decide) ?_
    refine x_take 5 ?_
    refine x_widen (k := cells + 40) (n := slots + 1600) (by omega) (by omega) ?_
    exact kk _ ⟨n', f', P, A', ep, k, g, q3⟩
  · refine x_aload_n C dL_law_1471 rfl rfl ?_
    refine x_iconst (v := 0) C dL_law_1472 (by decide) ?_
    refine x_laload C dL_law_1473 (q3.2.2.2.2.1 0 _ rfl) h_in0 ?_
    rw [show (0 : Int32).toNatClampNeg = 0 by decide, q4 c1]
    refine x_iload C dL_law_1474 rfl ?_
    refine x_i2l C dL_law_1476 ?_
    refine x_lcmp C dL_law_1477 ?_
    refine x_if_eq (tgt := 1483) C dL_law_1478 (by decide) (fun _ => ?_) (fun q => absurd ((lg_cmp_eq _ _).mpr rfl) q)
    refine x_goto (tgt := 1846) C dL_law_1483 (by decide) ?_
    refine x_take 5 ?_
    refine x_widen (k := cells + 40) (n := slots + 1600) (by omega) (by omega) ?_
    exact kk _ ⟨n', f', P, A', ep, k, g, q3⟩
set_option maxHeartbeats 4000000 in
set_option maxRecDepth 100000 in
theorem S_wakeQueen {K : x_K} {l : Launch} {Y0 : x_Y} {nm9 : String} (hO : x_Ok Y0) (C : x_Ctx K l Y0 ⟨RL, nm9, ""⟩ cL_law 9 2048 601024 7293034) {b c i L cells slots : Nat} {xs : Nat → Int32} (hX9 : va_X b L xs Y0.1 Y0.1.heap) (hb9 : b < Y0.2.2.2) (hi : i + 6 ≤ L) (hL : L ≤ 3072) (hc9 : cells + 40 ≤ 601024 ∧ slots + 1600 ≤ 7293034) {M : x_M}  {k r : Int32} {n n' : Nat} {f f' : Nat → Int32} {P : PL} {A A' : HS} {ep th : Int32} {dm mcm msm : Nat} (hh : x_H l Y0 yL_wakeQueen cL_wakeQueen 3 (some .int) [(0, 8, 11, 13)] 9 1 6 [.ref c, .ref (c + 142)] M (fun u M1 => u = some (.int k) ∧ hQ M1 c k r.toInt64 n' f' A' n f P A ep th)) (hm : ∀ M1, wM M1 (c + 96) th n f P A ep → x_C l Y0 yX11_wakeQueen cX11_wakeQueen 1 (some .int) dm mcm msm [.ref (c + 96)] M1 (fun u M2 => u = some (.int r) ∧ mQ M1 M2 (c + 96) k n' f' P A' ep)) (hdm : dm + 1 ≤ 2048 ∧ mcm ≤ 5 ∧ msm ≤ 10) (hn : n' ≤ 2000) (hf : k_by f') (hP : p_ok P) (hk9 : h_ok P A') (kk : ∀ M1, wL M1 c → x_X K 9 (cells + 40) (slots + 1600) 1846 (lvL b c i) [] M1) : x_X K 9 cells slots 1486 (lvL b c i) [] M := by
  refine x_aload_n C dL_law_1486 rfl rfl ?_
  refine x_aload_n C dL_law_1487 rfl rfl ?_
  refine x_callSH (As := [_, _]) C dL_law_1488 hL_200 hh rfl rfl (by decide) ⟨by omega, by omega⟩ (Nat.le_of_ble_eq_true rfl) ?_
  rintro _ M1 ⟨rfl, q1⟩
  refine x_istore C dL_law_1491 rfl (by decide) ?_
  refine x_aload_n C dL_law_1493 rfl rfl ?_
  obtain ⟨sz, ea, tk, dp, tp, kd, fr, mn, rl, me, q, rd, t, m, m2, ho⟩ := wM_o q1.2.1
  refine x_callV (As := []) C dL_law_1494 kL_202 (hm M1 q1.2.1) (ho 0 _ rfl) rfl rfl rfl hdm.1 ⟨by omega, by omega⟩ (Nat.le_of_ble_eq_true rfl) ?_
  rintro _ M2 ⟨rfl, q2⟩
  refine x_istore C dL_law_1497 rfl (by decide) ?_
  refine x_aload_n C dL_law_1499 rfl rfl ?_
  obtain ⟨sz, ea, tk, dp, tp, kd, fr, mn, rl, me, q, rd, t, m, m2, ho2⟩ := wM_o q2.1
  refine x_callV0 C dL_law_1500 kL_103 (c_X11_thrown hO ho2) (ho2 0 _ rfl) rfl (by decide) ⟨by omega, by omega⟩ (Nat.le_of_ble_eq_true rfl) ?_
  rintro _ _ ⟨rfl, rfl⟩
  refine x_iload C dL_law_1503 rfl ?_
  refine x_icmp_eq (tgt := 1510) C dL_law_1505 (by decide) (fun _ => ?_) (fun q => absurd rfl q)
  obtain ⟨g, q3, q4⟩ := hQ_end q1 q2 hn hf hP hk9
  refine x_iload C dL_law_1510 rfl ?_
  refine x_if_ne (tgt := 1527) C dL_law_1512 (by decide) (fun c1 => ?_) (fun c1 => ?_)
  · refine x_goto (tgt := 1846) C dL_law_1527 (by decide) ?_
    refine x_take 5 ?_
    refine x_widen (k := cells + 40) (n := slots + 1600) (by omega) (by omega) ?_
    exact kk _ ⟨n', f', P, A', ep, k, g, q3⟩
  · refine x_aload_n C dL_law_1515 rfl rfl ?_
    refine x_iconst (v := 0) C dL_law_1516 (by decide) ?_
    refine x_laload C dL_law_1517 (q3.2.2.2.2.1 0 _ rfl) h_in0 ?_
    rw [show (0 : Int32).toNatClampNeg = 0 by decide, q4 c1]
    refine x_iload C dL_law_1518 rfl ?_
    refine x_i2l C dL_law_1520 ?_
    refine x_lcmp C dL_law_1521 ?_
    refine x_if_eq (tgt := 1527) C dL_law_1522 (by decide) (fun _ => ?_) (fun q => absurd ((lg_cmp_eq _ _).mpr rfl) q)
    refine x_goto (tgt := 1846) C dL_law_1527 (by decide) ?_
    refine x_take 5 ?_
    refine x_widen (k := cells + 40) (n := slots + 1600) (by omega) (by omega) ?_
    exact kk _ ⟨n', f', P, A', ep, k, g, q3⟩
set_option maxHeartbeats 4000000 in
set_option maxRecDepth 100000 in
theorem S_passDays {K : x_K} {l : Launch} {Y0 : x_Y} {nm9 : String} (hO : x_Ok Y0) (C : x_Ctx K l Y0 ⟨RL, nm9, ""⟩ cL_law 9 2048 601024 7293034) {b c i L cells slots : Nat} {xs : Nat → Int32} (hX9 : va_X b L xs Y0.1 Y0.1.heap) (hb9 : b < Y0.2.2.2) (hi : i + 6 ≤ L) (hL : L ≤ 3072) (hc9 : cells + 40 ≤ 601024 ∧ slots + 1600 ≤ 7293034) {M : x_M} {x1 : Int32} (e1 : xs (nI i + 1).toNatClampNeg = x1) {k r : Int32} {n n' : Nat} {f f' : Nat → Int32} {P : PL} {A A' : HS} {ep th : Int32} {dm mcm msm : Nat} (hh : x_H l Y0 yL_passDays cL_passDays 4 (some .int) [(0, 9, 12, 19)] 9 1 6 [.ref c, .int x1, .ref (c + 142)] M (fun u M1 => u = some (.int k) ∧ hQ M1 c k r.toInt64 n' f' A' n f P A ep th)) (hm : ∀ M1, wM M1 (c + 96) th n f P A ep → x_C l Y0 yX11_passDays cX11_passDays 3 (some .int) dm mcm msm [.ref (c + 96), .int x1] M1 (fun u M2 => u = some (.int r) ∧ mQ M1 M2 (c + 96) k n' f' P A' ep)) (hdm : dm + 1 ≤ 2048 ∧ mcm ≤ 5 ∧ msm ≤ 10) (hn : n' ≤ 2000) (hf : k_by f') (hP : p_ok P) (hk9 : h_ok P A') (kk : ∀ M1, wL M1 c → x_X K 9 (cells + 40) (slots + 1600) 1846 (lvL b c i) [] M1) : x_X K 9 cells slots 1530 (lvL b c i) [] M := by
  refine x_aload_n C dL_law_1530 rfl rfl ?_
  refine x_aload_n C dL_law_1531 rfl rfl ?_
  refine x_iload C dL_law_1532 rfl ?_
  refine x_iconst (v := 1) C dL_law_1534 (by decide) ?_
  refine x_iadd C dL_law_1535 ?_
  refine x_sld C dL_law_1536 hX9 hb9 (l_in (k := 1) rfl (by decide) hi hL) ?_
  rw [e1]
  refine x_aload_n C dL_law_1537 rfl rfl ?_
  refine x_callSH (As := [_, _, _]) C dL_law_1538 hL_203 hh rfl rfl (by decide) ⟨by omega, by omega⟩ (Nat.le_of_ble_eq_true rfl) ?_
  rintro _ M1 ⟨rfl, q1⟩
  refine x_istore C dL_law_1541 rfl (by decide) ?_
  refine x_aload_n C dL_law_1543 rfl rfl ?_
  refine x_aload_n C dL_law_1544 rfl rfl ?_
  refine x_iload C dL_law_1545 rfl ?_
  refine x_iconst (v := 1) C dL_law_1547 (by decide) ?_
  refine x_iadd C dL_law_1548 ?_
  refine x_sld C dL_law_1549 hX9 hb9 (l_in (k := 1) rfl (by decide) hi hL) ?_
  rw [e1]
  obtain ⟨sz, ea, tk, dp, tp, kd, fr, mn, rl, me, q, rd, t, m, m2, ho⟩ := wM_o q1.2.1
  refine x_callV (As := [_]) C dL_law_1550 kL_205 (hm M1 q1.2.1) (ho 0 _ rfl) rfl rfl rfl hdm.1 ⟨by omega, by omega⟩ (Nat.le_of_ble_eq_true rfl) ?_
  rintro _ M2 ⟨rfl, q2⟩
  refine x_istore C dL_law_1553 rfl (by decide) ?_
  refine x_aload_n C dL_law_1555 rfl rfl ?_
  obtain ⟨sz, ea, tk, dp, tp, kd, fr, mn, rl, me, q, rd, t, m, m2, ho2⟩ := wM_o q2.1
  refine x_callV0 C dL_law_1556 kL_103 (c_X11_thrown hO ho2) (ho2 0 _ rfl) rfl (by decide) ⟨by omega, by omega⟩ (Nat.le_of_ble_eq_true rfl) ?_
  rintro _ _ ⟨rfl, rfl⟩
  refine x_iload C dL_law_1559 rfl ?_
  refine x_icmp_eq (tgt := 1566) C dL_law_1561 (by decide) (fun _ => ?_) (fun q => absurd rfl q)
  obtain ⟨g, q3, q4⟩ := hQ_end q1 q2 hn hf hP hk9
  refine x_iload C dL_law_1566 rfl ?_
  refine x_if_ne (tgt := 1583) C dL_law_1568 (by decide) (fun c1 => ?_) (fun c1 => ?_)
  · refine x_goto (tgt := 1846) C dL_law_1583 (by decide) ?_
    refine x_take 5 ?_
    refine x_widen (k := cells + 40) (n := slots + 1600) (by omega) (by omega) ?_
    exact kk _ ⟨n', f', P, A', ep, k, g, q3⟩
  · refine x_aload_n C dL_law_1571 rfl rfl ?_
    refine x_iconst (v := 0) C dL_law_1572 (by decide) ?_
    refine x_laload C dL_law_1573 (q3.2.2.2.2.1 0 _ rfl) h_in0 ?_
    rw [show (0 : Int32).toNatClampNeg = 0 by decide, q4 c1]
    refine x_iload C dL_law_1574 rfl ?_
    refine x_i2l C dL_law_1576 ?_
    refine x_lcmp C dL_law_1577 ?_
    refine x_if_eq (tgt := 1583) C dL_law_1578 (by decide) (fun _ => ?_) (fun q => absurd ((lg_cmp_eq _ _).mpr rfl) q)
    refine x_goto (tgt := 1846) C dL_law_1583 (by decide) ?_
    refine x_take 5 ?_
    refine x_widen (k := cells + 40) (n := slots + 1600) (by omega) (by omega) ?_
    exact kk _ ⟨n', f', P, A', ep, k, g, q3⟩
set_option maxHeartbeats 4000000 in
set_option maxRecDepth 100000 in
theorem S_honeyAfter {K : x_K} {l : Launch} {Y0 : x_Y} {nm9 : String} (hO : x_Ok Y0) (C : x_Ctx K l Y0 ⟨RL, nm9, ""⟩ cL_law 9 2048 601024 7293034) {b c i L cells slots : Nat} {xs : Nat → Int32} (hX9 : va_X b L xs Y0.1 Y0.1.heap) (hb9 : b < Y0.2.2.2) (hi : i + 6 ≤ L) (hL : L ≤ 3072) (hc9 : cells + 40 ≤ 601024 ∧ slots + 1600 ≤ 7293034) {M : x_M} {x1 x2 : Int32} (e1 : xs (nI i + 1).toNatClampNeg = x1) (e2 : xs (nI i + 2).toNatClampNeg = x2) {k r : Int32} {n n' : Nat} {f f' : Nat → Int32} {P : PL} {A A' : HS} {ep th : Int32} {dm mcm msm : Nat} (hh : x_H l Y0 yL_honeyAfter cL_honeyAfter 5 (some .int) [(0, 10, 13, 24), (0, 10, 17, 19)] 9 1 6 [.ref c, .int x1, .int x2, .ref (c + 142)] M (fun u M1 => u = some (.int k) ∧ hQ M1 c k r.toInt64 n' f' A' n f P A ep th)) (hm : ∀ M1, wM M1 (c + 96) th n f P A ep → x_C l Y0 yX11_honeyAfter cX11_honeyAfter 3 (some .int) dm mcm msm [.ref (c + 96), .int x1, .int x2] M1 (fun u M2 => u = some (.int r) ∧ mQ M1 M2 (c + 96) k n' f' P A' ep)) (hdm : dm + 1 ≤ 2048 ∧ mcm ≤ 5 ∧ msm ≤ 10) (hn : n' ≤ 2000) (hf : k_by f') (hP : p_ok P) (hk9 : h_ok P A') (kk : ∀ M1, wL M1 c → x_X K 9 (cells + 40) (slots + 1600) 1846 (lvL b c i) [] M1) : x_X K 9 cells slots 1586 (lvL b c i) [] M := by
  refine x_aload_n C dL_law_1586 rfl rfl ?_
  refine x_aload_n C dL_law_1587 rfl rfl ?_
  refine x_iload C dL_law_1588 rfl ?_
  refine x_iconst (v := 1) C dL_law_1590 (by decide) ?_
  refine x_iadd C dL_law_1591 ?_
  refine x_sld C dL_law_1592 hX9 hb9 (l_in (k := 1) rfl (by decide) hi hL) ?_
  rw [e1]
  refine x_aload_n C dL_law_1593 rfl rfl ?_
  refine x_iload C dL_law_1594 rfl ?_
  refine x_iconst (v := 2) C dL_law_1596 (by decide) ?_
  refine x_iadd C dL_law_1597 ?_
  refine x_sld C dL_law_1598 hX9 hb9 (l_in (k := 2) rfl (by decide) hi hL) ?_
  rw [e2]
  refine x_aload_n C dL_law_1599 rfl rfl ?_
  refine x_callSH (As := [_, _, _, _]) C dL_law_1600 hL_206 hh rfl rfl (by decide) ⟨by omega, by omega⟩ (Nat.le_of_ble_eq_true rfl) ?_
  rintro _ M1 ⟨rfl, q1⟩
  refine x_istore C dL_law_1603 rfl (by decide) ?_
  refine x_aload_n C dL_law_1605 rfl rfl ?_
  refine x_aload_n C dL_law_1606 rfl rfl ?_
  refine x_iload C dL_law_1607 rfl ?_
  refine x_iconst (v := 1) C dL_law_1609 (by decide) ?_
  refine x_iadd C dL_law_1610 ?_
  refine x_sld C dL_law_1611 hX9 hb9 (l_in (k := 1) rfl (by decide) hi hL) ?_
  rw [e1]
  refine x_aload_n C dL_law_1612 rfl rfl ?_
  refine x_iload C dL_law_1613 rfl ?_
  refine x_iconst (v := 2) C dL_law_1615 (by decide) ?_
  refine x_iadd C dL_law_1616 ?_
  refine x_sld C dL_law_1617 hX9 hb9 (l_in (k := 2) rfl (by decide) hi hL) ?_
  rw [e2]
  obtain ⟨sz, ea, tk, dp, tp, kd, fr, mn, rl, me, q, rd, t, m, m2, ho⟩ := wM_o q1.2.1
  refine x_callV (As := [_, _]) C dL_law_1618 kL_208 (hm M1 q1.2.1) (ho 0 _ rfl) rfl rfl rfl hdm.1 ⟨by omega, by omega⟩ (Nat.le_of_ble_eq_true rfl) ?_
  rintro _ M2 ⟨rfl, q2⟩
  refine x_istore C dL_law_1621 rfl (by decide) ?_
  refine x_aload_n C dL_law_1623 rfl rfl ?_
  obtain ⟨sz, ea, tk, dp, tp, kd, fr, mn, rl, me, q, rd, t, m, m2, ho2⟩ := wM_o q2.1
  refine x_callV0 C dL_law_1624 kL_103 (c_X11_thrown hO ho2) (ho2 0 _ rfl) rfl (by decide) ⟨by omega, by omega⟩ (Nat.le_of_ble_eq_true rfl) ?_
  rintro _ _ ⟨rfl, rfl⟩
  refine x_iload C dL_law_1627 rfl ?_
  refine x_icmp_eq (tgt := 1634) C dL_law_1629 (by decide) (fun _ => ?_) (fun q => absurd rfl q)
  obtain ⟨g, q3, q4⟩ := hQ_end q1 q2 hn hf hP hk9
  refine x_iload C dL_law_1634 rfl ?_
  refine x_if_ne (tgt := 1651) C dL_law_1636 (by decide) (fun c1 => ?_) (fun c1 => ?_)
  · refine x_goto (tgt := 1846) C dL_law_1651 (by decide) ?_
    refine x_take 5 ?_
    refine x_widen (k := cells + 40) (n := slots + 1600) (by omega) (by omega) ?_
    exact kk _ ⟨n', f', P, A', ep, k, g, q3⟩
  · refine x_aload_n C dL_law_1639 rfl rfl ?_
    refine x_iconst (v := 0) C dL_law_1640 (by decide) ?_
    refine x_laload C dL_law_1641 (q3.2.2.2.2.1 0 _ rfl) h_in0 ?_
    rw [show (0 : Int32).toNatClampNeg = 0 by decide, q4 c1]
    refine x_iload C dL_law_1642 rfl ?_
    refine x_i2l C dL_law_1644 ?_
    refine x_lcmp C dL_law_1645 ?_
    refine x_if_eq (tgt := 1651) C dL_law_1646 (by decide) (fun _ => ?_) (fun q => absurd ((lg_cmp_eq _ _).mpr rfl) q)
    refine x_goto (tgt := 1846) C dL_law_1651 (by decide) ?_
    refine x_take 5 ?_
    refine x_widen (k := cells + 40) (n := slots + 1600) (by omega) (by omega) ?_
    exact kk _ ⟨n', f', P, A', ep, k, g, q3⟩
set_option maxHeartbeats 4000000 in
set_option maxRecDepth 100000 in
theorem S_stateAfter {K : x_K} {l : Launch} {Y0 : x_Y} {nm9 : String} (hO : x_Ok Y0) (C : x_Ctx K l Y0 ⟨RL, nm9, ""⟩ cL_law 9 2048 601024 7293034) {b c i L cells slots : Nat} {xs : Nat → Int32} (hX9 : va_X b L xs Y0.1 Y0.1.heap) (hb9 : b < Y0.2.2.2) (hi : i + 6 ≤ L) (hL : L ≤ 3072) (hc9 : cells + 40 ≤ 601024 ∧ slots + 1600 ≤ 7293034) {M : x_M} {x1 x2 : Int32} (e1 : xs (nI i + 1).toNatClampNeg = x1) (e2 : xs (nI i + 2).toNatClampNeg = x2) {k r : Int32} {n n' : Nat} {f f' : Nat → Int32} {P : PL} {A A' : HS} {ep th : Int32} {dm mcm msm : Nat} (hh : x_H l Y0 yL_stateAfter cL_stateAfter 5 (some .int) [(0, 10, 13, 24), (0, 10, 17, 19)] 9 1 6 [.ref c, .int x1, .int x2, .ref (c + 142)] M (fun u M1 => u = some (.int k) ∧ hQ M1 c k r.toInt64 n' f' A' n f P A ep th)) (hm : ∀ M1, wM M1 (c + 96) th n f P A ep → x_C l Y0 yX11_stateAfter cX11_stateAfter 3 (some .int) dm mcm msm [.ref (c + 96), .int x1, .int x2] M1 (fun u M2 => u = some (.int r) ∧ mQ M1 M2 (c + 96) k n' f' P A' ep)) (hdm : dm + 1 ≤ 2048 ∧ mcm ≤ 5 ∧ msm ≤ 10) (hn : n' ≤ 2000) (hf : k_by f') (hP : p_ok P) (hk9 : h_ok P A') (kk : ∀ M1, wL M1 c → x_X K 9 (cells + 40) (slots + 1600) 1846 (lvL b c i) [] M1) : x_X K 9 cells slots 1654 (lvL b c i) [] M := by
  refine x_aload_n C dL_law_1654 rfl rfl ?_
  refine x_aload_n C dL_law_1655 rfl rfl ?_
  refine x_iload C dL_law_1656 rfl ?_
  refine x_iconst (v := 1) C dL_law_1658 (by decide) ?_
  refine x_iadd C dL_law_1659 ?_
  refine x_sld C dL_law_1660 hX9 hb9 (l_in (k := 1) rfl (by decide) hi hL) ?_
  rw [e1]
  refine x_aload_n C dL_law_1661 rfl rfl ?_
  refine x_iload C dL_law_1662 rfl ?_
  refine x_iconst (v := 2) C dL_law_1664 (by decide) ?_
  refine x_iadd C dL_law_1665 ?_
  refine x_sld C dL_law_1666 hX9 hb9 (l_in (k := 2) rfl (by decide) hi hL) ?_
  rw [e2]
  refine x_aload_n C dL_law_1667 rfl rfl ?_
  refine x_callSH (As := [_, _, _, _]) C dL_law_1668 hL_209 hh rfl rfl (by decide) ⟨by omega, by omega⟩ (Nat.le_of_ble_eq_true rfl) ?_
  rintro _ M1 ⟨rfl, q1⟩
  refine x_istore C dL_law_1671 rfl (by decide) ?_
  refine x_aload_n C dL_law_1673 rfl rfl ?_
  refine x_aload_n C dL_law_1674 rfl rfl ?_
  refine x_iload C dL_law_1675 rfl ?_
  refine x_iconst (v := 1) C dL_law_1677 (by decide) ?_
  refine x_iadd C dL_law_1678 ?_
  refine x_sld C dL_law_1679 hX9 hb9 (l_in (k := 1) rfl (by decide) hi hL) ?_
  rw [e1]
  refine x_aload_n C dL_law_1680 rfl rfl ?_
  refine x_iload C dL_law_1681 rfl ?_
  refine x_iconst (v := 2) C dL_law_1683 (by decide) ?_
  refine x_iadd C dL_law_1684 ?_
  refine x_sld C dL_law_1685 hX9 hb9 (l_in (k := 2) rfl (by decide) hi hL) ?_
  rw [e2]
  obtain ⟨sz, ea, tk, dp, tp, kd, fr, mn, rl, me, q, rd, t, m, m2, ho⟩ := wM_o q1.2.1
  refine x_callV (As := [_, _]) C dL_law_1686 kL_211 (hm M1 q1.2.1) (ho 0 _ rfl) rfl rfl rfl hdm.1 ⟨by omega, by omega⟩ (Nat.le_of_ble_eq_true rfl) ?_
  rintro _ M2 ⟨rfl, q2⟩
  refine x_istore C dL_law_1689 rfl (by decide) ?_
  refine x_aload_n C dL_law_1691 rfl rfl ?_
  obtain ⟨sz, ea, tk, dp, tp, kd, fr, mn, rl, me, q, rd, t, m, m2, ho2⟩ := wM_o q2.1
  refine x_callV0 C dL_law_1692 kL_103 (c_X11_thrown hO ho2) (ho2 0 _ rfl) rfl (by decide) ⟨by omega, by omega⟩ (Nat.le_of_ble_eq_true rfl) ?_
  rintro _ _ ⟨rfl, rfl⟩
  refine x_iload C dL_law_1695 rfl ?_
  refine x_icmp_eq (tgt := 1702) C dL_law_1697 (by decide) (fun _ => ?_) (fun q => absurd rfl q)
  obtain ⟨g, q3, q4⟩ := hQ_end q1 q2 hn hf hP hk9
  refine x_iload C dL_law_1702 rfl ?_
  refine x_if_ne (tgt := 1719) C dL_law_1704 (by decide) (fun c1 => ?_) (fun c1 => ?_)
  · refine x_goto (tgt := 1846) C dL_law_1719 (by decide) ?_
    refine x_take 5 ?_
    refine x_widen (k := cells + 40) (n := slots + 1600) (by omega) (by omega) ?_
    exact kk _ ⟨n', f', P, A', ep, k, g, q3⟩
  · refine x_aload_n C dL_law_1707 rfl rfl ?_
    refine x_iconst (v := 0) C dL_law_1708 (by decide) ?_
    refine x_laload C dL_law_1709 (q3.2.2.2.2.1 0 _ rfl) h_in0 ?_
    rw [show (0 : Int32).toNatClampNeg = 0 by decide, q4 c1]
    refine x_iload C dL_law_1710 rfl ?_
    refine x_i2l C dL_law_1712 ?_
    refine x_lcmp C dL_law_1713 ?_
    refine x_if_eq (tgt := 1719) C dL_law_1714 (by decide) (fun _ => ?_) (fun q => absurd ((lg_cmp_eq _ _).mpr rfl) q)
    refine x_goto (tgt := 1846) C dL_law_1719 (by decide) ?_
    refine x_take 5 ?_
    refine x_widen (k := cells + 40) (n := slots + 1600) (by omega) (by omega) ?_
    exact kk _ ⟨n', f', P, A', ep, k, g, q3⟩
set_option maxHeartbeats 4000000 in
set_option maxRecDepth 100000 in
theorem S_daysUntilFree {K : x_K} {l : Launch} {Y0 : x_Y} {nm9 : String} (hO : x_Ok Y0) (C : x_Ctx K l Y0 ⟨RL, nm9, ""⟩ cL_law 9 2048 601024 7293034) {b c i L cells slots : Nat} {xs : Nat → Int32} (hX9 : va_X b L xs Y0.1 Y0.1.heap) (hb9 : b < Y0.2.2.2) (hi : i + 6 ≤ L) (hL : L ≤ 3072) (hc9 : cells + 40 ≤ 601024 ∧ slots + 1600 ≤ 7293034) {M : x_M} {x1 : Int32} (e1 : xs (nI i + 1).toNatClampNeg = x1) {k r : Int32} {n n' : Nat} {f f' : Nat → Int32} {P : PL} {A A' : HS} {ep th : Int32} {dm mcm msm : Nat} (hh : x_H l Y0 yL_daysUntilFree cL_daysUntilFree 4 (some .int) [(0, 9, 12, 24)] 9 1 6 [.ref c, .int x1, .ref (c + 142)] M (fun u M1 => u = some (.int k) ∧ hQ M1 c k r.toInt64 n' f' A' n f P A ep th)) (hm : ∀ M1, wM M1 (c + 96) th n f P A ep → x_C l Y0 yX11_daysUntilFree cX11_daysUntilFree 2 (some .int) dm mcm msm [.ref (c + 96), .int x1] M1 (fun u M2 => u = some (.int r) ∧ mQ M1 M2 (c + 96) k n' f' P A' ep)) (hdm : dm + 1 ≤ 2048 ∧ mcm ≤ 5 ∧ msm ≤ 10) (hn : n' ≤ 2000) (hf : k_by f') (hP : p_ok P) (hk9 : h_ok P A') (kk : ∀ M1, wL M1 c → x_X K 9 (cells + 40) (slots + 1600) 1846 (lvL b c i) [] M1) : x_X K 9 cells slots 1722 (lvL b c i) [] M := by
  refine x_aload_n C dL_law_1722 rfl rfl ?_
  refine x_aload_n C dL_law_1723 rfl rfl ?_
  refine x_iload C dL_law_1724 rfl ?_
  refine x_iconst (v := 1) C dL_law_1726 (by decide) ?_
  refine x_iadd C dL_law_1727 ?_
  refine x_sld C dL_law_1728 hX9 hb9 (l_in (k := 1) rfl (by decide) hi hL) ?_
  rw [e1]
  refine x_aload_n C dL_law_1729 rfl rfl ?_
  refine x_callSH (As := [_, _, _]) C dL_law_1730 hL_212 hh rfl rfl (by decide) ⟨by omega, by omega⟩ (Nat.le_of_ble_eq_true rfl) ?_
  rintro _ M1 ⟨rfl, q1⟩
  refine x_istore C dL_law_1733 rfl (by decide) ?_
  refine x_aload_n C dL_law_1735 rfl rfl ?_
  refine x_aload_n C dL_law_1736 rfl rfl ?_
  refine x_iload C dL_law_1737 rfl ?_
  refine x_iconst (v := 1) C dL_law_1739 (by decide) ?_
  refine x_iadd C dL_law_1740 ?_
  refine x_sld C dL_law_1741 hX9 hb9 (l_in (k := 1) rfl (by decide) hi hL) ?_
  rw [e1]
  obtain ⟨sz, ea, tk, dp, tp, kd, fr, mn, rl, me, q, rd, t, m, m2, ho⟩ := wM_o q1.2.1
  refine x_callV (As := [_]) C dL_law_1742 kL_214 (hm M1 q1.2.1) (ho 0 _ rfl) rfl rfl rfl hdm.1 ⟨by omega, by omega⟩ (Nat.le_of_ble_eq_true rfl) ?_
  rintro _ M2 ⟨rfl, q2⟩
  refine x_istore C dL_law_1745 rfl (by decide) ?_
  refine x_aload_n C dL_law_1747 rfl rfl ?_
  obtain ⟨sz, ea, tk, dp, tp, kd, fr, mn, rl, me, q, rd, t, m, m2, ho2⟩ := wM_o q2.1
  refine x_callV0 C dL_law_1748 kL_103 (c_X11_thrown hO ho2) (ho2 0 _ rfl) rfl (by decide) ⟨by omega, by omega⟩ (Nat.le_of_ble_eq_true rfl) ?_
  rintro _ _ ⟨rfl, rfl⟩
  refine x_iload C dL_law_1751 rfl ?_
  refine x_icmp_eq (tgt := 1758) C dL_law_1753 (by decide) (fun _ => ?_) (fun q => absurd rfl q)
  obtain ⟨g, q3, q4⟩ := hQ_end q1 q2 hn hf hP hk9
  refine x_iload C dL_law_1758 rfl ?_
  refine x_if_ne (tgt := 1775) C dL_law_1760 (by decide) (fun c1 => ?_) (fun c1 => ?_)
  · refine x_goto (tgt := 1846) C dL_law_1775 (by decide) ?_
    refine x_take 5 ?_
    refine x_widen (k := cells + 40) (n := slots + 1600) (by omega) (by omega) ?_
    exact kk _ ⟨n', f', P, A', ep, k, g, q3⟩
  · refine x_aload_n C dL_law_1763 rfl rfl ?_
    refine x_iconst (v := 0) C dL_law_1764 (by decide) ?_
    refine x_laload C dL_law_1765 (q3.2.2.2.2.1 0 _ rfl) h_in0 ?_
    rw [show (0 : Int32).toNatClampNeg = 0 by decide, q4 c1]
    refine x_iload C dL_law_1766 rfl ?_
    refine x_i2l C dL_law_1768 ?_
    refine x_lcmp C dL_law_1769 ?_
    refine x_if_eq (tgt := 1775) C dL_law_1770 (by decide) (fun _ => ?_) (fun q => absurd ((lg_cmp_eq _ _).mpr rfl) q)
    refine x_goto (tgt := 1846) C dL_law_1775 (by decide) ?_
    refine x_take 5 ?_
    refine x_widen (k := cells + 40) (n := slots + 1600) (by omega) (by omega) ?_
    exact kk _ ⟨n', f', P, A', ep, k, g, q3⟩
