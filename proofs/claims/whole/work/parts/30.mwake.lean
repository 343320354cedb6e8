theorem x_ovO {M : x_M} {a t b : Nat} {c L L' : List x_E} (h1 : t + c.length ≤ a ∨ a + L'.length ≤ t) (h2 : b + L.length ≤ a ∨ a + L'.length ≤ b) : x_ov (x_ov (x_ov M t c) b L) a L' = x_ov (x_ov (x_ov M a L') t c) b L := by
  rw [x_ov_comm (M := x_ov M t c) h2, x_ov_comm (M := M) h1]
set_option maxHeartbeats 4000000 in
set_option maxRecDepth 100000 in
theorem c_X11_bestToWake {l : Launch} {Y0 : x_Y} (hO : x_Ok Y0) {M : x_M} {m o q : Nat} {P : PL} {A : HS} {hx : Nat → Int32} {z : Int32} {G : HS} {th sz ea tk dp : Int32} {tp kd fr mn rl me rd t m2 : Nat} (hP : p_ok P) (hQ : g_is G P) (hk9 : h_ok P A) (hb : x_bk M m (stT m o P A hx z)) (hp : x_bk M q (pmT q G)) (ho : x_bk M o [.inr (11, mdF th sz ea tk dp tp kd fr mn rl me q rd t m m2)]) (hdo : o + 1 ≤ m ∨ m + 9 ≤ o) (hqo : q + 11 ≤ o ∨ o + 1 ≤ q) (hd : q + 11 ≤ m ∨ m + 9 ≤ q) {sk : Nat → Int32} (ht : x_bk M t [.inl (0, 400, .inl sk)]) (htm : m + 9 ≤ t ∨ t + 1 ≤ m) (htq : q + 11 ≤ t ∨ t + 1 ≤ q) (hto : o + 1 ≤ t ∨ t + 1 ≤ o) {T : HS} {hy : Nat → Int32} {y9 : Int32} (hn2 : x_bk M m2 (stT m2 o P T hy y9)) (hm2 : m + 9 ≤ m2 ∨ m2 + 9 ≤ m) (hm2o : o + 1 ≤ m2 ∨ m2 + 9 ≤ o) (hm2q : q + 11 ≤ m2 ∨ m2 + 9 ≤ q) (htm2 : m2 + 9 ≤ t ∨ t + 1 ≤ m2) : x_C l Y0 yX11_bestToWake cX11_bestToWake 1 (some .int) 9 0 0 [.ref o] M (fun u M1 => u = some (.int (h_best P A)) ∧ ∃ (sk1 : Nat → Int32) (B : HS) (hy1 : Nat → Int32) (y8 : Int32), M1 = x_ov (x_ov (x_ov M o [.inr (11, mdF 0 sz ea tk dp tp kd fr mn rl me q rd t m m2)]) t [.inl (0, 400, .inl sk1)]) m2 (stT m2 o P B hy1 y8)) := by
  refine x_start hO (by decide +kernel) (Nat.le_of_ble_eq_true rfl) (fun K C E => ?_)
  have hP0 := hP
  have hQ0 := hQ
  obtain ⟨h8, h6, h16, hnp, hwho, hvb, hts⟩ := hP
  obtain ⟨hq0, hq1, hq2, hq3, hq4, hq5, hq6⟩ := hQ
  have hbS : ∀ Lt L2 : List x_E, Lt.length = 1 → L2.length = 9 → x_bk (x_ov (x_ov M t Lt) m2 L2) m (stT m o P A hx z) := fun Lt L2 h1 h2 => x_ov_far 9 (x_ov_far 1 hb h1 htm) h2 hm2
  have hpS : ∀ Lt L2 : List x_E, Lt.length = 1 → L2.length = 9 → x_bk (x_ov (x_ov M t Lt) m2 L2) q (pmT q G) := fun Lt L2 h1 h2 => x_ov_far 9 (x_ov_far 1 hp h1 htq) h2 hm2q
  have hoS : ∀ Lt L2 : List x_E, Lt.length = 1 → L2.length = 9 → x_bk (x_ov (x_ov M t Lt) m2 L2) o [.inr (11, mdF th sz ea tk dp tp kd fr mn rl me q rd t m m2)] := fun Lt L2 h1 h2 => x_ov_far 9 (x_ov_far 1 ho h1 hto) h2 hm2o
  have htS : ∀ (L : List x_E) (sk : Nat → Int32), L.length = 9 → x_bk (x_ov (x_ov M t [.inl (0, 400, .inl sk)]) m2 L) t [.inl (0, 400, .inl sk)] := fun L sk h => x_ov_far 9 x_ov_bk h (by simp only [List.length_cons, List.length_nil]; omega)
  have hst : M = x_ov (x_ov M t [.inl (0, 400, .inl sk)]) m2 (stT m2 o P T hy y9) := by
    rw [x_ov_self ht, x_ov_self hn2]
  refine x_to hst ?_
  refine x_aload_n C dX11_bestToWake_0 rfl rfl ?_
  refine x_aload_n C dX11_bestToWake_1 rfl rfl ?_
  refine x_callV0 C dX11_bestToWake_2 kX11_371 (c_X11_best hO hP0 hQ0 hk9 (hbS _ _ rfl rfl) (hpS _ _ rfl rfl) (hoS _ _ rfl rfl) hdo hqo hd (htS _ _ rfl) htm htq hto x_ov_bk hm2 hm2o hm2q htm2) ((hoS _ _ rfl rfl) 0 _ rfl) rfl (by decide) ⟨Nat.zero_le _, Nat.zero_le _⟩ (Nat.le_of_ble_eq_true rfl) ?_
  rintro _ _ ⟨rfl, sk1, B, hy1, y8, rfl⟩
  refine x_to (x_ov4 (by exact htm2) rfl) ?_
  refine x_callV1 C dX11_bestToWake_5 kX11_282 (c_X11_ok hO (hoS _ _ rfl rfl)) ((hoS _ _ rfl rfl) 0 _ rfl) rfl (by decide) ⟨Nat.zero_le _, Nat.zero_le _⟩ (Nat.le_of_ble_eq_true rfl) ?_
  rintro _ _ ⟨rfl, rfl⟩
  refine x_iret C E dX11_bestToWake_8 ?_
  exact ⟨rfl, sk1, B, hy1, y8, x_ovO (by exact hto.symm) (by exact hm2o.symm)⟩
