def t_valN (D : tK) : Nat → tS → tS
  | 0 => t_val D (nI 8) id id
  | w + 1 => t_val D (nI (8 - (w + 1))) (t_valN D w) (t_sum D (t_valN D w))
def t_sumN (D : tK) (w : Nat) : tS → tS := t_sum D (t_valN D w)
def t_sinN (D : tK) : Nat → tS → tS
  | 0 => t_single D (nI 8) id id (t_cmp D (t_sumN D 0))
  | w + 1 => t_single D (nI (8 - (w + 1))) (t_sinN D w) (t_test D (t_sinN D w)) (t_cmp D (t_sumN D (w + 1)))
def t_testN (D : tK) (w : Nat) : tS → tS := t_test D (t_sinN D w)
theorem t_dep {w : Nat} (h : w + 1 ≤ 8) : nI (8 - (w + 1)) + 1 = nI (8 - w) := by
  rw [nI_1, show 8 - (w + 1) + 1 = 8 - w by omega]
theorem t_val_ki {D : tK} (hD : t_dk D) : ∀ w, w ≤ 8 → t_ki (t_valN D w) := by
  intro w
  induction w with
  | zero =>
    intro _
    have h9 : ¬ nI 8 < 8 := by decide
    exact t_in_val hD (fun h => absurd h h9) (fun h => absurd h h9)
  | succ w ih =>
    intro h
    exact t_in_val hD (fun _ => ih (by omega)) (fun _ => t_in_sum hD (ih (by omega)))
theorem t_sum_ki {D : tK} (hD : t_dk D) {w : Nat} (h : w ≤ 8) : t_ki (t_sumN D w) := t_in_sum hD (t_val_ki hD w h)
theorem t_sin_ki {D : tK} (hD : t_dk D) : ∀ w, w ≤ 8 → t_ki (t_sinN D w) := by
  intro w
  induction w with
  | zero =>
    intro _
    have h9 : ¬ nI 8 < 8 := by decide
    exact t_in_single hD (fun h => absurd h h9) (fun h => absurd h h9) (t_in_cmp hD (t_sum_ki hD (by omega)))
  | succ w ih =>
    intro h
    exact t_in_single hD (fun _ => ih (by omega)) (fun _ => t_in_test hD (ih (by omega))) (t_in_cmp hD (t_sum_ki hD h))
theorem t_test_ki {D : tK} (hD : t_dk D) {w : Nat} (h : w ≤ 8) : t_ki (t_testN D w) := t_in_test hD (t_sin_ki hD w h)
section XDEP
variable {l : Launch} {Y0 : x_Y} {b : Nat} {D : tK} {Q : HS}
theorem c_prodOf (hO : x_Ok Y0) (hD : t_dk D) {k : Int32} {dV : Nat} {fv : tS → tS} (hd : 2 ≤ dV) (hfv : t_ki fv) (hV : tCt l Y0 yX6_readValue cX6_readValue 3 dV b D Q k fv) : tCt l Y0 yX6_readProduct cX6_readProduct 4 (dV + 1) b D Q k (t_prod D fv) := fun _ _ hin hb => c_X6_readProduct hO hD hin hb (Nat.le_refl _) (by omega) hfv hV
theorem c_sumOf (hO : x_Ok Y0) (hD : t_dk D) {k : Int32} {dV : Nat} {fv : tS → tS} (hd : 2 ≤ dV) (hfv : t_ki fv) (hV : tCt l Y0 yX6_readValue cX6_readValue 3 dV b D Q k fv) : tCt l Y0 yX6_readSum cX6_readSum 4 (dV + 1 + 1) b D Q k (t_sum D fv) := fun _ _ hin hb => c_X6_readSum hO hD hin hb (Nat.le_refl _) (by omega) (t_in_prod hD hfv) (c_prodOf hO hD hd hfv hV)
theorem c_valN (hO : x_Ok Y0) (hD : t_dk D) : ∀ w, w ≤ 8 → tCt l Y0 yX6_readValue cX6_readValue 3 (6 + 4 * w) b D Q (nI (8 - w)) (t_valN D w) := by
  intro w
  induction w with
  | zero =>
    intro _ M S hin hb
    have h9 : ¬ nI 8 < 8 := by decide
    exact c_X6_readValue hO hD hin hb (dV := 0) (dS := 0) (dP := 5) (by omega) (by omega) (by omega) (by omega) (by omega) (by omega) (fun h => absurd h h9) (fun h => absurd h h9) (fun h => absurd h h9) (fun h => absurd h h9)
  | succ w ih =>
    intro h M S hin hb
    have h1 := ih (by omega)
    have hk := t_val_ki hD w (by omega)
    have h2 := c_sumOf (dV := 6 + 4 * w) hO hD (by omega) hk h1
    rw [← t_dep h] at h1 h2
    exact c_X6_readValue hO hD hin hb (dV := 6 + 4 * w) (dS := 6 + 4 * w + 1 + 1) (dP := 6 + 4 * w + 3) (by omega) (by omega) (by omega) (by omega) (by omega) (by omega) (fun _ => hk) (fun _ => t_in_sum hD hk) (fun _ => h1) (fun _ => h2)
theorem c_sumN (hO : x_Ok Y0) (hD : t_dk D) {w : Nat} (h : w ≤ 8) : tCt l Y0 yX6_readSum cX6_readSum 4 (6 + 4 * w + 1 + 1) b D Q (nI (8 - w)) (t_sumN D w) := c_sumOf hO hD (by omega) (t_val_ki hD w h) (c_valN hO hD w h)
theorem c_bothOf (hO : x_Ok Y0) (hD : t_dk D) {k : Int32} {dO : Nat} {fo : tS → tS} (hd : 4 ≤ dO) (hfo : t_ki fo) (hV : tCt l Y0 yX6_readSingle cX6_readSingle 3 dO b D Q k fo) : tCt l Y0 yX6_readBoth cX6_readBoth 3 (dO + 1) b D Q k (t_both D fo) := fun _ _ hin hb => c_X6_readBoth hO hD hin hb (Nat.le_refl _) (by omega) hfo hV
theorem c_testOf (hO : x_Ok Y0) (hD : t_dk D) {k : Int32} {dO : Nat} {fo : tS → tS} (hd : 4 ≤ dO) (hfo : t_ki fo) (hV : tCt l Y0 yX6_readSingle cX6_readSingle 3 dO b D Q k fo) : tCt l Y0 yX6_readTest cX6_readTest 3 (dO + 1 + 1) b D Q k (t_test D fo) := fun _ _ hin hb => c_X6_readTest hO hD hin hb (Nat.le_refl _) (by omega) (t_in_both hD hfo) (c_bothOf hO hD hd hfo hV)
theorem c_sinN (hO : x_Ok Y0) (hD : t_dk D) : ∀ w, w ≤ 8 → tCt l Y0 yX6_readSingle cX6_readSingle 3 (10 + 4 * w) b D Q (nI (8 - w)) (t_sinN D w) := by
  intro w
  induction w with
  | zero =>
    intro _ M S hin hb
    have h9 : ¬ nI 8 < 8 := by decide
    exact c_X6_readSingle hO hD hin hb (dO := 0) (dT := 0) (dS := 6 + 4 * 0 + 1 + 1) (by omega) (by omega) (by omega) (by omega) (fun h => absurd h h9) (fun h => absurd h h9) (t_sum_ki hD (by omega)) (fun h => absurd h h9) (fun h => absurd h h9) (c_sumN (w := 0) hO hD (by omega))
  | succ w ih =>
    intro h M S hin hb
    have h1 := ih (by omega)
    have hk := t_sin_ki hD w (by omega)
    have h2 := c_testOf (dO := 10 + 4 * w) hO hD (by omega) hk h1
    rw [← t_dep h] at h1 h2
    exact c_X6_readSingle hO hD hin hb (dO := 10 + 4 * w) (dT := 10 + 4 * w + 1 + 1) (dS := 6 + 4 * (w + 1) + 1 + 1) (by omega) (by omega) (by omega) (by omega) (fun _ => hk) (fun _ => t_in_test hD hk) (t_sum_ki hD h) (fun _ => h1) (fun _ => h2) (c_sumN hO hD h)
theorem c_testN (hO : x_Ok Y0) (hD : t_dk D) : tCt l Y0 yX6_readTest cX6_readTest 3 44 b D Q 0 (t_testN D 8) := c_testOf hO hD (by omega) (t_sin_ki hD 8 (by omega)) (c_sinN hO hD 8 (by omega))
end XDEP
