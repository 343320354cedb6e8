def r_dum : rF := fun R => (R, false)
theorem r_gd_dum {N : Nat} : r_gd N r_dum := fun _ hk => r_no (r_st_rf hk)
def r_valN (T : rT) : Nat → rF
  | 0 => r_val T r_dum r_dum
  | w + 1 => r_val T (r_valN T w) (r_sum T (r_valN T w))
def r_sumN (T : rT) (w : Nat) : rF := r_sum T (r_valN T w)
def r_sinN (T : rT) : Nat → rF
  | 0 => r_single T r_dum r_dum (r_sumN T 0)
  | w + 1 => r_single T (r_sinN T w) (r_test T (r_sinN T w)) (r_sumN T (w + 1))
def r_testN (T : rT) (w : Nat) : rF := r_test T (r_sinN T w)
theorem r_gd_valN {T : rT} {N : Nat} (hN : r_tok T N) : ∀ w, r_gd N (r_valN T w) := by
  intro w
  induction w with
  | zero => exact fun R hk => r_gd_val hN (fun _ => r_gd_dum) (fun _ => r_gd_dum) hk rfl
  | succ w ih => exact fun R hk => r_gd_val hN (fun _ => ih) (fun _ => r_gd_sum hN ih) hk rfl
theorem r_gd_sumN {T : rT} {N : Nat} (hN : r_tok T N) (w : Nat) : r_gd N (r_sumN T w) := r_gd_sum hN (r_gd_valN hN w)
theorem r_gd_sinN {T : rT} {N : Nat} (hN : r_tok T N) : ∀ w, r_gd N (r_sinN T w) := by
  intro w
  induction w with
  | zero => exact fun R hk => r_gd_single hN (fun _ => r_gd_dum) (fun _ => r_gd_dum) (r_gd_sumN hN 0) hk rfl
  | succ w ih => exact fun R hk => r_gd_single hN (fun _ => ih) (fun _ => r_gd_test hN ih) (r_gd_sumN hN (w + 1)) hk rfl
theorem r_gd_testN {T : rT} {N : Nat} (hN : r_tok T N) (w : Nat) : r_gd N (r_testN T w) := r_gd_test hN (r_gd_sinN hN w)
section XRD
variable {l : Launch} {Y0 : x_Y} {o r N : Nat} {E : rE}
theorem m_prodOf (hO : x_Ok Y0) (hd : o + 7 ≤ r) (hN : r_tok (tE E) N) {dp dV : Nat} {fv : rF} (h2 : 2 ≤ dV) (hf : r_gd N fv) (hV : rCt l Y0 yX11_isValue cX11_isValue 2 dV o r N E dp fv) : rCt l Y0 yX11_isProduct cX11_isProduct 2 (dV + 1) o r N E dp (r_prod (tE E) fv) := fun _ _ hk hdp hb => c_X11_isProduct hO hd hN hk hb hdp (Nat.le_refl _) (by omega) hf hV
theorem m_sumOf (hO : x_Ok Y0) (hd : o + 7 ≤ r) (hN : r_tok (tE E) N) {dp dV : Nat} {fv : rF} (h2 : 2 ≤ dV) (hf : r_gd N fv) (hV : rCt l Y0 yX11_isValue cX11_isValue 2 dV o r N E dp fv) : rCt l Y0 yX11_isSum cX11_isSum 2 (dV + 1 + 1) o r N E dp (r_sum (tE E) fv) := fun _ _ hk hdp hb => c_X11_isSum hO hd hN hk hb hdp (Nat.le_refl _) (by omega) (r_gd_prod hN hf) (m_prodOf hO hd hN h2 hf hV)
theorem m_dep {w : Nat} (h : w + 1 ≤ 8) : 8 - (w + 1) + 1 = 8 - w := by omega
theorem m_valN (hO : x_Ok Y0) (hd : o + 7 ≤ r) (hN : r_tok (tE E) N) (hin : ∀ i, i < N → (tE E).1 i = 41 → r_in E i) : ∀ w, w ≤ 8 → rCt l Y0 yX11_isValue cX11_isValue 2 (6 + 4 * w) o r N E (8 - w) (r_valN (tE E) w) := by
  intro w
  induction w with
  | zero =>
    intro _ M R hk hdp hb
    have h9 : ¬ (8 - 0 : Nat) < 8 := by omega
    exact c_X11_isValue hO hd hN hk hb hdp (dV := 0) (dS := 0) (dI := 5) (by omega) (by omega) (by omega) (by omega) (by omega) hin (fun h => absurd h h9) (fun h => absurd h h9) (fun h => absurd h h9) (fun h => absurd h h9)
  | succ w ih =>
    intro h M R hk hdp hb
    have h1 := ih (by omega)
    have hg := r_gd_valN hN w
    have h2 := m_sumOf (dV := 6 + 4 * w) hO hd hN (by omega) hg h1
    rw [← m_dep h] at h1 h2
    exact c_X11_isValue hO hd hN hk hb hdp (dV := 6 + 4 * w) (dS := 6 + 4 * w + 1 + 1) (dI := 6 + 4 * w + 3) (by omega) (by omega) (by omega) (by omega) (by omega) hin (fun _ => hg) (fun _ => r_gd_sum hN hg) (fun _ => h1) (fun _ => h2)
theorem m_sumN (hO : x_Ok Y0) (hd : o + 7 ≤ r) (hN : r_tok (tE E) N) (hin : ∀ i, i < N → (tE E).1 i = 41 → r_in E i) {w : Nat} (h : w ≤ 8) : rCt l Y0 yX11_isSum cX11_isSum 2 (6 + 4 * w + 1 + 1) o r N E (8 - w) (r_sumN (tE E) w) := m_sumOf hO hd hN (by omega) (r_gd_valN hN w) (m_valN hO hd hN hin w h)
theorem m_bothOf (hO : x_Ok Y0) (hd : o + 7 ≤ r) (hN : r_tok (tE E) N) {dp dV : Nat} {fo : rF} (h2 : 2 ≤ dV) (hf : r_gd N fo) (hV : rCt l Y0 yX11_isSingle cX11_isSingle 2 dV o r N E dp fo) : rCt l Y0 yX11_isBoth cX11_isBoth 1 (dV + 1) o r N E dp (r_both (tE E) fo) := fun _ _ hk hdp hb => c_X11_isBoth hO hd hN hk hb hdp (Nat.le_refl _) (by omega) hf hV
theorem m_testOf (hO : x_Ok Y0) (hd : o + 7 ≤ r) (hN : r_tok (tE E) N) {dp dV : Nat} {fo : rF} (h2 : 2 ≤ dV) (hf : r_gd N fo) (hV : rCt l Y0 yX11_isSingle cX11_isSingle 2 dV o r N E dp fo) : rCt l Y0 yX11_isTest cX11_isTest 1 (dV + 1 + 1) o r N E dp (r_test (tE E) fo) := fun _ _ hk hdp hb => c_X11_isTest hO hd hN hk hb hdp (Nat.le_refl _) (by omega) (r_gd_both hN hf) (m_bothOf hO hd hN h2 hf hV)
theorem m_sinN (hO : x_Ok Y0) (hd : o + 7 ≤ r) (hN : r_tok (tE E) N) (hin : ∀ i, i < N → (tE E).1 i = 41 → r_in E i) : ∀ w, w ≤ 8 → rCt l Y0 yX11_isSingle cX11_isSingle 2 (10 + 4 * w) o r N E (8 - w) (r_sinN (tE E) w) := by
  intro w
  induction w with
  | zero =>
    intro _ M R hk hdp hb
    have h9 : ¬ (8 - 0 : Nat) < 8 := by omega
    exact c_X11_isSingle hO hd hN hk hb hdp (dO := 0) (dT := 0) (dS := 6 + 4 * 0 + 1 + 1) (by omega) (by omega) (by omega) (by omega) (fun h => absurd h h9) (fun h => absurd h h9) (r_gd_sumN hN 0) (fun h => absurd h h9) (fun h => absurd h h9) (m_sumN (w := 0) hO hd hN hin (by omega))
  | succ w ih =>
    intro h M R hk hdp hb
    have h1 := ih (by omega)
    have hg := r_gd_sinN hN w
    have h2 := m_testOf (dV := 10 + 4 * w) hO hd hN (by omega) hg h1
    rw [← m_dep h] at h1 h2
    exact c_X11_isSingle hO hd hN hk hb hdp (dO := 10 + 4 * w) (dT := 10 + 4 * w + 1 + 1) (dS := 6 + 4 * (w + 1) + 1 + 1) (by omega) (by omega) (by omega) (by omega) (fun _ => hg) (fun _ => r_gd_test hN hg) (r_gd_sumN hN (w + 1)) (fun _ => h1) (fun _ => h2) (m_sumN hO hd hN hin h)
theorem m_testN (hO : x_Ok Y0) (hd : o + 7 ≤ r) (hN : r_tok (tE E) N) (hin : ∀ i, i < N → (tE E).1 i = 41 → r_in E i) : rCt l Y0 yX11_isTest cX11_isTest 1 44 o r N E 0 (r_testN (tE E) 8) := m_testOf hO hd hN (by omega) (r_gd_sinN hN 8) (m_sinN hO hd hN hin 8 (by omega))
end XRD
