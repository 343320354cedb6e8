theorem nI_s1 {i : Nat} (h : 1 ≤ i) : nI i - 1 = nI (i - 1) := by
  have e : nI i = nI (i - 1) + nI 1 := by rw [nI_add]; congr 1; omega
  rw [e]
  show nI (i - 1) + 1 - 1 = nI (i - 1)
  exact Int32.add_sub_cancel _ _
theorem nI_p2 {i : Nat} : nI i + 2 = nI (i + 2) := by rw [← nI_add i 2]; rfl
/-- a number's error -/
def r_rng (E : rE) (i : Nat) (a b : Int32) : Int32 := if (!decide ((tE E).2 i < a) && !decide (b < (tE E).2 i)) = true then 0 else 5
def e_dr (E : rE) (i nd : Nat) : rE := (E.1, h_u (h_u E.2 0 nd ((tE E).2 (i + 2))) 10 0 (nI (nd + 1)))
def e_dl (E : rE) (nk : Nat) : rE := (E.1, h_u E.2 10 1 (nI (nk + 1)))
def e_or (E : rE) (i no : Nat) : rE := (E.1, h_u (h_u (h_u E.2 4 no (E.2 12 i)) 5 no 8) 10 2 (nI (no + 1)))
def e_of (E : rE) (R : rS) (i no : Nat) (a : Int32) : rE := (E.1, h_u (m_E E i (r_tld E R i a)).2 5 (no - 1) (r_tld E R i a))
def r_sgn (E : rE) (i : Nat) : Int32 := if E.2 12 (i + 1) = 5 then (tE E).2 (i + 2) else -(tE E).2 (i + 2)
def r_isp (E : rE) (nk np : Nat) (x : Int32) : Bool := h_any (fun j => decide (E.2 2 (6 * (nk - 1) + j) = x)) np
def e_pt (E : rE) (i at9 nk np : Nat) (x y : Int32) : rE := (E.1, h_u (h_u (h_u (h_u E.2 16 i x) 2 at9 x) 3 at9 y) 1 (nk - 1) (nI (np + 1)))
def e_np (E : rE) (R : rS) (i nk np : Nat) : Int32 × rE :=
  if r_tld E R i 1 = -1 then (3, m_E E i (r_tld E R i 1)) else if np = 6 then (4, m_E E i (r_tld E R i 1)) else if r_isp E nk np (r_tld E R i 1) = true then (5, m_E E i (r_tld E R i 1))
  else (0, e_pt E i (6 * (nk - 1) + np) nk np (r_tld E R i 1) (r_sgn E i))
section XR2
variable {M : x_M} {o r : Nat} {E : rE} {R : rS}
theorem rH_pl (E2 : rE) (j : Nat) {c : x_E} (h1 : (pmT r (prG E R)).set j c = pmT r (prG E2 R)) (h2 : moT o r E R = moT o r E2 R) (hj : j < 11) : x_st (rH M o r E R) (r + j) c = rH M o r E2 R := rH_sr j E2 R h1 h2 hj
end XR2
