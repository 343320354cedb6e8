/-- one token cut: where it starts, its kind -/
def y_kd (f : Nat → Int32) (n i g : Nat) : Int32 := if i = 400 then (if (if g < n then (r_kd9 f n g).1 else 900) = 900 then 900 else 901) else (if g < n then (r_kd9 f n g).1 else 900)
def y_E1 (E : rE) (i g : Nat) : rE := (E.1, h_u (h_u E.2 13 i (nI g)) 16 i 0)
def y_R1 (R : rS) (i : Nat) : rS := (R.1, R.2.1, R.2.2.1, upd R.2.2.2.1 i 0, R.2.2.2.2)
def y_E2 (E : rE) (f : Nat → Int32) (n i g : Nat) : rE := if g < n then y_E (y_E1 E i g) i (r_kd9 f n g).2 else y_E1 E i g
def y_E3 (E : rE) (f : Nat → Int32) (n i g : Nat) : rE := ((y_E2 E f n i g).1, h_u (y_E2 E f n i g).2 12 i (y_kd f n i g))
def y_lp (f : Nat → Int32) (n : Nat) : Nat → Nat → Nat → rE × rS → rE × rS
  | 0, _, _, q => q
  | w + 1, i, x, q => if y_kd f n i (k_gap f n x) < 900 then y_lp f n w (i + 1) (k_gap f n x + (r_kd9 f n (k_gap f n x)).2) (y_E3 q.1 f n i (k_gap f n x), y_R1 q.2 i) else (y_E3 q.1 f n i (k_gap f n x), y_R1 q.2 i)
section XRC
variable {M : x_M} {o r : Nat} {E : rE} {R : rS}
theorem rH_fr (hd : o + 7 ≤ r) {i g : Nat} : x_st (rH M o r E R) (o + 3) (.inl (0, 401, .inl (upd (E.2 13) i (nI g)))) = rH M o r (E.1, h_u E.2 13 i (nI g)) R := rH_so hd 3 (E.1, h_u E.2 13 i (nI g)) R rfl rfl (by decide)
theorem rH_rl (hd : o + 7 ≤ r) {i : Nat} : x_st (rH M o r E R) (o + 5) (.inl (0, 401, .inl (upd R.2.2.2.1 i 0))) = rH M o r E (y_R1 R i) := rH_so hd 5 E (y_R1 R i) rfl rfl (by decide)
theorem rH_kd (hd : o + 7 ≤ r) {i : Nat} {k : Int32} : x_st (rH M o r E R) (o + 2) (.inl (0, 401, .inl (upd (E.2 12) i k))) = rH M o r (E.1, h_u E.2 12 i k) R := rH_so hd 2 (E.1, h_u E.2 12 i k) R rfl rfl (by decide)
end XRC
