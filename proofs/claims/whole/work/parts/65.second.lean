def r_same (E : rE) (i j : Nat) : Bool := decide (E.2 14 i = E.2 14 j) && h_all (fun k => decide (E.2 20 ((E.2 13 i).toNatClampNeg + k) = E.2 20 ((E.2 13 j).toNatClampNeg + k))) (E.2 14 i).toNatClampNeg
def r_tdl (E : rE) (f : Nat → Int32) (i : Nat) (a : Int32) : Nat → Nat → Nat → Int32
  | 0, _, _ => -1
  | w + 1, k, n => if f k = a then (if r_same E k i = true then nI n else r_tdl E f i a w (k + 1) (n + 1)) else r_tdl E f i a w (k + 1) n
/-- the number of a name among those told as something ahead -/
def r_tld (E : rE) (R : rS) (i : Nat) (a : Int32) : Int32 := r_tdl E R.2.2.2.1 i a i 0 0
def m_E (E : rE) (i : Nat) (x : Int32) : rE := (E.1, h_u E.2 16 i x)
def r_lk (E : rE) (R : rS) (i : Nat) (a : Int32) : Int32 := if r_tld E R i a = -1 then 3 else 0
def r_new (E : rE) (R : rS) (i : Nat) (c m : Int32) : Int32 := if r_tld E R i 1 = -1 then (if r_tld E R i 2 = -1 then (if c = m then 4 else 0) else 2) else 2
theorem r_new_c {E : rE} {R : rS} {i : Nat} {c m : Int32} : r_new E R i c m = 0 ∨ r_new E R i c m = 2 ∨ r_new E R i c m = 4 := by
  unfold r_new
  split
  · split
    · split
      · exact Or.inr (Or.inr rfl)
      · exact Or.inl rfl
    · exact Or.inr (Or.inl rfl)
  · exact Or.inr (Or.inl rfl)
theorem r_new_lt {E : rE} {R : rS} {i n m : Nat} (h : r_new E R i (nI n) (nI m) = 0) (hn : n ≤ m) : n < m := by
  unfold r_new at h
  by_cases q : n = m
  · subst q
    rw [if_pos (rfl : nI n = nI n)] at h
    split at h
    · split at h
      · exact absurd h (by decide)
      · exact absurd h (by decide)
    · exact absurd h (by decide)
  · omega
section XR2
variable {M : x_M} {o r : Nat} {E : rE} {R : rS}
theorem rH_mn (hd : o + 7 ≤ r) {i : Nat} {x : Int32} : x_st (rH M o r E R) (o + 6) (.inl (0, 401, .inl (upd (E.2 16) i x))) = rH M o r (m_E E i x) R := rH_so hd 6 (m_E E i x) R rfl rfl (by decide)
end XR2
