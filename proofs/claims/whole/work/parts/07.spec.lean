/-! What a hive is and does, for both classes alike: a plan P, and how all stands, A: rows 0 honey, 1 asleep (8: the queen), 2 blocked, 3 log, 4 state, 5 since, 6 votes, 7 heard, 8: day, orders done. -/
abbrev HS : Type := Nat → Nat → Int32
def h_u (A : HS) (k j : Nat) (x : Int32) : HS := fun q => if q = k then upd (A k) j x else A q
abbrev PT : Type := List (Nat × Int32)
abbrev PL : Type := (Nat × Nat × Nat) × (Nat → Nat) × (Nat → Nat) × (Nat → Int32) × (Nat → Nat) × (Nat → Nat) × (Nat → PT) × (Nat → Int32)
def p_nd (P : PL) : Nat := P.1.1
def p_nk (P : PL) : Nat := P.1.2.1
def p_no (P : PL) : Nat := P.1.2.2
def p_np (P : PL) : Nat → Nat := P.2.1
def p_who (P : PL) : Nat → Nat := P.2.2.1
def p_mv (P : PL) : Nat → Int32 := P.2.2.2.1
def p_vb (P : PL) : Nat → Nat := P.2.2.2.2.1
def p_tg (P : PL) : Nat → Nat := P.2.2.2.2.2.1
def p_ts (P : PL) : Nat → PT := P.2.2.2.2.2.2.1
def p_hn (P : PL) : Nat → Int32 := P.2.2.2.2.2.2.2
def h_cnt (q : Nat → Bool) : Nat → Int32
  | 0 => 0
  | n + 1 => h_cnt q n + (if q n = true then 1 else 0)
def h_all (q : Nat → Bool) : Nat → Bool
  | 0 => true
  | n + 1 => h_all q n && q n
def h_any (q : Nat → Bool) : Nat → Bool
  | 0 => false
  | n + 1 => h_any q n || q n
def h_it {α : Type} (f : α → Nat → α) : Nat → α → α
  | 0, a => a
  | n + 1, a => f (h_it f n a) n
theorem h_all_no {q : Nat → Bool} {j : Nat} (hq : q j = false) : ∀ n, j < n → h_all q n = false := by
  intro n
  induction n with
  | zero => intro h; omega
  | succ n ih =>
    intro h
    unfold h_all
    rcases Nat.lt_or_ge j n with h1 | h1
    · rw [ih h1]; rfl
    · rw [show n = j by omega, hq]; simp
theorem h_any_yes {q : Nat → Bool} {j : Nat} (hq : q j = true) : ∀ n, j < n → h_any q n = true := by
  intro n
  induction n with
  | zero => intro h; omega
  | succ n ih =>
    intro h
    unfold h_any
    rcases Nat.lt_or_ge j n with h1 | h1
    · rw [ih h1]; rfl
    · rw [show n = j by omega, hq]; simp
def h_blocked (P : PL) (A : HS) : Int32 := h_cnt (fun d => A 2 d != -1) (p_nd P)
def h_begun (P : PL) (A : HS) : Int32 := h_cnt (fun k => A 4 k == 1) (p_nk P)
def h_votes (P : PL) (A : HS) (k : Nat) (v : Int32) : Int32 := h_cnt (fun j => A 6 (6 * k + j) == v) (p_np P k)
def h_waits (A : HS) (k : Nat) : Int32 := if A 4 k = 1 then A 8 0 - A 5 k else 0
def h_agr (P : PL) (A : HS) (s : Nat) : Bool := A 2 (p_who P s) == -1 && (!decide (A 0 (p_who P s) + p_mv P s < 0) && !decide (99 < A 0 (p_who P s) + p_mv P s))
def h_agrAll (P : PL) (A : HS) (k : Nat) : Bool := h_all (fun j => h_agr P A (6 * k + j)) (p_np P k)
def h_heardAll (P : PL) (A : HS) (k : Nat) : Bool := h_all (fun j => A 7 (6 * k + j) != 0) (p_np P k)
def h_over (P : PL) (A : HS) (k : Nat) : Bool := A 4 k == 0 || (A 4 k != 1 && h_heardAll P A k)
def h_can (P : PL) (A : HS) (k : Nat) : Bool := A 1 8 == 0 && h_over P A k
def h_clr (k : Nat) (B : HS) (j : Nat) : HS := h_u (h_u B 6 (6 * k + j) 0) 7 (6 * k + j) 0
def h_begin (P : PL) (A : HS) (k : Nat) : HS := h_it (h_clr k) (p_np P k) (h_u (h_u A 4 k 1) 5 k (A 8 0))
def h_ref1 (B : HS) (k : Nat) : HS := if B 4 k = 1 then h_u B 4 k 3 else B
def h_refuse (P : PL) (A : HS) : HS := h_it h_ref1 (p_nk P) A
def h_wake (P : PL) (A : HS) (d : Nat) : HS := if d = 8 then h_refuse P (h_u A 1 8 0) else h_u A 1 d 0
def h_obey (P : PL) (A : HS) (o : Nat) : HS × Bool :=
  if p_vb P o = 262 then (if h_can P A (p_tg P o) = true then (h_begin P A (p_tg P o), true) else (A, false))
  else if p_vb P o = 263 then (if A 1 (p_tg P o) = 0 then (h_u A 1 (p_tg P o) 1, true) else (A, false))
  else (if A 1 (p_tg P o) = 0 then (A, false) else (h_wake P A (p_tg P o), true))
def h_isval (k : Nat) : Bool := k == 3 || (k == 267 || (k == 268 || (k == 269 || (k == 257 || (k == 270 || k == 272)))))
def h_val (P : PL) (A : HS) (k : Nat) (x : Int32) : Int32 :=
  if k = 267 then A 8 0 else if k = 268 then A 8 1 else if k = 269 then h_blocked P A else if k = 257 then A 0 x.toNatClampNeg else if k = 270 then h_waits A x.toNatClampNeg else if k = 272 then (if A 1 x.toNatClampNeg = 0 then 1 else 0) else x
def h_b (c : Bool) : Int32 := if c = true then 1 else 0
def h_join (k : Nat) (a b : Int32) : Int32 :=
  if k = 275 then a ||| b else if k = 274 then a &&& b else if k = 60 then h_b (decide (a < b)) else if k = 62 then h_b (decide (b < a)) else if k = 61 then h_b (a == b) else if k = 188 then h_b (decide (a ≤ b)) else if k = 190 then h_b (decide (b ≤ a))
  else if k = 43 then a + b else if k = 45 then a - b else if k = 42 then a * b else if k = 47 then (if b = 0 then 0 else a / b) else if k = 276 then (if a ≤ b then a else b) else (if b ≤ a then a else b)
def h_op (P : PL) (A : HS) (k : Nat) (x : Int32) (st : List Int32) : List Int32 :=
  if k = 273 then (match st with
    | a :: r => (if a = 0 then 1 else 0) :: r
    | [] => [])
  else if k = 4 then (match st with
    | a :: r => (-a) :: r
    | [] => [])
  else if h_isval k = true then h_val P A k x :: st
  else match st with
    | b :: a :: r => h_join k a b :: r
    | _ => []
def h_ev (P : PL) (A : HS) : PT → List Int32 → List Int32
  | [], st => st
  | q :: t, st => h_ev P A t (h_op P A q.1 q.2 st)
def h_holds (P : PL) (A : HS) (o : Nat) : Bool := match p_ts P o with
  | [] => true
  | q :: t => (h_ev P A (q :: t) []).headD 0 != 0
def h_ord1 (P : PL) (B : HS) (o : Nat) : HS := if h_holds P B o = true then (if (h_obey P B o).2 = true then h_u (h_obey P B o).1 8 1 ((h_obey P B o).1 8 1 + 1) else (h_obey P B o).1) else B
def h_ord (P : PL) (A : HS) : HS := h_it (h_ord1 P) (p_no P) A
def h_ask (P : PL) (k : Nat) (A : HS) (j : Nat) : HS :=
  if A 6 (6 * k + j) = 0 then (if A 1 (p_who P (6 * k + j)) = 0 then (if h_agr P A (6 * k + j) = true then h_u (h_u (h_u A 6 (6 * k + j) 1) 2 (p_who P (6 * k + j)) (nI k)) 3 (p_who P (6 * k + j)) (A 3 (p_who P (6 * k + j)) + 1) else h_u A 6 (6 * k + j) 2) else A) else A
def h_col1 (P : PL) (B : HS) (k : Nat) : HS := if B 4 k = 1 then h_it (h_ask P k) (p_np P k) B else B
def h_col (P : PL) (A : HS) : HS := h_it (h_col1 P) (p_nk P) A
def h_dec1 (P : PL) (B : HS) (k : Nat) : HS :=
  if B 4 k = 1 then (if 0 < h_votes P B k 2 then h_u B 4 k 3 else if h_votes P B k 1 = nI (p_np P k) then h_u B 4 k 2 else if 3 ≤ h_waits B k then h_u B 4 k 3 else B) else B
def h_dec (P : PL) (A : HS) : HS := h_it (h_dec1 P) (p_nk P) A
def h_knows (P : PL) (A : HS) (k : Nat) : Bool := h_any (fun j => A 7 (6 * k + j) != 0 && A 1 (p_who P (6 * k + j)) == 0) (p_np P k)
def h_hear1 (P : PL) (A : HS) (s : Nat) : HS := h_u (h_u A 7 s 1) 3 (p_who P s) (A 3 (p_who P s) + 1)
def h_hear2 (P : PL) (k : Nat) (A : HS) (s : Nat) : HS := if A 4 k = 2 then h_u A 0 (p_who P s) (A 0 (p_who P s) + p_mv P s) else A
def h_hear3 (P : PL) (k : Nat) (A : HS) (s : Nat) : HS := if A 2 (p_who P s) = nI k then h_u A 2 (p_who P s) (-1) else A
def h_hear (P : PL) (k : Nat) (A : HS) (s : Nat) : HS := h_hear3 P k (h_hear2 P k (h_hear1 P A s) s) s
def h_lis (P : PL) (k : Nat) (A : HS) (s : Nat) : Bool := A 1 (p_who P s) == 0 && (A 7 s == 0 && (A 1 8 == 0 || h_knows P A k))
def h_tell (P : PL) (k : Nat) (B : HS × Int32) (j : Nat) : HS × Int32 := if h_lis P k B.1 (6 * k + j) = true then (h_hear P k B.1 (6 * k + j), B.2 + 1) else B
def h_spr1 (P : PL) (B : HS × Int32) (k : Nat) : HS × Int32 := if B.1 4 k = 2 ∨ B.1 4 k = 3 then ((h_it (h_tell P k) (p_np P k) (B.1, 0)).1, B.2 + (h_it (h_tell P k) (p_np P k) (B.1, 0)).2) else B
def h_spr (P : PL) (A : HS) : HS × Int32 := h_it (h_spr1 P) (p_nk P) (A, 0)
def h_mid (P : PL) (A : HS) : HS := if A 1 8 = 0 then h_dec P (h_col P A) else A
def h_day (P : PL) (A : HS) : HS × Int32 := (h_u (h_spr P (h_mid P (h_ord P A))).1 8 0 ((h_spr P (h_mid P (h_ord P A))).1 8 0 + 1), (h_spr P (h_mid P (h_ord P A))).2)
/-- plans that can be told -/
def p_op (k : Nat) (ty : List Bool) : Option (List Bool) :=
  if k = 273 then (match ty with
    | true :: r => some (true :: r)
    | _ => none)
  else if k = 4 then (match ty with
    | false :: r => some (false :: r)
    | _ => none)
  else if k = 272 then some (true :: ty)
  else if h_isval k = true then some (false :: ty)
  else if k = 274 ∨ k = 275 then (match ty with
    | true :: true :: r => some (true :: r)
    | _ => none)
  else if k = 60 ∨ k = 61 ∨ k = 62 ∨ k = 188 ∨ k = 190 then (match ty with
    | false :: false :: r => some (true :: r)
    | _ => none)
  else if k = 43 ∨ k = 45 ∨ k = 42 ∨ k = 47 ∨ k = 276 ∨ k = 277 then (match ty with
    | false :: false :: r => some (false :: r)
    | _ => none)
  else none
def p_ty : PT → List Bool → Option (List Bool)
  | [], ty => some ty
  | q :: t, ty => match p_op q.1 ty with
    | some ty' => p_ty t ty'
    | none => none
/-- the detail of a named value names a drone (or the queen, of awake), or a deal -/
def p_dt (P : PL) (q : Nat × Int32) : Prop := (q.1 = 257 → ∃ d, d < p_nd P ∧ q.2 = nI d) ∧ (q.1 = 270 → ∃ k, k < p_nk P ∧ q.2 = nI k) ∧ (q.1 = 272 → ∃ d, (d < p_nd P ∨ d = 8) ∧ q.2 = nI d)
def p_tst (P : PL) (t : PT) : Prop := t = [] ∨ (p_ty t [] = some [true] ∧ t.length ≤ 400 ∧ ∀ q ∈ t, p_dt P q)
def p_ok (P : PL) : Prop := p_nd P ≤ 8 ∧ p_nk P ≤ 6 ∧ p_no P ≤ 16 ∧ (∀ k, k < p_nk P → 1 ≤ p_np P k ∧ p_np P k ≤ 6) ∧ (∀ k j, k < p_nk P → j < p_np P k → p_who P (6 * k + j) < p_nd P) ∧ (∀ o, o < p_no P → (p_vb P o = 262 ∧ p_tg P o < p_nk P) ∨ ((p_vb P o = 263 ∨ p_vb P o = 264) ∧ (p_tg P o < p_nd P ∨ p_tg P o = 8))) ∧ ∀ o, o < p_no P → p_tst P (p_ts P o)
theorem slot_nI (k j : Nat) : nI k * 6 + nI j = nI (6 * k + j) := by
  show nI k * nI 6 + nI j = _
  rw [pk_mul, nI_add, Nat.mul_comm]
/-- what a Hive's cells are: at a, over the plan at p -/
def hvT (a p : Nat) (P : PL) (A : HS) (hx : Nat → Int32) (sk : Nat → Int32) (ht : Int32) : List x_E :=
  [.inr (0, [.ref p, .ref (a + 1), .ref (a + 4), .ref (a + 6), .ref (a + 8), .ref (a + 10), .ref (a + 12), .ref (a + 14), .ref (a + 16), .ref (a + 18), .int (A 8 0), .int (A 8 1), .int (1 - A 1 8)]),
   .inr (3, [.ref (a + 2), .int ht]), .inr (4, [.ref (a + 2 + 1)]), .inl (0, 400, .inl sk),
   .inr (4, [.ref (a + 4 + 1)]), .inl (0, 8, .inl (s_fill (p_nd P) hx (A 0))),
   .inr (4, [.ref (a + 6 + 1)]), .inl (0, 8, .inl (A 1)),
   .inr (4, [.ref (a + 8 + 1)]), .inl (0, 8, .inl (A 2)),
   .inr (4, [.ref (a + 10 + 1)]), .inl (0, 8, .inl (A 3)),
   .inr (4, [.ref (a + 12 + 1)]), .inl (0, 6, .inl (A 4)),
   .inr (4, [.ref (a + 14 + 1)]), .inl (0, 6, .inl (A 5)),
   .inr (4, [.ref (a + 16 + 1)]), .inl (0, 36, .inl (A 6)),
   .inr (4, [.ref (a + 18 + 1)]), .inl (0, 36, .inl (A 7))]
/-- what a Plan's cells are: at p; Q: its rows, and (row 10) its counts -/
def plT (p : Nat) (Q : HS) : List x_E :=
  [.inr (2, [.int (Q 10 0), .int (Q 10 1), .int (Q 10 2), .int (Q 10 3), .ref (p + 1), .ref (p + 3), .ref (p + 5), .ref (p + 7), .ref (p + 9), .ref (p + 11), .ref (p + 13), .ref (p + 15), .ref (p + 17), .ref (p + 19)]),
   .inr (4, [.ref (p + 1 + 1)]), .inl (0, 8, .inl (Q 0)),
   .inr (4, [.ref (p + 3 + 1)]), .inl (0, 6, .inl (Q 1)),
   .inr (4, [.ref (p + 5 + 1)]), .inl (0, 36, .inl (Q 2)),
   .inr (4, [.ref (p + 7 + 1)]), .inl (0, 36, .inl (Q 3)),
   .inr (4, [.ref (p + 9 + 1)]), .inl (0, 16, .inl (Q 4)),
   .inr (4, [.ref (p + 11 + 1)]), .inl (0, 16, .inl (Q 5)),
   .inr (4, [.ref (p + 13 + 1)]), .inl (0, 16, .inl (Q 6)),
   .inr (4, [.ref (p + 15 + 1)]), .inl (0, 16, .inl (Q 7)),
   .inr (4, [.ref (p + 17 + 1)]), .inl (0, 400, .inl (Q 8)),
   .inr (4, [.ref (p + 19 + 1)]), .inl (0, 400, .inl (Q 9))]
/-- the test's code lies in the rows from place b on -/
def q_code (Q : HS) (b : Nat) (t : PT) : Prop := ∀ (i : Nat) (q : Nat × Int32), t[i]? = some q → Q 8 (b + i) = nI q.1 ∧ Q 9 (b + i) = q.2
/-- the rows of a Plan tell the plan P -/
def q_is (Q : HS) (P : PL) : Prop := Q 10 0 = nI (p_nd P) ∧ Q 10 1 = nI (p_nk P) ∧ Q 10 2 = nI (p_no P) ∧ (∀ k, k < p_nk P → Q 1 k = nI (p_np P k)) ∧ (∀ k j, k < p_nk P → j < p_np P k → Q 2 (6 * k + j) = nI (p_who P (6 * k + j)) ∧ Q 3 (6 * k + j) = p_mv P (6 * k + j)) ∧ (∀ o, o < p_no P → Q 4 o = nI (p_vb P o) ∧ Q 5 o = nI (p_tg P o) ∧ ∃ b, Q 6 o = nI b ∧ Q 7 o = nI (b + (p_ts P o).length) ∧ b + (p_ts P o).length ≤ 400 ∧ q_code Q b (p_ts P o)) ∧ ∀ d, d < p_nd P → Q 0 d = p_hn P d
theorem s_fill_in {n j : Nat} {f g : Nat → Int32} (h : j < n) : s_fill n f g j = g j := by
  unfold s_fill
  rw [if_pos h]
theorem s_fill_u {n j : Nat} {f g : Nat → Int32} {x : Int32} (h : j < n) : upd (s_fill n f g) j x = s_fill n f (upd g j x) := by
  funext i
  by_cases h1 : i = j
  · subst h1
    simp [upd, s_fill, h]
  · simp [upd, s_fill, h1]
