def fl1 : List Cond := flatC (Jvm.Cond.and given_1 narrow_1)
def fl_v (own : String) (k : Nat) : Term := .field (.string own k) "java/lang/String" "value" "[B"
/-- what the start says of a String constant, from place e on -/
def fl_ok (own : String) (k e : Nat) (bs : List Nat) : Bool := decide (fl1[e]? = some (.exactly (.string own k) "java/lang/String")) && (decide (fl1[e + 1]? = some (.eq (.field (.string own k) "java/lang/String" "coder" "B") (.int 0))) && (decide (fl1[e + 2]? = some (.arrayOf (fl_v own k) .byte)) && (decide (fl1[e + 3]? = some (.eq (.length (fl_v own k)) (.int (Int32.ofNat bs.length)))) && (List.range bs.length).all (fun j => decide (fl1[e + 4 + j]? = some (.eq (.elem (fl_v own k) (.int (Int32.ofNat j))) (.int (nI (bs.getD j 0)))))))))
theorem fl_m {args : Array Value} {s : State} (hs : ∀ w ∈ fl1, w.before args s = true) {i : Nat} {w : Cond} (q : decide (fl1[i]? = some w) = true) : w.before args s = true := hs _ (List.mem_of_getElem? (of_decide_eq_true q))
theorem fl_str {args : Array Value} {s : State} (hs : ∀ w ∈ fl1, w.before args s = true) {own : String} {k e : Nat} {bs : List Nat} (h : fl_ok own k e bs = true) (hb : bs.length < 2 ^ 31) {A : Nat → Prop} (hA : ∀ a : Nat, a < s.heap.size → ¬ A a) : ∃ a t : Nat, (Term.string own k).eval args s none [] s = some (.ref a) ∧ va_O "java/lang/String" a A s s.heap ∧ va_OF "java/lang/String" "coder" "B" (.int 0) a A s s.heap ∧ va_OF "java/lang/String" "value" "[B" (.ref t) a A s s.heap ∧ va_T .byte t bs.length (fun j => .int (nI (bs.getD j 0))) A s s.heap := by
  unfold fl_ok at h
  rw [Bool.and_eq_true, Bool.and_eq_true, Bool.and_eq_true, Bool.and_eq_true] at h
  obtain ⟨h1, h2, h3, h4, h5⟩ := h
  obtain ⟨a, c, cA, kA, q1, q2, q3, q4, q5, q6, -⟩ := Cond.exactly_spec (args := args) (first := s) (o := none) (s := s) (idx := []) (t := .string own k) (cls := "java/lang/String") (fl_m hs h1)
  obtain ⟨t, ht, hT⟩ := va_Tof (f := fun j => .int (nI (bs.getD j 0))) (A := A) hb (fl_m hs h3) (va_eqt (fl_m hs h4)) (fun j hj => va_eqt (fl_m hs (List.all_eq_true.mp h5 j (List.mem_range.mpr hj)))) hA
  exact ⟨a, t, q1, va_Oof (fl_m hs h1) q1 hA, vk_OFof q1 (va_eqt (fl_m hs h2)) hA, vk_OFof q1 ht hA, hT⟩
theorem ar_of {args : Array Value} {s : State} {ty : FieldType} (h : (Cond.arrayClass ty).before args s = true) (hp : ty = .int ∨ ty = .long ∨ ty = .boolean) : ∃ cA : ClassId, ArrOfT s cA ty ∧ va_RA s cA ty := by
  obtain ⟨cA, kA, comp, g1, g2, g3⟩ := Cond.arrayClass_spec h
  rcases hp with rfl | rfl | rfl
  · exact ⟨cA, fun n z => ⟨fun k h => (by cases h), kA, g2, comp, g3⟩, g1⟩
  · exact ⟨cA, fun n z => ⟨fun k h => (by cases h), kA, g2, comp, g3⟩, g1⟩
  · exact ⟨cA, fun n z => ⟨fun k h => (by cases h), kA, g2, comp, g3⟩, g1⟩
theorem ls_ok {s : State} {b : Nat} (hts : ∀ w ∈ lw_tbl, w.before #[Value.ref b] s = true) : ∃ G : x_G, x_Ok (s, #[Value.ref b], G, s.heap.size) := by
  have kX0 : ∃ d : ClassId × (Nat → Nat), u_Kn s RX0 TX0 13 d.1 d.2 := by
    obtain ⟨c, i, h⟩ := u_known (C := RX0) (T := TX0) (N := 13) (n := 13) hts inX0 (hts (.instantiable RX0 13) (x_t2 _ (List.mem_of_getElem? (i := 41) (by decide +kernel))))
    exact ⟨(c, i), h⟩
  have kX1 : ∃ d : ClassId × (Nat → Nat), u_Kn s RX1 TX1 2 d.1 d.2 := by
    obtain ⟨c, i, h⟩ := u_known (C := RX1) (T := TX1) (N := 2) (n := 2) hts inX1 (hts (.instantiable RX1 2) (x_t1 _ (List.mem_of_getElem? (i := 144) (by decide +kernel))))
    exact ⟨(c, i), h⟩
  have kX2 : ∃ d : ClassId × (Nat → Nat), u_Kn s RX2 TX2 14 d.1 d.2 := by
    obtain ⟨c, i, h⟩ := u_known (C := RX2) (T := TX2) (N := 14) (n := 14) hts inX2 (hts (.instantiable RX2 14) (x_t1 _ (List.mem_of_getElem? (i := 61) (by decide +kernel))))
    exact ⟨(c, i), h⟩
  have kX3 : ∃ d : ClassId × (Nat → Nat), u_Kn s RX3 TX3 2 d.1 d.2 := by
    obtain ⟨c, i, h⟩ := u_known (C := RX3) (T := TX3) (N := 2) (n := 2) hts inX3 (hts (.instantiable RX3 2) (x_t2 _ (List.mem_of_getElem? (i := 47) (by decide +kernel))))
    exact ⟨(c, i), h⟩
  have kX4 : ∃ d : ClassId × (Nat → Nat), u_Kn s RX4 TX4 1 d.1 d.2 := by
    obtain ⟨c, i, h⟩ := u_known (C := RX4) (T := TX4) (N := 1) (n := 1) hts inX4 (hts (.instantiable RX4 1) (x_t1 _ (List.mem_of_getElem? (i := 41) (by decide +kernel))))
    exact ⟨(c, i), h⟩
  have kX5 : ∃ d : ClassId × (Nat → Nat), u_Kn s RX5 TX5 2 d.1 d.2 := by
    obtain ⟨c, i, h⟩ := u_known (C := RX5) (T := TX5) (N := 2) (n := 2) hts inX5 (hts (.instantiable RX5 2) (x_t1 _ (List.mem_of_getElem? (i := 35) (by decide +kernel))))
    exact ⟨(c, i), h⟩
  have kX6 : ∃ d : ClassId × (Nat → Nat), u_Kn s RX6 TX6 7 d.1 d.2 := by
    obtain ⟨c, i, h⟩ := u_known (C := RX6) (T := TX6) (N := 7) (n := 7) hts inX6 (hts (.instantiable RX6 7) (x_t1 _ (List.mem_of_getElem? (i := 138) (by decide +kernel))))
    exact ⟨(c, i), h⟩
  have kX7 : ∃ d : ClassId × (Nat → Nat), u_Kn s RX7 TX7 11 d.1 d.2 := by
    obtain ⟨c, i, h⟩ := u_known (C := RX7) (T := TX7) (N := 11) (n := 11) hts inX7 (hts (.instantiable RX7 11) (x_t1 _ (List.mem_of_getElem? (i := 159) (by decide +kernel))))
    exact ⟨(c, i), h⟩
  have kX8 : ∃ d : ClassId × (Nat → Nat), u_Kn s RX8 TX8 7 d.1 d.2 := by
    obtain ⟨c, i, h⟩ := u_known (C := RX8) (T := TX8) (N := 7) (n := 7) hts inX8 (hts (.instantiable RX8 7) (x_t1 _ (List.mem_of_getElem? (i := 27) (by decide +kernel))))
    exact ⟨(c, i), h⟩
  have kX9 : ∃ d : ClassId × (Nat → Nat), u_Kn s RX9 TX9 16 d.1 d.2 := by
    obtain ⟨c, i, h⟩ := u_known (C := RX9) (T := TX9) (N := 16) (n := 16) hts inX9 (hts (.instantiable RX9 16) (x_t5 _ (List.mem_of_getElem? (i := 203) (by decide +kernel))))
    exact ⟨(c, i), h⟩
  have kX10 : ∃ d : ClassId × (Nat → Nat), u_Kn s RX10 TX10 12 d.1 d.2 := by
    obtain ⟨c, i, h⟩ := u_known (C := RX10) (T := TX10) (N := 12) (n := 12) hts inX10 (hts (.instantiable RX10 12) (x_t6 _ (List.mem_of_getElem? (i := 40) (by decide +kernel))))
    exact ⟨(c, i), h⟩
  have kX11 : ∃ d : ClassId × (Nat → Nat), u_Kn s RX11 TX11 16 d.1 d.2 := by
    obtain ⟨c, i, h⟩ := u_known (C := RX11) (T := TX11) (N := 16) (n := 16) hts inX11 (hts (.instantiable RX11 16) (x_t5 _ (List.mem_of_getElem? (i := 197) (by decide +kernel))))
    exact ⟨(c, i), h⟩
  have h1 : ∀ q ∈ vwCl, ∃ d : ClassId × (Nat → Nat), u_Kn s q.1 q.2.1 q.2.2 d.1 d.2 := by
    intro q hq
    simp only [vwCl, List.mem_cons, List.not_mem_nil, or_false] at hq
    rcases hq with rfl | rfl | rfl | rfl | rfl | rfl | rfl | rfl | rfl | rfl | rfl | rfl
    · exact kX0
    · exact kX1
    · exact kX2
    · exact kX3
    · exact kX4
    · exact kX5
    · exact kX6
    · exact kX7
    · exact kX8
    · exact kX9
    · exact kX10
    · exact kX11
  have h2 : ∀ k : Nat, ∃ d : ClassId × (Nat → Nat), ∀ q : vw_C, vwCl[k]? = some q → u_Kn s q.1 q.2.1 q.2.2 d.1 d.2 := by
    intro k
    cases e : vwCl[k]? with
    | none =>
      obtain ⟨d, -⟩ := kX0
      exact ⟨d, fun q h => by cases h⟩
    | some q =>
      obtain ⟨d, hd⟩ := h1 q (List.mem_of_getElem? e)
      exact ⟨d, fun q' h => by cases h; exact hd⟩
  obtain ⟨D, hD⟩ := Classical.axiomOfChoice h2
  obtain ⟨a0, ha0⟩ := ar_of (hts _ o_ai) (Or.inl rfl)
  obtain ⟨a1, ha1⟩ := ar_of (hts _ o_al) (Or.inr (Or.inl rfl))
  obtain ⟨a2, ha2⟩ := ar_of (hts _ o_ab) (Or.inr (Or.inr rfl))
  refine ⟨((fun k => (D k).1, fun k => (D k).2), fun k => match k with | 0 => a0 | 1 => a1 | _ => a2), hts, fun c q h => hD c q h, fun k q hq => ?_⟩
  match k, hq with
  | 0, hq => cases hq; exact ha0
  | 1, hq => cases hq; exact ha1
  | 2, hq => cases hq; exact ha2
  | k + 3, hq => simp at hq
theorem ls_no {s : State} {b : Nat} {G : x_G} : ∀ a : Nat, a < s.heap.size → ¬ x_fr (s, #[Value.ref b], G, s.heap.size) a := fun a h q => Nat.not_le.mpr h q
theorem ls_str {s : State} {b : Nat} {G : x_G} (hts : ∀ w ∈ lw_tbl, w.before #[Value.ref b] s = true) (hs : ∀ w ∈ fl1, w.before #[Value.ref b] s = true) {own tx : String} {k e : Nat} {bs : List Nat} (hw : Cond.stringRef own k tx ∈ lw_tbl) (h : fl_ok own k e bs = true) (hb : bs.length < 2 ^ 31) : ∃ q t : Nat, vk_R own k tx q s ∧ x_Str (s, #[Value.ref b], G, s.heap.size) q t bs := by
  obtain ⟨a, t, h1, h2⟩ := fl_str hs h hb (A := x_fr (s, #[Value.ref b], G, s.heap.size)) (ls_no (b := b) (G := G))
  exact ⟨a, t, vk_R.of (hts _ hw) h1, h2⟩
theorem ls_ok29 : fl_ok RX7 29 78 k_KT = true := by decide +kernel
theorem ls_ok113 : fl_ok RX7 113 194 k_SYM = true := by decide +kernel
theorem ls_ok109 : fl_ok RX11 109 521 k_SYM = true := by decide +kernel
def ls_wk : List Nat := [378, 380, 381, 383, 385, 387, 389, 390, 392, 394, 396, 398, 399, 400, 401, 402, 403, 405, 407, 409, 411, 412]
def ls_we : List Nat := [539, 548, 557, 565, 574, 583, 591, 600, 609, 617, 626, 634, 641, 649, 660, 669, 675, 684, 691, 698, 704, 711]
theorem ls_okW : (List.range 22).all (fun k => fl_ok RX11 (ls_wk.getD k 0) (ls_we.getD k 0) (w_L.getD k [])) = true := by decide +kernel
theorem ls_elW : (List.range 22).all (fun k => decide (fl1[14 + k]? = some (.eq (.elem (.static "HoneyAccordModel" "WORDS" "[Ljava/lang/String;") (.int (Int32.ofNat k))) (.string RX11 (ls_wk.getD k 0))))) = true := by decide +kernel
theorem ls_lenW : ∀ k, k < 22 → (w_L.getD k []).length < 2 ^ 31 := by decide
theorem ls_arW : decide (fl1[12]? = some (.arrayOf (.static "HoneyAccordModel" "WORDS" "[Ljava/lang/String;") (.object "java/lang/String"))) = true := by decide +kernel
theorem ls_leW : decide (fl1[13]? = some (.eq (.length (.static "HoneyAccordModel" "WORDS" "[Ljava/lang/String;")) (.int (Int32.ofNat 22)))) = true := by decide +kernel
theorem ls_wd {s : State} {b : Nat} {G : x_G} (hts : ∀ w ∈ lw_tbl, w.before #[Value.ref b] s = true) (hs : ∀ w ∈ fl1, w.before #[Value.ref b] s = true) : ∃ (wa : Nat) (sa st9 : Nat → Nat), x_Wd (s, #[Value.ref b], G, s.heap.size) wa sa st9 := by
  have h0 : ∀ k : Nat, ∃ q : Nat × Nat, k < 22 → (Term.string RX11 (ls_wk.getD k 0)).eval #[Value.ref b] s none [] s = some (.ref q.1) ∧ x_Str (s, #[Value.ref b], G, s.heap.size) q.1 q.2 (w_L.getD k []) := by
    intro k
    by_cases hk : k < 22
    · obtain ⟨a, t, h1, h2⟩ := fl_str hs (List.all_eq_true.mp ls_okW k (List.mem_range.mpr hk)) (ls_lenW k hk) (A := x_fr (s, #[Value.ref b], G, s.heap.size)) (ls_no (b := b) (G := G))
      exact ⟨(a, t), fun _ => ⟨h1, h2⟩⟩
    · exact ⟨(0, 0), fun h => absurd h hk⟩
  obtain ⟨ad, had⟩ := Classical.axiomOfChoice h0
  obtain ⟨wa, hwa, hT⟩ := va_Tof (f := fun k => .ref (ad k).1) (A := x_fr (s, #[Value.ref b], G, s.heap.size)) (N := 22) (by decide) (fl_m hs ls_arW) (va_eqt (fl_m hs ls_leW)) (fun j hj => va_eqv (fl_m hs (List.all_eq_true.mp ls_elW j (List.mem_range.mpr hj))) (had j hj).1) (ls_no (b := b) (G := G))
  exact ⟨wa, fun k => (ad k).1, fun k => (ad k).2, va_Zref (hts _ (x_t6 _ (List.mem_of_getElem? (i := 207) (by decide +kernel)))) (hts _ (x_t1 _ (List.mem_of_getElem? (i := 14) (by decide +kernel)))) hwa (ls_no (b := b) (G := G)), hT, fun k hk => (had k hk).2⟩
theorem ls_stc {s : State} {b : Nat} {G : x_G} (hts : ∀ w ∈ lw_tbl, w.before #[Value.ref b] s = true) (hs : ∀ w ∈ fl1, w.before #[Value.ref b] s = true) : x_Stc (s, #[Value.ref b], G, s.heap.size) :=
  ⟨va_Zof (hts _ (x_t1 _ (List.mem_of_getElem? (i := 174) (by decide +kernel)))) (hts _ (x_t1 _ (List.mem_of_getElem? (i := 8) (by decide +kernel)))) (va_eqi (hs _ (List.mem_of_getElem? (i := 4) (by decide +kernel)))) (ls_no (b := b) (G := G)), va_Zqof (hts _ (x_t1 _ (List.mem_of_getElem? (i := 190) (by decide +kernel)))) (hts _ (x_t1 _ (List.mem_of_getElem? (i := 10) (by decide +kernel)))) (hs _ (List.mem_of_getElem? (i := 5) (by decide +kernel))) (ls_no (b := b) (G := G))⟩
theorem ls_msg : ex_Ms.all (fun q => decide (Cond.stringRef RX8 q.1 q.2 ∈ lw_tbl) && decide (Cond.exactly (.string RX8 q.1) "java/lang/String" ∈ fl1)) = true := by decide +kernel
theorem ls_ex {l : Launch} {s : State} {b : Nat} {G : x_G} (hflags : l.flags = flags0) (hts : ∀ w ∈ lw_tbl, w.before #[Value.ref b] s = true) (hs : ∀ w ∈ fl1, w.before #[Value.ref b] s = true) : x_Ex l (s, #[Value.ref b], G, s.heap.size) := by
  refine ⟨?_, vx_Zqof (hts _ (x_t4 _ (List.mem_of_getElem? (i := 139) (by decide +kernel)))) (hts _ (x_t1 _ (List.mem_of_getElem? (i := 18) (by decide +kernel)))) (hs _ (List.mem_of_getElem? (i := 9) (by decide +kernel))) (ls_no (b := b) (G := G)), vx_Zqof (hts _ (x_t4 _ (List.mem_of_getElem? (i := 141) (by decide +kernel)))) (hts _ (x_t1 _ (List.mem_of_getElem? (i := 18) (by decide +kernel)))) (hs _ (List.mem_of_getElem? (i := 10) (by decide +kernel))) (ls_no (b := b) (G := G)), fun q hq => ?_, va_Nc.of (hs _ (List.mem_of_getElem? (i := 76) (by decide +kernel))), va_Nc.of (hs _ (List.mem_of_getElem? (i := 77) (by decide +kernel)))⟩
  · unfold Launch.stackTraces
    rw [hflags]
    decide +kernel
  · have h := List.all_eq_true.mp ls_msg q hq
    rw [Bool.and_eq_true] at h
    obtain ⟨a, c, cA, kA, q1, -⟩ := Cond.exactly_spec (args := #[Value.ref b]) (first := s) (o := none) (s := s) (idx := []) (t := .string RX8 q.1) (cls := "java/lang/String") (hs _ (of_decide_eq_true h.2))
    exact ⟨a, vk_R.of (hts _ (of_decide_eq_true h.1)) q1⟩
theorem ls_m29 : Cond.stringRef RX7 29 "drone honey deal moves gives gets begin crash wake queen when day done blocked waits of awake not and or min max" ∈ lw_tbl := (x_t1 _ (List.mem_of_getElem? (i := 164) (by decide +kernel)))
theorem ls_m113 : Cond.stringRef RX7 113 "()[];,+-*/<>=" ∈ lw_tbl := (x_t2 _ (List.mem_of_getElem? (i := 206) (by decide +kernel)))
theorem ls_m109 : Cond.stringRef RX11 109 "()[];,+-*/<>=" ∈ lw_tbl := (x_t6 _ (List.mem_of_getElem? (i := 210) (by decide +kernel)))
