section XKA
/-! A judgement over an abstract heap: a partial map from addresses to cells (an object of a numbered class with its fields, an array with its contents), and the next address. -/
abbrev x_E : Type := (Nat × vp_A) ⊕ (Nat × List Value)
abbrev x_M : Type := (Nat → Option x_E) × Nat
abbrev x_G : Type := va_G × (Nat → ClassId)
def x_e (G : x_G) (c : x_E) : va_E := match c with
  | .inl a => .inl (G.2 a.1, a.2)
  | .inr o => .inr o
abbrev x_ts (G : x_G) : List (ClassId × FieldType) := [(G.2 0, .int), (G.2 1, .long), (G.2 2, .boolean)]
/-- the start of the law (state, arguments), class numbers, first address of its own -/
abbrev x_Y : Type := State × Array Value × x_G × Nat
def x_W (Y : x_Y) (M : x_M) (H : Heap) : Prop := H.size = M.2 ∧ ∀ (q : Nat) (c : x_E), M.1 q = some c → Y.2.2.2 ≤ q ∧ va_at Y.2.2.1.1 vwCl (q, x_e Y.2.2.1 c) H
def x_Ok (Y : x_Y) : Prop := (∀ w ∈ lw_tbl, w.before Y.2.1 Y.1 = true) ∧ va_K Y.2.2.1.1 vwCl (x_ts Y.2.2.1) Y.1
def x_Pre (Y : x_Y) (M : x_M) (U : State) : Prop := Y.1.WarmedH U.vm ∧ (∀ q : Nat, q < Y.2.2.2 → U.heap[q]? = Y.1.heap[q]?) ∧ x_W Y M U.heap ∧ Y.2.2.2 ≤ U.heap.size
def x_Post (Y : x_Y) (Qc : Option Value → x_M → Prop) : Array Value → State → Outcome → State → Prop := fun _ st o t => ∃ (v : Option Value) (M' : x_M), o = .returned v ∧ Qc v M' ∧ x_W Y M' t.heap ∧ st.heap.size ≤ t.heap.size ∧ ∀ q : Nat, q < Y.2.2.2 → t.heap[q]? = st.heap[q]?
abbrev x_rm (d mc ms : Nat) : Room := { frames := d, cells := mc, slots := ms, locals := 40 * d }
abbrev x_fr (Y : x_Y) : Addr → Prop := fun q => Y.2.2.2 ≤ q
/-- the contract of a method, called with As in the abstract heap M: it returns, and Qc holds of its answer and the heap behind it -/
def x_C (l : Launch) (Y : x_Y) (y : MethodName) (cc : ByteArray) (maxL : Nat) (ret : Option FieldType) (d mc ms : Nat) (As : List Value) (M : x_M) (Qc : Option Value → x_M → Prop) : Prop :=
  Met l y [.code y cc maxL ret] (x_rm d mc ms) (va_Pc As (x_Pre Y M)) (x_Post Y Qc) mc ms (x_fr Y)
abbrev x_K : Type := Program × Launch × Env × Room × State × MethodId × Array Value × List Frame × Method × Code × x_Y × (State → Prop)
def x_X (K : x_K) (nL cells slots pc : Nat) (lv : List (Nat × Value)) (st : List Value) (M : x_M) : Prop := match K with
  | (p, l, e, R, s, m, args, below, meth, c, Y, Q) => ∀ (H : Heap) (locs : List Loc) (ls : Array Slot), x_W Y M H → va_S (x_fr Y) s.heap H locs → lv_has ls nL lv → W p l e R s m args below meth c H locs cells slots Q (F0 m pc ls st)
/-- what is known of the running method -/
def x_Ctx (K : x_K) (l : Launch) (Y0 : x_Y) (y : MethodName) (cc : ByteArray) (nL d mc ms : Nat) : Prop := match K with
  | (p, l1, e, R, s, m, args, below, meth, c, Y, Q) => p.tables.exec = Jvm.exec ∧ c.code = cc ∧ c.maxLocals = nL ∧ s.vm.findClass y.cls = some m.cls ∧ meth.locks = false ∧ meth.name = y.name ∧ Y.1.WarmedH s.vm ∧ x_Ok Y ∧ Y.2.2.2 ≤ s.heap.size ∧ (∀ q : Nat, q < Y.2.2.2 → s.heap[q]? = Y.1.heap[q]?) ∧ R = x_rm d mc ms ∧ l1 = l ∧ Y = Y0
/-- what its end has to be -/
def x_Ret (K : x_K) (ret : Option FieldType) (mc ms : Nat) (Qc : Option Value → x_M → Prop) : Prop := match K with
  | (_, _, _, _, s, _, args, below, meth, _, Y, Q) => meth.sig.returnType = ret ∧ Q = MQ below (x_Post Y Qc) args s mc ms (x_fr Y)
def x_loc : List (Nat × Value) → Nat → Option Value
  | [], _ => none
  | (i, v) :: t, k => match Nat.beq i k with
    | true => some v
    | false => x_loc t k
def x_put : List (Nat × Value) → Nat → Value → List (Nat × Value)
  | [], k, v => [(k, v)]
  | (i, w) :: t, k, v => match Nat.beq i k with
    | true => (k, v) :: t
    | false => (i, w) :: x_put t k v
/-- no long stands just ahead of place k, and each place is listed once -/
def x_one : List (Nat × Value) → Nat → Bool
  | [], _ => true
  | (i, v) :: t, k => (match Nat.beq (i + 1) k with
    | true => Nat.beq v.category 1
    | false => true) && ((match Nat.beq i k with
    | true => t.all (fun q => !(Nat.beq q.1 k) && (match Nat.beq (q.1 + 1) k with | true => Nat.beq q.2.category 1 | false => true))
    | false => x_one t k))
def x_put2 (lv : List (Nat × Value)) (k : Nat) (v : Value) : List (Nat × Value) := (k, v) :: lv.filter (fun q => !(q.1 == k) && (!(q.1 == k + 1) && !(q.1 + 1 == k && q.2.category == 2)))
theorem x_loc_mem {lv : List (Nat × Value)} {k : Nat} {v : Value} (h : x_loc lv k = some v) : (k, v) ∈ lv := by
  induction lv with
  | nil => cases h
  | cons q t ih =>
    obtain ⟨i, w⟩ := q
    unfold x_loc at h
    cases hb : Nat.beq i k with
    | true =>
      rw [hb] at h
      have : i = k := Nat.eq_of_beq_eq_true hb
      cases h
      subst this
      exact List.mem_cons_self
    | false =>
      rw [hb] at h
      exact List.mem_cons_of_mem _ (ih h)
theorem x_lv_at {ls : Array Slot} {nL : Nat} {lv : List (Nat × Value)} (h : lv_has ls nL lv) {k : Nat} {v : Value} (hk : x_loc lv k = some v) : ls[k]? = some (.val v) := h.2.2 (k, v) (x_loc_mem hk)
theorem x_put_has {ls : Array Slot} {nL : Nat} {lv : List (Nat × Value)} {k : Nat} {v : Value} (h1 : x_one lv k = true) (h : lv_has ls nL ((k, v) :: lv.filter (fun q => !(q.1 == k) && !(q.1 + 1 == k && q.2.category == 2)))) : lv_has ls nL (x_put lv k v) := by
  refine ⟨h.1, h.2.1, ?_⟩
  have key : ∀ (lv : List (Nat × Value)), x_one lv k = true → ∀ q ∈ x_put lv k v, q = (k, v) ∨ (q ∈ lv ∧ q.1 ≠ k ∧ ¬ (q.1 + 1 = k ∧ q.2.category = 2)) := by
    intro lv
    induction lv with
    | nil =>
      intro _ q hq
      exact Or.inl (by simpa [x_put] using hq)
    | cons a t ih =>
      obtain ⟨i, w⟩ := a
      intro h1 q hq
      unfold x_one at h1
      rw [Bool.and_eq_true] at h1
      obtain ⟨ha, hb⟩ := h1
      unfold x_put at hq
      cases hik : Nat.beq i k with
      | true =>
        rw [hik] at hq hb
        rcases List.mem_cons.mp hq with e | hq
        · exact Or.inl e
        · have hall := List.all_eq_true.mp hb q hq
          rw [Bool.and_eq_true] at hall
          refine Or.inr ⟨List.mem_cons_of_mem _ hq, fun e => ?_, fun e => ?_⟩
          · rw [e, Nat.beq_refl] at hall
            simp at hall
          · rw [e.1, Nat.beq_refl] at hall
            have := Nat.eq_of_beq_eq_true hall.2
            omega
      | false =>
        rw [hik] at hq hb
        rcases List.mem_cons.mp hq with e | hq
        · subst e
          refine Or.inr ⟨List.mem_cons_self, fun e => ?_, fun e => ?_⟩
          · have e : i = k := e
            rw [e, Nat.beq_refl] at hik
            cases hik
          · have e1 : i + 1 = k := e.1
            rw [e1, Nat.beq_refl] at ha
            have := Nat.eq_of_beq_eq_true ha
            have e2 : w.category = 2 := e.2
            omega
        · rcases ih hb q hq with e | ⟨e1, e2⟩
          · exact Or.inl e
          · exact Or.inr ⟨List.mem_cons_of_mem _ e1, e2⟩
  intro q hq
  rcases key lv h1 q hq with e | ⟨e1, e2, e3⟩
  · exact h.2.2 q (by rw [e]; exact List.mem_cons_self)
  · refine h.2.2 q (List.mem_cons_of_mem _ (List.mem_filter.mpr ⟨e1, ?_⟩))
    have e4 : ¬ (q.1 + 1 = k ∧ q.2.category = 2) := e3
    by_cases h5 : q.1 + 1 = k
    · have h6 : ¬ q.2.category = 2 := fun h => e4 ⟨h5, h⟩
      simp [e2, h6]
    · simp [e2, h5]
def x_st (M : x_M) (a : Nat) (c : x_E) : x_M := (fun q => if q = a then some c else M.1 q, M.2)
def x_nw (M : x_M) (c : x_E) : x_M := (fun q => if q = M.2 then some c else M.1 q, M.2 + 1)
theorem x_W_st {Y : x_Y} {M : x_M} {H H1 : Heap} {a : Nat} {c0 c : x_E} (h : x_W Y M H) (ha : M.1 a = some c0) (hc : va_at Y.2.2.1.1 vwCl (a, x_e Y.2.2.1 c) H1) (z : H1.size = H.size) (oq : ∀ q : Nat, q ≠ a → H1[q]? = H[q]?) : x_W Y (x_st M a c) H1 := by
  refine ⟨z.trans h.1, fun q c' hq => ?_⟩
  by_cases e : q = a
  · subst e
    simp only [x_st, if_pos] at hq
    cases hq
    exact ⟨(h.2 q c0 ha).1, hc⟩
  · simp only [x_st, if_neg e] at hq
    exact ⟨(h.2 q c' hq).1, (h.2 q c' hq).2.kept (oq q e)⟩
theorem x_W_nw {Y : x_Y} {M : x_M} {H H1 : Heap} {c : x_E} (h : x_W Y M H) (hB : Y.2.2.2 ≤ H.size) (hc : va_at Y.2.2.1.1 vwCl (M.2, x_e Y.2.2.1 c) H1) (z : H1.size = H.size + 1) (oq : ∀ q : Nat, q < H.size → H1[q]? = H[q]?) : x_W Y (x_nw M c) H1 := by
  refine ⟨by rw [z, h.1]; rfl, fun q c' hq => ?_⟩
  by_cases e : q = M.2
  · subst e
    simp only [x_nw, if_pos] at hq
    cases hq
    exact ⟨by rw [← h.1]; exact hB, hc⟩
  · simp only [x_nw, if_neg e] at hq
    have h1 := h.2 q c' hq
    exact ⟨h1.1, h1.2.kept (oq q h1.2.lt)⟩
end XKA

section XKB
/-- words of the tables that hold at any later time -/
def x_gd (w : Cond) : Prop := (w.onTables && w.keeps) = true ∨ (∃ ty, w = .arrayClass ty) ∨ (∃ (a : String) (i : Nat) (b n d h : String), w = .fieldLinkNest a i b n d h) ∨ ∃ (a : String) (i : Nat) (x : MethodName) (h : String), w = .methodLinkNest a i x h
variable {K : x_K} {l : Launch} {Y0 : x_Y} {y : MethodName} {cc : ByteArray} {nL d mc ms cells slots pc : Nat} {lv : List (Nat × Value)} {st : List Value} {M : x_M}
theorem x_word (C : x_Ctx K l Y0 y cc nL d mc ms) {w : Cond} (h : w ∈ lw_tbl) (hg : x_gd w) : w.before K.2.2.2.2.2.2.1 K.2.2.2.2.1 = true := by
  obtain ⟨p, l1, e, R, s, m, args, below, meth, c, Y, Q⟩ := K
  obtain ⟨hx, hb, hml, hown, hlk, hnm, hW, hok, hB, hfz, rfl, rfl, rfl⟩ := C
  rcases hg with hg | hg | ⟨a, i, b, n, d, h1, rfl⟩ | ⟨a, i, x, h1, rfl⟩
  · exact word_at hW (Or.inl hg) (hok.1 w h)
  · exact word_at hW (Or.inr hg) (hok.1 w h)
  · exact va_Nw.use rfl (va_Nw.warmF hW (va_Nw.of rfl (hok.1 _ h)))
  · exact va_Nw.use rfl (va_Nw.warmM hW (va_Nw.of rfl (hok.1 _ h)))
theorem x_va_K (C : x_Ctx K l Y0 y cc nL d mc ms) : va_K Y0.2.2.1.1 vwCl (x_ts Y0.2.2.1) K.2.2.2.2.1 := by
  obtain ⟨p, l1, e, R, s, m, args, below, meth, c, Y, Q⟩ := K
  obtain ⟨hx, hb, hml, hown, hlk, hnm, hW, hok, hB, hfz, rfl, rfl, rfl⟩ := C
  exact va_K.moved hW.alike hok.2

theorem x_iconst (C : x_Ctx K l Y0 y cc nL d mc ms) {n : Int} {v : Int32} (dd : decode cc pc = .ok (.iconst n, 1)) (hv : Int32.ofInt n = v) (k : x_X K nL cells slots (pc + 1) lv (.int v :: st) M) : x_X K nL cells slots pc lv st M := by
  obtain ⟨p, l1, e, R, s, m, args, below, meth, c, Y, Q⟩ := K
  obtain ⟨hx, hb, hml, hown, hlk, hnm, hW, hok, hB, hfz, rfl, rfl, rfl⟩ := C
  intro H locs ls hw hs hl
  exact lv_iconst hx hb dd hv (k H locs ls hw hs hl)
theorem x_bipush (C : x_Ctx K l Y0 y cc nL d mc ms) {n : Int} {v : Int32} (dd : decode cc pc = .ok (.bipush n, 2)) (hv : (Int8.ofInt n).toInt32 = v) (k : x_X K nL cells slots (pc + 2) lv (.int v :: st) M) : x_X K nL cells slots pc lv st M := by
  obtain ⟨p, l1, e, R, s, m, args, below, meth, c, Y, Q⟩ := K
  obtain ⟨hx, hb, hml, hown, hlk, hnm, hW, hok, hB, hfz, rfl, rfl, rfl⟩ := C
  intro H locs ls hw hs hl
  exact lv_bipush hx hb dd hv (k H locs ls hw hs hl)
theorem x_sipush (C : x_Ctx K l Y0 y cc nL d mc ms) {n : Int} {v : Int32} (dd : decode cc pc = .ok (.sipush n, 3)) (hv : (Int16.ofInt n).toInt32 = v) (k : x_X K nL cells slots (pc + 3) lv (.int v :: st) M) : x_X K nL cells slots pc lv st M := by
  obtain ⟨p, l1, e, R, s, m, args, below, meth, c, Y, Q⟩ := K
  obtain ⟨hx, hb, hml, hown, hlk, hnm, hW, hok, hB, hfz, rfl, rfl, rfl⟩ := C
  intro H locs ls hw hs hl
  exact lv_sipush hx hb dd hv (k H locs ls hw hs hl)
theorem x_lconst (C : x_Ctx K l Y0 y cc nL d mc ms) {n : Fin 2} {v : Int64} (dd : decode cc pc = .ok (.lconst n, 1)) (hv : Int64.ofNat (n : Nat) = v) (k : x_X K nL cells slots (pc + 1) lv (.long v :: st) M) : x_X K nL cells slots pc lv st M := by
  obtain ⟨p, l1, e, R, s, m, args, below, meth, c, Y, Q⟩ := K
  obtain ⟨hx, hb, hml, hown, hlk, hnm, hW, hok, hB, hfz, rfl, rfl, rfl⟩ := C
  intro H locs ls hw hs hl
  exact lv_lconst hx hb dd hv (k H locs ls hw hs hl)
theorem x_iload_n (C : x_Ctx K l Y0 y cc nL d mc ms) {k : Fin 4} {i : Nat} {x : Int32} (dd : decode cc pc = .ok (.iload_n k, 1)) (hi : (k : Nat) = i) (hv : x_loc lv i = some (.int x)) (k : x_X K nL cells slots (pc + 1) lv (.int x :: st) M) : x_X K nL cells slots pc lv st M := by
  obtain ⟨p, l1, e, R, s, m, args, below, meth, c, Y, Q⟩ := K
  obtain ⟨hx, hb, hml, hown, hlk, hnm, hW, hok, hB, hfz, rfl, rfl, rfl⟩ := C
  intro H locs ls hw hs hl
  exact lv_iload_n hx hb dd hi (x_lv_at hl hv) (k H locs ls hw hs hl)
theorem x_iload (C : x_Ctx K l Y0 y cc nL d mc ms) {i : Nat} {x : Int32} (dd : decode cc pc = .ok (.iload i, 2)) (hv : x_loc lv i = some (.int x)) (k : x_X K nL cells slots (pc + 2) lv (.int x :: st) M) : x_X K nL cells slots pc lv st M := by
  obtain ⟨p, l1, e, R, s, m, args, below, meth, c, Y, Q⟩ := K
  obtain ⟨hx, hb, hml, hown, hlk, hnm, hW, hok, hB, hfz, rfl, rfl, rfl⟩ := C
  intro H locs ls hw hs hl
  exact lv_iload hx hb dd (x_lv_at hl hv) (k H locs ls hw hs hl)
theorem x_lload_n (C : x_Ctx K l Y0 y cc nL d mc ms) {k : Fin 4} {i : Nat} {x : Int64} (dd : decode cc pc = .ok (.lload_n k, 1)) (hi : (k : Nat) = i) (hv : x_loc lv i = some (.long x)) (k : x_X K nL cells slots (pc + 1) lv (.long x :: st) M) : x_X K nL cells slots pc lv st M := by
  obtain ⟨p, l1, e, R, s, m, args, below, meth, c, Y, Q⟩ := K
  obtain ⟨hx, hb, hml, hown, hlk, hnm, hW, hok, hB, hfz, rfl, rfl, rfl⟩ := C
  intro H locs ls hw hs hl
  exact lv_lload_n hx hb dd hi (x_lv_at hl hv) (k H locs ls hw hs hl)
theorem x_lload (C : x_Ctx K l Y0 y cc nL d mc ms) {i : Nat} {x : Int64} (dd : decode cc pc = .ok (.lload i, 2)) (hv : x_loc lv i = some (.long x)) (k : x_X K nL cells slots (pc + 2) lv (.long x :: st) M) : x_X K nL cells slots pc lv st M := by
  obtain ⟨p, l1, e, R, s, m, args, below, meth, c, Y, Q⟩ := K
  obtain ⟨hx, hb, hml, hown, hlk, hnm, hW, hok, hB, hfz, rfl, rfl, rfl⟩ := C
  intro H locs ls hw hs hl
  exact lv_lload hx hb dd (x_lv_at hl hv) (k H locs ls hw hs hl)
theorem x_aload_n (C : x_Ctx K l Y0 y cc nL d mc ms) {k : Fin 4} {i : Nat} {x : Nat} (dd : decode cc pc = .ok (.aload_n k, 1)) (hi : (k : Nat) = i) (hv : x_loc lv i = some (.ref x)) (k : x_X K nL cells slots (pc + 1) lv (.ref x :: st) M) : x_X K nL cells slots pc lv st M := by
  obtain ⟨p, l1, e, R, s, m, args, below, meth, c, Y, Q⟩ := K
  obtain ⟨hx, hb, hml, hown, hlk, hnm, hW, hok, hB, hfz, rfl, rfl, rfl⟩ := C
  intro H locs ls hw hs hl
  exact lv_aload_n hx hb dd hi (x_lv_at hl hv) (k H locs ls hw hs hl)
theorem x_aload (C : x_Ctx K l Y0 y cc nL d mc ms) {i : Nat} {x : Nat} (dd : decode cc pc = .ok (.aload i, 2)) (hv : x_loc lv i = some (.ref x)) (k : x_X K nL cells slots (pc + 2) lv (.ref x :: st) M) : x_X K nL cells slots pc lv st M := by
  obtain ⟨p, l1, e, R, s, m, args, below, meth, c, Y, Q⟩ := K
  obtain ⟨hx, hb, hml, hown, hlk, hnm, hW, hok, hB, hfz, rfl, rfl, rfl⟩ := C
  intro H locs ls hw hs hl
  exact lv_aload hx hb dd (x_lv_at hl hv) (k H locs ls hw hs hl)
theorem x_istore_n (C : x_Ctx K l Y0 y cc nL d mc ms) {k : Fin 4} {i : Nat} {x : Int32} (dd : decode cc pc = .ok (.istore_n k, 1)) (hi : (k : Nat) = i) (h1 : x_one lv i = true) (hn : i < nL) (k : x_X K nL cells slots (pc + 1) (x_put lv i (.int x)) st M) : x_X K nL cells slots pc lv (.int x :: st) M := by
  obtain ⟨p, l1, e, R, s, m, args, below, meth, c, Y, Q⟩ := K
  obtain ⟨hx, hb, hml, hown, hlk, hnm, hW, hok, hB, hfz, rfl, rfl, rfl⟩ := C
  intro H locs ls hw hs hl
  exact lv_istore_n hx hb dd hi hl hn rfl (fun ls hl => k H locs ls hw hs (x_put_has h1 hl))
theorem x_istore (C : x_Ctx K l Y0 y cc nL d mc ms) {i : Nat} {x : Int32} (dd : decode cc pc = .ok (.istore i, 2)) (h1 : x_one lv i = true) (hn : i < nL) (k : x_X K nL cells slots (pc + 2) (x_put lv i (.int x)) st M) : x_X K nL cells slots pc lv (.int x :: st) M := by
  obtain ⟨p, l1, e, R, s, m, args, below, meth, c, Y, Q⟩ := K
  obtain ⟨hx, hb, hml, hown, hlk, hnm, hW, hok, hB, hfz, rfl, rfl, rfl⟩ := C
  intro H locs ls hw hs hl
  exact lv_istore hx hb dd hl hn rfl (fun ls hl => k H locs ls hw hs (x_put_has h1 hl))
theorem x_astore_n (C : x_Ctx K l Y0 y cc nL d mc ms) {k : Fin 4} {i : Nat} {x : Nat} (dd : decode cc pc = .ok (.astore_n k, 1)) (hi : (k : Nat) = i) (h1 : x_one lv i = true) (hn : i < nL) (k : x_X K nL cells slots (pc + 1) (x_put lv i (.ref x)) st M) : x_X K nL cells slots pc lv (.ref x :: st) M := by
  obtain ⟨p, l1, e, R, s, m, args, below, meth, c, Y, Q⟩ := K
  obtain ⟨hx, hb, hml, hown, hlk, hnm, hW, hok, hB, hfz, rfl, rfl, rfl⟩ := C
  intro H locs ls hw hs hl
  exact lv_astore_n hx hb dd hi hl hn rfl (fun ls hl => k H locs ls hw hs (x_put_has h1 hl))
theorem x_astore (C : x_Ctx K l Y0 y cc nL d mc ms) {i : Nat} {x : Nat} (dd : decode cc pc = .ok (.astore i, 2)) (h1 : x_one lv i = true) (hn : i < nL) (k : x_X K nL cells slots (pc + 2) (x_put lv i (.ref x)) st M) : x_X K nL cells slots pc lv (.ref x :: st) M := by
  obtain ⟨p, l1, e, R, s, m, args, below, meth, c, Y, Q⟩ := K
  obtain ⟨hx, hb, hml, hown, hlk, hnm, hW, hok, hB, hfz, rfl, rfl, rfl⟩ := C
  intro H locs ls hw hs hl
  exact lv_astore hx hb dd hl hn rfl (fun ls hl => k H locs ls hw hs (x_put_has h1 hl))
theorem x_lstore_n (C : x_Ctx K l Y0 y cc nL d mc ms) {k : Fin 4} {i : Nat} {x : Int64} (dd : decode cc pc = .ok (.lstore_n k, 1)) (hi : (k : Nat) = i) (hn : i + 1 < nL) (k : x_X K nL cells slots (pc + 1) (x_put2 lv i (.long x)) st M) : x_X K nL cells slots pc lv (.long x :: st) M := by
  obtain ⟨p, l1, e, R, s, m, args, below, meth, c, Y, Q⟩ := K
  obtain ⟨hx, hb, hml, hown, hlk, hnm, hW, hok, hB, hfz, rfl, rfl, rfl⟩ := C
  intro H locs ls hw hs hl
  exact lv_lstore_n hx hb dd hi hl hn rfl (fun ls hl => k H locs ls hw hs hl)
theorem x_lstore (C : x_Ctx K l Y0 y cc nL d mc ms) {i : Nat} {x : Int64} (dd : decode cc pc = .ok (.lstore i, 2)) (hn : i + 1 < nL) (k : x_X K nL cells slots (pc + 2) (x_put2 lv i (.long x)) st M) : x_X K nL cells slots pc lv (.long x :: st) M := by
  obtain ⟨p, l1, e, R, s, m, args, below, meth, c, Y, Q⟩ := K
  obtain ⟨hx, hb, hml, hown, hlk, hnm, hW, hok, hB, hfz, rfl, rfl, rfl⟩ := C
  intro H locs ls hw hs hl
  exact lv_lstore hx hb dd hl hn rfl (fun ls hl => k H locs ls hw hs hl)
theorem x_iinc (C : x_Ctx K l Y0 y cc nL d mc ms) {i : Nat} {n : Int} {x v : Int32} (dd : decode cc pc = .ok (.iinc i n, 3)) (hk : x_loc lv i = some (.int x)) (hv : Int32.ofInt n = v) (h1 : x_one lv i = true) (hn : i < nL) (k : x_X K nL cells slots (pc + 3) (x_put lv i (.int (x + v))) st M) : x_X K nL cells slots pc lv st M := by
  obtain ⟨p, l1, e, R, s, m, args, below, meth, c, Y, Q⟩ := K
  obtain ⟨hx, hb, hml, hown, hlk, hnm, hW, hok, hB, hfz, rfl, rfl, rfl⟩ := C
  intro H locs ls hw hs hl
  obtain ⟨j, hj⟩ := List.getElem?_of_mem (x_loc_mem hk)
  exact lv_iinc hx hb dd hl hj (by rw [hv]) hn rfl (fun ls hl => k H locs ls hw hs (x_put_has h1 hl))
theorem x_iadd (C : x_Ctx K l Y0 y cc nL d mc ms) {x z : Int32} (dd : decode cc pc = .ok (.iadd, 1))  (k : x_X K nL cells slots (pc + 1) lv (.int (x + z) :: st) M) : x_X K nL cells slots pc lv (.int z :: .int x :: st) M := by
  obtain ⟨p, l1, e, R, s, m, args, below, meth, c, Y, Q⟩ := K
  obtain ⟨hx, hb, hml, hown, hlk, hnm, hW, hok, hB, hfz, rfl, rfl, rfl⟩ := C
  intro H locs ls hw hs hl
  exact lv_iadd hx hb dd (k H locs ls hw hs hl)
theorem x_isub (C : x_Ctx K l Y0 y cc nL d mc ms) {x z : Int32} (dd : decode cc pc = .ok (.isub, 1))  (k : x_X K nL cells slots (pc + 1) lv (.int (x - z) :: st) M) : x_X K nL cells slots pc lv (.int z :: .int x :: st) M := by
  obtain ⟨p, l1, e, R, s, m, args, below, meth, c, Y, Q⟩ := K
  obtain ⟨hx, hb, hml, hown, hlk, hnm, hW, hok, hB, hfz, rfl, rfl, rfl⟩ := C
  intro H locs ls hw hs hl
  exact lv_isub hx hb dd (k H locs ls hw hs hl)
theorem x_imul (C : x_Ctx K l Y0 y cc nL d mc ms) {x z : Int32} (dd : decode cc pc = .ok (.imul, 1))  (k : x_X K nL cells slots (pc + 1) lv (.int (x * z) :: st) M) : x_X K nL cells slots pc lv (.int z :: .int x :: st) M := by
  obtain ⟨p, l1, e, R, s, m, args, below, meth, c, Y, Q⟩ := K
  obtain ⟨hx, hb, hml, hown, hlk, hnm, hW, hok, hB, hfz, rfl, rfl, rfl⟩ := C
  intro H locs ls hw hs hl
  exact lv_imul hx hb dd (k H locs ls hw hs hl)
theorem x_iand (C : x_Ctx K l Y0 y cc nL d mc ms) {x z : Int32} (dd : decode cc pc = .ok (.iand, 1))  (k : x_X K nL cells slots (pc + 1) lv (.int (x &&& z) :: st) M) : x_X K nL cells slots pc lv (.int z :: .int x :: st) M := by
  obtain ⟨p, l1, e, R, s, m, args, below, meth, c, Y, Q⟩ := K
  obtain ⟨hx, hb, hml, hown, hlk, hnm, hW, hok, hB, hfz, rfl, rfl, rfl⟩ := C
  intro H locs ls hw hs hl
  exact lv_iand hx hb dd (k H locs ls hw hs hl)
theorem x_ior (C : x_Ctx K l Y0 y cc nL d mc ms) {x z : Int32} (dd : decode cc pc = .ok (.ior, 1))  (k : x_X K nL cells slots (pc + 1) lv (.int (x ||| z) :: st) M) : x_X K nL cells slots pc lv (.int z :: .int x :: st) M := by
  obtain ⟨p, l1, e, R, s, m, args, below, meth, c, Y, Q⟩ := K
  obtain ⟨hx, hb, hml, hown, hlk, hnm, hW, hok, hB, hfz, rfl, rfl, rfl⟩ := C
  intro H locs ls hw hs hl
  exact lv_ior hx hb dd (k H locs ls hw hs hl)
theorem x_ishr (C : x_Ctx K l Y0 y cc nL d mc ms) {x z : Int32} (dd : decode cc pc = .ok (.ishr, 1))  (k : x_X K nL cells slots (pc + 1) lv (.int (x >>> (z &&& 31)) :: st) M) : x_X K nL cells slots pc lv (.int z :: .int x :: st) M := by
  obtain ⟨p, l1, e, R, s, m, args, below, meth, c, Y, Q⟩ := K
  obtain ⟨hx, hb, hml, hown, hlk, hnm, hW, hok, hB, hfz, rfl, rfl, rfl⟩ := C
  intro H locs ls hw hs hl
  exact lv_ishr hx hb dd (k H locs ls hw hs hl)
theorem x_idiv (C : x_Ctx K l Y0 y cc nL d mc ms) {x z : Int32} (dd : decode cc pc = .ok (.idiv, 1)) (hne : ¬ z = 0) (k : x_X K nL cells slots (pc + 1) lv (.int (x / z) :: st) M) : x_X K nL cells slots pc lv (.int z :: .int x :: st) M := by
  obtain ⟨p, l1, e, R, s, m, args, below, meth, c, Y, Q⟩ := K
  obtain ⟨hx, hb, hml, hown, hlk, hnm, hW, hok, hB, hfz, rfl, rfl, rfl⟩ := C
  intro H locs ls hw hs hl
  exact lv_idiv hx hb dd hne (k H locs ls hw hs hl)
theorem x_irem (C : x_Ctx K l Y0 y cc nL d mc ms) {x z : Int32} (dd : decode cc pc = .ok (.irem, 1)) (hne : ¬ z = 0) (k : x_X K nL cells slots (pc + 1) lv (.int (x - x / z * z) :: st) M) : x_X K nL cells slots pc lv (.int z :: .int x :: st) M := by
  obtain ⟨p, l1, e, R, s, m, args, below, meth, c, Y, Q⟩ := K
  obtain ⟨hx, hb, hml, hown, hlk, hnm, hW, hok, hB, hfz, rfl, rfl, rfl⟩ := C
  intro H locs ls hw hs hl
  exact lv_irem hx hb dd hne (k H locs ls hw hs hl)
theorem x_iushr (C : x_Ctx K l Y0 y cc nL d mc ms) {x z v : Int32} (dd : decode cc pc = .ok (.iushr, 1)) (hv : (x.toUInt32 >>> (z.toUInt32 &&& Int32.toUInt32 31)).toInt32 = v) (k : x_X K nL cells slots (pc + 1) lv (.int v :: st) M) : x_X K nL cells slots pc lv (.int z :: .int x :: st) M := by
  obtain ⟨p, l1, e, R, s, m, args, below, meth, c, Y, Q⟩ := K
  obtain ⟨hx, hb, hml, hown, hlk, hnm, hW, hok, hB, hfz, rfl, rfl, rfl⟩ := C
  intro H locs ls hw hs hl
  exact lv_iushr hx hb dd hv (k H locs ls hw hs hl)
theorem x_ineg (C : x_Ctx K l Y0 y cc nL d mc ms) {x : Int32} (dd : decode cc pc = .ok (.ineg, 1))  (k : x_X K nL cells slots (pc + 1) lv (.int (-x) :: st) M) : x_X K nL cells slots pc lv (.int x :: st) M := by
  obtain ⟨p, l1, e, R, s, m, args, below, meth, c, Y, Q⟩ := K
  obtain ⟨hx, hb, hml, hown, hlk, hnm, hW, hok, hB, hfz, rfl, rfl, rfl⟩ := C
  intro H locs ls hw hs hl
  exact lv_ineg hx hb dd (k H locs ls hw hs hl)
theorem x_ladd (C : x_Ctx K l Y0 y cc nL d mc ms) {x z : Int64} (dd : decode cc pc = .ok (.ladd, 1))  (k : x_X K nL cells slots (pc + 1) lv (.long (x + z) :: st) M) : x_X K nL cells slots pc lv (.long z :: .long x :: st) M := by
  obtain ⟨p, l1, e, R, s, m, args, below, meth, c, Y, Q⟩ := K
  obtain ⟨hx, hb, hml, hown, hlk, hnm, hW, hok, hB, hfz, rfl, rfl, rfl⟩ := C
  intro H locs ls hw hs hl
  exact lv_ladd hx hb dd (k H locs ls hw hs hl)
theorem x_lsub (C : x_Ctx K l Y0 y cc nL d mc ms) {x z : Int64} (dd : decode cc pc = .ok (.lsub, 1))  (k : x_X K nL cells slots (pc + 1) lv (.long (x - z) :: st) M) : x_X K nL cells slots pc lv (.long z :: .long x :: st) M := by
  obtain ⟨p, l1, e, R, s, m, args, below, meth, c, Y, Q⟩ := K
  obtain ⟨hx, hb, hml, hown, hlk, hnm, hW, hok, hB, hfz, rfl, rfl, rfl⟩ := C
  intro H locs ls hw hs hl
  exact lv_lsub hx hb dd (k H locs ls hw hs hl)
theorem x_lmul (C : x_Ctx K l Y0 y cc nL d mc ms) {x z : Int64} (dd : decode cc pc = .ok (.lmul, 1))  (k : x_X K nL cells slots (pc + 1) lv (.long (x * z) :: st) M) : x_X K nL cells slots pc lv (.long z :: .long x :: st) M := by
  obtain ⟨p, l1, e, R, s, m, args, below, meth, c, Y, Q⟩ := K
  obtain ⟨hx, hb, hml, hown, hlk, hnm, hW, hok, hB, hfz, rfl, rfl, rfl⟩ := C
  intro H locs ls hw hs hl
  exact lv_lmul hx hb dd (k H locs ls hw hs hl)
theorem x_i2l (C : x_Ctx K l Y0 y cc nL d mc ms) {x : Int32} (dd : decode cc pc = .ok (.i2l, 1))  (k : x_X K nL cells slots (pc + 1) lv (.long x.toInt64 :: st) M) : x_X K nL cells slots pc lv (.int x :: st) M := by
  obtain ⟨p, l1, e, R, s, m, args, below, meth, c, Y, Q⟩ := K
  obtain ⟨hx, hb, hml, hown, hlk, hnm, hW, hok, hB, hfz, rfl, rfl, rfl⟩ := C
  intro H locs ls hw hs hl
  exact lv_i2l hx hb dd rfl (k H locs ls hw hs hl)
theorem x_l2i (C : x_Ctx K l Y0 y cc nL d mc ms) {x : Int64} (dd : decode cc pc = .ok (.l2i, 1))  (k : x_X K nL cells slots (pc + 1) lv (.int x.toInt32 :: st) M) : x_X K nL cells slots pc lv (.long x :: st) M := by
  obtain ⟨p, l1, e, R, s, m, args, below, meth, c, Y, Q⟩ := K
  obtain ⟨hx, hb, hml, hown, hlk, hnm, hW, hok, hB, hfz, rfl, rfl, rfl⟩ := C
  intro H locs ls hw hs hl
  exact lv_l2i hx hb dd rfl (k H locs ls hw hs hl)
theorem x_i2c (C : x_Ctx K l Y0 y cc nL d mc ms) {x : Int32} (dd : decode cc pc = .ok (.i2c, 1))  (k : x_X K nL cells slots (pc + 1) lv (.int (x.toUInt32 % 65536).toInt32 :: st) M) : x_X K nL cells slots pc lv (.int x :: st) M := by
  obtain ⟨p, l1, e, R, s, m, args, below, meth, c, Y, Q⟩ := K
  obtain ⟨hx, hb, hml, hown, hlk, hnm, hW, hok, hB, hfz, rfl, rfl, rfl⟩ := C
  intro H locs ls hw hs hl
  exact lv_i2c hx hb dd rfl (k H locs ls hw hs hl)
theorem x_lcmp (C : x_Ctx K l Y0 y cc nL d mc ms) {x z : Int64} (dd : decode cc pc = .ok (.lcmp, 1))  (k : x_X K nL cells slots (pc + 1) lv (.int (lg_cmp x z) :: st) M) : x_X K nL cells slots pc lv (.long z :: .long x :: st) M := by
  obtain ⟨p, l1, e, R, s, m, args, below, meth, c, Y, Q⟩ := K
  obtain ⟨hx, hb, hml, hown, hlk, hnm, hW, hok, hB, hfz, rfl, rfl, rfl⟩ := C
  intro H locs ls hw hs hl
  exact W.lcmp hx hb dd (k H locs ls hw hs hl)
theorem x_dup (C : x_Ctx K l Y0 y cc nL d mc ms) {u : Value} (dd : decode cc pc = .ok (.dup, 1)) (hu : u.category = 1) (k : x_X K nL cells slots (pc + 1) lv (u :: u :: st) M) : x_X K nL cells slots pc lv (u :: st) M := by
  obtain ⟨p, l1, e, R, s, m, args, below, meth, c, Y, Q⟩ := K
  obtain ⟨hx, hb, hml, hown, hlk, hnm, hW, hok, hB, hfz, rfl, rfl, rfl⟩ := C
  intro H locs ls hw hs hl
  exact lv_dup hx hb dd hu (k H locs ls hw hs hl)
theorem x_pop (C : x_Ctx K l Y0 y cc nL d mc ms) {u : Value} (dd : decode cc pc = .ok (.pop, 1)) (hu : u.category = 1) (k : x_X K nL cells slots (pc + 1) lv st M) : x_X K nL cells slots pc lv (u :: st) M := by
  obtain ⟨p, l1, e, R, s, m, args, below, meth, c, Y, Q⟩ := K
  obtain ⟨hx, hb, hml, hown, hlk, hnm, hW, hok, hB, hfz, rfl, rfl, rfl⟩ := C
  intro H locs ls hw hs hl
  exact lv_pop hx hb dd hu (k H locs ls hw hs hl)
theorem x_dup2 (C : x_Ctx K l Y0 y cc nL d mc ms) {u v : Value} (dd : decode cc pc = .ok (.dup2, 1)) (hu : u.category = 1) (hv : v.category = 1) (k : x_X K nL cells slots (pc + 1) lv (u :: v :: u :: v :: st) M) : x_X K nL cells slots pc lv (u :: v :: st) M := by
  obtain ⟨p, l1, e, R, s, m, args, below, meth, c, Y, Q⟩ := K
  obtain ⟨hx, hb, hml, hown, hlk, hnm, hW, hok, hB, hfz, rfl, rfl, rfl⟩ := C
  intro H locs ls hw hs hl
  exact lv_dup2_11 hx hb dd hu hv (k H locs ls hw hs hl)
theorem x_if_eq (C : x_Ctx K l Y0 y cc nL d mc ms) {x : Int32} {off : Int} {tgt : Nat} (dd : decode cc pc = .ok (.ifCond .eq off, 3)) (ht : (pc : Int) + off = (tgt : Int)) (kt : x = 0 → x_X K nL cells slots tgt lv st M) (kf : ¬ x = 0 → x_X K nL cells slots (pc + 3) lv st M) : x_X K nL cells slots pc lv (.int x :: st) M := by
  obtain ⟨p, l1, e, R, s, m, args, below, meth, c, Y, Q⟩ := K
  obtain ⟨hx, hb, hml, hown, hlk, hnm, hW, hok, hB, hfz, rfl, rfl, rfl⟩ := C
  intro H locs ls hw hs hl
  exact lv_if_eq hx hb dd ht (fun h => kt h H locs ls hw hs hl) (fun h => kf h H locs ls hw hs hl)
theorem x_icmp_eq (C : x_Ctx K l Y0 y cc nL d mc ms) {x z : Int32} {off : Int} {tgt : Nat} (dd : decode cc pc = .ok (.if_icmp .eq off, 3)) (ht : (pc : Int) + off = (tgt : Int)) (kt : x = z → x_X K nL cells slots tgt lv st M) (kf : ¬ x = z → x_X K nL cells slots (pc + 3) lv st M) : x_X K nL cells slots pc lv (.int z :: .int x :: st) M := by
  obtain ⟨p, l1, e, R, s, m, args, below, meth, c, Y, Q⟩ := K
  obtain ⟨hx, hb, hml, hown, hlk, hnm, hW, hok, hB, hfz, rfl, rfl, rfl⟩ := C
  intro H locs ls hw hs hl
  exact lv_icmp_eq hx hb dd ht (fun h => kt h H locs ls hw hs hl) (fun h => kf h H locs ls hw hs hl)
theorem x_if_ne (C : x_Ctx K l Y0 y cc nL d mc ms) {x : Int32} {off : Int} {tgt : Nat} (dd : decode cc pc = .ok (.ifCond .ne off, 3)) (ht : (pc : Int) + off = (tgt : Int)) (kt : ¬ x = 0 → x_X K nL cells slots tgt lv st M) (kf : x = 0 → x_X K nL cells slots (pc + 3) lv st M) : x_X K nL cells slots pc lv (.int x :: st) M := by
  obtain ⟨p, l1, e, R, s, m, args, below, meth, c, Y, Q⟩ := K
  obtain ⟨hx, hb, hml, hown, hlk, hnm, hW, hok, hB, hfz, rfl, rfl, rfl⟩ := C
  intro H locs ls hw hs hl
  exact lv_if_ne hx hb dd ht (fun h => kt h H locs ls hw hs hl) (fun h => kf h H locs ls hw hs hl)
theorem x_icmp_ne (C : x_Ctx K l Y0 y cc nL d mc ms) {x z : Int32} {off : Int} {tgt : Nat} (dd : decode cc pc = .ok (.if_icmp .ne off, 3)) (ht : (pc : Int) + off = (tgt : Int)) (kt : ¬ x = z → x_X K nL cells slots tgt lv st M) (kf : x = z → x_X K nL cells slots (pc + 3) lv st M) : x_X K nL cells slots pc lv (.int z :: .int x :: st) M := by
  obtain ⟨p, l1, e, R, s, m, args, below, meth, c, Y, Q⟩ := K
  obtain ⟨hx, hb, hml, hown, hlk, hnm, hW, hok, hB, hfz, rfl, rfl, rfl⟩ := C
  intro H locs ls hw hs hl
  exact lv_icmp_ne hx hb dd ht (fun h => kt h H locs ls hw hs hl) (fun h => kf h H locs ls hw hs hl)
theorem x_if_lt (C : x_Ctx K l Y0 y cc nL d mc ms) {x : Int32} {off : Int} {tgt : Nat} (dd : decode cc pc = .ok (.ifCond .lt off, 3)) (ht : (pc : Int) + off = (tgt : Int)) (kt : x < 0 → x_X K nL cells slots tgt lv st M) (kf : ¬ x < 0 → x_X K nL cells slots (pc + 3) lv st M) : x_X K nL cells slots pc lv (.int x :: st) M := by
  obtain ⟨p, l1, e, R, s, m, args, below, meth, c, Y, Q⟩ := K
  obtain ⟨hx, hb, hml, hown, hlk, hnm, hW, hok, hB, hfz, rfl, rfl, rfl⟩ := C
  intro H locs ls hw hs hl
  exact lv_if_lt hx hb dd ht (fun h => kt h H locs ls hw hs hl) (fun h => kf h H locs ls hw hs hl)
theorem x_icmp_lt (C : x_Ctx K l Y0 y cc nL d mc ms) {x z : Int32} {off : Int} {tgt : Nat} (dd : decode cc pc = .ok (.if_icmp .lt off, 3)) (ht : (pc : Int) + off = (tgt : Int)) (kt : x < z → x_X K nL cells slots tgt lv st M) (kf : ¬ x < z → x_X K nL cells slots (pc + 3) lv st M) : x_X K nL cells slots pc lv (.int z :: .int x :: st) M := by
  obtain ⟨p, l1, e, R, s, m, args, below, meth, c, Y, Q⟩ := K
  obtain ⟨hx, hb, hml, hown, hlk, hnm, hW, hok, hB, hfz, rfl, rfl, rfl⟩ := C
  intro H locs ls hw hs hl
  exact lv_icmp_lt hx hb dd ht (fun h => kt h H locs ls hw hs hl) (fun h => kf h H locs ls hw hs hl)
theorem x_if_ge (C : x_Ctx K l Y0 y cc nL d mc ms) {x : Int32} {off : Int} {tgt : Nat} (dd : decode cc pc = .ok (.ifCond .ge off, 3)) (ht : (pc : Int) + off = (tgt : Int)) (kt : 0 ≤ x → x_X K nL cells slots tgt lv st M) (kf : ¬ 0 ≤ x → x_X K nL cells slots (pc + 3) lv st M) : x_X K nL cells slots pc lv (.int x :: st) M := by
  obtain ⟨p, l1, e, R, s, m, args, below, meth, c, Y, Q⟩ := K
  obtain ⟨hx, hb, hml, hown, hlk, hnm, hW, hok, hB, hfz, rfl, rfl, rfl⟩ := C
  intro H locs ls hw hs hl
  exact lv_if_ge hx hb dd ht (fun h => kt h H locs ls hw hs hl) (fun h => kf h H locs ls hw hs hl)
theorem x_icmp_ge (C : x_Ctx K l Y0 y cc nL d mc ms) {x z : Int32} {off : Int} {tgt : Nat} (dd : decode cc pc = .ok (.if_icmp .ge off, 3)) (ht : (pc : Int) + off = (tgt : Int)) (kt : z ≤ x → x_X K nL cells slots tgt lv st M) (kf : ¬ z ≤ x → x_X K nL cells slots (pc + 3) lv st M) : x_X K nL cells slots pc lv (.int z :: .int x :: st) M := by
  obtain ⟨p, l1, e, R, s, m, args, below, meth, c, Y, Q⟩ := K
  obtain ⟨hx, hb, hml, hown, hlk, hnm, hW, hok, hB, hfz, rfl, rfl, rfl⟩ := C
  intro H locs ls hw hs hl
  exact lv_icmp_ge hx hb dd ht (fun h => kt h H locs ls hw hs hl) (fun h => kf h H locs ls hw hs hl)
theorem x_if_gt (C : x_Ctx K l Y0 y cc nL d mc ms) {x : Int32} {off : Int} {tgt : Nat} (dd : decode cc pc = .ok (.ifCond .gt off, 3)) (ht : (pc : Int) + off = (tgt : Int)) (kt : 0 < x → x_X K nL cells slots tgt lv st M) (kf : ¬ 0 < x → x_X K nL cells slots (pc + 3) lv st M) : x_X K nL cells slots pc lv (.int x :: st) M := by
  obtain ⟨p, l1, e, R, s, m, args, below, meth, c, Y, Q⟩ := K
  obtain ⟨hx, hb, hml, hown, hlk, hnm, hW, hok, hB, hfz, rfl, rfl, rfl⟩ := C
  intro H locs ls hw hs hl
  exact lv_if_gt hx hb dd ht (fun h => kt h H locs ls hw hs hl) (fun h => kf h H locs ls hw hs hl)
theorem x_icmp_gt (C : x_Ctx K l Y0 y cc nL d mc ms) {x z : Int32} {off : Int} {tgt : Nat} (dd : decode cc pc = .ok (.if_icmp .gt off, 3)) (ht : (pc : Int) + off = (tgt : Int)) (kt : z < x → x_X K nL cells slots tgt lv st M) (kf : ¬ z < x → x_X K nL cells slots (pc + 3) lv st M) : x_X K nL cells slots pc lv (.int z :: .int x :: st) M := by
  obtain ⟨p, l1, e, R, s, m, args, below, meth, c, Y, Q⟩ := K
  obtain ⟨hx, hb, hml, hown, hlk, hnm, hW, hok, hB, hfz, rfl, rfl, rfl⟩ := C
  intro H locs ls hw hs hl
  exact lv_icmp_gt hx hb dd ht (fun h => kt h H locs ls hw hs hl) (fun h => kf h H locs ls hw hs hl)
theorem x_if_le (C : x_Ctx K l Y0 y cc nL d mc ms) {x : Int32} {off : Int} {tgt : Nat} (dd : decode cc pc = .ok (.ifCond .le off, 3)) (ht : (pc : Int) + off = (tgt : Int)) (kt : x ≤ 0 → x_X K nL cells slots tgt lv st M) (kf : ¬ x ≤ 0 → x_X K nL cells slots (pc + 3) lv st M) : x_X K nL cells slots pc lv (.int x :: st) M := by
  obtain ⟨p, l1, e, R, s, m, args, below, meth, c, Y, Q⟩ := K
  obtain ⟨hx, hb, hml, hown, hlk, hnm, hW, hok, hB, hfz, rfl, rfl, rfl⟩ := C
  intro H locs ls hw hs hl
  exact lv_if_le hx hb dd ht (fun h => kt h H locs ls hw hs hl) (fun h => kf h H locs ls hw hs hl)
theorem x_icmp_le (C : x_Ctx K l Y0 y cc nL d mc ms) {x z : Int32} {off : Int} {tgt : Nat} (dd : decode cc pc = .ok (.if_icmp .le off, 3)) (ht : (pc : Int) + off = (tgt : Int)) (kt : x ≤ z → x_X K nL cells slots tgt lv st M) (kf : ¬ x ≤ z → x_X K nL cells slots (pc + 3) lv st M) : x_X K nL cells slots pc lv (.int z :: .int x :: st) M := by
  obtain ⟨p, l1, e, R, s, m, args, below, meth, c, Y, Q⟩ := K
  obtain ⟨hx, hb, hml, hown, hlk, hnm, hW, hok, hB, hfz, rfl, rfl, rfl⟩ := C
  intro H locs ls hw hs hl
  exact lv_icmp_le hx hb dd ht (fun h => kt h H locs ls hw hs hl) (fun h => kf h H locs ls hw hs hl)
theorem x_goto (C : x_Ctx K l Y0 y cc nL d mc ms) {off : Int} {tgt : Nat} (dd : decode cc pc = .ok (.goto off, 3)) (ht : (pc : Int) + off = (tgt : Int)) (k : x_X K nL cells slots tgt lv st M) : x_X K nL cells slots pc lv st M := by
  obtain ⟨p, l1, e, R, s, m, args, below, meth, c, Y, Q⟩ := K
  obtain ⟨hx, hb, hml, hown, hlk, hnm, hW, hok, hB, hfz, rfl, rfl, rfl⟩ := C
  intro H locs ls hw hs hl
  exact lv_goto hx hb dd ht (k H locs ls hw hs hl)
theorem x_tableIn (C : x_Ctx K l Y0 y cc nL d mc ms) {dflt lo hi : Int} {offs : Array Int} {len : Nat} {x : Int32} {off : Int} {tgt : Nat} (dd : decode cc pc = .ok (.tableswitch dflt lo hi offs, len)) (h1 : ¬ x.toInt < lo) (h2 : ¬ hi < x.toInt) (ho : offs[(x.toInt - lo).toNat]? = some off) (ht : (pc : Int) + off = (tgt : Int)) (k : x_X K nL cells slots tgt lv st M) : x_X K nL cells slots pc lv (.int x :: st) M := by
  obtain ⟨p, l1, e, R, s, m, args, below, meth, c, Y, Q⟩ := K
  obtain ⟨hx, hb, hml, hown, hlk, hnm, hW, hok, hB, hfz, rfl, rfl, rfl⟩ := C
  intro H locs ls hw hs hl
  exact lv_tableIn hx hb dd h1 h2 ho ht (k H locs ls hw hs hl)
theorem x_tableOut (C : x_Ctx K l Y0 y cc nL d mc ms) {dflt lo hi : Int} {offs : Array Int} {len : Nat} {x : Int32} {tgt : Nat} (dd : decode cc pc = .ok (.tableswitch dflt lo hi offs, len)) (h : x.toInt < lo ∨ hi < x.toInt) (ht : (pc : Int) + dflt = (tgt : Int)) (k : x_X K nL cells slots tgt lv st M) : x_X K nL cells slots pc lv (.int x :: st) M := by
  obtain ⟨p, l1, e, R, s, m, args, below, meth, c, Y, Q⟩ := K
  obtain ⟨hx, hb, hml, hown, hlk, hnm, hW, hok, hB, hfz, rfl, rfl, rfl⟩ := C
  intro H locs ls hw hs hl
  exact lv_tableOut hx hb dd h ht (k H locs ls hw hs hl)
theorem x_lookup (C : x_Ctx K l Y0 y cc nL d mc ms) {dflt : Int} {ps : Array (Int × Int)} {len : Nat} {x : Int32} {off : Int} {tgt : Nat} (dd : decode cc pc = .ok (.lookupswitch dflt ps, len)) (hp : (ps.toList.zip (ps.toList.drop 1)).all (fun (a, next) => a.1 < next.1) = true) (ho : Op.lookupswitch.offset ps.toList dflt x.toInt = off) (ht : (pc : Int) + off = (tgt : Int)) (k : x_X K nL cells slots tgt lv st M) : x_X K nL cells slots pc lv (.int x :: st) M := by
  obtain ⟨p, l1, e, R, s, m, args, below, meth, c, Y, Q⟩ := K
  obtain ⟨hx, hb, hml, hown, hlk, hnm, hW, hok, hB, hfz, rfl, rfl, rfl⟩ := C
  intro H locs ls hw hs hl
  exact lv_lookup hx hb dd hp ho ht (k H locs ls hw hs hl)
theorem x_iaload (C : x_Ctx K l Y0 y cc nL d mc ms) {a n : Nat} {f : Nat → Int32} {i : Int32} (dd : decode cc pc = .ok (.iaload, 1)) (ha : M.1 a = some (.inl (0, n, .inl f))) (hin : vp_in i n) (k : x_X K nL cells slots (pc + 1) lv (.int (f i.toNatClampNeg) :: st) M) : x_X K nL cells slots pc lv (.int i :: .ref a :: st) M := by
  obtain ⟨p, l1, e, R, s, m, args, below, meth, c, Y, Q⟩ := K
  have hKs := x_va_K C
  have hw0 := fun {w : Cond} (h : w ∈ lw_tbl) (hg : x_gd w) => x_word C h hg
  obtain ⟨hx, hb, hml, hown, hlk, hnm, hW, hok, hB, hfz, rfl, rfl, rfl⟩ := C
  intro H locs ls hw hs hl
  exact va_iald (D := Y.2.2.1.1) (cl := vwCl) (tys := x_ts Y.2.2.1) (ws := [(a, .inl (Y.2.2.1.2 0, n, .inl f))]) hx hb hKs (fun q c hq => by cases q with | zero => cases hq; exact (hw.2 a _ ha).2 | succ q => simp at hq) 0 0 rfl rfl hin dd (k H locs ls hw hs hl)
theorem x_laload (C : x_Ctx K l Y0 y cc nL d mc ms) {a n : Nat} {f : Nat → Int64} {i : Int32} (dd : decode cc pc = .ok (.laload, 1)) (ha : M.1 a = some (.inl (1, n, .inr (.inl f)))) (hin : vp_in i n) (k : x_X K nL cells slots (pc + 1) lv (.long (f i.toNatClampNeg) :: st) M) : x_X K nL cells slots pc lv (.int i :: .ref a :: st) M := by
  obtain ⟨p, l1, e, R, s, m, args, below, meth, c, Y, Q⟩ := K
  have hKs := x_va_K C
  have hw0 := fun {w : Cond} (h : w ∈ lw_tbl) (hg : x_gd w) => x_word C h hg
  obtain ⟨hx, hb, hml, hown, hlk, hnm, hW, hok, hB, hfz, rfl, rfl, rfl⟩ := C
  intro H locs ls hw hs hl
  exact va_lald (D := Y.2.2.1.1) (cl := vwCl) (tys := x_ts Y.2.2.1) (ws := [(a, .inl (Y.2.2.1.2 1, n, .inr (.inl f)))]) hx hb hKs (fun q c hq => by cases q with | zero => cases hq; exact (hw.2 a _ ha).2 | succ q => simp at hq) 0 1 rfl rfl hin dd (k H locs ls hw hs hl)
theorem x_baload (C : x_Ctx K l Y0 y cc nL d mc ms) {a n : Nat} {f : Nat → Int32} {i : Int32} (dd : decode cc pc = .ok (.baload, 1)) (ha : M.1 a = some (.inl (2, n, .inl f))) (hin : vp_in i n) (k : x_X K nL cells slots (pc + 1) lv (.int (f i.toNatClampNeg) :: st) M) : x_X K nL cells slots pc lv (.int i :: .ref a :: st) M := by
  obtain ⟨p, l1, e, R, s, m, args, below, meth, c, Y, Q⟩ := K
  have hKs := x_va_K C
  have hw0 := fun {w : Cond} (h : w ∈ lw_tbl) (hg : x_gd w) => x_word C h hg
  obtain ⟨hx, hb, hml, hown, hlk, hnm, hW, hok, hB, hfz, rfl, rfl, rfl⟩ := C
  intro H locs ls hw hs hl
  exact va_zald (D := Y.2.2.1.1) (cl := vwCl) (tys := x_ts Y.2.2.1) (ws := [(a, .inl (Y.2.2.1.2 2, n, .inl f))]) hx hb hKs (fun q c hq => by cases q with | zero => cases hq; exact (hw.2 a _ ha).2 | succ q => simp at hq) 0 2 rfl rfl hin dd (k H locs ls hw hs hl)
theorem x_alen (C : x_Ctx K l Y0 y cc nL d mc ms) {a t : Nat} {x : vp_A} (dd : decode cc pc = .ok (.arraylength, 1)) (ha : M.1 a = some (.inl (t, x))) (ht : t < 3) (k : x_X K nL cells slots (pc + 1) lv (.int (Int32.ofNat x.1) :: st) M) : x_X K nL cells slots pc lv (.ref a :: st) M := by
  obtain ⟨p, l1, e, R, s, m, args, below, meth, c, Y, Q⟩ := K
  have hKs := x_va_K C
  have hw0 := fun {w : Cond} (h : w ∈ lw_tbl) (hg : x_gd w) => x_word C h hg
  obtain ⟨hx, hb, hml, hown, hlk, hnm, hW, hok, hB, hfz, rfl, rfl, rfl⟩ := C
  intro H locs ls hw hs hl
  have hP : va_P Y.2.2.1.1 vwCl [(a, .inl (Y.2.2.1.2 t, x))] H := fun q c hq => by cases q with | zero => cases hq; exact (hw.2 a _ ha).2 | succ q => simp at hq
  rcases (show t = 0 ∨ t = 1 ∨ t = 2 by omega) with rfl | rfl | rfl
  · exact va_alen (tys := x_ts Y.2.2.1) hx hb hKs hP 0 0 rfl rfl rfl dd (k H locs ls hw hs hl)
  · exact va_alen (tys := x_ts Y.2.2.1) hx hb hKs hP 0 1 rfl rfl rfl dd (k H locs ls hw hs hl)
  · exact va_alen (tys := x_ts Y.2.2.1) hx hb hKs hP 0 2 rfl rfl rfl dd (k H locs ls hw hs hl)
theorem x_iastore (C : x_Ctx K l Y0 y cc nL d mc ms) {a n : Nat} {f : Nat → Int32} {i : Int32} {x : Int32} (dd : decode cc pc = .ok (.iastore, 1)) (ha : M.1 a = some (.inl (0, n, .inl (f)))) (hin : vp_in i n)  (k : x_X K nL cells slots (pc + 1) lv st (x_st M a (.inl (0, n, .inl (upd f i.toNatClampNeg x))))) : x_X K nL cells slots pc lv (.int x :: .int i :: .ref a :: st) M := by
  obtain ⟨p, l1, e, R, s, m, args, below, meth, c, Y, Q⟩ := K
  have hKs := x_va_K C
  have hw0 := fun {w : Cond} (h : w ∈ lw_tbl) (hg : x_gd w) => x_word C h hg
  obtain ⟨hx, hb, hml, hown, hlk, hnm, hW, hok, hB, hfz, rfl, rfl, rfl⟩ := C
  intro H locs ls hw hs hl
  have hat := (hw.2 a _ ha).2
  have hAa := (hw.2 a _ ha).1
  refine W.iast hx hb hat ((hKs.2 0 _ rfl).1 n (fun j => .int (f j))) (fun q => by cases q) (by show ¬ (i < 0 ∨ (arrV _ _ _).slots.size ≤ _); rw [arrV_size]; exact hin) rfl rfl dd fun H1 e z oq => ?_
  refine k H1 _ ls (x_W_st hw ha ?_ z oq) (hs.put z oq hAa) hl
  show H1[a]? = some (vp_cell _ _)
  rw [e]
  show some (Cell.setSlot (arrV _ _ (fun j => Value.int (f j))) _ _) = some (arrV _ _ (fun j => Value.int (upd f i.toNatClampNeg x j)))
  rw [arrV_store]
  congr 2
  funext q
  by_cases hq : q = i.toNatClampNeg
  · subst hq
    simp [updV, upd]
  · simp [updV, upd, hq]
theorem x_bastore (C : x_Ctx K l Y0 y cc nL d mc ms) {a n : Nat} {f : Nat → Int32} {i : Int32} {x : Int32} (dd : decode cc pc = .ok (.bastore, 1)) (ha : M.1 a = some (.inl (2, n, .inl (f)))) (hin : vp_in i n)  (k : x_X K nL cells slots (pc + 1) lv st (x_st M a (.inl (2, n, .inl (upd f i.toNatClampNeg (vp_nar .boolean x)))))) : x_X K nL cells slots pc lv (.int x :: .int i :: .ref a :: st) M := by
  obtain ⟨p, l1, e, R, s, m, args, below, meth, c, Y, Q⟩ := K
  have hKs := x_va_K C
  have hw0 := fun {w : Cond} (h : w ∈ lw_tbl) (hg : x_gd w) => x_word C h hg
  obtain ⟨hx, hb, hml, hown, hlk, hnm, hW, hok, hB, hfz, rfl, rfl, rfl⟩ := C
  intro H locs ls hw hs hl
  have hat := (hw.2 a _ ha).2
  have hAa := (hw.2 a _ ha).1
  refine W.zast hx hb hat ((hKs.2 2 _ rfl).1 n (fun j => .int (f j))) (fun q => by cases q) (by show ¬ (i < 0 ∨ (arrV _ _ _).slots.size ≤ _); rw [arrV_size]; exact hin) rfl rfl dd fun H1 e z oq => ?_
  refine k H1 _ ls (x_W_st hw ha ?_ z oq) (hs.put z oq hAa) hl
  show H1[a]? = some (vp_cell _ _)
  rw [e]
  show some (Cell.setSlot (arrV _ _ (fun j => Value.int (f j))) _ _) = some (arrV _ _ (fun j => Value.int (upd f i.toNatClampNeg (vp_nar .boolean x) j)))
  rw [arrV_store]
  congr 2
  funext q
  by_cases hq : q = i.toNatClampNeg
  · subst hq
    simp [updV, upd, vp_nar]
    try rfl
  · simp [updV, upd, hq]
theorem x_lastore (C : x_Ctx K l Y0 y cc nL d mc ms) {a n : Nat} {f : Nat → Int64} {i : Int32} {x : Int64} (dd : decode cc pc = .ok (.lastore, 1)) (ha : M.1 a = some (.inl (1, n, .inr (.inl (f))))) (hin : vp_in i n)  (k : x_X K nL cells slots (pc + 1) lv st (x_st M a (.inl (1, n, .inr (.inl (vp_updL f i.toNatClampNeg x)))))) : x_X K nL cells slots pc lv (.long x :: .int i :: .ref a :: st) M := by
  obtain ⟨p, l1, e, R, s, m, args, below, meth, c, Y, Q⟩ := K
  have hKs := x_va_K C
  have hw0 := fun {w : Cond} (h : w ∈ lw_tbl) (hg : x_gd w) => x_word C h hg
  obtain ⟨hx, hb, hml, hown, hlk, hnm, hW, hok, hB, hfz, rfl, rfl, rfl⟩ := C
  intro H locs ls hw hs hl
  have hat := (hw.2 a _ ha).2
  have hAa := (hw.2 a _ ha).1
  refine W.last hx hb hat ((hKs.2 1 _ rfl).1 n (fun j => .long (f j))) (fun q => by cases q) (by show ¬ (i < 0 ∨ (arrV _ _ _).slots.size ≤ _); rw [arrV_size]; exact hin) rfl rfl dd fun H1 e z oq => ?_
  refine k H1 _ ls (x_W_st hw ha ?_ z oq) (hs.put z oq hAa) hl
  show H1[a]? = some (vp_cell _ _)
  rw [e]
  show some (Cell.setSlot (arrV _ _ (fun j => Value.long (f j))) _ _) = some (arrV _ _ (fun j => Value.long (vp_updL f i.toNatClampNeg x j)))
  rw [arrV_store]
  congr 2
  funext q
  by_cases hq : q = i.toNatClampNeg
  · subst hq
    simp [updV, vp_updL]
  · simp [updV, vp_updL, hq]
/-- a field's row: by which number which class's code names it, which object's which slot it is -/
def x_FL (own : String) (idx ci kf : Nat) (fin : Bool) (ft : FieldType) : Prop := ∃ (Cn : String) (T : u_T) (N : Nat) (ty : Nat → FieldType), vwCl[ci]? = some (Cn, T, N) ∧ (∀ w ∈ u_ws Cn T N, w ∈ lw_tbl) ∧ (∀ k, k < N → parseFieldDescriptor (T k).2.2.1 = some (ty k)) ∧ (∀ a, a < N → ∀ b, b < N → a ≠ b → (T a).2.1 ≠ (T b).2.1) ∧ kf < N ∧ ((Cond.fieldLink own idx Cn (T kf).2.1 (T kf).2.2.1 ∈ lw_tbl) ∨ ∃ host, Cond.fieldLinkNest own idx Cn (T kf).2.1 (T kf).2.2.1 host ∈ lw_tbl) ∧ (T kf).1 = Cn ∧ (T kf).2.2.2 = fin ∧ parseFieldDescriptor (T kf).2.2.1 = some ft
theorem x_getfield (C : x_Ctx K l Y0 y cc nL d mc ms) {idx ci kf a : Nat} {fin : Bool} {ft : FieldType} {fs : List Value} {v : Value} (dd : decode cc pc = .ok (.getfield idx, 3)) (hF : x_FL y.cls idx ci kf fin ft) (ha : M.1 a = some (.inr (ci, fs))) (hv : fs[kf]? = some v) (k : x_X K nL cells slots (pc + 3) lv (v :: st) M) : x_X K nL cells slots pc lv (.ref a :: st) M := by
  obtain ⟨Cn, T, N, ty, hc, hin, hty, hnm9, hk, hlk9, hdcl, hfin, hft⟩ := hF
  obtain ⟨p, l1, e, R, s, m, args, below, meth, c, Y, Q⟩ := K
  have hKs := x_va_K C
  have hw0 := fun {w : Cond} (h : w ∈ lw_tbl) (hg : x_gd w) => x_word C h hg
  obtain ⟨hx, hb, hml, hown, hlk, hnm, hW, hok, hB, hfz, rfl, rfl, rfl⟩ := C
  intro H locs ls hw hs hl
  have hwt : ∀ w ∈ u_ws Cn T N, w.before args s = true := fun w h => hw0 (hin w h) (by
    obtain ⟨j, -, rfl⟩ := List.mem_map.mp h
    left
    unfold u_lay
    split <;> rfl)
  have hP : va_P Y.2.2.1.1 vwCl [(a, .inr (ci, fs))] H := fun q c hq => by cases q with | zero => cases hq; exact (hw.2 a _ ha).2 | succ q => simp at hq
  rcases hlk9 with h9 | ⟨host, h9⟩
  · exact va_get hx hb hwt (fun _ h => h) hown hKs hP 0 rfl hc kf hk (hw0 h9 (Or.inl rfl)) (fun x h => by rw [hdcl] at h; exact h) hv dd (k H locs ls hw hs hl)
  · exact va_getN hx hb hwt (fun _ h => h) hown hKs hP 0 rfl hc kf hk (hw0 h9 (Or.inr (Or.inr (Or.inl ⟨_, _, _, _, _, _, rfl⟩)))) (fun x h => by rw [hdcl] at h; exact h) hv dd (k H locs ls hw hs hl)
theorem x_putfield (C : x_Ctx K l Y0 y cc nL d mc ms) {idx ci kf a : Nat} {ft : FieldType} {fs : List Value} {v : Value} (dd : decode cc pc = .ok (.putfield idx, 3)) (hF : x_FL y.cls idx ci kf false ft) (ha : M.1 a = some (.inr (ci, fs))) (hn : narrow ft v = v) (hfit : fits ft v = true) (hl9 : kf < fs.length) (k : x_X K nL cells slots (pc + 3) lv st (x_st M a (.inr (ci, fs.set kf v)))) : x_X K nL cells slots pc lv (v :: .ref a :: st) M := by
  obtain ⟨Cn, T, N, ty, hc, hin, hty, hnm9, hk, hlk9, hdcl, hfin, hft⟩ := hF
  obtain ⟨p, l1, e, R, s, m, args, below, meth, c, Y, Q⟩ := K
  have hKs := x_va_K C
  have hw0 := fun {w : Cond} (h : w ∈ lw_tbl) (hg : x_gd w) => x_word C h hg
  obtain ⟨hx, hb, hml, hown, hlk, hnm, hW, hok, hB, hfz, rfl, rfl, rfl⟩ := C
  intro H locs ls hw hs hl
  have hwt : ∀ w ∈ u_ws Cn T N, w.before args s = true := fun w h => hw0 (hin w h) (by
    obtain ⟨j, -, rfl⟩ := List.mem_map.mp h
    left
    unfold u_lay
    split <;> rfl)
  have hAa := (hw.2 a _ ha).1
  obtain ⟨r, h1, cell, q1, q2, q3, q4⟩ := (hw.2 a _ ha).2
  have hr : r = (Cn, T, N) := Option.some.inj (h1.symm.trans hc)
  subst hr
  have hap := va_apart (own := y.cls) hwt (fun _ h => h) ty hty hnm9 hKs hc
  obtain ⟨hS, hfc, kC, hkC, hkind⟩ := hKs.1 ci _ hc
  obtain ⟨cf, kf9, fi, f, hi, hsl⟩ := hS kf hk
  have hlay := hwt _ (u_in_lay hk)
  unfold u_lay at hlay
  have hst := (u_facts hfc hkC (u_lays hwt (fun _ h => h) hk) hi).1
  have hi2 : s.fieldFound? Cn (T kf).2.1 (T kf).2.2.1 = some (cf, kf9, fi, f) := by rw [← hi, hdcl]
  have hgo : ∀ (H' : Heap), H'[a]? = some (cell.setSlot f.slot v) → H'.size = H.size → (∀ q : Nat, q ≠ a → H'[q]? = H[q]?) → W p l1 e (x_rm d mc ms) s m args below meth c H' (locs ++ [⟨a, f.slot⟩]) cells slots Q (F0 m (pc + 3) ls st) := by
    intro H' e1 e2 e3
    rw [hsl] at e1
    exact k H' _ ls (x_W_st hw ha ⟨_, hc, t_OB.to (V := updV (vp_V fs) kf v) ⟨_, e1, q2, q3, t_set q4 hap hk v⟩ (fun j _ => vp_updV_set hl9 v j)⟩ e2 e3) (hs.put e2 e3 hAa) hl
  rw [if_neg (by rw [hfin]; decide)] at hlay
  have h6 := u_store hfc hkC hkind hlay hi hft hn hfit
  rcases hlk9 with h9 | ⟨host, h9⟩
  · exact W.putK hx hb (f := f) ⟨hown, hw0 h9 (Or.inl rfl), ⟨_, _, _, hi2⟩, hst⟩ (by rw [q2]; exact h6) q1 q3 (by rw [hsl]; exact k2_hasslot (q4 kf hk)) rfl rfl dd hgo
  · exact va_WputK hx hb (f := f) hown (hw0 h9 (Or.inr (Or.inr (Or.inl ⟨_, _, _, _, _, _, rfl⟩)))) hi2 hst (by rw [q2]; exact h6) q1 q3 (by rw [hsl]; exact k2_hasslot (q4 kf hk)) rfl rfl dd hgo
def x_FF (own : String) (idx ci kf : Nat) (ft : FieldType) : Prop := ∃ (Cn : String) (T : u_T) (N : Nat) (ty : Nat → FieldType), vwCl[ci]? = some (Cn, T, N) ∧ (∀ w ∈ u_ws Cn T N, w ∈ lw_tbl) ∧ (∀ k, k < N → parseFieldDescriptor (T k).2.2.1 = some (ty k)) ∧ (∀ a, a < N → ∀ b, b < N → a ≠ b → (T a).2.1 ≠ (T b).2.1) ∧ kf < N ∧ (Cond.fieldLink own idx Cn (T kf).2.1 (T kf).2.2.1 ∈ lw_tbl) ∧ (T kf).1 = Cn ∧ (T kf).2.2.2 = true ∧ parseFieldDescriptor (T kf).2.2.1 = some ft
theorem x_putfinal (C : x_Ctx K l Y0 y cc nL d mc ms) {idx ci kf a : Nat} {ft : FieldType} {fs : List Value} {v : Value} (dd : decode cc pc = .ok (.putfield idx, 3)) (hF : x_FF y.cls idx ci kf ft) (hy1 : y.name = "<init>") (hy2 : (vwCl[ci]?).map (fun q => q.1) = some y.cls) (ha : M.1 a = some (.inr (ci, fs))) (hn : narrow ft v = v) (hfit : fits ft v = true) (hl9 : kf < fs.length) (k : x_X K nL cells slots (pc + 3) lv st (x_st M a (.inr (ci, fs.set kf v)))) : x_X K nL cells slots pc lv (v :: .ref a :: st) M := by
  obtain ⟨Cn, T, N, ty, hc, hin, hty, hnm9, hk, hlk9, hdcl, hfin, hft⟩ := hF
  obtain ⟨p, l1, e, R, s, m, args, below, meth, c, Y, Q⟩ := K
  have hKs := x_va_K C
  have hw0 := fun {w : Cond} (h : w ∈ lw_tbl) (hg : x_gd w) => x_word C h hg
  obtain ⟨hx, hb, hml, hown, hlk, hnm, hW, hok, hB, hfz, rfl, rfl, rfl⟩ := C
  intro H locs ls hw hs hl
  have hwt : ∀ w ∈ u_ws Cn T N, w.before args s = true := fun w h => hw0 (hin w h) (by
    obtain ⟨j, -, rfl⟩ := List.mem_map.mp h
    left
    unfold u_lay
    split <;> rfl)
  have hAa := (hw.2 a _ ha).1
  obtain ⟨r, h1, cell, q1, q2, q3, q4⟩ := (hw.2 a _ ha).2
  have hr : r = (Cn, T, N) := Option.some.inj (h1.symm.trans hc)
  subst hr
  have hap := va_apart (own := y.cls) hwt (fun _ h => h) ty hty hnm9 hKs hc
  obtain ⟨hS, hfc, kC, hkC, hkind⟩ := hKs.1 ci _ hc
  obtain ⟨cf, kf9, fi, f, hi, hsl⟩ := hS kf hk
  have hlay := hwt _ (u_in_lay hk)
  unfold u_lay at hlay
  have hst := (u_facts hfc hkC (u_lays hwt (fun _ h => h) hk) hi).1
  have hi2 : s.fieldFound? Cn (T kf).2.1 (T kf).2.2.1 = some (cf, kf9, fi, f) := by rw [← hi, hdcl]
  have hgo : ∀ (H' : Heap), H'[a]? = some (cell.setSlot f.slot v) → H'.size = H.size → (∀ q : Nat, q ≠ a → H'[q]? = H[q]?) → W p l1 e (x_rm d mc ms) s m args below meth c H' (locs ++ [⟨a, f.slot⟩]) cells slots Q (F0 m (pc + 3) ls st) := by
    intro H' e1 e2 e3
    rw [hsl] at e1
    exact k H' _ ls (x_W_st hw ha ⟨_, hc, t_OB.to (V := updV (vp_V fs) kf v) ⟨_, e1, q2, q3, t_set q4 hap hk v⟩ (fun j _ => vp_updV_set hl9 v j)⟩ e2 e3) (hs.put e2 e3 hAa) hl
  rw [if_pos hfin] at hlay
  have hCn : Cn = y.cls := by rw [hc] at hy2; exact Option.some.inj hy2
  have hcf : m.cls = cf := by
    obtain ⟨_, _, c', _, _, _, -, -, hf', -, -, -, hown2, -⟩ := Cond.laysFinal_spec hlay
    have e1 : c' = cf := by have := hi.symm.trans hf'; simp at this; exact this.1.symm
    rw [hdcl, hCn] at hown2
    rw [← e1]; exact Option.some.inj (hown.symm.trans hown2)
  have h6 := u_fits hfc hkC hkind (Or.inr hlay) hi hft hn hfit
  exact W.putFinK hx hb hown (hw0 hlk9 (Or.inl rfl)) hi2 hst hcf (hnm.trans hy1) (by rw [q2]; exact h6) q1 q3 (by rw [hsl]; exact k2_hasslot (q4 kf hk)) rfl rfl dd hgo
theorem x_objInit (C : x_Ctx K l Y0 y cc nL d mc ms) {idx a : Nat} (dd : decode cc pc = .ok (.invokespecial idx, 3)) (h1 : Cond.methodLink y.cls idx objectInit ∈ lw_tbl) (h2 : Cond.instanceMethod objectInit ∈ lw_tbl) (h3 : Cond.code objectInit ⟨#[0xb1]⟩ 1 none ∈ lw_tbl) (hd : 1 ≤ d) (hr : (st.map fun v => v.category).sum ≤ 8) (k : x_X K nL cells slots (pc + 3) lv st M) : x_X K nL cells slots pc lv (.ref a :: st) M := by
  obtain ⟨p, l1, e, R, s, m, args, below, meth, c, Y, Q⟩ := K
  have hKs := x_va_K C
  have hw0 := fun {w : Cond} (h : w ∈ lw_tbl) (hg : x_gd w) => x_word C h hg
  obtain ⟨hx, hb, hml, hown, hlk, hnm, hW, hok, hB, hfz, rfl, rfl, rfl⟩ := C
  intro H locs ls hw hs hl
  refine W.objInit hx hb hown (hw0 h1 (Or.inl rfl)) (hw0 h2 (Or.inl rfl)) (hw0 h3 (Or.inl rfl)) rfl (by rw [hml]; exact hl.1) rfl dd hd ?_ (k H locs ls hw hs hl)
  have := lv_room (m := m) (pc := pc) (ls := ls) (rest := .ref a :: st) hr
  show _ + 12 ≤ 40 * d
  omega
/-- a class's row: by which number which class's code makes it, its fields at birth -/
def x_NL (own : String) (idx ci N : Nat) (fs : List Value) : Prop := ∃ (Cn : String) (T : u_T) (ty : Nat → FieldType), vwCl[ci]? = some (Cn, T, N) ∧ (∀ w ∈ u_ws Cn T N, w ∈ lw_tbl) ∧ (∀ k, k < N → parseFieldDescriptor (T k).2.2.1 = some (ty k)) ∧ Cond.classLink own idx Cn ∈ lw_tbl ∧ Cond.instantiable Cn N ∈ lw_tbl ∧ Cond.initialized Cn ∈ lw_tbl ∧ ∀ j, j < N → defaultValue (ty j) = vp_V fs j
theorem x_new (C : x_Ctx K l Y0 y cc nL d mc ms) {idx ci N : Nat} {fs : List Value} (dd : decode cc pc = .ok (.new idx, 3)) (hF : x_NL y.cls idx ci N fs) (hc1 : cells + 1 ≤ mc) (hc2 : slots + N ≤ ms) (k : x_X K nL (cells + 1) (slots + N) (pc + 3) lv (.ref M.2 :: st) (x_nw M (.inr (ci, fs)))) : x_X K nL cells slots pc lv st M := by
  obtain ⟨Cn, T, ty, hc, hin, hty, hcl, hins, hini, hfs⟩ := hF
  obtain ⟨p, l1, e, R, s, m, args, below, meth, c, Y, Q⟩ := K
  have hKs := x_va_K C
  have hw0 := fun {w : Cond} (h : w ∈ lw_tbl) (hg : x_gd w) => x_word C h hg
  obtain ⟨hx, hb, hml, hown, hlk, hnm, hW, hok, hB, hfz, rfl, rfl, rfl⟩ := C
  intro H locs ls hw hs hl
  have hwt : ∀ w ∈ u_ws Cn T N, w.before args s = true := fun w h => hw0 (hin w h) (by
    obtain ⟨j, -, rfl⟩ := List.mem_map.mp h
    left
    unfold u_lay
    split <;> rfl)
  have hKn := hKs.1 ci _ hc
  refine W.newcK hx hb hown (hw0 hcl (Or.inl rfl)) (hw0 hins (Or.inl rfl)) (hw0 hini (Or.inl rfl)) rfl dd hc1 hc2 hKn.2.1 hw.1 fun H1 kC hkC e1 z1 o1 => ?_
  have hBH : Y.2.2.2 ≤ H.size := Nat.le_trans hB hs.1
  rw [← hw.1] at z1 o1
  exact k H1 locs ls (x_W_nw hw hBH ⟨_, hc, (u_born ty hwt (fun _ h => h) hKn hkC e1 hty).to hfs⟩ z1 o1) ⟨Nat.le_trans hs.1 (by omega), fun x h1 h2 => (o1 x (Nat.lt_of_lt_of_le h1 hs.1)).trans (hs.2.1 x h1 h2), hs.2.2⟩ hl
theorem x_newarrI (C : x_Ctx K l Y0 y cc nL d mc ms) {n : Int32} {N : Nat} (dd : decode cc pc = .ok (.newarray .int, 2)) (ha : Cond.arrayClass .int ∈ lw_tbl) (hn : ¬ n < 0) (hN : n.toNatClampNeg = N) (hbytes : N ≤ 67108864) (hc1 : cells + 1 ≤ mc) (hc2 : slots + N ≤ ms) (k : x_X K nL (cells + 1) (slots + N) (pc + 2) lv (.ref M.2 :: st) (x_nw M (.inl (0, N, .inl (fun _ => 0))))) : x_X K nL cells slots pc lv (.int n :: st) M := by
  obtain ⟨p, l1, e, R, s, m, args, below, meth, c, Y, Q⟩ := K
  have hKs := x_va_K C
  have hw0 := fun {w : Cond} (h : w ∈ lw_tbl) (hg : x_gd w) => x_word C h hg
  obtain ⟨hx, hb, hml, hown, hlk, hnm, hW, hok, hB, hfz, rfl, rfl, rfl⟩ := C
  intro H locs ls hw hs hl
  refine va_newaK (atype := .int) hx hb (hw0 ha (Or.inr (Or.inl ⟨_, rfl⟩))) rfl dd rfl hn hN (Nat.le_trans (Nat.mul_le_mul hbytes (show componentBytes .int ≤ 8 by decide)) (by decide)) hc1 hc2 hw.1 fun H1 cA e1 z1 o1 hAr hNm => ?_
  have hBH : Y.2.2.2 ≤ H.size := Nat.le_trans hB hs.1
  rw [← hw.1] at z1 o1
  have hcA : cA = Y.2.2.1.2 0 := by
    have h9 := (hKs.2 0 _ rfl).2
    have h8 : s.vm.findClass ("[" ++ (FieldType.int).toString) = some (Y.2.2.1.2 0) := h9
    exact Option.some.inj (hNm.symm.trans h8)
  subst hcA
  exact k H1 locs ls (x_W_nw hw hBH e1 z1 o1) ⟨Nat.le_trans hs.1 (by omega), fun x h1 h2 => (o1 x (Nat.lt_of_lt_of_le h1 hs.1)).trans (hs.2.1 x h1 h2), hs.2.2⟩ hl
theorem x_newarrJ (C : x_Ctx K l Y0 y cc nL d mc ms) {n : Int32} {N : Nat} (dd : decode cc pc = .ok (.newarray .long, 2)) (ha : Cond.arrayClass .long ∈ lw_tbl) (hn : ¬ n < 0) (hN : n.toNatClampNeg = N) (hbytes : N ≤ 67108864) (hc1 : cells + 1 ≤ mc) (hc2 : slots + N ≤ ms) (k : x_X K nL (cells + 1) (slots + N) (pc + 2) lv (.ref M.2 :: st) (x_nw M (.inl (1, N, .inr (.inl (fun _ => 0)))))) : x_X K nL cells slots pc lv (.int n :: st) M := by
  obtain ⟨p, l1, e, R, s, m, args, below, meth, c, Y, Q⟩ := K
  have hKs := x_va_K C
  have hw0 := fun {w : Cond} (h : w ∈ lw_tbl) (hg : x_gd w) => x_word C h hg
  obtain ⟨hx, hb, hml, hown, hlk, hnm, hW, hok, hB, hfz, rfl, rfl, rfl⟩ := C
  intro H locs ls hw hs hl
  refine va_newaK (atype := .long) hx hb (hw0 ha (Or.inr (Or.inl ⟨_, rfl⟩))) rfl dd rfl hn hN (Nat.le_trans (Nat.mul_le_mul hbytes (show componentBytes .long ≤ 8 by decide)) (by decide)) hc1 hc2 hw.1 fun H1 cA e1 z1 o1 hAr hNm => ?_
  have hBH : Y.2.2.2 ≤ H.size := Nat.le_trans hB hs.1
  rw [← hw.1] at z1 o1
  have hcA : cA = Y.2.2.1.2 1 := by
    have h9 := (hKs.2 1 _ rfl).2
    have h8 : s.vm.findClass ("[" ++ (FieldType.long).toString) = some (Y.2.2.1.2 1) := h9
    exact Option.some.inj (hNm.symm.trans h8)
  subst hcA
  exact k H1 locs ls (x_W_nw hw hBH e1 z1 o1) ⟨Nat.le_trans hs.1 (by omega), fun x h1 h2 => (o1 x (Nat.lt_of_lt_of_le h1 hs.1)).trans (hs.2.1 x h1 h2), hs.2.2⟩ hl
theorem x_newarrZ (C : x_Ctx K l Y0 y cc nL d mc ms) {n : Int32} {N : Nat} (dd : decode cc pc = .ok (.newarray .boolean, 2)) (ha : Cond.arrayClass .boolean ∈ lw_tbl) (hn : ¬ n < 0) (hN : n.toNatClampNeg = N) (hbytes : N ≤ 67108864) (hc1 : cells + 1 ≤ mc) (hc2 : slots + N ≤ ms) (k : x_X K nL (cells + 1) (slots + N) (pc + 2) lv (.ref M.2 :: st) (x_nw M (.inl (2, N, .inl (fun _ => 0))))) : x_X K nL cells slots pc lv (.int n :: st) M := by
  obtain ⟨p, l1, e, R, s, m, args, below, meth, c, Y, Q⟩ := K
  have hKs := x_va_K C
  have hw0 := fun {w : Cond} (h : w ∈ lw_tbl) (hg : x_gd w) => x_word C h hg
  obtain ⟨hx, hb, hml, hown, hlk, hnm, hW, hok, hB, hfz, rfl, rfl, rfl⟩ := C
  intro H locs ls hw hs hl
  refine va_newaK (atype := .boolean) hx hb (hw0 ha (Or.inr (Or.inl ⟨_, rfl⟩))) rfl dd rfl hn hN (Nat.le_trans (Nat.mul_le_mul hbytes (show componentBytes .boolean ≤ 8 by decide)) (by decide)) hc1 hc2 hw.1 fun H1 cA e1 z1 o1 hAr hNm => ?_
  have hBH : Y.2.2.2 ≤ H.size := Nat.le_trans hB hs.1
  rw [← hw.1] at z1 o1
  have hcA : cA = Y.2.2.1.2 2 := by
    have h9 := (hKs.2 2 _ rfl).2
    have h8 : s.vm.findClass ("[" ++ (FieldType.boolean).toString) = some (Y.2.2.1.2 2) := h9
    exact Option.some.inj (hNm.symm.trans h8)
  subst hcA
  exact k H1 locs ls (x_W_nw hw hBH e1 z1 o1) ⟨Nat.le_trans hs.1 (by omega), fun x h1 h2 => (o1 x (Nat.lt_of_lt_of_le h1 hs.1)).trans (hs.2.1 x h1 h2), hs.2.2⟩ hl
theorem x_widen {k n : Nat} (h1 : cells ≤ k) (h2 : slots ≤ n) (kk : x_X K nL k n pc lv st M) : x_X K nL cells slots pc lv st M := by
  obtain ⟨p, l1, e, R, s, m, args, below, meth, c, Y, Q⟩ := K
  intro H locs ls hw hs hl
  exact W.widen h1 h2 (kk H locs ls hw hs hl)
theorem x_iret {Qc : Option Value → x_M → Prop} {v : Int32} (C : x_Ctx K l Y0 y cc nL d mc ms) (E : x_Ret K (some .int) cells slots Qc) (dd : decode cc pc = .ok (.ireturn, 1)) (hq : Qc (some (.int v)) M) : x_X K nL cells slots pc lv [.int v] M := by
  obtain ⟨p, l1, e, R, s, m, args, below, meth, c, Y, Q⟩ := K
  obtain ⟨hx, hb, hml, hown, hlk, hnm, hW, hok, hB, hfz, rfl, rfl, rfl⟩ := C
  obtain ⟨hr, rfl⟩ := E
  intro H locs ls hw hs hl
  exact W.iret hx hb hr (fun t ht hW => ⟨_, M, rfl, hq, by rw [ht]; exact hw, by rw [ht]; exact hs.1, fun q h => by rw [ht]; exact hs.2.1 q (Nat.lt_of_lt_of_le h hB) (fun h2 => Nat.not_le.mpr h h2)⟩) hs.2.2 dd
theorem x_lret {Qc : Option Value → x_M → Prop} {v : Int64} (C : x_Ctx K l Y0 y cc nL d mc ms) (E : x_Ret K (some .long) cells slots Qc) (dd : decode cc pc = .ok (.lreturn, 1)) (hq : Qc (some (.long v)) M) : x_X K nL cells slots pc lv [.long v] M := by
  obtain ⟨p, l1, e, R, s, m, args, below, meth, c, Y, Q⟩ := K
  obtain ⟨hx, hb, hml, hown, hlk, hnm, hW, hok, hB, hfz, rfl, rfl, rfl⟩ := C
  obtain ⟨hr, rfl⟩ := E
  intro H locs ls hw hs hl
  exact W.lret hx hb hr (fun t ht hW => ⟨_, M, rfl, hq, by rw [ht]; exact hw, by rw [ht]; exact hs.1, fun q h => by rw [ht]; exact hs.2.1 q (Nat.lt_of_lt_of_le h hB) (fun h2 => Nat.not_le.mpr h h2)⟩) hs.2.2 dd
theorem x_dret {Qc : Option Value → x_M → Prop} {v : UInt64} (C : x_Ctx K l Y0 y cc nL d mc ms) (E : x_Ret K (some .double) cells slots Qc) (dd : decode cc pc = .ok (.dreturn, 1)) (hq : Qc (some (.double v)) M) : x_X K nL cells slots pc lv [.double v] M := by
  obtain ⟨p, l1, e, R, s, m, args, below, meth, c, Y, Q⟩ := K
  obtain ⟨hx, hb, hml, hown, hlk, hnm, hW, hok, hB, hfz, rfl, rfl, rfl⟩ := C
  obtain ⟨hr, rfl⟩ := E
  intro H locs ls hw hs hl
  exact W.dret hx hb hr (fun t ht hW => ⟨_, M, rfl, hq, by rw [ht]; exact hw, by rw [ht]; exact hs.1, fun q h => by rw [ht]; exact hs.2.1 q (Nat.lt_of_lt_of_le h hB) (fun h2 => Nat.not_le.mpr h h2)⟩) hs.2.2 dd
theorem x_zret {Qc : Option Value → x_M → Prop} {v : Int32} (C : x_Ctx K l Y0 y cc nL d mc ms) (E : x_Ret K (some .boolean) cells slots Qc) (dd : decode cc pc = .ok (.ireturn, 1)) (hv : narrow .boolean (.int v) = .int v) (hq : Qc (some (.int v)) M) : x_X K nL cells slots pc lv [.int v] M := by
  obtain ⟨p, l1, e, R, s, m, args, below, meth, c, Y, Q⟩ := K
  obtain ⟨hx, hb, hml, hown, hlk, hnm, hW, hok, hB, hfz, rfl, rfl, rfl⟩ := C
  obtain ⟨hr, rfl⟩ := E
  intro H locs ls hw hs hl
  exact W.zret hx hb hr hv (fun t ht hW => ⟨_, M, rfl, hq, by rw [ht]; exact hw, by rw [ht]; exact hs.1, fun q h => by rw [ht]; exact hs.2.1 q (Nat.lt_of_lt_of_le h hB) (fun h2 => Nat.not_le.mpr h h2)⟩) hs.2.2 dd
theorem x_vret {Qc : Option Value → x_M → Prop} (C : x_Ctx K l Y0 y cc nL d mc ms) (E : x_Ret K none cells slots Qc) (dd : decode cc pc = .ok (.return_, 1)) (hq : Qc none M) : x_X K nL cells slots pc lv [] M := by
  obtain ⟨p, l1, e, R, s, m, args, below, meth, c, Y, Q⟩ := K
  obtain ⟨hx, hb, hml, hown, hlk, hnm, hW, hok, hB, hfz, rfl, rfl, rfl⟩ := C
  obtain ⟨hr, rfl⟩ := E
  intro H locs ls hw hs hl
  exact W.vret hx hb hr (fun t ht hW => ⟨_, M, rfl, hq, by rw [ht]; exact hw, by rw [ht]; exact hs.1, fun q h => by rw [ht]; exact hs.2.1 q (Nat.lt_of_lt_of_le h hB) (fun h2 => Nat.not_le.mpr h h2)⟩) hs.2.2 dd
theorem x_aret {Qc : Option Value → x_M → Prop} {v : Nat} {n : String} (C : x_Ctx K l Y0 y cc nL d mc ms) (E : x_Ret K (some (.object n)) cells slots Qc) (dd : decode cc pc = .ok (.areturn, 1)) (hq : Qc (some (.ref v)) M) : x_X K nL cells slots pc lv [.ref v] M := by
  obtain ⟨p, l1, e, R, s, m, args, below, meth, c, Y, Q⟩ := K
  obtain ⟨hx, hb, hml, hown, hlk, hnm, hW, hok, hB, hfz, rfl, rfl, rfl⟩ := C
  obtain ⟨hr, rfl⟩ := E
  intro H locs ls hw hs hl
  exact W.aret hx hb hr (Or.inl ⟨_, rfl⟩) (Or.inr ⟨_, rfl⟩) (fun t ht hW => ⟨_, M, rfl, hq, by rw [ht]; exact hw, by rw [ht]; exact hs.1, fun q h => by rw [ht]; exact hs.2.1 q (Nat.lt_of_lt_of_le h hB) (fun h2 => Nat.not_le.mpr h h2)⟩) hs.2.2 dd
/-- what a call needs of the tables, but the kind of call -/
def x_cl (own : String) (idx : Nat) (z : MethodName) (bytes : ByteArray) (maxL n : Nat) (ret : Option FieldType) : Prop := (Cond.methodLink own idx z ∈ lw_tbl ∨ ∃ host, Cond.methodLinkNest own idx z host ∈ lw_tbl) ∧ Cond.code z bytes maxL ret ∈ lw_tbl ∧ Cond.initialized z.cls ∈ lw_tbl ∧ (z.cls ≠ "java/lang/invoke/MethodHandle" ∧ z.cls ≠ "java/lang/invoke/VarHandle") ∧ (parseMethodDescriptor z.desc).map (fun d => d.parameters.length) = some n ∧ maxL ≤ 21
def x_LV (own : String) (idx : Nat) (z : MethodName) (bytes : ByteArray) (maxL n : Nat) (ret : Option FieldType) : Prop := x_cl own idx z bytes maxL n ret ∧ Cond.instanceMethod z ∈ lw_tbl ∧ Cond.selects z.cls z z ∈ lw_tbl
def x_LS (own : String) (idx : Nat) (z : MethodName) (bytes : ByteArray) (maxL n : Nat) (ret : Option FieldType) : Prop := x_cl own idx z bytes maxL n ret ∧ Cond.static z ∈ lw_tbl
def x_LI (own : String) (idx : Nat) (z : MethodName) (bytes : ByteArray) (maxL n : Nat) : Prop := x_cl own idx z bytes maxL n none ∧ z.name = "<init>" ∧ Cond.instanceMethod z ∈ lw_tbl
theorem x_blind (Y : x_Y) (As : List Value) (M : x_M) : FrameBlind (va_Pc As (x_Pre Y M)) := fun a U g mk q => by
  obtain ⟨q0, q1⟩ := q
  exact ⟨q0, q1⟩
theorem x_callV (C : x_Ctx K l Y0 y cc nL d mc ms) {idx maxL n dc mc1 ms1 : Nat} {z : MethodName} {bytes : ByteArray} {ret : Option FieldType} {As : List Value} {Qc : Option Value → x_M → Prop} {a ci : Nat} {fs : List Value} {rest : List Value} (dd : decode cc pc = .ok (.invokevirtual idx, 3)) (hL : x_LV y.cls idx z bytes maxL n ret) (hM : x_C l Y0 z bytes maxL ret dc mc1 ms1 (.ref a :: As) M Qc) (ha : M.1 a = some (.inr (ci, fs))) (hci : (vwCl[ci]?).map (fun q => q.1) = some z.cls) (hn : As.length = n) (hst : st = As.reverse ++ .ref a :: rest) (hd9 : dc + 1 ≤ d) (hf : cells + mc1 ≤ mc ∧ slots + ms1 ≤ ms) (hr9 : (rest.map fun v => v.category).sum ≤ 8) (kk : ∀ (v : Option Value) (M1 : x_M), Qc v M1 → x_X K nL (cells + mc1) (slots + ms1) (pc + 3) lv (v.toList ++ rest) M1) : x_X K nL cells slots pc lv st M := by
  obtain ⟨⟨hlk9, hcode, hini, hne, hpar, hmL⟩, hkind9⟩ := hL
  have hvc : (vwCl[ci]?).map (fun q => q.1) = some z.cls := hci
  obtain ⟨p, l1, e, R, s, m, args, below, meth, c, Y, Q⟩ := K
  have hKs := x_va_K C
  have hw0 := fun {w : Cond} (h : w ∈ lw_tbl) (hg : x_gd w) => x_word C h hg
  obtain ⟨hx, hb, hml, hown, hlk, hnm, hW, hok, hB, hfz, rfl, rfl, rfl⟩ := C
  intro H locs ls hw hs hl
  subst hst
  have hrec : ∃ cellB : Cell, H[a]? = some cellB ∧ cellB.vm.isStatics = false ∧ s.vm.findClass z.cls = some cellB.cls := by
    obtain ⟨r, h1, cell, g1, g2, g3, -⟩ := (hw.2 a _ ha).2
    rw [h1] at hvc
    have hzc : r.1 = z.cls := Option.some.inj hvc
    exact ⟨cell, g1, by rw [g3]; rfl, by rw [g2, ← hzc]; exact (hKs.1 ci r h1).2.1⟩
  have hrun : va_Run p l1 e (x_rm d mc ms) s m args below meth c H locs cells slots mc1 ms1 (F0 m pc ls (As.reverse ++ .ref a :: rest)) rest (x_Post Y Qc (Value.ref a :: As).toArray) (x_fr Y) := by
    rcases hlk9 with h9 | ⟨host, h9⟩
    · exact va_runV (Ts := []) ⟨hx, hb, hml, hown, fun _ h => nomatch h⟩ hM ⟨⟨rfl, rfl, hd9, by show 8 + (maxL + 11) + 40 * dc ≤ 40 * d; omega, fun w hw9 a' U hU => by cases List.mem_singleton.mp hw9; exact word_at hU (Or.inl rfl) (hw0 hcode (Or.inl rfl)), List.mem_singleton_self _, hw0 hcode (Or.inl rfl), hw0 hini (Or.inl rfl), hne, fun sig h => by rw [h] at hpar; exact (Option.some.inj hpar).symm, hw0 h9 (Or.inl rfl)⟩, hw0 hkind9.1 (Or.inl rfl), hw0 hkind9.2 (Or.inl rfl)⟩ ⟨x_blind _ _ _, hrec, fun U hU hWU => ⟨rfl, State.WarmedH.trans hW hWU, fun q h => by rw [hU, hs.2.1 q (Nat.lt_of_lt_of_le h hB) (fun h2 => Nat.not_le.mpr h h2)]; exact hfz q h, by rw [hU]; exact hw, by rw [hU]; exact Nat.le_trans hB hs.1⟩⟩ rfl hn hl.1 rfl (lv_room hr9) dd hf
    · exact va_runVN (Ts := []) ⟨hx, hb, hml, hown, fun _ h => nomatch h⟩ hM ⟨⟨⟨rfl, rfl, hd9, by show 8 + (maxL + 11) + 40 * dc ≤ 40 * d; omega, fun w hw9 a' U hU => by cases List.mem_singleton.mp hw9; exact word_at hU (Or.inl rfl) (hw0 hcode (Or.inl rfl)), List.mem_singleton_self _⟩, hw0 hcode (Or.inl rfl), hw0 hini (Or.inl rfl), hne, fun sig h => by rw [h] at hpar; exact (Option.some.inj hpar).symm, hw0 h9 (Or.inr (Or.inr (Or.inr ⟨_, _, _, _, rfl⟩)))⟩, hw0 hkind9.1 (Or.inl rfl), hw0 hkind9.2 (Or.inl rfl)⟩ ⟨x_blind _ _ _, hrec, fun U hU hWU => ⟨rfl, State.WarmedH.trans hW hWU, fun q h => by rw [hU, hs.2.1 q (Nat.lt_of_lt_of_le h hB) (fun h2 => Nat.not_le.mpr h h2)]; exact hfz q h, by rw [hU]; exact hw, by rw [hU]; exact Nat.le_trans hB hs.1⟩⟩ rfl hn hl.1 rfl (lv_room hr9) dd hf
  intro T hT X
  obtain ⟨v, st₀, t, T', L, h0, X', hL', e1, e2, ⟨v', M', ho, hq, hw', hz, hk⟩, stp⟩ := hrun T hT X
  cases ho
  rw [h0] at hz hk
  obtain ⟨t2, a1, b1⟩ := kk v M' hq T'.heap (locs ++ L) ls (by rw [e1]; exact hw') ⟨Nat.le_trans hs.1 (by rw [e1]; exact hz), fun q h1 h2 => by rw [e1, hk q (Nat.not_le.mp h2)]; exact hs.2.1 q h1 h2, fun q hq => by
      rcases List.mem_append.mp hq with h | h
      · exact hs.2.2 q h
      · exact hL' q h⟩ hl T' rfl X'
  exact ⟨t2, stp t2 a1, b1⟩
theorem x_callS (C : x_Ctx K l Y0 y cc nL d mc ms) {idx maxL n dc mc1 ms1 : Nat} {z : MethodName} {bytes : ByteArray} {ret : Option FieldType} {As : List Value} {Qc : Option Value → x_M → Prop} {rest : List Value} (dd : decode cc pc = .ok (.invokestatic idx, 3)) (hL : x_LS y.cls idx z bytes maxL n ret) (hM : x_C l Y0 z bytes maxL ret dc mc1 ms1 As M Qc) (hn : As.length = n) (hst : st = As.reverse ++ rest) (hd9 : dc + 1 ≤ d) (hf : cells + mc1 ≤ mc ∧ slots + ms1 ≤ ms) (hr9 : (rest.map fun v => v.category).sum ≤ 8) (kk : ∀ (v : Option Value) (M1 : x_M), Qc v M1 → x_X K nL (cells + mc1) (slots + ms1) (pc + 3) lv (v.toList ++ rest) M1) : x_X K nL cells slots pc lv st M := by
  obtain ⟨⟨hlk9, hcode, hini, hne, hpar, hmL⟩, hkind9⟩ := hL
  obtain ⟨p, l1, e, R, s, m, args, below, meth, c, Y, Q⟩ := K
  have hKs := x_va_K C
  have hw0 := fun {w : Cond} (h : w ∈ lw_tbl) (hg : x_gd w) => x_word C h hg
  obtain ⟨hx, hb, hml, hown, hlk, hnm, hW, hok, hB, hfz, rfl, rfl, rfl⟩ := C
  intro H locs ls hw hs hl
  subst hst
  have hrun : va_Run p l1 e (x_rm d mc ms) s m args below meth c H locs cells slots mc1 ms1 (F0 m pc ls (As.reverse ++ rest)) rest (x_Post Y Qc As.toArray) (x_fr Y) := by
    rcases hlk9 with h9 | ⟨host, h9⟩
    · exact va_runS (Ts := []) ⟨hx, hb, hml, hown, fun _ h => nomatch h⟩ hM ⟨⟨rfl, rfl, hd9, by show 8 + (maxL + 11) + 40 * dc ≤ 40 * d; omega, fun w hw9 a' U hU => by cases List.mem_singleton.mp hw9; exact word_at hU (Or.inl rfl) (hw0 hcode (Or.inl rfl)), List.mem_singleton_self _, hw0 hcode (Or.inl rfl), hw0 hini (Or.inl rfl), hne, fun sig h => by rw [h] at hpar; exact (Option.some.inj hpar).symm, hw0 h9 (Or.inl rfl)⟩, hw0 hkind9 (Or.inl rfl)⟩ ⟨x_blind _ _ _, fun U hU hWU => ⟨rfl, State.WarmedH.trans hW hWU, fun q h => by rw [hU, hs.2.1 q (Nat.lt_of_lt_of_le h hB) (fun h2 => Nat.not_le.mpr h h2)]; exact hfz q h, by rw [hU]; exact hw, by rw [hU]; exact Nat.le_trans hB hs.1⟩⟩ rfl hn hl.1 rfl (lv_room hr9) dd hf
    · exact va_runSN (Ts := []) ⟨hx, hb, hml, hown, fun _ h => nomatch h⟩ hM ⟨⟨⟨rfl, rfl, hd9, by show 8 + (maxL + 11) + 40 * dc ≤ 40 * d; omega, fun w hw9 a' U hU => by cases List.mem_singleton.mp hw9; exact word_at hU (Or.inl rfl) (hw0 hcode (Or.inl rfl)), List.mem_singleton_self _⟩, hw0 hcode (Or.inl rfl), hw0 hini (Or.inl rfl), hne, fun sig h => by rw [h] at hpar; exact (Option.some.inj hpar).symm, hw0 h9 (Or.inr (Or.inr (Or.inr ⟨_, _, _, _, rfl⟩)))⟩, hw0 hkind9 (Or.inl rfl), trivial⟩ ⟨x_blind _ _ _, fun U hU hWU => ⟨rfl, State.WarmedH.trans hW hWU, fun q h => by rw [hU, hs.2.1 q (Nat.lt_of_lt_of_le h hB) (fun h2 => Nat.not_le.mpr h h2)]; exact hfz q h, by rw [hU]; exact hw, by rw [hU]; exact Nat.le_trans hB hs.1⟩⟩ rfl hn hl.1 rfl (lv_room hr9) dd hf
  intro T hT X
  obtain ⟨v, st₀, t, T', L, h0, X', hL', e1, e2, ⟨v', M', ho, hq, hw', hz, hk⟩, stp⟩ := hrun T hT X
  cases ho
  rw [h0] at hz hk
  obtain ⟨t2, a1, b1⟩ := kk v M' hq T'.heap (locs ++ L) ls (by rw [e1]; exact hw') ⟨Nat.le_trans hs.1 (by rw [e1]; exact hz), fun q h1 h2 => by rw [e1, hk q (Nat.not_le.mp h2)]; exact hs.2.1 q h1 h2, fun q hq => by
      rcases List.mem_append.mp hq with h | h
      · exact hs.2.2 q h
      · exact hL' q h⟩ hl T' rfl X'
  exact ⟨t2, stp t2 a1, b1⟩
theorem x_callI (C : x_Ctx K l Y0 y cc nL d mc ms) {idx maxL n dc mc1 ms1 : Nat} {z : MethodName} {bytes : ByteArray} {As : List Value} {Qc : Option Value → x_M → Prop} {a : Nat} {rest : List Value} (dd : decode cc pc = .ok (.invokespecial idx, 3)) (hL : x_LI y.cls idx z bytes maxL n) (hM : x_C l Y0 z bytes maxL none dc mc1 ms1 (.ref a :: As) M Qc) (hn : As.length = n) (hst : st = As.reverse ++ .ref a :: rest) (hd9 : dc + 1 ≤ d) (hf : cells + mc1 ≤ mc ∧ slots + ms1 ≤ ms) (hr9 : (rest.map fun v => v.category).sum ≤ 8) (kk : ∀ (v : Option Value) (M1 : x_M), Qc v M1 → x_X K nL (cells + mc1) (slots + ms1) (pc + 3) lv (v.toList ++ rest) M1) : x_X K nL cells slots pc lv st M := by
  obtain ⟨⟨hlk9, hcode, hini, hne, hpar, hmL⟩, hkind9⟩ := hL
  obtain ⟨p, l1, e, R, s, m, args, below, meth, c, Y, Q⟩ := K
  have hKs := x_va_K C
  have hw0 := fun {w : Cond} (h : w ∈ lw_tbl) (hg : x_gd w) => x_word C h hg
  obtain ⟨hx, hb, hml, hown, hlk, hnm, hW, hok, hB, hfz, rfl, rfl, rfl⟩ := C
  intro H locs ls hw hs hl
  subst hst
  have hrun : va_Run p l1 e (x_rm d mc ms) s m args below meth c H locs cells slots mc1 ms1 (F0 m pc ls (As.reverse ++ .ref a :: rest)) rest (x_Post Y Qc (Value.ref a :: As).toArray) (x_fr Y) := by
    rcases hlk9 with h9 | ⟨host, h9⟩
    · exact va_runI (Ts := []) ⟨hx, hb, hml, hown, fun _ h => nomatch h⟩ hM ⟨⟨rfl, rfl, hd9, by show 8 + (maxL + 11) + 40 * dc ≤ 40 * d; omega, fun w hw9 a' U hU => by cases List.mem_singleton.mp hw9; exact word_at hU (Or.inl rfl) (hw0 hcode (Or.inl rfl)), List.mem_singleton_self _, hw0 hcode (Or.inl rfl), hw0 hini (Or.inl rfl), hne, fun sig h => by rw [h] at hpar; exact (Option.some.inj hpar).symm, hw0 h9 (Or.inl rfl)⟩, hkind9.1, hw0 hkind9.2 (Or.inl rfl)⟩ ⟨x_blind _ _ _, fun U hU hWU => ⟨rfl, State.WarmedH.trans hW hWU, fun q h => by rw [hU, hs.2.1 q (Nat.lt_of_lt_of_le h hB) (fun h2 => Nat.not_le.mpr h h2)]; exact hfz q h, by rw [hU]; exact hw, by rw [hU]; exact Nat.le_trans hB hs.1⟩⟩ rfl hn hl.1 rfl (lv_room hr9) dd hf
    · exact va_runIN (Ts := []) ⟨hx, hb, hml, hown, fun _ h => nomatch h⟩ hM ⟨⟨⟨rfl, rfl, hd9, by show 8 + (maxL + 11) + 40 * dc ≤ 40 * d; omega, fun w hw9 a' U hU => by cases List.mem_singleton.mp hw9; exact word_at hU (Or.inl rfl) (hw0 hcode (Or.inl rfl)), List.mem_singleton_self _⟩, hw0 hcode (Or.inl rfl), hw0 hini (Or.inl rfl), hne, fun sig h => by rw [h] at hpar; exact (Option.some.inj hpar).symm, hw0 h9 (Or.inr (Or.inr (Or.inr ⟨_, _, _, _, rfl⟩)))⟩, hkind9.1, hw0 hkind9.2 (Or.inl rfl)⟩ ⟨x_blind _ _ _, fun U hU hWU => ⟨rfl, State.WarmedH.trans hW hWU, fun q h => by rw [hU, hs.2.1 q (Nat.lt_of_lt_of_le h hB) (fun h2 => Nat.not_le.mpr h h2)]; exact hfz q h, by rw [hU]; exact hw, by rw [hU]; exact Nat.le_trans hB hs.1⟩⟩ rfl hn hl.1 rfl (lv_room hr9) dd hf
  intro T hT X
  obtain ⟨v, st₀, t, T', L, h0, X', hL', e1, e2, ⟨v', M', ho, hq, hw', hz, hk⟩, stp⟩ := hrun T hT X
  cases ho
  rw [h0] at hz hk
  obtain ⟨t2, a1, b1⟩ := kk v M' hq T'.heap (locs ++ L) ls (by rw [e1]; exact hw') ⟨Nat.le_trans hs.1 (by rw [e1]; exact hz), fun q h1 h2 => by rw [e1, hk q (Nat.not_le.mp h2)]; exact hs.2.1 q h1 h2, fun q hq => by
      rcases List.mem_append.mp hq with h | h
      · exact hs.2.2 q h
      · exact hL' q h⟩ hl T' rfl X'
  exact ⟨t2, stp t2 a1, b1⟩
/-- a method's proof begins here -/
theorem x_start {Qc : Option Value → x_M → Prop} {ret : Option FieldType} {As : List Value} (hO : x_Ok Y0) (hp : plainName y.cls = true) (hlen : (lg_sl As).length ≤ nL)
    (body : ∀ K : x_K, x_Ctx K l Y0 y cc nL d mc ms → x_Ret K ret mc ms Qc → x_X K nL 0 0 0 (lv_args 0 As) [] M) : x_C l Y0 y cc nL ret d mc ms As M Qc := by
  refine Met.ofW (cc := cc) (maxL := nL) (ret := ret) hp rfl ?_
  intro p e s m args below meth c s₁ B hml hv
  obtain ⟨rfl, hWs, hfz, hw, hB⟩ := hv
  have hown : s.vm.findClass y.cls = some m.cls := findClass_of_methodNamed B.named
  have hnm : meth.name = y.name := (name_of_methodNamed B.named B.method).1
  have hl := lv_entry As (n := nL) hlen
  rw [lg_entry_eq]
  exact body (p, l, e, x_rm d mc ms, s, m, As.toArray, below, meth, c, Y0, _) ⟨B.exec, B.bytes, hml, hown, B.notSynchronized, hnm, hWs, hO, hB, hfz, rfl, rfl, rfl⟩ ⟨B.returns, rfl⟩ s.heap [] _ hw va_S.rf hl
end XKB
