def ex_Ms : List (Nat × String) := [(275, "there is no such drone"), (278, "there is no such deal"), (280, "the deal has no such part"), (56, "the tape would be longer than 2000 bytes"), (67, "the tape does not have so many bytes"), (168, "the deal cannot be begun"), (176, "the drone is asleep"), (184, "the drone is awake"), (186, "the queen is asleep"), (188, "the queen is awake"), (282, "the days are not 1 to 30")]
/-- what a throw needs: no stack traces, two statics of Throwable's -/
def x_Ex (l : Launch) (Y : x_Y) : Prop := l.stackTraces = false ∧ vx_Zq Bundle.tN "UNASSIGNED_STACK" Bundle.steD (x_fr Y) Y.1 Y.1.heap ∧ vx_Zq Bundle.tN "SUPPRESSED_SENTINEL" Bundle.listD (x_fr Y) Y.1 Y.1.heap ∧ (∀ q ∈ ex_Ms, ∃ sa, vk_R RX8 q.1 q.2 sa Y.1) ∧ va_Nc "java/lang/IllegalStateException" "java/lang/IndexOutOfBoundsException" Y.1 ∧ va_Nc "java/lang/IllegalArgumentException" "java/lang/IndexOutOfBoundsException" Y.1
def ex_C : List String := ["java/lang/RuntimeException", "java/lang/Exception"]
def ex_wd (w : Cond) : Bool := (w.onTables && w.keeps) || (match w with
  | .castable _ _ => true
  | .declares _ => true
  | _ => false)
/-- the words of a throw of E by its constructor ic -/
def ex_ok (own : String) (ik ic : Nat) (E : String) : Prop := Bundle.fit E = true ∧ Cond.classLink own ik E ∈ lw_tbl ∧ Cond.initialized E ∈ lw_tbl ∧ (vx_atS own ic E ex_C).all (fun w => decide (w ∈ lw_tbl)) = true ∧ (vx_atS own ic E ex_C).all vx_ot = true ∧ (vx_atS own ic E ex_C).all ex_wd = true
/-- thrown: E0, and the heap as it was but for new cells -/
def x_XC (Y : x_Y) (E0 : String) (M : x_M) : String → State → State → Prop := fun E st t => E = E0 ∧ (∃ k : Nat, x_W Y (x_nx M k) t.heap) ∧ st.heap.size ≤ t.heap.size ∧ ∀ q : Nat, q < Y.2.2.2 → t.heap[q]? = st.heap[q]?
/-- the contract of a method that throws E0 -/
def x_T (l : Launch) (Y : x_Y) (y : MethodName) (cc : ByteArray) (maxL : Nat) (ret : Option FieldType) (d mc ms : Nat) (As : List Value) (M : x_M) (E0 : String) : Prop :=
  vx_Met l y [.code y cc maxL ret] (x_rm d mc ms) (va_Pc As (x_Pre Y M)) (fun _ _ _ _ => False) (x_XC Y E0 M) mc ms (x_fr Y)
/-- what the end of such a method has to be -/
def x_RetT (K : x_K) (mc ms : Nat) (E0 : String) (M0 : x_M) : Prop := match K with
  | (_, _, _, _, s, _, args, below, _, c, Y, Q) => (∀ x ∈ c.exceptionTable.toList, False) ∧ Q = vx_MQ below (fun _ _ _ _ => False) (x_XC Y E0 M0) args s mc ms (x_fr Y)
/-- the contract of a method with handlers, which returns -/
def x_H (l : Launch) (Y : x_Y) (y : MethodName) (cc : ByteArray) (maxL : Nat) (ret : Option FieldType) (hh : List (Nat × Nat × Nat × Nat)) (d mc ms : Nat) (As : List Value) (M : x_M) (Qc : Option Value → x_M → Prop) : Prop :=
  Met l y [.codeWith y cc maxL ret hh] (x_rm d mc ms) (va_Pc As (x_Pre Y M)) (x_Post Y Qc) mc ms (x_fr Y)
def x_Tab (K : x_K) (hh : List (Nat × Nat × Nat × Nat)) : Prop := match K with
  | (_, _, _, _, _, _, _, _, _, c, _, _) => c.exceptionTable.toList = tableOf hh
theorem x_W_nx {Y : x_Y} {M : x_M} {H H1 : Heap} (h : x_W Y M H) (z : H.size ≤ H1.size) (oq : ∀ q : Nat, q < H.size → H1[q]? = H[q]?) : x_W Y (x_nx M (H1.size - H.size)) H1 := by
  refine ⟨by show H1.size = M.2 + (H1.size - H.size); rw [← h.1]; omega, fun q c' hq => ?_⟩
  have h1 := h.2 q c' hq
  exact ⟨h1.1, h1.2.kept (oq q h1.2.lt)⟩
theorem x_nx_nx {M : x_M} {a b : Nat} : x_nx (x_nx M a) b = x_nx M (a + b) := by
  show (M.1, M.2 + a + b) = (M.1, M.2 + (a + b))
  rw [Nat.add_assoc]
section XEX
variable {K : x_K} {l : Launch} {Y0 : x_Y} {y : MethodName} {cc : ByteArray} {nL d mc ms cells slots pc : Nat} {lv : List (Nat × Value)} {st : List Value} {M : x_M}
theorem ex_word (C : x_Ctx K l Y0 y cc nL d mc ms) {w : Cond} (h : w ∈ lw_tbl) (hg : ex_wd w = true) : w.before K.2.2.2.2.2.2.1 K.2.2.2.2.1 = true := by
  obtain ⟨p, l1, e, R, s, m, args, below, meth, c, Y, Q⟩ := K
  have hw0 := fun {w : Cond} (h : w ∈ lw_tbl) (hg : x_gd w) => x_word C h hg
  obtain ⟨hx, hb, hml, hown, hlk, hnm, hW, hok, hB, hfz, rfl, rfl, rfl⟩ := C
  rcases Bool.or_eq_true _ _ ▸ hg with hg | hg
  · exact hw0 h (Or.inl hg)
  · split at hg
    · exact va_Nw.use rfl (va_Nw.warmC hW (va_Nw.of rfl (hok.1 _ h)))
    · exact va_Nw.use rfl (va_Nw.warmD hW (va_Nw.of rfl (hok.1 _ h)))
    · cases hg
theorem x_startT {E0 : String} {ret : Option FieldType} {As : List Value} (hO : x_Ok Y0) (hp : plainName y.cls = true) (hlen : (lg_sl As).length ≤ nL)
    (body : ∀ K : x_K, x_Ctx K l Y0 y cc nL d mc ms → x_RetT K mc ms E0 M → x_X K nL 0 0 0 (lv_args 0 As) [] M) : x_T l Y0 y cc nL ret d mc ms As M E0 := by
  refine vx_ofW (cc := cc) (maxL := nL) (ret := ret) hp rfl ?_
  intro p e s m args below meth c s₁ B hml ht hv
  obtain ⟨rfl, hWs, hfz, hw, hB⟩ := hv
  have hown : s.vm.findClass y.cls = some m.cls := findClass_of_methodNamed B.named
  have hnm : meth.name = y.name := (name_of_methodNamed B.named B.method).1
  have hl := lv_entry As (n := nL) hlen
  rw [lg_entry_eq]
  exact body (p, l, e, x_rm d mc ms, s, m, As.toArray, below, meth, c, Y0, _) ⟨B.exec, B.bytes, hml, hown, B.notSynchronized, hnm, hWs, hO, hB, hfz, rfl, rfl, rfl⟩ ⟨ht, rfl⟩ s.heap [] _ hw va_S.rf hl
theorem x_startH {Qc : Option Value → x_M → Prop} {ret : Option FieldType} {hh : List (Nat × Nat × Nat × Nat)} {As : List Value} (hO : x_Ok Y0) (hp : plainName y.cls = true) (hlen : (lg_sl As).length ≤ nL)
    (body : ∀ K : x_K, x_Ctx K l Y0 y cc nL d mc ms → x_Ret K ret mc ms Qc → x_Tab K hh → x_X K nL 0 0 0 (lv_args 0 As) [] M) : x_H l Y0 y cc nL ret hh d mc ms As M Qc := by
  unfold x_H Met
  refine MetFree.of_bodyS (code := cc) (maxLocals := nL) (ret := ret) hp ?_ ?_
  · intro args s m h hn
    obtain ⟨m9, meth, c, hn9, h1, h2, h3, h4, -, h5, h6, -⟩ := Cond.codeWith_spec (atoms_spec (ws := [.codeWith y cc nL ret hh]) h _ List.mem_cons_self)
    cases hn.symm.trans hn9
    exact ⟨meth, c, h1, h2, h3, h4, h5, h6⟩
  · intro p e s m args below meth c s₁ B hml hv _
    have hh0 : s₁.heap = s.heap := by rw [B.state]; rfl
    have hT : c.exceptionTable.toList = tableOf hh := vx_table (x := y) B (atoms_spec (ws := [.codeWith y cc nL ret hh]) B.pre _ List.mem_cons_self)
    obtain ⟨rfl, hWs, hfz, hw, hB⟩ := hv
    have hown : s.vm.findClass y.cls = some m.cls := findClass_of_methodNamed B.named
    have hnm : meth.name = y.name := (name_of_methodNamed B.named B.method).1
    have hl := lv_entry As (n := nL) hlen
    have k : W p l e (x_rm d mc ms) s m As.toArray below meth c s.heap [] 0 0 (MQ below (x_Post Y0 Qc) As.toArray s mc ms (x_fr Y0)) (entryFrame m As.toArray nL) := by
      rw [lg_entry_eq]
      exact body (p, l, e, x_rm d mc ms, s, m, As.toArray, below, meth, c, Y0, _) ⟨B.exec, B.bytes, hml, hown, B.notSynchronized, hnm, hWs, hO, hB, hfz, rfl, rfl, rfl⟩ ⟨B.returns, rfl⟩ hT s.heap [] _ hw va_S.rf hl
    obtain ⟨t, a1, o, b1, b2, b3⟩ := k s₁ hh0 (Stand.of_body B)
    exact ⟨t, o, a1, b1, b2, ⟨b3.1, b3.2⟩⟩

theorem x_throwS (C : x_Ctx K l Y0 y cc nL d mc ms) {E0 : String} (E : x_RetT K mc ms E0 M) (X : x_Ex l Y0) {ik is ic : Nat} {text : String} (hk : ex_ok y.cls ik ic E0) (hs9 : ∃ sa, vk_R y.cls is text sa Y0.1) (d0 : decode cc pc = .ok (.new ik, 3)) (d3 : decode cc (pc + 3) = .ok (.dup, 1)) (d4 : decode cc (pc + 4) = .ok (.ldc is, 2)) (d6 : decode cc (pc + 6) = .ok (.invokespecial ic, 3)) (d9 : decode cc (pc + 9) = .ok (.athrow, 1)) (hd9 : 6 ≤ d) (hf : cells + 1 ≤ mc ∧ slots + 6 ≤ ms) (hr9 : (st.map fun v => v.category).sum ≤ 8) : x_X K nL cells slots pc lv st M := by
  obtain ⟨p, l1, e, R, s, m, args, below, meth, c, Y, Q⟩ := K
  have hw0 := fun {w : Cond} (h : w ∈ lw_tbl) (hg : x_gd w) => x_word C h hg
  have hwe := fun {w : Cond} (h : w ∈ lw_tbl) (hg : ex_wd w = true) => ex_word C h hg
  obtain ⟨hx, hb, hml, hown, hlk, hnm, hW, hok, hB, hfz, rfl, rfl, rfl⟩ := C
  obtain ⟨ht, rfl⟩ := E
  obtain ⟨sa, hs9⟩ := hs9
  obtain ⟨k1, k2, k3, k4, k5, k6⟩ := hk
  obtain ⟨hl0, hU, hN, -⟩ := X
  intro H locs ls hw hs hl
  have hmem : ∀ w ∈ vx_atS y.cls ic E0 ex_C, w ∈ lw_tbl := fun w h => of_decide_eq_true (List.all_eq_true.mp k4 w h)
  have hwd : ∀ w ∈ vx_atS y.cls ic E0 ex_C, w.before args s = true := fun w h => hwe (hmem w h) (List.all_eq_true.mp k6 w h)
  refine vx_throwS (names := ex_C) (A := x_fr Y) hx hb hl0 hown k1 (by decide +kernel) (hw0 k2 (Or.inl rfl)) (hw0 k3 (Or.inl rfl)) (vk_R.warm hW hs9) hwd ?_ ((vx_Zq.moved hW.alike hU).kept (fun q _ h => hfz q (Nat.not_le.mp h))) ((vx_Zq.moved hW.alike hN).kept (fun q _ h => hfz q (Nat.not_le.mp h))) hs (hl.1.trans hml.symm) d0 d3 d4 d6 d9 (fun x h => absurd (ht x h) id) ?_ ?_ hf.1 hf.2 hlk ?_ hs.2.2 hf.1 hf.2
  · intro w h
    rcases List.mem_cons.mp h with rfl | h
    · rfl
    · rcases List.mem_cons.mp h with rfl | h
      · rfl
      · exact List.all_eq_true.mp k5 w h
  · show ex_C.length + 3 < d
    have : ex_C.length = 2 := rfl
    omega
  · show _ + (13 * (ex_C.length + 1) + 43) ≤ 40 * d
    have : ex_C.length = 2 := rfl
    rw [this]
    omega
  · intro t ha hz hk
    refine ⟨rfl, ⟨_, x_W_nx hw hz hk⟩, Nat.le_trans hs.1 hz, fun q h => ?_⟩
    rw [hk q (Nat.lt_of_lt_of_le h (Nat.le_trans hB hs.1))]
    exact hs.2.1 q (Nat.lt_of_lt_of_le h hB) (fun h2 => Nat.not_le.mpr h h2)
theorem x_throwSW (C : x_Ctx K l Y0 y cc nL d mc ms) {E0 : String} (E : x_RetT K mc ms E0 M) (X : x_Ex l Y0) {ik is ic : Nat} {text : String} (hk : ex_ok y.cls ik ic E0) (hs9 : ∃ sa, vk_R y.cls is text sa Y0.1) (d0 : decode cc pc = .ok (.new ik, 3)) (d3 : decode cc (pc + 3) = .ok (.dup, 1)) (d4 : decode cc (pc + 4) = .ok (.ldc_w is, 3)) (d6 : decode cc (pc + 7) = .ok (.invokespecial ic, 3)) (d9 : decode cc (pc + 10) = .ok (.athrow, 1)) (hd9 : 6 ≤ d) (hf : cells + 1 ≤ mc ∧ slots + 6 ≤ ms) (hr9 : (st.map fun v => v.category).sum ≤ 8) : x_X K nL cells slots pc lv st M := by
  obtain ⟨p, l1, e, R, s, m, args, below, meth, c, Y, Q⟩ := K
  have hw0 := fun {w : Cond} (h : w ∈ lw_tbl) (hg : x_gd w) => x_word C h hg
  have hwe := fun {w : Cond} (h : w ∈ lw_tbl) (hg : ex_wd w = true) => ex_word C h hg
  obtain ⟨hx, hb, hml, hown, hlk, hnm, hW, hok, hB, hfz, rfl, rfl, rfl⟩ := C
  obtain ⟨ht, rfl⟩ := E
  obtain ⟨sa, hs9⟩ := hs9
  obtain ⟨k1, k2, k3, k4, k5, k6⟩ := hk
  obtain ⟨hl0, hU, hN, -⟩ := X
  intro H locs ls hw hs hl
  have hmem : ∀ w ∈ vx_atS y.cls ic E0 ex_C, w ∈ lw_tbl := fun w h => of_decide_eq_true (List.all_eq_true.mp k4 w h)
  have hwd : ∀ w ∈ vx_atS y.cls ic E0 ex_C, w.before args s = true := fun w h => hwe (hmem w h) (List.all_eq_true.mp k6 w h)
  refine vx_throwSW (names := ex_C) (A := x_fr Y) hx hb hl0 hown k1 (by decide +kernel) (hw0 k2 (Or.inl rfl)) (hw0 k3 (Or.inl rfl)) (vk_R.warm hW hs9) hwd ?_ ((vx_Zq.moved hW.alike hU).kept (fun q _ h => hfz q (Nat.not_le.mp h))) ((vx_Zq.moved hW.alike hN).kept (fun q _ h => hfz q (Nat.not_le.mp h))) hs (hl.1.trans hml.symm) d0 d3 d4 d6 d9 (fun x h => absurd (ht x h) id) ?_ ?_ hf.1 hf.2 hlk ?_ hs.2.2 hf.1 hf.2
  · intro w h
    rcases List.mem_cons.mp h with rfl | h
    · rfl
    · rcases List.mem_cons.mp h with rfl | h
      · rfl
      · exact List.all_eq_true.mp k5 w h
  · show ex_C.length + 3 < d
    have : ex_C.length = 2 := rfl
    omega
  · show _ + (13 * (ex_C.length + 1) + 43) ≤ 40 * d
    have : ex_C.length = 2 := rfl
    rw [this]
    omega
  · intro t ha hz hk
    refine ⟨rfl, ⟨_, x_W_nx hw hz hk⟩, Nat.le_trans hs.1 hz, fun q h => ?_⟩
    rw [hk q (Nat.lt_of_lt_of_le h (Nat.le_trans hB hs.1))]
    exact hs.2.1 q (Nat.lt_of_lt_of_le h hB) (fun h2 => Nat.not_le.mpr h h2)
theorem x_callVT (C : x_Ctx K l Y0 y cc nL d mc ms) {E0 : String} (E : x_RetT K mc ms E0 M) {idx maxL n dc mc1 ms1 : Nat} {z : MethodName} {bytes : ByteArray} {ret : Option FieldType} {As : List Value} {a ci : Nat} {fs : List Value} {rest : List Value} (dd : decode cc pc = .ok (.invokevirtual idx, 3)) (hL : x_LV y.cls idx z bytes maxL n ret) (h9 : Cond.methodLink y.cls idx z ∈ lw_tbl) (hM : x_T l Y0 z bytes maxL ret dc mc1 ms1 (.ref a :: As) M E0) (ha : M.1 a = some (.inr (ci, fs))) (hci : (vwCl[ci]?).map (fun q => q.1) = some z.cls) (hn : As.length = n) (hst : st = As.reverse ++ .ref a :: rest) (hd9 : dc + 1 ≤ d) (hf : cells + mc1 ≤ mc ∧ slots + ms1 ≤ ms) (hr9 : (rest.map fun v => v.category).sum ≤ 8) : x_X K nL cells slots pc lv st M := by
  obtain ⟨⟨-, hcode, hini, hne, hpar, hmL⟩, hkind9⟩ := hL
  have hvc : (vwCl[ci]?).map (fun q => q.1) = some z.cls := hci
  obtain ⟨p, l1, e, R, s, m, args, below, meth, c, Y, Q⟩ := K
  have hKs := x_va_K C
  have hw0 := fun {w : Cond} (h : w ∈ lw_tbl) (hg : x_gd w) => x_word C h hg
  obtain ⟨hx, hb, hml, hown, hlk, hnm, hW, hok, hB, hfz, rfl, rfl, rfl⟩ := C
  obtain ⟨ht, rfl⟩ := E
  intro H locs ls hw hs hl
  subst hst
  have hrec : ∃ cellB : Cell, H[a]? = some cellB ∧ cellB.vm.isStatics = false ∧ s.vm.findClass z.cls = some cellB.cls := by
    obtain ⟨r, h1, cell, g1, g2, g3, -⟩ := (hw.2 a _ ha).2
    rw [h1] at hvc
    have hzc : r.1 = z.cls := Option.some.inj hvc
    exact ⟨cell, g1, by rw [g3]; rfl, by rw [g2, ← hzc]; exact (hKs.1 ci r h1).2.1⟩
  have hrun : vx_Run p l1 e (x_rm d mc ms) s m args below meth c H locs cells slots mc1 ms1 (F0 m pc ls (As.reverse ++ .ref a :: rest)) rest (fun _ _ _ => False) (x_XC Y E0 M) (x_fr Y) := vx_runV (Ts := []) (C := z.cls) ⟨hx, hb, hml, hown, fun _ h => nomatch h⟩ hM ⟨⟨rfl, rfl, hd9, by show 8 + (maxL + 11) + 40 * dc ≤ 40 * d; omega, fun w hw9 a' U hU => by cases List.mem_singleton.mp hw9; exact word_at hU (Or.inl rfl) (hw0 hcode (Or.inl rfl)), List.mem_singleton_self _, hw0 hcode (Or.inl rfl), hw0 hini (Or.inl rfl), hne, fun sig h => by rw [h] at hpar; exact (Option.some.inj hpar).symm, hw0 h9 (Or.inl rfl)⟩, hw0 hkind9.1 (Or.inl rfl), hw0 hkind9.2 (Or.inl rfl)⟩ ⟨x_blind _ _ _, hrec, fun U hU hWU => ⟨rfl, State.WarmedH.trans hW hWU, fun q h => by rw [hU, hs.2.1 q (Nat.lt_of_lt_of_le h hB) (fun h2 => Nat.not_le.mpr h h2)]; exact hfz q h, by rw [hU]; exact hw, by rw [hU]; exact Nat.le_trans hB hs.1⟩⟩ rfl hn hl.1 rfl (lv_room hr9) dd hf
  intro T hT X
  rcases hrun T hT X with ⟨v, st₀, t, T', L, h0, X', hL', e1, e2, hF, stp⟩ | ⟨q, st₀, t, T', L, E, ce, h0, X', hL', e1, e2, ⟨rfl, ⟨k, hw'⟩, hz, hk⟩, hce, hcv, hcl, stp⟩
  · exact hF.elim
  · rw [h0] at hz hk
    obtain ⟨t2, a1, b1⟩ := vx_out (Qc := fun _ _ _ _ => False) (XC := x_XC Y E M) (free := x_fr Y) (pc := pc) (ls := ls) (rest := rest) (H := T'.heap) (cells := cells + mc1) (slots := slots + ms1) (mc := mc) (ms := ms) (fun x h => absurd (ht x h) id) hlk (by rw [e1]; exact hce) hcv hcl (fun t9 h9 ha9 => ⟨rfl, ⟨k, by rw [h9, e1]; exact hw'⟩, Nat.le_trans hs.1 (by rw [h9, e1]; exact hz), fun q h => by rw [h9, e1, hk q h]; exact hs.2.1 q (Nat.lt_of_lt_of_le h hB) (fun h2 => Nat.not_le.mpr h h2)⟩) (fun z hz => by
      rcases List.mem_append.mp hz with h | h
      · exact hs.2.2 z h
      · exact hL' z h) hf.1 hf.2 T' rfl X'
    exact ⟨t2, stp.trans a1, b1⟩
theorem x_callST (C : x_Ctx K l Y0 y cc nL d mc ms) {E0 : String} (E : x_RetT K mc ms E0 M) {idx maxL n dc mc1 ms1 : Nat} {z : MethodName} {bytes : ByteArray} {ret : Option FieldType} {As : List Value} {rest : List Value} (dd : decode cc pc = .ok (.invokestatic idx, 3)) (hL : x_LS y.cls idx z bytes maxL n ret) (h9 : Cond.methodLink y.cls idx z ∈ lw_tbl) (hM : x_T l Y0 z bytes maxL ret dc mc1 ms1 As M E0) (hn : As.length = n) (hst : st = As.reverse ++ rest) (hd9 : dc + 1 ≤ d) (hf : cells + mc1 ≤ mc ∧ slots + ms1 ≤ ms) (hr9 : (rest.map fun v => v.category).sum ≤ 8) : x_X K nL cells slots pc lv st M := by
  obtain ⟨⟨-, hcode, hini, hne, hpar, hmL⟩, hkind9⟩ := hL
  obtain ⟨p, l1, e, R, s, m, args, below, meth, c, Y, Q⟩ := K
  have hKs := x_va_K C
  have hw0 := fun {w : Cond} (h : w ∈ lw_tbl) (hg : x_gd w) => x_word C h hg
  obtain ⟨hx, hb, hml, hown, hlk, hnm, hW, hok, hB, hfz, rfl, rfl, rfl⟩ := C
  obtain ⟨ht, rfl⟩ := E
  intro H locs ls hw hs hl
  subst hst
  have hrun : vx_Run p l1 e (x_rm d mc ms) s m args below meth c H locs cells slots mc1 ms1 (F0 m pc ls (As.reverse ++ rest)) rest (fun _ _ _ => False) (x_XC Y E0 M) (x_fr Y) := vx_runS (Ts := []) ⟨hx, hb, hml, hown, fun _ h => nomatch h⟩ hM ⟨⟨rfl, rfl, hd9, by show 8 + (maxL + 11) + 40 * dc ≤ 40 * d; omega, fun w hw9 a' U hU => by cases List.mem_singleton.mp hw9; exact word_at hU (Or.inl rfl) (hw0 hcode (Or.inl rfl)), List.mem_singleton_self _, hw0 hcode (Or.inl rfl), hw0 hini (Or.inl rfl), hne, fun sig h => by rw [h] at hpar; exact (Option.some.inj hpar).symm, hw0 h9 (Or.inl rfl)⟩, hw0 hkind9 (Or.inl rfl)⟩ ⟨x_blind _ _ _, fun U hU hWU => ⟨rfl, State.WarmedH.trans hW hWU, fun q h => by rw [hU, hs.2.1 q (Nat.lt_of_lt_of_le h hB) (fun h2 => Nat.not_le.mpr h h2)]; exact hfz q h, by rw [hU]; exact hw, by rw [hU]; exact Nat.le_trans hB hs.1⟩⟩ rfl hn hl.1 rfl (lv_room hr9) dd hf
  intro T hT X
  rcases hrun T hT X with ⟨v, st₀, t, T', L, h0, X', hL', e1, e2, hF, stp⟩ | ⟨q, st₀, t, T', L, E, ce, h0, X', hL', e1, e2, ⟨rfl, ⟨k, hw'⟩, hz, hk⟩, hce, hcv, hcl, stp⟩
  · exact hF.elim
  · rw [h0] at hz hk
    obtain ⟨t2, a1, b1⟩ := vx_out (Qc := fun _ _ _ _ => False) (XC := x_XC Y E M) (free := x_fr Y) (pc := pc) (ls := ls) (rest := rest) (H := T'.heap) (cells := cells + mc1) (slots := slots + ms1) (mc := mc) (ms := ms) (fun x h => absurd (ht x h) id) hlk (by rw [e1]; exact hce) hcv hcl (fun t9 h9 ha9 => ⟨rfl, ⟨k, by rw [h9, e1]; exact hw'⟩, Nat.le_trans hs.1 (by rw [h9, e1]; exact hz), fun q h => by rw [h9, e1, hk q h]; exact hs.2.1 q (Nat.lt_of_lt_of_le h hB) (fun h2 => Nat.not_le.mpr h h2)⟩) (fun z hz => by
      rcases List.mem_append.mp hz with h | h
      · exact hs.2.2 z h
      · exact hL' z h) hf.1 hf.2 T' rfl X'
    exact ⟨t2, stp.trans a1, b1⟩
/-- a call that throws, caught here -/
theorem x_callVC (C : x_Ctx K l Y0 y cc nL d mc ms) {E0 : String} {hh : List (Nat × Nat × Nat × Nat)} (ht : x_Tab K hh) {idx maxL n dc mc1 ms1 : Nat} {z : MethodName} {bytes : ByteArray} {ret : Option FieldType} {As : List Value} {a ci : Nat} {fs : List Value} {rest : List Value} (dd : decode cc pc = .ok (.invokevirtual idx, 3)) (hL : x_LV y.cls idx z bytes maxL n ret) (h9 : Cond.methodLink y.cls idx z ∈ lw_tbl) (hM : x_T l Y0 z bytes maxL ret dc mc1 ms1 (.ref a :: As) M E0) (ha : M.1 a = some (.inr (ci, fs))) (hci : (vwCl[ci]?).map (fun q => q.1) = some z.cls) (hn : As.length = n) (hst : st = As.reverse ++ .ref a :: rest) (hd9 : dc + 1 ≤ d) (hf : cells + mc1 ≤ mc ∧ slots + ms1 ≤ ms) (hr9 : (rest.map fun v => v.category).sum ≤ 8) {pre suf : List ExceptionTableEntry} {x : ExceptionTableEntry} {name : String} (hsp : tableOf hh = pre ++ x :: suf) (hpass : ∀ z ∈ pre, covers z pc = false ∨ (z.catchType ≠ 0 ∧ ∃ nm : String, Cond.classLink y.cls z.catchType nm ∈ lw_tbl ∧ va_Nc E0 nm Y0.1)) (hcov : covers x pc = true) (h09 : x.catchType ≠ 0) (hlink9 : Cond.classLink y.cls x.catchType name ∈ lw_tbl) (hcast : Cond.castable E0 name ∈ lw_tbl) (kk : ∀ q k : Nat, x_X K nL (cells + mc1) (slots + ms1) x.handlerPc lv [.ref q] (x_nx M k)) : x_X K nL cells slots pc lv st M := by
  obtain ⟨⟨-, hcode, hini, hne, hpar, hmL⟩, hkind9⟩ := hL
  have hvc : (vwCl[ci]?).map (fun q => q.1) = some z.cls := hci
  obtain ⟨p, l1, e, R, s, m, args, below, meth, c, Y, Q⟩ := K
  have hKs := x_va_K C
  have hw0 := fun {w : Cond} (h : w ∈ lw_tbl) (hg : x_gd w) => x_word C h hg
  have hwe := fun {w : Cond} (h : w ∈ lw_tbl) (hg : ex_wd w = true) => ex_word C h hg
  obtain ⟨hx, hb, hml, hown, hlk, hnm, hW, hok, hB, hfz, rfl, rfl, rfl⟩ := C
  intro H locs ls hw hs hl
  subst hst
  have hrec : ∃ cellB : Cell, H[a]? = some cellB ∧ cellB.vm.isStatics = false ∧ s.vm.findClass z.cls = some cellB.cls := by
    obtain ⟨r, h1, cell, g1, g2, g3, -⟩ := (hw.2 a _ ha).2
    rw [h1] at hvc
    have hzc : r.1 = z.cls := Option.some.inj hvc
    exact ⟨cell, g1, by rw [g3]; rfl, by rw [g2, ← hzc]; exact (hKs.1 ci r h1).2.1⟩
  have hrun : vx_Run p l1 e (x_rm d mc ms) s m args below meth c H locs cells slots mc1 ms1 (F0 m pc ls (As.reverse ++ .ref a :: rest)) rest (fun _ _ _ => False) (x_XC Y E0 M) (x_fr Y) := vx_runV (Ts := []) (C := z.cls) ⟨hx, hb, hml, hown, fun _ h => nomatch h⟩ hM ⟨⟨rfl, rfl, hd9, by show 8 + (maxL + 11) + 40 * dc ≤ 40 * d; omega, fun w hw9 a' U hU => by cases List.mem_singleton.mp hw9; exact word_at hU (Or.inl rfl) (hw0 hcode (Or.inl rfl)), List.mem_singleton_self _, hw0 hcode (Or.inl rfl), hw0 hini (Or.inl rfl), hne, fun sig h => by rw [h] at hpar; exact (Option.some.inj hpar).symm, hw0 h9 (Or.inl rfl)⟩, hw0 hkind9.1 (Or.inl rfl), hw0 hkind9.2 (Or.inl rfl)⟩ ⟨x_blind _ _ _, hrec, fun U hU hWU => ⟨rfl, State.WarmedH.trans hW hWU, fun q h => by rw [hU, hs.2.1 q (Nat.lt_of_lt_of_le h hB) (fun h2 => Nat.not_le.mpr h h2)]; exact hfz q h, by rw [hU]; exact hw, by rw [hU]; exact Nat.le_trans hB hs.1⟩⟩ rfl hn hl.1 rfl (lv_room hr9) dd hf
  intro T hT X
  rcases hrun T hT X with ⟨v, st₀, t, T', L, h0, X', hL', e1, e2, hF, stp⟩ | ⟨q, st₀, t, T', L, E, ce, h0, X', hL', e1, e2, ⟨rfl, ⟨k, hw'⟩, hz, hk⟩, hce, hcv, hcl, stp⟩
  · exact hF.elim
  · rw [h0] at hz hk
    obtain ⟨t2, a1, b1⟩ := vx_catch (pc := pc) (ls := ls) (rest := rest) (locs := locs ++ L) (cells := cells + mc1) (slots := slots + ms1) (own := y.cls) (name := name) (E := E) (ce := ce) (q := q) (H := T'.heap) hown pre x suf (ht.trans hsp) (fun z hz => by
      rcases hpass z hz with h | ⟨h1, nm, h2, h3⟩
      · exact Or.inl h
      · exact Or.inr ⟨h1, nm, hw0 h2 (Or.inl rfl), va_Nc.moved hW.alike h3⟩) hcov h09 (hw0 hlink9 (Or.inl rfl)) (hwe hcast rfl) (by rw [e1]; exact hce) hcv hcl (kk q k T'.heap (locs ++ L) ls (by rw [e1]; exact hw') ⟨Nat.le_trans hs.1 (by rw [e1]; exact hz), fun q h1 h2 => by rw [e1, hk q (Nat.not_le.mp h2)]; exact hs.2.1 q h1 h2, fun q hq => by
        rcases List.mem_append.mp hq with h | h
        · exact hs.2.2 q h
        · exact hL' q h⟩ hl) T' rfl X'
    exact ⟨t2, stp.trans a1, b1⟩
/-- a static call of a method with handlers -/
def x_LH (own : String) (idx : Nat) (z : MethodName) (bytes : ByteArray) (maxL n : Nat) (ret : Option FieldType) (hh : List (Nat × Nat × Nat × Nat)) : Prop := Cond.methodLink own idx z ∈ lw_tbl ∧ Cond.codeWith z bytes maxL ret hh ∈ lw_tbl ∧ Cond.initialized z.cls ∈ lw_tbl ∧ (z.cls ≠ "java/lang/invoke/MethodHandle" ∧ z.cls ≠ "java/lang/invoke/VarHandle") ∧ (parseMethodDescriptor z.desc).map (fun d => d.parameters.length) = some n ∧ maxL ≤ 21 ∧ Cond.static z ∈ lw_tbl
theorem x_callSH (C : x_Ctx K l Y0 y cc nL d mc ms) {idx maxL n dc mc1 ms1 : Nat} {z : MethodName} {bytes : ByteArray} {ret : Option FieldType} {hh : List (Nat × Nat × Nat × Nat)} {As : List Value} {Qc : Option Value → x_M → Prop} {rest : List Value} (dd : decode cc pc = .ok (.invokestatic idx, 3)) (hL : x_LH y.cls idx z bytes maxL n ret hh) (hM : x_H l Y0 z bytes maxL ret hh dc mc1 ms1 As M Qc) (hn : As.length = n) (hst : st = As.reverse ++ rest) (hd9 : dc + 1 ≤ d) (hf : cells + mc1 ≤ mc ∧ slots + ms1 ≤ ms) (hr9 : (rest.map fun v => v.category).sum ≤ 8) (kk : ∀ (v : Option Value) (M1 : x_M), Qc v M1 → x_X K nL (cells + mc1) (slots + ms1) (pc + 3) lv (v.toList ++ rest) M1) : x_X K nL cells slots pc lv st M := by
  obtain ⟨h9, hcode, hini, hne, hpar, hmL, hstt⟩ := hL
  obtain ⟨p, l1, e, R, s, m, args, below, meth, c, Y, Q⟩ := K
  have hKs := x_va_K C
  have hw0 := fun {w : Cond} (h : w ∈ lw_tbl) (hg : x_gd w) => x_word C h hg
  obtain ⟨hx, hb, hml, hown, hlk, hnm, hW, hok, hB, hfz, rfl, rfl, rfl⟩ := C
  intro H locs ls hw hs hl
  subst hst
  have hrun : va_Run p l1 e (x_rm d mc ms) s m args below meth c H locs cells slots mc1 ms1 (F0 m pc ls (As.reverse ++ rest)) rest (x_Post Y Qc As.toArray) (x_fr Y) :=
    vx_runSW (Ts := []) ⟨hx, hb, hml, hown, fun _ h => nomatch h⟩ hM ⟨⟨rfl, rfl, hd9, by show 8 + (maxL + 11) + 40 * dc ≤ 40 * d; omega, fun w hw9 a' U hU => by cases List.mem_singleton.mp hw9; exact word_at hU (Or.inl rfl) (hw0 hcode (Or.inl rfl)), List.mem_singleton_self _⟩, hw0 hcode (Or.inl rfl), hw0 hini (Or.inl rfl), hne, fun sig h => by rw [h] at hpar; exact (Option.some.inj hpar).symm, hw0 h9 (Or.inl rfl), hw0 hstt (Or.inl rfl)⟩ ⟨x_blind _ _ _, fun U hU hWU => ⟨rfl, State.WarmedH.trans hW hWU, fun q h => by rw [hU, hs.2.1 q (Nat.lt_of_lt_of_le h hB) (fun h2 => Nat.not_le.mpr h h2)]; exact hfz q h, by rw [hU]; exact hw, by rw [hU]; exact Nat.le_trans hB hs.1⟩⟩ rfl hn hl.1 rfl (lv_room hr9) dd hf
  intro T hT X
  obtain ⟨v, st₀, t, T', L, h0, X', hL', e1, e2, ⟨v', M', ho, hq, hw', hz, hk⟩, stp⟩ := hrun T hT X
  cases ho
  rw [h0] at hz hk
  obtain ⟨t2, a1, b1⟩ := kk v M' hq T'.heap (locs ++ L) ls (by rw [e1]; exact hw') ⟨Nat.le_trans hs.1 (by rw [e1]; exact hz), fun q h1 h2 => by rw [e1, hk q (Nat.not_le.mp h2)]; exact hs.2.1 q h1 h2, fun q hq => by
      rcases List.mem_append.mp hq with h | h
      · exact hs.2.2 q h
      · exact hL' q h⟩ hl T' rfl X'
  exact ⟨t2, stp t2 a1, b1⟩
end XEX
theorem ex_IO : ex_ok RX8 273 277 "java/lang/IndexOutOfBoundsException" := ⟨by decide +kernel, (x_t4 _ (List.mem_of_getElem? (i := 112) (by decide +kernel))), (x_t1 _ (List.mem_of_getElem? (i := 25) (by decide +kernel))), by decide +kernel, by decide +kernel, by decide +kernel⟩
theorem ex_IS : ex_ok RX8 54 58 "java/lang/IllegalStateException" := ⟨by decide +kernel, (x_t5 _ (List.mem_of_getElem? (i := 5) (by decide +kernel))), (x_t1 _ (List.mem_of_getElem? (i := 21) (by decide +kernel))), by decide +kernel, by decide +kernel, by decide +kernel⟩
theorem ex_IA : ex_ok RX8 65 69 "java/lang/IllegalArgumentException" := ⟨by decide +kernel, (x_t5 _ (List.mem_of_getElem? (i := 34) (by decide +kernel))), (x_t1 _ (List.mem_of_getElem? (i := 22) (by decide +kernel))), by decide +kernel, by decide +kernel, by decide +kernel⟩
