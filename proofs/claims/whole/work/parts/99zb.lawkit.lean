def R_law : String := "HoneyAccordLaw"
def lw_P (b : Addr) (xs : List Int32) (args : Array Value) (s : State) : Prop := args = #[.ref b] ∧ s.IntsAt b xs ∧ xs.length ≤ 3072 ∧ (Jvm.Cond.and given_1 narrow_1).before args s = true
/-- what a walk over the start with the record d0 says of its end, said of the start itself -/
theorem lw_closed {s t : State} {o : Outcome} {d0 : Drawn} {L : List Loc} {k n : Nat} (hd0 : s.drawn.sameBut d0 lw_cs) (hv : ∃ v, o = .returned v) (hW : (s.setDrawn d0).WarmedH t.vm) (hs : (s.setDrawn d0).sameButNew ({ t with vm := s.vm } : State) L k n) : State.butDraws s t lw_cs (fun t1 => Framed s o t1 L k n) := by
  have h2 : t.drawn = d0 := congrArg State.drawn hs.1
  refine ⟨⟨hv, hW, State.sameButNew.setDrawn hs s.drawn⟩, ?_, by decide⟩
  rw [h2]
  exact hd0
def lw_Q (_ : Array Value) (s : State) (o : Outcome) (t : State) : Prop := o = .returned (some (.int 1)) ∧ State.butDraws s t lw_cs (fun t1 => Framed s o t1 [] 601024 7293034)
def lw_Z (below : List Frame) (a : Array Value) (s : State) : State → Prop := fun t => ∃ o, t.status = .running ∧ Ended t below o ∧ lw_Q a s o t
/-- the law's own end, with 1 on the stack, nothing written that was there before, its room as the claim has it; d0: the record of draws at this point (at the entry s.drawn: begin with 'refine W.base ?_' and 'have hd0 := Drawn.sameBut.refl s.drawn lw_cs') -/
theorem lw_ret {p : Program} {l : Launch} {e : Env} {s : State} {m : MethodId} {below : List Frame} {meth : Method} {c : Code} {b : Nat} {d0 : Drawn} (hd0 : s.drawn.sameBut d0 lw_cs) (hx : p.tables.exec = Jvm.exec) (hb : c.code = code) (hr : meth.sig.returnType = ret) (hlocks : meth.locks = false) {pc : Nat} {H : Heap} {ls : Array Slot} (hdg : decode code pc = .ok (.ireturn, 1)) : W p l e room_1 (s.setDrawn d0) m #[Value.ref b] below meth c H [] 601024 7293034 (lw_Z below #[Value.ref b] s) (F0 m pc ls [.int 1]) := by
  intro T hT X
  obtain ⟨fs, hret, hrun, hended, hW, hframe⟩ := X.leave (v := some (.int 1)) (hlocks := hlocks) (fun h => by rw [hr] at h; cases h)
  have hmeth' : T.vm.method? m = some meth := X.method'
  refine ⟨T.setFrames fs, ?_, .returned (some (.int 1)), hrun, hended, rfl, lw_closed hd0 ⟨_, rfl⟩ hW hframe⟩
  jvm_step X.here [X.here.top, hx, hb, hdg, hmeth', hr, ret, narrow_b1]
  (try refine ⟨rfl, ?_⟩); (try refine ⟨rfl, ?_⟩)
  first | (intro acts; rw [hret _ acts rfl rfl rfl]) | rw [hret _ _ rfl rfl rfl]
  exact Steps.refl _
/-- what holds at the law's entry: the machine, the code, the tables' words (any of lw_tbl by 'hts w (by decide +kernel)'), the script of L ints xs at the cell b, what the Statement gives of the start (any of its parts by flat_of_before) -/
def lw_At (p : Program) (s : State) (m : MethodId) (meth : Method) (c : Code) (b L : Nat) (xs : Nat → Int32) : Prop :=
  p.tables.exec = Jvm.exec ∧ c.code = code ∧ meth.sig.returnType = ret ∧ c.maxLocals = 9 ∧ s.vm.findClass R_law = some m.cls ∧ (∀ w ∈ lw_tbl, w.before #[Value.ref b] s = true) ∧ va_X b L xs s s.heap ∧ b < s.heap.size ∧ meth.locks = false ∧ (Jvm.Cond.and given_1 narrow_1).before #[Value.ref b] s = true
theorem lx_ret {p : Program} {l : Launch} {e : Env} {R : Room} {s : State} {m : MethodId} {below : List Frame} {meth : Method} {c : Code} {b : Nat} (hx : p.tables.exec = Jvm.exec) (hb : c.code = code) (hr : meth.sig.returnType = ret) (hlocks : meth.locks = false) {pc : Nat} {H : Heap} {ls : Array Slot} (hdg : decode code pc = .ok (.ireturn, 1)) : W p l e R s m #[Value.ref b] below meth c H [] 601024 7293034 (lw_Z below #[Value.ref b] s) (F0 m pc ls [.int 1]) := by
  intro T hT X
  obtain ⟨fs, hret, hrun, hended, hW, hframe⟩ := X.leave (v := some (.int 1)) (hlocks := hlocks) (fun h => by rw [hr] at h; cases h)
  have hmeth' : T.vm.method? m = some meth := X.method'
  refine ⟨T.setFrames fs, ?_, .returned (some (.int 1)), hrun, hended, rfl, lw_closed (d0 := s.drawn) (Drawn.sameBut.refl s.drawn lw_cs) ⟨_, rfl⟩ hW hframe⟩
  jvm_step X.here [X.here.top, hx, hb, hdg, hmeth', hr, ret, narrow_b1]
  (try refine ⟨rfl, ?_⟩); (try refine ⟨rfl, ?_⟩)
  first | (intro acts; rw [hret _ acts rfl rfl rfl]) | rw [hret _ _ rfl rfl rfl]
  exact Steps.refl _
/-- less room asked -/
theorem x_less {p : Program} {l : Launch} {e : Env} {R R' : Room} {s : State} {m : MethodId} {args : Array Value} {below : List Frame} {meth : Method} {c : Code} {T : State} {locs : List Loc} {cells slots : Nat} (hf : R'.frames ≤ R.frames) (hc : R'.cells ≤ R.cells) (hs : R'.slots ≤ R.slots) (hl : R'.locals ≤ R.locals) (X : Stand p l e R s m args below meth c T locs cells slots) : Stand p l e R' s m args below meth c T locs cells slots := by
  refine ⟨X.admits, X.cas, X.clock, X.frames, ?_, X.hears, X.method, X.code, X.here, X.tail, X.warmed, X.limits, X.bytes, X.same⟩
  have h := X.room
  simp only [State.hasRoom, Bool.and_eq_true, decide_eq_true_eq] at h ⊢
  obtain ⟨⟨⟨⟨h1, h2, h3, h4, h5, h6⟩, h7⟩, h8⟩, h9⟩ := h
  exact ⟨⟨⟨⟨by omega, by omega, by omega, by omega, by omega, h6⟩, by omega⟩, by omega⟩, h9⟩
theorem x_room {p : Program} {l : Launch} {e : Env} {R R' : Room} {s : State} {m : MethodId} {args : Array Value} {below : List Frame} {meth : Method} {c : Code} {H : Heap} {locs : List Loc} {cells slots : Nat} {Q : State → Prop} {g : JFrame} (hf : R'.frames ≤ R.frames) (hc : R'.cells ≤ R.cells) (hs : R'.slots ≤ R.slots) (hl : R'.locals ≤ R.locals) (k : W p l e R' s m args below meth c H locs cells slots Q g) : W p l e R s m args below meth c H locs cells slots Q g := fun T hT X => k T hT (x_less hf hc hs hl X)
/-- what the law's end has to be -/
def x_RetL (K : x_K) : Prop := match K with
  | (_, _, _, _, s, _, args, below, meth, _, Y, Q) => meth.sig.returnType = ret ∧ Y.2.2.2 = s.heap.size ∧ ∃ b : Nat, args = #[Value.ref b] ∧ Q = lw_Z below #[Value.ref b] s
theorem x_C_mono {l : Launch} {Y : x_Y} {y : MethodName} {cc : ByteArray} {maxL : Nat} {ret : Option FieldType} {d mc ms : Nat} {As : List Value} {M : x_M} {Qc Qd : Option Value → x_M → Prop} (h : x_C l Y y cc maxL ret d mc ms As M Qc) (hq : ∀ u M1, Qc u M1 → Qd u M1) : x_C l Y y cc maxL ret d mc ms As M Qd := by
  unfold x_C Met at h ⊢
  exact MetFree.mono h (fun _ _ q => q) (fun _ _ _ _ _ q => q) (fun a s o s' _ q => by
    obtain ⟨⟨v, M', e, h1, h2⟩, q2⟩ := q
    exact ⟨⟨v, M', e, hq _ _ h1, h2⟩, q2⟩)
theorem x_H_mono {l : Launch} {Y : x_Y} {y : MethodName} {cc : ByteArray} {maxL : Nat} {ret : Option FieldType} {hh : List (Nat × Nat × Nat × Nat)} {d mc ms : Nat} {As : List Value} {M : x_M} {Qc Qd : Option Value → x_M → Prop} (h : x_H l Y y cc maxL ret hh d mc ms As M Qc) (hq : ∀ u M1, Qc u M1 → Qd u M1) : x_H l Y y cc maxL ret hh d mc ms As M Qd := by
  unfold x_H Met at h ⊢
  exact MetFree.mono h (fun _ _ q => q) (fun _ _ _ _ _ q => q) (fun a s o s' _ q => by
    obtain ⟨⟨v, M', e, h1, h2⟩, q2⟩ := q
    exact ⟨⟨v, M', e, hq _ _ h1, h2⟩, q2⟩)
section XLAW
variable {K : x_K} {l : Launch} {Y0 : x_Y} {y : MethodName} {cc : ByteArray} {nL d mc ms cells slots pc : Nat} {lv : List (Nat × Value)} {st : List Value} {M : x_M}
theorem x_lend (C : x_Ctx K l Y0 y code 9 2048 601024 7293034) (E : x_RetL K) (dd : decode code pc = .ok (.ireturn, 1)) : x_X K 9 601024 7293034 pc lv [.int 1] M := by
  obtain ⟨p, l1, e, R, s, m, args, below, meth, c, Y, Q⟩ := K
  obtain ⟨hx, hb, hml, hown, hlk, hnm, hW, hok, hB, hfz, rfl, rfl, rfl⟩ := C
  obtain ⟨hr, hsz, b, rfl, rfl⟩ := E
  intro H locs ls hw hs hl
  exact va_forget (fun q hq => by rw [← hsz]; exact hs.2.2 q hq) (lx_ret hx hb hr hlk dd)
theorem x_sld (C : x_Ctx K l Y0 y cc nL d mc ms) {b L : Nat} {xs : Nat → Int32} {i : Int32} (dd : decode cc pc = .ok (.iaload, 1)) (hX : va_X b L xs Y0.1 Y0.1.heap) (hbl : b < Y0.2.2.2) (hin : vp_in i L) (k : x_X K nL cells slots (pc + 1) lv (.int (xs i.toNatClampNeg) :: st) M) : x_X K nL cells slots pc lv (.int i :: .ref b :: st) M := by
  obtain ⟨p, l1, e, R, s, m, args, below, meth, c, Y, Q⟩ := K
  obtain ⟨hx, hb, hml, hown, hlk, hnm, hW, hok, hB, hfz, rfl, rfl, rfl⟩ := C
  intro H locs ls hw hs hl
  exact va_sld (A := x_fr Y) (H0 := s.heap) hx hb ((va_X.moved hW.alike hX).kept (hfz b hbl)) (Nat.lt_of_lt_of_le hbl hB) (Nat.not_le.mpr hbl) hs hin dd (k H locs ls hw hs hl)
theorem x_slen (C : x_Ctx K l Y0 y cc nL d mc ms) {b L : Nat} {xs : Nat → Int32} (dd : decode cc pc = .ok (.arraylength, 1)) (hX : va_X b L xs Y0.1 Y0.1.heap) (hbl : b < Y0.2.2.2) (k : x_X K nL cells slots (pc + 1) lv (.int (nI L) :: st) M) : x_X K nL cells slots pc lv (.ref b :: st) M := by
  obtain ⟨p, l1, e, R, s, m, args, below, meth, c, Y, Q⟩ := K
  obtain ⟨hx, hb, hml, hown, hlk, hnm, hW, hok, hB, hfz, rfl, rfl, rfl⟩ := C
  intro H locs ls hw hs hl
  exact va_slen (A := x_fr Y) (H0 := s.heap) hx hb ((va_X.moved hW.alike hX).kept (hfz b hbl)) (Nat.lt_of_lt_of_le hbl hB) (Nat.not_le.mpr hbl) hs dd (k H locs ls hw hs hl)
theorem x_dstore (C : x_Ctx K l Y0 y cc nL d mc ms) {i : Nat} {x : UInt64} (dd : decode cc pc = .ok (.dstore i, 2)) (hn : i + 1 < nL) (k : x_X K nL cells slots (pc + 2) (x_put2 lv i (.double x)) st M) : x_X K nL cells slots pc lv (.double x :: st) M := by
  obtain ⟨p, l1, e, R, s, m, args, below, meth, c, Y, Q⟩ := K
  obtain ⟨hx, hb, hml, hown, hlk, hnm, hW, hok, hB, hfz, rfl, rfl, rfl⟩ := C
  intro H locs ls hw hs hl
  exact lv_dstore hx hb dd hl hn rfl (fun ls hl => k H locs ls hw hs hl)
theorem x_dload (C : x_Ctx K l Y0 y cc nL d mc ms) {i : Nat} {x : UInt64} (dd : decode cc pc = .ok (.dload i, 2)) (hv : x_loc lv i = some (.double x)) (k : x_X K nL cells slots (pc + 2) lv (.double x :: st) M) : x_X K nL cells slots pc lv st M := by
  obtain ⟨p, l1, e, R, s, m, args, below, meth, c, Y, Q⟩ := K
  obtain ⟨hx, hb, hml, hown, hlk, hnm, hW, hok, hB, hfz, rfl, rfl, rfl⟩ := C
  intro H locs ls hw hs hl
  exact lv_dload hx hb dd (x_lv_at hl hv) (k H locs ls hw hs hl)
theorem x_dcmp (C : x_Ctx K l Y0 y cc nL d mc ms) {x z : UInt64} {op : CmpOp} (dd : decode cc pc = .ok (.dcmp op, 1)) (k : x_X K nL cells slots (pc + 1) lv (.int (Op.cmpValue (FP.dcmp x z) op) :: st) M) : x_X K nL cells slots pc lv (.double z :: .double x :: st) M := by
  obtain ⟨p, l1, e, R, s, m, args, below, meth, c, Y, Q⟩ := K
  obtain ⟨hx, hb, hml, hown, hlk, hnm, hW, hok, hB, hfz, rfl, rfl, rfl⟩ := C
  intro H locs ls hw hs hl
  exact lv_dcmp hx hb dd (k H locs ls hw hs hl)
end XLAW
theorem l_in {i L k : Nat} {j : Int32} (hj : j = nI k) (hk : k ≤ 5) (hi : i + 6 ≤ L) (hL : L ≤ 3072) : vp_in (nI i + j) L := by
  subst hj
  rw [nI_add]
  exact vp_in_nI (by omega) (by omega)
/-- the law's locals at the head of a turn -/
abbrev lvL (b c i : Nat) : List (Nat × Value) := [(0, .ref b), (1, .ref c), (2, .ref (c + 96)), (3, .ref (c + 142)), (4, .int (nI i))]
