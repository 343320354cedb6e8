theorem x_nw_ov {M : x_M} {c z : x_E} : x_ov (x_nw M c) M.2 [z] = x_nw M z := by
  refine Prod.ext (funext fun q => ?_) rfl
  simp only [x_ov, x_nw, List.length_cons, List.length_nil]
  by_cases h : q = M.2
  · subst h
    rw [if_pos ⟨Nat.le_refl _, by omega⟩, if_pos rfl, Nat.sub_self]
    rfl
  · rw [if_neg (by omega), if_neg h, if_neg h]
theorem x_nwov {M : x_M} {a : Nat} {L : List x_E} {c : x_E} (h : a + L.length ≤ M.2) : x_nw (x_ov M a L) c = x_ov (x_nw M c) a L := by
  refine Prod.ext (funext fun q => ?_) rfl
  show (if q = M.2 then some c else (if a ≤ q ∧ q < a + L.length then L[q - a]? else M.1 q)) = (if a ≤ q ∧ q < a + L.length then L[q - a]? else (if q = M.2 then some c else M.1 q))
  by_cases e : q = M.2
  · rw [if_pos e, if_neg (by omega), if_pos e]
  · rw [if_neg e, if_neg e]
theorem x_nw_bk {M : x_M} {c : x_E} : x_bk (x_nw M c) M.2 [c] := by
  intro j c' h
  cases j with
  | zero =>
    cases h
    show (if M.2 + 0 = M.2 then some c else _) = _
    rw [if_pos (Nat.add_zero _)]
  | succ j => cases h
theorem x_nw_far {M : x_M} {a : Nat} {L : List x_E} {c : x_E} (h : x_bk M a L) (hl : a + L.length ≤ M.2) : x_bk (x_nw M c) a L := by
  intro j c' hc
  have hj : j < L.length := (List.getElem?_eq_some_iff.mp hc).1
  show (if a + j = M.2 then some c else M.1 (a + j)) = _
  rw [if_neg (by omega)]
  exact h j c' hc
theorem x_st_ov1 {M : x_M} {a : Nat} {c : x_E} : x_st M a c = x_ov M a [c] := by
  refine Prod.ext (funext fun q => ?_) rfl
  simp only [x_st, x_ov, List.length_cons, List.length_nil]
  by_cases e : q = a
  · subst e
    rw [if_pos rfl, if_pos ⟨Nat.le_refl _, by omega⟩, Nat.sub_self]
    rfl
  · rw [if_neg e, if_neg (by omega)]
/-- the tape behind k bytes of words w -/
def b_put (w f : Nat → Int32) (n : Nat) : Nat → Nat → Int32
  | 0 => f
  | k + 1 => upd (b_put w f n k) (n + k) (b_by (w (k / 4)) (k % 4))
def b_f5 (w1 w2 w3 w4 w5 : Int32) : Nat → Int32 := upd (upd (upd (upd (upd (fun _ => 0) 0 w1) 1 w2) 2 w3) 3 w4) 4 w5
theorem b_put20 {f : Nat → Int32} {n : Nat} {w1 w2 w3 w4 w5 : Int32} : b_put (b_f5 w1 w2 w3 w4 w5) f n 20 = b_feed f n w1 w2 w3 w4 w5 := by
  simp [b_put, b_f5, b_feed, b_w4, upd, Nat.add_assoc]
theorem b_ix : ∀ k, k < 20 → ((¬ nI k / 4 < 0) ∧ (nI k / 4).toNatClampNeg < 5) ∧ (nI k / 4).toNatClampNeg = k / 4 ∧ (((24 : Int32) - 8 * (nI k - nI k / 4 * 4)) &&& 31) = (nI (24 - 8 * (k % 4)) &&& 31) := by decide +kernel
theorem x_feedH {M : x_M} {o tp : Nat} {c c' z T : x_E} {e : x_E} (h1 : o + 1 ≤ M.2) (h2 : o + 1 ≤ tp ∨ tp + 1 ≤ o) : x_ov (x_ov (x_ov (x_ov (x_nw M e) o [c]) M.2 [z]) tp [T]) o [c'] = x_ov (x_ov (x_nw M z) tp [T]) o [c'] := by
  rw [x_ov_comm (M := x_nw M e) (a := o) (L := [c]) (b := M.2) (L' := [z]) (Or.inl h1), x_nw_ov]
  exact x_ov3 (L := [c]) (L' := [c']) h2 rfl
set_option maxHeartbeats 4000000 in
set_option maxRecDepth 100000 in
theorem c_X11_feed {l : Launch} {Y0 : x_Y} (hO : x_Ok Y0) {M : x_M} {o q n : Nat} {th ea tk dp : Int32} {tp kd fr mn rl me rd t m m2 : Nat} (ho : x_bk M o [.inr (11, mdF th (nI n) ea tk dp tp kd fr mn rl me q rd t m m2)]) {f : Nat → Int32} {w1 w2 w3 w4 w5 : Int32} (htp : x_bk M tp [.inl (0, 2000, .inl f)]) (hn : n ≤ 1980) (hop : o + 1 ≤ tp ∨ tp + 1 ≤ o) (hoM : o + 1 ≤ M.2) (htM : tp + 1 ≤ M.2) : x_C l Y0 yX11_feed cX11_feed 8 (some .int) 2 1 5 [.ref o, .int w1, .int w2, .int w3, .int w4, .int w5] M (fun u M1 => u = some (.int (nI (n + 20))) ∧ M1 = x_ov (x_ov (x_nw M (.inl (0, 5, .inl (b_f5 w1 w2 w3 w4 w5)))) tp [.inl (0, 2000, .inl (b_feed f n w1 w2 w3 w4 w5))]) o [.inr (11, mdF 0 (nI (n + 20)) ea tk dp tp kd fr mn rl me q rd t m m2)]) := by
  refine x_start hO (by decide +kernel) (Nat.le_of_ble_eq_true rfl) (fun K C E => ?_)
  have h80 : nI n ≤ (1980 : Int32) := by
    have e : (1980 : Int32).toInt = 1980 := by decide
    rw [Int32.le_iff_toInt_le, nI_toInt (show n < 2 ^ 31 by omega), e]
    omega
  have hoZ : ∀ Lo Lz : List x_E, Lo.length = 1 → Lz.length = 1 → x_bk (x_ov (x_ov (x_nw M (.inl (0, 5, .inl (fun _ => 0)))) o Lo) M.2 Lz) o Lo := fun Lo Lz h1 h2 => x_ov_far 1 x_ov_bk h2 (by rw [h1]; exact Or.inl hoM)
  have hz0 : ∀ Lo : List x_E, Lo.length = 1 → x_bk (x_ov (x_nw M (.inl (0, 5, .inl (fun _ => 0)))) o Lo) M.2 [(.inl (0, 5, .inl (fun _ => 0)))] := fun Lo h => x_ov_far 1 x_nw_bk h (Or.inr hoM)
  have hoT : ∀ L : List x_E, L.length = 1 → x_bk (x_ov (x_ov (x_ov (x_nw M (.inl (0, 5, .inl (fun _ => 0)))) o [.inr (11, mdF 0 (nI n) ea tk dp tp kd fr mn rl me q rd t m m2)]) M.2 [.inl (0, 5, .inl (b_f5 w1 w2 w3 w4 w5))]) tp L) o [.inr (11, mdF 0 (nI n) ea tk dp tp kd fr mn rl me q rd t m m2)] := fun L h => x_ov_far 1 (hoZ _ _ rfl rfl) h hop
  have hzT : ∀ L : List x_E, L.length = 1 → x_bk (x_ov (x_ov (x_ov (x_nw M (.inl (0, 5, .inl (fun _ => 0)))) o [.inr (11, mdF 0 (nI n) ea tk dp tp kd fr mn rl me q rd t m m2)]) M.2 [.inl (0, 5, .inl (b_f5 w1 w2 w3 w4 w5))]) tp L) M.2 [.inl (0, 5, .inl (b_f5 w1 w2 w3 w4 w5))] := fun L h => x_ov_far 1 x_ov_bk h (Or.inr htM)
  have htX : x_bk (x_ov (x_ov (x_nw M (.inl (0, 5, .inl (fun _ => 0)))) o [.inr (11, mdF 0 (nI n) ea tk dp tp kd fr mn rl me q rd t m m2)]) M.2 [.inl (0, 5, .inl (b_f5 w1 w2 w3 w4 w5))]) tp [.inl (0, 2000, .inl f)] := x_ov_far 1 (x_ov_far 1 (x_nw_far htp htM) rfl hop.symm) rfl (Or.inl htM)
  refine x_to (x_ov_self ho).symm ?_
  have lp : ∀ (w k : Nat) (x : Int32) (g : Nat → Int32), k + w = 20 → x = nI k → g = b_put (b_f5 w1 w2 w3 w4 w5) f n k → x_X K 8 1 5 51 [(0, .ref o), (1, .int w1), (2, .int w2), (3, .int w3), (4, .int w4), (5, .int w5), (6, .ref M.2), (7, .int x)] [] (x_ov (x_ov (x_ov (x_nw M (.inl (0, 5, .inl (fun _ => 0)))) o [.inr (11, mdF 0 (nI n) ea tk dp tp kd fr mn rl me q rd t m m2)]) M.2 [.inl (0, 5, .inl (b_f5 w1 w2 w3 w4 w5))]) tp [.inl (0, 2000, .inl g)]) := by
    intro w
    induction w with
    | zero =>
      intro k x g hk hx9 hz
      subst hx9
      have e : k = 20 := by omega
      refine x_iload C dX11_feed_51 rfl ?_
      refine x_bipush (v := 20) C dX11_feed_53 (by decide) ?_
      refine x_icmp_ge (tgt := 98) C dX11_feed_55 (by decide) (fun c55 => ?_) (fun c55 => absurd (show nI 20 ≤ nI k from nI_le (by omega) (by omega)) c55)
      refine x_aload_n C dX11_feed_98 rfl rfl ?_
      refine x_dup C dX11_feed_99 rfl ?_
      refine x_getfield C dX11_feed_100 fX11_93 ((hoT _ rfl) 0 _ rfl) rfl ?_
      refine x_bipush (v := 20) C dX11_feed_103 (by decide) ?_
      refine x_iadd C dX11_feed_105 ?_
      rw [show nI n + (20 : Int32) = nI (n + 20) from nI_add n 20]
      refine x_putfield C dX11_feed_106 fX11_93 ((hoT _ rfl) 0 _ rfl) rfl rfl (Nat.le_of_ble_eq_true rfl) ?_
      refine x_to x_st_ov1 ?_
      refine x_aload_n C dX11_feed_109 rfl rfl ?_
      refine x_getfield C dX11_feed_110 fX11_93 (x_ovg 0 rfl) rfl ?_
      refine x_iret C E dX11_feed_113 ?_
      refine ⟨rfl, ?_⟩
      rw [hz, e, b_put20]
      exact x_feedH hoM hop
    | succ w ih =>
      intro k x g hk hx9 hz
      subst hx9
      have hix := b_ix k (by omega)
      refine x_iload C dX11_feed_51 rfl ?_
      refine x_bipush (v := 20) C dX11_feed_53 (by decide) ?_
      refine x_icmp_ge (tgt := 98) C dX11_feed_55 (by decide) (fun c55 => absurd c55 (show ¬ nI 20 ≤ nI k from nI_ge (by omega) (by decide))) (fun c55 => ?_)
      refine x_aload_n C dX11_feed_58 rfl rfl ?_
      refine x_getfield C dX11_feed_59 fX11_9 ((hoT _ rfl) 0 _ rfl) rfl ?_
      refine x_aload_n C dX11_feed_62 rfl rfl ?_
      refine x_getfield C dX11_feed_63 fX11_93 ((hoT _ rfl) 0 _ rfl) rfl ?_
      refine x_iload C dX11_feed_66 rfl ?_
      refine x_iadd C dX11_feed_68 ?_
      rw [nI_add]
      refine x_aload C dX11_feed_69 rfl ?_
      refine x_iload C dX11_feed_71 rfl ?_
      refine x_iconst (v := 4) C dX11_feed_73 (by decide) ?_
      refine x_idiv C dX11_feed_74 (by decide) ?_
      refine x_iaload C dX11_feed_75 ((hzT _ rfl) 0 _ rfl) (fun h => h.elim hix.1.1 (fun h => absurd hix.1.2 (Nat.not_lt.mpr h))) ?_
      rw [hix.2.1]
      refine x_bipush (v := 24) C dX11_feed_76 (by decide) ?_
      refine x_bipush (v := 8) C dX11_feed_78 (by decide) ?_
      refine x_iload C dX11_feed_80 rfl ?_
      refine x_iconst (v := 4) C dX11_feed_82 (by decide) ?_
      refine x_irem C dX11_feed_83 (by decide) ?_
      refine x_imul C dX11_feed_84 ?_
      refine x_isub C dX11_feed_85 ?_
      refine x_ishr C dX11_feed_86 ?_
      refine x_sipush (v := 255) C dX11_feed_87 (by decide) ?_
      refine x_iand C dX11_feed_90 ?_
      refine x_topi (b_by ((b_f5 w1 w2 w3 w4 w5) (k / 4)) (k % 4)) (congrArg (fun s => ((b_f5 w1 w2 w3 w4 w5) (k / 4) >>> s) &&& 255) hix.2.2) ?_
      refine x_iastore C dX11_feed_91 (x_ovg 0 rfl) (vp_in_nI (show n + k < 2000 by omega) (by decide)) ?_
      refine x_to (x_st_ov 0 (Nat.le_of_ble_eq_true rfl)) ?_
      rw [nI_clamp (show n + k < 2 ^ 31 by omega)]
      refine x_iinc (v := 1) C dX11_feed_92 rfl (by decide) rfl (by decide) ?_
      refine x_goto (tgt := 51) C dX11_feed_95 (by decide) ?_
      refine x_take 8 ?_
      exact ih (k + 1) _ _ (by omega) (nI_1 k) (by rw [hz]; rfl)
  refine x_aload_n C dX11_feed_0 rfl rfl ?_
  refine x_iconst (v := 0) C dX11_feed_1 (by decide) ?_
  refine x_putfield C dX11_feed_2 fX11_60 (x_ovg 0 rfl) rfl rfl (Nat.le_of_ble_eq_true rfl) ?_
  refine x_to (x_st_ov 0 (Nat.le_of_ble_eq_true rfl)) ?_
  refine x_aload_n C dX11_feed_5 rfl rfl ?_
  refine x_getfield C dX11_feed_6 fX11_93 (x_ovg 0 rfl) rfl ?_
  refine x_sipush (v := 1980) C dX11_feed_9 (by decide) ?_
  refine x_icmp_le (tgt := 21) C dX11_feed_12 (by decide) (fun c12 => ?_) (fun c12 => absurd h80 c12)
  refine x_iconst (v := 5) C dX11_feed_21 (by decide) ?_
  refine x_newarrI (N := 5) C dX11_feed_22 o_ai (by decide) rfl (by decide) (by decide) (by decide) ?_
  refine x_to (x_nwov (by exact hoM)) ?_
  refine x_to (x_ov_self (hz0 _ rfl)).symm ?_
  refine x_dup C dX11_feed_24 rfl ?_
  refine x_iconst (v := 0) C dX11_feed_25 (by decide) ?_
  refine x_iload_n C dX11_feed_26 rfl rfl ?_
  refine x_iastore C dX11_feed_27 (x_ovg 0 rfl) (show ¬ ((0 : Int32) < 0 ∨ 5 ≤ (0 : Int32).toNatClampNeg) by decide) ?_
  refine x_to (x_st_ov 0 (Nat.le_of_ble_eq_true rfl)) ?_
  refine x_dup C dX11_feed_28 rfl ?_
  refine x_iconst (v := 1) C dX11_feed_29 (by decide) ?_
  refine x_iload_n C dX11_feed_30 rfl rfl ?_
  refine x_iastore C dX11_feed_31 (x_ovg 0 rfl) (show ¬ ((1 : Int32) < 0 ∨ 5 ≤ (1 : Int32).toNatClampNeg) by decide) ?_
  refine x_to (x_st_ov 0 (Nat.le_of_ble_eq_true rfl)) ?_
  refine x_dup C dX11_feed_32 rfl ?_
  refine x_iconst (v := 2) C dX11_feed_33 (by decide) ?_
  refine x_iload_n C dX11_feed_34 rfl rfl ?_
  refine x_iastore C dX11_feed_35 (x_ovg 0 rfl) (show ¬ ((2 : Int32) < 0 ∨ 5 ≤ (2 : Int32).toNatClampNeg) by decide) ?_
  refine x_to (x_st_ov 0 (Nat.le_of_ble_eq_true rfl)) ?_
  refine x_dup C dX11_feed_36 rfl ?_
  refine x_iconst (v := 3) C dX11_feed_37 (by decide) ?_
  refine x_iload C dX11_feed_38 rfl ?_
  refine x_iastore C dX11_feed_40 (x_ovg 0 rfl) (show ¬ ((3 : Int32) < 0 ∨ 5 ≤ (3 : Int32).toNatClampNeg) by decide) ?_
  refine x_to (x_st_ov 0 (Nat.le_of_ble_eq_true rfl)) ?_
  refine x_dup C dX11_feed_41 rfl ?_
  refine x_iconst (v := 4) C dX11_feed_42 (by decide) ?_
  refine x_iload C dX11_feed_43 rfl ?_
  refine x_iastore C dX11_feed_45 (x_ovg 0 rfl) (show ¬ ((4 : Int32) < 0 ∨ 5 ≤ (4 : Int32).toNatClampNeg) by decide) ?_
  refine x_to (x_st_ov 0 (Nat.le_of_ble_eq_true rfl)) ?_
  refine x_to (show _ = (x_ov (x_ov (x_nw M (.inl (0, 5, .inl (fun _ => 0)))) o [.inr (11, mdF 0 (nI n) ea tk dp tp kd fr mn rl me q rd t m m2)]) M.2 [.inl (0, 5, .inl (b_f5 w1 w2 w3 w4 w5))]) from rfl) ?_
  refine x_to (x_ov_self htX).symm ?_
  refine x_astore C dX11_feed_46 rfl (by decide) ?_
  refine x_iconst (v := 0) C dX11_feed_48 (by decide) ?_
  refine x_istore C dX11_feed_49 rfl (by decide) ?_
  refine x_take 8 ?_
  exact lp 20 0 0 f (by omega) rfl rfl
