set_option maxHeartbeats 4000000 in
set_option maxRecDepth 100000 in
theorem c_X11_word {l : Launch} {Y0 : x_Y} (hO : x_Ok Y0) {M : x_M} {o r at9 len : Nat} {Ev : rE} {R : rS} (hb : rB M o r Ev R) (hc : x_Stc Y0) {wa : Nat} {sa st9 : Nat → Nat} (hW : x_Wd Y0 wa sa st9) (hl : at9 + len ≤ 2000) : x_C l Y0 yX11_word cX11_word 6 (some .int) 5 0 0 [.ref o, .int (nI at9), .int (nI len)] M (fun u M1 => u = some (.int (r_word (Ev.2 20) at9 len)) ∧ M1 = M) := by
  refine x_start hO (by decide +kernel) (Nat.le_of_ble_eq_true rfl) (fun K C E => ?_)
  have j78 : ∀ (k : Nat) (b : Bool), k < 22 → (b = false → x_X K 6 0 0 2 [(0, .ref o), (1, .int (nI at9)), (2, .int (nI len)), (3, .int (nI (k + 1)))] [] M) → (b = true → r_word (Ev.2 20) at9 len = nI k) → x_X K 6 0 0 78 [(0, .ref o), (1, .int (nI at9)), (2, .int (nI len)), (3, .int (nI k)), (4, .int (h_b b))] [] M := by
      intro k b hk hf ht
      refine x_iload C dX11_word_78 rfl ?_
      refine x_if_eq (tgt := 85) C dX11_word_80 (by decide) (fun c80 => ?_) (fun c80 => ?_)
      · have c80 := b_n c80
        refine x_iinc (v := 1) C dX11_word_85 rfl (by decide) rfl (by decide) ?_
        refine x_goto (tgt := 2) C dX11_word_88 (by decide) ?_
        refine x_take 4 ?_
        have q9 := hf (Bool.eq_false_iff.mpr c80)
        rw [← nI_1] at q9
        exact q9
      · have c80 := b_y c80
        refine x_iload_n C dX11_word_83 rfl rfl ?_
        refine x_iret C E dX11_word_84 ?_
        exact ⟨by rw [ht c80], rfl⟩
  have lpi : ∀ (k : Nat), k < 22 → (∀ b, b = r_wq (Ev.2 20) at9 len k → x_X K 6 0 0 78 [(0, .ref o), (1, .int (nI at9)), (2, .int (nI len)), (3, .int (nI k)), (4, .int (h_b b))] [] M) → ∀ (w j : Nat) (z : Int32) (b : Bool), j + w = len → z = nI j → (b = false → r_wq (Ev.2 20) at9 len k = false) → (b = true → (w_L.getD k []).length = len ∧ h_all (fun i => decide (nI ((w_L.getD k []).getD i 0) = (Ev.2 20) (at9 + i))) j = true) → x_X K 6 0 0 32 [(0, .ref o), (1, .int (nI at9)), (2, .int (nI len)), (3, .int (nI k)), (4, .int (h_b b)), (5, .int z)] [] M := by
    intro k hk kk w
    have hws := hW.2.2 k hk
    induction w with
    | zero =>
      intro j z b hj hz hf ht
      subst hz
      have e : j = len := by omega
      refine x_iload C dX11_word_32 rfl ?_
      refine x_if_eq (tgt := 78) C dX11_word_34 (by decide) (fun c34 => ?_) (fun c34 => ?_)
      · have c34 := b_n c34
        refine x_take 5 ?_
        exact kk b ((Bool.eq_false_iff.mpr c34).trans (hf (Bool.eq_false_iff.mpr c34)).symm)
      · have c34 := b_y c34
        refine x_iload C dX11_word_37 rfl ?_
        refine x_iload_n C dX11_word_39 rfl rfl ?_
        refine x_icmp_ge (tgt := 78) C dX11_word_40 (by decide) (fun c40 => ?_) (fun c40 => absurd (nI_le (by omega) (by omega)) c40)
        refine x_take 5 ?_
        exact kk b (c34.trans (show r_wq (Ev.2 20) at9 len k = true by unfold r_wq; rw [decide_eq_true (ht c34).1, ← e, (ht c34).2]; rfl).symm)
    | succ w ih =>
      intro j z b hj hz hf ht
      subst hz
      refine x_iload C dX11_word_32 rfl ?_
      refine x_if_eq (tgt := 78) C dX11_word_34 (by decide) (fun c34 => ?_) (fun c34 => ?_)
      · have c34 := b_n c34
        refine x_take 5 ?_
        exact kk b ((Bool.eq_false_iff.mpr c34).trans (hf (Bool.eq_false_iff.mpr c34)).symm)
      · have c34 := b_y c34
        refine x_iload C dX11_word_37 rfl ?_
        refine x_iload_n C dX11_word_39 rfl rfl ?_
        refine x_icmp_ge (tgt := 78) C dX11_word_40 (by decide) (fun c40 => absurd c40 (nI_ge (by omega) (by omega))) (fun c40 => ?_)
        refine x_getsS C dX11_word_43 sX11_116 hW.1 ?_
        refine x_iload_n C dX11_word_46 rfl rfl ?_
        refine x_aalT C dX11_word_47 hW.2.1 (nI_in hk (by decide)) rfl ?_
        rw [nI_clamp (show k < 2 ^ 31 by omega)]
        refine x_iload C dX11_word_48 rfl ?_
        refine x_callT (As := [_]) C dX11_word_50 kX11_124 (c_J0_charAt hO hc hws (w_as k (by omega)) (show j < (w_L.getD k []).length by rw [(ht c34).1]; omega)) hws.1 rfl rfl rfl (by decide) ⟨Nat.zero_le _, Nat.zero_le _⟩ (Nat.le_of_ble_eq_true rfl) ?_
        rintro _ _ ⟨rfl, rfl⟩
        refine x_aload_n C dX11_word_53 rfl rfl ?_
        refine x_getfield C dX11_word_54 fX11_9 (hb.1 0 _ rfl) rfl ?_
        refine x_iload_n C dX11_word_57 rfl rfl ?_
        refine x_iload C dX11_word_58 rfl ?_
        refine x_iadd C dX11_word_60 ?_
        rw [nI_add]
        refine x_iaload C dX11_word_61 (hb.1 1 _ rfl) (nI_in (show at9 + j < 2000 by omega) (by decide)) ?_
        rw [nI_clamp (show at9 + j < 2 ^ 31 by omega)]
        refine x_icmp_ne (tgt := 69) C dX11_word_62 (by decide) (fun c62 => ?_) (fun c62 => ?_)
        · refine x_iconst (v := 0) C dX11_word_69 (by decide) ?_
          refine x_istore C dX11_word_70 rfl (by decide) ?_
          refine x_iinc (v := 1) C dX11_word_72 rfl (by decide) rfl (by decide) ?_
          refine x_goto (tgt := 32) C dX11_word_75 (by decide) ?_
          exact ih (j + 1) _ false (by omega) (nI_1 j) (fun _ => by unfold r_wq; rw [h_all_no (j := j) (decide_eq_false c62) len (by omega), Bool.and_false]) (fun q => absurd q Bool.false_ne_true)
        · refine x_iconst (v := 1) C dX11_word_65 (by decide) ?_
          refine x_goto (tgt := 70) C dX11_word_66 (by decide) ?_
          refine x_istore C dX11_word_70 rfl (by decide) ?_
          refine x_iinc (v := 1) C dX11_word_72 rfl (by decide) rfl (by decide) ?_
          refine x_goto (tgt := 32) C dX11_word_75 (by decide) ?_
          exact ih (j + 1) _ true (by omega) (nI_1 j) (fun q => absurd q.symm Bool.false_ne_true) (fun _ => ⟨(ht c34).1, by show (h_all (fun i => decide (nI ((w_L.getD k []).getD i 0) = (Ev.2 20) (at9 + i))) j && decide (nI ((w_L.getD k []).getD j 0) = (Ev.2 20) (at9 + j))) = true; rw [(ht c34).2, decide_eq_true c62]; rfl⟩)
  have lp : ∀ (w k : Nat) (z : Int32), k + w = 22 → z = nI k → r_word (Ev.2 20) at9 len = r_wlp (Ev.2 20) at9 len w k → x_X K 6 0 0 2 [(0, .ref o), (1, .int (nI at9)), (2, .int (nI len)), (3, .int z)] [] M := by
    intro w
    induction w with
    | zero =>
      intro k z hk hz hq
      subst hz
      have e : k = 22 := by omega
      refine x_iload_n C dX11_word_2 rfl rfl ?_
      refine x_getsS C dX11_word_3 sX11_116 hW.1 ?_
      refine x_alenT C dX11_word_6 hW.2.1 ?_
      refine x_icmp_ge (tgt := 91) C dX11_word_7 (by decide) (fun c7 => ?_) (fun c7 => absurd (by rw [e]; exact nI_le (Nat.le_refl _) (by decide)) c7)
      refine x_bipush (v := 40) C dX11_word_91 (by decide) ?_
      refine x_iret C E dX11_word_93 ?_
      exact ⟨by rw [hq]; rfl, rfl⟩
    | succ w ih =>
      intro k z hk hz hq
      subst hz
      have hws := hW.2.2 k (by omega)
      refine x_iload_n C dX11_word_2 rfl rfl ?_
      refine x_getsS C dX11_word_3 sX11_116 hW.1 ?_
      refine x_alenT C dX11_word_6 hW.2.1 ?_
      refine x_icmp_ge (tgt := 91) C dX11_word_7 (by decide) (fun c7 => absurd c7 (nI_ge (show k < 22 by omega) (by decide))) (fun c7 => ?_)
      refine x_getsS C dX11_word_10 sX11_116 hW.1 ?_
      refine x_iload_n C dX11_word_13 rfl rfl ?_
      refine x_aalT C dX11_word_14 hW.2.1 (nI_in (show k < 22 by omega) (by decide)) rfl ?_
      rw [nI_clamp (show k < 2 ^ 31 by omega)]
      refine x_callT (As := []) C dX11_word_15 kX11_120 (c_J0_length_8abf5 hO hc hws (w_as k (by omega))) hws.1 rfl rfl rfl (by decide) ⟨Nat.zero_le _, Nat.zero_le _⟩ (Nat.le_of_ble_eq_true rfl) ?_
      rintro _ _ ⟨rfl, rfl⟩
      refine x_iload_n C dX11_word_18 rfl rfl ?_
      refine x_icmp_ne (tgt := 26) C dX11_word_19 (by decide) (fun c19 => ?_) (fun c19 => ?_)
      · refine x_iconst (v := 0) C dX11_word_26 (by decide) ?_
        refine x_istore C dX11_word_27 rfl (by decide) ?_
        refine x_iconst (v := 0) C dX11_word_29 (by decide) ?_
        refine x_istore C dX11_word_30 rfl (by decide) ?_
        refine lpi k (by omega) (fun b hb9 => j78 k b (by omega) (fun hf => ih (k + 1) _ (by omega) rfl (by rw [hq]; simp only [r_wlp]; rw [if_neg (by rw [← hb9, hf]; exact Bool.false_ne_true)])) (fun ht => by rw [hq]; simp only [r_wlp]; rw [if_pos (hb9 ▸ ht)])) len 0 0 false (by omega) rfl (fun _ => by unfold r_wq; rw [decide_eq_false (fun q => c19 (by rw [q])), Bool.false_and]) (fun q => absurd q Bool.false_ne_true)
      · refine x_iconst (v := 1) C dX11_word_22 (by decide) ?_
        refine x_goto (tgt := 27) C dX11_word_23 (by decide) ?_
        refine x_istore C dX11_word_27 rfl (by decide) ?_
        refine x_iconst (v := 0) C dX11_word_29 (by decide) ?_
        refine x_istore C dX11_word_30 rfl (by decide) ?_
        refine lpi k (by omega) (fun b hb9 => j78 k b (by omega) (fun hf => ih (k + 1) _ (by omega) rfl (by rw [hq]; simp only [r_wlp]; rw [if_neg (by rw [← hb9, hf]; exact Bool.false_ne_true)])) (fun ht => by rw [hq]; simp only [r_wlp]; rw [if_pos (hb9 ▸ ht)])) len 0 0 true (by omega) rfl (fun q => absurd q.symm Bool.false_ne_true) (fun _ => ⟨(nI_eq (by have := (w_as k (by omega)).1; omega) (by omega)).mp c19, rfl⟩)
  refine x_iconst (v := 0) C dX11_word_0 (by decide) ?_
  refine x_istore_n C dX11_word_1 rfl rfl (by decide) ?_
  exact lp 22 0 0 (by omega) rfl rfl
