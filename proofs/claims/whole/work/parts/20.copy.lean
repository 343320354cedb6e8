section
variable {K : x_K} {l : Launch} {Y0 : x_Y} {y : MethodName} {cc : ByteArray} {nL d mc ms cells slots pc : Nat} {lv : List (Nat × Value)} {M : x_M}
theorem acX10_51 : Cond.methodLink RX10 51 arraycopyName ∈ lw_tbl := (x_t6 _ (List.mem_of_getElem? (i := 103) (by decide +kernel)))
theorem x_arraycopy (C : x_Ctx K l Y0 y cc nL d mc ms) {idx a a0 t : Nat} {f g : Nat → Int32} {n0 n1 N : Nat} {n : Int32} {rest : List Value} (dd : decode cc pc = .ok (.invokestatic idx, 3)) (hL : Cond.methodLink y.cls idx arraycopyName ∈ lw_tbl) (ha0 : M.1 a0 = some (.inl (t, n0, .inl f))) (ha1 : M.1 a = some (.inl (t, n1, .inl g))) (ht : t = 0 ∨ t = 2) (hn : n = nI N) (h4 : N ≤ n0) (h5 : N ≤ n1) (hN : N < 2 ^ 31) (hfit : ∀ i, i < N → t = 2 → f i = 0 ∨ f i = 1) (hd9 : 2 ≤ d) (hr9 : (rest.map fun v => v.category).sum ≤ 8)
    (k : x_X K nL cells slots (pc + 3) lv rest (x_st M a (.inl (t, n1, .inl (s_fill N g f))))) : x_X K nL cells slots pc lv (.int n :: .int 0 :: .ref a :: .int 0 :: .ref a0 :: rest) M := by
  obtain ⟨p, l1, e, R, s, m, args, below, meth, c, Y, Q⟩ := K
  have hKs := x_va_K C
  have hw0 := fun {w : Cond} (h : w ∈ lw_tbl) (hg : x_gd w) => x_word C h hg
  obtain ⟨hx, hb, hml, hown, hlk, hnm, hW, hok, hB, hfz, rfl, rfl, rfl⟩ := C
  intro H locs ls hw hs hl T hT X
  obtain ⟨ty, hty, hprim, hfits⟩ : ∃ ty : FieldType, (x_ts Y.2.2.1)[t]? = some (Y.2.2.1.2 t, ty) ∧ refKind ty = false ∧ ∀ i, i < N → fits ty (.int (f i)) = true := by
    rcases ht with rfl | rfl
    · exact ⟨.int, rfl, rfl, fun i _ => rfl⟩
    · refine ⟨.boolean, rfl, rfl, fun i hi => ?_⟩
      rcases hfit i hi rfl with h | h <;> rw [h] <;> rfl
  have nn : n.toInt = (N : Int) ∧ n.toNatClampNeg = N ∧ ¬ n < 0 := by
    subst hn
    exact ⟨nI_toInt hN, nI_clamp hN, nI_pos hN⟩
  obtain ⟨nn1, nn2, nn3⟩ := nn
  have hc0 : H[a0]? = some (vp_cell (Y.2.2.1.2 t) (n0, .inl f)) := (hw.2 a0 _ ha0).2
  have hc1 : H[a]? = some (vp_cell (Y.2.2.1.2 t) (n1, .inl g)) := (hw.2 a _ ha1).2
  obtain ⟨-, k0, hk0, cm0, hkk0⟩ := (hKs.2 t _ hty).1 n0 (fun j => .int (f j))
  obtain ⟨-, k1, hk1, cm1, hkk1⟩ := (hKs.2 t _ hty).1 n1 (fun j => .int (g j))
  have h60 : nativeFrameWords "java/lang/System" "arraycopy" 5 + 11 ≤ 60 := by decide
  obtain ⟨vm', X', step⟩ := X.arraycopy hx hown (hw0 hL (Or.inl rfl)) (hw0 (x_t6 _ (List.mem_of_getElem? (i := 105) (by decide +kernel))) (Or.inl rfl)) (hw0 (x_t6 _ (List.mem_of_getElem? (i := 104) (by decide +kernel))) (Or.inl rfl)) (hw0 (x_t1 _ (List.mem_of_getElem? (i := 17) (by decide +kernel))) (Or.inl rfl)) (src := a0) (dst := a) (cs := vp_cell (Y.2.2.1.2 t) (n0, .inl f)) (cd := vp_cell (Y.2.2.1.2 t) (n1, .inl g)) (srcPos := 0) (destPos := 0) (n := n) (by rw [hT]; exact hc0) (by rw [hT]; exact hc1)
    (fun _ h => by cases h) (fun _ h => by cases h) (fun h => by cases h) (fun h => by cases h) hk0 hk1 hkk0 hkk1 (by simp [hprim]) (by decide) (by decide) nn3
    (by rw [nn1]; show ¬ (0 : Int32).toInt + _ > ((arrV _ n0 (fun j => .int (f j))).slots.size : Int); rw [arrV_size, show (0 : Int32).toInt = 0 from rfl]; omega)
    (by rw [nn1]; show ¬ (0 : Int32).toInt + _ > ((arrV _ n1 (fun j => .int (g j))).slots.size : Int); rw [arrV_size, show (0 : Int32).toInt = 0 from rfl]; omega)
    (fun vm₁ _ i hi => by
      rw [nn2] at hi
      have e : (vp_cell (Y.2.2.1.2 t) (n0, .inl f)).slots.getD ((0 : Int32).toNatClampNeg + i) .null = .int (f i) := by
        show (arrV _ n0 (fun j => .int (f j))).slots.getD _ _ = _
        rw [show (0 : Int32).toNatClampNeg + i = i by show 0 + i = i; omega, Array.getD_eq_getD_getElem?, arrV_read _ _ (by omega)]
        rfl
      refine ⟨?_, ?_⟩
      · rw [e]
        exact hfits i hi
      · rw [e]
        exact trivial)
    (g := F0 m pc ls (.int n :: .int 0 :: .ref a :: .int 0 :: .ref a0 :: rest)) rfl (by rw [hl.1, hml]) (rest := rest) rfl (by rw [hb]; exact dd) (by show 1 ≤ d; omega) (by show 2 * 0 + _ + (nativeFrameWords "java/lang/System" "arraycopy" 5 + 11) ≤ 40 * d; omega)
  have e1 : copied (vp_cell (Y.2.2.1.2 t) (n0, .inl f)) (vp_cell (Y.2.2.1.2 t) (n1, .inl g)) 0 0 n = vp_cell (Y.2.2.1.2 t) (n1, .inl (s_fill N g f)) := by
    have h : copied (vp_cell (Y.2.2.1.2 t) (n0, .inl f)) (vp_cell (Y.2.2.1.2 t) (n1, .inl g)) 0 0 n = vp_cell (Y.2.2.1.2 t) (n1, .inl (va_cpy f g (0 : Int32).toNatClampNeg (0 : Int32).toNatClampNeg n.toNatClampNeg)) := va_copied (fun z => Value.int z) (Y.2.2.1.2 t) (Y.2.2.1.2 t) f g (show (0 : Int32).toNatClampNeg + n.toNatClampNeg ≤ n0 by rw [nn2]; show 0 + N ≤ n0; omega)
    have e2 : va_cpy f g (0 : Int32).toNatClampNeg (0 : Int32).toNatClampNeg n.toNatClampNeg = s_fill N g f := by
      funext j
      show (if 0 ≤ j ∧ j < 0 + n.toNatClampNeg then f (0 + (j - 0)) else g j) = if j < N then f j else g j
      rw [nn2]
      by_cases hj : j < N
      · rw [if_pos (by omega), if_pos hj, show 0 + (j - 0) = j by omega]
      · rw [if_neg (by omega), if_neg hj]
    rw [e2] at h
    exact h
  rw [e1] at X' step
  have hla : a < H.size := (Array.getElem?_eq_some_iff.mp hc1).1
  have hheap : ((T.setVm vm').setCell a (vp_cell (Y.2.2.1.2 t) (n1, .inl (s_fill N g f)))).heap = H.setIfInBounds a (vp_cell (Y.2.2.1.2 t) (n1, .inl (s_fill N g f))) := by rw [← hT]; rfl
  have oq : ∀ q : Nat, q ≠ a → (H.setIfInBounds a (vp_cell (Y.2.2.1.2 t) (n1, .inl (s_fill N g f))))[q]? = H[q]? := fun q hq => by simp [Array.getElem?_setIfInBounds, Ne.symm hq]
  have hA := (hw.2 a _ ha1).1
  obtain ⟨t2, a1, b1⟩ := k _ _ ls (x_W_st hw ha1 (show (H.setIfInBounds a _)[a]? = some _ by simp [Array.getElem?_setIfInBounds, hla]) (by simp) oq) ⟨by simp; exact hs.1, fun q g1 g2 => by
      rw [oq q (fun e => g2 (by rw [e]; exact hA))]
      exact hs.2.1 q g1 g2, fun q hq => by
      rcases List.mem_append.mp hq with h | h
      · exact hs.2.2 q h
      · obtain ⟨z, -, hz⟩ := List.mem_map.mp h
        rw [← hz]
        exact hA⟩ hl _ hheap X'
  exact ⟨t2, step t2 a1, b1⟩
end
set_option maxHeartbeats 4000000 in
set_option maxRecDepth 100000 in
theorem c_X10_become {l : Launch} {Y0 : x_Y} (hO : x_Ok Y0) {M : x_M} {m o n : Nat} {P P2 : PL} {A B : HS} {hx hy : Nat → Int32} {z y9 : Int32} (hb : x_bk M m (stT m o P A hx z)) (hn : x_bk M n (stT n o P2 B hy y9)) (hB1 : ∀ d, B 1 d = 0 ∨ B 1 d = 1) (hB7 : ∀ s, B 7 s = 0 ∨ B 7 s = 1) (hd : n + 9 ≤ m ∨ m + 9 ≤ n) : x_C l Y0 yX10_become cX10_become 2 (some (.object "HoneyAccordModel$State")) 3 0 0 [.ref m, .ref n] M (fun u M1 => u = some (.ref m) ∧ M1 = x_ov M m (stT m o P2 B hy y9)) := by
  refine x_start hO (by decide +kernel) (Nat.le_of_ble_eq_true rfl) (fun K C E => ?_)
  have hnF : ∀ L : List x_E, L.length = 9 → x_bk (x_ov M m L) n (stT n o P2 B hy y9) := fun L h => x_ov_far 9 hn h hd
  refine x_to (x_ov_self hb).symm ?_
  refine x_aload_n C dX10_become_0 rfl rfl ?_
  refine x_aload_n C dX10_become_1 rfl rfl ?_
  refine x_getfield C dX10_become_2 fX10_41 ((hnF _ rfl) 0 _ rfl) rfl ?_
  refine x_putfield C dX10_become_5 fX10_41 (x_ovg 0 rfl) rfl rfl (Nat.le_of_ble_eq_true rfl) ?_
  refine x_to (x_st_ov 0 (Nat.le_of_ble_eq_true rfl)) ?_
  refine x_aload_n C dX10_become_8 rfl rfl ?_
  refine x_aload_n C dX10_become_9 rfl rfl ?_
  refine x_getfield C dX10_become_10 fX10_45 ((hnF _ rfl) 0 _ rfl) rfl ?_
  refine x_putfield C dX10_become_13 fX10_45 (x_ovg 0 rfl) rfl rfl (Nat.le_of_ble_eq_true rfl) ?_
  refine x_to (x_st_ov 0 (Nat.le_of_ble_eq_true rfl)) ?_
  refine x_aload_n C dX10_become_16 rfl rfl ?_
  refine x_aload_n C dX10_become_17 rfl rfl ?_
  refine x_getfield C dX10_become_18 fX10_48 ((hnF _ rfl) 0 _ rfl) rfl ?_
  refine x_putfield C dX10_become_21 fX10_48 (x_ovg 0 rfl) rfl rfl (Nat.le_of_ble_eq_true rfl) ?_
  refine x_to (x_st_ov 0 (Nat.le_of_ble_eq_true rfl)) ?_
  refine x_aload_n C dX10_become_24 rfl rfl ?_
  refine x_getfield C dX10_become_25 fX10_15 ((hnF _ rfl) 0 _ rfl) rfl ?_
  refine x_iconst (v := 0) C dX10_become_28 (by decide) ?_
  refine x_aload_n C dX10_become_29 rfl rfl ?_
  refine x_getfield C dX10_become_30 fX10_15 (x_ovg 0 rfl) rfl ?_
  refine x_iconst (v := 0) C dX10_become_33 (by decide) ?_
  refine x_bipush (v := 8) C dX10_become_34 (by decide) ?_
  refine x_arraycopy C dX10_become_36 acX10_51 ((hnF _ rfl) 1 _ rfl) (x_ovg 1 rfl) (by first | exact Or.inl rfl | exact Or.inr rfl) (show _ = nI _ from rfl) (Nat.le_refl _) (Nat.le_refl _) (by decide) (fun _ _ h => absurd h (by decide)) (by decide) (Nat.le_of_ble_eq_true rfl) ?_
  refine x_to (x_st_ov 1 (Nat.le_of_ble_eq_true rfl)) ?_
  refine x_aload_n C dX10_become_39 rfl rfl ?_
  refine x_getfield C dX10_become_40 fX10_19 ((hnF _ rfl) 0 _ rfl) rfl ?_
  refine x_iconst (v := 0) C dX10_become_43 (by decide) ?_
  refine x_aload_n C dX10_become_44 rfl rfl ?_
  refine x_getfield C dX10_become_45 fX10_19 (x_ovg 0 rfl) rfl ?_
  refine x_iconst (v := 0) C dX10_become_48 (by decide) ?_
  refine x_bipush (v := 8) C dX10_become_49 (by decide) ?_
  refine x_arraycopy C dX10_become_51 acX10_51 ((hnF _ rfl) 2 _ rfl) (x_ovg 2 rfl) (by first | exact Or.inl rfl | exact Or.inr rfl) (show _ = nI _ from rfl) (Nat.le_refl _) (Nat.le_refl _) (by decide) (fun _ _ h => absurd h (by decide)) (by decide) (Nat.le_of_ble_eq_true rfl) ?_
  refine x_to (x_st_ov 2 (Nat.le_of_ble_eq_true rfl)) ?_
  refine x_aload_n C dX10_become_54 rfl rfl ?_
  refine x_getfield C dX10_become_55 fX10_22 ((hnF _ rfl) 0 _ rfl) rfl ?_
  refine x_iconst (v := 0) C dX10_become_58 (by decide) ?_
  refine x_aload_n C dX10_become_59 rfl rfl ?_
  refine x_getfield C dX10_become_60 fX10_22 (x_ovg 0 rfl) rfl ?_
  refine x_iconst (v := 0) C dX10_become_63 (by decide) ?_
  refine x_bipush (v := 8) C dX10_become_64 (by decide) ?_
  refine x_arraycopy C dX10_become_66 acX10_51 ((hnF _ rfl) 3 _ rfl) (x_ovg 3 rfl) (by first | exact Or.inl rfl | exact Or.inr rfl) (show _ = nI _ from rfl) (Nat.le_refl _) (Nat.le_refl _) (by decide) (fun _ _ h => absurd h (by decide)) (by decide) (Nat.le_of_ble_eq_true rfl) ?_
  refine x_to (x_st_ov 3 (Nat.le_of_ble_eq_true rfl)) ?_
  refine x_aload_n C dX10_become_69 rfl rfl ?_
  refine x_getfield C dX10_become_70 fX10_25 ((hnF _ rfl) 0 _ rfl) rfl ?_
  refine x_iconst (v := 0) C dX10_become_73 (by decide) ?_
  refine x_aload_n C dX10_become_74 rfl rfl ?_
  refine x_getfield C dX10_become_75 fX10_25 (x_ovg 0 rfl) rfl ?_
  refine x_iconst (v := 0) C dX10_become_78 (by decide) ?_
  refine x_bipush (v := 9) C dX10_become_79 (by decide) ?_
  refine x_arraycopy C dX10_become_81 acX10_51 ((hnF _ rfl) 4 _ rfl) (x_ovg 4 rfl) (by first | exact Or.inl rfl | exact Or.inr rfl) (show _ = nI _ from rfl) (Nat.le_refl _) (Nat.le_refl _) (by decide) (fun i _ _ => hB1 i) (by decide) (Nat.le_of_ble_eq_true rfl) ?_
  refine x_to (x_st_ov 4 (Nat.le_of_ble_eq_true rfl)) ?_
  refine x_aload_n C dX10_become_84 rfl rfl ?_
  refine x_getfield C dX10_become_85 fX10_29 ((hnF _ rfl) 0 _ rfl) rfl ?_
  refine x_iconst (v := 0) C dX10_become_88 (by decide) ?_
  refine x_aload_n C dX10_become_89 rfl rfl ?_
  refine x_getfield C dX10_become_90 fX10_29 (x_ovg 0 rfl) rfl ?_
  refine x_iconst (v := 0) C dX10_become_93 (by decide) ?_
  refine x_bipush (v := 6) C dX10_become_94 (by decide) ?_
  refine x_arraycopy C dX10_become_96 acX10_51 ((hnF _ rfl) 5 _ rfl) (x_ovg 5 rfl) (by first | exact Or.inl rfl | exact Or.inr rfl) (show _ = nI _ from rfl) (Nat.le_refl _) (Nat.le_refl _) (by decide) (fun _ _ h => absurd h (by decide)) (by decide) (Nat.le_of_ble_eq_true rfl) ?_
  refine x_to (x_st_ov 5 (Nat.le_of_ble_eq_true rfl)) ?_
  refine x_aload_n C dX10_become_99 rfl rfl ?_
  refine x_getfield C dX10_become_100 fX10_32 ((hnF _ rfl) 0 _ rfl) rfl ?_
  refine x_iconst (v := 0) C dX10_become_103 (by decide) ?_
  refine x_aload_n C dX10_become_104 rfl rfl ?_
  refine x_getfield C dX10_become_105 fX10_32 (x_ovg 0 rfl) rfl ?_
  refine x_iconst (v := 0) C dX10_become_108 (by decide) ?_
  refine x_bipush (v := 6) C dX10_become_109 (by decide) ?_
  refine x_arraycopy C dX10_become_111 acX10_51 ((hnF _ rfl) 6 _ rfl) (x_ovg 6 rfl) (by first | exact Or.inl rfl | exact Or.inr rfl) (show _ = nI _ from rfl) (Nat.le_refl _) (Nat.le_refl _) (by decide) (fun _ _ h => absurd h (by decide)) (by decide) (Nat.le_of_ble_eq_true rfl) ?_
  refine x_to (x_st_ov 6 (Nat.le_of_ble_eq_true rfl)) ?_
  refine x_aload_n C dX10_become_114 rfl rfl ?_
  refine x_getfield C dX10_become_115 fX10_35 ((hnF _ rfl) 0 _ rfl) rfl ?_
  refine x_iconst (v := 0) C dX10_become_118 (by decide) ?_
  refine x_aload_n C dX10_become_119 rfl rfl ?_
  refine x_getfield C dX10_become_120 fX10_35 (x_ovg 0 rfl) rfl ?_
  refine x_iconst (v := 0) C dX10_become_123 (by decide) ?_
  refine x_bipush (v := 36) C dX10_become_124 (by decide) ?_
  refine x_arraycopy C dX10_become_126 acX10_51 ((hnF _ rfl) 7 _ rfl) (x_ovg 7 rfl) (by first | exact Or.inl rfl | exact Or.inr rfl) (show _ = nI _ from rfl) (Nat.le_refl _) (Nat.le_refl _) (by decide) (fun _ _ h => absurd h (by decide)) (by decide) (Nat.le_of_ble_eq_true rfl) ?_
  refine x_to (x_st_ov 7 (Nat.le_of_ble_eq_true rfl)) ?_
  refine x_aload_n C dX10_become_129 rfl rfl ?_
  refine x_getfield C dX10_become_130 fX10_38 ((hnF _ rfl) 0 _ rfl) rfl ?_
  refine x_iconst (v := 0) C dX10_become_133 (by decide) ?_
  refine x_aload_n C dX10_become_134 rfl rfl ?_
  refine x_getfield C dX10_become_135 fX10_38 (x_ovg 0 rfl) rfl ?_
  refine x_iconst (v := 0) C dX10_become_138 (by decide) ?_
  refine x_bipush (v := 36) C dX10_become_139 (by decide) ?_
  refine x_arraycopy C dX10_become_141 acX10_51 ((hnF _ rfl) 8 _ rfl) (x_ovg 8 rfl) (by first | exact Or.inl rfl | exact Or.inr rfl) (show _ = nI _ from rfl) (Nat.le_refl _) (Nat.le_refl _) (by decide) (fun i _ _ => hB7 i) (by decide) (Nat.le_of_ble_eq_true rfl) ?_
  refine x_to (x_st_ov 8 (Nat.le_of_ble_eq_true rfl)) ?_
  refine x_toE (stT m o P2 B hy y9) ⟨Or.inl rfl, x_cq (fun j hj => s_fill_in hj), x_cq (fun j hj => s_fill_in hj), x_cq (fun j hj => s_fill_in hj), x_cq (fun j hj => s_fill_in hj), x_cq (fun j hj => s_fill_in hj), x_cq (fun j hj => s_fill_in hj), x_cq (fun j hj => s_fill_in hj), x_cq (fun j hj => s_fill_in hj), trivial⟩ ?_
  refine x_aload_n C dX10_become_144 rfl rfl ?_
  refine x_aret C E dX10_become_145 ?_
  exact ⟨rfl, rfl⟩
/-- days one behind the other; how often drones hear in all -/
def h_pass (P : PL) (B : HS × Int32) (_ : Nat) : HS × Int32 := ((h_day P B.1).1, B.2 + (h_day P B.1).2)
theorem h_ok_pass {P : PL} (hP : p_ok P) : ∀ (n : Nat) (B : HS × Int32), h_ok P B.1 → h_ok P (h_it (h_pass P) n B).1 := by
  intro n
  induction n with
  | zero => intro B h; exact h
  | succ n ih => intro B h; exact h_ok_day hP (ih B h)
theorem h_pass_z {P : PL} {A : HS} {z : Int32} : ∀ n, h_it (h_pass P) n (A, z) = ((h_it (h_pass P) n (A, 0)).1, z + (h_it (h_pass P) n (A, 0)).2) := by
  intro n
  induction n with
  | zero => show (A, z) = (A, z + 0); simp
  | succ n ih =>
    show h_pass P (h_it (h_pass P) n (A, z)) n = ((h_pass P (h_it (h_pass P) n (A, 0)) n).1, z + (h_pass P (h_it (h_pass P) n (A, 0)) n).2)
    rw [ih]
    generalize h_it (h_pass P) n (A, 0) = B
    unfold h_pass
    dsimp only
    rw [Int32.add_assoc]
/-- behind how many days a drone is free, of w more -/
def h_fr (P : PL) (d : Nat) : Nat → Nat → HS → Int32
  | 0, n, A => if A 2 d = -1 then nI n else -1
  | w + 1, n, A => if A 2 d = -1 then nI n else h_fr P d w (n + 1) (h_day P A).1
theorem x_ov4 {M : x_M} {t m : Nat} {c c' : x_E} {L L' : List x_E} (hd : m + L.length ≤ t ∨ t + [c'].length ≤ m) (hl : L.length = L'.length) : x_ov (x_ov (x_ov (x_ov M t [c]) m L) t [c']) m L' = x_ov (x_ov M t [c']) m L' := by
  rw [x_ov_comm (M := x_ov M t [c]) hd, x_ov_ov (a := t) (show [c].length = [c'].length from rfl), x_ov_ov hl]
set_option maxHeartbeats 4000000 in
set_option maxRecDepth 100000 in
theorem c_X10_pass {l : Launch} {Y0 : x_Y} (hO : x_Ok Y0) {M : x_M} {m o q : Nat} {P : PL} {A : HS} {hx : Nat → Int32} {z : Int32} {G : HS} {fs : List Value} (hP : p_ok P) (hQ : g_is G P) (hk9 : h_ok P A) (hb : x_bk M m (stT m o P A hx z)) (hp : x_bk M q (pmT q G)) (ho : x_bk M o [.inr (11, fs)]) (ho11 : fs[11]? = some (.ref q)) {t : Nat} {sk : Nat → Int32} (ho13 : fs[13]? = some (.ref t)) (ht : x_bk M t [.inl (0, 400, .inl sk)]) (htm : m + 9 ≤ t ∨ t + 1 ≤ m) (htq : q + 11 ≤ t ∨ t + 1 ≤ q) (hto : o + 1 ≤ t ∨ t + 1 ≤ o) (hd : q + 11 ≤ m ∨ m + 9 ≤ q) (hdo : o + 1 ≤ m ∨ m + 9 ≤ o) {n : Nat} (hn9 : n < 2 ^ 31) : x_C l Y0 yX10_pass cX10_pass 3 (some (.object "HoneyAccordModel$State")) 6 0 0 [.ref m, .int (nI n)] M (fun u M1 => u = some (.ref m) ∧ ∃ sk1 : Nat → Int32, M1 = x_ov (x_ov M t [.inl (0, 400, .inl sk1)]) m (stT m o P (h_it (h_pass P) n (A, z)).1 hx (h_it (h_pass P) n (A, z)).2)) := by
  refine x_start hO (by decide +kernel) (Nat.le_of_ble_eq_true rfl) (fun K C E => ?_)
  have hP0 := hP
  have hQ0 := hQ
  obtain ⟨h8, h6, h16, hnp, hwho, hvb, hts⟩ := hP
  obtain ⟨hq0, hq1, hq2, hq3, hq4, hq5, hq6⟩ := hQ
  have hpF : ∀ Lt L : List x_E, Lt.length = 1 → L.length = 9 → x_bk (x_ov (x_ov M t Lt) m L) q (pmT q G) := fun Lt L h1 h2 => x_ov_far 9 (x_ov_far 1 hp h1 htq) h2 hd
  have hoF : ∀ Lt L : List x_E, Lt.length = 1 → L.length = 9 → x_bk (x_ov (x_ov M t Lt) m L) o [.inr (11, fs)] := fun Lt L h1 h2 => x_ov_far 9 (x_ov_far 1 ho h1 hto) h2 hdo
  have htF : ∀ (L : List x_E) (sk : Nat → Int32), L.length = 9 → x_bk (x_ov (x_ov M t [.inl (0, 400, .inl sk)]) m L) t [.inl (0, 400, .inl sk)] := fun L sk h => x_ov_far 9 x_ov_bk h (by simp only [List.length_cons, List.length_nil]; omega)
  have hst : M = x_ov (x_ov M t [.inl (0, 400, .inl sk)]) m (stT m o P A hx z) := by
    rw [x_ov_self ht, x_ov_self hb]
  refine x_to hst ?_
  have lp : ∀ (w i : Nat) (x : Int32) (B : HS × Int32) (sk : Nat → Int32), i + w = n → x = nI i → B = h_it (h_pass P) i (A, z) → h_ok P B.1 → x_X K 3 0 0 2 [(0, .ref m), (1, .int (nI n)), (2, .int x)] [] (x_ov (x_ov M t [.inl (0, 400, .inl sk)]) m (stT m o P B.1 hx (B.2))) := by
    intro w
    induction w with
    | zero =>
      intro i x B sk hi hx9 hz hkB
      subst hx9
      have e : i = n := by omega
      subst e
      refine x_iload_n C dX10_pass_2 rfl rfl ?_
      refine x_iload_n C dX10_pass_3 rfl rfl ?_
      refine x_icmp_ge (tgt := 17) C dX10_pass_4 (by decide) (fun c4 => ?_) (fun c4 => absurd (nI_le (Nat.le_refl _) (by omega)) c4)
      refine x_aload_n C dX10_pass_17 rfl rfl ?_
      refine x_aret C E dX10_pass_18 ?_
      refine ⟨rfl, sk, ?_⟩
      rw [← hz]
    | succ w ih =>
      intro i x B sk hi hx9 hz hkB
      subst hx9
      refine x_iload_n C dX10_pass_2 rfl rfl ?_
      refine x_iload_n C dX10_pass_3 rfl rfl ?_
      refine x_icmp_ge (tgt := 17) C dX10_pass_4 (by decide) (fun c4 => absurd c4 (nI_ge (by omega) (by omega))) (fun c4 => ?_)
      refine x_aload_n C dX10_pass_7 rfl rfl ?_
      refine x_callV0 C dX10_pass_8 kX10_167 (c_X10_dayOn hO hP0 hQ0 hkB x_ov_bk (hpF _ _ rfl rfl) (hoF _ _ rfl rfl) ho11 ho13 (htF _ _ rfl) htm htq hto hd hdo) (x_ovg 0 rfl) rfl (by decide) ⟨Nat.zero_le _, Nat.zero_le _⟩ (Nat.le_of_ble_eq_true rfl) ?_
      rintro _ _ ⟨rfl, sk1, rfl⟩
      refine x_to (x_ov4 (by exact htm) rfl) ?_
      refine x_iinc (v := 1) C dX10_pass_11 rfl (by decide) rfl (by decide) ?_
      refine x_goto (tgt := 2) C dX10_pass_14 (by decide) ?_
      refine x_take 3 ?_
      exact ih (i + 1) _ (h_pass P B i) _ (by omega) (nI_1 i) (by rw [hz]; rfl) (h_ok_day hP0 hkB)
  refine x_iconst (v := 0) C dX10_pass_0 (by decide) ?_
  refine x_istore_n C dX10_pass_1 rfl rfl (by decide) ?_
  refine x_take 3 ?_
  exact lp n 0 0 (A, z) sk (by omega) rfl rfl hk9
set_option maxHeartbeats 4000000 in
set_option maxRecDepth 100000 in
theorem c_X10_untilFree {l : Launch} {Y0 : x_Y} (hO : x_Ok Y0) {M : x_M} {m o q : Nat} {P : PL} {A : HS} {hx : Nat → Int32} {z : Int32} {G : HS} {fs : List Value} (hP : p_ok P) (hQ : g_is G P) (hk9 : h_ok P A) (hb : x_bk M m (stT m o P A hx z)) (hp : x_bk M q (pmT q G)) (ho : x_bk M o [.inr (11, fs)]) (ho11 : fs[11]? = some (.ref q)) {t : Nat} {sk : Nat → Int32} (ho13 : fs[13]? = some (.ref t)) (ht : x_bk M t [.inl (0, 400, .inl sk)]) (htm : m + 9 ≤ t ∨ t + 1 ≤ m) (htq : q + 11 ≤ t ∨ t + 1 ≤ q) (hto : o + 1 ≤ t ∨ t + 1 ≤ o) (hd : q + 11 ≤ m ∨ m + 9 ≤ q) (hdo : o + 1 ≤ m ∨ m + 9 ≤ o) {d : Nat} (hd9 : d < p_nd P) : x_C l Y0 yX10_untilFree cX10_untilFree 3 (some .int) 6 0 0 [.ref m, .int (nI d)] M (fun u M1 => u = some (.int (h_fr P d 40 0 A)) ∧ ∃ (sk1 : Nat → Int32) (B : HS) (y9 : Int32), h_ok P B ∧ M1 = x_ov (x_ov M t [.inl (0, 400, .inl sk1)]) m (stT m o P B hx y9)) := by
  refine x_start hO (by decide +kernel) (Nat.le_of_ble_eq_true rfl) (fun K C E => ?_)
  have hP0 := hP
  have hQ0 := hQ
  obtain ⟨h8, h6, h16, hnp, hwho, hvb, hts⟩ := hP
  obtain ⟨hq0, hq1, hq2, hq3, hq4, hq5, hq6⟩ := hQ
  have hpF : ∀ Lt L : List x_E, Lt.length = 1 → L.length = 9 → x_bk (x_ov (x_ov M t Lt) m L) q (pmT q G) := fun Lt L h1 h2 => x_ov_far 9 (x_ov_far 1 hp h1 htq) h2 hd
  have hoF : ∀ Lt L : List x_E, Lt.length = 1 → L.length = 9 → x_bk (x_ov (x_ov M t Lt) m L) o [.inr (11, fs)] := fun Lt L h1 h2 => x_ov_far 9 (x_ov_far 1 ho h1 hto) h2 hdo
  have htF : ∀ (L : List x_E) (sk : Nat → Int32), L.length = 9 → x_bk (x_ov (x_ov M t [.inl (0, 400, .inl sk)]) m L) t [.inl (0, 400, .inl sk)] := fun L sk h => x_ov_far 9 x_ov_bk h (by simp only [List.length_cons, List.length_nil]; omega)
  have hst : M = x_ov (x_ov M t [.inl (0, 400, .inl sk)]) m (stT m o P A hx z) := by
    rw [x_ov_self ht, x_ov_self hb]
  refine x_to hst ?_
  have lpE : ∀ (B : HS) (y9 : Int32) (sk : Nat → Int32), h_ok P B → h_fr P d 40 0 A = -1 → x_X K 3 0 0 2 [(0, .ref m), (1, .int (nI d)), (2, .int (nI 40 + 1))] [] (x_ov (x_ov M t [.inl (0, 400, .inl sk)]) m (stT m o P B hx (y9))) := by
    intro B y9 sk hkB hz
    refine x_iload_n C dX10_untilFree_2 rfl rfl ?_
    refine x_bipush (v := 40) C dX10_untilFree_3 (by decide) ?_
    refine x_icmp_gt (tgt := 30) C dX10_untilFree_5 (by decide) (fun c5 => ?_) (fun c5 => absurd (by decide) c5)
    refine x_iconst (v := (-1)) C dX10_untilFree_30 (by decide) ?_
    refine x_iret C E dX10_untilFree_31 ?_
    exact ⟨by rw [hz], sk, B, y9, hkB, rfl⟩
  have lp : ∀ (w i : Nat) (x : Int32) (B : HS) (y9 : Int32) (sk : Nat → Int32), i + w = 40 → x = nI i → h_fr P d 40 0 A = h_fr P d w i B → h_ok P B → x_X K 3 0 0 2 [(0, .ref m), (1, .int (nI d)), (2, .int x)] [] (x_ov (x_ov M t [.inl (0, 400, .inl sk)]) m (stT m o P B hx (y9))) := by
    intro w
    induction w with
    | zero =>
      intro i x B y9 sk hi hx9 hz hkB
      subst hx9
      have e : i = 40 := by omega
      subst e
      refine x_iload_n C dX10_untilFree_2 rfl rfl ?_
      refine x_bipush (v := 40) C dX10_untilFree_3 (by decide) ?_
      refine x_icmp_gt (tgt := 30) C dX10_untilFree_5 (by decide) (fun c5 => absurd c5 (Int32.not_lt.mpr (show nI 40 ≤ nI 40 from nI_le (Nat.le_refl 40) (by decide)))) (fun c5 => ?_)
      refine x_aload_n C dX10_untilFree_8 rfl rfl ?_
      refine x_getfield C dX10_untilFree_9 fX10_19 (x_ovg 0 rfl) rfl ?_
      refine x_iload_n C dX10_untilFree_12 rfl rfl ?_
      refine x_iaload C dX10_untilFree_13 (x_ovg 2 rfl) (vp_in_nI (show d < 8 by omega) (by decide)) ?_
      rw [nI_clamp (show d < 2 ^ 31 by omega)]
      refine x_iconst (v := (-1)) C dX10_untilFree_14 (by decide) ?_
      refine x_icmp_ne (tgt := 20) C dX10_untilFree_15 (by decide) (fun c15 => ?_) (fun c15 => ?_)
      · refine x_aload_n C dX10_untilFree_20 rfl rfl ?_
        refine x_callV0 C dX10_untilFree_21 kX10_167 (c_X10_dayOn hO hP0 hQ0 hkB x_ov_bk (hpF _ _ rfl rfl) (hoF _ _ rfl rfl) ho11 ho13 (htF _ _ rfl) htm htq hto hd hdo) (x_ovg 0 rfl) rfl (by decide) ⟨Nat.zero_le _, Nat.zero_le _⟩ (Nat.le_of_ble_eq_true rfl) ?_
        rintro _ _ ⟨rfl, sk1, rfl⟩
        refine x_to (x_ov4 (by exact htm) rfl) ?_
        refine x_iinc (v := 1) C dX10_untilFree_24 rfl (by decide) rfl (by decide) ?_
        refine x_goto (tgt := 2) C dX10_untilFree_27 (by decide) ?_
        refine x_take 3 ?_
        first
          | exact ih (i + 1) _ (h_day P B).1 _ _ (by omega) (nI_1 i) (by rw [hz]; show (if B 2 d = -1 then _ else _) = _; rw [if_neg c15]) (h_ok_day hP0 hkB)
          | exact lpE _ _ _ (h_ok_day hP0 hkB) (by rw [hz]; show (if B 2 d = -1 then _ else _) = _; rw [if_neg c15])
          | fail
      · refine x_iload_n C dX10_untilFree_18 rfl rfl ?_
        refine x_iret C E dX10_untilFree_19 ?_
        refine ⟨?_, sk, B, y9, hkB, rfl⟩
        rw [hz]
        first | (show _ = some (Value.int (if B 2 d = -1 then _ else _)); rw [if_pos c15]) | fail
    | succ w ih =>
      intro i x B y9 sk hi hx9 hz hkB
      subst hx9
      refine x_iload_n C dX10_untilFree_2 rfl rfl ?_
      refine x_bipush (v := 40) C dX10_untilFree_3 (by decide) ?_
      refine x_icmp_gt (tgt := 30) C dX10_untilFree_5 (by decide) (fun c5 => absurd c5 (Int32.not_lt.mpr (show nI i ≤ nI 40 from nI_le (by omega) (by decide)))) (fun c5 => ?_)
      refine x_aload_n C dX10_untilFree_8 rfl rfl ?_
      refine x_getfield C dX10_untilFree_9 fX10_19 (x_ovg 0 rfl) rfl ?_
      refine x_iload_n C dX10_untilFree_12 rfl rfl ?_
      refine x_iaload C dX10_untilFree_13 (x_ovg 2 rfl) (vp_in_nI (show d < 8 by omega) (by decide)) ?_
      rw [nI_clamp (show d < 2 ^ 31 by omega)]
      refine x_iconst (v := (-1)) C dX10_untilFree_14 (by decide) ?_
      refine x_icmp_ne (tgt := 20) C dX10_untilFree_15 (by decide) (fun c15 => ?_) (fun c15 => ?_)
      · refine x_aload_n C dX10_untilFree_20 rfl rfl ?_
        refine x_callV0 C dX10_untilFree_21 kX10_167 (c_X10_dayOn hO hP0 hQ0 hkB x_ov_bk (hpF _ _ rfl rfl) (hoF _ _ rfl rfl) ho11 ho13 (htF _ _ rfl) htm htq hto hd hdo) (x_ovg 0 rfl) rfl (by decide) ⟨Nat.zero_le _, Nat.zero_le _⟩ (Nat.le_of_ble_eq_true rfl) ?_
        rintro _ _ ⟨rfl, sk1, rfl⟩
        refine x_to (x_ov4 (by exact htm) rfl) ?_
        refine x_iinc (v := 1) C dX10_untilFree_24 rfl (by decide) rfl (by decide) ?_
        refine x_goto (tgt := 2) C dX10_untilFree_27 (by decide) ?_
        refine x_take 3 ?_
        first
          | exact ih (i + 1) _ (h_day P B).1 _ _ (by omega) (nI_1 i) (by rw [hz]; show (if B 2 d = -1 then _ else _) = _; rw [if_neg c15]) (h_ok_day hP0 hkB)
          | exact lpE _ _ _ (h_ok_day hP0 hkB) (by rw [hz]; show (if B 2 d = -1 then _ else _) = _; rw [if_neg c15])
          | fail
      · refine x_iload_n C dX10_untilFree_18 rfl rfl ?_
        refine x_iret C E dX10_untilFree_19 ?_
        refine ⟨?_, sk, B, y9, hkB, rfl⟩
        rw [hz]
        first | (show _ = some (Value.int (if B 2 d = -1 then _ else _)); rw [if_pos c15]) | fail
  refine x_iconst (v := 0) C dX10_untilFree_0 (by decide) ?_
  refine x_istore_n C dX10_untilFree_1 rfl rfl (by decide) ?_
  refine x_take 3 ?_
  exact lp 40 0 0 A z sk (by omega) rfl rfl hk9
