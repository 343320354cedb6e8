set_option maxHeartbeats 4000000 in
set_option maxRecDepth 100000 in
theorem c_X11_teach {l : Launch} {Y0 : x_Y} (hO : x_Ok Y0) {M : x_M} {o rd0 n : Nat} {E0 : rE} {R0 : rS} (hbo : x_bk M o (moT o rd0 E0 R0)) (hd : o + 7 ≤ M.2) (hn : E0.1.1.2.1 = nI n) (hn2 : n ≤ 2000) {m : Nat} (hm : E0.1.2.2.2.1 = m) {P0 P : PL} {A : HS} {hx : Nat → Int32} {z : Int32} (hs : x_bk M m (stT m o P0 A hx z)) (hmo : o + 7 ≤ m ∨ m + 9 ≤ o) (hmM : m + 9 ≤ M.2) (hby : k_by (E0.2 20)) (hc : x_Stc Y0) {wa : Nat} {sa st9 : Nat → Nat} (hW : x_Wd Y0 wa sa st9) {qs ts : Nat} (hZ : vk_R RX11 109 "()[];,+-*/<>=" qs Y0.1) (hsy : x_Str Y0 qs ts k_SYM) (hP : (rd_R n (z_ea (z_th E0) (-1)) R0).1 ≤ 0 → g_is (prG (rd_R n (z_ea (z_th E0) (-1)) R0).2.1 (rd_R n (z_ea (z_th E0) (-1)) R0).2.2) P) : x_C l Y0 yX11_teach cX11_teach 2 (some .int) 49 20 1497 [.ref o] M (fun u M1 => ((rd_R n (z_ea (z_th E0) (-1)) R0).1 ≤ 0 → u = some (.int 0) ∧ M1 = x_ov (x_ov (x_nx (rH (x_nx M 11) o M.2 (z_pl (z_sz (rd_R n (z_ea (z_th E0) (-1)) R0).2.1) M.2) (rd_R n (z_ea (z_th E0) (-1)) R0).2.2) 9) (M.2 + 11) (stT (M.2 + 11) o P h_zz (fun _ => 0) 0)) m (bgT m o (prG (rd_R n (z_ea (z_th E0) (-1)) R0).2.1 (rd_R n (z_ea (z_th E0) (-1)) R0).2.2))) ∧ (¬ (rd_R n (z_ea (z_th E0) (-1)) R0).1 ≤ 0 → u = some (.int (rd_R n (z_ea (z_th E0) (-1)) R0).1) ∧ M1 = rH (x_nx M 11) o M.2 (z_sz (rd_R n (z_ea (z_th E0) (-1)) R0).2.1) (rd_R n (z_ea (z_th E0) (-1)) R0).2.2)) := by
  refine x_start hO (by decide +kernel) (Nat.le_of_ble_eq_true rfl) (fun K C E => ?_)
  obtain ⟨X, hX⟩ : ∃ X, rd_R n (z_ea (z_th E0) (-1)) R0 = X := ⟨_, rfl⟩
  obtain ⟨x1, x2, x3, x4, x5⟩ := rd_keep (n := n) (E0 := z_ea (z_th E0) (-1)) (R0 := R0) hn2
  rw [hX] at x1 x2 x3 x4 x5 hP
  have hXX := hX
  have hsX : ∀ (E9 : rE) (R9 : rS), x_bk (rH (x_nx M 11) o M.2 E9 R9) m (stT m o P0 A hx z) := fun E9 R9 => x_ov_far 11 (x_ov_far 7 (show x_bk (x_nx M 11) m _ from hs) rfl (hmo.symm.imp (fun q => q) (fun q => q))) rfl (Or.inl hmM)
  have hrd := c_X11_read (l := l) (M := x_ov M o (moT o rd0 (z_ea (z_th E0) (-1)) R0)) (o := o) (rd0 := rd0) (R0 := R0) (E0 := z_ea (z_th E0) (-1)) hO x_ov_bk hd hn hn2 hby hc hW hZ hsy
  rw [hX] at hrd
  refine x_to (x_ov_self hbo).symm ?_
  refine x_aload_n C dX11_teach_0 rfl rfl ?_
  refine x_iconst (v := 0) C dX11_teach_1 (by decide) ?_
  refine x_putfield C dX11_teach_2 fX11_60 (x_ovg 0 rfl) rfl rfl (Nat.le_of_ble_eq_true rfl) ?_
  refine x_to (x_st_ov 0 (Nat.le_of_ble_eq_true rfl)) ?_
  refine x_to (show _ = x_ov M o (moT o rd0 (z_th E0) R0) from rfl) ?_
  refine x_aload_n C dX11_teach_5 rfl rfl ?_
  refine x_iconst (v := (-1)) C dX11_teach_6 (by decide) ?_
  refine x_putfield C dX11_teach_7 fX11_13 (x_ovg 0 rfl) rfl rfl (Nat.le_of_ble_eq_true rfl) ?_
  refine x_to (x_st_ov 0 (Nat.le_of_ble_eq_true rfl)) ?_
  refine x_to (show _ = x_ov M o (moT o rd0 (z_ea (z_th E0) (-1)) R0) from rfl) ?_
  refine x_aload_n C dX11_teach_10 rfl rfl ?_
  refine x_callV (As := []) C dX11_teach_11 kX11_279 hrd (x_ovg 0 rfl) rfl rfl rfl (by decide) ⟨Nat.le_of_ble_eq_true rfl, Nat.le_of_ble_eq_true rfl⟩ (Nat.le_of_ble_eq_true rfl) ?_
  rintro _ _ ⟨rfl, rfl⟩
  refine x_to (rH_nxov rfl) ?_
  refine x_istore_n C dX11_teach_14 rfl rfl (by decide) ?_
  refine x_aload_n C dX11_teach_15 rfl rfl ?_
  refine x_iconst (v := 0) C dX11_teach_16 (by decide) ?_
  refine x_putfield C dX11_teach_17 fX11_93 (rH_g0 hd) rfl rfl (Nat.le_of_ble_eq_true rfl) ?_
  refine x_to (rH_zsz hd) ?_
  refine x_iload_n C dX11_teach_20 rfl rfl ?_
  refine x_if_le (tgt := 26) C dX11_teach_21 (by decide) (fun c21 => ?_) (fun c21 => ?_)
  · refine x_aload_n C dX11_teach_26 rfl rfl ?_
    refine x_aload_n C dX11_teach_27 rfl rfl ?_
    refine x_getfield C dX11_teach_28 fX11_39 (rH_g0 hd) rfl ?_
    refine x_putfield C dX11_teach_31 fX11_35 (rH_g0 hd) rfl rfl (Nat.le_of_ble_eq_true rfl) ?_
    refine x_to (rH_zpl hd) ?_
    refine x_aload_n C dX11_teach_34 rfl rfl ?_
    refine x_getfield C dX11_teach_35 fX11_50 (rH_g0 hd) rfl ?_
    refine x_topr m (show X.2.1.1.2.2.2.1 = m by rw [x3]; exact hm) ?_
    refine x_callV (As := []) C dX11_teach_38 kX11_57 (c_X10_begin (q := M.2) (P := P) hO (hP c21) (hsX _ _) (show x_bk _ M.2 (pmT M.2 (prG X.2.1 X.2.2)) from (rH_B hd).2) (x_bk_sub (rH_B (E := z_pl (z_sz X.2.1) M.2) (R := X.2.2) hd).1 0 rfl) rfl (Or.inr hmM) (hmo.imp (fun q => by omega) (fun q => q)) (by show m + 9 ≤ M.2 + 11; omega) (by show M.2 + 11 ≤ M.2 + 11; omega) (by show o + 1 ≤ M.2 + 11; omega)) ((hsX _ _) 0 _ rfl) rfl rfl rfl (by decide) ⟨Nat.le_of_ble_eq_true rfl, Nat.le_of_ble_eq_true rfl⟩ (Nat.le_of_ble_eq_true rfl) ?_
    rintro _ _ ⟨rfl, rfl⟩
    refine x_iconst (v := 0) C dX11_teach_41 (by decide) ?_
    refine x_iret C E dX11_teach_42 ?_
    rw [hX]
    exact ⟨fun _ => ⟨rfl, rfl⟩, fun q => absurd c21 q⟩
  · refine x_widen (k := 20) (n := 1497) (Nat.le_of_ble_eq_true rfl) (Nat.le_of_ble_eq_true rfl) ?_
    refine x_iload_n C dX11_teach_24 rfl rfl ?_
    refine x_iret C E dX11_teach_25 ?_
    rw [hX]
    exact ⟨fun q => absurd q c21, fun _ => ⟨rfl, rfl⟩⟩
