def kX0_init_0 (r : pu_R) : pu_K := s_ald 0 (s_obj (s_ald 0 (s_push (.int (1200)) (s_na 1 (s_pr 0 1 (s_vret))))))
theorem vX0_init_0 : pu_cok2 kX0_init_0 := fun rf r hr => by
  unfold kX0_init_0
  exact v_ald (v_obj (v_ald (v_pi (v_na (v_pr (v_vret))))))
theorem tX0_init_0 {X : pu_X} {r : pu_R} (hX : pu_H X mdX0_init) (hr : pu_P X.2.1 X.2.2.2.2.2.2.2.2.2.2.1 r) (hq : ∀ i pc, pu_lp i = some (0, pc) → pu_S X mdX0_init pc (r i)) : pu_S X mdX0_init 0 (kX0_init_0 r) := by
  unfold kX0_init_0
  exact z_ald_n hX dX0_init_0 rfl (z_obj hX dX0_init_1 ⟨wm2_13, wm1_10, wm1_11⟩ ⟨Nat.le_of_ble_eq_true rfl, Nat.le_of_ble_eq_true rfl⟩ (z_ald_n hX dX0_init_4 rfl (z_sipush hX dX0_init_5 (by decide) (z_na (t0 := 0) hX dX0_init_8 wm2_6 ⟨rfl, by decide⟩ (Or.inl ⟨rfl, rfl⟩) (fun _ => rfl) (z_pr (c := 0) (j := 1) tyX0 tyX0_ok nmX0 hX dX0_init_10 rfl inlX0 wm2_14 ⟨rfl, by decide⟩ ⟨rfl, fun _ => ⟨rfl, rfl⟩⟩ (Or.inr ⟨rfl, rfl, rfl⟩) (z_vret hX dX0_init_13 rfl))))))
def kX6_init_51 (r : pu_R) : pu_K := s_pr 6 7 (s_ald 0 (s_push (.int (200)) (s_na 1 (s_pr 6 8 (s_ald 0 (s_push (.int (200)) (s_na 1 (s_pr 6 9 (s_vret)))))))))
theorem vX6_init_51 : pu_cok2 kX6_init_51 := fun rf r hr => by
  unfold kX6_init_51
  exact v_pr (v_ald (v_pi (v_na (v_pr (v_ald (v_pi (v_na (v_pr (v_vret)))))))))
theorem tX6_init_51 {X : pu_X} {r : pu_R} (hX : pu_H X mdX6_init) (hr : pu_P X.2.1 X.2.2.2.2.2.2.2.2.2.2.1 r) (hq : ∀ i pc, pu_lp i = some (1, pc) → pu_S X mdX6_init pc (r i)) : pu_S X mdX6_init 51 (kX6_init_51 r) := by
  unfold kX6_init_51
  exact z_pr (c := 6) (j := 7) tyX6 tyX6_ok nmX6 hX dX6_init_51 rfl inlX6 wm4_6 ⟨rfl, by decide⟩ ⟨rfl, fun _ => ⟨rfl, rfl⟩⟩ (Or.inr ⟨rfl, rfl, rfl⟩) (z_ald_n hX dX6_init_54 rfl (z_sipush hX dX6_init_55 (by decide) (z_na (t0 := 0) hX dX6_init_58 wm2_6 ⟨rfl, by decide⟩ (Or.inl ⟨rfl, rfl⟩) (fun _ => rfl) (z_pr (c := 6) (j := 8) tyX6 tyX6_ok nmX6 hX dX6_init_60 rfl inlX6 wm4_7 ⟨rfl, by decide⟩ ⟨rfl, fun _ => ⟨rfl, rfl⟩⟩ (Or.inr ⟨rfl, rfl, rfl⟩) (z_ald_n hX dX6_init_63 rfl (z_sipush hX dX6_init_64 (by decide) (z_na (t0 := 0) hX dX6_init_67 wm2_6 ⟨rfl, by decide⟩ (Or.inl ⟨rfl, rfl⟩) (fun _ => rfl) (z_pr (c := 6) (j := 9) tyX6 tyX6_ok nmX6 hX dX6_init_69 rfl inlX6 wm4_8 ⟨rfl, by decide⟩ ⟨rfl, fun _ => ⟨rfl, rfl⟩⟩ (Or.inr ⟨rfl, rfl, rfl⟩) (z_vret hX dX6_init_72 rfl)))))))))
def kX6_init_0 (r : pu_R) : pu_K := s_ald 0 (s_obj (s_ald 0 (s_push (.int (-1)) (s_pi 6 1 (s_ald 0 (s_push (.int (200)) (s_na 1 (s_pr 6 3 (s_ald 0 (s_push (.int (200)) (s_na 1 (s_pr 6 4 (s_ald 0 (s_push (.int (200)) (s_na 1 (s_pr 6 5 (s_ald 0 (s_push (.int (200)) (s_na 1 (s_pr 6 6 (s_ald 0 (s_push (.int (200)) (s_na 1 ((kX6_init_51 r)))))))))))))))))))))))))
theorem vX6_init_0 : pu_cok2 kX6_init_0 := fun rf r hr => by
  unfold kX6_init_0
  exact v_ald (v_obj (v_ald (v_pi (v_puti (v_ald (v_pi (v_na (v_pr (v_ald (v_pi (v_na (v_pr (v_ald (v_pi (v_na (v_pr (v_ald (v_pi (v_na (v_pr (v_ald (v_pi (v_na ((vX6_init_51 rf r hr)))))))))))))))))))))))))
theorem tX6_init_0 {X : pu_X} {r : pu_R} (hX : pu_H X mdX6_init) (hr : pu_P X.2.1 X.2.2.2.2.2.2.2.2.2.2.1 r) (hq : ∀ i pc, pu_lp i = some (1, pc) → pu_S X mdX6_init pc (r i)) : pu_S X mdX6_init 0 (kX6_init_0 r) := by
  unfold kX6_init_0
  exact z_ald_n hX dX6_init_0 rfl (z_obj hX dX6_init_1 ⟨wm4_0, wm1_10, wm1_11⟩ ⟨Nat.le_of_ble_eq_true rfl, Nat.le_of_ble_eq_true rfl⟩ (z_ald_n hX dX6_init_4 rfl (z_iconst hX dX6_init_5 (by decide) (z_pi (c := 6) (j := 1) tyX6 tyX6_ok nmX6 hX dX6_init_6 rfl inlX6 wm4_1 ⟨rfl, by decide⟩ ⟨rfl, rfl⟩ rfl (z_ald_n hX dX6_init_9 rfl (z_sipush hX dX6_init_10 (by decide) (z_na (t0 := 0) hX dX6_init_13 wm2_6 ⟨rfl, by decide⟩ (Or.inl ⟨rfl, rfl⟩) (fun _ => rfl) (z_pr (c := 6) (j := 3) tyX6 tyX6_ok nmX6 hX dX6_init_15 rfl inlX6 wm4_2 ⟨rfl, by decide⟩ ⟨rfl, fun _ => ⟨rfl, rfl⟩⟩ (Or.inr ⟨rfl, rfl, rfl⟩) (z_ald_n hX dX6_init_18 rfl (z_sipush hX dX6_init_19 (by decide) (z_na (t0 := 0) hX dX6_init_22 wm2_6 ⟨rfl, by decide⟩ (Or.inl ⟨rfl, rfl⟩) (fun _ => rfl) (z_pr (c := 6) (j := 4) tyX6 tyX6_ok nmX6 hX dX6_init_24 rfl inlX6 wm4_3 ⟨rfl, by decide⟩ ⟨rfl, fun _ => ⟨rfl, rfl⟩⟩ (Or.inr ⟨rfl, rfl, rfl⟩) (z_ald_n hX dX6_init_27 rfl (z_sipush hX dX6_init_28 (by decide) (z_na (t0 := 0) hX dX6_init_31 wm2_6 ⟨rfl, by decide⟩ (Or.inl ⟨rfl, rfl⟩) (fun _ => rfl) (z_pr (c := 6) (j := 5) tyX6 tyX6_ok nmX6 hX dX6_init_33 rfl inlX6 wm4_4 ⟨rfl, by decide⟩ ⟨rfl, fun _ => ⟨rfl, rfl⟩⟩ (Or.inr ⟨rfl, rfl, rfl⟩) (z_ald_n hX dX6_init_36 rfl (z_sipush hX dX6_init_37 (by decide) (z_na (t0 := 0) hX dX6_init_40 wm2_6 ⟨rfl, by decide⟩ (Or.inl ⟨rfl, rfl⟩) (fun _ => rfl) (z_pr (c := 6) (j := 6) tyX6 tyX6_ok nmX6 hX dX6_init_42 rfl inlX6 wm4_5 ⟨rfl, by decide⟩ ⟨rfl, fun _ => ⟨rfl, rfl⟩⟩ (Or.inr ⟨rfl, rfl, rfl⟩) (z_ald_n hX dX6_init_45 rfl (z_sipush hX dX6_init_46 (by decide) (z_na (t0 := 0) hX dX6_init_49 wm2_6 ⟨rfl, by decide⟩ (Or.inl ⟨rfl, rfl⟩) (fun _ => rfl) ((tX6_init_51 hX hr hq)))))))))))))))))))))))))
def kX4_init_0 (r : pu_R) : pu_K := s_ald 0 (s_obj (s_ald 0 (s_push (.int (3000)) (s_na 1 (s_pr 4 1 (s_ald 0 (s_push (.int (3000)) (s_na 1 (s_pr 4 2 (s_ald 0 (s_push (.int (3000)) (s_na 1 (s_pr 4 3 (s_ald 0 (s_push (.int (3000)) (s_na 1 (s_pr 4 4 (s_vret))))))))))))))))))
theorem vX4_init_0 : pu_cok2 kX4_init_0 := fun rf r hr => by
  unfold kX4_init_0
  exact v_ald (v_obj (v_ald (v_pi (v_na (v_pr (v_ald (v_pi (v_na (v_pr (v_ald (v_pi (v_na (v_pr (v_ald (v_pi (v_na (v_pr (v_vret))))))))))))))))))
theorem tX4_init_0 {X : pu_X} {r : pu_R} (hX : pu_H X mdX4_init) (hr : pu_P X.2.1 X.2.2.2.2.2.2.2.2.2.2.1 r) (hq : ∀ i pc, pu_lp i = some (2, pc) → pu_S X mdX4_init pc (r i)) : pu_S X mdX4_init 0 (kX4_init_0 r) := by
  unfold kX4_init_0
  exact z_ald_n hX dX4_init_0 rfl (z_obj hX dX4_init_1 ⟨wm4_11, wm1_10, wm1_11⟩ ⟨Nat.le_of_ble_eq_true rfl, Nat.le_of_ble_eq_true rfl⟩ (z_ald_n hX dX4_init_4 rfl (z_sipush hX dX4_init_5 (by decide) (z_na (t0 := 0) hX dX4_init_8 wm2_6 ⟨rfl, by decide⟩ (Or.inl ⟨rfl, rfl⟩) (fun _ => rfl) (z_pr (c := 4) (j := 1) tyX4 tyX4_ok nmX4 hX dX4_init_10 rfl inlX4 wm4_12 ⟨rfl, by decide⟩ ⟨rfl, fun _ => ⟨rfl, rfl⟩⟩ (Or.inr ⟨rfl, rfl, rfl⟩) (z_ald_n hX dX4_init_13 rfl (z_sipush hX dX4_init_14 (by decide) (z_na (t0 := 0) hX dX4_init_17 wm2_6 ⟨rfl, by decide⟩ (Or.inl ⟨rfl, rfl⟩) (fun _ => rfl) (z_pr (c := 4) (j := 2) tyX4 tyX4_ok nmX4 hX dX4_init_19 rfl inlX4 wm4_13 ⟨rfl, by decide⟩ ⟨rfl, fun _ => ⟨rfl, rfl⟩⟩ (Or.inr ⟨rfl, rfl, rfl⟩) (z_ald_n hX dX4_init_22 rfl (z_sipush hX dX4_init_23 (by decide) (z_na (t0 := 0) hX dX4_init_26 wm2_6 ⟨rfl, by decide⟩ (Or.inl ⟨rfl, rfl⟩) (fun _ => rfl) (z_pr (c := 4) (j := 3) tyX4 tyX4_ok nmX4 hX dX4_init_28 rfl inlX4 wm4_14 ⟨rfl, by decide⟩ ⟨rfl, fun _ => ⟨rfl, rfl⟩⟩ (Or.inr ⟨rfl, rfl, rfl⟩) (z_ald_n hX dX4_init_31 rfl (z_sipush hX dX4_init_32 (by decide) (z_na (t0 := 0) hX dX4_init_35 wm2_6 ⟨rfl, by decide⟩ (Or.inl ⟨rfl, rfl⟩) (fun _ => rfl) (z_pr (c := 4) (j := 4) tyX4 tyX4_ok nmX4 hX dX4_init_37 rfl inlX4 wm4_15 ⟨rfl, by decide⟩ ⟨rfl, fun _ => ⟨rfl, rfl⟩⟩ (Or.inr ⟨rfl, rfl, rfl⟩) (z_vret hX dX4_init_40 rfl))))))))))))))))))
def kX3_init_0 (r : pu_R) : pu_K := s_ald 0 (s_obj (s_ald 0 (s_push (.int (416)) (s_na 1 (s_pr 3 1 (s_ald 0 (s_push (.int (416)) (s_na 1 (s_pr 3 2 (s_ald 0 (s_push (.int (416)) (s_na 1 (s_pr 3 3 (s_ald 0 (s_push (.int (416)) (s_na 1 (s_pr 3 4 (s_ald 0 (s_push (.int (1248)) (s_na 3 (s_pr 3 5 (s_vret))))))))))))))))))))))
theorem vX3_init_0 : pu_cok2 kX3_init_0 := fun rf r hr => by
  unfold kX3_init_0
  exact v_ald (v_obj (v_ald (v_pi (v_na (v_pr (v_ald (v_pi (v_na (v_pr (v_ald (v_pi (v_na (v_pr (v_ald (v_pi (v_na (v_pr (v_ald (v_pi (v_na (v_pr (v_vret))))))))))))))))))))))
theorem tX3_init_0 {X : pu_X} {r : pu_R} (hX : pu_H X mdX3_init) (hr : pu_P X.2.1 X.2.2.2.2.2.2.2.2.2.2.1 r) (hq : ∀ i pc, pu_lp i = some (3, pc) → pu_S X mdX3_init pc (r i)) : pu_S X mdX3_init 0 (kX3_init_0 r) := by
  unfold kX3_init_0
  exact z_ald_n hX dX3_init_0 rfl (z_obj hX dX3_init_1 ⟨wm4_18, wm1_10, wm1_11⟩ ⟨Nat.le_of_ble_eq_true rfl, Nat.le_of_ble_eq_true rfl⟩ (z_ald_n hX dX3_init_4 rfl (z_sipush hX dX3_init_5 (by decide) (z_na (t0 := 0) hX dX3_init_8 wm2_6 ⟨rfl, by decide⟩ (Or.inl ⟨rfl, rfl⟩) (fun _ => rfl) (z_pr (c := 3) (j := 1) tyX3 tyX3_ok nmX3 hX dX3_init_10 rfl inlX3 wm4_19 ⟨rfl, by decide⟩ ⟨rfl, fun _ => ⟨rfl, rfl⟩⟩ (Or.inr ⟨rfl, rfl, rfl⟩) (z_ald_n hX dX3_init_13 rfl (z_sipush hX dX3_init_14 (by decide) (z_na (t0 := 0) hX dX3_init_17 wm2_6 ⟨rfl, by decide⟩ (Or.inl ⟨rfl, rfl⟩) (fun _ => rfl) (z_pr (c := 3) (j := 2) tyX3 tyX3_ok nmX3 hX dX3_init_19 rfl inlX3 wm4_20 ⟨rfl, by decide⟩ ⟨rfl, fun _ => ⟨rfl, rfl⟩⟩ (Or.inr ⟨rfl, rfl, rfl⟩) (z_ald_n hX dX3_init_22 rfl (z_sipush hX dX3_init_23 (by decide) (z_na (t0 := 0) hX dX3_init_26 wm2_6 ⟨rfl, by decide⟩ (Or.inl ⟨rfl, rfl⟩) (fun _ => rfl) (z_pr (c := 3) (j := 3) tyX3 tyX3_ok nmX3 hX dX3_init_28 rfl inlX3 wm4_21 ⟨rfl, by decide⟩ ⟨rfl, fun _ => ⟨rfl, rfl⟩⟩ (Or.inr ⟨rfl, rfl, rfl⟩) (z_ald_n hX dX3_init_31 rfl (z_sipush hX dX3_init_32 (by decide) (z_na (t0 := 0) hX dX3_init_35 wm2_6 ⟨rfl, by decide⟩ (Or.inl ⟨rfl, rfl⟩) (fun _ => rfl) (z_pr (c := 3) (j := 4) tyX3 tyX3_ok nmX3 hX dX3_init_37 rfl inlX3 wm4_22 ⟨rfl, by decide⟩ ⟨rfl, fun _ => ⟨rfl, rfl⟩⟩ (Or.inr ⟨rfl, rfl, rfl⟩) (z_ald_n hX dX3_init_40 rfl (z_sipush hX dX3_init_41 (by decide) (z_na (t0 := 2) hX dX3_init_44 wm4_23 ⟨rfl, by decide⟩ (Or.inr (Or.inr (Or.inl ⟨rfl, rfl⟩))) (fun _ => rfl) (z_pr (c := 3) (j := 5) tyX3 tyX3_ok nmX3 hX dX3_init_46 rfl inlX3 wm5_0 ⟨rfl, by decide⟩ ⟨rfl, fun _ => ⟨rfl, rfl⟩⟩ (Or.inr ⟨rfl, rfl, rfl⟩) (z_vret hX dX3_init_49 rfl))))))))))))))))))))))
def kX10_init_0 (r : pu_R) : pu_K := s_ald 0 (s_obj (s_ald 0 (s_push (.int (24)) (s_na 3 (s_pr 10 2 (s_ald 0 (s_push (.int (24)) (s_na 1 (s_pr 10 3 (s_ald 0 (s_push (.int (24)) (s_na 1 (s_pr 10 4 (s_ald 0 (s_push (.int (48)) (s_na 1 (s_pr 10 5 (s_ald 0 (s_push (.int (4800)) (s_na 1 (s_pr 10 6 (s_vret))))))))))))))))))))))
theorem vX10_init_0 : pu_cok2 kX10_init_0 := fun rf r hr => by
  unfold kX10_init_0
  exact v_ald (v_obj (v_ald (v_pi (v_na (v_pr (v_ald (v_pi (v_na (v_pr (v_ald (v_pi (v_na (v_pr (v_ald (v_pi (v_na (v_pr (v_ald (v_pi (v_na (v_pr (v_vret))))))))))))))))))))))
theorem tX10_init_0 {X : pu_X} {r : pu_R} (hX : pu_H X mdX10_init) (hr : pu_P X.2.1 X.2.2.2.2.2.2.2.2.2.2.1 r) (hq : ∀ i pc, pu_lp i = some (4, pc) → pu_S X mdX10_init pc (r i)) : pu_S X mdX10_init 0 (kX10_init_0 r) := by
  unfold kX10_init_0
  exact z_ald_n hX dX10_init_0 rfl (z_obj hX dX10_init_1 ⟨wm5_3, wm1_10, wm1_11⟩ ⟨Nat.le_of_ble_eq_true rfl, Nat.le_of_ble_eq_true rfl⟩ (z_ald_n hX dX10_init_4 rfl (z_bipush hX dX10_init_5 (by decide) (z_na (t0 := 2) hX dX10_init_7 wm4_23 ⟨rfl, by decide⟩ (Or.inr (Or.inr (Or.inl ⟨rfl, rfl⟩))) (fun _ => rfl) (z_pr (c := 10) (j := 2) tyX10 tyX10_ok nmX10 hX dX10_init_9 rfl inlX10 wm5_4 ⟨rfl, by decide⟩ ⟨rfl, fun _ => ⟨rfl, rfl⟩⟩ (Or.inr ⟨rfl, rfl, rfl⟩) (z_ald_n hX dX10_init_12 rfl (z_bipush hX dX10_init_13 (by decide) (z_na (t0 := 0) hX dX10_init_15 wm2_6 ⟨rfl, by decide⟩ (Or.inl ⟨rfl, rfl⟩) (fun _ => rfl) (z_pr (c := 10) (j := 3) tyX10 tyX10_ok nmX10 hX dX10_init_17 rfl inlX10 wm5_5 ⟨rfl, by decide⟩ ⟨rfl, fun _ => ⟨rfl, rfl⟩⟩ (Or.inr ⟨rfl, rfl, rfl⟩) (z_ald_n hX dX10_init_20 rfl (z_bipush hX dX10_init_21 (by decide) (z_na (t0 := 0) hX dX10_init_23 wm2_6 ⟨rfl, by decide⟩ (Or.inl ⟨rfl, rfl⟩) (fun _ => rfl) (z_pr (c := 10) (j := 4) tyX10 tyX10_ok nmX10 hX dX10_init_25 rfl inlX10 wm5_6 ⟨rfl, by decide⟩ ⟨rfl, fun _ => ⟨rfl, rfl⟩⟩ (Or.inr ⟨rfl, rfl, rfl⟩) (z_ald_n hX dX10_init_28 rfl (z_bipush hX dX10_init_29 (by decide) (z_na (t0 := 0) hX dX10_init_31 wm2_6 ⟨rfl, by decide⟩ (Or.inl ⟨rfl, rfl⟩) (fun _ => rfl) (z_pr (c := 10) (j := 5) tyX10 tyX10_ok nmX10 hX dX10_init_33 rfl inlX10 wm5_7 ⟨rfl, by decide⟩ ⟨rfl, fun _ => ⟨rfl, rfl⟩⟩ (Or.inr ⟨rfl, rfl, rfl⟩) (z_ald_n hX dX10_init_36 rfl (z_sipush hX dX10_init_37 (by decide) (z_na (t0 := 0) hX dX10_init_40 wm2_6 ⟨rfl, by decide⟩ (Or.inl ⟨rfl, rfl⟩) (fun _ => rfl) (z_pr (c := 10) (j := 6) tyX10 tyX10_ok nmX10 hX dX10_init_42 rfl inlX10 wm5_8 ⟨rfl, by decide⟩ ⟨rfl, fun _ => ⟨rfl, rfl⟩⟩ (Or.inr ⟨rfl, rfl, rfl⟩) (z_vret hX dX10_init_45 rfl))))))))))))))))))))))
def kX2_init_47 (r : pu_R) : pu_K := s_na 1 (s_pr 2 6 (s_ald 0 (s_push (.int (100)) (s_na 1 (s_pr 2 7 (s_ald 0 (s_push (.int (200)) (s_na 1 (s_pr 2 8 (s_ald 0 (s_push (.int (200)) (s_na 1 (s_pr 2 9 (s_ald 0 (s_push (.int (200)) (s_na 1 (s_pr 2 10 (s_vret))))))))))))))))))
theorem vX2_init_47 : pu_cok2 kX2_init_47 := fun rf r hr => by
  unfold kX2_init_47
  exact v_na (v_pr (v_ald (v_pi (v_na (v_pr (v_ald (v_pi (v_na (v_pr (v_ald (v_pi (v_na (v_pr (v_ald (v_pi (v_na (v_pr (v_vret))))))))))))))))))
theorem tX2_init_47 {X : pu_X} {r : pu_R} (hX : pu_H X mdX2_init) (hr : pu_P X.2.1 X.2.2.2.2.2.2.2.2.2.2.1 r) (hq : ∀ i pc, pu_lp i = some (5, pc) → pu_S X mdX2_init pc (r i)) : pu_S X mdX2_init 47 (kX2_init_47 r) := by
  unfold kX2_init_47
  exact z_na (t0 := 0) hX dX2_init_47 wm2_6 ⟨rfl, by decide⟩ (Or.inl ⟨rfl, rfl⟩) (fun _ => rfl) (z_pr (c := 2) (j := 6) tyX2 tyX2_ok nmX2 hX dX2_init_49 rfl inlX2 wm5_17 ⟨rfl, by decide⟩ ⟨rfl, fun _ => ⟨rfl, rfl⟩⟩ (Or.inr ⟨rfl, rfl, rfl⟩) (z_ald_n hX dX2_init_52 rfl (z_bipush hX dX2_init_53 (by decide) (z_na (t0 := 0) hX dX2_init_55 wm2_6 ⟨rfl, by decide⟩ (Or.inl ⟨rfl, rfl⟩) (fun _ => rfl) (z_pr (c := 2) (j := 7) tyX2 tyX2_ok nmX2 hX dX2_init_57 rfl inlX2 wm5_18 ⟨rfl, by decide⟩ ⟨rfl, fun _ => ⟨rfl, rfl⟩⟩ (Or.inr ⟨rfl, rfl, rfl⟩) (z_ald_n hX dX2_init_60 rfl (z_sipush hX dX2_init_61 (by decide) (z_na (t0 := 0) hX dX2_init_64 wm2_6 ⟨rfl, by decide⟩ (Or.inl ⟨rfl, rfl⟩) (fun _ => rfl) (z_pr (c := 2) (j := 8) tyX2 tyX2_ok nmX2 hX dX2_init_66 rfl inlX2 wm5_19 ⟨rfl, by decide⟩ ⟨rfl, fun _ => ⟨rfl, rfl⟩⟩ (Or.inr ⟨rfl, rfl, rfl⟩) (z_ald_n hX dX2_init_69 rfl (z_sipush hX dX2_init_70 (by decide) (z_na (t0 := 0) hX dX2_init_73 wm2_6 ⟨rfl, by decide⟩ (Or.inl ⟨rfl, rfl⟩) (fun _ => rfl) (z_pr (c := 2) (j := 9) tyX2 tyX2_ok nmX2 hX dX2_init_75 rfl inlX2 wm5_20 ⟨rfl, by decide⟩ ⟨rfl, fun _ => ⟨rfl, rfl⟩⟩ (Or.inr ⟨rfl, rfl, rfl⟩) (z_ald_n hX dX2_init_78 rfl (z_sipush hX dX2_init_79 (by decide) (z_na (t0 := 0) hX dX2_init_82 wm2_6 ⟨rfl, by decide⟩ (Or.inl ⟨rfl, rfl⟩) (fun _ => rfl) (z_pr (c := 2) (j := 10) tyX2 tyX2_ok nmX2 hX dX2_init_84 rfl inlX2 wm5_21 ⟨rfl, by decide⟩ ⟨rfl, fun _ => ⟨rfl, rfl⟩⟩ (Or.inr ⟨rfl, rfl, rfl⟩) (z_vret hX dX2_init_87 rfl))))))))))))))))))
def kX2_init_0 (r : pu_R) : pu_K := s_ald 0 (s_obj (s_ald 0 (s_push (.int (100)) (s_na 1 (s_pr 2 1 (s_ald 0 (s_push (.int (100)) (s_na 1 (s_pr 2 2 (s_ald 0 (s_push (.int (100)) (s_na 1 (s_pr 2 3 (s_ald 0 (s_push (.int (100)) (s_na 1 (s_pr 2 4 (s_ald 0 (s_push (.int (100)) (s_na 1 (s_pr 2 5 (s_ald 0 (s_push (.int (100)) ((kX2_init_47 r)))))))))))))))))))))))))
theorem vX2_init_0 : pu_cok2 kX2_init_0 := fun rf r hr => by
  unfold kX2_init_0
  exact v_ald (v_obj (v_ald (v_pi (v_na (v_pr (v_ald (v_pi (v_na (v_pr (v_ald (v_pi (v_na (v_pr (v_ald (v_pi (v_na (v_pr (v_ald (v_pi (v_na (v_pr (v_ald (v_pi ((vX2_init_47 rf r hr)))))))))))))))))))))))))
theorem tX2_init_0 {X : pu_X} {r : pu_R} (hX : pu_H X mdX2_init) (hr : pu_P X.2.1 X.2.2.2.2.2.2.2.2.2.2.1 r) (hq : ∀ i pc, pu_lp i = some (5, pc) → pu_S X mdX2_init pc (r i)) : pu_S X mdX2_init 0 (kX2_init_0 r) := by
  unfold kX2_init_0
  exact z_ald_n hX dX2_init_0 rfl (z_obj hX dX2_init_1 ⟨wm5_11, wm1_10, wm1_11⟩ ⟨Nat.le_of_ble_eq_true rfl, Nat.le_of_ble_eq_true rfl⟩ (z_ald_n hX dX2_init_4 rfl (z_bipush hX dX2_init_5 (by decide) (z_na (t0 := 0) hX dX2_init_7 wm2_6 ⟨rfl, by decide⟩ (Or.inl ⟨rfl, rfl⟩) (fun _ => rfl) (z_pr (c := 2) (j := 1) tyX2 tyX2_ok nmX2 hX dX2_init_9 rfl inlX2 wm5_12 ⟨rfl, by decide⟩ ⟨rfl, fun _ => ⟨rfl, rfl⟩⟩ (Or.inr ⟨rfl, rfl, rfl⟩) (z_ald_n hX dX2_init_12 rfl (z_bipush hX dX2_init_13 (by decide) (z_na (t0 := 0) hX dX2_init_15 wm2_6 ⟨rfl, by decide⟩ (Or.inl ⟨rfl, rfl⟩) (fun _ => rfl) (z_pr (c := 2) (j := 2) tyX2 tyX2_ok nmX2 hX dX2_init_17 rfl inlX2 wm5_13 ⟨rfl, by decide⟩ ⟨rfl, fun _ => ⟨rfl, rfl⟩⟩ (Or.inr ⟨rfl, rfl, rfl⟩) (z_ald_n hX dX2_init_20 rfl (z_bipush hX dX2_init_21 (by decide) (z_na (t0 := 0) hX dX2_init_23 wm2_6 ⟨rfl, by decide⟩ (Or.inl ⟨rfl, rfl⟩) (fun _ => rfl) (z_pr (c := 2) (j := 3) tyX2 tyX2_ok nmX2 hX dX2_init_25 rfl inlX2 wm5_14 ⟨rfl, by decide⟩ ⟨rfl, fun _ => ⟨rfl, rfl⟩⟩ (Or.inr ⟨rfl, rfl, rfl⟩) (z_ald_n hX dX2_init_28 rfl (z_bipush hX dX2_init_29 (by decide) (z_na (t0 := 0) hX dX2_init_31 wm2_6 ⟨rfl, by decide⟩ (Or.inl ⟨rfl, rfl⟩) (fun _ => rfl) (z_pr (c := 2) (j := 4) tyX2 tyX2_ok nmX2 hX dX2_init_33 rfl inlX2 wm5_15 ⟨rfl, by decide⟩ ⟨rfl, fun _ => ⟨rfl, rfl⟩⟩ (Or.inr ⟨rfl, rfl, rfl⟩) (z_ald_n hX dX2_init_36 rfl (z_bipush hX dX2_init_37 (by decide) (z_na (t0 := 0) hX dX2_init_39 wm2_6 ⟨rfl, by decide⟩ (Or.inl ⟨rfl, rfl⟩) (fun _ => rfl) (z_pr (c := 2) (j := 5) tyX2 tyX2_ok nmX2 hX dX2_init_41 rfl inlX2 wm5_16 ⟨rfl, by decide⟩ ⟨rfl, fun _ => ⟨rfl, rfl⟩⟩ (Or.inr ⟨rfl, rfl, rfl⟩) (z_ald_n hX dX2_init_44 rfl (z_bipush hX dX2_init_45 (by decide) ((tX2_init_47 hX hr hq)))))))))))))))))))))))))
def kX8_init_0 (r : pu_R) : pu_K := s_ald 0 (s_obj (s_ald 0 (s_push (.int (20)) (s_na 3 (s_pr 8 1 (s_ald 0 (s_push (.int (20)) (s_na 3 (s_pr 8 2 (s_vret))))))))))
theorem vX8_init_0 : pu_cok2 kX8_init_0 := fun rf r hr => by
  unfold kX8_init_0
  exact v_ald (v_obj (v_ald (v_pi (v_na (v_pr (v_ald (v_pi (v_na (v_pr (v_vret))))))))))
theorem tX8_init_0 {X : pu_X} {r : pu_R} (hX : pu_H X mdX8_init) (hr : pu_P X.2.1 X.2.2.2.2.2.2.2.2.2.2.1 r) (hq : ∀ i pc, pu_lp i = some (6, pc) → pu_S X mdX8_init pc (r i)) : pu_S X mdX8_init 0 (kX8_init_0 r) := by
  unfold kX8_init_0
  exact z_ald_n hX dX8_init_0 rfl (z_obj hX dX8_init_1 ⟨wm6_0, wm1_10, wm1_11⟩ ⟨Nat.le_of_ble_eq_true rfl, Nat.le_of_ble_eq_true rfl⟩ (z_ald_n hX dX8_init_4 rfl (z_bipush hX dX8_init_5 (by decide) (z_na (t0 := 2) hX dX8_init_7 wm4_23 ⟨rfl, by decide⟩ (Or.inr (Or.inr (Or.inl ⟨rfl, rfl⟩))) (fun _ => rfl) (z_pr (c := 8) (j := 1) tyX8 tyX8_ok nmX8 hX dX8_init_9 rfl inlX8 wm6_1 ⟨rfl, by decide⟩ ⟨rfl, fun _ => ⟨rfl, rfl⟩⟩ (Or.inr ⟨rfl, rfl, rfl⟩) (z_ald_n hX dX8_init_12 rfl (z_bipush hX dX8_init_13 (by decide) (z_na (t0 := 2) hX dX8_init_15 wm4_23 ⟨rfl, by decide⟩ (Or.inr (Or.inr (Or.inl ⟨rfl, rfl⟩))) (fun _ => rfl) (z_pr (c := 8) (j := 2) tyX8 tyX8_ok nmX8 hX dX8_init_17 rfl inlX8 wm6_2 ⟨rfl, by decide⟩ ⟨rfl, fun _ => ⟨rfl, rfl⟩⟩ (Or.inr ⟨rfl, rfl, rfl⟩) (z_vret hX dX8_init_20 rfl))))))))))
def kX1_init_97 (r : pu_R) : pu_K := s_ald 0 (s_push (.int (60)) (s_na 1 (s_pr 1 18 (s_ald 0 (s_push (.int (60)) (s_na 1 (s_pr 1 19 (s_vret))))))))
theorem vX1_init_97 : pu_cok2 kX1_init_97 := fun rf r hr => by
  unfold kX1_init_97
  exact v_ald (v_pi (v_na (v_pr (v_ald (v_pi (v_na (v_pr (v_vret))))))))
theorem tX1_init_97 {X : pu_X} {r : pu_R} (hX : pu_H X mdX1_init) (hr : pu_P X.2.1 X.2.2.2.2.2.2.2.2.2.2.1 r) (hq : ∀ i pc, pu_lp i = some (7, pc) → pu_S X mdX1_init pc (r i)) : pu_S X mdX1_init 97 (kX1_init_97 r) := by
  unfold kX1_init_97
  exact z_ald_n hX dX1_init_97 rfl (z_bipush hX dX1_init_98 (by decide) (z_na (t0 := 0) hX dX1_init_100 wm2_6 ⟨rfl, by decide⟩ (Or.inl ⟨rfl, rfl⟩) (fun _ => rfl) (z_pr (c := 1) (j := 18) tyX1 tyX1_ok nmX1 hX dX1_init_102 rfl inlX1 wm6_18 ⟨rfl, by decide⟩ ⟨rfl, fun _ => ⟨rfl, rfl⟩⟩ (Or.inr ⟨rfl, rfl, rfl⟩) (z_ald_n hX dX1_init_105 rfl (z_bipush hX dX1_init_106 (by decide) (z_na (t0 := 0) hX dX1_init_108 wm2_6 ⟨rfl, by decide⟩ (Or.inl ⟨rfl, rfl⟩) (fun _ => rfl) (z_pr (c := 1) (j := 19) tyX1 tyX1_ok nmX1 hX dX1_init_110 rfl inlX1 wm6_19 ⟨rfl, by decide⟩ ⟨rfl, fun _ => ⟨rfl, rfl⟩⟩ (Or.inr ⟨rfl, rfl, rfl⟩) (z_vret hX dX1_init_113 rfl))))))))
def kX1_init_47 (r : pu_R) : pu_K := s_ald 0 (s_push (.int (200)) (s_na 1 (s_pr 1 12 (s_ald 0 (s_push (.int (200)) (s_na 1 (s_pr 1 13 (s_ald 0 (s_push (.int (24)) (s_na 1 (s_pr 1 14 (s_ald 0 (s_push (.int (24)) (s_na 1 (s_pr 1 15 (s_ald 0 (s_push (.int (100)) (s_na 1 (s_pr 1 16 (s_ald 0 (s_push (.int (60)) (s_na 1 (s_pr 1 17 ((kX1_init_97 r)))))))))))))))))))))))))
theorem vX1_init_47 : pu_cok2 kX1_init_47 := fun rf r hr => by
  unfold kX1_init_47
  exact v_ald (v_pi (v_na (v_pr (v_ald (v_pi (v_na (v_pr (v_ald (v_pi (v_na (v_pr (v_ald (v_pi (v_na (v_pr (v_ald (v_pi (v_na (v_pr (v_ald (v_pi (v_na (v_pr ((vX1_init_97 rf r hr)))))))))))))))))))))))))
theorem tX1_init_47 {X : pu_X} {r : pu_R} (hX : pu_H X mdX1_init) (hr : pu_P X.2.1 X.2.2.2.2.2.2.2.2.2.2.1 r) (hq : ∀ i pc, pu_lp i = some (7, pc) → pu_S X mdX1_init pc (r i)) : pu_S X mdX1_init 47 (kX1_init_47 r) := by
  unfold kX1_init_47
  exact z_ald_n hX dX1_init_47 rfl (z_sipush hX dX1_init_48 (by decide) (z_na (t0 := 0) hX dX1_init_51 wm2_6 ⟨rfl, by decide⟩ (Or.inl ⟨rfl, rfl⟩) (fun _ => rfl) (z_pr (c := 1) (j := 12) tyX1 tyX1_ok nmX1 hX dX1_init_53 rfl inlX1 wm6_12 ⟨rfl, by decide⟩ ⟨rfl, fun _ => ⟨rfl, rfl⟩⟩ (Or.inr ⟨rfl, rfl, rfl⟩) (z_ald_n hX dX1_init_56 rfl (z_sipush hX dX1_init_57 (by decide) (z_na (t0 := 0) hX dX1_init_60 wm2_6 ⟨rfl, by decide⟩ (Or.inl ⟨rfl, rfl⟩) (fun _ => rfl) (z_pr (c := 1) (j := 13) tyX1 tyX1_ok nmX1 hX dX1_init_62 rfl inlX1 wm6_13 ⟨rfl, by decide⟩ ⟨rfl, fun _ => ⟨rfl, rfl⟩⟩ (Or.inr ⟨rfl, rfl, rfl⟩) (z_ald_n hX dX1_init_65 rfl (z_bipush hX dX1_init_66 (by decide) (z_na (t0 := 0) hX dX1_init_68 wm2_6 ⟨rfl, by decide⟩ (Or.inl ⟨rfl, rfl⟩) (fun _ => rfl) (z_pr (c := 1) (j := 14) tyX1 tyX1_ok nmX1 hX dX1_init_70 rfl inlX1 wm6_14 ⟨rfl, by decide⟩ ⟨rfl, fun _ => ⟨rfl, rfl⟩⟩ (Or.inr ⟨rfl, rfl, rfl⟩) (z_ald_n hX dX1_init_73 rfl (z_bipush hX dX1_init_74 (by decide) (z_na (t0 := 0) hX dX1_init_76 wm2_6 ⟨rfl, by decide⟩ (Or.inl ⟨rfl, rfl⟩) (fun _ => rfl) (z_pr (c := 1) (j := 15) tyX1 tyX1_ok nmX1 hX dX1_init_78 rfl inlX1 wm6_15 ⟨rfl, by decide⟩ ⟨rfl, fun _ => ⟨rfl, rfl⟩⟩ (Or.inr ⟨rfl, rfl, rfl⟩) (z_ald_n hX dX1_init_81 rfl (z_bipush hX dX1_init_82 (by decide) (z_na (t0 := 0) hX dX1_init_84 wm2_6 ⟨rfl, by decide⟩ (Or.inl ⟨rfl, rfl⟩) (fun _ => rfl) (z_pr (c := 1) (j := 16) tyX1 tyX1_ok nmX1 hX dX1_init_86 rfl inlX1 wm6_16 ⟨rfl, by decide⟩ ⟨rfl, fun _ => ⟨rfl, rfl⟩⟩ (Or.inr ⟨rfl, rfl, rfl⟩) (z_ald_n hX dX1_init_89 rfl (z_bipush hX dX1_init_90 (by decide) (z_na (t0 := 0) hX dX1_init_92 wm2_6 ⟨rfl, by decide⟩ (Or.inl ⟨rfl, rfl⟩) (fun _ => rfl) (z_pr (c := 1) (j := 17) tyX1 tyX1_ok nmX1 hX dX1_init_94 rfl inlX1 wm6_17 ⟨rfl, by decide⟩ ⟨rfl, fun _ => ⟨rfl, rfl⟩⟩ (Or.inr ⟨rfl, rfl, rfl⟩) ((tX1_init_97 hX hr hq)))))))))))))))))))))))))
def kX1_init_0 (r : pu_R) : pu_K := s_ald 0 (s_obj (s_ald 0 (s_push (.int (-1)) (s_pi 1 0 (s_ald 0 (s_push (.int (-1)) (s_pi 1 1 (s_ald 0 (s_push (.int (100)) (s_na 1 (s_pr 1 8 (s_ald 0 (s_push (.int (100)) (s_na 1 (s_pr 1 9 (s_ald 0 (s_push (.int (100)) (s_na 1 (s_pr 1 10 (s_ald 0 (s_push (.int (200)) (s_na 1 (s_pr 1 11 ((kX1_init_47 r)))))))))))))))))))))))))
theorem vX1_init_0 : pu_cok2 kX1_init_0 := fun rf r hr => by
  unfold kX1_init_0
  exact v_ald (v_obj (v_ald (v_pi (v_puti (v_ald (v_pi (v_puti (v_ald (v_pi (v_na (v_pr (v_ald (v_pi (v_na (v_pr (v_ald (v_pi (v_na (v_pr (v_ald (v_pi (v_na (v_pr ((vX1_init_47 rf r hr)))))))))))))))))))))))))
theorem tX1_init_0 {X : pu_X} {r : pu_R} (hX : pu_H X mdX1_init) (hr : pu_P X.2.1 X.2.2.2.2.2.2.2.2.2.2.1 r) (hq : ∀ i pc, pu_lp i = some (7, pc) → pu_S X mdX1_init pc (r i)) : pu_S X mdX1_init 0 (kX1_init_0 r) := by
  unfold kX1_init_0
  exact z_ald_n hX dX1_init_0 rfl (z_obj hX dX1_init_1 ⟨wm6_5, wm1_10, wm1_11⟩ ⟨Nat.le_of_ble_eq_true rfl, Nat.le_of_ble_eq_true rfl⟩ (z_ald_n hX dX1_init_4 rfl (z_iconst hX dX1_init_5 (by decide) (z_pi (c := 1) (j := 0) tyX1 tyX1_ok nmX1 hX dX1_init_6 rfl inlX1 wm6_6 ⟨rfl, by decide⟩ ⟨rfl, rfl⟩ rfl (z_ald_n hX dX1_init_9 rfl (z_iconst hX dX1_init_10 (by decide) (z_pi (c := 1) (j := 1) tyX1 tyX1_ok nmX1 hX dX1_init_11 rfl inlX1 wm6_7 ⟨rfl, by decide⟩ ⟨rfl, rfl⟩ rfl (z_ald_n hX dX1_init_14 rfl (z_bipush hX dX1_init_15 (by decide) (z_na (t0 := 0) hX dX1_init_17 wm2_6 ⟨rfl, by decide⟩ (Or.inl ⟨rfl, rfl⟩) (fun _ => rfl) (z_pr (c := 1) (j := 8) tyX1 tyX1_ok nmX1 hX dX1_init_19 rfl inlX1 wm6_8 ⟨rfl, by decide⟩ ⟨rfl, fun _ => ⟨rfl, rfl⟩⟩ (Or.inr ⟨rfl, rfl, rfl⟩) (z_ald_n hX dX1_init_22 rfl (z_bipush hX dX1_init_23 (by decide) (z_na (t0 := 0) hX dX1_init_25 wm2_6 ⟨rfl, by decide⟩ (Or.inl ⟨rfl, rfl⟩) (fun _ => rfl) (z_pr (c := 1) (j := 9) tyX1 tyX1_ok nmX1 hX dX1_init_27 rfl inlX1 wm6_9 ⟨rfl, by decide⟩ ⟨rfl, fun _ => ⟨rfl, rfl⟩⟩ (Or.inr ⟨rfl, rfl, rfl⟩) (z_ald_n hX dX1_init_30 rfl (z_bipush hX dX1_init_31 (by decide) (z_na (t0 := 0) hX dX1_init_33 wm2_6 ⟨rfl, by decide⟩ (Or.inl ⟨rfl, rfl⟩) (fun _ => rfl) (z_pr (c := 1) (j := 10) tyX1 tyX1_ok nmX1 hX dX1_init_35 rfl inlX1 wm6_10 ⟨rfl, by decide⟩ ⟨rfl, fun _ => ⟨rfl, rfl⟩⟩ (Or.inr ⟨rfl, rfl, rfl⟩) (z_ald_n hX dX1_init_38 rfl (z_sipush hX dX1_init_39 (by decide) (z_na (t0 := 0) hX dX1_init_42 wm2_6 ⟨rfl, by decide⟩ (Or.inl ⟨rfl, rfl⟩) (fun _ => rfl) (z_pr (c := 1) (j := 11) tyX1 tyX1_ok nmX1 hX dX1_init_44 rfl inlX1 wm6_11 ⟨rfl, by decide⟩ ⟨rfl, fun _ => ⟨rfl, rfl⟩⟩ (Or.inr ⟨rfl, rfl, rfl⟩) ((tX1_init_47 hX hr hq)))))))))))))))))))))))))
def kX5_init_52 (r : pu_R) : pu_K := s_dup (s_ci r 5 0 (s_pr 5 4 (s_ald 0 (s_new 8 (s_dup (s_ci r 6 0 (s_pr 5 5 (s_ald 0 (s_new 1 (s_dup (s_ci r 7 0 (s_pr 5 6 (s_vret)))))))))))))
theorem vX5_init_52 : pu_cok2 kX5_init_52 := fun rf r hr => by
  unfold kX5_init_52
  exact v_dup (v_ci hr (v_pr (v_ald (v_new (v_dup (v_ci hr (v_pr (v_ald (v_new (v_dup (v_ci hr (v_pr (v_vret)))))))))))))
theorem tX5_init_52 {X : pu_X} {r : pu_R} (hX : pu_H X mdX5_init) (hr : pu_P X.2.1 X.2.2.2.2.2.2.2.2.2.2.1 r) (hq : ∀ i pc, pu_lp i = some (8, pc) → pu_S X mdX5_init pc (r i)) : pu_S X mdX5_init 52 (kX5_init_52 r) := by
  unfold kX5_init_52
  exact z_dup hX dX5_init_52 (z_ciN hX hr dX5_init_53 hjX2_init mwX2_init ⟨rfl, rfl⟩ ne8 wm5_9 ⟨Nat.le_of_ble_eq_true rfl, Nat.le_of_ble_eq_true rfl⟩ (z_pr (c := 5) (j := 4) tyX5 tyX5_ok nmX5 hX dX5_init_56 rfl inlX5 wm3_13 ⟨rfl, by decide⟩ ⟨rfl, fun _ => ⟨rfl, rfl⟩⟩ (Or.inr ⟨rfl, rfl, rfl⟩) (z_ald_n hX dX5_init_59 rfl (z_new (c := 8) tyX8 tyX8_ok hX dX5_init_60 rfl inlX8 ⟨wm3_14, wm3_15, wm3_16⟩ ⟨rfl, by decide⟩ (z_dup hX dX5_init_63 (z_ciN hX hr dX5_init_64 hjX8_init mwX8_init ⟨rfl, rfl⟩ ne9 wm5_22 ⟨Nat.le_of_ble_eq_true rfl, Nat.le_of_ble_eq_true rfl⟩ (z_pr (c := 5) (j := 5) tyX5 tyX5_ok nmX5 hX dX5_init_67 rfl inlX5 wm3_17 ⟨rfl, by decide⟩ ⟨rfl, fun _ => ⟨rfl, rfl⟩⟩ (Or.inr ⟨rfl, rfl, rfl⟩) (z_ald_n hX dX5_init_70 rfl (z_new (c := 1) tyX1 tyX1_ok hX dX5_init_71 rfl inlX1 ⟨wm3_18, wm3_19, wm3_20⟩ ⟨rfl, by decide⟩ (z_dup hX dX5_init_74 (z_ciN hX hr dX5_init_75 hjX1_init mwX1_init ⟨rfl, rfl⟩ ne10 wm6_3 ⟨Nat.le_of_ble_eq_true rfl, Nat.le_of_ble_eq_true rfl⟩ (z_pr (c := 5) (j := 6) tyX5 tyX5_ok nmX5 hX dX5_init_78 rfl inlX5 wm3_21 ⟨rfl, by decide⟩ ⟨rfl, fun _ => ⟨rfl, rfl⟩⟩ (Or.inr ⟨rfl, rfl, rfl⟩) (z_vret hX dX5_init_81 rfl)))))))))))))
def kX5_init_0 (r : pu_R) : pu_K := s_ald 0 (s_obj (s_ald 0 (s_new 6 (s_dup (s_ci r 1 0 (s_pr 5 0 (s_ald 0 (s_new 4 (s_dup (s_ci r 2 0 (s_pr 5 1 (s_ald 0 (s_new 3 (s_dup (s_ci r 3 0 (s_pr 5 2 (s_ald 0 (s_new 10 (s_dup (s_ci r 4 0 (s_pr 5 3 (s_ald 0 (s_new 2 ((kX5_init_52 r)))))))))))))))))))))))))
theorem vX5_init_0 : pu_cok2 kX5_init_0 := fun rf r hr => by
  unfold kX5_init_0
  exact v_ald (v_obj (v_ald (v_new (v_dup (v_ci hr (v_pr (v_ald (v_new (v_dup (v_ci hr (v_pr (v_ald (v_new (v_dup (v_ci hr (v_pr (v_ald (v_new (v_dup (v_ci hr (v_pr (v_ald (v_new ((vX5_init_52 rf r hr)))))))))))))))))))))))))
theorem tX5_init_0 {X : pu_X} {r : pu_R} (hX : pu_H X mdX5_init) (hr : pu_P X.2.1 X.2.2.2.2.2.2.2.2.2.2.1 r) (hq : ∀ i pc, pu_lp i = some (8, pc) → pu_S X mdX5_init pc (r i)) : pu_S X mdX5_init 0 (kX5_init_0 r) := by
  unfold kX5_init_0
  exact z_ald_n hX dX5_init_0 rfl (z_obj hX dX5_init_1 ⟨wm2_17, wm1_10, wm1_11⟩ ⟨Nat.le_of_ble_eq_true rfl, Nat.le_of_ble_eq_true rfl⟩ (z_ald_n hX dX5_init_4 rfl (z_new (c := 6) tyX6 tyX6_ok hX dX5_init_5 rfl inlX6 ⟨wm2_18, wm2_19, wm2_20⟩ ⟨rfl, by decide⟩ (z_dup hX dX5_init_8 (z_ciN hX hr dX5_init_9 hjX6_init mwX6_init ⟨rfl, rfl⟩ ne4 wm3_22 ⟨Nat.le_of_ble_eq_true rfl, Nat.le_of_ble_eq_true rfl⟩ (z_pr (c := 5) (j := 0) tyX5 tyX5_ok nmX5 hX dX5_init_12 rfl inlX5 wm2_21 ⟨rfl, by decide⟩ ⟨rfl, fun _ => ⟨rfl, rfl⟩⟩ (Or.inr ⟨rfl, rfl, rfl⟩) (z_ald_n hX dX5_init_15 rfl (z_new (c := 4) tyX4 tyX4_ok hX dX5_init_16 rfl inlX4 ⟨wm2_22, wm2_23, wm3_0⟩ ⟨rfl, by decide⟩ (z_dup hX dX5_init_19 (z_ciN hX hr dX5_init_20 hjX4_init mwX4_init ⟨rfl, rfl⟩ ne5 wm4_9 ⟨Nat.le_of_ble_eq_true rfl, Nat.le_of_ble_eq_true rfl⟩ (z_pr (c := 5) (j := 1) tyX5 tyX5_ok nmX5 hX dX5_init_23 rfl inlX5 wm3_1 ⟨rfl, by decide⟩ ⟨rfl, fun _ => ⟨rfl, rfl⟩⟩ (Or.inr ⟨rfl, rfl, rfl⟩) (z_ald_n hX dX5_init_26 rfl (z_new (c := 3) tyX3 tyX3_ok hX dX5_init_27 rfl inlX3 ⟨wm3_2, wm3_3, wm3_4⟩ ⟨rfl, by decide⟩ (z_dup hX dX5_init_30 (z_ciN hX hr dX5_init_31 hjX3_init mwX3_init ⟨rfl, rfl⟩ ne6 wm4_16 ⟨Nat.le_of_ble_eq_true rfl, Nat.le_of_ble_eq_true rfl⟩ (z_pr (c := 5) (j := 2) tyX5 tyX5_ok nmX5 hX dX5_init_34 rfl inlX5 wm3_5 ⟨rfl, by decide⟩ ⟨rfl, fun _ => ⟨rfl, rfl⟩⟩ (Or.inr ⟨rfl, rfl, rfl⟩) (z_ald_n hX dX5_init_37 rfl (z_new (c := 10) tyX10 tyX10_ok hX dX5_init_38 rfl inlX10 ⟨wm3_6, wm3_7, wm3_8⟩ ⟨rfl, by decide⟩ (z_dup hX dX5_init_41 (z_ciN hX hr dX5_init_42 hjX10_init mwX10_init ⟨rfl, rfl⟩ ne7 wm5_1 ⟨Nat.le_of_ble_eq_true rfl, Nat.le_of_ble_eq_true rfl⟩ (z_pr (c := 5) (j := 3) tyX5 tyX5_ok nmX5 hX dX5_init_45 rfl inlX5 wm3_9 ⟨rfl, by decide⟩ ⟨rfl, fun _ => ⟨rfl, rfl⟩⟩ (Or.inr ⟨rfl, rfl, rfl⟩) (z_ald_n hX dX5_init_48 rfl (z_new (c := 2) tyX2 tyX2_ok hX dX5_init_49 rfl inlX2 ⟨wm3_10, wm3_11, wm3_12⟩ ⟨rfl, by decide⟩ ((tX5_init_52 hX hr hq)))))))))))))))))))))))))
def kX7_init_0 (r : pu_R) : pu_K := s_ald 0 (s_obj (s_ald 0 (s_push (.int (3)) (s_na 3 (s_pr 7 0 (s_ald 0 (s_push (.int (3)) (s_na 3 (s_pr 7 1 (s_ald 0 (s_push (.int (-1)) (s_pi 7 5 (s_vret)))))))))))))
theorem vX7_init_0 : pu_cok2 kX7_init_0 := fun rf r hr => by
  unfold kX7_init_0
  exact v_ald (v_obj (v_ald (v_pi (v_na (v_pr (v_ald (v_pi (v_na (v_pr (v_ald (v_pi (v_puti (v_vret)))))))))))))
theorem tX7_init_0 {X : pu_X} {r : pu_R} (hX : pu_H X mdX7_init) (hr : pu_P X.2.1 X.2.2.2.2.2.2.2.2.2.2.1 r) (hq : ∀ i pc, pu_lp i = some (9, pc) → pu_S X mdX7_init pc (r i)) : pu_S X mdX7_init 0 (kX7_init_0 r) := by
  unfold kX7_init_0
  exact z_ald_n hX dX7_init_0 rfl (z_obj hX dX7_init_1 ⟨wm6_22, wm1_10, wm1_11⟩ ⟨Nat.le_of_ble_eq_true rfl, Nat.le_of_ble_eq_true rfl⟩ (z_ald_n hX dX7_init_4 rfl (z_iconst hX dX7_init_5 (by decide) (z_na (t0 := 2) hX dX7_init_6 wm4_23 ⟨rfl, by decide⟩ (Or.inr (Or.inr (Or.inl ⟨rfl, rfl⟩))) (fun _ => rfl) (z_pr (c := 7) (j := 0) tyX7 tyX7_ok nmX7 hX dX7_init_8 rfl inlX7 wm6_23 ⟨rfl, by decide⟩ ⟨rfl, fun _ => ⟨rfl, rfl⟩⟩ (Or.inr ⟨rfl, rfl, rfl⟩) (z_ald_n hX dX7_init_11 rfl (z_iconst hX dX7_init_12 (by decide) (z_na (t0 := 2) hX dX7_init_13 wm4_23 ⟨rfl, by decide⟩ (Or.inr (Or.inr (Or.inl ⟨rfl, rfl⟩))) (fun _ => rfl) (z_pr (c := 7) (j := 1) tyX7 tyX7_ok nmX7 hX dX7_init_15 rfl inlX7 wm7_0 ⟨rfl, by decide⟩ ⟨rfl, fun _ => ⟨rfl, rfl⟩⟩ (Or.inr ⟨rfl, rfl, rfl⟩) (z_ald_n hX dX7_init_18 rfl (z_iconst hX dX7_init_19 (by decide) (z_pi (c := 7) (j := 5) tyX7 tyX7_ok nmX7 hX dX7_init_20 rfl inlX7 wm7_1 ⟨rfl, by decide⟩ ⟨rfl, rfl⟩ rfl (z_vret hX dX7_init_23 rfl)))))))))))))
def kX9_init_47 (r : pu_R) : pu_K := s_na 1 (s_pr 9 8 (s_vret))
theorem vX9_init_47 : pu_cok2 kX9_init_47 := fun rf r hr => by
  unfold kX9_init_47
  exact v_na (v_pr (v_vret))
theorem tX9_init_47 {X : pu_X} {r : pu_R} (hX : pu_H X mdX9_init) (hr : pu_P X.2.1 X.2.2.2.2.2.2.2.2.2.2.1 r) (hq : ∀ i pc, pu_lp i = some (10, pc) → pu_S X mdX9_init pc (r i)) : pu_S X mdX9_init 47 (kX9_init_47 r) := by
  unfold kX9_init_47
  exact z_na (t0 := 0) hX dX9_init_47 wm2_6 ⟨rfl, by decide⟩ (Or.inl ⟨rfl, rfl⟩) (fun _ => rfl) (z_pr (c := 9) (j := 8) tyX9 tyX9_ok nmX9 hX dX9_init_49 rfl inlX9 wm7_10 ⟨rfl, by decide⟩ ⟨rfl, fun _ => ⟨rfl, rfl⟩⟩ (Or.inr ⟨rfl, rfl, rfl⟩) (z_vret hX dX9_init_52 rfl))
def kX9_init_0 (r : pu_R) : pu_K := s_ald 0 (s_obj (s_ald 0 (s_push (.int (100)) (s_na 1 (s_pr 9 3 (s_ald 0 (s_push (.int (100)) (s_na 1 (s_pr 9 4 (s_ald 0 (s_push (.int (100)) (s_na 1 (s_pr 9 5 (s_ald 0 (s_push (.int (100)) (s_na 1 (s_pr 9 6 (s_ald 0 (s_push (.int (100)) (s_na 1 (s_pr 9 7 (s_ald 0 (s_push (.int (100)) ((kX9_init_47 r)))))))))))))))))))))))))
theorem vX9_init_0 : pu_cok2 kX9_init_0 := fun rf r hr => by
  unfold kX9_init_0
  exact v_ald (v_obj (v_ald (v_pi (v_na (v_pr (v_ald (v_pi (v_na (v_pr (v_ald (v_pi (v_na (v_pr (v_ald (v_pi (v_na (v_pr (v_ald (v_pi (v_na (v_pr (v_ald (v_pi ((vX9_init_47 rf r hr)))))))))))))))))))))))))
theorem tX9_init_0 {X : pu_X} {r : pu_R} (hX : pu_H X mdX9_init) (hr : pu_P X.2.1 X.2.2.2.2.2.2.2.2.2.2.1 r) (hq : ∀ i pc, pu_lp i = some (10, pc) → pu_S X mdX9_init pc (r i)) : pu_S X mdX9_init 0 (kX9_init_0 r) := by
  unfold kX9_init_0
  exact z_ald_n hX dX9_init_0 rfl (z_obj hX dX9_init_1 ⟨wm7_4, wm1_10, wm1_11⟩ ⟨Nat.le_of_ble_eq_true rfl, Nat.le_of_ble_eq_true rfl⟩ (z_ald_n hX dX9_init_4 rfl (z_bipush hX dX9_init_5 (by decide) (z_na (t0 := 0) hX dX9_init_7 wm2_6 ⟨rfl, by decide⟩ (Or.inl ⟨rfl, rfl⟩) (fun _ => rfl) (z_pr (c := 9) (j := 3) tyX9 tyX9_ok nmX9 hX dX9_init_9 rfl inlX9 wm7_5 ⟨rfl, by decide⟩ ⟨rfl, fun _ => ⟨rfl, rfl⟩⟩ (Or.inr ⟨rfl, rfl, rfl⟩) (z_ald_n hX dX9_init_12 rfl (z_bipush hX dX9_init_13 (by decide) (z_na (t0 := 0) hX dX9_init_15 wm2_6 ⟨rfl, by decide⟩ (Or.inl ⟨rfl, rfl⟩) (fun _ => rfl) (z_pr (c := 9) (j := 4) tyX9 tyX9_ok nmX9 hX dX9_init_17 rfl inlX9 wm7_6 ⟨rfl, by decide⟩ ⟨rfl, fun _ => ⟨rfl, rfl⟩⟩ (Or.inr ⟨rfl, rfl, rfl⟩) (z_ald_n hX dX9_init_20 rfl (z_bipush hX dX9_init_21 (by decide) (z_na (t0 := 0) hX dX9_init_23 wm2_6 ⟨rfl, by decide⟩ (Or.inl ⟨rfl, rfl⟩) (fun _ => rfl) (z_pr (c := 9) (j := 5) tyX9 tyX9_ok nmX9 hX dX9_init_25 rfl inlX9 wm7_7 ⟨rfl, by decide⟩ ⟨rfl, fun _ => ⟨rfl, rfl⟩⟩ (Or.inr ⟨rfl, rfl, rfl⟩) (z_ald_n hX dX9_init_28 rfl (z_bipush hX dX9_init_29 (by decide) (z_na (t0 := 0) hX dX9_init_31 wm2_6 ⟨rfl, by decide⟩ (Or.inl ⟨rfl, rfl⟩) (fun _ => rfl) (z_pr (c := 9) (j := 6) tyX9 tyX9_ok nmX9 hX dX9_init_33 rfl inlX9 wm7_8 ⟨rfl, by decide⟩ ⟨rfl, fun _ => ⟨rfl, rfl⟩⟩ (Or.inr ⟨rfl, rfl, rfl⟩) (z_ald_n hX dX9_init_36 rfl (z_bipush hX dX9_init_37 (by decide) (z_na (t0 := 0) hX dX9_init_39 wm2_6 ⟨rfl, by decide⟩ (Or.inl ⟨rfl, rfl⟩) (fun _ => rfl) (z_pr (c := 9) (j := 7) tyX9 tyX9_ok nmX9 hX dX9_init_41 rfl inlX9 wm7_9 ⟨rfl, by decide⟩ ⟨rfl, fun _ => ⟨rfl, rfl⟩⟩ (Or.inr ⟨rfl, rfl, rfl⟩) (z_ald_n hX dX9_init_44 rfl (z_bipush hX dX9_init_45 (by decide) ((tX9_init_47 hX hr hq)))))))))))))))))))))))))
def kX11_init_50 (r : pu_R) : pu_K := s_ci r 9 0 (s_pr 11 4 (s_ald 0 (s_new 9 (s_dup (s_ci r 10 0 (s_pr 11 5 (s_ald 0 (s_push (.int (100)) (s_na 1 (s_pr 11 6 (s_ald 0 (s_push (.int (200)) (s_na 1 (s_pr 11 7 (s_ald 0 (s_push (.int (-1)) (s_pi 11 8 (s_ald 0 (s_push (.int (-1)) (s_pi 11 9 (s_vret)))))))))))))))))))))
theorem vX11_init_50 : pu_cok2 kX11_init_50 := fun rf r hr => by
  unfold kX11_init_50
  exact v_ci hr (v_pr (v_ald (v_new (v_dup (v_ci hr (v_pr (v_ald (v_pi (v_na (v_pr (v_ald (v_pi (v_na (v_pr (v_ald (v_pi (v_puti (v_ald (v_pi (v_puti (v_vret)))))))))))))))))))))
theorem tX11_init_50 {X : pu_X} {r : pu_R} (hX : pu_H X mdX11_init) (hr : pu_P X.2.1 X.2.2.2.2.2.2.2.2.2.2.1 r) (hq : ∀ i pc, pu_lp i = some (11, pc) → pu_S X mdX11_init pc (r i)) : pu_S X mdX11_init 50 (kX11_init_50 r) := by
  unfold kX11_init_50
  exact z_ciN hX hr dX11_init_50 hjX7_init mwX7_init ⟨rfl, rfl⟩ ne2 wm6_20 ⟨Nat.le_of_ble_eq_true rfl, Nat.le_of_ble_eq_true rfl⟩ (z_pr (c := 11) (j := 4) tyX11 tyX11_ok nmX11 hX dX11_init_53 rfl inlX11 wm2_1 ⟨rfl, by decide⟩ ⟨rfl, fun _ => ⟨rfl, rfl⟩⟩ (Or.inr ⟨rfl, rfl, rfl⟩) (z_ald_n hX dX11_init_56 rfl (z_new (c := 9) tyX9 tyX9_ok hX dX11_init_57 rfl inlX9 ⟨wm2_2, wm2_3, wm2_4⟩ ⟨rfl, by decide⟩ (z_dup hX dX11_init_60 (z_ciN hX hr dX11_init_61 hjX9_init mwX9_init ⟨rfl, rfl⟩ ne3 wm7_2 ⟨Nat.le_of_ble_eq_true rfl, Nat.le_of_ble_eq_true rfl⟩ (z_pr (c := 11) (j := 5) tyX11 tyX11_ok nmX11 hX dX11_init_64 rfl inlX11 wm2_5 ⟨rfl, by decide⟩ ⟨rfl, fun _ => ⟨rfl, rfl⟩⟩ (Or.inr ⟨rfl, rfl, rfl⟩) (z_ald_n hX dX11_init_67 rfl (z_bipush hX dX11_init_68 (by decide) (z_na (t0 := 0) hX dX11_init_70 wm2_6 ⟨rfl, by decide⟩ (Or.inl ⟨rfl, rfl⟩) (fun _ => rfl) (z_pr (c := 11) (j := 6) tyX11 tyX11_ok nmX11 hX dX11_init_72 rfl inlX11 wm2_7 ⟨rfl, by decide⟩ ⟨rfl, fun _ => ⟨rfl, rfl⟩⟩ (Or.inr ⟨rfl, rfl, rfl⟩) (z_ald_n hX dX11_init_75 rfl (z_sipush hX dX11_init_76 (by decide) (z_na (t0 := 0) hX dX11_init_79 wm2_6 ⟨rfl, by decide⟩ (Or.inl ⟨rfl, rfl⟩) (fun _ => rfl) (z_pr (c := 11) (j := 7) tyX11 tyX11_ok nmX11 hX dX11_init_81 rfl inlX11 wm2_8 ⟨rfl, by decide⟩ ⟨rfl, fun _ => ⟨rfl, rfl⟩⟩ (Or.inr ⟨rfl, rfl, rfl⟩) (z_ald_n hX dX11_init_84 rfl (z_iconst hX dX11_init_85 (by decide) (z_pi (c := 11) (j := 8) tyX11 tyX11_ok nmX11 hX dX11_init_86 rfl inlX11 wm2_9 ⟨rfl, by decide⟩ ⟨rfl, rfl⟩ rfl (z_ald_n hX dX11_init_89 rfl (z_iconst hX dX11_init_90 (by decide) (z_pi (c := 11) (j := 9) tyX11 tyX11_ok nmX11 hX dX11_init_91 rfl inlX11 wm2_10 ⟨rfl, by decide⟩ ⟨rfl, rfl⟩ rfl (z_vret hX dX11_init_94 rfl)))))))))))))))))))))
def kX11_init_0 (r : pu_R) : pu_K := s_ald 0 (s_obj (s_ald 0 (s_new 0 (s_dup (s_ci r 0 0 (s_pr 11 0 (s_ald 0 (s_new 0 (s_dup (s_ci r 0 0 (s_pr 11 1 (s_ald 0 (s_new 5 (s_dup (s_ci r 8 0 (s_pr 11 2 (s_ald 0 (s_push (.int (3)) (s_na 5 (s_pr 11 3 (s_ald 0 (s_new 7 (s_dup ((kX11_init_50 r)))))))))))))))))))))))))
theorem vX11_init_0 : pu_cok2 kX11_init_0 := fun rf r hr => by
  unfold kX11_init_0
  exact v_ald (v_obj (v_ald (v_new (v_dup (v_ci hr (v_pr (v_ald (v_new (v_dup (v_ci hr (v_pr (v_ald (v_new (v_dup (v_ci hr (v_pr (v_ald (v_pi (v_na (v_pr (v_ald (v_new (v_dup ((vX11_init_50 rf r hr)))))))))))))))))))))))))
theorem tX11_init_0 {X : pu_X} {r : pu_R} (hX : pu_H X mdX11_init) (hr : pu_P X.2.1 X.2.2.2.2.2.2.2.2.2.2.1 r) (hq : ∀ i pc, pu_lp i = some (11, pc) → pu_S X mdX11_init pc (r i)) : pu_S X mdX11_init 0 (kX11_init_0 r) := by
  unfold kX11_init_0
  exact z_ald_n hX dX11_init_0 rfl (z_obj hX dX11_init_1 ⟨wm1_9, wm1_10, wm1_11⟩ ⟨Nat.le_of_ble_eq_true rfl, Nat.le_of_ble_eq_true rfl⟩ (z_ald_n hX dX11_init_4 rfl (z_new (c := 0) tyX0 tyX0_ok hX dX11_init_5 rfl inlX0 ⟨wm1_12, wm1_13, wm1_14⟩ ⟨rfl, by decide⟩ (z_dup hX dX11_init_8 (z_ciN hX hr dX11_init_9 hjX0_init mwX0_init ⟨rfl, rfl⟩ ne0 wm2_11 ⟨Nat.le_of_ble_eq_true rfl, Nat.le_of_ble_eq_true rfl⟩ (z_pr (c := 11) (j := 0) tyX11 tyX11_ok nmX11 hX dX11_init_12 rfl inlX11 wm1_15 ⟨rfl, by decide⟩ ⟨rfl, fun _ => ⟨rfl, rfl⟩⟩ (Or.inr ⟨rfl, rfl, rfl⟩) (z_ald_n hX dX11_init_15 rfl (z_new (c := 0) tyX0 tyX0_ok hX dX11_init_16 rfl inlX0 ⟨wm1_12, wm1_13, wm1_14⟩ ⟨rfl, by decide⟩ (z_dup hX dX11_init_19 (z_ciN hX hr dX11_init_20 hjX0_init mwX0_init ⟨rfl, rfl⟩ ne0 wm2_11 ⟨Nat.le_of_ble_eq_true rfl, Nat.le_of_ble_eq_true rfl⟩ (z_pr (c := 11) (j := 1) tyX11 tyX11_ok nmX11 hX dX11_init_23 rfl inlX11 wm1_16 ⟨rfl, by decide⟩ ⟨rfl, fun _ => ⟨rfl, rfl⟩⟩ (Or.inr ⟨rfl, rfl, rfl⟩) (z_ald_n hX dX11_init_26 rfl (z_new (c := 5) tyX5 tyX5_ok hX dX11_init_27 rfl inlX5 ⟨wm1_17, wm1_18, wm1_19⟩ ⟨rfl, by decide⟩ (z_dup hX dX11_init_30 (z_ciN hX hr dX11_init_31 hjX5_init mwX5_init ⟨rfl, rfl⟩ ne1 wm2_15 ⟨Nat.le_of_ble_eq_true rfl, Nat.le_of_ble_eq_true rfl⟩ (z_pr (c := 11) (j := 2) tyX11 tyX11_ok nmX11 hX dX11_init_34 rfl inlX11 wm1_20 ⟨rfl, by decide⟩ ⟨rfl, fun _ => ⟨rfl, rfl⟩⟩ (Or.inr ⟨rfl, rfl, rfl⟩) (z_ald_n hX dX11_init_37 rfl (z_iconst hX dX11_init_38 (by decide) (z_ana hX dX11_init_39 wm1_17 (z_pr (c := 11) (j := 3) tyX11 tyX11_ok nmX11 hX dX11_init_42 rfl inlX11 wm1_21 ⟨rfl, by decide⟩ ⟨rfl, fun _ => ⟨rfl, rfl⟩⟩ (Or.inr ⟨rfl, rfl, rfl⟩) (z_ald_n hX dX11_init_45 rfl (z_new (c := 7) tyX7 tyX7_ok hX dX11_init_46 rfl inlX7 ⟨wm1_22, wm1_23, wm2_0⟩ ⟨rfl, by decide⟩ (z_dup hX dX11_init_49 ((tX11_init_50 hX hr hq)))))))))))))))))))))))))
def kX0_put_34 (r : pu_R) : pu_K := s_vret
theorem vX0_put_34 : pu_cok2 kX0_put_34 := fun rf r hr => by
  unfold kX0_put_34
  exact v_vret
theorem tX0_put_34 {X : pu_X} {r : pu_R} (hX : pu_H X mdX0_put) (hr : pu_P X.2.1 X.2.2.2.2.2.2.2.2.2.2.1 r) (hq : ∀ i pc, pu_lp i = some (12, pc) → pu_S X mdX0_put pc (r i)) : pu_S X mdX0_put 34 (kX0_put_34 r) := by
  unfold kX0_put_34
  exact z_vret hX dX0_put_34 rfl
def kX0_put_0 (r : pu_R) : pu_K := s_ald 0 (s_gi 0 0 (s_push (.int (1200)) (s_icge (kX0_put_34 r) (s_ald 0 (s_gr 0 1 (s_ald 0 (s_gi 0 0 (s_ild 1 (s_push (.int (255)) (s_iand (s_wi 1 (s_ald 0 (s_dup (s_gi 0 0 (s_push (.int (1)) (s_iadd (s_pi 0 0 ((kX0_put_34 r)))))))))))))))))))
theorem vX0_put_0 : pu_cok2 kX0_put_0 := fun rf r hr => by
  unfold kX0_put_0
  exact v_ald (v_gi (v_pi (v_icge (vX0_put_34 rf r hr) (v_ald (v_gr (v_ald (v_gi (v_ild (v_pi (v_iand (v_wi (v_ald (v_dup (v_gi (v_pi (v_iadd (v_puti ((vX0_put_34 rf r hr)))))))))))))))))))
theorem tX0_put_0 {X : pu_X} {r : pu_R} (hX : pu_H X mdX0_put) (hr : pu_P X.2.1 X.2.2.2.2.2.2.2.2.2.2.1 r) (hq : ∀ i pc, pu_lp i = some (12, pc) → pu_S X mdX0_put pc (r i)) : pu_S X mdX0_put 0 (kX0_put_0 r) := by
  unfold kX0_put_0
  exact z_ald_n hX dX0_put_0 rfl (z_gi (c := 0) (j := 0) hX dX0_put_1 rfl inlX0 wm9_10 ⟨rfl, by decide, rfl⟩ (z_sipush hX dX0_put_4 (by decide) (z_icge hX dX0_put_7 (by decide) (tX0_put_34 hX hr hq) (z_ald_n hX dX0_put_10 rfl (z_gr (c := 0) (j := 1) hX dX0_put_11 rfl inlX0 wm2_14 ⟨rfl, by decide, rfl⟩ (z_ald_n hX dX0_put_14 rfl (z_gi (c := 0) (j := 0) hX dX0_put_15 rfl inlX0 wm9_10 ⟨rfl, by decide, rfl⟩ (z_ild_n hX dX0_put_18 rfl (z_sipush hX dX0_put_19 (by decide) (z_iand hX dX0_put_22 (z_iast hX dX0_put_23 (z_ald_n hX dX0_put_24 rfl (z_dup hX dX0_put_25 (z_gi (c := 0) (j := 0) hX dX0_put_26 rfl inlX0 wm9_10 ⟨rfl, by decide, rfl⟩ (z_iconst hX dX0_put_29 (by decide) (z_iadd hX dX0_put_30 (z_pi (c := 0) (j := 0) tyX0 tyX0_ok nmX0 hX dX0_put_31 rfl inlX0 wm9_10 ⟨rfl, by decide⟩ ⟨rfl, rfl⟩ rfl ((tX0_put_34 hX hr hq)))))))))))))))))))
def kX0_putFour_0 (r : pu_R) : pu_K := s_ald 0 (s_ild 1 (s_push (.int (24)) (s_ishr (s_cv r 12 1 0 (s_ald 0 (s_ild 1 (s_push (.int (16)) (s_ishr (s_cv r 12 1 0 (s_ald 0 (s_ild 1 (s_push (.int (8)) (s_ishr (s_cv r 12 1 0 (s_ald 0 (s_ild 1 (s_cv r 12 1 0 (s_vret))))))))))))))))))
theorem vX0_putFour_0 : pu_cok2 kX0_putFour_0 := fun rf r hr => by
  unfold kX0_putFour_0
  exact v_ald (v_ild (v_pi (v_ishr (v_cv hr (v_ald (v_ild (v_pi (v_ishr (v_cv hr (v_ald (v_ild (v_pi (v_ishr (v_cv hr (v_ald (v_ild (v_cv hr (v_vret))))))))))))))))))
theorem tX0_putFour_0 {X : pu_X} {r : pu_R} (hX : pu_H X mdX0_putFour) (hr : pu_P X.2.1 X.2.2.2.2.2.2.2.2.2.2.1 r) (hq : ∀ i pc, pu_lp i = some (13, pc) → pu_S X mdX0_putFour pc (r i)) : pu_S X mdX0_putFour 0 (kX0_putFour_0 r) := by
  unfold kX0_putFour_0
  exact z_ald_n hX dX0_putFour_0 rfl (z_ild_n hX dX0_putFour_1 rfl (z_bipush hX dX0_putFour_2 (by decide) (z_ishr hX dX0_putFour_4 (z_cv (c := 0) hX hr dX0_putFour_5 hjX0_put mwX0_put rfl wm9_6 ⟨wm9_7, wm9_8⟩ ⟨Nat.le_of_ble_eq_true rfl, Nat.le_of_ble_eq_true rfl⟩ (z_ald_n hX dX0_putFour_8 rfl (z_ild_n hX dX0_putFour_9 rfl (z_bipush hX dX0_putFour_10 (by decide) (z_ishr hX dX0_putFour_12 (z_cv (c := 0) hX hr dX0_putFour_13 hjX0_put mwX0_put rfl wm9_6 ⟨wm9_7, wm9_8⟩ ⟨Nat.le_of_ble_eq_true rfl, Nat.le_of_ble_eq_true rfl⟩ (z_ald_n hX dX0_putFour_16 rfl (z_ild_n hX dX0_putFour_17 rfl (z_bipush hX dX0_putFour_18 (by decide) (z_ishr hX dX0_putFour_20 (z_cv (c := 0) hX hr dX0_putFour_21 hjX0_put mwX0_put rfl wm9_6 ⟨wm9_7, wm9_8⟩ ⟨Nat.le_of_ble_eq_true rfl, Nat.le_of_ble_eq_true rfl⟩ (z_ald_n hX dX0_putFour_24 rfl (z_ild_n hX dX0_putFour_25 rfl (z_cv (c := 0) hX hr dX0_putFour_26 hjX0_put mwX0_put rfl wm9_6 ⟨wm9_7, wm9_8⟩ ⟨Nat.le_of_ble_eq_true rfl, Nat.le_of_ble_eq_true rfl⟩ (z_vret hX dX0_putFour_29 rfl))))))))))))))))))
def kX11_feed_18 (r : pu_R) : pu_K := s_ald 0 (s_gr 11 0 (s_ild 1 (s_cv r 13 1 0 (s_ald 0 (s_gr 11 0 (s_ild 2 (s_cv r 13 1 0 (s_ald 0 (s_gr 11 0 (s_ild 3 (s_cv r 13 1 0 (s_ald 0 (s_gr 11 0 (s_ild 4 (s_cv r 13 1 0 (s_ald 0 (s_gr 11 0 (s_ild 5 (s_cv r 13 1 0 (s_ald 0 (s_gr 11 0 (s_gi 0 0 (s_iret)))))))))))))))))))))))
theorem vX11_feed_18 : pu_cok2 kX11_feed_18 := fun rf r hr => by
  unfold kX11_feed_18
  exact v_ald (v_gr (v_ild (v_cv hr (v_ald (v_gr (v_ild (v_cv hr (v_ald (v_gr (v_ild (v_cv hr (v_ald (v_gr (v_ild (v_cv hr (v_ald (v_gr (v_ild (v_cv hr (v_ald (v_gr (v_gi (v_iret)))))))))))))))))))))))
theorem tX11_feed_18 {X : pu_X} {r : pu_R} (hX : pu_H X mdX11_feed) (hr : pu_P X.2.1 X.2.2.2.2.2.2.2.2.2.2.1 r) (hq : ∀ i pc, pu_lp i = some (14, pc) → pu_S X mdX11_feed pc (r i)) : pu_S X mdX11_feed 18 (kX11_feed_18 r) := by
  unfold kX11_feed_18
  exact z_ald_n hX dX11_feed_18 rfl (z_gr (c := 11) (j := 0) hX dX11_feed_19 rfl inlX11 wm1_15 ⟨rfl, by decide, rfl⟩ (z_ild_n hX dX11_feed_22 rfl (z_cv (c := 0) hX hr dX11_feed_23 hjX0_putFour mwX0_putFour rfl wm9_2 ⟨wm9_3, wm9_4⟩ ⟨Nat.le_of_ble_eq_true rfl, Nat.le_of_ble_eq_true rfl⟩ (z_ald_n hX dX11_feed_26 rfl (z_gr (c := 11) (j := 0) hX dX11_feed_27 rfl inlX11 wm1_15 ⟨rfl, by decide, rfl⟩ (z_ild_n hX dX11_feed_30 rfl (z_cv (c := 0) hX hr dX11_feed_31 hjX0_putFour mwX0_putFour rfl wm9_2 ⟨wm9_3, wm9_4⟩ ⟨Nat.le_of_ble_eq_true rfl, Nat.le_of_ble_eq_true rfl⟩ (z_ald_n hX dX11_feed_34 rfl (z_gr (c := 11) (j := 0) hX dX11_feed_35 rfl inlX11 wm1_15 ⟨rfl, by decide, rfl⟩ (z_ild_n hX dX11_feed_38 rfl (z_cv (c := 0) hX hr dX11_feed_39 hjX0_putFour mwX0_putFour rfl wm9_2 ⟨wm9_3, wm9_4⟩ ⟨Nat.le_of_ble_eq_true rfl, Nat.le_of_ble_eq_true rfl⟩ (z_ald_n hX dX11_feed_42 rfl (z_gr (c := 11) (j := 0) hX dX11_feed_43 rfl inlX11 wm1_15 ⟨rfl, by decide, rfl⟩ (z_ild hX dX11_feed_46 (z_cv (c := 0) hX hr dX11_feed_48 hjX0_putFour mwX0_putFour rfl wm9_2 ⟨wm9_3, wm9_4⟩ ⟨Nat.le_of_ble_eq_true rfl, Nat.le_of_ble_eq_true rfl⟩ (z_ald_n hX dX11_feed_51 rfl (z_gr (c := 11) (j := 0) hX dX11_feed_52 rfl inlX11 wm1_15 ⟨rfl, by decide, rfl⟩ (z_ild hX dX11_feed_55 (z_cv (c := 0) hX hr dX11_feed_57 hjX0_putFour mwX0_putFour rfl wm9_2 ⟨wm9_3, wm9_4⟩ ⟨Nat.le_of_ble_eq_true rfl, Nat.le_of_ble_eq_true rfl⟩ (z_ald_n hX dX11_feed_60 rfl (z_gr (c := 11) (j := 0) hX dX11_feed_61 rfl inlX11 wm1_15 ⟨rfl, by decide, rfl⟩ (z_gi (c := 0) (j := 0) hX dX11_feed_64 rfl inlX0 wm9_1 ⟨rfl, by decide, rfl⟩ (z_iret hX dX11_feed_67 rfl)))))))))))))))))))))))
def kX11_feed_0 (r : pu_R) : pu_K := s_ald 0 (s_gr 11 0 (s_gi 0 0 (s_push (.int (20)) (s_iadd (s_push (.int (1200)) (s_icle (kX11_feed_18 r) (s_push (.int (-1)) (s_iret))))))))
theorem vX11_feed_0 : pu_cok2 kX11_feed_0 := fun rf r hr => by
  unfold kX11_feed_0
  exact v_ald (v_gr (v_gi (v_pi (v_iadd (v_pi (v_icle (vX11_feed_18 rf r hr) (v_pi (v_iret))))))))
theorem tX11_feed_0 {X : pu_X} {r : pu_R} (hX : pu_H X mdX11_feed) (hr : pu_P X.2.1 X.2.2.2.2.2.2.2.2.2.2.1 r) (hq : ∀ i pc, pu_lp i = some (14, pc) → pu_S X mdX11_feed pc (r i)) : pu_S X mdX11_feed 0 (kX11_feed_0 r) := by
  unfold kX11_feed_0
  exact z_ald_n hX dX11_feed_0 rfl (z_gr (c := 11) (j := 0) hX dX11_feed_1 rfl inlX11 wm1_15 ⟨rfl, by decide, rfl⟩ (z_gi (c := 0) (j := 0) hX dX11_feed_4 rfl inlX0 wm9_1 ⟨rfl, by decide, rfl⟩ (z_bipush hX dX11_feed_7 (by decide) (z_iadd hX dX11_feed_9 (z_sipush hX dX11_feed_10 (by decide) (z_icle hX dX11_feed_13 (by decide) (tX11_feed_18 hX hr hq) (z_iconst hX dX11_feed_16 (by decide) (z_iret hX dX11_feed_17 rfl))))))))
def kX11_end_17 (r : pu_R) : pu_K := s_ald 0 (s_gr 11 0 (s_ild 1 (s_pi 0 0 (s_push (.int (1)) (s_zret)))))
theorem vX11_end_17 : pu_cok2 kX11_end_17 := fun rf r hr => by
  unfold kX11_end_17
  exact v_ald (v_gr (v_ild (v_puti (v_pi (v_zret)))))
theorem tX11_end_17 {X : pu_X} {r : pu_R} (hX : pu_H X mdX11_end) (hr : pu_P X.2.1 X.2.2.2.2.2.2.2.2.2.2.1 r) (hq : ∀ i pc, pu_lp i = some (15, pc) → pu_S X mdX11_end pc (r i)) : pu_S X mdX11_end 17 (kX11_end_17 r) := by
  unfold kX11_end_17
  exact z_ald_n hX dX11_end_17 rfl (z_gr (c := 11) (j := 0) hX dX11_end_18 rfl inlX11 wm1_15 ⟨rfl, by decide, rfl⟩ (z_ild_n hX dX11_end_21 rfl (z_pi (c := 0) (j := 0) tyX0 tyX0_ok nmX0 hX dX11_end_22 rfl inlX0 wm9_1 ⟨rfl, by decide⟩ ⟨rfl, rfl⟩ rfl (z_iconst hX dX11_end_25 (by decide) (z_zret hX dX11_end_26 rfl)))))
def kX11_end_15 (r : pu_R) : pu_K := s_push (.int (0)) (s_zret)
theorem vX11_end_15 : pu_cok2 kX11_end_15 := fun rf r hr => by
  unfold kX11_end_15
  exact v_pi (v_zret)
theorem tX11_end_15 {X : pu_X} {r : pu_R} (hX : pu_H X mdX11_end) (hr : pu_P X.2.1 X.2.2.2.2.2.2.2.2.2.2.1 r) (hq : ∀ i pc, pu_lp i = some (15, pc) → pu_S X mdX11_end pc (r i)) : pu_S X mdX11_end 15 (kX11_end_15 r) := by
  unfold kX11_end_15
  exact z_iconst hX dX11_end_15 (by decide) (z_zret hX dX11_end_16 rfl)
def kX11_end_0 (r : pu_R) : pu_K := s_ild 1 (s_iflt (kX11_end_15 r) (s_ild 1 (s_ald 0 (s_gr 11 0 (s_gi 0 0 (s_icle (kX11_end_17 r) ((kX11_end_15 r))))))))
theorem vX11_end_0 : pu_cok2 kX11_end_0 := fun rf r hr => by
  unfold kX11_end_0
  exact v_ild (v_iflt (vX11_end_15 rf r hr) (v_ild (v_ald (v_gr (v_gi (v_icle (vX11_end_17 rf r hr) ((vX11_end_15 rf r hr))))))))
theorem tX11_end_0 {X : pu_X} {r : pu_R} (hX : pu_H X mdX11_end) (hr : pu_P X.2.1 X.2.2.2.2.2.2.2.2.2.2.1 r) (hq : ∀ i pc, pu_lp i = some (15, pc) → pu_S X mdX11_end pc (r i)) : pu_S X mdX11_end 0 (kX11_end_0 r) := by
  unfold kX11_end_0
  exact z_ild_n hX dX11_end_0 rfl (z_iflt hX dX11_end_1 (by decide) (tX11_end_15 hX hr hq) (z_ild_n hX dX11_end_4 rfl (z_ald_n hX dX11_end_5 rfl (z_gr (c := 11) (j := 0) hX dX11_end_6 rfl inlX11 wm1_15 ⟨rfl, by decide, rfl⟩ (z_gi (c := 0) (j := 0) hX dX11_end_9 rfl inlX0 wm9_1 ⟨rfl, by decide, rfl⟩ (z_icle hX dX11_end_12 (by decide) (tX11_end_17 hX hr hq) ((tX11_end_15 hX hr hq))))))))
def kX0_copyFrom_0 (r : pu_R) : pu_K := s_ald 1 (s_gr 0 1 (s_push (.int (0)) (s_ald 0 (s_gr 0 1 (s_push (.int (0)) (s_ald 1 (s_gi 0 0 (s_cp1 (s_ald 0 (s_ald 1 (s_gi 0 0 (s_pi 0 0 (s_vret)))))))))))))
theorem vX0_copyFrom_0 : pu_cok2 kX0_copyFrom_0 := fun rf r hr => by
  unfold kX0_copyFrom_0
  exact v_ald (v_gr (v_pi (v_ald (v_gr (v_pi (v_ald (v_gi (v_cp1 (v_ald (v_ald (v_gi (v_puti (v_vret)))))))))))))
theorem tX0_copyFrom_0 {X : pu_X} {r : pu_R} (hX : pu_H X mdX0_copyFrom) (hr : pu_P X.2.1 X.2.2.2.2.2.2.2.2.2.2.1 r) (hq : ∀ i pc, pu_lp i = some (16, pc) → pu_S X mdX0_copyFrom pc (r i)) : pu_S X mdX0_copyFrom 0 (kX0_copyFrom_0 r) := by
  unfold kX0_copyFrom_0
  exact z_ald_n hX dX0_copyFrom_0 rfl (z_gr (c := 0) (j := 1) hX dX0_copyFrom_1 rfl inlX0 wm2_14 ⟨rfl, by decide, rfl⟩ (z_iconst hX dX0_copyFrom_4 (by decide) (z_ald_n hX dX0_copyFrom_5 rfl (z_gr (c := 0) (j := 1) hX dX0_copyFrom_6 rfl inlX0 wm2_14 ⟨rfl, by decide, rfl⟩ (z_iconst hX dX0_copyFrom_9 (by decide) (z_ald_n hX dX0_copyFrom_10 rfl (z_gi (c := 0) (j := 0) hX dX0_copyFrom_11 rfl inlX0 wm9_10 ⟨rfl, by decide, rfl⟩ (z_cp1 hX dX0_copyFrom_14 ⟨wm10_7, wm10_8, wm10_9, wm10_10⟩ ⟨Nat.le_of_ble_eq_true rfl, Nat.le_of_ble_eq_true rfl⟩ (z_ald_n hX dX0_copyFrom_17 rfl (z_ald_n hX dX0_copyFrom_18 rfl (z_gi (c := 0) (j := 0) hX dX0_copyFrom_19 rfl inlX0 wm9_10 ⟨rfl, by decide, rfl⟩ (z_pi (c := 0) (j := 0) tyX0 tyX0_ok nmX0 hX dX0_copyFrom_22 rfl inlX0 wm9_10 ⟨rfl, by decide⟩ ⟨rfl, rfl⟩ rfl (z_vret hX dX0_copyFrom_25 rfl)))))))))))))
def kX11_take_0 (r : pu_R) : pu_K := s_ald 0 (s_gr 11 0 (s_ald 0 (s_gr 11 1 (s_cv r 16 1 0 (s_ald 0 (s_gr 11 0 (s_gi 0 0 (s_iret))))))))
theorem vX11_take_0 : pu_cok2 kX11_take_0 := fun rf r hr => by
  unfold kX11_take_0
  exact v_ald (v_gr (v_ald (v_gr (v_cv hr (v_ald (v_gr (v_gi (v_iret))))))))
theorem tX11_take_0 {X : pu_X} {r : pu_R} (hX : pu_H X mdX11_take) (hr : pu_P X.2.1 X.2.2.2.2.2.2.2.2.2.2.1 r) (hq : ∀ i pc, pu_lp i = some (17, pc) → pu_S X mdX11_take pc (r i)) : pu_S X mdX11_take 0 (kX11_take_0 r) := by
  unfold kX11_take_0
  exact z_ald_n hX dX11_take_0 rfl (z_gr (c := 11) (j := 0) hX dX11_take_1 rfl inlX11 wm1_15 ⟨rfl, by decide, rfl⟩ (z_ald_n hX dX11_take_4 rfl (z_gr (c := 11) (j := 1) hX dX11_take_5 rfl inlX11 wm1_16 ⟨rfl, by decide, rfl⟩ (z_cv (c := 0) hX hr dX11_take_8 hjX0_copyFrom mwX0_copyFrom rfl wm10_3 ⟨wm10_4, wm10_5⟩ ⟨Nat.le_of_ble_eq_true rfl, Nat.le_of_ble_eq_true rfl⟩ (z_ald_n hX dX11_take_11 rfl (z_gr (c := 11) (j := 0) hX dX11_take_12 rfl inlX11 wm1_15 ⟨rfl, by decide, rfl⟩ (z_gi (c := 0) (j := 0) hX dX11_take_15 rfl inlX0 wm9_1 ⟨rfl, by decide, rfl⟩ (z_iret hX dX11_take_18 rfl))))))))
def kX11_isDay_16 (r : pu_R) : pu_K := s_zret
theorem vX11_isDay_16 : pu_cok2 kX11_isDay_16 := fun rf r hr => by
  unfold kX11_isDay_16
  exact v_zret
theorem tX11_isDay_16 {X : pu_X} {r : pu_R} (hX : pu_H X mdX11_isDay) (hr : pu_P X.2.1 X.2.2.2.2.2.2.2.2.2.2.1 r) (hq : ∀ i pc, pu_lp i = some (18, pc) → pu_S X mdX11_isDay pc (r i)) : pu_S X mdX11_isDay 16 (kX11_isDay_16 r) := by
  unfold kX11_isDay_16
  exact z_zret hX dX11_isDay_16 rfl
def kX11_isDay_15 (r : pu_R) : pu_K := s_push (.int (0)) ((kX11_isDay_16 r))
theorem vX11_isDay_15 : pu_cok2 kX11_isDay_15 := fun rf r hr => by
  unfold kX11_isDay_15
  exact v_pi ((vX11_isDay_16 rf r hr))
theorem tX11_isDay_15 {X : pu_X} {r : pu_R} (hX : pu_H X mdX11_isDay) (hr : pu_P X.2.1 X.2.2.2.2.2.2.2.2.2.2.1 r) (hq : ∀ i pc, pu_lp i = some (18, pc) → pu_S X mdX11_isDay pc (r i)) : pu_S X mdX11_isDay 15 (kX11_isDay_15 r) := by
  unfold kX11_isDay_15
  exact z_iconst hX dX11_isDay_15 (by decide) ((tX11_isDay_16 hX hr hq))
def kX11_isDay_0 (r : pu_R) : pu_K := s_ild 0 (s_iflt (kX11_isDay_15 r) (s_ild 0 (s_push (.int (109574)) (s_icgt (kX11_isDay_15 r) (s_push (.int (1)) ((kX11_isDay_16 r)))))))
theorem vX11_isDay_0 : pu_cok2 kX11_isDay_0 := fun rf r hr => by
  unfold kX11_isDay_0
  exact v_ild (v_iflt (vX11_isDay_15 rf r hr) (v_ild (v_pi (v_icgt (vX11_isDay_15 rf r hr) (v_pi ((vX11_isDay_16 rf r hr)))))))
theorem tX11_isDay_0 {X : pu_X} {r : pu_R} (hX : pu_H X mdX11_isDay) (hr : pu_P X.2.1 X.2.2.2.2.2.2.2.2.2.2.1 r) (hq : ∀ i pc, pu_lp i = some (18, pc) → pu_S X mdX11_isDay pc (r i)) : pu_S X mdX11_isDay 0 (kX11_isDay_0 r) := by
  unfold kX11_isDay_0
  exact z_ild_n hX dX11_isDay_0 rfl (z_iflt hX dX11_isDay_1 (by decide) (tX11_isDay_15 hX hr hq) (z_ild_n hX dX11_isDay_4 rfl (z_ldcw hX dX11_isDay_5 wm11_0 (z_icgt hX dX11_isDay_8 (by decide) (tX11_isDay_15 hX hr hq) (z_iconst hX dX11_isDay_11 (by decide) ((z_goto hX dX11_isDay_12 (by decide) (tX11_isDay_16 hX hr hq))))))))
def kX11_day_23 (r : pu_R) : pu_K := s_ald 0 (s_gr 11 2 (s_gr 5 0 (s_ild 1 (s_pi 6 0 (s_push (.int (1)) (s_zret))))))
theorem vX11_day_23 : pu_cok2 kX11_day_23 := fun rf r hr => by
  unfold kX11_day_23
  exact v_ald (v_gr (v_gr (v_ild (v_puti (v_pi (v_zret))))))
theorem tX11_day_23 {X : pu_X} {r : pu_R} (hX : pu_H X mdX11_day) (hr : pu_P X.2.1 X.2.2.2.2.2.2.2.2.2.2.1 r) (hq : ∀ i pc, pu_lp i = some (19, pc) → pu_S X mdX11_day pc (r i)) : pu_S X mdX11_day 23 (kX11_day_23 r) := by
  unfold kX11_day_23
  exact z_ald_n hX dX11_day_23 rfl (z_gr (c := 11) (j := 2) hX dX11_day_24 rfl inlX11 wm1_20 ⟨rfl, by decide, rfl⟩ (z_gr (c := 5) (j := 0) hX dX11_day_27 rfl inlX5 wm10_19 ⟨rfl, by decide, rfl⟩ (z_ild_n hX dX11_day_30 rfl (z_pi (c := 6) (j := 0) tyX6 tyX6_ok nmX6 hX dX11_day_31 rfl inlX6 wm10_20 ⟨rfl, by decide⟩ ⟨rfl, rfl⟩ rfl (z_iconst hX dX11_day_34 (by decide) (z_zret hX dX11_day_35 rfl))))))
def kX11_day_21 (r : pu_R) : pu_K := s_push (.int (0)) (s_zret)
theorem vX11_day_21 : pu_cok2 kX11_day_21 := fun rf r hr => by
  unfold kX11_day_21
  exact v_pi (v_zret)
theorem tX11_day_21 {X : pu_X} {r : pu_R} (hX : pu_H X mdX11_day) (hr : pu_P X.2.1 X.2.2.2.2.2.2.2.2.2.2.1 r) (hq : ∀ i pc, pu_lp i = some (19, pc) → pu_S X mdX11_day pc (r i)) : pu_S X mdX11_day 21 (kX11_day_21 r) := by
  unfold kX11_day_21
  exact z_iconst hX dX11_day_21 (by decide) (z_zret hX dX11_day_22 rfl)
def kX11_day_0 (r : pu_R) : pu_K := s_ild 1 (s_cs r 18 1 (s_ifeq (kX11_day_21 r) (s_ild 1 (s_ald 0 (s_gr 11 2 (s_gr 5 0 (s_gi 6 0 (s_icge (kX11_day_23 r) ((kX11_day_21 r))))))))))
theorem vX11_day_0 : pu_cok2 kX11_day_0 := fun rf r hr => by
  unfold kX11_day_0
  exact v_ild (v_cs hr (v_ifeq (vX11_day_21 rf r hr) (v_ild (v_ald (v_gr (v_gr (v_gi (v_icge (vX11_day_23 rf r hr) ((vX11_day_21 rf r hr))))))))))
theorem tX11_day_0 {X : pu_X} {r : pu_R} (hX : pu_H X mdX11_day) (hr : pu_P X.2.1 X.2.2.2.2.2.2.2.2.2.2.1 r) (hq : ∀ i pc, pu_lp i = some (19, pc) → pu_S X mdX11_day pc (r i)) : pu_S X mdX11_day 0 (kX11_day_0 r) := by
  unfold kX11_day_0
  exact z_ild_n hX dX11_day_0 rfl (z_cs hX hr dX11_day_1 hjX11_isDay mwX11_isDay wm10_21 wm10_22 ⟨Nat.le_of_ble_eq_true rfl, Nat.le_of_ble_eq_true rfl⟩ (z_ifeq hX dX11_day_4 (by decide) (tX11_day_21 hX hr hq) (z_ild_n hX dX11_day_7 rfl (z_ald_n hX dX11_day_8 rfl (z_gr (c := 11) (j := 2) hX dX11_day_9 rfl inlX11 wm1_20 ⟨rfl, by decide, rfl⟩ (z_gr (c := 5) (j := 0) hX dX11_day_12 rfl inlX5 wm10_19 ⟨rfl, by decide, rfl⟩ (z_gi (c := 6) (j := 0) hX dX11_day_15 rfl inlX6 wm10_20 ⟨rfl, by decide, rfl⟩ (z_icge hX dX11_day_18 (by decide) (tX11_day_23 hX hr hq) ((tX11_day_21 hX hr hq))))))))))
def kX11_as_14 (r : pu_R) : pu_K := s_ald 0 (s_gr 11 2 (s_gr 5 0 (s_ild 1 (s_pi 6 1 (s_push (.int (1)) (s_zret))))))
theorem vX11_as_14 : pu_cok2 kX11_as_14 := fun rf r hr => by
  unfold kX11_as_14
  exact v_ald (v_gr (v_gr (v_ild (v_puti (v_pi (v_zret))))))
theorem tX11_as_14 {X : pu_X} {r : pu_R} (hX : pu_H X mdX11_as) (hr : pu_P X.2.1 X.2.2.2.2.2.2.2.2.2.2.1 r) (hq : ∀ i pc, pu_lp i = some (20, pc) → pu_S X mdX11_as pc (r i)) : pu_S X mdX11_as 14 (kX11_as_14 r) := by
  unfold kX11_as_14
  exact z_ald_n hX dX11_as_14 rfl (z_gr (c := 11) (j := 2) hX dX11_as_15 rfl inlX11 wm1_20 ⟨rfl, by decide, rfl⟩ (z_gr (c := 5) (j := 0) hX dX11_as_18 rfl inlX5 wm10_19 ⟨rfl, by decide, rfl⟩ (z_ild_n hX dX11_as_21 rfl (z_pi (c := 6) (j := 1) tyX6 tyX6_ok nmX6 hX dX11_as_22 rfl inlX6 wm11_13 ⟨rfl, by decide⟩ ⟨rfl, rfl⟩ rfl (z_iconst hX dX11_as_25 (by decide) (z_zret hX dX11_as_26 rfl))))))
def kX11_as_0 (r : pu_R) : pu_K := s_ild 1 (s_push (.int (-1)) (s_iceq (kX11_as_14 r) (s_ild 1 (s_cs r 18 1 (s_ifne (kX11_as_14 r) (s_push (.int (0)) (s_zret)))))))
theorem vX11_as_0 : pu_cok2 kX11_as_0 := fun rf r hr => by
  unfold kX11_as_0
  exact v_ild (v_pi (v_iceq (vX11_as_14 rf r hr) (v_ild (v_cs hr (v_ifne (vX11_as_14 rf r hr) (v_pi (v_zret)))))))
theorem tX11_as_0 {X : pu_X} {r : pu_R} (hX : pu_H X mdX11_as) (hr : pu_P X.2.1 X.2.2.2.2.2.2.2.2.2.2.1 r) (hq : ∀ i pc, pu_lp i = some (20, pc) → pu_S X mdX11_as pc (r i)) : pu_S X mdX11_as 0 (kX11_as_0 r) := by
  unfold kX11_as_0
  exact z_ild_n hX dX11_as_0 rfl (z_iconst hX dX11_as_1 (by decide) (z_iceq hX dX11_as_2 (by decide) (tX11_as_14 hX hr hq) (z_ild_n hX dX11_as_5 rfl (z_cs hX hr dX11_as_6 hjX11_isDay mwX11_isDay wm10_21 wm10_22 ⟨Nat.le_of_ble_eq_true rfl, Nat.le_of_ble_eq_true rfl⟩ (z_ifne hX dX11_as_9 (by decide) (tX11_as_14 hX hr hq) (z_iconst hX dX11_as_12 (by decide) (z_zret hX dX11_as_13 rfl)))))))
def kX7_begin_0 (r : pu_R) : pu_K := s_ald 0 (s_ald 1 (s_pr 7 6 (s_ald 0 (s_push (.int (0)) (s_pi 7 7 (s_vret))))))
theorem vX7_begin_0 : pu_cok2 kX7_begin_0 := fun rf r hr => by
  unfold kX7_begin_0
  exact v_ald (v_ald (v_pr (v_ald (v_pi (v_puti (v_vret))))))
theorem tX7_begin_0 {X : pu_X} {r : pu_R} (hX : pu_H X mdX7_begin) (hr : pu_P X.2.1 X.2.2.2.2.2.2.2.2.2.2.1 r) (hq : ∀ i pc, pu_lp i = some (21, pc) → pu_S X mdX7_begin pc (r i)) : pu_S X mdX7_begin 0 (kX7_begin_0 r) := by
  unfold kX7_begin_0
  exact z_ald_n hX dX7_begin_0 rfl (z_ald_n hX dX7_begin_1 rfl (z_pr (c := 7) (j := 6) tyX7 tyX7_ok nmX7 hX dX7_begin_2 rfl inlX7 wm12_14 ⟨rfl, by decide⟩ ⟨rfl, fun _ => ⟨rfl, rfl⟩⟩ (Or.inl rfl) (z_ald_n hX dX7_begin_5 rfl (z_iconst hX dX7_begin_6 (by decide) (z_pi (c := 7) (j := 7) tyX7 tyX7_ok nmX7 hX dX7_begin_7 rfl inlX7 wm12_15 ⟨rfl, by decide⟩ ⟨rfl, rfl⟩ rfl (z_vret hX dX7_begin_10 rfl))))))
def kJ7_fill_d0a16_22 (r : pu_R) : pu_K := s_vret
theorem vJ7_fill_d0a16_22 : pu_cok2 kJ7_fill_d0a16_22 := fun rf r hr => by
  unfold kJ7_fill_d0a16_22
  exact v_vret
theorem tJ7_fill_d0a16_22 {X : pu_X} {r : pu_R} (hX : pu_H X mdJ7_fill_d0a16) (hr : pu_P X.2.1 X.2.2.2.2.2.2.2.2.2.2.1 r) (hq : ∀ i pc, pu_lp i = some (22, pc) → pu_S X mdJ7_fill_d0a16 pc (r i)) : pu_S X mdJ7_fill_d0a16 22 (kJ7_fill_d0a16_22 r) := by
  unfold kJ7_fill_d0a16_22
  exact z_vret hX dJ7_fill_d0a16_22 rfl
def kJ7_fill_d0a16_6 (r : pu_R) : pu_K := s_ild 3 (s_ild 4 (s_icge (kJ7_fill_d0a16_22 r) (s_ald 0 (s_ild 3 (s_lld 1 (s_wl (s_inc 3 (1) ((r 357)))))))))
theorem vJ7_fill_d0a16_6 : pu_cok2 kJ7_fill_d0a16_6 := fun rf r hr => by
  unfold kJ7_fill_d0a16_6
  exact v_ild (v_ild (v_icge (vJ7_fill_d0a16_22 rf r hr) (v_ald (v_ild (v_lld (v_wl (v_inc ((hr 357)))))))))
theorem tJ7_fill_d0a16_6 {X : pu_X} {r : pu_R} (hX : pu_H X mdJ7_fill_d0a16) (hr : pu_P X.2.1 X.2.2.2.2.2.2.2.2.2.2.1 r) (hq : ∀ i pc, pu_lp i = some (22, pc) → pu_S X mdJ7_fill_d0a16 pc (r i)) : pu_S X mdJ7_fill_d0a16 6 (kJ7_fill_d0a16_6 r) := by
  unfold kJ7_fill_d0a16_6
  exact z_ild_n hX dJ7_fill_d0a16_6 rfl (z_ild hX dJ7_fill_d0a16_7 (z_icge hX dJ7_fill_d0a16_9 (by decide) (tJ7_fill_d0a16_22 hX hr hq) (z_ald_n hX dJ7_fill_d0a16_12 rfl (z_ild_n hX dJ7_fill_d0a16_13 rfl (z_lld_n hX dJ7_fill_d0a16_14 rfl (z_last hX dJ7_fill_d0a16_15 (z_inc hX dJ7_fill_d0a16_16 (by decide) ((z_goto hX dJ7_fill_d0a16_19 (by decide) (hq 357 6 hl357))))))))))
def kJ7_fill_d0a16_0 (r : pu_R) : pu_K := s_push (.int (0)) (s_ist 3 (s_ald 0 (s_len (s_ist 4 ((r 357))))))
theorem vJ7_fill_d0a16_0 : pu_cok2 kJ7_fill_d0a16_0 := fun rf r hr => by
  unfold kJ7_fill_d0a16_0
  exact v_pi (v_ist (v_ald (v_len (v_ist ((hr 357))))))
theorem tJ7_fill_d0a16_0 {X : pu_X} {r : pu_R} (hX : pu_H X mdJ7_fill_d0a16) (hr : pu_P X.2.1 X.2.2.2.2.2.2.2.2.2.2.1 r) (hq : ∀ i pc, pu_lp i = some (22, pc) → pu_S X mdJ7_fill_d0a16 pc (r i)) : pu_S X mdJ7_fill_d0a16 0 (kJ7_fill_d0a16_0 r) := by
  unfold kJ7_fill_d0a16_0
  exact z_iconst hX dJ7_fill_d0a16_0 (by decide) (z_ist_n hX dJ7_fill_d0a16_1 rfl (z_ald_n hX dJ7_fill_d0a16_2 rfl (z_len hX dJ7_fill_d0a16_3 (z_ist hX dJ7_fill_d0a16_4 ((hq 357 6 hl357))))))
def kX7_isNext_51 (r : pu_R) : pu_K := s_zret
theorem vX7_isNext_51 : pu_cok2 kX7_isNext_51 := fun rf r hr => by
  unfold kX7_isNext_51
  exact v_zret
theorem tX7_isNext_51 {X : pu_X} {r : pu_R} (hX : pu_H X mdX7_isNext) (hr : pu_P X.2.1 X.2.2.2.2.2.2.2.2.2.2.1 r) (hq : ∀ i pc, pu_lp i = some (23, pc) → pu_S X mdX7_isNext pc (r i)) : pu_S X mdX7_isNext 51 (kX7_isNext_51 r) := by
  unfold kX7_isNext_51
  exact z_zret hX dX7_isNext_51 rfl
def kX7_isNext_50 (r : pu_R) : pu_K := s_push (.int (0)) ((kX7_isNext_51 r))
theorem vX7_isNext_50 : pu_cok2 kX7_isNext_50 := fun rf r hr => by
  unfold kX7_isNext_50
  exact v_pi ((vX7_isNext_51 rf r hr))
theorem tX7_isNext_50 {X : pu_X} {r : pu_R} (hX : pu_H X mdX7_isNext) (hr : pu_P X.2.1 X.2.2.2.2.2.2.2.2.2.2.1 r) (hq : ∀ i pc, pu_lp i = some (23, pc) → pu_S X mdX7_isNext pc (r i)) : pu_S X mdX7_isNext 50 (kX7_isNext_50 r) := by
  unfold kX7_isNext_50
  exact z_iconst hX dX7_isNext_50 (by decide) ((tX7_isNext_51 hX hr hq))
def kX7_isNext_0 (r : pu_R) : pu_K := s_ald 0 (s_gi 7 7 (s_ald 0 (s_gr 7 6 (s_gi 0 0 (s_icge (kX7_isNext_50 r) (s_ald 0 (s_gr 7 6 (s_gr 0 1 (s_ald 0 (s_gi 7 7 (s_ai 1 (s_ild 1 (s_iclt (kX7_isNext_50 r) (s_ald 0 (s_gr 7 6 (s_gr 0 1 (s_ald 0 (s_gi 7 7 (s_ai 1 (s_ild 2 (s_icgt (kX7_isNext_50 r) (s_push (.int (1)) ((kX7_isNext_51 r))))))))))))))))))))))))
theorem vX7_isNext_0 : pu_cok2 kX7_isNext_0 := fun rf r hr => by
  unfold kX7_isNext_0
  exact v_ald (v_gi (v_ald (v_gr (v_gi (v_icge (vX7_isNext_50 rf r hr) (v_ald (v_gr (v_gr (v_ald (v_gi (v_ai (v_ild (v_iclt (vX7_isNext_50 rf r hr) (v_ald (v_gr (v_gr (v_ald (v_gi (v_ai (v_ild (v_icgt (vX7_isNext_50 rf r hr) (v_pi ((vX7_isNext_51 rf r hr))))))))))))))))))))))))
theorem tX7_isNext_0 {X : pu_X} {r : pu_R} (hX : pu_H X mdX7_isNext) (hr : pu_P X.2.1 X.2.2.2.2.2.2.2.2.2.2.1 r) (hq : ∀ i pc, pu_lp i = some (23, pc) → pu_S X mdX7_isNext pc (r i)) : pu_S X mdX7_isNext 0 (kX7_isNext_0 r) := by
  unfold kX7_isNext_0
  exact z_ald_n hX dX7_isNext_0 rfl (z_gi (c := 7) (j := 7) hX dX7_isNext_1 rfl inlX7 wm12_15 ⟨rfl, by decide, rfl⟩ (z_ald_n hX dX7_isNext_4 rfl (z_gr (c := 7) (j := 6) hX dX7_isNext_5 rfl inlX7 wm12_14 ⟨rfl, by decide, rfl⟩ (z_gi (c := 0) (j := 0) hX dX7_isNext_8 rfl inlX0 wm12_20 ⟨rfl, by decide, rfl⟩ (z_icge hX dX7_isNext_11 (by decide) (tX7_isNext_50 hX hr hq) (z_ald_n hX dX7_isNext_14 rfl (z_gr (c := 7) (j := 6) hX dX7_isNext_15 rfl inlX7 wm12_14 ⟨rfl, by decide, rfl⟩ (z_gr (c := 0) (j := 1) hX dX7_isNext_18 rfl inlX0 wm13_6 ⟨rfl, by decide, rfl⟩ (z_ald_n hX dX7_isNext_21 rfl (z_gi (c := 7) (j := 7) hX dX7_isNext_22 rfl inlX7 wm12_15 ⟨rfl, by decide, rfl⟩ (z_iald hX dX7_isNext_25 (z_ild_n hX dX7_isNext_26 rfl (z_iclt hX dX7_isNext_27 (by decide) (tX7_isNext_50 hX hr hq) (z_ald_n hX dX7_isNext_30 rfl (z_gr (c := 7) (j := 6) hX dX7_isNext_31 rfl inlX7 wm12_14 ⟨rfl, by decide, rfl⟩ (z_gr (c := 0) (j := 1) hX dX7_isNext_34 rfl inlX0 wm13_6 ⟨rfl, by decide, rfl⟩ (z_ald_n hX dX7_isNext_37 rfl (z_gi (c := 7) (j := 7) hX dX7_isNext_38 rfl inlX7 wm12_15 ⟨rfl, by decide, rfl⟩ (z_iald hX dX7_isNext_41 (z_ild_n hX dX7_isNext_42 rfl (z_icgt hX dX7_isNext_43 (by decide) (tX7_isNext_50 hX hr hq) (z_iconst hX dX7_isNext_46 (by decide) ((z_goto hX dX7_isNext_47 (by decide) (tX7_isNext_51 hX hr hq)))))))))))))))))))))))))
def kX7_readWord_62 (r : pu_R) : pu_K := s_lld 1 (s_lret)
theorem vX7_readWord_62 : pu_cok2 kX7_readWord_62 := fun rf r hr => by
  unfold kX7_readWord_62
  exact v_lld (v_lret)
theorem tX7_readWord_62 {X : pu_X} {r : pu_R} (hX : pu_H X mdX7_readWord) (hr : pu_P X.2.1 X.2.2.2.2.2.2.2.2.2.2.1 r) (hq : ∀ i pc, pu_lp i = some (24, pc) → pu_S X mdX7_readWord pc (r i)) : pu_S X mdX7_readWord 62 (kX7_readWord_62 r) := by
  unfold kX7_readWord_62
  exact z_lld_n hX dX7_readWord_62 rfl (z_lret hX dX7_readWord_63 rfl)
def kX7_readWord_46 (r : pu_R) : pu_K := s_ald 0 (s_dup (s_gi 7 7 (s_push (.int (1)) (s_iadd (s_pi 7 7 (s_inc 3 (1) ((r 358))))))))
theorem vX7_readWord_46 : pu_cok2 kX7_readWord_46 := fun rf r hr => by
  unfold kX7_readWord_46
  exact v_ald (v_dup (v_gi (v_pi (v_iadd (v_puti (v_inc ((hr 358))))))))
theorem tX7_readWord_46 {X : pu_X} {r : pu_R} (hX : pu_H X mdX7_readWord) (hr : pu_P X.2.1 X.2.2.2.2.2.2.2.2.2.2.1 r) (hq : ∀ i pc, pu_lp i = some (24, pc) → pu_S X mdX7_readWord pc (r i)) : pu_S X mdX7_readWord 46 (kX7_readWord_46 r) := by
  unfold kX7_readWord_46
  exact z_ald_n hX dX7_readWord_46 rfl (z_dup hX dX7_readWord_47 (z_gi (c := 7) (j := 7) hX dX7_readWord_48 rfl inlX7 wm12_15 ⟨rfl, by decide, rfl⟩ (z_iconst hX dX7_readWord_51 (by decide) (z_iadd hX dX7_readWord_52 (z_pi (c := 7) (j := 7) tyX7 tyX7_ok nmX7 hX dX7_readWord_53 rfl inlX7 wm12_15 ⟨rfl, by decide⟩ ⟨rfl, rfl⟩ rfl (z_inc hX dX7_readWord_56 (by decide) ((z_goto hX dX7_readWord_59 (by decide) (hq 358 4 hl358)))))))))
def kX7_readWord_4 (r : pu_R) : pu_K := s_ild 3 (s_push (.int (12)) (s_icge (kX7_readWord_62 r) (s_ald 0 (s_push (.int (97)) (s_push (.int (122)) (s_cv r 23 2 7 (s_ifeq (kX7_readWord_62 r) (s_lld 1 (s_push (.long (27)) (s_lmul (s_ald 0 (s_gr 7 6 (s_gr 0 1 (s_ald 0 (s_gi 7 7 (s_ai 1 (s_push (.int (97)) (s_isub (s_push (.int (1)) (s_iadd (s_i2l (s_ladd (s_lst 1 ((kX7_readWord_46 r)))))))))))))))))))))))))
theorem vX7_readWord_4 : pu_cok2 kX7_readWord_4 := fun rf r hr => by
  unfold kX7_readWord_4
  exact v_ild (v_pi (v_icge (vX7_readWord_62 rf r hr) (v_ald (v_pi (v_pi (v_cv hr (v_ifeq (vX7_readWord_62 rf r hr) (v_lld (v_pl (v_lmul (v_ald (v_gr (v_gr (v_ald (v_gi (v_ai (v_pi (v_isub (v_pi (v_iadd (v_i2l (v_ladd (v_lst ((vX7_readWord_46 rf r hr)))))))))))))))))))))))))
theorem tX7_readWord_4 {X : pu_X} {r : pu_R} (hX : pu_H X mdX7_readWord) (hr : pu_P X.2.1 X.2.2.2.2.2.2.2.2.2.2.1 r) (hq : ∀ i pc, pu_lp i = some (24, pc) → pu_S X mdX7_readWord pc (r i)) : pu_S X mdX7_readWord 4 (kX7_readWord_4 r) := by
  unfold kX7_readWord_4
  exact z_ild_n hX dX7_readWord_4 rfl (z_bipush hX dX7_readWord_5 (by decide) (z_icge hX dX7_readWord_7 (by decide) (tX7_readWord_62 hX hr hq) (z_ald_n hX dX7_readWord_10 rfl (z_bipush hX dX7_readWord_11 (by decide) (z_bipush hX dX7_readWord_13 (by decide) (z_cv (c := 7) hX hr dX7_readWord_15 hjX7_isNext mwX7_isNext rfl wm13_7 ⟨wm13_8, wm13_9⟩ ⟨Nat.le_of_ble_eq_true rfl, Nat.le_of_ble_eq_true rfl⟩ (z_ifeq hX dX7_readWord_18 (by decide) (tX7_readWord_62 hX hr hq) (z_lld_n hX dX7_readWord_21 rfl (z_ldc2 hX dX7_readWord_22 wm13_5 (z_lmul hX dX7_readWord_25 (z_ald_n hX dX7_readWord_26 rfl (z_gr (c := 7) (j := 6) hX dX7_readWord_27 rfl inlX7 wm12_14 ⟨rfl, by decide, rfl⟩ (z_gr (c := 0) (j := 1) hX dX7_readWord_30 rfl inlX0 wm13_6 ⟨rfl, by decide, rfl⟩ (z_ald_n hX dX7_readWord_33 rfl (z_gi (c := 7) (j := 7) hX dX7_readWord_34 rfl inlX7 wm12_15 ⟨rfl, by decide, rfl⟩ (z_iald hX dX7_readWord_37 (z_bipush hX dX7_readWord_38 (by decide) (z_isub hX dX7_readWord_40 (z_iconst hX dX7_readWord_41 (by decide) (z_iadd hX dX7_readWord_42 (z_i2l hX dX7_readWord_43 (z_ladd hX dX7_readWord_44 (z_lst_n hX dX7_readWord_45 rfl ((tX7_readWord_46 hX hr hq)))))))))))))))))))))))))
def kX7_readWord_0 (r : pu_R) : pu_K := s_push (.long 0) (s_lst 1 (s_push (.int (0)) (s_ist 3 ((r 358)))))
theorem vX7_readWord_0 : pu_cok2 kX7_readWord_0 := fun rf r hr => by
  unfold kX7_readWord_0
  exact v_pl (v_lst (v_pi (v_ist ((hr 358)))))
theorem tX7_readWord_0 {X : pu_X} {r : pu_R} (hX : pu_H X mdX7_readWord) (hr : pu_P X.2.1 X.2.2.2.2.2.2.2.2.2.2.1 r) (hq : ∀ i pc, pu_lp i = some (24, pc) → pu_S X mdX7_readWord pc (r i)) : pu_S X mdX7_readWord 0 (kX7_readWord_0 r) := by
  unfold kX7_readWord_0
  exact z_lconst hX dX7_readWord_0 (by decide) (z_lst_n hX dX7_readWord_1 rfl (z_iconst hX dX7_readWord_2 (by decide) (z_ist_n hX dX7_readWord_3 rfl ((hq 358 4 hl358)))))
def kX7_readByte_11 (r : pu_R) : pu_K := s_ald 0 (s_dup (s_gi 7 7 (s_push (.int (1)) (s_iadd (s_pi 7 7 (s_push (.int (1)) (s_zret)))))))
theorem vX7_readByte_11 : pu_cok2 kX7_readByte_11 := fun rf r hr => by
  unfold kX7_readByte_11
  exact v_ald (v_dup (v_gi (v_pi (v_iadd (v_puti (v_pi (v_zret)))))))
theorem tX7_readByte_11 {X : pu_X} {r : pu_R} (hX : pu_H X mdX7_readByte) (hr : pu_P X.2.1 X.2.2.2.2.2.2.2.2.2.2.1 r) (hq : ∀ i pc, pu_lp i = some (25, pc) → pu_S X mdX7_readByte pc (r i)) : pu_S X mdX7_readByte 11 (kX7_readByte_11 r) := by
  unfold kX7_readByte_11
  exact z_ald_n hX dX7_readByte_11 rfl (z_dup hX dX7_readByte_12 (z_gi (c := 7) (j := 7) hX dX7_readByte_13 rfl inlX7 wm12_15 ⟨rfl, by decide, rfl⟩ (z_iconst hX dX7_readByte_16 (by decide) (z_iadd hX dX7_readByte_17 (z_pi (c := 7) (j := 7) tyX7 tyX7_ok nmX7 hX dX7_readByte_18 rfl inlX7 wm12_15 ⟨rfl, by decide⟩ ⟨rfl, rfl⟩ rfl (z_iconst hX dX7_readByte_21 (by decide) (z_zret hX dX7_readByte_22 rfl)))))))
def kX7_readByte_0 (r : pu_R) : pu_K := s_ald 0 (s_ild 1 (s_ild 1 (s_cv r 23 2 7 (s_ifne (kX7_readByte_11 r) (s_push (.int (0)) (s_zret))))))
theorem vX7_readByte_0 : pu_cok2 kX7_readByte_0 := fun rf r hr => by
  unfold kX7_readByte_0
  exact v_ald (v_ild (v_ild (v_cv hr (v_ifne (vX7_readByte_11 rf r hr) (v_pi (v_zret))))))
theorem tX7_readByte_0 {X : pu_X} {r : pu_R} (hX : pu_H X mdX7_readByte) (hr : pu_P X.2.1 X.2.2.2.2.2.2.2.2.2.2.1 r) (hq : ∀ i pc, pu_lp i = some (25, pc) → pu_S X mdX7_readByte pc (r i)) : pu_S X mdX7_readByte 0 (kX7_readByte_0 r) := by
  unfold kX7_readByte_0
  exact z_ald_n hX dX7_readByte_0 rfl (z_ild_n hX dX7_readByte_1 rfl (z_ild_n hX dX7_readByte_2 rfl (z_cv (c := 7) hX hr dX7_readByte_3 hjX7_isNext mwX7_isNext rfl wm13_7 ⟨wm13_8, wm13_9⟩ ⟨Nat.le_of_ble_eq_true rfl, Nat.le_of_ble_eq_true rfl⟩ (z_ifne hX dX7_readByte_6 (by decide) (tX7_readByte_11 hX hr hq) (z_iconst hX dX7_readByte_9 (by decide) (z_zret hX dX7_readByte_10 rfl))))))
def kX7_readToEnd_67 (r : pu_R) : pu_K := s_push (.int (0)) (s_zret)
theorem vX7_readToEnd_67 : pu_cok2 kX7_readToEnd_67 := fun rf r hr => by
  unfold kX7_readToEnd_67
  exact v_pi (v_zret)
theorem tX7_readToEnd_67 {X : pu_X} {r : pu_R} (hX : pu_H X mdX7_readToEnd) (hr : pu_P X.2.1 X.2.2.2.2.2.2.2.2.2.2.1 r) (hq : ∀ i pc, pu_lp i = some (26, pc) → pu_S X mdX7_readToEnd pc (r i)) : pu_S X mdX7_readToEnd 67 (kX7_readToEnd_67 r) := by
  unfold kX7_readToEnd_67
  exact z_iconst hX dX7_readToEnd_67 (by decide) (z_zret hX dX7_readToEnd_68 rfl)
def kX7_readToEnd_61 (r : pu_R) : pu_K := s_inc 2 (1) ((r 359))
theorem vX7_readToEnd_61 : pu_cok2 kX7_readToEnd_61 := fun rf r hr => by
  unfold kX7_readToEnd_61
  exact v_inc ((hr 359))
theorem tX7_readToEnd_61 {X : pu_X} {r : pu_R} (hX : pu_H X mdX7_readToEnd) (hr : pu_P X.2.1 X.2.2.2.2.2.2.2.2.2.2.1 r) (hq : ∀ i pc, pu_lp i = some (26, pc) → pu_S X mdX7_readToEnd pc (r i)) : pu_S X mdX7_readToEnd 61 (kX7_readToEnd_61 r) := by
  unfold kX7_readToEnd_61
  exact z_inc hX dX7_readToEnd_61 (by decide) ((z_goto hX dX7_readToEnd_64 (by decide) (hq 359 7 hl359)))
def kX7_readToEnd_59 (r : pu_R) : pu_K := s_push (.int (0)) (s_zret)
theorem vX7_readToEnd_59 : pu_cok2 kX7_readToEnd_59 := fun rf r hr => by
  unfold kX7_readToEnd_59
  exact v_pi (v_zret)
theorem tX7_readToEnd_59 {X : pu_X} {r : pu_R} (hX : pu_H X mdX7_readToEnd) (hr : pu_P X.2.1 X.2.2.2.2.2.2.2.2.2.2.1 r) (hq : ∀ i pc, pu_lp i = some (26, pc) → pu_S X mdX7_readToEnd pc (r i)) : pu_S X mdX7_readToEnd 59 (kX7_readToEnd_59 r) := by
  unfold kX7_readToEnd_59
  exact z_iconst hX dX7_readToEnd_59 (by decide) (z_zret hX dX7_readToEnd_60 rfl)
def kX7_readToEnd_45 (r : pu_R) : pu_K := s_ild 2 (s_push (.int (2)) (s_iceq (kX7_readToEnd_59 r) (s_ald 0 (s_push (.int (32)) (s_cv r 25 1 7 (s_ifne (kX7_readToEnd_61 r) ((kX7_readToEnd_59 r))))))))
theorem vX7_readToEnd_45 : pu_cok2 kX7_readToEnd_45 := fun rf r hr => by
  unfold kX7_readToEnd_45
  exact v_ild (v_pi (v_iceq (vX7_readToEnd_59 rf r hr) (v_ald (v_pi (v_cv hr (v_ifne (vX7_readToEnd_61 rf r hr) ((vX7_readToEnd_59 rf r hr))))))))
theorem tX7_readToEnd_45 {X : pu_X} {r : pu_R} (hX : pu_H X mdX7_readToEnd) (hr : pu_P X.2.1 X.2.2.2.2.2.2.2.2.2.2.1 r) (hq : ∀ i pc, pu_lp i = some (26, pc) → pu_S X mdX7_readToEnd pc (r i)) : pu_S X mdX7_readToEnd 45 (kX7_readToEnd_45 r) := by
  unfold kX7_readToEnd_45
  exact z_ild_n hX dX7_readToEnd_45 rfl (z_iconst hX dX7_readToEnd_46 (by decide) (z_iceq hX dX7_readToEnd_47 (by decide) (tX7_readToEnd_59 hX hr hq) (z_ald_n hX dX7_readToEnd_50 rfl (z_bipush hX dX7_readToEnd_51 (by decide) (z_cv (c := 7) hX hr dX7_readToEnd_53 hjX7_readByte mwX7_readByte rfl wm13_11 ⟨wm13_12, wm13_13⟩ ⟨Nat.le_of_ble_eq_true rfl, Nat.le_of_ble_eq_true rfl⟩ (z_ifne hX dX7_readToEnd_56 (by decide) (tX7_readToEnd_61 hX hr hq) ((tX7_readToEnd_59 hX hr hq))))))))
def kX7_readToEnd_29 (r : pu_R) : pu_K := s_ald 0 (s_gi 7 7 (s_ald 0 (s_gr 7 6 (s_gi 0 0 (s_icne (kX7_readToEnd_45 r) (s_push (.int (1)) (s_zret)))))))
theorem vX7_readToEnd_29 : pu_cok2 kX7_readToEnd_29 := fun rf r hr => by
  unfold kX7_readToEnd_29
  exact v_ald (v_gi (v_ald (v_gr (v_gi (v_icne (vX7_readToEnd_45 rf r hr) (v_pi (v_zret)))))))
theorem tX7_readToEnd_29 {X : pu_X} {r : pu_R} (hX : pu_H X mdX7_readToEnd) (hr : pu_P X.2.1 X.2.2.2.2.2.2.2.2.2.2.1 r) (hq : ∀ i pc, pu_lp i = some (26, pc) → pu_S X mdX7_readToEnd pc (r i)) : pu_S X mdX7_readToEnd 29 (kX7_readToEnd_29 r) := by
  unfold kX7_readToEnd_29
  exact z_ald_n hX dX7_readToEnd_29 rfl (z_gi (c := 7) (j := 7) hX dX7_readToEnd_30 rfl inlX7 wm12_15 ⟨rfl, by decide, rfl⟩ (z_ald_n hX dX7_readToEnd_33 rfl (z_gr (c := 7) (j := 6) hX dX7_readToEnd_34 rfl inlX7 wm12_14 ⟨rfl, by decide, rfl⟩ (z_gi (c := 0) (j := 0) hX dX7_readToEnd_37 rfl inlX0 wm12_20 ⟨rfl, by decide, rfl⟩ (z_icne hX dX7_readToEnd_40 (by decide) (tX7_readToEnd_45 hX hr hq) (z_iconst hX dX7_readToEnd_43 (by decide) (z_zret hX dX7_readToEnd_44 rfl)))))))
def kX7_readToEnd_7 (r : pu_R) : pu_K := s_ild 2 (s_push (.int (3)) (s_icge (kX7_readToEnd_67 r) (s_ald 1 (s_ild 2 (s_ald 0 (s_cv r 24 0 7 (s_wl (s_ald 1 (s_ild 2 (s_al (s_push (.long 0) (s_lcmp (s_ifne (kX7_readToEnd_29 r) (s_push (.int (0)) (s_zret)))))))))))))))
theorem vX7_readToEnd_7 : pu_cok2 kX7_readToEnd_7 := fun rf r hr => by
  unfold kX7_readToEnd_7
  exact v_ild (v_pi (v_icge (vX7_readToEnd_67 rf r hr) (v_ald (v_ild (v_ald (v_cv hr (v_wl (v_ald (v_ild (v_al (v_pl (v_lcmp (v_ifne (vX7_readToEnd_29 rf r hr) (v_pi (v_zret)))))))))))))))
theorem tX7_readToEnd_7 {X : pu_X} {r : pu_R} (hX : pu_H X mdX7_readToEnd) (hr : pu_P X.2.1 X.2.2.2.2.2.2.2.2.2.2.1 r) (hq : ∀ i pc, pu_lp i = some (26, pc) → pu_S X mdX7_readToEnd pc (r i)) : pu_S X mdX7_readToEnd 7 (kX7_readToEnd_7 r) := by
  unfold kX7_readToEnd_7
  exact z_ild_n hX dX7_readToEnd_7 rfl (z_iconst hX dX7_readToEnd_8 (by decide) (z_icge hX dX7_readToEnd_9 (by decide) (tX7_readToEnd_67 hX hr hq) (z_ald_n hX dX7_readToEnd_12 rfl (z_ild_n hX dX7_readToEnd_13 rfl (z_ald_n hX dX7_readToEnd_14 rfl (z_cv (c := 7) hX hr dX7_readToEnd_15 hjX7_readWord mwX7_readWord rfl wm13_1 ⟨wm13_2, wm13_3⟩ ⟨Nat.le_of_ble_eq_true rfl, Nat.le_of_ble_eq_true rfl⟩ (z_last hX dX7_readToEnd_18 (z_ald_n hX dX7_readToEnd_19 rfl (z_ild_n hX dX7_readToEnd_20 rfl (z_lald hX dX7_readToEnd_21 (z_lconst hX dX7_readToEnd_22 (by decide) (z_lcmp hX dX7_readToEnd_23 (z_ifne hX dX7_readToEnd_24 (by decide) (tX7_readToEnd_29 hX hr hq) (z_iconst hX dX7_readToEnd_27 (by decide) (z_zret hX dX7_readToEnd_28 rfl)))))))))))))))
def kX7_readToEnd_0 (r : pu_R) : pu_K := s_ald 1 (s_push (.long 0) (s_cs r 22 2 (s_push (.int (0)) (s_ist 2 ((r 359))))))
theorem vX7_readToEnd_0 : pu_cok2 kX7_readToEnd_0 := fun rf r hr => by
  unfold kX7_readToEnd_0
  exact v_ald (v_pl (v_cs hr (v_pi (v_ist ((hr 359))))))
theorem tX7_readToEnd_0 {X : pu_X} {r : pu_R} (hX : pu_H X mdX7_readToEnd) (hr : pu_P X.2.1 X.2.2.2.2.2.2.2.2.2.2.1 r) (hq : ∀ i pc, pu_lp i = some (26, pc) → pu_S X mdX7_readToEnd pc (r i)) : pu_S X mdX7_readToEnd 0 (kX7_readToEnd_0 r) := by
  unfold kX7_readToEnd_0
  exact z_ald_n hX dX7_readToEnd_0 rfl (z_lconst hX dX7_readToEnd_1 (by decide) (z_cs hX hr dX7_readToEnd_2 hjJ7_fill_d0a16 mwJ7_fill_d0a16 wm12_21 wm12_22 ⟨Nat.le_of_ble_eq_true rfl, Nat.le_of_ble_eq_true rfl⟩ (z_iconst hX dX7_readToEnd_5 (by decide) (z_ist_n hX dX7_readToEnd_6 rfl ((hq 359 7 hl359))))))
def kX8_indexOf_29 (r : pu_R) : pu_K := s_push (.int (-1)) (s_iret)
theorem vX8_indexOf_29 : pu_cok2 kX8_indexOf_29 := fun rf r hr => by
  unfold kX8_indexOf_29
  exact v_pi (v_iret)
theorem tX8_indexOf_29 {X : pu_X} {r : pu_R} (hX : pu_H X mdX8_indexOf) (hr : pu_P X.2.1 X.2.2.2.2.2.2.2.2.2.2.1 r) (hq : ∀ i pc, pu_lp i = some (27, pc) → pu_S X mdX8_indexOf pc (r i)) : pu_S X mdX8_indexOf 29 (kX8_indexOf_29 r) := by
  unfold kX8_indexOf_29
  exact z_iconst hX dX8_indexOf_29 (by decide) (z_iret hX dX8_indexOf_30 rfl)
def kX8_indexOf_23 (r : pu_R) : pu_K := s_inc 3 (1) ((r 360))
theorem vX8_indexOf_23 : pu_cok2 kX8_indexOf_23 := fun rf r hr => by
  unfold kX8_indexOf_23
  exact v_inc ((hr 360))
theorem tX8_indexOf_23 {X : pu_X} {r : pu_R} (hX : pu_H X mdX8_indexOf) (hr : pu_P X.2.1 X.2.2.2.2.2.2.2.2.2.2.1 r) (hq : ∀ i pc, pu_lp i = some (27, pc) → pu_S X mdX8_indexOf pc (r i)) : pu_S X mdX8_indexOf 23 (kX8_indexOf_23 r) := by
  unfold kX8_indexOf_23
  exact z_inc hX dX8_indexOf_23 (by decide) ((z_goto hX dX8_indexOf_26 (by decide) (hq 360 2 hl360)))
def kX8_indexOf_2 (r : pu_R) : pu_K := s_ild 3 (s_ald 0 (s_gi 8 0 (s_icge (kX8_indexOf_29 r) (s_ald 0 (s_gr 8 1 (s_ild 3 (s_al (s_lld 1 (s_lcmp (s_ifne (kX8_indexOf_23 r) (s_ild 3 (s_iret))))))))))))
theorem vX8_indexOf_2 : pu_cok2 kX8_indexOf_2 := fun rf r hr => by
  unfold kX8_indexOf_2
  exact v_ild (v_ald (v_gi (v_icge (vX8_indexOf_29 rf r hr) (v_ald (v_gr (v_ild (v_al (v_lld (v_lcmp (v_ifne (vX8_indexOf_23 rf r hr) (v_ild (v_iret))))))))))))
theorem tX8_indexOf_2 {X : pu_X} {r : pu_R} (hX : pu_H X mdX8_indexOf) (hr : pu_P X.2.1 X.2.2.2.2.2.2.2.2.2.2.1 r) (hq : ∀ i pc, pu_lp i = some (27, pc) → pu_S X mdX8_indexOf pc (r i)) : pu_S X mdX8_indexOf 2 (kX8_indexOf_2 r) := by
  unfold kX8_indexOf_2
  exact z_ild_n hX dX8_indexOf_2 rfl (z_ald_n hX dX8_indexOf_3 rfl (z_gi (c := 8) (j := 0) hX dX8_indexOf_4 rfl inlX8 wm14_2 ⟨rfl, by decide, rfl⟩ (z_icge hX dX8_indexOf_7 (by decide) (tX8_indexOf_29 hX hr hq) (z_ald_n hX dX8_indexOf_10 rfl (z_gr (c := 8) (j := 1) hX dX8_indexOf_11 rfl inlX8 wm6_1 ⟨rfl, by decide, rfl⟩ (z_ild_n hX dX8_indexOf_14 rfl (z_lald hX dX8_indexOf_15 (z_lld_n hX dX8_indexOf_16 rfl (z_lcmp hX dX8_indexOf_17 (z_ifne hX dX8_indexOf_18 (by decide) (tX8_indexOf_23 hX hr hq) (z_ild_n hX dX8_indexOf_21 rfl (z_iret hX dX8_indexOf_22 rfl))))))))))))
def kX8_indexOf_0 (r : pu_R) : pu_K := s_push (.int (0)) (s_ist 3 ((r 360)))
theorem vX8_indexOf_0 : pu_cok2 kX8_indexOf_0 := fun rf r hr => by
  unfold kX8_indexOf_0
  exact v_pi (v_ist ((hr 360)))
theorem tX8_indexOf_0 {X : pu_X} {r : pu_R} (hX : pu_H X mdX8_indexOf) (hr : pu_P X.2.1 X.2.2.2.2.2.2.2.2.2.2.1 r) (hq : ∀ i pc, pu_lp i = some (27, pc) → pu_S X mdX8_indexOf pc (r i)) : pu_S X mdX8_indexOf 0 (kX8_indexOf_0 r) := by
  unfold kX8_indexOf_0
  exact z_iconst hX dX8_indexOf_0 (by decide) (z_ist_n hX dX8_indexOf_1 rfl ((hq 360 2 hl360)))
def kX8_full_21 (r : pu_R) : pu_K := s_lret
theorem vX8_full_21 : pu_cok2 kX8_full_21 := fun rf r hr => by
  unfold kX8_full_21
  exact v_lret
theorem tX8_full_21 {X : pu_X} {r : pu_R} (hX : pu_H X mdX8_full) (hr : pu_P X.2.1 X.2.2.2.2.2.2.2.2.2.2.1 r) (hq : ∀ i pc, pu_lp i = some (28, pc) → pu_S X mdX8_full pc (r i)) : pu_S X mdX8_full 21 (kX8_full_21 r) := by
  unfold kX8_full_21
  exact z_lret hX dX8_full_21 rfl
def kX8_full_15 (r : pu_R) : pu_K := s_ald 0 (s_gr 8 2 (s_ild 3 (s_al ((kX8_full_21 r)))))
theorem vX8_full_15 : pu_cok2 kX8_full_15 := fun rf r hr => by
  unfold kX8_full_15
  exact v_ald (v_gr (v_ild (v_al ((vX8_full_21 rf r hr)))))
theorem tX8_full_15 {X : pu_X} {r : pu_R} (hX : pu_H X mdX8_full) (hr : pu_P X.2.1 X.2.2.2.2.2.2.2.2.2.2.1 r) (hq : ∀ i pc, pu_lp i = some (28, pc) → pu_S X mdX8_full pc (r i)) : pu_S X mdX8_full 15 (kX8_full_15 r) := by
  unfold kX8_full_15
  exact z_ald_n hX dX8_full_15 rfl (z_gr (c := 8) (j := 2) hX dX8_full_16 rfl inlX8 wm6_2 ⟨rfl, by decide, rfl⟩ (z_ild_n hX dX8_full_19 rfl (z_lald hX dX8_full_20 ((tX8_full_21 hX hr hq)))))
def kX8_full_0 (r : pu_R) : pu_K := s_ald 0 (s_lld 1 (s_cv r 27 1 8 (s_ist 3 (s_ild 3 (s_push (.int (-1)) (s_icne (kX8_full_15 r) (s_lld 1 ((kX8_full_21 r)))))))))
theorem vX8_full_0 : pu_cok2 kX8_full_0 := fun rf r hr => by
  unfold kX8_full_0
  exact v_ald (v_lld (v_cv hr (v_ist (v_ild (v_pi (v_icne (vX8_full_15 rf r hr) (v_lld ((vX8_full_21 rf r hr)))))))))
theorem tX8_full_0 {X : pu_X} {r : pu_R} (hX : pu_H X mdX8_full) (hr : pu_P X.2.1 X.2.2.2.2.2.2.2.2.2.2.1 r) (hq : ∀ i pc, pu_lp i = some (28, pc) → pu_S X mdX8_full pc (r i)) : pu_S X mdX8_full 0 (kX8_full_0 r) := by
  unfold kX8_full_0
  exact z_ald_n hX dX8_full_0 rfl (z_lld_n hX dX8_full_1 rfl (z_cv (c := 8) hX hr dX8_full_2 hjX8_indexOf mwX8_indexOf rfl wm13_22 ⟨wm13_23, wm14_0⟩ ⟨Nat.le_of_ble_eq_true rfl, Nat.le_of_ble_eq_true rfl⟩ (z_ist_n hX dX8_full_5 rfl (z_ild_n hX dX8_full_6 rfl (z_iconst hX dX8_full_7 (by decide) (z_icne hX dX8_full_8 (by decide) (tX8_full_15 hX hr hq) (z_lld_n hX dX8_full_11 rfl ((z_goto hX dX8_full_12 (by decide) (tX8_full_21 hX hr hq))))))))))
def kX7_lengthen_23 (r : pu_R) : pu_K := s_vret
theorem vX7_lengthen_23 : pu_cok2 kX7_lengthen_23 := fun rf r hr => by
  unfold kX7_lengthen_23
  exact v_vret
theorem tX7_lengthen_23 {X : pu_X} {r : pu_R} (hX : pu_H X mdX7_lengthen) (hr : pu_P X.2.1 X.2.2.2.2.2.2.2.2.2.2.1 r) (hq : ∀ i pc, pu_lp i = some (29, pc) → pu_S X mdX7_lengthen pc (r i)) : pu_S X mdX7_lengthen 23 (kX7_lengthen_23 r) := by
  unfold kX7_lengthen_23
  exact z_vret hX dX7_lengthen_23 rfl
def kX7_lengthen_2 (r : pu_R) : pu_K := s_ild 2 (s_push (.int (3)) (s_icge (kX7_lengthen_23 r) (s_ald 0 (s_ild 2 (s_ald 1 (s_ald 0 (s_ild 2 (s_al (s_cv r 28 1 8 (s_wl (s_inc 2 (1) ((r 361)))))))))))))
theorem vX7_lengthen_2 : pu_cok2 kX7_lengthen_2 := fun rf r hr => by
  unfold kX7_lengthen_2
  exact v_ild (v_pi (v_icge (vX7_lengthen_23 rf r hr) (v_ald (v_ild (v_ald (v_ald (v_ild (v_al (v_cv hr (v_wl (v_inc ((hr 361)))))))))))))
theorem tX7_lengthen_2 {X : pu_X} {r : pu_R} (hX : pu_H X mdX7_lengthen) (hr : pu_P X.2.1 X.2.2.2.2.2.2.2.2.2.2.1 r) (hq : ∀ i pc, pu_lp i = some (29, pc) → pu_S X mdX7_lengthen pc (r i)) : pu_S X mdX7_lengthen 2 (kX7_lengthen_2 r) := by
  unfold kX7_lengthen_2
  exact z_ild_n hX dX7_lengthen_2 rfl (z_iconst hX dX7_lengthen_3 (by decide) (z_icge hX dX7_lengthen_4 (by decide) (tX7_lengthen_23 hX hr hq) (z_ald_n hX dX7_lengthen_7 rfl (z_ild_n hX dX7_lengthen_8 rfl (z_ald_n hX dX7_lengthen_9 rfl (z_ald_n hX dX7_lengthen_10 rfl (z_ild_n hX dX7_lengthen_11 rfl (z_lald hX dX7_lengthen_12 (z_cv (c := 8) hX hr dX7_lengthen_13 hjX8_full mwX8_full rfl wm13_18 ⟨wm13_19, wm13_20⟩ ⟨Nat.le_of_ble_eq_true rfl, Nat.le_of_ble_eq_true rfl⟩ (z_last hX dX7_lengthen_16 (z_inc hX dX7_lengthen_17 (by decide) ((z_goto hX dX7_lengthen_20 (by decide) (hq 361 2 hl361))))))))))))))
def kX7_lengthen_0 (r : pu_R) : pu_K := s_push (.int (0)) (s_ist 2 ((r 361)))
theorem vX7_lengthen_0 : pu_cok2 kX7_lengthen_0 := fun rf r hr => by
  unfold kX7_lengthen_0
  exact v_pi (v_ist ((hr 361)))
theorem tX7_lengthen_0 {X : pu_X} {r : pu_R} (hX : pu_H X mdX7_lengthen) (hr : pu_P X.2.1 X.2.2.2.2.2.2.2.2.2.2.1 r) (hq : ∀ i pc, pu_lp i = some (29, pc) → pu_S X mdX7_lengthen pc (r i)) : pu_S X mdX7_lengthen 0 (kX7_lengthen_0 r) := by
  unfold kX7_lengthen_0
  exact z_iconst hX dX7_lengthen_0 (by decide) (z_ist_n hX dX7_lengthen_1 rfl ((hq 361 2 hl361)))
def kX7_readName_0 (r : pu_R) : pu_K := s_ald 0 (s_ald 1 (s_cv r 21 1 7 (s_ald 0 (s_ald 0 (s_gr 7 0 (s_cv r 26 1 7 (s_ist 3 (s_ald 0 (s_gr 7 0 (s_ald 2 (s_cs r 29 2 (s_ild 3 (s_zret)))))))))))))
theorem vX7_readName_0 : pu_cok2 kX7_readName_0 := fun rf r hr => by
  unfold kX7_readName_0
  exact v_ald (v_ald (v_cv hr (v_ald (v_ald (v_gr (v_cv hr (v_ist (v_ald (v_gr (v_ald (v_cs hr (v_ild (v_zret)))))))))))))
theorem tX7_readName_0 {X : pu_X} {r : pu_R} (hX : pu_H X mdX7_readName) (hr : pu_P X.2.1 X.2.2.2.2.2.2.2.2.2.2.1 r) (hq : ∀ i pc, pu_lp i = some (30, pc) → pu_S X mdX7_readName pc (r i)) : pu_S X mdX7_readName 0 (kX7_readName_0 r) := by
  unfold kX7_readName_0
  exact z_ald_n hX dX7_readName_0 rfl (z_ald_n hX dX7_readName_1 rfl (z_cv (c := 7) hX hr dX7_readName_2 hjX7_begin mwX7_begin rfl wm12_10 ⟨wm12_11, wm12_12⟩ ⟨Nat.le_of_ble_eq_true rfl, Nat.le_of_ble_eq_true rfl⟩ (z_ald_n hX dX7_readName_5 rfl (z_ald_n hX dX7_readName_6 rfl (z_gr (c := 7) (j := 0) hX dX7_readName_7 rfl inlX7 wm6_23 ⟨rfl, by decide, rfl⟩ (z_cv (c := 7) hX hr dX7_readName_10 hjX7_readToEnd mwX7_readToEnd rfl wm12_16 ⟨wm12_17, wm12_18⟩ ⟨Nat.le_of_ble_eq_true rfl, Nat.le_of_ble_eq_true rfl⟩ (z_ist_n hX dX7_readName_13 rfl (z_ald_n hX dX7_readName_14 rfl (z_gr (c := 7) (j := 0) hX dX7_readName_15 rfl inlX7 wm6_23 ⟨rfl, by decide, rfl⟩ (z_ald_n hX dX7_readName_18 rfl (z_cs hX hr dX7_readName_19 hjX7_lengthen mwX7_lengthen wm13_15 wm13_16 ⟨Nat.le_of_ble_eq_true rfl, Nat.le_of_ble_eq_true rfl⟩ (z_ild_n hX dX7_readName_22 rfl (z_zret hX dX7_readName_23 rfl)))))))))))))
def kX11_readName_0 (r : pu_R) : pu_K := s_ald 0 (s_gr 11 4 (s_ald 0 (s_gr 11 0 (s_ald 0 (s_gr 11 2 (s_gr 5 5 (s_cv r 30 2 7 (s_ist 1 (s_ald 0 (s_gr 11 0 (s_push (.int (0)) (s_pi 0 0 (s_ild 1 (s_zret))))))))))))))
theorem vX11_readName_0 : pu_cok2 kX11_readName_0 := fun rf r hr => by
  unfold kX11_readName_0
  exact v_ald (v_gr (v_ald (v_gr (v_ald (v_gr (v_gr (v_cv hr (v_ist (v_ald (v_gr (v_pi (v_puti (v_ild (v_zret))))))))))))))
theorem tX11_readName_0 {X : pu_X} {r : pu_R} (hX : pu_H X mdX11_readName) (hr : pu_P X.2.1 X.2.2.2.2.2.2.2.2.2.2.1 r) (hq : ∀ i pc, pu_lp i = some (31, pc) → pu_S X mdX11_readName pc (r i)) : pu_S X mdX11_readName 0 (kX11_readName_0 r) := by
  unfold kX11_readName_0
  exact z_ald_n hX dX11_readName_0 rfl (z_gr (c := 11) (j := 4) hX dX11_readName_1 rfl inlX11 wm2_1 ⟨rfl, by decide, rfl⟩ (z_ald_n hX dX11_readName_4 rfl (z_gr (c := 11) (j := 0) hX dX11_readName_5 rfl inlX11 wm1_15 ⟨rfl, by decide, rfl⟩ (z_ald_n hX dX11_readName_8 rfl (z_gr (c := 11) (j := 2) hX dX11_readName_9 rfl inlX11 wm1_20 ⟨rfl, by decide, rfl⟩ (z_gr (c := 5) (j := 5) hX dX11_readName_12 rfl inlX5 wm12_5 ⟨rfl, by decide, rfl⟩ (z_cv (c := 7) hX hr dX11_readName_15 hjX7_readName mwX7_readName rfl wm12_6 ⟨wm12_7, wm12_8⟩ ⟨Nat.le_of_ble_eq_true rfl, Nat.le_of_ble_eq_true rfl⟩ (z_ist_n hX dX11_readName_18 rfl (z_ald_n hX dX11_readName_19 rfl (z_gr (c := 11) (j := 0) hX dX11_readName_20 rfl inlX11 wm1_15 ⟨rfl, by decide, rfl⟩ (z_iconst hX dX11_readName_23 (by decide) (z_pi (c := 0) (j := 0) tyX0 tyX0_ok nmX0 hX dX11_readName_24 rfl inlX0 wm9_1 ⟨rfl, by decide⟩ ⟨rfl, rfl⟩ rfl (z_ild_n hX dX11_readName_27 rfl (z_zret hX dX11_readName_28 rfl))))))))))))))
def kX3_areLike_33 (r : pu_R) : pu_K := s_push (.int (1)) (s_zret)
theorem vX3_areLike_33 : pu_cok2 kX3_areLike_33 := fun rf r hr => by
  unfold kX3_areLike_33
  exact v_pi (v_zret)
theorem tX3_areLike_33 {X : pu_X} {r : pu_R} (hX : pu_H X mdX3_areLike) (hr : pu_P X.2.1 X.2.2.2.2.2.2.2.2.2.2.1 r) (hq : ∀ i pc, pu_lp i = some (32, pc) → pu_S X mdX3_areLike pc (r i)) : pu_S X mdX3_areLike 33 (kX3_areLike_33 r) := by
  unfold kX3_areLike_33
  exact z_iconst hX dX3_areLike_33 (by decide) (z_zret hX dX3_areLike_34 rfl)
def kX3_areLike_27 (r : pu_R) : pu_K := s_inc 4 (1) ((r 362))
theorem vX3_areLike_27 : pu_cok2 kX3_areLike_27 := fun rf r hr => by
  unfold kX3_areLike_27
  exact v_inc ((hr 362))
theorem tX3_areLike_27 {X : pu_X} {r : pu_R} (hX : pu_H X mdX3_areLike) (hr : pu_P X.2.1 X.2.2.2.2.2.2.2.2.2.2.1 r) (hq : ∀ i pc, pu_lp i = some (32, pc) → pu_S X mdX3_areLike pc (r i)) : pu_S X mdX3_areLike 27 (kX3_areLike_27 r) := by
  unfold kX3_areLike_27
  exact z_inc hX dX3_areLike_27 (by decide) ((z_goto hX dX3_areLike_30 (by decide) (hq 362 3 hl362)))
def kX3_areLike_3 (r : pu_R) : pu_K := s_ild 4 (s_push (.int (3)) (s_icge (kX3_areLike_33 r) (s_ald 0 (s_ild 1 (s_ild 4 (s_iadd (s_al (s_ald 2 (s_ild 3 (s_ild 4 (s_iadd (s_al (s_lcmp (s_ifeq (kX3_areLike_27 r) (s_push (.int (0)) (s_zret))))))))))))))))
theorem vX3_areLike_3 : pu_cok2 kX3_areLike_3 := fun rf r hr => by
  unfold kX3_areLike_3
  exact v_ild (v_pi (v_icge (vX3_areLike_33 rf r hr) (v_ald (v_ild (v_ild (v_iadd (v_al (v_ald (v_ild (v_ild (v_iadd (v_al (v_lcmp (v_ifeq (vX3_areLike_27 rf r hr) (v_pi (v_zret))))))))))))))))
theorem tX3_areLike_3 {X : pu_X} {r : pu_R} (hX : pu_H X mdX3_areLike) (hr : pu_P X.2.1 X.2.2.2.2.2.2.2.2.2.2.1 r) (hq : ∀ i pc, pu_lp i = some (32, pc) → pu_S X mdX3_areLike pc (r i)) : pu_S X mdX3_areLike 3 (kX3_areLike_3 r) := by
  unfold kX3_areLike_3
  exact z_ild hX dX3_areLike_3 (z_iconst hX dX3_areLike_5 (by decide) (z_icge hX dX3_areLike_6 (by decide) (tX3_areLike_33 hX hr hq) (z_ald_n hX dX3_areLike_9 rfl (z_ild_n hX dX3_areLike_10 rfl (z_ild hX dX3_areLike_11 (z_iadd hX dX3_areLike_13 (z_lald hX dX3_areLike_14 (z_ald_n hX dX3_areLike_15 rfl (z_ild_n hX dX3_areLike_16 rfl (z_ild hX dX3_areLike_17 (z_iadd hX dX3_areLike_19 (z_lald hX dX3_areLike_20 (z_lcmp hX dX3_areLike_21 (z_ifeq hX dX3_areLike_22 (by decide) (tX3_areLike_27 hX hr hq) (z_iconst hX dX3_areLike_25 (by decide) (z_zret hX dX3_areLike_26 rfl))))))))))))))))
def kX3_areLike_0 (r : pu_R) : pu_K := s_push (.int (0)) (s_ist 4 ((r 362)))
theorem vX3_areLike_0 : pu_cok2 kX3_areLike_0 := fun rf r hr => by
  unfold kX3_areLike_0
  exact v_pi (v_ist ((hr 362)))
theorem tX3_areLike_0 {X : pu_X} {r : pu_R} (hX : pu_H X mdX3_areLike) (hr : pu_P X.2.1 X.2.2.2.2.2.2.2.2.2.2.1 r) (hq : ∀ i pc, pu_lp i = some (32, pc) → pu_S X mdX3_areLike pc (r i)) : pu_S X mdX3_areLike 0 (kX3_areLike_0 r) := by
  unfold kX3_areLike_0
  exact z_iconst hX dX3_areLike_0 (by decide) (z_ist hX dX3_areLike_1 ((hq 362 3 hl362)))
def kX10_townNamed_33 (r : pu_R) : pu_K := s_push (.int (-1)) (s_iret)
theorem vX10_townNamed_33 : pu_cok2 kX10_townNamed_33 := fun rf r hr => by
  unfold kX10_townNamed_33
  exact v_pi (v_iret)
theorem tX10_townNamed_33 {X : pu_X} {r : pu_R} (hX : pu_H X mdX10_townNamed) (hr : pu_P X.2.1 X.2.2.2.2.2.2.2.2.2.2.1 r) (hq : ∀ i pc, pu_lp i = some (33, pc) → pu_S X mdX10_townNamed pc (r i)) : pu_S X mdX10_townNamed 33 (kX10_townNamed_33 r) := by
  unfold kX10_townNamed_33
  exact z_iconst hX dX10_townNamed_33 (by decide) (z_iret hX dX10_townNamed_34 rfl)
def kX10_townNamed_27 (r : pu_R) : pu_K := s_inc 2 (1) ((r 363))
theorem vX10_townNamed_27 : pu_cok2 kX10_townNamed_27 := fun rf r hr => by
  unfold kX10_townNamed_27
  exact v_inc ((hr 363))
theorem tX10_townNamed_27 {X : pu_X} {r : pu_R} (hX : pu_H X mdX10_townNamed) (hr : pu_P X.2.1 X.2.2.2.2.2.2.2.2.2.2.1 r) (hq : ∀ i pc, pu_lp i = some (33, pc) → pu_S X mdX10_townNamed pc (r i)) : pu_S X mdX10_townNamed 27 (kX10_townNamed_27 r) := by
  unfold kX10_townNamed_27
  exact z_inc hX dX10_townNamed_27 (by decide) ((z_goto hX dX10_townNamed_30 (by decide) (hq 363 2 hl363)))
def kX10_townNamed_2 (r : pu_R) : pu_K := s_ild 2 (s_ald 0 (s_gi 10 0 (s_icge (kX10_townNamed_33 r) (s_ald 0 (s_gr 10 2 (s_push (.int (3)) (s_ild 2 (s_imul (s_ald 1 (s_push (.int (0)) (s_cs r 32 4 (s_ifeq (kX10_townNamed_27 r) (s_ild 2 (s_iret))))))))))))))
theorem vX10_townNamed_2 : pu_cok2 kX10_townNamed_2 := fun rf r hr => by
  unfold kX10_townNamed_2
  exact v_ild (v_ald (v_gi (v_icge (vX10_townNamed_33 rf r hr) (v_ald (v_gr (v_pi (v_ild (v_imul (v_ald (v_pi (v_cs hr (v_ifeq (vX10_townNamed_27 rf r hr) (v_ild (v_iret))))))))))))))
theorem tX10_townNamed_2 {X : pu_X} {r : pu_R} (hX : pu_H X mdX10_townNamed) (hr : pu_P X.2.1 X.2.2.2.2.2.2.2.2.2.2.1 r) (hq : ∀ i pc, pu_lp i = some (33, pc) → pu_S X mdX10_townNamed pc (r i)) : pu_S X mdX10_townNamed 2 (kX10_townNamed_2 r) := by
  unfold kX10_townNamed_2
  exact z_ild_n hX dX10_townNamed_2 rfl (z_ald_n hX dX10_townNamed_3 rfl (z_gi (c := 10) (j := 0) hX dX10_townNamed_4 rfl inlX10 wm14_7 ⟨rfl, by decide, rfl⟩ (z_icge hX dX10_townNamed_7 (by decide) (tX10_townNamed_33 hX hr hq) (z_ald_n hX dX10_townNamed_10 rfl (z_gr (c := 10) (j := 2) hX dX10_townNamed_11 rfl inlX10 wm5_4 ⟨rfl, by decide, rfl⟩ (z_iconst hX dX10_townNamed_14 (by decide) (z_ild_n hX dX10_townNamed_15 rfl (z_imul hX dX10_townNamed_16 (z_ald_n hX dX10_townNamed_17 rfl (z_iconst hX dX10_townNamed_18 (by decide) (z_cs hX hr dX10_townNamed_19 hjX3_areLike mwX3_areLike wm14_8 wm14_9 ⟨Nat.le_of_ble_eq_true rfl, Nat.le_of_ble_eq_true rfl⟩ (z_ifeq hX dX10_townNamed_22 (by decide) (tX10_townNamed_27 hX hr hq) (z_ild_n hX dX10_townNamed_25 rfl (z_iret hX dX10_townNamed_26 rfl))))))))))))))
def kX10_townNamed_0 (r : pu_R) : pu_K := s_push (.int (0)) (s_ist 2 ((r 363)))
theorem vX10_townNamed_0 : pu_cok2 kX10_townNamed_0 := fun rf r hr => by
  unfold kX10_townNamed_0
  exact v_pi (v_ist ((hr 363)))
theorem tX10_townNamed_0 {X : pu_X} {r : pu_R} (hX : pu_H X mdX10_townNamed) (hr : pu_P X.2.1 X.2.2.2.2.2.2.2.2.2.2.1 r) (hq : ∀ i pc, pu_lp i = some (33, pc) → pu_S X mdX10_townNamed pc (r i)) : pu_S X mdX10_townNamed 0 (kX10_townNamed_0 r) := by
  unfold kX10_townNamed_0
  exact z_iconst hX dX10_townNamed_0 (by decide) (z_ist_n hX dX10_townNamed_1 rfl ((hq 363 2 hl363)))
def kX10_addTown_11 (r : pu_R) : pu_K := s_ald 1 (s_push (.int (0)) (s_ald 0 (s_gr 10 2 (s_push (.int (3)) (s_ald 0 (s_gi 10 0 (s_imul (s_push (.int (3)) (s_cp3 (s_ald 0 (s_dup (s_gi 10 0 (s_push (.int (1)) (s_iadd (s_pi 10 0 (s_ald 0 (s_gi 10 0 (s_push (.int (1)) (s_isub (s_iret))))))))))))))))))))
theorem vX10_addTown_11 : pu_cok2 kX10_addTown_11 := fun rf r hr => by
  unfold kX10_addTown_11
  exact v_ald (v_pi (v_ald (v_gr (v_pi (v_ald (v_gi (v_imul (v_pi (v_cp3 (v_ald (v_dup (v_gi (v_pi (v_iadd (v_puti (v_ald (v_gi (v_pi (v_isub (v_iret))))))))))))))))))))
theorem tX10_addTown_11 {X : pu_X} {r : pu_R} (hX : pu_H X mdX10_addTown) (hr : pu_P X.2.1 X.2.2.2.2.2.2.2.2.2.2.1 r) (hq : ∀ i pc, pu_lp i = some (34, pc) → pu_S X mdX10_addTown pc (r i)) : pu_S X mdX10_addTown 11 (kX10_addTown_11 r) := by
  unfold kX10_addTown_11
  exact z_ald_n hX dX10_addTown_11 rfl (z_iconst hX dX10_addTown_12 (by decide) (z_ald_n hX dX10_addTown_13 rfl (z_gr (c := 10) (j := 2) hX dX10_addTown_14 rfl inlX10 wm5_4 ⟨rfl, by decide, rfl⟩ (z_iconst hX dX10_addTown_17 (by decide) (z_ald_n hX dX10_addTown_18 rfl (z_gi (c := 10) (j := 0) hX dX10_addTown_19 rfl inlX10 wm14_7 ⟨rfl, by decide, rfl⟩ (z_imul hX dX10_addTown_22 (z_iconst hX dX10_addTown_23 (by decide) (z_cp3 hX dX10_addTown_24 ⟨wm14_15, wm10_8, wm10_9, wm10_10⟩ ⟨Nat.le_of_ble_eq_true rfl, Nat.le_of_ble_eq_true rfl⟩ (z_ald_n hX dX10_addTown_27 rfl (z_dup hX dX10_addTown_28 (z_gi (c := 10) (j := 0) hX dX10_addTown_29 rfl inlX10 wm14_7 ⟨rfl, by decide, rfl⟩ (z_iconst hX dX10_addTown_32 (by decide) (z_iadd hX dX10_addTown_33 (z_pi (c := 10) (j := 0) tyX10 tyX10_ok nmX10 hX dX10_addTown_34 rfl inlX10 wm14_7 ⟨rfl, by decide⟩ ⟨rfl, rfl⟩ rfl (z_ald_n hX dX10_addTown_37 rfl (z_gi (c := 10) (j := 0) hX dX10_addTown_38 rfl inlX10 wm14_7 ⟨rfl, by decide, rfl⟩ (z_iconst hX dX10_addTown_41 (by decide) (z_isub hX dX10_addTown_42 (z_iret hX dX10_addTown_43 rfl))))))))))))))))))))
def kX10_addTown_0 (r : pu_R) : pu_K := s_ald 0 (s_gi 10 0 (s_push (.int (8)) (s_iclt (kX10_addTown_11 r) (s_push (.int (-1)) (s_iret)))))
theorem vX10_addTown_0 : pu_cok2 kX10_addTown_0 := fun rf r hr => by
  unfold kX10_addTown_0
  exact v_ald (v_gi (v_pi (v_iclt (vX10_addTown_11 rf r hr) (v_pi (v_iret)))))
theorem tX10_addTown_0 {X : pu_X} {r : pu_R} (hX : pu_H X mdX10_addTown) (hr : pu_P X.2.1 X.2.2.2.2.2.2.2.2.2.2.1 r) (hq : ∀ i pc, pu_lp i = some (34, pc) → pu_S X mdX10_addTown pc (r i)) : pu_S X mdX10_addTown 0 (kX10_addTown_0 r) := by
  unfold kX10_addTown_0
  exact z_ald_n hX dX10_addTown_0 rfl (z_gi (c := 10) (j := 0) hX dX10_addTown_1 rfl inlX10 wm14_7 ⟨rfl, by decide, rfl⟩ (z_bipush hX dX10_addTown_4 (by decide) (z_iclt hX dX10_addTown_6 (by decide) (tX10_addTown_11 hX hr hq) (z_iconst hX dX10_addTown_9 (by decide) (z_iret hX dX10_addTown_10 rfl)))))
def kX11_town_52 (r : pu_R) : pu_K := s_ald 0 (s_gr 11 2 (s_gr 5 3 (s_ald 0 (s_gr 11 4 (s_gr 7 0 (s_cv r 34 1 10 (s_iret)))))))
theorem vX11_town_52 : pu_cok2 kX11_town_52 := fun rf r hr => by
  unfold kX11_town_52
  exact v_ald (v_gr (v_gr (v_ald (v_gr (v_gr (v_cv hr (v_iret)))))))
theorem tX11_town_52 {X : pu_X} {r : pu_R} (hX : pu_H X mdX11_town) (hr : pu_P X.2.1 X.2.2.2.2.2.2.2.2.2.2.1 r) (hq : ∀ i pc, pu_lp i = some (35, pc) → pu_S X mdX11_town pc (r i)) : pu_S X mdX11_town 52 (kX11_town_52 r) := by
  unfold kX11_town_52
  exact z_ald_n hX dX11_town_52 rfl (z_gr (c := 11) (j := 2) hX dX11_town_53 rfl inlX11 wm1_20 ⟨rfl, by decide, rfl⟩ (z_gr (c := 5) (j := 3) hX dX11_town_56 rfl inlX5 wm11_22 ⟨rfl, by decide, rfl⟩ (z_ald_n hX dX11_town_59 rfl (z_gr (c := 11) (j := 4) hX dX11_town_60 rfl inlX11 wm2_1 ⟨rfl, by decide, rfl⟩ (z_gr (c := 7) (j := 0) hX dX11_town_63 rfl inlX7 wm11_23 ⟨rfl, by decide, rfl⟩ (z_cv (c := 10) hX hr dX11_town_66 hjX10_addTown mwX10_addTown rfl wm14_11 ⟨wm14_12, wm14_13⟩ ⟨Nat.le_of_ble_eq_true rfl, Nat.le_of_ble_eq_true rfl⟩ (z_iret hX dX11_town_69 rfl)))))))
def kX11_town_34 (r : pu_R) : pu_K := s_ald 0 (s_gr 11 2 (s_gr 5 3 (s_gi 10 0 (s_push (.int (8)) (s_iclt (kX11_town_52 r) (s_push (.int (-6)) (s_iret)))))))
theorem vX11_town_34 : pu_cok2 kX11_town_34 := fun rf r hr => by
  unfold kX11_town_34
  exact v_ald (v_gr (v_gr (v_gi (v_pi (v_iclt (vX11_town_52 rf r hr) (v_pi (v_iret)))))))
theorem tX11_town_34 {X : pu_X} {r : pu_R} (hX : pu_H X mdX11_town) (hr : pu_P X.2.1 X.2.2.2.2.2.2.2.2.2.2.1 r) (hq : ∀ i pc, pu_lp i = some (35, pc) → pu_S X mdX11_town pc (r i)) : pu_S X mdX11_town 34 (kX11_town_34 r) := by
  unfold kX11_town_34
  exact z_ald_n hX dX11_town_34 rfl (z_gr (c := 11) (j := 2) hX dX11_town_35 rfl inlX11 wm1_20 ⟨rfl, by decide, rfl⟩ (z_gr (c := 5) (j := 3) hX dX11_town_38 rfl inlX5 wm11_22 ⟨rfl, by decide, rfl⟩ (z_gi (c := 10) (j := 0) hX dX11_town_41 rfl inlX10 wm12_0 ⟨rfl, by decide, rfl⟩ (z_bipush hX dX11_town_44 (by decide) (z_iclt hX dX11_town_46 (by decide) (tX11_town_52 hX hr hq) (z_bipush hX dX11_town_49 (by decide) (z_iret hX dX11_town_51 rfl)))))))
def kX11_town_10 (r : pu_R) : pu_K := s_ald 0 (s_gr 11 2 (s_gr 5 3 (s_ald 0 (s_gr 11 4 (s_gr 7 0 (s_cv r 33 1 10 (s_push (.int (-1)) (s_iceq (kX11_town_34 r) (s_push (.int (-5)) (s_iret))))))))))
theorem vX11_town_10 : pu_cok2 kX11_town_10 := fun rf r hr => by
  unfold kX11_town_10
  exact v_ald (v_gr (v_gr (v_ald (v_gr (v_gr (v_cv hr (v_pi (v_iceq (vX11_town_34 rf r hr) (v_pi (v_iret))))))))))
theorem tX11_town_10 {X : pu_X} {r : pu_R} (hX : pu_H X mdX11_town) (hr : pu_P X.2.1 X.2.2.2.2.2.2.2.2.2.2.1 r) (hq : ∀ i pc, pu_lp i = some (35, pc) → pu_S X mdX11_town pc (r i)) : pu_S X mdX11_town 10 (kX11_town_10 r) := by
  unfold kX11_town_10
  exact z_ald_n hX dX11_town_10 rfl (z_gr (c := 11) (j := 2) hX dX11_town_11 rfl inlX11 wm1_20 ⟨rfl, by decide, rfl⟩ (z_gr (c := 5) (j := 3) hX dX11_town_14 rfl inlX5 wm11_22 ⟨rfl, by decide, rfl⟩ (z_ald_n hX dX11_town_17 rfl (z_gr (c := 11) (j := 4) hX dX11_town_18 rfl inlX11 wm2_1 ⟨rfl, by decide, rfl⟩ (z_gr (c := 7) (j := 0) hX dX11_town_21 rfl inlX7 wm11_23 ⟨rfl, by decide, rfl⟩ (z_cv (c := 10) hX hr dX11_town_24 hjX10_townNamed mwX10_townNamed rfl wm14_3 ⟨wm14_4, wm14_5⟩ ⟨Nat.le_of_ble_eq_true rfl, Nat.le_of_ble_eq_true rfl⟩ (z_iconst hX dX11_town_27 (by decide) (z_iceq hX dX11_town_28 (by decide) (tX11_town_34 hX hr hq) (z_bipush hX dX11_town_31 (by decide) (z_iret hX dX11_town_33 rfl))))))))))
def kX11_town_0 (r : pu_R) : pu_K := s_ald 0 (s_cv r 31 0 11 (s_ifne (kX11_town_10 r) (s_push (.int (-2)) (s_iret))))
theorem vX11_town_0 : pu_cok2 kX11_town_0 := fun rf r hr => by
  unfold kX11_town_0
  exact v_ald (v_cv hr (v_ifne (vX11_town_10 rf r hr) (v_pi (v_iret))))
theorem tX11_town_0 {X : pu_X} {r : pu_R} (hX : pu_H X mdX11_town) (hr : pu_P X.2.1 X.2.2.2.2.2.2.2.2.2.2.1 r) (hq : ∀ i pc, pu_lp i = some (35, pc) → pu_S X mdX11_town pc (r i)) : pu_S X mdX11_town 0 (kX11_town_0 r) := by
  unfold kX11_town_0
  exact z_ald_n hX dX11_town_0 rfl (z_cv (c := 11) hX hr dX11_town_1 hjX11_readName mwX11_readName rfl wm12_1 ⟨wm12_2, wm12_3⟩ ⟨Nat.le_of_ble_eq_true rfl, Nat.le_of_ble_eq_true rfl⟩ (z_ifne hX dX11_town_4 (by decide) (tX11_town_10 hX hr hq) (z_bipush hX dX11_town_7 (by decide) (z_iret hX dX11_town_9 rfl))))
def kX7_readPair_77 (r : pu_R) : pu_K := s_zret
theorem vX7_readPair_77 : pu_cok2 kX7_readPair_77 := fun rf r hr => by
  unfold kX7_readPair_77
  exact v_zret
theorem tX7_readPair_77 {X : pu_X} {r : pu_R} (hX : pu_H X mdX7_readPair) (hr : pu_P X.2.1 X.2.2.2.2.2.2.2.2.2.2.1 r) (hq : ∀ i pc, pu_lp i = some (36, pc) → pu_S X mdX7_readPair pc (r i)) : pu_S X mdX7_readPair 77 (kX7_readPair_77 r) := by
  unfold kX7_readPair_77
  exact z_zret hX dX7_readPair_77 rfl
def kX7_readPair_76 (r : pu_R) : pu_K := s_push (.int (0)) ((kX7_readPair_77 r))
theorem vX7_readPair_76 : pu_cok2 kX7_readPair_76 := fun rf r hr => by
  unfold kX7_readPair_76
  exact v_pi ((vX7_readPair_77 rf r hr))
theorem tX7_readPair_76 {X : pu_X} {r : pu_R} (hX : pu_H X mdX7_readPair) (hr : pu_P X.2.1 X.2.2.2.2.2.2.2.2.2.2.1 r) (hq : ∀ i pc, pu_lp i = some (36, pc) → pu_S X mdX7_readPair pc (r i)) : pu_S X mdX7_readPair 76 (kX7_readPair_76 r) := by
  unfold kX7_readPair_76
  exact z_iconst hX dX7_readPair_76 (by decide) ((tX7_readPair_77 hX hr hq))
def kX7_readPair_39 (r : pu_R) : pu_K := s_lcmp (s_ifeq (kX7_readPair_76 r) (s_ild 2 (s_ifeq (kX7_readPair_76 r) (s_ald 0 (s_gr 7 0 (s_push (.int (1)) (s_al (s_push (.long 0) (s_lcmp (s_ifeq (kX7_readPair_76 r) (s_ald 0 (s_gi 7 7 (s_ald 0 (s_gr 7 6 (s_gi 0 0 (s_icne (kX7_readPair_76 r) (s_push (.int (1)) ((kX7_readPair_77 r)))))))))))))))))))
theorem vX7_readPair_39 : pu_cok2 kX7_readPair_39 := fun rf r hr => by
  unfold kX7_readPair_39
  exact v_lcmp (v_ifeq (vX7_readPair_76 rf r hr) (v_ild (v_ifeq (vX7_readPair_76 rf r hr) (v_ald (v_gr (v_pi (v_al (v_pl (v_lcmp (v_ifeq (vX7_readPair_76 rf r hr) (v_ald (v_gi (v_ald (v_gr (v_gi (v_icne (vX7_readPair_76 rf r hr) (v_pi ((vX7_readPair_77 rf r hr)))))))))))))))))))
theorem tX7_readPair_39 {X : pu_X} {r : pu_R} (hX : pu_H X mdX7_readPair) (hr : pu_P X.2.1 X.2.2.2.2.2.2.2.2.2.2.1 r) (hq : ∀ i pc, pu_lp i = some (36, pc) → pu_S X mdX7_readPair pc (r i)) : pu_S X mdX7_readPair 39 (kX7_readPair_39 r) := by
  unfold kX7_readPair_39
  exact z_lcmp hX dX7_readPair_39 (z_ifeq hX dX7_readPair_40 (by decide) (tX7_readPair_76 hX hr hq) (z_ild_n hX dX7_readPair_43 rfl (z_ifeq hX dX7_readPair_44 (by decide) (tX7_readPair_76 hX hr hq) (z_ald_n hX dX7_readPair_47 rfl (z_gr (c := 7) (j := 0) hX dX7_readPair_48 rfl inlX7 wm6_23 ⟨rfl, by decide, rfl⟩ (z_iconst hX dX7_readPair_51 (by decide) (z_lald hX dX7_readPair_52 (z_lconst hX dX7_readPair_53 (by decide) (z_lcmp hX dX7_readPair_54 (z_ifeq hX dX7_readPair_55 (by decide) (tX7_readPair_76 hX hr hq) (z_ald_n hX dX7_readPair_58 rfl (z_gi (c := 7) (j := 7) hX dX7_readPair_59 rfl inlX7 wm12_15 ⟨rfl, by decide, rfl⟩ (z_ald_n hX dX7_readPair_62 rfl (z_gr (c := 7) (j := 6) hX dX7_readPair_63 rfl inlX7 wm12_14 ⟨rfl, by decide, rfl⟩ (z_gi (c := 0) (j := 0) hX dX7_readPair_66 rfl inlX0 wm12_20 ⟨rfl, by decide, rfl⟩ (z_icne hX dX7_readPair_69 (by decide) (tX7_readPair_76 hX hr hq) (z_iconst hX dX7_readPair_72 (by decide) ((z_goto hX dX7_readPair_73 (by decide) (tX7_readPair_77 hX hr hq))))))))))))))))))))
def kX7_readPair_0 (r : pu_R) : pu_K := s_ald 0 (s_ald 1 (s_cv r 21 1 7 (s_ald 0 (s_gr 7 0 (s_push (.int (0)) (s_ald 0 (s_cv r 24 0 7 (s_wl (s_ald 0 (s_push (.int (32)) (s_cv r 25 1 7 (s_ist 2 (s_ald 0 (s_gr 7 0 (s_push (.int (1)) (s_ald 0 (s_cv r 24 0 7 (s_wl (s_ald 0 (s_gr 7 0 (s_push (.int (0)) (s_al (s_push (.long 0) ((kX7_readPair_39 r)))))))))))))))))))))))))
theorem vX7_readPair_0 : pu_cok2 kX7_readPair_0 := fun rf r hr => by
  unfold kX7_readPair_0
  exact v_ald (v_ald (v_cv hr (v_ald (v_gr (v_pi (v_ald (v_cv hr (v_wl (v_ald (v_pi (v_cv hr (v_ist (v_ald (v_gr (v_pi (v_ald (v_cv hr (v_wl (v_ald (v_gr (v_pi (v_al (v_pl ((vX7_readPair_39 rf r hr)))))))))))))))))))))))))
theorem tX7_readPair_0 {X : pu_X} {r : pu_R} (hX : pu_H X mdX7_readPair) (hr : pu_P X.2.1 X.2.2.2.2.2.2.2.2.2.2.1 r) (hq : ∀ i pc, pu_lp i = some (36, pc) → pu_S X mdX7_readPair pc (r i)) : pu_S X mdX7_readPair 0 (kX7_readPair_0 r) := by
  unfold kX7_readPair_0
  exact z_ald_n hX dX7_readPair_0 rfl (z_ald_n hX dX7_readPair_1 rfl (z_cv (c := 7) hX hr dX7_readPair_2 hjX7_begin mwX7_begin rfl wm12_10 ⟨wm12_11, wm12_12⟩ ⟨Nat.le_of_ble_eq_true rfl, Nat.le_of_ble_eq_true rfl⟩ (z_ald_n hX dX7_readPair_5 rfl (z_gr (c := 7) (j := 0) hX dX7_readPair_6 rfl inlX7 wm6_23 ⟨rfl, by decide, rfl⟩ (z_iconst hX dX7_readPair_9 (by decide) (z_ald_n hX dX7_readPair_10 rfl (z_cv (c := 7) hX hr dX7_readPair_11 hjX7_readWord mwX7_readWord rfl wm13_1 ⟨wm13_2, wm13_3⟩ ⟨Nat.le_of_ble_eq_true rfl, Nat.le_of_ble_eq_true rfl⟩ (z_last hX dX7_readPair_14 (z_ald_n hX dX7_readPair_15 rfl (z_bipush hX dX7_readPair_16 (by decide) (z_cv (c := 7) hX hr dX7_readPair_18 hjX7_readByte mwX7_readByte rfl wm13_11 ⟨wm13_12, wm13_13⟩ ⟨Nat.le_of_ble_eq_true rfl, Nat.le_of_ble_eq_true rfl⟩ (z_ist_n hX dX7_readPair_21 rfl (z_ald_n hX dX7_readPair_22 rfl (z_gr (c := 7) (j := 0) hX dX7_readPair_23 rfl inlX7 wm6_23 ⟨rfl, by decide, rfl⟩ (z_iconst hX dX7_readPair_26 (by decide) (z_ald_n hX dX7_readPair_27 rfl (z_cv (c := 7) hX hr dX7_readPair_28 hjX7_readWord mwX7_readWord rfl wm13_1 ⟨wm13_2, wm13_3⟩ ⟨Nat.le_of_ble_eq_true rfl, Nat.le_of_ble_eq_true rfl⟩ (z_last hX dX7_readPair_31 (z_ald_n hX dX7_readPair_32 rfl (z_gr (c := 7) (j := 0) hX dX7_readPair_33 rfl inlX7 wm6_23 ⟨rfl, by decide, rfl⟩ (z_iconst hX dX7_readPair_36 (by decide) (z_lald hX dX7_readPair_37 (z_lconst hX dX7_readPair_38 (by decide) ((tX7_readPair_39 hX hr hq)))))))))))))))))))))))))
def kX10_isWordOfTown_31 (r : pu_R) : pu_K := s_push (.int (0)) (s_zret)
theorem vX10_isWordOfTown_31 : pu_cok2 kX10_isWordOfTown_31 := fun rf r hr => by
  unfold kX10_isWordOfTown_31
  exact v_pi (v_zret)
theorem tX10_isWordOfTown_31 {X : pu_X} {r : pu_R} (hX : pu_H X mdX10_isWordOfTown) (hr : pu_P X.2.1 X.2.2.2.2.2.2.2.2.2.2.1 r) (hq : ∀ i pc, pu_lp i = some (37, pc) → pu_S X mdX10_isWordOfTown pc (r i)) : pu_S X mdX10_isWordOfTown 31 (kX10_isWordOfTown_31 r) := by
  unfold kX10_isWordOfTown_31
  exact z_iconst hX dX10_isWordOfTown_31 (by decide) (z_zret hX dX10_isWordOfTown_32 rfl)
def kX10_isWordOfTown_25 (r : pu_R) : pu_K := s_inc 3 (1) ((r 364))
theorem vX10_isWordOfTown_25 : pu_cok2 kX10_isWordOfTown_25 := fun rf r hr => by
  unfold kX10_isWordOfTown_25
  exact v_inc ((hr 364))
theorem tX10_isWordOfTown_25 {X : pu_X} {r : pu_R} (hX : pu_H X mdX10_isWordOfTown) (hr : pu_P X.2.1 X.2.2.2.2.2.2.2.2.2.2.1 r) (hq : ∀ i pc, pu_lp i = some (37, pc) → pu_S X mdX10_isWordOfTown pc (r i)) : pu_S X mdX10_isWordOfTown 25 (kX10_isWordOfTown_25 r) := by
  unfold kX10_isWordOfTown_25
  exact z_inc hX dX10_isWordOfTown_25 (by decide) ((z_goto hX dX10_isWordOfTown_28 (by decide) (hq 364 2 hl364)))
def kX10_isWordOfTown_2 (r : pu_R) : pu_K := s_ild 3 (s_push (.int (3)) (s_ald 0 (s_gi 10 0 (s_imul (s_icge (kX10_isWordOfTown_31 r) (s_ald 0 (s_gr 10 2 (s_ild 3 (s_al (s_lld 1 (s_lcmp (s_ifne (kX10_isWordOfTown_25 r) (s_push (.int (1)) (s_zret))))))))))))))
theorem vX10_isWordOfTown_2 : pu_cok2 kX10_isWordOfTown_2 := fun rf r hr => by
  unfold kX10_isWordOfTown_2
  exact v_ild (v_pi (v_ald (v_gi (v_imul (v_icge (vX10_isWordOfTown_31 rf r hr) (v_ald (v_gr (v_ild (v_al (v_lld (v_lcmp (v_ifne (vX10_isWordOfTown_25 rf r hr) (v_pi (v_zret))))))))))))))
theorem tX10_isWordOfTown_2 {X : pu_X} {r : pu_R} (hX : pu_H X mdX10_isWordOfTown) (hr : pu_P X.2.1 X.2.2.2.2.2.2.2.2.2.2.1 r) (hq : ∀ i pc, pu_lp i = some (37, pc) → pu_S X mdX10_isWordOfTown pc (r i)) : pu_S X mdX10_isWordOfTown 2 (kX10_isWordOfTown_2 r) := by
  unfold kX10_isWordOfTown_2
  exact z_ild_n hX dX10_isWordOfTown_2 rfl (z_iconst hX dX10_isWordOfTown_3 (by decide) (z_ald_n hX dX10_isWordOfTown_4 rfl (z_gi (c := 10) (j := 0) hX dX10_isWordOfTown_5 rfl inlX10 wm14_7 ⟨rfl, by decide, rfl⟩ (z_imul hX dX10_isWordOfTown_8 (z_icge hX dX10_isWordOfTown_9 (by decide) (tX10_isWordOfTown_31 hX hr hq) (z_ald_n hX dX10_isWordOfTown_12 rfl (z_gr (c := 10) (j := 2) hX dX10_isWordOfTown_13 rfl inlX10 wm5_4 ⟨rfl, by decide, rfl⟩ (z_ild_n hX dX10_isWordOfTown_16 rfl (z_lald hX dX10_isWordOfTown_17 (z_lld_n hX dX10_isWordOfTown_18 rfl (z_lcmp hX dX10_isWordOfTown_19 (z_ifne hX dX10_isWordOfTown_20 (by decide) (tX10_isWordOfTown_25 hX hr hq) (z_iconst hX dX10_isWordOfTown_23 (by decide) (z_zret hX dX10_isWordOfTown_24 rfl))))))))))))))
def kX10_isWordOfTown_0 (r : pu_R) : pu_K := s_push (.int (0)) (s_ist 3 ((r 364)))
theorem vX10_isWordOfTown_0 : pu_cok2 kX10_isWordOfTown_0 := fun rf r hr => by
  unfold kX10_isWordOfTown_0
  exact v_pi (v_ist ((hr 364)))
theorem tX10_isWordOfTown_0 {X : pu_X} {r : pu_R} (hX : pu_H X mdX10_isWordOfTown) (hr : pu_P X.2.1 X.2.2.2.2.2.2.2.2.2.2.1 r) (hq : ∀ i pc, pu_lp i = some (37, pc) → pu_S X mdX10_isWordOfTown pc (r i)) : pu_S X mdX10_isWordOfTown 0 (kX10_isWordOfTown_0 r) := by
  unfold kX10_isWordOfTown_0
  exact z_iconst hX dX10_isWordOfTown_0 (by decide) (z_ist_n hX dX10_isWordOfTown_1 rfl ((hq 364 2 hl364)))
