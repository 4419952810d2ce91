def kX5_slotOf_26 (r : pu_R) : pu_K := s_iret
theorem vX5_slotOf_26 : pu_cok2 kX5_slotOf_26 := fun rf r hr => by
  unfold kX5_slotOf_26
  exact v_iret
theorem tX5_slotOf_26 {X : pu_X} {r : pu_R} (hX : pu_H X mdX5_slotOf) (hr : pu_P X.2.1 X.2.2.2.2.2.2.2.2.2.2.1 r) (hq : ∀ i pc, pu_lp i = some (97, pc) → pu_S X mdX5_slotOf pc (r i)) : pu_S X mdX5_slotOf 26 (kX5_slotOf_26 r) := by
  unfold kX5_slotOf_26
  exact z_iret hX dX5_slotOf_26 rfl
def kX5_slotOf_25 (r : pu_R) : pu_K := s_push (.int (0)) ((kX5_slotOf_26 r))
theorem vX5_slotOf_25 : pu_cok2 kX5_slotOf_25 := fun rf r hr => by
  unfold kX5_slotOf_25
  exact v_pi ((vX5_slotOf_26 rf r hr))
theorem tX5_slotOf_25 {X : pu_X} {r : pu_R} (hX : pu_H X mdX5_slotOf) (hr : pu_P X.2.1 X.2.2.2.2.2.2.2.2.2.2.1 r) (hq : ∀ i pc, pu_lp i = some (97, pc) → pu_S X mdX5_slotOf pc (r i)) : pu_S X mdX5_slotOf 25 (kX5_slotOf_25 r) := by
  unfold kX5_slotOf_25
  exact z_iconst hX dX5_slotOf_25 (by decide) ((tX5_slotOf_26 hX hr hq))
def kX5_slotOf_0 (r : pu_R) : pu_K := s_ald 0 (s_gr 5 4 (s_ild 1 (s_cv r 85 1 2 (s_ifeq (kX5_slotOf_25 r) (s_push (.int (2)) (s_ald 0 (s_gr 5 4 (s_gr 2 3 (s_ild 1 (s_ai 1 (s_imul ((kX5_slotOf_26 r)))))))))))))
theorem vX5_slotOf_0 : pu_cok2 kX5_slotOf_0 := fun rf r hr => by
  unfold kX5_slotOf_0
  exact v_ald (v_gr (v_ild (v_cv hr (v_ifeq (vX5_slotOf_25 rf r hr) (v_pi (v_ald (v_gr (v_gr (v_ild (v_ai (v_imul ((vX5_slotOf_26 rf r hr)))))))))))))
theorem tX5_slotOf_0 {X : pu_X} {r : pu_R} (hX : pu_H X mdX5_slotOf) (hr : pu_P X.2.1 X.2.2.2.2.2.2.2.2.2.2.1 r) (hq : ∀ i pc, pu_lp i = some (97, pc) → pu_S X mdX5_slotOf pc (r i)) : pu_S X mdX5_slotOf 0 (kX5_slotOf_0 r) := by
  unfold kX5_slotOf_0
  exact z_ald_n hX dX5_slotOf_0 rfl (z_gr (c := 5) (j := 4) hX dX5_slotOf_1 rfl inlX5 wm3_13 ⟨rfl, by decide, rfl⟩ (z_ild_n hX dX5_slotOf_4 rfl (z_cv (c := 2) hX hr dX5_slotOf_5 hjX2_isDoor mwX2_isDoor rfl wm34_7 ⟨wm27_13, wm27_14⟩ ⟨Nat.le_of_ble_eq_true rfl, Nat.le_of_ble_eq_true rfl⟩ (z_ifeq hX dX5_slotOf_8 (by decide) (tX5_slotOf_25 hX hr hq) (z_iconst hX dX5_slotOf_11 (by decide) (z_ald_n hX dX5_slotOf_12 rfl (z_gr (c := 5) (j := 4) hX dX5_slotOf_13 rfl inlX5 wm3_13 ⟨rfl, by decide, rfl⟩ (z_gr (c := 2) (j := 3) hX dX5_slotOf_16 rfl inlX2 wm34_6 ⟨rfl, by decide, rfl⟩ (z_ild_n hX dX5_slotOf_19 rfl (z_iald hX dX5_slotOf_20 (z_imul hX dX5_slotOf_21 ((z_goto hX dX5_slotOf_22 (by decide) (tX5_slotOf_26 hX hr hq))))))))))))))
def kX5_earliestOnDoor_51 (r : pu_R) : pu_K := s_iret
theorem vX5_earliestOnDoor_51 : pu_cok2 kX5_earliestOnDoor_51 := fun rf r hr => by
  unfold kX5_earliestOnDoor_51
  exact v_iret
theorem tX5_earliestOnDoor_51 {X : pu_X} {r : pu_R} (hX : pu_H X mdX5_earliestOnDoor) (hr : pu_P X.2.1 X.2.2.2.2.2.2.2.2.2.2.1 r) (hq : ∀ i pc, pu_lp i = some (98, pc) → pu_S X mdX5_earliestOnDoor pc (r i)) : pu_S X mdX5_earliestOnDoor 51 (kX5_earliestOnDoor_51 r) := by
  unfold kX5_earliestOnDoor_51
  exact z_iret hX dX5_earliestOnDoor_51 rfl
def kX5_earliestOnDoor_41 (r : pu_R) : pu_K := s_ild 4 (s_ald 0 (s_ild 3 (s_cv r 63 1 5 (s_max ((kX5_earliestOnDoor_51 r))))))
theorem vX5_earliestOnDoor_41 : pu_cok2 kX5_earliestOnDoor_41 := fun rf r hr => by
  unfold kX5_earliestOnDoor_41
  exact v_ild (v_ald (v_ild (v_cv hr (v_max ((vX5_earliestOnDoor_51 rf r hr))))))
theorem tX5_earliestOnDoor_41 {X : pu_X} {r : pu_R} (hX : pu_H X mdX5_earliestOnDoor) (hr : pu_P X.2.1 X.2.2.2.2.2.2.2.2.2.2.1 r) (hq : ∀ i pc, pu_lp i = some (98, pc) → pu_S X mdX5_earliestOnDoor pc (r i)) : pu_S X mdX5_earliestOnDoor 41 (kX5_earliestOnDoor_41 r) := by
  unfold kX5_earliestOnDoor_41
  exact z_ild hX dX5_earliestOnDoor_41 (z_ald_n hX dX5_earliestOnDoor_43 rfl (z_ild_n hX dX5_earliestOnDoor_44 rfl (z_cv (c := 5) hX hr dX5_earliestOnDoor_45 hjX5_earliestOn mwX5_earliestOn rfl wm34_9 ⟨wm22_16, wm22_17⟩ ⟨Nat.le_of_ble_eq_true rfl, Nat.le_of_ble_eq_true rfl⟩ (z_max hX dX5_earliestOnDoor_48 ⟨wm34_1, wm18_12, wm18_13, wm18_14⟩ ⟨Nat.le_of_ble_eq_true rfl, Nat.le_of_ble_eq_true rfl⟩ ((tX5_earliestOnDoor_51 hX hr hq))))))
def kX5_earliestOnDoor_0 (r : pu_R) : pu_K := s_ald 0 (s_ild 1 (s_cv r 97 1 5 (s_ist 2 (s_ald 0 (s_gr 5 4 (s_ild 2 (s_push (.int (1)) (s_iadd (s_cv r 66 1 2 (s_ist 3 (s_ald 0 (s_ald 0 (s_gr 5 4 (s_ild 2 (s_cv r 66 1 2 (s_cv r 63 1 5 (s_ist 4 (s_ild 3 (s_push (.int (-1)) (s_icne (kX5_earliestOnDoor_41 r) (s_ild 4 ((kX5_earliestOnDoor_51 r)))))))))))))))))))))))
theorem vX5_earliestOnDoor_0 : pu_cok2 kX5_earliestOnDoor_0 := fun rf r hr => by
  unfold kX5_earliestOnDoor_0
  exact v_ald (v_ild (v_cv hr (v_ist (v_ald (v_gr (v_ild (v_pi (v_iadd (v_cv hr (v_ist (v_ald (v_ald (v_gr (v_ild (v_cv hr (v_cv hr (v_ist (v_ild (v_pi (v_icne (vX5_earliestOnDoor_41 rf r hr) (v_ild ((vX5_earliestOnDoor_51 rf r hr)))))))))))))))))))))))
theorem tX5_earliestOnDoor_0 {X : pu_X} {r : pu_R} (hX : pu_H X mdX5_earliestOnDoor) (hr : pu_P X.2.1 X.2.2.2.2.2.2.2.2.2.2.1 r) (hq : ∀ i pc, pu_lp i = some (98, pc) → pu_S X mdX5_earliestOnDoor pc (r i)) : pu_S X mdX5_earliestOnDoor 0 (kX5_earliestOnDoor_0 r) := by
  unfold kX5_earliestOnDoor_0
  exact z_ald_n hX dX5_earliestOnDoor_0 rfl (z_ild_n hX dX5_earliestOnDoor_1 rfl (z_cv (c := 5) hX hr dX5_earliestOnDoor_2 hjX5_slotOf mwX5_slotOf rfl wm34_2 ⟨wm34_3, wm34_4⟩ ⟨Nat.le_of_ble_eq_true rfl, Nat.le_of_ble_eq_true rfl⟩ (z_ist_n hX dX5_earliestOnDoor_5 rfl (z_ald_n hX dX5_earliestOnDoor_6 rfl (z_gr (c := 5) (j := 4) hX dX5_earliestOnDoor_7 rfl inlX5 wm3_13 ⟨rfl, by decide, rfl⟩ (z_ild_n hX dX5_earliestOnDoor_10 rfl (z_iconst hX dX5_earliestOnDoor_11 (by decide) (z_iadd hX dX5_earliestOnDoor_12 (z_cv (c := 2) hX hr dX5_earliestOnDoor_13 hjX2_streetOf mwX2_streetOf rfl wm34_8 ⟨wm24_7, wm24_8⟩ ⟨Nat.le_of_ble_eq_true rfl, Nat.le_of_ble_eq_true rfl⟩ (z_ist_n hX dX5_earliestOnDoor_16 rfl (z_ald_n hX dX5_earliestOnDoor_17 rfl (z_ald_n hX dX5_earliestOnDoor_18 rfl (z_gr (c := 5) (j := 4) hX dX5_earliestOnDoor_19 rfl inlX5 wm3_13 ⟨rfl, by decide, rfl⟩ (z_ild_n hX dX5_earliestOnDoor_22 rfl (z_cv (c := 2) hX hr dX5_earliestOnDoor_23 hjX2_streetOf mwX2_streetOf rfl wm34_8 ⟨wm24_7, wm24_8⟩ ⟨Nat.le_of_ble_eq_true rfl, Nat.le_of_ble_eq_true rfl⟩ (z_cv (c := 5) hX hr dX5_earliestOnDoor_26 hjX5_earliestOn mwX5_earliestOn rfl wm34_9 ⟨wm22_16, wm22_17⟩ ⟨Nat.le_of_ble_eq_true rfl, Nat.le_of_ble_eq_true rfl⟩ (z_ist hX dX5_earliestOnDoor_29 (z_ild_n hX dX5_earliestOnDoor_31 rfl (z_iconst hX dX5_earliestOnDoor_32 (by decide) (z_icne hX dX5_earliestOnDoor_33 (by decide) (tX5_earliestOnDoor_41 hX hr hq) (z_ild hX dX5_earliestOnDoor_36 ((z_goto hX dX5_earliestOnDoor_38 (by decide) (tX5_earliestOnDoor_51 hX hr hq))))))))))))))))))))))))
def kX2_hasOpenUnder_62 (r : pu_R) : pu_K := s_push (.int (0)) (s_zret)
theorem vX2_hasOpenUnder_62 : pu_cok2 kX2_hasOpenUnder_62 := fun rf r hr => by
  unfold kX2_hasOpenUnder_62
  exact v_pi (v_zret)
theorem tX2_hasOpenUnder_62 {X : pu_X} {r : pu_R} (hX : pu_H X mdX2_hasOpenUnder) (hr : pu_P X.2.1 X.2.2.2.2.2.2.2.2.2.2.1 r) (hq : ∀ i pc, pu_lp i = some (99, pc) → pu_S X mdX2_hasOpenUnder pc (r i)) : pu_S X mdX2_hasOpenUnder 62 (kX2_hasOpenUnder_62 r) := by
  unfold kX2_hasOpenUnder_62
  exact z_iconst hX dX2_hasOpenUnder_62 (by decide) (z_zret hX dX2_hasOpenUnder_63 rfl)
def kX2_hasOpenUnder_56 (r : pu_R) : pu_K := s_inc 4 (1) ((r 378))
theorem vX2_hasOpenUnder_56 : pu_cok2 kX2_hasOpenUnder_56 := fun rf r hr => by
  unfold kX2_hasOpenUnder_56
  exact v_inc ((hr 378))
theorem tX2_hasOpenUnder_56 {X : pu_X} {r : pu_R} (hX : pu_H X mdX2_hasOpenUnder) (hr : pu_P X.2.1 X.2.2.2.2.2.2.2.2.2.2.1 r) (hq : ∀ i pc, pu_lp i = some (99, pc) → pu_S X mdX2_hasOpenUnder pc (r i)) : pu_S X mdX2_hasOpenUnder 56 (kX2_hasOpenUnder_56 r) := by
  unfold kX2_hasOpenUnder_56
  exact z_inc hX dX2_hasOpenUnder_56 (by decide) ((z_goto hX dX2_hasOpenUnder_59 (by decide) (hq 378 3 hl378)))
def kX2_hasOpenUnder_50 (r : pu_R) : pu_K := s_ild 3 (s_icne (kX2_hasOpenUnder_56 r) (s_push (.int (1)) (s_zret)))
theorem vX2_hasOpenUnder_50 : pu_cok2 kX2_hasOpenUnder_50 := fun rf r hr => by
  unfold kX2_hasOpenUnder_50
  exact v_ild (v_icne (vX2_hasOpenUnder_56 rf r hr) (v_pi (v_zret)))
theorem tX2_hasOpenUnder_50 {X : pu_X} {r : pu_R} (hX : pu_H X mdX2_hasOpenUnder) (hr : pu_P X.2.1 X.2.2.2.2.2.2.2.2.2.2.1 r) (hq : ∀ i pc, pu_lp i = some (99, pc) → pu_S X mdX2_hasOpenUnder pc (r i)) : pu_S X mdX2_hasOpenUnder 50 (kX2_hasOpenUnder_50 r) := by
  unfold kX2_hasOpenUnder_50
  exact z_ild_n hX dX2_hasOpenUnder_50 rfl (z_icne hX dX2_hasOpenUnder_51 (by decide) (tX2_hasOpenUnder_56 hX hr hq) (z_iconst hX dX2_hasOpenUnder_54 (by decide) (z_zret hX dX2_hasOpenUnder_55 rfl)))
def kX2_hasOpenUnder_3 (r : pu_R) : pu_K := s_ild 4 (s_ald 0 (s_gi 2 0 (s_icge (kX2_hasOpenUnder_62 r) (s_ald 0 (s_ild 4 (s_cv r 90 1 2 (s_ifeq (kX2_hasOpenUnder_56 r) (s_ald 0 (s_gr 2 2 (s_ild 4 (s_ai 1 (s_ild 1 (s_icne (kX2_hasOpenUnder_56 r) (s_ald 0 (s_gr 2 1 (s_ild 4 (s_ai 1 (s_ild 2 (s_icne (kX2_hasOpenUnder_56 r) (s_ald 0 (s_gr 2 4 (s_ild 4 (s_ai 1 ((kX2_hasOpenUnder_50 r)))))))))))))))))))))))))
theorem vX2_hasOpenUnder_3 : pu_cok2 kX2_hasOpenUnder_3 := fun rf r hr => by
  unfold kX2_hasOpenUnder_3
  exact v_ild (v_ald (v_gi (v_icge (vX2_hasOpenUnder_62 rf r hr) (v_ald (v_ild (v_cv hr (v_ifeq (vX2_hasOpenUnder_56 rf r hr) (v_ald (v_gr (v_ild (v_ai (v_ild (v_icne (vX2_hasOpenUnder_56 rf r hr) (v_ald (v_gr (v_ild (v_ai (v_ild (v_icne (vX2_hasOpenUnder_56 rf r hr) (v_ald (v_gr (v_ild (v_ai ((vX2_hasOpenUnder_50 rf r hr)))))))))))))))))))))))))
theorem tX2_hasOpenUnder_3 {X : pu_X} {r : pu_R} (hX : pu_H X mdX2_hasOpenUnder) (hr : pu_P X.2.1 X.2.2.2.2.2.2.2.2.2.2.1 r) (hq : ∀ i pc, pu_lp i = some (99, pc) → pu_S X mdX2_hasOpenUnder pc (r i)) : pu_S X mdX2_hasOpenUnder 3 (kX2_hasOpenUnder_3 r) := by
  unfold kX2_hasOpenUnder_3
  exact z_ild hX dX2_hasOpenUnder_3 (z_ald_n hX dX2_hasOpenUnder_5 rfl (z_gi (c := 2) (j := 0) hX dX2_hasOpenUnder_6 rfl inlX2 wm24_10 ⟨rfl, by decide, rfl⟩ (z_icge hX dX2_hasOpenUnder_9 (by decide) (tX2_hasOpenUnder_62 hX hr hq) (z_ald_n hX dX2_hasOpenUnder_12 rfl (z_ild hX dX2_hasOpenUnder_13 (z_cv (c := 2) hX hr dX2_hasOpenUnder_15 hjX2_isOpen mwX2_isOpen rfl wm34_14 ⟨wm32_15, wm32_16⟩ ⟨Nat.le_of_ble_eq_true rfl, Nat.le_of_ble_eq_true rfl⟩ (z_ifeq hX dX2_hasOpenUnder_18 (by decide) (tX2_hasOpenUnder_56 hX hr hq) (z_ald_n hX dX2_hasOpenUnder_21 rfl (z_gr (c := 2) (j := 2) hX dX2_hasOpenUnder_22 rfl inlX2 wm5_13 ⟨rfl, by decide, rfl⟩ (z_ild hX dX2_hasOpenUnder_25 (z_iald hX dX2_hasOpenUnder_27 (z_ild_n hX dX2_hasOpenUnder_28 rfl (z_icne hX dX2_hasOpenUnder_29 (by decide) (tX2_hasOpenUnder_56 hX hr hq) (z_ald_n hX dX2_hasOpenUnder_32 rfl (z_gr (c := 2) (j := 1) hX dX2_hasOpenUnder_33 rfl inlX2 wm5_12 ⟨rfl, by decide, rfl⟩ (z_ild hX dX2_hasOpenUnder_36 (z_iald hX dX2_hasOpenUnder_38 (z_ild_n hX dX2_hasOpenUnder_39 rfl (z_icne hX dX2_hasOpenUnder_40 (by decide) (tX2_hasOpenUnder_56 hX hr hq) (z_ald_n hX dX2_hasOpenUnder_43 rfl (z_gr (c := 2) (j := 4) hX dX2_hasOpenUnder_44 rfl inlX2 wm5_15 ⟨rfl, by decide, rfl⟩ (z_ild hX dX2_hasOpenUnder_47 (z_iald hX dX2_hasOpenUnder_49 ((tX2_hasOpenUnder_50 hX hr hq)))))))))))))))))))))))))
def kX2_hasOpenUnder_0 (r : pu_R) : pu_K := s_push (.int (0)) (s_ist 4 ((r 378)))
theorem vX2_hasOpenUnder_0 : pu_cok2 kX2_hasOpenUnder_0 := fun rf r hr => by
  unfold kX2_hasOpenUnder_0
  exact v_pi (v_ist ((hr 378)))
theorem tX2_hasOpenUnder_0 {X : pu_X} {r : pu_R} (hX : pu_H X mdX2_hasOpenUnder) (hr : pu_P X.2.1 X.2.2.2.2.2.2.2.2.2.2.1 r) (hq : ∀ i pc, pu_lp i = some (99, pc) → pu_S X mdX2_hasOpenUnder pc (r i)) : pu_S X mdX2_hasOpenUnder 0 (kX2_hasOpenUnder_0 r) := by
  unfold kX2_hasOpenUnder_0
  exact z_iconst hX dX2_hasOpenUnder_0 (by decide) (z_ist hX dX2_hasOpenUnder_1 ((hq 378 3 hl378)))
def kX5_layOnDoor_0 (r : pu_R) : pu_K := s_ald 0 (s_ild 1 (s_cv r 97 1 5 (s_ist 3 (s_ald 0 (s_gr 5 0 (s_ild 2 (s_ald 0 (s_gr 5 4 (s_ild 3 (s_cv r 66 1 2 (s_ald 0 (s_gr 5 4 (s_ild 3 (s_push (.int (1)) (s_iadd (s_cv r 66 1 2 (s_cv r 52 3 6 (s_iret))))))))))))))))))
theorem vX5_layOnDoor_0 : pu_cok2 kX5_layOnDoor_0 := fun rf r hr => by
  unfold kX5_layOnDoor_0
  exact v_ald (v_ild (v_cv hr (v_ist (v_ald (v_gr (v_ild (v_ald (v_gr (v_ild (v_cv hr (v_ald (v_gr (v_ild (v_pi (v_iadd (v_cv hr (v_cv hr (v_iret))))))))))))))))))
theorem tX5_layOnDoor_0 {X : pu_X} {r : pu_R} (hX : pu_H X mdX5_layOnDoor) (hr : pu_P X.2.1 X.2.2.2.2.2.2.2.2.2.2.1 r) (hq : ∀ i pc, pu_lp i = some (100, pc) → pu_S X mdX5_layOnDoor pc (r i)) : pu_S X mdX5_layOnDoor 0 (kX5_layOnDoor_0 r) := by
  unfold kX5_layOnDoor_0
  exact z_ald_n hX dX5_layOnDoor_0 rfl (z_ild_n hX dX5_layOnDoor_1 rfl (z_cv (c := 5) hX hr dX5_layOnDoor_2 hjX5_slotOf mwX5_slotOf rfl wm34_2 ⟨wm34_3, wm34_4⟩ ⟨Nat.le_of_ble_eq_true rfl, Nat.le_of_ble_eq_true rfl⟩ (z_ist_n hX dX5_layOnDoor_5 rfl (z_ald_n hX dX5_layOnDoor_6 rfl (z_gr (c := 5) (j := 0) hX dX5_layOnDoor_7 rfl inlX5 wm2_21 ⟨rfl, by decide, rfl⟩ (z_ild_n hX dX5_layOnDoor_10 rfl (z_ald_n hX dX5_layOnDoor_11 rfl (z_gr (c := 5) (j := 4) hX dX5_layOnDoor_12 rfl inlX5 wm3_13 ⟨rfl, by decide, rfl⟩ (z_ild_n hX dX5_layOnDoor_15 rfl (z_cv (c := 2) hX hr dX5_layOnDoor_16 hjX2_streetOf mwX2_streetOf rfl wm34_8 ⟨wm24_7, wm24_8⟩ ⟨Nat.le_of_ble_eq_true rfl, Nat.le_of_ble_eq_true rfl⟩ (z_ald_n hX dX5_layOnDoor_19 rfl (z_gr (c := 5) (j := 4) hX dX5_layOnDoor_20 rfl inlX5 wm3_13 ⟨rfl, by decide, rfl⟩ (z_ild_n hX dX5_layOnDoor_23 rfl (z_iconst hX dX5_layOnDoor_24 (by decide) (z_iadd hX dX5_layOnDoor_25 (z_cv (c := 2) hX hr dX5_layOnDoor_26 hjX2_streetOf mwX2_streetOf rfl wm34_8 ⟨wm24_7, wm24_8⟩ ⟨Nat.le_of_ble_eq_true rfl, Nat.le_of_ble_eq_true rfl⟩ (z_cv (c := 6) hX hr dX5_layOnDoor_29 hjX6_lay mwX6_lay rfl wm34_19 ⟨wm19_19, wm19_20⟩ ⟨Nat.le_of_ble_eq_true rfl, Nat.le_of_ble_eq_true rfl⟩ (z_iret hX dX5_layOnDoor_32 rfl))))))))))))))))))
def kX11_under_124 (r : pu_R) : pu_K := s_ald 0 (s_gr 11 2 (s_gr 5 4 (s_ild 1 (s_ild 2 (s_ild 3 (s_ald 0 (s_gr 11 2 (s_ild 2 (s_ild 4 (s_cv r 100 2 5 (s_cv r 87 4 2 (s_iret))))))))))))
theorem vX11_under_124 : pu_cok2 kX11_under_124 := fun rf r hr => by
  unfold kX11_under_124
  exact v_ald (v_gr (v_gr (v_ild (v_ild (v_ild (v_ald (v_gr (v_ild (v_ild (v_cv hr (v_cv hr (v_iret))))))))))))
theorem tX11_under_124 {X : pu_X} {r : pu_R} (hX : pu_H X mdX11_under) (hr : pu_P X.2.1 X.2.2.2.2.2.2.2.2.2.2.1 r) (hq : ∀ i pc, pu_lp i = some (101, pc) → pu_S X mdX11_under pc (r i)) : pu_S X mdX11_under 124 (kX11_under_124 r) := by
  unfold kX11_under_124
  exact z_ald_n hX dX11_under_124 rfl (z_gr (c := 11) (j := 2) hX dX11_under_125 rfl inlX11 wm1_20 ⟨rfl, by decide, rfl⟩ (z_gr (c := 5) (j := 4) hX dX11_under_128 rfl inlX5 wm21_20 ⟨rfl, by decide, rfl⟩ (z_ild_n hX dX11_under_131 rfl (z_ild_n hX dX11_under_132 rfl (z_ild_n hX dX11_under_133 rfl (z_ald_n hX dX11_under_134 rfl (z_gr (c := 11) (j := 2) hX dX11_under_135 rfl inlX11 wm1_20 ⟨rfl, by decide, rfl⟩ (z_ild_n hX dX11_under_138 rfl (z_ild hX dX11_under_139 (z_cv (c := 5) hX hr dX11_under_141 hjX5_layOnDoor mwX5_layOnDoor rfl wm34_15 ⟨wm34_16, wm34_17⟩ ⟨Nat.le_of_ble_eq_true rfl, Nat.le_of_ble_eq_true rfl⟩ (z_cv (c := 2) hX hr dX11_under_144 hjX2_add mwX2_add rfl wm27_8 ⟨wm27_9, wm27_10⟩ ⟨Nat.le_of_ble_eq_true rfl, Nat.le_of_ble_eq_true rfl⟩ (z_iret hX dX11_under_147 rfl))))))))))))
def kX11_under_121 (r : pu_R) : pu_K := s_push (.int (-6)) (s_iret)
theorem vX11_under_121 : pu_cok2 kX11_under_121 := fun rf r hr => by
  unfold kX11_under_121
  exact v_pi (v_iret)
theorem tX11_under_121 {X : pu_X} {r : pu_R} (hX : pu_H X mdX11_under) (hr : pu_P X.2.1 X.2.2.2.2.2.2.2.2.2.2.1 r) (hq : ∀ i pc, pu_lp i = some (101, pc) → pu_S X mdX11_under pc (r i)) : pu_S X mdX11_under 121 (kX11_under_121 r) := by
  unfold kX11_under_121
  exact z_bipush hX dX11_under_121 (by decide) (z_iret hX dX11_under_123 rfl)
def kX11_under_93 (r : pu_R) : pu_K := s_ald 0 (s_gr 11 2 (s_gr 5 4 (s_gi 2 0 (s_push (.int (100)) (s_icge (kX11_under_121 r) (s_ald 0 (s_gr 11 2 (s_gr 5 0 (s_cv r 51 0 6 (s_ifne (kX11_under_124 r) ((kX11_under_121 r))))))))))))
theorem vX11_under_93 : pu_cok2 kX11_under_93 := fun rf r hr => by
  unfold kX11_under_93
  exact v_ald (v_gr (v_gr (v_gi (v_pi (v_icge (vX11_under_121 rf r hr) (v_ald (v_gr (v_gr (v_cv hr (v_ifne (vX11_under_124 rf r hr) ((vX11_under_121 rf r hr))))))))))))
theorem tX11_under_93 {X : pu_X} {r : pu_R} (hX : pu_H X mdX11_under) (hr : pu_P X.2.1 X.2.2.2.2.2.2.2.2.2.2.1 r) (hq : ∀ i pc, pu_lp i = some (101, pc) → pu_S X mdX11_under pc (r i)) : pu_S X mdX11_under 93 (kX11_under_93 r) := by
  unfold kX11_under_93
  exact z_ald_n hX dX11_under_93 rfl (z_gr (c := 11) (j := 2) hX dX11_under_94 rfl inlX11 wm1_20 ⟨rfl, by decide, rfl⟩ (z_gr (c := 5) (j := 4) hX dX11_under_97 rfl inlX5 wm21_20 ⟨rfl, by decide, rfl⟩ (z_gi (c := 2) (j := 0) hX dX11_under_100 rfl inlX2 wm21_21 ⟨rfl, by decide, rfl⟩ (z_bipush hX dX11_under_103 (by decide) (z_icge hX dX11_under_105 (by decide) (tX11_under_121 hX hr hq) (z_ald_n hX dX11_under_108 rfl (z_gr (c := 11) (j := 2) hX dX11_under_109 rfl inlX11 wm1_20 ⟨rfl, by decide, rfl⟩ (z_gr (c := 5) (j := 0) hX dX11_under_112 rfl inlX5 wm10_19 ⟨rfl, by decide, rfl⟩ (z_cv (c := 6) hX hr dX11_under_115 hjX6_hasRoom mwX6_hasRoom rfl wm19_14 ⟨wm19_15, wm19_16⟩ ⟨Nat.le_of_ble_eq_true rfl, Nat.le_of_ble_eq_true rfl⟩ (z_ifne hX dX11_under_118 (by decide) (tX11_under_124 hX hr hq) ((tX11_under_121 hX hr hq))))))))))))
def kX11_under_74 (r : pu_R) : pu_K := s_ald 0 (s_gr 11 2 (s_gr 5 4 (s_ild 2 (s_ild 1 (s_ild 3 (s_cv r 99 3 2 (s_ifeq (kX11_under_93 r) (s_push (.int (-5)) (s_iret)))))))))
theorem vX11_under_74 : pu_cok2 kX11_under_74 := fun rf r hr => by
  unfold kX11_under_74
  exact v_ald (v_gr (v_gr (v_ild (v_ild (v_ild (v_cv hr (v_ifeq (vX11_under_93 rf r hr) (v_pi (v_iret)))))))))
theorem tX11_under_74 {X : pu_X} {r : pu_R} (hX : pu_H X mdX11_under) (hr : pu_P X.2.1 X.2.2.2.2.2.2.2.2.2.2.1 r) (hq : ∀ i pc, pu_lp i = some (101, pc) → pu_S X mdX11_under pc (r i)) : pu_S X mdX11_under 74 (kX11_under_74 r) := by
  unfold kX11_under_74
  exact z_ald_n hX dX11_under_74 rfl (z_gr (c := 11) (j := 2) hX dX11_under_75 rfl inlX11 wm1_20 ⟨rfl, by decide, rfl⟩ (z_gr (c := 5) (j := 4) hX dX11_under_78 rfl inlX5 wm21_20 ⟨rfl, by decide, rfl⟩ (z_ild_n hX dX11_under_81 rfl (z_ild_n hX dX11_under_82 rfl (z_ild_n hX dX11_under_83 rfl (z_cv (c := 2) hX hr dX11_under_84 hjX2_hasOpenUnder mwX2_hasOpenUnder rfl wm34_10 ⟨wm34_11, wm34_12⟩ ⟨Nat.le_of_ble_eq_true rfl, Nat.le_of_ble_eq_true rfl⟩ (z_ifeq hX dX11_under_87 (by decide) (tX11_under_93 hX hr hq) (z_bipush hX dX11_under_90 (by decide) (z_iret hX dX11_under_92 rfl)))))))))
def kX11_under_58 (r : pu_R) : pu_K := s_ild 4 (s_ald 0 (s_gr 11 2 (s_ild 2 (s_cv r 98 1 5 (s_icge (kX11_under_74 r) (s_push (.int (-3)) (s_iret)))))))
theorem vX11_under_58 : pu_cok2 kX11_under_58 := fun rf r hr => by
  unfold kX11_under_58
  exact v_ild (v_ald (v_gr (v_ild (v_cv hr (v_icge (vX11_under_74 rf r hr) (v_pi (v_iret)))))))
theorem tX11_under_58 {X : pu_X} {r : pu_R} (hX : pu_H X mdX11_under) (hr : pu_P X.2.1 X.2.2.2.2.2.2.2.2.2.2.1 r) (hq : ∀ i pc, pu_lp i = some (101, pc) → pu_S X mdX11_under pc (r i)) : pu_S X mdX11_under 58 (kX11_under_58 r) := by
  unfold kX11_under_58
  exact z_ild hX dX11_under_58 (z_ald_n hX dX11_under_60 rfl (z_gr (c := 11) (j := 2) hX dX11_under_61 rfl inlX11 wm1_20 ⟨rfl, by decide, rfl⟩ (z_ild_n hX dX11_under_64 rfl (z_cv (c := 5) hX hr dX11_under_65 hjX5_earliestOnDoor mwX5_earliestOnDoor rfl wm33_21 ⟨wm33_22, wm33_23⟩ ⟨Nat.le_of_ble_eq_true rfl, Nat.le_of_ble_eq_true rfl⟩ (z_icge hX dX11_under_68 (by decide) (tX11_under_74 hX hr hq) (z_bipush hX dX11_under_71 (by decide) (z_iret hX dX11_under_73 rfl)))))))
def kX11_under_55 (r : pu_R) : pu_K := s_push (.int (-2)) (s_iret)
theorem vX11_under_55 : pu_cok2 kX11_under_55 := fun rf r hr => by
  unfold kX11_under_55
  exact v_pi (v_iret)
theorem tX11_under_55 {X : pu_X} {r : pu_R} (hX : pu_H X mdX11_under) (hr : pu_P X.2.1 X.2.2.2.2.2.2.2.2.2.2.1 r) (hq : ∀ i pc, pu_lp i = some (101, pc) → pu_S X mdX11_under pc (r i)) : pu_S X mdX11_under 55 (kX11_under_55 r) := by
  unfold kX11_under_55
  exact z_bipush hX dX11_under_55 (by decide) (z_iret hX dX11_under_57 rfl)
def kX11_under_32 (r : pu_R) : pu_K := s_ild 1 (s_cs r 94 1 (s_ifeq (kX11_under_55 r) (s_ild 1 (s_ild 3 (s_cs r 96 2 (s_ifeq (kX11_under_55 r) (s_ild 4 (s_cs r 18 1 (s_ifne (kX11_under_58 r) ((kX11_under_55 r)))))))))))
theorem vX11_under_32 : pu_cok2 kX11_under_32 := fun rf r hr => by
  unfold kX11_under_32
  exact v_ild (v_cs hr (v_ifeq (vX11_under_55 rf r hr) (v_ild (v_ild (v_cs hr (v_ifeq (vX11_under_55 rf r hr) (v_ild (v_cs hr (v_ifne (vX11_under_58 rf r hr) ((vX11_under_55 rf r hr)))))))))))
theorem tX11_under_32 {X : pu_X} {r : pu_R} (hX : pu_H X mdX11_under) (hr : pu_P X.2.1 X.2.2.2.2.2.2.2.2.2.2.1 r) (hq : ∀ i pc, pu_lp i = some (101, pc) → pu_S X mdX11_under pc (r i)) : pu_S X mdX11_under 32 (kX11_under_32 r) := by
  unfold kX11_under_32
  exact z_ild_n hX dX11_under_32 rfl (z_cs hX hr dX11_under_33 hjX11_isUnderSort mwX11_isUnderSort wm33_11 wm33_12 ⟨Nat.le_of_ble_eq_true rfl, Nat.le_of_ble_eq_true rfl⟩ (z_ifeq hX dX11_under_36 (by decide) (tX11_under_55 hX hr hq) (z_ild_n hX dX11_under_39 rfl (z_ild_n hX dX11_under_40 rfl (z_cs hX hr dX11_under_41 hjX11_isUnderNumber mwX11_isUnderNumber wm33_18 wm33_19 ⟨Nat.le_of_ble_eq_true rfl, Nat.le_of_ble_eq_true rfl⟩ (z_ifeq hX dX11_under_44 (by decide) (tX11_under_55 hX hr hq) (z_ild hX dX11_under_47 (z_cs hX hr dX11_under_49 hjX11_isDay mwX11_isDay wm10_21 wm10_22 ⟨Nat.le_of_ble_eq_true rfl, Nat.le_of_ble_eq_true rfl⟩ (z_ifne hX dX11_under_52 (by decide) (tX11_under_58 hX hr hq) ((tX11_under_55 hX hr hq)))))))))))
def kX11_under_30 (r : pu_R) : pu_K := s_push (.int (-1)) (s_iret)
theorem vX11_under_30 : pu_cok2 kX11_under_30 := fun rf r hr => by
  unfold kX11_under_30
  exact v_pi (v_iret)
theorem tX11_under_30 {X : pu_X} {r : pu_R} (hX : pu_H X mdX11_under) (hr : pu_P X.2.1 X.2.2.2.2.2.2.2.2.2.2.1 r) (hq : ∀ i pc, pu_lp i = some (101, pc) → pu_S X mdX11_under pc (r i)) : pu_S X mdX11_under 30 (kX11_under_30 r) := by
  unfold kX11_under_30
  exact z_iconst hX dX11_under_30 (by decide) (z_iret hX dX11_under_31 rfl)
def kX11_under_0 (r : pu_R) : pu_K := s_ald 0 (s_gr 11 2 (s_gr 5 4 (s_ild 2 (s_cv r 90 1 2 (s_ifeq (kX11_under_30 r) (s_ild 1 (s_cs r 94 1 (s_ifeq (kX11_under_32 r) (s_ald 0 (s_ild 2 (s_ild 1 (s_cv r 95 2 11 (s_ifne (kX11_under_32 r) ((kX11_under_30 r)))))))))))))))
theorem vX11_under_0 : pu_cok2 kX11_under_0 := fun rf r hr => by
  unfold kX11_under_0
  exact v_ald (v_gr (v_gr (v_ild (v_cv hr (v_ifeq (vX11_under_30 rf r hr) (v_ild (v_cs hr (v_ifeq (vX11_under_32 rf r hr) (v_ald (v_ild (v_ild (v_cv hr (v_ifne (vX11_under_32 rf r hr) ((vX11_under_30 rf r hr)))))))))))))))
theorem tX11_under_0 {X : pu_X} {r : pu_R} (hX : pu_H X mdX11_under) (hr : pu_P X.2.1 X.2.2.2.2.2.2.2.2.2.2.1 r) (hq : ∀ i pc, pu_lp i = some (101, pc) → pu_S X mdX11_under pc (r i)) : pu_S X mdX11_under 0 (kX11_under_0 r) := by
  unfold kX11_under_0
  exact z_ald_n hX dX11_under_0 rfl (z_gr (c := 11) (j := 2) hX dX11_under_1 rfl inlX11 wm1_20 ⟨rfl, by decide, rfl⟩ (z_gr (c := 5) (j := 4) hX dX11_under_4 rfl inlX5 wm21_20 ⟨rfl, by decide, rfl⟩ (z_ild_n hX dX11_under_7 rfl (z_cv (c := 2) hX hr dX11_under_8 hjX2_isOpen mwX2_isOpen rfl wm32_14 ⟨wm32_15, wm32_16⟩ ⟨Nat.le_of_ble_eq_true rfl, Nat.le_of_ble_eq_true rfl⟩ (z_ifeq hX dX11_under_11 (by decide) (tX11_under_30 hX hr hq) (z_ild_n hX dX11_under_14 rfl (z_cs hX hr dX11_under_15 hjX11_isUnderSort mwX11_isUnderSort wm33_11 wm33_12 ⟨Nat.le_of_ble_eq_true rfl, Nat.le_of_ble_eq_true rfl⟩ (z_ifeq hX dX11_under_18 (by decide) (tX11_under_32 hX hr hq) (z_ald_n hX dX11_under_21 rfl (z_ild_n hX dX11_under_22 rfl (z_ild_n hX dX11_under_23 rfl (z_cv (c := 11) hX hr dX11_under_24 hjX11_canHaveUnder mwX11_canHaveUnder rfl wm33_14 ⟨wm33_15, wm33_16⟩ ⟨Nat.le_of_ble_eq_true rfl, Nat.le_of_ble_eq_true rfl⟩ (z_ifne hX dX11_under_27 (by decide) (tX11_under_32 hX hr hq) ((tX11_under_30 hX hr hq)))))))))))))))
def kX4_close_43 (r : pu_R) : pu_K := s_vret
theorem vX4_close_43 : pu_cok2 kX4_close_43 := fun rf r hr => by
  unfold kX4_close_43
  exact v_vret
theorem tX4_close_43 {X : pu_X} {r : pu_R} (hX : pu_H X mdX4_close) (hr : pu_P X.2.1 X.2.2.2.2.2.2.2.2.2.2.1 r) (hq : ∀ i pc, pu_lp i = some (102, pc) → pu_S X mdX4_close pc (r i)) : pu_S X mdX4_close 43 (kX4_close_43 r) := by
  unfold kX4_close_43
  exact z_vret hX dX4_close_43 rfl
def kX4_close_37 (r : pu_R) : pu_K := s_inc 3 (1) ((r 379))
theorem vX4_close_37 : pu_cok2 kX4_close_37 := fun rf r hr => by
  unfold kX4_close_37
  exact v_inc ((hr 379))
theorem tX4_close_37 {X : pu_X} {r : pu_R} (hX : pu_H X mdX4_close) (hr : pu_P X.2.1 X.2.2.2.2.2.2.2.2.2.2.1 r) (hq : ∀ i pc, pu_lp i = some (102, pc) → pu_S X mdX4_close pc (r i)) : pu_S X mdX4_close 37 (kX4_close_37 r) := by
  unfold kX4_close_37
  exact z_inc hX dX4_close_37 (by decide) ((z_goto hX dX4_close_40 (by decide) (hq 379 2 hl379)))
def kX4_close_2 (r : pu_R) : pu_K := s_ild 3 (s_ald 0 (s_gi 4 0 (s_icge (kX4_close_43 r) (s_ald 0 (s_gr 4 1 (s_ild 3 (s_ai 1 (s_ild 1 (s_icne (kX4_close_37 r) (s_ald 0 (s_gr 4 4 (s_ild 3 (s_ai 1 (s_push (.int (-1)) (s_icne (kX4_close_37 r) (s_ald 0 (s_gr 4 4 (s_ild 3 (s_ild 2 (s_wi 1 ((kX4_close_37 r))))))))))))))))))))))
theorem vX4_close_2 : pu_cok2 kX4_close_2 := fun rf r hr => by
  unfold kX4_close_2
  exact v_ild (v_ald (v_gi (v_icge (vX4_close_43 rf r hr) (v_ald (v_gr (v_ild (v_ai (v_ild (v_icne (vX4_close_37 rf r hr) (v_ald (v_gr (v_ild (v_ai (v_pi (v_icne (vX4_close_37 rf r hr) (v_ald (v_gr (v_ild (v_ild (v_wi ((vX4_close_37 rf r hr))))))))))))))))))))))
theorem tX4_close_2 {X : pu_X} {r : pu_R} (hX : pu_H X mdX4_close) (hr : pu_P X.2.1 X.2.2.2.2.2.2.2.2.2.2.1 r) (hq : ∀ i pc, pu_lp i = some (102, pc) → pu_S X mdX4_close pc (r i)) : pu_S X mdX4_close 2 (kX4_close_2 r) := by
  unfold kX4_close_2
  exact z_ild_n hX dX4_close_2 rfl (z_ald_n hX dX4_close_3 rfl (z_gi (c := 4) (j := 0) hX dX4_close_4 rfl inlX4 wm28_1 ⟨rfl, by decide, rfl⟩ (z_icge hX dX4_close_7 (by decide) (tX4_close_43 hX hr hq) (z_ald_n hX dX4_close_10 rfl (z_gr (c := 4) (j := 1) hX dX4_close_11 rfl inlX4 wm4_12 ⟨rfl, by decide, rfl⟩ (z_ild_n hX dX4_close_14 rfl (z_iald hX dX4_close_15 (z_ild_n hX dX4_close_16 rfl (z_icne hX dX4_close_17 (by decide) (tX4_close_37 hX hr hq) (z_ald_n hX dX4_close_20 rfl (z_gr (c := 4) (j := 4) hX dX4_close_21 rfl inlX4 wm4_15 ⟨rfl, by decide, rfl⟩ (z_ild_n hX dX4_close_24 rfl (z_iald hX dX4_close_25 (z_iconst hX dX4_close_26 (by decide) (z_icne hX dX4_close_27 (by decide) (tX4_close_37 hX hr hq) (z_ald_n hX dX4_close_30 rfl (z_gr (c := 4) (j := 4) hX dX4_close_31 rfl inlX4 wm4_15 ⟨rfl, by decide, rfl⟩ (z_ild_n hX dX4_close_34 rfl (z_ild_n hX dX4_close_35 rfl (z_iast hX dX4_close_36 ((tX4_close_37 hX hr hq))))))))))))))))))))))
def kX4_close_0 (r : pu_R) : pu_K := s_push (.int (0)) (s_ist 3 ((r 379)))
theorem vX4_close_0 : pu_cok2 kX4_close_0 := fun rf r hr => by
  unfold kX4_close_0
  exact v_pi (v_ist ((hr 379)))
theorem tX4_close_0 {X : pu_X} {r : pu_R} (hX : pu_H X mdX4_close) (hr : pu_P X.2.1 X.2.2.2.2.2.2.2.2.2.2.1 r) (hq : ∀ i pc, pu_lp i = some (102, pc) → pu_S X mdX4_close pc (r i)) : pu_S X mdX4_close 0 (kX4_close_0 r) := by
  unfold kX4_close_0
  exact z_iconst hX dX4_close_0 (by decide) (z_ist_n hX dX4_close_1 rfl ((hq 379 2 hl379)))
def kX2_closeWithUnder_88 (r : pu_R) : pu_K := s_ild 3 (s_iret)
theorem vX2_closeWithUnder_88 : pu_cok2 kX2_closeWithUnder_88 := fun rf r hr => by
  unfold kX2_closeWithUnder_88
  exact v_ild (v_iret)
theorem tX2_closeWithUnder_88 {X : pu_X} {r : pu_R} (hX : pu_H X mdX2_closeWithUnder) (hr : pu_P X.2.1 X.2.2.2.2.2.2.2.2.2.2.1 r) (hq : ∀ i pc, pu_lp i = some (103, pc) → pu_S X mdX2_closeWithUnder pc (r i)) : pu_S X mdX2_closeWithUnder 88 (kX2_closeWithUnder_88 r) := by
  unfold kX2_closeWithUnder_88
  exact z_ild_n hX dX2_closeWithUnder_88 rfl (z_iret hX dX2_closeWithUnder_89 rfl)
def kX2_closeWithUnder_82 (r : pu_R) : pu_K := s_inc 4 (1) ((r 380))
theorem vX2_closeWithUnder_82 : pu_cok2 kX2_closeWithUnder_82 := fun rf r hr => by
  unfold kX2_closeWithUnder_82
  exact v_inc ((hr 380))
theorem tX2_closeWithUnder_82 {X : pu_X} {r : pu_R} (hX : pu_H X mdX2_closeWithUnder) (hr : pu_P X.2.1 X.2.2.2.2.2.2.2.2.2.2.1 r) (hq : ∀ i pc, pu_lp i = some (103, pc) → pu_S X mdX2_closeWithUnder pc (r i)) : pu_S X mdX2_closeWithUnder 82 (kX2_closeWithUnder_82 r) := by
  unfold kX2_closeWithUnder_82
  exact z_inc hX dX2_closeWithUnder_82 (by decide) ((z_goto hX dX2_closeWithUnder_85 (by decide) (hq 380 5 hl380)))
def kX2_closeWithUnder_71 (r : pu_R) : pu_K := s_ald 0 (s_gr 2 6 (s_ild 4 (s_ild 2 (s_wi 1 (s_inc 3 (1) ((kX2_closeWithUnder_82 r)))))))
theorem vX2_closeWithUnder_71 : pu_cok2 kX2_closeWithUnder_71 := fun rf r hr => by
  unfold kX2_closeWithUnder_71
  exact v_ald (v_gr (v_ild (v_ild (v_wi (v_inc ((vX2_closeWithUnder_82 rf r hr)))))))
theorem tX2_closeWithUnder_71 {X : pu_X} {r : pu_R} (hX : pu_H X mdX2_closeWithUnder) (hr : pu_P X.2.1 X.2.2.2.2.2.2.2.2.2.2.1 r) (hq : ∀ i pc, pu_lp i = some (103, pc) → pu_S X mdX2_closeWithUnder pc (r i)) : pu_S X mdX2_closeWithUnder 71 (kX2_closeWithUnder_71 r) := by
  unfold kX2_closeWithUnder_71
  exact z_ald_n hX dX2_closeWithUnder_71 rfl (z_gr (c := 2) (j := 6) hX dX2_closeWithUnder_72 rfl inlX2 wm5_17 ⟨rfl, by decide, rfl⟩ (z_ild hX dX2_closeWithUnder_75 (z_ild_n hX dX2_closeWithUnder_77 rfl (z_iast hX dX2_closeWithUnder_78 (z_inc hX dX2_closeWithUnder_79 (by decide) ((tX2_closeWithUnder_82 hX hr hq)))))))
def kX2_closeWithUnder_49 (r : pu_R) : pu_K := s_ist 5 (s_ald 0 (s_ild 4 (s_cv r 90 1 2 (s_ifeq (kX2_closeWithUnder_82 r) (s_ild 4 (s_ild 1 (s_iceq (kX2_closeWithUnder_71 r) (s_ild 5 (s_ifeq (kX2_closeWithUnder_82 r) ((kX2_closeWithUnder_71 r)))))))))))
theorem vX2_closeWithUnder_49 : pu_cok2 kX2_closeWithUnder_49 := fun rf r hr => by
  unfold kX2_closeWithUnder_49
  exact v_ist (v_ald (v_ild (v_cv hr (v_ifeq (vX2_closeWithUnder_82 rf r hr) (v_ild (v_ild (v_iceq (vX2_closeWithUnder_71 rf r hr) (v_ild (v_ifeq (vX2_closeWithUnder_82 rf r hr) ((vX2_closeWithUnder_71 rf r hr)))))))))))
theorem tX2_closeWithUnder_49 {X : pu_X} {r : pu_R} (hX : pu_H X mdX2_closeWithUnder) (hr : pu_P X.2.1 X.2.2.2.2.2.2.2.2.2.2.1 r) (hq : ∀ i pc, pu_lp i = some (103, pc) → pu_S X mdX2_closeWithUnder pc (r i)) : pu_S X mdX2_closeWithUnder 49 (kX2_closeWithUnder_49 r) := by
  unfold kX2_closeWithUnder_49
  exact z_ist hX dX2_closeWithUnder_49 (z_ald_n hX dX2_closeWithUnder_51 rfl (z_ild hX dX2_closeWithUnder_52 (z_cv (c := 2) hX hr dX2_closeWithUnder_54 hjX2_isOpen mwX2_isOpen rfl wm34_14 ⟨wm32_15, wm32_16⟩ ⟨Nat.le_of_ble_eq_true rfl, Nat.le_of_ble_eq_true rfl⟩ (z_ifeq hX dX2_closeWithUnder_57 (by decide) (tX2_closeWithUnder_82 hX hr hq) (z_ild hX dX2_closeWithUnder_60 (z_ild_n hX dX2_closeWithUnder_62 rfl (z_iceq hX dX2_closeWithUnder_63 (by decide) (tX2_closeWithUnder_71 hX hr hq) (z_ild hX dX2_closeWithUnder_66 (z_ifeq hX dX2_closeWithUnder_68 (by decide) (tX2_closeWithUnder_82 hX hr hq) ((tX2_closeWithUnder_71 hX hr hq)))))))))))
def kX2_closeWithUnder_48 (r : pu_R) : pu_K := s_push (.int (0)) ((kX2_closeWithUnder_49 r))
theorem vX2_closeWithUnder_48 : pu_cok2 kX2_closeWithUnder_48 := fun rf r hr => by
  unfold kX2_closeWithUnder_48
  exact v_pi ((vX2_closeWithUnder_49 rf r hr))
theorem tX2_closeWithUnder_48 {X : pu_X} {r : pu_R} (hX : pu_H X mdX2_closeWithUnder) (hr : pu_P X.2.1 X.2.2.2.2.2.2.2.2.2.2.1 r) (hq : ∀ i pc, pu_lp i = some (103, pc) → pu_S X mdX2_closeWithUnder pc (r i)) : pu_S X mdX2_closeWithUnder 48 (kX2_closeWithUnder_48 r) := by
  unfold kX2_closeWithUnder_48
  exact z_iconst hX dX2_closeWithUnder_48 (by decide) ((tX2_closeWithUnder_49 hX hr hq))
def kX2_closeWithUnder_5 (r : pu_R) : pu_K := s_ild 4 (s_ald 0 (s_gi 2 0 (s_icge (kX2_closeWithUnder_88 r) (s_ald 0 (s_ald 0 (s_gr 2 2 (s_ild 4 (s_ai 1 (s_cv r 85 1 2 (s_ifeq (kX2_closeWithUnder_48 r) (s_ald 0 (s_gr 2 6 (s_ald 0 (s_gr 2 2 (s_ild 4 (s_ai 1 (s_ai 1 (s_ild 2 (s_icne (kX2_closeWithUnder_48 r) (s_push (.int (1)) ((kX2_closeWithUnder_49 r))))))))))))))))))))))
theorem vX2_closeWithUnder_5 : pu_cok2 kX2_closeWithUnder_5 := fun rf r hr => by
  unfold kX2_closeWithUnder_5
  exact v_ild (v_ald (v_gi (v_icge (vX2_closeWithUnder_88 rf r hr) (v_ald (v_ald (v_gr (v_ild (v_ai (v_cv hr (v_ifeq (vX2_closeWithUnder_48 rf r hr) (v_ald (v_gr (v_ald (v_gr (v_ild (v_ai (v_ai (v_ild (v_icne (vX2_closeWithUnder_48 rf r hr) (v_pi ((vX2_closeWithUnder_49 rf r hr))))))))))))))))))))))
theorem tX2_closeWithUnder_5 {X : pu_X} {r : pu_R} (hX : pu_H X mdX2_closeWithUnder) (hr : pu_P X.2.1 X.2.2.2.2.2.2.2.2.2.2.1 r) (hq : ∀ i pc, pu_lp i = some (103, pc) → pu_S X mdX2_closeWithUnder pc (r i)) : pu_S X mdX2_closeWithUnder 5 (kX2_closeWithUnder_5 r) := by
  unfold kX2_closeWithUnder_5
  exact z_ild hX dX2_closeWithUnder_5 (z_ald_n hX dX2_closeWithUnder_7 rfl (z_gi (c := 2) (j := 0) hX dX2_closeWithUnder_8 rfl inlX2 wm24_10 ⟨rfl, by decide, rfl⟩ (z_icge hX dX2_closeWithUnder_11 (by decide) (tX2_closeWithUnder_88 hX hr hq) (z_ald_n hX dX2_closeWithUnder_14 rfl (z_ald_n hX dX2_closeWithUnder_15 rfl (z_gr (c := 2) (j := 2) hX dX2_closeWithUnder_16 rfl inlX2 wm5_13 ⟨rfl, by decide, rfl⟩ (z_ild hX dX2_closeWithUnder_19 (z_iald hX dX2_closeWithUnder_21 (z_cv (c := 2) hX hr dX2_closeWithUnder_22 hjX2_isDoor mwX2_isDoor rfl wm27_12 ⟨wm27_13, wm27_14⟩ ⟨Nat.le_of_ble_eq_true rfl, Nat.le_of_ble_eq_true rfl⟩ (z_ifeq hX dX2_closeWithUnder_25 (by decide) (tX2_closeWithUnder_48 hX hr hq) (z_ald_n hX dX2_closeWithUnder_28 rfl (z_gr (c := 2) (j := 6) hX dX2_closeWithUnder_29 rfl inlX2 wm5_17 ⟨rfl, by decide, rfl⟩ (z_ald_n hX dX2_closeWithUnder_32 rfl (z_gr (c := 2) (j := 2) hX dX2_closeWithUnder_33 rfl inlX2 wm5_13 ⟨rfl, by decide, rfl⟩ (z_ild hX dX2_closeWithUnder_36 (z_iald hX dX2_closeWithUnder_38 (z_iald hX dX2_closeWithUnder_39 (z_ild_n hX dX2_closeWithUnder_40 rfl (z_icne hX dX2_closeWithUnder_41 (by decide) (tX2_closeWithUnder_48 hX hr hq) (z_iconst hX dX2_closeWithUnder_44 (by decide) ((z_goto hX dX2_closeWithUnder_45 (by decide) (tX2_closeWithUnder_49 hX hr hq)))))))))))))))))))))))
def kX2_closeWithUnder_0 (r : pu_R) : pu_K := s_push (.int (0)) (s_ist 3 (s_push (.int (0)) (s_ist 4 ((r 380)))))
theorem vX2_closeWithUnder_0 : pu_cok2 kX2_closeWithUnder_0 := fun rf r hr => by
  unfold kX2_closeWithUnder_0
  exact v_pi (v_ist (v_pi (v_ist ((hr 380)))))
theorem tX2_closeWithUnder_0 {X : pu_X} {r : pu_R} (hX : pu_H X mdX2_closeWithUnder) (hr : pu_P X.2.1 X.2.2.2.2.2.2.2.2.2.2.1 r) (hq : ∀ i pc, pu_lp i = some (103, pc) → pu_S X mdX2_closeWithUnder pc (r i)) : pu_S X mdX2_closeWithUnder 0 (kX2_closeWithUnder_0 r) := by
  unfold kX2_closeWithUnder_0
  exact z_iconst hX dX2_closeWithUnder_0 (by decide) (z_ist_n hX dX2_closeWithUnder_1 rfl (z_iconst hX dX2_closeWithUnder_2 (by decide) (z_ist hX dX2_closeWithUnder_3 ((hq 380 5 hl380)))))
def kX11_gone_97 (r : pu_R) : pu_K := s_ald 0 (s_gr 11 2 (s_gr 5 4 (s_ild 1 (s_ild 3 (s_cv r 103 2 2 (s_iret))))))
theorem vX11_gone_97 : pu_cok2 kX11_gone_97 := fun rf r hr => by
  unfold kX11_gone_97
  exact v_ald (v_gr (v_gr (v_ild (v_ild (v_cv hr (v_iret))))))
theorem tX11_gone_97 {X : pu_X} {r : pu_R} (hX : pu_H X mdX11_gone) (hr : pu_P X.2.1 X.2.2.2.2.2.2.2.2.2.2.1 r) (hq : ∀ i pc, pu_lp i = some (104, pc) → pu_S X mdX11_gone pc (r i)) : pu_S X mdX11_gone 97 (kX11_gone_97 r) := by
  unfold kX11_gone_97
  exact z_ald_n hX dX11_gone_97 rfl (z_gr (c := 11) (j := 2) hX dX11_gone_98 rfl inlX11 wm1_20 ⟨rfl, by decide, rfl⟩ (z_gr (c := 5) (j := 4) hX dX11_gone_101 rfl inlX5 wm21_20 ⟨rfl, by decide, rfl⟩ (z_ild_n hX dX11_gone_104 rfl (z_ild_n hX dX11_gone_105 rfl (z_cv (c := 2) hX hr dX11_gone_106 hjX2_closeWithUnder mwX2_closeWithUnder rfl wm36_0 ⟨wm36_1, wm36_2⟩ ⟨Nat.le_of_ble_eq_true rfl, Nat.le_of_ble_eq_true rfl⟩ (z_iret hX dX11_gone_109 rfl))))))
def kX11_gone_57 (r : pu_R) : pu_K := s_ald 0 (s_gr 11 2 (s_ild 1 (s_ild 2 (s_cv r 100 2 5 (s_ist 3 (s_ald 0 (s_gr 11 2 (s_gr 5 1 (s_push (.int (2)) (s_ild 1 (s_imul (s_ild 3 (s_cv r 102 2 4 (s_ald 0 (s_gr 11 2 (s_gr 5 1 (s_push (.int (2)) (s_ild 1 (s_imul (s_push (.int (1)) (s_iadd (s_ild 3 (s_cv r 102 2 4 ((kX11_gone_97 r)))))))))))))))))))))))))
theorem vX11_gone_57 : pu_cok2 kX11_gone_57 := fun rf r hr => by
  unfold kX11_gone_57
  exact v_ald (v_gr (v_ild (v_ild (v_cv hr (v_ist (v_ald (v_gr (v_gr (v_pi (v_ild (v_imul (v_ild (v_cv hr (v_ald (v_gr (v_gr (v_pi (v_ild (v_imul (v_pi (v_iadd (v_ild (v_cv hr ((vX11_gone_97 rf r hr)))))))))))))))))))))))))
theorem tX11_gone_57 {X : pu_X} {r : pu_R} (hX : pu_H X mdX11_gone) (hr : pu_P X.2.1 X.2.2.2.2.2.2.2.2.2.2.1 r) (hq : ∀ i pc, pu_lp i = some (104, pc) → pu_S X mdX11_gone pc (r i)) : pu_S X mdX11_gone 57 (kX11_gone_57 r) := by
  unfold kX11_gone_57
  exact z_ald_n hX dX11_gone_57 rfl (z_gr (c := 11) (j := 2) hX dX11_gone_58 rfl inlX11 wm1_20 ⟨rfl, by decide, rfl⟩ (z_ild_n hX dX11_gone_61 rfl (z_ild_n hX dX11_gone_62 rfl (z_cv (c := 5) hX hr dX11_gone_63 hjX5_layOnDoor mwX5_layOnDoor rfl wm34_15 ⟨wm34_16, wm34_17⟩ ⟨Nat.le_of_ble_eq_true rfl, Nat.le_of_ble_eq_true rfl⟩ (z_ist_n hX dX11_gone_66 rfl (z_ald_n hX dX11_gone_67 rfl (z_gr (c := 11) (j := 2) hX dX11_gone_68 rfl inlX11 wm1_20 ⟨rfl, by decide, rfl⟩ (z_gr (c := 5) (j := 1) hX dX11_gone_71 rfl inlX5 wm21_22 ⟨rfl, by decide, rfl⟩ (z_iconst hX dX11_gone_74 (by decide) (z_ild_n hX dX11_gone_75 rfl (z_imul hX dX11_gone_76 (z_ild_n hX dX11_gone_77 rfl (z_cv (c := 4) hX hr dX11_gone_78 hjX4_close mwX4_close rfl wm35_20 ⟨wm35_21, wm35_22⟩ ⟨Nat.le_of_ble_eq_true rfl, Nat.le_of_ble_eq_true rfl⟩ (z_ald_n hX dX11_gone_81 rfl (z_gr (c := 11) (j := 2) hX dX11_gone_82 rfl inlX11 wm1_20 ⟨rfl, by decide, rfl⟩ (z_gr (c := 5) (j := 1) hX dX11_gone_85 rfl inlX5 wm21_22 ⟨rfl, by decide, rfl⟩ (z_iconst hX dX11_gone_88 (by decide) (z_ild_n hX dX11_gone_89 rfl (z_imul hX dX11_gone_90 (z_iconst hX dX11_gone_91 (by decide) (z_iadd hX dX11_gone_92 (z_ild_n hX dX11_gone_93 rfl (z_cv (c := 4) hX hr dX11_gone_94 hjX4_close mwX4_close rfl wm35_20 ⟨wm35_21, wm35_22⟩ ⟨Nat.le_of_ble_eq_true rfl, Nat.le_of_ble_eq_true rfl⟩ ((tX11_gone_97 hX hr hq)))))))))))))))))))))))))
def kX11_gone_41 (r : pu_R) : pu_K := s_ald 0 (s_gr 11 2 (s_gr 5 0 (s_cv r 51 0 6 (s_ifne (kX11_gone_57 r) (s_push (.int (-6)) (s_iret))))))
theorem vX11_gone_41 : pu_cok2 kX11_gone_41 := fun rf r hr => by
  unfold kX11_gone_41
  exact v_ald (v_gr (v_gr (v_cv hr (v_ifne (vX11_gone_57 rf r hr) (v_pi (v_iret))))))
theorem tX11_gone_41 {X : pu_X} {r : pu_R} (hX : pu_H X mdX11_gone) (hr : pu_P X.2.1 X.2.2.2.2.2.2.2.2.2.2.1 r) (hq : ∀ i pc, pu_lp i = some (104, pc) → pu_S X mdX11_gone pc (r i)) : pu_S X mdX11_gone 41 (kX11_gone_41 r) := by
  unfold kX11_gone_41
  exact z_ald_n hX dX11_gone_41 rfl (z_gr (c := 11) (j := 2) hX dX11_gone_42 rfl inlX11 wm1_20 ⟨rfl, by decide, rfl⟩ (z_gr (c := 5) (j := 0) hX dX11_gone_45 rfl inlX5 wm10_19 ⟨rfl, by decide, rfl⟩ (z_cv (c := 6) hX hr dX11_gone_48 hjX6_hasRoom mwX6_hasRoom rfl wm19_14 ⟨wm19_15, wm19_16⟩ ⟨Nat.le_of_ble_eq_true rfl, Nat.le_of_ble_eq_true rfl⟩ (z_ifne hX dX11_gone_51 (by decide) (tX11_gone_57 hX hr hq) (z_bipush hX dX11_gone_54 (by decide) (z_iret hX dX11_gone_56 rfl))))))
def kX11_gone_26 (r : pu_R) : pu_K := s_ild 2 (s_ald 0 (s_gr 11 2 (s_ild 1 (s_cv r 98 1 5 (s_icge (kX11_gone_41 r) (s_push (.int (-3)) (s_iret)))))))
theorem vX11_gone_26 : pu_cok2 kX11_gone_26 := fun rf r hr => by
  unfold kX11_gone_26
  exact v_ild (v_ald (v_gr (v_ild (v_cv hr (v_icge (vX11_gone_41 rf r hr) (v_pi (v_iret)))))))
theorem tX11_gone_26 {X : pu_X} {r : pu_R} (hX : pu_H X mdX11_gone) (hr : pu_P X.2.1 X.2.2.2.2.2.2.2.2.2.2.1 r) (hq : ∀ i pc, pu_lp i = some (104, pc) → pu_S X mdX11_gone pc (r i)) : pu_S X mdX11_gone 26 (kX11_gone_26 r) := by
  unfold kX11_gone_26
  exact z_ild_n hX dX11_gone_26 rfl (z_ald_n hX dX11_gone_27 rfl (z_gr (c := 11) (j := 2) hX dX11_gone_28 rfl inlX11 wm1_20 ⟨rfl, by decide, rfl⟩ (z_ild_n hX dX11_gone_31 rfl (z_cv (c := 5) hX hr dX11_gone_32 hjX5_earliestOnDoor mwX5_earliestOnDoor rfl wm33_21 ⟨wm33_22, wm33_23⟩ ⟨Nat.le_of_ble_eq_true rfl, Nat.le_of_ble_eq_true rfl⟩ (z_icge hX dX11_gone_35 (by decide) (tX11_gone_41 hX hr hq) (z_bipush hX dX11_gone_38 (by decide) (z_iret hX dX11_gone_40 rfl)))))))
def kX11_gone_16 (r : pu_R) : pu_K := s_ild 2 (s_cs r 18 1 (s_ifne (kX11_gone_26 r) (s_push (.int (-2)) (s_iret))))
theorem vX11_gone_16 : pu_cok2 kX11_gone_16 := fun rf r hr => by
  unfold kX11_gone_16
  exact v_ild (v_cs hr (v_ifne (vX11_gone_26 rf r hr) (v_pi (v_iret))))
theorem tX11_gone_16 {X : pu_X} {r : pu_R} (hX : pu_H X mdX11_gone) (hr : pu_P X.2.1 X.2.2.2.2.2.2.2.2.2.2.1 r) (hq : ∀ i pc, pu_lp i = some (104, pc) → pu_S X mdX11_gone pc (r i)) : pu_S X mdX11_gone 16 (kX11_gone_16 r) := by
  unfold kX11_gone_16
  exact z_ild_n hX dX11_gone_16 rfl (z_cs hX hr dX11_gone_17 hjX11_isDay mwX11_isDay wm10_21 wm10_22 ⟨Nat.le_of_ble_eq_true rfl, Nat.le_of_ble_eq_true rfl⟩ (z_ifne hX dX11_gone_20 (by decide) (tX11_gone_26 hX hr hq) (z_bipush hX dX11_gone_23 (by decide) (z_iret hX dX11_gone_25 rfl))))
def kX11_gone_0 (r : pu_R) : pu_K := s_ald 0 (s_gr 11 2 (s_gr 5 4 (s_ild 1 (s_cv r 90 1 2 (s_ifne (kX11_gone_16 r) (s_push (.int (-1)) (s_iret)))))))
theorem vX11_gone_0 : pu_cok2 kX11_gone_0 := fun rf r hr => by
  unfold kX11_gone_0
  exact v_ald (v_gr (v_gr (v_ild (v_cv hr (v_ifne (vX11_gone_16 rf r hr) (v_pi (v_iret)))))))
theorem tX11_gone_0 {X : pu_X} {r : pu_R} (hX : pu_H X mdX11_gone) (hr : pu_P X.2.1 X.2.2.2.2.2.2.2.2.2.2.1 r) (hq : ∀ i pc, pu_lp i = some (104, pc) → pu_S X mdX11_gone pc (r i)) : pu_S X mdX11_gone 0 (kX11_gone_0 r) := by
  unfold kX11_gone_0
  exact z_ald_n hX dX11_gone_0 rfl (z_gr (c := 11) (j := 2) hX dX11_gone_1 rfl inlX11 wm1_20 ⟨rfl, by decide, rfl⟩ (z_gr (c := 5) (j := 4) hX dX11_gone_4 rfl inlX5 wm21_20 ⟨rfl, by decide, rfl⟩ (z_ild_n hX dX11_gone_7 rfl (z_cv (c := 2) hX hr dX11_gone_8 hjX2_isOpen mwX2_isOpen rfl wm32_14 ⟨wm32_15, wm32_16⟩ ⟨Nat.le_of_ble_eq_true rfl, Nat.le_of_ble_eq_true rfl⟩ (z_ifne hX dX11_gone_11 (by decide) (tX11_gone_16 hX hr hq) (z_iconst hX dX11_gone_14 (by decide) (z_iret hX dX11_gone_15 rfl)))))))
def kX11_freshByPaces_46 (r : pu_R) : pu_K := s_iret
theorem vX11_freshByPaces_46 : pu_cok2 kX11_freshByPaces_46 := fun rf r hr => by
  unfold kX11_freshByPaces_46
  exact v_iret
theorem tX11_freshByPaces_46 {X : pu_X} {r : pu_R} (hX : pu_H X mdX11_freshByPaces) (hr : pu_P X.2.1 X.2.2.2.2.2.2.2.2.2.2.1 r) (hq : ∀ i pc, pu_lp i = some (105, pc) → pu_S X mdX11_freshByPaces pc (r i)) : pu_S X mdX11_freshByPaces 46 (kX11_freshByPaces_46 r) := by
  unfold kX11_freshByPaces_46
  exact z_iret hX dX11_freshByPaces_46 rfl
def kX11_freshByPaces_45 (r : pu_R) : pu_K := s_ild 2 ((kX11_freshByPaces_46 r))
theorem vX11_freshByPaces_45 : pu_cok2 kX11_freshByPaces_45 := fun rf r hr => by
  unfold kX11_freshByPaces_45
  exact v_ild ((vX11_freshByPaces_46 rf r hr))
theorem tX11_freshByPaces_45 {X : pu_X} {r : pu_R} (hX : pu_H X mdX11_freshByPaces) (hr : pu_P X.2.1 X.2.2.2.2.2.2.2.2.2.2.1 r) (hq : ∀ i pc, pu_lp i = some (105, pc) → pu_S X mdX11_freshByPaces pc (r i)) : pu_S X mdX11_freshByPaces 45 (kX11_freshByPaces_45 r) := by
  unfold kX11_freshByPaces_45
  exact z_ild_n hX dX11_freshByPaces_45 rfl ((tX11_freshByPaces_46 hX hr hq))
def kX11_freshByPaces_27 (r : pu_R) : pu_K := s_ist 3 (s_ild 3 (s_ifeq (kX11_freshByPaces_45 r) (s_ald 0 (s_gr 11 6 (s_ild 1 (s_push (.int (1)) (s_isub (s_ai 1 (s_push (.int (1)) (s_iadd ((kX11_freshByPaces_46 r))))))))))))
theorem vX11_freshByPaces_27 : pu_cok2 kX11_freshByPaces_27 := fun rf r hr => by
  unfold kX11_freshByPaces_27
  exact v_ist (v_ild (v_ifeq (vX11_freshByPaces_45 rf r hr) (v_ald (v_gr (v_ild (v_pi (v_isub (v_ai (v_pi (v_iadd ((vX11_freshByPaces_46 rf r hr))))))))))))
theorem tX11_freshByPaces_27 {X : pu_X} {r : pu_R} (hX : pu_H X mdX11_freshByPaces) (hr : pu_P X.2.1 X.2.2.2.2.2.2.2.2.2.2.1 r) (hq : ∀ i pc, pu_lp i = some (105, pc) → pu_S X mdX11_freshByPaces pc (r i)) : pu_S X mdX11_freshByPaces 27 (kX11_freshByPaces_27 r) := by
  unfold kX11_freshByPaces_27
  exact z_ist_n hX dX11_freshByPaces_27 rfl (z_ild_n hX dX11_freshByPaces_28 rfl (z_ifeq hX dX11_freshByPaces_29 (by decide) (tX11_freshByPaces_45 hX hr hq) (z_ald_n hX dX11_freshByPaces_32 rfl (z_gr (c := 11) (j := 6) hX dX11_freshByPaces_33 rfl inlX11 wm2_7 ⟨rfl, by decide, rfl⟩ (z_ild_n hX dX11_freshByPaces_36 rfl (z_iconst hX dX11_freshByPaces_37 (by decide) (z_isub hX dX11_freshByPaces_38 (z_iald hX dX11_freshByPaces_39 (z_iconst hX dX11_freshByPaces_40 (by decide) (z_iadd hX dX11_freshByPaces_41 ((z_goto hX dX11_freshByPaces_42 (by decide) (tX11_freshByPaces_46 hX hr hq)))))))))))))
def kX11_freshByPaces_26 (r : pu_R) : pu_K := s_push (.int (0)) ((kX11_freshByPaces_27 r))
theorem vX11_freshByPaces_26 : pu_cok2 kX11_freshByPaces_26 := fun rf r hr => by
  unfold kX11_freshByPaces_26
  exact v_pi ((vX11_freshByPaces_27 rf r hr))
theorem tX11_freshByPaces_26 {X : pu_X} {r : pu_R} (hX : pu_H X mdX11_freshByPaces) (hr : pu_P X.2.1 X.2.2.2.2.2.2.2.2.2.2.1 r) (hq : ∀ i pc, pu_lp i = some (105, pc) → pu_S X mdX11_freshByPaces pc (r i)) : pu_S X mdX11_freshByPaces 26 (kX11_freshByPaces_26 r) := by
  unfold kX11_freshByPaces_26
  exact z_iconst hX dX11_freshByPaces_26 (by decide) ((tX11_freshByPaces_27 hX hr hq))
def kX11_freshByPaces_0 (r : pu_R) : pu_K := s_ild 1 (s_ifle (kX11_freshByPaces_26 r) (s_ald 0 (s_gr 11 6 (s_ild 1 (s_push (.int (1)) (s_isub (s_ai 1 (s_push (.int (16)) (s_idiv (s_ild 2 (s_push (.int (16)) (s_idiv (s_icne (kX11_freshByPaces_26 r) (s_push (.int (1)) ((kX11_freshByPaces_27 r))))))))))))))))
theorem vX11_freshByPaces_0 : pu_cok2 kX11_freshByPaces_0 := fun rf r hr => by
  unfold kX11_freshByPaces_0
  exact v_ild (v_ifle (vX11_freshByPaces_26 rf r hr) (v_ald (v_gr (v_ild (v_pi (v_isub (v_ai (v_pi (v_idiv (v_ild (v_pi (v_idiv (v_icne (vX11_freshByPaces_26 rf r hr) (v_pi ((vX11_freshByPaces_27 rf r hr))))))))))))))))
theorem tX11_freshByPaces_0 {X : pu_X} {r : pu_R} (hX : pu_H X mdX11_freshByPaces) (hr : pu_P X.2.1 X.2.2.2.2.2.2.2.2.2.2.1 r) (hq : ∀ i pc, pu_lp i = some (105, pc) → pu_S X mdX11_freshByPaces pc (r i)) : pu_S X mdX11_freshByPaces 0 (kX11_freshByPaces_0 r) := by
  unfold kX11_freshByPaces_0
  exact z_ild_n hX dX11_freshByPaces_0 rfl (z_ifle hX dX11_freshByPaces_1 (by decide) (tX11_freshByPaces_26 hX hr hq) (z_ald_n hX dX11_freshByPaces_4 rfl (z_gr (c := 11) (j := 6) hX dX11_freshByPaces_5 rfl inlX11 wm2_7 ⟨rfl, by decide, rfl⟩ (z_ild_n hX dX11_freshByPaces_8 rfl (z_iconst hX dX11_freshByPaces_9 (by decide) (z_isub hX dX11_freshByPaces_10 (z_iald hX dX11_freshByPaces_11 (z_bipush hX dX11_freshByPaces_12 (by decide) (z_idiv hX dX11_freshByPaces_14 (z_ild_n hX dX11_freshByPaces_15 rfl (z_bipush hX dX11_freshByPaces_16 (by decide) (z_idiv hX dX11_freshByPaces_18 (z_icne hX dX11_freshByPaces_19 (by decide) (tX11_freshByPaces_26 hX hr hq) (z_iconst hX dX11_freshByPaces_22 (by decide) ((z_goto hX dX11_freshByPaces_23 (by decide) (tX11_freshByPaces_27 hX hr hq)))))))))))))))))
def kX10_rowWholeOf_40 (r : pu_R) : pu_K := s_iret
theorem vX10_rowWholeOf_40 : pu_cok2 kX10_rowWholeOf_40 := fun rf r hr => by
  unfold kX10_rowWholeOf_40
  exact v_iret
theorem tX10_rowWholeOf_40 {X : pu_X} {r : pu_R} (hX : pu_H X mdX10_rowWholeOf) (hr : pu_P X.2.1 X.2.2.2.2.2.2.2.2.2.2.1 r) (hq : ∀ i pc, pu_lp i = some (106, pc) → pu_S X mdX10_rowWholeOf pc (r i)) : pu_S X mdX10_rowWholeOf 40 (kX10_rowWholeOf_40 r) := by
  unfold kX10_rowWholeOf_40
  exact z_iret hX dX10_rowWholeOf_40 rfl
def kX10_rowWholeOf_39 (r : pu_R) : pu_K := s_push (.int (-1)) ((kX10_rowWholeOf_40 r))
theorem vX10_rowWholeOf_39 : pu_cok2 kX10_rowWholeOf_39 := fun rf r hr => by
  unfold kX10_rowWholeOf_39
  exact v_pi ((vX10_rowWholeOf_40 rf r hr))
theorem tX10_rowWholeOf_39 {X : pu_X} {r : pu_R} (hX : pu_H X mdX10_rowWholeOf) (hr : pu_P X.2.1 X.2.2.2.2.2.2.2.2.2.2.1 r) (hq : ∀ i pc, pu_lp i = some (106, pc) → pu_S X mdX10_rowWholeOf pc (r i)) : pu_S X mdX10_rowWholeOf 39 (kX10_rowWholeOf_39 r) := by
  unfold kX10_rowWholeOf_39
  exact z_iconst hX dX10_rowWholeOf_39 (by decide) ((tX10_rowWholeOf_40 hX hr hq))
def kX10_rowWholeOf_0 (r : pu_R) : pu_K := s_push (.int (2)) (s_ild 1 (s_imul (s_ild 2 (s_iadd (s_ist 4 (s_ild 3 (s_ald 0 (s_gr 10 5 (s_ild 4 (s_ai 1 (s_icge (kX10_rowWholeOf_39 r) (s_ild 3 (s_push (.int (100)) (s_icge (kX10_rowWholeOf_39 r) (s_ald 0 (s_gr 10 6 (s_ild 4 (s_push (.int (100)) (s_imul (s_ild 3 (s_iadd (s_ai 1 ((kX10_rowWholeOf_40 r))))))))))))))))))))))))
theorem vX10_rowWholeOf_0 : pu_cok2 kX10_rowWholeOf_0 := fun rf r hr => by
  unfold kX10_rowWholeOf_0
  exact v_pi (v_ild (v_imul (v_ild (v_iadd (v_ist (v_ild (v_ald (v_gr (v_ild (v_ai (v_icge (vX10_rowWholeOf_39 rf r hr) (v_ild (v_pi (v_icge (vX10_rowWholeOf_39 rf r hr) (v_ald (v_gr (v_ild (v_pi (v_imul (v_ild (v_iadd (v_ai ((vX10_rowWholeOf_40 rf r hr))))))))))))))))))))))))
theorem tX10_rowWholeOf_0 {X : pu_X} {r : pu_R} (hX : pu_H X mdX10_rowWholeOf) (hr : pu_P X.2.1 X.2.2.2.2.2.2.2.2.2.2.1 r) (hq : ∀ i pc, pu_lp i = some (106, pc) → pu_S X mdX10_rowWholeOf pc (r i)) : pu_S X mdX10_rowWholeOf 0 (kX10_rowWholeOf_0 r) := by
  unfold kX10_rowWholeOf_0
  exact z_iconst hX dX10_rowWholeOf_0 (by decide) (z_ild_n hX dX10_rowWholeOf_1 rfl (z_imul hX dX10_rowWholeOf_2 (z_ild_n hX dX10_rowWholeOf_3 rfl (z_iadd hX dX10_rowWholeOf_4 (z_ist hX dX10_rowWholeOf_5 (z_ild_n hX dX10_rowWholeOf_7 rfl (z_ald_n hX dX10_rowWholeOf_8 rfl (z_gr (c := 10) (j := 5) hX dX10_rowWholeOf_9 rfl inlX10 wm5_7 ⟨rfl, by decide, rfl⟩ (z_ild hX dX10_rowWholeOf_12 (z_iald hX dX10_rowWholeOf_14 (z_icge hX dX10_rowWholeOf_15 (by decide) (tX10_rowWholeOf_39 hX hr hq) (z_ild_n hX dX10_rowWholeOf_18 rfl (z_bipush hX dX10_rowWholeOf_19 (by decide) (z_icge hX dX10_rowWholeOf_21 (by decide) (tX10_rowWholeOf_39 hX hr hq) (z_ald_n hX dX10_rowWholeOf_24 rfl (z_gr (c := 10) (j := 6) hX dX10_rowWholeOf_25 rfl inlX10 wm5_8 ⟨rfl, by decide, rfl⟩ (z_ild hX dX10_rowWholeOf_28 (z_bipush hX dX10_rowWholeOf_30 (by decide) (z_imul hX dX10_rowWholeOf_32 (z_ild_n hX dX10_rowWholeOf_33 rfl (z_iadd hX dX10_rowWholeOf_34 (z_iald hX dX10_rowWholeOf_35 ((z_goto hX dX10_rowWholeOf_36 (by decide) (tX10_rowWholeOf_40 hX hr hq)))))))))))))))))))))))))
def kX11_setFreshNumbers_172 (r : pu_R) : pu_K := s_vret
theorem vX11_setFreshNumbers_172 : pu_cok2 kX11_setFreshNumbers_172 := fun rf r hr => by
  unfold kX11_setFreshNumbers_172
  exact v_vret
theorem tX11_setFreshNumbers_172 {X : pu_X} {r : pu_R} (hX : pu_H X mdX11_setFreshNumbers) (hr : pu_P X.2.1 X.2.2.2.2.2.2.2.2.2.2.1 r) (hq : ∀ i pc, pu_lp i = some (107, pc) → pu_S X mdX11_setFreshNumbers pc (r i)) : pu_S X mdX11_setFreshNumbers 172 (kX11_setFreshNumbers_172 r) := by
  unfold kX11_setFreshNumbers_172
  exact z_vret hX dX11_setFreshNumbers_172 rfl
def kX11_setFreshNumbers_166 (r : pu_R) : pu_K := s_inc 4 (1) ((r 381))
theorem vX11_setFreshNumbers_166 : pu_cok2 kX11_setFreshNumbers_166 := fun rf r hr => by
  unfold kX11_setFreshNumbers_166
  exact v_inc ((hr 381))
theorem tX11_setFreshNumbers_166 {X : pu_X} {r : pu_R} (hX : pu_H X mdX11_setFreshNumbers) (hr : pu_P X.2.1 X.2.2.2.2.2.2.2.2.2.2.1 r) (hq : ∀ i pc, pu_lp i = some (107, pc) → pu_S X mdX11_setFreshNumbers pc (r i)) : pu_S X mdX11_setFreshNumbers 166 (kX11_setFreshNumbers_166 r) := by
  unfold kX11_setFreshNumbers_166
  exact z_inc hX dX11_setFreshNumbers_166 (by decide) ((z_goto hX dX11_setFreshNumbers_169 (by decide) (hq 381 5 hl381)))
def kX11_setFreshNumbers_145 (r : pu_R) : pu_K := s_ald 0 (s_gr 11 6 (s_ild 4 (s_ald 0 (s_gr 11 2 (s_gr 5 3 (s_ild 1 (s_ild 5 (s_ild 3 (s_cv r 106 3 10 (s_wi 1 ((kX11_setFreshNumbers_166 r))))))))))))
theorem vX11_setFreshNumbers_145 : pu_cok2 kX11_setFreshNumbers_145 := fun rf r hr => by
  unfold kX11_setFreshNumbers_145
  exact v_ald (v_gr (v_ild (v_ald (v_gr (v_gr (v_ild (v_ild (v_ild (v_cv hr (v_wi ((vX11_setFreshNumbers_166 rf r hr))))))))))))
theorem tX11_setFreshNumbers_145 {X : pu_X} {r : pu_R} (hX : pu_H X mdX11_setFreshNumbers) (hr : pu_P X.2.1 X.2.2.2.2.2.2.2.2.2.2.1 r) (hq : ∀ i pc, pu_lp i = some (107, pc) → pu_S X mdX11_setFreshNumbers pc (r i)) : pu_S X mdX11_setFreshNumbers 145 (kX11_setFreshNumbers_145 r) := by
  unfold kX11_setFreshNumbers_145
  exact z_ald_n hX dX11_setFreshNumbers_145 rfl (z_gr (c := 11) (j := 6) hX dX11_setFreshNumbers_146 rfl inlX11 wm2_7 ⟨rfl, by decide, rfl⟩ (z_ild hX dX11_setFreshNumbers_149 (z_ald_n hX dX11_setFreshNumbers_151 rfl (z_gr (c := 11) (j := 2) hX dX11_setFreshNumbers_152 rfl inlX11 wm1_20 ⟨rfl, by decide, rfl⟩ (z_gr (c := 5) (j := 3) hX dX11_setFreshNumbers_155 rfl inlX5 wm11_22 ⟨rfl, by decide, rfl⟩ (z_ild_n hX dX11_setFreshNumbers_158 rfl (z_ild hX dX11_setFreshNumbers_159 (z_ild_n hX dX11_setFreshNumbers_161 rfl (z_cv (c := 10) hX hr dX11_setFreshNumbers_162 hjX10_rowWholeOf mwX10_rowWholeOf rfl wm37_5 ⟨wm37_6, wm37_7⟩ ⟨Nat.le_of_ble_eq_true rfl, Nat.le_of_ble_eq_true rfl⟩ (z_iast hX dX11_setFreshNumbers_165 ((tX11_setFreshNumbers_166 hX hr hq))))))))))))
def kX11_setFreshNumbers_106 (r : pu_R) : pu_K := s_ild 2 (s_push (.int (2)) (s_icne (kX11_setFreshNumbers_145 r) (s_ald 0 (s_gr 11 6 (s_ild 4 (s_ald 0 (s_ild 4 (s_push (.int (16)) (s_ild 5 (s_ald 0 (s_gr 11 5 (s_gr 9 7 (s_ild 4 (s_ai 1 (s_cs r 78 2 (s_imul (s_cv r 105 2 11 (s_wi 1 ((kX11_setFreshNumbers_166 r))))))))))))))))))))
theorem vX11_setFreshNumbers_106 : pu_cok2 kX11_setFreshNumbers_106 := fun rf r hr => by
  unfold kX11_setFreshNumbers_106
  exact v_ild (v_pi (v_icne (vX11_setFreshNumbers_145 rf r hr) (v_ald (v_gr (v_ild (v_ald (v_ild (v_pi (v_ild (v_ald (v_gr (v_gr (v_ild (v_ai (v_cs hr (v_imul (v_cv hr (v_wi ((vX11_setFreshNumbers_166 rf r hr))))))))))))))))))))
theorem tX11_setFreshNumbers_106 {X : pu_X} {r : pu_R} (hX : pu_H X mdX11_setFreshNumbers) (hr : pu_P X.2.1 X.2.2.2.2.2.2.2.2.2.2.1 r) (hq : ∀ i pc, pu_lp i = some (107, pc) → pu_S X mdX11_setFreshNumbers pc (r i)) : pu_S X mdX11_setFreshNumbers 106 (kX11_setFreshNumbers_106 r) := by
  unfold kX11_setFreshNumbers_106
  exact z_ild_n hX dX11_setFreshNumbers_106 rfl (z_iconst hX dX11_setFreshNumbers_107 (by decide) (z_icne hX dX11_setFreshNumbers_108 (by decide) (tX11_setFreshNumbers_145 hX hr hq) (z_ald_n hX dX11_setFreshNumbers_111 rfl (z_gr (c := 11) (j := 6) hX dX11_setFreshNumbers_112 rfl inlX11 wm2_7 ⟨rfl, by decide, rfl⟩ (z_ild hX dX11_setFreshNumbers_115 (z_ald_n hX dX11_setFreshNumbers_117 rfl (z_ild hX dX11_setFreshNumbers_118 (z_bipush hX dX11_setFreshNumbers_120 (by decide) (z_ild hX dX11_setFreshNumbers_122 (z_ald_n hX dX11_setFreshNumbers_124 rfl (z_gr (c := 11) (j := 5) hX dX11_setFreshNumbers_125 rfl inlX11 wm2_5 ⟨rfl, by decide, rfl⟩ (z_gr (c := 9) (j := 7) hX dX11_setFreshNumbers_128 rfl inlX9 wm36_23 ⟨rfl, by decide, rfl⟩ (z_ild hX dX11_setFreshNumbers_131 (z_iald hX dX11_setFreshNumbers_133 (z_cs hX hr dX11_setFreshNumbers_134 hjX11_digitsByPaces mwX11_digitsByPaces wm37_0 wm26_16 ⟨Nat.le_of_ble_eq_true rfl, Nat.le_of_ble_eq_true rfl⟩ (z_imul hX dX11_setFreshNumbers_137 (z_cv (c := 11) hX hr dX11_setFreshNumbers_138 hjX11_freshByPaces mwX11_freshByPaces rfl wm37_1 ⟨wm37_2, wm37_3⟩ ⟨Nat.le_of_ble_eq_true rfl, Nat.le_of_ble_eq_true rfl⟩ (z_iast hX dX11_setFreshNumbers_141 ((z_goto hX dX11_setFreshNumbers_142 (by decide) (tX11_setFreshNumbers_166 hX hr hq)))))))))))))))))))))
def kX11_setFreshNumbers_84 (r : pu_R) : pu_K := s_ild 2 (s_push (.int (1)) (s_icne (kX11_setFreshNumbers_106 r) (s_ald 0 (s_gr 11 6 (s_ild 4 (s_push (.int (16)) (s_ild 4 (s_push (.int (1)) (s_iadd (s_imul (s_wi 1 ((kX11_setFreshNumbers_166 r)))))))))))))
theorem vX11_setFreshNumbers_84 : pu_cok2 kX11_setFreshNumbers_84 := fun rf r hr => by
  unfold kX11_setFreshNumbers_84
  exact v_ild (v_pi (v_icne (vX11_setFreshNumbers_106 rf r hr) (v_ald (v_gr (v_ild (v_pi (v_ild (v_pi (v_iadd (v_imul (v_wi ((vX11_setFreshNumbers_166 rf r hr)))))))))))))
theorem tX11_setFreshNumbers_84 {X : pu_X} {r : pu_R} (hX : pu_H X mdX11_setFreshNumbers) (hr : pu_P X.2.1 X.2.2.2.2.2.2.2.2.2.2.1 r) (hq : ∀ i pc, pu_lp i = some (107, pc) → pu_S X mdX11_setFreshNumbers pc (r i)) : pu_S X mdX11_setFreshNumbers 84 (kX11_setFreshNumbers_84 r) := by
  unfold kX11_setFreshNumbers_84
  exact z_ild_n hX dX11_setFreshNumbers_84 rfl (z_iconst hX dX11_setFreshNumbers_85 (by decide) (z_icne hX dX11_setFreshNumbers_86 (by decide) (tX11_setFreshNumbers_106 hX hr hq) (z_ald_n hX dX11_setFreshNumbers_89 rfl (z_gr (c := 11) (j := 6) hX dX11_setFreshNumbers_90 rfl inlX11 wm2_7 ⟨rfl, by decide, rfl⟩ (z_ild hX dX11_setFreshNumbers_93 (z_bipush hX dX11_setFreshNumbers_95 (by decide) (z_ild hX dX11_setFreshNumbers_97 (z_iconst hX dX11_setFreshNumbers_99 (by decide) (z_iadd hX dX11_setFreshNumbers_100 (z_imul hX dX11_setFreshNumbers_101 (z_iast hX dX11_setFreshNumbers_102 ((z_goto hX dX11_setFreshNumbers_103 (by decide) (tX11_setFreshNumbers_166 hX hr hq))))))))))))))
def kX11_setFreshNumbers_58 (r : pu_R) : pu_K := s_ist 3 (s_ild 2 (s_ifne (kX11_setFreshNumbers_84 r) (s_ald 0 (s_gr 11 6 (s_ild 4 (s_push (.int (16)) (s_push (.int (2)) (s_ild 3 (s_imul (s_push (.int (1)) (s_iadd (s_ild 5 (s_iadd (s_imul (s_wi 1 ((kX11_setFreshNumbers_166 r)))))))))))))))))
theorem vX11_setFreshNumbers_58 : pu_cok2 kX11_setFreshNumbers_58 := fun rf r hr => by
  unfold kX11_setFreshNumbers_58
  exact v_ist (v_ild (v_ifne (vX11_setFreshNumbers_84 rf r hr) (v_ald (v_gr (v_ild (v_pi (v_pi (v_ild (v_imul (v_pi (v_iadd (v_ild (v_iadd (v_imul (v_wi ((vX11_setFreshNumbers_166 rf r hr)))))))))))))))))
theorem tX11_setFreshNumbers_58 {X : pu_X} {r : pu_R} (hX : pu_H X mdX11_setFreshNumbers) (hr : pu_P X.2.1 X.2.2.2.2.2.2.2.2.2.2.1 r) (hq : ∀ i pc, pu_lp i = some (107, pc) → pu_S X mdX11_setFreshNumbers pc (r i)) : pu_S X mdX11_setFreshNumbers 58 (kX11_setFreshNumbers_58 r) := by
  unfold kX11_setFreshNumbers_58
  exact z_ist_n hX dX11_setFreshNumbers_58 rfl (z_ild_n hX dX11_setFreshNumbers_59 rfl (z_ifne hX dX11_setFreshNumbers_60 (by decide) (tX11_setFreshNumbers_84 hX hr hq) (z_ald_n hX dX11_setFreshNumbers_63 rfl (z_gr (c := 11) (j := 6) hX dX11_setFreshNumbers_64 rfl inlX11 wm2_7 ⟨rfl, by decide, rfl⟩ (z_ild hX dX11_setFreshNumbers_67 (z_bipush hX dX11_setFreshNumbers_69 (by decide) (z_iconst hX dX11_setFreshNumbers_71 (by decide) (z_ild_n hX dX11_setFreshNumbers_72 rfl (z_imul hX dX11_setFreshNumbers_73 (z_iconst hX dX11_setFreshNumbers_74 (by decide) (z_iadd hX dX11_setFreshNumbers_75 (z_ild hX dX11_setFreshNumbers_76 (z_iadd hX dX11_setFreshNumbers_78 (z_imul hX dX11_setFreshNumbers_79 (z_iast hX dX11_setFreshNumbers_80 ((z_goto hX dX11_setFreshNumbers_81 (by decide) (tX11_setFreshNumbers_166 hX hr hq))))))))))))))))))
def kX11_setFreshNumbers_57 (r : pu_R) : pu_K := s_push (.int (0)) ((kX11_setFreshNumbers_58 r))
theorem vX11_setFreshNumbers_57 : pu_cok2 kX11_setFreshNumbers_57 := fun rf r hr => by
  unfold kX11_setFreshNumbers_57
  exact v_pi ((vX11_setFreshNumbers_58 rf r hr))
theorem tX11_setFreshNumbers_57 {X : pu_X} {r : pu_R} (hX : pu_H X mdX11_setFreshNumbers) (hr : pu_P X.2.1 X.2.2.2.2.2.2.2.2.2.2.1 r) (hq : ∀ i pc, pu_lp i = some (107, pc) → pu_S X mdX11_setFreshNumbers pc (r i)) : pu_S X mdX11_setFreshNumbers 57 (kX11_setFreshNumbers_57 r) := by
  unfold kX11_setFreshNumbers_57
  exact z_iconst hX dX11_setFreshNumbers_57 (by decide) ((tX11_setFreshNumbers_58 hX hr hq))
def kX11_setFreshNumbers_53 (r : pu_R) : pu_K := s_iadd ((kX11_setFreshNumbers_58 r))
theorem vX11_setFreshNumbers_53 : pu_cok2 kX11_setFreshNumbers_53 := fun rf r hr => by
  unfold kX11_setFreshNumbers_53
  exact v_iadd ((vX11_setFreshNumbers_58 rf r hr))
theorem tX11_setFreshNumbers_53 {X : pu_X} {r : pu_R} (hX : pu_H X mdX11_setFreshNumbers) (hr : pu_P X.2.1 X.2.2.2.2.2.2.2.2.2.2.1 r) (hq : ∀ i pc, pu_lp i = some (107, pc) → pu_S X mdX11_setFreshNumbers pc (r i)) : pu_S X mdX11_setFreshNumbers 53 (kX11_setFreshNumbers_53 r) := by
  unfold kX11_setFreshNumbers_53
  exact z_iadd hX dX11_setFreshNumbers_53 ((z_goto hX dX11_setFreshNumbers_54 (by decide) (tX11_setFreshNumbers_58 hX hr hq)))
def kX11_setFreshNumbers_5 (r : pu_R) : pu_K := s_ild 4 (s_ald 0 (s_gr 11 5 (s_gi 9 0 (s_icge (kX11_setFreshNumbers_172 r) (s_ald 0 (s_gr 11 5 (s_gr 9 6 (s_ild 4 (s_ai 1 (s_ist 5 (s_ild 4 (s_ifle (kX11_setFreshNumbers_57 r) (s_ald 0 (s_gr 11 5 (s_gr 9 6 (s_ild 4 (s_push (.int (1)) (s_isub (s_ai 1 (s_ild 5 (s_icne (kX11_setFreshNumbers_57 r) (s_ild 3 (s_push (.int (1)) ((kX11_setFreshNumbers_53 r)))))))))))))))))))))))))
theorem vX11_setFreshNumbers_5 : pu_cok2 kX11_setFreshNumbers_5 := fun rf r hr => by
  unfold kX11_setFreshNumbers_5
  exact v_ild (v_ald (v_gr (v_gi (v_icge (vX11_setFreshNumbers_172 rf r hr) (v_ald (v_gr (v_gr (v_ild (v_ai (v_ist (v_ild (v_ifle (vX11_setFreshNumbers_57 rf r hr) (v_ald (v_gr (v_gr (v_ild (v_pi (v_isub (v_ai (v_ild (v_icne (vX11_setFreshNumbers_57 rf r hr) (v_ild (v_pi ((vX11_setFreshNumbers_53 rf r hr)))))))))))))))))))))))))
theorem tX11_setFreshNumbers_5 {X : pu_X} {r : pu_R} (hX : pu_H X mdX11_setFreshNumbers) (hr : pu_P X.2.1 X.2.2.2.2.2.2.2.2.2.2.1 r) (hq : ∀ i pc, pu_lp i = some (107, pc) → pu_S X mdX11_setFreshNumbers pc (r i)) : pu_S X mdX11_setFreshNumbers 5 (kX11_setFreshNumbers_5 r) := by
  unfold kX11_setFreshNumbers_5
  exact z_ild hX dX11_setFreshNumbers_5 (z_ald_n hX dX11_setFreshNumbers_7 rfl (z_gr (c := 11) (j := 5) hX dX11_setFreshNumbers_8 rfl inlX11 wm2_5 ⟨rfl, by decide, rfl⟩ (z_gi (c := 9) (j := 0) hX dX11_setFreshNumbers_11 rfl inlX9 wm36_21 ⟨rfl, by decide, rfl⟩ (z_icge hX dX11_setFreshNumbers_14 (by decide) (tX11_setFreshNumbers_172 hX hr hq) (z_ald_n hX dX11_setFreshNumbers_17 rfl (z_gr (c := 11) (j := 5) hX dX11_setFreshNumbers_18 rfl inlX11 wm2_5 ⟨rfl, by decide, rfl⟩ (z_gr (c := 9) (j := 6) hX dX11_setFreshNumbers_21 rfl inlX9 wm36_22 ⟨rfl, by decide, rfl⟩ (z_ild hX dX11_setFreshNumbers_24 (z_iald hX dX11_setFreshNumbers_26 (z_ist hX dX11_setFreshNumbers_27 (z_ild hX dX11_setFreshNumbers_29 (z_ifle hX dX11_setFreshNumbers_31 (by decide) (tX11_setFreshNumbers_57 hX hr hq) (z_ald_n hX dX11_setFreshNumbers_34 rfl (z_gr (c := 11) (j := 5) hX dX11_setFreshNumbers_35 rfl inlX11 wm2_5 ⟨rfl, by decide, rfl⟩ (z_gr (c := 9) (j := 6) hX dX11_setFreshNumbers_38 rfl inlX9 wm36_22 ⟨rfl, by decide, rfl⟩ (z_ild hX dX11_setFreshNumbers_41 (z_iconst hX dX11_setFreshNumbers_43 (by decide) (z_isub hX dX11_setFreshNumbers_44 (z_iald hX dX11_setFreshNumbers_45 (z_ild hX dX11_setFreshNumbers_46 (z_icne hX dX11_setFreshNumbers_48 (by decide) (tX11_setFreshNumbers_57 hX hr hq) (z_ild_n hX dX11_setFreshNumbers_51 rfl (z_iconst hX dX11_setFreshNumbers_52 (by decide) ((tX11_setFreshNumbers_53 hX hr hq)))))))))))))))))))))))))
def kX11_setFreshNumbers_0 (r : pu_R) : pu_K := s_push (.int (0)) (s_ist 3 (s_push (.int (0)) (s_ist 4 ((r 381)))))
theorem vX11_setFreshNumbers_0 : pu_cok2 kX11_setFreshNumbers_0 := fun rf r hr => by
  unfold kX11_setFreshNumbers_0
  exact v_pi (v_ist (v_pi (v_ist ((hr 381)))))
theorem tX11_setFreshNumbers_0 {X : pu_X} {r : pu_R} (hX : pu_H X mdX11_setFreshNumbers) (hr : pu_P X.2.1 X.2.2.2.2.2.2.2.2.2.2.1 r) (hq : ∀ i pc, pu_lp i = some (107, pc) → pu_S X mdX11_setFreshNumbers pc (r i)) : pu_S X mdX11_setFreshNumbers 0 (kX11_setFreshNumbers_0 r) := by
  unfold kX11_setFreshNumbers_0
  exact z_iconst hX dX11_setFreshNumbers_0 (by decide) (z_ist_n hX dX11_setFreshNumbers_1 rfl (z_iconst hX dX11_setFreshNumbers_2 (by decide) (z_ist hX dX11_setFreshNumbers_3 ((hq 381 5 hl381)))))
def kX11_isAboveAllBehind_88 (r : pu_R) : pu_K := s_push (.int (1)) (s_zret)
theorem vX11_isAboveAllBehind_88 : pu_cok2 kX11_isAboveAllBehind_88 := fun rf r hr => by
  unfold kX11_isAboveAllBehind_88
  exact v_pi (v_zret)
theorem tX11_isAboveAllBehind_88 {X : pu_X} {r : pu_R} (hX : pu_H X mdX11_isAboveAllBehind) (hr : pu_P X.2.1 X.2.2.2.2.2.2.2.2.2.2.1 r) (hq : ∀ i pc, pu_lp i = some (108, pc) → pu_S X mdX11_isAboveAllBehind pc (r i)) : pu_S X mdX11_isAboveAllBehind 88 (kX11_isAboveAllBehind_88 r) := by
  unfold kX11_isAboveAllBehind_88
  exact z_iconst hX dX11_isAboveAllBehind_88 (by decide) (z_zret hX dX11_isAboveAllBehind_89 rfl)
def kX11_isAboveAllBehind_82 (r : pu_R) : pu_K := s_inc 2 (1) ((r 382))
theorem vX11_isAboveAllBehind_82 : pu_cok2 kX11_isAboveAllBehind_82 := fun rf r hr => by
  unfold kX11_isAboveAllBehind_82
  exact v_inc ((hr 382))
theorem tX11_isAboveAllBehind_82 {X : pu_X} {r : pu_R} (hX : pu_H X mdX11_isAboveAllBehind) (hr : pu_P X.2.1 X.2.2.2.2.2.2.2.2.2.2.1 r) (hq : ∀ i pc, pu_lp i = some (108, pc) → pu_S X mdX11_isAboveAllBehind pc (r i)) : pu_S X mdX11_isAboveAllBehind 82 (kX11_isAboveAllBehind_82 r) := by
  unfold kX11_isAboveAllBehind_82
  exact z_inc hX dX11_isAboveAllBehind_82 (by decide) ((z_goto hX dX11_isAboveAllBehind_85 (by decide) (hq 382 2 hl382)))
def kX11_isAboveAllBehind_80 (r : pu_R) : pu_K := s_push (.int (0)) (s_zret)
theorem vX11_isAboveAllBehind_80 : pu_cok2 kX11_isAboveAllBehind_80 := fun rf r hr => by
  unfold kX11_isAboveAllBehind_80
  exact v_pi (v_zret)
theorem tX11_isAboveAllBehind_80 {X : pu_X} {r : pu_R} (hX : pu_H X mdX11_isAboveAllBehind) (hr : pu_P X.2.1 X.2.2.2.2.2.2.2.2.2.2.1 r) (hq : ∀ i pc, pu_lp i = some (108, pc) → pu_S X mdX11_isAboveAllBehind pc (r i)) : pu_S X mdX11_isAboveAllBehind 80 (kX11_isAboveAllBehind_80 r) := by
  unfold kX11_isAboveAllBehind_80
  exact z_iconst hX dX11_isAboveAllBehind_80 (by decide) (z_zret hX dX11_isAboveAllBehind_81 rfl)
def kX11_isAboveAllBehind_69 (r : pu_R) : pu_K := s_ist 4 (s_ild 3 (s_ifne (kX11_isAboveAllBehind_80 r) (s_ild 4 (s_ifeq (kX11_isAboveAllBehind_82 r) ((kX11_isAboveAllBehind_80 r))))))
theorem vX11_isAboveAllBehind_69 : pu_cok2 kX11_isAboveAllBehind_69 := fun rf r hr => by
  unfold kX11_isAboveAllBehind_69
  exact v_ist (v_ild (v_ifne (vX11_isAboveAllBehind_80 rf r hr) (v_ild (v_ifeq (vX11_isAboveAllBehind_82 rf r hr) ((vX11_isAboveAllBehind_80 rf r hr))))))
theorem tX11_isAboveAllBehind_69 {X : pu_X} {r : pu_R} (hX : pu_H X mdX11_isAboveAllBehind) (hr : pu_P X.2.1 X.2.2.2.2.2.2.2.2.2.2.1 r) (hq : ∀ i pc, pu_lp i = some (108, pc) → pu_S X mdX11_isAboveAllBehind pc (r i)) : pu_S X mdX11_isAboveAllBehind 69 (kX11_isAboveAllBehind_69 r) := by
  unfold kX11_isAboveAllBehind_69
  exact z_ist hX dX11_isAboveAllBehind_69 (z_ild_n hX dX11_isAboveAllBehind_71 rfl (z_ifne hX dX11_isAboveAllBehind_72 (by decide) (tX11_isAboveAllBehind_80 hX hr hq) (z_ild hX dX11_isAboveAllBehind_75 (z_ifeq hX dX11_isAboveAllBehind_77 (by decide) (tX11_isAboveAllBehind_82 hX hr hq) ((tX11_isAboveAllBehind_80 hX hr hq))))))
def kX11_isAboveAllBehind_68 (r : pu_R) : pu_K := s_push (.int (0)) ((kX11_isAboveAllBehind_69 r))
theorem vX11_isAboveAllBehind_68 : pu_cok2 kX11_isAboveAllBehind_68 := fun rf r hr => by
  unfold kX11_isAboveAllBehind_68
  exact v_pi ((vX11_isAboveAllBehind_69 rf r hr))
theorem tX11_isAboveAllBehind_68 {X : pu_X} {r : pu_R} (hX : pu_H X mdX11_isAboveAllBehind) (hr : pu_P X.2.1 X.2.2.2.2.2.2.2.2.2.2.1 r) (hq : ∀ i pc, pu_lp i = some (108, pc) → pu_S X mdX11_isAboveAllBehind pc (r i)) : pu_S X mdX11_isAboveAllBehind 68 (kX11_isAboveAllBehind_68 r) := by
  unfold kX11_isAboveAllBehind_68
  exact z_iconst hX dX11_isAboveAllBehind_68 (by decide) ((tX11_isAboveAllBehind_69 hX hr hq))
def kX11_isAboveAllBehind_27 (r : pu_R) : pu_K := s_ist 3 (s_ald 0 (s_gr 11 5 (s_gr 9 6 (s_ild 2 (s_ai 1 (s_ald 0 (s_gr 11 5 (s_gr 9 6 (s_ild 1 (s_ai 1 (s_icne (kX11_isAboveAllBehind_68 r) (s_ald 0 (s_gr 11 6 (s_ild 2 (s_ai 1 (s_ald 0 (s_gr 11 6 (s_ild 1 (s_ai 1 (s_icle (kX11_isAboveAllBehind_68 r) (s_push (.int (1)) ((kX11_isAboveAllBehind_69 r)))))))))))))))))))))))
theorem vX11_isAboveAllBehind_27 : pu_cok2 kX11_isAboveAllBehind_27 := fun rf r hr => by
  unfold kX11_isAboveAllBehind_27
  exact v_ist (v_ald (v_gr (v_gr (v_ild (v_ai (v_ald (v_gr (v_gr (v_ild (v_ai (v_icne (vX11_isAboveAllBehind_68 rf r hr) (v_ald (v_gr (v_ild (v_ai (v_ald (v_gr (v_ild (v_ai (v_icle (vX11_isAboveAllBehind_68 rf r hr) (v_pi ((vX11_isAboveAllBehind_69 rf r hr)))))))))))))))))))))))
theorem tX11_isAboveAllBehind_27 {X : pu_X} {r : pu_R} (hX : pu_H X mdX11_isAboveAllBehind) (hr : pu_P X.2.1 X.2.2.2.2.2.2.2.2.2.2.1 r) (hq : ∀ i pc, pu_lp i = some (108, pc) → pu_S X mdX11_isAboveAllBehind pc (r i)) : pu_S X mdX11_isAboveAllBehind 27 (kX11_isAboveAllBehind_27 r) := by
  unfold kX11_isAboveAllBehind_27
  exact z_ist_n hX dX11_isAboveAllBehind_27 rfl (z_ald_n hX dX11_isAboveAllBehind_28 rfl (z_gr (c := 11) (j := 5) hX dX11_isAboveAllBehind_29 rfl inlX11 wm2_5 ⟨rfl, by decide, rfl⟩ (z_gr (c := 9) (j := 6) hX dX11_isAboveAllBehind_32 rfl inlX9 wm36_22 ⟨rfl, by decide, rfl⟩ (z_ild_n hX dX11_isAboveAllBehind_35 rfl (z_iald hX dX11_isAboveAllBehind_36 (z_ald_n hX dX11_isAboveAllBehind_37 rfl (z_gr (c := 11) (j := 5) hX dX11_isAboveAllBehind_38 rfl inlX11 wm2_5 ⟨rfl, by decide, rfl⟩ (z_gr (c := 9) (j := 6) hX dX11_isAboveAllBehind_41 rfl inlX9 wm36_22 ⟨rfl, by decide, rfl⟩ (z_ild_n hX dX11_isAboveAllBehind_44 rfl (z_iald hX dX11_isAboveAllBehind_45 (z_icne hX dX11_isAboveAllBehind_46 (by decide) (tX11_isAboveAllBehind_68 hX hr hq) (z_ald_n hX dX11_isAboveAllBehind_49 rfl (z_gr (c := 11) (j := 6) hX dX11_isAboveAllBehind_50 rfl inlX11 wm2_7 ⟨rfl, by decide, rfl⟩ (z_ild_n hX dX11_isAboveAllBehind_53 rfl (z_iald hX dX11_isAboveAllBehind_54 (z_ald_n hX dX11_isAboveAllBehind_55 rfl (z_gr (c := 11) (j := 6) hX dX11_isAboveAllBehind_56 rfl inlX11 wm2_7 ⟨rfl, by decide, rfl⟩ (z_ild_n hX dX11_isAboveAllBehind_59 rfl (z_iald hX dX11_isAboveAllBehind_60 (z_icle hX dX11_isAboveAllBehind_61 (by decide) (tX11_isAboveAllBehind_68 hX hr hq) (z_iconst hX dX11_isAboveAllBehind_64 (by decide) ((z_goto hX dX11_isAboveAllBehind_65 (by decide) (tX11_isAboveAllBehind_69 hX hr hq))))))))))))))))))))))))
def kX11_isAboveAllBehind_26 (r : pu_R) : pu_K := s_push (.int (0)) ((kX11_isAboveAllBehind_27 r))
theorem vX11_isAboveAllBehind_26 : pu_cok2 kX11_isAboveAllBehind_26 := fun rf r hr => by
  unfold kX11_isAboveAllBehind_26
  exact v_pi ((vX11_isAboveAllBehind_27 rf r hr))
theorem tX11_isAboveAllBehind_26 {X : pu_X} {r : pu_R} (hX : pu_H X mdX11_isAboveAllBehind) (hr : pu_P X.2.1 X.2.2.2.2.2.2.2.2.2.2.1 r) (hq : ∀ i pc, pu_lp i = some (108, pc) → pu_S X mdX11_isAboveAllBehind pc (r i)) : pu_S X mdX11_isAboveAllBehind 26 (kX11_isAboveAllBehind_26 r) := by
  unfold kX11_isAboveAllBehind_26
  exact z_iconst hX dX11_isAboveAllBehind_26 (by decide) ((tX11_isAboveAllBehind_27 hX hr hq))
def kX11_isAboveAllBehind_2 (r : pu_R) : pu_K := s_ild 2 (s_ild 1 (s_icge (kX11_isAboveAllBehind_88 r) (s_ald 0 (s_gr 11 6 (s_ild 2 (s_ai 1 (s_ald 0 (s_gr 11 6 (s_ild 1 (s_ai 1 (s_icne (kX11_isAboveAllBehind_26 r) (s_push (.int (1)) ((kX11_isAboveAllBehind_27 r))))))))))))))
theorem vX11_isAboveAllBehind_2 : pu_cok2 kX11_isAboveAllBehind_2 := fun rf r hr => by
  unfold kX11_isAboveAllBehind_2
  exact v_ild (v_ild (v_icge (vX11_isAboveAllBehind_88 rf r hr) (v_ald (v_gr (v_ild (v_ai (v_ald (v_gr (v_ild (v_ai (v_icne (vX11_isAboveAllBehind_26 rf r hr) (v_pi ((vX11_isAboveAllBehind_27 rf r hr))))))))))))))
theorem tX11_isAboveAllBehind_2 {X : pu_X} {r : pu_R} (hX : pu_H X mdX11_isAboveAllBehind) (hr : pu_P X.2.1 X.2.2.2.2.2.2.2.2.2.2.1 r) (hq : ∀ i pc, pu_lp i = some (108, pc) → pu_S X mdX11_isAboveAllBehind pc (r i)) : pu_S X mdX11_isAboveAllBehind 2 (kX11_isAboveAllBehind_2 r) := by
  unfold kX11_isAboveAllBehind_2
  exact z_ild_n hX dX11_isAboveAllBehind_2 rfl (z_ild_n hX dX11_isAboveAllBehind_3 rfl (z_icge hX dX11_isAboveAllBehind_4 (by decide) (tX11_isAboveAllBehind_88 hX hr hq) (z_ald_n hX dX11_isAboveAllBehind_7 rfl (z_gr (c := 11) (j := 6) hX dX11_isAboveAllBehind_8 rfl inlX11 wm2_7 ⟨rfl, by decide, rfl⟩ (z_ild_n hX dX11_isAboveAllBehind_11 rfl (z_iald hX dX11_isAboveAllBehind_12 (z_ald_n hX dX11_isAboveAllBehind_13 rfl (z_gr (c := 11) (j := 6) hX dX11_isAboveAllBehind_14 rfl inlX11 wm2_7 ⟨rfl, by decide, rfl⟩ (z_ild_n hX dX11_isAboveAllBehind_17 rfl (z_iald hX dX11_isAboveAllBehind_18 (z_icne hX dX11_isAboveAllBehind_19 (by decide) (tX11_isAboveAllBehind_26 hX hr hq) (z_iconst hX dX11_isAboveAllBehind_22 (by decide) ((z_goto hX dX11_isAboveAllBehind_23 (by decide) (tX11_isAboveAllBehind_27 hX hr hq)))))))))))))))
def kX11_isAboveAllBehind_0 (r : pu_R) : pu_K := s_push (.int (0)) (s_ist 2 ((r 382)))
theorem vX11_isAboveAllBehind_0 : pu_cok2 kX11_isAboveAllBehind_0 := fun rf r hr => by
  unfold kX11_isAboveAllBehind_0
  exact v_pi (v_ist ((hr 382)))
theorem tX11_isAboveAllBehind_0 {X : pu_X} {r : pu_R} (hX : pu_H X mdX11_isAboveAllBehind) (hr : pu_P X.2.1 X.2.2.2.2.2.2.2.2.2.2.1 r) (hq : ∀ i pc, pu_lp i = some (108, pc) → pu_S X mdX11_isAboveAllBehind pc (r i)) : pu_S X mdX11_isAboveAllBehind 0 (kX11_isAboveAllBehind_0 r) := by
  unfold kX11_isAboveAllBehind_0
  exact z_iconst hX dX11_isAboveAllBehind_0 (by decide) (z_ist_n hX dX11_isAboveAllBehind_1 rfl ((hq 382 2 hl382)))
def kX11_areFreshRight_51 (r : pu_R) : pu_K := s_push (.int (1)) (s_zret)
theorem vX11_areFreshRight_51 : pu_cok2 kX11_areFreshRight_51 := fun rf r hr => by
  unfold kX11_areFreshRight_51
  exact v_pi (v_zret)
theorem tX11_areFreshRight_51 {X : pu_X} {r : pu_R} (hX : pu_H X mdX11_areFreshRight) (hr : pu_P X.2.1 X.2.2.2.2.2.2.2.2.2.2.1 r) (hq : ∀ i pc, pu_lp i = some (109, pc) → pu_S X mdX11_areFreshRight pc (r i)) : pu_S X mdX11_areFreshRight 51 (kX11_areFreshRight_51 r) := by
  unfold kX11_areFreshRight_51
  exact z_iconst hX dX11_areFreshRight_51 (by decide) (z_zret hX dX11_areFreshRight_52 rfl)
def kX11_areFreshRight_45 (r : pu_R) : pu_K := s_inc 1 (1) ((r 383))
theorem vX11_areFreshRight_45 : pu_cok2 kX11_areFreshRight_45 := fun rf r hr => by
  unfold kX11_areFreshRight_45
  exact v_inc ((hr 383))
theorem tX11_areFreshRight_45 {X : pu_X} {r : pu_R} (hX : pu_H X mdX11_areFreshRight) (hr : pu_P X.2.1 X.2.2.2.2.2.2.2.2.2.2.1 r) (hq : ∀ i pc, pu_lp i = some (109, pc) → pu_S X mdX11_areFreshRight pc (r i)) : pu_S X mdX11_areFreshRight 45 (kX11_areFreshRight_45 r) := by
  unfold kX11_areFreshRight_45
  exact z_inc hX dX11_areFreshRight_45 (by decide) ((z_goto hX dX11_areFreshRight_48 (by decide) (hq 383 2 hl383)))
def kX11_areFreshRight_43 (r : pu_R) : pu_K := s_push (.int (0)) (s_zret)
theorem vX11_areFreshRight_43 : pu_cok2 kX11_areFreshRight_43 := fun rf r hr => by
  unfold kX11_areFreshRight_43
  exact v_pi (v_zret)
theorem tX11_areFreshRight_43 {X : pu_X} {r : pu_R} (hX : pu_H X mdX11_areFreshRight) (hr : pu_P X.2.1 X.2.2.2.2.2.2.2.2.2.2.1 r) (hq : ∀ i pc, pu_lp i = some (109, pc) → pu_S X mdX11_areFreshRight pc (r i)) : pu_S X mdX11_areFreshRight 43 (kX11_areFreshRight_43 r) := by
  unfold kX11_areFreshRight_43
  exact z_iconst hX dX11_areFreshRight_43 (by decide) (z_zret hX dX11_areFreshRight_44 rfl)
def kX11_areFreshRight_2 (r : pu_R) : pu_K := s_ild 1 (s_ald 0 (s_gr 11 5 (s_gi 9 0 (s_icge (kX11_areFreshRight_51 r) (s_ald 0 (s_gr 11 6 (s_ild 1 (s_ai 1 (s_push (.int (-1)) (s_iceq (kX11_areFreshRight_45 r) (s_ald 0 (s_gr 11 6 (s_ild 1 (s_ai 1 (s_cs r 59 1 (s_ifeq (kX11_areFreshRight_43 r) (s_ald 0 (s_ild 1 (s_cv r 108 1 11 (s_ifne (kX11_areFreshRight_45 r) ((kX11_areFreshRight_43 r))))))))))))))))))))))
theorem vX11_areFreshRight_2 : pu_cok2 kX11_areFreshRight_2 := fun rf r hr => by
  unfold kX11_areFreshRight_2
  exact v_ild (v_ald (v_gr (v_gi (v_icge (vX11_areFreshRight_51 rf r hr) (v_ald (v_gr (v_ild (v_ai (v_pi (v_iceq (vX11_areFreshRight_45 rf r hr) (v_ald (v_gr (v_ild (v_ai (v_cs hr (v_ifeq (vX11_areFreshRight_43 rf r hr) (v_ald (v_ild (v_cv hr (v_ifne (vX11_areFreshRight_45 rf r hr) ((vX11_areFreshRight_43 rf r hr))))))))))))))))))))))
theorem tX11_areFreshRight_2 {X : pu_X} {r : pu_R} (hX : pu_H X mdX11_areFreshRight) (hr : pu_P X.2.1 X.2.2.2.2.2.2.2.2.2.2.1 r) (hq : ∀ i pc, pu_lp i = some (109, pc) → pu_S X mdX11_areFreshRight pc (r i)) : pu_S X mdX11_areFreshRight 2 (kX11_areFreshRight_2 r) := by
  unfold kX11_areFreshRight_2
  exact z_ild_n hX dX11_areFreshRight_2 rfl (z_ald_n hX dX11_areFreshRight_3 rfl (z_gr (c := 11) (j := 5) hX dX11_areFreshRight_4 rfl inlX11 wm2_5 ⟨rfl, by decide, rfl⟩ (z_gi (c := 9) (j := 0) hX dX11_areFreshRight_7 rfl inlX9 wm36_21 ⟨rfl, by decide, rfl⟩ (z_icge hX dX11_areFreshRight_10 (by decide) (tX11_areFreshRight_51 hX hr hq) (z_ald_n hX dX11_areFreshRight_13 rfl (z_gr (c := 11) (j := 6) hX dX11_areFreshRight_14 rfl inlX11 wm2_7 ⟨rfl, by decide, rfl⟩ (z_ild_n hX dX11_areFreshRight_17 rfl (z_iald hX dX11_areFreshRight_18 (z_iconst hX dX11_areFreshRight_19 (by decide) (z_iceq hX dX11_areFreshRight_20 (by decide) (tX11_areFreshRight_45 hX hr hq) (z_ald_n hX dX11_areFreshRight_23 rfl (z_gr (c := 11) (j := 6) hX dX11_areFreshRight_24 rfl inlX11 wm2_7 ⟨rfl, by decide, rfl⟩ (z_ild_n hX dX11_areFreshRight_27 rfl (z_iald hX dX11_areFreshRight_28 (z_cs hX hr dX11_areFreshRight_29 hjX11_isWhole mwX11_isWhole wm22_12 wm22_13 ⟨Nat.le_of_ble_eq_true rfl, Nat.le_of_ble_eq_true rfl⟩ (z_ifeq hX dX11_areFreshRight_32 (by decide) (tX11_areFreshRight_43 hX hr hq) (z_ald_n hX dX11_areFreshRight_35 rfl (z_ild_n hX dX11_areFreshRight_36 rfl (z_cv (c := 11) hX hr dX11_areFreshRight_37 hjX11_isAboveAllBehind mwX11_isAboveAllBehind rfl wm37_13 ⟨wm37_14, wm37_15⟩ ⟨Nat.le_of_ble_eq_true rfl, Nat.le_of_ble_eq_true rfl⟩ (z_ifne hX dX11_areFreshRight_40 (by decide) (tX11_areFreshRight_45 hX hr hq) ((tX11_areFreshRight_43 hX hr hq))))))))))))))))))))))
def kX11_areFreshRight_0 (r : pu_R) : pu_K := s_push (.int (0)) (s_ist 1 ((r 383)))
theorem vX11_areFreshRight_0 : pu_cok2 kX11_areFreshRight_0 := fun rf r hr => by
  unfold kX11_areFreshRight_0
  exact v_pi (v_ist ((hr 383)))
theorem tX11_areFreshRight_0 {X : pu_X} {r : pu_R} (hX : pu_H X mdX11_areFreshRight) (hr : pu_P X.2.1 X.2.2.2.2.2.2.2.2.2.2.1 r) (hq : ∀ i pc, pu_lp i = some (109, pc) → pu_S X mdX11_areFreshRight pc (r i)) : pu_S X mdX11_areFreshRight 0 (kX11_areFreshRight_0 r) := by
  unfold kX11_areFreshRight_0
  exact z_iconst hX dX11_areFreshRight_0 (by decide) (z_ist_n hX dX11_areFreshRight_1 rfl ((hq 383 2 hl383)))
def kX11_freshWhole_20 (r : pu_R) : pu_K := s_iret
theorem vX11_freshWhole_20 : pu_cok2 kX11_freshWhole_20 := fun rf r hr => by
  unfold kX11_freshWhole_20
  exact v_iret
theorem tX11_freshWhole_20 {X : pu_X} {r : pu_R} (hX : pu_H X mdX11_freshWhole) (hr : pu_P X.2.1 X.2.2.2.2.2.2.2.2.2.2.1 r) (hq : ∀ i pc, pu_lp i = some (110, pc) → pu_S X mdX11_freshWhole pc (r i)) : pu_S X mdX11_freshWhole 20 (kX11_freshWhole_20 r) := by
  unfold kX11_freshWhole_20
  exact z_iret hX dX11_freshWhole_20 rfl
def kX11_freshWhole_14 (r : pu_R) : pu_K := s_ald 0 (s_gr 11 6 (s_ild 1 (s_ai 1 ((kX11_freshWhole_20 r)))))
theorem vX11_freshWhole_14 : pu_cok2 kX11_freshWhole_14 := fun rf r hr => by
  unfold kX11_freshWhole_14
  exact v_ald (v_gr (v_ild (v_ai ((vX11_freshWhole_20 rf r hr)))))
theorem tX11_freshWhole_14 {X : pu_X} {r : pu_R} (hX : pu_H X mdX11_freshWhole) (hr : pu_P X.2.1 X.2.2.2.2.2.2.2.2.2.2.1 r) (hq : ∀ i pc, pu_lp i = some (110, pc) → pu_S X mdX11_freshWhole pc (r i)) : pu_S X mdX11_freshWhole 14 (kX11_freshWhole_14 r) := by
  unfold kX11_freshWhole_14
  exact z_ald_n hX dX11_freshWhole_14 rfl (z_gr (c := 11) (j := 6) hX dX11_freshWhole_15 rfl inlX11 wm2_7 ⟨rfl, by decide, rfl⟩ (z_ild_n hX dX11_freshWhole_18 rfl (z_iald hX dX11_freshWhole_19 ((tX11_freshWhole_20 hX hr hq)))))
def kX11_freshWhole_0 (r : pu_R) : pu_K := s_ald 0 (s_gr 11 6 (s_ild 1 (s_ai 1 (s_push (.int (-1)) (s_icne (kX11_freshWhole_14 r) (s_push (.int (0)) ((kX11_freshWhole_20 r))))))))
theorem vX11_freshWhole_0 : pu_cok2 kX11_freshWhole_0 := fun rf r hr => by
  unfold kX11_freshWhole_0
  exact v_ald (v_gr (v_ild (v_ai (v_pi (v_icne (vX11_freshWhole_14 rf r hr) (v_pi ((vX11_freshWhole_20 rf r hr))))))))
theorem tX11_freshWhole_0 {X : pu_X} {r : pu_R} (hX : pu_H X mdX11_freshWhole) (hr : pu_P X.2.1 X.2.2.2.2.2.2.2.2.2.2.1 r) (hq : ∀ i pc, pu_lp i = some (110, pc) → pu_S X mdX11_freshWhole pc (r i)) : pu_S X mdX11_freshWhole 0 (kX11_freshWhole_0 r) := by
  unfold kX11_freshWhole_0
  exact z_ald_n hX dX11_freshWhole_0 rfl (z_gr (c := 11) (j := 6) hX dX11_freshWhole_1 rfl inlX11 wm2_7 ⟨rfl, by decide, rfl⟩ (z_ild_n hX dX11_freshWhole_4 rfl (z_iald hX dX11_freshWhole_5 (z_iconst hX dX11_freshWhole_6 (by decide) (z_icne hX dX11_freshWhole_7 (by decide) (tX11_freshWhole_14 hX hr hq) (z_iconst hX dX11_freshWhole_10 (by decide) ((z_goto hX dX11_freshWhole_11 (by decide) (tX11_freshWhole_20 hX hr hq)))))))))
def kX11_countFreshOthers_41 (r : pu_R) : pu_K := s_ild 1 (s_iret)
theorem vX11_countFreshOthers_41 : pu_cok2 kX11_countFreshOthers_41 := fun rf r hr => by
  unfold kX11_countFreshOthers_41
  exact v_ild (v_iret)
theorem tX11_countFreshOthers_41 {X : pu_X} {r : pu_R} (hX : pu_H X mdX11_countFreshOthers) (hr : pu_P X.2.1 X.2.2.2.2.2.2.2.2.2.2.1 r) (hq : ∀ i pc, pu_lp i = some (111, pc) → pu_S X mdX11_countFreshOthers pc (r i)) : pu_S X mdX11_countFreshOthers 41 (kX11_countFreshOthers_41 r) := by
  unfold kX11_countFreshOthers_41
  exact z_ild_n hX dX11_countFreshOthers_41 rfl (z_iret hX dX11_countFreshOthers_42 rfl)
def kX11_countFreshOthers_35 (r : pu_R) : pu_K := s_inc 2 (1) ((r 384))
theorem vX11_countFreshOthers_35 : pu_cok2 kX11_countFreshOthers_35 := fun rf r hr => by
  unfold kX11_countFreshOthers_35
  exact v_inc ((hr 384))
theorem tX11_countFreshOthers_35 {X : pu_X} {r : pu_R} (hX : pu_H X mdX11_countFreshOthers) (hr : pu_P X.2.1 X.2.2.2.2.2.2.2.2.2.2.1 r) (hq : ∀ i pc, pu_lp i = some (111, pc) → pu_S X mdX11_countFreshOthers pc (r i)) : pu_S X mdX11_countFreshOthers 35 (kX11_countFreshOthers_35 r) := by
  unfold kX11_countFreshOthers_35
  exact z_inc hX dX11_countFreshOthers_35 (by decide) ((z_goto hX dX11_countFreshOthers_38 (by decide) (hq 384 4 hl384)))
def kX11_countFreshOthers_4 (r : pu_R) : pu_K := s_ild 2 (s_ald 0 (s_gr 11 5 (s_gi 9 0 (s_icge (kX11_countFreshOthers_41 r) (s_ald 0 (s_ild 2 (s_cv r 110 1 11 (s_ald 0 (s_gr 11 5 (s_gr 9 5 (s_ild 2 (s_ai 1 (s_iceq (kX11_countFreshOthers_35 r) (s_inc 1 (1) ((kX11_countFreshOthers_35 r))))))))))))))))
theorem vX11_countFreshOthers_4 : pu_cok2 kX11_countFreshOthers_4 := fun rf r hr => by
  unfold kX11_countFreshOthers_4
  exact v_ild (v_ald (v_gr (v_gi (v_icge (vX11_countFreshOthers_41 rf r hr) (v_ald (v_ild (v_cv hr (v_ald (v_gr (v_gr (v_ild (v_ai (v_iceq (vX11_countFreshOthers_35 rf r hr) (v_inc ((vX11_countFreshOthers_35 rf r hr))))))))))))))))
theorem tX11_countFreshOthers_4 {X : pu_X} {r : pu_R} (hX : pu_H X mdX11_countFreshOthers) (hr : pu_P X.2.1 X.2.2.2.2.2.2.2.2.2.2.1 r) (hq : ∀ i pc, pu_lp i = some (111, pc) → pu_S X mdX11_countFreshOthers pc (r i)) : pu_S X mdX11_countFreshOthers 4 (kX11_countFreshOthers_4 r) := by
  unfold kX11_countFreshOthers_4
  exact z_ild_n hX dX11_countFreshOthers_4 rfl (z_ald_n hX dX11_countFreshOthers_5 rfl (z_gr (c := 11) (j := 5) hX dX11_countFreshOthers_6 rfl inlX11 wm2_5 ⟨rfl, by decide, rfl⟩ (z_gi (c := 9) (j := 0) hX dX11_countFreshOthers_9 rfl inlX9 wm36_21 ⟨rfl, by decide, rfl⟩ (z_icge hX dX11_countFreshOthers_12 (by decide) (tX11_countFreshOthers_41 hX hr hq) (z_ald_n hX dX11_countFreshOthers_15 rfl (z_ild_n hX dX11_countFreshOthers_16 rfl (z_cv (c := 11) hX hr dX11_countFreshOthers_17 hjX11_freshWhole mwX11_freshWhole rfl wm37_22 ⟨wm37_23, wm38_0⟩ ⟨Nat.le_of_ble_eq_true rfl, Nat.le_of_ble_eq_true rfl⟩ (z_ald_n hX dX11_countFreshOthers_20 rfl (z_gr (c := 11) (j := 5) hX dX11_countFreshOthers_21 rfl inlX11 wm2_5 ⟨rfl, by decide, rfl⟩ (z_gr (c := 9) (j := 5) hX dX11_countFreshOthers_24 rfl inlX9 wm37_21 ⟨rfl, by decide, rfl⟩ (z_ild_n hX dX11_countFreshOthers_27 rfl (z_iald hX dX11_countFreshOthers_28 (z_iceq hX dX11_countFreshOthers_29 (by decide) (tX11_countFreshOthers_35 hX hr hq) (z_inc hX dX11_countFreshOthers_32 (by decide) ((tX11_countFreshOthers_35 hX hr hq))))))))))))))))
def kX11_countFreshOthers_0 (r : pu_R) : pu_K := s_push (.int (0)) (s_ist 1 (s_push (.int (0)) (s_ist 2 ((r 384)))))
theorem vX11_countFreshOthers_0 : pu_cok2 kX11_countFreshOthers_0 := fun rf r hr => by
  unfold kX11_countFreshOthers_0
  exact v_pi (v_ist (v_pi (v_ist ((hr 384)))))
theorem tX11_countFreshOthers_0 {X : pu_X} {r : pu_R} (hX : pu_H X mdX11_countFreshOthers) (hr : pu_P X.2.1 X.2.2.2.2.2.2.2.2.2.2.1 r) (hq : ∀ i pc, pu_lp i = some (111, pc) → pu_S X mdX11_countFreshOthers pc (r i)) : pu_S X mdX11_countFreshOthers 0 (kX11_countFreshOthers_0 r) := by
  unfold kX11_countFreshOthers_0
  exact z_iconst hX dX11_countFreshOthers_0 (by decide) (z_ist_n hX dX11_countFreshOthers_1 rfl (z_iconst hX dX11_countFreshOthers_2 (by decide) (z_ist_n hX dX11_countFreshOthers_3 rfl ((hq 384 4 hl384)))))
def kX10_setRule_15 (r : pu_R) : pu_K := s_vret
theorem vX10_setRule_15 : pu_cok2 kX10_setRule_15 := fun rf r hr => by
  unfold kX10_setRule_15
  exact v_vret
theorem tX10_setRule_15 {X : pu_X} {r : pu_R} (hX : pu_H X mdX10_setRule) (hr : pu_P X.2.1 X.2.2.2.2.2.2.2.2.2.2.1 r) (hq : ∀ i pc, pu_lp i = some (112, pc) → pu_S X mdX10_setRule pc (r i)) : pu_S X mdX10_setRule 15 (kX10_setRule_15 r) := by
  unfold kX10_setRule_15
  exact z_vret hX dX10_setRule_15 rfl
def kX10_setRule_0 (r : pu_R) : pu_K := s_ald 0 (s_ild 1 (s_cv r 56 1 10 (s_ifeq (kX10_setRule_15 r) (s_ald 0 (s_gr 10 3 (s_ild 1 (s_ild 2 (s_wi 1 ((kX10_setRule_15 r))))))))))
theorem vX10_setRule_0 : pu_cok2 kX10_setRule_0 := fun rf r hr => by
  unfold kX10_setRule_0
  exact v_ald (v_ild (v_cv hr (v_ifeq (vX10_setRule_15 rf r hr) (v_ald (v_gr (v_ild (v_ild (v_wi ((vX10_setRule_15 rf r hr))))))))))
theorem tX10_setRule_0 {X : pu_X} {r : pu_R} (hX : pu_H X mdX10_setRule) (hr : pu_P X.2.1 X.2.2.2.2.2.2.2.2.2.2.1 r) (hq : ∀ i pc, pu_lp i = some (112, pc) → pu_S X mdX10_setRule pc (r i)) : pu_S X mdX10_setRule 0 (kX10_setRule_0 r) := by
  unfold kX10_setRule_0
  exact z_ald_n hX dX10_setRule_0 rfl (z_ild_n hX dX10_setRule_1 rfl (z_cv (c := 10) hX hr dX10_setRule_2 hjX10_isStreet mwX10_isStreet rfl wm23_12 ⟨wm22_0, wm22_1⟩ ⟨Nat.le_of_ble_eq_true rfl, Nat.le_of_ble_eq_true rfl⟩ (z_ifeq hX dX10_setRule_5 (by decide) (tX10_setRule_15 hX hr hq) (z_ald_n hX dX10_setRule_8 rfl (z_gr (c := 10) (j := 3) hX dX10_setRule_9 rfl inlX10 wm5_5 ⟨rfl, by decide, rfl⟩ (z_ild_n hX dX10_setRule_12 rfl (z_ild_n hX dX10_setRule_13 rfl (z_iast hX dX10_setRule_14 ((tX10_setRule_15 hX hr hq))))))))))
def kX11_giveFreshNumbers_82 (r : pu_R) : pu_K := s_vret
theorem vX11_giveFreshNumbers_82 : pu_cok2 kX11_giveFreshNumbers_82 := fun rf r hr => by
  unfold kX11_giveFreshNumbers_82
  exact v_vret
theorem tX11_giveFreshNumbers_82 {X : pu_X} {r : pu_R} (hX : pu_H X mdX11_giveFreshNumbers) (hr : pu_P X.2.1 X.2.2.2.2.2.2.2.2.2.2.1 r) (hq : ∀ i pc, pu_lp i = some (113, pc) → pu_S X mdX11_giveFreshNumbers pc (r i)) : pu_S X mdX11_giveFreshNumbers 82 (kX11_giveFreshNumbers_82 r) := by
  unfold kX11_giveFreshNumbers_82
  exact z_vret hX dX11_giveFreshNumbers_82 rfl
def kX11_giveFreshNumbers_76 (r : pu_R) : pu_K := s_inc 2 (1) ((r 385))
theorem vX11_giveFreshNumbers_76 : pu_cok2 kX11_giveFreshNumbers_76 := fun rf r hr => by
  unfold kX11_giveFreshNumbers_76
  exact v_inc ((hr 385))
theorem tX11_giveFreshNumbers_76 {X : pu_X} {r : pu_R} (hX : pu_H X mdX11_giveFreshNumbers) (hr : pu_P X.2.1 X.2.2.2.2.2.2.2.2.2.2.1 r) (hq : ∀ i pc, pu_lp i = some (113, pc) → pu_S X mdX11_giveFreshNumbers pc (r i)) : pu_S X mdX11_giveFreshNumbers 76 (kX11_giveFreshNumbers_76 r) := by
  unfold kX11_giveFreshNumbers_76
  exact z_inc hX dX11_giveFreshNumbers_76 (by decide) ((z_goto hX dX11_giveFreshNumbers_79 (by decide) (hq 385 2 hl385)))
def kX11_giveFreshNumbers_50 (r : pu_R) : pu_K := s_wi 1 (s_ald 0 (s_gr 11 2 (s_gr 5 1 (s_ald 0 (s_gr 11 5 (s_gr 9 4 (s_ild 2 (s_ai 1 (s_ald 0 (s_ild 2 (s_cv r 110 1 11 (s_ild 1 (s_cv r 88 3 4 ((kX11_giveFreshNumbers_76 r)))))))))))))))
theorem vX11_giveFreshNumbers_50 : pu_cok2 kX11_giveFreshNumbers_50 := fun rf r hr => by
  unfold kX11_giveFreshNumbers_50
  exact v_wi (v_ald (v_gr (v_gr (v_ald (v_gr (v_gr (v_ild (v_ai (v_ald (v_ild (v_cv hr (v_ild (v_cv hr ((vX11_giveFreshNumbers_76 rf r hr)))))))))))))))
theorem tX11_giveFreshNumbers_50 {X : pu_X} {r : pu_R} (hX : pu_H X mdX11_giveFreshNumbers) (hr : pu_P X.2.1 X.2.2.2.2.2.2.2.2.2.2.1 r) (hq : ∀ i pc, pu_lp i = some (113, pc) → pu_S X mdX11_giveFreshNumbers pc (r i)) : pu_S X mdX11_giveFreshNumbers 50 (kX11_giveFreshNumbers_50 r) := by
  unfold kX11_giveFreshNumbers_50
  exact z_iast hX dX11_giveFreshNumbers_50 (z_ald_n hX dX11_giveFreshNumbers_51 rfl (z_gr (c := 11) (j := 2) hX dX11_giveFreshNumbers_52 rfl inlX11 wm1_20 ⟨rfl, by decide, rfl⟩ (z_gr (c := 5) (j := 1) hX dX11_giveFreshNumbers_55 rfl inlX5 wm21_22 ⟨rfl, by decide, rfl⟩ (z_ald_n hX dX11_giveFreshNumbers_58 rfl (z_gr (c := 11) (j := 5) hX dX11_giveFreshNumbers_59 rfl inlX11 wm2_5 ⟨rfl, by decide, rfl⟩ (z_gr (c := 9) (j := 4) hX dX11_giveFreshNumbers_62 rfl inlX9 wm38_12 ⟨rfl, by decide, rfl⟩ (z_ild_n hX dX11_giveFreshNumbers_65 rfl (z_iald hX dX11_giveFreshNumbers_66 (z_ald_n hX dX11_giveFreshNumbers_67 rfl (z_ild_n hX dX11_giveFreshNumbers_68 rfl (z_cv (c := 11) hX hr dX11_giveFreshNumbers_69 hjX11_freshWhole mwX11_freshWhole rfl wm37_22 ⟨wm37_23, wm38_0⟩ ⟨Nat.le_of_ble_eq_true rfl, Nat.le_of_ble_eq_true rfl⟩ (z_ild_n hX dX11_giveFreshNumbers_72 rfl (z_cv (c := 4) hX hr dX11_giveFreshNumbers_73 hjX4_open mwX4_open rfl wm27_21 ⟨wm27_22, wm27_23⟩ ⟨Nat.le_of_ble_eq_true rfl, Nat.le_of_ble_eq_true rfl⟩ ((tX11_giveFreshNumbers_76 hX hr hq)))))))))))))))
def kX11_giveFreshNumbers_2 (r : pu_R) : pu_K := s_ild 2 (s_ald 0 (s_gr 11 5 (s_gi 9 0 (s_icge (kX11_giveFreshNumbers_82 r) (s_ald 0 (s_ild 2 (s_cv r 110 1 11 (s_ald 0 (s_gr 11 5 (s_gr 9 5 (s_ild 2 (s_ai 1 (s_iceq (kX11_giveFreshNumbers_76 r) (s_ald 0 (s_gr 11 2 (s_gr 5 1 (s_gr 4 4 (s_ald 0 (s_gr 11 5 (s_gr 9 3 (s_ild 2 (s_ai 1 (s_ild 1 ((kX11_giveFreshNumbers_50 r)))))))))))))))))))))))))
theorem vX11_giveFreshNumbers_2 : pu_cok2 kX11_giveFreshNumbers_2 := fun rf r hr => by
  unfold kX11_giveFreshNumbers_2
  exact v_ild (v_ald (v_gr (v_gi (v_icge (vX11_giveFreshNumbers_82 rf r hr) (v_ald (v_ild (v_cv hr (v_ald (v_gr (v_gr (v_ild (v_ai (v_iceq (vX11_giveFreshNumbers_76 rf r hr) (v_ald (v_gr (v_gr (v_gr (v_ald (v_gr (v_gr (v_ild (v_ai (v_ild ((vX11_giveFreshNumbers_50 rf r hr)))))))))))))))))))))))))
theorem tX11_giveFreshNumbers_2 {X : pu_X} {r : pu_R} (hX : pu_H X mdX11_giveFreshNumbers) (hr : pu_P X.2.1 X.2.2.2.2.2.2.2.2.2.2.1 r) (hq : ∀ i pc, pu_lp i = some (113, pc) → pu_S X mdX11_giveFreshNumbers pc (r i)) : pu_S X mdX11_giveFreshNumbers 2 (kX11_giveFreshNumbers_2 r) := by
  unfold kX11_giveFreshNumbers_2
  exact z_ild_n hX dX11_giveFreshNumbers_2 rfl (z_ald_n hX dX11_giveFreshNumbers_3 rfl (z_gr (c := 11) (j := 5) hX dX11_giveFreshNumbers_4 rfl inlX11 wm2_5 ⟨rfl, by decide, rfl⟩ (z_gi (c := 9) (j := 0) hX dX11_giveFreshNumbers_7 rfl inlX9 wm36_21 ⟨rfl, by decide, rfl⟩ (z_icge hX dX11_giveFreshNumbers_10 (by decide) (tX11_giveFreshNumbers_82 hX hr hq) (z_ald_n hX dX11_giveFreshNumbers_13 rfl (z_ild_n hX dX11_giveFreshNumbers_14 rfl (z_cv (c := 11) hX hr dX11_giveFreshNumbers_15 hjX11_freshWhole mwX11_freshWhole rfl wm37_22 ⟨wm37_23, wm38_0⟩ ⟨Nat.le_of_ble_eq_true rfl, Nat.le_of_ble_eq_true rfl⟩ (z_ald_n hX dX11_giveFreshNumbers_18 rfl (z_gr (c := 11) (j := 5) hX dX11_giveFreshNumbers_19 rfl inlX11 wm2_5 ⟨rfl, by decide, rfl⟩ (z_gr (c := 9) (j := 5) hX dX11_giveFreshNumbers_22 rfl inlX9 wm37_21 ⟨rfl, by decide, rfl⟩ (z_ild_n hX dX11_giveFreshNumbers_25 rfl (z_iald hX dX11_giveFreshNumbers_26 (z_iceq hX dX11_giveFreshNumbers_27 (by decide) (tX11_giveFreshNumbers_76 hX hr hq) (z_ald_n hX dX11_giveFreshNumbers_30 rfl (z_gr (c := 11) (j := 2) hX dX11_giveFreshNumbers_31 rfl inlX11 wm1_20 ⟨rfl, by decide, rfl⟩ (z_gr (c := 5) (j := 1) hX dX11_giveFreshNumbers_34 rfl inlX5 wm21_22 ⟨rfl, by decide, rfl⟩ (z_gr (c := 4) (j := 4) hX dX11_giveFreshNumbers_37 rfl inlX4 wm38_10 ⟨rfl, by decide, rfl⟩ (z_ald_n hX dX11_giveFreshNumbers_40 rfl (z_gr (c := 11) (j := 5) hX dX11_giveFreshNumbers_41 rfl inlX11 wm2_5 ⟨rfl, by decide, rfl⟩ (z_gr (c := 9) (j := 3) hX dX11_giveFreshNumbers_44 rfl inlX9 wm38_11 ⟨rfl, by decide, rfl⟩ (z_ild_n hX dX11_giveFreshNumbers_47 rfl (z_iald hX dX11_giveFreshNumbers_48 (z_ild_n hX dX11_giveFreshNumbers_49 rfl ((tX11_giveFreshNumbers_50 hX hr hq)))))))))))))))))))))))))
def kX11_giveFreshNumbers_0 (r : pu_R) : pu_K := s_push (.int (0)) (s_ist 2 ((r 385)))
theorem vX11_giveFreshNumbers_0 : pu_cok2 kX11_giveFreshNumbers_0 := fun rf r hr => by
  unfold kX11_giveFreshNumbers_0
  exact v_pi (v_ist ((hr 385)))
theorem tX11_giveFreshNumbers_0 {X : pu_X} {r : pu_R} (hX : pu_H X mdX11_giveFreshNumbers) (hr : pu_P X.2.1 X.2.2.2.2.2.2.2.2.2.2.1 r) (hq : ∀ i pc, pu_lp i = some (113, pc) → pu_S X mdX11_giveFreshNumbers pc (r i)) : pu_S X mdX11_giveFreshNumbers 0 (kX11_giveFreshNumbers_0 r) := by
  unfold kX11_giveFreshNumbers_0
  exact z_iconst hX dX11_giveFreshNumbers_0 (by decide) (z_ist_n hX dX11_giveFreshNumbers_1 rfl ((hq 385 2 hl385)))
def kX11_renumber_155 (r : pu_R) : pu_K := s_cv r 112 2 10 (s_ald 0 (s_ild 5 (s_cv r 113 1 11 (s_ild 4 (s_iret)))))
theorem vX11_renumber_155 : pu_cok2 kX11_renumber_155 := fun rf r hr => by
  unfold kX11_renumber_155
  exact v_cv hr (v_ald (v_ild (v_cv hr (v_ild (v_iret)))))
theorem tX11_renumber_155 {X : pu_X} {r : pu_R} (hX : pu_H X mdX11_renumber) (hr : pu_P X.2.1 X.2.2.2.2.2.2.2.2.2.2.1 r) (hq : ∀ i pc, pu_lp i = some (114, pc) → pu_S X mdX11_renumber pc (r i)) : pu_S X mdX11_renumber 155 (kX11_renumber_155 r) := by
  unfold kX11_renumber_155
  exact z_cv (c := 10) hX hr dX11_renumber_155 hjX10_setRule mwX10_setRule rfl wm38_2 ⟨wm38_3, wm38_4⟩ ⟨Nat.le_of_ble_eq_true rfl, Nat.le_of_ble_eq_true rfl⟩ (z_ald_n hX dX11_renumber_158 rfl (z_ild hX dX11_renumber_159 (z_cv (c := 11) hX hr dX11_renumber_161 hjX11_giveFreshNumbers mwX11_giveFreshNumbers rfl wm38_6 ⟨wm38_7, wm38_8⟩ ⟨Nat.le_of_ble_eq_true rfl, Nat.le_of_ble_eq_true rfl⟩ (z_ild hX dX11_renumber_164 (z_iret hX dX11_renumber_166 rfl)))))
def kX11_renumber_107 (r : pu_R) : pu_K := s_ald 0 (s_gr 11 2 (s_gr 5 0 (s_ild 3 (s_ild 1 (s_push (.int (-1)) (s_cv r 52 3 6 (s_ist 5 (s_ald 0 (s_gr 11 2 (s_gr 5 0 (s_gr 6 9 (s_ild 5 (s_ald 0 (s_gr 11 2 (s_gr 5 3 (s_ild 1 (s_cv r 64 1 10 (s_wi 1 (s_ald 0 (s_gr 11 2 (s_gr 5 3 (s_ild 1 (s_ild 2 ((kX11_renumber_155 r)))))))))))))))))))))))))
theorem vX11_renumber_107 : pu_cok2 kX11_renumber_107 := fun rf r hr => by
  unfold kX11_renumber_107
  exact v_ald (v_gr (v_gr (v_ild (v_ild (v_pi (v_cv hr (v_ist (v_ald (v_gr (v_gr (v_gr (v_ild (v_ald (v_gr (v_gr (v_ild (v_cv hr (v_wi (v_ald (v_gr (v_gr (v_ild (v_ild ((vX11_renumber_155 rf r hr)))))))))))))))))))))))))
theorem tX11_renumber_107 {X : pu_X} {r : pu_R} (hX : pu_H X mdX11_renumber) (hr : pu_P X.2.1 X.2.2.2.2.2.2.2.2.2.2.1 r) (hq : ∀ i pc, pu_lp i = some (114, pc) → pu_S X mdX11_renumber pc (r i)) : pu_S X mdX11_renumber 107 (kX11_renumber_107 r) := by
  unfold kX11_renumber_107
  exact z_ald_n hX dX11_renumber_107 rfl (z_gr (c := 11) (j := 2) hX dX11_renumber_108 rfl inlX11 wm1_20 ⟨rfl, by decide, rfl⟩ (z_gr (c := 5) (j := 0) hX dX11_renumber_111 rfl inlX5 wm10_19 ⟨rfl, by decide, rfl⟩ (z_ild_n hX dX11_renumber_114 rfl (z_ild_n hX dX11_renumber_115 rfl (z_iconst hX dX11_renumber_116 (by decide) (z_cv (c := 6) hX hr dX11_renumber_117 hjX6_lay mwX6_lay rfl wm19_18 ⟨wm19_19, wm19_20⟩ ⟨Nat.le_of_ble_eq_true rfl, Nat.le_of_ble_eq_true rfl⟩ (z_ist hX dX11_renumber_120 (z_ald_n hX dX11_renumber_122 rfl (z_gr (c := 11) (j := 2) hX dX11_renumber_123 rfl inlX11 wm1_20 ⟨rfl, by decide, rfl⟩ (z_gr (c := 5) (j := 0) hX dX11_renumber_126 rfl inlX5 wm10_19 ⟨rfl, by decide, rfl⟩ (z_gr (c := 6) (j := 9) hX dX11_renumber_129 rfl inlX6 wm36_16 ⟨rfl, by decide, rfl⟩ (z_ild hX dX11_renumber_132 (z_ald_n hX dX11_renumber_134 rfl (z_gr (c := 11) (j := 2) hX dX11_renumber_135 rfl inlX11 wm1_20 ⟨rfl, by decide, rfl⟩ (z_gr (c := 5) (j := 3) hX dX11_renumber_138 rfl inlX5 wm11_22 ⟨rfl, by decide, rfl⟩ (z_ild_n hX dX11_renumber_141 rfl (z_cv (c := 10) hX hr dX11_renumber_142 hjX10_ruleOf mwX10_ruleOf rfl wm23_8 ⟨wm23_9, wm23_10⟩ ⟨Nat.le_of_ble_eq_true rfl, Nat.le_of_ble_eq_true rfl⟩ (z_iast hX dX11_renumber_145 (z_ald_n hX dX11_renumber_146 rfl (z_gr (c := 11) (j := 2) hX dX11_renumber_147 rfl inlX11 wm1_20 ⟨rfl, by decide, rfl⟩ (z_gr (c := 5) (j := 3) hX dX11_renumber_150 rfl inlX5 wm11_22 ⟨rfl, by decide, rfl⟩ (z_ild_n hX dX11_renumber_153 rfl (z_ild_n hX dX11_renumber_154 rfl ((tX11_renumber_155 hX hr hq)))))))))))))))))))))))))
def kX11_renumber_86 (r : pu_R) : pu_K := s_ald 0 (s_cv r 111 0 11 (s_ist 4 (s_ald 0 (s_gr 11 2 (s_ild 4 (s_cv r 84 1 5 (s_ifne (kX11_renumber_107 r) (s_push (.int (-6)) (s_iret)))))))))
theorem vX11_renumber_86 : pu_cok2 kX11_renumber_86 := fun rf r hr => by
  unfold kX11_renumber_86
  exact v_ald (v_cv hr (v_ist (v_ald (v_gr (v_ild (v_cv hr (v_ifne (vX11_renumber_107 rf r hr) (v_pi (v_iret)))))))))
theorem tX11_renumber_86 {X : pu_X} {r : pu_R} (hX : pu_H X mdX11_renumber) (hr : pu_P X.2.1 X.2.2.2.2.2.2.2.2.2.2.1 r) (hq : ∀ i pc, pu_lp i = some (114, pc) → pu_S X mdX11_renumber pc (r i)) : pu_S X mdX11_renumber 86 (kX11_renumber_86 r) := by
  unfold kX11_renumber_86
  exact z_ald_n hX dX11_renumber_86 rfl (z_cv (c := 11) hX hr dX11_renumber_87 hjX11_countFreshOthers mwX11_countFreshOthers rfl wm37_17 ⟨wm37_18, wm37_19⟩ ⟨Nat.le_of_ble_eq_true rfl, Nat.le_of_ble_eq_true rfl⟩ (z_ist hX dX11_renumber_90 (z_ald_n hX dX11_renumber_92 rfl (z_gr (c := 11) (j := 2) hX dX11_renumber_93 rfl inlX11 wm1_20 ⟨rfl, by decide, rfl⟩ (z_ild hX dX11_renumber_96 (z_cv (c := 5) hX hr dX11_renumber_98 hjX5_hasRoomForNumbers mwX5_hasRoomForNumbers rfl wm27_2 ⟨wm27_3, wm27_4⟩ ⟨Nat.le_of_ble_eq_true rfl, Nat.le_of_ble_eq_true rfl⟩ (z_ifne hX dX11_renumber_101 (by decide) (tX11_renumber_107 hX hr hq) (z_bipush hX dX11_renumber_104 (by decide) (z_iret hX dX11_renumber_106 rfl)))))))))
def kX11_renumber_48 (r : pu_R) : pu_K := s_ald 0 (s_gr 11 5 (s_ald 0 (s_gr 11 2 (s_ild 1 (s_push (.int (-1)) (s_ild 2 (s_cs r 65 1 (s_cv r 73 4 9 (s_ald 0 (s_ild 1 (s_ild 2 (s_cv r 107 2 11 (s_ild 2 (s_push (.int (3)) (s_icne (kX11_renumber_86 r) (s_ald 0 (s_cv r 109 0 11 (s_ifne (kX11_renumber_86 r) (s_push (.int (-4)) (s_iret))))))))))))))))))))
theorem vX11_renumber_48 : pu_cok2 kX11_renumber_48 := fun rf r hr => by
  unfold kX11_renumber_48
  exact v_ald (v_gr (v_ald (v_gr (v_ild (v_pi (v_ild (v_cs hr (v_cv hr (v_ald (v_ild (v_ild (v_cv hr (v_ild (v_pi (v_icne (vX11_renumber_86 rf r hr) (v_ald (v_cv hr (v_ifne (vX11_renumber_86 rf r hr) (v_pi (v_iret))))))))))))))))))))
theorem tX11_renumber_48 {X : pu_X} {r : pu_R} (hX : pu_H X mdX11_renumber) (hr : pu_P X.2.1 X.2.2.2.2.2.2.2.2.2.2.1 r) (hq : ∀ i pc, pu_lp i = some (114, pc) → pu_S X mdX11_renumber pc (r i)) : pu_S X mdX11_renumber 48 (kX11_renumber_48 r) := by
  unfold kX11_renumber_48
  exact z_ald_n hX dX11_renumber_48 rfl (z_gr (c := 11) (j := 5) hX dX11_renumber_49 rfl inlX11 wm2_5 ⟨rfl, by decide, rfl⟩ (z_ald_n hX dX11_renumber_52 rfl (z_gr (c := 11) (j := 2) hX dX11_renumber_53 rfl inlX11 wm1_20 ⟨rfl, by decide, rfl⟩ (z_ild_n hX dX11_renumber_56 rfl (z_iconst hX dX11_renumber_57 (by decide) (z_ild_n hX dX11_renumber_58 rfl (z_cs hX hr dX11_renumber_59 hjX11_orderOf mwX11_orderOf wm23_13 wm23_14 ⟨Nat.le_of_ble_eq_true rfl, Nat.le_of_ble_eq_true rfl⟩ (z_cv (c := 9) hX hr dX11_renumber_62 hjX9_fill mwX9_fill rfl wm23_16 ⟨wm23_17, wm23_18⟩ ⟨Nat.le_of_ble_eq_true rfl, Nat.le_of_ble_eq_true rfl⟩ (z_ald_n hX dX11_renumber_65 rfl (z_ild_n hX dX11_renumber_66 rfl (z_ild_n hX dX11_renumber_67 rfl (z_cv (c := 11) hX hr dX11_renumber_68 hjX11_setFreshNumbers mwX11_setFreshNumbers rfl wm36_17 ⟨wm36_18, wm36_19⟩ ⟨Nat.le_of_ble_eq_true rfl, Nat.le_of_ble_eq_true rfl⟩ (z_ild_n hX dX11_renumber_71 rfl (z_iconst hX dX11_renumber_72 (by decide) (z_icne hX dX11_renumber_73 (by decide) (tX11_renumber_86 hX hr hq) (z_ald_n hX dX11_renumber_76 rfl (z_cv (c := 11) hX hr dX11_renumber_77 hjX11_areFreshRight mwX11_areFreshRight rfl wm37_9 ⟨wm37_10, wm37_11⟩ ⟨Nat.le_of_ble_eq_true rfl, Nat.le_of_ble_eq_true rfl⟩ (z_ifne hX dX11_renumber_80 (by decide) (tX11_renumber_86 hX hr hq) (z_bipush hX dX11_renumber_83 (by decide) (z_iret hX dX11_renumber_85 rfl))))))))))))))))))))
def kX11_renumber_33 (r : pu_R) : pu_K := s_ild 3 (s_ald 0 (s_gr 11 2 (s_ild 1 (s_cv r 63 1 5 (s_icge (kX11_renumber_48 r) (s_push (.int (-3)) (s_iret)))))))
theorem vX11_renumber_33 : pu_cok2 kX11_renumber_33 := fun rf r hr => by
  unfold kX11_renumber_33
  exact v_ild (v_ald (v_gr (v_ild (v_cv hr (v_icge (vX11_renumber_48 rf r hr) (v_pi (v_iret)))))))
theorem tX11_renumber_33 {X : pu_X} {r : pu_R} (hX : pu_H X mdX11_renumber) (hr : pu_P X.2.1 X.2.2.2.2.2.2.2.2.2.2.1 r) (hq : ∀ i pc, pu_lp i = some (114, pc) → pu_S X mdX11_renumber pc (r i)) : pu_S X mdX11_renumber 33 (kX11_renumber_33 r) := by
  unfold kX11_renumber_33
  exact z_ild_n hX dX11_renumber_33 rfl (z_ald_n hX dX11_renumber_34 rfl (z_gr (c := 11) (j := 2) hX dX11_renumber_35 rfl inlX11 wm1_20 ⟨rfl, by decide, rfl⟩ (z_ild_n hX dX11_renumber_38 rfl (z_cv (c := 5) hX hr dX11_renumber_39 hjX5_earliestOn mwX5_earliestOn rfl wm22_15 ⟨wm22_16, wm22_17⟩ ⟨Nat.le_of_ble_eq_true rfl, Nat.le_of_ble_eq_true rfl⟩ (z_icge hX dX11_renumber_42 (by decide) (tX11_renumber_48 hX hr hq) (z_bipush hX dX11_renumber_45 (by decide) (z_iret hX dX11_renumber_47 rfl)))))))
def kX11_renumber_30 (r : pu_R) : pu_K := s_push (.int (-2)) (s_iret)
theorem vX11_renumber_30 : pu_cok2 kX11_renumber_30 := fun rf r hr => by
  unfold kX11_renumber_30
  exact v_pi (v_iret)
theorem tX11_renumber_30 {X : pu_X} {r : pu_R} (hX : pu_H X mdX11_renumber) (hr : pu_P X.2.1 X.2.2.2.2.2.2.2.2.2.2.1 r) (hq : ∀ i pc, pu_lp i = some (114, pc) → pu_S X mdX11_renumber pc (r i)) : pu_S X mdX11_renumber 30 (kX11_renumber_30 r) := by
  unfold kX11_renumber_30
  exact z_bipush hX dX11_renumber_30 (by decide) (z_iret hX dX11_renumber_32 rfl)
def kX11_renumber_16 (r : pu_R) : pu_K := s_ild 2 (s_cs r 44 1 (s_ifeq (kX11_renumber_30 r) (s_ild 3 (s_cs r 18 1 (s_ifne (kX11_renumber_33 r) ((kX11_renumber_30 r)))))))
theorem vX11_renumber_16 : pu_cok2 kX11_renumber_16 := fun rf r hr => by
  unfold kX11_renumber_16
  exact v_ild (v_cs hr (v_ifeq (vX11_renumber_30 rf r hr) (v_ild (v_cs hr (v_ifne (vX11_renumber_33 rf r hr) ((vX11_renumber_30 rf r hr)))))))
theorem tX11_renumber_16 {X : pu_X} {r : pu_R} (hX : pu_H X mdX11_renumber) (hr : pu_P X.2.1 X.2.2.2.2.2.2.2.2.2.2.1 r) (hq : ∀ i pc, pu_lp i = some (114, pc) → pu_S X mdX11_renumber pc (r i)) : pu_S X mdX11_renumber 16 (kX11_renumber_16 r) := by
  unfold kX11_renumber_16
  exact z_ild_n hX dX11_renumber_16 rfl (z_cs hX hr dX11_renumber_17 hjX11_isRule mwX11_isRule wm18_4 wm18_5 ⟨Nat.le_of_ble_eq_true rfl, Nat.le_of_ble_eq_true rfl⟩ (z_ifeq hX dX11_renumber_20 (by decide) (tX11_renumber_30 hX hr hq) (z_ild_n hX dX11_renumber_23 rfl (z_cs hX hr dX11_renumber_24 hjX11_isDay mwX11_isDay wm10_21 wm10_22 ⟨Nat.le_of_ble_eq_true rfl, Nat.le_of_ble_eq_true rfl⟩ (z_ifne hX dX11_renumber_27 (by decide) (tX11_renumber_33 hX hr hq) ((tX11_renumber_30 hX hr hq)))))))
def kX11_renumber_0 (r : pu_R) : pu_K := s_ald 0 (s_gr 11 2 (s_gr 5 3 (s_ild 1 (s_cv r 56 1 10 (s_ifne (kX11_renumber_16 r) (s_push (.int (-1)) (s_iret)))))))
theorem vX11_renumber_0 : pu_cok2 kX11_renumber_0 := fun rf r hr => by
  unfold kX11_renumber_0
  exact v_ald (v_gr (v_gr (v_ild (v_cv hr (v_ifne (vX11_renumber_16 rf r hr) (v_pi (v_iret)))))))
theorem tX11_renumber_0 {X : pu_X} {r : pu_R} (hX : pu_H X mdX11_renumber) (hr : pu_P X.2.1 X.2.2.2.2.2.2.2.2.2.2.1 r) (hq : ∀ i pc, pu_lp i = some (114, pc) → pu_S X mdX11_renumber pc (r i)) : pu_S X mdX11_renumber 0 (kX11_renumber_0 r) := by
  unfold kX11_renumber_0
  exact z_ald_n hX dX11_renumber_0 rfl (z_gr (c := 11) (j := 2) hX dX11_renumber_1 rfl inlX11 wm1_20 ⟨rfl, by decide, rfl⟩ (z_gr (c := 5) (j := 3) hX dX11_renumber_4 rfl inlX5 wm11_22 ⟨rfl, by decide, rfl⟩ (z_ild_n hX dX11_renumber_7 rfl (z_cv (c := 10) hX hr dX11_renumber_8 hjX10_isStreet mwX10_isStreet rfl wm21_23 ⟨wm22_0, wm22_1⟩ ⟨Nat.le_of_ble_eq_true rfl, Nat.le_of_ble_eq_true rfl⟩ (z_ifne hX dX11_renumber_11 (by decide) (tX11_renumber_16 hX hr hq) (z_iconst hX dX11_renumber_14 (by decide) (z_iret hX dX11_renumber_15 rfl)))))))
def kX11_rename_181 (r : pu_R) : pu_K := s_ild 6 (s_cv r 54 5 3 (s_push (.int (1)) (s_iret)))
theorem vX11_rename_181 : pu_cok2 kX11_rename_181 := fun rf r hr => by
  unfold kX11_rename_181
  exact v_ild (v_cv hr (v_pi (v_iret)))
theorem tX11_rename_181 {X : pu_X} {r : pu_R} (hX : pu_H X mdX11_rename) (hr : pu_P X.2.1 X.2.2.2.2.2.2.2.2.2.2.1 r) (hq : ∀ i pc, pu_lp i = some (115, pc) → pu_S X mdX11_rename pc (r i)) : pu_S X mdX11_rename 181 (kX11_rename_181 r) := by
  unfold kX11_rename_181
  exact z_ild hX dX11_rename_181 (z_cv (c := 3) hX hr dX11_rename_183 hjX3_open mwX3_open rfl wm20_7 ⟨wm20_8, wm20_9⟩ ⟨Nat.le_of_ble_eq_true rfl, Nat.le_of_ble_eq_true rfl⟩ (z_iconst hX dX11_rename_186 (by decide) (z_iret hX dX11_rename_187 rfl)))
def kX11_rename_133 (r : pu_R) : pu_K := s_ald 0 (s_gr 11 2 (s_gr 5 0 (s_ild 2 (s_ild 1 (s_push (.int (-1)) (s_cv r 52 3 6 (s_ist 6 (s_ald 0 (s_gr 11 2 (s_gr 5 2 (s_gr 3 4 (s_ild 4 (s_ild 6 (s_wi 1 (s_ald 0 (s_gr 11 2 (s_gr 5 2 (s_ild 1 (s_ild 5 (s_ald 0 (s_gr 11 4 (s_gr 7 0 (s_push (.int (0)) ((kX11_rename_181 r)))))))))))))))))))))))))
theorem vX11_rename_133 : pu_cok2 kX11_rename_133 := fun rf r hr => by
  unfold kX11_rename_133
  exact v_ald (v_gr (v_gr (v_ild (v_ild (v_pi (v_cv hr (v_ist (v_ald (v_gr (v_gr (v_gr (v_ild (v_ild (v_wi (v_ald (v_gr (v_gr (v_ild (v_ild (v_ald (v_gr (v_gr (v_pi ((vX11_rename_181 rf r hr)))))))))))))))))))))))))
theorem tX11_rename_133 {X : pu_X} {r : pu_R} (hX : pu_H X mdX11_rename) (hr : pu_P X.2.1 X.2.2.2.2.2.2.2.2.2.2.1 r) (hq : ∀ i pc, pu_lp i = some (115, pc) → pu_S X mdX11_rename pc (r i)) : pu_S X mdX11_rename 133 (kX11_rename_133 r) := by
  unfold kX11_rename_133
  exact z_ald_n hX dX11_rename_133 rfl (z_gr (c := 11) (j := 2) hX dX11_rename_134 rfl inlX11 wm1_20 ⟨rfl, by decide, rfl⟩ (z_gr (c := 5) (j := 0) hX dX11_rename_137 rfl inlX5 wm10_19 ⟨rfl, by decide, rfl⟩ (z_ild_n hX dX11_rename_140 rfl (z_ild_n hX dX11_rename_141 rfl (z_iconst hX dX11_rename_142 (by decide) (z_cv (c := 6) hX hr dX11_rename_143 hjX6_lay mwX6_lay rfl wm19_18 ⟨wm19_19, wm19_20⟩ ⟨Nat.le_of_ble_eq_true rfl, Nat.le_of_ble_eq_true rfl⟩ (z_ist hX dX11_rename_146 (z_ald_n hX dX11_rename_148 rfl (z_gr (c := 11) (j := 2) hX dX11_rename_149 rfl inlX11 wm1_20 ⟨rfl, by decide, rfl⟩ (z_gr (c := 5) (j := 2) hX dX11_rename_152 rfl inlX5 wm16_7 ⟨rfl, by decide, rfl⟩ (z_gr (c := 3) (j := 4) hX dX11_rename_155 rfl inlX3 wm39_10 ⟨rfl, by decide, rfl⟩ (z_ild hX dX11_rename_158 (z_ild hX dX11_rename_160 (z_iast hX dX11_rename_162 (z_ald_n hX dX11_rename_163 rfl (z_gr (c := 11) (j := 2) hX dX11_rename_164 rfl inlX11 wm1_20 ⟨rfl, by decide, rfl⟩ (z_gr (c := 5) (j := 2) hX dX11_rename_167 rfl inlX5 wm16_7 ⟨rfl, by decide, rfl⟩ (z_ild_n hX dX11_rename_170 rfl (z_ild hX dX11_rename_171 (z_ald_n hX dX11_rename_173 rfl (z_gr (c := 11) (j := 4) hX dX11_rename_174 rfl inlX11 wm2_1 ⟨rfl, by decide, rfl⟩ (z_gr (c := 7) (j := 0) hX dX11_rename_177 rfl inlX7 wm11_23 ⟨rfl, by decide, rfl⟩ (z_iconst hX dX11_rename_180 (by decide) ((tX11_rename_181 hX hr hq)))))))))))))))))))))))))
def kX11_rename_117 (r : pu_R) : pu_K := s_ald 0 (s_gr 11 2 (s_gr 5 0 (s_cv r 51 0 6 (s_ifne (kX11_rename_133 r) (s_push (.int (-6)) (s_iret))))))
theorem vX11_rename_117 : pu_cok2 kX11_rename_117 := fun rf r hr => by
  unfold kX11_rename_117
  exact v_ald (v_gr (v_gr (v_cv hr (v_ifne (vX11_rename_133 rf r hr) (v_pi (v_iret))))))
theorem tX11_rename_117 {X : pu_X} {r : pu_R} (hX : pu_H X mdX11_rename) (hr : pu_P X.2.1 X.2.2.2.2.2.2.2.2.2.2.1 r) (hq : ∀ i pc, pu_lp i = some (115, pc) → pu_S X mdX11_rename pc (r i)) : pu_S X mdX11_rename 117 (kX11_rename_117 r) := by
  unfold kX11_rename_117
  exact z_ald_n hX dX11_rename_117 rfl (z_gr (c := 11) (j := 2) hX dX11_rename_118 rfl inlX11 wm1_20 ⟨rfl, by decide, rfl⟩ (z_gr (c := 5) (j := 0) hX dX11_rename_121 rfl inlX5 wm10_19 ⟨rfl, by decide, rfl⟩ (z_cv (c := 6) hX hr dX11_rename_124 hjX6_hasRoom mwX6_hasRoom rfl wm19_14 ⟨wm19_15, wm19_16⟩ ⟨Nat.le_of_ble_eq_true rfl, Nat.le_of_ble_eq_true rfl⟩ (z_ifne hX dX11_rename_127 (by decide) (tX11_rename_133 hX hr hq) (z_bipush hX dX11_rename_130 (by decide) (z_iret hX dX11_rename_132 rfl))))))
def kX11_rename_69 (r : pu_R) : pu_K := s_ald 0 (s_gr 11 2 (s_gr 5 2 (s_gr 3 2 (s_ild 4 (s_ai 1 (s_ist 5 (s_ald 0 (s_gr 11 2 (s_gr 5 2 (s_ald 0 (s_gr 11 4 (s_gr 7 0 (s_ild 5 (s_ild 2 (s_ald 0 (s_gr 11 2 (s_gr 5 0 (s_cv r 50 4 3 (s_ifeq (kX11_rename_117 r) (s_push (.int (-5)) (s_iret)))))))))))))))))))))
theorem vX11_rename_69 : pu_cok2 kX11_rename_69 := fun rf r hr => by
  unfold kX11_rename_69
  exact v_ald (v_gr (v_gr (v_gr (v_ild (v_ai (v_ist (v_ald (v_gr (v_gr (v_ald (v_gr (v_gr (v_ild (v_ild (v_ald (v_gr (v_gr (v_cv hr (v_ifeq (vX11_rename_117 rf r hr) (v_pi (v_iret)))))))))))))))))))))
theorem tX11_rename_69 {X : pu_X} {r : pu_R} (hX : pu_H X mdX11_rename) (hr : pu_P X.2.1 X.2.2.2.2.2.2.2.2.2.2.1 r) (hq : ∀ i pc, pu_lp i = some (115, pc) → pu_S X mdX11_rename pc (r i)) : pu_S X mdX11_rename 69 (kX11_rename_69 r) := by
  unfold kX11_rename_69
  exact z_ald_n hX dX11_rename_69 rfl (z_gr (c := 11) (j := 2) hX dX11_rename_70 rfl inlX11 wm1_20 ⟨rfl, by decide, rfl⟩ (z_gr (c := 5) (j := 2) hX dX11_rename_73 rfl inlX5 wm16_7 ⟨rfl, by decide, rfl⟩ (z_gr (c := 3) (j := 2) hX dX11_rename_76 rfl inlX3 wm39_9 ⟨rfl, by decide, rfl⟩ (z_ild hX dX11_rename_79 (z_iald hX dX11_rename_81 (z_ist hX dX11_rename_82 (z_ald_n hX dX11_rename_84 rfl (z_gr (c := 11) (j := 2) hX dX11_rename_85 rfl inlX11 wm1_20 ⟨rfl, by decide, rfl⟩ (z_gr (c := 5) (j := 2) hX dX11_rename_88 rfl inlX5 wm16_7 ⟨rfl, by decide, rfl⟩ (z_ald_n hX dX11_rename_91 rfl (z_gr (c := 11) (j := 4) hX dX11_rename_92 rfl inlX11 wm2_1 ⟨rfl, by decide, rfl⟩ (z_gr (c := 7) (j := 0) hX dX11_rename_95 rfl inlX7 wm11_23 ⟨rfl, by decide, rfl⟩ (z_ild hX dX11_rename_98 (z_ild_n hX dX11_rename_100 rfl (z_ald_n hX dX11_rename_101 rfl (z_gr (c := 11) (j := 2) hX dX11_rename_102 rfl inlX11 wm1_20 ⟨rfl, by decide, rfl⟩ (z_gr (c := 5) (j := 0) hX dX11_rename_105 rfl inlX5 wm10_19 ⟨rfl, by decide, rfl⟩ (z_cv (c := 3) hX hr dX11_rename_108 hjX3_isHeldFrom mwX3_isHeldFrom rfl wm18_15 ⟨wm18_16, wm18_17⟩ ⟨Nat.le_of_ble_eq_true rfl, Nat.le_of_ble_eq_true rfl⟩ (z_ifeq hX dX11_rename_111 (by decide) (tX11_rename_117 hX hr hq) (z_bipush hX dX11_rename_114 (by decide) (z_iret hX dX11_rename_116 rfl)))))))))))))))))))))
def kX11_rename_54 (r : pu_R) : pu_K := s_ild 2 (s_ald 0 (s_gr 11 2 (s_ild 1 (s_cv r 63 1 5 (s_icge (kX11_rename_69 r) (s_push (.int (-3)) (s_iret)))))))
theorem vX11_rename_54 : pu_cok2 kX11_rename_54 := fun rf r hr => by
  unfold kX11_rename_54
  exact v_ild (v_ald (v_gr (v_ild (v_cv hr (v_icge (vX11_rename_69 rf r hr) (v_pi (v_iret)))))))
theorem tX11_rename_54 {X : pu_X} {r : pu_R} (hX : pu_H X mdX11_rename) (hr : pu_P X.2.1 X.2.2.2.2.2.2.2.2.2.2.1 r) (hq : ∀ i pc, pu_lp i = some (115, pc) → pu_S X mdX11_rename pc (r i)) : pu_S X mdX11_rename 54 (kX11_rename_54 r) := by
  unfold kX11_rename_54
  exact z_ild_n hX dX11_rename_54 rfl (z_ald_n hX dX11_rename_55 rfl (z_gr (c := 11) (j := 2) hX dX11_rename_56 rfl inlX11 wm1_20 ⟨rfl, by decide, rfl⟩ (z_ild_n hX dX11_rename_59 rfl (z_cv (c := 5) hX hr dX11_rename_60 hjX5_earliestOn mwX5_earliestOn rfl wm22_15 ⟨wm22_16, wm22_17⟩ ⟨Nat.le_of_ble_eq_true rfl, Nat.le_of_ble_eq_true rfl⟩ (z_icge hX dX11_rename_63 (by decide) (tX11_rename_69 hX hr hq) (z_bipush hX dX11_rename_66 (by decide) (z_iret hX dX11_rename_68 rfl)))))))
def kX11_rename_51 (r : pu_R) : pu_K := s_push (.int (-2)) (s_iret)
theorem vX11_rename_51 : pu_cok2 kX11_rename_51 := fun rf r hr => by
  unfold kX11_rename_51
  exact v_pi (v_iret)
theorem tX11_rename_51 {X : pu_X} {r : pu_R} (hX : pu_H X mdX11_rename) (hr : pu_P X.2.1 X.2.2.2.2.2.2.2.2.2.2.1 r) (hq : ∀ i pc, pu_lp i = some (115, pc) → pu_S X mdX11_rename pc (r i)) : pu_S X mdX11_rename 51 (kX11_rename_51 r) := by
  unfold kX11_rename_51
  exact z_bipush hX dX11_rename_51 (by decide) (z_iret hX dX11_rename_53 rfl)
def kX11_rename_40 (r : pu_R) : pu_K := s_ild 3 (s_ifeq (kX11_rename_51 r) (s_ild 2 (s_cs r 18 1 (s_ifne (kX11_rename_54 r) ((kX11_rename_51 r))))))
theorem vX11_rename_40 : pu_cok2 kX11_rename_40 := fun rf r hr => by
  unfold kX11_rename_40
  exact v_ild (v_ifeq (vX11_rename_51 rf r hr) (v_ild (v_cs hr (v_ifne (vX11_rename_54 rf r hr) ((vX11_rename_51 rf r hr))))))
theorem tX11_rename_40 {X : pu_X} {r : pu_R} (hX : pu_H X mdX11_rename) (hr : pu_P X.2.1 X.2.2.2.2.2.2.2.2.2.2.1 r) (hq : ∀ i pc, pu_lp i = some (115, pc) → pu_S X mdX11_rename pc (r i)) : pu_S X mdX11_rename 40 (kX11_rename_40 r) := by
  unfold kX11_rename_40
  exact z_ild_n hX dX11_rename_40 rfl (z_ifeq hX dX11_rename_41 (by decide) (tX11_rename_51 hX hr hq) (z_ild_n hX dX11_rename_44 rfl (z_cs hX hr dX11_rename_45 hjX11_isDay mwX11_isDay wm10_21 wm10_22 ⟨Nat.le_of_ble_eq_true rfl, Nat.le_of_ble_eq_true rfl⟩ (z_ifne hX dX11_rename_48 (by decide) (tX11_rename_54 hX hr hq) ((tX11_rename_51 hX hr hq))))))
def kX11_rename_38 (r : pu_R) : pu_K := s_push (.int (-1)) (s_iret)
theorem vX11_rename_38 : pu_cok2 kX11_rename_38 := fun rf r hr => by
  unfold kX11_rename_38
  exact v_pi (v_iret)
theorem tX11_rename_38 {X : pu_X} {r : pu_R} (hX : pu_H X mdX11_rename) (hr : pu_P X.2.1 X.2.2.2.2.2.2.2.2.2.2.1 r) (hq : ∀ i pc, pu_lp i = some (115, pc) → pu_S X mdX11_rename pc (r i)) : pu_S X mdX11_rename 38 (kX11_rename_38 r) := by
  unfold kX11_rename_38
  exact z_iconst hX dX11_rename_38 (by decide) (z_iret hX dX11_rename_39 rfl)
def kX11_rename_0 (r : pu_R) : pu_K := s_ald 0 (s_cv r 31 0 11 (s_ist 3 (s_ald 0 (s_gr 11 2 (s_gr 5 2 (s_ild 1 (s_cv r 61 1 3 (s_ist 4 (s_ald 0 (s_gr 11 2 (s_gr 5 3 (s_ild 1 (s_cv r 56 1 10 (s_ifeq (kX11_rename_38 r) (s_ild 4 (s_push (.int (-1)) (s_icne (kX11_rename_40 r) ((kX11_rename_38 r)))))))))))))))))))
theorem vX11_rename_0 : pu_cok2 kX11_rename_0 := fun rf r hr => by
  unfold kX11_rename_0
  exact v_ald (v_cv hr (v_ist (v_ald (v_gr (v_gr (v_ild (v_cv hr (v_ist (v_ald (v_gr (v_gr (v_ild (v_cv hr (v_ifeq (vX11_rename_38 rf r hr) (v_ild (v_pi (v_icne (vX11_rename_40 rf r hr) ((vX11_rename_38 rf r hr)))))))))))))))))))
theorem tX11_rename_0 {X : pu_X} {r : pu_R} (hX : pu_H X mdX11_rename) (hr : pu_P X.2.1 X.2.2.2.2.2.2.2.2.2.2.1 r) (hq : ∀ i pc, pu_lp i = some (115, pc) → pu_S X mdX11_rename pc (r i)) : pu_S X mdX11_rename 0 (kX11_rename_0 r) := by
  unfold kX11_rename_0
  exact z_ald_n hX dX11_rename_0 rfl (z_cv (c := 11) hX hr dX11_rename_1 hjX11_readName mwX11_readName rfl wm12_1 ⟨wm12_2, wm12_3⟩ ⟨Nat.le_of_ble_eq_true rfl, Nat.le_of_ble_eq_true rfl⟩ (z_ist_n hX dX11_rename_4 rfl (z_ald_n hX dX11_rename_5 rfl (z_gr (c := 11) (j := 2) hX dX11_rename_6 rfl inlX11 wm1_20 ⟨rfl, by decide, rfl⟩ (z_gr (c := 5) (j := 2) hX dX11_rename_9 rfl inlX5 wm16_7 ⟨rfl, by decide, rfl⟩ (z_ild_n hX dX11_rename_12 rfl (z_cv (c := 3) hX hr dX11_rename_13 hjX3_openOf mwX3_openOf rfl wm39_11 ⟨wm23_0, wm23_1⟩ ⟨Nat.le_of_ble_eq_true rfl, Nat.le_of_ble_eq_true rfl⟩ (z_ist hX dX11_rename_16 (z_ald_n hX dX11_rename_18 rfl (z_gr (c := 11) (j := 2) hX dX11_rename_19 rfl inlX11 wm1_20 ⟨rfl, by decide, rfl⟩ (z_gr (c := 5) (j := 3) hX dX11_rename_22 rfl inlX5 wm11_22 ⟨rfl, by decide, rfl⟩ (z_ild_n hX dX11_rename_25 rfl (z_cv (c := 10) hX hr dX11_rename_26 hjX10_isStreet mwX10_isStreet rfl wm21_23 ⟨wm22_0, wm22_1⟩ ⟨Nat.le_of_ble_eq_true rfl, Nat.le_of_ble_eq_true rfl⟩ (z_ifeq hX dX11_rename_29 (by decide) (tX11_rename_38 hX hr hq) (z_ild hX dX11_rename_32 (z_iconst hX dX11_rename_34 (by decide) (z_icne hX dX11_rename_35 (by decide) (tX11_rename_40 hX hr hq) ((tX11_rename_38 hX hr hq)))))))))))))))))))
def kX5_earliestOnTown_55 (r : pu_R) : pu_K := s_ild 2 (s_iret)
theorem vX5_earliestOnTown_55 : pu_cok2 kX5_earliestOnTown_55 := fun rf r hr => by
  unfold kX5_earliestOnTown_55
  exact v_ild (v_iret)
theorem tX5_earliestOnTown_55 {X : pu_X} {r : pu_R} (hX : pu_H X mdX5_earliestOnTown) (hr : pu_P X.2.1 X.2.2.2.2.2.2.2.2.2.2.1 r) (hq : ∀ i pc, pu_lp i = some (116, pc) → pu_S X mdX5_earliestOnTown pc (r i)) : pu_S X mdX5_earliestOnTown 55 (kX5_earliestOnTown_55 r) := by
  unfold kX5_earliestOnTown_55
  exact z_ild_n hX dX5_earliestOnTown_55 rfl (z_iret hX dX5_earliestOnTown_56 rfl)
def kX5_earliestOnTown_49 (r : pu_R) : pu_K := s_inc 3 (1) ((r 386))
theorem vX5_earliestOnTown_49 : pu_cok2 kX5_earliestOnTown_49 := fun rf r hr => by
  unfold kX5_earliestOnTown_49
  exact v_inc ((hr 386))
theorem tX5_earliestOnTown_49 {X : pu_X} {r : pu_R} (hX : pu_H X mdX5_earliestOnTown) (hr : pu_P X.2.1 X.2.2.2.2.2.2.2.2.2.2.1 r) (hq : ∀ i pc, pu_lp i = some (116, pc) → pu_S X mdX5_earliestOnTown pc (r i)) : pu_S X mdX5_earliestOnTown 49 (kX5_earliestOnTown_49 r) := by
  unfold kX5_earliestOnTown_49
  exact z_inc hX dX5_earliestOnTown_49 (by decide) ((z_goto hX dX5_earliestOnTown_52 (by decide) (hq 386 12 hl386)))
def kX5_earliestOnTown_12 (r : pu_R) : pu_K := s_ild 3 (s_ald 0 (s_gr 5 3 (s_gi 10 1 (s_icge (kX5_earliestOnTown_55 r) (s_ald 0 (s_gr 5 2 (s_ild 3 (s_cv r 62 1 3 (s_ild 1 (s_icne (kX5_earliestOnTown_49 r) (s_ild 2 (s_ald 0 (s_gr 5 0 (s_ild 3 (s_push (.int (-1)) (s_cv r 45 2 6 (s_max (s_ist 2 ((kX5_earliestOnTown_49 r))))))))))))))))))))
theorem vX5_earliestOnTown_12 : pu_cok2 kX5_earliestOnTown_12 := fun rf r hr => by
  unfold kX5_earliestOnTown_12
  exact v_ild (v_ald (v_gr (v_gi (v_icge (vX5_earliestOnTown_55 rf r hr) (v_ald (v_gr (v_ild (v_cv hr (v_ild (v_icne (vX5_earliestOnTown_49 rf r hr) (v_ild (v_ald (v_gr (v_ild (v_pi (v_cv hr (v_max (v_ist ((vX5_earliestOnTown_49 rf r hr))))))))))))))))))))
theorem tX5_earliestOnTown_12 {X : pu_X} {r : pu_R} (hX : pu_H X mdX5_earliestOnTown) (hr : pu_P X.2.1 X.2.2.2.2.2.2.2.2.2.2.1 r) (hq : ∀ i pc, pu_lp i = some (116, pc) → pu_S X mdX5_earliestOnTown pc (r i)) : pu_S X mdX5_earliestOnTown 12 (kX5_earliestOnTown_12 r) := by
  unfold kX5_earliestOnTown_12
  exact z_ild_n hX dX5_earliestOnTown_12 rfl (z_ald_n hX dX5_earliestOnTown_13 rfl (z_gr (c := 5) (j := 3) hX dX5_earliestOnTown_14 rfl inlX5 wm3_9 ⟨rfl, by decide, rfl⟩ (z_gi (c := 10) (j := 1) hX dX5_earliestOnTown_17 rfl inlX10 wm40_2 ⟨rfl, by decide, rfl⟩ (z_icge hX dX5_earliestOnTown_20 (by decide) (tX5_earliestOnTown_55 hX hr hq) (z_ald_n hX dX5_earliestOnTown_23 rfl (z_gr (c := 5) (j := 2) hX dX5_earliestOnTown_24 rfl inlX5 wm3_5 ⟨rfl, by decide, rfl⟩ (z_ild_n hX dX5_earliestOnTown_27 rfl (z_cv (c := 3) hX hr dX5_earliestOnTown_28 hjX3_townOf mwX3_townOf rfl wm22_19 ⟨wm22_20, wm22_21⟩ ⟨Nat.le_of_ble_eq_true rfl, Nat.le_of_ble_eq_true rfl⟩ (z_ild_n hX dX5_earliestOnTown_31 rfl (z_icne hX dX5_earliestOnTown_32 (by decide) (tX5_earliestOnTown_49 hX hr hq) (z_ild_n hX dX5_earliestOnTown_35 rfl (z_ald_n hX dX5_earliestOnTown_36 rfl (z_gr (c := 5) (j := 0) hX dX5_earliestOnTown_37 rfl inlX5 wm2_21 ⟨rfl, by decide, rfl⟩ (z_ild_n hX dX5_earliestOnTown_40 rfl (z_iconst hX dX5_earliestOnTown_41 (by decide) (z_cv (c := 6) hX hr dX5_earliestOnTown_42 hjX6_latestOn mwX6_latestOn rfl wm23_3 ⟨wm18_8, wm18_9⟩ ⟨Nat.le_of_ble_eq_true rfl, Nat.le_of_ble_eq_true rfl⟩ (z_max hX dX5_earliestOnTown_45 ⟨wm34_1, wm18_12, wm18_13, wm18_14⟩ ⟨Nat.le_of_ble_eq_true rfl, Nat.le_of_ble_eq_true rfl⟩ (z_ist_n hX dX5_earliestOnTown_48 rfl ((tX5_earliestOnTown_49 hX hr hq))))))))))))))))))))
def kX5_earliestOnTown_0 (r : pu_R) : pu_K := s_ald 0 (s_gr 5 0 (s_push (.int (-1)) (s_ild 1 (s_cv r 45 2 6 (s_ist 2 (s_push (.int (0)) (s_ist 3 ((r 386)))))))))
theorem vX5_earliestOnTown_0 : pu_cok2 kX5_earliestOnTown_0 := fun rf r hr => by
  unfold kX5_earliestOnTown_0
  exact v_ald (v_gr (v_pi (v_ild (v_cv hr (v_ist (v_pi (v_ist ((hr 386)))))))))
theorem tX5_earliestOnTown_0 {X : pu_X} {r : pu_R} (hX : pu_H X mdX5_earliestOnTown) (hr : pu_P X.2.1 X.2.2.2.2.2.2.2.2.2.2.1 r) (hq : ∀ i pc, pu_lp i = some (116, pc) → pu_S X mdX5_earliestOnTown pc (r i)) : pu_S X mdX5_earliestOnTown 0 (kX5_earliestOnTown_0 r) := by
  unfold kX5_earliestOnTown_0
  exact z_ald_n hX dX5_earliestOnTown_0 rfl (z_gr (c := 5) (j := 0) hX dX5_earliestOnTown_1 rfl inlX5 wm2_21 ⟨rfl, by decide, rfl⟩ (z_iconst hX dX5_earliestOnTown_4 (by decide) (z_ild_n hX dX5_earliestOnTown_5 rfl (z_cv (c := 6) hX hr dX5_earliestOnTown_6 hjX6_latestOn mwX6_latestOn rfl wm23_3 ⟨wm18_8, wm18_9⟩ ⟨Nat.le_of_ble_eq_true rfl, Nat.le_of_ble_eq_true rfl⟩ (z_ist_n hX dX5_earliestOnTown_9 rfl (z_iconst hX dX5_earliestOnTown_10 (by decide) (z_ist_n hX dX5_earliestOnTown_11 rfl ((hq 386 12 hl386)))))))))
def kX3_streetNamedLike_92 (r : pu_R) : pu_K := s_push (.int (-1)) (s_iret)
theorem vX3_streetNamedLike_92 : pu_cok2 kX3_streetNamedLike_92 := fun rf r hr => by
  unfold kX3_streetNamedLike_92
  exact v_pi (v_iret)
theorem tX3_streetNamedLike_92 {X : pu_X} {r : pu_R} (hX : pu_H X mdX3_streetNamedLike) (hr : pu_P X.2.1 X.2.2.2.2.2.2.2.2.2.2.1 r) (hq : ∀ i pc, pu_lp i = some (117, pc) → pu_S X mdX3_streetNamedLike pc (r i)) : pu_S X mdX3_streetNamedLike 92 (kX3_streetNamedLike_92 r) := by
  unfold kX3_streetNamedLike_92
  exact z_iconst hX dX3_streetNamedLike_92 (by decide) (z_iret hX dX3_streetNamedLike_93 rfl)
def kX3_streetNamedLike_86 (r : pu_R) : pu_K := s_inc 4 (1) ((r 387))
theorem vX3_streetNamedLike_86 : pu_cok2 kX3_streetNamedLike_86 := fun rf r hr => by
  unfold kX3_streetNamedLike_86
  exact v_inc ((hr 387))
theorem tX3_streetNamedLike_86 {X : pu_X} {r : pu_R} (hX : pu_H X mdX3_streetNamedLike) (hr : pu_P X.2.1 X.2.2.2.2.2.2.2.2.2.2.1 r) (hq : ∀ i pc, pu_lp i = some (117, pc) → pu_S X mdX3_streetNamedLike pc (r i)) : pu_S X mdX3_streetNamedLike 86 (kX3_streetNamedLike_86 r) := by
  unfold kX3_streetNamedLike_86
  exact z_inc hX dX3_streetNamedLike_86 (by decide) ((z_goto hX dX3_streetNamedLike_89 (by decide) (hq 387 9 hl387)))
def kX3_streetNamedLike_50 (r : pu_R) : pu_K := s_ist 5 (s_ild 5 (s_ifeq (kX3_streetNamedLike_86 r) (s_ald 0 (s_gr 3 5 (s_push (.int (3)) (s_ild 4 (s_imul (s_ald 0 (s_gr 3 5 (s_push (.int (3)) (s_ild 3 (s_imul (s_cs r 32 4 (s_ifeq (kX3_streetNamedLike_86 r) (s_ald 0 (s_gr 3 1 (s_ild 4 (s_ai 1 (s_iret)))))))))))))))))))
theorem vX3_streetNamedLike_50 : pu_cok2 kX3_streetNamedLike_50 := fun rf r hr => by
  unfold kX3_streetNamedLike_50
  exact v_ist (v_ild (v_ifeq (vX3_streetNamedLike_86 rf r hr) (v_ald (v_gr (v_pi (v_ild (v_imul (v_ald (v_gr (v_pi (v_ild (v_imul (v_cs hr (v_ifeq (vX3_streetNamedLike_86 rf r hr) (v_ald (v_gr (v_ild (v_ai (v_iret)))))))))))))))))))
theorem tX3_streetNamedLike_50 {X : pu_X} {r : pu_R} (hX : pu_H X mdX3_streetNamedLike) (hr : pu_P X.2.1 X.2.2.2.2.2.2.2.2.2.2.1 r) (hq : ∀ i pc, pu_lp i = some (117, pc) → pu_S X mdX3_streetNamedLike pc (r i)) : pu_S X mdX3_streetNamedLike 50 (kX3_streetNamedLike_50 r) := by
  unfold kX3_streetNamedLike_50
  exact z_ist hX dX3_streetNamedLike_50 (z_ild hX dX3_streetNamedLike_52 (z_ifeq hX dX3_streetNamedLike_54 (by decide) (tX3_streetNamedLike_86 hX hr hq) (z_ald_n hX dX3_streetNamedLike_57 rfl (z_gr (c := 3) (j := 5) hX dX3_streetNamedLike_58 rfl inlX3 wm5_0 ⟨rfl, by decide, rfl⟩ (z_iconst hX dX3_streetNamedLike_61 (by decide) (z_ild hX dX3_streetNamedLike_62 (z_imul hX dX3_streetNamedLike_64 (z_ald_n hX dX3_streetNamedLike_65 rfl (z_gr (c := 3) (j := 5) hX dX3_streetNamedLike_66 rfl inlX3 wm5_0 ⟨rfl, by decide, rfl⟩ (z_iconst hX dX3_streetNamedLike_69 (by decide) (z_ild_n hX dX3_streetNamedLike_70 rfl (z_imul hX dX3_streetNamedLike_71 (z_cs hX hr dX3_streetNamedLike_72 hjX3_areLike mwX3_areLike wm19_9 wm14_9 ⟨Nat.le_of_ble_eq_true rfl, Nat.le_of_ble_eq_true rfl⟩ (z_ifeq hX dX3_streetNamedLike_75 (by decide) (tX3_streetNamedLike_86 hX hr hq) (z_ald_n hX dX3_streetNamedLike_78 rfl (z_gr (c := 3) (j := 1) hX dX3_streetNamedLike_79 rfl inlX3 wm4_19 ⟨rfl, by decide, rfl⟩ (z_ild hX dX3_streetNamedLike_82 (z_iald hX dX3_streetNamedLike_84 (z_iret hX dX3_streetNamedLike_85 rfl)))))))))))))))))))
def kX3_streetNamedLike_49 (r : pu_R) : pu_K := s_push (.int (0)) ((kX3_streetNamedLike_50 r))
theorem vX3_streetNamedLike_49 : pu_cok2 kX3_streetNamedLike_49 := fun rf r hr => by
  unfold kX3_streetNamedLike_49
  exact v_pi ((vX3_streetNamedLike_50 rf r hr))
theorem tX3_streetNamedLike_49 {X : pu_X} {r : pu_R} (hX : pu_H X mdX3_streetNamedLike) (hr : pu_P X.2.1 X.2.2.2.2.2.2.2.2.2.2.1 r) (hq : ∀ i pc, pu_lp i = some (117, pc) → pu_S X mdX3_streetNamedLike pc (r i)) : pu_S X mdX3_streetNamedLike 49 (kX3_streetNamedLike_49 r) := by
  unfold kX3_streetNamedLike_49
  exact z_iconst hX dX3_streetNamedLike_49 (by decide) ((tX3_streetNamedLike_50 hX hr hq))
def kX3_streetNamedLike_9 (r : pu_R) : pu_K := s_ild 4 (s_ald 0 (s_gi 3 0 (s_icge (kX3_streetNamedLike_92 r) (s_ild 3 (s_push (.int (-1)) (s_iceq (kX3_streetNamedLike_92 r) (s_ald 0 (s_gr 3 4 (s_ild 4 (s_ai 1 (s_push (.int (-1)) (s_icne (kX3_streetNamedLike_49 r) (s_ald 0 (s_gr 3 2 (s_ild 4 (s_ai 1 (s_ild 2 (s_icne (kX3_streetNamedLike_49 r) (s_push (.int (1)) ((kX3_streetNamedLike_50 r)))))))))))))))))))))
theorem vX3_streetNamedLike_9 : pu_cok2 kX3_streetNamedLike_9 := fun rf r hr => by
  unfold kX3_streetNamedLike_9
  exact v_ild (v_ald (v_gi (v_icge (vX3_streetNamedLike_92 rf r hr) (v_ild (v_pi (v_iceq (vX3_streetNamedLike_92 rf r hr) (v_ald (v_gr (v_ild (v_ai (v_pi (v_icne (vX3_streetNamedLike_49 rf r hr) (v_ald (v_gr (v_ild (v_ai (v_ild (v_icne (vX3_streetNamedLike_49 rf r hr) (v_pi ((vX3_streetNamedLike_50 rf r hr)))))))))))))))))))))
theorem tX3_streetNamedLike_9 {X : pu_X} {r : pu_R} (hX : pu_H X mdX3_streetNamedLike) (hr : pu_P X.2.1 X.2.2.2.2.2.2.2.2.2.2.1 r) (hq : ∀ i pc, pu_lp i = some (117, pc) → pu_S X mdX3_streetNamedLike pc (r i)) : pu_S X mdX3_streetNamedLike 9 (kX3_streetNamedLike_9 r) := by
  unfold kX3_streetNamedLike_9
  exact z_ild hX dX3_streetNamedLike_9 (z_ald_n hX dX3_streetNamedLike_11 rfl (z_gi (c := 3) (j := 0) hX dX3_streetNamedLike_12 rfl inlX3 wm16_21 ⟨rfl, by decide, rfl⟩ (z_icge hX dX3_streetNamedLike_15 (by decide) (tX3_streetNamedLike_92 hX hr hq) (z_ild_n hX dX3_streetNamedLike_18 rfl (z_iconst hX dX3_streetNamedLike_19 (by decide) (z_iceq hX dX3_streetNamedLike_20 (by decide) (tX3_streetNamedLike_92 hX hr hq) (z_ald_n hX dX3_streetNamedLike_23 rfl (z_gr (c := 3) (j := 4) hX dX3_streetNamedLike_24 rfl inlX3 wm4_22 ⟨rfl, by decide, rfl⟩ (z_ild hX dX3_streetNamedLike_27 (z_iald hX dX3_streetNamedLike_29 (z_iconst hX dX3_streetNamedLike_30 (by decide) (z_icne hX dX3_streetNamedLike_31 (by decide) (tX3_streetNamedLike_49 hX hr hq) (z_ald_n hX dX3_streetNamedLike_34 rfl (z_gr (c := 3) (j := 2) hX dX3_streetNamedLike_35 rfl inlX3 wm4_20 ⟨rfl, by decide, rfl⟩ (z_ild hX dX3_streetNamedLike_38 (z_iald hX dX3_streetNamedLike_40 (z_ild_n hX dX3_streetNamedLike_41 rfl (z_icne hX dX3_streetNamedLike_42 (by decide) (tX3_streetNamedLike_49 hX hr hq) (z_iconst hX dX3_streetNamedLike_45 (by decide) ((z_goto hX dX3_streetNamedLike_46 (by decide) (tX3_streetNamedLike_50 hX hr hq))))))))))))))))))))))
def kX3_streetNamedLike_0 (r : pu_R) : pu_K := s_ald 0 (s_ild 1 (s_cv r 61 1 3 (s_ist 3 (s_push (.int (0)) (s_ist 4 ((r 387)))))))
theorem vX3_streetNamedLike_0 : pu_cok2 kX3_streetNamedLike_0 := fun rf r hr => by
  unfold kX3_streetNamedLike_0
  exact v_ald (v_ild (v_cv hr (v_ist (v_pi (v_ist ((hr 387)))))))
theorem tX3_streetNamedLike_0 {X : pu_X} {r : pu_R} (hX : pu_H X mdX3_streetNamedLike) (hr : pu_P X.2.1 X.2.2.2.2.2.2.2.2.2.2.1 r) (hq : ∀ i pc, pu_lp i = some (117, pc) → pu_S X mdX3_streetNamedLike pc (r i)) : pu_S X mdX3_streetNamedLike 0 (kX3_streetNamedLike_0 r) := by
  unfold kX3_streetNamedLike_0
  exact z_ald_n hX dX3_streetNamedLike_0 rfl (z_ild_n hX dX3_streetNamedLike_1 rfl (z_cv (c := 3) hX hr dX3_streetNamedLike_2 hjX3_openOf mwX3_openOf rfl wm22_23 ⟨wm23_0, wm23_1⟩ ⟨Nat.le_of_ble_eq_true rfl, Nat.le_of_ble_eq_true rfl⟩ (z_ist_n hX dX3_streetNamedLike_5 rfl (z_iconst hX dX3_streetNamedLike_6 (by decide) (z_ist hX dX3_streetNamedLike_7 ((hq 387 9 hl387)))))))
