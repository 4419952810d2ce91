def kX11_walkView_63 (r : pu_R) : pu_K := s_vret
theorem vX11_walkView_63 : pu_cok2 kX11_walkView_63 := fun rf r hr => by
  unfold kX11_walkView_63
  exact v_vret
theorem tX11_walkView_63 {X : pu_X} {r : pu_R} (hX : pu_H X mdX11_walkView) (hr : pu_P X.2.1 X.2.2.2.2.2.2.2.2.2.2.1 r) (hq : ∀ i pc, pu_lp i = some (208, pc) → pu_S X mdX11_walkView pc (r i)) : pu_S X mdX11_walkView 63 (kX11_walkView_63 r) := by
  unfold kX11_walkView_63
  exact z_vret hX dX11_walkView_63 rfl
def kX11_walkView_57 (r : pu_R) : pu_K := s_inc 2 (1) ((r 419))
theorem vX11_walkView_57 : pu_cok2 kX11_walkView_57 := fun rf r hr => by
  unfold kX11_walkView_57
  exact v_inc ((hr 419))
theorem tX11_walkView_57 {X : pu_X} {r : pu_R} (hX : pu_H X mdX11_walkView) (hr : pu_P X.2.1 X.2.2.2.2.2.2.2.2.2.2.1 r) (hq : ∀ i pc, pu_lp i = some (208, pc) → pu_S X mdX11_walkView pc (r i)) : pu_S X mdX11_walkView 57 (kX11_walkView_57 r) := by
  unfold kX11_walkView_57
  exact z_inc hX dX11_walkView_57 (by decide) ((z_goto hX dX11_walkView_60 (by decide) (hq 419 2 hl419)))
def kX11_walkView_48 (r : pu_R) : pu_K := s_cv r 204 1 1 (s_ald 0 (s_ild 3 (s_ild 1 (s_cv r 207 2 11 ((kX11_walkView_57 r))))))
theorem vX11_walkView_48 : pu_cok2 kX11_walkView_48 := fun rf r hr => by
  unfold kX11_walkView_48
  exact v_cv hr (v_ald (v_ild (v_ild (v_cv hr ((vX11_walkView_57 rf r hr))))))
theorem tX11_walkView_48 {X : pu_X} {r : pu_R} (hX : pu_H X mdX11_walkView) (hr : pu_P X.2.1 X.2.2.2.2.2.2.2.2.2.2.1 r) (hq : ∀ i pc, pu_lp i = some (208, pc) → pu_S X mdX11_walkView pc (r i)) : pu_S X mdX11_walkView 48 (kX11_walkView_48 r) := by
  unfold kX11_walkView_48
  exact z_cv (c := 1) hX hr dX11_walkView_48 hjX1_addWalked mwX1_addWalked rfl wm67_16 ⟨wm67_17, wm67_18⟩ ⟨Nat.le_of_ble_eq_true rfl, Nat.le_of_ble_eq_true rfl⟩ (z_ald_n hX dX11_walkView_51 rfl (z_ild_n hX dX11_walkView_52 rfl (z_ild_n hX dX11_walkView_53 rfl (z_cv (c := 11) hX hr dX11_walkView_54 hjX11_walkUnder mwX11_walkUnder rfl wm67_20 ⟨wm67_21, wm67_22⟩ ⟨Nat.le_of_ble_eq_true rfl, Nat.le_of_ble_eq_true rfl⟩ ((tX11_walkView_57 hX hr hq))))))
def kX11_walkView_2 (r : pu_R) : pu_K := s_ild 2 (s_ald 0 (s_gr 11 5 (s_gi 9 0 (s_icge (kX11_walkView_63 r) (s_ald 0 (s_gr 11 5 (s_gr 9 4 (s_ild 2 (s_ai 1 (s_push (.int (2)) (s_idiv (s_ist 3 (s_ald 0 (s_gr 11 2 (s_gr 5 6 (s_ild 3 (s_cv r 203 1 1 (s_push (.int (-1)) (s_icne (kX11_walkView_57 r) (s_ald 0 (s_gr 11 2 (s_gr 5 6 (s_ild 3 ((kX11_walkView_48 r)))))))))))))))))))))))))
theorem vX11_walkView_2 : pu_cok2 kX11_walkView_2 := fun rf r hr => by
  unfold kX11_walkView_2
  exact v_ild (v_ald (v_gr (v_gi (v_icge (vX11_walkView_63 rf r hr) (v_ald (v_gr (v_gr (v_ild (v_ai (v_pi (v_idiv (v_ist (v_ald (v_gr (v_gr (v_ild (v_cv hr (v_pi (v_icne (vX11_walkView_57 rf r hr) (v_ald (v_gr (v_gr (v_ild ((vX11_walkView_48 rf r hr)))))))))))))))))))))))))
theorem tX11_walkView_2 {X : pu_X} {r : pu_R} (hX : pu_H X mdX11_walkView) (hr : pu_P X.2.1 X.2.2.2.2.2.2.2.2.2.2.1 r) (hq : ∀ i pc, pu_lp i = some (208, pc) → pu_S X mdX11_walkView pc (r i)) : pu_S X mdX11_walkView 2 (kX11_walkView_2 r) := by
  unfold kX11_walkView_2
  exact z_ild_n hX dX11_walkView_2 rfl (z_ald_n hX dX11_walkView_3 rfl (z_gr (c := 11) (j := 5) hX dX11_walkView_4 rfl inlX11 wm2_5 ⟨rfl, by decide, rfl⟩ (z_gi (c := 9) (j := 0) hX dX11_walkView_7 rfl inlX9 wm36_21 ⟨rfl, by decide, rfl⟩ (z_icge hX dX11_walkView_10 (by decide) (tX11_walkView_63 hX hr hq) (z_ald_n hX dX11_walkView_13 rfl (z_gr (c := 11) (j := 5) hX dX11_walkView_14 rfl inlX11 wm2_5 ⟨rfl, by decide, rfl⟩ (z_gr (c := 9) (j := 4) hX dX11_walkView_17 rfl inlX9 wm38_12 ⟨rfl, by decide, rfl⟩ (z_ild_n hX dX11_walkView_20 rfl (z_iald hX dX11_walkView_21 (z_iconst hX dX11_walkView_22 (by decide) (z_idiv hX dX11_walkView_23 (z_ist_n hX dX11_walkView_24 rfl (z_ald_n hX dX11_walkView_25 rfl (z_gr (c := 11) (j := 2) hX dX11_walkView_26 rfl inlX11 wm1_20 ⟨rfl, by decide, rfl⟩ (z_gr (c := 5) (j := 6) hX dX11_walkView_29 rfl inlX5 wm54_0 ⟨rfl, by decide, rfl⟩ (z_ild_n hX dX11_walkView_32 rfl (z_cv (c := 1) hX hr dX11_walkView_33 hjX1_whenWalked mwX1_whenWalked rfl wm67_12 ⟨wm67_13, wm67_14⟩ ⟨Nat.le_of_ble_eq_true rfl, Nat.le_of_ble_eq_true rfl⟩ (z_iconst hX dX11_walkView_36 (by decide) (z_icne hX dX11_walkView_37 (by decide) (tX11_walkView_57 hX hr hq) (z_ald_n hX dX11_walkView_40 rfl (z_gr (c := 11) (j := 2) hX dX11_walkView_41 rfl inlX11 wm1_20 ⟨rfl, by decide, rfl⟩ (z_gr (c := 5) (j := 6) hX dX11_walkView_44 rfl inlX5 wm54_0 ⟨rfl, by decide, rfl⟩ (z_ild_n hX dX11_walkView_47 rfl ((tX11_walkView_48 hX hr hq)))))))))))))))))))))))))
def kX11_walkView_0 (r : pu_R) : pu_K := s_push (.int (0)) (s_ist 2 ((r 419)))
theorem vX11_walkView_0 : pu_cok2 kX11_walkView_0 := fun rf r hr => by
  unfold kX11_walkView_0
  exact v_pi (v_ist ((hr 419)))
theorem tX11_walkView_0 {X : pu_X} {r : pu_R} (hX : pu_H X mdX11_walkView) (hr : pu_P X.2.1 X.2.2.2.2.2.2.2.2.2.2.1 r) (hq : ∀ i pc, pu_lp i = some (208, pc) → pu_S X mdX11_walkView pc (r i)) : pu_S X mdX11_walkView 0 (kX11_walkView_0 r) := by
  unfold kX11_walkView_0
  exact z_iconst hX dX11_walkView_0 (by decide) (z_ist_n hX dX11_walkView_1 rfl ((hq 419 2 hl419)))
def kX11_walk_109 (r : pu_R) : pu_K := s_ald 0 (s_gr 11 2 (s_gr 5 6 (s_gi 1 5 (s_iret))))
theorem vX11_walk_109 : pu_cok2 kX11_walk_109 := fun rf r hr => by
  unfold kX11_walk_109
  exact v_ald (v_gr (v_gr (v_gi (v_iret))))
theorem tX11_walk_109 {X : pu_X} {r : pu_R} (hX : pu_H X mdX11_walk) (hr : pu_P X.2.1 X.2.2.2.2.2.2.2.2.2.2.1 r) (hq : ∀ i pc, pu_lp i = some (209, pc) → pu_S X mdX11_walk pc (r i)) : pu_S X mdX11_walk 109 (kX11_walk_109 r) := by
  unfold kX11_walk_109
  exact z_ald_n hX dX11_walk_109 rfl (z_gr (c := 11) (j := 2) hX dX11_walk_110 rfl inlX11 wm1_20 ⟨rfl, by decide, rfl⟩ (z_gr (c := 5) (j := 6) hX dX11_walk_113 rfl inlX5 wm54_0 ⟨rfl, by decide, rfl⟩ (z_gi (c := 1) (j := 5) hX dX11_walk_116 rfl inlX1 wm67_5 ⟨rfl, by decide, rfl⟩ (z_iret hX dX11_walk_119 rfl))))
def kX11_walk_103 (r : pu_R) : pu_K := s_inc 2 (1) ((r 420))
theorem vX11_walk_103 : pu_cok2 kX11_walk_103 := fun rf r hr => by
  unfold kX11_walk_103
  exact v_inc ((hr 420))
theorem tX11_walk_103 {X : pu_X} {r : pu_R} (hX : pu_H X mdX11_walk) (hr : pu_P X.2.1 X.2.2.2.2.2.2.2.2.2.2.1 r) (hq : ∀ i pc, pu_lp i = some (209, pc) → pu_S X mdX11_walk pc (r i)) : pu_S X mdX11_walk 103 (kX11_walk_103 r) := by
  unfold kX11_walk_103
  exact z_inc hX dX11_walk_103 (by decide) ((z_goto hX dX11_walk_106 (by decide) (hq 420 23 hl420)))
def kX11_walk_77 (r : pu_R) : pu_K := s_gr 1 14 (s_ild 2 (s_ai 1 (s_ild 1 (s_ald 0 (s_gr 11 2 (s_gr 5 6 (s_gr 1 15 (s_ild 2 (s_ai 1 (s_cv r 73 4 9 (s_ald 0 (s_ild 1 (s_cv r 208 1 11 ((kX11_walk_103 r)))))))))))))))
theorem vX11_walk_77 : pu_cok2 kX11_walk_77 := fun rf r hr => by
  unfold kX11_walk_77
  exact v_gr (v_ild (v_ai (v_ild (v_ald (v_gr (v_gr (v_gr (v_ild (v_ai (v_cv hr (v_ald (v_ild (v_cv hr ((vX11_walk_103 rf r hr)))))))))))))))
theorem tX11_walk_77 {X : pu_X} {r : pu_R} (hX : pu_H X mdX11_walk) (hr : pu_P X.2.1 X.2.2.2.2.2.2.2.2.2.2.1 r) (hq : ∀ i pc, pu_lp i = some (209, pc) → pu_S X mdX11_walk pc (r i)) : pu_S X mdX11_walk 77 (kX11_walk_77 r) := by
  unfold kX11_walk_77
  exact z_gr (c := 1) (j := 14) hX dX11_walk_77 rfl inlX1 wm67_6 ⟨rfl, by decide, rfl⟩ (z_ild_n hX dX11_walk_80 rfl (z_iald hX dX11_walk_81 (z_ild_n hX dX11_walk_82 rfl (z_ald_n hX dX11_walk_83 rfl (z_gr (c := 11) (j := 2) hX dX11_walk_84 rfl inlX11 wm1_20 ⟨rfl, by decide, rfl⟩ (z_gr (c := 5) (j := 6) hX dX11_walk_87 rfl inlX5 wm54_0 ⟨rfl, by decide, rfl⟩ (z_gr (c := 1) (j := 15) hX dX11_walk_90 rfl inlX1 wm67_7 ⟨rfl, by decide, rfl⟩ (z_ild_n hX dX11_walk_93 rfl (z_iald hX dX11_walk_94 (z_cv (c := 9) hX hr dX11_walk_95 hjX9_fill mwX9_fill rfl wm23_16 ⟨wm23_17, wm23_18⟩ ⟨Nat.le_of_ble_eq_true rfl, Nat.le_of_ble_eq_true rfl⟩ (z_ald_n hX dX11_walk_98 rfl (z_ild_n hX dX11_walk_99 rfl (z_cv (c := 11) hX hr dX11_walk_100 hjX11_walkView mwX11_walkView rfl wm67_8 ⟨wm67_9, wm67_10⟩ ⟨Nat.le_of_ble_eq_true rfl, Nat.le_of_ble_eq_true rfl⟩ ((tX11_walk_103 hX hr hq)))))))))))))))
def kX11_walk_23 (r : pu_R) : pu_K := s_ild 2 (s_ald 0 (s_gr 11 2 (s_gr 5 6 (s_gi 1 4 (s_icge (kX11_walk_109 r) (s_ald 0 (s_gr 11 2 (s_gr 5 3 (s_ald 0 (s_gr 11 2 (s_gr 5 6 (s_gr 1 14 (s_ild 2 (s_ai 1 (s_cv r 56 1 10 (s_ifeq (kX11_walk_103 r) (s_ald 0 (s_gr 11 5 (s_ald 0 (s_gr 11 2 (s_ald 0 (s_gr 11 2 (s_gr 5 6 ((kX11_walk_77 r)))))))))))))))))))))))))
theorem vX11_walk_23 : pu_cok2 kX11_walk_23 := fun rf r hr => by
  unfold kX11_walk_23
  exact v_ild (v_ald (v_gr (v_gr (v_gi (v_icge (vX11_walk_109 rf r hr) (v_ald (v_gr (v_gr (v_ald (v_gr (v_gr (v_gr (v_ild (v_ai (v_cv hr (v_ifeq (vX11_walk_103 rf r hr) (v_ald (v_gr (v_ald (v_gr (v_ald (v_gr (v_gr ((vX11_walk_77 rf r hr)))))))))))))))))))))))))
theorem tX11_walk_23 {X : pu_X} {r : pu_R} (hX : pu_H X mdX11_walk) (hr : pu_P X.2.1 X.2.2.2.2.2.2.2.2.2.2.1 r) (hq : ∀ i pc, pu_lp i = some (209, pc) → pu_S X mdX11_walk pc (r i)) : pu_S X mdX11_walk 23 (kX11_walk_23 r) := by
  unfold kX11_walk_23
  exact z_ild_n hX dX11_walk_23 rfl (z_ald_n hX dX11_walk_24 rfl (z_gr (c := 11) (j := 2) hX dX11_walk_25 rfl inlX11 wm1_20 ⟨rfl, by decide, rfl⟩ (z_gr (c := 5) (j := 6) hX dX11_walk_28 rfl inlX5 wm54_0 ⟨rfl, by decide, rfl⟩ (z_gi (c := 1) (j := 4) hX dX11_walk_31 rfl inlX1 wm66_15 ⟨rfl, by decide, rfl⟩ (z_icge hX dX11_walk_34 (by decide) (tX11_walk_109 hX hr hq) (z_ald_n hX dX11_walk_37 rfl (z_gr (c := 11) (j := 2) hX dX11_walk_38 rfl inlX11 wm1_20 ⟨rfl, by decide, rfl⟩ (z_gr (c := 5) (j := 3) hX dX11_walk_41 rfl inlX5 wm11_22 ⟨rfl, by decide, rfl⟩ (z_ald_n hX dX11_walk_44 rfl (z_gr (c := 11) (j := 2) hX dX11_walk_45 rfl inlX11 wm1_20 ⟨rfl, by decide, rfl⟩ (z_gr (c := 5) (j := 6) hX dX11_walk_48 rfl inlX5 wm54_0 ⟨rfl, by decide, rfl⟩ (z_gr (c := 1) (j := 14) hX dX11_walk_51 rfl inlX1 wm67_6 ⟨rfl, by decide, rfl⟩ (z_ild_n hX dX11_walk_54 rfl (z_iald hX dX11_walk_55 (z_cv (c := 10) hX hr dX11_walk_56 hjX10_isStreet mwX10_isStreet rfl wm21_23 ⟨wm22_0, wm22_1⟩ ⟨Nat.le_of_ble_eq_true rfl, Nat.le_of_ble_eq_true rfl⟩ (z_ifeq hX dX11_walk_59 (by decide) (tX11_walk_103 hX hr hq) (z_ald_n hX dX11_walk_62 rfl (z_gr (c := 11) (j := 5) hX dX11_walk_63 rfl inlX11 wm2_5 ⟨rfl, by decide, rfl⟩ (z_ald_n hX dX11_walk_66 rfl (z_gr (c := 11) (j := 2) hX dX11_walk_67 rfl inlX11 wm1_20 ⟨rfl, by decide, rfl⟩ (z_ald_n hX dX11_walk_70 rfl (z_gr (c := 11) (j := 2) hX dX11_walk_71 rfl inlX11 wm1_20 ⟨rfl, by decide, rfl⟩ (z_gr (c := 5) (j := 6) hX dX11_walk_74 rfl inlX5 wm54_0 ⟨rfl, by decide, rfl⟩ ((tX11_walk_77 hX hr hq)))))))))))))))))))))))))
def kX11_walk_10 (r : pu_R) : pu_K := s_ald 0 (s_gr 11 2 (s_gr 5 6 (s_push (.int (0)) (s_pi 1 5 (s_push (.int (0)) (s_ist 2 ((r 420))))))))
theorem vX11_walk_10 : pu_cok2 kX11_walk_10 := fun rf r hr => by
  unfold kX11_walk_10
  exact v_ald (v_gr (v_gr (v_pi (v_puti (v_pi (v_ist ((hr 420))))))))
theorem tX11_walk_10 {X : pu_X} {r : pu_R} (hX : pu_H X mdX11_walk) (hr : pu_P X.2.1 X.2.2.2.2.2.2.2.2.2.2.1 r) (hq : ∀ i pc, pu_lp i = some (209, pc) → pu_S X mdX11_walk pc (r i)) : pu_S X mdX11_walk 10 (kX11_walk_10 r) := by
  unfold kX11_walk_10
  exact z_ald_n hX dX11_walk_10 rfl (z_gr (c := 11) (j := 2) hX dX11_walk_11 rfl inlX11 wm1_20 ⟨rfl, by decide, rfl⟩ (z_gr (c := 5) (j := 6) hX dX11_walk_14 rfl inlX5 wm54_0 ⟨rfl, by decide, rfl⟩ (z_iconst hX dX11_walk_17 (by decide) (z_pi (c := 1) (j := 5) tyX1 tyX1_ok nmX1 hX dX11_walk_18 rfl inlX1 wm67_5 ⟨rfl, by decide⟩ ⟨rfl, rfl⟩ rfl (z_iconst hX dX11_walk_21 (by decide) (z_ist_n hX dX11_walk_22 rfl ((hq 420 23 hl420))))))))
def kX11_walk_0 (r : pu_R) : pu_K := s_ild 1 (s_cs r 18 1 (s_ifne (kX11_walk_10 r) (s_push (.int (-2)) (s_iret))))
theorem vX11_walk_0 : pu_cok2 kX11_walk_0 := fun rf r hr => by
  unfold kX11_walk_0
  exact v_ild (v_cs hr (v_ifne (vX11_walk_10 rf r hr) (v_pi (v_iret))))
theorem tX11_walk_0 {X : pu_X} {r : pu_R} (hX : pu_H X mdX11_walk) (hr : pu_P X.2.1 X.2.2.2.2.2.2.2.2.2.2.1 r) (hq : ∀ i pc, pu_lp i = some (209, pc) → pu_S X mdX11_walk pc (r i)) : pu_S X mdX11_walk 0 (kX11_walk_0 r) := by
  unfold kX11_walk_0
  exact z_ild_n hX dX11_walk_0 rfl (z_cs hX hr dX11_walk_1 hjX11_isDay mwX11_isDay wm10_21 wm10_22 ⟨Nat.le_of_ble_eq_true rfl, Nat.le_of_ble_eq_true rfl⟩ (z_ifne hX dX11_walk_4 (by decide) (tX11_walk_10 hX hr hq) (z_bipush hX dX11_walk_7 (by decide) (z_iret hX dX11_walk_9 rfl))))
def kX11_walked_34 (r : pu_R) : pu_K := s_iret
theorem vX11_walked_34 : pu_cok2 kX11_walked_34 := fun rf r hr => by
  unfold kX11_walked_34
  exact v_iret
theorem tX11_walked_34 {X : pu_X} {r : pu_R} (hX : pu_H X mdX11_walked) (hr : pu_P X.2.1 X.2.2.2.2.2.2.2.2.2.2.1 r) (hq : ∀ i pc, pu_lp i = some (210, pc) → pu_S X mdX11_walked pc (r i)) : pu_S X mdX11_walked 34 (kX11_walked_34 r) := by
  unfold kX11_walked_34
  exact z_iret hX dX11_walked_34 rfl
def kX11_walked_33 (r : pu_R) : pu_K := s_push (.int (-1)) ((kX11_walked_34 r))
theorem vX11_walked_33 : pu_cok2 kX11_walked_33 := fun rf r hr => by
  unfold kX11_walked_33
  exact v_pi ((vX11_walked_34 rf r hr))
theorem tX11_walked_33 {X : pu_X} {r : pu_R} (hX : pu_H X mdX11_walked) (hr : pu_P X.2.1 X.2.2.2.2.2.2.2.2.2.2.1 r) (hq : ∀ i pc, pu_lp i = some (210, pc) → pu_S X mdX11_walked pc (r i)) : pu_S X mdX11_walked 33 (kX11_walked_33 r) := by
  unfold kX11_walked_33
  exact z_iconst hX dX11_walked_33 (by decide) ((tX11_walked_34 hX hr hq))
def kX11_walked_0 (r : pu_R) : pu_K := s_ild 1 (s_iflt (kX11_walked_33 r) (s_ild 1 (s_ald 0 (s_gr 11 2 (s_gr 5 6 (s_gi 1 5 (s_icge (kX11_walked_33 r) (s_ald 0 (s_gr 11 2 (s_gr 5 6 (s_gr 1 16 (s_ild 1 (s_ai 1 ((kX11_walked_34 r)))))))))))))))
theorem vX11_walked_0 : pu_cok2 kX11_walked_0 := fun rf r hr => by
  unfold kX11_walked_0
  exact v_ild (v_iflt (vX11_walked_33 rf r hr) (v_ild (v_ald (v_gr (v_gr (v_gi (v_icge (vX11_walked_33 rf r hr) (v_ald (v_gr (v_gr (v_gr (v_ild (v_ai ((vX11_walked_34 rf r hr)))))))))))))))
theorem tX11_walked_0 {X : pu_X} {r : pu_R} (hX : pu_H X mdX11_walked) (hr : pu_P X.2.1 X.2.2.2.2.2.2.2.2.2.2.1 r) (hq : ∀ i pc, pu_lp i = some (210, pc) → pu_S X mdX11_walked pc (r i)) : pu_S X mdX11_walked 0 (kX11_walked_0 r) := by
  unfold kX11_walked_0
  exact z_ild_n hX dX11_walked_0 rfl (z_iflt hX dX11_walked_1 (by decide) (tX11_walked_33 hX hr hq) (z_ild_n hX dX11_walked_4 rfl (z_ald_n hX dX11_walked_5 rfl (z_gr (c := 11) (j := 2) hX dX11_walked_6 rfl inlX11 wm1_20 ⟨rfl, by decide, rfl⟩ (z_gr (c := 5) (j := 6) hX dX11_walked_9 rfl inlX5 wm54_0 ⟨rfl, by decide, rfl⟩ (z_gi (c := 1) (j := 5) hX dX11_walked_12 rfl inlX1 wm67_5 ⟨rfl, by decide, rfl⟩ (z_icge hX dX11_walked_15 (by decide) (tX11_walked_33 hX hr hq) (z_ald_n hX dX11_walked_18 rfl (z_gr (c := 11) (j := 2) hX dX11_walked_19 rfl inlX11 wm1_20 ⟨rfl, by decide, rfl⟩ (z_gr (c := 5) (j := 6) hX dX11_walked_22 rfl inlX5 wm54_0 ⟨rfl, by decide, rfl⟩ (z_gr (c := 1) (j := 16) hX dX11_walked_25 rfl inlX1 wm69_12 ⟨rfl, by decide, rfl⟩ (z_ild_n hX dX11_walked_28 rfl (z_iald hX dX11_walked_29 ((z_goto hX dX11_walked_30 (by decide) (tX11_walked_34 hX hr hq))))))))))))))))
def kX1_addLetter_29 (r : pu_R) : pu_K := s_ald 0 (s_gi 1 6 (s_iret))
theorem vX1_addLetter_29 : pu_cok2 kX1_addLetter_29 := fun rf r hr => by
  unfold kX1_addLetter_29
  exact v_ald (v_gi (v_iret))
theorem tX1_addLetter_29 {X : pu_X} {r : pu_R} (hX : pu_H X mdX1_addLetter) (hr : pu_P X.2.1 X.2.2.2.2.2.2.2.2.2.2.1 r) (hq : ∀ i pc, pu_lp i = some (211, pc) → pu_S X mdX1_addLetter pc (r i)) : pu_S X mdX1_addLetter 29 (kX1_addLetter_29 r) := by
  unfold kX1_addLetter_29
  exact z_ald_n hX dX1_addLetter_29 rfl (z_gi (c := 1) (j := 6) hX dX1_addLetter_30 rfl inlX1 wm45_23 ⟨rfl, by decide, rfl⟩ (z_iret hX dX1_addLetter_33 rfl))
def kX1_addLetter_0 (r : pu_R) : pu_K := s_ald 0 (s_gi 1 6 (s_push (.int (60)) (s_icge (kX1_addLetter_29 r) (s_ald 0 (s_gr 1 17 (s_ald 0 (s_gi 1 6 (s_ild 1 (s_wi 1 (s_ald 0 (s_dup (s_gi 1 6 (s_push (.int (1)) (s_iadd (s_pi 1 6 ((kX1_addLetter_29 r)))))))))))))))))
theorem vX1_addLetter_0 : pu_cok2 kX1_addLetter_0 := fun rf r hr => by
  unfold kX1_addLetter_0
  exact v_ald (v_gi (v_pi (v_icge (vX1_addLetter_29 rf r hr) (v_ald (v_gr (v_ald (v_gi (v_ild (v_wi (v_ald (v_dup (v_gi (v_pi (v_iadd (v_puti ((vX1_addLetter_29 rf r hr)))))))))))))))))
theorem tX1_addLetter_0 {X : pu_X} {r : pu_R} (hX : pu_H X mdX1_addLetter) (hr : pu_P X.2.1 X.2.2.2.2.2.2.2.2.2.2.1 r) (hq : ∀ i pc, pu_lp i = some (211, pc) → pu_S X mdX1_addLetter pc (r i)) : pu_S X mdX1_addLetter 0 (kX1_addLetter_0 r) := by
  unfold kX1_addLetter_0
  exact z_ald_n hX dX1_addLetter_0 rfl (z_gi (c := 1) (j := 6) hX dX1_addLetter_1 rfl inlX1 wm45_23 ⟨rfl, by decide, rfl⟩ (z_bipush hX dX1_addLetter_4 (by decide) (z_icge hX dX1_addLetter_6 (by decide) (tX1_addLetter_29 hX hr hq) (z_ald_n hX dX1_addLetter_9 rfl (z_gr (c := 1) (j := 17) hX dX1_addLetter_10 rfl inlX1 wm6_17 ⟨rfl, by decide, rfl⟩ (z_ald_n hX dX1_addLetter_13 rfl (z_gi (c := 1) (j := 6) hX dX1_addLetter_14 rfl inlX1 wm45_23 ⟨rfl, by decide, rfl⟩ (z_ild_n hX dX1_addLetter_17 rfl (z_iast hX dX1_addLetter_18 (z_ald_n hX dX1_addLetter_19 rfl (z_dup hX dX1_addLetter_20 (z_gi (c := 1) (j := 6) hX dX1_addLetter_21 rfl inlX1 wm45_23 ⟨rfl, by decide, rfl⟩ (z_iconst hX dX1_addLetter_24 (by decide) (z_iadd hX dX1_addLetter_25 (z_pi (c := 1) (j := 6) tyX1 tyX1_ok nmX1 hX dX1_addLetter_26 rfl inlX1 wm45_23 ⟨rfl, by decide⟩ ⟨rfl, rfl⟩ rfl ((tX1_addLetter_29 hX hr hq)))))))))))))))))
def kX11_letter_48 (r : pu_R) : pu_K := s_ald 0 (s_gr 11 2 (s_gr 5 6 (s_ild 2 (s_cv r 211 1 1 (s_iret)))))
theorem vX11_letter_48 : pu_cok2 kX11_letter_48 := fun rf r hr => by
  unfold kX11_letter_48
  exact v_ald (v_gr (v_gr (v_ild (v_cv hr (v_iret)))))
theorem tX11_letter_48 {X : pu_X} {r : pu_R} (hX : pu_H X mdX11_letter) (hr : pu_P X.2.1 X.2.2.2.2.2.2.2.2.2.2.1 r) (hq : ∀ i pc, pu_lp i = some (212, pc) → pu_S X mdX11_letter pc (r i)) : pu_S X mdX11_letter 48 (kX11_letter_48 r) := by
  unfold kX11_letter_48
  exact z_ald_n hX dX11_letter_48 rfl (z_gr (c := 11) (j := 2) hX dX11_letter_49 rfl inlX11 wm1_20 ⟨rfl, by decide, rfl⟩ (z_gr (c := 5) (j := 6) hX dX11_letter_52 rfl inlX5 wm54_0 ⟨rfl, by decide, rfl⟩ (z_ild_n hX dX11_letter_55 rfl (z_cv (c := 1) hX hr dX11_letter_56 hjX1_addLetter mwX1_addLetter rfl wm69_22 ⟨wm69_23, wm70_0⟩ ⟨Nat.le_of_ble_eq_true rfl, Nat.le_of_ble_eq_true rfl⟩ (z_iret hX dX11_letter_59 rfl)))))
def kX11_letter_30 (r : pu_R) : pu_K := s_ald 0 (s_gr 11 2 (s_gr 5 6 (s_gi 1 6 (s_push (.int (60)) (s_iclt (kX11_letter_48 r) (s_push (.int (-6)) (s_iret)))))))
theorem vX11_letter_30 : pu_cok2 kX11_letter_30 := fun rf r hr => by
  unfold kX11_letter_30
  exact v_ald (v_gr (v_gr (v_gi (v_pi (v_iclt (vX11_letter_48 rf r hr) (v_pi (v_iret)))))))
theorem tX11_letter_30 {X : pu_X} {r : pu_R} (hX : pu_H X mdX11_letter) (hr : pu_P X.2.1 X.2.2.2.2.2.2.2.2.2.2.1 r) (hq : ∀ i pc, pu_lp i = some (212, pc) → pu_S X mdX11_letter pc (r i)) : pu_S X mdX11_letter 30 (kX11_letter_30 r) := by
  unfold kX11_letter_30
  exact z_ald_n hX dX11_letter_30 rfl (z_gr (c := 11) (j := 2) hX dX11_letter_31 rfl inlX11 wm1_20 ⟨rfl, by decide, rfl⟩ (z_gr (c := 5) (j := 6) hX dX11_letter_34 rfl inlX5 wm54_0 ⟨rfl, by decide, rfl⟩ (z_gi (c := 1) (j := 6) hX dX11_letter_37 rfl inlX1 wm69_21 ⟨rfl, by decide, rfl⟩ (z_bipush hX dX11_letter_40 (by decide) (z_iclt hX dX11_letter_42 (by decide) (tX11_letter_48 hX hr hq) (z_bipush hX dX11_letter_45 (by decide) (z_iret hX dX11_letter_47 rfl)))))))
def kX11_letter_17 (r : pu_R) : pu_K := s_ald 0 (s_ild 1 (s_cv r 186 1 11 (s_ist 2 (s_ild 2 (s_push (.int (-1)) (s_icne (kX11_letter_30 r) (s_push (.int (-1)) (s_iret))))))))
theorem vX11_letter_17 : pu_cok2 kX11_letter_17 := fun rf r hr => by
  unfold kX11_letter_17
  exact v_ald (v_ild (v_cv hr (v_ist (v_ild (v_pi (v_icne (vX11_letter_30 rf r hr) (v_pi (v_iret))))))))
theorem tX11_letter_17 {X : pu_X} {r : pu_R} (hX : pu_H X mdX11_letter) (hr : pu_P X.2.1 X.2.2.2.2.2.2.2.2.2.2.1 r) (hq : ∀ i pc, pu_lp i = some (212, pc) → pu_S X mdX11_letter pc (r i)) : pu_S X mdX11_letter 17 (kX11_letter_17 r) := by
  unfold kX11_letter_17
  exact z_ald_n hX dX11_letter_17 rfl (z_ild_n hX dX11_letter_18 rfl (z_cv (c := 11) hX hr dX11_letter_19 hjX11_sureDoor mwX11_sureDoor rfl wm61_22 ⟨wm61_23, wm62_0⟩ ⟨Nat.le_of_ble_eq_true rfl, Nat.le_of_ble_eq_true rfl⟩ (z_ist_n hX dX11_letter_22 rfl (z_ild_n hX dX11_letter_23 rfl (z_iconst hX dX11_letter_24 (by decide) (z_icne hX dX11_letter_25 (by decide) (tX11_letter_30 hX hr hq) (z_iconst hX dX11_letter_28 (by decide) (z_iret hX dX11_letter_29 rfl))))))))
def kX11_letter_14 (r : pu_R) : pu_K := s_push (.int (-2)) (s_iret)
theorem vX11_letter_14 : pu_cok2 kX11_letter_14 := fun rf r hr => by
  unfold kX11_letter_14
  exact v_pi (v_iret)
theorem tX11_letter_14 {X : pu_X} {r : pu_R} (hX : pu_H X mdX11_letter) (hr : pu_P X.2.1 X.2.2.2.2.2.2.2.2.2.2.1 r) (hq : ∀ i pc, pu_lp i = some (212, pc) → pu_S X mdX11_letter pc (r i)) : pu_S X mdX11_letter 14 (kX11_letter_14 r) := by
  unfold kX11_letter_14
  exact z_bipush hX dX11_letter_14 (by decide) (z_iret hX dX11_letter_16 rfl)
def kX11_letter_0 (r : pu_R) : pu_K := s_ald 0 (s_cv r 171 0 11 (s_ifeq (kX11_letter_14 r) (s_ild 1 (s_cs r 18 1 (s_ifne (kX11_letter_17 r) ((kX11_letter_14 r)))))))
theorem vX11_letter_0 : pu_cok2 kX11_letter_0 := fun rf r hr => by
  unfold kX11_letter_0
  exact v_ald (v_cv hr (v_ifeq (vX11_letter_14 rf r hr) (v_ild (v_cs hr (v_ifne (vX11_letter_17 rf r hr) ((vX11_letter_14 rf r hr)))))))
theorem tX11_letter_0 {X : pu_X} {r : pu_R} (hX : pu_H X mdX11_letter) (hr : pu_P X.2.1 X.2.2.2.2.2.2.2.2.2.2.1 r) (hq : ∀ i pc, pu_lp i = some (212, pc) → pu_S X mdX11_letter pc (r i)) : pu_S X mdX11_letter 0 (kX11_letter_0 r) := by
  unfold kX11_letter_0
  exact z_ald_n hX dX11_letter_0 rfl (z_cv (c := 11) hX hr dX11_letter_1 hjX11_readAddress mwX11_readAddress rfl wm54_3 ⟨wm54_4, wm54_5⟩ ⟨Nat.le_of_ble_eq_true rfl, Nat.le_of_ble_eq_true rfl⟩ (z_ifeq hX dX11_letter_4 (by decide) (tX11_letter_14 hX hr hq) (z_ild_n hX dX11_letter_7 rfl (z_cs hX hr dX11_letter_8 hjX11_isDay mwX11_isDay wm10_21 wm10_22 ⟨Nat.le_of_ble_eq_true rfl, Nat.le_of_ble_eq_true rfl⟩ (z_ifne hX dX11_letter_11 (by decide) (tX11_letter_17 hX hr hq) ((tX11_letter_14 hX hr hq)))))))
def kX1_addSorted_44 (r : pu_R) : pu_K := s_vret
theorem vX1_addSorted_44 : pu_cok2 kX1_addSorted_44 := fun rf r hr => by
  unfold kX1_addSorted_44
  exact v_vret
theorem tX1_addSorted_44 {X : pu_X} {r : pu_R} (hX : pu_H X mdX1_addSorted) (hr : pu_P X.2.1 X.2.2.2.2.2.2.2.2.2.2.1 r) (hq : ∀ i pc, pu_lp i = some (213, pc) → pu_S X mdX1_addSorted pc (r i)) : pu_S X mdX1_addSorted 44 (kX1_addSorted_44 r) := by
  unfold kX1_addSorted_44
  exact z_vret hX dX1_addSorted_44 rfl
def kX1_addSorted_41 (r : pu_R) : pu_K := s_pi 1 7 ((kX1_addSorted_44 r))
theorem vX1_addSorted_41 : pu_cok2 kX1_addSorted_41 := fun rf r hr => by
  unfold kX1_addSorted_41
  exact v_puti ((vX1_addSorted_44 rf r hr))
theorem tX1_addSorted_41 {X : pu_X} {r : pu_R} (hX : pu_H X mdX1_addSorted) (hr : pu_P X.2.1 X.2.2.2.2.2.2.2.2.2.2.1 r) (hq : ∀ i pc, pu_lp i = some (213, pc) → pu_S X mdX1_addSorted pc (r i)) : pu_S X mdX1_addSorted 41 (kX1_addSorted_41 r) := by
  unfold kX1_addSorted_41
  exact z_pi (c := 1) (j := 7) tyX1 tyX1_ok nmX1 hX dX1_addSorted_41 rfl inlX1 wm46_0 ⟨rfl, by decide⟩ ⟨rfl, rfl⟩ rfl ((tX1_addSorted_44 hX hr hq))
def kX1_addSorted_0 (r : pu_R) : pu_K := s_ald 0 (s_gi 1 7 (s_push (.int (60)) (s_icge (kX1_addSorted_44 r) (s_ald 0 (s_gr 1 18 (s_ald 0 (s_gi 1 7 (s_ild 1 (s_wi 1 (s_ald 0 (s_gr 1 19 (s_ald 0 (s_gi 1 7 (s_ald 0 (s_gr 1 17 (s_ild 1 (s_ai 1 (s_wi 1 (s_ald 0 (s_dup (s_gi 1 7 (s_push (.int (1)) (s_iadd ((kX1_addSorted_41 r)))))))))))))))))))))))))
theorem vX1_addSorted_0 : pu_cok2 kX1_addSorted_0 := fun rf r hr => by
  unfold kX1_addSorted_0
  exact v_ald (v_gi (v_pi (v_icge (vX1_addSorted_44 rf r hr) (v_ald (v_gr (v_ald (v_gi (v_ild (v_wi (v_ald (v_gr (v_ald (v_gi (v_ald (v_gr (v_ild (v_ai (v_wi (v_ald (v_dup (v_gi (v_pi (v_iadd ((vX1_addSorted_41 rf r hr)))))))))))))))))))))))))
theorem tX1_addSorted_0 {X : pu_X} {r : pu_R} (hX : pu_H X mdX1_addSorted) (hr : pu_P X.2.1 X.2.2.2.2.2.2.2.2.2.2.1 r) (hq : ∀ i pc, pu_lp i = some (213, pc) → pu_S X mdX1_addSorted pc (r i)) : pu_S X mdX1_addSorted 0 (kX1_addSorted_0 r) := by
  unfold kX1_addSorted_0
  exact z_ald_n hX dX1_addSorted_0 rfl (z_gi (c := 1) (j := 7) hX dX1_addSorted_1 rfl inlX1 wm46_0 ⟨rfl, by decide, rfl⟩ (z_bipush hX dX1_addSorted_4 (by decide) (z_icge hX dX1_addSorted_6 (by decide) (tX1_addSorted_44 hX hr hq) (z_ald_n hX dX1_addSorted_9 rfl (z_gr (c := 1) (j := 18) hX dX1_addSorted_10 rfl inlX1 wm6_18 ⟨rfl, by decide, rfl⟩ (z_ald_n hX dX1_addSorted_13 rfl (z_gi (c := 1) (j := 7) hX dX1_addSorted_14 rfl inlX1 wm46_0 ⟨rfl, by decide, rfl⟩ (z_ild_n hX dX1_addSorted_17 rfl (z_iast hX dX1_addSorted_18 (z_ald_n hX dX1_addSorted_19 rfl (z_gr (c := 1) (j := 19) hX dX1_addSorted_20 rfl inlX1 wm6_19 ⟨rfl, by decide, rfl⟩ (z_ald_n hX dX1_addSorted_23 rfl (z_gi (c := 1) (j := 7) hX dX1_addSorted_24 rfl inlX1 wm46_0 ⟨rfl, by decide, rfl⟩ (z_ald_n hX dX1_addSorted_27 rfl (z_gr (c := 1) (j := 17) hX dX1_addSorted_28 rfl inlX1 wm6_17 ⟨rfl, by decide, rfl⟩ (z_ild_n hX dX1_addSorted_31 rfl (z_iald hX dX1_addSorted_32 (z_iast hX dX1_addSorted_33 (z_ald_n hX dX1_addSorted_34 rfl (z_dup hX dX1_addSorted_35 (z_gi (c := 1) (j := 7) hX dX1_addSorted_36 rfl inlX1 wm46_0 ⟨rfl, by decide, rfl⟩ (z_iconst hX dX1_addSorted_39 (by decide) (z_iadd hX dX1_addSorted_40 ((tX1_addSorted_41 hX hr hq)))))))))))))))))))))))))
def kX1_sortLettersOf_31 (r : pu_R) : pu_K := s_vret
theorem vX1_sortLettersOf_31 : pu_cok2 kX1_sortLettersOf_31 := fun rf r hr => by
  unfold kX1_sortLettersOf_31
  exact v_vret
theorem tX1_sortLettersOf_31 {X : pu_X} {r : pu_R} (hX : pu_H X mdX1_sortLettersOf) (hr : pu_P X.2.1 X.2.2.2.2.2.2.2.2.2.2.1 r) (hq : ∀ i pc, pu_lp i = some (214, pc) → pu_S X mdX1_sortLettersOf pc (r i)) : pu_S X mdX1_sortLettersOf 31 (kX1_sortLettersOf_31 r) := by
  unfold kX1_sortLettersOf_31
  exact z_vret hX dX1_sortLettersOf_31 rfl
def kX1_sortLettersOf_25 (r : pu_R) : pu_K := s_inc 2 (1) ((r 421))
theorem vX1_sortLettersOf_25 : pu_cok2 kX1_sortLettersOf_25 := fun rf r hr => by
  unfold kX1_sortLettersOf_25
  exact v_inc ((hr 421))
theorem tX1_sortLettersOf_25 {X : pu_X} {r : pu_R} (hX : pu_H X mdX1_sortLettersOf) (hr : pu_P X.2.1 X.2.2.2.2.2.2.2.2.2.2.1 r) (hq : ∀ i pc, pu_lp i = some (214, pc) → pu_S X mdX1_sortLettersOf pc (r i)) : pu_S X mdX1_sortLettersOf 25 (kX1_sortLettersOf_25 r) := by
  unfold kX1_sortLettersOf_25
  exact z_inc hX dX1_sortLettersOf_25 (by decide) ((z_goto hX dX1_sortLettersOf_28 (by decide) (hq 421 2 hl421)))
def kX1_sortLettersOf_2 (r : pu_R) : pu_K := s_ild 2 (s_ald 0 (s_gi 1 6 (s_icge (kX1_sortLettersOf_31 r) (s_ald 0 (s_gr 1 17 (s_ild 2 (s_ai 1 (s_ild 1 (s_icne (kX1_sortLettersOf_25 r) (s_ald 0 (s_ild 2 (s_cv r 213 1 1 ((kX1_sortLettersOf_25 r))))))))))))))
theorem vX1_sortLettersOf_2 : pu_cok2 kX1_sortLettersOf_2 := fun rf r hr => by
  unfold kX1_sortLettersOf_2
  exact v_ild (v_ald (v_gi (v_icge (vX1_sortLettersOf_31 rf r hr) (v_ald (v_gr (v_ild (v_ai (v_ild (v_icne (vX1_sortLettersOf_25 rf r hr) (v_ald (v_ild (v_cv hr ((vX1_sortLettersOf_25 rf r hr))))))))))))))
theorem tX1_sortLettersOf_2 {X : pu_X} {r : pu_R} (hX : pu_H X mdX1_sortLettersOf) (hr : pu_P X.2.1 X.2.2.2.2.2.2.2.2.2.2.1 r) (hq : ∀ i pc, pu_lp i = some (214, pc) → pu_S X mdX1_sortLettersOf pc (r i)) : pu_S X mdX1_sortLettersOf 2 (kX1_sortLettersOf_2 r) := by
  unfold kX1_sortLettersOf_2
  exact z_ild_n hX dX1_sortLettersOf_2 rfl (z_ald_n hX dX1_sortLettersOf_3 rfl (z_gi (c := 1) (j := 6) hX dX1_sortLettersOf_4 rfl inlX1 wm45_23 ⟨rfl, by decide, rfl⟩ (z_icge hX dX1_sortLettersOf_7 (by decide) (tX1_sortLettersOf_31 hX hr hq) (z_ald_n hX dX1_sortLettersOf_10 rfl (z_gr (c := 1) (j := 17) hX dX1_sortLettersOf_11 rfl inlX1 wm6_17 ⟨rfl, by decide, rfl⟩ (z_ild_n hX dX1_sortLettersOf_14 rfl (z_iald hX dX1_sortLettersOf_15 (z_ild_n hX dX1_sortLettersOf_16 rfl (z_icne hX dX1_sortLettersOf_17 (by decide) (tX1_sortLettersOf_25 hX hr hq) (z_ald_n hX dX1_sortLettersOf_20 rfl (z_ild_n hX dX1_sortLettersOf_21 rfl (z_cv (c := 1) hX hr dX1_sortLettersOf_22 hjX1_addSorted mwX1_addSorted rfl wm70_19 ⟨wm70_20, wm70_21⟩ ⟨Nat.le_of_ble_eq_true rfl, Nat.le_of_ble_eq_true rfl⟩ ((tX1_sortLettersOf_25 hX hr hq))))))))))))))
def kX1_sortLettersOf_0 (r : pu_R) : pu_K := s_push (.int (0)) (s_ist 2 ((r 421)))
theorem vX1_sortLettersOf_0 : pu_cok2 kX1_sortLettersOf_0 := fun rf r hr => by
  unfold kX1_sortLettersOf_0
  exact v_pi (v_ist ((hr 421)))
theorem tX1_sortLettersOf_0 {X : pu_X} {r : pu_R} (hX : pu_H X mdX1_sortLettersOf) (hr : pu_P X.2.1 X.2.2.2.2.2.2.2.2.2.2.1 r) (hq : ∀ i pc, pu_lp i = some (214, pc) → pu_S X mdX1_sortLettersOf pc (r i)) : pu_S X mdX1_sortLettersOf 0 (kX1_sortLettersOf_0 r) := by
  unfold kX1_sortLettersOf_0
  exact z_iconst hX dX1_sortLettersOf_0 (by decide) (z_ist_n hX dX1_sortLettersOf_1 rfl ((hq 421 2 hl421)))
def kX1_sortLetters_66 (r : pu_R) : pu_K := s_ald 0 (s_push (.int (0)) (s_pi 1 6 (s_ald 0 (s_gi 1 7 (s_iret)))))
theorem vX1_sortLetters_66 : pu_cok2 kX1_sortLetters_66 := fun rf r hr => by
  unfold kX1_sortLetters_66
  exact v_ald (v_pi (v_puti (v_ald (v_gi (v_iret)))))
theorem tX1_sortLetters_66 {X : pu_X} {r : pu_R} (hX : pu_H X mdX1_sortLetters) (hr : pu_P X.2.1 X.2.2.2.2.2.2.2.2.2.2.1 r) (hq : ∀ i pc, pu_lp i = some (215, pc) → pu_S X mdX1_sortLetters pc (r i)) : pu_S X mdX1_sortLetters 66 (kX1_sortLetters_66 r) := by
  unfold kX1_sortLetters_66
  exact z_ald_n hX dX1_sortLetters_66 rfl (z_iconst hX dX1_sortLetters_67 (by decide) (z_pi (c := 1) (j := 6) tyX1 tyX1_ok nmX1 hX dX1_sortLetters_68 rfl inlX1 wm45_23 ⟨rfl, by decide⟩ ⟨rfl, rfl⟩ rfl (z_ald_n hX dX1_sortLetters_71 rfl (z_gi (c := 1) (j := 7) hX dX1_sortLetters_72 rfl inlX1 wm46_0 ⟨rfl, by decide, rfl⟩ (z_iret hX dX1_sortLetters_75 rfl)))))
def kX1_sortLetters_60 (r : pu_R) : pu_K := s_inc 1 (1) ((r 423))
theorem vX1_sortLetters_60 : pu_cok2 kX1_sortLetters_60 := fun rf r hr => by
  unfold kX1_sortLetters_60
  exact v_inc ((hr 423))
theorem tX1_sortLetters_60 {X : pu_X} {r : pu_R} (hX : pu_H X mdX1_sortLetters) (hr : pu_P X.2.1 X.2.2.2.2.2.2.2.2.2.2.1 r) (hq : ∀ i pc, pu_lp i = some (215, pc) → pu_S X mdX1_sortLetters pc (r i)) : pu_S X mdX1_sortLetters 60 (kX1_sortLetters_60 r) := by
  unfold kX1_sortLetters_60
  exact z_inc hX dX1_sortLetters_60 (by decide) ((z_goto hX dX1_sortLetters_63 (by decide) (hq 423 33 hl423)))
def kX1_sortLetters_33 (r : pu_R) : pu_K := s_ild 1 (s_ald 0 (s_gi 1 6 (s_icge (kX1_sortLetters_66 r) (s_ald 0 (s_ald 0 (s_gr 1 17 (s_ild 1 (s_ai 1 (s_cv r 203 1 1 (s_push (.int (-1)) (s_icne (kX1_sortLetters_60 r) (s_ald 0 (s_ild 1 (s_cv r 213 1 1 ((kX1_sortLetters_60 r))))))))))))))))
theorem vX1_sortLetters_33 : pu_cok2 kX1_sortLetters_33 := fun rf r hr => by
  unfold kX1_sortLetters_33
  exact v_ild (v_ald (v_gi (v_icge (vX1_sortLetters_66 rf r hr) (v_ald (v_ald (v_gr (v_ild (v_ai (v_cv hr (v_pi (v_icne (vX1_sortLetters_60 rf r hr) (v_ald (v_ild (v_cv hr ((vX1_sortLetters_60 rf r hr))))))))))))))))
theorem tX1_sortLetters_33 {X : pu_X} {r : pu_R} (hX : pu_H X mdX1_sortLetters) (hr : pu_P X.2.1 X.2.2.2.2.2.2.2.2.2.2.1 r) (hq : ∀ i pc, pu_lp i = some (215, pc) → pu_S X mdX1_sortLetters pc (r i)) : pu_S X mdX1_sortLetters 33 (kX1_sortLetters_33 r) := by
  unfold kX1_sortLetters_33
  exact z_ild_n hX dX1_sortLetters_33 rfl (z_ald_n hX dX1_sortLetters_34 rfl (z_gi (c := 1) (j := 6) hX dX1_sortLetters_35 rfl inlX1 wm45_23 ⟨rfl, by decide, rfl⟩ (z_icge hX dX1_sortLetters_38 (by decide) (tX1_sortLetters_66 hX hr hq) (z_ald_n hX dX1_sortLetters_41 rfl (z_ald_n hX dX1_sortLetters_42 rfl (z_gr (c := 1) (j := 17) hX dX1_sortLetters_43 rfl inlX1 wm6_17 ⟨rfl, by decide, rfl⟩ (z_ild_n hX dX1_sortLetters_46 rfl (z_iald hX dX1_sortLetters_47 (z_cv (c := 1) hX hr dX1_sortLetters_48 hjX1_whenWalked mwX1_whenWalked rfl wm70_23 ⟨wm67_13, wm67_14⟩ ⟨Nat.le_of_ble_eq_true rfl, Nat.le_of_ble_eq_true rfl⟩ (z_iconst hX dX1_sortLetters_51 (by decide) (z_icne hX dX1_sortLetters_52 (by decide) (tX1_sortLetters_60 hX hr hq) (z_ald_n hX dX1_sortLetters_55 rfl (z_ild_n hX dX1_sortLetters_56 rfl (z_cv (c := 1) hX hr dX1_sortLetters_57 hjX1_addSorted mwX1_addSorted rfl wm70_19 ⟨wm70_20, wm70_21⟩ ⟨Nat.le_of_ble_eq_true rfl, Nat.le_of_ble_eq_true rfl⟩ ((tX1_sortLetters_60 hX hr hq))))))))))))))))
def kX1_sortLetters_31 (r : pu_R) : pu_K := s_push (.int (0)) (s_ist 1 ((r 423)))
theorem vX1_sortLetters_31 : pu_cok2 kX1_sortLetters_31 := fun rf r hr => by
  unfold kX1_sortLetters_31
  exact v_pi (v_ist ((hr 423)))
theorem tX1_sortLetters_31 {X : pu_X} {r : pu_R} (hX : pu_H X mdX1_sortLetters) (hr : pu_P X.2.1 X.2.2.2.2.2.2.2.2.2.2.1 r) (hq : ∀ i pc, pu_lp i = some (215, pc) → pu_S X mdX1_sortLetters pc (r i)) : pu_S X mdX1_sortLetters 31 (kX1_sortLetters_31 r) := by
  unfold kX1_sortLetters_31
  exact z_iconst hX dX1_sortLetters_31 (by decide) (z_ist_n hX dX1_sortLetters_32 rfl ((hq 423 33 hl423)))
def kX1_sortLetters_7 (r : pu_R) : pu_K := s_ild 1 (s_ald 0 (s_gi 1 5 (s_icge (kX1_sortLetters_31 r) (s_ald 0 (s_ald 0 (s_gr 1 16 (s_ild 1 (s_ai 1 (s_cv r 214 1 1 (s_inc 1 (1) ((r 422))))))))))))
theorem vX1_sortLetters_7 : pu_cok2 kX1_sortLetters_7 := fun rf r hr => by
  unfold kX1_sortLetters_7
  exact v_ild (v_ald (v_gi (v_icge (vX1_sortLetters_31 rf r hr) (v_ald (v_ald (v_gr (v_ild (v_ai (v_cv hr (v_inc ((hr 422))))))))))))
theorem tX1_sortLetters_7 {X : pu_X} {r : pu_R} (hX : pu_H X mdX1_sortLetters) (hr : pu_P X.2.1 X.2.2.2.2.2.2.2.2.2.2.1 r) (hq : ∀ i pc, pu_lp i = some (215, pc) → pu_S X mdX1_sortLetters pc (r i)) : pu_S X mdX1_sortLetters 7 (kX1_sortLetters_7 r) := by
  unfold kX1_sortLetters_7
  exact z_ild_n hX dX1_sortLetters_7 rfl (z_ald_n hX dX1_sortLetters_8 rfl (z_gi (c := 1) (j := 5) hX dX1_sortLetters_9 rfl inlX1 wm45_22 ⟨rfl, by decide, rfl⟩ (z_icge hX dX1_sortLetters_12 (by decide) (tX1_sortLetters_31 hX hr hq) (z_ald_n hX dX1_sortLetters_15 rfl (z_ald_n hX dX1_sortLetters_16 rfl (z_gr (c := 1) (j := 16) hX dX1_sortLetters_17 rfl inlX1 wm6_16 ⟨rfl, by decide, rfl⟩ (z_ild_n hX dX1_sortLetters_20 rfl (z_iald hX dX1_sortLetters_21 (z_cv (c := 1) hX hr dX1_sortLetters_22 hjX1_sortLettersOf mwX1_sortLettersOf rfl wm70_15 ⟨wm70_16, wm70_17⟩ ⟨Nat.le_of_ble_eq_true rfl, Nat.le_of_ble_eq_true rfl⟩ (z_inc hX dX1_sortLetters_25 (by decide) ((z_goto hX dX1_sortLetters_28 (by decide) (hq 422 7 hl422)))))))))))))
def kX1_sortLetters_0 (r : pu_R) : pu_K := s_ald 0 (s_push (.int (0)) (s_pi 1 7 (s_push (.int (0)) (s_ist 1 ((r 422))))))
theorem vX1_sortLetters_0 : pu_cok2 kX1_sortLetters_0 := fun rf r hr => by
  unfold kX1_sortLetters_0
  exact v_ald (v_pi (v_puti (v_pi (v_ist ((hr 422))))))
theorem tX1_sortLetters_0 {X : pu_X} {r : pu_R} (hX : pu_H X mdX1_sortLetters) (hr : pu_P X.2.1 X.2.2.2.2.2.2.2.2.2.2.1 r) (hq : ∀ i pc, pu_lp i = some (215, pc) → pu_S X mdX1_sortLetters pc (r i)) : pu_S X mdX1_sortLetters 0 (kX1_sortLetters_0 r) := by
  unfold kX1_sortLetters_0
  exact z_ald_n hX dX1_sortLetters_0 rfl (z_iconst hX dX1_sortLetters_1 (by decide) (z_pi (c := 1) (j := 7) tyX1 tyX1_ok nmX1 hX dX1_sortLetters_2 rfl inlX1 wm46_0 ⟨rfl, by decide⟩ ⟨rfl, rfl⟩ rfl (z_iconst hX dX1_sortLetters_5 (by decide) (z_ist_n hX dX1_sortLetters_6 rfl ((hq 422 7 hl422))))))
def kX11_sort_0 (r : pu_R) : pu_K := s_ald 0 (s_gr 11 2 (s_gr 5 6 (s_cv r 215 0 1 (s_iret))))
theorem vX11_sort_0 : pu_cok2 kX11_sort_0 := fun rf r hr => by
  unfold kX11_sort_0
  exact v_ald (v_gr (v_gr (v_cv hr (v_iret))))
theorem tX11_sort_0 {X : pu_X} {r : pu_R} (hX : pu_H X mdX11_sort) (hr : pu_P X.2.1 X.2.2.2.2.2.2.2.2.2.2.1 r) (hq : ∀ i pc, pu_lp i = some (216, pc) → pu_S X mdX11_sort pc (r i)) : pu_S X mdX11_sort 0 (kX11_sort_0 r) := by
  unfold kX11_sort_0
  exact z_ald_n hX dX11_sort_0 rfl (z_gr (c := 11) (j := 2) hX dX11_sort_1 rfl inlX11 wm1_20 ⟨rfl, by decide, rfl⟩ (z_gr (c := 5) (j := 6) hX dX11_sort_4 rfl inlX5 wm54_0 ⟨rfl, by decide, rfl⟩ (z_cv (c := 1) hX hr dX11_sort_7 hjX1_sortLetters mwX1_sortLetters rfl wm70_11 ⟨wm70_12, wm70_13⟩ ⟨Nat.le_of_ble_eq_true rfl, Nat.le_of_ble_eq_true rfl⟩ (z_iret hX dX11_sort_10 rfl))))
def kX11_sorted_58 (r : pu_R) : pu_K := s_iret
theorem vX11_sorted_58 : pu_cok2 kX11_sorted_58 := fun rf r hr => by
  unfold kX11_sorted_58
  exact v_iret
theorem tX11_sorted_58 {X : pu_X} {r : pu_R} (hX : pu_H X mdX11_sorted) (hr : pu_P X.2.1 X.2.2.2.2.2.2.2.2.2.2.1 r) (hq : ∀ i pc, pu_lp i = some (217, pc) → pu_S X mdX11_sorted pc (r i)) : pu_S X mdX11_sorted 58 (kX11_sorted_58 r) := by
  unfold kX11_sorted_58
  exact z_iret hX dX11_sorted_58 rfl
def kX11_sorted_57 (r : pu_R) : pu_K := s_push (.int (-1)) ((kX11_sorted_58 r))
theorem vX11_sorted_57 : pu_cok2 kX11_sorted_57 := fun rf r hr => by
  unfold kX11_sorted_57
  exact v_pi ((vX11_sorted_58 rf r hr))
theorem tX11_sorted_57 {X : pu_X} {r : pu_R} (hX : pu_H X mdX11_sorted) (hr : pu_P X.2.1 X.2.2.2.2.2.2.2.2.2.2.1 r) (hq : ∀ i pc, pu_lp i = some (217, pc) → pu_S X mdX11_sorted pc (r i)) : pu_S X mdX11_sorted 57 (kX11_sorted_57 r) := by
  unfold kX11_sorted_57
  exact z_iconst hX dX11_sorted_57 (by decide) ((tX11_sorted_58 hX hr hq))
def kX11_sorted_37 (r : pu_R) : pu_K := s_ild 2 (s_push (.int (1)) (s_icne (kX11_sorted_57 r) (s_ald 0 (s_gr 11 2 (s_gr 5 6 (s_gr 1 19 (s_ild 1 (s_ai 1 ((kX11_sorted_58 r))))))))))
theorem vX11_sorted_37 : pu_cok2 kX11_sorted_37 := fun rf r hr => by
  unfold kX11_sorted_37
  exact v_ild (v_pi (v_icne (vX11_sorted_57 rf r hr) (v_ald (v_gr (v_gr (v_gr (v_ild (v_ai ((vX11_sorted_58 rf r hr))))))))))
theorem tX11_sorted_37 {X : pu_X} {r : pu_R} (hX : pu_H X mdX11_sorted) (hr : pu_P X.2.1 X.2.2.2.2.2.2.2.2.2.2.1 r) (hq : ∀ i pc, pu_lp i = some (217, pc) → pu_S X mdX11_sorted pc (r i)) : pu_S X mdX11_sorted 37 (kX11_sorted_37 r) := by
  unfold kX11_sorted_37
  exact z_ild_n hX dX11_sorted_37 rfl (z_iconst hX dX11_sorted_38 (by decide) (z_icne hX dX11_sorted_39 (by decide) (tX11_sorted_57 hX hr hq) (z_ald_n hX dX11_sorted_42 rfl (z_gr (c := 11) (j := 2) hX dX11_sorted_43 rfl inlX11 wm1_20 ⟨rfl, by decide, rfl⟩ (z_gr (c := 5) (j := 6) hX dX11_sorted_46 rfl inlX5 wm54_0 ⟨rfl, by decide, rfl⟩ (z_gr (c := 1) (j := 19) hX dX11_sorted_49 rfl inlX1 wm71_11 ⟨rfl, by decide, rfl⟩ (z_ild_n hX dX11_sorted_52 rfl (z_iald hX dX11_sorted_53 ((z_goto hX dX11_sorted_54 (by decide) (tX11_sorted_58 hX hr hq)))))))))))
def kX11_sorted_20 (r : pu_R) : pu_K := s_ild 2 (s_ifne (kX11_sorted_37 r) (s_ald 0 (s_gr 11 2 (s_gr 5 6 (s_gr 1 18 (s_ild 1 (s_ai 1 (s_iret))))))))
theorem vX11_sorted_20 : pu_cok2 kX11_sorted_20 := fun rf r hr => by
  unfold kX11_sorted_20
  exact v_ild (v_ifne (vX11_sorted_37 rf r hr) (v_ald (v_gr (v_gr (v_gr (v_ild (v_ai (v_iret))))))))
theorem tX11_sorted_20 {X : pu_X} {r : pu_R} (hX : pu_H X mdX11_sorted) (hr : pu_P X.2.1 X.2.2.2.2.2.2.2.2.2.2.1 r) (hq : ∀ i pc, pu_lp i = some (217, pc) → pu_S X mdX11_sorted pc (r i)) : pu_S X mdX11_sorted 20 (kX11_sorted_20 r) := by
  unfold kX11_sorted_20
  exact z_ild_n hX dX11_sorted_20 rfl (z_ifne hX dX11_sorted_21 (by decide) (tX11_sorted_37 hX hr hq) (z_ald_n hX dX11_sorted_24 rfl (z_gr (c := 11) (j := 2) hX dX11_sorted_25 rfl inlX11 wm1_20 ⟨rfl, by decide, rfl⟩ (z_gr (c := 5) (j := 6) hX dX11_sorted_28 rfl inlX5 wm54_0 ⟨rfl, by decide, rfl⟩ (z_gr (c := 1) (j := 18) hX dX11_sorted_31 rfl inlX1 wm71_10 ⟨rfl, by decide, rfl⟩ (z_ild_n hX dX11_sorted_34 rfl (z_iald hX dX11_sorted_35 (z_iret hX dX11_sorted_36 rfl))))))))
def kX11_sorted_18 (r : pu_R) : pu_K := s_push (.int (-1)) (s_iret)
theorem vX11_sorted_18 : pu_cok2 kX11_sorted_18 := fun rf r hr => by
  unfold kX11_sorted_18
  exact v_pi (v_iret)
theorem tX11_sorted_18 {X : pu_X} {r : pu_R} (hX : pu_H X mdX11_sorted) (hr : pu_P X.2.1 X.2.2.2.2.2.2.2.2.2.2.1 r) (hq : ∀ i pc, pu_lp i = some (217, pc) → pu_S X mdX11_sorted pc (r i)) : pu_S X mdX11_sorted 18 (kX11_sorted_18 r) := by
  unfold kX11_sorted_18
  exact z_iconst hX dX11_sorted_18 (by decide) (z_iret hX dX11_sorted_19 rfl)
def kX11_sorted_0 (r : pu_R) : pu_K := s_ild 1 (s_iflt (kX11_sorted_18 r) (s_ild 1 (s_ald 0 (s_gr 11 2 (s_gr 5 6 (s_gi 1 7 (s_iclt (kX11_sorted_20 r) ((kX11_sorted_18 r)))))))))
theorem vX11_sorted_0 : pu_cok2 kX11_sorted_0 := fun rf r hr => by
  unfold kX11_sorted_0
  exact v_ild (v_iflt (vX11_sorted_18 rf r hr) (v_ild (v_ald (v_gr (v_gr (v_gi (v_iclt (vX11_sorted_20 rf r hr) ((vX11_sorted_18 rf r hr)))))))))
theorem tX11_sorted_0 {X : pu_X} {r : pu_R} (hX : pu_H X mdX11_sorted) (hr : pu_P X.2.1 X.2.2.2.2.2.2.2.2.2.2.1 r) (hq : ∀ i pc, pu_lp i = some (217, pc) → pu_S X mdX11_sorted pc (r i)) : pu_S X mdX11_sorted 0 (kX11_sorted_0 r) := by
  unfold kX11_sorted_0
  exact z_ild_n hX dX11_sorted_0 rfl (z_iflt hX dX11_sorted_1 (by decide) (tX11_sorted_18 hX hr hq) (z_ild_n hX dX11_sorted_4 rfl (z_ald_n hX dX11_sorted_5 rfl (z_gr (c := 11) (j := 2) hX dX11_sorted_6 rfl inlX11 wm1_20 ⟨rfl, by decide, rfl⟩ (z_gr (c := 5) (j := 6) hX dX11_sorted_9 rfl inlX5 wm54_0 ⟨rfl, by decide, rfl⟩ (z_gi (c := 1) (j := 7) hX dX11_sorted_12 rfl inlX1 wm71_9 ⟨rfl, by decide, rfl⟩ (z_iclt hX dX11_sorted_15 (by decide) (tX11_sorted_20 hX hr hq) ((tX11_sorted_18 hX hr hq)))))))))
def kJ7_fill_53178_20 (r : pu_R) : pu_K := s_vret
theorem vJ7_fill_53178_20 : pu_cok2 kJ7_fill_53178_20 := fun rf r hr => by
  unfold kJ7_fill_53178_20
  exact v_vret
theorem tJ7_fill_53178_20 {X : pu_X} {r : pu_R} (hX : pu_H X mdJ7_fill_53178) (hr : pu_P X.2.1 X.2.2.2.2.2.2.2.2.2.2.1 r) (hq : ∀ i pc, pu_lp i = some (218, pc) → pu_S X mdJ7_fill_53178 pc (r i)) : pu_S X mdJ7_fill_53178 20 (kJ7_fill_53178_20 r) := by
  unfold kJ7_fill_53178_20
  exact z_vret hX dJ7_fill_53178_20 rfl
def kJ7_fill_53178_5 (r : pu_R) : pu_K := s_ild 2 (s_ild 3 (s_icge (kJ7_fill_53178_20 r) (s_ald 0 (s_ild 2 (s_ild 1 (s_wi 1 (s_inc 2 (1) ((r 424)))))))))
theorem vJ7_fill_53178_5 : pu_cok2 kJ7_fill_53178_5 := fun rf r hr => by
  unfold kJ7_fill_53178_5
  exact v_ild (v_ild (v_icge (vJ7_fill_53178_20 rf r hr) (v_ald (v_ild (v_ild (v_wi (v_inc ((hr 424)))))))))
theorem tJ7_fill_53178_5 {X : pu_X} {r : pu_R} (hX : pu_H X mdJ7_fill_53178) (hr : pu_P X.2.1 X.2.2.2.2.2.2.2.2.2.2.1 r) (hq : ∀ i pc, pu_lp i = some (218, pc) → pu_S X mdJ7_fill_53178 pc (r i)) : pu_S X mdJ7_fill_53178 5 (kJ7_fill_53178_5 r) := by
  unfold kJ7_fill_53178_5
  exact z_ild_n hX dJ7_fill_53178_5 rfl (z_ild_n hX dJ7_fill_53178_6 rfl (z_icge hX dJ7_fill_53178_7 (by decide) (tJ7_fill_53178_20 hX hr hq) (z_ald_n hX dJ7_fill_53178_10 rfl (z_ild_n hX dJ7_fill_53178_11 rfl (z_ild_n hX dJ7_fill_53178_12 rfl (z_iast hX dJ7_fill_53178_13 (z_inc hX dJ7_fill_53178_14 (by decide) ((z_goto hX dJ7_fill_53178_17 (by decide) (hq 424 5 hl424))))))))))
def kJ7_fill_53178_0 (r : pu_R) : pu_K := s_push (.int (0)) (s_ist 2 (s_ald 0 (s_len (s_ist 3 ((r 424))))))
theorem vJ7_fill_53178_0 : pu_cok2 kJ7_fill_53178_0 := fun rf r hr => by
  unfold kJ7_fill_53178_0
  exact v_pi (v_ist (v_ald (v_len (v_ist ((hr 424))))))
theorem tJ7_fill_53178_0 {X : pu_X} {r : pu_R} (hX : pu_H X mdJ7_fill_53178) (hr : pu_P X.2.1 X.2.2.2.2.2.2.2.2.2.2.1 r) (hq : ∀ i pc, pu_lp i = some (218, pc) → pu_S X mdJ7_fill_53178 pc (r i)) : pu_S X mdJ7_fill_53178 0 (kJ7_fill_53178_0 r) := by
  unfold kJ7_fill_53178_0
  exact z_iconst hX dJ7_fill_53178_0 (by decide) (z_ist_n hX dJ7_fill_53178_1 rfl (z_ald_n hX dJ7_fill_53178_2 rfl (z_len hX dJ7_fill_53178_3 (z_ist_n hX dJ7_fill_53178_4 rfl ((hq 424 5 hl424))))))
def kX5_setWholesOn_93 (r : pu_R) : pu_K := s_vret
theorem vX5_setWholesOn_93 : pu_cok2 kX5_setWholesOn_93 := fun rf r hr => by
  unfold kX5_setWholesOn_93
  exact v_vret
theorem tX5_setWholesOn_93 {X : pu_X} {r : pu_R} (hX : pu_H X mdX5_setWholesOn) (hr : pu_P X.2.1 X.2.2.2.2.2.2.2.2.2.2.1 r) (hq : ∀ i pc, pu_lp i = some (219, pc) → pu_S X mdX5_setWholesOn pc (r i)) : pu_S X mdX5_setWholesOn 93 (kX5_setWholesOn_93 r) := by
  unfold kX5_setWholesOn_93
  exact z_vret hX dX5_setWholesOn_93 rfl
def kX5_setWholesOn_87 (r : pu_R) : pu_K := s_inc 3 (1) ((r 425))
theorem vX5_setWholesOn_87 : pu_cok2 kX5_setWholesOn_87 := fun rf r hr => by
  unfold kX5_setWholesOn_87
  exact v_inc ((hr 425))
theorem tX5_setWholesOn_87 {X : pu_X} {r : pu_R} (hX : pu_H X mdX5_setWholesOn) (hr : pu_P X.2.1 X.2.2.2.2.2.2.2.2.2.2.1 r) (hq : ∀ i pc, pu_lp i = some (219, pc) → pu_S X mdX5_setWholesOn pc (r i)) : pu_S X mdX5_setWholesOn 87 (kX5_setWholesOn_87 r) := by
  unfold kX5_setWholesOn_87
  exact z_inc hX dX5_setWholesOn_87 (by decide) ((z_goto hX dX5_setWholesOn_90 (by decide) (hq 425 7 hl425)))
def kX5_setWholesOn_52 (r : pu_R) : pu_K := s_cv r 68 3 6 (s_ist 5 (s_ild 5 (s_ifeq (kX5_setWholesOn_87 r) (s_ild 4 (s_iflt (kX5_setWholesOn_87 r) (s_ild 4 (s_ald 2 (s_len (s_icge (kX5_setWholesOn_87 r) (s_ald 2 (s_ild 4 (s_ald 0 (s_gr 5 1 (s_gr 4 2 (s_ild 3 (s_ai 1 (s_wi 1 ((kX5_setWholesOn_87 r)))))))))))))))))))
theorem vX5_setWholesOn_52 : pu_cok2 kX5_setWholesOn_52 := fun rf r hr => by
  unfold kX5_setWholesOn_52
  exact v_cv hr (v_ist (v_ild (v_ifeq (vX5_setWholesOn_87 rf r hr) (v_ild (v_iflt (vX5_setWholesOn_87 rf r hr) (v_ild (v_ald (v_len (v_icge (vX5_setWholesOn_87 rf r hr) (v_ald (v_ild (v_ald (v_gr (v_gr (v_ild (v_ai (v_wi ((vX5_setWholesOn_87 rf r hr)))))))))))))))))))
theorem tX5_setWholesOn_52 {X : pu_X} {r : pu_R} (hX : pu_H X mdX5_setWholesOn) (hr : pu_P X.2.1 X.2.2.2.2.2.2.2.2.2.2.1 r) (hq : ∀ i pc, pu_lp i = some (219, pc) → pu_S X mdX5_setWholesOn pc (r i)) : pu_S X mdX5_setWholesOn 52 (kX5_setWholesOn_52 r) := by
  unfold kX5_setWholesOn_52
  exact z_cv (c := 6) hX hr dX5_setWholesOn_52 hjX6_holds mwX6_holds rfl wm72_4 ⟨wm24_18, wm24_19⟩ ⟨Nat.le_of_ble_eq_true rfl, Nat.le_of_ble_eq_true rfl⟩ (z_ist hX dX5_setWholesOn_55 (z_ild hX dX5_setWholesOn_57 (z_ifeq hX dX5_setWholesOn_59 (by decide) (tX5_setWholesOn_87 hX hr hq) (z_ild hX dX5_setWholesOn_62 (z_iflt hX dX5_setWholesOn_64 (by decide) (tX5_setWholesOn_87 hX hr hq) (z_ild hX dX5_setWholesOn_67 (z_ald_n hX dX5_setWholesOn_69 rfl (z_len hX dX5_setWholesOn_70 (z_icge hX dX5_setWholesOn_71 (by decide) (tX5_setWholesOn_87 hX hr hq) (z_ald_n hX dX5_setWholesOn_74 rfl (z_ild hX dX5_setWholesOn_75 (z_ald_n hX dX5_setWholesOn_77 rfl (z_gr (c := 5) (j := 1) hX dX5_setWholesOn_78 rfl inlX5 wm3_1 ⟨rfl, by decide, rfl⟩ (z_gr (c := 4) (j := 2) hX dX5_setWholesOn_81 rfl inlX4 wm64_1 ⟨rfl, by decide, rfl⟩ (z_ild_n hX dX5_setWholesOn_84 rfl (z_iald hX dX5_setWholesOn_85 (z_iast hX dX5_setWholesOn_86 ((tX5_setWholesOn_87 hX hr hq)))))))))))))))))))
def kX5_setWholesOn_7 (r : pu_R) : pu_K := s_ild 3 (s_ald 0 (s_gr 5 1 (s_gi 4 0 (s_icge (kX5_setWholesOn_93 r) (s_ald 0 (s_gr 5 1 (s_gr 4 1 (s_ild 3 (s_ai 1 (s_ist 4 (s_ald 0 (s_gr 5 0 (s_ald 0 (s_gr 5 1 (s_gr 4 3 (s_ild 3 (s_ai 1 (s_ald 0 (s_gr 5 1 (s_gr 4 4 (s_ild 3 (s_ai 1 (s_ild 1 ((kX5_setWholesOn_52 r)))))))))))))))))))))))))
theorem vX5_setWholesOn_7 : pu_cok2 kX5_setWholesOn_7 := fun rf r hr => by
  unfold kX5_setWholesOn_7
  exact v_ild (v_ald (v_gr (v_gi (v_icge (vX5_setWholesOn_93 rf r hr) (v_ald (v_gr (v_gr (v_ild (v_ai (v_ist (v_ald (v_gr (v_ald (v_gr (v_gr (v_ild (v_ai (v_ald (v_gr (v_gr (v_ild (v_ai (v_ild ((vX5_setWholesOn_52 rf r hr)))))))))))))))))))))))))
theorem tX5_setWholesOn_7 {X : pu_X} {r : pu_R} (hX : pu_H X mdX5_setWholesOn) (hr : pu_P X.2.1 X.2.2.2.2.2.2.2.2.2.2.1 r) (hq : ∀ i pc, pu_lp i = some (219, pc) → pu_S X mdX5_setWholesOn pc (r i)) : pu_S X mdX5_setWholesOn 7 (kX5_setWholesOn_7 r) := by
  unfold kX5_setWholesOn_7
  exact z_ild_n hX dX5_setWholesOn_7 rfl (z_ald_n hX dX5_setWholesOn_8 rfl (z_gr (c := 5) (j := 1) hX dX5_setWholesOn_9 rfl inlX5 wm3_1 ⟨rfl, by decide, rfl⟩ (z_gi (c := 4) (j := 0) hX dX5_setWholesOn_12 rfl inlX4 wm27_6 ⟨rfl, by decide, rfl⟩ (z_icge hX dX5_setWholesOn_15 (by decide) (tX5_setWholesOn_93 hX hr hq) (z_ald_n hX dX5_setWholesOn_18 rfl (z_gr (c := 5) (j := 1) hX dX5_setWholesOn_19 rfl inlX5 wm3_1 ⟨rfl, by decide, rfl⟩ (z_gr (c := 4) (j := 1) hX dX5_setWholesOn_22 rfl inlX4 wm64_2 ⟨rfl, by decide, rfl⟩ (z_ild_n hX dX5_setWholesOn_25 rfl (z_iald hX dX5_setWholesOn_26 (z_ist hX dX5_setWholesOn_27 (z_ald_n hX dX5_setWholesOn_29 rfl (z_gr (c := 5) (j := 0) hX dX5_setWholesOn_30 rfl inlX5 wm2_21 ⟨rfl, by decide, rfl⟩ (z_ald_n hX dX5_setWholesOn_33 rfl (z_gr (c := 5) (j := 1) hX dX5_setWholesOn_34 rfl inlX5 wm3_1 ⟨rfl, by decide, rfl⟩ (z_gr (c := 4) (j := 3) hX dX5_setWholesOn_37 rfl inlX4 wm72_0 ⟨rfl, by decide, rfl⟩ (z_ild_n hX dX5_setWholesOn_40 rfl (z_iald hX dX5_setWholesOn_41 (z_ald_n hX dX5_setWholesOn_42 rfl (z_gr (c := 5) (j := 1) hX dX5_setWholesOn_43 rfl inlX5 wm3_1 ⟨rfl, by decide, rfl⟩ (z_gr (c := 4) (j := 4) hX dX5_setWholesOn_46 rfl inlX4 wm64_0 ⟨rfl, by decide, rfl⟩ (z_ild_n hX dX5_setWholesOn_49 rfl (z_iald hX dX5_setWholesOn_50 (z_ild_n hX dX5_setWholesOn_51 rfl ((tX5_setWholesOn_52 hX hr hq)))))))))))))))))))))))))
def kX5_setWholesOn_0 (r : pu_R) : pu_K := s_ald 2 (s_push (.int (-1)) (s_cs r 218 2 (s_push (.int (0)) (s_ist 3 ((r 425))))))
theorem vX5_setWholesOn_0 : pu_cok2 kX5_setWholesOn_0 := fun rf r hr => by
  unfold kX5_setWholesOn_0
  exact v_ald (v_pi (v_cs hr (v_pi (v_ist ((hr 425))))))
theorem tX5_setWholesOn_0 {X : pu_X} {r : pu_R} (hX : pu_H X mdX5_setWholesOn) (hr : pu_P X.2.1 X.2.2.2.2.2.2.2.2.2.2.1 r) (hq : ∀ i pc, pu_lp i = some (219, pc) → pu_S X mdX5_setWholesOn pc (r i)) : pu_S X mdX5_setWholesOn 0 (kX5_setWholesOn_0 r) := by
  unfold kX5_setWholesOn_0
  exact z_ald_n hX dX5_setWholesOn_0 rfl (z_iconst hX dX5_setWholesOn_1 (by decide) (z_cs hX hr dX5_setWholesOn_2 hjJ7_fill_53178 mwJ7_fill_53178 wm72_1 wm72_2 ⟨Nat.le_of_ble_eq_true rfl, Nat.le_of_ble_eq_true rfl⟩ (z_iconst hX dX5_setWholesOn_5 (by decide) (z_ist_n hX dX5_setWholesOn_6 rfl ((hq 425 7 hl425))))))
def kX11_putRecord_46 (r : pu_R) : pu_K := s_ild 1 (s_ai 1 (s_push (.int (16)) (s_ishr (s_cv r 12 1 0 (s_ald 0 (s_gr 11 1 (s_ald 0 (s_gr 11 7 (s_ild 1 (s_ai 1 (s_push (.int (8)) (s_ishr (s_cv r 12 1 0 (s_ald 0 (s_gr 11 1 (s_ald 0 (s_gr 11 7 (s_ild 1 (s_ai 1 (s_cv r 12 1 0 (s_vret)))))))))))))))))))))
theorem vX11_putRecord_46 : pu_cok2 kX11_putRecord_46 := fun rf r hr => by
  unfold kX11_putRecord_46
  exact v_ild (v_ai (v_pi (v_ishr (v_cv hr (v_ald (v_gr (v_ald (v_gr (v_ild (v_ai (v_pi (v_ishr (v_cv hr (v_ald (v_gr (v_ald (v_gr (v_ild (v_ai (v_cv hr (v_vret)))))))))))))))))))))
theorem tX11_putRecord_46 {X : pu_X} {r : pu_R} (hX : pu_H X mdX11_putRecord) (hr : pu_P X.2.1 X.2.2.2.2.2.2.2.2.2.2.1 r) (hq : ∀ i pc, pu_lp i = some (220, pc) → pu_S X mdX11_putRecord pc (r i)) : pu_S X mdX11_putRecord 46 (kX11_putRecord_46 r) := by
  unfold kX11_putRecord_46
  exact z_ild_n hX dX11_putRecord_46 rfl (z_iald hX dX11_putRecord_47 (z_bipush hX dX11_putRecord_48 (by decide) (z_ishr hX dX11_putRecord_50 (z_cv (c := 0) hX hr dX11_putRecord_51 hjX0_put mwX0_put rfl wm50_5 ⟨wm9_7, wm9_8⟩ ⟨Nat.le_of_ble_eq_true rfl, Nat.le_of_ble_eq_true rfl⟩ (z_ald_n hX dX11_putRecord_54 rfl (z_gr (c := 11) (j := 1) hX dX11_putRecord_55 rfl inlX11 wm1_16 ⟨rfl, by decide, rfl⟩ (z_ald_n hX dX11_putRecord_58 rfl (z_gr (c := 11) (j := 7) hX dX11_putRecord_59 rfl inlX11 wm2_8 ⟨rfl, by decide, rfl⟩ (z_ild_n hX dX11_putRecord_62 rfl (z_iald hX dX11_putRecord_63 (z_bipush hX dX11_putRecord_64 (by decide) (z_ishr hX dX11_putRecord_66 (z_cv (c := 0) hX hr dX11_putRecord_67 hjX0_put mwX0_put rfl wm50_5 ⟨wm9_7, wm9_8⟩ ⟨Nat.le_of_ble_eq_true rfl, Nat.le_of_ble_eq_true rfl⟩ (z_ald_n hX dX11_putRecord_70 rfl (z_gr (c := 11) (j := 1) hX dX11_putRecord_71 rfl inlX11 wm1_16 ⟨rfl, by decide, rfl⟩ (z_ald_n hX dX11_putRecord_74 rfl (z_gr (c := 11) (j := 7) hX dX11_putRecord_75 rfl inlX11 wm2_8 ⟨rfl, by decide, rfl⟩ (z_ild_n hX dX11_putRecord_78 rfl (z_iald hX dX11_putRecord_79 (z_cv (c := 0) hX hr dX11_putRecord_80 hjX0_put mwX0_put rfl wm50_5 ⟨wm9_7, wm9_8⟩ ⟨Nat.le_of_ble_eq_true rfl, Nat.le_of_ble_eq_true rfl⟩ (z_vret hX dX11_putRecord_83 rfl)))))))))))))))))))))
def kX11_putRecord_0 (r : pu_R) : pu_K := s_ald 0 (s_gr 11 1 (s_ild 1 (s_push (.int (2)) (s_idiv (s_cv r 12 1 0 (s_ald 0 (s_gr 11 1 (s_ald 0 (s_gr 11 2 (s_gr 5 4 (s_ild 1 (s_cv r 66 1 2 (s_cv r 12 1 0 (s_ald 0 (s_gr 11 1 (s_ild 1 (s_push (.int (2)) (s_irem (s_cv r 12 1 0 (s_ald 0 (s_gr 11 1 (s_ald 0 (s_gr 11 7 ((kX11_putRecord_46 r)))))))))))))))))))))))))
theorem vX11_putRecord_0 : pu_cok2 kX11_putRecord_0 := fun rf r hr => by
  unfold kX11_putRecord_0
  exact v_ald (v_gr (v_ild (v_pi (v_idiv (v_cv hr (v_ald (v_gr (v_ald (v_gr (v_gr (v_ild (v_cv hr (v_cv hr (v_ald (v_gr (v_ild (v_pi (v_irem (v_cv hr (v_ald (v_gr (v_ald (v_gr ((vX11_putRecord_46 rf r hr)))))))))))))))))))))))))
theorem tX11_putRecord_0 {X : pu_X} {r : pu_R} (hX : pu_H X mdX11_putRecord) (hr : pu_P X.2.1 X.2.2.2.2.2.2.2.2.2.2.1 r) (hq : ∀ i pc, pu_lp i = some (220, pc) → pu_S X mdX11_putRecord pc (r i)) : pu_S X mdX11_putRecord 0 (kX11_putRecord_0 r) := by
  unfold kX11_putRecord_0
  exact z_ald_n hX dX11_putRecord_0 rfl (z_gr (c := 11) (j := 1) hX dX11_putRecord_1 rfl inlX11 wm1_16 ⟨rfl, by decide, rfl⟩ (z_ild_n hX dX11_putRecord_4 rfl (z_iconst hX dX11_putRecord_5 (by decide) (z_idiv hX dX11_putRecord_6 (z_cv (c := 0) hX hr dX11_putRecord_7 hjX0_put mwX0_put rfl wm50_5 ⟨wm9_7, wm9_8⟩ ⟨Nat.le_of_ble_eq_true rfl, Nat.le_of_ble_eq_true rfl⟩ (z_ald_n hX dX11_putRecord_10 rfl (z_gr (c := 11) (j := 1) hX dX11_putRecord_11 rfl inlX11 wm1_16 ⟨rfl, by decide, rfl⟩ (z_ald_n hX dX11_putRecord_14 rfl (z_gr (c := 11) (j := 2) hX dX11_putRecord_15 rfl inlX11 wm1_20 ⟨rfl, by decide, rfl⟩ (z_gr (c := 5) (j := 4) hX dX11_putRecord_18 rfl inlX5 wm21_20 ⟨rfl, by decide, rfl⟩ (z_ild_n hX dX11_putRecord_21 rfl (z_cv (c := 2) hX hr dX11_putRecord_22 hjX2_streetOf mwX2_streetOf rfl wm32_22 ⟨wm24_7, wm24_8⟩ ⟨Nat.le_of_ble_eq_true rfl, Nat.le_of_ble_eq_true rfl⟩ (z_cv (c := 0) hX hr dX11_putRecord_25 hjX0_put mwX0_put rfl wm50_5 ⟨wm9_7, wm9_8⟩ ⟨Nat.le_of_ble_eq_true rfl, Nat.le_of_ble_eq_true rfl⟩ (z_ald_n hX dX11_putRecord_28 rfl (z_gr (c := 11) (j := 1) hX dX11_putRecord_29 rfl inlX11 wm1_16 ⟨rfl, by decide, rfl⟩ (z_ild_n hX dX11_putRecord_32 rfl (z_iconst hX dX11_putRecord_33 (by decide) (z_irem hX dX11_putRecord_34 (z_cv (c := 0) hX hr dX11_putRecord_35 hjX0_put mwX0_put rfl wm50_5 ⟨wm9_7, wm9_8⟩ ⟨Nat.le_of_ble_eq_true rfl, Nat.le_of_ble_eq_true rfl⟩ (z_ald_n hX dX11_putRecord_38 rfl (z_gr (c := 11) (j := 1) hX dX11_putRecord_39 rfl inlX11 wm1_16 ⟨rfl, by decide, rfl⟩ (z_ald_n hX dX11_putRecord_42 rfl (z_gr (c := 11) (j := 7) hX dX11_putRecord_43 rfl inlX11 wm2_8 ⟨rfl, by decide, rfl⟩ ((tX11_putRecord_46 hX hr hq)))))))))))))))))))))))))
def kX11_list_69 (r : pu_R) : pu_K := s_ald 0 (s_gr 11 1 (s_gi 0 0 (s_iret)))
theorem vX11_list_69 : pu_cok2 kX11_list_69 := fun rf r hr => by
  unfold kX11_list_69
  exact v_ald (v_gr (v_gi (v_iret)))
theorem tX11_list_69 {X : pu_X} {r : pu_R} (hX : pu_H X mdX11_list) (hr : pu_P X.2.1 X.2.2.2.2.2.2.2.2.2.2.1 r) (hq : ∀ i pc, pu_lp i = some (221, pc) → pu_S X mdX11_list pc (r i)) : pu_S X mdX11_list 69 (kX11_list_69 r) := by
  unfold kX11_list_69
  exact z_ald_n hX dX11_list_69 rfl (z_gr (c := 11) (j := 1) hX dX11_list_70 rfl inlX11 wm1_16 ⟨rfl, by decide, rfl⟩ (z_gi (c := 0) (j := 0) hX dX11_list_73 rfl inlX0 wm9_1 ⟨rfl, by decide, rfl⟩ (z_iret hX dX11_list_76 rfl)))
def kX11_list_63 (r : pu_R) : pu_K := s_inc 2 (1) ((r 426))
theorem vX11_list_63 : pu_cok2 kX11_list_63 := fun rf r hr => by
  unfold kX11_list_63
  exact v_inc ((hr 426))
theorem tX11_list_63 {X : pu_X} {r : pu_R} (hX : pu_H X mdX11_list) (hr : pu_P X.2.1 X.2.2.2.2.2.2.2.2.2.2.1 r) (hq : ∀ i pc, pu_lp i = some (221, pc) → pu_S X mdX11_list pc (r i)) : pu_S X mdX11_list 63 (kX11_list_63 r) := by
  unfold kX11_list_63
  exact z_inc hX dX11_list_63 (by decide) ((z_goto hX dX11_list_66 (by decide) (hq 426 32 hl426)))
def kX11_list_32 (r : pu_R) : pu_K := s_ild 2 (s_push (.int (2)) (s_ald 0 (s_gr 11 2 (s_gr 5 4 (s_gi 2 0 (s_imul (s_icge (kX11_list_69 r) (s_ald 0 (s_gr 11 7 (s_ild 2 (s_ai 1 (s_push (.int (-1)) (s_iceq (kX11_list_63 r) (s_ald 0 (s_ild 2 (s_cv r 220 1 11 ((kX11_list_63 r))))))))))))))))))
theorem vX11_list_32 : pu_cok2 kX11_list_32 := fun rf r hr => by
  unfold kX11_list_32
  exact v_ild (v_pi (v_ald (v_gr (v_gr (v_gi (v_imul (v_icge (vX11_list_69 rf r hr) (v_ald (v_gr (v_ild (v_ai (v_pi (v_iceq (vX11_list_63 rf r hr) (v_ald (v_ild (v_cv hr ((vX11_list_63 rf r hr))))))))))))))))))
theorem tX11_list_32 {X : pu_X} {r : pu_R} (hX : pu_H X mdX11_list) (hr : pu_P X.2.1 X.2.2.2.2.2.2.2.2.2.2.1 r) (hq : ∀ i pc, pu_lp i = some (221, pc) → pu_S X mdX11_list pc (r i)) : pu_S X mdX11_list 32 (kX11_list_32 r) := by
  unfold kX11_list_32
  exact z_ild_n hX dX11_list_32 rfl (z_iconst hX dX11_list_33 (by decide) (z_ald_n hX dX11_list_34 rfl (z_gr (c := 11) (j := 2) hX dX11_list_35 rfl inlX11 wm1_20 ⟨rfl, by decide, rfl⟩ (z_gr (c := 5) (j := 4) hX dX11_list_38 rfl inlX5 wm21_20 ⟨rfl, by decide, rfl⟩ (z_gi (c := 2) (j := 0) hX dX11_list_41 rfl inlX2 wm21_21 ⟨rfl, by decide, rfl⟩ (z_imul hX dX11_list_44 (z_icge hX dX11_list_45 (by decide) (tX11_list_69 hX hr hq) (z_ald_n hX dX11_list_48 rfl (z_gr (c := 11) (j := 7) hX dX11_list_49 rfl inlX11 wm2_8 ⟨rfl, by decide, rfl⟩ (z_ild_n hX dX11_list_52 rfl (z_iald hX dX11_list_53 (z_iconst hX dX11_list_54 (by decide) (z_iceq hX dX11_list_55 (by decide) (tX11_list_63 hX hr hq) (z_ald_n hX dX11_list_58 rfl (z_ild_n hX dX11_list_59 rfl (z_cv (c := 11) hX hr dX11_list_60 hjX11_putRecord mwX11_putRecord rfl wm72_5 ⟨wm72_6, wm72_7⟩ ⟨Nat.le_of_ble_eq_true rfl, Nat.le_of_ble_eq_true rfl⟩ ((tX11_list_63 hX hr hq))))))))))))))))))
def kX11_list_10 (r : pu_R) : pu_K := s_ald 0 (s_gr 11 2 (s_ild 1 (s_ald 0 (s_gr 11 7 (s_cv r 219 2 5 (s_ald 0 (s_gr 11 1 (s_push (.int (0)) (s_pi 0 0 (s_push (.int (0)) (s_ist 2 ((r 426)))))))))))))
theorem vX11_list_10 : pu_cok2 kX11_list_10 := fun rf r hr => by
  unfold kX11_list_10
  exact v_ald (v_gr (v_ild (v_ald (v_gr (v_cv hr (v_ald (v_gr (v_pi (v_puti (v_pi (v_ist ((hr 426)))))))))))))
theorem tX11_list_10 {X : pu_X} {r : pu_R} (hX : pu_H X mdX11_list) (hr : pu_P X.2.1 X.2.2.2.2.2.2.2.2.2.2.1 r) (hq : ∀ i pc, pu_lp i = some (221, pc) → pu_S X mdX11_list pc (r i)) : pu_S X mdX11_list 10 (kX11_list_10 r) := by
  unfold kX11_list_10
  exact z_ald_n hX dX11_list_10 rfl (z_gr (c := 11) (j := 2) hX dX11_list_11 rfl inlX11 wm1_20 ⟨rfl, by decide, rfl⟩ (z_ild_n hX dX11_list_14 rfl (z_ald_n hX dX11_list_15 rfl (z_gr (c := 11) (j := 7) hX dX11_list_16 rfl inlX11 wm2_8 ⟨rfl, by decide, rfl⟩ (z_cv (c := 5) hX hr dX11_list_19 hjX5_setWholesOn mwX5_setWholesOn rfl wm71_20 ⟨wm71_21, wm71_22⟩ ⟨Nat.le_of_ble_eq_true rfl, Nat.le_of_ble_eq_true rfl⟩ (z_ald_n hX dX11_list_22 rfl (z_gr (c := 11) (j := 1) hX dX11_list_23 rfl inlX11 wm1_16 ⟨rfl, by decide, rfl⟩ (z_iconst hX dX11_list_26 (by decide) (z_pi (c := 0) (j := 0) tyX0 tyX0_ok nmX0 hX dX11_list_27 rfl inlX0 wm9_1 ⟨rfl, by decide⟩ ⟨rfl, rfl⟩ rfl (z_iconst hX dX11_list_30 (by decide) (z_ist_n hX dX11_list_31 rfl ((hq 426 32 hl426)))))))))))))
def kX11_list_0 (r : pu_R) : pu_K := s_ild 1 (s_cs r 18 1 (s_ifne (kX11_list_10 r) (s_push (.int (-2)) (s_iret))))
theorem vX11_list_0 : pu_cok2 kX11_list_0 := fun rf r hr => by
  unfold kX11_list_0
  exact v_ild (v_cs hr (v_ifne (vX11_list_10 rf r hr) (v_pi (v_iret))))
theorem tX11_list_0 {X : pu_X} {r : pu_R} (hX : pu_H X mdX11_list) (hr : pu_P X.2.1 X.2.2.2.2.2.2.2.2.2.2.1 r) (hq : ∀ i pc, pu_lp i = some (221, pc) → pu_S X mdX11_list pc (r i)) : pu_S X mdX11_list 0 (kX11_list_0 r) := by
  unfold kX11_list_0
  exact z_ild_n hX dX11_list_0 rfl (z_cs hX hr dX11_list_1 hjX11_isDay mwX11_isDay wm10_21 wm10_22 ⟨Nat.le_of_ble_eq_true rfl, Nat.le_of_ble_eq_true rfl⟩ (z_ifne hX dX11_list_4 (by decide) (tX11_list_10 hX hr hq) (z_bipush hX dX11_list_7 (by decide) (z_iret hX dX11_list_9 rfl))))
def kX11_slotOfRecord_173 (r : pu_R) : pu_K := s_iret
theorem vX11_slotOfRecord_173 : pu_cok2 kX11_slotOfRecord_173 := fun rf r hr => by
  unfold kX11_slotOfRecord_173
  exact v_iret
theorem tX11_slotOfRecord_173 {X : pu_X} {r : pu_R} (hX : pu_H X mdX11_slotOfRecord) (hr : pu_P X.2.1 X.2.2.2.2.2.2.2.2.2.2.1 r) (hq : ∀ i pc, pu_lp i = some (222, pc) → pu_S X mdX11_slotOfRecord pc (r i)) : pu_S X mdX11_slotOfRecord 173 (kX11_slotOfRecord_173 r) := by
  unfold kX11_slotOfRecord_173
  exact z_iret hX dX11_slotOfRecord_173 rfl
def kX11_slotOfRecord_172 (r : pu_R) : pu_K := s_push (.int (-1)) ((kX11_slotOfRecord_173 r))
theorem vX11_slotOfRecord_172 : pu_cok2 kX11_slotOfRecord_172 := fun rf r hr => by
  unfold kX11_slotOfRecord_172
  exact v_pi ((vX11_slotOfRecord_173 rf r hr))
theorem tX11_slotOfRecord_172 {X : pu_X} {r : pu_R} (hX : pu_H X mdX11_slotOfRecord) (hr : pu_P X.2.1 X.2.2.2.2.2.2.2.2.2.2.1 r) (hq : ∀ i pc, pu_lp i = some (222, pc) → pu_S X mdX11_slotOfRecord pc (r i)) : pu_S X mdX11_slotOfRecord 172 (kX11_slotOfRecord_172 r) := by
  unfold kX11_slotOfRecord_172
  exact z_iconst hX dX11_slotOfRecord_172 (by decide) ((tX11_slotOfRecord_173 hX hr hq))
def kX11_slotOfRecord_161 (r : pu_R) : pu_K := s_ist 4 (s_ild 4 (s_ifeq (kX11_slotOfRecord_172 r) (s_ild 2 ((kX11_slotOfRecord_173 r)))))
theorem vX11_slotOfRecord_161 : pu_cok2 kX11_slotOfRecord_161 := fun rf r hr => by
  unfold kX11_slotOfRecord_161
  exact v_ist (v_ild (v_ifeq (vX11_slotOfRecord_172 rf r hr) (v_ild ((vX11_slotOfRecord_173 rf r hr)))))
theorem tX11_slotOfRecord_161 {X : pu_X} {r : pu_R} (hX : pu_H X mdX11_slotOfRecord) (hr : pu_P X.2.1 X.2.2.2.2.2.2.2.2.2.2.1 r) (hq : ∀ i pc, pu_lp i = some (222, pc) → pu_S X mdX11_slotOfRecord pc (r i)) : pu_S X mdX11_slotOfRecord 161 (kX11_slotOfRecord_161 r) := by
  unfold kX11_slotOfRecord_161
  exact z_ist hX dX11_slotOfRecord_161 (z_ild hX dX11_slotOfRecord_163 (z_ifeq hX dX11_slotOfRecord_165 (by decide) (tX11_slotOfRecord_172 hX hr hq) (z_ild_n hX dX11_slotOfRecord_168 rfl ((z_goto hX dX11_slotOfRecord_169 (by decide) (tX11_slotOfRecord_173 hX hr hq))))))
def kX11_slotOfRecord_160 (r : pu_R) : pu_K := s_push (.int (0)) ((kX11_slotOfRecord_161 r))
theorem vX11_slotOfRecord_160 : pu_cok2 kX11_slotOfRecord_160 := fun rf r hr => by
  unfold kX11_slotOfRecord_160
  exact v_pi ((vX11_slotOfRecord_161 rf r hr))
theorem tX11_slotOfRecord_160 {X : pu_X} {r : pu_R} (hX : pu_H X mdX11_slotOfRecord) (hr : pu_P X.2.1 X.2.2.2.2.2.2.2.2.2.2.1 r) (hq : ∀ i pc, pu_lp i = some (222, pc) → pu_S X mdX11_slotOfRecord pc (r i)) : pu_S X mdX11_slotOfRecord 160 (kX11_slotOfRecord_160 r) := by
  unfold kX11_slotOfRecord_160
  exact z_iconst hX dX11_slotOfRecord_160 (by decide) ((tX11_slotOfRecord_161 hX hr hq))
def kX11_slotOfRecord_127 (r : pu_R) : pu_K := s_ild 3 (s_icne (kX11_slotOfRecord_160 r) (s_ald 0 (s_gr 11 2 (s_gr 5 4 (s_ild 2 (s_cv r 66 1 2 (s_ald 0 (s_gr 11 0 (s_gr 0 1 (s_ild 1 (s_push (.int (1)) (s_iadd (s_ai 1 (s_icne (kX11_slotOfRecord_160 r) (s_push (.int (1)) ((kX11_slotOfRecord_161 r)))))))))))))))))
theorem vX11_slotOfRecord_127 : pu_cok2 kX11_slotOfRecord_127 := fun rf r hr => by
  unfold kX11_slotOfRecord_127
  exact v_ild (v_icne (vX11_slotOfRecord_160 rf r hr) (v_ald (v_gr (v_gr (v_ild (v_cv hr (v_ald (v_gr (v_gr (v_ild (v_pi (v_iadd (v_ai (v_icne (vX11_slotOfRecord_160 rf r hr) (v_pi ((vX11_slotOfRecord_161 rf r hr)))))))))))))))))
theorem tX11_slotOfRecord_127 {X : pu_X} {r : pu_R} (hX : pu_H X mdX11_slotOfRecord) (hr : pu_P X.2.1 X.2.2.2.2.2.2.2.2.2.2.1 r) (hq : ∀ i pc, pu_lp i = some (222, pc) → pu_S X mdX11_slotOfRecord pc (r i)) : pu_S X mdX11_slotOfRecord 127 (kX11_slotOfRecord_127 r) := by
  unfold kX11_slotOfRecord_127
  exact z_ild_n hX dX11_slotOfRecord_127 rfl (z_icne hX dX11_slotOfRecord_128 (by decide) (tX11_slotOfRecord_160 hX hr hq) (z_ald_n hX dX11_slotOfRecord_131 rfl (z_gr (c := 11) (j := 2) hX dX11_slotOfRecord_132 rfl inlX11 wm1_20 ⟨rfl, by decide, rfl⟩ (z_gr (c := 5) (j := 4) hX dX11_slotOfRecord_135 rfl inlX5 wm21_20 ⟨rfl, by decide, rfl⟩ (z_ild_n hX dX11_slotOfRecord_138 rfl (z_cv (c := 2) hX hr dX11_slotOfRecord_139 hjX2_streetOf mwX2_streetOf rfl wm32_22 ⟨wm24_7, wm24_8⟩ ⟨Nat.le_of_ble_eq_true rfl, Nat.le_of_ble_eq_true rfl⟩ (z_ald_n hX dX11_slotOfRecord_142 rfl (z_gr (c := 11) (j := 0) hX dX11_slotOfRecord_143 rfl inlX11 wm1_15 ⟨rfl, by decide, rfl⟩ (z_gr (c := 0) (j := 1) hX dX11_slotOfRecord_146 rfl inlX0 wm41_8 ⟨rfl, by decide, rfl⟩ (z_ild_n hX dX11_slotOfRecord_149 rfl (z_iconst hX dX11_slotOfRecord_150 (by decide) (z_iadd hX dX11_slotOfRecord_151 (z_iald hX dX11_slotOfRecord_152 (z_icne hX dX11_slotOfRecord_153 (by decide) (tX11_slotOfRecord_160 hX hr hq) (z_iconst hX dX11_slotOfRecord_156 (by decide) ((z_goto hX dX11_slotOfRecord_157 (by decide) (tX11_slotOfRecord_161 hX hr hq))))))))))))))))))
def kX11_slotOfRecord_91 (r : pu_R) : pu_K := s_imul (s_ald 0 (s_gr 11 0 (s_gr 0 1 (s_ild 1 (s_push (.int (4)) (s_iadd (s_ai 1 (s_push (.int (256)) (s_imul (s_iadd (s_ald 0 (s_gr 11 0 (s_gr 0 1 (s_ild 1 (s_push (.int (5)) (s_iadd (s_ai 1 (s_iadd (s_ist 3 (s_ald 0 (s_gr 11 7 (s_ild 2 (s_ai 1 ((kX11_slotOfRecord_127 r)))))))))))))))))))))))))
theorem vX11_slotOfRecord_91 : pu_cok2 kX11_slotOfRecord_91 := fun rf r hr => by
  unfold kX11_slotOfRecord_91
  exact v_imul (v_ald (v_gr (v_gr (v_ild (v_pi (v_iadd (v_ai (v_pi (v_imul (v_iadd (v_ald (v_gr (v_gr (v_ild (v_pi (v_iadd (v_ai (v_iadd (v_ist (v_ald (v_gr (v_ild (v_ai ((vX11_slotOfRecord_127 rf r hr)))))))))))))))))))))))))
theorem tX11_slotOfRecord_91 {X : pu_X} {r : pu_R} (hX : pu_H X mdX11_slotOfRecord) (hr : pu_P X.2.1 X.2.2.2.2.2.2.2.2.2.2.1 r) (hq : ∀ i pc, pu_lp i = some (222, pc) → pu_S X mdX11_slotOfRecord pc (r i)) : pu_S X mdX11_slotOfRecord 91 (kX11_slotOfRecord_91 r) := by
  unfold kX11_slotOfRecord_91
  exact z_imul hX dX11_slotOfRecord_91 (z_ald_n hX dX11_slotOfRecord_92 rfl (z_gr (c := 11) (j := 0) hX dX11_slotOfRecord_93 rfl inlX11 wm1_15 ⟨rfl, by decide, rfl⟩ (z_gr (c := 0) (j := 1) hX dX11_slotOfRecord_96 rfl inlX0 wm41_8 ⟨rfl, by decide, rfl⟩ (z_ild_n hX dX11_slotOfRecord_99 rfl (z_iconst hX dX11_slotOfRecord_100 (by decide) (z_iadd hX dX11_slotOfRecord_101 (z_iald hX dX11_slotOfRecord_102 (z_sipush hX dX11_slotOfRecord_103 (by decide) (z_imul hX dX11_slotOfRecord_106 (z_iadd hX dX11_slotOfRecord_107 (z_ald_n hX dX11_slotOfRecord_108 rfl (z_gr (c := 11) (j := 0) hX dX11_slotOfRecord_109 rfl inlX11 wm1_15 ⟨rfl, by decide, rfl⟩ (z_gr (c := 0) (j := 1) hX dX11_slotOfRecord_112 rfl inlX0 wm41_8 ⟨rfl, by decide, rfl⟩ (z_ild_n hX dX11_slotOfRecord_115 rfl (z_iconst hX dX11_slotOfRecord_116 (by decide) (z_iadd hX dX11_slotOfRecord_117 (z_iald hX dX11_slotOfRecord_118 (z_iadd hX dX11_slotOfRecord_119 (z_ist_n hX dX11_slotOfRecord_120 rfl (z_ald_n hX dX11_slotOfRecord_121 rfl (z_gr (c := 11) (j := 7) hX dX11_slotOfRecord_122 rfl inlX11 wm2_8 ⟨rfl, by decide, rfl⟩ (z_ild_n hX dX11_slotOfRecord_125 rfl (z_iald hX dX11_slotOfRecord_126 ((tX11_slotOfRecord_127 hX hr hq)))))))))))))))))))))))))
def kX11_slotOfRecord_53 (r : pu_R) : pu_K := s_push (.int (2)) (s_ald 0 (s_gr 11 0 (s_gr 0 1 (s_ild 1 (s_ai 1 (s_imul (s_ald 0 (s_gr 11 0 (s_gr 0 1 (s_ild 1 (s_push (.int (2)) (s_iadd (s_ai 1 (s_iadd (s_ist 2 (s_ald 0 (s_gr 11 0 (s_gr 0 1 (s_ild 1 (s_push (.int (3)) (s_iadd (s_ai 1 (s_push (.int (65536)) ((kX11_slotOfRecord_91 r)))))))))))))))))))))))))
theorem vX11_slotOfRecord_53 : pu_cok2 kX11_slotOfRecord_53 := fun rf r hr => by
  unfold kX11_slotOfRecord_53
  exact v_pi (v_ald (v_gr (v_gr (v_ild (v_ai (v_imul (v_ald (v_gr (v_gr (v_ild (v_pi (v_iadd (v_ai (v_iadd (v_ist (v_ald (v_gr (v_gr (v_ild (v_pi (v_iadd (v_ai (v_pi ((vX11_slotOfRecord_91 rf r hr)))))))))))))))))))))))))
theorem tX11_slotOfRecord_53 {X : pu_X} {r : pu_R} (hX : pu_H X mdX11_slotOfRecord) (hr : pu_P X.2.1 X.2.2.2.2.2.2.2.2.2.2.1 r) (hq : ∀ i pc, pu_lp i = some (222, pc) → pu_S X mdX11_slotOfRecord pc (r i)) : pu_S X mdX11_slotOfRecord 53 (kX11_slotOfRecord_53 r) := by
  unfold kX11_slotOfRecord_53
  exact z_iconst hX dX11_slotOfRecord_53 (by decide) (z_ald_n hX dX11_slotOfRecord_54 rfl (z_gr (c := 11) (j := 0) hX dX11_slotOfRecord_55 rfl inlX11 wm1_15 ⟨rfl, by decide, rfl⟩ (z_gr (c := 0) (j := 1) hX dX11_slotOfRecord_58 rfl inlX0 wm41_8 ⟨rfl, by decide, rfl⟩ (z_ild_n hX dX11_slotOfRecord_61 rfl (z_iald hX dX11_slotOfRecord_62 (z_imul hX dX11_slotOfRecord_63 (z_ald_n hX dX11_slotOfRecord_64 rfl (z_gr (c := 11) (j := 0) hX dX11_slotOfRecord_65 rfl inlX11 wm1_15 ⟨rfl, by decide, rfl⟩ (z_gr (c := 0) (j := 1) hX dX11_slotOfRecord_68 rfl inlX0 wm41_8 ⟨rfl, by decide, rfl⟩ (z_ild_n hX dX11_slotOfRecord_71 rfl (z_iconst hX dX11_slotOfRecord_72 (by decide) (z_iadd hX dX11_slotOfRecord_73 (z_iald hX dX11_slotOfRecord_74 (z_iadd hX dX11_slotOfRecord_75 (z_ist_n hX dX11_slotOfRecord_76 rfl (z_ald_n hX dX11_slotOfRecord_77 rfl (z_gr (c := 11) (j := 0) hX dX11_slotOfRecord_78 rfl inlX11 wm1_15 ⟨rfl, by decide, rfl⟩ (z_gr (c := 0) (j := 1) hX dX11_slotOfRecord_81 rfl inlX0 wm41_8 ⟨rfl, by decide, rfl⟩ (z_ild_n hX dX11_slotOfRecord_84 rfl (z_iconst hX dX11_slotOfRecord_85 (by decide) (z_iadd hX dX11_slotOfRecord_86 (z_iald hX dX11_slotOfRecord_87 (z_ldcw hX dX11_slotOfRecord_88 wm73_5 ((tX11_slotOfRecord_91 hX hr hq)))))))))))))))))))))))))
def kX11_slotOfRecord_51 (r : pu_R) : pu_K := s_push (.int (-1)) (s_iret)
theorem vX11_slotOfRecord_51 : pu_cok2 kX11_slotOfRecord_51 := fun rf r hr => by
  unfold kX11_slotOfRecord_51
  exact v_pi (v_iret)
theorem tX11_slotOfRecord_51 {X : pu_X} {r : pu_R} (hX : pu_H X mdX11_slotOfRecord) (hr : pu_P X.2.1 X.2.2.2.2.2.2.2.2.2.2.1 r) (hq : ∀ i pc, pu_lp i = some (222, pc) → pu_S X mdX11_slotOfRecord pc (r i)) : pu_S X mdX11_slotOfRecord 51 (kX11_slotOfRecord_51 r) := by
  unfold kX11_slotOfRecord_51
  exact z_iconst hX dX11_slotOfRecord_51 (by decide) (z_iret hX dX11_slotOfRecord_52 rfl)
def kX11_slotOfRecord_47 (r : pu_R) : pu_K := s_push (.int (1)) (s_icle (kX11_slotOfRecord_53 r) ((kX11_slotOfRecord_51 r)))
theorem vX11_slotOfRecord_47 : pu_cok2 kX11_slotOfRecord_47 := fun rf r hr => by
  unfold kX11_slotOfRecord_47
  exact v_pi (v_icle (vX11_slotOfRecord_53 rf r hr) ((vX11_slotOfRecord_51 rf r hr)))
theorem tX11_slotOfRecord_47 {X : pu_X} {r : pu_R} (hX : pu_H X mdX11_slotOfRecord) (hr : pu_P X.2.1 X.2.2.2.2.2.2.2.2.2.2.1 r) (hq : ∀ i pc, pu_lp i = some (222, pc) → pu_S X mdX11_slotOfRecord pc (r i)) : pu_S X mdX11_slotOfRecord 47 (kX11_slotOfRecord_47 r) := by
  unfold kX11_slotOfRecord_47
  exact z_iconst hX dX11_slotOfRecord_47 (by decide) (z_icle hX dX11_slotOfRecord_48 (by decide) (tX11_slotOfRecord_53 hX hr hq) ((tX11_slotOfRecord_51 hX hr hq)))
def kX11_slotOfRecord_0 (r : pu_R) : pu_K := s_ild 1 (s_push (.int (6)) (s_iadd (s_ald 0 (s_gr 11 0 (s_gi 0 0 (s_icgt (kX11_slotOfRecord_51 r) (s_ald 0 (s_gr 11 0 (s_gr 0 1 (s_ild 1 (s_ai 1 (s_ald 0 (s_gr 11 2 (s_gr 5 4 (s_gi 2 0 (s_icge (kX11_slotOfRecord_51 r) (s_ald 0 (s_gr 11 0 (s_gr 0 1 (s_ild 1 (s_push (.int (2)) (s_iadd (s_ai 1 ((kX11_slotOfRecord_47 r)))))))))))))))))))))))))
theorem vX11_slotOfRecord_0 : pu_cok2 kX11_slotOfRecord_0 := fun rf r hr => by
  unfold kX11_slotOfRecord_0
  exact v_ild (v_pi (v_iadd (v_ald (v_gr (v_gi (v_icgt (vX11_slotOfRecord_51 rf r hr) (v_ald (v_gr (v_gr (v_ild (v_ai (v_ald (v_gr (v_gr (v_gi (v_icge (vX11_slotOfRecord_51 rf r hr) (v_ald (v_gr (v_gr (v_ild (v_pi (v_iadd (v_ai ((vX11_slotOfRecord_47 rf r hr)))))))))))))))))))))))))
theorem tX11_slotOfRecord_0 {X : pu_X} {r : pu_R} (hX : pu_H X mdX11_slotOfRecord) (hr : pu_P X.2.1 X.2.2.2.2.2.2.2.2.2.2.1 r) (hq : ∀ i pc, pu_lp i = some (222, pc) → pu_S X mdX11_slotOfRecord pc (r i)) : pu_S X mdX11_slotOfRecord 0 (kX11_slotOfRecord_0 r) := by
  unfold kX11_slotOfRecord_0
  exact z_ild_n hX dX11_slotOfRecord_0 rfl (z_bipush hX dX11_slotOfRecord_1 (by decide) (z_iadd hX dX11_slotOfRecord_3 (z_ald_n hX dX11_slotOfRecord_4 rfl (z_gr (c := 11) (j := 0) hX dX11_slotOfRecord_5 rfl inlX11 wm1_15 ⟨rfl, by decide, rfl⟩ (z_gi (c := 0) (j := 0) hX dX11_slotOfRecord_8 rfl inlX0 wm9_1 ⟨rfl, by decide, rfl⟩ (z_icgt hX dX11_slotOfRecord_11 (by decide) (tX11_slotOfRecord_51 hX hr hq) (z_ald_n hX dX11_slotOfRecord_14 rfl (z_gr (c := 11) (j := 0) hX dX11_slotOfRecord_15 rfl inlX11 wm1_15 ⟨rfl, by decide, rfl⟩ (z_gr (c := 0) (j := 1) hX dX11_slotOfRecord_18 rfl inlX0 wm41_8 ⟨rfl, by decide, rfl⟩ (z_ild_n hX dX11_slotOfRecord_21 rfl (z_iald hX dX11_slotOfRecord_22 (z_ald_n hX dX11_slotOfRecord_23 rfl (z_gr (c := 11) (j := 2) hX dX11_slotOfRecord_24 rfl inlX11 wm1_20 ⟨rfl, by decide, rfl⟩ (z_gr (c := 5) (j := 4) hX dX11_slotOfRecord_27 rfl inlX5 wm21_20 ⟨rfl, by decide, rfl⟩ (z_gi (c := 2) (j := 0) hX dX11_slotOfRecord_30 rfl inlX2 wm21_21 ⟨rfl, by decide, rfl⟩ (z_icge hX dX11_slotOfRecord_33 (by decide) (tX11_slotOfRecord_51 hX hr hq) (z_ald_n hX dX11_slotOfRecord_36 rfl (z_gr (c := 11) (j := 0) hX dX11_slotOfRecord_37 rfl inlX11 wm1_15 ⟨rfl, by decide, rfl⟩ (z_gr (c := 0) (j := 1) hX dX11_slotOfRecord_40 rfl inlX0 wm41_8 ⟨rfl, by decide, rfl⟩ (z_ild_n hX dX11_slotOfRecord_43 rfl (z_iconst hX dX11_slotOfRecord_44 (by decide) (z_iadd hX dX11_slotOfRecord_45 (z_iald hX dX11_slotOfRecord_46 ((tX11_slotOfRecord_47 hX hr hq)))))))))))))))))))))))))
def kX11_checkRecords_96 (r : pu_R) : pu_K := s_push (.int (-1)) (s_iret)
theorem vX11_checkRecords_96 : pu_cok2 kX11_checkRecords_96 := fun rf r hr => by
  unfold kX11_checkRecords_96
  exact v_pi (v_iret)
theorem tX11_checkRecords_96 {X : pu_X} {r : pu_R} (hX : pu_H X mdX11_checkRecords) (hr : pu_P X.2.1 X.2.2.2.2.2.2.2.2.2.2.1 r) (hq : ∀ i pc, pu_lp i = some (223, pc) → pu_S X mdX11_checkRecords pc (r i)) : pu_S X mdX11_checkRecords 96 (kX11_checkRecords_96 r) := by
  unfold kX11_checkRecords_96
  exact z_iconst hX dX11_checkRecords_96 (by decide) (z_iret hX dX11_checkRecords_97 rfl)
def kX11_checkRecords_90 (r : pu_R) : pu_K := s_inc 2 (1) ((r 428))
theorem vX11_checkRecords_90 : pu_cok2 kX11_checkRecords_90 := fun rf r hr => by
  unfold kX11_checkRecords_90
  exact v_inc ((hr 428))
theorem tX11_checkRecords_90 {X : pu_X} {r : pu_R} (hX : pu_H X mdX11_checkRecords) (hr : pu_P X.2.1 X.2.2.2.2.2.2.2.2.2.2.1 r) (hq : ∀ i pc, pu_lp i = some (223, pc) → pu_S X mdX11_checkRecords pc (r i)) : pu_S X mdX11_checkRecords 90 (kX11_checkRecords_90 r) := by
  unfold kX11_checkRecords_90
  exact z_inc hX dX11_checkRecords_90 (by decide) ((z_goto hX dX11_checkRecords_93 (by decide) (hq 428 56 hl428)))
def kX11_checkRecords_56 (r : pu_R) : pu_K := s_ild 2 (s_push (.int (2)) (s_ald 0 (s_gr 11 2 (s_gr 5 4 (s_gi 2 0 (s_imul (s_icge (kX11_checkRecords_96 r) (s_ald 0 (s_gr 11 7 (s_ild 2 (s_ai 1 (s_push (.int (-1)) (s_iceq (kX11_checkRecords_90 r) (s_push (.int (1000)) (s_ild 2 (s_push (.int (2)) (s_idiv (s_iadd (s_iret)))))))))))))))))))
theorem vX11_checkRecords_56 : pu_cok2 kX11_checkRecords_56 := fun rf r hr => by
  unfold kX11_checkRecords_56
  exact v_ild (v_pi (v_ald (v_gr (v_gr (v_gi (v_imul (v_icge (vX11_checkRecords_96 rf r hr) (v_ald (v_gr (v_ild (v_ai (v_pi (v_iceq (vX11_checkRecords_90 rf r hr) (v_pi (v_ild (v_pi (v_idiv (v_iadd (v_iret)))))))))))))))))))
theorem tX11_checkRecords_56 {X : pu_X} {r : pu_R} (hX : pu_H X mdX11_checkRecords) (hr : pu_P X.2.1 X.2.2.2.2.2.2.2.2.2.2.1 r) (hq : ∀ i pc, pu_lp i = some (223, pc) → pu_S X mdX11_checkRecords pc (r i)) : pu_S X mdX11_checkRecords 56 (kX11_checkRecords_56 r) := by
  unfold kX11_checkRecords_56
  exact z_ild_n hX dX11_checkRecords_56 rfl (z_iconst hX dX11_checkRecords_57 (by decide) (z_ald_n hX dX11_checkRecords_58 rfl (z_gr (c := 11) (j := 2) hX dX11_checkRecords_59 rfl inlX11 wm1_20 ⟨rfl, by decide, rfl⟩ (z_gr (c := 5) (j := 4) hX dX11_checkRecords_62 rfl inlX5 wm21_20 ⟨rfl, by decide, rfl⟩ (z_gi (c := 2) (j := 0) hX dX11_checkRecords_65 rfl inlX2 wm21_21 ⟨rfl, by decide, rfl⟩ (z_imul hX dX11_checkRecords_68 (z_icge hX dX11_checkRecords_69 (by decide) (tX11_checkRecords_96 hX hr hq) (z_ald_n hX dX11_checkRecords_72 rfl (z_gr (c := 11) (j := 7) hX dX11_checkRecords_73 rfl inlX11 wm2_8 ⟨rfl, by decide, rfl⟩ (z_ild_n hX dX11_checkRecords_76 rfl (z_iald hX dX11_checkRecords_77 (z_iconst hX dX11_checkRecords_78 (by decide) (z_iceq hX dX11_checkRecords_79 (by decide) (tX11_checkRecords_90 hX hr hq) (z_sipush hX dX11_checkRecords_82 (by decide) (z_ild_n hX dX11_checkRecords_85 rfl (z_iconst hX dX11_checkRecords_86 (by decide) (z_idiv hX dX11_checkRecords_87 (z_iadd hX dX11_checkRecords_88 (z_iret hX dX11_checkRecords_89 rfl)))))))))))))))))))
def kX11_checkRecords_54 (r : pu_R) : pu_K := s_push (.int (0)) (s_ist 2 ((r 428)))
theorem vX11_checkRecords_54 : pu_cok2 kX11_checkRecords_54 := fun rf r hr => by
  unfold kX11_checkRecords_54
  exact v_pi (v_ist ((hr 428)))
theorem tX11_checkRecords_54 {X : pu_X} {r : pu_R} (hX : pu_H X mdX11_checkRecords) (hr : pu_P X.2.1 X.2.2.2.2.2.2.2.2.2.2.1 r) (hq : ∀ i pc, pu_lp i = some (223, pc) → pu_S X mdX11_checkRecords pc (r i)) : pu_S X mdX11_checkRecords 54 (kX11_checkRecords_54 r) := by
  unfold kX11_checkRecords_54
  exact z_iconst hX dX11_checkRecords_54 (by decide) (z_ist_n hX dX11_checkRecords_55 rfl ((hq 428 56 hl428)))
def kX11_checkRecords_41 (r : pu_R) : pu_K := s_ald 0 (s_gr 11 7 (s_ild 3 (s_push (.int (-1)) (s_wi 1 (s_inc 2 (6) ((r 427)))))))
theorem vX11_checkRecords_41 : pu_cok2 kX11_checkRecords_41 := fun rf r hr => by
  unfold kX11_checkRecords_41
  exact v_ald (v_gr (v_ild (v_pi (v_wi (v_inc ((hr 427)))))))
theorem tX11_checkRecords_41 {X : pu_X} {r : pu_R} (hX : pu_H X mdX11_checkRecords) (hr : pu_P X.2.1 X.2.2.2.2.2.2.2.2.2.2.1 r) (hq : ∀ i pc, pu_lp i = some (223, pc) → pu_S X mdX11_checkRecords pc (r i)) : pu_S X mdX11_checkRecords 41 (kX11_checkRecords_41 r) := by
  unfold kX11_checkRecords_41
  exact z_ald_n hX dX11_checkRecords_41 rfl (z_gr (c := 11) (j := 7) hX dX11_checkRecords_42 rfl inlX11 wm2_8 ⟨rfl, by decide, rfl⟩ (z_ild_n hX dX11_checkRecords_45 rfl (z_iconst hX dX11_checkRecords_46 (by decide) (z_iast hX dX11_checkRecords_47 (z_inc hX dX11_checkRecords_48 (by decide) ((z_goto hX dX11_checkRecords_51 (by decide) (hq 427 14 hl427))))))))
def kX11_checkRecords_14 (r : pu_R) : pu_K := s_ild 2 (s_ald 0 (s_gr 11 0 (s_gi 0 0 (s_icge (kX11_checkRecords_54 r) (s_ald 0 (s_ild 2 (s_cv r 222 1 11 (s_ist 3 (s_ild 3 (s_push (.int (-1)) (s_icne (kX11_checkRecords_41 r) (s_ild 2 (s_push (.int (6)) (s_idiv (s_iret)))))))))))))))
theorem vX11_checkRecords_14 : pu_cok2 kX11_checkRecords_14 := fun rf r hr => by
  unfold kX11_checkRecords_14
  exact v_ild (v_ald (v_gr (v_gi (v_icge (vX11_checkRecords_54 rf r hr) (v_ald (v_ild (v_cv hr (v_ist (v_ild (v_pi (v_icne (vX11_checkRecords_41 rf r hr) (v_ild (v_pi (v_idiv (v_iret)))))))))))))))
theorem tX11_checkRecords_14 {X : pu_X} {r : pu_R} (hX : pu_H X mdX11_checkRecords) (hr : pu_P X.2.1 X.2.2.2.2.2.2.2.2.2.2.1 r) (hq : ∀ i pc, pu_lp i = some (223, pc) → pu_S X mdX11_checkRecords pc (r i)) : pu_S X mdX11_checkRecords 14 (kX11_checkRecords_14 r) := by
  unfold kX11_checkRecords_14
  exact z_ild_n hX dX11_checkRecords_14 rfl (z_ald_n hX dX11_checkRecords_15 rfl (z_gr (c := 11) (j := 0) hX dX11_checkRecords_16 rfl inlX11 wm1_15 ⟨rfl, by decide, rfl⟩ (z_gi (c := 0) (j := 0) hX dX11_checkRecords_19 rfl inlX0 wm9_1 ⟨rfl, by decide, rfl⟩ (z_icge hX dX11_checkRecords_22 (by decide) (tX11_checkRecords_54 hX hr hq) (z_ald_n hX dX11_checkRecords_25 rfl (z_ild_n hX dX11_checkRecords_26 rfl (z_cv (c := 11) hX hr dX11_checkRecords_27 hjX11_slotOfRecord mwX11_slotOfRecord rfl wm73_1 ⟨wm73_2, wm73_3⟩ ⟨Nat.le_of_ble_eq_true rfl, Nat.le_of_ble_eq_true rfl⟩ (z_ist_n hX dX11_checkRecords_30 rfl (z_ild_n hX dX11_checkRecords_31 rfl (z_iconst hX dX11_checkRecords_32 (by decide) (z_icne hX dX11_checkRecords_33 (by decide) (tX11_checkRecords_41 hX hr hq) (z_ild_n hX dX11_checkRecords_36 rfl (z_bipush hX dX11_checkRecords_37 (by decide) (z_idiv hX dX11_checkRecords_39 (z_iret hX dX11_checkRecords_40 rfl)))))))))))))))
def kX11_checkRecords_0 (r : pu_R) : pu_K := s_ald 0 (s_gr 11 2 (s_ild 1 (s_ald 0 (s_gr 11 7 (s_cv r 219 2 5 (s_push (.int (0)) (s_ist 2 ((r 427)))))))))
theorem vX11_checkRecords_0 : pu_cok2 kX11_checkRecords_0 := fun rf r hr => by
  unfold kX11_checkRecords_0
  exact v_ald (v_gr (v_ild (v_ald (v_gr (v_cv hr (v_pi (v_ist ((hr 427)))))))))
theorem tX11_checkRecords_0 {X : pu_X} {r : pu_R} (hX : pu_H X mdX11_checkRecords) (hr : pu_P X.2.1 X.2.2.2.2.2.2.2.2.2.2.1 r) (hq : ∀ i pc, pu_lp i = some (223, pc) → pu_S X mdX11_checkRecords pc (r i)) : pu_S X mdX11_checkRecords 0 (kX11_checkRecords_0 r) := by
  unfold kX11_checkRecords_0
  exact z_ald_n hX dX11_checkRecords_0 rfl (z_gr (c := 11) (j := 2) hX dX11_checkRecords_1 rfl inlX11 wm1_20 ⟨rfl, by decide, rfl⟩ (z_ild_n hX dX11_checkRecords_4 rfl (z_ald_n hX dX11_checkRecords_5 rfl (z_gr (c := 11) (j := 7) hX dX11_checkRecords_6 rfl inlX11 wm2_8 ⟨rfl, by decide, rfl⟩ (z_cv (c := 5) hX hr dX11_checkRecords_9 hjX5_setWholesOn mwX5_setWholesOn rfl wm71_20 ⟨wm71_21, wm71_22⟩ ⟨Nat.le_of_ble_eq_true rfl, Nat.le_of_ble_eq_true rfl⟩ (z_iconst hX dX11_checkRecords_12 (by decide) (z_ist_n hX dX11_checkRecords_13 rfl ((hq 427 14 hl427)))))))))
def kX11_check_17 (r : pu_R) : pu_K := s_ist 2 (s_ald 0 (s_gr 11 0 (s_push (.int (0)) (s_pi 0 0 (s_ild 2 (s_iret))))))
theorem vX11_check_17 : pu_cok2 kX11_check_17 := fun rf r hr => by
  unfold kX11_check_17
  exact v_ist (v_ald (v_gr (v_pi (v_puti (v_ild (v_iret))))))
theorem tX11_check_17 {X : pu_X} {r : pu_R} (hX : pu_H X mdX11_check) (hr : pu_P X.2.1 X.2.2.2.2.2.2.2.2.2.2.1 r) (hq : ∀ i pc, pu_lp i = some (224, pc) → pu_S X mdX11_check pc (r i)) : pu_S X mdX11_check 17 (kX11_check_17 r) := by
  unfold kX11_check_17
  exact z_ist_n hX dX11_check_17 rfl (z_ald_n hX dX11_check_18 rfl (z_gr (c := 11) (j := 0) hX dX11_check_19 rfl inlX11 wm1_15 ⟨rfl, by decide, rfl⟩ (z_iconst hX dX11_check_22 (by decide) (z_pi (c := 0) (j := 0) tyX0 tyX0_ok nmX0 hX dX11_check_23 rfl inlX0 wm9_1 ⟨rfl, by decide⟩ ⟨rfl, rfl⟩ rfl (z_ild_n hX dX11_check_26 rfl (z_iret hX dX11_check_27 rfl))))))
def kX11_check_15 (r : pu_R) : pu_K := s_push (.int (-2)) ((kX11_check_17 r))
theorem vX11_check_15 : pu_cok2 kX11_check_15 := fun rf r hr => by
  unfold kX11_check_15
  exact v_pi ((vX11_check_17 rf r hr))
theorem tX11_check_15 {X : pu_X} {r : pu_R} (hX : pu_H X mdX11_check) (hr : pu_P X.2.1 X.2.2.2.2.2.2.2.2.2.2.1 r) (hq : ∀ i pc, pu_lp i = some (224, pc) → pu_S X mdX11_check pc (r i)) : pu_S X mdX11_check 15 (kX11_check_15 r) := by
  unfold kX11_check_15
  exact z_bipush hX dX11_check_15 (by decide) ((tX11_check_17 hX hr hq))
def kX11_check_0 (r : pu_R) : pu_K := s_ild 1 (s_cs r 18 1 (s_ifeq (kX11_check_15 r) (s_ald 0 (s_ild 1 (s_cv r 223 1 11 ((kX11_check_17 r)))))))
theorem vX11_check_0 : pu_cok2 kX11_check_0 := fun rf r hr => by
  unfold kX11_check_0
  exact v_ild (v_cs hr (v_ifeq (vX11_check_15 rf r hr) (v_ald (v_ild (v_cv hr ((vX11_check_17 rf r hr)))))))
theorem tX11_check_0 {X : pu_X} {r : pu_R} (hX : pu_H X mdX11_check) (hr : pu_P X.2.1 X.2.2.2.2.2.2.2.2.2.2.1 r) (hq : ∀ i pc, pu_lp i = some (224, pc) → pu_S X mdX11_check pc (r i)) : pu_S X mdX11_check 0 (kX11_check_0 r) := by
  unfold kX11_check_0
  exact z_ild_n hX dX11_check_0 rfl (z_cs hX hr dX11_check_1 hjX11_isDay mwX11_isDay wm10_21 wm10_22 ⟨Nat.le_of_ble_eq_true rfl, Nat.le_of_ble_eq_true rfl⟩ (z_ifeq hX dX11_check_4 (by decide) (tX11_check_15 hX hr hq) (z_ald_n hX dX11_check_7 rfl (z_ild_n hX dX11_check_8 rfl (z_cv (c := 11) hX hr dX11_check_9 hjX11_checkRecords mwX11_checkRecords rfl wm72_21 ⟨wm72_22, wm72_23⟩ ⟨Nat.le_of_ble_eq_true rfl, Nat.le_of_ble_eq_true rfl⟩ ((z_goto hX dX11_check_12 (by decide) (tX11_check_17 hX hr hq))))))))
def kX0_byteAt_22 (r : pu_R) : pu_K := s_iret
theorem vX0_byteAt_22 : pu_cok2 kX0_byteAt_22 := fun rf r hr => by
  unfold kX0_byteAt_22
  exact v_iret
theorem tX0_byteAt_22 {X : pu_X} {r : pu_R} (hX : pu_H X mdX0_byteAt) (hr : pu_P X.2.1 X.2.2.2.2.2.2.2.2.2.2.1 r) (hq : ∀ i pc, pu_lp i = some (225, pc) → pu_S X mdX0_byteAt pc (r i)) : pu_S X mdX0_byteAt 22 (kX0_byteAt_22 r) := by
  unfold kX0_byteAt_22
  exact z_iret hX dX0_byteAt_22 rfl
def kX0_byteAt_21 (r : pu_R) : pu_K := s_push (.int (-1)) ((kX0_byteAt_22 r))
theorem vX0_byteAt_21 : pu_cok2 kX0_byteAt_21 := fun rf r hr => by
  unfold kX0_byteAt_21
  exact v_pi ((vX0_byteAt_22 rf r hr))
theorem tX0_byteAt_21 {X : pu_X} {r : pu_R} (hX : pu_H X mdX0_byteAt) (hr : pu_P X.2.1 X.2.2.2.2.2.2.2.2.2.2.1 r) (hq : ∀ i pc, pu_lp i = some (225, pc) → pu_S X mdX0_byteAt pc (r i)) : pu_S X mdX0_byteAt 21 (kX0_byteAt_21 r) := by
  unfold kX0_byteAt_21
  exact z_iconst hX dX0_byteAt_21 (by decide) ((tX0_byteAt_22 hX hr hq))
def kX0_byteAt_0 (r : pu_R) : pu_K := s_ild 1 (s_iflt (kX0_byteAt_21 r) (s_ild 1 (s_ald 0 (s_gi 0 0 (s_icge (kX0_byteAt_21 r) (s_ald 0 (s_gr 0 1 (s_ild 1 (s_ai 1 ((kX0_byteAt_22 r)))))))))))
theorem vX0_byteAt_0 : pu_cok2 kX0_byteAt_0 := fun rf r hr => by
  unfold kX0_byteAt_0
  exact v_ild (v_iflt (vX0_byteAt_21 rf r hr) (v_ild (v_ald (v_gi (v_icge (vX0_byteAt_21 rf r hr) (v_ald (v_gr (v_ild (v_ai ((vX0_byteAt_22 rf r hr)))))))))))
theorem tX0_byteAt_0 {X : pu_X} {r : pu_R} (hX : pu_H X mdX0_byteAt) (hr : pu_P X.2.1 X.2.2.2.2.2.2.2.2.2.2.1 r) (hq : ∀ i pc, pu_lp i = some (225, pc) → pu_S X mdX0_byteAt pc (r i)) : pu_S X mdX0_byteAt 0 (kX0_byteAt_0 r) := by
  unfold kX0_byteAt_0
  exact z_ild_n hX dX0_byteAt_0 rfl (z_iflt hX dX0_byteAt_1 (by decide) (tX0_byteAt_21 hX hr hq) (z_ild_n hX dX0_byteAt_4 rfl (z_ald_n hX dX0_byteAt_5 rfl (z_gi (c := 0) (j := 0) hX dX0_byteAt_6 rfl inlX0 wm9_10 ⟨rfl, by decide, rfl⟩ (z_icge hX dX0_byteAt_9 (by decide) (tX0_byteAt_21 hX hr hq) (z_ald_n hX dX0_byteAt_12 rfl (z_gr (c := 0) (j := 1) hX dX0_byteAt_13 rfl inlX0 wm2_14 ⟨rfl, by decide, rfl⟩ (z_ild_n hX dX0_byteAt_16 rfl (z_iald hX dX0_byteAt_17 ((z_goto hX dX0_byteAt_18 (by decide) (tX0_byteAt_22 hX hr hq))))))))))))
def kX11_out_0 (r : pu_R) : pu_K := s_ald 0 (s_gr 11 1 (s_ild 1 (s_cv r 225 1 0 (s_iret))))
theorem vX11_out_0 : pu_cok2 kX11_out_0 := fun rf r hr => by
  unfold kX11_out_0
  exact v_ald (v_gr (v_ild (v_cv hr (v_iret))))
theorem tX11_out_0 {X : pu_X} {r : pu_R} (hX : pu_H X mdX11_out) (hr : pu_P X.2.1 X.2.2.2.2.2.2.2.2.2.2.1 r) (hq : ∀ i pc, pu_lp i = some (226, pc) → pu_S X mdX11_out pc (r i)) : pu_S X mdX11_out 0 (kX11_out_0 r) := by
  unfold kX11_out_0
  exact z_ald_n hX dX11_out_0 rfl (z_gr (c := 11) (j := 1) hX dX11_out_1 rfl inlX11 wm1_16 ⟨rfl, by decide, rfl⟩ (z_ild_n hX dX11_out_4 rfl (z_cv (c := 0) hX hr dX11_out_5 hjX0_byteAt mwX0_byteAt rfl wm73_15 ⟨wm73_16, wm73_17⟩ ⟨Nat.le_of_ble_eq_true rfl, Nat.le_of_ble_eq_true rfl⟩ (z_iret hX dX11_out_8 rfl))))
def kX11_count_202 (r : pu_R) : pu_K := s_iret
theorem vX11_count_202 : pu_cok2 kX11_count_202 := fun rf r hr => by
  unfold kX11_count_202
  exact v_iret
theorem tX11_count_202 {X : pu_X} {r : pu_R} (hX : pu_H X mdX11_count) (hr : pu_P X.2.1 X.2.2.2.2.2.2.2.2.2.2.1 r) (hq : ∀ i pc, pu_lp i = some (227, pc) → pu_S X mdX11_count pc (r i)) : pu_S X mdX11_count 202 (kX11_count_202 r) := by
  unfold kX11_count_202
  exact z_iret hX dX11_count_202 rfl
def kX11_count_201 (r : pu_R) : pu_K := s_push (.int (-1)) ((kX11_count_202 r))
theorem vX11_count_201 : pu_cok2 kX11_count_201 := fun rf r hr => by
  unfold kX11_count_201
  exact v_pi ((vX11_count_202 rf r hr))
theorem tX11_count_201 {X : pu_X} {r : pu_R} (hX : pu_H X mdX11_count) (hr : pu_P X.2.1 X.2.2.2.2.2.2.2.2.2.2.1 r) (hq : ∀ i pc, pu_lp i = some (227, pc) → pu_S X mdX11_count pc (r i)) : pu_S X mdX11_count 201 (kX11_count_201 r) := by
  unfold kX11_count_201
  exact z_iconst hX dX11_count_201 (by decide) ((tX11_count_202 hX hr hq))
def kX11_count_178 (r : pu_R) : pu_K := s_ild 1 (s_push (.int (100)) (s_iclt (kX11_count_201 r) (s_ald 0 (s_gr 11 2 (s_gr 5 3 (s_ild 1 (s_push (.int (100)) (s_isub (s_cv r 64 1 10 ((kX11_count_202 r)))))))))))
theorem vX11_count_178 : pu_cok2 kX11_count_178 := fun rf r hr => by
  unfold kX11_count_178
  exact v_ild (v_pi (v_iclt (vX11_count_201 rf r hr) (v_ald (v_gr (v_gr (v_ild (v_pi (v_isub (v_cv hr ((vX11_count_202 rf r hr)))))))))))
theorem tX11_count_178 {X : pu_X} {r : pu_R} (hX : pu_H X mdX11_count) (hr : pu_P X.2.1 X.2.2.2.2.2.2.2.2.2.2.1 r) (hq : ∀ i pc, pu_lp i = some (227, pc) → pu_S X mdX11_count pc (r i)) : pu_S X mdX11_count 178 (kX11_count_178 r) := by
  unfold kX11_count_178
  exact z_ild_n hX dX11_count_178 rfl (z_bipush hX dX11_count_179 (by decide) (z_iclt hX dX11_count_181 (by decide) (tX11_count_201 hX hr hq) (z_ald_n hX dX11_count_184 rfl (z_gr (c := 11) (j := 2) hX dX11_count_185 rfl inlX11 wm1_20 ⟨rfl, by decide, rfl⟩ (z_gr (c := 5) (j := 3) hX dX11_count_188 rfl inlX5 wm11_22 ⟨rfl, by decide, rfl⟩ (z_ild_n hX dX11_count_191 rfl (z_bipush hX dX11_count_192 (by decide) (z_isub hX dX11_count_194 (z_cv (c := 10) hX hr dX11_count_195 hjX10_ruleOf mwX10_ruleOf rfl wm23_8 ⟨wm23_9, wm23_10⟩ ⟨Nat.le_of_ble_eq_true rfl, Nat.le_of_ble_eq_true rfl⟩ ((z_goto hX dX11_count_198 (by decide) (tX11_count_202 hX hr hq))))))))))))
def kX11_count_170 (r : pu_R) : pu_K := s_ald 0 (s_gr 11 0 (s_gi 0 0 (s_iret)))
theorem vX11_count_170 : pu_cok2 kX11_count_170 := fun rf r hr => by
  unfold kX11_count_170
  exact v_ald (v_gr (v_gi (v_iret)))
theorem tX11_count_170 {X : pu_X} {r : pu_R} (hX : pu_H X mdX11_count) (hr : pu_P X.2.1 X.2.2.2.2.2.2.2.2.2.2.1 r) (hq : ∀ i pc, pu_lp i = some (227, pc) → pu_S X mdX11_count pc (r i)) : pu_S X mdX11_count 170 (kX11_count_170 r) := by
  unfold kX11_count_170
  exact z_ald_n hX dX11_count_170 rfl (z_gr (c := 11) (j := 0) hX dX11_count_171 rfl inlX11 wm1_15 ⟨rfl, by decide, rfl⟩ (z_gi (c := 0) (j := 0) hX dX11_count_174 rfl inlX0 wm9_1 ⟨rfl, by decide, rfl⟩ (z_iret hX dX11_count_177 rfl)))
def kX11_count_159 (r : pu_R) : pu_K := s_ald 0 (s_gr 11 2 (s_gr 5 6 (s_gi 1 2 (s_iret))))
theorem vX11_count_159 : pu_cok2 kX11_count_159 := fun rf r hr => by
  unfold kX11_count_159
  exact v_ald (v_gr (v_gr (v_gi (v_iret))))
theorem tX11_count_159 {X : pu_X} {r : pu_R} (hX : pu_H X mdX11_count) (hr : pu_P X.2.1 X.2.2.2.2.2.2.2.2.2.2.1 r) (hq : ∀ i pc, pu_lp i = some (227, pc) → pu_S X mdX11_count pc (r i)) : pu_S X mdX11_count 159 (kX11_count_159 r) := by
  unfold kX11_count_159
  exact z_ald_n hX dX11_count_159 rfl (z_gr (c := 11) (j := 2) hX dX11_count_160 rfl inlX11 wm1_20 ⟨rfl, by decide, rfl⟩ (z_gr (c := 5) (j := 6) hX dX11_count_163 rfl inlX5 wm54_0 ⟨rfl, by decide, rfl⟩ (z_gi (c := 1) (j := 2) hX dX11_count_166 rfl inlX1 wm54_1 ⟨rfl, by decide, rfl⟩ (z_iret hX dX11_count_169 rfl))))
def kX11_count_148 (r : pu_R) : pu_K := s_ald 0 (s_gr 11 2 (s_gr 5 6 (s_gi 1 6 (s_iret))))
theorem vX11_count_148 : pu_cok2 kX11_count_148 := fun rf r hr => by
  unfold kX11_count_148
  exact v_ald (v_gr (v_gr (v_gi (v_iret))))
theorem tX11_count_148 {X : pu_X} {r : pu_R} (hX : pu_H X mdX11_count) (hr : pu_P X.2.1 X.2.2.2.2.2.2.2.2.2.2.1 r) (hq : ∀ i pc, pu_lp i = some (227, pc) → pu_S X mdX11_count pc (r i)) : pu_S X mdX11_count 148 (kX11_count_148 r) := by
  unfold kX11_count_148
  exact z_ald_n hX dX11_count_148 rfl (z_gr (c := 11) (j := 2) hX dX11_count_149 rfl inlX11 wm1_20 ⟨rfl, by decide, rfl⟩ (z_gr (c := 5) (j := 6) hX dX11_count_152 rfl inlX5 wm54_0 ⟨rfl, by decide, rfl⟩ (z_gi (c := 1) (j := 6) hX dX11_count_155 rfl inlX1 wm69_21 ⟨rfl, by decide, rfl⟩ (z_iret hX dX11_count_158 rfl))))
def kX11_count_137 (r : pu_R) : pu_K := s_ald 0 (s_gr 11 2 (s_gr 5 6 (s_gi 1 4 (s_iret))))
theorem vX11_count_137 : pu_cok2 kX11_count_137 := fun rf r hr => by
  unfold kX11_count_137
  exact v_ald (v_gr (v_gr (v_gi (v_iret))))
theorem tX11_count_137 {X : pu_X} {r : pu_R} (hX : pu_H X mdX11_count) (hr : pu_P X.2.1 X.2.2.2.2.2.2.2.2.2.2.1 r) (hq : ∀ i pc, pu_lp i = some (227, pc) → pu_S X mdX11_count pc (r i)) : pu_S X mdX11_count 137 (kX11_count_137 r) := by
  unfold kX11_count_137
  exact z_ald_n hX dX11_count_137 rfl (z_gr (c := 11) (j := 2) hX dX11_count_138 rfl inlX11 wm1_20 ⟨rfl, by decide, rfl⟩ (z_gr (c := 5) (j := 6) hX dX11_count_141 rfl inlX5 wm54_0 ⟨rfl, by decide, rfl⟩ (z_gi (c := 1) (j := 4) hX dX11_count_144 rfl inlX1 wm66_15 ⟨rfl, by decide, rfl⟩ (z_iret hX dX11_count_147 rfl))))
def kX11_count_126 (r : pu_R) : pu_K := s_ald 0 (s_gr 11 2 (s_gr 5 5 (s_gi 8 0 (s_iret))))
theorem vX11_count_126 : pu_cok2 kX11_count_126 := fun rf r hr => by
  unfold kX11_count_126
  exact v_ald (v_gr (v_gr (v_gi (v_iret))))
theorem tX11_count_126 {X : pu_X} {r : pu_R} (hX : pu_H X mdX11_count) (hr : pu_P X.2.1 X.2.2.2.2.2.2.2.2.2.2.1 r) (hq : ∀ i pc, pu_lp i = some (227, pc) → pu_S X mdX11_count pc (r i)) : pu_S X mdX11_count 126 (kX11_count_126 r) := by
  unfold kX11_count_126
  exact z_ald_n hX dX11_count_126 rfl (z_gr (c := 11) (j := 2) hX dX11_count_127 rfl inlX11 wm1_20 ⟨rfl, by decide, rfl⟩ (z_gr (c := 5) (j := 5) hX dX11_count_130 rfl inlX5 wm12_5 ⟨rfl, by decide, rfl⟩ (z_gi (c := 8) (j := 0) hX dX11_count_133 rfl inlX8 wm16_8 ⟨rfl, by decide, rfl⟩ (z_iret hX dX11_count_136 rfl))))
def kX11_count_115 (r : pu_R) : pu_K := s_ald 0 (s_gr 11 2 (s_gr 5 0 (s_gi 6 0 (s_iret))))
theorem vX11_count_115 : pu_cok2 kX11_count_115 := fun rf r hr => by
  unfold kX11_count_115
  exact v_ald (v_gr (v_gr (v_gi (v_iret))))
theorem tX11_count_115 {X : pu_X} {r : pu_R} (hX : pu_H X mdX11_count) (hr : pu_P X.2.1 X.2.2.2.2.2.2.2.2.2.2.1 r) (hq : ∀ i pc, pu_lp i = some (227, pc) → pu_S X mdX11_count pc (r i)) : pu_S X mdX11_count 115 (kX11_count_115 r) := by
  unfold kX11_count_115
  exact z_ald_n hX dX11_count_115 rfl (z_gr (c := 11) (j := 2) hX dX11_count_116 rfl inlX11 wm1_20 ⟨rfl, by decide, rfl⟩ (z_gr (c := 5) (j := 0) hX dX11_count_119 rfl inlX5 wm10_19 ⟨rfl, by decide, rfl⟩ (z_gi (c := 6) (j := 0) hX dX11_count_122 rfl inlX6 wm10_20 ⟨rfl, by decide, rfl⟩ (z_iret hX dX11_count_125 rfl))))
def kX11_count_104 (r : pu_R) : pu_K := s_ald 0 (s_gr 11 2 (s_gr 5 1 (s_gi 4 0 (s_iret))))
theorem vX11_count_104 : pu_cok2 kX11_count_104 := fun rf r hr => by
  unfold kX11_count_104
  exact v_ald (v_gr (v_gr (v_gi (v_iret))))
theorem tX11_count_104 {X : pu_X} {r : pu_R} (hX : pu_H X mdX11_count) (hr : pu_P X.2.1 X.2.2.2.2.2.2.2.2.2.2.1 r) (hq : ∀ i pc, pu_lp i = some (227, pc) → pu_S X mdX11_count pc (r i)) : pu_S X mdX11_count 104 (kX11_count_104 r) := by
  unfold kX11_count_104
  exact z_ald_n hX dX11_count_104 rfl (z_gr (c := 11) (j := 2) hX dX11_count_105 rfl inlX11 wm1_20 ⟨rfl, by decide, rfl⟩ (z_gr (c := 5) (j := 1) hX dX11_count_108 rfl inlX5 wm21_22 ⟨rfl, by decide, rfl⟩ (z_gi (c := 4) (j := 0) hX dX11_count_111 rfl inlX4 wm62_14 ⟨rfl, by decide, rfl⟩ (z_iret hX dX11_count_114 rfl))))
def kX11_count_93 (r : pu_R) : pu_K := s_ald 0 (s_gr 11 2 (s_gr 5 0 (s_gi 6 2 (s_iret))))
theorem vX11_count_93 : pu_cok2 kX11_count_93 := fun rf r hr => by
  unfold kX11_count_93
  exact v_ald (v_gr (v_gr (v_gi (v_iret))))
theorem tX11_count_93 {X : pu_X} {r : pu_R} (hX : pu_H X mdX11_count) (hr : pu_P X.2.1 X.2.2.2.2.2.2.2.2.2.2.1 r) (hq : ∀ i pc, pu_lp i = some (227, pc) → pu_S X mdX11_count pc (r i)) : pu_S X mdX11_count 93 (kX11_count_93 r) := by
  unfold kX11_count_93
  exact z_ald_n hX dX11_count_93 rfl (z_gr (c := 11) (j := 2) hX dX11_count_94 rfl inlX11 wm1_20 ⟨rfl, by decide, rfl⟩ (z_gr (c := 5) (j := 0) hX dX11_count_97 rfl inlX5 wm10_19 ⟨rfl, by decide, rfl⟩ (z_gi (c := 6) (j := 2) hX dX11_count_100 rfl inlX6 wm74_3 ⟨rfl, by decide, rfl⟩ (z_iret hX dX11_count_103 rfl))))
def kX11_count_82 (r : pu_R) : pu_K := s_ald 0 (s_gr 11 2 (s_gr 5 4 (s_gi 2 0 (s_iret))))
theorem vX11_count_82 : pu_cok2 kX11_count_82 := fun rf r hr => by
  unfold kX11_count_82
  exact v_ald (v_gr (v_gr (v_gi (v_iret))))
theorem tX11_count_82 {X : pu_X} {r : pu_R} (hX : pu_H X mdX11_count) (hr : pu_P X.2.1 X.2.2.2.2.2.2.2.2.2.2.1 r) (hq : ∀ i pc, pu_lp i = some (227, pc) → pu_S X mdX11_count pc (r i)) : pu_S X mdX11_count 82 (kX11_count_82 r) := by
  unfold kX11_count_82
  exact z_ald_n hX dX11_count_82 rfl (z_gr (c := 11) (j := 2) hX dX11_count_83 rfl inlX11 wm1_20 ⟨rfl, by decide, rfl⟩ (z_gr (c := 5) (j := 4) hX dX11_count_86 rfl inlX5 wm21_20 ⟨rfl, by decide, rfl⟩ (z_gi (c := 2) (j := 0) hX dX11_count_89 rfl inlX2 wm21_21 ⟨rfl, by decide, rfl⟩ (z_iret hX dX11_count_92 rfl))))
def kX11_count_71 (r : pu_R) : pu_K := s_ald 0 (s_gr 11 2 (s_gr 5 3 (s_gi 10 1 (s_iret))))
theorem vX11_count_71 : pu_cok2 kX11_count_71 := fun rf r hr => by
  unfold kX11_count_71
  exact v_ald (v_gr (v_gr (v_gi (v_iret))))
theorem tX11_count_71 {X : pu_X} {r : pu_R} (hX : pu_H X mdX11_count) (hr : pu_P X.2.1 X.2.2.2.2.2.2.2.2.2.2.1 r) (hq : ∀ i pc, pu_lp i = some (227, pc) → pu_S X mdX11_count pc (r i)) : pu_S X mdX11_count 71 (kX11_count_71 r) := by
  unfold kX11_count_71
  exact z_ald_n hX dX11_count_71 rfl (z_gr (c := 11) (j := 2) hX dX11_count_72 rfl inlX11 wm1_20 ⟨rfl, by decide, rfl⟩ (z_gr (c := 5) (j := 3) hX dX11_count_75 rfl inlX5 wm11_22 ⟨rfl, by decide, rfl⟩ (z_gi (c := 10) (j := 1) hX dX11_count_78 rfl inlX10 wm17_14 ⟨rfl, by decide, rfl⟩ (z_iret hX dX11_count_81 rfl))))
def kX11_count_60 (r : pu_R) : pu_K := s_ald 0 (s_gr 11 2 (s_gr 5 3 (s_gi 10 0 (s_iret))))
theorem vX11_count_60 : pu_cok2 kX11_count_60 := fun rf r hr => by
  unfold kX11_count_60
  exact v_ald (v_gr (v_gr (v_gi (v_iret))))
theorem tX11_count_60 {X : pu_X} {r : pu_R} (hX : pu_H X mdX11_count) (hr : pu_P X.2.1 X.2.2.2.2.2.2.2.2.2.2.1 r) (hq : ∀ i pc, pu_lp i = some (227, pc) → pu_S X mdX11_count pc (r i)) : pu_S X mdX11_count 60 (kX11_count_60 r) := by
  unfold kX11_count_60
  exact z_ald_n hX dX11_count_60 rfl (z_gr (c := 11) (j := 2) hX dX11_count_61 rfl inlX11 wm1_20 ⟨rfl, by decide, rfl⟩ (z_gr (c := 5) (j := 3) hX dX11_count_64 rfl inlX5 wm11_22 ⟨rfl, by decide, rfl⟩ (z_gi (c := 10) (j := 0) hX dX11_count_67 rfl inlX10 wm12_0 ⟨rfl, by decide, rfl⟩ (z_iret hX dX11_count_70 rfl))))
def kX11_count_0 (r : pu_R) : pu_K := s_ild 1 (s_sw (0) [(kX11_count_60 r), (kX11_count_71 r), (kX11_count_82 r), (kX11_count_93 r), (kX11_count_104 r), (kX11_count_115 r), (kX11_count_126 r), (kX11_count_137 r), (kX11_count_148 r), (kX11_count_159 r), (kX11_count_170 r)] (kX11_count_178 r))
theorem vX11_count_0 : pu_cok2 kX11_count_0 := fun rf r hr => by
  unfold kX11_count_0
  exact v_ild (v_sw (kfs := fun f => [(kX11_count_60 (rf f)), (kX11_count_71 (rf f)), (kX11_count_82 (rf f)), (kX11_count_93 (rf f)), (kX11_count_104 (rf f)), (kX11_count_115 (rf f)), (kX11_count_126 (rf f)), (kX11_count_137 (rf f)), (kX11_count_148 (rf f)), (kX11_count_159 (rf f)), (kX11_count_170 (rf f))]) (fun i k hk => match i, hk with
    | 0, hk => by cases hk; exact ⟨_, fun _ => rfl, (vX11_count_60 rf r hr)⟩
    | 1, hk => by cases hk; exact ⟨_, fun _ => rfl, (vX11_count_71 rf r hr)⟩
    | 2, hk => by cases hk; exact ⟨_, fun _ => rfl, (vX11_count_82 rf r hr)⟩
    | 3, hk => by cases hk; exact ⟨_, fun _ => rfl, (vX11_count_93 rf r hr)⟩
    | 4, hk => by cases hk; exact ⟨_, fun _ => rfl, (vX11_count_104 rf r hr)⟩
    | 5, hk => by cases hk; exact ⟨_, fun _ => rfl, (vX11_count_115 rf r hr)⟩
    | 6, hk => by cases hk; exact ⟨_, fun _ => rfl, (vX11_count_126 rf r hr)⟩
    | 7, hk => by cases hk; exact ⟨_, fun _ => rfl, (vX11_count_137 rf r hr)⟩
    | 8, hk => by cases hk; exact ⟨_, fun _ => rfl, (vX11_count_148 rf r hr)⟩
    | 9, hk => by cases hk; exact ⟨_, fun _ => rfl, (vX11_count_159 rf r hr)⟩
    | 10, hk => by cases hk; exact ⟨_, fun _ => rfl, (vX11_count_170 rf r hr)⟩
    | q + 11, hk => by cases hk) (fun _ => rfl) (vX11_count_178 rf r hr))
theorem tX11_count_0 {X : pu_X} {r : pu_R} (hX : pu_H X mdX11_count) (hr : pu_P X.2.1 X.2.2.2.2.2.2.2.2.2.2.1 r) (hq : ∀ i pc, pu_lp i = some (227, pc) → pu_S X mdX11_count pc (r i)) : pu_S X mdX11_count 0 (kX11_count_0 r) := by
  unfold kX11_count_0
  exact z_ild_n hX dX11_count_0 rfl (z_sw hX dX11_count_1 (by rfl) (by decide) (tX11_count_178 hX hr hq) (fun i k hk => match i, hk with
    | 0, hk => by cases hk; exact ⟨59, 60, rfl, by decide, (tX11_count_60 hX hr hq)⟩
    | 1, hk => by cases hk; exact ⟨70, 71, rfl, by decide, (tX11_count_71 hX hr hq)⟩
    | 2, hk => by cases hk; exact ⟨81, 82, rfl, by decide, (tX11_count_82 hX hr hq)⟩
    | 3, hk => by cases hk; exact ⟨92, 93, rfl, by decide, (tX11_count_93 hX hr hq)⟩
    | 4, hk => by cases hk; exact ⟨103, 104, rfl, by decide, (tX11_count_104 hX hr hq)⟩
    | 5, hk => by cases hk; exact ⟨114, 115, rfl, by decide, (tX11_count_115 hX hr hq)⟩
    | 6, hk => by cases hk; exact ⟨125, 126, rfl, by decide, (tX11_count_126 hX hr hq)⟩
    | 7, hk => by cases hk; exact ⟨136, 137, rfl, by decide, (tX11_count_137 hX hr hq)⟩
    | 8, hk => by cases hk; exact ⟨147, 148, rfl, by decide, (tX11_count_148 hX hr hq)⟩
    | 9, hk => by cases hk; exact ⟨158, 159, rfl, by decide, (tX11_count_159 hX hr hq)⟩
    | 10, hk => by cases hk; exact ⟨169, 170, rfl, by decide, (tX11_count_170 hX hr hq)⟩
    | q + 11, hk => by cases hk))
def kX12_init_234 (r : pu_R) : pu_K := s_vret
theorem vX12_init_234 : pu_cok2 kX12_init_234 := fun rf r hr => by
  unfold kX12_init_234
  exact v_vret
theorem tX12_init_234 {X : pu_X} {r : pu_R} (hX : pu_H X mdX12_init) (hr : pu_P X.2.1 X.2.2.2.2.2.2.2.2.2.2.1 r) (hq : ∀ i pc, pu_lp i = some (228, pc) → pu_S X mdX12_init pc (r i)) : pu_S X mdX12_init 234 (kX12_init_234 r) := by
  unfold kX12_init_234
  exact z_vret hX dX12_init_234 rfl
def kX12_init_207 (r : pu_R) : pu_K := s_ild 1 (s_push (.int (48)) (s_icge (kX12_init_234 r) (s_ald 0 (s_gr 12 0 (s_push (.int (30632)) (s_push (.int (601)) (s_ild 1 (s_imul (s_iadd (s_push (.int (-1)) (s_wi 1 (s_inc 1 (1) ((r 429))))))))))))))
theorem vX12_init_207 : pu_cok2 kX12_init_207 := fun rf r hr => by
  unfold kX12_init_207
  exact v_ild (v_pi (v_icge (vX12_init_234 rf r hr) (v_ald (v_gr (v_pi (v_pi (v_ild (v_imul (v_iadd (v_pi (v_wi (v_inc ((hr 429))))))))))))))
theorem tX12_init_207 {X : pu_X} {r : pu_R} (hX : pu_H X mdX12_init) (hr : pu_P X.2.1 X.2.2.2.2.2.2.2.2.2.2.1 r) (hq : ∀ i pc, pu_lp i = some (228, pc) → pu_S X mdX12_init pc (r i)) : pu_S X mdX12_init 207 (kX12_init_207 r) := by
  unfold kX12_init_207
  exact z_ild_n hX dX12_init_207 rfl (z_bipush hX dX12_init_208 (by decide) (z_icge hX dX12_init_210 (by decide) (tX12_init_234 hX hr hq) (z_ald_n hX dX12_init_213 rfl (z_gr (c := 12) (j := 0) hX dX12_init_214 rfl inlX12 wm7_16 ⟨rfl, by decide, rfl⟩ (z_sipush hX dX12_init_217 (by decide) (z_sipush hX dX12_init_220 (by decide) (z_ild_n hX dX12_init_223 rfl (z_imul hX dX12_init_224 (z_iadd hX dX12_init_225 (z_iconst hX dX12_init_226 (by decide) (z_iast hX dX12_init_227 (z_inc hX dX12_init_228 (by decide) ((z_goto hX dX12_init_231 (by decide) (hq 429 207 hl429)))))))))))))))
def kX12_init_186 (r : pu_R) : pu_K := s_push (.int (1)) (s_push (.int (-1)) (s_wi 1 (s_ald 0 (s_gr 12 0 (s_push (.int (15)) (s_push (.int (-1)) (s_wi 1 (s_ald 0 (s_gr 12 0 (s_push (.int (16)) (s_push (.int (-1)) (s_wi 1 (s_push (.int (0)) (s_ist 1 ((r 429))))))))))))))))
theorem vX12_init_186 : pu_cok2 kX12_init_186 := fun rf r hr => by
  unfold kX12_init_186
  exact v_pi (v_pi (v_wi (v_ald (v_gr (v_pi (v_pi (v_wi (v_ald (v_gr (v_pi (v_pi (v_wi (v_pi (v_ist ((hr 429))))))))))))))))
theorem tX12_init_186 {X : pu_X} {r : pu_R} (hX : pu_H X mdX12_init) (hr : pu_P X.2.1 X.2.2.2.2.2.2.2.2.2.2.1 r) (hq : ∀ i pc, pu_lp i = some (228, pc) → pu_S X mdX12_init pc (r i)) : pu_S X mdX12_init 186 (kX12_init_186 r) := by
  unfold kX12_init_186
  exact z_iconst hX dX12_init_186 (by decide) (z_iconst hX dX12_init_187 (by decide) (z_iast hX dX12_init_188 (z_ald_n hX dX12_init_189 rfl (z_gr (c := 12) (j := 0) hX dX12_init_190 rfl inlX12 wm7_16 ⟨rfl, by decide, rfl⟩ (z_bipush hX dX12_init_193 (by decide) (z_iconst hX dX12_init_195 (by decide) (z_iast hX dX12_init_196 (z_ald_n hX dX12_init_197 rfl (z_gr (c := 12) (j := 0) hX dX12_init_198 rfl inlX12 wm7_16 ⟨rfl, by decide, rfl⟩ (z_bipush hX dX12_init_201 (by decide) (z_iconst hX dX12_init_203 (by decide) (z_iast hX dX12_init_204 (z_iconst hX dX12_init_205 (by decide) (z_ist_n hX dX12_init_206 rfl ((hq 429 207 hl429))))))))))))))))
def kX12_init_137 (r : pu_R) : pu_K := s_pi 12 19 (s_ald 0 (s_push (.int (0)) (s_pi 12 20 (s_ald 0 (s_push (.int (0)) (s_pz 12 21 (s_ald 0 (s_push (.int (0)) (s_pi 12 22 (s_ald 0 (s_push (.int (200)) (s_na 1 (s_pr 12 23 (s_ald 0 (s_push (.int (200)) (s_na 1 (s_pr 12 24 (s_ald 0 (s_push (.int (200)) (s_na 4 (s_pr 12 25 (s_ald 0 (s_gr 12 0 ((kX12_init_186 r)))))))))))))))))))))))))
theorem vX12_init_137 : pu_cok2 kX12_init_137 := fun rf r hr => by
  unfold kX12_init_137
  exact v_puti (v_ald (v_pi (v_puti (v_ald (v_pi (v_pz (v_ald (v_pi (v_puti (v_ald (v_pi (v_na (v_pr (v_ald (v_pi (v_na (v_pr (v_ald (v_pi (v_na (v_pr (v_ald (v_gr ((vX12_init_186 rf r hr)))))))))))))))))))))))))
theorem tX12_init_137 {X : pu_X} {r : pu_R} (hX : pu_H X mdX12_init) (hr : pu_P X.2.1 X.2.2.2.2.2.2.2.2.2.2.1 r) (hq : ∀ i pc, pu_lp i = some (228, pc) → pu_S X mdX12_init pc (r i)) : pu_S X mdX12_init 137 (kX12_init_137 r) := by
  unfold kX12_init_137
  exact z_pi (c := 12) (j := 19) tyX12 tyX12_ok nmX12 hX dX12_init_137 rfl inlX12 wm8_14 ⟨rfl, by decide⟩ ⟨rfl, rfl⟩ rfl (z_ald_n hX dX12_init_140 rfl (z_iconst hX dX12_init_141 (by decide) (z_pi (c := 12) (j := 20) tyX12 tyX12_ok nmX12 hX dX12_init_142 rfl inlX12 wm8_15 ⟨rfl, by decide⟩ ⟨rfl, rfl⟩ rfl (z_ald_n hX dX12_init_145 rfl (z_iconst hX dX12_init_146 (by decide) (z_pz (c := 12) (j := 21) tyX12 tyX12_ok nmX12 hX dX12_init_147 rfl inlX12 wm8_16 ⟨rfl, by decide⟩ ⟨rfl, rfl⟩ rfl (z_ald_n hX dX12_init_150 rfl (z_iconst hX dX12_init_151 (by decide) (z_pi (c := 12) (j := 22) tyX12 tyX12_ok nmX12 hX dX12_init_152 rfl inlX12 wm8_17 ⟨rfl, by decide⟩ ⟨rfl, rfl⟩ rfl (z_ald_n hX dX12_init_155 rfl (z_sipush hX dX12_init_156 (by decide) (z_na (t0 := 0) hX dX12_init_159 wm2_6 ⟨rfl, by decide⟩ (Or.inl ⟨rfl, rfl⟩) (fun _ => rfl) (z_pr (c := 12) (j := 23) tyX12 tyX12_ok nmX12 hX dX12_init_161 rfl inlX12 wm8_18 ⟨rfl, by decide⟩ ⟨rfl, fun _ => ⟨rfl, rfl⟩⟩ (Or.inr ⟨rfl, rfl, rfl⟩) (z_ald_n hX dX12_init_164 rfl (z_sipush hX dX12_init_165 (by decide) (z_na (t0 := 0) hX dX12_init_168 wm2_6 ⟨rfl, by decide⟩ (Or.inl ⟨rfl, rfl⟩) (fun _ => rfl) (z_pr (c := 12) (j := 24) tyX12 tyX12_ok nmX12 hX dX12_init_170 rfl inlX12 wm8_19 ⟨rfl, by decide⟩ ⟨rfl, fun _ => ⟨rfl, rfl⟩⟩ (Or.inr ⟨rfl, rfl, rfl⟩) (z_ald_n hX dX12_init_173 rfl (z_sipush hX dX12_init_174 (by decide) (z_na (t0 := 3) hX dX12_init_177 wm7_19 ⟨rfl, by decide⟩ (Or.inr (Or.inr (Or.inr ⟨rfl, rfl⟩))) (fun _ => rfl) (z_pr (c := 12) (j := 25) tyX12 tyX12_ok nmX12 hX dX12_init_179 rfl inlX12 wm8_20 ⟨rfl, by decide⟩ ⟨rfl, fun _ => ⟨rfl, rfl⟩⟩ (Or.inr ⟨rfl, rfl, rfl⟩) (z_ald_n hX dX12_init_182 rfl (z_gr (c := 12) (j := 0) hX dX12_init_183 rfl inlX12 wm7_16 ⟨rfl, by decide, rfl⟩ ((tX12_init_186 hX hr hq)))))))))))))))))))))))))
def kX12_init_93 (r : pu_R) : pu_K := s_pr 12 12 (s_ald 0 (s_push (.int (0)) (s_pi 12 13 (s_ald 0 (s_push (.int (200)) (s_na 1 (s_pr 12 14 (s_ald 0 (s_push (.int (2)) (s_na 1 (s_pr 12 15 (s_ald 0 (s_push (.int (36)) (s_na 1 (s_pr 12 16 (s_ald 0 (s_push (.int (0)) (s_pi 12 17 (s_ald 0 (s_push (.int (0)) (s_pi 12 18 (s_ald 0 (s_push (.int (0)) ((kX12_init_137 r)))))))))))))))))))))))))
theorem vX12_init_93 : pu_cok2 kX12_init_93 := fun rf r hr => by
  unfold kX12_init_93
  exact v_pr (v_ald (v_pi (v_puti (v_ald (v_pi (v_na (v_pr (v_ald (v_pi (v_na (v_pr (v_ald (v_pi (v_na (v_pr (v_ald (v_pi (v_puti (v_ald (v_pi (v_puti (v_ald (v_pi ((vX12_init_137 rf r hr)))))))))))))))))))))))))
theorem tX12_init_93 {X : pu_X} {r : pu_R} (hX : pu_H X mdX12_init) (hr : pu_P X.2.1 X.2.2.2.2.2.2.2.2.2.2.1 r) (hq : ∀ i pc, pu_lp i = some (228, pc) → pu_S X mdX12_init pc (r i)) : pu_S X mdX12_init 93 (kX12_init_93 r) := by
  unfold kX12_init_93
  exact z_pr (c := 12) (j := 12) tyX12 tyX12_ok nmX12 hX dX12_init_93 rfl inlX12 wm8_7 ⟨rfl, by decide⟩ ⟨rfl, fun _ => ⟨rfl, rfl⟩⟩ (Or.inr ⟨rfl, rfl, rfl⟩) (z_ald_n hX dX12_init_96 rfl (z_iconst hX dX12_init_97 (by decide) (z_pi (c := 12) (j := 13) tyX12 tyX12_ok nmX12 hX dX12_init_98 rfl inlX12 wm8_8 ⟨rfl, by decide⟩ ⟨rfl, rfl⟩ rfl (z_ald_n hX dX12_init_101 rfl (z_sipush hX dX12_init_102 (by decide) (z_na (t0 := 0) hX dX12_init_105 wm2_6 ⟨rfl, by decide⟩ (Or.inl ⟨rfl, rfl⟩) (fun _ => rfl) (z_pr (c := 12) (j := 14) tyX12 tyX12_ok nmX12 hX dX12_init_107 rfl inlX12 wm8_9 ⟨rfl, by decide⟩ ⟨rfl, fun _ => ⟨rfl, rfl⟩⟩ (Or.inr ⟨rfl, rfl, rfl⟩) (z_ald_n hX dX12_init_110 rfl (z_iconst hX dX12_init_111 (by decide) (z_na (t0 := 0) hX dX12_init_112 wm2_6 ⟨rfl, by decide⟩ (Or.inl ⟨rfl, rfl⟩) (fun _ => rfl) (z_pr (c := 12) (j := 15) tyX12 tyX12_ok nmX12 hX dX12_init_114 rfl inlX12 wm8_10 ⟨rfl, by decide⟩ ⟨rfl, fun _ => ⟨rfl, rfl⟩⟩ (Or.inr ⟨rfl, rfl, rfl⟩) (z_ald_n hX dX12_init_117 rfl (z_bipush hX dX12_init_118 (by decide) (z_na (t0 := 0) hX dX12_init_120 wm2_6 ⟨rfl, by decide⟩ (Or.inl ⟨rfl, rfl⟩) (fun _ => rfl) (z_pr (c := 12) (j := 16) tyX12 tyX12_ok nmX12 hX dX12_init_122 rfl inlX12 wm8_11 ⟨rfl, by decide⟩ ⟨rfl, fun _ => ⟨rfl, rfl⟩⟩ (Or.inr ⟨rfl, rfl, rfl⟩) (z_ald_n hX dX12_init_125 rfl (z_iconst hX dX12_init_126 (by decide) (z_pi (c := 12) (j := 17) tyX12 tyX12_ok nmX12 hX dX12_init_127 rfl inlX12 wm8_12 ⟨rfl, by decide⟩ ⟨rfl, rfl⟩ rfl (z_ald_n hX dX12_init_130 rfl (z_iconst hX dX12_init_131 (by decide) (z_pi (c := 12) (j := 18) tyX12 tyX12_ok nmX12 hX dX12_init_132 rfl inlX12 wm8_13 ⟨rfl, by decide⟩ ⟨rfl, rfl⟩ rfl (z_ald_n hX dX12_init_135 rfl (z_iconst hX dX12_init_136 (by decide) ((tX12_init_137 hX hr hq)))))))))))))))))))))))))
def kX12_init_47 (r : pu_R) : pu_K := s_pr 12 5 (s_ald 0 (s_push (.int (0)) (s_pi 12 6 (s_ald 0 (s_push (.int (1300)) (s_na 2 (s_pr 12 7 (s_ald 0 (s_push (.int (0)) (s_pi 12 8 (s_ald 0 (s_push (.int (36)) (s_na 1 (s_pr 12 9 (s_ald 0 (s_push (.int (0)) (s_pi 12 10 (s_ald 0 (s_push (.int (0)) (s_pi 12 11 (s_ald 0 (s_push (.int (200)) (s_na 1 ((kX12_init_93 r)))))))))))))))))))))))))
theorem vX12_init_47 : pu_cok2 kX12_init_47 := fun rf r hr => by
  unfold kX12_init_47
  exact v_pr (v_ald (v_pi (v_puti (v_ald (v_pi (v_na (v_pr (v_ald (v_pi (v_puti (v_ald (v_pi (v_na (v_pr (v_ald (v_pi (v_puti (v_ald (v_pi (v_puti (v_ald (v_pi (v_na ((vX12_init_93 rf r hr)))))))))))))))))))))))))
theorem tX12_init_47 {X : pu_X} {r : pu_R} (hX : pu_H X mdX12_init) (hr : pu_P X.2.1 X.2.2.2.2.2.2.2.2.2.2.1 r) (hq : ∀ i pc, pu_lp i = some (228, pc) → pu_S X mdX12_init pc (r i)) : pu_S X mdX12_init 47 (kX12_init_47 r) := by
  unfold kX12_init_47
  exact z_pr (c := 12) (j := 5) tyX12 tyX12_ok nmX12 hX dX12_init_47 rfl inlX12 wm8_0 ⟨rfl, by decide⟩ ⟨rfl, fun _ => ⟨rfl, rfl⟩⟩ (Or.inr ⟨rfl, rfl, rfl⟩) (z_ald_n hX dX12_init_50 rfl (z_iconst hX dX12_init_51 (by decide) (z_pi (c := 12) (j := 6) tyX12 tyX12_ok nmX12 hX dX12_init_52 rfl inlX12 wm8_1 ⟨rfl, by decide⟩ ⟨rfl, rfl⟩ rfl (z_ald_n hX dX12_init_55 rfl (z_sipush hX dX12_init_56 (by decide) (z_na (t0 := 1) hX dX12_init_59 wm7_21 ⟨rfl, by decide⟩ (Or.inr (Or.inl ⟨rfl, rfl⟩)) (fun _ => rfl) (z_pr (c := 12) (j := 7) tyX12 tyX12_ok nmX12 hX dX12_init_61 rfl inlX12 wm8_2 ⟨rfl, by decide⟩ ⟨rfl, fun _ => ⟨rfl, rfl⟩⟩ (Or.inr ⟨rfl, rfl, rfl⟩) (z_ald_n hX dX12_init_64 rfl (z_iconst hX dX12_init_65 (by decide) (z_pi (c := 12) (j := 8) tyX12 tyX12_ok nmX12 hX dX12_init_66 rfl inlX12 wm8_3 ⟨rfl, by decide⟩ ⟨rfl, rfl⟩ rfl (z_ald_n hX dX12_init_69 rfl (z_bipush hX dX12_init_70 (by decide) (z_na (t0 := 0) hX dX12_init_72 wm2_6 ⟨rfl, by decide⟩ (Or.inl ⟨rfl, rfl⟩) (fun _ => rfl) (z_pr (c := 12) (j := 9) tyX12 tyX12_ok nmX12 hX dX12_init_74 rfl inlX12 wm8_4 ⟨rfl, by decide⟩ ⟨rfl, fun _ => ⟨rfl, rfl⟩⟩ (Or.inr ⟨rfl, rfl, rfl⟩) (z_ald_n hX dX12_init_77 rfl (z_iconst hX dX12_init_78 (by decide) (z_pi (c := 12) (j := 10) tyX12 tyX12_ok nmX12 hX dX12_init_79 rfl inlX12 wm8_5 ⟨rfl, by decide⟩ ⟨rfl, rfl⟩ rfl (z_ald_n hX dX12_init_82 rfl (z_iconst hX dX12_init_83 (by decide) (z_pi (c := 12) (j := 11) tyX12 tyX12_ok nmX12 hX dX12_init_84 rfl inlX12 wm8_6 ⟨rfl, by decide⟩ ⟨rfl, rfl⟩ rfl (z_ald_n hX dX12_init_87 rfl (z_sipush hX dX12_init_88 (by decide) (z_na (t0 := 0) hX dX12_init_91 wm2_6 ⟨rfl, by decide⟩ (Or.inl ⟨rfl, rfl⟩) (fun _ => rfl) ((tX12_init_93 hX hr hq)))))))))))))))))))))))))
def kX12_init_0 (r : pu_R) : pu_K := s_ald 0 (s_obj (s_ald 0 (s_push (.int (70000)) (s_na 1 (s_pr 12 0 (s_ald 0 (s_push (.int (210000)) (s_na 1 (s_pr 12 1 (s_ald 0 (s_push (.int (3)) (s_na 4 (s_pr 12 2 (s_ald 0 (s_push (.int (1200)) (s_na 2 (s_pr 12 3 (s_ald 0 (s_push (.int (0)) (s_pi 12 4 (s_ald 0 (s_push (.int (1200)) (s_na 2 ((kX12_init_47 r)))))))))))))))))))))))))
theorem vX12_init_0 : pu_cok2 kX12_init_0 := fun rf r hr => by
  unfold kX12_init_0
  exact v_ald (v_obj (v_ald (v_pi (v_na (v_pr (v_ald (v_pi (v_na (v_pr (v_ald (v_pi (v_na (v_pr (v_ald (v_pi (v_na (v_pr (v_ald (v_pi (v_puti (v_ald (v_pi (v_na ((vX12_init_47 rf r hr)))))))))))))))))))))))))
theorem tX12_init_0 {X : pu_X} {r : pu_R} (hX : pu_H X mdX12_init) (hr : pu_P X.2.1 X.2.2.2.2.2.2.2.2.2.2.1 r) (hq : ∀ i pc, pu_lp i = some (228, pc) → pu_S X mdX12_init pc (r i)) : pu_S X mdX12_init 0 (kX12_init_0 r) := by
  unfold kX12_init_0
  exact z_ald_n hX dX12_init_0 rfl (z_obj hX dX12_init_1 ⟨wm7_14, wm1_10, wm1_11⟩ ⟨Nat.le_of_ble_eq_true rfl, Nat.le_of_ble_eq_true rfl⟩ (z_ald_n hX dX12_init_4 rfl (z_ldc hX dX12_init_5 wm7_15 (z_na (t0 := 0) hX dX12_init_7 wm2_6 ⟨rfl, by decide⟩ (Or.inl ⟨rfl, rfl⟩) (fun _ => rfl) (z_pr (c := 12) (j := 0) tyX12 tyX12_ok nmX12 hX dX12_init_9 rfl inlX12 wm7_16 ⟨rfl, by decide⟩ ⟨rfl, fun _ => ⟨rfl, rfl⟩⟩ (Or.inr ⟨rfl, rfl, rfl⟩) (z_ald_n hX dX12_init_12 rfl (z_ldc hX dX12_init_13 wm7_17 (z_na (t0 := 0) hX dX12_init_15 wm2_6 ⟨rfl, by decide⟩ (Or.inl ⟨rfl, rfl⟩) (fun _ => rfl) (z_pr (c := 12) (j := 1) tyX12 tyX12_ok nmX12 hX dX12_init_17 rfl inlX12 wm7_18 ⟨rfl, by decide⟩ ⟨rfl, fun _ => ⟨rfl, rfl⟩⟩ (Or.inr ⟨rfl, rfl, rfl⟩) (z_ald_n hX dX12_init_20 rfl (z_iconst hX dX12_init_21 (by decide) (z_na (t0 := 3) hX dX12_init_22 wm7_19 ⟨rfl, by decide⟩ (Or.inr (Or.inr (Or.inr ⟨rfl, rfl⟩))) (fun _ => rfl) (z_pr (c := 12) (j := 2) tyX12 tyX12_ok nmX12 hX dX12_init_24 rfl inlX12 wm7_20 ⟨rfl, by decide⟩ ⟨rfl, fun _ => ⟨rfl, rfl⟩⟩ (Or.inr ⟨rfl, rfl, rfl⟩) (z_ald_n hX dX12_init_27 rfl (z_sipush hX dX12_init_28 (by decide) (z_na (t0 := 1) hX dX12_init_31 wm7_21 ⟨rfl, by decide⟩ (Or.inr (Or.inl ⟨rfl, rfl⟩)) (fun _ => rfl) (z_pr (c := 12) (j := 3) tyX12 tyX12_ok nmX12 hX dX12_init_33 rfl inlX12 wm7_22 ⟨rfl, by decide⟩ ⟨rfl, fun _ => ⟨rfl, rfl⟩⟩ (Or.inr ⟨rfl, rfl, rfl⟩) (z_ald_n hX dX12_init_36 rfl (z_iconst hX dX12_init_37 (by decide) (z_pi (c := 12) (j := 4) tyX12 tyX12_ok nmX12 hX dX12_init_38 rfl inlX12 wm7_23 ⟨rfl, by decide⟩ ⟨rfl, rfl⟩ rfl (z_ald_n hX dX12_init_41 rfl (z_sipush hX dX12_init_42 (by decide) (z_na (t0 := 1) hX dX12_init_45 wm7_21 ⟨rfl, by decide⟩ (Or.inr (Or.inl ⟨rfl, rfl⟩)) (fun _ => rfl) ((tX12_init_47 hX hr hq)))))))))))))))))))))))))
