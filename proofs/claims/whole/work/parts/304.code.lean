def kX3_haveOneName_65 (r : pu_R) : pu_K := s_push (.int (0)) (s_zret)
theorem vX3_haveOneName_65 : pu_cok2 kX3_haveOneName_65 := fun rf r hr => by
  unfold kX3_haveOneName_65
  exact v_pi (v_zret)
theorem tX3_haveOneName_65 {X : pu_X} {r : pu_R} (hX : pu_H X mdX3_haveOneName) (hr : pu_P X.2.1 X.2.2.2.2.2.2.2.2.2.2.1 r) (hq : ∀ i pc, pu_lp i = some (118, pc) → pu_S X mdX3_haveOneName pc (r i)) : pu_S X mdX3_haveOneName 65 (kX3_haveOneName_65 r) := by
  unfold kX3_haveOneName_65
  exact z_iconst hX dX3_haveOneName_65 (by decide) (z_zret hX dX3_haveOneName_66 rfl)
def kX3_haveOneName_59 (r : pu_R) : pu_K := s_inc 3 (1) ((r 388))
theorem vX3_haveOneName_59 : pu_cok2 kX3_haveOneName_59 := fun rf r hr => by
  unfold kX3_haveOneName_59
  exact v_inc ((hr 388))
theorem tX3_haveOneName_59 {X : pu_X} {r : pu_R} (hX : pu_H X mdX3_haveOneName) (hr : pu_P X.2.1 X.2.2.2.2.2.2.2.2.2.2.1 r) (hq : ∀ i pc, pu_lp i = some (118, pc) → pu_S X mdX3_haveOneName pc (r i)) : pu_S X mdX3_haveOneName 59 (kX3_haveOneName_59 r) := by
  unfold kX3_haveOneName_59
  exact z_inc hX dX3_haveOneName_59 (by decide) ((z_goto hX dX3_haveOneName_62 (by decide) (hq 388 2 hl388)))
def kX3_haveOneName_35 (r : pu_R) : pu_K := s_ist 4 (s_ild 4 (s_ifeq (kX3_haveOneName_59 r) (s_ald 0 (s_ald 0 (s_gr 3 1 (s_ild 3 (s_ai 1 (s_ild 2 (s_cv r 117 2 3 (s_push (.int (-1)) (s_iceq (kX3_haveOneName_59 r) (s_push (.int (1)) (s_zret)))))))))))))
theorem vX3_haveOneName_35 : pu_cok2 kX3_haveOneName_35 := fun rf r hr => by
  unfold kX3_haveOneName_35
  exact v_ist (v_ild (v_ifeq (vX3_haveOneName_59 rf r hr) (v_ald (v_ald (v_gr (v_ild (v_ai (v_ild (v_cv hr (v_pi (v_iceq (vX3_haveOneName_59 rf r hr) (v_pi (v_zret)))))))))))))
theorem tX3_haveOneName_35 {X : pu_X} {r : pu_R} (hX : pu_H X mdX3_haveOneName) (hr : pu_P X.2.1 X.2.2.2.2.2.2.2.2.2.2.1 r) (hq : ∀ i pc, pu_lp i = some (118, pc) → pu_S X mdX3_haveOneName pc (r i)) : pu_S X mdX3_haveOneName 35 (kX3_haveOneName_35 r) := by
  unfold kX3_haveOneName_35
  exact z_ist hX dX3_haveOneName_35 (z_ild hX dX3_haveOneName_37 (z_ifeq hX dX3_haveOneName_39 (by decide) (tX3_haveOneName_59 hX hr hq) (z_ald_n hX dX3_haveOneName_42 rfl (z_ald_n hX dX3_haveOneName_43 rfl (z_gr (c := 3) (j := 1) hX dX3_haveOneName_44 rfl inlX3 wm4_19 ⟨rfl, by decide, rfl⟩ (z_ild_n hX dX3_haveOneName_47 rfl (z_iald hX dX3_haveOneName_48 (z_ild_n hX dX3_haveOneName_49 rfl (z_cv (c := 3) hX hr dX3_haveOneName_50 hjX3_streetNamedLike mwX3_streetNamedLike rfl wm40_7 ⟨wm40_8, wm40_9⟩ ⟨Nat.le_of_ble_eq_true rfl, Nat.le_of_ble_eq_true rfl⟩ (z_iconst hX dX3_haveOneName_53 (by decide) (z_iceq hX dX3_haveOneName_54 (by decide) (tX3_haveOneName_59 hX hr hq) (z_iconst hX dX3_haveOneName_57 (by decide) (z_zret hX dX3_haveOneName_58 rfl)))))))))))))
def kX3_haveOneName_34 (r : pu_R) : pu_K := s_push (.int (0)) ((kX3_haveOneName_35 r))
theorem vX3_haveOneName_34 : pu_cok2 kX3_haveOneName_34 := fun rf r hr => by
  unfold kX3_haveOneName_34
  exact v_pi ((vX3_haveOneName_35 rf r hr))
theorem tX3_haveOneName_34 {X : pu_X} {r : pu_R} (hX : pu_H X mdX3_haveOneName) (hr : pu_P X.2.1 X.2.2.2.2.2.2.2.2.2.2.1 r) (hq : ∀ i pc, pu_lp i = some (118, pc) → pu_S X mdX3_haveOneName pc (r i)) : pu_S X mdX3_haveOneName 34 (kX3_haveOneName_34 r) := by
  unfold kX3_haveOneName_34
  exact z_iconst hX dX3_haveOneName_34 (by decide) ((tX3_haveOneName_35 hX hr hq))
def kX3_haveOneName_2 (r : pu_R) : pu_K := s_ild 3 (s_ald 0 (s_gi 3 0 (s_icge (kX3_haveOneName_65 r) (s_ald 0 (s_gr 3 4 (s_ild 3 (s_ai 1 (s_push (.int (-1)) (s_icne (kX3_haveOneName_34 r) (s_ald 0 (s_gr 3 2 (s_ild 3 (s_ai 1 (s_ild 1 (s_icne (kX3_haveOneName_34 r) (s_push (.int (1)) ((kX3_haveOneName_35 r))))))))))))))))))
theorem vX3_haveOneName_2 : pu_cok2 kX3_haveOneName_2 := fun rf r hr => by
  unfold kX3_haveOneName_2
  exact v_ild (v_ald (v_gi (v_icge (vX3_haveOneName_65 rf r hr) (v_ald (v_gr (v_ild (v_ai (v_pi (v_icne (vX3_haveOneName_34 rf r hr) (v_ald (v_gr (v_ild (v_ai (v_ild (v_icne (vX3_haveOneName_34 rf r hr) (v_pi ((vX3_haveOneName_35 rf r hr))))))))))))))))))
theorem tX3_haveOneName_2 {X : pu_X} {r : pu_R} (hX : pu_H X mdX3_haveOneName) (hr : pu_P X.2.1 X.2.2.2.2.2.2.2.2.2.2.1 r) (hq : ∀ i pc, pu_lp i = some (118, pc) → pu_S X mdX3_haveOneName pc (r i)) : pu_S X mdX3_haveOneName 2 (kX3_haveOneName_2 r) := by
  unfold kX3_haveOneName_2
  exact z_ild_n hX dX3_haveOneName_2 rfl (z_ald_n hX dX3_haveOneName_3 rfl (z_gi (c := 3) (j := 0) hX dX3_haveOneName_4 rfl inlX3 wm16_21 ⟨rfl, by decide, rfl⟩ (z_icge hX dX3_haveOneName_7 (by decide) (tX3_haveOneName_65 hX hr hq) (z_ald_n hX dX3_haveOneName_10 rfl (z_gr (c := 3) (j := 4) hX dX3_haveOneName_11 rfl inlX3 wm4_22 ⟨rfl, by decide, rfl⟩ (z_ild_n hX dX3_haveOneName_14 rfl (z_iald hX dX3_haveOneName_15 (z_iconst hX dX3_haveOneName_16 (by decide) (z_icne hX dX3_haveOneName_17 (by decide) (tX3_haveOneName_34 hX hr hq) (z_ald_n hX dX3_haveOneName_20 rfl (z_gr (c := 3) (j := 2) hX dX3_haveOneName_21 rfl inlX3 wm4_20 ⟨rfl, by decide, rfl⟩ (z_ild_n hX dX3_haveOneName_24 rfl (z_iald hX dX3_haveOneName_25 (z_ild_n hX dX3_haveOneName_26 rfl (z_icne hX dX3_haveOneName_27 (by decide) (tX3_haveOneName_34 hX hr hq) (z_iconst hX dX3_haveOneName_30 (by decide) ((z_goto hX dX3_haveOneName_31 (by decide) (tX3_haveOneName_35 hX hr hq)))))))))))))))))))
def kX3_haveOneName_0 (r : pu_R) : pu_K := s_push (.int (0)) (s_ist 3 ((r 388)))
theorem vX3_haveOneName_0 : pu_cok2 kX3_haveOneName_0 := fun rf r hr => by
  unfold kX3_haveOneName_0
  exact v_pi (v_ist ((hr 388)))
theorem tX3_haveOneName_0 {X : pu_X} {r : pu_R} (hX : pu_H X mdX3_haveOneName) (hr : pu_P X.2.1 X.2.2.2.2.2.2.2.2.2.2.1 r) (hq : ∀ i pc, pu_lp i = some (118, pc) → pu_S X mdX3_haveOneName pc (r i)) : pu_S X mdX3_haveOneName 0 (kX3_haveOneName_0 r) := by
  unfold kX3_haveOneName_0
  exact z_iconst hX dX3_haveOneName_0 (by decide) (z_ist_n hX dX3_haveOneName_1 rfl ((hq 388 2 hl388)))
def kX3_moveAll_73 (r : pu_R) : pu_K := s_ald 0 (s_gi 3 0 (s_ild 4 (s_isub (s_iret))))
theorem vX3_moveAll_73 : pu_cok2 kX3_moveAll_73 := fun rf r hr => by
  unfold kX3_moveAll_73
  exact v_ald (v_gi (v_ild (v_isub (v_iret))))
theorem tX3_moveAll_73 {X : pu_X} {r : pu_R} (hX : pu_H X mdX3_moveAll) (hr : pu_P X.2.1 X.2.2.2.2.2.2.2.2.2.2.1 r) (hq : ∀ i pc, pu_lp i = some (119, pc) → pu_S X mdX3_moveAll pc (r i)) : pu_S X mdX3_moveAll 73 (kX3_moveAll_73 r) := by
  unfold kX3_moveAll_73
  exact z_ald_n hX dX3_moveAll_73 rfl (z_gi (c := 3) (j := 0) hX dX3_moveAll_74 rfl inlX3 wm16_21 ⟨rfl, by decide, rfl⟩ (z_ild hX dX3_moveAll_77 (z_isub hX dX3_moveAll_79 (z_iret hX dX3_moveAll_80 rfl))))
def kX3_moveAll_67 (r : pu_R) : pu_K := s_inc 5 (1) ((r 389))
theorem vX3_moveAll_67 : pu_cok2 kX3_moveAll_67 := fun rf r hr => by
  unfold kX3_moveAll_67
  exact v_inc ((hr 389))
theorem tX3_moveAll_67 {X : pu_X} {r : pu_R} (hX : pu_H X mdX3_moveAll) (hr : pu_P X.2.1 X.2.2.2.2.2.2.2.2.2.2.1 r) (hq : ∀ i pc, pu_lp i = some (119, pc) → pu_S X mdX3_moveAll pc (r i)) : pu_S X mdX3_moveAll 67 (kX3_moveAll_67 r) := by
  unfold kX3_moveAll_67
  exact z_inc hX dX3_moveAll_67 (by decide) ((z_goto hX dX3_moveAll_70 (by decide) (hq 389 9 hl389)))
def kX3_moveAll_53 (r : pu_R) : pu_K := s_ai 1 (s_ild 2 (s_ald 0 (s_gr 3 5 (s_push (.int (3)) (s_ild 5 (s_imul (s_ild 3 (s_cv r 54 5 3 ((kX3_moveAll_67 r))))))))))
theorem vX3_moveAll_53 : pu_cok2 kX3_moveAll_53 := fun rf r hr => by
  unfold kX3_moveAll_53
  exact v_ai (v_ild (v_ald (v_gr (v_pi (v_ild (v_imul (v_ild (v_cv hr ((vX3_moveAll_67 rf r hr))))))))))
theorem tX3_moveAll_53 {X : pu_X} {r : pu_R} (hX : pu_H X mdX3_moveAll) (hr : pu_P X.2.1 X.2.2.2.2.2.2.2.2.2.2.1 r) (hq : ∀ i pc, pu_lp i = some (119, pc) → pu_S X mdX3_moveAll pc (r i)) : pu_S X mdX3_moveAll 53 (kX3_moveAll_53 r) := by
  unfold kX3_moveAll_53
  exact z_iald hX dX3_moveAll_53 (z_ild_n hX dX3_moveAll_54 rfl (z_ald_n hX dX3_moveAll_55 rfl (z_gr (c := 3) (j := 5) hX dX3_moveAll_56 rfl inlX3 wm5_0 ⟨rfl, by decide, rfl⟩ (z_iconst hX dX3_moveAll_59 (by decide) (z_ild hX dX3_moveAll_60 (z_imul hX dX3_moveAll_62 (z_ild_n hX dX3_moveAll_63 rfl (z_cv (c := 3) hX hr dX3_moveAll_64 hjX3_open mwX3_open rfl wm40_15 ⟨wm20_8, wm20_9⟩ ⟨Nat.le_of_ble_eq_true rfl, Nat.le_of_ble_eq_true rfl⟩ ((tX3_moveAll_67 hX hr hq))))))))))
def kX3_moveAll_9 (r : pu_R) : pu_K := s_ild 5 (s_ild 4 (s_icge (kX3_moveAll_73 r) (s_ald 0 (s_gr 3 4 (s_ild 5 (s_ai 1 (s_push (.int (-1)) (s_icne (kX3_moveAll_67 r) (s_ald 0 (s_gr 3 2 (s_ild 5 (s_ai 1 (s_ild 1 (s_icne (kX3_moveAll_67 r) (s_ald 0 (s_gr 3 4 (s_ild 5 (s_ild 3 (s_wi 1 (s_ald 0 (s_ald 0 (s_gr 3 1 (s_ild 5 ((kX3_moveAll_53 r)))))))))))))))))))))))))
theorem vX3_moveAll_9 : pu_cok2 kX3_moveAll_9 := fun rf r hr => by
  unfold kX3_moveAll_9
  exact v_ild (v_ild (v_icge (vX3_moveAll_73 rf r hr) (v_ald (v_gr (v_ild (v_ai (v_pi (v_icne (vX3_moveAll_67 rf r hr) (v_ald (v_gr (v_ild (v_ai (v_ild (v_icne (vX3_moveAll_67 rf r hr) (v_ald (v_gr (v_ild (v_ild (v_wi (v_ald (v_ald (v_gr (v_ild ((vX3_moveAll_53 rf r hr)))))))))))))))))))))))))
theorem tX3_moveAll_9 {X : pu_X} {r : pu_R} (hX : pu_H X mdX3_moveAll) (hr : pu_P X.2.1 X.2.2.2.2.2.2.2.2.2.2.1 r) (hq : ∀ i pc, pu_lp i = some (119, pc) → pu_S X mdX3_moveAll pc (r i)) : pu_S X mdX3_moveAll 9 (kX3_moveAll_9 r) := by
  unfold kX3_moveAll_9
  exact z_ild hX dX3_moveAll_9 (z_ild hX dX3_moveAll_11 (z_icge hX dX3_moveAll_13 (by decide) (tX3_moveAll_73 hX hr hq) (z_ald_n hX dX3_moveAll_16 rfl (z_gr (c := 3) (j := 4) hX dX3_moveAll_17 rfl inlX3 wm4_22 ⟨rfl, by decide, rfl⟩ (z_ild hX dX3_moveAll_20 (z_iald hX dX3_moveAll_22 (z_iconst hX dX3_moveAll_23 (by decide) (z_icne hX dX3_moveAll_24 (by decide) (tX3_moveAll_67 hX hr hq) (z_ald_n hX dX3_moveAll_27 rfl (z_gr (c := 3) (j := 2) hX dX3_moveAll_28 rfl inlX3 wm4_20 ⟨rfl, by decide, rfl⟩ (z_ild hX dX3_moveAll_31 (z_iald hX dX3_moveAll_33 (z_ild_n hX dX3_moveAll_34 rfl (z_icne hX dX3_moveAll_35 (by decide) (tX3_moveAll_67 hX hr hq) (z_ald_n hX dX3_moveAll_38 rfl (z_gr (c := 3) (j := 4) hX dX3_moveAll_39 rfl inlX3 wm4_22 ⟨rfl, by decide, rfl⟩ (z_ild hX dX3_moveAll_42 (z_ild_n hX dX3_moveAll_44 rfl (z_iast hX dX3_moveAll_45 (z_ald_n hX dX3_moveAll_46 rfl (z_ald_n hX dX3_moveAll_47 rfl (z_gr (c := 3) (j := 1) hX dX3_moveAll_48 rfl inlX3 wm4_19 ⟨rfl, by decide, rfl⟩ (z_ild hX dX3_moveAll_51 ((tX3_moveAll_53 hX hr hq)))))))))))))))))))))))))
def kX3_moveAll_0 (r : pu_R) : pu_K := s_ald 0 (s_gi 3 0 (s_ist 4 (s_push (.int (0)) (s_ist 5 ((r 389))))))
theorem vX3_moveAll_0 : pu_cok2 kX3_moveAll_0 := fun rf r hr => by
  unfold kX3_moveAll_0
  exact v_ald (v_gi (v_ist (v_pi (v_ist ((hr 389))))))
theorem tX3_moveAll_0 {X : pu_X} {r : pu_R} (hX : pu_H X mdX3_moveAll) (hr : pu_P X.2.1 X.2.2.2.2.2.2.2.2.2.2.1 r) (hq : ∀ i pc, pu_lp i = some (119, pc) → pu_S X mdX3_moveAll pc (r i)) : pu_S X mdX3_moveAll 0 (kX3_moveAll_0 r) := by
  unfold kX3_moveAll_0
  exact z_ald_n hX dX3_moveAll_0 rfl (z_gi (c := 3) (j := 0) hX dX3_moveAll_1 rfl inlX3 wm16_21 ⟨rfl, by decide, rfl⟩ (z_ist hX dX3_moveAll_4 (z_iconst hX dX3_moveAll_6 (by decide) (z_ist hX dX3_moveAll_7 ((hq 389 9 hl389))))))
def kX11_join_140 (r : pu_R) : pu_K := s_gr 5 2 (s_ild 2 (s_ild 1 (s_ild 4 (s_cv r 119 3 3 (s_iret)))))
theorem vX11_join_140 : pu_cok2 kX11_join_140 := fun rf r hr => by
  unfold kX11_join_140
  exact v_gr (v_ild (v_ild (v_ild (v_cv hr (v_iret)))))
theorem tX11_join_140 {X : pu_X} {r : pu_R} (hX : pu_H X mdX11_join) (hr : pu_P X.2.1 X.2.2.2.2.2.2.2.2.2.2.1 r) (hq : ∀ i pc, pu_lp i = some (120, pc) → pu_S X mdX11_join pc (r i)) : pu_S X mdX11_join 140 (kX11_join_140 r) := by
  unfold kX11_join_140
  exact z_gr (c := 5) (j := 2) hX dX11_join_140 rfl inlX5 wm16_7 ⟨rfl, by decide, rfl⟩ (z_ild_n hX dX11_join_143 rfl (z_ild_n hX dX11_join_144 rfl (z_ild hX dX11_join_145 (z_cv (c := 3) hX hr dX11_join_147 hjX3_moveAll mwX3_moveAll rfl wm40_11 ⟨wm40_12, wm40_13⟩ ⟨Nat.le_of_ble_eq_true rfl, Nat.le_of_ble_eq_true rfl⟩ (z_iret hX dX11_join_150 rfl)))))
def kX11_join_93 (r : pu_R) : pu_K := s_ald 0 (s_gr 11 2 (s_gr 5 0 (s_ild 3 (s_push (.int (-1)) (s_push (.int (-1)) (s_cv r 52 3 6 (s_ist 4 (s_ald 0 (s_gr 11 2 (s_gr 5 0 (s_gr 6 7 (s_ild 4 (s_ild 1 (s_wi 1 (s_ald 0 (s_gr 11 2 (s_gr 5 0 (s_gr 6 8 (s_ild 4 (s_ild 2 (s_wi 1 (s_ald 0 (s_gr 11 2 ((kX11_join_140 r)))))))))))))))))))))))))
theorem vX11_join_93 : pu_cok2 kX11_join_93 := fun rf r hr => by
  unfold kX11_join_93
  exact v_ald (v_gr (v_gr (v_ild (v_pi (v_pi (v_cv hr (v_ist (v_ald (v_gr (v_gr (v_gr (v_ild (v_ild (v_wi (v_ald (v_gr (v_gr (v_gr (v_ild (v_ild (v_wi (v_ald (v_gr ((vX11_join_140 rf r hr)))))))))))))))))))))))))
theorem tX11_join_93 {X : pu_X} {r : pu_R} (hX : pu_H X mdX11_join) (hr : pu_P X.2.1 X.2.2.2.2.2.2.2.2.2.2.1 r) (hq : ∀ i pc, pu_lp i = some (120, pc) → pu_S X mdX11_join pc (r i)) : pu_S X mdX11_join 93 (kX11_join_93 r) := by
  unfold kX11_join_93
  exact z_ald_n hX dX11_join_93 rfl (z_gr (c := 11) (j := 2) hX dX11_join_94 rfl inlX11 wm1_20 ⟨rfl, by decide, rfl⟩ (z_gr (c := 5) (j := 0) hX dX11_join_97 rfl inlX5 wm10_19 ⟨rfl, by decide, rfl⟩ (z_ild_n hX dX11_join_100 rfl (z_iconst hX dX11_join_101 (by decide) (z_iconst hX dX11_join_102 (by decide) (z_cv (c := 6) hX hr dX11_join_103 hjX6_lay mwX6_lay rfl wm19_18 ⟨wm19_19, wm19_20⟩ ⟨Nat.le_of_ble_eq_true rfl, Nat.le_of_ble_eq_true rfl⟩ (z_ist hX dX11_join_106 (z_ald_n hX dX11_join_108 rfl (z_gr (c := 11) (j := 2) hX dX11_join_109 rfl inlX11 wm1_20 ⟨rfl, by decide, rfl⟩ (z_gr (c := 5) (j := 0) hX dX11_join_112 rfl inlX5 wm10_19 ⟨rfl, by decide, rfl⟩ (z_gr (c := 6) (j := 7) hX dX11_join_115 rfl inlX6 wm39_20 ⟨rfl, by decide, rfl⟩ (z_ild hX dX11_join_118 (z_ild_n hX dX11_join_120 rfl (z_iast hX dX11_join_121 (z_ald_n hX dX11_join_122 rfl (z_gr (c := 11) (j := 2) hX dX11_join_123 rfl inlX11 wm1_20 ⟨rfl, by decide, rfl⟩ (z_gr (c := 5) (j := 0) hX dX11_join_126 rfl inlX5 wm10_19 ⟨rfl, by decide, rfl⟩ (z_gr (c := 6) (j := 8) hX dX11_join_129 rfl inlX6 wm39_21 ⟨rfl, by decide, rfl⟩ (z_ild hX dX11_join_132 (z_ild_n hX dX11_join_134 rfl (z_iast hX dX11_join_135 (z_ald_n hX dX11_join_136 rfl (z_gr (c := 11) (j := 2) hX dX11_join_137 rfl inlX11 wm1_20 ⟨rfl, by decide, rfl⟩ ((tX11_join_140 hX hr hq)))))))))))))))))))))))))
def kX11_join_77 (r : pu_R) : pu_K := s_ald 0 (s_gr 11 2 (s_gr 5 0 (s_cv r 51 0 6 (s_ifne (kX11_join_93 r) (s_push (.int (-6)) (s_iret))))))
theorem vX11_join_77 : pu_cok2 kX11_join_77 := fun rf r hr => by
  unfold kX11_join_77
  exact v_ald (v_gr (v_gr (v_cv hr (v_ifne (vX11_join_93 rf r hr) (v_pi (v_iret))))))
theorem tX11_join_77 {X : pu_X} {r : pu_R} (hX : pu_H X mdX11_join) (hr : pu_P X.2.1 X.2.2.2.2.2.2.2.2.2.2.1 r) (hq : ∀ i pc, pu_lp i = some (120, pc) → pu_S X mdX11_join pc (r i)) : pu_S X mdX11_join 77 (kX11_join_77 r) := by
  unfold kX11_join_77
  exact z_ald_n hX dX11_join_77 rfl (z_gr (c := 11) (j := 2) hX dX11_join_78 rfl inlX11 wm1_20 ⟨rfl, by decide, rfl⟩ (z_gr (c := 5) (j := 0) hX dX11_join_81 rfl inlX5 wm10_19 ⟨rfl, by decide, rfl⟩ (z_cv (c := 6) hX hr dX11_join_84 hjX6_hasRoom mwX6_hasRoom rfl wm19_14 ⟨wm19_15, wm19_16⟩ ⟨Nat.le_of_ble_eq_true rfl, Nat.le_of_ble_eq_true rfl⟩ (z_ifne hX dX11_join_87 (by decide) (tX11_join_93 hX hr hq) (z_bipush hX dX11_join_90 (by decide) (z_iret hX dX11_join_92 rfl))))))
def kX11_join_59 (r : pu_R) : pu_K := s_ald 0 (s_gr 11 2 (s_gr 5 2 (s_ild 1 (s_ild 2 (s_cv r 118 2 3 (s_ifeq (kX11_join_77 r) (s_push (.int (-5)) (s_iret))))))))
theorem vX11_join_59 : pu_cok2 kX11_join_59 := fun rf r hr => by
  unfold kX11_join_59
  exact v_ald (v_gr (v_gr (v_ild (v_ild (v_cv hr (v_ifeq (vX11_join_77 rf r hr) (v_pi (v_iret))))))))
theorem tX11_join_59 {X : pu_X} {r : pu_R} (hX : pu_H X mdX11_join) (hr : pu_P X.2.1 X.2.2.2.2.2.2.2.2.2.2.1 r) (hq : ∀ i pc, pu_lp i = some (120, pc) → pu_S X mdX11_join pc (r i)) : pu_S X mdX11_join 59 (kX11_join_59 r) := by
  unfold kX11_join_59
  exact z_ald_n hX dX11_join_59 rfl (z_gr (c := 11) (j := 2) hX dX11_join_60 rfl inlX11 wm1_20 ⟨rfl, by decide, rfl⟩ (z_gr (c := 5) (j := 2) hX dX11_join_63 rfl inlX5 wm16_7 ⟨rfl, by decide, rfl⟩ (z_ild_n hX dX11_join_66 rfl (z_ild_n hX dX11_join_67 rfl (z_cv (c := 3) hX hr dX11_join_68 hjX3_haveOneName mwX3_haveOneName rfl wm40_3 ⟨wm40_4, wm40_5⟩ ⟨Nat.le_of_ble_eq_true rfl, Nat.le_of_ble_eq_true rfl⟩ (z_ifeq hX dX11_join_71 (by decide) (tX11_join_77 hX hr hq) (z_bipush hX dX11_join_74 (by decide) (z_iret hX dX11_join_76 rfl))))))))
def kX11_join_33 (r : pu_R) : pu_K := s_ild 3 (s_ald 0 (s_gr 11 2 (s_ild 1 (s_cv r 116 1 5 (s_ald 0 (s_gr 11 2 (s_ild 2 (s_cv r 116 1 5 (s_max (s_icge (kX11_join_59 r) (s_push (.int (-3)) (s_iret))))))))))))
theorem vX11_join_33 : pu_cok2 kX11_join_33 := fun rf r hr => by
  unfold kX11_join_33
  exact v_ild (v_ald (v_gr (v_ild (v_cv hr (v_ald (v_gr (v_ild (v_cv hr (v_max (v_icge (vX11_join_59 rf r hr) (v_pi (v_iret))))))))))))
theorem tX11_join_33 {X : pu_X} {r : pu_R} (hX : pu_H X mdX11_join) (hr : pu_P X.2.1 X.2.2.2.2.2.2.2.2.2.2.1 r) (hq : ∀ i pc, pu_lp i = some (120, pc) → pu_S X mdX11_join pc (r i)) : pu_S X mdX11_join 33 (kX11_join_33 r) := by
  unfold kX11_join_33
  exact z_ild_n hX dX11_join_33 rfl (z_ald_n hX dX11_join_34 rfl (z_gr (c := 11) (j := 2) hX dX11_join_35 rfl inlX11 wm1_20 ⟨rfl, by decide, rfl⟩ (z_ild_n hX dX11_join_38 rfl (z_cv (c := 5) hX hr dX11_join_39 hjX5_earliestOnTown mwX5_earliestOnTown rfl wm39_22 ⟨wm39_23, wm40_0⟩ ⟨Nat.le_of_ble_eq_true rfl, Nat.le_of_ble_eq_true rfl⟩ (z_ald_n hX dX11_join_42 rfl (z_gr (c := 11) (j := 2) hX dX11_join_43 rfl inlX11 wm1_20 ⟨rfl, by decide, rfl⟩ (z_ild_n hX dX11_join_46 rfl (z_cv (c := 5) hX hr dX11_join_47 hjX5_earliestOnTown mwX5_earliestOnTown rfl wm39_22 ⟨wm39_23, wm40_0⟩ ⟨Nat.le_of_ble_eq_true rfl, Nat.le_of_ble_eq_true rfl⟩ (z_max hX dX11_join_50 ⟨wm32_13, wm18_12, wm18_13, wm18_14⟩ ⟨Nat.le_of_ble_eq_true rfl, Nat.le_of_ble_eq_true rfl⟩ (z_icge hX dX11_join_53 (by decide) (tX11_join_59 hX hr hq) (z_bipush hX dX11_join_56 (by decide) (z_iret hX dX11_join_58 rfl))))))))))))
def kX11_join_30 (r : pu_R) : pu_K := s_push (.int (-2)) (s_iret)
theorem vX11_join_30 : pu_cok2 kX11_join_30 := fun rf r hr => by
  unfold kX11_join_30
  exact v_pi (v_iret)
theorem tX11_join_30 {X : pu_X} {r : pu_R} (hX : pu_H X mdX11_join) (hr : pu_P X.2.1 X.2.2.2.2.2.2.2.2.2.2.1 r) (hq : ∀ i pc, pu_lp i = some (120, pc) → pu_S X mdX11_join pc (r i)) : pu_S X mdX11_join 30 (kX11_join_30 r) := by
  unfold kX11_join_30
  exact z_bipush hX dX11_join_30 (by decide) (z_iret hX dX11_join_32 rfl)
def kX11_join_18 (r : pu_R) : pu_K := s_ild 1 (s_ild 2 (s_iceq (kX11_join_30 r) (s_ild 3 (s_cs r 18 1 (s_ifne (kX11_join_33 r) ((kX11_join_30 r)))))))
theorem vX11_join_18 : pu_cok2 kX11_join_18 := fun rf r hr => by
  unfold kX11_join_18
  exact v_ild (v_ild (v_iceq (vX11_join_30 rf r hr) (v_ild (v_cs hr (v_ifne (vX11_join_33 rf r hr) ((vX11_join_30 rf r hr)))))))
theorem tX11_join_18 {X : pu_X} {r : pu_R} (hX : pu_H X mdX11_join) (hr : pu_P X.2.1 X.2.2.2.2.2.2.2.2.2.2.1 r) (hq : ∀ i pc, pu_lp i = some (120, pc) → pu_S X mdX11_join pc (r i)) : pu_S X mdX11_join 18 (kX11_join_18 r) := by
  unfold kX11_join_18
  exact z_ild_n hX dX11_join_18 rfl (z_ild_n hX dX11_join_19 rfl (z_iceq hX dX11_join_20 (by decide) (tX11_join_30 hX hr hq) (z_ild_n hX dX11_join_23 rfl (z_cs hX hr dX11_join_24 hjX11_isDay mwX11_isDay wm10_21 wm10_22 ⟨Nat.le_of_ble_eq_true rfl, Nat.le_of_ble_eq_true rfl⟩ (z_ifne hX dX11_join_27 (by decide) (tX11_join_33 hX hr hq) ((tX11_join_30 hX hr hq)))))))
def kX11_join_16 (r : pu_R) : pu_K := s_push (.int (-1)) (s_iret)
theorem vX11_join_16 : pu_cok2 kX11_join_16 := fun rf r hr => by
  unfold kX11_join_16
  exact v_pi (v_iret)
theorem tX11_join_16 {X : pu_X} {r : pu_R} (hX : pu_H X mdX11_join) (hr : pu_P X.2.1 X.2.2.2.2.2.2.2.2.2.2.1 r) (hq : ∀ i pc, pu_lp i = some (120, pc) → pu_S X mdX11_join pc (r i)) : pu_S X mdX11_join 16 (kX11_join_16 r) := by
  unfold kX11_join_16
  exact z_iconst hX dX11_join_16 (by decide) (z_iret hX dX11_join_17 rfl)
def kX11_join_0 (r : pu_R) : pu_K := s_ald 0 (s_ild 1 (s_cv r 43 1 11 (s_ifeq (kX11_join_16 r) (s_ald 0 (s_ild 2 (s_cv r 43 1 11 (s_ifne (kX11_join_18 r) ((kX11_join_16 r)))))))))
theorem vX11_join_0 : pu_cok2 kX11_join_0 := fun rf r hr => by
  unfold kX11_join_0
  exact v_ald (v_ild (v_cv hr (v_ifeq (vX11_join_16 rf r hr) (v_ald (v_ild (v_cv hr (v_ifne (vX11_join_18 rf r hr) ((vX11_join_16 rf r hr)))))))))
theorem tX11_join_0 {X : pu_X} {r : pu_R} (hX : pu_H X mdX11_join) (hr : pu_P X.2.1 X.2.2.2.2.2.2.2.2.2.2.1 r) (hq : ∀ i pc, pu_lp i = some (120, pc) → pu_S X mdX11_join pc (r i)) : pu_S X mdX11_join 0 (kX11_join_0 r) := by
  unfold kX11_join_0
  exact z_ald_n hX dX11_join_0 rfl (z_ild_n hX dX11_join_1 rfl (z_cv (c := 11) hX hr dX11_join_2 hjX11_isTownOfItsOwn mwX11_isTownOfItsOwn rfl wm17_15 ⟨wm17_16, wm17_17⟩ ⟨Nat.le_of_ble_eq_true rfl, Nat.le_of_ble_eq_true rfl⟩ (z_ifeq hX dX11_join_5 (by decide) (tX11_join_16 hX hr hq) (z_ald_n hX dX11_join_8 rfl (z_ild_n hX dX11_join_9 rfl (z_cv (c := 11) hX hr dX11_join_10 hjX11_isTownOfItsOwn mwX11_isTownOfItsOwn rfl wm17_15 ⟨wm17_16, wm17_17⟩ ⟨Nat.le_of_ble_eq_true rfl, Nat.le_of_ble_eq_true rfl⟩ (z_ifne hX dX11_join_13 (by decide) (tX11_join_18 hX hr hq) ((tX11_join_16 hX hr hq)))))))))
def kX10_setRowLength_0 (r : pu_R) : pu_K := s_ald 0 (s_gr 10 5 (s_push (.int (2)) (s_ild 1 (s_imul (s_ild 2 (s_iadd (s_ild 3 (s_wi 1 (s_vret)))))))))
theorem vX10_setRowLength_0 : pu_cok2 kX10_setRowLength_0 := fun rf r hr => by
  unfold kX10_setRowLength_0
  exact v_ald (v_gr (v_pi (v_ild (v_imul (v_ild (v_iadd (v_ild (v_wi (v_vret)))))))))
theorem tX10_setRowLength_0 {X : pu_X} {r : pu_R} (hX : pu_H X mdX10_setRowLength) (hr : pu_P X.2.1 X.2.2.2.2.2.2.2.2.2.2.1 r) (hq : ∀ i pc, pu_lp i = some (121, pc) → pu_S X mdX10_setRowLength pc (r i)) : pu_S X mdX10_setRowLength 0 (kX10_setRowLength_0 r) := by
  unfold kX10_setRowLength_0
  exact z_ald_n hX dX10_setRowLength_0 rfl (z_gr (c := 10) (j := 5) hX dX10_setRowLength_1 rfl inlX10 wm5_7 ⟨rfl, by decide, rfl⟩ (z_iconst hX dX10_setRowLength_4 (by decide) (z_ild_n hX dX10_setRowLength_5 rfl (z_imul hX dX10_setRowLength_6 (z_ild_n hX dX10_setRowLength_7 rfl (z_iadd hX dX10_setRowLength_8 (z_ild_n hX dX10_setRowLength_9 rfl (z_iast hX dX10_setRowLength_10 (z_vret hX dX10_setRowLength_11 rfl)))))))))
def kX10_setRowWhole_23 (r : pu_R) : pu_K := s_vret
theorem vX10_setRowWhole_23 : pu_cok2 kX10_setRowWhole_23 := fun rf r hr => by
  unfold kX10_setRowWhole_23
  exact v_vret
theorem tX10_setRowWhole_23 {X : pu_X} {r : pu_R} (hX : pu_H X mdX10_setRowWhole) (hr : pu_P X.2.1 X.2.2.2.2.2.2.2.2.2.2.1 r) (hq : ∀ i pc, pu_lp i = some (122, pc) → pu_S X mdX10_setRowWhole pc (r i)) : pu_S X mdX10_setRowWhole 23 (kX10_setRowWhole_23 r) := by
  unfold kX10_setRowWhole_23
  exact z_vret hX dX10_setRowWhole_23 rfl
def kX10_setRowWhole_0 (r : pu_R) : pu_K := s_ild 3 (s_push (.int (100)) (s_icge (kX10_setRowWhole_23 r) (s_ald 0 (s_gr 10 6 (s_push (.int (2)) (s_ild 1 (s_imul (s_ild 2 (s_iadd (s_push (.int (100)) (s_imul (s_ild 3 (s_iadd (s_ild 4 (s_wi 1 ((kX10_setRowWhole_23 r)))))))))))))))))
theorem vX10_setRowWhole_0 : pu_cok2 kX10_setRowWhole_0 := fun rf r hr => by
  unfold kX10_setRowWhole_0
  exact v_ild (v_pi (v_icge (vX10_setRowWhole_23 rf r hr) (v_ald (v_gr (v_pi (v_ild (v_imul (v_ild (v_iadd (v_pi (v_imul (v_ild (v_iadd (v_ild (v_wi ((vX10_setRowWhole_23 rf r hr)))))))))))))))))
theorem tX10_setRowWhole_0 {X : pu_X} {r : pu_R} (hX : pu_H X mdX10_setRowWhole) (hr : pu_P X.2.1 X.2.2.2.2.2.2.2.2.2.2.1 r) (hq : ∀ i pc, pu_lp i = some (122, pc) → pu_S X mdX10_setRowWhole pc (r i)) : pu_S X mdX10_setRowWhole 0 (kX10_setRowWhole_0 r) := by
  unfold kX10_setRowWhole_0
  exact z_ild_n hX dX10_setRowWhole_0 rfl (z_bipush hX dX10_setRowWhole_1 (by decide) (z_icge hX dX10_setRowWhole_3 (by decide) (tX10_setRowWhole_23 hX hr hq) (z_ald_n hX dX10_setRowWhole_6 rfl (z_gr (c := 10) (j := 6) hX dX10_setRowWhole_7 rfl inlX10 wm5_8 ⟨rfl, by decide, rfl⟩ (z_iconst hX dX10_setRowWhole_10 (by decide) (z_ild_n hX dX10_setRowWhole_11 rfl (z_imul hX dX10_setRowWhole_12 (z_ild_n hX dX10_setRowWhole_13 rfl (z_iadd hX dX10_setRowWhole_14 (z_bipush hX dX10_setRowWhole_15 (by decide) (z_imul hX dX10_setRowWhole_17 (z_ild_n hX dX10_setRowWhole_18 rfl (z_iadd hX dX10_setRowWhole_19 (z_ild hX dX10_setRowWhole_20 (z_iast hX dX10_setRowWhole_22 ((tX10_setRowWhole_23 hX hr hq)))))))))))))))))
def kX11_keepRow_121 (r : pu_R) : pu_K := s_ild 3 (s_iret)
theorem vX11_keepRow_121 : pu_cok2 kX11_keepRow_121 := fun rf r hr => by
  unfold kX11_keepRow_121
  exact v_ild (v_iret)
theorem tX11_keepRow_121 {X : pu_X} {r : pu_R} (hX : pu_H X mdX11_keepRow) (hr : pu_P X.2.1 X.2.2.2.2.2.2.2.2.2.2.1 r) (hq : ∀ i pc, pu_lp i = some (123, pc) → pu_S X mdX11_keepRow pc (r i)) : pu_S X mdX11_keepRow 121 (kX11_keepRow_121 r) := by
  unfold kX11_keepRow_121
  exact z_ild_n hX dX11_keepRow_121 rfl (z_iret hX dX11_keepRow_122 rfl)
def kX11_keepRow_108 (r : pu_R) : pu_K := s_push (.int (1)) (s_iadd (s_ai 1 (s_iadd (s_cv r 122 4 10 (s_inc 4 (1) ((r 390)))))))
theorem vX11_keepRow_108 : pu_cok2 kX11_keepRow_108 := fun rf r hr => by
  unfold kX11_keepRow_108
  exact v_pi (v_iadd (v_ai (v_iadd (v_cv hr (v_inc ((hr 390)))))))
theorem tX11_keepRow_108 {X : pu_X} {r : pu_R} (hX : pu_H X mdX11_keepRow) (hr : pu_P X.2.1 X.2.2.2.2.2.2.2.2.2.2.1 r) (hq : ∀ i pc, pu_lp i = some (123, pc) → pu_S X mdX11_keepRow pc (r i)) : pu_S X mdX11_keepRow 108 (kX11_keepRow_108 r) := by
  unfold kX11_keepRow_108
  exact z_iconst hX dX11_keepRow_108 (by decide) (z_iadd hX dX11_keepRow_109 (z_iald hX dX11_keepRow_110 (z_iadd hX dX11_keepRow_111 (z_cv (c := 10) hX hr dX11_keepRow_112 hjX10_setRowWhole mwX10_setRowWhole rfl wm41_13 ⟨wm41_14, wm41_15⟩ ⟨Nat.le_of_ble_eq_true rfl, Nat.le_of_ble_eq_true rfl⟩ (z_inc hX dX11_keepRow_115 (by decide) ((z_goto hX dX11_keepRow_118 (by decide) (hq 390 64 hl390))))))))
def kX11_keepRow_64 (r : pu_R) : pu_K := s_ild 4 (s_ild 3 (s_icge (kX11_keepRow_121 r) (s_ald 0 (s_gr 11 2 (s_gr 5 3 (s_ild 1 (s_ild 2 (s_ild 4 (s_ald 0 (s_gr 11 0 (s_gr 0 1 (s_push (.int (2)) (s_ild 4 (s_imul (s_ai 1 (s_push (.int (256)) (s_imul (s_ald 0 (s_gr 11 0 (s_gr 0 1 (s_push (.int (2)) (s_ild 4 (s_imul ((kX11_keepRow_108 r)))))))))))))))))))))))))
theorem vX11_keepRow_64 : pu_cok2 kX11_keepRow_64 := fun rf r hr => by
  unfold kX11_keepRow_64
  exact v_ild (v_ild (v_icge (vX11_keepRow_121 rf r hr) (v_ald (v_gr (v_gr (v_ild (v_ild (v_ild (v_ald (v_gr (v_gr (v_pi (v_ild (v_imul (v_ai (v_pi (v_imul (v_ald (v_gr (v_gr (v_pi (v_ild (v_imul ((vX11_keepRow_108 rf r hr)))))))))))))))))))))))))
theorem tX11_keepRow_64 {X : pu_X} {r : pu_R} (hX : pu_H X mdX11_keepRow) (hr : pu_P X.2.1 X.2.2.2.2.2.2.2.2.2.2.1 r) (hq : ∀ i pc, pu_lp i = some (123, pc) → pu_S X mdX11_keepRow pc (r i)) : pu_S X mdX11_keepRow 64 (kX11_keepRow_64 r) := by
  unfold kX11_keepRow_64
  exact z_ild hX dX11_keepRow_64 (z_ild_n hX dX11_keepRow_66 rfl (z_icge hX dX11_keepRow_67 (by decide) (tX11_keepRow_121 hX hr hq) (z_ald_n hX dX11_keepRow_70 rfl (z_gr (c := 11) (j := 2) hX dX11_keepRow_71 rfl inlX11 wm1_20 ⟨rfl, by decide, rfl⟩ (z_gr (c := 5) (j := 3) hX dX11_keepRow_74 rfl inlX5 wm11_22 ⟨rfl, by decide, rfl⟩ (z_ild_n hX dX11_keepRow_77 rfl (z_ild_n hX dX11_keepRow_78 rfl (z_ild hX dX11_keepRow_79 (z_ald_n hX dX11_keepRow_81 rfl (z_gr (c := 11) (j := 0) hX dX11_keepRow_82 rfl inlX11 wm1_15 ⟨rfl, by decide, rfl⟩ (z_gr (c := 0) (j := 1) hX dX11_keepRow_85 rfl inlX0 wm41_8 ⟨rfl, by decide, rfl⟩ (z_iconst hX dX11_keepRow_88 (by decide) (z_ild hX dX11_keepRow_89 (z_imul hX dX11_keepRow_91 (z_iald hX dX11_keepRow_92 (z_sipush hX dX11_keepRow_93 (by decide) (z_imul hX dX11_keepRow_96 (z_ald_n hX dX11_keepRow_97 rfl (z_gr (c := 11) (j := 0) hX dX11_keepRow_98 rfl inlX11 wm1_15 ⟨rfl, by decide, rfl⟩ (z_gr (c := 0) (j := 1) hX dX11_keepRow_101 rfl inlX0 wm41_8 ⟨rfl, by decide, rfl⟩ (z_iconst hX dX11_keepRow_104 (by decide) (z_ild hX dX11_keepRow_105 (z_imul hX dX11_keepRow_107 ((tX11_keepRow_108 hX hr hq)))))))))))))))))))))))))
def kX11_keepRow_38 (r : pu_R) : pu_K := s_ald 0 (s_gr 11 0 (s_gi 0 0 (s_push (.int (2)) (s_idiv (s_ist 3 (s_ald 0 (s_gr 11 2 (s_gr 5 3 (s_ild 1 (s_ild 2 (s_ild 3 (s_cv r 121 3 10 (s_push (.int (0)) (s_ist 4 ((r 390))))))))))))))))
theorem vX11_keepRow_38 : pu_cok2 kX11_keepRow_38 := fun rf r hr => by
  unfold kX11_keepRow_38
  exact v_ald (v_gr (v_gi (v_pi (v_idiv (v_ist (v_ald (v_gr (v_gr (v_ild (v_ild (v_ild (v_cv hr (v_pi (v_ist ((hr 390))))))))))))))))
theorem tX11_keepRow_38 {X : pu_X} {r : pu_R} (hX : pu_H X mdX11_keepRow) (hr : pu_P X.2.1 X.2.2.2.2.2.2.2.2.2.2.1 r) (hq : ∀ i pc, pu_lp i = some (123, pc) → pu_S X mdX11_keepRow pc (r i)) : pu_S X mdX11_keepRow 38 (kX11_keepRow_38 r) := by
  unfold kX11_keepRow_38
  exact z_ald_n hX dX11_keepRow_38 rfl (z_gr (c := 11) (j := 0) hX dX11_keepRow_39 rfl inlX11 wm1_15 ⟨rfl, by decide, rfl⟩ (z_gi (c := 0) (j := 0) hX dX11_keepRow_42 rfl inlX0 wm9_1 ⟨rfl, by decide, rfl⟩ (z_iconst hX dX11_keepRow_45 (by decide) (z_idiv hX dX11_keepRow_46 (z_ist_n hX dX11_keepRow_47 rfl (z_ald_n hX dX11_keepRow_48 rfl (z_gr (c := 11) (j := 2) hX dX11_keepRow_49 rfl inlX11 wm1_20 ⟨rfl, by decide, rfl⟩ (z_gr (c := 5) (j := 3) hX dX11_keepRow_52 rfl inlX5 wm11_22 ⟨rfl, by decide, rfl⟩ (z_ild_n hX dX11_keepRow_55 rfl (z_ild_n hX dX11_keepRow_56 rfl (z_ild_n hX dX11_keepRow_57 rfl (z_cv (c := 10) hX hr dX11_keepRow_58 hjX10_setRowLength mwX10_setRowLength rfl wm41_9 ⟨wm41_10, wm41_11⟩ ⟨Nat.le_of_ble_eq_true rfl, Nat.le_of_ble_eq_true rfl⟩ (z_iconst hX dX11_keepRow_61 (by decide) (z_ist hX dX11_keepRow_62 ((hq 390 64 hl390))))))))))))))))
def kX11_keepRow_35 (r : pu_R) : pu_K := s_push (.int (-2)) (s_iret)
theorem vX11_keepRow_35 : pu_cok2 kX11_keepRow_35 := fun rf r hr => by
  unfold kX11_keepRow_35
  exact v_pi (v_iret)
theorem tX11_keepRow_35 {X : pu_X} {r : pu_R} (hX : pu_H X mdX11_keepRow) (hr : pu_P X.2.1 X.2.2.2.2.2.2.2.2.2.2.1 r) (hq : ∀ i pc, pu_lp i = some (123, pc) → pu_S X mdX11_keepRow pc (r i)) : pu_S X mdX11_keepRow 35 (kX11_keepRow_35 r) := by
  unfold kX11_keepRow_35
  exact z_bipush hX dX11_keepRow_35 (by decide) (z_iret hX dX11_keepRow_37 rfl)
def kX11_keepRow_16 (r : pu_R) : pu_K := s_ild 2 (s_cs r 57 1 (s_ifeq (kX11_keepRow_35 r) (s_ald 0 (s_gr 11 0 (s_gi 0 0 (s_push (.int (2)) (s_irem (s_ifeq (kX11_keepRow_38 r) ((kX11_keepRow_35 r))))))))))
theorem vX11_keepRow_16 : pu_cok2 kX11_keepRow_16 := fun rf r hr => by
  unfold kX11_keepRow_16
  exact v_ild (v_cs hr (v_ifeq (vX11_keepRow_35 rf r hr) (v_ald (v_gr (v_gi (v_pi (v_irem (v_ifeq (vX11_keepRow_38 rf r hr) ((vX11_keepRow_35 rf r hr))))))))))
theorem tX11_keepRow_16 {X : pu_X} {r : pu_R} (hX : pu_H X mdX11_keepRow) (hr : pu_P X.2.1 X.2.2.2.2.2.2.2.2.2.2.1 r) (hq : ∀ i pc, pu_lp i = some (123, pc) → pu_S X mdX11_keepRow pc (r i)) : pu_S X mdX11_keepRow 16 (kX11_keepRow_16 r) := by
  unfold kX11_keepRow_16
  exact z_ild_n hX dX11_keepRow_16 rfl (z_cs hX hr dX11_keepRow_17 hjX11_isSide mwX11_isSide wm22_6 wm22_7 ⟨Nat.le_of_ble_eq_true rfl, Nat.le_of_ble_eq_true rfl⟩ (z_ifeq hX dX11_keepRow_20 (by decide) (tX11_keepRow_35 hX hr hq) (z_ald_n hX dX11_keepRow_23 rfl (z_gr (c := 11) (j := 0) hX dX11_keepRow_24 rfl inlX11 wm1_15 ⟨rfl, by decide, rfl⟩ (z_gi (c := 0) (j := 0) hX dX11_keepRow_27 rfl inlX0 wm9_1 ⟨rfl, by decide, rfl⟩ (z_iconst hX dX11_keepRow_30 (by decide) (z_irem hX dX11_keepRow_31 (z_ifeq hX dX11_keepRow_32 (by decide) (tX11_keepRow_38 hX hr hq) ((tX11_keepRow_35 hX hr hq))))))))))
def kX11_keepRow_0 (r : pu_R) : pu_K := s_ald 0 (s_gr 11 2 (s_gr 5 3 (s_ild 1 (s_cv r 56 1 10 (s_ifne (kX11_keepRow_16 r) (s_push (.int (-1)) (s_iret)))))))
theorem vX11_keepRow_0 : pu_cok2 kX11_keepRow_0 := fun rf r hr => by
  unfold kX11_keepRow_0
  exact v_ald (v_gr (v_gr (v_ild (v_cv hr (v_ifne (vX11_keepRow_16 rf r hr) (v_pi (v_iret)))))))
theorem tX11_keepRow_0 {X : pu_X} {r : pu_R} (hX : pu_H X mdX11_keepRow) (hr : pu_P X.2.1 X.2.2.2.2.2.2.2.2.2.2.1 r) (hq : ∀ i pc, pu_lp i = some (123, pc) → pu_S X mdX11_keepRow pc (r i)) : pu_S X mdX11_keepRow 0 (kX11_keepRow_0 r) := by
  unfold kX11_keepRow_0
  exact z_ald_n hX dX11_keepRow_0 rfl (z_gr (c := 11) (j := 2) hX dX11_keepRow_1 rfl inlX11 wm1_20 ⟨rfl, by decide, rfl⟩ (z_gr (c := 5) (j := 3) hX dX11_keepRow_4 rfl inlX5 wm11_22 ⟨rfl, by decide, rfl⟩ (z_ild_n hX dX11_keepRow_7 rfl (z_cv (c := 10) hX hr dX11_keepRow_8 hjX10_isStreet mwX10_isStreet rfl wm21_23 ⟨wm22_0, wm22_1⟩ ⟨Nat.le_of_ble_eq_true rfl, Nat.le_of_ble_eq_true rfl⟩ (z_ifne hX dX11_keepRow_11 (by decide) (tX11_keepRow_16 hX hr hq) (z_iconst hX dX11_keepRow_14 (by decide) (z_iret hX dX11_keepRow_15 rfl)))))))
def kX11_row_0 (r : pu_R) : pu_K := s_ald 0 (s_ild 1 (s_ild 2 (s_cv r 123 2 11 (s_ist 3 (s_ald 0 (s_gr 11 0 (s_push (.int (0)) (s_pi 0 0 (s_ild 3 (s_iret))))))))))
theorem vX11_row_0 : pu_cok2 kX11_row_0 := fun rf r hr => by
  unfold kX11_row_0
  exact v_ald (v_ild (v_ild (v_cv hr (v_ist (v_ald (v_gr (v_pi (v_puti (v_ild (v_iret))))))))))
theorem tX11_row_0 {X : pu_X} {r : pu_R} (hX : pu_H X mdX11_row) (hr : pu_P X.2.1 X.2.2.2.2.2.2.2.2.2.2.1 r) (hq : ∀ i pc, pu_lp i = some (124, pc) → pu_S X mdX11_row pc (r i)) : pu_S X mdX11_row 0 (kX11_row_0 r) := by
  unfold kX11_row_0
  exact z_ald_n hX dX11_row_0 rfl (z_ild_n hX dX11_row_1 rfl (z_ild_n hX dX11_row_2 rfl (z_cv (c := 11) hX hr dX11_row_3 hjX11_keepRow mwX11_keepRow rfl wm41_4 ⟨wm41_5, wm41_6⟩ ⟨Nat.le_of_ble_eq_true rfl, Nat.le_of_ble_eq_true rfl⟩ (z_ist_n hX dX11_row_6 rfl (z_ald_n hX dX11_row_7 rfl (z_gr (c := 11) (j := 0) hX dX11_row_8 rfl inlX11 wm1_15 ⟨rfl, by decide, rfl⟩ (z_iconst hX dX11_row_11 (by decide) (z_pi (c := 0) (j := 0) tyX0 tyX0_ok nmX0 hX dX11_row_12 rfl inlX0 wm9_1 ⟨rfl, by decide⟩ ⟨rfl, rfl⟩ rfl (z_ild_n hX dX11_row_15 rfl (z_iret hX dX11_row_16 rfl))))))))))
def kX10_rowLengthOf_0 (r : pu_R) : pu_K := s_ald 0 (s_gr 10 5 (s_push (.int (2)) (s_ild 1 (s_imul (s_ild 2 (s_iadd (s_ai 1 (s_iret))))))))
theorem vX10_rowLengthOf_0 : pu_cok2 kX10_rowLengthOf_0 := fun rf r hr => by
  unfold kX10_rowLengthOf_0
  exact v_ald (v_gr (v_pi (v_ild (v_imul (v_ild (v_iadd (v_ai (v_iret))))))))
theorem tX10_rowLengthOf_0 {X : pu_X} {r : pu_R} (hX : pu_H X mdX10_rowLengthOf) (hr : pu_P X.2.1 X.2.2.2.2.2.2.2.2.2.2.1 r) (hq : ∀ i pc, pu_lp i = some (125, pc) → pu_S X mdX10_rowLengthOf pc (r i)) : pu_S X mdX10_rowLengthOf 0 (kX10_rowLengthOf_0 r) := by
  unfold kX10_rowLengthOf_0
  exact z_ald_n hX dX10_rowLengthOf_0 rfl (z_gr (c := 10) (j := 5) hX dX10_rowLengthOf_1 rfl inlX10 wm5_7 ⟨rfl, by decide, rfl⟩ (z_iconst hX dX10_rowLengthOf_4 (by decide) (z_ild_n hX dX10_rowLengthOf_5 rfl (z_imul hX dX10_rowLengthOf_6 (z_ild_n hX dX10_rowLengthOf_7 rfl (z_iadd hX dX10_rowLengthOf_8 (z_iald hX dX10_rowLengthOf_9 (z_iret hX dX10_rowLengthOf_10 rfl))))))))
def kX11_tear_31 (r : pu_R) : pu_K := s_ald 0 (s_gr 11 2 (s_gr 5 3 (s_ild 1 (s_ild 2 (s_cv r 125 2 10 (s_ist 4 (s_ald 0 (s_gr 11 2 (s_gr 5 3 (s_ild 1 (s_ild 2 (s_ild 3 (s_ild 4 (s_min (s_cv r 121 3 10 (s_ild 4 (s_iret)))))))))))))))))
theorem vX11_tear_31 : pu_cok2 kX11_tear_31 := fun rf r hr => by
  unfold kX11_tear_31
  exact v_ald (v_gr (v_gr (v_ild (v_ild (v_cv hr (v_ist (v_ald (v_gr (v_gr (v_ild (v_ild (v_ild (v_ild (v_min (v_cv hr (v_ild (v_iret)))))))))))))))))
theorem tX11_tear_31 {X : pu_X} {r : pu_R} (hX : pu_H X mdX11_tear) (hr : pu_P X.2.1 X.2.2.2.2.2.2.2.2.2.2.1 r) (hq : ∀ i pc, pu_lp i = some (126, pc) → pu_S X mdX11_tear pc (r i)) : pu_S X mdX11_tear 31 (kX11_tear_31 r) := by
  unfold kX11_tear_31
  exact z_ald_n hX dX11_tear_31 rfl (z_gr (c := 11) (j := 2) hX dX11_tear_32 rfl inlX11 wm1_20 ⟨rfl, by decide, rfl⟩ (z_gr (c := 5) (j := 3) hX dX11_tear_35 rfl inlX5 wm11_22 ⟨rfl, by decide, rfl⟩ (z_ild_n hX dX11_tear_38 rfl (z_ild_n hX dX11_tear_39 rfl (z_cv (c := 10) hX hr dX11_tear_40 hjX10_rowLengthOf mwX10_rowLengthOf rfl wm42_2 ⟨wm42_3, wm42_4⟩ ⟨Nat.le_of_ble_eq_true rfl, Nat.le_of_ble_eq_true rfl⟩ (z_ist hX dX11_tear_43 (z_ald_n hX dX11_tear_45 rfl (z_gr (c := 11) (j := 2) hX dX11_tear_46 rfl inlX11 wm1_20 ⟨rfl, by decide, rfl⟩ (z_gr (c := 5) (j := 3) hX dX11_tear_49 rfl inlX5 wm11_22 ⟨rfl, by decide, rfl⟩ (z_ild_n hX dX11_tear_52 rfl (z_ild_n hX dX11_tear_53 rfl (z_ild_n hX dX11_tear_54 rfl (z_ild hX dX11_tear_55 (z_min hX dX11_tear_57 ⟨wm42_1, wm19_23, wm18_13, wm20_0⟩ ⟨Nat.le_of_ble_eq_true rfl, Nat.le_of_ble_eq_true rfl⟩ (z_cv (c := 10) hX hr dX11_tear_60 hjX10_setRowLength mwX10_setRowLength rfl wm41_9 ⟨wm41_10, wm41_11⟩ ⟨Nat.le_of_ble_eq_true rfl, Nat.le_of_ble_eq_true rfl⟩ (z_ild hX dX11_tear_63 (z_iret hX dX11_tear_65 rfl)))))))))))))))))
def kX11_tear_23 (r : pu_R) : pu_K := s_ild 3 (s_push (.int (-1)) (s_icge (kX11_tear_31 r) (s_push (.int (-2)) (s_iret))))
theorem vX11_tear_23 : pu_cok2 kX11_tear_23 := fun rf r hr => by
  unfold kX11_tear_23
  exact v_ild (v_pi (v_icge (vX11_tear_31 rf r hr) (v_pi (v_iret))))
theorem tX11_tear_23 {X : pu_X} {r : pu_R} (hX : pu_H X mdX11_tear) (hr : pu_P X.2.1 X.2.2.2.2.2.2.2.2.2.2.1 r) (hq : ∀ i pc, pu_lp i = some (126, pc) → pu_S X mdX11_tear pc (r i)) : pu_S X mdX11_tear 23 (kX11_tear_23 r) := by
  unfold kX11_tear_23
  exact z_ild_n hX dX11_tear_23 rfl (z_iconst hX dX11_tear_24 (by decide) (z_icge hX dX11_tear_25 (by decide) (tX11_tear_31 hX hr hq) (z_bipush hX dX11_tear_28 (by decide) (z_iret hX dX11_tear_30 rfl))))
def kX11_tear_21 (r : pu_R) : pu_K := s_push (.int (-1)) (s_iret)
theorem vX11_tear_21 : pu_cok2 kX11_tear_21 := fun rf r hr => by
  unfold kX11_tear_21
  exact v_pi (v_iret)
theorem tX11_tear_21 {X : pu_X} {r : pu_R} (hX : pu_H X mdX11_tear) (hr : pu_P X.2.1 X.2.2.2.2.2.2.2.2.2.2.1 r) (hq : ∀ i pc, pu_lp i = some (126, pc) → pu_S X mdX11_tear pc (r i)) : pu_S X mdX11_tear 21 (kX11_tear_21 r) := by
  unfold kX11_tear_21
  exact z_iconst hX dX11_tear_21 (by decide) (z_iret hX dX11_tear_22 rfl)
def kX11_tear_0 (r : pu_R) : pu_K := s_ald 0 (s_gr 11 2 (s_gr 5 3 (s_ild 1 (s_cv r 56 1 10 (s_ifeq (kX11_tear_21 r) (s_ild 2 (s_cs r 57 1 (s_ifne (kX11_tear_23 r) ((kX11_tear_21 r))))))))))
theorem vX11_tear_0 : pu_cok2 kX11_tear_0 := fun rf r hr => by
  unfold kX11_tear_0
  exact v_ald (v_gr (v_gr (v_ild (v_cv hr (v_ifeq (vX11_tear_21 rf r hr) (v_ild (v_cs hr (v_ifne (vX11_tear_23 rf r hr) ((vX11_tear_21 rf r hr))))))))))
theorem tX11_tear_0 {X : pu_X} {r : pu_R} (hX : pu_H X mdX11_tear) (hr : pu_P X.2.1 X.2.2.2.2.2.2.2.2.2.2.1 r) (hq : ∀ i pc, pu_lp i = some (126, pc) → pu_S X mdX11_tear pc (r i)) : pu_S X mdX11_tear 0 (kX11_tear_0 r) := by
  unfold kX11_tear_0
  exact z_ald_n hX dX11_tear_0 rfl (z_gr (c := 11) (j := 2) hX dX11_tear_1 rfl inlX11 wm1_20 ⟨rfl, by decide, rfl⟩ (z_gr (c := 5) (j := 3) hX dX11_tear_4 rfl inlX5 wm11_22 ⟨rfl, by decide, rfl⟩ (z_ild_n hX dX11_tear_7 rfl (z_cv (c := 10) hX hr dX11_tear_8 hjX10_isStreet mwX10_isStreet rfl wm21_23 ⟨wm22_0, wm22_1⟩ ⟨Nat.le_of_ble_eq_true rfl, Nat.le_of_ble_eq_true rfl⟩ (z_ifeq hX dX11_tear_11 (by decide) (tX11_tear_21 hX hr hq) (z_ild_n hX dX11_tear_14 rfl (z_cs hX hr dX11_tear_15 hjX11_isSide mwX11_isSide wm22_6 wm22_7 ⟨Nat.le_of_ble_eq_true rfl, Nat.le_of_ble_eq_true rfl⟩ (z_ifne hX dX11_tear_18 (by decide) (tX11_tear_23 hX hr hq) ((tX11_tear_21 hX hr hq))))))))))
def kX6_keptWithout_42 (r : pu_R) : pu_K := s_ild 4 (s_iret)
theorem vX6_keptWithout_42 : pu_cok2 kX6_keptWithout_42 := fun rf r hr => by
  unfold kX6_keptWithout_42
  exact v_ild (v_iret)
theorem tX6_keptWithout_42 {X : pu_X} {r : pu_R} (hX : pu_H X mdX6_keptWithout) (hr : pu_P X.2.1 X.2.2.2.2.2.2.2.2.2.2.1 r) (hq : ∀ i pc, pu_lp i = some (127, pc) → pu_S X mdX6_keptWithout pc (r i)) : pu_S X mdX6_keptWithout 42 (kX6_keptWithout_42 r) := by
  unfold kX6_keptWithout_42
  exact z_ild hX dX6_keptWithout_42 (z_iret hX dX6_keptWithout_44 rfl)
def kX6_keptWithout_36 (r : pu_R) : pu_K := s_inc 5 (1) ((r 391))
theorem vX6_keptWithout_36 : pu_cok2 kX6_keptWithout_36 := fun rf r hr => by
  unfold kX6_keptWithout_36
  exact v_inc ((hr 391))
theorem tX6_keptWithout_36 {X : pu_X} {r : pu_R} (hX : pu_H X mdX6_keptWithout) (hr : pu_P X.2.1 X.2.2.2.2.2.2.2.2.2.2.1 r) (hq : ∀ i pc, pu_lp i = some (127, pc) → pu_S X mdX6_keptWithout pc (r i)) : pu_S X mdX6_keptWithout 36 (kX6_keptWithout_36 r) := by
  unfold kX6_keptWithout_36
  exact z_inc hX dX6_keptWithout_36 (by decide) ((z_goto hX dX6_keptWithout_39 (by decide) (hq 391 6 hl391)))
def kX6_keptWithout_25 (r : pu_R) : pu_K := s_ald 1 (s_ild 5 (s_ai 1 (s_ild 0 (s_iceq (kX6_keptWithout_36 r) (s_inc 4 (1) ((kX6_keptWithout_36 r)))))))
theorem vX6_keptWithout_25 : pu_cok2 kX6_keptWithout_25 := fun rf r hr => by
  unfold kX6_keptWithout_25
  exact v_ald (v_ild (v_ai (v_ild (v_iceq (vX6_keptWithout_36 rf r hr) (v_inc ((vX6_keptWithout_36 rf r hr)))))))
theorem tX6_keptWithout_25 {X : pu_X} {r : pu_R} (hX : pu_H X mdX6_keptWithout) (hr : pu_P X.2.1 X.2.2.2.2.2.2.2.2.2.2.1 r) (hq : ∀ i pc, pu_lp i = some (127, pc) → pu_S X mdX6_keptWithout pc (r i)) : pu_S X mdX6_keptWithout 25 (kX6_keptWithout_25 r) := by
  unfold kX6_keptWithout_25
  exact z_ald_n hX dX6_keptWithout_25 rfl (z_ild hX dX6_keptWithout_26 (z_iald hX dX6_keptWithout_28 (z_ild_n hX dX6_keptWithout_29 rfl (z_iceq hX dX6_keptWithout_30 (by decide) (tX6_keptWithout_36 hX hr hq) (z_inc hX dX6_keptWithout_33 (by decide) ((tX6_keptWithout_36 hX hr hq)))))))
def kX6_keptWithout_6 (r : pu_R) : pu_K := s_ild 5 (s_ild 3 (s_icge (kX6_keptWithout_42 r) (s_ald 2 (s_ild 5 (s_ai 1 (s_ild 0 (s_icne (kX6_keptWithout_25 r) (s_ald 2 (s_ild 5 (s_push (.int (-1)) (s_wi 1 ((kX6_keptWithout_25 r)))))))))))))
theorem vX6_keptWithout_6 : pu_cok2 kX6_keptWithout_6 := fun rf r hr => by
  unfold kX6_keptWithout_6
  exact v_ild (v_ild (v_icge (vX6_keptWithout_42 rf r hr) (v_ald (v_ild (v_ai (v_ild (v_icne (vX6_keptWithout_25 rf r hr) (v_ald (v_ild (v_pi (v_wi ((vX6_keptWithout_25 rf r hr)))))))))))))
theorem tX6_keptWithout_6 {X : pu_X} {r : pu_R} (hX : pu_H X mdX6_keptWithout) (hr : pu_P X.2.1 X.2.2.2.2.2.2.2.2.2.2.1 r) (hq : ∀ i pc, pu_lp i = some (127, pc) → pu_S X mdX6_keptWithout pc (r i)) : pu_S X mdX6_keptWithout 6 (kX6_keptWithout_6 r) := by
  unfold kX6_keptWithout_6
  exact z_ild hX dX6_keptWithout_6 (z_ild_n hX dX6_keptWithout_8 rfl (z_icge hX dX6_keptWithout_9 (by decide) (tX6_keptWithout_42 hX hr hq) (z_ald_n hX dX6_keptWithout_12 rfl (z_ild hX dX6_keptWithout_13 (z_iald hX dX6_keptWithout_15 (z_ild_n hX dX6_keptWithout_16 rfl (z_icne hX dX6_keptWithout_17 (by decide) (tX6_keptWithout_25 hX hr hq) (z_ald_n hX dX6_keptWithout_20 rfl (z_ild hX dX6_keptWithout_21 (z_iconst hX dX6_keptWithout_23 (by decide) (z_iast hX dX6_keptWithout_24 ((tX6_keptWithout_25 hX hr hq)))))))))))))
def kX6_keptWithout_0 (r : pu_R) : pu_K := s_push (.int (0)) (s_ist 4 (s_push (.int (0)) (s_ist 5 ((r 391)))))
theorem vX6_keptWithout_0 : pu_cok2 kX6_keptWithout_0 := fun rf r hr => by
  unfold kX6_keptWithout_0
  exact v_pi (v_ist (v_pi (v_ist ((hr 391)))))
theorem tX6_keptWithout_0 {X : pu_X} {r : pu_R} (hX : pu_H X mdX6_keptWithout) (hr : pu_P X.2.1 X.2.2.2.2.2.2.2.2.2.2.1 r) (hq : ∀ i pc, pu_lp i = some (127, pc) → pu_S X mdX6_keptWithout pc (r i)) : pu_S X mdX6_keptWithout 0 (kX6_keptWithout_0 r) := by
  unfold kX6_keptWithout_0
  exact z_iconst hX dX6_keptWithout_0 (by decide) (z_ist hX dX6_keptWithout_1 (z_iconst hX dX6_keptWithout_3 (by decide) (z_ist hX dX6_keptWithout_4 ((hq 391 6 hl391)))))
def kX4_takeBack_0 (r : pu_R) : pu_K := s_ald 0 (s_ild 1 (s_ald 0 (s_gr 4 3 (s_ald 0 (s_gr 4 4 (s_ald 0 (s_gi 4 0 (s_cs r 127 4 (s_pi 4 0 (s_vret))))))))))
theorem vX4_takeBack_0 : pu_cok2 kX4_takeBack_0 := fun rf r hr => by
  unfold kX4_takeBack_0
  exact v_ald (v_ild (v_ald (v_gr (v_ald (v_gr (v_ald (v_gi (v_cs hr (v_puti (v_vret))))))))))
theorem tX4_takeBack_0 {X : pu_X} {r : pu_R} (hX : pu_H X mdX4_takeBack) (hr : pu_P X.2.1 X.2.2.2.2.2.2.2.2.2.2.1 r) (hq : ∀ i pc, pu_lp i = some (128, pc) → pu_S X mdX4_takeBack pc (r i)) : pu_S X mdX4_takeBack 0 (kX4_takeBack_0 r) := by
  unfold kX4_takeBack_0
  exact z_ald_n hX dX4_takeBack_0 rfl (z_ild_n hX dX4_takeBack_1 rfl (z_ald_n hX dX4_takeBack_2 rfl (z_gr (c := 4) (j := 3) hX dX4_takeBack_3 rfl inlX4 wm4_14 ⟨rfl, by decide, rfl⟩ (z_ald_n hX dX4_takeBack_6 rfl (z_gr (c := 4) (j := 4) hX dX4_takeBack_7 rfl inlX4 wm4_15 ⟨rfl, by decide, rfl⟩ (z_ald_n hX dX4_takeBack_10 rfl (z_gi (c := 4) (j := 0) hX dX4_takeBack_11 rfl inlX4 wm28_1 ⟨rfl, by decide, rfl⟩ (z_cs hX hr dX4_takeBack_14 hjX6_keptWithout mwX6_keptWithout wm43_2 wm43_3 ⟨Nat.le_of_ble_eq_true rfl, Nat.le_of_ble_eq_true rfl⟩ (z_pi (c := 4) (j := 0) tyX4 tyX4_ok nmX4 hX dX4_takeBack_17 rfl inlX4 wm28_1 ⟨rfl, by decide⟩ ⟨rfl, rfl⟩ rfl (z_vret hX dX4_takeBack_20 rfl))))))))))
def kX3_takeBack_0 (r : pu_R) : pu_K := s_ald 0 (s_ild 1 (s_ald 0 (s_gr 3 3 (s_ald 0 (s_gr 3 4 (s_ald 0 (s_gi 3 0 (s_cs r 127 4 (s_pi 3 0 (s_vret))))))))))
theorem vX3_takeBack_0 : pu_cok2 kX3_takeBack_0 := fun rf r hr => by
  unfold kX3_takeBack_0
  exact v_ald (v_ild (v_ald (v_gr (v_ald (v_gr (v_ald (v_gi (v_cs hr (v_puti (v_vret))))))))))
theorem tX3_takeBack_0 {X : pu_X} {r : pu_R} (hX : pu_H X mdX3_takeBack) (hr : pu_P X.2.1 X.2.2.2.2.2.2.2.2.2.2.1 r) (hq : ∀ i pc, pu_lp i = some (129, pc) → pu_S X mdX3_takeBack pc (r i)) : pu_S X mdX3_takeBack 0 (kX3_takeBack_0 r) := by
  unfold kX3_takeBack_0
  exact z_ald_n hX dX3_takeBack_0 rfl (z_ild_n hX dX3_takeBack_1 rfl (z_ald_n hX dX3_takeBack_2 rfl (z_gr (c := 3) (j := 3) hX dX3_takeBack_3 rfl inlX3 wm4_21 ⟨rfl, by decide, rfl⟩ (z_ald_n hX dX3_takeBack_6 rfl (z_gr (c := 3) (j := 4) hX dX3_takeBack_7 rfl inlX3 wm4_22 ⟨rfl, by decide, rfl⟩ (z_ald_n hX dX3_takeBack_10 rfl (z_gi (c := 3) (j := 0) hX dX3_takeBack_11 rfl inlX3 wm16_21 ⟨rfl, by decide, rfl⟩ (z_cs hX hr dX3_takeBack_14 hjX6_keptWithout mwX6_keptWithout wm43_9 wm43_3 ⟨Nat.le_of_ble_eq_true rfl, Nat.le_of_ble_eq_true rfl⟩ (z_pi (c := 3) (j := 0) tyX3 tyX3_ok nmX3 hX dX3_takeBack_17 rfl inlX3 wm16_21 ⟨rfl, by decide⟩ ⟨rfl, rfl⟩ rfl (z_vret hX dX3_takeBack_20 rfl))))))))))
def kX10_takeBack_32 (r : pu_R) : pu_K := s_vret
theorem vX10_takeBack_32 : pu_cok2 kX10_takeBack_32 := fun rf r hr => by
  unfold kX10_takeBack_32
  exact v_vret
theorem tX10_takeBack_32 {X : pu_X} {r : pu_R} (hX : pu_H X mdX10_takeBack) (hr : pu_P X.2.1 X.2.2.2.2.2.2.2.2.2.2.1 r) (hq : ∀ i pc, pu_lp i = some (130, pc) → pu_S X mdX10_takeBack pc (r i)) : pu_S X mdX10_takeBack 32 (kX10_takeBack_32 r) := by
  unfold kX10_takeBack_32
  exact z_vret hX dX10_takeBack_32 rfl
def kX10_takeBack_0 (r : pu_R) : pu_K := s_ald 0 (s_gi 10 1 (s_ifle (kX10_takeBack_32 r) (s_ald 0 (s_gr 10 4 (s_ald 0 (s_gi 10 1 (s_push (.int (1)) (s_isub (s_ai 1 (s_ild 1 (s_icne (kX10_takeBack_32 r) (s_ald 0 (s_dup (s_gi 10 1 (s_push (.int (1)) (s_isub (s_pi 10 1 ((kX10_takeBack_32 r)))))))))))))))))))
theorem vX10_takeBack_0 : pu_cok2 kX10_takeBack_0 := fun rf r hr => by
  unfold kX10_takeBack_0
  exact v_ald (v_gi (v_ifle (vX10_takeBack_32 rf r hr) (v_ald (v_gr (v_ald (v_gi (v_pi (v_isub (v_ai (v_ild (v_icne (vX10_takeBack_32 rf r hr) (v_ald (v_dup (v_gi (v_pi (v_isub (v_puti ((vX10_takeBack_32 rf r hr)))))))))))))))))))
theorem tX10_takeBack_0 {X : pu_X} {r : pu_R} (hX : pu_H X mdX10_takeBack) (hr : pu_P X.2.1 X.2.2.2.2.2.2.2.2.2.2.1 r) (hq : ∀ i pc, pu_lp i = some (130, pc) → pu_S X mdX10_takeBack pc (r i)) : pu_S X mdX10_takeBack 0 (kX10_takeBack_0 r) := by
  unfold kX10_takeBack_0
  exact z_ald_n hX dX10_takeBack_0 rfl (z_gi (c := 10) (j := 1) hX dX10_takeBack_1 rfl inlX10 wm20_6 ⟨rfl, by decide, rfl⟩ (z_ifle hX dX10_takeBack_4 (by decide) (tX10_takeBack_32 hX hr hq) (z_ald_n hX dX10_takeBack_7 rfl (z_gr (c := 10) (j := 4) hX dX10_takeBack_8 rfl inlX10 wm5_6 ⟨rfl, by decide, rfl⟩ (z_ald_n hX dX10_takeBack_11 rfl (z_gi (c := 10) (j := 1) hX dX10_takeBack_12 rfl inlX10 wm20_6 ⟨rfl, by decide, rfl⟩ (z_iconst hX dX10_takeBack_15 (by decide) (z_isub hX dX10_takeBack_16 (z_iald hX dX10_takeBack_17 (z_ild_n hX dX10_takeBack_18 rfl (z_icne hX dX10_takeBack_19 (by decide) (tX10_takeBack_32 hX hr hq) (z_ald_n hX dX10_takeBack_22 rfl (z_dup hX dX10_takeBack_23 (z_gi (c := 10) (j := 1) hX dX10_takeBack_24 rfl inlX10 wm20_6 ⟨rfl, by decide, rfl⟩ (z_iconst hX dX10_takeBack_27 (by decide) (z_isub hX dX10_takeBack_28 (z_pi (c := 10) (j := 1) tyX10 tyX10_ok nmX10 hX dX10_takeBack_29 rfl inlX10 wm20_6 ⟨rfl, by decide⟩ ⟨rfl, rfl⟩ rfl ((tX10_takeBack_32 hX hr hq)))))))))))))))))))
def kX2_takeBack_65 (r : pu_R) : pu_K := s_vret
theorem vX2_takeBack_65 : pu_cok2 kX2_takeBack_65 := fun rf r hr => by
  unfold kX2_takeBack_65
  exact v_vret
theorem tX2_takeBack_65 {X : pu_X} {r : pu_R} (hX : pu_H X mdX2_takeBack) (hr : pu_P X.2.1 X.2.2.2.2.2.2.2.2.2.2.1 r) (hq : ∀ i pc, pu_lp i = some (131, pc) → pu_S X mdX2_takeBack pc (r i)) : pu_S X mdX2_takeBack 65 (kX2_takeBack_65 r) := by
  unfold kX2_takeBack_65
  exact z_vret hX dX2_takeBack_65 rfl
def kX2_takeBack_59 (r : pu_R) : pu_K := s_inc 2 (1) ((r 392))
theorem vX2_takeBack_59 : pu_cok2 kX2_takeBack_59 := fun rf r hr => by
  unfold kX2_takeBack_59
  exact v_inc ((hr 392))
theorem tX2_takeBack_59 {X : pu_X} {r : pu_R} (hX : pu_H X mdX2_takeBack) (hr : pu_P X.2.1 X.2.2.2.2.2.2.2.2.2.2.1 r) (hq : ∀ i pc, pu_lp i = some (131, pc) → pu_S X mdX2_takeBack pc (r i)) : pu_S X mdX2_takeBack 59 (kX2_takeBack_59 r) := by
  unfold kX2_takeBack_59
  exact z_inc hX dX2_takeBack_59 (by decide) ((z_goto hX dX2_takeBack_62 (by decide) (hq 392 22 hl392)))
def kX2_takeBack_56 (r : pu_R) : pu_K := s_cv r 86 4 2 ((kX2_takeBack_59 r))
theorem vX2_takeBack_56 : pu_cok2 kX2_takeBack_56 := fun rf r hr => by
  unfold kX2_takeBack_56
  exact v_cv hr ((vX2_takeBack_59 rf r hr))
theorem tX2_takeBack_56 {X : pu_X} {r : pu_R} (hX : pu_H X mdX2_takeBack) (hr : pu_P X.2.1 X.2.2.2.2.2.2.2.2.2.2.1 r) (hq : ∀ i pc, pu_lp i = some (131, pc) → pu_S X mdX2_takeBack pc (r i)) : pu_S X mdX2_takeBack 56 (kX2_takeBack_56 r) := by
  unfold kX2_takeBack_56
  exact z_cv (c := 2) hX hr dX2_takeBack_56 hjX2_setPlace mwX2_setPlace rfl wm27_16 ⟨wm27_17, wm27_18⟩ ⟨Nat.le_of_ble_eq_true rfl, Nat.le_of_ble_eq_true rfl⟩ ((tX2_takeBack_59 hX hr hq))
def kX2_takeBack_22 (r : pu_R) : pu_K := s_ild 2 (s_ald 0 (s_gi 2 0 (s_icge (kX2_takeBack_65 r) (s_ald 0 (s_gr 2 7 (s_ild 2 (s_ai 1 (s_ild 1 (s_icne (kX2_takeBack_59 r) (s_ald 0 (s_gr 2 7 (s_ild 2 (s_push (.int (-1)) (s_wi 1 (s_ald 0 (s_push (.int (2)) (s_ild 2 (s_imul (s_push (.int (1)) (s_iadd (s_push (.int (-1)) (s_push (.int (-1)) (s_push (.int (-1)) ((kX2_takeBack_56 r)))))))))))))))))))))))))
theorem vX2_takeBack_22 : pu_cok2 kX2_takeBack_22 := fun rf r hr => by
  unfold kX2_takeBack_22
  exact v_ild (v_ald (v_gi (v_icge (vX2_takeBack_65 rf r hr) (v_ald (v_gr (v_ild (v_ai (v_ild (v_icne (vX2_takeBack_59 rf r hr) (v_ald (v_gr (v_ild (v_pi (v_wi (v_ald (v_pi (v_ild (v_imul (v_pi (v_iadd (v_pi (v_pi (v_pi ((vX2_takeBack_56 rf r hr)))))))))))))))))))))))))
theorem tX2_takeBack_22 {X : pu_X} {r : pu_R} (hX : pu_H X mdX2_takeBack) (hr : pu_P X.2.1 X.2.2.2.2.2.2.2.2.2.2.1 r) (hq : ∀ i pc, pu_lp i = some (131, pc) → pu_S X mdX2_takeBack pc (r i)) : pu_S X mdX2_takeBack 22 (kX2_takeBack_22 r) := by
  unfold kX2_takeBack_22
  exact z_ild_n hX dX2_takeBack_22 rfl (z_ald_n hX dX2_takeBack_23 rfl (z_gi (c := 2) (j := 0) hX dX2_takeBack_24 rfl inlX2 wm24_10 ⟨rfl, by decide, rfl⟩ (z_icge hX dX2_takeBack_27 (by decide) (tX2_takeBack_65 hX hr hq) (z_ald_n hX dX2_takeBack_30 rfl (z_gr (c := 2) (j := 7) hX dX2_takeBack_31 rfl inlX2 wm5_18 ⟨rfl, by decide, rfl⟩ (z_ild_n hX dX2_takeBack_34 rfl (z_iald hX dX2_takeBack_35 (z_ild_n hX dX2_takeBack_36 rfl (z_icne hX dX2_takeBack_37 (by decide) (tX2_takeBack_59 hX hr hq) (z_ald_n hX dX2_takeBack_40 rfl (z_gr (c := 2) (j := 7) hX dX2_takeBack_41 rfl inlX2 wm5_18 ⟨rfl, by decide, rfl⟩ (z_ild_n hX dX2_takeBack_44 rfl (z_iconst hX dX2_takeBack_45 (by decide) (z_iast hX dX2_takeBack_46 (z_ald_n hX dX2_takeBack_47 rfl (z_iconst hX dX2_takeBack_48 (by decide) (z_ild_n hX dX2_takeBack_49 rfl (z_imul hX dX2_takeBack_50 (z_iconst hX dX2_takeBack_51 (by decide) (z_iadd hX dX2_takeBack_52 (z_iconst hX dX2_takeBack_53 (by decide) (z_iconst hX dX2_takeBack_54 (by decide) (z_iconst hX dX2_takeBack_55 (by decide) ((tX2_takeBack_56 hX hr hq)))))))))))))))))))))))))
def kX2_takeBack_0 (r : pu_R) : pu_K := s_ald 0 (s_ild 1 (s_ald 0 (s_gr 2 5 (s_ald 0 (s_gr 2 6 (s_ald 0 (s_gi 2 0 (s_cs r 127 4 (s_pi 2 0 (s_push (.int (0)) (s_ist 2 ((r 392)))))))))))))
theorem vX2_takeBack_0 : pu_cok2 kX2_takeBack_0 := fun rf r hr => by
  unfold kX2_takeBack_0
  exact v_ald (v_ild (v_ald (v_gr (v_ald (v_gr (v_ald (v_gi (v_cs hr (v_puti (v_pi (v_ist ((hr 392)))))))))))))
theorem tX2_takeBack_0 {X : pu_X} {r : pu_R} (hX : pu_H X mdX2_takeBack) (hr : pu_P X.2.1 X.2.2.2.2.2.2.2.2.2.2.1 r) (hq : ∀ i pc, pu_lp i = some (131, pc) → pu_S X mdX2_takeBack pc (r i)) : pu_S X mdX2_takeBack 0 (kX2_takeBack_0 r) := by
  unfold kX2_takeBack_0
  exact z_ald_n hX dX2_takeBack_0 rfl (z_ild_n hX dX2_takeBack_1 rfl (z_ald_n hX dX2_takeBack_2 rfl (z_gr (c := 2) (j := 5) hX dX2_takeBack_3 rfl inlX2 wm5_16 ⟨rfl, by decide, rfl⟩ (z_ald_n hX dX2_takeBack_6 rfl (z_gr (c := 2) (j := 6) hX dX2_takeBack_7 rfl inlX2 wm5_17 ⟨rfl, by decide, rfl⟩ (z_ald_n hX dX2_takeBack_10 rfl (z_gi (c := 2) (j := 0) hX dX2_takeBack_11 rfl inlX2 wm24_10 ⟨rfl, by decide, rfl⟩ (z_cs hX hr dX2_takeBack_14 hjX6_keptWithout mwX6_keptWithout wm43_18 wm43_3 ⟨Nat.le_of_ble_eq_true rfl, Nat.le_of_ble_eq_true rfl⟩ (z_pi (c := 2) (j := 0) tyX2 tyX2_ok nmX2 hX dX2_takeBack_17 rfl inlX2 wm24_10 ⟨rfl, by decide⟩ ⟨rfl, rfl⟩ rfl (z_iconst hX dX2_takeBack_20 (by decide) (z_ist_n hX dX2_takeBack_21 rfl ((hq 392 22 hl392)))))))))))))
def kX5_takeBackLatest_54 (r : pu_R) : pu_K := s_ald 0 (s_gr 5 1 (s_ild 1 (s_cv r 128 1 4 (s_ald 0 (s_gr 5 2 (s_ild 1 (s_cv r 129 1 3 (s_ald 0 (s_gr 5 3 (s_ild 1 (s_cv r 130 1 10 (s_ald 0 (s_gr 5 4 (s_ild 1 (s_cv r 131 1 2 (s_ald 0 (s_gr 5 0 (s_ild 1 (s_pi 6 2 (s_ild 1 (s_iret)))))))))))))))))))))
theorem vX5_takeBackLatest_54 : pu_cok2 kX5_takeBackLatest_54 := fun rf r hr => by
  unfold kX5_takeBackLatest_54
  exact v_ald (v_gr (v_ild (v_cv hr (v_ald (v_gr (v_ild (v_cv hr (v_ald (v_gr (v_ild (v_cv hr (v_ald (v_gr (v_ild (v_cv hr (v_ald (v_gr (v_ild (v_puti (v_ild (v_iret)))))))))))))))))))))
theorem tX5_takeBackLatest_54 {X : pu_X} {r : pu_R} (hX : pu_H X mdX5_takeBackLatest) (hr : pu_P X.2.1 X.2.2.2.2.2.2.2.2.2.2.1 r) (hq : ∀ i pc, pu_lp i = some (132, pc) → pu_S X mdX5_takeBackLatest pc (r i)) : pu_S X mdX5_takeBackLatest 54 (kX5_takeBackLatest_54 r) := by
  unfold kX5_takeBackLatest_54
  exact z_ald_n hX dX5_takeBackLatest_54 rfl (z_gr (c := 5) (j := 1) hX dX5_takeBackLatest_55 rfl inlX5 wm3_1 ⟨rfl, by decide, rfl⟩ (z_ild_n hX dX5_takeBackLatest_58 rfl (z_cv (c := 4) hX hr dX5_takeBackLatest_59 hjX4_takeBack mwX4_takeBack rfl wm42_22 ⟨wm42_23, wm43_0⟩ ⟨Nat.le_of_ble_eq_true rfl, Nat.le_of_ble_eq_true rfl⟩ (z_ald_n hX dX5_takeBackLatest_62 rfl (z_gr (c := 5) (j := 2) hX dX5_takeBackLatest_63 rfl inlX5 wm3_5 ⟨rfl, by decide, rfl⟩ (z_ild_n hX dX5_takeBackLatest_66 rfl (z_cv (c := 3) hX hr dX5_takeBackLatest_67 hjX3_takeBack mwX3_takeBack rfl wm43_5 ⟨wm43_6, wm43_7⟩ ⟨Nat.le_of_ble_eq_true rfl, Nat.le_of_ble_eq_true rfl⟩ (z_ald_n hX dX5_takeBackLatest_70 rfl (z_gr (c := 5) (j := 3) hX dX5_takeBackLatest_71 rfl inlX5 wm3_9 ⟨rfl, by decide, rfl⟩ (z_ild_n hX dX5_takeBackLatest_74 rfl (z_cv (c := 10) hX hr dX5_takeBackLatest_75 hjX10_takeBack mwX10_takeBack rfl wm43_10 ⟨wm43_11, wm43_12⟩ ⟨Nat.le_of_ble_eq_true rfl, Nat.le_of_ble_eq_true rfl⟩ (z_ald_n hX dX5_takeBackLatest_78 rfl (z_gr (c := 5) (j := 4) hX dX5_takeBackLatest_79 rfl inlX5 wm3_13 ⟨rfl, by decide, rfl⟩ (z_ild_n hX dX5_takeBackLatest_82 rfl (z_cv (c := 2) hX hr dX5_takeBackLatest_83 hjX2_takeBack mwX2_takeBack rfl wm43_14 ⟨wm43_15, wm43_16⟩ ⟨Nat.le_of_ble_eq_true rfl, Nat.le_of_ble_eq_true rfl⟩ (z_ald_n hX dX5_takeBackLatest_86 rfl (z_gr (c := 5) (j := 0) hX dX5_takeBackLatest_87 rfl inlX5 wm2_21 ⟨rfl, by decide, rfl⟩ (z_ild_n hX dX5_takeBackLatest_90 rfl (z_pi (c := 6) (j := 2) tyX6 tyX6_ok nmX6 hX dX5_takeBackLatest_91 rfl inlX6 wm42_18 ⟨rfl, by decide⟩ ⟨rfl, rfl⟩ rfl (z_ild_n hX dX5_takeBackLatest_94 rfl (z_iret hX dX5_takeBackLatest_95 rfl)))))))))))))))))))))
def kX5_takeBackLatest_16 (r : pu_R) : pu_K := s_ald 0 (s_gr 5 0 (s_gr 6 9 (s_ild 1 (s_ai 1 (s_push (.int (-1)) (s_iceq (kX5_takeBackLatest_54 r) (s_ald 0 (s_gr 5 3 (s_ald 0 (s_gr 5 0 (s_gr 6 5 (s_ild 1 (s_ai 1 (s_ald 0 (s_gr 5 0 (s_gr 6 9 (s_ild 1 (s_ai 1 (s_cv r 112 2 10 ((kX5_takeBackLatest_54 r)))))))))))))))))))))
theorem vX5_takeBackLatest_16 : pu_cok2 kX5_takeBackLatest_16 := fun rf r hr => by
  unfold kX5_takeBackLatest_16
  exact v_ald (v_gr (v_gr (v_ild (v_ai (v_pi (v_iceq (vX5_takeBackLatest_54 rf r hr) (v_ald (v_gr (v_ald (v_gr (v_gr (v_ild (v_ai (v_ald (v_gr (v_gr (v_ild (v_ai (v_cv hr ((vX5_takeBackLatest_54 rf r hr)))))))))))))))))))))
theorem tX5_takeBackLatest_16 {X : pu_X} {r : pu_R} (hX : pu_H X mdX5_takeBackLatest) (hr : pu_P X.2.1 X.2.2.2.2.2.2.2.2.2.2.1 r) (hq : ∀ i pc, pu_lp i = some (132, pc) → pu_S X mdX5_takeBackLatest pc (r i)) : pu_S X mdX5_takeBackLatest 16 (kX5_takeBackLatest_16 r) := by
  unfold kX5_takeBackLatest_16
  exact z_ald_n hX dX5_takeBackLatest_16 rfl (z_gr (c := 5) (j := 0) hX dX5_takeBackLatest_17 rfl inlX5 wm2_21 ⟨rfl, by decide, rfl⟩ (z_gr (c := 6) (j := 9) hX dX5_takeBackLatest_20 rfl inlX6 wm42_19 ⟨rfl, by decide, rfl⟩ (z_ild_n hX dX5_takeBackLatest_23 rfl (z_iald hX dX5_takeBackLatest_24 (z_iconst hX dX5_takeBackLatest_25 (by decide) (z_iceq hX dX5_takeBackLatest_26 (by decide) (tX5_takeBackLatest_54 hX hr hq) (z_ald_n hX dX5_takeBackLatest_29 rfl (z_gr (c := 5) (j := 3) hX dX5_takeBackLatest_30 rfl inlX5 wm3_9 ⟨rfl, by decide, rfl⟩ (z_ald_n hX dX5_takeBackLatest_33 rfl (z_gr (c := 5) (j := 0) hX dX5_takeBackLatest_34 rfl inlX5 wm2_21 ⟨rfl, by decide, rfl⟩ (z_gr (c := 6) (j := 5) hX dX5_takeBackLatest_37 rfl inlX6 wm42_20 ⟨rfl, by decide, rfl⟩ (z_ild_n hX dX5_takeBackLatest_40 rfl (z_iald hX dX5_takeBackLatest_41 (z_ald_n hX dX5_takeBackLatest_42 rfl (z_gr (c := 5) (j := 0) hX dX5_takeBackLatest_43 rfl inlX5 wm2_21 ⟨rfl, by decide, rfl⟩ (z_gr (c := 6) (j := 9) hX dX5_takeBackLatest_46 rfl inlX6 wm42_19 ⟨rfl, by decide, rfl⟩ (z_ild_n hX dX5_takeBackLatest_49 rfl (z_iald hX dX5_takeBackLatest_50 (z_cv (c := 10) hX hr dX5_takeBackLatest_51 hjX10_setRule mwX10_setRule rfl wm42_21 ⟨wm38_3, wm38_4⟩ ⟨Nat.le_of_ble_eq_true rfl, Nat.le_of_ble_eq_true rfl⟩ ((tX5_takeBackLatest_54 hX hr hq)))))))))))))))))))))
def kX5_takeBackLatest_0 (r : pu_R) : pu_K := s_ald 0 (s_gr 5 0 (s_gi 6 2 (s_push (.int (1)) (s_isub (s_ist 1 (s_ild 1 (s_ifge (kX5_takeBackLatest_16 r) (s_push (.int (-1)) (s_iret)))))))))
theorem vX5_takeBackLatest_0 : pu_cok2 kX5_takeBackLatest_0 := fun rf r hr => by
  unfold kX5_takeBackLatest_0
  exact v_ald (v_gr (v_gi (v_pi (v_isub (v_ist (v_ild (v_ifge (vX5_takeBackLatest_16 rf r hr) (v_pi (v_iret)))))))))
theorem tX5_takeBackLatest_0 {X : pu_X} {r : pu_R} (hX : pu_H X mdX5_takeBackLatest) (hr : pu_P X.2.1 X.2.2.2.2.2.2.2.2.2.2.1 r) (hq : ∀ i pc, pu_lp i = some (132, pc) → pu_S X mdX5_takeBackLatest pc (r i)) : pu_S X mdX5_takeBackLatest 0 (kX5_takeBackLatest_0 r) := by
  unfold kX5_takeBackLatest_0
  exact z_ald_n hX dX5_takeBackLatest_0 rfl (z_gr (c := 5) (j := 0) hX dX5_takeBackLatest_1 rfl inlX5 wm2_21 ⟨rfl, by decide, rfl⟩ (z_gi (c := 6) (j := 2) hX dX5_takeBackLatest_4 rfl inlX6 wm42_18 ⟨rfl, by decide, rfl⟩ (z_iconst hX dX5_takeBackLatest_7 (by decide) (z_isub hX dX5_takeBackLatest_8 (z_ist_n hX dX5_takeBackLatest_9 rfl (z_ild_n hX dX5_takeBackLatest_10 rfl (z_ifge hX dX5_takeBackLatest_11 (by decide) (tX5_takeBackLatest_16 hX hr hq) (z_iconst hX dX5_takeBackLatest_14 (by decide) (z_iret hX dX5_takeBackLatest_15 rfl)))))))))
def kX11_undo_0 (r : pu_R) : pu_K := s_ald 0 (s_gr 11 2 (s_cv r 132 0 5 (s_iret)))
theorem vX11_undo_0 : pu_cok2 kX11_undo_0 := fun rf r hr => by
  unfold kX11_undo_0
  exact v_ald (v_gr (v_cv hr (v_iret)))
theorem tX11_undo_0 {X : pu_X} {r : pu_R} (hX : pu_H X mdX11_undo) (hr : pu_P X.2.1 X.2.2.2.2.2.2.2.2.2.2.1 r) (hq : ∀ i pc, pu_lp i = some (133, pc) → pu_S X mdX11_undo pc (r i)) : pu_S X mdX11_undo 0 (kX11_undo_0 r) := by
  unfold kX11_undo_0
  exact z_ald_n hX dX11_undo_0 rfl (z_gr (c := 11) (j := 2) hX dX11_undo_1 rfl inlX11 wm1_20 ⟨rfl, by decide, rfl⟩ (z_cv (c := 5) hX hr dX11_undo_4 hjX5_takeBackLatest mwX5_takeBackLatest rfl wm42_14 ⟨wm42_15, wm42_16⟩ ⟨Nat.le_of_ble_eq_true rfl, Nat.le_of_ble_eq_true rfl⟩ (z_iret hX dX11_undo_7 rfl)))
def kX6_copyFrom_136 (r : pu_R) : pu_K := s_ald 0 (s_gi 6 2 (s_cp1 (s_vret)))
theorem vX6_copyFrom_136 : pu_cok2 kX6_copyFrom_136 := fun rf r hr => by
  unfold kX6_copyFrom_136
  exact v_ald (v_gi (v_cp1 (v_vret)))
theorem tX6_copyFrom_136 {X : pu_X} {r : pu_R} (hX : pu_H X mdX6_copyFrom) (hr : pu_P X.2.1 X.2.2.2.2.2.2.2.2.2.2.1 r) (hq : ∀ i pc, pu_lp i = some (134, pc) → pu_S X mdX6_copyFrom pc (r i)) : pu_S X mdX6_copyFrom 136 (kX6_copyFrom_136 r) := by
  unfold kX6_copyFrom_136
  exact z_ald_n hX dX6_copyFrom_136 rfl (z_gi (c := 6) (j := 2) hX dX6_copyFrom_137 rfl inlX6 wm18_3 ⟨rfl, by decide, rfl⟩ (z_cp1 hX dX6_copyFrom_140 ⟨wm44_15, wm10_8, wm10_9, wm10_10⟩ ⟨Nat.le_of_ble_eq_true rfl, Nat.le_of_ble_eq_true rfl⟩ (z_vret hX dX6_copyFrom_143 rfl)))
def kX6_copyFrom_92 (r : pu_R) : pu_K := s_ald 1 (s_gr 6 7 (s_push (.int (0)) (s_ald 0 (s_gr 6 7 (s_push (.int (0)) (s_ald 0 (s_gi 6 2 (s_cp1 (s_ald 1 (s_gr 6 8 (s_push (.int (0)) (s_ald 0 (s_gr 6 8 (s_push (.int (0)) (s_ald 0 (s_gi 6 2 (s_cp1 (s_ald 1 (s_gr 6 9 (s_push (.int (0)) (s_ald 0 (s_gr 6 9 (s_push (.int (0)) ((kX6_copyFrom_136 r)))))))))))))))))))))))))
theorem vX6_copyFrom_92 : pu_cok2 kX6_copyFrom_92 := fun rf r hr => by
  unfold kX6_copyFrom_92
  exact v_ald (v_gr (v_pi (v_ald (v_gr (v_pi (v_ald (v_gi (v_cp1 (v_ald (v_gr (v_pi (v_ald (v_gr (v_pi (v_ald (v_gi (v_cp1 (v_ald (v_gr (v_pi (v_ald (v_gr (v_pi ((vX6_copyFrom_136 rf r hr)))))))))))))))))))))))))
theorem tX6_copyFrom_92 {X : pu_X} {r : pu_R} (hX : pu_H X mdX6_copyFrom) (hr : pu_P X.2.1 X.2.2.2.2.2.2.2.2.2.2.1 r) (hq : ∀ i pc, pu_lp i = some (134, pc) → pu_S X mdX6_copyFrom pc (r i)) : pu_S X mdX6_copyFrom 92 (kX6_copyFrom_92 r) := by
  unfold kX6_copyFrom_92
  exact z_ald_n hX dX6_copyFrom_92 rfl (z_gr (c := 6) (j := 7) hX dX6_copyFrom_93 rfl inlX6 wm4_6 ⟨rfl, by decide, rfl⟩ (z_iconst hX dX6_copyFrom_96 (by decide) (z_ald_n hX dX6_copyFrom_97 rfl (z_gr (c := 6) (j := 7) hX dX6_copyFrom_98 rfl inlX6 wm4_6 ⟨rfl, by decide, rfl⟩ (z_iconst hX dX6_copyFrom_101 (by decide) (z_ald_n hX dX6_copyFrom_102 rfl (z_gi (c := 6) (j := 2) hX dX6_copyFrom_103 rfl inlX6 wm18_3 ⟨rfl, by decide, rfl⟩ (z_cp1 hX dX6_copyFrom_106 ⟨wm44_15, wm10_8, wm10_9, wm10_10⟩ ⟨Nat.le_of_ble_eq_true rfl, Nat.le_of_ble_eq_true rfl⟩ (z_ald_n hX dX6_copyFrom_109 rfl (z_gr (c := 6) (j := 8) hX dX6_copyFrom_110 rfl inlX6 wm4_7 ⟨rfl, by decide, rfl⟩ (z_iconst hX dX6_copyFrom_113 (by decide) (z_ald_n hX dX6_copyFrom_114 rfl (z_gr (c := 6) (j := 8) hX dX6_copyFrom_115 rfl inlX6 wm4_7 ⟨rfl, by decide, rfl⟩ (z_iconst hX dX6_copyFrom_118 (by decide) (z_ald_n hX dX6_copyFrom_119 rfl (z_gi (c := 6) (j := 2) hX dX6_copyFrom_120 rfl inlX6 wm18_3 ⟨rfl, by decide, rfl⟩ (z_cp1 hX dX6_copyFrom_123 ⟨wm44_15, wm10_8, wm10_9, wm10_10⟩ ⟨Nat.le_of_ble_eq_true rfl, Nat.le_of_ble_eq_true rfl⟩ (z_ald_n hX dX6_copyFrom_126 rfl (z_gr (c := 6) (j := 9) hX dX6_copyFrom_127 rfl inlX6 wm4_8 ⟨rfl, by decide, rfl⟩ (z_iconst hX dX6_copyFrom_130 (by decide) (z_ald_n hX dX6_copyFrom_131 rfl (z_gr (c := 6) (j := 9) hX dX6_copyFrom_132 rfl inlX6 wm4_8 ⟨rfl, by decide, rfl⟩ (z_iconst hX dX6_copyFrom_135 (by decide) ((tX6_copyFrom_136 hX hr hq)))))))))))))))))))))))))
def kX6_copyFrom_46 (r : pu_R) : pu_K := s_ald 0 (s_gr 6 4 (s_push (.int (0)) (s_ald 0 (s_gi 6 2 (s_cp1 (s_ald 1 (s_gr 6 5 (s_push (.int (0)) (s_ald 0 (s_gr 6 5 (s_push (.int (0)) (s_ald 0 (s_gi 6 2 (s_cp1 (s_ald 1 (s_gr 6 6 (s_push (.int (0)) (s_ald 0 (s_gr 6 6 (s_push (.int (0)) (s_ald 0 (s_gi 6 2 (s_cp1 ((kX6_copyFrom_92 r)))))))))))))))))))))))))
theorem vX6_copyFrom_46 : pu_cok2 kX6_copyFrom_46 := fun rf r hr => by
  unfold kX6_copyFrom_46
  exact v_ald (v_gr (v_pi (v_ald (v_gi (v_cp1 (v_ald (v_gr (v_pi (v_ald (v_gr (v_pi (v_ald (v_gi (v_cp1 (v_ald (v_gr (v_pi (v_ald (v_gr (v_pi (v_ald (v_gi (v_cp1 ((vX6_copyFrom_92 rf r hr)))))))))))))))))))))))))
theorem tX6_copyFrom_46 {X : pu_X} {r : pu_R} (hX : pu_H X mdX6_copyFrom) (hr : pu_P X.2.1 X.2.2.2.2.2.2.2.2.2.2.1 r) (hq : ∀ i pc, pu_lp i = some (134, pc) → pu_S X mdX6_copyFrom pc (r i)) : pu_S X mdX6_copyFrom 46 (kX6_copyFrom_46 r) := by
  unfold kX6_copyFrom_46
  exact z_ald_n hX dX6_copyFrom_46 rfl (z_gr (c := 6) (j := 4) hX dX6_copyFrom_47 rfl inlX6 wm4_3 ⟨rfl, by decide, rfl⟩ (z_iconst hX dX6_copyFrom_50 (by decide) (z_ald_n hX dX6_copyFrom_51 rfl (z_gi (c := 6) (j := 2) hX dX6_copyFrom_52 rfl inlX6 wm18_3 ⟨rfl, by decide, rfl⟩ (z_cp1 hX dX6_copyFrom_55 ⟨wm44_15, wm10_8, wm10_9, wm10_10⟩ ⟨Nat.le_of_ble_eq_true rfl, Nat.le_of_ble_eq_true rfl⟩ (z_ald_n hX dX6_copyFrom_58 rfl (z_gr (c := 6) (j := 5) hX dX6_copyFrom_59 rfl inlX6 wm4_4 ⟨rfl, by decide, rfl⟩ (z_iconst hX dX6_copyFrom_62 (by decide) (z_ald_n hX dX6_copyFrom_63 rfl (z_gr (c := 6) (j := 5) hX dX6_copyFrom_64 rfl inlX6 wm4_4 ⟨rfl, by decide, rfl⟩ (z_iconst hX dX6_copyFrom_67 (by decide) (z_ald_n hX dX6_copyFrom_68 rfl (z_gi (c := 6) (j := 2) hX dX6_copyFrom_69 rfl inlX6 wm18_3 ⟨rfl, by decide, rfl⟩ (z_cp1 hX dX6_copyFrom_72 ⟨wm44_15, wm10_8, wm10_9, wm10_10⟩ ⟨Nat.le_of_ble_eq_true rfl, Nat.le_of_ble_eq_true rfl⟩ (z_ald_n hX dX6_copyFrom_75 rfl (z_gr (c := 6) (j := 6) hX dX6_copyFrom_76 rfl inlX6 wm4_5 ⟨rfl, by decide, rfl⟩ (z_iconst hX dX6_copyFrom_79 (by decide) (z_ald_n hX dX6_copyFrom_80 rfl (z_gr (c := 6) (j := 6) hX dX6_copyFrom_81 rfl inlX6 wm4_5 ⟨rfl, by decide, rfl⟩ (z_iconst hX dX6_copyFrom_84 (by decide) (z_ald_n hX dX6_copyFrom_85 rfl (z_gi (c := 6) (j := 2) hX dX6_copyFrom_86 rfl inlX6 wm18_3 ⟨rfl, by decide, rfl⟩ (z_cp1 hX dX6_copyFrom_89 ⟨wm44_15, wm10_8, wm10_9, wm10_10⟩ ⟨Nat.le_of_ble_eq_true rfl, Nat.le_of_ble_eq_true rfl⟩ ((tX6_copyFrom_92 hX hr hq)))))))))))))))))))))))))
def kX6_copyFrom_0 (r : pu_R) : pu_K := s_ald 0 (s_ald 1 (s_gi 6 0 (s_pi 6 0 (s_ald 0 (s_ald 1 (s_gi 6 1 (s_pi 6 1 (s_ald 0 (s_ald 1 (s_gi 6 2 (s_pi 6 2 (s_ald 1 (s_gr 6 3 (s_push (.int (0)) (s_ald 0 (s_gr 6 3 (s_push (.int (0)) (s_ald 0 (s_gi 6 2 (s_cp1 (s_ald 1 (s_gr 6 4 (s_push (.int (0)) ((kX6_copyFrom_46 r)))))))))))))))))))))))))
theorem vX6_copyFrom_0 : pu_cok2 kX6_copyFrom_0 := fun rf r hr => by
  unfold kX6_copyFrom_0
  exact v_ald (v_ald (v_gi (v_puti (v_ald (v_ald (v_gi (v_puti (v_ald (v_ald (v_gi (v_puti (v_ald (v_gr (v_pi (v_ald (v_gr (v_pi (v_ald (v_gi (v_cp1 (v_ald (v_gr (v_pi ((vX6_copyFrom_46 rf r hr)))))))))))))))))))))))))
theorem tX6_copyFrom_0 {X : pu_X} {r : pu_R} (hX : pu_H X mdX6_copyFrom) (hr : pu_P X.2.1 X.2.2.2.2.2.2.2.2.2.2.1 r) (hq : ∀ i pc, pu_lp i = some (134, pc) → pu_S X mdX6_copyFrom pc (r i)) : pu_S X mdX6_copyFrom 0 (kX6_copyFrom_0 r) := by
  unfold kX6_copyFrom_0
  exact z_ald_n hX dX6_copyFrom_0 rfl (z_ald_n hX dX6_copyFrom_1 rfl (z_gi (c := 6) (j := 0) hX dX6_copyFrom_2 rfl inlX6 wm20_1 ⟨rfl, by decide, rfl⟩ (z_pi (c := 6) (j := 0) tyX6 tyX6_ok nmX6 hX dX6_copyFrom_5 rfl inlX6 wm20_1 ⟨rfl, by decide⟩ ⟨rfl, rfl⟩ rfl (z_ald_n hX dX6_copyFrom_8 rfl (z_ald_n hX dX6_copyFrom_9 rfl (z_gi (c := 6) (j := 1) hX dX6_copyFrom_10 rfl inlX6 wm4_1 ⟨rfl, by decide, rfl⟩ (z_pi (c := 6) (j := 1) tyX6 tyX6_ok nmX6 hX dX6_copyFrom_13 rfl inlX6 wm4_1 ⟨rfl, by decide⟩ ⟨rfl, rfl⟩ rfl (z_ald_n hX dX6_copyFrom_16 rfl (z_ald_n hX dX6_copyFrom_17 rfl (z_gi (c := 6) (j := 2) hX dX6_copyFrom_18 rfl inlX6 wm18_3 ⟨rfl, by decide, rfl⟩ (z_pi (c := 6) (j := 2) tyX6 tyX6_ok nmX6 hX dX6_copyFrom_21 rfl inlX6 wm18_3 ⟨rfl, by decide⟩ ⟨rfl, rfl⟩ rfl (z_ald_n hX dX6_copyFrom_24 rfl (z_gr (c := 6) (j := 3) hX dX6_copyFrom_25 rfl inlX6 wm4_2 ⟨rfl, by decide, rfl⟩ (z_iconst hX dX6_copyFrom_28 (by decide) (z_ald_n hX dX6_copyFrom_29 rfl (z_gr (c := 6) (j := 3) hX dX6_copyFrom_30 rfl inlX6 wm4_2 ⟨rfl, by decide, rfl⟩ (z_iconst hX dX6_copyFrom_33 (by decide) (z_ald_n hX dX6_copyFrom_34 rfl (z_gi (c := 6) (j := 2) hX dX6_copyFrom_35 rfl inlX6 wm18_3 ⟨rfl, by decide, rfl⟩ (z_cp1 hX dX6_copyFrom_38 ⟨wm44_15, wm10_8, wm10_9, wm10_10⟩ ⟨Nat.le_of_ble_eq_true rfl, Nat.le_of_ble_eq_true rfl⟩ (z_ald_n hX dX6_copyFrom_41 rfl (z_gr (c := 6) (j := 4) hX dX6_copyFrom_42 rfl inlX6 wm4_3 ⟨rfl, by decide, rfl⟩ (z_iconst hX dX6_copyFrom_45 (by decide) ((tX6_copyFrom_46 hX hr hq)))))))))))))))))))))))))
def kX4_copyFrom_46 (r : pu_R) : pu_K := s_push (.int (0)) (s_ald 0 (s_gr 4 3 (s_push (.int (0)) (s_ald 0 (s_gi 4 0 (s_cp1 (s_ald 1 (s_gr 4 4 (s_push (.int (0)) (s_ald 0 (s_gr 4 4 (s_push (.int (0)) (s_ald 0 (s_gi 4 0 (s_cp1 (s_vret))))))))))))))))
theorem vX4_copyFrom_46 : pu_cok2 kX4_copyFrom_46 := fun rf r hr => by
  unfold kX4_copyFrom_46
  exact v_pi (v_ald (v_gr (v_pi (v_ald (v_gi (v_cp1 (v_ald (v_gr (v_pi (v_ald (v_gr (v_pi (v_ald (v_gi (v_cp1 (v_vret))))))))))))))))
theorem tX4_copyFrom_46 {X : pu_X} {r : pu_R} (hX : pu_H X mdX4_copyFrom) (hr : pu_P X.2.1 X.2.2.2.2.2.2.2.2.2.2.1 r) (hq : ∀ i pc, pu_lp i = some (135, pc) → pu_S X mdX4_copyFrom pc (r i)) : pu_S X mdX4_copyFrom 46 (kX4_copyFrom_46 r) := by
  unfold kX4_copyFrom_46
  exact z_iconst hX dX4_copyFrom_46 (by decide) (z_ald_n hX dX4_copyFrom_47 rfl (z_gr (c := 4) (j := 3) hX dX4_copyFrom_48 rfl inlX4 wm4_14 ⟨rfl, by decide, rfl⟩ (z_iconst hX dX4_copyFrom_51 (by decide) (z_ald_n hX dX4_copyFrom_52 rfl (z_gi (c := 4) (j := 0) hX dX4_copyFrom_53 rfl inlX4 wm28_1 ⟨rfl, by decide, rfl⟩ (z_cp1 hX dX4_copyFrom_56 ⟨wm44_20, wm10_8, wm10_9, wm10_10⟩ ⟨Nat.le_of_ble_eq_true rfl, Nat.le_of_ble_eq_true rfl⟩ (z_ald_n hX dX4_copyFrom_59 rfl (z_gr (c := 4) (j := 4) hX dX4_copyFrom_60 rfl inlX4 wm4_15 ⟨rfl, by decide, rfl⟩ (z_iconst hX dX4_copyFrom_63 (by decide) (z_ald_n hX dX4_copyFrom_64 rfl (z_gr (c := 4) (j := 4) hX dX4_copyFrom_65 rfl inlX4 wm4_15 ⟨rfl, by decide, rfl⟩ (z_iconst hX dX4_copyFrom_68 (by decide) (z_ald_n hX dX4_copyFrom_69 rfl (z_gi (c := 4) (j := 0) hX dX4_copyFrom_70 rfl inlX4 wm28_1 ⟨rfl, by decide, rfl⟩ (z_cp1 hX dX4_copyFrom_73 ⟨wm44_20, wm10_8, wm10_9, wm10_10⟩ ⟨Nat.le_of_ble_eq_true rfl, Nat.le_of_ble_eq_true rfl⟩ (z_vret hX dX4_copyFrom_76 rfl))))))))))))))))
def kX4_copyFrom_0 (r : pu_R) : pu_K := s_ald 0 (s_ald 1 (s_gi 4 0 (s_pi 4 0 (s_ald 1 (s_gr 4 1 (s_push (.int (0)) (s_ald 0 (s_gr 4 1 (s_push (.int (0)) (s_ald 0 (s_gi 4 0 (s_cp1 (s_ald 1 (s_gr 4 2 (s_push (.int (0)) (s_ald 0 (s_gr 4 2 (s_push (.int (0)) (s_ald 0 (s_gi 4 0 (s_cp1 (s_ald 1 (s_gr 4 3 ((kX4_copyFrom_46 r)))))))))))))))))))))))))
theorem vX4_copyFrom_0 : pu_cok2 kX4_copyFrom_0 := fun rf r hr => by
  unfold kX4_copyFrom_0
  exact v_ald (v_ald (v_gi (v_puti (v_ald (v_gr (v_pi (v_ald (v_gr (v_pi (v_ald (v_gi (v_cp1 (v_ald (v_gr (v_pi (v_ald (v_gr (v_pi (v_ald (v_gi (v_cp1 (v_ald (v_gr ((vX4_copyFrom_46 rf r hr)))))))))))))))))))))))))
theorem tX4_copyFrom_0 {X : pu_X} {r : pu_R} (hX : pu_H X mdX4_copyFrom) (hr : pu_P X.2.1 X.2.2.2.2.2.2.2.2.2.2.1 r) (hq : ∀ i pc, pu_lp i = some (135, pc) → pu_S X mdX4_copyFrom pc (r i)) : pu_S X mdX4_copyFrom 0 (kX4_copyFrom_0 r) := by
  unfold kX4_copyFrom_0
  exact z_ald_n hX dX4_copyFrom_0 rfl (z_ald_n hX dX4_copyFrom_1 rfl (z_gi (c := 4) (j := 0) hX dX4_copyFrom_2 rfl inlX4 wm28_1 ⟨rfl, by decide, rfl⟩ (z_pi (c := 4) (j := 0) tyX4 tyX4_ok nmX4 hX dX4_copyFrom_5 rfl inlX4 wm28_1 ⟨rfl, by decide⟩ ⟨rfl, rfl⟩ rfl (z_ald_n hX dX4_copyFrom_8 rfl (z_gr (c := 4) (j := 1) hX dX4_copyFrom_9 rfl inlX4 wm4_12 ⟨rfl, by decide, rfl⟩ (z_iconst hX dX4_copyFrom_12 (by decide) (z_ald_n hX dX4_copyFrom_13 rfl (z_gr (c := 4) (j := 1) hX dX4_copyFrom_14 rfl inlX4 wm4_12 ⟨rfl, by decide, rfl⟩ (z_iconst hX dX4_copyFrom_17 (by decide) (z_ald_n hX dX4_copyFrom_18 rfl (z_gi (c := 4) (j := 0) hX dX4_copyFrom_19 rfl inlX4 wm28_1 ⟨rfl, by decide, rfl⟩ (z_cp1 hX dX4_copyFrom_22 ⟨wm44_20, wm10_8, wm10_9, wm10_10⟩ ⟨Nat.le_of_ble_eq_true rfl, Nat.le_of_ble_eq_true rfl⟩ (z_ald_n hX dX4_copyFrom_25 rfl (z_gr (c := 4) (j := 2) hX dX4_copyFrom_26 rfl inlX4 wm4_13 ⟨rfl, by decide, rfl⟩ (z_iconst hX dX4_copyFrom_29 (by decide) (z_ald_n hX dX4_copyFrom_30 rfl (z_gr (c := 4) (j := 2) hX dX4_copyFrom_31 rfl inlX4 wm4_13 ⟨rfl, by decide, rfl⟩ (z_iconst hX dX4_copyFrom_34 (by decide) (z_ald_n hX dX4_copyFrom_35 rfl (z_gi (c := 4) (j := 0) hX dX4_copyFrom_36 rfl inlX4 wm28_1 ⟨rfl, by decide, rfl⟩ (z_cp1 hX dX4_copyFrom_39 ⟨wm44_20, wm10_8, wm10_9, wm10_10⟩ ⟨Nat.le_of_ble_eq_true rfl, Nat.le_of_ble_eq_true rfl⟩ (z_ald_n hX dX4_copyFrom_42 rfl (z_gr (c := 4) (j := 3) hX dX4_copyFrom_43 rfl inlX4 wm4_14 ⟨rfl, by decide, rfl⟩ ((tX4_copyFrom_46 hX hr hq)))))))))))))))))))))))))
def kX3_copyFrom_88 (r : pu_R) : pu_K := s_gi 3 0 (s_imul (s_cp3 (s_vret)))
theorem vX3_copyFrom_88 : pu_cok2 kX3_copyFrom_88 := fun rf r hr => by
  unfold kX3_copyFrom_88
  exact v_gi (v_imul (v_cp3 (v_vret)))
theorem tX3_copyFrom_88 {X : pu_X} {r : pu_R} (hX : pu_H X mdX3_copyFrom) (hr : pu_P X.2.1 X.2.2.2.2.2.2.2.2.2.2.1 r) (hq : ∀ i pc, pu_lp i = some (136, pc) → pu_S X mdX3_copyFrom pc (r i)) : pu_S X mdX3_copyFrom 88 (kX3_copyFrom_88 r) := by
  unfold kX3_copyFrom_88
  exact z_gi (c := 3) (j := 0) hX dX3_copyFrom_88 rfl inlX3 wm16_21 ⟨rfl, by decide, rfl⟩ (z_imul hX dX3_copyFrom_91 (z_cp3 hX dX3_copyFrom_92 ⟨wm20_11, wm10_8, wm10_9, wm10_10⟩ ⟨Nat.le_of_ble_eq_true rfl, Nat.le_of_ble_eq_true rfl⟩ (z_vret hX dX3_copyFrom_95 rfl)))
def kX3_copyFrom_46 (r : pu_R) : pu_K := s_push (.int (0)) (s_ald 0 (s_gr 3 3 (s_push (.int (0)) (s_ald 0 (s_gi 3 0 (s_cp1 (s_ald 1 (s_gr 3 4 (s_push (.int (0)) (s_ald 0 (s_gr 3 4 (s_push (.int (0)) (s_ald 0 (s_gi 3 0 (s_cp1 (s_ald 1 (s_gr 3 5 (s_push (.int (0)) (s_ald 0 (s_gr 3 5 (s_push (.int (0)) (s_push (.int (3)) (s_ald 0 ((kX3_copyFrom_88 r)))))))))))))))))))))))))
theorem vX3_copyFrom_46 : pu_cok2 kX3_copyFrom_46 := fun rf r hr => by
  unfold kX3_copyFrom_46
  exact v_pi (v_ald (v_gr (v_pi (v_ald (v_gi (v_cp1 (v_ald (v_gr (v_pi (v_ald (v_gr (v_pi (v_ald (v_gi (v_cp1 (v_ald (v_gr (v_pi (v_ald (v_gr (v_pi (v_pi (v_ald ((vX3_copyFrom_88 rf r hr)))))))))))))))))))))))))
theorem tX3_copyFrom_46 {X : pu_X} {r : pu_R} (hX : pu_H X mdX3_copyFrom) (hr : pu_P X.2.1 X.2.2.2.2.2.2.2.2.2.2.1 r) (hq : ∀ i pc, pu_lp i = some (136, pc) → pu_S X mdX3_copyFrom pc (r i)) : pu_S X mdX3_copyFrom 46 (kX3_copyFrom_46 r) := by
  unfold kX3_copyFrom_46
  exact z_iconst hX dX3_copyFrom_46 (by decide) (z_ald_n hX dX3_copyFrom_47 rfl (z_gr (c := 3) (j := 3) hX dX3_copyFrom_48 rfl inlX3 wm4_21 ⟨rfl, by decide, rfl⟩ (z_iconst hX dX3_copyFrom_51 (by decide) (z_ald_n hX dX3_copyFrom_52 rfl (z_gi (c := 3) (j := 0) hX dX3_copyFrom_53 rfl inlX3 wm16_21 ⟨rfl, by decide, rfl⟩ (z_cp1 hX dX3_copyFrom_56 ⟨wm20_11, wm10_8, wm10_9, wm10_10⟩ ⟨Nat.le_of_ble_eq_true rfl, Nat.le_of_ble_eq_true rfl⟩ (z_ald_n hX dX3_copyFrom_59 rfl (z_gr (c := 3) (j := 4) hX dX3_copyFrom_60 rfl inlX3 wm4_22 ⟨rfl, by decide, rfl⟩ (z_iconst hX dX3_copyFrom_63 (by decide) (z_ald_n hX dX3_copyFrom_64 rfl (z_gr (c := 3) (j := 4) hX dX3_copyFrom_65 rfl inlX3 wm4_22 ⟨rfl, by decide, rfl⟩ (z_iconst hX dX3_copyFrom_68 (by decide) (z_ald_n hX dX3_copyFrom_69 rfl (z_gi (c := 3) (j := 0) hX dX3_copyFrom_70 rfl inlX3 wm16_21 ⟨rfl, by decide, rfl⟩ (z_cp1 hX dX3_copyFrom_73 ⟨wm20_11, wm10_8, wm10_9, wm10_10⟩ ⟨Nat.le_of_ble_eq_true rfl, Nat.le_of_ble_eq_true rfl⟩ (z_ald_n hX dX3_copyFrom_76 rfl (z_gr (c := 3) (j := 5) hX dX3_copyFrom_77 rfl inlX3 wm5_0 ⟨rfl, by decide, rfl⟩ (z_iconst hX dX3_copyFrom_80 (by decide) (z_ald_n hX dX3_copyFrom_81 rfl (z_gr (c := 3) (j := 5) hX dX3_copyFrom_82 rfl inlX3 wm5_0 ⟨rfl, by decide, rfl⟩ (z_iconst hX dX3_copyFrom_85 (by decide) (z_iconst hX dX3_copyFrom_86 (by decide) (z_ald_n hX dX3_copyFrom_87 rfl ((tX3_copyFrom_88 hX hr hq)))))))))))))))))))))))))
def kX3_copyFrom_0 (r : pu_R) : pu_K := s_ald 0 (s_ald 1 (s_gi 3 0 (s_pi 3 0 (s_ald 1 (s_gr 3 1 (s_push (.int (0)) (s_ald 0 (s_gr 3 1 (s_push (.int (0)) (s_ald 0 (s_gi 3 0 (s_cp1 (s_ald 1 (s_gr 3 2 (s_push (.int (0)) (s_ald 0 (s_gr 3 2 (s_push (.int (0)) (s_ald 0 (s_gi 3 0 (s_cp1 (s_ald 1 (s_gr 3 3 ((kX3_copyFrom_46 r)))))))))))))))))))))))))
theorem vX3_copyFrom_0 : pu_cok2 kX3_copyFrom_0 := fun rf r hr => by
  unfold kX3_copyFrom_0
  exact v_ald (v_ald (v_gi (v_puti (v_ald (v_gr (v_pi (v_ald (v_gr (v_pi (v_ald (v_gi (v_cp1 (v_ald (v_gr (v_pi (v_ald (v_gr (v_pi (v_ald (v_gi (v_cp1 (v_ald (v_gr ((vX3_copyFrom_46 rf r hr)))))))))))))))))))))))))
theorem tX3_copyFrom_0 {X : pu_X} {r : pu_R} (hX : pu_H X mdX3_copyFrom) (hr : pu_P X.2.1 X.2.2.2.2.2.2.2.2.2.2.1 r) (hq : ∀ i pc, pu_lp i = some (136, pc) → pu_S X mdX3_copyFrom pc (r i)) : pu_S X mdX3_copyFrom 0 (kX3_copyFrom_0 r) := by
  unfold kX3_copyFrom_0
  exact z_ald_n hX dX3_copyFrom_0 rfl (z_ald_n hX dX3_copyFrom_1 rfl (z_gi (c := 3) (j := 0) hX dX3_copyFrom_2 rfl inlX3 wm16_21 ⟨rfl, by decide, rfl⟩ (z_pi (c := 3) (j := 0) tyX3 tyX3_ok nmX3 hX dX3_copyFrom_5 rfl inlX3 wm16_21 ⟨rfl, by decide⟩ ⟨rfl, rfl⟩ rfl (z_ald_n hX dX3_copyFrom_8 rfl (z_gr (c := 3) (j := 1) hX dX3_copyFrom_9 rfl inlX3 wm4_19 ⟨rfl, by decide, rfl⟩ (z_iconst hX dX3_copyFrom_12 (by decide) (z_ald_n hX dX3_copyFrom_13 rfl (z_gr (c := 3) (j := 1) hX dX3_copyFrom_14 rfl inlX3 wm4_19 ⟨rfl, by decide, rfl⟩ (z_iconst hX dX3_copyFrom_17 (by decide) (z_ald_n hX dX3_copyFrom_18 rfl (z_gi (c := 3) (j := 0) hX dX3_copyFrom_19 rfl inlX3 wm16_21 ⟨rfl, by decide, rfl⟩ (z_cp1 hX dX3_copyFrom_22 ⟨wm20_11, wm10_8, wm10_9, wm10_10⟩ ⟨Nat.le_of_ble_eq_true rfl, Nat.le_of_ble_eq_true rfl⟩ (z_ald_n hX dX3_copyFrom_25 rfl (z_gr (c := 3) (j := 2) hX dX3_copyFrom_26 rfl inlX3 wm4_20 ⟨rfl, by decide, rfl⟩ (z_iconst hX dX3_copyFrom_29 (by decide) (z_ald_n hX dX3_copyFrom_30 rfl (z_gr (c := 3) (j := 2) hX dX3_copyFrom_31 rfl inlX3 wm4_20 ⟨rfl, by decide, rfl⟩ (z_iconst hX dX3_copyFrom_34 (by decide) (z_ald_n hX dX3_copyFrom_35 rfl (z_gi (c := 3) (j := 0) hX dX3_copyFrom_36 rfl inlX3 wm16_21 ⟨rfl, by decide, rfl⟩ (z_cp1 hX dX3_copyFrom_39 ⟨wm20_11, wm10_8, wm10_9, wm10_10⟩ ⟨Nat.le_of_ble_eq_true rfl, Nat.le_of_ble_eq_true rfl⟩ (z_ald_n hX dX3_copyFrom_42 rfl (z_gr (c := 3) (j := 3) hX dX3_copyFrom_43 rfl inlX3 wm4_21 ⟨rfl, by decide, rfl⟩ ((tX3_copyFrom_46 hX hr hq)))))))))))))))))))))))))
def kX10_copyFrom_88 (r : pu_R) : pu_K := s_ald 1 (s_gr 10 6 (s_push (.int (0)) (s_ald 0 (s_gr 10 6 (s_push (.int (0)) (s_push (.int (2)) (s_ald 0 (s_gi 10 1 (s_imul (s_push (.int (100)) (s_imul (s_cp1 (s_vret)))))))))))))
theorem vX10_copyFrom_88 : pu_cok2 kX10_copyFrom_88 := fun rf r hr => by
  unfold kX10_copyFrom_88
  exact v_ald (v_gr (v_pi (v_ald (v_gr (v_pi (v_pi (v_ald (v_gi (v_imul (v_pi (v_imul (v_cp1 (v_vret)))))))))))))
theorem tX10_copyFrom_88 {X : pu_X} {r : pu_R} (hX : pu_H X mdX10_copyFrom) (hr : pu_P X.2.1 X.2.2.2.2.2.2.2.2.2.2.1 r) (hq : ∀ i pc, pu_lp i = some (137, pc) → pu_S X mdX10_copyFrom pc (r i)) : pu_S X mdX10_copyFrom 88 (kX10_copyFrom_88 r) := by
  unfold kX10_copyFrom_88
  exact z_ald_n hX dX10_copyFrom_88 rfl (z_gr (c := 10) (j := 6) hX dX10_copyFrom_89 rfl inlX10 wm5_8 ⟨rfl, by decide, rfl⟩ (z_iconst hX dX10_copyFrom_92 (by decide) (z_ald_n hX dX10_copyFrom_93 rfl (z_gr (c := 10) (j := 6) hX dX10_copyFrom_94 rfl inlX10 wm5_8 ⟨rfl, by decide, rfl⟩ (z_iconst hX dX10_copyFrom_97 (by decide) (z_iconst hX dX10_copyFrom_98 (by decide) (z_ald_n hX dX10_copyFrom_99 rfl (z_gi (c := 10) (j := 1) hX dX10_copyFrom_100 rfl inlX10 wm20_6 ⟨rfl, by decide, rfl⟩ (z_imul hX dX10_copyFrom_103 (z_bipush hX dX10_copyFrom_104 (by decide) (z_imul hX dX10_copyFrom_106 (z_cp1 hX dX10_copyFrom_107 ⟨wm14_15, wm10_8, wm10_9, wm10_10⟩ ⟨Nat.le_of_ble_eq_true rfl, Nat.le_of_ble_eq_true rfl⟩ (z_vret hX dX10_copyFrom_110 rfl)))))))))))))
def kX10_copyFrom_44 (r : pu_R) : pu_K := s_push (.int (0)) (s_ald 0 (s_gi 10 1 (s_cp1 (s_ald 1 (s_gr 10 4 (s_push (.int (0)) (s_ald 0 (s_gr 10 4 (s_push (.int (0)) (s_ald 0 (s_gi 10 1 (s_cp1 (s_ald 1 (s_gr 10 5 (s_push (.int (0)) (s_ald 0 (s_gr 10 5 (s_push (.int (0)) (s_push (.int (2)) (s_ald 0 (s_gi 10 1 (s_imul (s_cp1 ((kX10_copyFrom_88 r)))))))))))))))))))))))))
theorem vX10_copyFrom_44 : pu_cok2 kX10_copyFrom_44 := fun rf r hr => by
  unfold kX10_copyFrom_44
  exact v_pi (v_ald (v_gi (v_cp1 (v_ald (v_gr (v_pi (v_ald (v_gr (v_pi (v_ald (v_gi (v_cp1 (v_ald (v_gr (v_pi (v_ald (v_gr (v_pi (v_pi (v_ald (v_gi (v_imul (v_cp1 ((vX10_copyFrom_88 rf r hr)))))))))))))))))))))))))
theorem tX10_copyFrom_44 {X : pu_X} {r : pu_R} (hX : pu_H X mdX10_copyFrom) (hr : pu_P X.2.1 X.2.2.2.2.2.2.2.2.2.2.1 r) (hq : ∀ i pc, pu_lp i = some (137, pc) → pu_S X mdX10_copyFrom pc (r i)) : pu_S X mdX10_copyFrom 44 (kX10_copyFrom_44 r) := by
  unfold kX10_copyFrom_44
  exact z_iconst hX dX10_copyFrom_44 (by decide) (z_ald_n hX dX10_copyFrom_45 rfl (z_gi (c := 10) (j := 1) hX dX10_copyFrom_46 rfl inlX10 wm20_6 ⟨rfl, by decide, rfl⟩ (z_cp1 hX dX10_copyFrom_49 ⟨wm14_15, wm10_8, wm10_9, wm10_10⟩ ⟨Nat.le_of_ble_eq_true rfl, Nat.le_of_ble_eq_true rfl⟩ (z_ald_n hX dX10_copyFrom_52 rfl (z_gr (c := 10) (j := 4) hX dX10_copyFrom_53 rfl inlX10 wm5_6 ⟨rfl, by decide, rfl⟩ (z_iconst hX dX10_copyFrom_56 (by decide) (z_ald_n hX dX10_copyFrom_57 rfl (z_gr (c := 10) (j := 4) hX dX10_copyFrom_58 rfl inlX10 wm5_6 ⟨rfl, by decide, rfl⟩ (z_iconst hX dX10_copyFrom_61 (by decide) (z_ald_n hX dX10_copyFrom_62 rfl (z_gi (c := 10) (j := 1) hX dX10_copyFrom_63 rfl inlX10 wm20_6 ⟨rfl, by decide, rfl⟩ (z_cp1 hX dX10_copyFrom_66 ⟨wm14_15, wm10_8, wm10_9, wm10_10⟩ ⟨Nat.le_of_ble_eq_true rfl, Nat.le_of_ble_eq_true rfl⟩ (z_ald_n hX dX10_copyFrom_69 rfl (z_gr (c := 10) (j := 5) hX dX10_copyFrom_70 rfl inlX10 wm5_7 ⟨rfl, by decide, rfl⟩ (z_iconst hX dX10_copyFrom_73 (by decide) (z_ald_n hX dX10_copyFrom_74 rfl (z_gr (c := 10) (j := 5) hX dX10_copyFrom_75 rfl inlX10 wm5_7 ⟨rfl, by decide, rfl⟩ (z_iconst hX dX10_copyFrom_78 (by decide) (z_iconst hX dX10_copyFrom_79 (by decide) (z_ald_n hX dX10_copyFrom_80 rfl (z_gi (c := 10) (j := 1) hX dX10_copyFrom_81 rfl inlX10 wm20_6 ⟨rfl, by decide, rfl⟩ (z_imul hX dX10_copyFrom_84 (z_cp1 hX dX10_copyFrom_85 ⟨wm14_15, wm10_8, wm10_9, wm10_10⟩ ⟨Nat.le_of_ble_eq_true rfl, Nat.le_of_ble_eq_true rfl⟩ ((tX10_copyFrom_88 hX hr hq)))))))))))))))))))))))))
def kX10_copyFrom_0 (r : pu_R) : pu_K := s_ald 0 (s_ald 1 (s_gi 10 0 (s_pi 10 0 (s_ald 0 (s_ald 1 (s_gi 10 1 (s_pi 10 1 (s_ald 1 (s_gr 10 2 (s_push (.int (0)) (s_ald 0 (s_gr 10 2 (s_push (.int (0)) (s_push (.int (3)) (s_ald 0 (s_gi 10 0 (s_imul (s_cp3 (s_ald 1 (s_gr 10 3 (s_push (.int (0)) (s_ald 0 (s_gr 10 3 ((kX10_copyFrom_44 r)))))))))))))))))))))))))
theorem vX10_copyFrom_0 : pu_cok2 kX10_copyFrom_0 := fun rf r hr => by
  unfold kX10_copyFrom_0
  exact v_ald (v_ald (v_gi (v_puti (v_ald (v_ald (v_gi (v_puti (v_ald (v_gr (v_pi (v_ald (v_gr (v_pi (v_pi (v_ald (v_gi (v_imul (v_cp3 (v_ald (v_gr (v_pi (v_ald (v_gr ((vX10_copyFrom_44 rf r hr)))))))))))))))))))))))))
theorem tX10_copyFrom_0 {X : pu_X} {r : pu_R} (hX : pu_H X mdX10_copyFrom) (hr : pu_P X.2.1 X.2.2.2.2.2.2.2.2.2.2.1 r) (hq : ∀ i pc, pu_lp i = some (137, pc) → pu_S X mdX10_copyFrom pc (r i)) : pu_S X mdX10_copyFrom 0 (kX10_copyFrom_0 r) := by
  unfold kX10_copyFrom_0
  exact z_ald_n hX dX10_copyFrom_0 rfl (z_ald_n hX dX10_copyFrom_1 rfl (z_gi (c := 10) (j := 0) hX dX10_copyFrom_2 rfl inlX10 wm14_7 ⟨rfl, by decide, rfl⟩ (z_pi (c := 10) (j := 0) tyX10 tyX10_ok nmX10 hX dX10_copyFrom_5 rfl inlX10 wm14_7 ⟨rfl, by decide⟩ ⟨rfl, rfl⟩ rfl (z_ald_n hX dX10_copyFrom_8 rfl (z_ald_n hX dX10_copyFrom_9 rfl (z_gi (c := 10) (j := 1) hX dX10_copyFrom_10 rfl inlX10 wm20_6 ⟨rfl, by decide, rfl⟩ (z_pi (c := 10) (j := 1) tyX10 tyX10_ok nmX10 hX dX10_copyFrom_13 rfl inlX10 wm20_6 ⟨rfl, by decide⟩ ⟨rfl, rfl⟩ rfl (z_ald_n hX dX10_copyFrom_16 rfl (z_gr (c := 10) (j := 2) hX dX10_copyFrom_17 rfl inlX10 wm5_4 ⟨rfl, by decide, rfl⟩ (z_iconst hX dX10_copyFrom_20 (by decide) (z_ald_n hX dX10_copyFrom_21 rfl (z_gr (c := 10) (j := 2) hX dX10_copyFrom_22 rfl inlX10 wm5_4 ⟨rfl, by decide, rfl⟩ (z_iconst hX dX10_copyFrom_25 (by decide) (z_iconst hX dX10_copyFrom_26 (by decide) (z_ald_n hX dX10_copyFrom_27 rfl (z_gi (c := 10) (j := 0) hX dX10_copyFrom_28 rfl inlX10 wm14_7 ⟨rfl, by decide, rfl⟩ (z_imul hX dX10_copyFrom_31 (z_cp3 hX dX10_copyFrom_32 ⟨wm14_15, wm10_8, wm10_9, wm10_10⟩ ⟨Nat.le_of_ble_eq_true rfl, Nat.le_of_ble_eq_true rfl⟩ (z_ald_n hX dX10_copyFrom_35 rfl (z_gr (c := 10) (j := 3) hX dX10_copyFrom_36 rfl inlX10 wm5_5 ⟨rfl, by decide, rfl⟩ (z_iconst hX dX10_copyFrom_39 (by decide) (z_ald_n hX dX10_copyFrom_40 rfl (z_gr (c := 10) (j := 3) hX dX10_copyFrom_41 rfl inlX10 wm5_5 ⟨rfl, by decide, rfl⟩ ((tX10_copyFrom_44 hX hr hq)))))))))))))))))))))))))
def kX2_copyFrom_176 (r : pu_R) : pu_K := s_ald 0 (s_gi 2 0 (s_imul (s_cp1 (s_vret))))
theorem vX2_copyFrom_176 : pu_cok2 kX2_copyFrom_176 := fun rf r hr => by
  unfold kX2_copyFrom_176
  exact v_ald (v_gi (v_imul (v_cp1 (v_vret))))
theorem tX2_copyFrom_176 {X : pu_X} {r : pu_R} (hX : pu_H X mdX2_copyFrom) (hr : pu_P X.2.1 X.2.2.2.2.2.2.2.2.2.2.1 r) (hq : ∀ i pc, pu_lp i = some (138, pc) → pu_S X mdX2_copyFrom pc (r i)) : pu_S X mdX2_copyFrom 176 (kX2_copyFrom_176 r) := by
  unfold kX2_copyFrom_176
  exact z_ald_n hX dX2_copyFrom_176 rfl (z_gi (c := 2) (j := 0) hX dX2_copyFrom_177 rfl inlX2 wm24_10 ⟨rfl, by decide, rfl⟩ (z_imul hX dX2_copyFrom_180 (z_cp1 hX dX2_copyFrom_181 ⟨wm45_9, wm10_8, wm10_9, wm10_10⟩ ⟨Nat.le_of_ble_eq_true rfl, Nat.le_of_ble_eq_true rfl⟩ (z_vret hX dX2_copyFrom_184 rfl))))
def kX2_copyFrom_136 (r : pu_R) : pu_K := s_push (.int (0)) (s_push (.int (2)) (s_ald 0 (s_gi 2 0 (s_imul (s_cp1 (s_ald 1 (s_gr 2 9 (s_push (.int (0)) (s_ald 0 (s_gr 2 9 (s_push (.int (0)) (s_push (.int (2)) (s_ald 0 (s_gi 2 0 (s_imul (s_cp1 (s_ald 1 (s_gr 2 10 (s_push (.int (0)) (s_ald 0 (s_gr 2 10 (s_push (.int (0)) (s_push (.int (2)) ((kX2_copyFrom_176 r)))))))))))))))))))))))))
theorem vX2_copyFrom_136 : pu_cok2 kX2_copyFrom_136 := fun rf r hr => by
  unfold kX2_copyFrom_136
  exact v_pi (v_pi (v_ald (v_gi (v_imul (v_cp1 (v_ald (v_gr (v_pi (v_ald (v_gr (v_pi (v_pi (v_ald (v_gi (v_imul (v_cp1 (v_ald (v_gr (v_pi (v_ald (v_gr (v_pi (v_pi ((vX2_copyFrom_176 rf r hr)))))))))))))))))))))))))
theorem tX2_copyFrom_136 {X : pu_X} {r : pu_R} (hX : pu_H X mdX2_copyFrom) (hr : pu_P X.2.1 X.2.2.2.2.2.2.2.2.2.2.1 r) (hq : ∀ i pc, pu_lp i = some (138, pc) → pu_S X mdX2_copyFrom pc (r i)) : pu_S X mdX2_copyFrom 136 (kX2_copyFrom_136 r) := by
  unfold kX2_copyFrom_136
  exact z_iconst hX dX2_copyFrom_136 (by decide) (z_iconst hX dX2_copyFrom_137 (by decide) (z_ald_n hX dX2_copyFrom_138 rfl (z_gi (c := 2) (j := 0) hX dX2_copyFrom_139 rfl inlX2 wm24_10 ⟨rfl, by decide, rfl⟩ (z_imul hX dX2_copyFrom_142 (z_cp1 hX dX2_copyFrom_143 ⟨wm45_9, wm10_8, wm10_9, wm10_10⟩ ⟨Nat.le_of_ble_eq_true rfl, Nat.le_of_ble_eq_true rfl⟩ (z_ald_n hX dX2_copyFrom_146 rfl (z_gr (c := 2) (j := 9) hX dX2_copyFrom_147 rfl inlX2 wm5_20 ⟨rfl, by decide, rfl⟩ (z_iconst hX dX2_copyFrom_150 (by decide) (z_ald_n hX dX2_copyFrom_151 rfl (z_gr (c := 2) (j := 9) hX dX2_copyFrom_152 rfl inlX2 wm5_20 ⟨rfl, by decide, rfl⟩ (z_iconst hX dX2_copyFrom_155 (by decide) (z_iconst hX dX2_copyFrom_156 (by decide) (z_ald_n hX dX2_copyFrom_157 rfl (z_gi (c := 2) (j := 0) hX dX2_copyFrom_158 rfl inlX2 wm24_10 ⟨rfl, by decide, rfl⟩ (z_imul hX dX2_copyFrom_161 (z_cp1 hX dX2_copyFrom_162 ⟨wm45_9, wm10_8, wm10_9, wm10_10⟩ ⟨Nat.le_of_ble_eq_true rfl, Nat.le_of_ble_eq_true rfl⟩ (z_ald_n hX dX2_copyFrom_165 rfl (z_gr (c := 2) (j := 10) hX dX2_copyFrom_166 rfl inlX2 wm5_21 ⟨rfl, by decide, rfl⟩ (z_iconst hX dX2_copyFrom_169 (by decide) (z_ald_n hX dX2_copyFrom_170 rfl (z_gr (c := 2) (j := 10) hX dX2_copyFrom_171 rfl inlX2 wm5_21 ⟨rfl, by decide, rfl⟩ (z_iconst hX dX2_copyFrom_174 (by decide) (z_iconst hX dX2_copyFrom_175 (by decide) ((tX2_copyFrom_176 hX hr hq)))))))))))))))))))))))))
def kX2_copyFrom_90 (r : pu_R) : pu_K := s_cp1 (s_ald 1 (s_gr 2 6 (s_push (.int (0)) (s_ald 0 (s_gr 2 6 (s_push (.int (0)) (s_ald 0 (s_gi 2 0 (s_cp1 (s_ald 1 (s_gr 2 7 (s_push (.int (0)) (s_ald 0 (s_gr 2 7 (s_push (.int (0)) (s_ald 0 (s_gi 2 0 (s_cp1 (s_ald 1 (s_gr 2 8 (s_push (.int (0)) (s_ald 0 (s_gr 2 8 ((kX2_copyFrom_136 r)))))))))))))))))))))))))
theorem vX2_copyFrom_90 : pu_cok2 kX2_copyFrom_90 := fun rf r hr => by
  unfold kX2_copyFrom_90
  exact v_cp1 (v_ald (v_gr (v_pi (v_ald (v_gr (v_pi (v_ald (v_gi (v_cp1 (v_ald (v_gr (v_pi (v_ald (v_gr (v_pi (v_ald (v_gi (v_cp1 (v_ald (v_gr (v_pi (v_ald (v_gr ((vX2_copyFrom_136 rf r hr)))))))))))))))))))))))))
theorem tX2_copyFrom_90 {X : pu_X} {r : pu_R} (hX : pu_H X mdX2_copyFrom) (hr : pu_P X.2.1 X.2.2.2.2.2.2.2.2.2.2.1 r) (hq : ∀ i pc, pu_lp i = some (138, pc) → pu_S X mdX2_copyFrom pc (r i)) : pu_S X mdX2_copyFrom 90 (kX2_copyFrom_90 r) := by
  unfold kX2_copyFrom_90
  exact z_cp1 hX dX2_copyFrom_90 ⟨wm45_9, wm10_8, wm10_9, wm10_10⟩ ⟨Nat.le_of_ble_eq_true rfl, Nat.le_of_ble_eq_true rfl⟩ (z_ald_n hX dX2_copyFrom_93 rfl (z_gr (c := 2) (j := 6) hX dX2_copyFrom_94 rfl inlX2 wm5_17 ⟨rfl, by decide, rfl⟩ (z_iconst hX dX2_copyFrom_97 (by decide) (z_ald_n hX dX2_copyFrom_98 rfl (z_gr (c := 2) (j := 6) hX dX2_copyFrom_99 rfl inlX2 wm5_17 ⟨rfl, by decide, rfl⟩ (z_iconst hX dX2_copyFrom_102 (by decide) (z_ald_n hX dX2_copyFrom_103 rfl (z_gi (c := 2) (j := 0) hX dX2_copyFrom_104 rfl inlX2 wm24_10 ⟨rfl, by decide, rfl⟩ (z_cp1 hX dX2_copyFrom_107 ⟨wm45_9, wm10_8, wm10_9, wm10_10⟩ ⟨Nat.le_of_ble_eq_true rfl, Nat.le_of_ble_eq_true rfl⟩ (z_ald_n hX dX2_copyFrom_110 rfl (z_gr (c := 2) (j := 7) hX dX2_copyFrom_111 rfl inlX2 wm5_18 ⟨rfl, by decide, rfl⟩ (z_iconst hX dX2_copyFrom_114 (by decide) (z_ald_n hX dX2_copyFrom_115 rfl (z_gr (c := 2) (j := 7) hX dX2_copyFrom_116 rfl inlX2 wm5_18 ⟨rfl, by decide, rfl⟩ (z_iconst hX dX2_copyFrom_119 (by decide) (z_ald_n hX dX2_copyFrom_120 rfl (z_gi (c := 2) (j := 0) hX dX2_copyFrom_121 rfl inlX2 wm24_10 ⟨rfl, by decide, rfl⟩ (z_cp1 hX dX2_copyFrom_124 ⟨wm45_9, wm10_8, wm10_9, wm10_10⟩ ⟨Nat.le_of_ble_eq_true rfl, Nat.le_of_ble_eq_true rfl⟩ (z_ald_n hX dX2_copyFrom_127 rfl (z_gr (c := 2) (j := 8) hX dX2_copyFrom_128 rfl inlX2 wm5_19 ⟨rfl, by decide, rfl⟩ (z_iconst hX dX2_copyFrom_131 (by decide) (z_ald_n hX dX2_copyFrom_132 rfl (z_gr (c := 2) (j := 8) hX dX2_copyFrom_133 rfl inlX2 wm5_19 ⟨rfl, by decide, rfl⟩ ((tX2_copyFrom_136 hX hr hq)))))))))))))))))))))))))
def kX2_copyFrom_46 (r : pu_R) : pu_K := s_push (.int (0)) (s_ald 0 (s_gr 2 3 (s_push (.int (0)) (s_ald 0 (s_gi 2 0 (s_cp1 (s_ald 1 (s_gr 2 4 (s_push (.int (0)) (s_ald 0 (s_gr 2 4 (s_push (.int (0)) (s_ald 0 (s_gi 2 0 (s_cp1 (s_ald 1 (s_gr 2 5 (s_push (.int (0)) (s_ald 0 (s_gr 2 5 (s_push (.int (0)) (s_ald 0 (s_gi 2 0 ((kX2_copyFrom_90 r)))))))))))))))))))))))))
theorem vX2_copyFrom_46 : pu_cok2 kX2_copyFrom_46 := fun rf r hr => by
  unfold kX2_copyFrom_46
  exact v_pi (v_ald (v_gr (v_pi (v_ald (v_gi (v_cp1 (v_ald (v_gr (v_pi (v_ald (v_gr (v_pi (v_ald (v_gi (v_cp1 (v_ald (v_gr (v_pi (v_ald (v_gr (v_pi (v_ald (v_gi ((vX2_copyFrom_90 rf r hr)))))))))))))))))))))))))
theorem tX2_copyFrom_46 {X : pu_X} {r : pu_R} (hX : pu_H X mdX2_copyFrom) (hr : pu_P X.2.1 X.2.2.2.2.2.2.2.2.2.2.1 r) (hq : ∀ i pc, pu_lp i = some (138, pc) → pu_S X mdX2_copyFrom pc (r i)) : pu_S X mdX2_copyFrom 46 (kX2_copyFrom_46 r) := by
  unfold kX2_copyFrom_46
  exact z_iconst hX dX2_copyFrom_46 (by decide) (z_ald_n hX dX2_copyFrom_47 rfl (z_gr (c := 2) (j := 3) hX dX2_copyFrom_48 rfl inlX2 wm5_14 ⟨rfl, by decide, rfl⟩ (z_iconst hX dX2_copyFrom_51 (by decide) (z_ald_n hX dX2_copyFrom_52 rfl (z_gi (c := 2) (j := 0) hX dX2_copyFrom_53 rfl inlX2 wm24_10 ⟨rfl, by decide, rfl⟩ (z_cp1 hX dX2_copyFrom_56 ⟨wm45_9, wm10_8, wm10_9, wm10_10⟩ ⟨Nat.le_of_ble_eq_true rfl, Nat.le_of_ble_eq_true rfl⟩ (z_ald_n hX dX2_copyFrom_59 rfl (z_gr (c := 2) (j := 4) hX dX2_copyFrom_60 rfl inlX2 wm5_15 ⟨rfl, by decide, rfl⟩ (z_iconst hX dX2_copyFrom_63 (by decide) (z_ald_n hX dX2_copyFrom_64 rfl (z_gr (c := 2) (j := 4) hX dX2_copyFrom_65 rfl inlX2 wm5_15 ⟨rfl, by decide, rfl⟩ (z_iconst hX dX2_copyFrom_68 (by decide) (z_ald_n hX dX2_copyFrom_69 rfl (z_gi (c := 2) (j := 0) hX dX2_copyFrom_70 rfl inlX2 wm24_10 ⟨rfl, by decide, rfl⟩ (z_cp1 hX dX2_copyFrom_73 ⟨wm45_9, wm10_8, wm10_9, wm10_10⟩ ⟨Nat.le_of_ble_eq_true rfl, Nat.le_of_ble_eq_true rfl⟩ (z_ald_n hX dX2_copyFrom_76 rfl (z_gr (c := 2) (j := 5) hX dX2_copyFrom_77 rfl inlX2 wm5_16 ⟨rfl, by decide, rfl⟩ (z_iconst hX dX2_copyFrom_80 (by decide) (z_ald_n hX dX2_copyFrom_81 rfl (z_gr (c := 2) (j := 5) hX dX2_copyFrom_82 rfl inlX2 wm5_16 ⟨rfl, by decide, rfl⟩ (z_iconst hX dX2_copyFrom_85 (by decide) (z_ald_n hX dX2_copyFrom_86 rfl (z_gi (c := 2) (j := 0) hX dX2_copyFrom_87 rfl inlX2 wm24_10 ⟨rfl, by decide, rfl⟩ ((tX2_copyFrom_90 hX hr hq)))))))))))))))))))))))))
def kX2_copyFrom_0 (r : pu_R) : pu_K := s_ald 0 (s_ald 1 (s_gi 2 0 (s_pi 2 0 (s_ald 1 (s_gr 2 1 (s_push (.int (0)) (s_ald 0 (s_gr 2 1 (s_push (.int (0)) (s_ald 0 (s_gi 2 0 (s_cp1 (s_ald 1 (s_gr 2 2 (s_push (.int (0)) (s_ald 0 (s_gr 2 2 (s_push (.int (0)) (s_ald 0 (s_gi 2 0 (s_cp1 (s_ald 1 (s_gr 2 3 ((kX2_copyFrom_46 r)))))))))))))))))))))))))
theorem vX2_copyFrom_0 : pu_cok2 kX2_copyFrom_0 := fun rf r hr => by
  unfold kX2_copyFrom_0
  exact v_ald (v_ald (v_gi (v_puti (v_ald (v_gr (v_pi (v_ald (v_gr (v_pi (v_ald (v_gi (v_cp1 (v_ald (v_gr (v_pi (v_ald (v_gr (v_pi (v_ald (v_gi (v_cp1 (v_ald (v_gr ((vX2_copyFrom_46 rf r hr)))))))))))))))))))))))))
theorem tX2_copyFrom_0 {X : pu_X} {r : pu_R} (hX : pu_H X mdX2_copyFrom) (hr : pu_P X.2.1 X.2.2.2.2.2.2.2.2.2.2.1 r) (hq : ∀ i pc, pu_lp i = some (138, pc) → pu_S X mdX2_copyFrom pc (r i)) : pu_S X mdX2_copyFrom 0 (kX2_copyFrom_0 r) := by
  unfold kX2_copyFrom_0
  exact z_ald_n hX dX2_copyFrom_0 rfl (z_ald_n hX dX2_copyFrom_1 rfl (z_gi (c := 2) (j := 0) hX dX2_copyFrom_2 rfl inlX2 wm24_10 ⟨rfl, by decide, rfl⟩ (z_pi (c := 2) (j := 0) tyX2 tyX2_ok nmX2 hX dX2_copyFrom_5 rfl inlX2 wm24_10 ⟨rfl, by decide⟩ ⟨rfl, rfl⟩ rfl (z_ald_n hX dX2_copyFrom_8 rfl (z_gr (c := 2) (j := 1) hX dX2_copyFrom_9 rfl inlX2 wm5_12 ⟨rfl, by decide, rfl⟩ (z_iconst hX dX2_copyFrom_12 (by decide) (z_ald_n hX dX2_copyFrom_13 rfl (z_gr (c := 2) (j := 1) hX dX2_copyFrom_14 rfl inlX2 wm5_12 ⟨rfl, by decide, rfl⟩ (z_iconst hX dX2_copyFrom_17 (by decide) (z_ald_n hX dX2_copyFrom_18 rfl (z_gi (c := 2) (j := 0) hX dX2_copyFrom_19 rfl inlX2 wm24_10 ⟨rfl, by decide, rfl⟩ (z_cp1 hX dX2_copyFrom_22 ⟨wm45_9, wm10_8, wm10_9, wm10_10⟩ ⟨Nat.le_of_ble_eq_true rfl, Nat.le_of_ble_eq_true rfl⟩ (z_ald_n hX dX2_copyFrom_25 rfl (z_gr (c := 2) (j := 2) hX dX2_copyFrom_26 rfl inlX2 wm5_13 ⟨rfl, by decide, rfl⟩ (z_iconst hX dX2_copyFrom_29 (by decide) (z_ald_n hX dX2_copyFrom_30 rfl (z_gr (c := 2) (j := 2) hX dX2_copyFrom_31 rfl inlX2 wm5_13 ⟨rfl, by decide, rfl⟩ (z_iconst hX dX2_copyFrom_34 (by decide) (z_ald_n hX dX2_copyFrom_35 rfl (z_gi (c := 2) (j := 0) hX dX2_copyFrom_36 rfl inlX2 wm24_10 ⟨rfl, by decide, rfl⟩ (z_cp1 hX dX2_copyFrom_39 ⟨wm45_9, wm10_8, wm10_9, wm10_10⟩ ⟨Nat.le_of_ble_eq_true rfl, Nat.le_of_ble_eq_true rfl⟩ (z_ald_n hX dX2_copyFrom_42 rfl (z_gr (c := 2) (j := 3) hX dX2_copyFrom_43 rfl inlX2 wm5_14 ⟨rfl, by decide, rfl⟩ ((tX2_copyFrom_46 hX hr hq)))))))))))))))))))))))))
def kX8_copyFrom_0 (r : pu_R) : pu_K := s_ald 0 (s_ald 1 (s_gi 8 0 (s_pi 8 0 (s_ald 1 (s_gr 8 1 (s_push (.int (0)) (s_ald 0 (s_gr 8 1 (s_push (.int (0)) (s_ald 0 (s_gi 8 0 (s_cp3 (s_ald 1 (s_gr 8 2 (s_push (.int (0)) (s_ald 0 (s_gr 8 2 (s_push (.int (0)) (s_ald 0 (s_gi 8 0 (s_cp3 (s_vret))))))))))))))))))))))
theorem vX8_copyFrom_0 : pu_cok2 kX8_copyFrom_0 := fun rf r hr => by
  unfold kX8_copyFrom_0
  exact v_ald (v_ald (v_gi (v_puti (v_ald (v_gr (v_pi (v_ald (v_gr (v_pi (v_ald (v_gi (v_cp3 (v_ald (v_gr (v_pi (v_ald (v_gr (v_pi (v_ald (v_gi (v_cp3 (v_vret))))))))))))))))))))))
theorem tX8_copyFrom_0 {X : pu_X} {r : pu_R} (hX : pu_H X mdX8_copyFrom) (hr : pu_P X.2.1 X.2.2.2.2.2.2.2.2.2.2.1 r) (hq : ∀ i pc, pu_lp i = some (139, pc) → pu_S X mdX8_copyFrom pc (r i)) : pu_S X mdX8_copyFrom 0 (kX8_copyFrom_0 r) := by
  unfold kX8_copyFrom_0
  exact z_ald_n hX dX8_copyFrom_0 rfl (z_ald_n hX dX8_copyFrom_1 rfl (z_gi (c := 8) (j := 0) hX dX8_copyFrom_2 rfl inlX8 wm14_2 ⟨rfl, by decide, rfl⟩ (z_pi (c := 8) (j := 0) tyX8 tyX8_ok nmX8 hX dX8_copyFrom_5 rfl inlX8 wm14_2 ⟨rfl, by decide⟩ ⟨rfl, rfl⟩ rfl (z_ald_n hX dX8_copyFrom_8 rfl (z_gr (c := 8) (j := 1) hX dX8_copyFrom_9 rfl inlX8 wm6_1 ⟨rfl, by decide, rfl⟩ (z_iconst hX dX8_copyFrom_12 (by decide) (z_ald_n hX dX8_copyFrom_13 rfl (z_gr (c := 8) (j := 1) hX dX8_copyFrom_14 rfl inlX8 wm6_1 ⟨rfl, by decide, rfl⟩ (z_iconst hX dX8_copyFrom_17 (by decide) (z_ald_n hX dX8_copyFrom_18 rfl (z_gi (c := 8) (j := 0) hX dX8_copyFrom_19 rfl inlX8 wm14_2 ⟨rfl, by decide, rfl⟩ (z_cp3 hX dX8_copyFrom_22 ⟨wm45_14, wm10_8, wm10_9, wm10_10⟩ ⟨Nat.le_of_ble_eq_true rfl, Nat.le_of_ble_eq_true rfl⟩ (z_ald_n hX dX8_copyFrom_25 rfl (z_gr (c := 8) (j := 2) hX dX8_copyFrom_26 rfl inlX8 wm6_2 ⟨rfl, by decide, rfl⟩ (z_iconst hX dX8_copyFrom_29 (by decide) (z_ald_n hX dX8_copyFrom_30 rfl (z_gr (c := 8) (j := 2) hX dX8_copyFrom_31 rfl inlX8 wm6_2 ⟨rfl, by decide, rfl⟩ (z_iconst hX dX8_copyFrom_34 (by decide) (z_ald_n hX dX8_copyFrom_35 rfl (z_gi (c := 8) (j := 0) hX dX8_copyFrom_36 rfl inlX8 wm14_2 ⟨rfl, by decide, rfl⟩ (z_cp3 hX dX8_copyFrom_39 ⟨wm45_14, wm10_8, wm10_9, wm10_10⟩ ⟨Nat.le_of_ble_eq_true rfl, Nat.le_of_ble_eq_true rfl⟩ (z_vret hX dX8_copyFrom_42 rfl))))))))))))))))))))))
