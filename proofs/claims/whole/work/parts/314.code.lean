def kX12_readsAddress_148 (r : pu_R) : pu_K := s_push (.int (1)) (s_zret)
theorem vX12_readsAddress_148 : pu_cok2 kX12_readsAddress_148 := fun rf r hr => by
  unfold kX12_readsAddress_148
  exact v_pi (v_zret)
theorem tX12_readsAddress_148 {X : pu_X} {r : pu_R} (hX : pu_H X mdX12_readsAddress) (hr : pu_P X.2.1 X.2.2.2.2.2.2.2.2.2.2.1 r) (hq : ∀ i pc, pu_lp i = some (314, pc) → pu_S X mdX12_readsAddress pc (r i)) : pu_S X mdX12_readsAddress 148 (kX12_readsAddress_148 r) := by
  unfold kX12_readsAddress_148
  exact z_iconst hX dX12_readsAddress_148 (by decide) (z_zret hX dX12_readsAddress_149 rfl)
def kX12_readsAddress_142 (r : pu_R) : pu_K := s_inc 1 (1) ((r 495))
theorem vX12_readsAddress_142 : pu_cok2 kX12_readsAddress_142 := fun rf r hr => by
  unfold kX12_readsAddress_142
  exact v_inc ((hr 495))
theorem tX12_readsAddress_142 {X : pu_X} {r : pu_R} (hX : pu_H X mdX12_readsAddress) (hr : pu_P X.2.1 X.2.2.2.2.2.2.2.2.2.2.1 r) (hq : ∀ i pc, pu_lp i = some (314, pc) → pu_S X mdX12_readsAddress pc (r i)) : pu_S X mdX12_readsAddress 142 (kX12_readsAddress_142 r) := by
  unfold kX12_readsAddress_142
  exact z_inc hX dX12_readsAddress_142 (by decide) ((z_goto hX dX12_readsAddress_145 (by decide) (hq 495 95 hl495)))
def kX12_readsAddress_121 (r : pu_R) : pu_K := s_ald 0 (s_gr 12 16 (s_push (.int (12)) (s_ild 1 (s_imul (s_ai 1 (s_ifeq (kX12_readsAddress_142 r) (s_ald 0 (s_ald 0 (s_gr 12 16 (s_ild 1 (s_cv r 242 2 12 ((kX12_readsAddress_142 r)))))))))))))
theorem vX12_readsAddress_121 : pu_cok2 kX12_readsAddress_121 := fun rf r hr => by
  unfold kX12_readsAddress_121
  exact v_ald (v_gr (v_pi (v_ild (v_imul (v_ai (v_ifeq (vX12_readsAddress_142 rf r hr) (v_ald (v_ald (v_gr (v_ild (v_cv hr ((vX12_readsAddress_142 rf r hr)))))))))))))
theorem tX12_readsAddress_121 {X : pu_X} {r : pu_R} (hX : pu_H X mdX12_readsAddress) (hr : pu_P X.2.1 X.2.2.2.2.2.2.2.2.2.2.1 r) (hq : ∀ i pc, pu_lp i = some (314, pc) → pu_S X mdX12_readsAddress pc (r i)) : pu_S X mdX12_readsAddress 121 (kX12_readsAddress_121 r) := by
  unfold kX12_readsAddress_121
  exact z_ald_n hX dX12_readsAddress_121 rfl (z_gr (c := 12) (j := 16) hX dX12_readsAddress_122 rfl inlX12 wm8_11 ⟨rfl, by decide, rfl⟩ (z_bipush hX dX12_readsAddress_125 (by decide) (z_ild_n hX dX12_readsAddress_127 rfl (z_imul hX dX12_readsAddress_128 (z_iald hX dX12_readsAddress_129 (z_ifeq hX dX12_readsAddress_130 (by decide) (tX12_readsAddress_142 hX hr hq) (z_ald_n hX dX12_readsAddress_133 rfl (z_ald_n hX dX12_readsAddress_134 rfl (z_gr (c := 12) (j := 16) hX dX12_readsAddress_135 rfl inlX12 wm8_11 ⟨rfl, by decide, rfl⟩ (z_ild_n hX dX12_readsAddress_138 rfl (z_cv (c := 12) hX hr dX12_readsAddress_139 hjX12_lengthen mwX12_lengthen rfl wm15_15 ⟨wm15_16, wm15_17⟩ ⟨Nat.le_of_ble_eq_true rfl, Nat.le_of_ble_eq_true rfl⟩ ((tX12_readsAddress_142 hX hr hq)))))))))))))
def kX12_readsAddress_95 (r : pu_R) : pu_K := s_ild 1 (s_push (.int (3)) (s_icge (kX12_readsAddress_148 r) (s_ald 0 (s_gr 12 9 (s_push (.int (12)) (s_ild 1 (s_imul (s_ai 1 (s_ifeq (kX12_readsAddress_121 r) (s_ald 0 (s_ald 0 (s_gr 12 9 (s_ild 1 (s_cv r 242 2 12 ((kX12_readsAddress_121 r))))))))))))))))
theorem vX12_readsAddress_95 : pu_cok2 kX12_readsAddress_95 := fun rf r hr => by
  unfold kX12_readsAddress_95
  exact v_ild (v_pi (v_icge (vX12_readsAddress_148 rf r hr) (v_ald (v_gr (v_pi (v_ild (v_imul (v_ai (v_ifeq (vX12_readsAddress_121 rf r hr) (v_ald (v_ald (v_gr (v_ild (v_cv hr ((vX12_readsAddress_121 rf r hr))))))))))))))))
theorem tX12_readsAddress_95 {X : pu_X} {r : pu_R} (hX : pu_H X mdX12_readsAddress) (hr : pu_P X.2.1 X.2.2.2.2.2.2.2.2.2.2.1 r) (hq : ∀ i pc, pu_lp i = some (314, pc) → pu_S X mdX12_readsAddress pc (r i)) : pu_S X mdX12_readsAddress 95 (kX12_readsAddress_95 r) := by
  unfold kX12_readsAddress_95
  exact z_ild_n hX dX12_readsAddress_95 rfl (z_iconst hX dX12_readsAddress_96 (by decide) (z_icge hX dX12_readsAddress_97 (by decide) (tX12_readsAddress_148 hX hr hq) (z_ald_n hX dX12_readsAddress_100 rfl (z_gr (c := 12) (j := 9) hX dX12_readsAddress_101 rfl inlX12 wm8_4 ⟨rfl, by decide, rfl⟩ (z_bipush hX dX12_readsAddress_104 (by decide) (z_ild_n hX dX12_readsAddress_106 rfl (z_imul hX dX12_readsAddress_107 (z_iald hX dX12_readsAddress_108 (z_ifeq hX dX12_readsAddress_109 (by decide) (tX12_readsAddress_121 hX hr hq) (z_ald_n hX dX12_readsAddress_112 rfl (z_ald_n hX dX12_readsAddress_113 rfl (z_gr (c := 12) (j := 9) hX dX12_readsAddress_114 rfl inlX12 wm8_4 ⟨rfl, by decide, rfl⟩ (z_ild_n hX dX12_readsAddress_117 rfl (z_cv (c := 12) hX hr dX12_readsAddress_118 hjX12_lengthen mwX12_lengthen rfl wm15_15 ⟨wm15_16, wm15_17⟩ ⟨Nat.le_of_ble_eq_true rfl, Nat.le_of_ble_eq_true rfl⟩ ((tX12_readsAddress_121 hX hr hq))))))))))))))))
def kX12_readsAddress_93 (r : pu_R) : pu_K := s_push (.int (0)) (s_ist 1 ((r 495)))
theorem vX12_readsAddress_93 : pu_cok2 kX12_readsAddress_93 := fun rf r hr => by
  unfold kX12_readsAddress_93
  exact v_pi (v_ist ((hr 495)))
theorem tX12_readsAddress_93 {X : pu_X} {r : pu_R} (hX : pu_H X mdX12_readsAddress) (hr : pu_P X.2.1 X.2.2.2.2.2.2.2.2.2.2.1 r) (hq : ∀ i pc, pu_lp i = some (314, pc) → pu_S X mdX12_readsAddress pc (r i)) : pu_S X mdX12_readsAddress 93 (kX12_readsAddress_93 r) := by
  unfold kX12_readsAddress_93
  exact z_iconst hX dX12_readsAddress_93 (by decide) (z_ist_n hX dX12_readsAddress_94 rfl ((hq 495 95 hl495)))
def kX12_readsAddress_91 (r : pu_R) : pu_K := s_push (.int (0)) (s_zret)
theorem vX12_readsAddress_91 : pu_cok2 kX12_readsAddress_91 := fun rf r hr => by
  unfold kX12_readsAddress_91
  exact v_pi (v_zret)
theorem tX12_readsAddress_91 {X : pu_X} {r : pu_R} (hX : pu_H X mdX12_readsAddress) (hr : pu_P X.2.1 X.2.2.2.2.2.2.2.2.2.2.1 r) (hq : ∀ i pc, pu_lp i = some (314, pc) → pu_S X mdX12_readsAddress pc (r i)) : pu_S X mdX12_readsAddress 91 (kX12_readsAddress_91 r) := by
  unfold kX12_readsAddress_91
  exact z_iconst hX dX12_readsAddress_91 (by decide) (z_zret hX dX12_readsAddress_92 rfl)
def kX12_readsAddress_45 (r : pu_R) : pu_K := s_ald 0 (s_cv r 308 0 12 (s_ifeq (kX12_readsAddress_91 r) (s_ald 0 (s_cv r 309 0 12 (s_ifeq (kX12_readsAddress_91 r) (s_ald 0 (s_cv r 312 0 12 (s_ifeq (kX12_readsAddress_91 r) (s_ald 0 (s_push (.int (44)) (s_cv r 306 1 12 (s_ifeq (kX12_readsAddress_91 r) (s_ald 0 (s_push (.int (32)) (s_cv r 306 1 12 (s_ifeq (kX12_readsAddress_91 r) (s_ald 0 (s_cv r 313 0 12 (s_ifne (kX12_readsAddress_93 r) ((kX12_readsAddress_91 r)))))))))))))))))))))
theorem vX12_readsAddress_45 : pu_cok2 kX12_readsAddress_45 := fun rf r hr => by
  unfold kX12_readsAddress_45
  exact v_ald (v_cv hr (v_ifeq (vX12_readsAddress_91 rf r hr) (v_ald (v_cv hr (v_ifeq (vX12_readsAddress_91 rf r hr) (v_ald (v_cv hr (v_ifeq (vX12_readsAddress_91 rf r hr) (v_ald (v_pi (v_cv hr (v_ifeq (vX12_readsAddress_91 rf r hr) (v_ald (v_pi (v_cv hr (v_ifeq (vX12_readsAddress_91 rf r hr) (v_ald (v_cv hr (v_ifne (vX12_readsAddress_93 rf r hr) ((vX12_readsAddress_91 rf r hr)))))))))))))))))))))
theorem tX12_readsAddress_45 {X : pu_X} {r : pu_R} (hX : pu_H X mdX12_readsAddress) (hr : pu_P X.2.1 X.2.2.2.2.2.2.2.2.2.2.1 r) (hq : ∀ i pc, pu_lp i = some (314, pc) → pu_S X mdX12_readsAddress pc (r i)) : pu_S X mdX12_readsAddress 45 (kX12_readsAddress_45 r) := by
  unfold kX12_readsAddress_45
  exact z_ald_n hX dX12_readsAddress_45 rfl (z_cv (c := 12) hX hr dX12_readsAddress_46 hjX12_streetPart mwX12_streetPart rfl wm58_0 ⟨wm58_1, wm58_2⟩ ⟨Nat.le_of_ble_eq_true rfl, Nat.le_of_ble_eq_true rfl⟩ (z_ifeq hX dX12_readsAddress_49 (by decide) (tX12_readsAddress_91 hX hr hq) (z_ald_n hX dX12_readsAddress_52 rfl (z_cv (c := 12) hX hr dX12_readsAddress_53 hjX12_numberPart mwX12_numberPart rfl wm58_19 ⟨wm58_20, wm58_21⟩ ⟨Nat.le_of_ble_eq_true rfl, Nat.le_of_ble_eq_true rfl⟩ (z_ifeq hX dX12_readsAddress_56 (by decide) (tX12_readsAddress_91 hX hr hq) (z_ald_n hX dX12_readsAddress_59 rfl (z_cv (c := 12) hX hr dX12_readsAddress_60 hjX12_extraPart mwX12_extraPart rfl wm58_23 ⟨wm59_0, wm59_1⟩ ⟨Nat.le_of_ble_eq_true rfl, Nat.le_of_ble_eq_true rfl⟩ (z_ifeq hX dX12_readsAddress_63 (by decide) (tX12_readsAddress_91 hX hr hq) (z_ald_n hX dX12_readsAddress_66 rfl (z_bipush hX dX12_readsAddress_67 (by decide) (z_cv (c := 12) hX hr dX12_readsAddress_69 hjX12_must mwX12_must rfl wm58_12 ⟨wm58_13, wm58_14⟩ ⟨Nat.le_of_ble_eq_true rfl, Nat.le_of_ble_eq_true rfl⟩ (z_ifeq hX dX12_readsAddress_72 (by decide) (tX12_readsAddress_91 hX hr hq) (z_ald_n hX dX12_readsAddress_75 rfl (z_bipush hX dX12_readsAddress_76 (by decide) (z_cv (c := 12) hX hr dX12_readsAddress_78 hjX12_must mwX12_must rfl wm58_12 ⟨wm58_13, wm58_14⟩ ⟨Nat.le_of_ble_eq_true rfl, Nat.le_of_ble_eq_true rfl⟩ (z_ifeq hX dX12_readsAddress_81 (by decide) (tX12_readsAddress_91 hX hr hq) (z_ald_n hX dX12_readsAddress_84 rfl (z_cv (c := 12) hX hr dX12_readsAddress_85 hjX12_townPart mwX12_townPart rfl wm59_11 ⟨wm59_12, wm59_13⟩ ⟨Nat.le_of_ble_eq_true rfl, Nat.le_of_ble_eq_true rfl⟩ (z_ifne hX dX12_readsAddress_88 (by decide) (tX12_readsAddress_93 hX hr hq) ((tX12_readsAddress_91 hX hr hq)))))))))))))))))))))
def kX12_readsAddress_19 (r : pu_R) : pu_K := s_ild 1 (s_push (.int (36)) (s_icge (kX12_readsAddress_45 r) (s_ald 0 (s_gr 12 9 (s_ild 1 (s_push (.int (0)) (s_wi 1 (s_ald 0 (s_gr 12 16 (s_ild 1 (s_push (.int (0)) (s_wi 1 (s_inc 1 (1) ((r 494)))))))))))))))
theorem vX12_readsAddress_19 : pu_cok2 kX12_readsAddress_19 := fun rf r hr => by
  unfold kX12_readsAddress_19
  exact v_ild (v_pi (v_icge (vX12_readsAddress_45 rf r hr) (v_ald (v_gr (v_ild (v_pi (v_wi (v_ald (v_gr (v_ild (v_pi (v_wi (v_inc ((hr 494)))))))))))))))
theorem tX12_readsAddress_19 {X : pu_X} {r : pu_R} (hX : pu_H X mdX12_readsAddress) (hr : pu_P X.2.1 X.2.2.2.2.2.2.2.2.2.2.1 r) (hq : ∀ i pc, pu_lp i = some (314, pc) → pu_S X mdX12_readsAddress pc (r i)) : pu_S X mdX12_readsAddress 19 (kX12_readsAddress_19 r) := by
  unfold kX12_readsAddress_19
  exact z_ild_n hX dX12_readsAddress_19 rfl (z_bipush hX dX12_readsAddress_20 (by decide) (z_icge hX dX12_readsAddress_22 (by decide) (tX12_readsAddress_45 hX hr hq) (z_ald_n hX dX12_readsAddress_25 rfl (z_gr (c := 12) (j := 9) hX dX12_readsAddress_26 rfl inlX12 wm8_4 ⟨rfl, by decide, rfl⟩ (z_ild_n hX dX12_readsAddress_29 rfl (z_iconst hX dX12_readsAddress_30 (by decide) (z_iast hX dX12_readsAddress_31 (z_ald_n hX dX12_readsAddress_32 rfl (z_gr (c := 12) (j := 16) hX dX12_readsAddress_33 rfl inlX12 wm8_11 ⟨rfl, by decide, rfl⟩ (z_ild_n hX dX12_readsAddress_36 rfl (z_iconst hX dX12_readsAddress_37 (by decide) (z_iast hX dX12_readsAddress_38 (z_inc hX dX12_readsAddress_39 (by decide) ((z_goto hX dX12_readsAddress_42 (by decide) (hq 494 19 hl494))))))))))))))))
def kX12_readsAddress_0 (r : pu_R) : pu_K := s_ald 0 (s_cv r 233 0 12 (s_ald 0 (s_gr 12 0 (s_push (.int (15)) (s_push (.int (-1)) (s_wi 1 (s_ald 0 (s_push (.int (0)) (s_pi 12 20 (s_push (.int (0)) (s_ist 1 ((r 494)))))))))))))
theorem vX12_readsAddress_0 : pu_cok2 kX12_readsAddress_0 := fun rf r hr => by
  unfold kX12_readsAddress_0
  exact v_ald (v_cv hr (v_ald (v_gr (v_pi (v_pi (v_wi (v_ald (v_pi (v_puti (v_pi (v_ist ((hr 494)))))))))))))
theorem tX12_readsAddress_0 {X : pu_X} {r : pu_R} (hX : pu_H X mdX12_readsAddress) (hr : pu_P X.2.1 X.2.2.2.2.2.2.2.2.2.2.1 r) (hq : ∀ i pc, pu_lp i = some (314, pc) → pu_S X mdX12_readsAddress pc (r i)) : pu_S X mdX12_readsAddress 0 (kX12_readsAddress_0 r) := by
  unfold kX12_readsAddress_0
  exact z_ald_n hX dX12_readsAddress_0 rfl (z_cv (c := 12) hX hr dX12_readsAddress_1 hjX12_takes mwX12_takes rfl wm15_0 ⟨wm15_1, wm15_2⟩ ⟨Nat.le_of_ble_eq_true rfl, Nat.le_of_ble_eq_true rfl⟩ (z_ald_n hX dX12_readsAddress_4 rfl (z_gr (c := 12) (j := 0) hX dX12_readsAddress_5 rfl inlX12 wm7_16 ⟨rfl, by decide, rfl⟩ (z_bipush hX dX12_readsAddress_8 (by decide) (z_iconst hX dX12_readsAddress_10 (by decide) (z_iast hX dX12_readsAddress_11 (z_ald_n hX dX12_readsAddress_12 rfl (z_iconst hX dX12_readsAddress_13 (by decide) (z_pi (c := 12) (j := 20) tyX12 tyX12_ok nmX12 hX dX12_readsAddress_14 rfl inlX12 wm8_15 ⟨rfl, by decide⟩ ⟨rfl, rfl⟩ rfl (z_iconst hX dX12_readsAddress_17 (by decide) (z_ist_n hX dX12_readsAddress_18 rfl ((hq 494 19 hl494)))))))))))))
def kX12_standsOn_0 (r : pu_R) : pu_K := s_ald 0 (s_ald 0 (s_ild 1 (s_push (.int (9)) (s_cv r 265 2 12 (s_ald 0 (s_ild 1 (s_push (.int (10)) (s_cv r 265 2 12 (s_ild 2 (s_cv r 239 3 12 (s_zret)))))))))))
theorem vX12_standsOn_0 : pu_cok2 kX12_standsOn_0 := fun rf r hr => by
  unfold kX12_standsOn_0
  exact v_ald (v_ald (v_ild (v_pi (v_cv hr (v_ald (v_ild (v_pi (v_cv hr (v_ild (v_cv hr (v_zret)))))))))))
theorem tX12_standsOn_0 {X : pu_X} {r : pu_R} (hX : pu_H X mdX12_standsOn) (hr : pu_P X.2.1 X.2.2.2.2.2.2.2.2.2.2.1 r) (hq : ∀ i pc, pu_lp i = some (315, pc) → pu_S X mdX12_standsOn pc (r i)) : pu_S X mdX12_standsOn 0 (kX12_standsOn_0 r) := by
  unfold kX12_standsOn_0
  exact z_ald_n hX dX12_standsOn_0 rfl (z_ald_n hX dX12_standsOn_1 rfl (z_ild_n hX dX12_standsOn_2 rfl (z_bipush hX dX12_standsOn_3 (by decide) (z_cv (c := 12) hX hr dX12_standsOn_5 hjX12_of mwX12_of rfl wm30_3 ⟨wm30_4, wm30_5⟩ ⟨Nat.le_of_ble_eq_true rfl, Nat.le_of_ble_eq_true rfl⟩ (z_ald_n hX dX12_standsOn_8 rfl (z_ild_n hX dX12_standsOn_9 rfl (z_bipush hX dX12_standsOn_10 (by decide) (z_cv (c := 12) hX hr dX12_standsOn_12 hjX12_of mwX12_of rfl wm30_3 ⟨wm30_4, wm30_5⟩ ⟨Nat.le_of_ble_eq_true rfl, Nat.le_of_ble_eq_true rfl⟩ (z_ild_n hX dX12_standsOn_15 rfl (z_cv (c := 12) hX hr dX12_standsOn_16 hjX12_holds mwX12_holds rfl wm47_22 ⟨wm47_23, wm48_0⟩ ⟨Nat.le_of_ble_eq_true rfl, Nat.le_of_ble_eq_true rfl⟩ (z_zret hX dX12_standsOn_19 rfl)))))))))))
def kX12_streetOn_96 (r : pu_R) : pu_K := s_push (.int (-1)) (s_iret)
theorem vX12_streetOn_96 : pu_cok2 kX12_streetOn_96 := fun rf r hr => by
  unfold kX12_streetOn_96
  exact v_pi (v_iret)
theorem tX12_streetOn_96 {X : pu_X} {r : pu_R} (hX : pu_H X mdX12_streetOn) (hr : pu_P X.2.1 X.2.2.2.2.2.2.2.2.2.2.1 r) (hq : ∀ i pc, pu_lp i = some (316, pc) → pu_S X mdX12_streetOn pc (r i)) : pu_S X mdX12_streetOn 96 (kX12_streetOn_96 r) := by
  unfold kX12_streetOn_96
  exact z_iconst hX dX12_streetOn_96 (by decide) (z_iret hX dX12_streetOn_97 rfl)
def kX12_streetOn_90 (r : pu_R) : pu_K := s_inc 2 (1) ((r 496))
theorem vX12_streetOn_90 : pu_cok2 kX12_streetOn_90 := fun rf r hr => by
  unfold kX12_streetOn_90
  exact v_inc ((hr 496))
theorem tX12_streetOn_90 {X : pu_X} {r : pu_R} (hX : pu_H X mdX12_streetOn) (hr : pu_P X.2.1 X.2.2.2.2.2.2.2.2.2.2.1 r) (hq : ∀ i pc, pu_lp i = some (316, pc) → pu_S X mdX12_streetOn pc (r i)) : pu_S X mdX12_streetOn 90 (kX12_streetOn_90 r) := by
  unfold kX12_streetOn_90
  exact z_inc hX dX12_streetOn_90 (by decide) ((z_goto hX dX12_streetOn_93 (by decide) (hq 496 2 hl496)))
def kX12_streetOn_77 (r : pu_R) : pu_K := s_cv r 245 2 12 (s_ifeq (kX12_streetOn_90 r) (s_ald 0 (s_gr 12 0 (s_ild 3 (s_ai 1 (s_iret))))))
theorem vX12_streetOn_77 : pu_cok2 kX12_streetOn_77 := fun rf r hr => by
  unfold kX12_streetOn_77
  exact v_cv hr (v_ifeq (vX12_streetOn_90 rf r hr) (v_ald (v_gr (v_ild (v_ai (v_iret))))))
theorem tX12_streetOn_77 {X : pu_X} {r : pu_R} (hX : pu_H X mdX12_streetOn) (hr : pu_P X.2.1 X.2.2.2.2.2.2.2.2.2.2.1 r) (hq : ∀ i pc, pu_lp i = some (316, pc) → pu_S X mdX12_streetOn pc (r i)) : pu_S X mdX12_streetOn 77 (kX12_streetOn_77 r) := by
  unfold kX12_streetOn_77
  exact z_cv (c := 12) hX hr dX12_streetOn_77 hjX12_isName mwX12_isName rfl wm15_19 ⟨wm15_20, wm15_21⟩ ⟨Nat.le_of_ble_eq_true rfl, Nat.le_of_ble_eq_true rfl⟩ (z_ifeq hX dX12_streetOn_80 (by decide) (tX12_streetOn_90 hX hr hq) (z_ald_n hX dX12_streetOn_83 rfl (z_gr (c := 12) (j := 0) hX dX12_streetOn_84 rfl inlX12 wm7_16 ⟨rfl, by decide, rfl⟩ (z_ild_n hX dX12_streetOn_87 rfl (z_iald hX dX12_streetOn_88 (z_iret hX dX12_streetOn_89 rfl))))))
def kX12_streetOn_37 (r : pu_R) : pu_K := s_ai 1 (s_ild 1 (s_cv r 239 3 12 (s_ifeq (kX12_streetOn_90 r) (s_ald 0 (s_ald 0 (s_gr 12 9 (s_ald 0 (s_gr 12 0 (s_ild 3 (s_push (.int (2)) (s_iadd (s_ai 1 (s_cv r 245 2 12 (s_ifeq (kX12_streetOn_90 r) (s_ald 0 (s_ald 0 (s_gr 12 16 (s_ald 0 (s_gr 12 0 (s_ild 3 (s_push (.int (1)) (s_iadd (s_ai 1 ((kX12_streetOn_77 r)))))))))))))))))))))))))
theorem vX12_streetOn_37 : pu_cok2 kX12_streetOn_37 := fun rf r hr => by
  unfold kX12_streetOn_37
  exact v_ai (v_ild (v_cv hr (v_ifeq (vX12_streetOn_90 rf r hr) (v_ald (v_ald (v_gr (v_ald (v_gr (v_ild (v_pi (v_iadd (v_ai (v_cv hr (v_ifeq (vX12_streetOn_90 rf r hr) (v_ald (v_ald (v_gr (v_ald (v_gr (v_ild (v_pi (v_iadd (v_ai ((vX12_streetOn_77 rf r hr)))))))))))))))))))))))))
theorem tX12_streetOn_37 {X : pu_X} {r : pu_R} (hX : pu_H X mdX12_streetOn) (hr : pu_P X.2.1 X.2.2.2.2.2.2.2.2.2.2.1 r) (hq : ∀ i pc, pu_lp i = some (316, pc) → pu_S X mdX12_streetOn pc (r i)) : pu_S X mdX12_streetOn 37 (kX12_streetOn_37 r) := by
  unfold kX12_streetOn_37
  exact z_iald hX dX12_streetOn_37 (z_ild_n hX dX12_streetOn_38 rfl (z_cv (c := 12) hX hr dX12_streetOn_39 hjX12_holds mwX12_holds rfl wm47_22 ⟨wm47_23, wm48_0⟩ ⟨Nat.le_of_ble_eq_true rfl, Nat.le_of_ble_eq_true rfl⟩ (z_ifeq hX dX12_streetOn_42 (by decide) (tX12_streetOn_90 hX hr hq) (z_ald_n hX dX12_streetOn_45 rfl (z_ald_n hX dX12_streetOn_46 rfl (z_gr (c := 12) (j := 9) hX dX12_streetOn_47 rfl inlX12 wm8_4 ⟨rfl, by decide, rfl⟩ (z_ald_n hX dX12_streetOn_50 rfl (z_gr (c := 12) (j := 0) hX dX12_streetOn_51 rfl inlX12 wm7_16 ⟨rfl, by decide, rfl⟩ (z_ild_n hX dX12_streetOn_54 rfl (z_iconst hX dX12_streetOn_55 (by decide) (z_iadd hX dX12_streetOn_56 (z_iald hX dX12_streetOn_57 (z_cv (c := 12) hX hr dX12_streetOn_58 hjX12_isName mwX12_isName rfl wm15_19 ⟨wm15_20, wm15_21⟩ ⟨Nat.le_of_ble_eq_true rfl, Nat.le_of_ble_eq_true rfl⟩ (z_ifeq hX dX12_streetOn_61 (by decide) (tX12_streetOn_90 hX hr hq) (z_ald_n hX dX12_streetOn_64 rfl (z_ald_n hX dX12_streetOn_65 rfl (z_gr (c := 12) (j := 16) hX dX12_streetOn_66 rfl inlX12 wm8_11 ⟨rfl, by decide, rfl⟩ (z_ald_n hX dX12_streetOn_69 rfl (z_gr (c := 12) (j := 0) hX dX12_streetOn_70 rfl inlX12 wm7_16 ⟨rfl, by decide, rfl⟩ (z_ild_n hX dX12_streetOn_73 rfl (z_iconst hX dX12_streetOn_74 (by decide) (z_iadd hX dX12_streetOn_75 (z_iald hX dX12_streetOn_76 ((tX12_streetOn_77 hX hr hq)))))))))))))))))))))))))
def kX12_streetOn_2 (r : pu_R) : pu_K := s_ild 2 (s_ald 0 (s_gr 12 0 (s_push (.int (7)) (s_ai 1 (s_icge (kX12_streetOn_96 r) (s_push (.int (7552)) (s_push (.int (5)) (s_ild 2 (s_imul (s_iadd (s_ist 3 (s_ald 0 (s_ald 0 (s_gr 12 0 (s_ild 3 (s_push (.int (3)) (s_iadd (s_ai 1 (s_ald 0 (s_gr 12 0 (s_ild 3 (s_push (.int (4)) (s_iadd ((kX12_streetOn_37 r)))))))))))))))))))))))))
theorem vX12_streetOn_2 : pu_cok2 kX12_streetOn_2 := fun rf r hr => by
  unfold kX12_streetOn_2
  exact v_ild (v_ald (v_gr (v_pi (v_ai (v_icge (vX12_streetOn_96 rf r hr) (v_pi (v_pi (v_ild (v_imul (v_iadd (v_ist (v_ald (v_ald (v_gr (v_ild (v_pi (v_iadd (v_ai (v_ald (v_gr (v_ild (v_pi (v_iadd ((vX12_streetOn_37 rf r hr)))))))))))))))))))))))))
theorem tX12_streetOn_2 {X : pu_X} {r : pu_R} (hX : pu_H X mdX12_streetOn) (hr : pu_P X.2.1 X.2.2.2.2.2.2.2.2.2.2.1 r) (hq : ∀ i pc, pu_lp i = some (316, pc) → pu_S X mdX12_streetOn pc (r i)) : pu_S X mdX12_streetOn 2 (kX12_streetOn_2 r) := by
  unfold kX12_streetOn_2
  exact z_ild_n hX dX12_streetOn_2 rfl (z_ald_n hX dX12_streetOn_3 rfl (z_gr (c := 12) (j := 0) hX dX12_streetOn_4 rfl inlX12 wm7_16 ⟨rfl, by decide, rfl⟩ (z_bipush hX dX12_streetOn_7 (by decide) (z_iald hX dX12_streetOn_9 (z_icge hX dX12_streetOn_10 (by decide) (tX12_streetOn_96 hX hr hq) (z_sipush hX dX12_streetOn_13 (by decide) (z_iconst hX dX12_streetOn_16 (by decide) (z_ild_n hX dX12_streetOn_17 rfl (z_imul hX dX12_streetOn_18 (z_iadd hX dX12_streetOn_19 (z_ist_n hX dX12_streetOn_20 rfl (z_ald_n hX dX12_streetOn_21 rfl (z_ald_n hX dX12_streetOn_22 rfl (z_gr (c := 12) (j := 0) hX dX12_streetOn_23 rfl inlX12 wm7_16 ⟨rfl, by decide, rfl⟩ (z_ild_n hX dX12_streetOn_26 rfl (z_iconst hX dX12_streetOn_27 (by decide) (z_iadd hX dX12_streetOn_28 (z_iald hX dX12_streetOn_29 (z_ald_n hX dX12_streetOn_30 rfl (z_gr (c := 12) (j := 0) hX dX12_streetOn_31 rfl inlX12 wm7_16 ⟨rfl, by decide, rfl⟩ (z_ild_n hX dX12_streetOn_34 rfl (z_iconst hX dX12_streetOn_35 (by decide) (z_iadd hX dX12_streetOn_36 ((tX12_streetOn_37 hX hr hq)))))))))))))))))))))))))
def kX12_streetOn_0 (r : pu_R) : pu_K := s_push (.int (0)) (s_ist 2 ((r 496)))
theorem vX12_streetOn_0 : pu_cok2 kX12_streetOn_0 := fun rf r hr => by
  unfold kX12_streetOn_0
  exact v_pi (v_ist ((hr 496)))
theorem tX12_streetOn_0 {X : pu_X} {r : pu_R} (hX : pu_H X mdX12_streetOn) (hr : pu_P X.2.1 X.2.2.2.2.2.2.2.2.2.2.1 r) (hq : ∀ i pc, pu_lp i = some (316, pc) → pu_S X mdX12_streetOn pc (r i)) : pu_S X mdX12_streetOn 0 (kX12_streetOn_0 r) := by
  unfold kX12_streetOn_0
  exact z_iconst hX dX12_streetOn_0 (by decide) (z_ist_n hX dX12_streetOn_1 rfl ((hq 496 2 hl496)))
def kX12_isOn_69 (r : pu_R) : pu_K := s_zret
theorem vX12_isOn_69 : pu_cok2 kX12_isOn_69 := fun rf r hr => by
  unfold kX12_isOn_69
  exact v_zret
theorem tX12_isOn_69 {X : pu_X} {r : pu_R} (hX : pu_H X mdX12_isOn) (hr : pu_P X.2.1 X.2.2.2.2.2.2.2.2.2.2.1 r) (hq : ∀ i pc, pu_lp i = some (317, pc) → pu_S X mdX12_isOn pc (r i)) : pu_S X mdX12_isOn 69 (kX12_isOn_69 r) := by
  unfold kX12_isOn_69
  exact z_zret hX dX12_isOn_69 rfl
def kX12_isOn_68 (r : pu_R) : pu_K := s_push (.int (0)) ((kX12_isOn_69 r))
theorem vX12_isOn_68 : pu_cok2 kX12_isOn_68 := fun rf r hr => by
  unfold kX12_isOn_68
  exact v_pi ((vX12_isOn_69 rf r hr))
theorem tX12_isOn_68 {X : pu_X} {r : pu_R} (hX : pu_H X mdX12_isOn) (hr : pu_P X.2.1 X.2.2.2.2.2.2.2.2.2.2.1 r) (hq : ∀ i pc, pu_lp i = some (317, pc) → pu_S X mdX12_isOn pc (r i)) : pu_S X mdX12_isOn 68 (kX12_isOn_68 r) := by
  unfold kX12_isOn_68
  exact z_iconst hX dX12_isOn_68 (by decide) ((tX12_isOn_69 hX hr hq))
def kX12_isOn_39 (r : pu_R) : pu_K := s_push (.int (5)) (s_iadd (s_ai 1 (s_ild 3 (s_cv r 239 3 12 (s_ifeq (kX12_isOn_68 r) (s_ald 0 (s_ald 0 (s_gr 12 0 (s_ild 4 (s_ai 1 (s_ild 3 (s_cv r 315 2 12 (s_ifeq (kX12_isOn_68 r) (s_push (.int (1)) ((kX12_isOn_69 r))))))))))))))))
theorem vX12_isOn_39 : pu_cok2 kX12_isOn_39 := fun rf r hr => by
  unfold kX12_isOn_39
  exact v_pi (v_iadd (v_ai (v_ild (v_cv hr (v_ifeq (vX12_isOn_68 rf r hr) (v_ald (v_ald (v_gr (v_ild (v_ai (v_ild (v_cv hr (v_ifeq (vX12_isOn_68 rf r hr) (v_pi ((vX12_isOn_69 rf r hr))))))))))))))))
theorem tX12_isOn_39 {X : pu_X} {r : pu_R} (hX : pu_H X mdX12_isOn) (hr : pu_P X.2.1 X.2.2.2.2.2.2.2.2.2.2.1 r) (hq : ∀ i pc, pu_lp i = some (317, pc) → pu_S X mdX12_isOn pc (r i)) : pu_S X mdX12_isOn 39 (kX12_isOn_39 r) := by
  unfold kX12_isOn_39
  exact z_iconst hX dX12_isOn_39 (by decide) (z_iadd hX dX12_isOn_40 (z_iald hX dX12_isOn_41 (z_ild_n hX dX12_isOn_42 rfl (z_cv (c := 12) hX hr dX12_isOn_43 hjX12_holds mwX12_holds rfl wm47_22 ⟨wm47_23, wm48_0⟩ ⟨Nat.le_of_ble_eq_true rfl, Nat.le_of_ble_eq_true rfl⟩ (z_ifeq hX dX12_isOn_46 (by decide) (tX12_isOn_68 hX hr hq) (z_ald_n hX dX12_isOn_49 rfl (z_ald_n hX dX12_isOn_50 rfl (z_gr (c := 12) (j := 0) hX dX12_isOn_51 rfl inlX12 wm7_16 ⟨rfl, by decide, rfl⟩ (z_ild hX dX12_isOn_54 (z_iald hX dX12_isOn_56 (z_ild_n hX dX12_isOn_57 rfl (z_cv (c := 12) hX hr dX12_isOn_58 hjX12_standsOn mwX12_standsOn rfl wm47_18 ⟨wm47_19, wm47_20⟩ ⟨Nat.le_of_ble_eq_true rfl, Nat.le_of_ble_eq_true rfl⟩ (z_ifeq hX dX12_isOn_61 (by decide) (tX12_isOn_68 hX hr hq) (z_iconst hX dX12_isOn_64 (by decide) ((z_goto hX dX12_isOn_65 (by decide) (tX12_isOn_69 hX hr hq)))))))))))))))))
def kX12_isOn_0 (r : pu_R) : pu_K := s_push (.int (10752)) (s_push (.int (6)) (s_ild 1 (s_imul (s_iadd (s_ist 4 (s_ald 0 (s_gr 12 0 (s_ild 4 (s_push (.int (2)) (s_iadd (s_ai 1 (s_ild 2 (s_icne (kX12_isOn_68 r) (s_ald 0 (s_ald 0 (s_gr 12 0 (s_ild 4 (s_push (.int (4)) (s_iadd (s_ai 1 (s_ald 0 (s_gr 12 0 (s_ild 4 ((kX12_isOn_39 r)))))))))))))))))))))))))
theorem vX12_isOn_0 : pu_cok2 kX12_isOn_0 := fun rf r hr => by
  unfold kX12_isOn_0
  exact v_pi (v_pi (v_ild (v_imul (v_iadd (v_ist (v_ald (v_gr (v_ild (v_pi (v_iadd (v_ai (v_ild (v_icne (vX12_isOn_68 rf r hr) (v_ald (v_ald (v_gr (v_ild (v_pi (v_iadd (v_ai (v_ald (v_gr (v_ild ((vX12_isOn_39 rf r hr)))))))))))))))))))))))))
theorem tX12_isOn_0 {X : pu_X} {r : pu_R} (hX : pu_H X mdX12_isOn) (hr : pu_P X.2.1 X.2.2.2.2.2.2.2.2.2.2.1 r) (hq : ∀ i pc, pu_lp i = some (317, pc) → pu_S X mdX12_isOn pc (r i)) : pu_S X mdX12_isOn 0 (kX12_isOn_0 r) := by
  unfold kX12_isOn_0
  exact z_sipush hX dX12_isOn_0 (by decide) (z_bipush hX dX12_isOn_3 (by decide) (z_ild_n hX dX12_isOn_5 rfl (z_imul hX dX12_isOn_6 (z_iadd hX dX12_isOn_7 (z_ist hX dX12_isOn_8 (z_ald_n hX dX12_isOn_10 rfl (z_gr (c := 12) (j := 0) hX dX12_isOn_11 rfl inlX12 wm7_16 ⟨rfl, by decide, rfl⟩ (z_ild hX dX12_isOn_14 (z_iconst hX dX12_isOn_16 (by decide) (z_iadd hX dX12_isOn_17 (z_iald hX dX12_isOn_18 (z_ild_n hX dX12_isOn_19 rfl (z_icne hX dX12_isOn_20 (by decide) (tX12_isOn_68 hX hr hq) (z_ald_n hX dX12_isOn_23 rfl (z_ald_n hX dX12_isOn_24 rfl (z_gr (c := 12) (j := 0) hX dX12_isOn_25 rfl inlX12 wm7_16 ⟨rfl, by decide, rfl⟩ (z_ild hX dX12_isOn_28 (z_iconst hX dX12_isOn_30 (by decide) (z_iadd hX dX12_isOn_31 (z_iald hX dX12_isOn_32 (z_ald_n hX dX12_isOn_33 rfl (z_gr (c := 12) (j := 0) hX dX12_isOn_34 rfl inlX12 wm7_16 ⟨rfl, by decide, rfl⟩ (z_ild hX dX12_isOn_37 ((tX12_isOn_39 hX hr hq)))))))))))))))))))))))))
def kX12_withExtra_74 (r : pu_R) : pu_K := s_push (.int (-1)) (s_iret)
theorem vX12_withExtra_74 : pu_cok2 kX12_withExtra_74 := fun rf r hr => by
  unfold kX12_withExtra_74
  exact v_pi (v_iret)
theorem tX12_withExtra_74 {X : pu_X} {r : pu_R} (hX : pu_H X mdX12_withExtra) (hr : pu_P X.2.1 X.2.2.2.2.2.2.2.2.2.2.1 r) (hq : ∀ i pc, pu_lp i = some (318, pc) → pu_S X mdX12_withExtra pc (r i)) : pu_S X mdX12_withExtra 74 (kX12_withExtra_74 r) := by
  unfold kX12_withExtra_74
  exact z_iconst hX dX12_withExtra_74 (by decide) (z_iret hX dX12_withExtra_75 rfl)
def kX12_withExtra_68 (r : pu_R) : pu_K := s_inc 3 (1) ((r 497))
theorem vX12_withExtra_68 : pu_cok2 kX12_withExtra_68 := fun rf r hr => by
  unfold kX12_withExtra_68
  exact v_inc ((hr 497))
theorem tX12_withExtra_68 {X : pu_X} {r : pu_R} (hX : pu_H X mdX12_withExtra) (hr : pu_P X.2.1 X.2.2.2.2.2.2.2.2.2.2.1 r) (hq : ∀ i pc, pu_lp i = some (318, pc) → pu_S X mdX12_withExtra pc (r i)) : pu_S X mdX12_withExtra 68 (kX12_withExtra_68 r) := by
  unfold kX12_withExtra_68
  exact z_inc hX dX12_withExtra_68 (by decide) ((z_goto hX dX12_withExtra_71 (by decide) (hq 497 11 hl497)))
def kX12_withExtra_54 (r : pu_R) : pu_K := s_icne (kX12_withExtra_68 r) (s_ald 0 (s_ild 3 (s_ild 2 (s_cv r 315 2 12 (s_ifeq (kX12_withExtra_68 r) (s_ild 3 (s_iret)))))))
theorem vX12_withExtra_54 : pu_cok2 kX12_withExtra_54 := fun rf r hr => by
  unfold kX12_withExtra_54
  exact v_icne (vX12_withExtra_68 rf r hr) (v_ald (v_ild (v_ild (v_cv hr (v_ifeq (vX12_withExtra_68 rf r hr) (v_ild (v_iret)))))))
theorem tX12_withExtra_54 {X : pu_X} {r : pu_R} (hX : pu_H X mdX12_withExtra) (hr : pu_P X.2.1 X.2.2.2.2.2.2.2.2.2.2.1 r) (hq : ∀ i pc, pu_lp i = some (318, pc) → pu_S X mdX12_withExtra pc (r i)) : pu_S X mdX12_withExtra 54 (kX12_withExtra_54 r) := by
  unfold kX12_withExtra_54
  exact z_icne hX dX12_withExtra_54 (by decide) (tX12_withExtra_68 hX hr hq) (z_ald_n hX dX12_withExtra_57 rfl (z_ild_n hX dX12_withExtra_58 rfl (z_ild_n hX dX12_withExtra_59 rfl (z_cv (c := 12) hX hr dX12_withExtra_60 hjX12_standsOn mwX12_standsOn rfl wm47_18 ⟨wm47_19, wm47_20⟩ ⟨Nat.le_of_ble_eq_true rfl, Nat.le_of_ble_eq_true rfl⟩ (z_ifeq hX dX12_withExtra_63 (by decide) (tX12_withExtra_68 hX hr hq) (z_ild_n hX dX12_withExtra_66 rfl (z_iret hX dX12_withExtra_67 rfl)))))))
def kX12_withExtra_11 (r : pu_R) : pu_K := s_ild 3 (s_ald 0 (s_gr 12 0 (s_push (.int (4)) (s_ai 1 (s_icge (kX12_withExtra_74 r) (s_ald 0 (s_ild 3 (s_push (.int (0)) (s_cv r 265 2 12 (s_ald 0 (s_gi 12 18 (s_icne (kX12_withExtra_68 r) (s_ald 0 (s_ild 3 (s_push (.int (7)) (s_cv r 265 2 12 (s_ald 0 (s_gi 12 19 (s_icne (kX12_withExtra_68 r) (s_ald 0 (s_ild 3 (s_cv r 271 1 12 (s_ild 1 ((kX12_withExtra_54 r)))))))))))))))))))))))))
theorem vX12_withExtra_11 : pu_cok2 kX12_withExtra_11 := fun rf r hr => by
  unfold kX12_withExtra_11
  exact v_ild (v_ald (v_gr (v_pi (v_ai (v_icge (vX12_withExtra_74 rf r hr) (v_ald (v_ild (v_pi (v_cv hr (v_ald (v_gi (v_icne (vX12_withExtra_68 rf r hr) (v_ald (v_ild (v_pi (v_cv hr (v_ald (v_gi (v_icne (vX12_withExtra_68 rf r hr) (v_ald (v_ild (v_cv hr (v_ild ((vX12_withExtra_54 rf r hr)))))))))))))))))))))))))
theorem tX12_withExtra_11 {X : pu_X} {r : pu_R} (hX : pu_H X mdX12_withExtra) (hr : pu_P X.2.1 X.2.2.2.2.2.2.2.2.2.2.1 r) (hq : ∀ i pc, pu_lp i = some (318, pc) → pu_S X mdX12_withExtra pc (r i)) : pu_S X mdX12_withExtra 11 (kX12_withExtra_11 r) := by
  unfold kX12_withExtra_11
  exact z_ild_n hX dX12_withExtra_11 rfl (z_ald_n hX dX12_withExtra_12 rfl (z_gr (c := 12) (j := 0) hX dX12_withExtra_13 rfl inlX12 wm7_16 ⟨rfl, by decide, rfl⟩ (z_iconst hX dX12_withExtra_16 (by decide) (z_iald hX dX12_withExtra_17 (z_icge hX dX12_withExtra_18 (by decide) (tX12_withExtra_74 hX hr hq) (z_ald_n hX dX12_withExtra_21 rfl (z_ild_n hX dX12_withExtra_22 rfl (z_iconst hX dX12_withExtra_23 (by decide) (z_cv (c := 12) hX hr dX12_withExtra_24 hjX12_of mwX12_of rfl wm30_3 ⟨wm30_4, wm30_5⟩ ⟨Nat.le_of_ble_eq_true rfl, Nat.le_of_ble_eq_true rfl⟩ (z_ald_n hX dX12_withExtra_27 rfl (z_gi (c := 12) (j := 18) hX dX12_withExtra_28 rfl inlX12 wm8_13 ⟨rfl, by decide, rfl⟩ (z_icne hX dX12_withExtra_31 (by decide) (tX12_withExtra_68 hX hr hq) (z_ald_n hX dX12_withExtra_34 rfl (z_ild_n hX dX12_withExtra_35 rfl (z_bipush hX dX12_withExtra_36 (by decide) (z_cv (c := 12) hX hr dX12_withExtra_38 hjX12_of mwX12_of rfl wm30_3 ⟨wm30_4, wm30_5⟩ ⟨Nat.le_of_ble_eq_true rfl, Nat.le_of_ble_eq_true rfl⟩ (z_ald_n hX dX12_withExtra_41 rfl (z_gi (c := 12) (j := 19) hX dX12_withExtra_42 rfl inlX12 wm8_14 ⟨rfl, by decide, rfl⟩ (z_icne hX dX12_withExtra_45 (by decide) (tX12_withExtra_68 hX hr hq) (z_ald_n hX dX12_withExtra_48 rfl (z_ild_n hX dX12_withExtra_49 rfl (z_cv (c := 12) hX hr dX12_withExtra_50 hjX12_front mwX12_front rfl wm35_0 ⟨wm35_1, wm35_2⟩ ⟨Nat.le_of_ble_eq_true rfl, Nat.le_of_ble_eq_true rfl⟩ (z_ild_n hX dX12_withExtra_53 rfl ((tX12_withExtra_54 hX hr hq)))))))))))))))))))))))))
def kX12_withExtra_9 (r : pu_R) : pu_K := s_push (.int (0)) (s_ist 3 ((r 497)))
theorem vX12_withExtra_9 : pu_cok2 kX12_withExtra_9 := fun rf r hr => by
  unfold kX12_withExtra_9
  exact v_pi (v_ist ((hr 497)))
theorem tX12_withExtra_9 {X : pu_X} {r : pu_R} (hX : pu_H X mdX12_withExtra) (hr : pu_P X.2.1 X.2.2.2.2.2.2.2.2.2.2.1 r) (hq : ∀ i pc, pu_lp i = some (318, pc) → pu_S X mdX12_withExtra pc (r i)) : pu_S X mdX12_withExtra 9 (kX12_withExtra_9 r) := by
  unfold kX12_withExtra_9
  exact z_iconst hX dX12_withExtra_9 (by decide) (z_ist_n hX dX12_withExtra_10 rfl ((hq 497 11 hl497)))
def kX12_withExtra_0 (r : pu_R) : pu_K := s_ald 0 (s_gi 12 18 (s_ifne (kX12_withExtra_9 r) (s_ild 1 (s_iret))))
theorem vX12_withExtra_0 : pu_cok2 kX12_withExtra_0 := fun rf r hr => by
  unfold kX12_withExtra_0
  exact v_ald (v_gi (v_ifne (vX12_withExtra_9 rf r hr) (v_ild (v_iret))))
theorem tX12_withExtra_0 {X : pu_X} {r : pu_R} (hX : pu_H X mdX12_withExtra) (hr : pu_P X.2.1 X.2.2.2.2.2.2.2.2.2.2.1 r) (hq : ∀ i pc, pu_lp i = some (318, pc) → pu_S X mdX12_withExtra pc (r i)) : pu_S X mdX12_withExtra 0 (kX12_withExtra_0 r) := by
  unfold kX12_withExtra_0
  exact z_ald_n hX dX12_withExtra_0 rfl (z_gi (c := 12) (j := 18) hX dX12_withExtra_1 rfl inlX12 wm8_13 ⟨rfl, by decide, rfl⟩ (z_ifne hX dX12_withExtra_4 (by decide) (tX12_withExtra_9 hX hr hq) (z_ild_n hX dX12_withExtra_7 rfl (z_iret hX dX12_withExtra_8 rfl))))
def kX12_sure_96 (r : pu_R) : pu_K := s_push (.int (-1)) (s_iret)
theorem vX12_sure_96 : pu_cok2 kX12_sure_96 := fun rf r hr => by
  unfold kX12_sure_96
  exact v_pi (v_iret)
theorem tX12_sure_96 {X : pu_X} {r : pu_R} (hX : pu_H X mdX12_sure) (hr : pu_P X.2.1 X.2.2.2.2.2.2.2.2.2.2.1 r) (hq : ∀ i pc, pu_lp i = some (319, pc) → pu_S X mdX12_sure pc (r i)) : pu_S X mdX12_sure 96 (kX12_sure_96 r) := by
  unfold kX12_sure_96
  exact z_iconst hX dX12_sure_96 (by decide) (z_iret hX dX12_sure_97 rfl)
def kX12_sure_90 (r : pu_R) : pu_K := s_inc 3 (1) ((r 498))
theorem vX12_sure_90 : pu_cok2 kX12_sure_90 := fun rf r hr => by
  unfold kX12_sure_90
  exact v_inc ((hr 498))
theorem tX12_sure_90 {X : pu_X} {r : pu_R} (hX : pu_H X mdX12_sure) (hr : pu_P X.2.1 X.2.2.2.2.2.2.2.2.2.2.1 r) (hq : ∀ i pc, pu_lp i = some (319, pc) → pu_S X mdX12_sure pc (r i)) : pu_S X mdX12_sure 90 (kX12_sure_90 r) := by
  unfold kX12_sure_90
  exact z_inc hX dX12_sure_90 (by decide) ((z_goto hX dX12_sure_93 (by decide) (hq 498 20 hl498)))
def kX12_sure_66 (r : pu_R) : pu_K := s_ald 0 (s_push (.int (1)) (s_pz 12 21 (s_ald 0 (s_ald 0 (s_gr 12 0 (s_push (.int (10752)) (s_push (.int (6)) (s_ild 3 (s_imul (s_iadd (s_ai 1 (s_ild 1 (s_cv r 318 2 12 (s_iret))))))))))))))
theorem vX12_sure_66 : pu_cok2 kX12_sure_66 := fun rf r hr => by
  unfold kX12_sure_66
  exact v_ald (v_pi (v_pz (v_ald (v_ald (v_gr (v_pi (v_pi (v_ild (v_imul (v_iadd (v_ai (v_ild (v_cv hr (v_iret))))))))))))))
theorem tX12_sure_66 {X : pu_X} {r : pu_R} (hX : pu_H X mdX12_sure) (hr : pu_P X.2.1 X.2.2.2.2.2.2.2.2.2.2.1 r) (hq : ∀ i pc, pu_lp i = some (319, pc) → pu_S X mdX12_sure pc (r i)) : pu_S X mdX12_sure 66 (kX12_sure_66 r) := by
  unfold kX12_sure_66
  exact z_ald_n hX dX12_sure_66 rfl (z_iconst hX dX12_sure_67 (by decide) (z_pz (c := 12) (j := 21) tyX12 tyX12_ok nmX12 hX dX12_sure_68 rfl inlX12 wm8_16 ⟨rfl, by decide⟩ ⟨rfl, rfl⟩ rfl (z_ald_n hX dX12_sure_71 rfl (z_ald_n hX dX12_sure_72 rfl (z_gr (c := 12) (j := 0) hX dX12_sure_73 rfl inlX12 wm7_16 ⟨rfl, by decide, rfl⟩ (z_sipush hX dX12_sure_76 (by decide) (z_bipush hX dX12_sure_79 (by decide) (z_ild_n hX dX12_sure_81 rfl (z_imul hX dX12_sure_82 (z_iadd hX dX12_sure_83 (z_iald hX dX12_sure_84 (z_ild_n hX dX12_sure_85 rfl (z_cv (c := 12) hX hr dX12_sure_86 hjX12_withExtra mwX12_withExtra rfl wm60_3 ⟨wm60_4, wm60_5⟩ ⟨Nat.le_of_ble_eq_true rfl, Nat.le_of_ble_eq_true rfl⟩ (z_iret hX dX12_sure_89 rfl))))))))))))))
def kX12_sure_60 (r : pu_R) : pu_K := s_ifne (kX12_sure_66 r) ((kX12_sure_90 r))
theorem vX12_sure_60 : pu_cok2 kX12_sure_60 := fun rf r hr => by
  unfold kX12_sure_60
  exact v_ifne (vX12_sure_66 rf r hr) ((vX12_sure_90 rf r hr))
theorem tX12_sure_60 {X : pu_X} {r : pu_R} (hX : pu_H X mdX12_sure) (hr : pu_P X.2.1 X.2.2.2.2.2.2.2.2.2.2.1 r) (hq : ∀ i pc, pu_lp i = some (319, pc) → pu_S X mdX12_sure pc (r i)) : pu_S X mdX12_sure 60 (kX12_sure_60 r) := by
  unfold kX12_sure_60
  exact z_ifne hX dX12_sure_60 (by decide) (tX12_sure_66 hX hr hq) ((z_goto hX dX12_sure_63 (by decide) (tX12_sure_90 hX hr hq)))
def kX12_sure_20 (r : pu_R) : pu_K := s_ild 3 (s_ald 0 (s_gr 12 0 (s_push (.int (6)) (s_ai 1 (s_icge (kX12_sure_96 r) (s_ald 0 (s_gr 12 0 (s_push (.int (10752)) (s_push (.int (6)) (s_ild 3 (s_imul (s_iadd (s_push (.int (3)) (s_iadd (s_ai 1 (s_ald 0 (s_gi 12 17 (s_icne (kX12_sure_90 r) (s_ald 0 (s_ild 3 (s_ild 2 (s_ild 1 (s_cv r 317 3 12 ((kX12_sure_60 r)))))))))))))))))))))))))
theorem vX12_sure_20 : pu_cok2 kX12_sure_20 := fun rf r hr => by
  unfold kX12_sure_20
  exact v_ild (v_ald (v_gr (v_pi (v_ai (v_icge (vX12_sure_96 rf r hr) (v_ald (v_gr (v_pi (v_pi (v_ild (v_imul (v_iadd (v_pi (v_iadd (v_ai (v_ald (v_gi (v_icne (vX12_sure_90 rf r hr) (v_ald (v_ild (v_ild (v_ild (v_cv hr ((vX12_sure_60 rf r hr)))))))))))))))))))))))))
theorem tX12_sure_20 {X : pu_X} {r : pu_R} (hX : pu_H X mdX12_sure) (hr : pu_P X.2.1 X.2.2.2.2.2.2.2.2.2.2.1 r) (hq : ∀ i pc, pu_lp i = some (319, pc) → pu_S X mdX12_sure pc (r i)) : pu_S X mdX12_sure 20 (kX12_sure_20 r) := by
  unfold kX12_sure_20
  exact z_ild_n hX dX12_sure_20 rfl (z_ald_n hX dX12_sure_21 rfl (z_gr (c := 12) (j := 0) hX dX12_sure_22 rfl inlX12 wm7_16 ⟨rfl, by decide, rfl⟩ (z_bipush hX dX12_sure_25 (by decide) (z_iald hX dX12_sure_27 (z_icge hX dX12_sure_28 (by decide) (tX12_sure_96 hX hr hq) (z_ald_n hX dX12_sure_31 rfl (z_gr (c := 12) (j := 0) hX dX12_sure_32 rfl inlX12 wm7_16 ⟨rfl, by decide, rfl⟩ (z_sipush hX dX12_sure_35 (by decide) (z_bipush hX dX12_sure_38 (by decide) (z_ild_n hX dX12_sure_40 rfl (z_imul hX dX12_sure_41 (z_iadd hX dX12_sure_42 (z_iconst hX dX12_sure_43 (by decide) (z_iadd hX dX12_sure_44 (z_iald hX dX12_sure_45 (z_ald_n hX dX12_sure_46 rfl (z_gi (c := 12) (j := 17) hX dX12_sure_47 rfl inlX12 wm8_12 ⟨rfl, by decide, rfl⟩ (z_icne hX dX12_sure_50 (by decide) (tX12_sure_90 hX hr hq) (z_ald_n hX dX12_sure_53 rfl (z_ild_n hX dX12_sure_54 rfl (z_ild_n hX dX12_sure_55 rfl (z_ild_n hX dX12_sure_56 rfl (z_cv (c := 12) hX hr dX12_sure_57 hjX12_isOn mwX12_isOn rfl wm59_23 ⟨wm60_0, wm60_1⟩ ⟨Nat.le_of_ble_eq_true rfl, Nat.le_of_ble_eq_true rfl⟩ ((tX12_sure_60 hX hr hq)))))))))))))))))))))))))
def kX12_sure_18 (r : pu_R) : pu_K := s_push (.int (0)) (s_ist 3 ((r 498)))
theorem vX12_sure_18 : pu_cok2 kX12_sure_18 := fun rf r hr => by
  unfold kX12_sure_18
  exact v_pi (v_ist ((hr 498)))
theorem tX12_sure_18 {X : pu_X} {r : pu_R} (hX : pu_H X mdX12_sure) (hr : pu_P X.2.1 X.2.2.2.2.2.2.2.2.2.2.1 r) (hq : ∀ i pc, pu_lp i = some (319, pc) → pu_S X mdX12_sure pc (r i)) : pu_S X mdX12_sure 18 (kX12_sure_18 r) := by
  unfold kX12_sure_18
  exact z_iconst hX dX12_sure_18 (by decide) (z_ist_n hX dX12_sure_19 rfl ((hq 498 20 hl498)))
def kX12_sure_0 (r : pu_R) : pu_K := s_ald 0 (s_push (.int (0)) (s_pz 12 21 (s_ald 0 (s_ild 1 (s_cv r 316 1 12 (s_ist 2 (s_ild 2 (s_push (.int (-1)) (s_icne (kX12_sure_18 r) (s_push (.int (-1)) (s_iret)))))))))))
theorem vX12_sure_0 : pu_cok2 kX12_sure_0 := fun rf r hr => by
  unfold kX12_sure_0
  exact v_ald (v_pi (v_pz (v_ald (v_ild (v_cv hr (v_ist (v_ild (v_pi (v_icne (vX12_sure_18 rf r hr) (v_pi (v_iret)))))))))))
theorem tX12_sure_0 {X : pu_X} {r : pu_R} (hX : pu_H X mdX12_sure) (hr : pu_P X.2.1 X.2.2.2.2.2.2.2.2.2.2.1 r) (hq : ∀ i pc, pu_lp i = some (319, pc) → pu_S X mdX12_sure pc (r i)) : pu_S X mdX12_sure 0 (kX12_sure_0 r) := by
  unfold kX12_sure_0
  exact z_ald_n hX dX12_sure_0 rfl (z_iconst hX dX12_sure_1 (by decide) (z_pz (c := 12) (j := 21) tyX12 tyX12_ok nmX12 hX dX12_sure_2 rfl inlX12 wm8_16 ⟨rfl, by decide⟩ ⟨rfl, rfl⟩ rfl (z_ald_n hX dX12_sure_5 rfl (z_ild_n hX dX12_sure_6 rfl (z_cv (c := 12) hX hr dX12_sure_7 hjX12_streetOn mwX12_streetOn rfl wm59_19 ⟨wm59_20, wm59_21⟩ ⟨Nat.le_of_ble_eq_true rfl, Nat.le_of_ble_eq_true rfl⟩ (z_ist_n hX dX12_sure_10 rfl (z_ild_n hX dX12_sure_11 rfl (z_iconst hX dX12_sure_12 (by decide) (z_icne hX dX12_sure_13 (by decide) (tX12_sure_18 hX hr hq) (z_iconst hX dX12_sure_16 (by decide) (z_iret hX dX12_sure_17 rfl)))))))))))
def kX12_sideOf_0 (r : pu_R) : pu_K := s_ald 0 (s_ald 0 (s_gr 12 0 (s_push (.int (10752)) (s_push (.int (6)) (s_ild 1 (s_imul (s_iadd (s_ai 1 (s_ald 0 (s_gr 12 0 (s_push (.int (10752)) (s_push (.int (6)) (s_ild 1 (s_imul (s_iadd (s_push (.int (1)) (s_iadd (s_ai 1 (s_cv r 269 2 12 (s_iret))))))))))))))))))))
theorem vX12_sideOf_0 : pu_cok2 kX12_sideOf_0 := fun rf r hr => by
  unfold kX12_sideOf_0
  exact v_ald (v_ald (v_gr (v_pi (v_pi (v_ild (v_imul (v_iadd (v_ai (v_ald (v_gr (v_pi (v_pi (v_ild (v_imul (v_iadd (v_pi (v_iadd (v_ai (v_cv hr (v_iret))))))))))))))))))))
theorem tX12_sideOf_0 {X : pu_X} {r : pu_R} (hX : pu_H X mdX12_sideOf) (hr : pu_P X.2.1 X.2.2.2.2.2.2.2.2.2.2.1 r) (hq : ∀ i pc, pu_lp i = some (320, pc) → pu_S X mdX12_sideOf pc (r i)) : pu_S X mdX12_sideOf 0 (kX12_sideOf_0 r) := by
  unfold kX12_sideOf_0
  exact z_ald_n hX dX12_sideOf_0 rfl (z_ald_n hX dX12_sideOf_1 rfl (z_gr (c := 12) (j := 0) hX dX12_sideOf_2 rfl inlX12 wm7_16 ⟨rfl, by decide, rfl⟩ (z_sipush hX dX12_sideOf_5 (by decide) (z_bipush hX dX12_sideOf_8 (by decide) (z_ild_n hX dX12_sideOf_10 rfl (z_imul hX dX12_sideOf_11 (z_iadd hX dX12_sideOf_12 (z_iald hX dX12_sideOf_13 (z_ald_n hX dX12_sideOf_14 rfl (z_gr (c := 12) (j := 0) hX dX12_sideOf_15 rfl inlX12 wm7_16 ⟨rfl, by decide, rfl⟩ (z_sipush hX dX12_sideOf_18 (by decide) (z_bipush hX dX12_sideOf_21 (by decide) (z_ild_n hX dX12_sideOf_23 rfl (z_imul hX dX12_sideOf_24 (z_iadd hX dX12_sideOf_25 (z_iconst hX dX12_sideOf_26 (by decide) (z_iadd hX dX12_sideOf_27 (z_iald hX dX12_sideOf_28 (z_cv (c := 12) hX hr dX12_sideOf_29 hjX12_sideAt mwX12_sideAt rfl wm30_15 ⟨wm30_16, wm30_17⟩ ⟨Nat.le_of_ble_eq_true rfl, Nat.le_of_ble_eq_true rfl⟩ (z_iret hX dX12_sideOf_32 rfl))))))))))))))))))))
def kX12_pacesOf_0 (r : pu_R) : pu_K := s_ald 0 (s_ald 0 (s_gr 12 0 (s_push (.int (10752)) (s_push (.int (6)) (s_ild 1 (s_imul (s_iadd (s_ai 1 (s_ald 0 (s_gr 12 0 (s_push (.int (10752)) (s_push (.int (6)) (s_ild 1 (s_imul (s_iadd (s_push (.int (1)) (s_iadd (s_ai 1 (s_cv r 270 2 12 (s_iret))))))))))))))))))))
theorem vX12_pacesOf_0 : pu_cok2 kX12_pacesOf_0 := fun rf r hr => by
  unfold kX12_pacesOf_0
  exact v_ald (v_ald (v_gr (v_pi (v_pi (v_ild (v_imul (v_iadd (v_ai (v_ald (v_gr (v_pi (v_pi (v_ild (v_imul (v_iadd (v_pi (v_iadd (v_ai (v_cv hr (v_iret))))))))))))))))))))
theorem tX12_pacesOf_0 {X : pu_X} {r : pu_R} (hX : pu_H X mdX12_pacesOf) (hr : pu_P X.2.1 X.2.2.2.2.2.2.2.2.2.2.1 r) (hq : ∀ i pc, pu_lp i = some (321, pc) → pu_S X mdX12_pacesOf pc (r i)) : pu_S X mdX12_pacesOf 0 (kX12_pacesOf_0 r) := by
  unfold kX12_pacesOf_0
  exact z_ald_n hX dX12_pacesOf_0 rfl (z_ald_n hX dX12_pacesOf_1 rfl (z_gr (c := 12) (j := 0) hX dX12_pacesOf_2 rfl inlX12 wm7_16 ⟨rfl, by decide, rfl⟩ (z_sipush hX dX12_pacesOf_5 (by decide) (z_bipush hX dX12_pacesOf_8 (by decide) (z_ild_n hX dX12_pacesOf_10 rfl (z_imul hX dX12_pacesOf_11 (z_iadd hX dX12_pacesOf_12 (z_iald hX dX12_pacesOf_13 (z_ald_n hX dX12_pacesOf_14 rfl (z_gr (c := 12) (j := 0) hX dX12_pacesOf_15 rfl inlX12 wm7_16 ⟨rfl, by decide, rfl⟩ (z_sipush hX dX12_pacesOf_18 (by decide) (z_bipush hX dX12_pacesOf_21 (by decide) (z_ild_n hX dX12_pacesOf_23 rfl (z_imul hX dX12_pacesOf_24 (z_iadd hX dX12_pacesOf_25 (z_iconst hX dX12_pacesOf_26 (by decide) (z_iadd hX dX12_pacesOf_27 (z_iald hX dX12_pacesOf_28 (z_cv (c := 12) hX hr dX12_pacesOf_29 hjX12_pacesAt mwX12_pacesAt rfl wm31_6 ⟨wm31_7, wm31_8⟩ ⟨Nat.le_of_ble_eq_true rfl, Nat.le_of_ble_eq_true rfl⟩ (z_iret hX dX12_pacesOf_32 rfl))))))))))))))))))))
def kX12_mayHave_348 (r : pu_R) : pu_K := s_zret
theorem vX12_mayHave_348 : pu_cok2 kX12_mayHave_348 := fun rf r hr => by
  unfold kX12_mayHave_348
  exact v_zret
theorem tX12_mayHave_348 {X : pu_X} {r : pu_R} (hX : pu_H X mdX12_mayHave) (hr : pu_P X.2.1 X.2.2.2.2.2.2.2.2.2.2.1 r) (hq : ∀ i pc, pu_lp i = some (322, pc) → pu_S X mdX12_mayHave pc (r i)) : pu_S X mdX12_mayHave 348 (kX12_mayHave_348 r) := by
  unfold kX12_mayHave_348
  exact z_zret hX dX12_mayHave_348 rfl
def kX12_mayHave_347 (r : pu_R) : pu_K := s_push (.int (0)) ((kX12_mayHave_348 r))
theorem vX12_mayHave_347 : pu_cok2 kX12_mayHave_347 := fun rf r hr => by
  unfold kX12_mayHave_347
  exact v_pi ((vX12_mayHave_348 rf r hr))
theorem tX12_mayHave_347 {X : pu_X} {r : pu_R} (hX : pu_H X mdX12_mayHave) (hr : pu_P X.2.1 X.2.2.2.2.2.2.2.2.2.2.1 r) (hq : ∀ i pc, pu_lp i = some (322, pc) → pu_S X mdX12_mayHave pc (r i)) : pu_S X mdX12_mayHave 347 (kX12_mayHave_347 r) := by
  unfold kX12_mayHave_347
  exact z_iconst hX dX12_mayHave_347 (by decide) ((tX12_mayHave_348 hX hr hq))
def kX12_mayHave_325 (r : pu_R) : pu_K := s_ald 0 (s_gi 12 17 (s_ild 9 (s_icle (kX12_mayHave_347 r) (s_ald 0 (s_gi 12 17 (s_ild 10 (s_icge (kX12_mayHave_347 r) (s_push (.int (1)) ((kX12_mayHave_348 r))))))))))
theorem vX12_mayHave_325 : pu_cok2 kX12_mayHave_325 := fun rf r hr => by
  unfold kX12_mayHave_325
  exact v_ald (v_gi (v_ild (v_icle (vX12_mayHave_347 rf r hr) (v_ald (v_gi (v_ild (v_icge (vX12_mayHave_347 rf r hr) (v_pi ((vX12_mayHave_348 rf r hr))))))))))
theorem tX12_mayHave_325 {X : pu_X} {r : pu_R} (hX : pu_H X mdX12_mayHave) (hr : pu_P X.2.1 X.2.2.2.2.2.2.2.2.2.2.1 r) (hq : ∀ i pc, pu_lp i = some (322, pc) → pu_S X mdX12_mayHave pc (r i)) : pu_S X mdX12_mayHave 325 (kX12_mayHave_325 r) := by
  unfold kX12_mayHave_325
  exact z_ald_n hX dX12_mayHave_325 rfl (z_gi (c := 12) (j := 17) hX dX12_mayHave_326 rfl inlX12 wm8_12 ⟨rfl, by decide, rfl⟩ (z_ild hX dX12_mayHave_329 (z_icle hX dX12_mayHave_331 (by decide) (tX12_mayHave_347 hX hr hq) (z_ald_n hX dX12_mayHave_334 rfl (z_gi (c := 12) (j := 17) hX dX12_mayHave_335 rfl inlX12 wm8_12 ⟨rfl, by decide, rfl⟩ (z_ild hX dX12_mayHave_338 (z_icge hX dX12_mayHave_340 (by decide) (tX12_mayHave_347 hX hr hq) (z_iconst hX dX12_mayHave_343 (by decide) ((z_goto hX dX12_mayHave_344 (by decide) (tX12_mayHave_348 hX hr hq)))))))))))
def kX12_mayHave_319 (r : pu_R) : pu_K := s_inc 11 (1) ((r 500))
theorem vX12_mayHave_319 : pu_cok2 kX12_mayHave_319 := fun rf r hr => by
  unfold kX12_mayHave_319
  exact v_inc ((hr 500))
theorem tX12_mayHave_319 {X : pu_X} {r : pu_R} (hX : pu_H X mdX12_mayHave) (hr : pu_P X.2.1 X.2.2.2.2.2.2.2.2.2.2.1 r) (hq : ∀ i pc, pu_lp i = some (322, pc) → pu_S X mdX12_mayHave pc (r i)) : pu_S X mdX12_mayHave 319 (kX12_mayHave_319 r) := by
  unfold kX12_mayHave_319
  exact z_inc hX dX12_mayHave_319 (by decide) ((z_goto hX dX12_mayHave_322 (by decide) (hq 500 215 hl500)))
def kX12_mayHave_276 (r : pu_R) : pu_K := s_ild 4 (s_ald 0 (s_ild 11 (s_cv r 320 1 12 (s_ald 0 (s_ild 11 (s_cv r 321 1 12 (s_cs r 275 3 (s_ist 12 (s_ild 12 (s_ild 7 (s_icle (kX12_mayHave_319 r) (s_ild 12 (s_ild 8 (s_icge (kX12_mayHave_319 r) (s_ald 0 (s_dup (s_gi 12 22 (s_push (.int (1)) (s_iadd (s_pi 12 22 ((kX12_mayHave_319 r))))))))))))))))))))))
theorem vX12_mayHave_276 : pu_cok2 kX12_mayHave_276 := fun rf r hr => by
  unfold kX12_mayHave_276
  exact v_ild (v_ald (v_ild (v_cv hr (v_ald (v_ild (v_cv hr (v_cs hr (v_ist (v_ild (v_ild (v_icle (vX12_mayHave_319 rf r hr) (v_ild (v_ild (v_icge (vX12_mayHave_319 rf r hr) (v_ald (v_dup (v_gi (v_pi (v_iadd (v_puti ((vX12_mayHave_319 rf r hr))))))))))))))))))))))
theorem tX12_mayHave_276 {X : pu_X} {r : pu_R} (hX : pu_H X mdX12_mayHave) (hr : pu_P X.2.1 X.2.2.2.2.2.2.2.2.2.2.1 r) (hq : ∀ i pc, pu_lp i = some (322, pc) → pu_S X mdX12_mayHave pc (r i)) : pu_S X mdX12_mayHave 276 (kX12_mayHave_276 r) := by
  unfold kX12_mayHave_276
  exact z_ild hX dX12_mayHave_276 (z_ald_n hX dX12_mayHave_278 rfl (z_ild hX dX12_mayHave_279 (z_cv (c := 12) hX hr dX12_mayHave_281 hjX12_sideOf mwX12_sideOf rfl wm60_15 ⟨wm60_16, wm60_17⟩ ⟨Nat.le_of_ble_eq_true rfl, Nat.le_of_ble_eq_true rfl⟩ (z_ald_n hX dX12_mayHave_284 rfl (z_ild hX dX12_mayHave_285 (z_cv (c := 12) hX hr dX12_mayHave_287 hjX12_pacesOf mwX12_pacesOf rfl wm60_19 ⟨wm60_20, wm60_21⟩ ⟨Nat.le_of_ble_eq_true rfl, Nat.le_of_ble_eq_true rfl⟩ (z_cs hX hr dX12_mayHave_290 hjX12_along mwX12_along wm29_15 wm29_16 ⟨Nat.le_of_ble_eq_true rfl, Nat.le_of_ble_eq_true rfl⟩ (z_ist hX dX12_mayHave_293 (z_ild hX dX12_mayHave_295 (z_ild hX dX12_mayHave_297 (z_icle hX dX12_mayHave_299 (by decide) (tX12_mayHave_319 hX hr hq) (z_ild hX dX12_mayHave_302 (z_ild hX dX12_mayHave_304 (z_icge hX dX12_mayHave_306 (by decide) (tX12_mayHave_319 hX hr hq) (z_ald_n hX dX12_mayHave_309 rfl (z_dup hX dX12_mayHave_310 (z_gi (c := 12) (j := 22) hX dX12_mayHave_311 rfl inlX12 wm8_17 ⟨rfl, by decide, rfl⟩ (z_iconst hX dX12_mayHave_314 (by decide) (z_iadd hX dX12_mayHave_315 (z_pi (c := 12) (j := 22) tyX12 tyX12_ok nmX12 hX dX12_mayHave_316 rfl inlX12 wm8_17 ⟨rfl, by decide⟩ ⟨rfl, rfl⟩ rfl ((tX12_mayHave_319 hX hr hq))))))))))))))))))))))
def kX12_mayHave_259 (r : pu_R) : pu_K := s_ild 5 (s_ald 0 (s_ild 11 (s_cv r 320 1 12 (s_cs r 276 3 (s_ifne (kX12_mayHave_276 r) ((kX12_mayHave_319 r)))))))
theorem vX12_mayHave_259 : pu_cok2 kX12_mayHave_259 := fun rf r hr => by
  unfold kX12_mayHave_259
  exact v_ild (v_ald (v_ild (v_cv hr (v_cs hr (v_ifne (vX12_mayHave_276 rf r hr) ((vX12_mayHave_319 rf r hr)))))))
theorem tX12_mayHave_259 {X : pu_X} {r : pu_R} (hX : pu_H X mdX12_mayHave) (hr : pu_P X.2.1 X.2.2.2.2.2.2.2.2.2.2.1 r) (hq : ∀ i pc, pu_lp i = some (322, pc) → pu_S X mdX12_mayHave pc (r i)) : pu_S X mdX12_mayHave 259 (kX12_mayHave_259 r) := by
  unfold kX12_mayHave_259
  exact z_ild hX dX12_mayHave_259 (z_ald_n hX dX12_mayHave_261 rfl (z_ild hX dX12_mayHave_262 (z_cv (c := 12) hX hr dX12_mayHave_264 hjX12_sideOf mwX12_sideOf rfl wm60_15 ⟨wm60_16, wm60_17⟩ ⟨Nat.le_of_ble_eq_true rfl, Nat.le_of_ble_eq_true rfl⟩ (z_cs hX hr dX12_mayHave_267 hjX12_isOrdered mwX12_isOrdered wm30_19 wm30_20 ⟨Nat.le_of_ble_eq_true rfl, Nat.le_of_ble_eq_true rfl⟩ (z_ifne hX dX12_mayHave_270 (by decide) (tX12_mayHave_276 hX hr hq) ((z_goto hX dX12_mayHave_273 (by decide) (tX12_mayHave_319 hX hr hq))))))))
def kX12_mayHave_215 (r : pu_R) : pu_K := s_ild 11 (s_ald 0 (s_gr 12 0 (s_push (.int (6)) (s_ai 1 (s_icge (kX12_mayHave_325 r) (s_ald 0 (s_gr 12 0 (s_push (.int (10752)) (s_push (.int (6)) (s_ild 11 (s_imul (s_iadd (s_push (.int (3)) (s_iadd (s_ai 1 (s_ifne (kX12_mayHave_319 r) (s_ald 0 (s_ild 11 (s_ild 2 (s_ild 3 (s_cv r 317 3 12 (s_ifeq (kX12_mayHave_319 r) (s_ild 4 ((kX12_mayHave_259 r)))))))))))))))))))))))))
theorem vX12_mayHave_215 : pu_cok2 kX12_mayHave_215 := fun rf r hr => by
  unfold kX12_mayHave_215
  exact v_ild (v_ald (v_gr (v_pi (v_ai (v_icge (vX12_mayHave_325 rf r hr) (v_ald (v_gr (v_pi (v_pi (v_ild (v_imul (v_iadd (v_pi (v_iadd (v_ai (v_ifne (vX12_mayHave_319 rf r hr) (v_ald (v_ild (v_ild (v_ild (v_cv hr (v_ifeq (vX12_mayHave_319 rf r hr) (v_ild ((vX12_mayHave_259 rf r hr)))))))))))))))))))))))))
theorem tX12_mayHave_215 {X : pu_X} {r : pu_R} (hX : pu_H X mdX12_mayHave) (hr : pu_P X.2.1 X.2.2.2.2.2.2.2.2.2.2.1 r) (hq : ∀ i pc, pu_lp i = some (322, pc) → pu_S X mdX12_mayHave pc (r i)) : pu_S X mdX12_mayHave 215 (kX12_mayHave_215 r) := by
  unfold kX12_mayHave_215
  exact z_ild hX dX12_mayHave_215 (z_ald_n hX dX12_mayHave_217 rfl (z_gr (c := 12) (j := 0) hX dX12_mayHave_218 rfl inlX12 wm7_16 ⟨rfl, by decide, rfl⟩ (z_bipush hX dX12_mayHave_221 (by decide) (z_iald hX dX12_mayHave_223 (z_icge hX dX12_mayHave_224 (by decide) (tX12_mayHave_325 hX hr hq) (z_ald_n hX dX12_mayHave_227 rfl (z_gr (c := 12) (j := 0) hX dX12_mayHave_228 rfl inlX12 wm7_16 ⟨rfl, by decide, rfl⟩ (z_sipush hX dX12_mayHave_231 (by decide) (z_bipush hX dX12_mayHave_234 (by decide) (z_ild hX dX12_mayHave_236 (z_imul hX dX12_mayHave_238 (z_iadd hX dX12_mayHave_239 (z_iconst hX dX12_mayHave_240 (by decide) (z_iadd hX dX12_mayHave_241 (z_iald hX dX12_mayHave_242 (z_ifne hX dX12_mayHave_243 (by decide) (tX12_mayHave_319 hX hr hq) (z_ald_n hX dX12_mayHave_246 rfl (z_ild hX dX12_mayHave_247 (z_ild_n hX dX12_mayHave_249 rfl (z_ild_n hX dX12_mayHave_250 rfl (z_cv (c := 12) hX hr dX12_mayHave_251 hjX12_isOn mwX12_isOn rfl wm59_23 ⟨wm60_0, wm60_1⟩ ⟨Nat.le_of_ble_eq_true rfl, Nat.le_of_ble_eq_true rfl⟩ (z_ifeq hX dX12_mayHave_254 (by decide) (tX12_mayHave_319 hX hr hq) (z_ild hX dX12_mayHave_257 ((tX12_mayHave_259 hX hr hq)))))))))))))))))))))))))
def kX12_mayHave_207 (r : pu_R) : pu_K := s_ald 0 (s_push (.int (0)) (s_pi 12 22 (s_push (.int (0)) (s_ist 11 ((r 500))))))
theorem vX12_mayHave_207 : pu_cok2 kX12_mayHave_207 := fun rf r hr => by
  unfold kX12_mayHave_207
  exact v_ald (v_pi (v_puti (v_pi (v_ist ((hr 500))))))
theorem tX12_mayHave_207 {X : pu_X} {r : pu_R} (hX : pu_H X mdX12_mayHave) (hr : pu_P X.2.1 X.2.2.2.2.2.2.2.2.2.2.1 r) (hq : ∀ i pc, pu_lp i = some (322, pc) → pu_S X mdX12_mayHave pc (r i)) : pu_S X mdX12_mayHave 207 (kX12_mayHave_207 r) := by
  unfold kX12_mayHave_207
  exact z_ald_n hX dX12_mayHave_207 rfl (z_iconst hX dX12_mayHave_208 (by decide) (z_pi (c := 12) (j := 22) tyX12 tyX12_ok nmX12 hX dX12_mayHave_209 rfl inlX12 wm8_17 ⟨rfl, by decide⟩ ⟨rfl, rfl⟩ rfl (z_iconst hX dX12_mayHave_212 (by decide) (z_ist hX dX12_mayHave_213 ((hq 500 215 hl500))))))
def kX12_mayHave_201 (r : pu_R) : pu_K := s_inc 11 (1) ((r 499))
theorem vX12_mayHave_201 : pu_cok2 kX12_mayHave_201 := fun rf r hr => by
  unfold kX12_mayHave_201
  exact v_inc ((hr 499))
theorem tX12_mayHave_201 {X : pu_X} {r : pu_R} (hX : pu_H X mdX12_mayHave) (hr : pu_P X.2.1 X.2.2.2.2.2.2.2.2.2.2.1 r) (hq : ∀ i pc, pu_lp i = some (322, pc) → pu_S X mdX12_mayHave pc (r i)) : pu_S X mdX12_mayHave 201 (kX12_mayHave_201 r) := by
  unfold kX12_mayHave_201
  exact z_inc hX dX12_mayHave_201 (by decide) ((z_goto hX dX12_mayHave_204 (by decide) (hq 499 73 hl499)))
def kX12_mayHave_179 (r : pu_R) : pu_K := s_ild 13 (s_ild 6 (s_icle (kX12_mayHave_201 r) (s_ild 13 (s_ild 8 (s_icge (kX12_mayHave_201 r) (s_ild 13 (s_ist 8 (s_ild 12 (s_ist 10 ((kX12_mayHave_201 r)))))))))))
theorem vX12_mayHave_179 : pu_cok2 kX12_mayHave_179 := fun rf r hr => by
  unfold kX12_mayHave_179
  exact v_ild (v_ild (v_icle (vX12_mayHave_201 rf r hr) (v_ild (v_ild (v_icge (vX12_mayHave_201 rf r hr) (v_ild (v_ist (v_ild (v_ist ((vX12_mayHave_201 rf r hr)))))))))))
theorem tX12_mayHave_179 {X : pu_X} {r : pu_R} (hX : pu_H X mdX12_mayHave) (hr : pu_P X.2.1 X.2.2.2.2.2.2.2.2.2.2.1 r) (hq : ∀ i pc, pu_lp i = some (322, pc) → pu_S X mdX12_mayHave pc (r i)) : pu_S X mdX12_mayHave 179 (kX12_mayHave_179 r) := by
  unfold kX12_mayHave_179
  exact z_ild hX dX12_mayHave_179 (z_ild hX dX12_mayHave_181 (z_icle hX dX12_mayHave_183 (by decide) (tX12_mayHave_201 hX hr hq) (z_ild hX dX12_mayHave_186 (z_ild hX dX12_mayHave_188 (z_icge hX dX12_mayHave_190 (by decide) (tX12_mayHave_201 hX hr hq) (z_ild hX dX12_mayHave_193 (z_ist hX dX12_mayHave_195 (z_ild hX dX12_mayHave_197 (z_ist hX dX12_mayHave_199 ((tX12_mayHave_201 hX hr hq)))))))))))
def kX12_mayHave_138 (r : pu_R) : pu_K := s_ild 4 (s_ald 0 (s_ild 11 (s_cv r 320 1 12 (s_ald 0 (s_ild 11 (s_cv r 321 1 12 (s_cs r 275 3 (s_ist 13 (s_ild 13 (s_ild 6 (s_icge (kX12_mayHave_179 r) (s_ild 13 (s_ild 7 (s_icle (kX12_mayHave_179 r) (s_ild 13 (s_ist 7 (s_ild 12 (s_ist 9 ((kX12_mayHave_179 r))))))))))))))))))))
theorem vX12_mayHave_138 : pu_cok2 kX12_mayHave_138 := fun rf r hr => by
  unfold kX12_mayHave_138
  exact v_ild (v_ald (v_ild (v_cv hr (v_ald (v_ild (v_cv hr (v_cs hr (v_ist (v_ild (v_ild (v_icge (vX12_mayHave_179 rf r hr) (v_ild (v_ild (v_icle (vX12_mayHave_179 rf r hr) (v_ild (v_ist (v_ild (v_ist ((vX12_mayHave_179 rf r hr))))))))))))))))))))
theorem tX12_mayHave_138 {X : pu_X} {r : pu_R} (hX : pu_H X mdX12_mayHave) (hr : pu_P X.2.1 X.2.2.2.2.2.2.2.2.2.2.1 r) (hq : ∀ i pc, pu_lp i = some (322, pc) → pu_S X mdX12_mayHave pc (r i)) : pu_S X mdX12_mayHave 138 (kX12_mayHave_138 r) := by
  unfold kX12_mayHave_138
  exact z_ild hX dX12_mayHave_138 (z_ald_n hX dX12_mayHave_140 rfl (z_ild hX dX12_mayHave_141 (z_cv (c := 12) hX hr dX12_mayHave_143 hjX12_sideOf mwX12_sideOf rfl wm60_15 ⟨wm60_16, wm60_17⟩ ⟨Nat.le_of_ble_eq_true rfl, Nat.le_of_ble_eq_true rfl⟩ (z_ald_n hX dX12_mayHave_146 rfl (z_ild hX dX12_mayHave_147 (z_cv (c := 12) hX hr dX12_mayHave_149 hjX12_pacesOf mwX12_pacesOf rfl wm60_19 ⟨wm60_20, wm60_21⟩ ⟨Nat.le_of_ble_eq_true rfl, Nat.le_of_ble_eq_true rfl⟩ (z_cs hX hr dX12_mayHave_152 hjX12_along mwX12_along wm29_15 wm29_16 ⟨Nat.le_of_ble_eq_true rfl, Nat.le_of_ble_eq_true rfl⟩ (z_ist hX dX12_mayHave_155 (z_ild hX dX12_mayHave_157 (z_ild hX dX12_mayHave_159 (z_icge hX dX12_mayHave_161 (by decide) (tX12_mayHave_179 hX hr hq) (z_ild hX dX12_mayHave_164 (z_ild hX dX12_mayHave_166 (z_icle hX dX12_mayHave_168 (by decide) (tX12_mayHave_179 hX hr hq) (z_ild hX dX12_mayHave_171 (z_ist hX dX12_mayHave_173 (z_ild hX dX12_mayHave_175 (z_ist hX dX12_mayHave_177 ((tX12_mayHave_179 hX hr hq))))))))))))))))))))
def kX12_mayHave_116 (r : pu_R) : pu_K := s_ifeq (kX12_mayHave_201 r) (s_ild 4 (s_ild 5 (s_ald 0 (s_ild 11 (s_cv r 320 1 12 (s_cs r 276 3 (s_ifne (kX12_mayHave_138 r) ((kX12_mayHave_201 r)))))))))
theorem vX12_mayHave_116 : pu_cok2 kX12_mayHave_116 := fun rf r hr => by
  unfold kX12_mayHave_116
  exact v_ifeq (vX12_mayHave_201 rf r hr) (v_ild (v_ild (v_ald (v_ild (v_cv hr (v_cs hr (v_ifne (vX12_mayHave_138 rf r hr) ((vX12_mayHave_201 rf r hr)))))))))
theorem tX12_mayHave_116 {X : pu_X} {r : pu_R} (hX : pu_H X mdX12_mayHave) (hr : pu_P X.2.1 X.2.2.2.2.2.2.2.2.2.2.1 r) (hq : ∀ i pc, pu_lp i = some (322, pc) → pu_S X mdX12_mayHave pc (r i)) : pu_S X mdX12_mayHave 116 (kX12_mayHave_116 r) := by
  unfold kX12_mayHave_116
  exact z_ifeq hX dX12_mayHave_116 (by decide) (tX12_mayHave_201 hX hr hq) (z_ild hX dX12_mayHave_119 (z_ild hX dX12_mayHave_121 (z_ald_n hX dX12_mayHave_123 rfl (z_ild hX dX12_mayHave_124 (z_cv (c := 12) hX hr dX12_mayHave_126 hjX12_sideOf mwX12_sideOf rfl wm60_15 ⟨wm60_16, wm60_17⟩ ⟨Nat.le_of_ble_eq_true rfl, Nat.le_of_ble_eq_true rfl⟩ (z_cs hX hr dX12_mayHave_129 hjX12_isOrdered mwX12_isOrdered wm30_19 wm30_20 ⟨Nat.le_of_ble_eq_true rfl, Nat.le_of_ble_eq_true rfl⟩ (z_ifne hX dX12_mayHave_132 (by decide) (tX12_mayHave_138 hX hr hq) ((z_goto hX dX12_mayHave_135 (by decide) (tX12_mayHave_201 hX hr hq))))))))))
def kX12_mayHave_73 (r : pu_R) : pu_K := s_ild 11 (s_ald 0 (s_gr 12 0 (s_push (.int (6)) (s_ai 1 (s_icge (kX12_mayHave_207 r) (s_ald 0 (s_gr 12 0 (s_push (.int (10752)) (s_push (.int (6)) (s_ild 11 (s_imul (s_iadd (s_push (.int (3)) (s_iadd (s_ai 1 (s_ist 12 (s_ild 12 (s_ifeq (kX12_mayHave_201 r) (s_ald 0 (s_ild 11 (s_ild 2 (s_ild 3 (s_cv r 317 3 12 ((kX12_mayHave_116 r)))))))))))))))))))))))))
theorem vX12_mayHave_73 : pu_cok2 kX12_mayHave_73 := fun rf r hr => by
  unfold kX12_mayHave_73
  exact v_ild (v_ald (v_gr (v_pi (v_ai (v_icge (vX12_mayHave_207 rf r hr) (v_ald (v_gr (v_pi (v_pi (v_ild (v_imul (v_iadd (v_pi (v_iadd (v_ai (v_ist (v_ild (v_ifeq (vX12_mayHave_201 rf r hr) (v_ald (v_ild (v_ild (v_ild (v_cv hr ((vX12_mayHave_116 rf r hr)))))))))))))))))))))))))
theorem tX12_mayHave_73 {X : pu_X} {r : pu_R} (hX : pu_H X mdX12_mayHave) (hr : pu_P X.2.1 X.2.2.2.2.2.2.2.2.2.2.1 r) (hq : ∀ i pc, pu_lp i = some (322, pc) → pu_S X mdX12_mayHave pc (r i)) : pu_S X mdX12_mayHave 73 (kX12_mayHave_73 r) := by
  unfold kX12_mayHave_73
  exact z_ild hX dX12_mayHave_73 (z_ald_n hX dX12_mayHave_75 rfl (z_gr (c := 12) (j := 0) hX dX12_mayHave_76 rfl inlX12 wm7_16 ⟨rfl, by decide, rfl⟩ (z_bipush hX dX12_mayHave_79 (by decide) (z_iald hX dX12_mayHave_81 (z_icge hX dX12_mayHave_82 (by decide) (tX12_mayHave_207 hX hr hq) (z_ald_n hX dX12_mayHave_85 rfl (z_gr (c := 12) (j := 0) hX dX12_mayHave_86 rfl inlX12 wm7_16 ⟨rfl, by decide, rfl⟩ (z_sipush hX dX12_mayHave_89 (by decide) (z_bipush hX dX12_mayHave_92 (by decide) (z_ild hX dX12_mayHave_94 (z_imul hX dX12_mayHave_96 (z_iadd hX dX12_mayHave_97 (z_iconst hX dX12_mayHave_98 (by decide) (z_iadd hX dX12_mayHave_99 (z_iald hX dX12_mayHave_100 (z_ist hX dX12_mayHave_101 (z_ild hX dX12_mayHave_103 (z_ifeq hX dX12_mayHave_105 (by decide) (tX12_mayHave_201 hX hr hq) (z_ald_n hX dX12_mayHave_108 rfl (z_ild hX dX12_mayHave_109 (z_ild_n hX dX12_mayHave_111 rfl (z_ild_n hX dX12_mayHave_112 rfl (z_cv (c := 12) hX hr dX12_mayHave_113 hjX12_isOn mwX12_isOn rfl wm59_23 ⟨wm60_0, wm60_1⟩ ⟨Nat.le_of_ble_eq_true rfl, Nat.le_of_ble_eq_true rfl⟩ ((tX12_mayHave_116 hX hr hq)))))))))))))))))))))))))
def kX12_mayHave_42 (r : pu_R) : pu_K := s_ild 4 (s_ild 5 (s_ald 0 (s_ild 1 (s_cv r 321 1 12 (s_cs r 275 3 (s_ist 6 (s_push (.int (-1)) (s_ist 7 (s_push (.int (1000000)) (s_ist 8 (s_push (.int (0)) (s_ist 9 (s_push (.int (160000)) (s_ist 10 (s_push (.int (0)) (s_ist 11 ((r 499))))))))))))))))))
theorem vX12_mayHave_42 : pu_cok2 kX12_mayHave_42 := fun rf r hr => by
  unfold kX12_mayHave_42
  exact v_ild (v_ild (v_ald (v_ild (v_cv hr (v_cs hr (v_ist (v_pi (v_ist (v_pi (v_ist (v_pi (v_ist (v_pi (v_ist (v_pi (v_ist ((hr 499))))))))))))))))))
theorem tX12_mayHave_42 {X : pu_X} {r : pu_R} (hX : pu_H X mdX12_mayHave) (hr : pu_P X.2.1 X.2.2.2.2.2.2.2.2.2.2.1 r) (hq : ∀ i pc, pu_lp i = some (322, pc) → pu_S X mdX12_mayHave pc (r i)) : pu_S X mdX12_mayHave 42 (kX12_mayHave_42 r) := by
  unfold kX12_mayHave_42
  exact z_ild hX dX12_mayHave_42 (z_ild hX dX12_mayHave_44 (z_ald_n hX dX12_mayHave_46 rfl (z_ild_n hX dX12_mayHave_47 rfl (z_cv (c := 12) hX hr dX12_mayHave_48 hjX12_pacesOf mwX12_pacesOf rfl wm60_19 ⟨wm60_20, wm60_21⟩ ⟨Nat.le_of_ble_eq_true rfl, Nat.le_of_ble_eq_true rfl⟩ (z_cs hX hr dX12_mayHave_51 hjX12_along mwX12_along wm29_15 wm29_16 ⟨Nat.le_of_ble_eq_true rfl, Nat.le_of_ble_eq_true rfl⟩ (z_ist hX dX12_mayHave_54 (z_iconst hX dX12_mayHave_56 (by decide) (z_ist hX dX12_mayHave_57 (z_ldc hX dX12_mayHave_59 wm29_13 (z_ist hX dX12_mayHave_61 (z_iconst hX dX12_mayHave_63 (by decide) (z_ist hX dX12_mayHave_64 (z_ldc hX dX12_mayHave_66 wm29_14 (z_ist hX dX12_mayHave_68 (z_iconst hX dX12_mayHave_70 (by decide) (z_ist hX dX12_mayHave_71 ((hq 499 73 hl499))))))))))))))))))
def kX12_mayHave_41 (r : pu_R) : pu_K := s_zret
theorem vX12_mayHave_41 : pu_cok2 kX12_mayHave_41 := fun rf r hr => by
  unfold kX12_mayHave_41
  exact v_zret
theorem tX12_mayHave_41 {X : pu_X} {r : pu_R} (hX : pu_H X mdX12_mayHave) (hr : pu_P X.2.1 X.2.2.2.2.2.2.2.2.2.2.1 r) (hq : ∀ i pc, pu_lp i = some (322, pc) → pu_S X mdX12_mayHave pc (r i)) : pu_S X mdX12_mayHave 41 (kX12_mayHave_41 r) := by
  unfold kX12_mayHave_41
  exact z_zret hX dX12_mayHave_41 rfl
def kX12_mayHave_0 (r : pu_R) : pu_K := s_ald 0 (s_gr 12 0 (s_push (.int (7528)) (s_ild 2 (s_iadd (s_ai 1 (s_ist 4 (s_ald 0 (s_ild 1 (s_cv r 320 1 12 (s_ist 5 (s_ild 4 (s_ifne (kX12_mayHave_42 r) (s_ald 0 (s_gi 12 17 (s_push (.int (16)) (s_idiv (s_push (.int (2)) (s_irem (s_push (.int (1)) (s_ild 5 (s_isub (s_iceq (kX12_mayHave_42 r) (s_push (.int (0)) ((kX12_mayHave_41 r)))))))))))))))))))))))))
theorem vX12_mayHave_0 : pu_cok2 kX12_mayHave_0 := fun rf r hr => by
  unfold kX12_mayHave_0
  exact v_ald (v_gr (v_pi (v_ild (v_iadd (v_ai (v_ist (v_ald (v_ild (v_cv hr (v_ist (v_ild (v_ifne (vX12_mayHave_42 rf r hr) (v_ald (v_gi (v_pi (v_idiv (v_pi (v_irem (v_pi (v_ild (v_isub (v_iceq (vX12_mayHave_42 rf r hr) (v_pi ((vX12_mayHave_41 rf r hr)))))))))))))))))))))))))
theorem tX12_mayHave_0 {X : pu_X} {r : pu_R} (hX : pu_H X mdX12_mayHave) (hr : pu_P X.2.1 X.2.2.2.2.2.2.2.2.2.2.1 r) (hq : ∀ i pc, pu_lp i = some (322, pc) → pu_S X mdX12_mayHave pc (r i)) : pu_S X mdX12_mayHave 0 (kX12_mayHave_0 r) := by
  unfold kX12_mayHave_0
  exact z_ald_n hX dX12_mayHave_0 rfl (z_gr (c := 12) (j := 0) hX dX12_mayHave_1 rfl inlX12 wm7_16 ⟨rfl, by decide, rfl⟩ (z_sipush hX dX12_mayHave_4 (by decide) (z_ild_n hX dX12_mayHave_7 rfl (z_iadd hX dX12_mayHave_8 (z_iald hX dX12_mayHave_9 (z_ist hX dX12_mayHave_10 (z_ald_n hX dX12_mayHave_12 rfl (z_ild_n hX dX12_mayHave_13 rfl (z_cv (c := 12) hX hr dX12_mayHave_14 hjX12_sideOf mwX12_sideOf rfl wm60_15 ⟨wm60_16, wm60_17⟩ ⟨Nat.le_of_ble_eq_true rfl, Nat.le_of_ble_eq_true rfl⟩ (z_ist hX dX12_mayHave_17 (z_ild hX dX12_mayHave_19 (z_ifne hX dX12_mayHave_21 (by decide) (tX12_mayHave_42 hX hr hq) (z_ald_n hX dX12_mayHave_24 rfl (z_gi (c := 12) (j := 17) hX dX12_mayHave_25 rfl inlX12 wm8_12 ⟨rfl, by decide, rfl⟩ (z_bipush hX dX12_mayHave_28 (by decide) (z_idiv hX dX12_mayHave_30 (z_iconst hX dX12_mayHave_31 (by decide) (z_irem hX dX12_mayHave_32 (z_iconst hX dX12_mayHave_33 (by decide) (z_ild hX dX12_mayHave_34 (z_isub hX dX12_mayHave_36 (z_iceq hX dX12_mayHave_37 (by decide) (tX12_mayHave_42 hX hr hq) (z_iconst hX dX12_mayHave_40 (by decide) ((tX12_mayHave_41 hX hr hq)))))))))))))))))))))))))
def kX12_likelyOn_221 (r : pu_R) : pu_K := s_ild 3 (s_iret)
theorem vX12_likelyOn_221 : pu_cok2 kX12_likelyOn_221 := fun rf r hr => by
  unfold kX12_likelyOn_221
  exact v_ild (v_iret)
theorem tX12_likelyOn_221 {X : pu_X} {r : pu_R} (hX : pu_H X mdX12_likelyOn) (hr : pu_P X.2.1 X.2.2.2.2.2.2.2.2.2.2.1 r) (hq : ∀ i pc, pu_lp i = some (323, pc) → pu_S X mdX12_likelyOn pc (r i)) : pu_S X mdX12_likelyOn 221 (kX12_likelyOn_221 r) := by
  unfold kX12_likelyOn_221
  exact z_ild_n hX dX12_likelyOn_221 rfl (z_iret hX dX12_likelyOn_222 rfl)
def kX12_likelyOn_215 (r : pu_R) : pu_K := s_inc 4 (1) ((r 501))
theorem vX12_likelyOn_215 : pu_cok2 kX12_likelyOn_215 := fun rf r hr => by
  unfold kX12_likelyOn_215
  exact v_inc ((hr 501))
theorem tX12_likelyOn_215 {X : pu_X} {r : pu_R} (hX : pu_H X mdX12_likelyOn) (hr : pu_P X.2.1 X.2.2.2.2.2.2.2.2.2.2.1 r) (hq : ∀ i pc, pu_lp i = some (323, pc) → pu_S X mdX12_likelyOn pc (r i)) : pu_S X mdX12_likelyOn 215 (kX12_likelyOn_215 r) := by
  unfold kX12_likelyOn_215
  exact z_inc hX dX12_likelyOn_215 (by decide) ((z_goto hX dX12_likelyOn_218 (by decide) (hq 501 5 hl501)))
def kX12_likelyOn_192 (r : pu_R) : pu_K := s_ald 0 (s_gr 12 23 (s_ild 5 (s_ild 4 (s_wi 1 (s_ald 0 (s_gr 12 24 (s_ild 5 (s_ald 0 (s_gi 12 22 (s_wi 1 (s_inc 3 (1) ((kX12_likelyOn_215 r)))))))))))))
theorem vX12_likelyOn_192 : pu_cok2 kX12_likelyOn_192 := fun rf r hr => by
  unfold kX12_likelyOn_192
  exact v_ald (v_gr (v_ild (v_ild (v_wi (v_ald (v_gr (v_ild (v_ald (v_gi (v_wi (v_inc ((vX12_likelyOn_215 rf r hr)))))))))))))
theorem tX12_likelyOn_192 {X : pu_X} {r : pu_R} (hX : pu_H X mdX12_likelyOn) (hr : pu_P X.2.1 X.2.2.2.2.2.2.2.2.2.2.1 r) (hq : ∀ i pc, pu_lp i = some (323, pc) → pu_S X mdX12_likelyOn pc (r i)) : pu_S X mdX12_likelyOn 192 (kX12_likelyOn_192 r) := by
  unfold kX12_likelyOn_192
  exact z_ald_n hX dX12_likelyOn_192 rfl (z_gr (c := 12) (j := 23) hX dX12_likelyOn_193 rfl inlX12 wm8_18 ⟨rfl, by decide, rfl⟩ (z_ild hX dX12_likelyOn_196 (z_ild hX dX12_likelyOn_198 (z_iast hX dX12_likelyOn_200 (z_ald_n hX dX12_likelyOn_201 rfl (z_gr (c := 12) (j := 24) hX dX12_likelyOn_202 rfl inlX12 wm8_19 ⟨rfl, by decide, rfl⟩ (z_ild hX dX12_likelyOn_205 (z_ald_n hX dX12_likelyOn_207 rfl (z_gi (c := 12) (j := 22) hX dX12_likelyOn_208 rfl inlX12 wm8_17 ⟨rfl, by decide, rfl⟩ (z_iast hX dX12_likelyOn_211 (z_inc hX dX12_likelyOn_212 (by decide) ((tX12_likelyOn_215 hX hr hq)))))))))))))
def kX12_likelyOn_154 (r : pu_R) : pu_K := s_ald 0 (s_gr 12 23 (s_ild 5 (s_ald 0 (s_gr 12 23 (s_ild 5 (s_push (.int (1)) (s_isub (s_ai 1 (s_wi 1 (s_ald 0 (s_gr 12 24 (s_ild 5 (s_ald 0 (s_gr 12 24 (s_ild 5 (s_push (.int (1)) (s_isub (s_ai 1 (s_wi 1 (s_inc 5 (-1) ((r 502))))))))))))))))))))))
theorem vX12_likelyOn_154 : pu_cok2 kX12_likelyOn_154 := fun rf r hr => by
  unfold kX12_likelyOn_154
  exact v_ald (v_gr (v_ild (v_ald (v_gr (v_ild (v_pi (v_isub (v_ai (v_wi (v_ald (v_gr (v_ild (v_ald (v_gr (v_ild (v_pi (v_isub (v_ai (v_wi (v_inc ((hr 502))))))))))))))))))))))
theorem tX12_likelyOn_154 {X : pu_X} {r : pu_R} (hX : pu_H X mdX12_likelyOn) (hr : pu_P X.2.1 X.2.2.2.2.2.2.2.2.2.2.1 r) (hq : ∀ i pc, pu_lp i = some (323, pc) → pu_S X mdX12_likelyOn pc (r i)) : pu_S X mdX12_likelyOn 154 (kX12_likelyOn_154 r) := by
  unfold kX12_likelyOn_154
  exact z_ald_n hX dX12_likelyOn_154 rfl (z_gr (c := 12) (j := 23) hX dX12_likelyOn_155 rfl inlX12 wm8_18 ⟨rfl, by decide, rfl⟩ (z_ild hX dX12_likelyOn_158 (z_ald_n hX dX12_likelyOn_160 rfl (z_gr (c := 12) (j := 23) hX dX12_likelyOn_161 rfl inlX12 wm8_18 ⟨rfl, by decide, rfl⟩ (z_ild hX dX12_likelyOn_164 (z_iconst hX dX12_likelyOn_166 (by decide) (z_isub hX dX12_likelyOn_167 (z_iald hX dX12_likelyOn_168 (z_iast hX dX12_likelyOn_169 (z_ald_n hX dX12_likelyOn_170 rfl (z_gr (c := 12) (j := 24) hX dX12_likelyOn_171 rfl inlX12 wm8_19 ⟨rfl, by decide, rfl⟩ (z_ild hX dX12_likelyOn_174 (z_ald_n hX dX12_likelyOn_176 rfl (z_gr (c := 12) (j := 24) hX dX12_likelyOn_177 rfl inlX12 wm8_19 ⟨rfl, by decide, rfl⟩ (z_ild hX dX12_likelyOn_180 (z_iconst hX dX12_likelyOn_182 (by decide) (z_isub hX dX12_likelyOn_183 (z_iald hX dX12_likelyOn_184 (z_iast hX dX12_likelyOn_185 (z_inc hX dX12_likelyOn_186 (by decide) ((z_goto hX dX12_likelyOn_189 (by decide) (hq 502 82 hl502)))))))))))))))))))))))
def kX12_likelyOn_126 (r : pu_R) : pu_K := s_ild 5 (s_push (.int (1)) (s_isub (s_ai 1 (s_cv r 320 1 12 (s_imul (s_ald 0 (s_ald 0 (s_gr 12 23 (s_ild 5 (s_push (.int (1)) (s_isub (s_ai 1 (s_cv r 321 1 12 (s_iadd (s_ild 6 (s_icle (kX12_likelyOn_192 r) ((kX12_likelyOn_154 r))))))))))))))))))
theorem vX12_likelyOn_126 : pu_cok2 kX12_likelyOn_126 := fun rf r hr => by
  unfold kX12_likelyOn_126
  exact v_ild (v_pi (v_isub (v_ai (v_cv hr (v_imul (v_ald (v_ald (v_gr (v_ild (v_pi (v_isub (v_ai (v_cv hr (v_iadd (v_ild (v_icle (vX12_likelyOn_192 rf r hr) ((vX12_likelyOn_154 rf r hr))))))))))))))))))
theorem tX12_likelyOn_126 {X : pu_X} {r : pu_R} (hX : pu_H X mdX12_likelyOn) (hr : pu_P X.2.1 X.2.2.2.2.2.2.2.2.2.2.1 r) (hq : ∀ i pc, pu_lp i = some (323, pc) → pu_S X mdX12_likelyOn pc (r i)) : pu_S X mdX12_likelyOn 126 (kX12_likelyOn_126 r) := by
  unfold kX12_likelyOn_126
  exact z_ild hX dX12_likelyOn_126 (z_iconst hX dX12_likelyOn_128 (by decide) (z_isub hX dX12_likelyOn_129 (z_iald hX dX12_likelyOn_130 (z_cv (c := 12) hX hr dX12_likelyOn_131 hjX12_sideOf mwX12_sideOf rfl wm60_15 ⟨wm60_16, wm60_17⟩ ⟨Nat.le_of_ble_eq_true rfl, Nat.le_of_ble_eq_true rfl⟩ (z_imul hX dX12_likelyOn_134 (z_ald_n hX dX12_likelyOn_135 rfl (z_ald_n hX dX12_likelyOn_136 rfl (z_gr (c := 12) (j := 23) hX dX12_likelyOn_137 rfl inlX12 wm8_18 ⟨rfl, by decide, rfl⟩ (z_ild hX dX12_likelyOn_140 (z_iconst hX dX12_likelyOn_142 (by decide) (z_isub hX dX12_likelyOn_143 (z_iald hX dX12_likelyOn_144 (z_cv (c := 12) hX hr dX12_likelyOn_145 hjX12_pacesOf mwX12_pacesOf rfl wm60_19 ⟨wm60_20, wm60_21⟩ ⟨Nat.le_of_ble_eq_true rfl, Nat.le_of_ble_eq_true rfl⟩ (z_iadd hX dX12_likelyOn_148 (z_ild hX dX12_likelyOn_149 (z_icle hX dX12_likelyOn_151 (by decide) (tX12_likelyOn_192 hX hr hq) ((tX12_likelyOn_154 hX hr hq))))))))))))))))))
def kX12_likelyOn_82 (r : pu_R) : pu_K := s_ild 5 (s_ifle (kX12_likelyOn_192 r) (s_ald 0 (s_gr 12 24 (s_ild 5 (s_push (.int (1)) (s_isub (s_ai 1 (s_ald 0 (s_gi 12 22 (s_icgt (kX12_likelyOn_154 r) (s_ald 0 (s_gr 12 24 (s_ild 5 (s_push (.int (1)) (s_isub (s_ai 1 (s_ald 0 (s_gi 12 22 (s_icne (kX12_likelyOn_192 r) (s_push (.int (100000)) (s_ald 0 (s_ald 0 (s_gr 12 23 ((kX12_likelyOn_126 r)))))))))))))))))))))))))
theorem vX12_likelyOn_82 : pu_cok2 kX12_likelyOn_82 := fun rf r hr => by
  unfold kX12_likelyOn_82
  exact v_ild (v_ifle (vX12_likelyOn_192 rf r hr) (v_ald (v_gr (v_ild (v_pi (v_isub (v_ai (v_ald (v_gi (v_icgt (vX12_likelyOn_154 rf r hr) (v_ald (v_gr (v_ild (v_pi (v_isub (v_ai (v_ald (v_gi (v_icne (vX12_likelyOn_192 rf r hr) (v_pi (v_ald (v_ald (v_gr ((vX12_likelyOn_126 rf r hr)))))))))))))))))))))))))
theorem tX12_likelyOn_82 {X : pu_X} {r : pu_R} (hX : pu_H X mdX12_likelyOn) (hr : pu_P X.2.1 X.2.2.2.2.2.2.2.2.2.2.1 r) (hq : ∀ i pc, pu_lp i = some (323, pc) → pu_S X mdX12_likelyOn pc (r i)) : pu_S X mdX12_likelyOn 82 (kX12_likelyOn_82 r) := by
  unfold kX12_likelyOn_82
  exact z_ild hX dX12_likelyOn_82 (z_ifle hX dX12_likelyOn_84 (by decide) (tX12_likelyOn_192 hX hr hq) (z_ald_n hX dX12_likelyOn_87 rfl (z_gr (c := 12) (j := 24) hX dX12_likelyOn_88 rfl inlX12 wm8_19 ⟨rfl, by decide, rfl⟩ (z_ild hX dX12_likelyOn_91 (z_iconst hX dX12_likelyOn_93 (by decide) (z_isub hX dX12_likelyOn_94 (z_iald hX dX12_likelyOn_95 (z_ald_n hX dX12_likelyOn_96 rfl (z_gi (c := 12) (j := 22) hX dX12_likelyOn_97 rfl inlX12 wm8_17 ⟨rfl, by decide, rfl⟩ (z_icgt hX dX12_likelyOn_100 (by decide) (tX12_likelyOn_154 hX hr hq) (z_ald_n hX dX12_likelyOn_103 rfl (z_gr (c := 12) (j := 24) hX dX12_likelyOn_104 rfl inlX12 wm8_19 ⟨rfl, by decide, rfl⟩ (z_ild hX dX12_likelyOn_107 (z_iconst hX dX12_likelyOn_109 (by decide) (z_isub hX dX12_likelyOn_110 (z_iald hX dX12_likelyOn_111 (z_ald_n hX dX12_likelyOn_112 rfl (z_gi (c := 12) (j := 22) hX dX12_likelyOn_113 rfl inlX12 wm8_17 ⟨rfl, by decide, rfl⟩ (z_icne hX dX12_likelyOn_116 (by decide) (tX12_likelyOn_192 hX hr hq) (z_ldc hX dX12_likelyOn_119 wm29_18 (z_ald_n hX dX12_likelyOn_121 rfl (z_ald_n hX dX12_likelyOn_122 rfl (z_gr (c := 12) (j := 23) hX dX12_likelyOn_123 rfl inlX12 wm8_18 ⟨rfl, by decide, rfl⟩ ((tX12_likelyOn_126 hX hr hq)))))))))))))))))))))))))
def kX12_likelyOn_61 (r : pu_R) : pu_K := s_ild 3 (s_ist 5 (s_push (.int (100000)) (s_ald 0 (s_ild 4 (s_cv r 320 1 12 (s_imul (s_ald 0 (s_ild 4 (s_cv r 321 1 12 (s_iadd (s_ist 6 ((r 502)))))))))))))
theorem vX12_likelyOn_61 : pu_cok2 kX12_likelyOn_61 := fun rf r hr => by
  unfold kX12_likelyOn_61
  exact v_ild (v_ist (v_pi (v_ald (v_ild (v_cv hr (v_imul (v_ald (v_ild (v_cv hr (v_iadd (v_ist ((hr 502)))))))))))))
theorem tX12_likelyOn_61 {X : pu_X} {r : pu_R} (hX : pu_H X mdX12_likelyOn) (hr : pu_P X.2.1 X.2.2.2.2.2.2.2.2.2.2.1 r) (hq : ∀ i pc, pu_lp i = some (323, pc) → pu_S X mdX12_likelyOn pc (r i)) : pu_S X mdX12_likelyOn 61 (kX12_likelyOn_61 r) := by
  unfold kX12_likelyOn_61
  exact z_ild_n hX dX12_likelyOn_61 rfl (z_ist hX dX12_likelyOn_62 (z_ldc hX dX12_likelyOn_64 wm29_18 (z_ald_n hX dX12_likelyOn_66 rfl (z_ild hX dX12_likelyOn_67 (z_cv (c := 12) hX hr dX12_likelyOn_69 hjX12_sideOf mwX12_sideOf rfl wm60_15 ⟨wm60_16, wm60_17⟩ ⟨Nat.le_of_ble_eq_true rfl, Nat.le_of_ble_eq_true rfl⟩ (z_imul hX dX12_likelyOn_72 (z_ald_n hX dX12_likelyOn_73 rfl (z_ild hX dX12_likelyOn_74 (z_cv (c := 12) hX hr dX12_likelyOn_76 hjX12_pacesOf mwX12_pacesOf rfl wm60_19 ⟨wm60_20, wm60_21⟩ ⟨Nat.le_of_ble_eq_true rfl, Nat.le_of_ble_eq_true rfl⟩ (z_iadd hX dX12_likelyOn_79 (z_ist hX dX12_likelyOn_80 ((hq 502 82 hl502)))))))))))))
def kX12_likelyOn_48 (r : pu_R) : pu_K := s_ild 4 (s_ild 1 (s_ild 2 (s_cv r 322 3 12 (s_ifne (kX12_likelyOn_61 r) ((kX12_likelyOn_215 r))))))
theorem vX12_likelyOn_48 : pu_cok2 kX12_likelyOn_48 := fun rf r hr => by
  unfold kX12_likelyOn_48
  exact v_ild (v_ild (v_ild (v_cv hr (v_ifne (vX12_likelyOn_61 rf r hr) ((vX12_likelyOn_215 rf r hr))))))
theorem tX12_likelyOn_48 {X : pu_X} {r : pu_R} (hX : pu_H X mdX12_likelyOn) (hr : pu_P X.2.1 X.2.2.2.2.2.2.2.2.2.2.1 r) (hq : ∀ i pc, pu_lp i = some (323, pc) → pu_S X mdX12_likelyOn pc (r i)) : pu_S X mdX12_likelyOn 48 (kX12_likelyOn_48 r) := by
  unfold kX12_likelyOn_48
  exact z_ild hX dX12_likelyOn_48 (z_ild_n hX dX12_likelyOn_50 rfl (z_ild_n hX dX12_likelyOn_51 rfl (z_cv (c := 12) hX hr dX12_likelyOn_52 hjX12_mayHave mwX12_mayHave rfl wm60_11 ⟨wm60_12, wm60_13⟩ ⟨Nat.le_of_ble_eq_true rfl, Nat.le_of_ble_eq_true rfl⟩ (z_ifne hX dX12_likelyOn_55 (by decide) (tX12_likelyOn_61 hX hr hq) ((z_goto hX dX12_likelyOn_58 (by decide) (tX12_likelyOn_215 hX hr hq)))))))
def kX12_likelyOn_5 (r : pu_R) : pu_K := s_ild 4 (s_ald 0 (s_gr 12 0 (s_push (.int (6)) (s_ai 1 (s_icge (kX12_likelyOn_221 r) (s_ald 0 (s_gr 12 0 (s_push (.int (10752)) (s_push (.int (6)) (s_ild 4 (s_imul (s_iadd (s_push (.int (3)) (s_iadd (s_ai 1 (s_ifne (kX12_likelyOn_215 r) (s_ald 0 (s_ild 4 (s_ild 1 (s_ild 2 (s_cv r 317 3 12 (s_ifeq (kX12_likelyOn_215 r) (s_ald 0 ((kX12_likelyOn_48 r)))))))))))))))))))))))))
theorem vX12_likelyOn_5 : pu_cok2 kX12_likelyOn_5 := fun rf r hr => by
  unfold kX12_likelyOn_5
  exact v_ild (v_ald (v_gr (v_pi (v_ai (v_icge (vX12_likelyOn_221 rf r hr) (v_ald (v_gr (v_pi (v_pi (v_ild (v_imul (v_iadd (v_pi (v_iadd (v_ai (v_ifne (vX12_likelyOn_215 rf r hr) (v_ald (v_ild (v_ild (v_ild (v_cv hr (v_ifeq (vX12_likelyOn_215 rf r hr) (v_ald ((vX12_likelyOn_48 rf r hr)))))))))))))))))))))))))
theorem tX12_likelyOn_5 {X : pu_X} {r : pu_R} (hX : pu_H X mdX12_likelyOn) (hr : pu_P X.2.1 X.2.2.2.2.2.2.2.2.2.2.1 r) (hq : ∀ i pc, pu_lp i = some (323, pc) → pu_S X mdX12_likelyOn pc (r i)) : pu_S X mdX12_likelyOn 5 (kX12_likelyOn_5 r) := by
  unfold kX12_likelyOn_5
  exact z_ild hX dX12_likelyOn_5 (z_ald_n hX dX12_likelyOn_7 rfl (z_gr (c := 12) (j := 0) hX dX12_likelyOn_8 rfl inlX12 wm7_16 ⟨rfl, by decide, rfl⟩ (z_bipush hX dX12_likelyOn_11 (by decide) (z_iald hX dX12_likelyOn_13 (z_icge hX dX12_likelyOn_14 (by decide) (tX12_likelyOn_221 hX hr hq) (z_ald_n hX dX12_likelyOn_17 rfl (z_gr (c := 12) (j := 0) hX dX12_likelyOn_18 rfl inlX12 wm7_16 ⟨rfl, by decide, rfl⟩ (z_sipush hX dX12_likelyOn_21 (by decide) (z_bipush hX dX12_likelyOn_24 (by decide) (z_ild hX dX12_likelyOn_26 (z_imul hX dX12_likelyOn_28 (z_iadd hX dX12_likelyOn_29 (z_iconst hX dX12_likelyOn_30 (by decide) (z_iadd hX dX12_likelyOn_31 (z_iald hX dX12_likelyOn_32 (z_ifne hX dX12_likelyOn_33 (by decide) (tX12_likelyOn_215 hX hr hq) (z_ald_n hX dX12_likelyOn_36 rfl (z_ild hX dX12_likelyOn_37 (z_ild_n hX dX12_likelyOn_39 rfl (z_ild_n hX dX12_likelyOn_40 rfl (z_cv (c := 12) hX hr dX12_likelyOn_41 hjX12_isOn mwX12_isOn rfl wm59_23 ⟨wm60_0, wm60_1⟩ ⟨Nat.le_of_ble_eq_true rfl, Nat.le_of_ble_eq_true rfl⟩ (z_ifeq hX dX12_likelyOn_44 (by decide) (tX12_likelyOn_215 hX hr hq) (z_ald_n hX dX12_likelyOn_47 rfl ((tX12_likelyOn_48 hX hr hq)))))))))))))))))))))))))
def kX12_likelyOn_0 (r : pu_R) : pu_K := s_push (.int (0)) (s_ist 3 (s_push (.int (0)) (s_ist 4 ((r 501)))))
theorem vX12_likelyOn_0 : pu_cok2 kX12_likelyOn_0 := fun rf r hr => by
  unfold kX12_likelyOn_0
  exact v_pi (v_ist (v_pi (v_ist ((hr 501)))))
theorem tX12_likelyOn_0 {X : pu_X} {r : pu_R} (hX : pu_H X mdX12_likelyOn) (hr : pu_P X.2.1 X.2.2.2.2.2.2.2.2.2.2.1 r) (hq : ∀ i pc, pu_lp i = some (323, pc) → pu_S X mdX12_likelyOn pc (r i)) : pu_S X mdX12_likelyOn 0 (kX12_likelyOn_0 r) := by
  unfold kX12_likelyOn_0
  exact z_iconst hX dX12_likelyOn_0 (by decide) (z_ist_n hX dX12_likelyOn_1 rfl (z_iconst hX dX12_likelyOn_2 (by decide) (z_ist hX dX12_likelyOn_3 ((hq 501 5 hl501)))))
def kX12_means_199 (r : pu_R) : pu_K := s_ald 0 (s_gr 12 0 (s_push (.int (11)) (s_ai 1 (s_iret))))
theorem vX12_means_199 : pu_cok2 kX12_means_199 := fun rf r hr => by
  unfold kX12_means_199
  exact v_ald (v_gr (v_pi (v_ai (v_iret))))
theorem tX12_means_199 {X : pu_X} {r : pu_R} (hX : pu_H X mdX12_means) (hr : pu_P X.2.1 X.2.2.2.2.2.2.2.2.2.2.1 r) (hq : ∀ i pc, pu_lp i = some (324, pc) → pu_S X mdX12_means pc (r i)) : pu_S X mdX12_means 199 (kX12_means_199 r) := by
  unfold kX12_means_199
  exact z_ald_n hX dX12_means_199 rfl (z_gr (c := 12) (j := 0) hX dX12_means_200 rfl inlX12 wm7_16 ⟨rfl, by decide, rfl⟩ (z_bipush hX dX12_means_203 (by decide) (z_iald hX dX12_means_205 (z_iret hX dX12_means_206 rfl))))
def kX12_means_193 (r : pu_R) : pu_K := s_inc 5 (1) ((r 503))
theorem vX12_means_193 : pu_cok2 kX12_means_193 := fun rf r hr => by
  unfold kX12_means_193
  exact v_inc ((hr 503))
theorem tX12_means_193 {X : pu_X} {r : pu_R} (hX : pu_H X mdX12_means) (hr : pu_P X.2.1 X.2.2.2.2.2.2.2.2.2.2.1 r) (hq : ∀ i pc, pu_lp i = some (324, pc) → pu_S X mdX12_means pc (r i)) : pu_S X mdX12_means 193 (kX12_means_193 r) := by
  unfold kX12_means_193
  exact z_inc hX dX12_means_193 (by decide) ((z_goto hX dX12_means_196 (by decide) (hq 503 99 hl503)))
def kX12_means_180 (r : pu_R) : pu_K := s_push (.int (0)) (s_wi 1 (s_ald 0 (s_gr 12 0 (s_push (.int (11)) (s_dup2 (s_ai 1 (s_push (.int (1)) (s_iadd (s_wi 1 ((kX12_means_193 r)))))))))))
theorem vX12_means_180 : pu_cok2 kX12_means_180 := fun rf r hr => by
  unfold kX12_means_180
  exact v_pi (v_wi (v_ald (v_gr (v_pi (v_dup2 (v_ai (v_pi (v_iadd (v_wi ((vX12_means_193 rf r hr)))))))))))
theorem tX12_means_180 {X : pu_X} {r : pu_R} (hX : pu_H X mdX12_means) (hr : pu_P X.2.1 X.2.2.2.2.2.2.2.2.2.2.1 r) (hq : ∀ i pc, pu_lp i = some (324, pc) → pu_S X mdX12_means pc (r i)) : pu_S X mdX12_means 180 (kX12_means_180 r) := by
  unfold kX12_means_180
  exact z_iconst hX dX12_means_180 (by decide) (z_iast hX dX12_means_181 (z_ald_n hX dX12_means_182 rfl (z_gr (c := 12) (j := 0) hX dX12_means_183 rfl inlX12 wm7_16 ⟨rfl, by decide, rfl⟩ (z_bipush hX dX12_means_186 (by decide) (z_dup2 hX dX12_means_188 (z_iald hX dX12_means_189 (z_iconst hX dX12_means_190 (by decide) (z_iadd hX dX12_means_191 (z_iast hX dX12_means_192 ((tX12_means_193 hX hr hq)))))))))))
def kX12_means_141 (r : pu_R) : pu_K := s_ald 0 (s_gr 12 0 (s_push (.int (59588)) (s_push (.int (2)) (s_ald 0 (s_gr 12 0 (s_push (.int (11)) (s_ai 1 (s_imul (s_iadd (s_ild 6 (s_wi 1 (s_ald 0 (s_gr 12 0 (s_push (.int (59588)) (s_push (.int (2)) (s_ald 0 (s_gr 12 0 (s_push (.int (11)) (s_ai 1 (s_imul (s_iadd (s_push (.int (1)) (s_iadd ((kX12_means_180 r)))))))))))))))))))))))))
theorem vX12_means_141 : pu_cok2 kX12_means_141 := fun rf r hr => by
  unfold kX12_means_141
  exact v_ald (v_gr (v_pi (v_pi (v_ald (v_gr (v_pi (v_ai (v_imul (v_iadd (v_ild (v_wi (v_ald (v_gr (v_pi (v_pi (v_ald (v_gr (v_pi (v_ai (v_imul (v_iadd (v_pi (v_iadd ((vX12_means_180 rf r hr)))))))))))))))))))))))))
theorem tX12_means_141 {X : pu_X} {r : pu_R} (hX : pu_H X mdX12_means) (hr : pu_P X.2.1 X.2.2.2.2.2.2.2.2.2.2.1 r) (hq : ∀ i pc, pu_lp i = some (324, pc) → pu_S X mdX12_means pc (r i)) : pu_S X mdX12_means 141 (kX12_means_141 r) := by
  unfold kX12_means_141
  exact z_ald_n hX dX12_means_141 rfl (z_gr (c := 12) (j := 0) hX dX12_means_142 rfl inlX12 wm7_16 ⟨rfl, by decide, rfl⟩ (z_ldcw hX dX12_means_145 wm57_18 (z_iconst hX dX12_means_148 (by decide) (z_ald_n hX dX12_means_149 rfl (z_gr (c := 12) (j := 0) hX dX12_means_150 rfl inlX12 wm7_16 ⟨rfl, by decide, rfl⟩ (z_bipush hX dX12_means_153 (by decide) (z_iald hX dX12_means_155 (z_imul hX dX12_means_156 (z_iadd hX dX12_means_157 (z_ild hX dX12_means_158 (z_iast hX dX12_means_160 (z_ald_n hX dX12_means_161 rfl (z_gr (c := 12) (j := 0) hX dX12_means_162 rfl inlX12 wm7_16 ⟨rfl, by decide, rfl⟩ (z_ldcw hX dX12_means_165 wm57_18 (z_iconst hX dX12_means_168 (by decide) (z_ald_n hX dX12_means_169 rfl (z_gr (c := 12) (j := 0) hX dX12_means_170 rfl inlX12 wm7_16 ⟨rfl, by decide, rfl⟩ (z_bipush hX dX12_means_173 (by decide) (z_iald hX dX12_means_175 (z_imul hX dX12_means_176 (z_iadd hX dX12_means_177 (z_iconst hX dX12_means_178 (by decide) (z_iadd hX dX12_means_179 ((tX12_means_180 hX hr hq)))))))))))))))))))))))))
def kX12_means_99 (r : pu_R) : pu_K := s_ild 5 (s_ild 4 (s_icge (kX12_means_199 r) (s_ald 0 (s_ald 0 (s_gr 12 0 (s_push (.int (10752)) (s_push (.int (6)) (s_ald 0 (s_gr 12 23 (s_ild 5 (s_ai 1 (s_imul (s_iadd (s_ai 1 (s_ild 1 (s_cv r 318 2 12 (s_ist 6 (s_ild 6 (s_push (.int (-1)) (s_icne (kX12_means_141 r) ((kX12_means_193 r))))))))))))))))))))))
theorem vX12_means_99 : pu_cok2 kX12_means_99 := fun rf r hr => by
  unfold kX12_means_99
  exact v_ild (v_ild (v_icge (vX12_means_199 rf r hr) (v_ald (v_ald (v_gr (v_pi (v_pi (v_ald (v_gr (v_ild (v_ai (v_imul (v_iadd (v_ai (v_ild (v_cv hr (v_ist (v_ild (v_pi (v_icne (vX12_means_141 rf r hr) ((vX12_means_193 rf r hr))))))))))))))))))))))
theorem tX12_means_99 {X : pu_X} {r : pu_R} (hX : pu_H X mdX12_means) (hr : pu_P X.2.1 X.2.2.2.2.2.2.2.2.2.2.1 r) (hq : ∀ i pc, pu_lp i = some (324, pc) → pu_S X mdX12_means pc (r i)) : pu_S X mdX12_means 99 (kX12_means_99 r) := by
  unfold kX12_means_99
  exact z_ild hX dX12_means_99 (z_ild hX dX12_means_101 (z_icge hX dX12_means_103 (by decide) (tX12_means_199 hX hr hq) (z_ald_n hX dX12_means_106 rfl (z_ald_n hX dX12_means_107 rfl (z_gr (c := 12) (j := 0) hX dX12_means_108 rfl inlX12 wm7_16 ⟨rfl, by decide, rfl⟩ (z_sipush hX dX12_means_111 (by decide) (z_bipush hX dX12_means_114 (by decide) (z_ald_n hX dX12_means_116 rfl (z_gr (c := 12) (j := 23) hX dX12_means_117 rfl inlX12 wm8_18 ⟨rfl, by decide, rfl⟩ (z_ild hX dX12_means_120 (z_iald hX dX12_means_122 (z_imul hX dX12_means_123 (z_iadd hX dX12_means_124 (z_iald hX dX12_means_125 (z_ild_n hX dX12_means_126 rfl (z_cv (c := 12) hX hr dX12_means_127 hjX12_withExtra mwX12_withExtra rfl wm60_3 ⟨wm60_4, wm60_5⟩ ⟨Nat.le_of_ble_eq_true rfl, Nat.le_of_ble_eq_true rfl⟩ (z_ist hX dX12_means_130 (z_ild hX dX12_means_132 (z_iconst hX dX12_means_134 (by decide) (z_icne hX dX12_means_135 (by decide) (tX12_means_141 hX hr hq) ((z_goto hX dX12_means_138 (by decide) (tX12_means_193 hX hr hq)))))))))))))))))))))))
def kX12_means_94 (r : pu_R) : pu_K := s_ist 4 (s_push (.int (0)) (s_ist 5 ((r 503))))
theorem vX12_means_94 : pu_cok2 kX12_means_94 := fun rf r hr => by
  unfold kX12_means_94
  exact v_ist (v_pi (v_ist ((hr 503))))
theorem tX12_means_94 {X : pu_X} {r : pu_R} (hX : pu_H X mdX12_means) (hr : pu_P X.2.1 X.2.2.2.2.2.2.2.2.2.2.1 r) (hq : ∀ i pc, pu_lp i = some (324, pc) → pu_S X mdX12_means pc (r i)) : pu_S X mdX12_means 94 (kX12_means_94 r) := by
  unfold kX12_means_94
  exact z_ist hX dX12_means_94 (z_iconst hX dX12_means_96 (by decide) (z_ist hX dX12_means_97 ((hq 503 99 hl503))))
def kX12_means_88 (r : pu_R) : pu_K := s_ald 0 (s_ild 3 (s_ild 1 (s_cv r 323 2 12 ((kX12_means_94 r)))))
theorem vX12_means_88 : pu_cok2 kX12_means_88 := fun rf r hr => by
  unfold kX12_means_88
  exact v_ald (v_ild (v_ild (v_cv hr ((vX12_means_94 rf r hr)))))
theorem tX12_means_88 {X : pu_X} {r : pu_R} (hX : pu_H X mdX12_means) (hr : pu_P X.2.1 X.2.2.2.2.2.2.2.2.2.2.1 r) (hq : ∀ i pc, pu_lp i = some (324, pc) → pu_S X mdX12_means pc (r i)) : pu_S X mdX12_means 88 (kX12_means_88 r) := by
  unfold kX12_means_88
  exact z_ald_n hX dX12_means_88 rfl (z_ild_n hX dX12_means_89 rfl (z_ild_n hX dX12_means_90 rfl (z_cv (c := 12) hX hr dX12_means_91 hjX12_likelyOn mwX12_likelyOn rfl wm60_7 ⟨wm60_8, wm60_9⟩ ⟨Nat.le_of_ble_eq_true rfl, Nat.le_of_ble_eq_true rfl⟩ ((tX12_means_94 hX hr hq)))))
def kX12_means_73 (r : pu_R) : pu_K := s_ald 0 (s_ild 1 (s_cv r 316 1 12 (s_ist 3 (s_ild 3 (s_push (.int (-1)) (s_icne (kX12_means_88 r) (s_push (.int (0)) ((kX12_means_94 r)))))))))
theorem vX12_means_73 : pu_cok2 kX12_means_73 := fun rf r hr => by
  unfold kX12_means_73
  exact v_ald (v_ild (v_cv hr (v_ist (v_ild (v_pi (v_icne (vX12_means_88 rf r hr) (v_pi ((vX12_means_94 rf r hr)))))))))
theorem tX12_means_73 {X : pu_X} {r : pu_R} (hX : pu_H X mdX12_means) (hr : pu_P X.2.1 X.2.2.2.2.2.2.2.2.2.2.1 r) (hq : ∀ i pc, pu_lp i = some (324, pc) → pu_S X mdX12_means pc (r i)) : pu_S X mdX12_means 73 (kX12_means_73 r) := by
  unfold kX12_means_73
  exact z_ald_n hX dX12_means_73 rfl (z_ild_n hX dX12_means_74 rfl (z_cv (c := 12) hX hr dX12_means_75 hjX12_streetOn mwX12_streetOn rfl wm59_19 ⟨wm59_20, wm59_21⟩ ⟨Nat.le_of_ble_eq_true rfl, Nat.le_of_ble_eq_true rfl⟩ (z_ist_n hX dX12_means_78 rfl (z_ild_n hX dX12_means_79 rfl (z_iconst hX dX12_means_80 (by decide) (z_icne hX dX12_means_81 (by decide) (tX12_means_88 hX hr hq) (z_iconst hX dX12_means_84 (by decide) ((z_goto hX dX12_means_85 (by decide) (tX12_means_94 hX hr hq))))))))))
def kX12_means_45 (r : pu_R) : pu_K := s_ald 0 (s_gr 12 0 (s_push (.int (59588)) (s_ild 2 (s_wi 1 (s_ald 0 (s_gr 12 0 (s_push (.int (59589)) (s_push (.int (1)) (s_wi 1 (s_ald 0 (s_gr 12 0 (s_push (.int (11)) (s_push (.int (1)) (s_wi 1 (s_push (.int (1)) (s_iret))))))))))))))))
theorem vX12_means_45 : pu_cok2 kX12_means_45 := fun rf r hr => by
  unfold kX12_means_45
  exact v_ald (v_gr (v_pi (v_ild (v_wi (v_ald (v_gr (v_pi (v_pi (v_wi (v_ald (v_gr (v_pi (v_pi (v_wi (v_pi (v_iret))))))))))))))))
theorem tX12_means_45 {X : pu_X} {r : pu_R} (hX : pu_H X mdX12_means) (hr : pu_P X.2.1 X.2.2.2.2.2.2.2.2.2.2.1 r) (hq : ∀ i pc, pu_lp i = some (324, pc) → pu_S X mdX12_means pc (r i)) : pu_S X mdX12_means 45 (kX12_means_45 r) := by
  unfold kX12_means_45
  exact z_ald_n hX dX12_means_45 rfl (z_gr (c := 12) (j := 0) hX dX12_means_46 rfl inlX12 wm7_16 ⟨rfl, by decide, rfl⟩ (z_ldcw hX dX12_means_49 wm57_18 (z_ild_n hX dX12_means_52 rfl (z_iast hX dX12_means_53 (z_ald_n hX dX12_means_54 rfl (z_gr (c := 12) (j := 0) hX dX12_means_55 rfl inlX12 wm7_16 ⟨rfl, by decide, rfl⟩ (z_ldcw hX dX12_means_58 wm57_19 (z_iconst hX dX12_means_61 (by decide) (z_iast hX dX12_means_62 (z_ald_n hX dX12_means_63 rfl (z_gr (c := 12) (j := 0) hX dX12_means_64 rfl inlX12 wm7_16 ⟨rfl, by decide, rfl⟩ (z_bipush hX dX12_means_67 (by decide) (z_iconst hX dX12_means_69 (by decide) (z_iast hX dX12_means_70 (z_iconst hX dX12_means_71 (by decide) (z_iret hX dX12_means_72 rfl))))))))))))))))
def kX12_means_17 (r : pu_R) : pu_K := s_ald 0 (s_ild 1 (s_cv r 319 1 12 (s_ist 2 (s_ald 0 (s_gr 12 0 (s_push (.int (11)) (s_push (.int (0)) (s_wi 1 (s_ald 0 (s_gi 12 21 (s_ifeq (kX12_means_73 r) (s_ild 2 (s_push (.int (-1)) (s_icne (kX12_means_45 r) (s_push (.int (0)) (s_iret))))))))))))))))
theorem vX12_means_17 : pu_cok2 kX12_means_17 := fun rf r hr => by
  unfold kX12_means_17
  exact v_ald (v_ild (v_cv hr (v_ist (v_ald (v_gr (v_pi (v_pi (v_wi (v_ald (v_gi (v_ifeq (vX12_means_73 rf r hr) (v_ild (v_pi (v_icne (vX12_means_45 rf r hr) (v_pi (v_iret))))))))))))))))
theorem tX12_means_17 {X : pu_X} {r : pu_R} (hX : pu_H X mdX12_means) (hr : pu_P X.2.1 X.2.2.2.2.2.2.2.2.2.2.1 r) (hq : ∀ i pc, pu_lp i = some (324, pc) → pu_S X mdX12_means pc (r i)) : pu_S X mdX12_means 17 (kX12_means_17 r) := by
  unfold kX12_means_17
  exact z_ald_n hX dX12_means_17 rfl (z_ild_n hX dX12_means_18 rfl (z_cv (c := 12) hX hr dX12_means_19 hjX12_sure mwX12_sure rfl wm59_15 ⟨wm59_16, wm59_17⟩ ⟨Nat.le_of_ble_eq_true rfl, Nat.le_of_ble_eq_true rfl⟩ (z_ist_n hX dX12_means_22 rfl (z_ald_n hX dX12_means_23 rfl (z_gr (c := 12) (j := 0) hX dX12_means_24 rfl inlX12 wm7_16 ⟨rfl, by decide, rfl⟩ (z_bipush hX dX12_means_27 (by decide) (z_iconst hX dX12_means_29 (by decide) (z_iast hX dX12_means_30 (z_ald_n hX dX12_means_31 rfl (z_gi (c := 12) (j := 21) hX dX12_means_32 rfl inlX12 wm8_16 ⟨rfl, by decide, rfl⟩ (z_ifeq hX dX12_means_35 (by decide) (tX12_means_73 hX hr hq) (z_ild_n hX dX12_means_38 rfl (z_iconst hX dX12_means_39 (by decide) (z_icne hX dX12_means_40 (by decide) (tX12_means_45 hX hr hq) (z_iconst hX dX12_means_43 (by decide) (z_iret hX dX12_means_44 rfl))))))))))))))))
def kX12_means_14 (r : pu_R) : pu_K := s_push (.int (-2)) (s_iret)
theorem vX12_means_14 : pu_cok2 kX12_means_14 := fun rf r hr => by
  unfold kX12_means_14
  exact v_pi (v_iret)
theorem tX12_means_14 {X : pu_X} {r : pu_R} (hX : pu_H X mdX12_means) (hr : pu_P X.2.1 X.2.2.2.2.2.2.2.2.2.2.1 r) (hq : ∀ i pc, pu_lp i = some (324, pc) → pu_S X mdX12_means pc (r i)) : pu_S X mdX12_means 14 (kX12_means_14 r) := by
  unfold kX12_means_14
  exact z_bipush hX dX12_means_14 (by decide) (z_iret hX dX12_means_16 rfl)
def kX12_means_0 (r : pu_R) : pu_K := s_ald 0 (s_cv r 314 0 12 (s_ifeq (kX12_means_14 r) (s_ild 1 (s_cs r 234 1 (s_ifne (kX12_means_17 r) ((kX12_means_14 r)))))))
theorem vX12_means_0 : pu_cok2 kX12_means_0 := fun rf r hr => by
  unfold kX12_means_0
  exact v_ald (v_cv hr (v_ifeq (vX12_means_14 rf r hr) (v_ild (v_cs hr (v_ifne (vX12_means_17 rf r hr) ((vX12_means_14 rf r hr)))))))
theorem tX12_means_0 {X : pu_X} {r : pu_R} (hX : pu_H X mdX12_means) (hr : pu_P X.2.1 X.2.2.2.2.2.2.2.2.2.2.1 r) (hq : ∀ i pc, pu_lp i = some (324, pc) → pu_S X mdX12_means pc (r i)) : pu_S X mdX12_means 0 (kX12_means_0 r) := by
  unfold kX12_means_0
  exact z_ald_n hX dX12_means_0 rfl (z_cv (c := 12) hX hr dX12_means_1 hjX12_readsAddress mwX12_readsAddress rfl wm57_20 ⟨wm57_21, wm57_22⟩ ⟨Nat.le_of_ble_eq_true rfl, Nat.le_of_ble_eq_true rfl⟩ (z_ifeq hX dX12_means_4 (by decide) (tX12_means_14 hX hr hq) (z_ild_n hX dX12_means_7 rfl (z_cs hX hr dX12_means_8 hjX12_isDay mwX12_isDay wm11_5 wm11_6 ⟨Nat.le_of_ble_eq_true rfl, Nat.le_of_ble_eq_true rfl⟩ (z_ifne hX dX12_means_11 (by decide) (tX12_means_17 hX hr hq) ((tX12_means_14 hX hr hq)))))))
def kX12_fault_0 (r : pu_R) : pu_K := s_ald 0 (s_gr 12 0 (s_push (.int (15)) (s_ai 1 (s_iret))))
theorem vX12_fault_0 : pu_cok2 kX12_fault_0 := fun rf r hr => by
  unfold kX12_fault_0
  exact v_ald (v_gr (v_pi (v_ai (v_iret))))
theorem tX12_fault_0 {X : pu_X} {r : pu_R} (hX : pu_H X mdX12_fault) (hr : pu_P X.2.1 X.2.2.2.2.2.2.2.2.2.2.1 r) (hq : ∀ i pc, pu_lp i = some (325, pc) → pu_S X mdX12_fault pc (r i)) : pu_S X mdX12_fault 0 (kX12_fault_0 r) := by
  unfold kX12_fault_0
  exact z_ald_n hX dX12_fault_0 rfl (z_gr (c := 12) (j := 0) hX dX12_fault_1 rfl inlX12 wm7_16 ⟨rfl, by decide, rfl⟩ (z_bipush hX dX12_fault_4 (by decide) (z_iald hX dX12_fault_6 (z_iret hX dX12_fault_7 rfl))))
def kX12_found_26 (r : pu_R) : pu_K := s_ald 0 (s_gr 12 0 (s_push (.int (59588)) (s_push (.int (2)) (s_ild 1 (s_imul (s_iadd (s_ild 2 (s_iadd (s_ai 1 (s_iret))))))))))
theorem vX12_found_26 : pu_cok2 kX12_found_26 := fun rf r hr => by
  unfold kX12_found_26
  exact v_ald (v_gr (v_pi (v_pi (v_ild (v_imul (v_iadd (v_ild (v_iadd (v_ai (v_iret))))))))))
theorem tX12_found_26 {X : pu_X} {r : pu_R} (hX : pu_H X mdX12_found) (hr : pu_P X.2.1 X.2.2.2.2.2.2.2.2.2.2.1 r) (hq : ∀ i pc, pu_lp i = some (326, pc) → pu_S X mdX12_found pc (r i)) : pu_S X mdX12_found 26 (kX12_found_26 r) := by
  unfold kX12_found_26
  exact z_ald_n hX dX12_found_26 rfl (z_gr (c := 12) (j := 0) hX dX12_found_27 rfl inlX12 wm7_16 ⟨rfl, by decide, rfl⟩ (z_ldcw hX dX12_found_30 wm57_18 (z_iconst hX dX12_found_33 (by decide) (z_ild_n hX dX12_found_34 rfl (z_imul hX dX12_found_35 (z_iadd hX dX12_found_36 (z_ild_n hX dX12_found_37 rfl (z_iadd hX dX12_found_38 (z_iald hX dX12_found_39 (z_iret hX dX12_found_40 rfl))))))))))
def kX12_found_24 (r : pu_R) : pu_K := s_push (.int (-1)) (s_iret)
theorem vX12_found_24 : pu_cok2 kX12_found_24 := fun rf r hr => by
  unfold kX12_found_24
  exact v_pi (v_iret)
theorem tX12_found_24 {X : pu_X} {r : pu_R} (hX : pu_H X mdX12_found) (hr : pu_P X.2.1 X.2.2.2.2.2.2.2.2.2.2.1 r) (hq : ∀ i pc, pu_lp i = some (326, pc) → pu_S X mdX12_found pc (r i)) : pu_S X mdX12_found 24 (kX12_found_24 r) := by
  unfold kX12_found_24
  exact z_iconst hX dX12_found_24 (by decide) (z_iret hX dX12_found_25 rfl)
def kX12_found_0 (r : pu_R) : pu_K := s_ild 1 (s_iflt (kX12_found_24 r) (s_ild 1 (s_ald 0 (s_gr 12 0 (s_push (.int (11)) (s_ai 1 (s_icge (kX12_found_24 r) (s_ild 2 (s_iflt (kX12_found_24 r) (s_ild 2 (s_push (.int (1)) (s_icle (kX12_found_26 r) ((kX12_found_24 r))))))))))))))
theorem vX12_found_0 : pu_cok2 kX12_found_0 := fun rf r hr => by
  unfold kX12_found_0
  exact v_ild (v_iflt (vX12_found_24 rf r hr) (v_ild (v_ald (v_gr (v_pi (v_ai (v_icge (vX12_found_24 rf r hr) (v_ild (v_iflt (vX12_found_24 rf r hr) (v_ild (v_pi (v_icle (vX12_found_26 rf r hr) ((vX12_found_24 rf r hr))))))))))))))
theorem tX12_found_0 {X : pu_X} {r : pu_R} (hX : pu_H X mdX12_found) (hr : pu_P X.2.1 X.2.2.2.2.2.2.2.2.2.2.1 r) (hq : ∀ i pc, pu_lp i = some (326, pc) → pu_S X mdX12_found pc (r i)) : pu_S X mdX12_found 0 (kX12_found_0 r) := by
  unfold kX12_found_0
  exact z_ild_n hX dX12_found_0 rfl (z_iflt hX dX12_found_1 (by decide) (tX12_found_24 hX hr hq) (z_ild_n hX dX12_found_4 rfl (z_ald_n hX dX12_found_5 rfl (z_gr (c := 12) (j := 0) hX dX12_found_6 rfl inlX12 wm7_16 ⟨rfl, by decide, rfl⟩ (z_bipush hX dX12_found_9 (by decide) (z_iald hX dX12_found_11 (z_icge hX dX12_found_12 (by decide) (tX12_found_24 hX hr hq) (z_ild_n hX dX12_found_15 rfl (z_iflt hX dX12_found_16 (by decide) (tX12_found_24 hX hr hq) (z_ild_n hX dX12_found_19 rfl (z_iconst hX dX12_found_20 (by decide) (z_icle hX dX12_found_21 (by decide) (tX12_found_26 hX hr hq) ((tX12_found_24 hX hr hq))))))))))))))
def kX12_call_157 (r : pu_R) : pu_K := s_push (.int (-1)) (s_iret)
theorem vX12_call_157 : pu_cok2 kX12_call_157 := fun rf r hr => by
  unfold kX12_call_157
  exact v_pi (v_iret)
theorem tX12_call_157 {X : pu_X} {r : pu_R} (hX : pu_H X mdX12_call) (hr : pu_P X.2.1 X.2.2.2.2.2.2.2.2.2.2.1 r) (hq : ∀ i pc, pu_lp i = some (327, pc) → pu_S X mdX12_call pc (r i)) : pu_S X mdX12_call 157 (kX12_call_157 r) := by
  unfold kX12_call_157
  exact z_iconst hX dX12_call_157 (by decide) (z_iret hX dX12_call_158 rfl)
def kX12_call_151 (r : pu_R) : pu_K := s_ild 4 (s_ist 3 ((r 504)))
theorem vX12_call_151 : pu_cok2 kX12_call_151 := fun rf r hr => by
  unfold kX12_call_151
  exact v_ild (v_ist ((hr 504)))
theorem tX12_call_151 {X : pu_X} {r : pu_R} (hX : pu_H X mdX12_call) (hr : pu_P X.2.1 X.2.2.2.2.2.2.2.2.2.2.1 r) (hq : ∀ i pc, pu_lp i = some (327, pc) → pu_S X mdX12_call pc (r i)) : pu_S X mdX12_call 151 (kX12_call_151 r) := by
  unfold kX12_call_151
  exact z_ild hX dX12_call_151 (z_ist_n hX dX12_call_153 rfl ((z_goto hX dX12_call_154 (by decide) (hq 504 32 hl504))))
def kX12_call_123 (r : pu_R) : pu_K := s_ald 0 (s_ild 4 (s_cv r 319 1 12 (s_ist 2 (s_ild 2 (s_push (.int (-1)) (s_iceq (kX12_call_151 r) (s_ald 0 (s_gr 12 0 (s_push (.int (16)) (s_ild 4 (s_push (.int (1)) (s_iadd (s_wi 1 (s_push (.int (-100)) (s_ild 2 (s_isub (s_iret)))))))))))))))))
theorem vX12_call_123 : pu_cok2 kX12_call_123 := fun rf r hr => by
  unfold kX12_call_123
  exact v_ald (v_ild (v_cv hr (v_ist (v_ild (v_pi (v_iceq (vX12_call_151 rf r hr) (v_ald (v_gr (v_pi (v_ild (v_pi (v_iadd (v_wi (v_pi (v_ild (v_isub (v_iret)))))))))))))))))
theorem tX12_call_123 {X : pu_X} {r : pu_R} (hX : pu_H X mdX12_call) (hr : pu_P X.2.1 X.2.2.2.2.2.2.2.2.2.2.1 r) (hq : ∀ i pc, pu_lp i = some (327, pc) → pu_S X mdX12_call pc (r i)) : pu_S X mdX12_call 123 (kX12_call_123 r) := by
  unfold kX12_call_123
  exact z_ald_n hX dX12_call_123 rfl (z_ild hX dX12_call_124 (z_cv (c := 12) hX hr dX12_call_126 hjX12_sure mwX12_sure rfl wm59_15 ⟨wm59_16, wm59_17⟩ ⟨Nat.le_of_ble_eq_true rfl, Nat.le_of_ble_eq_true rfl⟩ (z_ist_n hX dX12_call_129 rfl (z_ild_n hX dX12_call_130 rfl (z_iconst hX dX12_call_131 (by decide) (z_iceq hX dX12_call_132 (by decide) (tX12_call_151 hX hr hq) (z_ald_n hX dX12_call_135 rfl (z_gr (c := 12) (j := 0) hX dX12_call_136 rfl inlX12 wm7_16 ⟨rfl, by decide, rfl⟩ (z_bipush hX dX12_call_139 (by decide) (z_ild hX dX12_call_141 (z_iconst hX dX12_call_143 (by decide) (z_iadd hX dX12_call_144 (z_iast hX dX12_call_145 (z_bipush hX dX12_call_146 (by decide) (z_ild_n hX dX12_call_148 rfl (z_isub hX dX12_call_149 (z_iret hX dX12_call_150 rfl)))))))))))))))))
def kX12_call_116 (r : pu_R) : pu_K := s_ild 4 (s_ifge (kX12_call_123 r) (s_push (.int (-1)) (s_iret)))
theorem vX12_call_116 : pu_cok2 kX12_call_116 := fun rf r hr => by
  unfold kX12_call_116
  exact v_ild (v_ifge (vX12_call_123 rf r hr) (v_pi (v_iret)))
theorem tX12_call_116 {X : pu_X} {r : pu_R} (hX : pu_H X mdX12_call) (hr : pu_P X.2.1 X.2.2.2.2.2.2.2.2.2.2.1 r) (hq : ∀ i pc, pu_lp i = some (327, pc) → pu_S X mdX12_call pc (r i)) : pu_S X mdX12_call 116 (kX12_call_116 r) := by
  unfold kX12_call_116
  exact z_ild hX dX12_call_116 (z_ifge hX dX12_call_118 (by decide) (tX12_call_123 hX hr hq) (z_iconst hX dX12_call_121 (by decide) (z_iret hX dX12_call_122 rfl)))
def kX12_call_110 (r : pu_R) : pu_K := s_inc 5 (1) ((r 505))
theorem vX12_call_110 : pu_cok2 kX12_call_110 := fun rf r hr => by
  unfold kX12_call_110
  exact v_inc ((hr 505))
theorem tX12_call_110 {X : pu_X} {r : pu_R} (hX : pu_H X mdX12_call) (hr : pu_P X.2.1 X.2.2.2.2.2.2.2.2.2.2.1 r) (hq : ∀ i pc, pu_lp i = some (327, pc) → pu_S X mdX12_call pc (r i)) : pu_S X mdX12_call 110 (kX12_call_110 r) := by
  unfold kX12_call_110
  exact z_inc hX dX12_call_110 (by decide) ((z_goto hX dX12_call_113 (by decide) (hq 505 52 hl505)))
def kX12_call_97 (r : pu_R) : pu_K := s_icle (kX12_call_110 r) (s_ald 0 (s_ild 5 (s_cv r 238 1 12 (s_push (.int (1)) (s_isub (s_ist 4 ((kX12_call_110 r))))))))
theorem vX12_call_97 : pu_cok2 kX12_call_97 := fun rf r hr => by
  unfold kX12_call_97
  exact v_icle (vX12_call_110 rf r hr) (v_ald (v_ild (v_cv hr (v_pi (v_isub (v_ist ((vX12_call_110 rf r hr))))))))
theorem tX12_call_97 {X : pu_X} {r : pu_R} (hX : pu_H X mdX12_call) (hr : pu_P X.2.1 X.2.2.2.2.2.2.2.2.2.2.1 r) (hq : ∀ i pc, pu_lp i = some (327, pc) → pu_S X mdX12_call pc (r i)) : pu_S X mdX12_call 97 (kX12_call_97 r) := by
  unfold kX12_call_97
  exact z_icle hX dX12_call_97 (by decide) (tX12_call_110 hX hr hq) (z_ald_n hX dX12_call_100 rfl (z_ild hX dX12_call_101 (z_cv (c := 12) hX hr dX12_call_103 hjX12_from mwX12_from rfl wm21_4 ⟨wm21_5, wm21_6⟩ ⟨Nat.le_of_ble_eq_true rfl, Nat.le_of_ble_eq_true rfl⟩ (z_iconst hX dX12_call_106 (by decide) (z_isub hX dX12_call_107 (z_ist hX dX12_call_108 ((tX12_call_110 hX hr hq))))))))
def kX12_call_52 (r : pu_R) : pu_K := s_ild 5 (s_ald 0 (s_gr 12 0 (s_push (.int (5)) (s_ai 1 (s_icge (kX12_call_116 r) (s_ild 3 (s_ild 1 (s_iceq (kX12_call_116 r) (s_ald 0 (s_ild 5 (s_cv r 237 1 12 (s_ifeq (kX12_call_110 r) (s_ald 0 (s_ild 5 (s_cv r 238 1 12 (s_ild 3 (s_icgt (kX12_call_110 r) (s_ald 0 (s_ild 5 (s_cv r 238 1 12 (s_push (.int (1)) (s_isub (s_ild 4 ((kX12_call_97 r)))))))))))))))))))))))))
theorem vX12_call_52 : pu_cok2 kX12_call_52 := fun rf r hr => by
  unfold kX12_call_52
  exact v_ild (v_ald (v_gr (v_pi (v_ai (v_icge (vX12_call_116 rf r hr) (v_ild (v_ild (v_iceq (vX12_call_116 rf r hr) (v_ald (v_ild (v_cv hr (v_ifeq (vX12_call_110 rf r hr) (v_ald (v_ild (v_cv hr (v_ild (v_icgt (vX12_call_110 rf r hr) (v_ald (v_ild (v_cv hr (v_pi (v_isub (v_ild ((vX12_call_97 rf r hr)))))))))))))))))))))))))
theorem tX12_call_52 {X : pu_X} {r : pu_R} (hX : pu_H X mdX12_call) (hr : pu_P X.2.1 X.2.2.2.2.2.2.2.2.2.2.1 r) (hq : ∀ i pc, pu_lp i = some (327, pc) → pu_S X mdX12_call pc (r i)) : pu_S X mdX12_call 52 (kX12_call_52 r) := by
  unfold kX12_call_52
  exact z_ild hX dX12_call_52 (z_ald_n hX dX12_call_54 rfl (z_gr (c := 12) (j := 0) hX dX12_call_55 rfl inlX12 wm7_16 ⟨rfl, by decide, rfl⟩ (z_iconst hX dX12_call_58 (by decide) (z_iald hX dX12_call_59 (z_icge hX dX12_call_60 (by decide) (tX12_call_116 hX hr hq) (z_ild_n hX dX12_call_63 rfl (z_ild_n hX dX12_call_64 rfl (z_iceq hX dX12_call_65 (by decide) (tX12_call_116 hX hr hq) (z_ald_n hX dX12_call_68 rfl (z_ild hX dX12_call_69 (z_cv (c := 12) hX hr dX12_call_71 hjX12_isKnown mwX12_isKnown rfl wm48_2 ⟨wm48_3, wm48_4⟩ ⟨Nat.le_of_ble_eq_true rfl, Nat.le_of_ble_eq_true rfl⟩ (z_ifeq hX dX12_call_74 (by decide) (tX12_call_110 hX hr hq) (z_ald_n hX dX12_call_77 rfl (z_ild hX dX12_call_78 (z_cv (c := 12) hX hr dX12_call_80 hjX12_from mwX12_from rfl wm21_4 ⟨wm21_5, wm21_6⟩ ⟨Nat.le_of_ble_eq_true rfl, Nat.le_of_ble_eq_true rfl⟩ (z_ild_n hX dX12_call_83 rfl (z_icgt hX dX12_call_84 (by decide) (tX12_call_110 hX hr hq) (z_ald_n hX dX12_call_87 rfl (z_ild hX dX12_call_88 (z_cv (c := 12) hX hr dX12_call_90 hjX12_from mwX12_from rfl wm21_4 ⟨wm21_5, wm21_6⟩ ⟨Nat.le_of_ble_eq_true rfl, Nat.le_of_ble_eq_true rfl⟩ (z_iconst hX dX12_call_93 (by decide) (z_isub hX dX12_call_94 (z_ild hX dX12_call_95 ((tX12_call_97 hX hr hq)))))))))))))))))))))))))
def kX12_call_49 (r : pu_R) : pu_K := s_push (.int (0)) (s_ist 5 ((r 505)))
theorem vX12_call_49 : pu_cok2 kX12_call_49 := fun rf r hr => by
  unfold kX12_call_49
  exact v_pi (v_ist ((hr 505)))
theorem tX12_call_49 {X : pu_X} {r : pu_R} (hX : pu_H X mdX12_call) (hr : pu_P X.2.1 X.2.2.2.2.2.2.2.2.2.2.1 r) (hq : ∀ i pc, pu_lp i = some (327, pc) → pu_S X mdX12_call pc (r i)) : pu_S X mdX12_call 49 (kX12_call_49 r) := by
  unfold kX12_call_49
  exact z_iconst hX dX12_call_49 (by decide) (z_ist hX dX12_call_50 ((hq 505 52 hl505)))
def kX12_call_32 (r : pu_R) : pu_K := s_ild 3 (s_ifle (kX12_call_157 r) (s_push (.int (-1)) (s_ist 4 (s_ild 3 (s_ild 1 (s_icne (kX12_call_49 r) (s_ild 1 (s_push (.int (1)) (s_isub (s_ist 4 ((kX12_call_49 r))))))))))))
theorem vX12_call_32 : pu_cok2 kX12_call_32 := fun rf r hr => by
  unfold kX12_call_32
  exact v_ild (v_ifle (vX12_call_157 rf r hr) (v_pi (v_ist (v_ild (v_ild (v_icne (vX12_call_49 rf r hr) (v_ild (v_pi (v_isub (v_ist ((vX12_call_49 rf r hr))))))))))))
theorem tX12_call_32 {X : pu_X} {r : pu_R} (hX : pu_H X mdX12_call) (hr : pu_P X.2.1 X.2.2.2.2.2.2.2.2.2.2.1 r) (hq : ∀ i pc, pu_lp i = some (327, pc) → pu_S X mdX12_call pc (r i)) : pu_S X mdX12_call 32 (kX12_call_32 r) := by
  unfold kX12_call_32
  exact z_ild_n hX dX12_call_32 rfl (z_ifle hX dX12_call_33 (by decide) (tX12_call_157 hX hr hq) (z_iconst hX dX12_call_36 (by decide) (z_ist hX dX12_call_37 (z_ild_n hX dX12_call_39 rfl (z_ild_n hX dX12_call_40 rfl (z_icne hX dX12_call_41 (by decide) (tX12_call_49 hX hr hq) (z_ild_n hX dX12_call_44 rfl (z_iconst hX dX12_call_45 (by decide) (z_isub hX dX12_call_46 (z_ist hX dX12_call_47 ((tX12_call_49 hX hr hq))))))))))))
def kX12_call_30 (r : pu_R) : pu_K := s_ild 1 (s_ist 3 ((r 504)))
theorem vX12_call_30 : pu_cok2 kX12_call_30 := fun rf r hr => by
  unfold kX12_call_30
  exact v_ild (v_ist ((hr 504)))
theorem tX12_call_30 {X : pu_X} {r : pu_R} (hX : pu_H X mdX12_call) (hr : pu_P X.2.1 X.2.2.2.2.2.2.2.2.2.2.1 r) (hq : ∀ i pc, pu_lp i = some (327, pc) → pu_S X mdX12_call pc (r i)) : pu_S X mdX12_call 30 (kX12_call_30 r) := by
  unfold kX12_call_30
  exact z_ild_n hX dX12_call_30 rfl (z_ist_n hX dX12_call_31 rfl ((hq 504 32 hl504)))
def kX12_call_17 (r : pu_R) : pu_K := s_ald 0 (s_ild 1 (s_cv r 319 1 12 (s_ist 2 (s_ild 2 (s_push (.int (-1)) (s_iceq (kX12_call_30 r) (s_ild 2 (s_iret))))))))
theorem vX12_call_17 : pu_cok2 kX12_call_17 := fun rf r hr => by
  unfold kX12_call_17
  exact v_ald (v_ild (v_cv hr (v_ist (v_ild (v_pi (v_iceq (vX12_call_30 rf r hr) (v_ild (v_iret))))))))
theorem tX12_call_17 {X : pu_X} {r : pu_R} (hX : pu_H X mdX12_call) (hr : pu_P X.2.1 X.2.2.2.2.2.2.2.2.2.2.1 r) (hq : ∀ i pc, pu_lp i = some (327, pc) → pu_S X mdX12_call pc (r i)) : pu_S X mdX12_call 17 (kX12_call_17 r) := by
  unfold kX12_call_17
  exact z_ald_n hX dX12_call_17 rfl (z_ild_n hX dX12_call_18 rfl (z_cv (c := 12) hX hr dX12_call_19 hjX12_sure mwX12_sure rfl wm59_15 ⟨wm59_16, wm59_17⟩ ⟨Nat.le_of_ble_eq_true rfl, Nat.le_of_ble_eq_true rfl⟩ (z_ist_n hX dX12_call_22 rfl (z_ild_n hX dX12_call_23 rfl (z_iconst hX dX12_call_24 (by decide) (z_iceq hX dX12_call_25 (by decide) (tX12_call_30 hX hr hq) (z_ild_n hX dX12_call_28 rfl (z_iret hX dX12_call_29 rfl))))))))
def kX12_call_14 (r : pu_R) : pu_K := s_push (.int (-2)) (s_iret)
theorem vX12_call_14 : pu_cok2 kX12_call_14 := fun rf r hr => by
  unfold kX12_call_14
  exact v_pi (v_iret)
theorem tX12_call_14 {X : pu_X} {r : pu_R} (hX : pu_H X mdX12_call) (hr : pu_P X.2.1 X.2.2.2.2.2.2.2.2.2.2.1 r) (hq : ∀ i pc, pu_lp i = some (327, pc) → pu_S X mdX12_call pc (r i)) : pu_S X mdX12_call 14 (kX12_call_14 r) := by
  unfold kX12_call_14
  exact z_bipush hX dX12_call_14 (by decide) (z_iret hX dX12_call_16 rfl)
def kX12_call_0 (r : pu_R) : pu_K := s_ald 0 (s_cv r 314 0 12 (s_ifeq (kX12_call_14 r) (s_ild 1 (s_cs r 234 1 (s_ifne (kX12_call_17 r) ((kX12_call_14 r)))))))
theorem vX12_call_0 : pu_cok2 kX12_call_0 := fun rf r hr => by
  unfold kX12_call_0
  exact v_ald (v_cv hr (v_ifeq (vX12_call_14 rf r hr) (v_ild (v_cs hr (v_ifne (vX12_call_17 rf r hr) ((vX12_call_14 rf r hr)))))))
theorem tX12_call_0 {X : pu_X} {r : pu_R} (hX : pu_H X mdX12_call) (hr : pu_P X.2.1 X.2.2.2.2.2.2.2.2.2.2.1 r) (hq : ∀ i pc, pu_lp i = some (327, pc) → pu_S X mdX12_call pc (r i)) : pu_S X mdX12_call 0 (kX12_call_0 r) := by
  unfold kX12_call_0
  exact z_ald_n hX dX12_call_0 rfl (z_cv (c := 12) hX hr dX12_call_1 hjX12_readsAddress mwX12_readsAddress rfl wm57_20 ⟨wm57_21, wm57_22⟩ ⟨Nat.le_of_ble_eq_true rfl, Nat.le_of_ble_eq_true rfl⟩ (z_ifeq hX dX12_call_4 (by decide) (tX12_call_14 hX hr hq) (z_ild_n hX dX12_call_7 rfl (z_cs hX hr dX12_call_8 hjX12_isDay mwX12_isDay wm11_5 wm11_6 ⟨Nat.le_of_ble_eq_true rfl, Nat.le_of_ble_eq_true rfl⟩ (z_ifne hX dX12_call_11 (by decide) (tX12_call_17 hX hr hq) ((tX12_call_14 hX hr hq)))))))
def kX12_ended_0 (r : pu_R) : pu_K := s_ald 0 (s_gr 12 0 (s_push (.int (16)) (s_ai 1 (s_iret))))
theorem vX12_ended_0 : pu_cok2 kX12_ended_0 := fun rf r hr => by
  unfold kX12_ended_0
  exact v_ald (v_gr (v_pi (v_ai (v_iret))))
theorem tX12_ended_0 {X : pu_X} {r : pu_R} (hX : pu_H X mdX12_ended) (hr : pu_P X.2.1 X.2.2.2.2.2.2.2.2.2.2.1 r) (hq : ∀ i pc, pu_lp i = some (328, pc) → pu_S X mdX12_ended pc (r i)) : pu_S X mdX12_ended 0 (kX12_ended_0 r) := by
  unfold kX12_ended_0
  exact z_ald_n hX dX12_ended_0 rfl (z_gr (c := 12) (j := 0) hX dX12_ended_1 rfl inlX12 wm7_16 ⟨rfl, by decide, rfl⟩ (z_bipush hX dX12_ended_4 (by decide) (z_iald hX dX12_ended_6 (z_iret hX dX12_ended_7 rfl))))
