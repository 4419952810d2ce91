def kX12_letter_45 (r : pu_R) : pu_K := s_ald 0 (s_gr 12 0 (s_push (.int (59528)) (s_ald 0 (s_gr 12 0 (s_push (.int (10)) (s_ai 1 (s_iadd (s_ild 2 (s_wi 1 (s_ald 0 (s_gr 12 0 (s_push (.int (10)) (s_dup2 (s_ai 1 (s_push (.int (1)) (s_iadd (s_wi 1 (s_ald 0 (s_gr 12 0 (s_push (.int (10)) (s_ai 1 (s_iret))))))))))))))))))))))
theorem vX12_letter_45 : pu_cok2 kX12_letter_45 := fun rf r hr => by
  unfold kX12_letter_45
  exact v_ald (v_gr (v_pi (v_ald (v_gr (v_pi (v_ai (v_iadd (v_ild (v_wi (v_ald (v_gr (v_pi (v_dup2 (v_ai (v_pi (v_iadd (v_wi (v_ald (v_gr (v_pi (v_ai (v_iret))))))))))))))))))))))
theorem tX12_letter_45 {X : pu_X} {r : pu_R} (hX : pu_H X mdX12_letter) (hr : pu_P X.2.1 X.2.2.2.2.2.2.2.2.2.2.1 r) (hq : ∀ i pc, pu_lp i = some (329, pc) → pu_S X mdX12_letter pc (r i)) : pu_S X mdX12_letter 45 (kX12_letter_45 r) := by
  unfold kX12_letter_45
  exact z_ald_n hX dX12_letter_45 rfl (z_gr (c := 12) (j := 0) hX dX12_letter_46 rfl inlX12 wm7_16 ⟨rfl, by decide, rfl⟩ (z_ldcw hX dX12_letter_49 wm70_6 (z_ald_n hX dX12_letter_52 rfl (z_gr (c := 12) (j := 0) hX dX12_letter_53 rfl inlX12 wm7_16 ⟨rfl, by decide, rfl⟩ (z_bipush hX dX12_letter_56 (by decide) (z_iald hX dX12_letter_58 (z_iadd hX dX12_letter_59 (z_ild_n hX dX12_letter_60 rfl (z_iast hX dX12_letter_61 (z_ald_n hX dX12_letter_62 rfl (z_gr (c := 12) (j := 0) hX dX12_letter_63 rfl inlX12 wm7_16 ⟨rfl, by decide, rfl⟩ (z_bipush hX dX12_letter_66 (by decide) (z_dup2 hX dX12_letter_68 (z_iald hX dX12_letter_69 (z_iconst hX dX12_letter_70 (by decide) (z_iadd hX dX12_letter_71 (z_iast hX dX12_letter_72 (z_ald_n hX dX12_letter_73 rfl (z_gr (c := 12) (j := 0) hX dX12_letter_74 rfl inlX12 wm7_16 ⟨rfl, by decide, rfl⟩ (z_bipush hX dX12_letter_77 (by decide) (z_iald hX dX12_letter_79 (z_iret hX dX12_letter_80 rfl))))))))))))))))))))))
def kX12_letter_30 (r : pu_R) : pu_K := s_ald 0 (s_gr 12 0 (s_push (.int (10)) (s_ai 1 (s_push (.int (60)) (s_icne (kX12_letter_45 r) (s_push (.int (-6)) (s_iret)))))))
theorem vX12_letter_30 : pu_cok2 kX12_letter_30 := fun rf r hr => by
  unfold kX12_letter_30
  exact v_ald (v_gr (v_pi (v_ai (v_pi (v_icne (vX12_letter_45 rf r hr) (v_pi (v_iret)))))))
theorem tX12_letter_30 {X : pu_X} {r : pu_R} (hX : pu_H X mdX12_letter) (hr : pu_P X.2.1 X.2.2.2.2.2.2.2.2.2.2.1 r) (hq : ∀ i pc, pu_lp i = some (329, pc) → pu_S X mdX12_letter pc (r i)) : pu_S X mdX12_letter 30 (kX12_letter_30 r) := by
  unfold kX12_letter_30
  exact z_ald_n hX dX12_letter_30 rfl (z_gr (c := 12) (j := 0) hX dX12_letter_31 rfl inlX12 wm7_16 ⟨rfl, by decide, rfl⟩ (z_bipush hX dX12_letter_34 (by decide) (z_iald hX dX12_letter_36 (z_bipush hX dX12_letter_37 (by decide) (z_icne hX dX12_letter_39 (by decide) (tX12_letter_45 hX hr hq) (z_bipush hX dX12_letter_42 (by decide) (z_iret hX dX12_letter_44 rfl)))))))
def kX12_letter_17 (r : pu_R) : pu_K := s_ald 0 (s_ild 1 (s_cv r 319 1 12 (s_ist 2 (s_ild 2 (s_push (.int (-1)) (s_icne (kX12_letter_30 r) (s_push (.int (-1)) (s_iret))))))))
theorem vX12_letter_17 : pu_cok2 kX12_letter_17 := fun rf r hr => by
  unfold kX12_letter_17
  exact v_ald (v_ild (v_cv hr (v_ist (v_ild (v_pi (v_icne (vX12_letter_30 rf r hr) (v_pi (v_iret))))))))
theorem tX12_letter_17 {X : pu_X} {r : pu_R} (hX : pu_H X mdX12_letter) (hr : pu_P X.2.1 X.2.2.2.2.2.2.2.2.2.2.1 r) (hq : ∀ i pc, pu_lp i = some (329, pc) → pu_S X mdX12_letter pc (r i)) : pu_S X mdX12_letter 17 (kX12_letter_17 r) := by
  unfold kX12_letter_17
  exact z_ald_n hX dX12_letter_17 rfl (z_ild_n hX dX12_letter_18 rfl (z_cv (c := 12) hX hr dX12_letter_19 hjX12_sure mwX12_sure rfl wm59_15 ⟨wm59_16, wm59_17⟩ ⟨Nat.le_of_ble_eq_true rfl, Nat.le_of_ble_eq_true rfl⟩ (z_ist_n hX dX12_letter_22 rfl (z_ild_n hX dX12_letter_23 rfl (z_iconst hX dX12_letter_24 (by decide) (z_icne hX dX12_letter_25 (by decide) (tX12_letter_30 hX hr hq) (z_iconst hX dX12_letter_28 (by decide) (z_iret hX dX12_letter_29 rfl))))))))
def kX12_letter_14 (r : pu_R) : pu_K := s_push (.int (-2)) (s_iret)
theorem vX12_letter_14 : pu_cok2 kX12_letter_14 := fun rf r hr => by
  unfold kX12_letter_14
  exact v_pi (v_iret)
theorem tX12_letter_14 {X : pu_X} {r : pu_R} (hX : pu_H X mdX12_letter) (hr : pu_P X.2.1 X.2.2.2.2.2.2.2.2.2.2.1 r) (hq : ∀ i pc, pu_lp i = some (329, pc) → pu_S X mdX12_letter pc (r i)) : pu_S X mdX12_letter 14 (kX12_letter_14 r) := by
  unfold kX12_letter_14
  exact z_bipush hX dX12_letter_14 (by decide) (z_iret hX dX12_letter_16 rfl)
def kX12_letter_0 (r : pu_R) : pu_K := s_ald 0 (s_cv r 314 0 12 (s_ifeq (kX12_letter_14 r) (s_ild 1 (s_cs r 234 1 (s_ifne (kX12_letter_17 r) ((kX12_letter_14 r)))))))
theorem vX12_letter_0 : pu_cok2 kX12_letter_0 := fun rf r hr => by
  unfold kX12_letter_0
  exact v_ald (v_cv hr (v_ifeq (vX12_letter_14 rf r hr) (v_ild (v_cs hr (v_ifne (vX12_letter_17 rf r hr) ((vX12_letter_14 rf r hr)))))))
theorem tX12_letter_0 {X : pu_X} {r : pu_R} (hX : pu_H X mdX12_letter) (hr : pu_P X.2.1 X.2.2.2.2.2.2.2.2.2.2.1 r) (hq : ∀ i pc, pu_lp i = some (329, pc) → pu_S X mdX12_letter pc (r i)) : pu_S X mdX12_letter 0 (kX12_letter_0 r) := by
  unfold kX12_letter_0
  exact z_ald_n hX dX12_letter_0 rfl (z_cv (c := 12) hX hr dX12_letter_1 hjX12_readsAddress mwX12_readsAddress rfl wm57_20 ⟨wm57_21, wm57_22⟩ ⟨Nat.le_of_ble_eq_true rfl, Nat.le_of_ble_eq_true rfl⟩ (z_ifeq hX dX12_letter_4 (by decide) (tX12_letter_14 hX hr hq) (z_ild_n hX dX12_letter_7 rfl (z_cs hX hr dX12_letter_8 hjX12_isDay mwX12_isDay wm11_5 wm11_6 ⟨Nat.le_of_ble_eq_true rfl, Nat.le_of_ble_eq_true rfl⟩ (z_ifne hX dX12_letter_11 (by decide) (tX12_letter_17 hX hr hq) ((tX12_letter_14 hX hr hq)))))))
def kX12_about_143 (r : pu_R) : pu_K := s_push (.int (-1)) (s_iret)
theorem vX12_about_143 : pu_cok2 kX12_about_143 := fun rf r hr => by
  unfold kX12_about_143
  exact v_pi (v_iret)
theorem tX12_about_143 {X : pu_X} {r : pu_R} (hX : pu_H X mdX12_about) (hr : pu_P X.2.1 X.2.2.2.2.2.2.2.2.2.2.1 r) (hq : ∀ i pc, pu_lp i = some (330, pc) → pu_S X mdX12_about pc (r i)) : pu_S X mdX12_about 143 (kX12_about_143 r) := by
  unfold kX12_about_143
  exact z_iconst hX dX12_about_143 (by decide) (z_iret hX dX12_about_144 rfl)
def kX12_about_135 (r : pu_R) : pu_K := s_ald 0 (s_ild 1 (s_push (.int (8)) (s_cv r 265 2 12 (s_iret))))
theorem vX12_about_135 : pu_cok2 kX12_about_135 := fun rf r hr => by
  unfold kX12_about_135
  exact v_ald (v_ild (v_pi (v_cv hr (v_iret))))
theorem tX12_about_135 {X : pu_X} {r : pu_R} (hX : pu_H X mdX12_about) (hr : pu_P X.2.1 X.2.2.2.2.2.2.2.2.2.2.1 r) (hq : ∀ i pc, pu_lp i = some (330, pc) → pu_S X mdX12_about pc (r i)) : pu_S X mdX12_about 135 (kX12_about_135 r) := by
  unfold kX12_about_135
  exact z_ald_n hX dX12_about_135 rfl (z_ild_n hX dX12_about_136 rfl (z_bipush hX dX12_about_137 (by decide) (z_cv (c := 12) hX hr dX12_about_139 hjX12_of mwX12_of rfl wm30_3 ⟨wm30_4, wm30_5⟩ ⟨Nat.le_of_ble_eq_true rfl, Nat.le_of_ble_eq_true rfl⟩ (z_iret hX dX12_about_142 rfl))))
def kX12_about_127 (r : pu_R) : pu_K := s_ald 0 (s_ild 1 (s_push (.int (7)) (s_cv r 265 2 12 (s_iret))))
theorem vX12_about_127 : pu_cok2 kX12_about_127 := fun rf r hr => by
  unfold kX12_about_127
  exact v_ald (v_ild (v_pi (v_cv hr (v_iret))))
theorem tX12_about_127 {X : pu_X} {r : pu_R} (hX : pu_H X mdX12_about) (hr : pu_P X.2.1 X.2.2.2.2.2.2.2.2.2.2.1 r) (hq : ∀ i pc, pu_lp i = some (330, pc) → pu_S X mdX12_about pc (r i)) : pu_S X mdX12_about 127 (kX12_about_127 r) := by
  unfold kX12_about_127
  exact z_ald_n hX dX12_about_127 rfl (z_ild_n hX dX12_about_128 rfl (z_bipush hX dX12_about_129 (by decide) (z_cv (c := 12) hX hr dX12_about_131 hjX12_of mwX12_of rfl wm30_3 ⟨wm30_4, wm30_5⟩ ⟨Nat.le_of_ble_eq_true rfl, Nat.le_of_ble_eq_true rfl⟩ (z_iret hX dX12_about_134 rfl))))
def kX12_about_126 (r : pu_R) : pu_K := s_iret
theorem vX12_about_126 : pu_cok2 kX12_about_126 := fun rf r hr => by
  unfold kX12_about_126
  exact v_iret
theorem tX12_about_126 {X : pu_X} {r : pu_R} (hX : pu_H X mdX12_about) (hr : pu_P X.2.1 X.2.2.2.2.2.2.2.2.2.2.1 r) (hq : ∀ i pc, pu_lp i = some (330, pc) → pu_S X mdX12_about pc (r i)) : pu_S X mdX12_about 126 (kX12_about_126 r) := by
  unfold kX12_about_126
  exact z_iret hX dX12_about_126 rfl
def kX12_about_125 (r : pu_R) : pu_K := s_push (.int (-1)) ((kX12_about_126 r))
theorem vX12_about_125 : pu_cok2 kX12_about_125 := fun rf r hr => by
  unfold kX12_about_125
  exact v_pi ((vX12_about_126 rf r hr))
theorem tX12_about_125 {X : pu_X} {r : pu_R} (hX : pu_H X mdX12_about) (hr : pu_P X.2.1 X.2.2.2.2.2.2.2.2.2.2.1 r) (hq : ∀ i pc, pu_lp i = some (330, pc) → pu_S X mdX12_about pc (r i)) : pu_S X mdX12_about 125 (kX12_about_125 r) := by
  unfold kX12_about_125
  exact z_iconst hX dX12_about_125 (by decide) ((tX12_about_126 hX hr hq))
def kX12_about_110 (r : pu_R) : pu_K := s_ild 3 (s_ifeq (kX12_about_125 r) (s_ald 0 (s_ild 1 (s_ild 2 (s_push (.int (1)) (s_isub (s_cv r 265 2 12 ((kX12_about_126 r)))))))))
theorem vX12_about_110 : pu_cok2 kX12_about_110 := fun rf r hr => by
  unfold kX12_about_110
  exact v_ild (v_ifeq (vX12_about_125 rf r hr) (v_ald (v_ild (v_ild (v_pi (v_isub (v_cv hr ((vX12_about_126 rf r hr)))))))))
theorem tX12_about_110 {X : pu_X} {r : pu_R} (hX : pu_H X mdX12_about) (hr : pu_P X.2.1 X.2.2.2.2.2.2.2.2.2.2.1 r) (hq : ∀ i pc, pu_lp i = some (330, pc) → pu_S X mdX12_about pc (r i)) : pu_S X mdX12_about 110 (kX12_about_110 r) := by
  unfold kX12_about_110
  exact z_ild_n hX dX12_about_110 rfl (z_ifeq hX dX12_about_111 (by decide) (tX12_about_125 hX hr hq) (z_ald_n hX dX12_about_114 rfl (z_ild_n hX dX12_about_115 rfl (z_ild_n hX dX12_about_116 rfl (z_iconst hX dX12_about_117 (by decide) (z_isub hX dX12_about_118 (z_cv (c := 12) hX hr dX12_about_119 hjX12_of mwX12_of rfl wm30_3 ⟨wm30_4, wm30_5⟩ ⟨Nat.le_of_ble_eq_true rfl, Nat.le_of_ble_eq_true rfl⟩ ((z_goto hX dX12_about_122 (by decide) (tX12_about_126 hX hr hq))))))))))
def kX12_about_109 (r : pu_R) : pu_K := s_iret
theorem vX12_about_109 : pu_cok2 kX12_about_109 := fun rf r hr => by
  unfold kX12_about_109
  exact v_iret
theorem tX12_about_109 {X : pu_X} {r : pu_R} (hX : pu_H X mdX12_about) (hr : pu_P X.2.1 X.2.2.2.2.2.2.2.2.2.2.1 r) (hq : ∀ i pc, pu_lp i = some (330, pc) → pu_S X mdX12_about pc (r i)) : pu_S X mdX12_about 109 (kX12_about_109 r) := by
  unfold kX12_about_109
  exact z_iret hX dX12_about_109 rfl
def kX12_about_108 (r : pu_R) : pu_K := s_push (.int (-1)) ((kX12_about_109 r))
theorem vX12_about_108 : pu_cok2 kX12_about_108 := fun rf r hr => by
  unfold kX12_about_108
  exact v_pi ((vX12_about_109 rf r hr))
theorem tX12_about_108 {X : pu_X} {r : pu_R} (hX : pu_H X mdX12_about) (hr : pu_P X.2.1 X.2.2.2.2.2.2.2.2.2.2.1 r) (hq : ∀ i pc, pu_lp i = some (330, pc) → pu_S X mdX12_about pc (r i)) : pu_S X mdX12_about 108 (kX12_about_108 r) := by
  unfold kX12_about_108
  exact z_iconst hX dX12_about_108 (by decide) ((tX12_about_109 hX hr hq))
def kX12_about_93 (r : pu_R) : pu_K := s_ild 3 (s_ifeq (kX12_about_108 r) (s_ald 0 (s_ild 1 (s_ild 2 (s_push (.int (1)) (s_isub (s_cv r 265 2 12 ((kX12_about_109 r)))))))))
theorem vX12_about_93 : pu_cok2 kX12_about_93 := fun rf r hr => by
  unfold kX12_about_93
  exact v_ild (v_ifeq (vX12_about_108 rf r hr) (v_ald (v_ild (v_ild (v_pi (v_isub (v_cv hr ((vX12_about_109 rf r hr)))))))))
theorem tX12_about_93 {X : pu_X} {r : pu_R} (hX : pu_H X mdX12_about) (hr : pu_P X.2.1 X.2.2.2.2.2.2.2.2.2.2.1 r) (hq : ∀ i pc, pu_lp i = some (330, pc) → pu_S X mdX12_about pc (r i)) : pu_S X mdX12_about 93 (kX12_about_93 r) := by
  unfold kX12_about_93
  exact z_ild_n hX dX12_about_93 rfl (z_ifeq hX dX12_about_94 (by decide) (tX12_about_108 hX hr hq) (z_ald_n hX dX12_about_97 rfl (z_ild_n hX dX12_about_98 rfl (z_ild_n hX dX12_about_99 rfl (z_iconst hX dX12_about_100 (by decide) (z_isub hX dX12_about_101 (z_cv (c := 12) hX hr dX12_about_102 hjX12_of mwX12_of rfl wm30_3 ⟨wm30_4, wm30_5⟩ ⟨Nat.le_of_ble_eq_true rfl, Nat.le_of_ble_eq_true rfl⟩ ((z_goto hX dX12_about_105 (by decide) (tX12_about_109 hX hr hq))))))))))
def kX12_about_87 (r : pu_R) : pu_K := s_ald 0 (s_ild 1 (s_cv r 271 1 12 (s_iret)))
theorem vX12_about_87 : pu_cok2 kX12_about_87 := fun rf r hr => by
  unfold kX12_about_87
  exact v_ald (v_ild (v_cv hr (v_iret)))
theorem tX12_about_87 {X : pu_X} {r : pu_R} (hX : pu_H X mdX12_about) (hr : pu_P X.2.1 X.2.2.2.2.2.2.2.2.2.2.1 r) (hq : ∀ i pc, pu_lp i = some (330, pc) → pu_S X mdX12_about pc (r i)) : pu_S X mdX12_about 87 (kX12_about_87 r) := by
  unfold kX12_about_87
  exact z_ald_n hX dX12_about_87 rfl (z_ild_n hX dX12_about_88 rfl (z_cv (c := 12) hX hr dX12_about_89 hjX12_front mwX12_front rfl wm35_0 ⟨wm35_1, wm35_2⟩ ⟨Nat.le_of_ble_eq_true rfl, Nat.le_of_ble_eq_true rfl⟩ (z_iret hX dX12_about_92 rfl)))
def kX12_about_80 (r : pu_R) : pu_K := s_ald 0 (s_ild 1 (s_push (.int (0)) (s_cv r 265 2 12 (s_iret))))
theorem vX12_about_80 : pu_cok2 kX12_about_80 := fun rf r hr => by
  unfold kX12_about_80
  exact v_ald (v_ild (v_pi (v_cv hr (v_iret))))
theorem tX12_about_80 {X : pu_X} {r : pu_R} (hX : pu_H X mdX12_about) (hr : pu_P X.2.1 X.2.2.2.2.2.2.2.2.2.2.1 r) (hq : ∀ i pc, pu_lp i = some (330, pc) → pu_S X mdX12_about pc (r i)) : pu_S X mdX12_about 80 (kX12_about_80 r) := by
  unfold kX12_about_80
  exact z_ald_n hX dX12_about_80 rfl (z_ild_n hX dX12_about_81 rfl (z_iconst hX dX12_about_82 (by decide) (z_cv (c := 12) hX hr dX12_about_83 hjX12_of mwX12_of rfl wm30_3 ⟨wm30_4, wm30_5⟩ ⟨Nat.le_of_ble_eq_true rfl, Nat.le_of_ble_eq_true rfl⟩ (z_iret hX dX12_about_86 rfl))))
def kX12_about_25 (r : pu_R) : pu_K := s_ist 3 (s_ild 2 (s_sw (0) [(kX12_about_80 r), (kX12_about_87 r), (kX12_about_93 r), (kX12_about_93 r), (kX12_about_93 r), (kX12_about_110 r), (kX12_about_110 r), (kX12_about_110 r), (kX12_about_127 r), (kX12_about_135 r)] (kX12_about_143 r)))
theorem vX12_about_25 : pu_cok2 kX12_about_25 := fun rf r hr => by
  unfold kX12_about_25
  exact v_ist (v_ild (v_sw (kfs := fun f => [(kX12_about_80 (rf f)), (kX12_about_87 (rf f)), (kX12_about_93 (rf f)), (kX12_about_93 (rf f)), (kX12_about_93 (rf f)), (kX12_about_110 (rf f)), (kX12_about_110 (rf f)), (kX12_about_110 (rf f)), (kX12_about_127 (rf f)), (kX12_about_135 (rf f))]) (fun i k hk => match i, hk with
    | 0, hk => by cases hk; exact ⟨_, fun _ => rfl, (vX12_about_80 rf r hr)⟩
    | 1, hk => by cases hk; exact ⟨_, fun _ => rfl, (vX12_about_87 rf r hr)⟩
    | 2, hk => by cases hk; exact ⟨_, fun _ => rfl, (vX12_about_93 rf r hr)⟩
    | 3, hk => by cases hk; exact ⟨_, fun _ => rfl, (vX12_about_93 rf r hr)⟩
    | 4, hk => by cases hk; exact ⟨_, fun _ => rfl, (vX12_about_93 rf r hr)⟩
    | 5, hk => by cases hk; exact ⟨_, fun _ => rfl, (vX12_about_110 rf r hr)⟩
    | 6, hk => by cases hk; exact ⟨_, fun _ => rfl, (vX12_about_110 rf r hr)⟩
    | 7, hk => by cases hk; exact ⟨_, fun _ => rfl, (vX12_about_110 rf r hr)⟩
    | 8, hk => by cases hk; exact ⟨_, fun _ => rfl, (vX12_about_127 rf r hr)⟩
    | 9, hk => by cases hk; exact ⟨_, fun _ => rfl, (vX12_about_135 rf r hr)⟩
    | q + 10, hk => by cases hk) (fun _ => rfl) (vX12_about_143 rf r hr)))
theorem tX12_about_25 {X : pu_X} {r : pu_R} (hX : pu_H X mdX12_about) (hr : pu_P X.2.1 X.2.2.2.2.2.2.2.2.2.2.1 r) (hq : ∀ i pc, pu_lp i = some (330, pc) → pu_S X mdX12_about pc (r i)) : pu_S X mdX12_about 25 (kX12_about_25 r) := by
  unfold kX12_about_25
  exact z_ist_n hX dX12_about_25 rfl (z_ild_n hX dX12_about_26 rfl (z_sw hX dX12_about_27 (by rfl) (by decide) (tX12_about_143 hX hr hq) (fun i k hk => match i, hk with
    | 0, hk => by cases hk; exact ⟨53, 80, rfl, by decide, (tX12_about_80 hX hr hq)⟩
    | 1, hk => by cases hk; exact ⟨60, 87, rfl, by decide, (tX12_about_87 hX hr hq)⟩
    | 2, hk => by cases hk; exact ⟨66, 93, rfl, by decide, (tX12_about_93 hX hr hq)⟩
    | 3, hk => by cases hk; exact ⟨66, 93, rfl, by decide, (tX12_about_93 hX hr hq)⟩
    | 4, hk => by cases hk; exact ⟨66, 93, rfl, by decide, (tX12_about_93 hX hr hq)⟩
    | 5, hk => by cases hk; exact ⟨83, 110, rfl, by decide, (tX12_about_110 hX hr hq)⟩
    | 6, hk => by cases hk; exact ⟨83, 110, rfl, by decide, (tX12_about_110 hX hr hq)⟩
    | 7, hk => by cases hk; exact ⟨83, 110, rfl, by decide, (tX12_about_110 hX hr hq)⟩
    | 8, hk => by cases hk; exact ⟨100, 127, rfl, by decide, (tX12_about_127 hX hr hq)⟩
    | 9, hk => by cases hk; exact ⟨108, 135, rfl, by decide, (tX12_about_135 hX hr hq)⟩
    | q + 10, hk => by cases hk)))
def kX12_about_24 (r : pu_R) : pu_K := s_push (.int (0)) ((kX12_about_25 r))
theorem vX12_about_24 : pu_cok2 kX12_about_24 := fun rf r hr => by
  unfold kX12_about_24
  exact v_pi ((vX12_about_25 rf r hr))
theorem tX12_about_24 {X : pu_X} {r : pu_R} (hX : pu_H X mdX12_about) (hr : pu_P X.2.1 X.2.2.2.2.2.2.2.2.2.2.1 r) (hq : ∀ i pc, pu_lp i = some (330, pc) → pu_S X mdX12_about pc (r i)) : pu_S X mdX12_about 24 (kX12_about_24 r) := by
  unfold kX12_about_24
  exact z_iconst hX dX12_about_24 (by decide) ((tX12_about_25 hX hr hq))
def kX12_about_10 (r : pu_R) : pu_K := s_ald 0 (s_ild 1 (s_push (.int (0)) (s_cv r 265 2 12 (s_push (.int (2)) (s_icge (kX12_about_24 r) (s_push (.int (1)) ((kX12_about_25 r))))))))
theorem vX12_about_10 : pu_cok2 kX12_about_10 := fun rf r hr => by
  unfold kX12_about_10
  exact v_ald (v_ild (v_pi (v_cv hr (v_pi (v_icge (vX12_about_24 rf r hr) (v_pi ((vX12_about_25 rf r hr))))))))
theorem tX12_about_10 {X : pu_X} {r : pu_R} (hX : pu_H X mdX12_about) (hr : pu_P X.2.1 X.2.2.2.2.2.2.2.2.2.2.1 r) (hq : ∀ i pc, pu_lp i = some (330, pc) → pu_S X mdX12_about pc (r i)) : pu_S X mdX12_about 10 (kX12_about_10 r) := by
  unfold kX12_about_10
  exact z_ald_n hX dX12_about_10 rfl (z_ild_n hX dX12_about_11 rfl (z_iconst hX dX12_about_12 (by decide) (z_cv (c := 12) hX hr dX12_about_13 hjX12_of mwX12_of rfl wm30_3 ⟨wm30_4, wm30_5⟩ ⟨Nat.le_of_ble_eq_true rfl, Nat.le_of_ble_eq_true rfl⟩ (z_iconst hX dX12_about_16 (by decide) (z_icge hX dX12_about_17 (by decide) (tX12_about_24 hX hr hq) (z_iconst hX dX12_about_20 (by decide) ((z_goto hX dX12_about_21 (by decide) (tX12_about_25 hX hr hq)))))))))
def kX12_about_0 (r : pu_R) : pu_K := s_ald 0 (s_ild 1 (s_cv r 264 1 12 (s_ifne (kX12_about_10 r) (s_push (.int (-1)) (s_iret)))))
theorem vX12_about_0 : pu_cok2 kX12_about_0 := fun rf r hr => by
  unfold kX12_about_0
  exact v_ald (v_ild (v_cv hr (v_ifne (vX12_about_10 rf r hr) (v_pi (v_iret)))))
theorem tX12_about_0 {X : pu_X} {r : pu_R} (hX : pu_H X mdX12_about) (hr : pu_P X.2.1 X.2.2.2.2.2.2.2.2.2.2.1 r) (hq : ∀ i pc, pu_lp i = some (330, pc) → pu_S X mdX12_about pc (r i)) : pu_S X mdX12_about 0 (kX12_about_0 r) := by
  unfold kX12_about_0
  exact z_ald_n hX dX12_about_0 rfl (z_ild_n hX dX12_about_1 rfl (z_cv (c := 12) hX hr dX12_about_2 hjX12_isDoor mwX12_isDoor rfl wm29_23 ⟨wm30_0, wm30_1⟩ ⟨Nat.le_of_ble_eq_true rfl, Nat.le_of_ble_eq_true rfl⟩ (z_ifne hX dX12_about_5 (by decide) (tX12_about_10 hX hr hq) (z_iconst hX dX12_about_8 (by decide) (z_iret hX dX12_about_9 rfl)))))
def kX12_stands_29 (r : pu_R) : pu_K := s_zret
theorem vX12_stands_29 : pu_cok2 kX12_stands_29 := fun rf r hr => by
  unfold kX12_stands_29
  exact v_zret
theorem tX12_stands_29 {X : pu_X} {r : pu_R} (hX : pu_H X mdX12_stands) (hr : pu_P X.2.1 X.2.2.2.2.2.2.2.2.2.2.1 r) (hq : ∀ i pc, pu_lp i = some (331, pc) → pu_S X mdX12_stands pc (r i)) : pu_S X mdX12_stands 29 (kX12_stands_29 r) := by
  unfold kX12_stands_29
  exact z_zret hX dX12_stands_29 rfl
def kX12_stands_28 (r : pu_R) : pu_K := s_push (.int (0)) ((kX12_stands_29 r))
theorem vX12_stands_28 : pu_cok2 kX12_stands_28 := fun rf r hr => by
  unfold kX12_stands_28
  exact v_pi ((vX12_stands_29 rf r hr))
theorem tX12_stands_28 {X : pu_X} {r : pu_R} (hX : pu_H X mdX12_stands) (hr : pu_P X.2.1 X.2.2.2.2.2.2.2.2.2.2.1 r) (hq : ∀ i pc, pu_lp i = some (331, pc) → pu_S X mdX12_stands pc (r i)) : pu_S X mdX12_stands 28 (kX12_stands_28 r) := by
  unfold kX12_stands_28
  exact z_iconst hX dX12_stands_28 (by decide) ((tX12_stands_29 hX hr hq))
def kX12_stands_0 (r : pu_R) : pu_K := s_ald 0 (s_ild 1 (s_cv r 264 1 12 (s_ifeq (kX12_stands_28 r) (s_ild 2 (s_cs r 234 1 (s_ifeq (kX12_stands_28 r) (s_ald 0 (s_ild 1 (s_ild 2 (s_cv r 315 2 12 (s_ifeq (kX12_stands_28 r) (s_push (.int (1)) ((kX12_stands_29 r))))))))))))))
theorem vX12_stands_0 : pu_cok2 kX12_stands_0 := fun rf r hr => by
  unfold kX12_stands_0
  exact v_ald (v_ild (v_cv hr (v_ifeq (vX12_stands_28 rf r hr) (v_ild (v_cs hr (v_ifeq (vX12_stands_28 rf r hr) (v_ald (v_ild (v_ild (v_cv hr (v_ifeq (vX12_stands_28 rf r hr) (v_pi ((vX12_stands_29 rf r hr))))))))))))))
theorem tX12_stands_0 {X : pu_X} {r : pu_R} (hX : pu_H X mdX12_stands) (hr : pu_P X.2.1 X.2.2.2.2.2.2.2.2.2.2.1 r) (hq : ∀ i pc, pu_lp i = some (331, pc) → pu_S X mdX12_stands pc (r i)) : pu_S X mdX12_stands 0 (kX12_stands_0 r) := by
  unfold kX12_stands_0
  exact z_ald_n hX dX12_stands_0 rfl (z_ild_n hX dX12_stands_1 rfl (z_cv (c := 12) hX hr dX12_stands_2 hjX12_isDoor mwX12_isDoor rfl wm29_23 ⟨wm30_0, wm30_1⟩ ⟨Nat.le_of_ble_eq_true rfl, Nat.le_of_ble_eq_true rfl⟩ (z_ifeq hX dX12_stands_5 (by decide) (tX12_stands_28 hX hr hq) (z_ild_n hX dX12_stands_8 rfl (z_cs hX hr dX12_stands_9 hjX12_isDay mwX12_isDay wm11_5 wm11_6 ⟨Nat.le_of_ble_eq_true rfl, Nat.le_of_ble_eq_true rfl⟩ (z_ifeq hX dX12_stands_12 (by decide) (tX12_stands_28 hX hr hq) (z_ald_n hX dX12_stands_15 rfl (z_ild_n hX dX12_stands_16 rfl (z_ild_n hX dX12_stands_17 rfl (z_cv (c := 12) hX hr dX12_stands_18 hjX12_standsOn mwX12_standsOn rfl wm47_18 ⟨wm47_19, wm47_20⟩ ⟨Nat.le_of_ble_eq_true rfl, Nat.le_of_ble_eq_true rfl⟩ (z_ifeq hX dX12_stands_21 (by decide) (tX12_stands_28 hX hr hq) (z_iconst hX dX12_stands_24 (by decide) ((z_goto hX dX12_stands_25 (by decide) (tX12_stands_29 hX hr hq)))))))))))))))
def kX12_spanOn_110 (r : pu_R) : pu_K := s_push (.int (-1)) (s_iret)
theorem vX12_spanOn_110 : pu_cok2 kX12_spanOn_110 := fun rf r hr => by
  unfold kX12_spanOn_110
  exact v_pi (v_iret)
theorem tX12_spanOn_110 {X : pu_X} {r : pu_R} (hX : pu_H X mdX12_spanOn) (hr : pu_P X.2.1 X.2.2.2.2.2.2.2.2.2.2.1 r) (hq : ∀ i pc, pu_lp i = some (332, pc) → pu_S X mdX12_spanOn pc (r i)) : pu_S X mdX12_spanOn 110 (kX12_spanOn_110 r) := by
  unfold kX12_spanOn_110
  exact z_iconst hX dX12_spanOn_110 (by decide) (z_iret hX dX12_spanOn_111 rfl)
def kX12_spanOn_104 (r : pu_R) : pu_K := s_inc 5 (1) ((r 506))
theorem vX12_spanOn_104 : pu_cok2 kX12_spanOn_104 := fun rf r hr => by
  unfold kX12_spanOn_104
  exact v_inc ((hr 506))
theorem tX12_spanOn_104 {X : pu_X} {r : pu_R} (hX : pu_H X mdX12_spanOn) (hr : pu_P X.2.1 X.2.2.2.2.2.2.2.2.2.2.1 r) (hq : ∀ i pc, pu_lp i = some (332, pc) → pu_S X mdX12_spanOn pc (r i)) : pu_S X mdX12_spanOn 104 (kX12_spanOn_104 r) := by
  unfold kX12_spanOn_104
  exact z_inc hX dX12_spanOn_104 (by decide) ((z_goto hX dX12_spanOn_107 (by decide) (hq 506 27 hl506)))
def kX12_spanOn_71 (r : pu_R) : pu_K := s_ild 2 (s_icne (kX12_spanOn_104 r) (s_ald 0 (s_ald 0 (s_gr 12 0 (s_ild 6 (s_push (.int (4)) (s_iadd (s_ai 1 (s_ald 0 (s_gr 12 0 (s_ild 6 (s_push (.int (5)) (s_iadd (s_ai 1 (s_ild 3 (s_cv r 239 3 12 (s_ifeq (kX12_spanOn_104 r) (s_ild 5 (s_iret)))))))))))))))))))
theorem vX12_spanOn_71 : pu_cok2 kX12_spanOn_71 := fun rf r hr => by
  unfold kX12_spanOn_71
  exact v_ild (v_icne (vX12_spanOn_104 rf r hr) (v_ald (v_ald (v_gr (v_ild (v_pi (v_iadd (v_ai (v_ald (v_gr (v_ild (v_pi (v_iadd (v_ai (v_ild (v_cv hr (v_ifeq (vX12_spanOn_104 rf r hr) (v_ild (v_iret)))))))))))))))))))
theorem tX12_spanOn_71 {X : pu_X} {r : pu_R} (hX : pu_H X mdX12_spanOn) (hr : pu_P X.2.1 X.2.2.2.2.2.2.2.2.2.2.1 r) (hq : ∀ i pc, pu_lp i = some (332, pc) → pu_S X mdX12_spanOn pc (r i)) : pu_S X mdX12_spanOn 71 (kX12_spanOn_71 r) := by
  unfold kX12_spanOn_71
  exact z_ild_n hX dX12_spanOn_71 rfl (z_icne hX dX12_spanOn_72 (by decide) (tX12_spanOn_104 hX hr hq) (z_ald_n hX dX12_spanOn_75 rfl (z_ald_n hX dX12_spanOn_76 rfl (z_gr (c := 12) (j := 0) hX dX12_spanOn_77 rfl inlX12 wm7_16 ⟨rfl, by decide, rfl⟩ (z_ild hX dX12_spanOn_80 (z_iconst hX dX12_spanOn_82 (by decide) (z_iadd hX dX12_spanOn_83 (z_iald hX dX12_spanOn_84 (z_ald_n hX dX12_spanOn_85 rfl (z_gr (c := 12) (j := 0) hX dX12_spanOn_86 rfl inlX12 wm7_16 ⟨rfl, by decide, rfl⟩ (z_ild hX dX12_spanOn_89 (z_iconst hX dX12_spanOn_91 (by decide) (z_iadd hX dX12_spanOn_92 (z_iald hX dX12_spanOn_93 (z_ild_n hX dX12_spanOn_94 rfl (z_cv (c := 12) hX hr dX12_spanOn_95 hjX12_holds mwX12_holds rfl wm47_22 ⟨wm47_23, wm48_0⟩ ⟨Nat.le_of_ble_eq_true rfl, Nat.le_of_ble_eq_true rfl⟩ (z_ifeq hX dX12_spanOn_98 (by decide) (tX12_spanOn_104 hX hr hq) (z_ild hX dX12_spanOn_101 (z_iret hX dX12_spanOn_103 rfl)))))))))))))))))))
def kX12_spanOn_27 (r : pu_R) : pu_K := s_ild 5 (s_ald 0 (s_gr 12 0 (s_push (.int (6)) (s_ai 1 (s_icge (kX12_spanOn_110 r) (s_push (.int (10752)) (s_push (.int (6)) (s_ild 5 (s_imul (s_iadd (s_ist 6 (s_ald 0 (s_gr 12 0 (s_ild 6 (s_ai 1 (s_ild 4 (s_icne (kX12_spanOn_104 r) (s_ald 0 (s_gr 12 0 (s_ild 6 (s_push (.int (1)) (s_iadd (s_ai 1 ((kX12_spanOn_71 r)))))))))))))))))))))))))
theorem vX12_spanOn_27 : pu_cok2 kX12_spanOn_27 := fun rf r hr => by
  unfold kX12_spanOn_27
  exact v_ild (v_ald (v_gr (v_pi (v_ai (v_icge (vX12_spanOn_110 rf r hr) (v_pi (v_pi (v_ild (v_imul (v_iadd (v_ist (v_ald (v_gr (v_ild (v_ai (v_ild (v_icne (vX12_spanOn_104 rf r hr) (v_ald (v_gr (v_ild (v_pi (v_iadd (v_ai ((vX12_spanOn_71 rf r hr)))))))))))))))))))))))))
theorem tX12_spanOn_27 {X : pu_X} {r : pu_R} (hX : pu_H X mdX12_spanOn) (hr : pu_P X.2.1 X.2.2.2.2.2.2.2.2.2.2.1 r) (hq : ∀ i pc, pu_lp i = some (332, pc) → pu_S X mdX12_spanOn pc (r i)) : pu_S X mdX12_spanOn 27 (kX12_spanOn_27 r) := by
  unfold kX12_spanOn_27
  exact z_ild hX dX12_spanOn_27 (z_ald_n hX dX12_spanOn_29 rfl (z_gr (c := 12) (j := 0) hX dX12_spanOn_30 rfl inlX12 wm7_16 ⟨rfl, by decide, rfl⟩ (z_bipush hX dX12_spanOn_33 (by decide) (z_iald hX dX12_spanOn_35 (z_icge hX dX12_spanOn_36 (by decide) (tX12_spanOn_110 hX hr hq) (z_sipush hX dX12_spanOn_39 (by decide) (z_bipush hX dX12_spanOn_42 (by decide) (z_ild hX dX12_spanOn_44 (z_imul hX dX12_spanOn_46 (z_iadd hX dX12_spanOn_47 (z_ist hX dX12_spanOn_48 (z_ald_n hX dX12_spanOn_50 rfl (z_gr (c := 12) (j := 0) hX dX12_spanOn_51 rfl inlX12 wm7_16 ⟨rfl, by decide, rfl⟩ (z_ild hX dX12_spanOn_54 (z_iald hX dX12_spanOn_56 (z_ild hX dX12_spanOn_57 (z_icne hX dX12_spanOn_59 (by decide) (tX12_spanOn_104 hX hr hq) (z_ald_n hX dX12_spanOn_62 rfl (z_gr (c := 12) (j := 0) hX dX12_spanOn_63 rfl inlX12 wm7_16 ⟨rfl, by decide, rfl⟩ (z_ild hX dX12_spanOn_66 (z_iconst hX dX12_spanOn_68 (by decide) (z_iadd hX dX12_spanOn_69 (z_iald hX dX12_spanOn_70 ((tX12_spanOn_71 hX hr hq)))))))))))))))))))))))))
def kX12_spanOn_17 (r : pu_R) : pu_K := s_ald 0 (s_ild 1 (s_cv r 271 1 12 (s_ist 4 (s_push (.int (0)) (s_ist 5 ((r 506)))))))
theorem vX12_spanOn_17 : pu_cok2 kX12_spanOn_17 := fun rf r hr => by
  unfold kX12_spanOn_17
  exact v_ald (v_ild (v_cv hr (v_ist (v_pi (v_ist ((hr 506)))))))
theorem tX12_spanOn_17 {X : pu_X} {r : pu_R} (hX : pu_H X mdX12_spanOn) (hr : pu_P X.2.1 X.2.2.2.2.2.2.2.2.2.2.1 r) (hq : ∀ i pc, pu_lp i = some (332, pc) → pu_S X mdX12_spanOn pc (r i)) : pu_S X mdX12_spanOn 17 (kX12_spanOn_17 r) := by
  unfold kX12_spanOn_17
  exact z_ald_n hX dX12_spanOn_17 rfl (z_ild_n hX dX12_spanOn_18 rfl (z_cv (c := 12) hX hr dX12_spanOn_19 hjX12_front mwX12_front rfl wm35_0 ⟨wm35_1, wm35_2⟩ ⟨Nat.le_of_ble_eq_true rfl, Nat.le_of_ble_eq_true rfl⟩ (z_ist hX dX12_spanOn_22 (z_iconst hX dX12_spanOn_24 (by decide) (z_ist hX dX12_spanOn_25 ((hq 506 27 hl506)))))))
def kX12_spanOn_15 (r : pu_R) : pu_K := s_push (.int (-1)) (s_iret)
theorem vX12_spanOn_15 : pu_cok2 kX12_spanOn_15 := fun rf r hr => by
  unfold kX12_spanOn_15
  exact v_pi (v_iret)
theorem tX12_spanOn_15 {X : pu_X} {r : pu_R} (hX : pu_H X mdX12_spanOn) (hr : pu_P X.2.1 X.2.2.2.2.2.2.2.2.2.2.1 r) (hq : ∀ i pc, pu_lp i = some (332, pc) → pu_S X mdX12_spanOn pc (r i)) : pu_S X mdX12_spanOn 15 (kX12_spanOn_15 r) := by
  unfold kX12_spanOn_15
  exact z_iconst hX dX12_spanOn_15 (by decide) (z_iret hX dX12_spanOn_16 rfl)
def kX12_spanOn_0 (r : pu_R) : pu_K := s_ald 0 (s_ild 1 (s_cv r 264 1 12 (s_ifeq (kX12_spanOn_15 r) (s_ild 3 (s_cs r 234 1 (s_ifne (kX12_spanOn_17 r) ((kX12_spanOn_15 r))))))))
theorem vX12_spanOn_0 : pu_cok2 kX12_spanOn_0 := fun rf r hr => by
  unfold kX12_spanOn_0
  exact v_ald (v_ild (v_cv hr (v_ifeq (vX12_spanOn_15 rf r hr) (v_ild (v_cs hr (v_ifne (vX12_spanOn_17 rf r hr) ((vX12_spanOn_15 rf r hr))))))))
theorem tX12_spanOn_0 {X : pu_X} {r : pu_R} (hX : pu_H X mdX12_spanOn) (hr : pu_P X.2.1 X.2.2.2.2.2.2.2.2.2.2.1 r) (hq : ∀ i pc, pu_lp i = some (332, pc) → pu_S X mdX12_spanOn pc (r i)) : pu_S X mdX12_spanOn 0 (kX12_spanOn_0 r) := by
  unfold kX12_spanOn_0
  exact z_ald_n hX dX12_spanOn_0 rfl (z_ild_n hX dX12_spanOn_1 rfl (z_cv (c := 12) hX hr dX12_spanOn_2 hjX12_isDoor mwX12_isDoor rfl wm29_23 ⟨wm30_0, wm30_1⟩ ⟨Nat.le_of_ble_eq_true rfl, Nat.le_of_ble_eq_true rfl⟩ (z_ifeq hX dX12_spanOn_5 (by decide) (tX12_spanOn_15 hX hr hq) (z_ild_n hX dX12_spanOn_8 rfl (z_cs hX hr dX12_spanOn_9 hjX12_isDay mwX12_isDay wm11_5 wm11_6 ⟨Nat.le_of_ble_eq_true rfl, Nat.le_of_ble_eq_true rfl⟩ (z_ifne hX dX12_spanOn_12 (by decide) (tX12_spanOn_17 hX hr hq) ((tX12_spanOn_15 hX hr hq))))))))
def kX12_number_127 (r : pu_R) : pu_K := s_iret
theorem vX12_number_127 : pu_cok2 kX12_number_127 := fun rf r hr => by
  unfold kX12_number_127
  exact v_iret
theorem tX12_number_127 {X : pu_X} {r : pu_R} (hX : pu_H X mdX12_number) (hr : pu_P X.2.1 X.2.2.2.2.2.2.2.2.2.2.1 r) (hq : ∀ i pc, pu_lp i = some (333, pc) → pu_S X mdX12_number pc (r i)) : pu_S X mdX12_number 127 (kX12_number_127 r) := by
  unfold kX12_number_127
  exact z_iret hX dX12_number_127 rfl
def kX12_number_126 (r : pu_R) : pu_K := s_push (.int (-1)) ((kX12_number_127 r))
theorem vX12_number_126 : pu_cok2 kX12_number_126 := fun rf r hr => by
  unfold kX12_number_126
  exact v_pi ((vX12_number_127 rf r hr))
theorem tX12_number_126 {X : pu_X} {r : pu_R} (hX : pu_H X mdX12_number) (hr : pu_P X.2.1 X.2.2.2.2.2.2.2.2.2.2.1 r) (hq : ∀ i pc, pu_lp i = some (333, pc) → pu_S X mdX12_number pc (r i)) : pu_S X mdX12_number 126 (kX12_number_126 r) := by
  unfold kX12_number_126
  exact z_iconst hX dX12_number_126 (by decide) ((tX12_number_127 hX hr hq))
def kX12_number_97 (r : pu_R) : pu_K := s_ist 7 (s_ild 4 (s_push (.int (2)) (s_icne (kX12_number_126 r) (s_ild 7 (s_ifne (kX12_number_126 r) (s_ald 0 (s_ald 0 (s_gr 12 0 (s_ild 6 (s_push (.int (5)) (s_iadd (s_ai 1 (s_cv r 238 1 12 ((kX12_number_127 r)))))))))))))))
theorem vX12_number_97 : pu_cok2 kX12_number_97 := fun rf r hr => by
  unfold kX12_number_97
  exact v_ist (v_ild (v_pi (v_icne (vX12_number_126 rf r hr) (v_ild (v_ifne (vX12_number_126 rf r hr) (v_ald (v_ald (v_gr (v_ild (v_pi (v_iadd (v_ai (v_cv hr ((vX12_number_127 rf r hr)))))))))))))))
theorem tX12_number_97 {X : pu_X} {r : pu_R} (hX : pu_H X mdX12_number) (hr : pu_P X.2.1 X.2.2.2.2.2.2.2.2.2.2.1 r) (hq : ∀ i pc, pu_lp i = some (333, pc) → pu_S X mdX12_number pc (r i)) : pu_S X mdX12_number 97 (kX12_number_97 r) := by
  unfold kX12_number_97
  exact z_ist hX dX12_number_97 (z_ild hX dX12_number_99 (z_iconst hX dX12_number_101 (by decide) (z_icne hX dX12_number_102 (by decide) (tX12_number_126 hX hr hq) (z_ild hX dX12_number_105 (z_ifne hX dX12_number_107 (by decide) (tX12_number_126 hX hr hq) (z_ald_n hX dX12_number_110 rfl (z_ald_n hX dX12_number_111 rfl (z_gr (c := 12) (j := 0) hX dX12_number_112 rfl inlX12 wm7_16 ⟨rfl, by decide, rfl⟩ (z_ild hX dX12_number_115 (z_iconst hX dX12_number_117 (by decide) (z_iadd hX dX12_number_118 (z_iald hX dX12_number_119 (z_cv (c := 12) hX hr dX12_number_120 hjX12_from mwX12_from rfl wm21_4 ⟨wm21_5, wm21_6⟩ ⟨Nat.le_of_ble_eq_true rfl, Nat.le_of_ble_eq_true rfl⟩ ((z_goto hX dX12_number_123 (by decide) (tX12_number_127 hX hr hq))))))))))))))))
def kX12_number_96 (r : pu_R) : pu_K := s_push (.int (0)) ((kX12_number_97 r))
theorem vX12_number_96 : pu_cok2 kX12_number_96 := fun rf r hr => by
  unfold kX12_number_96
  exact v_pi ((vX12_number_97 rf r hr))
theorem tX12_number_96 {X : pu_X} {r : pu_R} (hX : pu_H X mdX12_number) (hr : pu_P X.2.1 X.2.2.2.2.2.2.2.2.2.2.1 r) (hq : ∀ i pc, pu_lp i = some (333, pc) → pu_S X mdX12_number pc (r i)) : pu_S X mdX12_number 96 (kX12_number_96 r) := by
  unfold kX12_number_96
  exact z_iconst hX dX12_number_96 (by decide) ((tX12_number_97 hX hr hq))
def kX12_number_92 (r : pu_R) : pu_K := s_push (.int (1)) ((kX12_number_97 r))
theorem vX12_number_92 : pu_cok2 kX12_number_92 := fun rf r hr => by
  unfold kX12_number_92
  exact v_pi ((vX12_number_97 rf r hr))
theorem tX12_number_92 {X : pu_X} {r : pu_R} (hX : pu_H X mdX12_number) (hr : pu_P X.2.1 X.2.2.2.2.2.2.2.2.2.2.1 r) (hq : ∀ i pc, pu_lp i = some (333, pc) → pu_S X mdX12_number pc (r i)) : pu_S X mdX12_number 92 (kX12_number_92 r) := by
  unfold kX12_number_92
  exact z_iconst hX dX12_number_92 (by decide) ((z_goto hX dX12_number_93 (by decide) (tX12_number_97 hX hr hq)))
def kX12_number_63 (r : pu_R) : pu_K := s_ald 0 (s_gr 12 0 (s_ild 6 (s_push (.int (5)) (s_iadd (s_ai 1 (s_push (.int (-1)) (s_iceq (kX12_number_92 r) (s_ald 0 (s_ald 0 (s_gr 12 0 (s_ild 6 (s_push (.int (5)) (s_iadd (s_ai 1 (s_cv r 237 1 12 (s_ifne (kX12_number_96 r) ((kX12_number_92 r))))))))))))))))))
theorem vX12_number_63 : pu_cok2 kX12_number_63 := fun rf r hr => by
  unfold kX12_number_63
  exact v_ald (v_gr (v_ild (v_pi (v_iadd (v_ai (v_pi (v_iceq (vX12_number_92 rf r hr) (v_ald (v_ald (v_gr (v_ild (v_pi (v_iadd (v_ai (v_cv hr (v_ifne (vX12_number_96 rf r hr) ((vX12_number_92 rf r hr))))))))))))))))))
theorem tX12_number_63 {X : pu_X} {r : pu_R} (hX : pu_H X mdX12_number) (hr : pu_P X.2.1 X.2.2.2.2.2.2.2.2.2.2.1 r) (hq : ∀ i pc, pu_lp i = some (333, pc) → pu_S X mdX12_number pc (r i)) : pu_S X mdX12_number 63 (kX12_number_63 r) := by
  unfold kX12_number_63
  exact z_ald_n hX dX12_number_63 rfl (z_gr (c := 12) (j := 0) hX dX12_number_64 rfl inlX12 wm7_16 ⟨rfl, by decide, rfl⟩ (z_ild hX dX12_number_67 (z_iconst hX dX12_number_69 (by decide) (z_iadd hX dX12_number_70 (z_iald hX dX12_number_71 (z_iconst hX dX12_number_72 (by decide) (z_iceq hX dX12_number_73 (by decide) (tX12_number_92 hX hr hq) (z_ald_n hX dX12_number_76 rfl (z_ald_n hX dX12_number_77 rfl (z_gr (c := 12) (j := 0) hX dX12_number_78 rfl inlX12 wm7_16 ⟨rfl, by decide, rfl⟩ (z_ild hX dX12_number_81 (z_iconst hX dX12_number_83 (by decide) (z_iadd hX dX12_number_84 (z_iald hX dX12_number_85 (z_cv (c := 12) hX hr dX12_number_86 hjX12_isKnown mwX12_isKnown rfl wm48_2 ⟨wm48_3, wm48_4⟩ ⟨Nat.le_of_ble_eq_true rfl, Nat.le_of_ble_eq_true rfl⟩ (z_ifne hX dX12_number_89 (by decide) (tX12_number_96 hX hr hq) ((tX12_number_92 hX hr hq))))))))))))))))))
def kX12_number_43 (r : pu_R) : pu_K := s_ild 4 (s_push (.int (1)) (s_icne (kX12_number_63 r) (s_ald 0 (s_ald 0 (s_gr 12 0 (s_ild 6 (s_push (.int (4)) (s_iadd (s_ai 1 (s_cv r 238 1 12 (s_iret)))))))))))
theorem vX12_number_43 : pu_cok2 kX12_number_43 := fun rf r hr => by
  unfold kX12_number_43
  exact v_ild (v_pi (v_icne (vX12_number_63 rf r hr) (v_ald (v_ald (v_gr (v_ild (v_pi (v_iadd (v_ai (v_cv hr (v_iret)))))))))))
theorem tX12_number_43 {X : pu_X} {r : pu_R} (hX : pu_H X mdX12_number) (hr : pu_P X.2.1 X.2.2.2.2.2.2.2.2.2.2.1 r) (hq : ∀ i pc, pu_lp i = some (333, pc) → pu_S X mdX12_number pc (r i)) : pu_S X mdX12_number 43 (kX12_number_43 r) := by
  unfold kX12_number_43
  exact z_ild hX dX12_number_43 (z_iconst hX dX12_number_45 (by decide) (z_icne hX dX12_number_46 (by decide) (tX12_number_63 hX hr hq) (z_ald_n hX dX12_number_49 rfl (z_ald_n hX dX12_number_50 rfl (z_gr (c := 12) (j := 0) hX dX12_number_51 rfl inlX12 wm7_16 ⟨rfl, by decide, rfl⟩ (z_ild hX dX12_number_54 (z_iconst hX dX12_number_56 (by decide) (z_iadd hX dX12_number_57 (z_iald hX dX12_number_58 (z_cv (c := 12) hX hr dX12_number_59 hjX12_from mwX12_from rfl wm21_4 ⟨wm21_5, wm21_6⟩ ⟨Nat.le_of_ble_eq_true rfl, Nat.le_of_ble_eq_true rfl⟩ (z_iret hX dX12_number_62 rfl)))))))))))
def kX12_number_17 (r : pu_R) : pu_K := s_push (.int (10752)) (s_push (.int (6)) (s_ild 5 (s_imul (s_iadd (s_ist 6 (s_ild 4 (s_ifne (kX12_number_43 r) (s_ald 0 (s_gr 12 0 (s_ild 6 (s_push (.int (3)) (s_iadd (s_ai 1 (s_iret))))))))))))))
theorem vX12_number_17 : pu_cok2 kX12_number_17 := fun rf r hr => by
  unfold kX12_number_17
  exact v_pi (v_pi (v_ild (v_imul (v_iadd (v_ist (v_ild (v_ifne (vX12_number_43 rf r hr) (v_ald (v_gr (v_ild (v_pi (v_iadd (v_ai (v_iret))))))))))))))
theorem tX12_number_17 {X : pu_X} {r : pu_R} (hX : pu_H X mdX12_number) (hr : pu_P X.2.1 X.2.2.2.2.2.2.2.2.2.2.1 r) (hq : ∀ i pc, pu_lp i = some (333, pc) → pu_S X mdX12_number pc (r i)) : pu_S X mdX12_number 17 (kX12_number_17 r) := by
  unfold kX12_number_17
  exact z_sipush hX dX12_number_17 (by decide) (z_bipush hX dX12_number_20 (by decide) (z_ild hX dX12_number_22 (z_imul hX dX12_number_24 (z_iadd hX dX12_number_25 (z_ist hX dX12_number_26 (z_ild hX dX12_number_28 (z_ifne hX dX12_number_30 (by decide) (tX12_number_43 hX hr hq) (z_ald_n hX dX12_number_33 rfl (z_gr (c := 12) (j := 0) hX dX12_number_34 rfl inlX12 wm7_16 ⟨rfl, by decide, rfl⟩ (z_ild hX dX12_number_37 (z_iconst hX dX12_number_39 (by decide) (z_iadd hX dX12_number_40 (z_iald hX dX12_number_41 (z_iret hX dX12_number_42 rfl))))))))))))))
def kX12_number_0 (r : pu_R) : pu_K := s_ald 0 (s_ild 1 (s_ild 2 (s_ild 3 (s_cv r 332 3 12 (s_ist 5 (s_ild 5 (s_push (.int (-1)) (s_icne (kX12_number_17 r) (s_push (.int (-1)) (s_iret))))))))))
theorem vX12_number_0 : pu_cok2 kX12_number_0 := fun rf r hr => by
  unfold kX12_number_0
  exact v_ald (v_ild (v_ild (v_ild (v_cv hr (v_ist (v_ild (v_pi (v_icne (vX12_number_17 rf r hr) (v_pi (v_iret))))))))))
theorem tX12_number_0 {X : pu_X} {r : pu_R} (hX : pu_H X mdX12_number) (hr : pu_P X.2.1 X.2.2.2.2.2.2.2.2.2.2.1 r) (hq : ∀ i pc, pu_lp i = some (333, pc) → pu_S X mdX12_number pc (r i)) : pu_S X mdX12_number 0 (kX12_number_0 r) := by
  unfold kX12_number_0
  exact z_ald_n hX dX12_number_0 rfl (z_ild_n hX dX12_number_1 rfl (z_ild_n hX dX12_number_2 rfl (z_ild_n hX dX12_number_3 rfl (z_cv (c := 12) hX hr dX12_number_4 hjX12_spanOn mwX12_spanOn rfl wm49_3 ⟨wm49_4, wm49_5⟩ ⟨Nat.le_of_ble_eq_true rfl, Nat.le_of_ble_eq_true rfl⟩ (z_ist hX dX12_number_7 (z_ild hX dX12_number_9 (z_iconst hX dX12_number_11 (by decide) (z_icne hX dX12_number_12 (by decide) (tX12_number_17 hX hr hq) (z_iconst hX dX12_number_15 (by decide) (z_iret hX dX12_number_16 rfl))))))))))
def kX12_put_0 (r : pu_R) : pu_K := s_ald 0 (s_gr 12 7 (s_ald 0 (s_gi 12 8 (s_ild 1 (s_i2b (s_wb (s_ald 0 (s_dup (s_gi 12 8 (s_push (.int (1)) (s_iadd (s_pi 12 8 (s_vret)))))))))))))
theorem vX12_put_0 : pu_cok2 kX12_put_0 := fun rf r hr => by
  unfold kX12_put_0
  exact v_ald (v_gr (v_ald (v_gi (v_ild (v_i2b (v_wb (v_ald (v_dup (v_gi (v_pi (v_iadd (v_puti (v_vret)))))))))))))
theorem tX12_put_0 {X : pu_X} {r : pu_R} (hX : pu_H X mdX12_put) (hr : pu_P X.2.1 X.2.2.2.2.2.2.2.2.2.2.1 r) (hq : ∀ i pc, pu_lp i = some (334, pc) → pu_S X mdX12_put pc (r i)) : pu_S X mdX12_put 0 (kX12_put_0 r) := by
  unfold kX12_put_0
  exact z_ald_n hX dX12_put_0 rfl (z_gr (c := 12) (j := 7) hX dX12_put_1 rfl inlX12 wm8_2 ⟨rfl, by decide, rfl⟩ (z_ald_n hX dX12_put_4 rfl (z_gi (c := 12) (j := 8) hX dX12_put_5 rfl inlX12 wm8_3 ⟨rfl, by decide, rfl⟩ (z_ild_n hX dX12_put_8 rfl (z_i2b hX dX12_put_9 (z_bast hX dX12_put_10 (z_ald_n hX dX12_put_11 rfl (z_dup hX dX12_put_12 (z_gi (c := 12) (j := 8) hX dX12_put_13 rfl inlX12 wm8_3 ⟨rfl, by decide, rfl⟩ (z_iconst hX dX12_put_16 (by decide) (z_iadd hX dX12_put_17 (z_pi (c := 12) (j := 8) tyX12 tyX12_ok nmX12 hX dX12_put_18 rfl inlX12 wm8_3 ⟨rfl, by decide⟩ ⟨rfl, rfl⟩ rfl (z_vret hX dX12_put_21 rfl)))))))))))))
def kX12_putName_89 (r : pu_R) : pu_K := s_vret
theorem vX12_putName_89 : pu_cok2 kX12_putName_89 := fun rf r hr => by
  unfold kX12_putName_89
  exact v_vret
theorem tX12_putName_89 {X : pu_X} {r : pu_R} (hX : pu_H X mdX12_putName) (hr : pu_P X.2.1 X.2.2.2.2.2.2.2.2.2.2.1 r) (hq : ∀ i pc, pu_lp i = some (335, pc) → pu_S X mdX12_putName pc (r i)) : pu_S X mdX12_putName 89 (kX12_putName_89 r) := by
  unfold kX12_putName_89
  exact z_vret hX dX12_putName_89 rfl
def kX12_putName_83 (r : pu_R) : pu_K := s_inc 2 (1) ((r 507))
theorem vX12_putName_83 : pu_cok2 kX12_putName_83 := fun rf r hr => by
  unfold kX12_putName_83
  exact v_inc ((hr 507))
theorem tX12_putName_83 {X : pu_X} {r : pu_R} (hX : pu_H X mdX12_putName) (hr : pu_P X.2.1 X.2.2.2.2.2.2.2.2.2.2.1 r) (hq : ∀ i pc, pu_lp i = some (335, pc) → pu_S X mdX12_putName pc (r i)) : pu_S X mdX12_putName 83 (kX12_putName_83 r) := by
  unfold kX12_putName_83
  exact z_inc hX dX12_putName_83 (by decide) ((z_goto hX dX12_putName_86 (by decide) (hq 507 2 hl507)))
def kX12_putName_45 (r : pu_R) : pu_K := s_ild 4 (s_push (.int (12)) (s_icge (kX12_putName_83 r) (s_ald 0 (s_gr 12 0 (s_ild 3 (s_ild 4 (s_iadd (s_ai 1 (s_ifeq (kX12_putName_83 r) (s_ald 0 (s_ald 0 (s_gr 12 0 (s_ild 3 (s_ild 4 (s_iadd (s_ai 1 (s_cv r 334 1 12 (s_inc 4 (1) ((r 508))))))))))))))))))))
theorem vX12_putName_45 : pu_cok2 kX12_putName_45 := fun rf r hr => by
  unfold kX12_putName_45
  exact v_ild (v_pi (v_icge (vX12_putName_83 rf r hr) (v_ald (v_gr (v_ild (v_ild (v_iadd (v_ai (v_ifeq (vX12_putName_83 rf r hr) (v_ald (v_ald (v_gr (v_ild (v_ild (v_iadd (v_ai (v_cv hr (v_inc ((hr 508))))))))))))))))))))
theorem tX12_putName_45 {X : pu_X} {r : pu_R} (hX : pu_H X mdX12_putName) (hr : pu_P X.2.1 X.2.2.2.2.2.2.2.2.2.2.1 r) (hq : ∀ i pc, pu_lp i = some (335, pc) → pu_S X mdX12_putName pc (r i)) : pu_S X mdX12_putName 45 (kX12_putName_45 r) := by
  unfold kX12_putName_45
  exact z_ild hX dX12_putName_45 (z_bipush hX dX12_putName_47 (by decide) (z_icge hX dX12_putName_49 (by decide) (tX12_putName_83 hX hr hq) (z_ald_n hX dX12_putName_52 rfl (z_gr (c := 12) (j := 0) hX dX12_putName_53 rfl inlX12 wm7_16 ⟨rfl, by decide, rfl⟩ (z_ild_n hX dX12_putName_56 rfl (z_ild hX dX12_putName_57 (z_iadd hX dX12_putName_59 (z_iald hX dX12_putName_60 (z_ifeq hX dX12_putName_61 (by decide) (tX12_putName_83 hX hr hq) (z_ald_n hX dX12_putName_64 rfl (z_ald_n hX dX12_putName_65 rfl (z_gr (c := 12) (j := 0) hX dX12_putName_66 rfl inlX12 wm7_16 ⟨rfl, by decide, rfl⟩ (z_ild_n hX dX12_putName_69 rfl (z_ild hX dX12_putName_70 (z_iadd hX dX12_putName_72 (z_iald hX dX12_putName_73 (z_cv (c := 12) hX hr dX12_putName_74 hjX12_put mwX12_put rfl wm53_8 ⟨wm53_9, wm53_10⟩ ⟨Nat.le_of_ble_eq_true rfl, Nat.le_of_ble_eq_true rfl⟩ (z_inc hX dX12_putName_77 (by decide) ((z_goto hX dX12_putName_80 (by decide) (hq 508 45 hl508)))))))))))))))))))))
def kX12_putName_42 (r : pu_R) : pu_K := s_push (.int (0)) (s_ist 4 ((r 508)))
theorem vX12_putName_42 : pu_cok2 kX12_putName_42 := fun rf r hr => by
  unfold kX12_putName_42
  exact v_pi (v_ist ((hr 508)))
theorem tX12_putName_42 {X : pu_X} {r : pu_R} (hX : pu_H X mdX12_putName) (hr : pu_P X.2.1 X.2.2.2.2.2.2.2.2.2.2.1 r) (hq : ∀ i pc, pu_lp i = some (335, pc) → pu_S X mdX12_putName pc (r i)) : pu_S X mdX12_putName 42 (kX12_putName_42 r) := by
  unfold kX12_putName_42
  exact z_iconst hX dX12_putName_42 (by decide) (z_ist hX dX12_putName_43 ((hq 508 45 hl508)))
def kX12_putName_32 (r : pu_R) : pu_K := s_ild 2 (s_ifle (kX12_putName_42 r) (s_ald 0 (s_push (.int (32)) (s_cv r 334 1 12 ((kX12_putName_42 r))))))
theorem vX12_putName_32 : pu_cok2 kX12_putName_32 := fun rf r hr => by
  unfold kX12_putName_32
  exact v_ild (v_ifle (vX12_putName_42 rf r hr) (v_ald (v_pi (v_cv hr ((vX12_putName_42 rf r hr))))))
theorem tX12_putName_32 {X : pu_X} {r : pu_R} (hX : pu_H X mdX12_putName) (hr : pu_P X.2.1 X.2.2.2.2.2.2.2.2.2.2.1 r) (hq : ∀ i pc, pu_lp i = some (335, pc) → pu_S X mdX12_putName pc (r i)) : pu_S X mdX12_putName 32 (kX12_putName_32 r) := by
  unfold kX12_putName_32
  exact z_ild_n hX dX12_putName_32 rfl (z_ifle hX dX12_putName_33 (by decide) (tX12_putName_42 hX hr hq) (z_ald_n hX dX12_putName_36 rfl (z_bipush hX dX12_putName_37 (by decide) (z_cv (c := 12) hX hr dX12_putName_39 hjX12_put mwX12_put rfl wm53_8 ⟨wm53_9, wm53_10⟩ ⟨Nat.le_of_ble_eq_true rfl, Nat.le_of_ble_eq_true rfl⟩ ((tX12_putName_42 hX hr hq))))))
def kX12_putName_2 (r : pu_R) : pu_K := s_ild 2 (s_push (.int (3)) (s_icge (kX12_putName_89 r) (s_push (.int (32)) (s_push (.int (36)) (s_ild 1 (s_imul (s_iadd (s_push (.int (12)) (s_ild 2 (s_imul (s_iadd (s_ist 3 (s_ald 0 (s_gr 12 0 (s_ild 3 (s_ai 1 (s_ifne (kX12_putName_32 r) ((kX12_putName_83 r)))))))))))))))))))
theorem vX12_putName_2 : pu_cok2 kX12_putName_2 := fun rf r hr => by
  unfold kX12_putName_2
  exact v_ild (v_pi (v_icge (vX12_putName_89 rf r hr) (v_pi (v_pi (v_ild (v_imul (v_iadd (v_pi (v_ild (v_imul (v_iadd (v_ist (v_ald (v_gr (v_ild (v_ai (v_ifne (vX12_putName_32 rf r hr) ((vX12_putName_83 rf r hr)))))))))))))))))))
theorem tX12_putName_2 {X : pu_X} {r : pu_R} (hX : pu_H X mdX12_putName) (hr : pu_P X.2.1 X.2.2.2.2.2.2.2.2.2.2.1 r) (hq : ∀ i pc, pu_lp i = some (335, pc) → pu_S X mdX12_putName pc (r i)) : pu_S X mdX12_putName 2 (kX12_putName_2 r) := by
  unfold kX12_putName_2
  exact z_ild_n hX dX12_putName_2 rfl (z_iconst hX dX12_putName_3 (by decide) (z_icge hX dX12_putName_4 (by decide) (tX12_putName_89 hX hr hq) (z_bipush hX dX12_putName_7 (by decide) (z_bipush hX dX12_putName_9 (by decide) (z_ild_n hX dX12_putName_11 rfl (z_imul hX dX12_putName_12 (z_iadd hX dX12_putName_13 (z_bipush hX dX12_putName_14 (by decide) (z_ild_n hX dX12_putName_16 rfl (z_imul hX dX12_putName_17 (z_iadd hX dX12_putName_18 (z_ist_n hX dX12_putName_19 rfl (z_ald_n hX dX12_putName_20 rfl (z_gr (c := 12) (j := 0) hX dX12_putName_21 rfl inlX12 wm7_16 ⟨rfl, by decide, rfl⟩ (z_ild_n hX dX12_putName_24 rfl (z_iald hX dX12_putName_25 (z_ifne hX dX12_putName_26 (by decide) (tX12_putName_32 hX hr hq) ((z_goto hX dX12_putName_29 (by decide) (tX12_putName_83 hX hr hq))))))))))))))))))))
def kX12_putName_0 (r : pu_R) : pu_K := s_push (.int (0)) (s_ist 2 ((r 507)))
theorem vX12_putName_0 : pu_cok2 kX12_putName_0 := fun rf r hr => by
  unfold kX12_putName_0
  exact v_pi (v_ist ((hr 507)))
theorem tX12_putName_0 {X : pu_X} {r : pu_R} (hX : pu_H X mdX12_putName) (hr : pu_P X.2.1 X.2.2.2.2.2.2.2.2.2.2.1 r) (hq : ∀ i pc, pu_lp i = some (335, pc) → pu_S X mdX12_putName pc (r i)) : pu_S X mdX12_putName 0 (kX12_putName_0 r) := by
  unfold kX12_putName_0
  exact z_iconst hX dX12_putName_0 (by decide) (z_ist_n hX dX12_putName_1 rfl ((hq 507 2 hl507)))
def kX12_putNumber_47 (r : pu_R) : pu_K := s_vret
theorem vX12_putNumber_47 : pu_cok2 kX12_putNumber_47 := fun rf r hr => by
  unfold kX12_putNumber_47
  exact v_vret
theorem tX12_putNumber_47 {X : pu_X} {r : pu_R} (hX : pu_H X mdX12_putNumber) (hr : pu_P X.2.1 X.2.2.2.2.2.2.2.2.2.2.1 r) (hq : ∀ i pc, pu_lp i = some (336, pc) → pu_S X mdX12_putNumber pc (r i)) : pu_S X mdX12_putNumber 47 (kX12_putNumber_47 r) := by
  unfold kX12_putNumber_47
  exact z_vret hX dX12_putNumber_47 rfl
def kX12_putNumber_22 (r : pu_R) : pu_K := s_ild 2 (s_ifle (kX12_putNumber_47 r) (s_ald 0 (s_push (.int (48)) (s_ild 1 (s_ild 2 (s_idiv (s_push (.int (10)) (s_irem (s_iadd (s_cv r 334 1 12 (s_ild 2 (s_push (.int (10)) (s_idiv (s_ist 2 ((r 510))))))))))))))))
theorem vX12_putNumber_22 : pu_cok2 kX12_putNumber_22 := fun rf r hr => by
  unfold kX12_putNumber_22
  exact v_ild (v_ifle (vX12_putNumber_47 rf r hr) (v_ald (v_pi (v_ild (v_ild (v_idiv (v_pi (v_irem (v_iadd (v_cv hr (v_ild (v_pi (v_idiv (v_ist ((hr 510))))))))))))))))
theorem tX12_putNumber_22 {X : pu_X} {r : pu_R} (hX : pu_H X mdX12_putNumber) (hr : pu_P X.2.1 X.2.2.2.2.2.2.2.2.2.2.1 r) (hq : ∀ i pc, pu_lp i = some (336, pc) → pu_S X mdX12_putNumber pc (r i)) : pu_S X mdX12_putNumber 22 (kX12_putNumber_22 r) := by
  unfold kX12_putNumber_22
  exact z_ild_n hX dX12_putNumber_22 rfl (z_ifle hX dX12_putNumber_23 (by decide) (tX12_putNumber_47 hX hr hq) (z_ald_n hX dX12_putNumber_26 rfl (z_bipush hX dX12_putNumber_27 (by decide) (z_ild_n hX dX12_putNumber_29 rfl (z_ild_n hX dX12_putNumber_30 rfl (z_idiv hX dX12_putNumber_31 (z_bipush hX dX12_putNumber_32 (by decide) (z_irem hX dX12_putNumber_34 (z_iadd hX dX12_putNumber_35 (z_cv (c := 12) hX hr dX12_putNumber_36 hjX12_put mwX12_put rfl wm53_8 ⟨wm53_9, wm53_10⟩ ⟨Nat.le_of_ble_eq_true rfl, Nat.le_of_ble_eq_true rfl⟩ (z_ild_n hX dX12_putNumber_39 rfl (z_bipush hX dX12_putNumber_40 (by decide) (z_idiv hX dX12_putNumber_42 (z_ist_n hX dX12_putNumber_43 rfl ((z_goto hX dX12_putNumber_44 (by decide) (hq 510 22 hl510)))))))))))))))))
def kX12_putNumber_4 (r : pu_R) : pu_K := s_ild 2 (s_push (.int (1)) (s_icle (r 510) (s_ild 1 (s_ild 2 (s_icge (r 510) (s_ild 2 (s_push (.int (10)) (s_idiv (s_ist 2 ((r 509)))))))))))
theorem vX12_putNumber_4 : pu_cok2 kX12_putNumber_4 := fun rf r hr => by
  unfold kX12_putNumber_4
  exact v_ild (v_pi (v_icle (hr 510) (v_ild (v_ild (v_icge (hr 510) (v_ild (v_pi (v_idiv (v_ist ((hr 509)))))))))))
theorem tX12_putNumber_4 {X : pu_X} {r : pu_R} (hX : pu_H X mdX12_putNumber) (hr : pu_P X.2.1 X.2.2.2.2.2.2.2.2.2.2.1 r) (hq : ∀ i pc, pu_lp i = some (336, pc) → pu_S X mdX12_putNumber pc (r i)) : pu_S X mdX12_putNumber 4 (kX12_putNumber_4 r) := by
  unfold kX12_putNumber_4
  exact z_ild_n hX dX12_putNumber_4 rfl (z_iconst hX dX12_putNumber_5 (by decide) (z_icle hX dX12_putNumber_6 (by decide) (hq 510 22 hl510) (z_ild_n hX dX12_putNumber_9 rfl (z_ild_n hX dX12_putNumber_10 rfl (z_icge hX dX12_putNumber_11 (by decide) (hq 510 22 hl510) (z_ild_n hX dX12_putNumber_14 rfl (z_bipush hX dX12_putNumber_15 (by decide) (z_idiv hX dX12_putNumber_17 (z_ist_n hX dX12_putNumber_18 rfl ((z_goto hX dX12_putNumber_19 (by decide) (hq 509 4 hl509))))))))))))
def kX12_putNumber_0 (r : pu_R) : pu_K := s_push (.int (1000)) (s_ist 2 ((r 509)))
theorem vX12_putNumber_0 : pu_cok2 kX12_putNumber_0 := fun rf r hr => by
  unfold kX12_putNumber_0
  exact v_pi (v_ist ((hr 509)))
theorem tX12_putNumber_0 {X : pu_X} {r : pu_R} (hX : pu_H X mdX12_putNumber) (hr : pu_P X.2.1 X.2.2.2.2.2.2.2.2.2.2.1 r) (hq : ∀ i pc, pu_lp i = some (336, pc) → pu_S X mdX12_putNumber pc (r i)) : pu_S X mdX12_putNumber 0 (kX12_putNumber_0 r) := by
  unfold kX12_putNumber_0
  exact z_sipush hX dX12_putNumber_0 (by decide) (z_ist_n hX dX12_putNumber_3 rfl ((hq 509 4 hl509)))
def kX12_putWords_129 (r : pu_R) : pu_K := s_cv r 334 1 12 (s_ald 0 (s_push (.int (32)) (s_cv r 334 1 12 (s_vret))))
theorem vX12_putWords_129 : pu_cok2 kX12_putWords_129 := fun rf r hr => by
  unfold kX12_putWords_129
  exact v_cv hr (v_ald (v_pi (v_cv hr (v_vret))))
theorem tX12_putWords_129 {X : pu_X} {r : pu_R} (hX : pu_H X mdX12_putWords) (hr : pu_P X.2.1 X.2.2.2.2.2.2.2.2.2.2.1 r) (hq : ∀ i pc, pu_lp i = some (337, pc) → pu_S X mdX12_putWords pc (r i)) : pu_S X mdX12_putWords 129 (kX12_putWords_129 r) := by
  unfold kX12_putWords_129
  exact z_cv (c := 12) hX hr dX12_putWords_129 hjX12_put mwX12_put rfl wm53_8 ⟨wm53_9, wm53_10⟩ ⟨Nat.le_of_ble_eq_true rfl, Nat.le_of_ble_eq_true rfl⟩ (z_ald_n hX dX12_putWords_132 rfl (z_bipush hX dX12_putWords_133 (by decide) (z_cv (c := 12) hX hr dX12_putWords_135 hjX12_put mwX12_put rfl wm53_8 ⟨wm53_9, wm53_10⟩ ⟨Nat.le_of_ble_eq_true rfl, Nat.le_of_ble_eq_true rfl⟩ (z_vret hX dX12_putWords_138 rfl))))
def kX12_putWords_127 (r : pu_R) : pu_K := s_push (.int (114)) ((kX12_putWords_129 r))
theorem vX12_putWords_127 : pu_cok2 kX12_putWords_127 := fun rf r hr => by
  unfold kX12_putWords_127
  exact v_pi ((vX12_putWords_129 rf r hr))
theorem tX12_putWords_127 {X : pu_X} {r : pu_R} (hX : pu_H X mdX12_putWords) (hr : pu_P X.2.1 X.2.2.2.2.2.2.2.2.2.2.1 r) (hq : ∀ i pc, pu_lp i = some (337, pc) → pu_S X mdX12_putWords pc (r i)) : pu_S X mdX12_putWords 127 (kX12_putWords_127 r) := by
  unfold kX12_putWords_127
  exact z_bipush hX dX12_putWords_127 (by decide) ((tX12_putWords_129 hX hr hq))
def kX12_putWords_116 (r : pu_R) : pu_K := s_ald 0 (s_ild 1 (s_push (.int (3)) (s_icne (kX12_putWords_127 r) (s_push (.int (116)) ((kX12_putWords_129 r))))))
theorem vX12_putWords_116 : pu_cok2 kX12_putWords_116 := fun rf r hr => by
  unfold kX12_putWords_116
  exact v_ald (v_ild (v_pi (v_icne (vX12_putWords_127 rf r hr) (v_pi ((vX12_putWords_129 rf r hr))))))
theorem tX12_putWords_116 {X : pu_X} {r : pu_R} (hX : pu_H X mdX12_putWords) (hr : pu_P X.2.1 X.2.2.2.2.2.2.2.2.2.2.1 r) (hq : ∀ i pc, pu_lp i = some (337, pc) → pu_S X mdX12_putWords pc (r i)) : pu_S X mdX12_putWords 116 (kX12_putWords_116 r) := by
  unfold kX12_putWords_116
  exact z_ald_n hX dX12_putWords_116 rfl (z_ild_n hX dX12_putWords_117 rfl (z_iconst hX dX12_putWords_118 (by decide) (z_icne hX dX12_putWords_119 (by decide) (tX12_putWords_127 hX hr hq) (z_bipush hX dX12_putWords_122 (by decide) ((z_goto hX dX12_putWords_124 (by decide) (tX12_putWords_129 hX hr hq)))))))
def kX12_putWords_107 (r : pu_R) : pu_K := s_cv r 334 1 12 (s_ild 1 (s_push (.int (2)) (s_icne (kX12_putWords_116 r) (s_vret))))
theorem vX12_putWords_107 : pu_cok2 kX12_putWords_107 := fun rf r hr => by
  unfold kX12_putWords_107
  exact v_cv hr (v_ild (v_pi (v_icne (vX12_putWords_116 rf r hr) (v_vret))))
theorem tX12_putWords_107 {X : pu_X} {r : pu_R} (hX : pu_H X mdX12_putWords) (hr : pu_P X.2.1 X.2.2.2.2.2.2.2.2.2.2.1 r) (hq : ∀ i pc, pu_lp i = some (337, pc) → pu_S X mdX12_putWords pc (r i)) : pu_S X mdX12_putWords 107 (kX12_putWords_107 r) := by
  unfold kX12_putWords_107
  exact z_cv (c := 12) hX hr dX12_putWords_107 hjX12_put mwX12_put rfl wm53_8 ⟨wm53_9, wm53_10⟩ ⟨Nat.le_of_ble_eq_true rfl, Nat.le_of_ble_eq_true rfl⟩ (z_ild_n hX dX12_putWords_110 rfl (z_iconst hX dX12_putWords_111 (by decide) (z_icne hX dX12_putWords_112 (by decide) (tX12_putWords_116 hX hr hq) (z_vret hX dX12_putWords_115 rfl))))
def kX12_putWords_105 (r : pu_R) : pu_K := s_push (.int (111)) ((kX12_putWords_107 r))
theorem vX12_putWords_105 : pu_cok2 kX12_putWords_105 := fun rf r hr => by
  unfold kX12_putWords_105
  exact v_pi ((vX12_putWords_107 rf r hr))
theorem tX12_putWords_105 {X : pu_X} {r : pu_R} (hX : pu_H X mdX12_putWords) (hr : pu_P X.2.1 X.2.2.2.2.2.2.2.2.2.2.1 r) (hq : ∀ i pc, pu_lp i = some (337, pc) → pu_S X mdX12_putWords pc (r i)) : pu_S X mdX12_putWords 105 (kX12_putWords_105 r) := by
  unfold kX12_putWords_105
  exact z_bipush hX dX12_putWords_105 (by decide) ((tX12_putWords_107 hX hr hq))
def kX12_putWords_95 (r : pu_R) : pu_K := s_ild 1 (s_push (.int (3)) (s_icne (kX12_putWords_105 r) (s_push (.int (114)) ((kX12_putWords_107 r)))))
theorem vX12_putWords_95 : pu_cok2 kX12_putWords_95 := fun rf r hr => by
  unfold kX12_putWords_95
  exact v_ild (v_pi (v_icne (vX12_putWords_105 rf r hr) (v_pi ((vX12_putWords_107 rf r hr)))))
theorem tX12_putWords_95 {X : pu_X} {r : pu_R} (hX : pu_H X mdX12_putWords) (hr : pu_P X.2.1 X.2.2.2.2.2.2.2.2.2.2.1 r) (hq : ∀ i pc, pu_lp i = some (337, pc) → pu_S X mdX12_putWords pc (r i)) : pu_S X mdX12_putWords 95 (kX12_putWords_95 r) := by
  unfold kX12_putWords_95
  exact z_ild_n hX dX12_putWords_95 rfl (z_iconst hX dX12_putWords_96 (by decide) (z_icne hX dX12_putWords_97 (by decide) (tX12_putWords_105 hX hr hq) (z_bipush hX dX12_putWords_100 (by decide) ((z_goto hX dX12_putWords_102 (by decide) (tX12_putWords_107 hX hr hq))))))
def kX12_putWords_81 (r : pu_R) : pu_K := s_cv r 334 1 12 (s_ald 0 (s_ild 1 (s_push (.int (2)) (s_icne (kX12_putWords_95 r) (s_push (.int (107)) ((kX12_putWords_107 r)))))))
theorem vX12_putWords_81 : pu_cok2 kX12_putWords_81 := fun rf r hr => by
  unfold kX12_putWords_81
  exact v_cv hr (v_ald (v_ild (v_pi (v_icne (vX12_putWords_95 rf r hr) (v_pi ((vX12_putWords_107 rf r hr)))))))
theorem tX12_putWords_81 {X : pu_X} {r : pu_R} (hX : pu_H X mdX12_putWords) (hr : pu_P X.2.1 X.2.2.2.2.2.2.2.2.2.2.1 r) (hq : ∀ i pc, pu_lp i = some (337, pc) → pu_S X mdX12_putWords pc (r i)) : pu_S X mdX12_putWords 81 (kX12_putWords_81 r) := by
  unfold kX12_putWords_81
  exact z_cv (c := 12) hX hr dX12_putWords_81 hjX12_put mwX12_put rfl wm53_8 ⟨wm53_9, wm53_10⟩ ⟨Nat.le_of_ble_eq_true rfl, Nat.le_of_ble_eq_true rfl⟩ (z_ald_n hX dX12_putWords_84 rfl (z_ild_n hX dX12_putWords_85 rfl (z_iconst hX dX12_putWords_86 (by decide) (z_icne hX dX12_putWords_87 (by decide) (tX12_putWords_95 hX hr hq) (z_bipush hX dX12_putWords_90 (by decide) ((z_goto hX dX12_putWords_92 (by decide) (tX12_putWords_107 hX hr hq))))))))
def kX12_putWords_79 (r : pu_R) : pu_K := s_push (.int (111)) ((kX12_putWords_81 r))
theorem vX12_putWords_79 : pu_cok2 kX12_putWords_79 := fun rf r hr => by
  unfold kX12_putWords_79
  exact v_pi ((vX12_putWords_81 rf r hr))
theorem tX12_putWords_79 {X : pu_X} {r : pu_R} (hX : pu_H X mdX12_putWords) (hr : pu_P X.2.1 X.2.2.2.2.2.2.2.2.2.2.1 r) (hq : ∀ i pc, pu_lp i = some (337, pc) → pu_S X mdX12_putWords pc (r i)) : pu_S X mdX12_putWords 79 (kX12_putWords_79 r) := by
  unfold kX12_putWords_79
  exact z_bipush hX dX12_putWords_79 (by decide) ((tX12_putWords_81 hX hr hq))
def kX12_putWords_69 (r : pu_R) : pu_K := s_ild 1 (s_push (.int (3)) (s_icne (kX12_putWords_79 r) (s_push (.int (117)) ((kX12_putWords_81 r)))))
theorem vX12_putWords_69 : pu_cok2 kX12_putWords_69 := fun rf r hr => by
  unfold kX12_putWords_69
  exact v_ild (v_pi (v_icne (vX12_putWords_79 rf r hr) (v_pi ((vX12_putWords_81 rf r hr)))))
theorem tX12_putWords_69 {X : pu_X} {r : pu_R} (hX : pu_H X mdX12_putWords) (hr : pu_P X.2.1 X.2.2.2.2.2.2.2.2.2.2.1 r) (hq : ∀ i pc, pu_lp i = some (337, pc) → pu_S X mdX12_putWords pc (r i)) : pu_S X mdX12_putWords 69 (kX12_putWords_69 r) := by
  unfold kX12_putWords_69
  exact z_ild_n hX dX12_putWords_69 rfl (z_iconst hX dX12_putWords_70 (by decide) (z_icne hX dX12_putWords_71 (by decide) (tX12_putWords_79 hX hr hq) (z_bipush hX dX12_putWords_74 (by decide) ((z_goto hX dX12_putWords_76 (by decide) (tX12_putWords_81 hX hr hq))))))
def kX12_putWords_55 (r : pu_R) : pu_K := s_cv r 334 1 12 (s_ald 0 (s_ild 1 (s_push (.int (2)) (s_icne (kX12_putWords_69 r) (s_push (.int (99)) ((kX12_putWords_81 r)))))))
theorem vX12_putWords_55 : pu_cok2 kX12_putWords_55 := fun rf r hr => by
  unfold kX12_putWords_55
  exact v_cv hr (v_ald (v_ild (v_pi (v_icne (vX12_putWords_69 rf r hr) (v_pi ((vX12_putWords_81 rf r hr)))))))
theorem tX12_putWords_55 {X : pu_X} {r : pu_R} (hX : pu_H X mdX12_putWords) (hr : pu_P X.2.1 X.2.2.2.2.2.2.2.2.2.2.1 r) (hq : ∀ i pc, pu_lp i = some (337, pc) → pu_S X mdX12_putWords pc (r i)) : pu_S X mdX12_putWords 55 (kX12_putWords_55 r) := by
  unfold kX12_putWords_55
  exact z_cv (c := 12) hX hr dX12_putWords_55 hjX12_put mwX12_put rfl wm53_8 ⟨wm53_9, wm53_10⟩ ⟨Nat.le_of_ble_eq_true rfl, Nat.le_of_ble_eq_true rfl⟩ (z_ald_n hX dX12_putWords_58 rfl (z_ild_n hX dX12_putWords_59 rfl (z_iconst hX dX12_putWords_60 (by decide) (z_icne hX dX12_putWords_61 (by decide) (tX12_putWords_69 hX hr hq) (z_bipush hX dX12_putWords_64 (by decide) ((z_goto hX dX12_putWords_66 (by decide) (tX12_putWords_81 hX hr hq))))))))
def kX12_putWords_53 (r : pu_R) : pu_K := s_push (.int (108)) ((kX12_putWords_55 r))
theorem vX12_putWords_53 : pu_cok2 kX12_putWords_53 := fun rf r hr => by
  unfold kX12_putWords_53
  exact v_pi ((vX12_putWords_55 rf r hr))
theorem tX12_putWords_53 {X : pu_X} {r : pu_R} (hX : pu_H X mdX12_putWords) (hr : pu_P X.2.1 X.2.2.2.2.2.2.2.2.2.2.1 r) (hq : ∀ i pc, pu_lp i = some (337, pc) → pu_S X mdX12_putWords pc (r i)) : pu_S X mdX12_putWords 53 (kX12_putWords_53 r) := by
  unfold kX12_putWords_53
  exact z_bipush hX dX12_putWords_53 (by decide) ((tX12_putWords_55 hX hr hq))
def kX12_putWords_43 (r : pu_R) : pu_K := s_ild 1 (s_push (.int (3)) (s_icne (kX12_putWords_53 r) (s_push (.int (111)) ((kX12_putWords_55 r)))))
theorem vX12_putWords_43 : pu_cok2 kX12_putWords_43 := fun rf r hr => by
  unfold kX12_putWords_43
  exact v_ild (v_pi (v_icne (vX12_putWords_53 rf r hr) (v_pi ((vX12_putWords_55 rf r hr)))))
theorem tX12_putWords_43 {X : pu_X} {r : pu_R} (hX : pu_H X mdX12_putWords) (hr : pu_P X.2.1 X.2.2.2.2.2.2.2.2.2.2.1 r) (hq : ∀ i pc, pu_lp i = some (337, pc) → pu_S X mdX12_putWords pc (r i)) : pu_S X mdX12_putWords 43 (kX12_putWords_43 r) := by
  unfold kX12_putWords_43
  exact z_ild_n hX dX12_putWords_43 rfl (z_iconst hX dX12_putWords_44 (by decide) (z_icne hX dX12_putWords_45 (by decide) (tX12_putWords_53 hX hr hq) (z_bipush hX dX12_putWords_48 (by decide) ((z_goto hX dX12_putWords_50 (by decide) (tX12_putWords_55 hX hr hq))))))
def kX12_putWords_29 (r : pu_R) : pu_K := s_cv r 334 1 12 (s_ald 0 (s_ild 1 (s_push (.int (2)) (s_icne (kX12_putWords_43 r) (s_push (.int (97)) ((kX12_putWords_55 r)))))))
theorem vX12_putWords_29 : pu_cok2 kX12_putWords_29 := fun rf r hr => by
  unfold kX12_putWords_29
  exact v_cv hr (v_ald (v_ild (v_pi (v_icne (vX12_putWords_43 rf r hr) (v_pi ((vX12_putWords_55 rf r hr)))))))
theorem tX12_putWords_29 {X : pu_X} {r : pu_R} (hX : pu_H X mdX12_putWords) (hr : pu_P X.2.1 X.2.2.2.2.2.2.2.2.2.2.1 r) (hq : ∀ i pc, pu_lp i = some (337, pc) → pu_S X mdX12_putWords pc (r i)) : pu_S X mdX12_putWords 29 (kX12_putWords_29 r) := by
  unfold kX12_putWords_29
  exact z_cv (c := 12) hX hr dX12_putWords_29 hjX12_put mwX12_put rfl wm53_8 ⟨wm53_9, wm53_10⟩ ⟨Nat.le_of_ble_eq_true rfl, Nat.le_of_ble_eq_true rfl⟩ (z_ald_n hX dX12_putWords_32 rfl (z_ild_n hX dX12_putWords_33 rfl (z_iconst hX dX12_putWords_34 (by decide) (z_icne hX dX12_putWords_35 (by decide) (tX12_putWords_43 hX hr hq) (z_bipush hX dX12_putWords_38 (by decide) ((z_goto hX dX12_putWords_40 (by decide) (tX12_putWords_55 hX hr hq))))))))
def kX12_putWords_27 (r : pu_R) : pu_K := s_push (.int (102)) ((kX12_putWords_29 r))
theorem vX12_putWords_27 : pu_cok2 kX12_putWords_27 := fun rf r hr => by
  unfold kX12_putWords_27
  exact v_pi ((vX12_putWords_29 rf r hr))
theorem tX12_putWords_27 {X : pu_X} {r : pu_R} (hX : pu_H X mdX12_putWords) (hr : pu_P X.2.1 X.2.2.2.2.2.2.2.2.2.2.1 r) (hq : ∀ i pc, pu_lp i = some (337, pc) → pu_S X mdX12_putWords pc (r i)) : pu_S X mdX12_putWords 27 (kX12_putWords_27 r) := by
  unfold kX12_putWords_27
  exact z_bipush hX dX12_putWords_27 (by decide) ((tX12_putWords_29 hX hr hq))
def kX12_putWords_17 (r : pu_R) : pu_K := s_ild 1 (s_push (.int (3)) (s_icne (kX12_putWords_27 r) (s_push (.int (99)) ((kX12_putWords_29 r)))))
theorem vX12_putWords_17 : pu_cok2 kX12_putWords_17 := fun rf r hr => by
  unfold kX12_putWords_17
  exact v_ild (v_pi (v_icne (vX12_putWords_27 rf r hr) (v_pi ((vX12_putWords_29 rf r hr)))))
theorem tX12_putWords_17 {X : pu_X} {r : pu_R} (hX : pu_H X mdX12_putWords) (hr : pu_P X.2.1 X.2.2.2.2.2.2.2.2.2.2.1 r) (hq : ∀ i pc, pu_lp i = some (337, pc) → pu_S X mdX12_putWords pc (r i)) : pu_S X mdX12_putWords 17 (kX12_putWords_17 r) := by
  unfold kX12_putWords_17
  exact z_ild_n hX dX12_putWords_17 rfl (z_iconst hX dX12_putWords_18 (by decide) (z_icne hX dX12_putWords_19 (by decide) (tX12_putWords_27 hX hr hq) (z_bipush hX dX12_putWords_22 (by decide) ((z_goto hX dX12_putWords_24 (by decide) (tX12_putWords_29 hX hr hq))))))
def kX12_putWords_0 (r : pu_R) : pu_K := s_ald 0 (s_push (.int (32)) (s_cv r 334 1 12 (s_ald 0 (s_ild 1 (s_push (.int (2)) (s_icne (kX12_putWords_17 r) (s_push (.int (98)) ((kX12_putWords_29 r)))))))))
theorem vX12_putWords_0 : pu_cok2 kX12_putWords_0 := fun rf r hr => by
  unfold kX12_putWords_0
  exact v_ald (v_pi (v_cv hr (v_ald (v_ild (v_pi (v_icne (vX12_putWords_17 rf r hr) (v_pi ((vX12_putWords_29 rf r hr)))))))))
theorem tX12_putWords_0 {X : pu_X} {r : pu_R} (hX : pu_H X mdX12_putWords) (hr : pu_P X.2.1 X.2.2.2.2.2.2.2.2.2.2.1 r) (hq : ∀ i pc, pu_lp i = some (337, pc) → pu_S X mdX12_putWords pc (r i)) : pu_S X mdX12_putWords 0 (kX12_putWords_0 r) := by
  unfold kX12_putWords_0
  exact z_ald_n hX dX12_putWords_0 rfl (z_bipush hX dX12_putWords_1 (by decide) (z_cv (c := 12) hX hr dX12_putWords_3 hjX12_put mwX12_put rfl wm53_8 ⟨wm53_9, wm53_10⟩ ⟨Nat.le_of_ble_eq_true rfl, Nat.le_of_ble_eq_true rfl⟩ (z_ald_n hX dX12_putWords_6 rfl (z_ild_n hX dX12_putWords_7 rfl (z_iconst hX dX12_putWords_8 (by decide) (z_icne hX dX12_putWords_9 (by decide) (tX12_putWords_17 hX hr hq) (z_bipush hX dX12_putWords_12 (by decide) ((z_goto hX dX12_putWords_14 (by decide) (tX12_putWords_29 hX hr hq))))))))))
def kX12_write_278 (r : pu_R) : pu_K := s_ald 0 (s_push (.int (44)) (s_cv r 334 1 12 (s_ald 0 (s_push (.int (32)) (s_cv r 334 1 12 (s_ald 0 (s_ald 0 (s_gr 12 0 (s_push (.int (7552)) (s_push (.int (5)) (s_ild 6 (s_imul (s_iadd (s_push (.int (1)) (s_iadd (s_ai 1 (s_cv r 335 1 12 (s_ald 0 (s_gi 12 8 (s_iret))))))))))))))))))))
theorem vX12_write_278 : pu_cok2 kX12_write_278 := fun rf r hr => by
  unfold kX12_write_278
  exact v_ald (v_pi (v_cv hr (v_ald (v_pi (v_cv hr (v_ald (v_ald (v_gr (v_pi (v_pi (v_ild (v_imul (v_iadd (v_pi (v_iadd (v_ai (v_cv hr (v_ald (v_gi (v_iret))))))))))))))))))))
theorem tX12_write_278 {X : pu_X} {r : pu_R} (hX : pu_H X mdX12_write) (hr : pu_P X.2.1 X.2.2.2.2.2.2.2.2.2.2.1 r) (hq : ∀ i pc, pu_lp i = some (338, pc) → pu_S X mdX12_write pc (r i)) : pu_S X mdX12_write 278 (kX12_write_278 r) := by
  unfold kX12_write_278
  exact z_ald_n hX dX12_write_278 rfl (z_bipush hX dX12_write_279 (by decide) (z_cv (c := 12) hX hr dX12_write_281 hjX12_put mwX12_put rfl wm53_8 ⟨wm53_9, wm53_10⟩ ⟨Nat.le_of_ble_eq_true rfl, Nat.le_of_ble_eq_true rfl⟩ (z_ald_n hX dX12_write_284 rfl (z_bipush hX dX12_write_285 (by decide) (z_cv (c := 12) hX hr dX12_write_287 hjX12_put mwX12_put rfl wm53_8 ⟨wm53_9, wm53_10⟩ ⟨Nat.le_of_ble_eq_true rfl, Nat.le_of_ble_eq_true rfl⟩ (z_ald_n hX dX12_write_290 rfl (z_ald_n hX dX12_write_291 rfl (z_gr (c := 12) (j := 0) hX dX12_write_292 rfl inlX12 wm7_16 ⟨rfl, by decide, rfl⟩ (z_sipush hX dX12_write_295 (by decide) (z_iconst hX dX12_write_298 (by decide) (z_ild hX dX12_write_299 (z_imul hX dX12_write_301 (z_iadd hX dX12_write_302 (z_iconst hX dX12_write_303 (by decide) (z_iadd hX dX12_write_304 (z_iald hX dX12_write_305 (z_cv (c := 12) hX hr dX12_write_306 hjX12_putName mwX12_putName rfl wm53_4 ⟨wm53_5, wm53_6⟩ ⟨Nat.le_of_ble_eq_true rfl, Nat.le_of_ble_eq_true rfl⟩ (z_ald_n hX dX12_write_309 rfl (z_gi (c := 12) (j := 8) hX dX12_write_310 rfl inlX12 wm8_3 ⟨rfl, by decide, rfl⟩ (z_iret hX dX12_write_313 rfl))))))))))))))))))))
def kX12_write_261 (r : pu_R) : pu_K := s_ild 8 (s_push (.int (3)) (s_iclt (kX12_write_278 r) (s_ald 0 (s_ald 0 (s_ild 1 (s_push (.int (7)) (s_cv r 265 2 12 (s_cv r 336 1 12 ((kX12_write_278 r))))))))))
theorem vX12_write_261 : pu_cok2 kX12_write_261 := fun rf r hr => by
  unfold kX12_write_261
  exact v_ild (v_pi (v_iclt (vX12_write_278 rf r hr) (v_ald (v_ald (v_ild (v_pi (v_cv hr (v_cv hr ((vX12_write_278 rf r hr))))))))))
theorem tX12_write_261 {X : pu_X} {r : pu_R} (hX : pu_H X mdX12_write) (hr : pu_P X.2.1 X.2.2.2.2.2.2.2.2.2.2.1 r) (hq : ∀ i pc, pu_lp i = some (338, pc) → pu_S X mdX12_write pc (r i)) : pu_S X mdX12_write 261 (kX12_write_261 r) := by
  unfold kX12_write_261
  exact z_ild hX dX12_write_261 (z_iconst hX dX12_write_263 (by decide) (z_iclt hX dX12_write_264 (by decide) (tX12_write_278 hX hr hq) (z_ald_n hX dX12_write_267 rfl (z_ald_n hX dX12_write_268 rfl (z_ild_n hX dX12_write_269 rfl (z_bipush hX dX12_write_270 (by decide) (z_cv (c := 12) hX hr dX12_write_272 hjX12_of mwX12_of rfl wm30_3 ⟨wm30_4, wm30_5⟩ ⟨Nat.le_of_ble_eq_true rfl, Nat.le_of_ble_eq_true rfl⟩ (z_cv (c := 12) hX hr dX12_write_275 hjX12_putNumber mwX12_putNumber rfl wm53_12 ⟨wm53_13, wm53_14⟩ ⟨Nat.le_of_ble_eq_true rfl, Nat.le_of_ble_eq_true rfl⟩ ((tX12_write_278 hX hr hq))))))))))
def kX12_write_241 (r : pu_R) : pu_K := s_ald 0 (s_ild 1 (s_push (.int (0)) (s_cv r 265 2 12 (s_ist 8 (s_ild 8 (s_push (.int (2)) (s_iclt (kX12_write_261 r) (s_ald 0 (s_ild 8 (s_cv r 337 1 12 ((kX12_write_261 r))))))))))))
theorem vX12_write_241 : pu_cok2 kX12_write_241 := fun rf r hr => by
  unfold kX12_write_241
  exact v_ald (v_ild (v_pi (v_cv hr (v_ist (v_ild (v_pi (v_iclt (vX12_write_261 rf r hr) (v_ald (v_ild (v_cv hr ((vX12_write_261 rf r hr))))))))))))
theorem tX12_write_241 {X : pu_X} {r : pu_R} (hX : pu_H X mdX12_write) (hr : pu_P X.2.1 X.2.2.2.2.2.2.2.2.2.2.1 r) (hq : ∀ i pc, pu_lp i = some (338, pc) → pu_S X mdX12_write pc (r i)) : pu_S X mdX12_write 241 (kX12_write_241 r) := by
  unfold kX12_write_241
  exact z_ald_n hX dX12_write_241 rfl (z_ild_n hX dX12_write_242 rfl (z_iconst hX dX12_write_243 (by decide) (z_cv (c := 12) hX hr dX12_write_244 hjX12_of mwX12_of rfl wm30_3 ⟨wm30_4, wm30_5⟩ ⟨Nat.le_of_ble_eq_true rfl, Nat.le_of_ble_eq_true rfl⟩ (z_ist hX dX12_write_247 (z_ild hX dX12_write_249 (z_iconst hX dX12_write_251 (by decide) (z_iclt hX dX12_write_252 (by decide) (tX12_write_261 hX hr hq) (z_ald_n hX dX12_write_255 rfl (z_ild hX dX12_write_256 (z_cv (c := 12) hX hr dX12_write_258 hjX12_putWords mwX12_putWords rfl wm53_16 ⟨wm53_17, wm53_18⟩ ⟨Nat.le_of_ble_eq_true rfl, Nat.le_of_ble_eq_true rfl⟩ ((tX12_write_261 hX hr hq))))))))))))
def kX12_write_238 (r : pu_R) : pu_K := s_cv r 334 1 12 ((kX12_write_241 r))
theorem vX12_write_238 : pu_cok2 kX12_write_238 := fun rf r hr => by
  unfold kX12_write_238
  exact v_cv hr ((vX12_write_241 rf r hr))
theorem tX12_write_238 {X : pu_X} {r : pu_R} (hX : pu_H X mdX12_write) (hr : pu_P X.2.1 X.2.2.2.2.2.2.2.2.2.2.1 r) (hq : ∀ i pc, pu_lp i = some (338, pc) → pu_S X mdX12_write pc (r i)) : pu_S X mdX12_write 238 (kX12_write_238 r) := by
  unfold kX12_write_238
  exact z_cv (c := 12) hX hr dX12_write_238 hjX12_put mwX12_put rfl wm53_8 ⟨wm53_9, wm53_10⟩ ⟨Nat.le_of_ble_eq_true rfl, Nat.le_of_ble_eq_true rfl⟩ ((tX12_write_241 hX hr hq))
def kX12_write_228 (r : pu_R) : pu_K := s_push (.int (97)) (s_ild 7 (s_push (.int (16)) (s_irem (s_iadd (s_push (.int (1)) (s_isub ((kX12_write_238 r))))))))
theorem vX12_write_228 : pu_cok2 kX12_write_228 := fun rf r hr => by
  unfold kX12_write_228
  exact v_pi (v_ild (v_pi (v_irem (v_iadd (v_pi (v_isub ((vX12_write_238 rf r hr))))))))
theorem tX12_write_228 {X : pu_X} {r : pu_R} (hX : pu_H X mdX12_write) (hr : pu_P X.2.1 X.2.2.2.2.2.2.2.2.2.2.1 r) (hq : ∀ i pc, pu_lp i = some (338, pc) → pu_S X mdX12_write pc (r i)) : pu_S X mdX12_write 228 (kX12_write_228 r) := by
  unfold kX12_write_228
  exact z_bipush hX dX12_write_228 (by decide) (z_ild hX dX12_write_230 (z_bipush hX dX12_write_232 (by decide) (z_irem hX dX12_write_234 (z_iadd hX dX12_write_235 (z_iconst hX dX12_write_236 (by decide) (z_isub hX dX12_write_237 ((tX12_write_238 hX hr hq))))))))
def kX12_write_189 (r : pu_R) : pu_K := s_iadd (s_push (.int (3)) (s_iadd (s_ai 1 (s_ist 7 (s_ald 0 (s_ild 7 (s_push (.int (16)) (s_idiv (s_cv r 336 1 12 (s_ild 7 (s_push (.int (16)) (s_irem (s_ifle (kX12_write_241 r) (s_ald 0 (s_ild 7 (s_push (.int (16)) (s_irem (s_push (.int (9)) (s_icne (kX12_write_228 r) (s_push (.int (43)) ((kX12_write_238 r))))))))))))))))))))))
theorem vX12_write_189 : pu_cok2 kX12_write_189 := fun rf r hr => by
  unfold kX12_write_189
  exact v_iadd (v_pi (v_iadd (v_ai (v_ist (v_ald (v_ild (v_pi (v_idiv (v_cv hr (v_ild (v_pi (v_irem (v_ifle (vX12_write_241 rf r hr) (v_ald (v_ild (v_pi (v_irem (v_pi (v_icne (vX12_write_228 rf r hr) (v_pi ((vX12_write_238 rf r hr))))))))))))))))))))))
theorem tX12_write_189 {X : pu_X} {r : pu_R} (hX : pu_H X mdX12_write) (hr : pu_P X.2.1 X.2.2.2.2.2.2.2.2.2.2.1 r) (hq : ∀ i pc, pu_lp i = some (338, pc) → pu_S X mdX12_write pc (r i)) : pu_S X mdX12_write 189 (kX12_write_189 r) := by
  unfold kX12_write_189
  exact z_iadd hX dX12_write_189 (z_iconst hX dX12_write_190 (by decide) (z_iadd hX dX12_write_191 (z_iald hX dX12_write_192 (z_ist hX dX12_write_193 (z_ald_n hX dX12_write_195 rfl (z_ild hX dX12_write_196 (z_bipush hX dX12_write_198 (by decide) (z_idiv hX dX12_write_200 (z_cv (c := 12) hX hr dX12_write_201 hjX12_putNumber mwX12_putNumber rfl wm53_12 ⟨wm53_13, wm53_14⟩ ⟨Nat.le_of_ble_eq_true rfl, Nat.le_of_ble_eq_true rfl⟩ (z_ild hX dX12_write_204 (z_bipush hX dX12_write_206 (by decide) (z_irem hX dX12_write_208 (z_ifle hX dX12_write_209 (by decide) (tX12_write_241 hX hr hq) (z_ald_n hX dX12_write_212 rfl (z_ild hX dX12_write_213 (z_bipush hX dX12_write_215 (by decide) (z_irem hX dX12_write_217 (z_bipush hX dX12_write_218 (by decide) (z_icne hX dX12_write_220 (by decide) (tX12_write_228 hX hr hq) (z_bipush hX dX12_write_223 (by decide) ((z_goto hX dX12_write_225 (by decide) (tX12_write_238 hX hr hq)))))))))))))))))))))))
def kX12_write_147 (r : pu_R) : pu_K := s_ald 0 (s_push (.int (0)) (s_pi 12 8 (s_ald 0 (s_ald 0 (s_gr 12 0 (s_push (.int (7552)) (s_push (.int (5)) (s_ild 6 (s_imul (s_iadd (s_push (.int (2)) (s_iadd (s_ai 1 (s_cv r 335 1 12 (s_ald 0 (s_push (.int (32)) (s_cv r 334 1 12 (s_ald 0 (s_gr 12 0 (s_push (.int (10752)) (s_push (.int (6)) (s_ild 4 (s_imul ((kX12_write_189 r)))))))))))))))))))))))))
theorem vX12_write_147 : pu_cok2 kX12_write_147 := fun rf r hr => by
  unfold kX12_write_147
  exact v_ald (v_pi (v_puti (v_ald (v_ald (v_gr (v_pi (v_pi (v_ild (v_imul (v_iadd (v_pi (v_iadd (v_ai (v_cv hr (v_ald (v_pi (v_cv hr (v_ald (v_gr (v_pi (v_pi (v_ild (v_imul ((vX12_write_189 rf r hr)))))))))))))))))))))))))
theorem tX12_write_147 {X : pu_X} {r : pu_R} (hX : pu_H X mdX12_write) (hr : pu_P X.2.1 X.2.2.2.2.2.2.2.2.2.2.1 r) (hq : ∀ i pc, pu_lp i = some (338, pc) → pu_S X mdX12_write pc (r i)) : pu_S X mdX12_write 147 (kX12_write_147 r) := by
  unfold kX12_write_147
  exact z_ald_n hX dX12_write_147 rfl (z_iconst hX dX12_write_148 (by decide) (z_pi (c := 12) (j := 8) tyX12 tyX12_ok nmX12 hX dX12_write_149 rfl inlX12 wm8_3 ⟨rfl, by decide⟩ ⟨rfl, rfl⟩ rfl (z_ald_n hX dX12_write_152 rfl (z_ald_n hX dX12_write_153 rfl (z_gr (c := 12) (j := 0) hX dX12_write_154 rfl inlX12 wm7_16 ⟨rfl, by decide, rfl⟩ (z_sipush hX dX12_write_157 (by decide) (z_iconst hX dX12_write_160 (by decide) (z_ild hX dX12_write_161 (z_imul hX dX12_write_163 (z_iadd hX dX12_write_164 (z_iconst hX dX12_write_165 (by decide) (z_iadd hX dX12_write_166 (z_iald hX dX12_write_167 (z_cv (c := 12) hX hr dX12_write_168 hjX12_putName mwX12_putName rfl wm53_4 ⟨wm53_5, wm53_6⟩ ⟨Nat.le_of_ble_eq_true rfl, Nat.le_of_ble_eq_true rfl⟩ (z_ald_n hX dX12_write_171 rfl (z_bipush hX dX12_write_172 (by decide) (z_cv (c := 12) hX hr dX12_write_174 hjX12_put mwX12_put rfl wm53_8 ⟨wm53_9, wm53_10⟩ ⟨Nat.le_of_ble_eq_true rfl, Nat.le_of_ble_eq_true rfl⟩ (z_ald_n hX dX12_write_177 rfl (z_gr (c := 12) (j := 0) hX dX12_write_178 rfl inlX12 wm7_16 ⟨rfl, by decide, rfl⟩ (z_sipush hX dX12_write_181 (by decide) (z_bipush hX dX12_write_184 (by decide) (z_ild hX dX12_write_186 (z_imul hX dX12_write_188 ((tX12_write_189 hX hr hq)))))))))))))))))))))))))
def kX12_write_139 (r : pu_R) : pu_K := s_ild 6 (s_push (.int (-1)) (s_icne (kX12_write_147 r) (s_push (.int (-1)) (s_iret))))
theorem vX12_write_139 : pu_cok2 kX12_write_139 := fun rf r hr => by
  unfold kX12_write_139
  exact v_ild (v_pi (v_icne (vX12_write_147 rf r hr) (v_pi (v_iret))))
theorem tX12_write_139 {X : pu_X} {r : pu_R} (hX : pu_H X mdX12_write) (hr : pu_P X.2.1 X.2.2.2.2.2.2.2.2.2.2.1 r) (hq : ∀ i pc, pu_lp i = some (338, pc) → pu_S X mdX12_write pc (r i)) : pu_S X mdX12_write 139 (kX12_write_139 r) := by
  unfold kX12_write_139
  exact z_ild hX dX12_write_139 (z_iconst hX dX12_write_141 (by decide) (z_icne hX dX12_write_142 (by decide) (tX12_write_147 hX hr hq) (z_iconst hX dX12_write_145 (by decide) (z_iret hX dX12_write_146 rfl))))
def kX12_write_133 (r : pu_R) : pu_K := s_inc 7 (1) ((r 511))
theorem vX12_write_133 : pu_cok2 kX12_write_133 := fun rf r hr => by
  unfold kX12_write_133
  exact v_inc ((hr 511))
theorem tX12_write_133 {X : pu_X} {r : pu_R} (hX : pu_H X mdX12_write) (hr : pu_P X.2.1 X.2.2.2.2.2.2.2.2.2.2.1 r) (hq : ∀ i pc, pu_lp i = some (338, pc) → pu_S X mdX12_write pc (r i)) : pu_S X mdX12_write 133 (kX12_write_133 r) := by
  unfold kX12_write_133
  exact z_inc hX dX12_write_133 (by decide) ((z_goto hX dX12_write_136 (by decide) (hq 511 69 hl511)))
def kX12_write_112 (r : pu_R) : pu_K := s_ai 1 (s_ald 0 (s_gr 12 0 (s_ild 8 (s_push (.int (4)) (s_iadd (s_ai 1 (s_ild 3 (s_cv r 239 3 12 (s_ifeq (kX12_write_133 r) (s_ild 7 (s_ist 6 ((kX12_write_133 r)))))))))))))
theorem vX12_write_112 : pu_cok2 kX12_write_112 := fun rf r hr => by
  unfold kX12_write_112
  exact v_ai (v_ald (v_gr (v_ild (v_pi (v_iadd (v_ai (v_ild (v_cv hr (v_ifeq (vX12_write_133 rf r hr) (v_ild (v_ist ((vX12_write_133 rf r hr)))))))))))))
theorem tX12_write_112 {X : pu_X} {r : pu_R} (hX : pu_H X mdX12_write) (hr : pu_P X.2.1 X.2.2.2.2.2.2.2.2.2.2.1 r) (hq : ∀ i pc, pu_lp i = some (338, pc) → pu_S X mdX12_write pc (r i)) : pu_S X mdX12_write 112 (kX12_write_112 r) := by
  unfold kX12_write_112
  exact z_iald hX dX12_write_112 (z_ald_n hX dX12_write_113 rfl (z_gr (c := 12) (j := 0) hX dX12_write_114 rfl inlX12 wm7_16 ⟨rfl, by decide, rfl⟩ (z_ild hX dX12_write_117 (z_iconst hX dX12_write_119 (by decide) (z_iadd hX dX12_write_120 (z_iald hX dX12_write_121 (z_ild_n hX dX12_write_122 rfl (z_cv (c := 12) hX hr dX12_write_123 hjX12_holds mwX12_holds rfl wm47_22 ⟨wm47_23, wm48_0⟩ ⟨Nat.le_of_ble_eq_true rfl, Nat.le_of_ble_eq_true rfl⟩ (z_ifeq hX dX12_write_126 (by decide) (tX12_write_133 hX hr hq) (z_ild hX dX12_write_129 (z_ist hX dX12_write_131 ((tX12_write_133 hX hr hq)))))))))))))
def kX12_write_69 (r : pu_R) : pu_K := s_ild 7 (s_ald 0 (s_gr 12 0 (s_push (.int (7)) (s_ai 1 (s_icge (kX12_write_139 r) (s_push (.int (7552)) (s_push (.int (5)) (s_ild 7 (s_imul (s_iadd (s_ist 8 (s_ald 0 (s_gr 12 0 (s_ild 8 (s_ai 1 (s_ild 5 (s_icne (kX12_write_133 r) (s_ald 0 (s_ald 0 (s_gr 12 0 (s_ild 8 (s_push (.int (3)) (s_iadd ((kX12_write_112 r)))))))))))))))))))))))))
theorem vX12_write_69 : pu_cok2 kX12_write_69 := fun rf r hr => by
  unfold kX12_write_69
  exact v_ild (v_ald (v_gr (v_pi (v_ai (v_icge (vX12_write_139 rf r hr) (v_pi (v_pi (v_ild (v_imul (v_iadd (v_ist (v_ald (v_gr (v_ild (v_ai (v_ild (v_icne (vX12_write_133 rf r hr) (v_ald (v_ald (v_gr (v_ild (v_pi (v_iadd ((vX12_write_112 rf r hr)))))))))))))))))))))))))
theorem tX12_write_69 {X : pu_X} {r : pu_R} (hX : pu_H X mdX12_write) (hr : pu_P X.2.1 X.2.2.2.2.2.2.2.2.2.2.1 r) (hq : ∀ i pc, pu_lp i = some (338, pc) → pu_S X mdX12_write pc (r i)) : pu_S X mdX12_write 69 (kX12_write_69 r) := by
  unfold kX12_write_69
  exact z_ild hX dX12_write_69 (z_ald_n hX dX12_write_71 rfl (z_gr (c := 12) (j := 0) hX dX12_write_72 rfl inlX12 wm7_16 ⟨rfl, by decide, rfl⟩ (z_bipush hX dX12_write_75 (by decide) (z_iald hX dX12_write_77 (z_icge hX dX12_write_78 (by decide) (tX12_write_139 hX hr hq) (z_sipush hX dX12_write_81 (by decide) (z_iconst hX dX12_write_84 (by decide) (z_ild hX dX12_write_85 (z_imul hX dX12_write_87 (z_iadd hX dX12_write_88 (z_ist hX dX12_write_89 (z_ald_n hX dX12_write_91 rfl (z_gr (c := 12) (j := 0) hX dX12_write_92 rfl inlX12 wm7_16 ⟨rfl, by decide, rfl⟩ (z_ild hX dX12_write_95 (z_iald hX dX12_write_97 (z_ild hX dX12_write_98 (z_icne hX dX12_write_100 (by decide) (tX12_write_133 hX hr hq) (z_ald_n hX dX12_write_103 rfl (z_ald_n hX dX12_write_104 rfl (z_gr (c := 12) (j := 0) hX dX12_write_105 rfl inlX12 wm7_16 ⟨rfl, by decide, rfl⟩ (z_ild hX dX12_write_108 (z_iconst hX dX12_write_110 (by decide) (z_iadd hX dX12_write_111 ((tX12_write_112 hX hr hq)))))))))))))))))))))))))
def kX12_write_45 (r : pu_R) : pu_K := s_ald 0 (s_gr 12 0 (s_push (.int (10752)) (s_push (.int (6)) (s_ild 4 (s_imul (s_iadd (s_push (.int (2)) (s_iadd (s_ai 1 (s_ist 5 (s_push (.int (-1)) (s_ist 6 (s_push (.int (0)) (s_ist 7 ((r 511))))))))))))))))
theorem vX12_write_45 : pu_cok2 kX12_write_45 := fun rf r hr => by
  unfold kX12_write_45
  exact v_ald (v_gr (v_pi (v_pi (v_ild (v_imul (v_iadd (v_pi (v_iadd (v_ai (v_ist (v_pi (v_ist (v_pi (v_ist ((hr 511))))))))))))))))
theorem tX12_write_45 {X : pu_X} {r : pu_R} (hX : pu_H X mdX12_write) (hr : pu_P X.2.1 X.2.2.2.2.2.2.2.2.2.2.1 r) (hq : ∀ i pc, pu_lp i = some (338, pc) → pu_S X mdX12_write pc (r i)) : pu_S X mdX12_write 45 (kX12_write_45 r) := by
  unfold kX12_write_45
  exact z_ald_n hX dX12_write_45 rfl (z_gr (c := 12) (j := 0) hX dX12_write_46 rfl inlX12 wm7_16 ⟨rfl, by decide, rfl⟩ (z_sipush hX dX12_write_49 (by decide) (z_bipush hX dX12_write_52 (by decide) (z_ild hX dX12_write_54 (z_imul hX dX12_write_56 (z_iadd hX dX12_write_57 (z_iconst hX dX12_write_58 (by decide) (z_iadd hX dX12_write_59 (z_iald hX dX12_write_60 (z_ist hX dX12_write_61 (z_iconst hX dX12_write_63 (by decide) (z_ist hX dX12_write_64 (z_iconst hX dX12_write_66 (by decide) (z_ist hX dX12_write_67 ((hq 511 69 hl511))))))))))))))))
def kX12_write_43 (r : pu_R) : pu_K := s_push (.int (-1)) (s_iret)
theorem vX12_write_43 : pu_cok2 kX12_write_43 := fun rf r hr => by
  unfold kX12_write_43
  exact v_pi (v_iret)
theorem tX12_write_43 {X : pu_X} {r : pu_R} (hX : pu_H X mdX12_write) (hr : pu_P X.2.1 X.2.2.2.2.2.2.2.2.2.2.1 r) (hq : ∀ i pc, pu_lp i = some (338, pc) → pu_S X mdX12_write pc (r i)) : pu_S X mdX12_write 43 (kX12_write_43 r) := by
  unfold kX12_write_43
  exact z_iconst hX dX12_write_43 (by decide) (z_iret hX dX12_write_44 rfl)
def kX12_write_40 (r : pu_R) : pu_K := s_ifne (kX12_write_45 r) ((kX12_write_43 r))
theorem vX12_write_40 : pu_cok2 kX12_write_40 := fun rf r hr => by
  unfold kX12_write_40
  exact v_ifne (vX12_write_45 rf r hr) ((vX12_write_43 rf r hr))
theorem tX12_write_40 {X : pu_X} {r : pu_R} (hX : pu_H X mdX12_write) (hr : pu_P X.2.1 X.2.2.2.2.2.2.2.2.2.2.1 r) (hq : ∀ i pc, pu_lp i = some (338, pc) → pu_S X mdX12_write pc (r i)) : pu_S X mdX12_write 40 (kX12_write_40 r) := by
  unfold kX12_write_40
  exact z_ifne hX dX12_write_40 (by decide) (tX12_write_45 hX hr hq) ((tX12_write_43 hX hr hq))
def kX12_write_0 (r : pu_R) : pu_K := s_ald 0 (s_ild 1 (s_ild 2 (s_ild 3 (s_cv r 332 3 12 (s_ist 4 (s_ild 4 (s_push (.int (-1)) (s_iceq (kX12_write_43 r) (s_ald 0 (s_ild 1 (s_ild 3 (s_cv r 315 2 12 (s_ifeq (kX12_write_43 r) (s_ald 0 (s_gr 12 0 (s_push (.int (10752)) (s_push (.int (6)) (s_ild 4 (s_imul (s_iadd (s_push (.int (3)) (s_iadd (s_ai 1 ((kX12_write_40 r)))))))))))))))))))))))))
theorem vX12_write_0 : pu_cok2 kX12_write_0 := fun rf r hr => by
  unfold kX12_write_0
  exact v_ald (v_ild (v_ild (v_ild (v_cv hr (v_ist (v_ild (v_pi (v_iceq (vX12_write_43 rf r hr) (v_ald (v_ild (v_ild (v_cv hr (v_ifeq (vX12_write_43 rf r hr) (v_ald (v_gr (v_pi (v_pi (v_ild (v_imul (v_iadd (v_pi (v_iadd (v_ai ((vX12_write_40 rf r hr)))))))))))))))))))))))))
theorem tX12_write_0 {X : pu_X} {r : pu_R} (hX : pu_H X mdX12_write) (hr : pu_P X.2.1 X.2.2.2.2.2.2.2.2.2.2.1 r) (hq : ∀ i pc, pu_lp i = some (338, pc) → pu_S X mdX12_write pc (r i)) : pu_S X mdX12_write 0 (kX12_write_0 r) := by
  unfold kX12_write_0
  exact z_ald_n hX dX12_write_0 rfl (z_ild_n hX dX12_write_1 rfl (z_ild_n hX dX12_write_2 rfl (z_ild_n hX dX12_write_3 rfl (z_cv (c := 12) hX hr dX12_write_4 hjX12_spanOn mwX12_spanOn rfl wm49_3 ⟨wm49_4, wm49_5⟩ ⟨Nat.le_of_ble_eq_true rfl, Nat.le_of_ble_eq_true rfl⟩ (z_ist hX dX12_write_7 (z_ild hX dX12_write_9 (z_iconst hX dX12_write_11 (by decide) (z_iceq hX dX12_write_12 (by decide) (tX12_write_43 hX hr hq) (z_ald_n hX dX12_write_15 rfl (z_ild_n hX dX12_write_16 rfl (z_ild_n hX dX12_write_17 rfl (z_cv (c := 12) hX hr dX12_write_18 hjX12_standsOn mwX12_standsOn rfl wm47_18 ⟨wm47_19, wm47_20⟩ ⟨Nat.le_of_ble_eq_true rfl, Nat.le_of_ble_eq_true rfl⟩ (z_ifeq hX dX12_write_21 (by decide) (tX12_write_43 hX hr hq) (z_ald_n hX dX12_write_24 rfl (z_gr (c := 12) (j := 0) hX dX12_write_25 rfl inlX12 wm7_16 ⟨rfl, by decide, rfl⟩ (z_sipush hX dX12_write_28 (by decide) (z_bipush hX dX12_write_31 (by decide) (z_ild hX dX12_write_33 (z_imul hX dX12_write_35 (z_iadd hX dX12_write_36 (z_iconst hX dX12_write_37 (by decide) (z_iadd hX dX12_write_38 (z_iald hX dX12_write_39 ((tX12_write_40 hX hr hq)))))))))))))))))))))))))
def kX12_pairs_270 (r : pu_R) : pu_K := s_vret
theorem vX12_pairs_270 : pu_cok2 kX12_pairs_270 := fun rf r hr => by
  unfold kX12_pairs_270
  exact v_vret
theorem tX12_pairs_270 {X : pu_X} {r : pu_R} (hX : pu_H X mdX12_pairs) (hr : pu_P X.2.1 X.2.2.2.2.2.2.2.2.2.2.1 r) (hq : ∀ i pc, pu_lp i = some (339, pc) → pu_S X mdX12_pairs pc (r i)) : pu_S X mdX12_pairs 270 (kX12_pairs_270 r) := by
  unfold kX12_pairs_270
  exact z_vret hX dX12_pairs_270 rfl
def kX12_pairs_267 (r : pu_R) : pu_K := (r 512)
theorem vX12_pairs_267 : pu_cok2 kX12_pairs_267 := fun rf r hr => by
  unfold kX12_pairs_267
  exact (hr 512)
theorem tX12_pairs_267 {X : pu_X} {r : pu_R} (hX : pu_H X mdX12_pairs) (hr : pu_P X.2.1 X.2.2.2.2.2.2.2.2.2.2.1 r) (hq : ∀ i pc, pu_lp i = some (339, pc) → pu_S X mdX12_pairs pc (r i)) : pu_S X mdX12_pairs 267 (kX12_pairs_267 r) := by
  unfold kX12_pairs_267
  exact (z_goto hX dX12_pairs_267 (by decide) (hq 512 2 hl512))
def kX12_pairs_261 (r : pu_R) : pu_K := s_inc 6 (1) ((r 515))
theorem vX12_pairs_261 : pu_cok2 kX12_pairs_261 := fun rf r hr => by
  unfold kX12_pairs_261
  exact v_inc ((hr 515))
theorem tX12_pairs_261 {X : pu_X} {r : pu_R} (hX : pu_H X mdX12_pairs) (hr : pu_P X.2.1 X.2.2.2.2.2.2.2.2.2.2.1 r) (hq : ∀ i pc, pu_lp i = some (339, pc) → pu_S X mdX12_pairs pc (r i)) : pu_S X mdX12_pairs 261 (kX12_pairs_261 r) := by
  unfold kX12_pairs_261
  exact z_inc hX dX12_pairs_261 (by decide) ((z_goto hX dX12_pairs_264 (by decide) (hq 515 134 hl515)))
def kX12_pairs_255 (r : pu_R) : pu_K := s_inc 7 (1) ((r 516))
theorem vX12_pairs_255 : pu_cok2 kX12_pairs_255 := fun rf r hr => by
  unfold kX12_pairs_255
  exact v_inc ((hr 516))
theorem tX12_pairs_255 {X : pu_X} {r : pu_R} (hX : pu_H X mdX12_pairs) (hr : pu_P X.2.1 X.2.2.2.2.2.2.2.2.2.2.1 r) (hq : ∀ i pc, pu_lp i = some (339, pc) → pu_S X mdX12_pairs pc (r i)) : pu_S X mdX12_pairs 255 (kX12_pairs_255 r) := by
  unfold kX12_pairs_255
  exact z_inc hX dX12_pairs_255 (by decide) ((z_goto hX dX12_pairs_258 (by decide) (hq 516 148 hl516)))
def kX12_pairs_241 (r : pu_R) : pu_K := s_ild 6 (s_wi 1 (s_ald 0 (s_gr 12 0 (s_push (.int (14)) (s_dup2 (s_ai 1 (s_push (.int (1)) (s_iadd (s_wi 1 ((kX12_pairs_255 r)))))))))))
theorem vX12_pairs_241 : pu_cok2 kX12_pairs_241 := fun rf r hr => by
  unfold kX12_pairs_241
  exact v_ild (v_wi (v_ald (v_gr (v_pi (v_dup2 (v_ai (v_pi (v_iadd (v_wi ((vX12_pairs_255 rf r hr)))))))))))
theorem tX12_pairs_241 {X : pu_X} {r : pu_R} (hX : pu_H X mdX12_pairs) (hr : pu_P X.2.1 X.2.2.2.2.2.2.2.2.2.2.1 r) (hq : ∀ i pc, pu_lp i = some (339, pc) → pu_S X mdX12_pairs pc (r i)) : pu_S X mdX12_pairs 241 (kX12_pairs_241 r) := by
  unfold kX12_pairs_241
  exact z_ild hX dX12_pairs_241 (z_iast hX dX12_pairs_243 (z_ald_n hX dX12_pairs_244 rfl (z_gr (c := 12) (j := 0) hX dX12_pairs_245 rfl inlX12 wm7_16 ⟨rfl, by decide, rfl⟩ (z_bipush hX dX12_pairs_248 (by decide) (z_dup2 hX dX12_pairs_250 (z_iald hX dX12_pairs_251 (z_iconst hX dX12_pairs_252 (by decide) (z_iadd hX dX12_pairs_253 (z_iast hX dX12_pairs_254 ((tX12_pairs_255 hX hr hq)))))))))))
def kX12_pairs_202 (r : pu_R) : pu_K := s_ald 0 (s_gr 12 0 (s_push (.int (60008)) (s_push (.int (2)) (s_ald 0 (s_gr 12 0 (s_push (.int (14)) (s_ai 1 (s_imul (s_iadd (s_ild 5 (s_wi 1 (s_ald 0 (s_gr 12 0 (s_push (.int (60008)) (s_push (.int (2)) (s_ald 0 (s_gr 12 0 (s_push (.int (14)) (s_ai 1 (s_imul (s_iadd (s_push (.int (1)) (s_iadd ((kX12_pairs_241 r)))))))))))))))))))))))))
theorem vX12_pairs_202 : pu_cok2 kX12_pairs_202 := fun rf r hr => by
  unfold kX12_pairs_202
  exact v_ald (v_gr (v_pi (v_pi (v_ald (v_gr (v_pi (v_ai (v_imul (v_iadd (v_ild (v_wi (v_ald (v_gr (v_pi (v_pi (v_ald (v_gr (v_pi (v_ai (v_imul (v_iadd (v_pi (v_iadd ((vX12_pairs_241 rf r hr)))))))))))))))))))))))))
theorem tX12_pairs_202 {X : pu_X} {r : pu_R} (hX : pu_H X mdX12_pairs) (hr : pu_P X.2.1 X.2.2.2.2.2.2.2.2.2.2.1 r) (hq : ∀ i pc, pu_lp i = some (339, pc) → pu_S X mdX12_pairs pc (r i)) : pu_S X mdX12_pairs 202 (kX12_pairs_202 r) := by
  unfold kX12_pairs_202
  exact z_ald_n hX dX12_pairs_202 rfl (z_gr (c := 12) (j := 0) hX dX12_pairs_203 rfl inlX12 wm7_16 ⟨rfl, by decide, rfl⟩ (z_ldcw hX dX12_pairs_206 wm64_21 (z_iconst hX dX12_pairs_209 (by decide) (z_ald_n hX dX12_pairs_210 rfl (z_gr (c := 12) (j := 0) hX dX12_pairs_211 rfl inlX12 wm7_16 ⟨rfl, by decide, rfl⟩ (z_bipush hX dX12_pairs_214 (by decide) (z_iald hX dX12_pairs_216 (z_imul hX dX12_pairs_217 (z_iadd hX dX12_pairs_218 (z_ild hX dX12_pairs_219 (z_iast hX dX12_pairs_221 (z_ald_n hX dX12_pairs_222 rfl (z_gr (c := 12) (j := 0) hX dX12_pairs_223 rfl inlX12 wm7_16 ⟨rfl, by decide, rfl⟩ (z_ldcw hX dX12_pairs_226 wm64_21 (z_iconst hX dX12_pairs_229 (by decide) (z_ald_n hX dX12_pairs_230 rfl (z_gr (c := 12) (j := 0) hX dX12_pairs_231 rfl inlX12 wm7_16 ⟨rfl, by decide, rfl⟩ (z_bipush hX dX12_pairs_234 (by decide) (z_iald hX dX12_pairs_236 (z_imul hX dX12_pairs_237 (z_iadd hX dX12_pairs_238 (z_iconst hX dX12_pairs_239 (by decide) (z_iadd hX dX12_pairs_240 ((tX12_pairs_241 hX hr hq)))))))))))))))))))))))))
def kX12_pairs_199 (r : pu_R) : pu_K := (kX12_pairs_255 r)
theorem vX12_pairs_199 : pu_cok2 kX12_pairs_199 := fun rf r hr => by
  unfold kX12_pairs_199
  exact (vX12_pairs_255 rf r hr)
theorem tX12_pairs_199 {X : pu_X} {r : pu_R} (hX : pu_H X mdX12_pairs) (hr : pu_P X.2.1 X.2.2.2.2.2.2.2.2.2.2.1 r) (hq : ∀ i pc, pu_lp i = some (339, pc) → pu_S X mdX12_pairs pc (r i)) : pu_S X mdX12_pairs 199 (kX12_pairs_199 r) := by
  unfold kX12_pairs_199
  exact (z_goto hX dX12_pairs_199 (by decide) (tX12_pairs_255 hX hr hq))
def kX12_pairs_148 (r : pu_R) : pu_K := s_ild 7 (s_push (.int (2)) (s_icge (kX12_pairs_261 r) (s_ald 0 (s_ild 6 (s_cv r 266 1 12 (s_ifeq (kX12_pairs_255 r) (s_ald 0 (s_ild 6 (s_ild 7 (s_cv r 267 2 12 (s_ifeq (kX12_pairs_255 r) (s_ald 0 (s_ild 6 (s_ild 7 (s_cv r 268 2 12 (s_ild 2 (s_icne (kX12_pairs_255 r) (s_ald 0 (s_ild 6 (s_ild 7 (s_cv r 273 2 12 (s_ild 4 (s_iceq (kX12_pairs_202 r) ((kX12_pairs_199 r)))))))))))))))))))))))))
theorem vX12_pairs_148 : pu_cok2 kX12_pairs_148 := fun rf r hr => by
  unfold kX12_pairs_148
  exact v_ild (v_pi (v_icge (vX12_pairs_261 rf r hr) (v_ald (v_ild (v_cv hr (v_ifeq (vX12_pairs_255 rf r hr) (v_ald (v_ild (v_ild (v_cv hr (v_ifeq (vX12_pairs_255 rf r hr) (v_ald (v_ild (v_ild (v_cv hr (v_ild (v_icne (vX12_pairs_255 rf r hr) (v_ald (v_ild (v_ild (v_cv hr (v_ild (v_iceq (vX12_pairs_202 rf r hr) ((vX12_pairs_199 rf r hr)))))))))))))))))))))))))
theorem tX12_pairs_148 {X : pu_X} {r : pu_R} (hX : pu_H X mdX12_pairs) (hr : pu_P X.2.1 X.2.2.2.2.2.2.2.2.2.2.1 r) (hq : ∀ i pc, pu_lp i = some (339, pc) → pu_S X mdX12_pairs pc (r i)) : pu_S X mdX12_pairs 148 (kX12_pairs_148 r) := by
  unfold kX12_pairs_148
  exact z_ild hX dX12_pairs_148 (z_iconst hX dX12_pairs_150 (by decide) (z_icge hX dX12_pairs_151 (by decide) (tX12_pairs_261 hX hr hq) (z_ald_n hX dX12_pairs_154 rfl (z_ild hX dX12_pairs_155 (z_cv (c := 12) hX hr dX12_pairs_157 hjX12_isOpen mwX12_isOpen rfl wm29_19 ⟨wm29_20, wm29_21⟩ ⟨Nat.le_of_ble_eq_true rfl, Nat.le_of_ble_eq_true rfl⟩ (z_ifeq hX dX12_pairs_160 (by decide) (tX12_pairs_255 hX hr hq) (z_ald_n hX dX12_pairs_163 rfl (z_ild hX dX12_pairs_164 (z_ild hX dX12_pairs_166 (z_cv (c := 12) hX hr dX12_pairs_168 hjX12_hasPlace mwX12_hasPlace rfl wm30_7 ⟨wm30_8, wm30_9⟩ ⟨Nat.le_of_ble_eq_true rfl, Nat.le_of_ble_eq_true rfl⟩ (z_ifeq hX dX12_pairs_171 (by decide) (tX12_pairs_255 hX hr hq) (z_ald_n hX dX12_pairs_174 rfl (z_ild hX dX12_pairs_175 (z_ild hX dX12_pairs_177 (z_cv (c := 12) hX hr dX12_pairs_179 hjX12_streetAt mwX12_streetAt rfl wm30_11 ⟨wm30_12, wm30_13⟩ ⟨Nat.le_of_ble_eq_true rfl, Nat.le_of_ble_eq_true rfl⟩ (z_ild_n hX dX12_pairs_182 rfl (z_icne hX dX12_pairs_183 (by decide) (tX12_pairs_255 hX hr hq) (z_ald_n hX dX12_pairs_186 rfl (z_ild hX dX12_pairs_187 (z_ild hX dX12_pairs_189 (z_cv (c := 12) hX hr dX12_pairs_191 hjX12_wholeAt mwX12_wholeAt rfl wm30_22 ⟨wm30_23, wm31_0⟩ ⟨Nat.le_of_ble_eq_true rfl, Nat.le_of_ble_eq_true rfl⟩ (z_ild hX dX12_pairs_194 (z_iceq hX dX12_pairs_196 (by decide) (tX12_pairs_202 hX hr hq) ((tX12_pairs_199 hX hr hq)))))))))))))))))))))))))
def kX12_pairs_134 (r : pu_R) : pu_K := s_ild 6 (s_ald 0 (s_gr 12 0 (s_push (.int (4)) (s_ai 1 (s_icge (kX12_pairs_267 r) (s_push (.int (0)) (s_ist 7 ((r 516)))))))))
theorem vX12_pairs_134 : pu_cok2 kX12_pairs_134 := fun rf r hr => by
  unfold kX12_pairs_134
  exact v_ild (v_ald (v_gr (v_pi (v_ai (v_icge (vX12_pairs_267 rf r hr) (v_pi (v_ist ((hr 516)))))))))
theorem tX12_pairs_134 {X : pu_X} {r : pu_R} (hX : pu_H X mdX12_pairs) (hr : pu_P X.2.1 X.2.2.2.2.2.2.2.2.2.2.1 r) (hq : ∀ i pc, pu_lp i = some (339, pc) → pu_S X mdX12_pairs pc (r i)) : pu_S X mdX12_pairs 134 (kX12_pairs_134 r) := by
  unfold kX12_pairs_134
  exact z_ild hX dX12_pairs_134 (z_ald_n hX dX12_pairs_136 rfl (z_gr (c := 12) (j := 0) hX dX12_pairs_137 rfl inlX12 wm7_16 ⟨rfl, by decide, rfl⟩ (z_iconst hX dX12_pairs_140 (by decide) (z_iald hX dX12_pairs_141 (z_icge hX dX12_pairs_142 (by decide) (tX12_pairs_267 hX hr hq) (z_iconst hX dX12_pairs_145 (by decide) (z_ist hX dX12_pairs_146 ((hq 516 148 hl516)))))))))
def kX12_pairs_131 (r : pu_R) : pu_K := s_push (.int (0)) (s_ist 6 ((r 515)))
theorem vX12_pairs_131 : pu_cok2 kX12_pairs_131 := fun rf r hr => by
  unfold kX12_pairs_131
  exact v_pi (v_ist ((hr 515)))
theorem tX12_pairs_131 {X : pu_X} {r : pu_R} (hX : pu_H X mdX12_pairs) (hr : pu_P X.2.1 X.2.2.2.2.2.2.2.2.2.2.1 r) (hq : ∀ i pc, pu_lp i = some (339, pc) → pu_S X mdX12_pairs pc (r i)) : pu_S X mdX12_pairs 131 (kX12_pairs_131 r) := by
  unfold kX12_pairs_131
  exact z_iconst hX dX12_pairs_131 (by decide) (z_ist hX dX12_pairs_132 ((hq 515 134 hl515)))
def kX12_pairs_119 (r : pu_R) : pu_K := s_ild 4 (s_ist 3 (s_ild 5 (s_push (.int (-1)) (s_icne (kX12_pairs_131 r) ((r 512))))))
theorem vX12_pairs_119 : pu_cok2 kX12_pairs_119 := fun rf r hr => by
  unfold kX12_pairs_119
  exact v_ild (v_ist (v_ild (v_pi (v_icne (vX12_pairs_131 rf r hr) ((hr 512))))))
theorem tX12_pairs_119 {X : pu_X} {r : pu_R} (hX : pu_H X mdX12_pairs) (hr : pu_P X.2.1 X.2.2.2.2.2.2.2.2.2.2.1 r) (hq : ∀ i pc, pu_lp i = some (339, pc) → pu_S X mdX12_pairs pc (r i)) : pu_S X mdX12_pairs 119 (kX12_pairs_119 r) := by
  unfold kX12_pairs_119
  exact z_ild hX dX12_pairs_119 (z_ist_n hX dX12_pairs_121 rfl (z_ild hX dX12_pairs_122 (z_iconst hX dX12_pairs_124 (by decide) (z_icne hX dX12_pairs_125 (by decide) (tX12_pairs_131 hX hr hq) ((z_goto hX dX12_pairs_128 (by decide) (hq 512 2 hl512)))))))
def kX12_pairs_113 (r : pu_R) : pu_K := s_inc 6 (1) ((r 513))
theorem vX12_pairs_113 : pu_cok2 kX12_pairs_113 := fun rf r hr => by
  unfold kX12_pairs_113
  exact v_inc ((hr 513))
theorem tX12_pairs_113 {X : pu_X} {r : pu_R} (hX : pu_H X mdX12_pairs) (hr : pu_P X.2.1 X.2.2.2.2.2.2.2.2.2.2.1 r) (hq : ∀ i pc, pu_lp i = some (339, pc) → pu_S X mdX12_pairs pc (r i)) : pu_S X mdX12_pairs 113 (kX12_pairs_113 r) := by
  unfold kX12_pairs_113
  exact z_inc hX dX12_pairs_113 (by decide) ((z_goto hX dX12_pairs_116 (by decide) (hq 513 18 hl513)))
def kX12_pairs_107 (r : pu_R) : pu_K := s_inc 7 (1) ((r 514))
theorem vX12_pairs_107 : pu_cok2 kX12_pairs_107 := fun rf r hr => by
  unfold kX12_pairs_107
  exact v_inc ((hr 514))
theorem tX12_pairs_107 {X : pu_X} {r : pu_R} (hX : pu_H X mdX12_pairs) (hr : pu_P X.2.1 X.2.2.2.2.2.2.2.2.2.2.1 r) (hq : ∀ i pc, pu_lp i = some (339, pc) → pu_S X mdX12_pairs pc (r i)) : pu_S X mdX12_pairs 107 (kX12_pairs_107 r) := by
  unfold kX12_pairs_107
  exact z_inc hX dX12_pairs_107 (by decide) ((z_goto hX dX12_pairs_110 (by decide) (hq 514 32 hl514)))
def kX12_pairs_99 (r : pu_R) : pu_K := s_ild 8 (s_ist 4 (s_ild 6 (s_ist 5 ((kX12_pairs_107 r)))))
theorem vX12_pairs_99 : pu_cok2 kX12_pairs_99 := fun rf r hr => by
  unfold kX12_pairs_99
  exact v_ild (v_ist (v_ild (v_ist ((vX12_pairs_107 rf r hr)))))
theorem tX12_pairs_99 {X : pu_X} {r : pu_R} (hX : pu_H X mdX12_pairs) (hr : pu_P X.2.1 X.2.2.2.2.2.2.2.2.2.2.1 r) (hq : ∀ i pc, pu_lp i = some (339, pc) → pu_S X mdX12_pairs pc (r i)) : pu_S X mdX12_pairs 99 (kX12_pairs_99 r) := by
  unfold kX12_pairs_99
  exact z_ild hX dX12_pairs_99 (z_ist hX dX12_pairs_101 (z_ild hX dX12_pairs_103 (z_ist hX dX12_pairs_105 ((tX12_pairs_107 hX hr hq)))))
def kX12_pairs_73 (r : pu_R) : pu_K := s_ald 0 (s_ild 6 (s_ild 7 (s_cv r 273 2 12 (s_ist 8 (s_ild 8 (s_ild 3 (s_icle (kX12_pairs_107 r) (s_ild 8 (s_ild 4 (s_iclt (kX12_pairs_99 r) ((kX12_pairs_107 r))))))))))))
theorem vX12_pairs_73 : pu_cok2 kX12_pairs_73 := fun rf r hr => by
  unfold kX12_pairs_73
  exact v_ald (v_ild (v_ild (v_cv hr (v_ist (v_ild (v_ild (v_icle (vX12_pairs_107 rf r hr) (v_ild (v_ild (v_iclt (vX12_pairs_99 rf r hr) ((vX12_pairs_107 rf r hr))))))))))))
theorem tX12_pairs_73 {X : pu_X} {r : pu_R} (hX : pu_H X mdX12_pairs) (hr : pu_P X.2.1 X.2.2.2.2.2.2.2.2.2.2.1 r) (hq : ∀ i pc, pu_lp i = some (339, pc) → pu_S X mdX12_pairs pc (r i)) : pu_S X mdX12_pairs 73 (kX12_pairs_73 r) := by
  unfold kX12_pairs_73
  exact z_ald_n hX dX12_pairs_73 rfl (z_ild hX dX12_pairs_74 (z_ild hX dX12_pairs_76 (z_cv (c := 12) hX hr dX12_pairs_78 hjX12_wholeAt mwX12_wholeAt rfl wm30_22 ⟨wm30_23, wm31_0⟩ ⟨Nat.le_of_ble_eq_true rfl, Nat.le_of_ble_eq_true rfl⟩ (z_ist hX dX12_pairs_81 (z_ild hX dX12_pairs_83 (z_ild_n hX dX12_pairs_85 rfl (z_icle hX dX12_pairs_86 (by decide) (tX12_pairs_107 hX hr hq) (z_ild hX dX12_pairs_89 (z_ild hX dX12_pairs_91 (z_iclt hX dX12_pairs_93 (by decide) (tX12_pairs_99 hX hr hq) ((z_goto hX dX12_pairs_96 (by decide) (tX12_pairs_107 hX hr hq)))))))))))))
def kX12_pairs_32 (r : pu_R) : pu_K := s_ild 7 (s_push (.int (2)) (s_icge (kX12_pairs_113 r) (s_ald 0 (s_ild 6 (s_cv r 266 1 12 (s_ifeq (kX12_pairs_107 r) (s_ald 0 (s_ild 6 (s_ild 7 (s_cv r 267 2 12 (s_ifeq (kX12_pairs_107 r) (s_ald 0 (s_ild 6 (s_ild 7 (s_cv r 268 2 12 (s_ild 1 (s_iceq (kX12_pairs_73 r) ((kX12_pairs_107 r)))))))))))))))))))
theorem vX12_pairs_32 : pu_cok2 kX12_pairs_32 := fun rf r hr => by
  unfold kX12_pairs_32
  exact v_ild (v_pi (v_icge (vX12_pairs_113 rf r hr) (v_ald (v_ild (v_cv hr (v_ifeq (vX12_pairs_107 rf r hr) (v_ald (v_ild (v_ild (v_cv hr (v_ifeq (vX12_pairs_107 rf r hr) (v_ald (v_ild (v_ild (v_cv hr (v_ild (v_iceq (vX12_pairs_73 rf r hr) ((vX12_pairs_107 rf r hr)))))))))))))))))))
theorem tX12_pairs_32 {X : pu_X} {r : pu_R} (hX : pu_H X mdX12_pairs) (hr : pu_P X.2.1 X.2.2.2.2.2.2.2.2.2.2.1 r) (hq : ∀ i pc, pu_lp i = some (339, pc) → pu_S X mdX12_pairs pc (r i)) : pu_S X mdX12_pairs 32 (kX12_pairs_32 r) := by
  unfold kX12_pairs_32
  exact z_ild hX dX12_pairs_32 (z_iconst hX dX12_pairs_34 (by decide) (z_icge hX dX12_pairs_35 (by decide) (tX12_pairs_113 hX hr hq) (z_ald_n hX dX12_pairs_38 rfl (z_ild hX dX12_pairs_39 (z_cv (c := 12) hX hr dX12_pairs_41 hjX12_isOpen mwX12_isOpen rfl wm29_19 ⟨wm29_20, wm29_21⟩ ⟨Nat.le_of_ble_eq_true rfl, Nat.le_of_ble_eq_true rfl⟩ (z_ifeq hX dX12_pairs_44 (by decide) (tX12_pairs_107 hX hr hq) (z_ald_n hX dX12_pairs_47 rfl (z_ild hX dX12_pairs_48 (z_ild hX dX12_pairs_50 (z_cv (c := 12) hX hr dX12_pairs_52 hjX12_hasPlace mwX12_hasPlace rfl wm30_7 ⟨wm30_8, wm30_9⟩ ⟨Nat.le_of_ble_eq_true rfl, Nat.le_of_ble_eq_true rfl⟩ (z_ifeq hX dX12_pairs_55 (by decide) (tX12_pairs_107 hX hr hq) (z_ald_n hX dX12_pairs_58 rfl (z_ild hX dX12_pairs_59 (z_ild hX dX12_pairs_61 (z_cv (c := 12) hX hr dX12_pairs_63 hjX12_streetAt mwX12_streetAt rfl wm30_11 ⟨wm30_12, wm30_13⟩ ⟨Nat.le_of_ble_eq_true rfl, Nat.le_of_ble_eq_true rfl⟩ (z_ild_n hX dX12_pairs_66 rfl (z_iceq hX dX12_pairs_67 (by decide) (tX12_pairs_73 hX hr hq) ((z_goto hX dX12_pairs_70 (by decide) (tX12_pairs_107 hX hr hq))))))))))))))))))))
def kX12_pairs_18 (r : pu_R) : pu_K := s_ild 6 (s_ald 0 (s_gr 12 0 (s_push (.int (4)) (s_ai 1 (s_icge (kX12_pairs_119 r) (s_push (.int (0)) (s_ist 7 ((r 514)))))))))
theorem vX12_pairs_18 : pu_cok2 kX12_pairs_18 := fun rf r hr => by
  unfold kX12_pairs_18
  exact v_ild (v_ald (v_gr (v_pi (v_ai (v_icge (vX12_pairs_119 rf r hr) (v_pi (v_ist ((hr 514)))))))))
theorem tX12_pairs_18 {X : pu_X} {r : pu_R} (hX : pu_H X mdX12_pairs) (hr : pu_P X.2.1 X.2.2.2.2.2.2.2.2.2.2.1 r) (hq : ∀ i pc, pu_lp i = some (339, pc) → pu_S X mdX12_pairs pc (r i)) : pu_S X mdX12_pairs 18 (kX12_pairs_18 r) := by
  unfold kX12_pairs_18
  exact z_ild hX dX12_pairs_18 (z_ald_n hX dX12_pairs_20 rfl (z_gr (c := 12) (j := 0) hX dX12_pairs_21 rfl inlX12 wm7_16 ⟨rfl, by decide, rfl⟩ (z_iconst hX dX12_pairs_24 (by decide) (z_iald hX dX12_pairs_25 (z_icge hX dX12_pairs_26 (by decide) (tX12_pairs_119 hX hr hq) (z_iconst hX dX12_pairs_29 (by decide) (z_ist hX dX12_pairs_30 ((hq 514 32 hl514)))))))))
def kX12_pairs_2 (r : pu_R) : pu_K := s_ild 3 (s_push (.int (160000)) (s_icge (kX12_pairs_270 r) (s_push (.int (160000)) (s_ist 4 (s_push (.int (-1)) (s_ist 5 (s_push (.int (0)) (s_ist 6 ((r 513))))))))))
theorem vX12_pairs_2 : pu_cok2 kX12_pairs_2 := fun rf r hr => by
  unfold kX12_pairs_2
  exact v_ild (v_pi (v_icge (vX12_pairs_270 rf r hr) (v_pi (v_ist (v_pi (v_ist (v_pi (v_ist ((hr 513))))))))))
theorem tX12_pairs_2 {X : pu_X} {r : pu_R} (hX : pu_H X mdX12_pairs) (hr : pu_P X.2.1 X.2.2.2.2.2.2.2.2.2.2.1 r) (hq : ∀ i pc, pu_lp i = some (339, pc) → pu_S X mdX12_pairs pc (r i)) : pu_S X mdX12_pairs 2 (kX12_pairs_2 r) := by
  unfold kX12_pairs_2
  exact z_ild_n hX dX12_pairs_2 rfl (z_ldc hX dX12_pairs_3 wm29_14 (z_icge hX dX12_pairs_5 (by decide) (tX12_pairs_270 hX hr hq) (z_ldc hX dX12_pairs_8 wm29_14 (z_ist hX dX12_pairs_10 (z_iconst hX dX12_pairs_12 (by decide) (z_ist hX dX12_pairs_13 (z_iconst hX dX12_pairs_15 (by decide) (z_ist hX dX12_pairs_16 ((hq 513 18 hl513))))))))))
def kX12_pairs_0 (r : pu_R) : pu_K := s_push (.int (0)) (s_ist 3 ((r 512)))
theorem vX12_pairs_0 : pu_cok2 kX12_pairs_0 := fun rf r hr => by
  unfold kX12_pairs_0
  exact v_pi (v_ist ((hr 512)))
theorem tX12_pairs_0 {X : pu_X} {r : pu_R} (hX : pu_H X mdX12_pairs) (hr : pu_P X.2.1 X.2.2.2.2.2.2.2.2.2.2.1 r) (hq : ∀ i pc, pu_lp i = some (339, pc) → pu_S X mdX12_pairs pc (r i)) : pu_S X mdX12_pairs 0 (kX12_pairs_0 r) := by
  unfold kX12_pairs_0
  exact z_iconst hX dX12_pairs_0 (by decide) (z_ist_n hX dX12_pairs_1 rfl ((hq 512 2 hl512)))
def kX12_twice_200 (r : pu_R) : pu_K := s_ald 0 (s_gr 12 0 (s_push (.int (14)) (s_ai 1 (s_iret))))
theorem vX12_twice_200 : pu_cok2 kX12_twice_200 := fun rf r hr => by
  unfold kX12_twice_200
  exact v_ald (v_gr (v_pi (v_ai (v_iret))))
theorem tX12_twice_200 {X : pu_X} {r : pu_R} (hX : pu_H X mdX12_twice) (hr : pu_P X.2.1 X.2.2.2.2.2.2.2.2.2.2.1 r) (hq : ∀ i pc, pu_lp i = some (340, pc) → pu_S X mdX12_twice pc (r i)) : pu_S X mdX12_twice 200 (kX12_twice_200 r) := by
  unfold kX12_twice_200
  exact z_ald_n hX dX12_twice_200 rfl (z_gr (c := 12) (j := 0) hX dX12_twice_201 rfl inlX12 wm7_16 ⟨rfl, by decide, rfl⟩ (z_bipush hX dX12_twice_204 (by decide) (z_iald hX dX12_twice_206 (z_iret hX dX12_twice_207 rfl))))
def kX12_twice_194 (r : pu_R) : pu_K := s_inc 4 (1) ((r 517))
theorem vX12_twice_194 : pu_cok2 kX12_twice_194 := fun rf r hr => by
  unfold kX12_twice_194
  exact v_inc ((hr 517))
theorem tX12_twice_194 {X : pu_X} {r : pu_R} (hX : pu_H X mdX12_twice) (hr : pu_P X.2.1 X.2.2.2.2.2.2.2.2.2.2.1 r) (hq : ∀ i pc, pu_lp i = some (340, pc) → pu_S X mdX12_twice pc (r i)) : pu_S X mdX12_twice 194 (kX12_twice_194 r) := by
  unfold kX12_twice_194
  exact z_inc hX dX12_twice_194 (by decide) ((z_goto hX dX12_twice_197 (by decide) (hq 517 90 hl517)))
def kX12_twice_188 (r : pu_R) : pu_K := s_inc 5 (1) ((r 518))
theorem vX12_twice_188 : pu_cok2 kX12_twice_188 := fun rf r hr => by
  unfold kX12_twice_188
  exact v_inc ((hr 518))
theorem tX12_twice_188 {X : pu_X} {r : pu_R} (hX : pu_H X mdX12_twice) (hr : pu_P X.2.1 X.2.2.2.2.2.2.2.2.2.2.1 r) (hq : ∀ i pc, pu_lp i = some (340, pc) → pu_S X mdX12_twice pc (r i)) : pu_S X mdX12_twice 188 (kX12_twice_188 r) := by
  unfold kX12_twice_188
  exact z_inc hX dX12_twice_188 (by decide) ((z_goto hX dX12_twice_191 (by decide) (hq 518 104 hl518)))
def kX12_twice_150 (r : pu_R) : pu_K := s_imul (s_iadd (s_push (.int (2)) (s_iadd (s_ai 1 (s_ald 0 (s_gr 12 0 (s_push (.int (7552)) (s_push (.int (5)) (s_ald 0 (s_ild 5 (s_cv r 253 1 12 (s_imul (s_iadd (s_push (.int (2)) (s_iadd (s_ai 1 (s_cv r 246 2 12 (s_ifeq (kX12_twice_188 r) (s_ald 0 (s_ild 4 (s_ild 5 (s_cv r 339 2 12 ((kX12_twice_188 r))))))))))))))))))))))))
theorem vX12_twice_150 : pu_cok2 kX12_twice_150 := fun rf r hr => by
  unfold kX12_twice_150
  exact v_imul (v_iadd (v_pi (v_iadd (v_ai (v_ald (v_gr (v_pi (v_pi (v_ald (v_ild (v_cv hr (v_imul (v_iadd (v_pi (v_iadd (v_ai (v_cv hr (v_ifeq (vX12_twice_188 rf r hr) (v_ald (v_ild (v_ild (v_cv hr ((vX12_twice_188 rf r hr))))))))))))))))))))))))
theorem tX12_twice_150 {X : pu_X} {r : pu_R} (hX : pu_H X mdX12_twice) (hr : pu_P X.2.1 X.2.2.2.2.2.2.2.2.2.2.1 r) (hq : ∀ i pc, pu_lp i = some (340, pc) → pu_S X mdX12_twice pc (r i)) : pu_S X mdX12_twice 150 (kX12_twice_150 r) := by
  unfold kX12_twice_150
  exact z_imul hX dX12_twice_150 (z_iadd hX dX12_twice_151 (z_iconst hX dX12_twice_152 (by decide) (z_iadd hX dX12_twice_153 (z_iald hX dX12_twice_154 (z_ald_n hX dX12_twice_155 rfl (z_gr (c := 12) (j := 0) hX dX12_twice_156 rfl inlX12 wm7_16 ⟨rfl, by decide, rfl⟩ (z_sipush hX dX12_twice_159 (by decide) (z_iconst hX dX12_twice_162 (by decide) (z_ald_n hX dX12_twice_163 rfl (z_ild hX dX12_twice_164 (z_cv (c := 12) hX hr dX12_twice_166 hjX12_openName mwX12_openName rfl wm29_1 ⟨wm29_2, wm29_3⟩ ⟨Nat.le_of_ble_eq_true rfl, Nat.le_of_ble_eq_true rfl⟩ (z_imul hX dX12_twice_169 (z_iadd hX dX12_twice_170 (z_iconst hX dX12_twice_171 (by decide) (z_iadd hX dX12_twice_172 (z_iald hX dX12_twice_173 (z_cv (c := 12) hX hr dX12_twice_174 hjX12_areAlike mwX12_areAlike rfl wm40_20 ⟨wm40_21, wm40_22⟩ ⟨Nat.le_of_ble_eq_true rfl, Nat.le_of_ble_eq_true rfl⟩ (z_ifeq hX dX12_twice_177 (by decide) (tX12_twice_188 hX hr hq) (z_ald_n hX dX12_twice_180 rfl (z_ild hX dX12_twice_181 (z_ild hX dX12_twice_183 (z_cv (c := 12) hX hr dX12_twice_185 hjX12_pairs mwX12_pairs rfl wm64_17 ⟨wm64_18, wm64_19⟩ ⟨Nat.le_of_ble_eq_true rfl, Nat.le_of_ble_eq_true rfl⟩ ((tX12_twice_188 hX hr hq))))))))))))))))))))))))
def kX12_twice_104 (r : pu_R) : pu_K := s_ild 5 (s_ald 0 (s_gr 12 0 (s_push (.int (3)) (s_ai 1 (s_icge (kX12_twice_194 r) (s_ald 0 (s_ild 4 (s_cv r 254 1 12 (s_ild 2 (s_icne (kX12_twice_188 r) (s_ald 0 (s_ild 5 (s_cv r 254 1 12 (s_ild 3 (s_icne (kX12_twice_188 r) (s_ald 0 (s_ald 0 (s_gr 12 0 (s_push (.int (7552)) (s_push (.int (5)) (s_ald 0 (s_ild 4 (s_cv r 253 1 12 ((kX12_twice_150 r)))))))))))))))))))))))))
theorem vX12_twice_104 : pu_cok2 kX12_twice_104 := fun rf r hr => by
  unfold kX12_twice_104
  exact v_ild (v_ald (v_gr (v_pi (v_ai (v_icge (vX12_twice_194 rf r hr) (v_ald (v_ild (v_cv hr (v_ild (v_icne (vX12_twice_188 rf r hr) (v_ald (v_ild (v_cv hr (v_ild (v_icne (vX12_twice_188 rf r hr) (v_ald (v_ald (v_gr (v_pi (v_pi (v_ald (v_ild (v_cv hr ((vX12_twice_150 rf r hr)))))))))))))))))))))))))
theorem tX12_twice_104 {X : pu_X} {r : pu_R} (hX : pu_H X mdX12_twice) (hr : pu_P X.2.1 X.2.2.2.2.2.2.2.2.2.2.1 r) (hq : ∀ i pc, pu_lp i = some (340, pc) → pu_S X mdX12_twice pc (r i)) : pu_S X mdX12_twice 104 (kX12_twice_104 r) := by
  unfold kX12_twice_104
  exact z_ild hX dX12_twice_104 (z_ald_n hX dX12_twice_106 rfl (z_gr (c := 12) (j := 0) hX dX12_twice_107 rfl inlX12 wm7_16 ⟨rfl, by decide, rfl⟩ (z_iconst hX dX12_twice_110 (by decide) (z_iald hX dX12_twice_111 (z_icge hX dX12_twice_112 (by decide) (tX12_twice_194 hX hr hq) (z_ald_n hX dX12_twice_115 rfl (z_ild hX dX12_twice_116 (z_cv (c := 12) hX hr dX12_twice_118 hjX12_townOf mwX12_townOf rfl wm28_21 ⟨wm28_22, wm28_23⟩ ⟨Nat.le_of_ble_eq_true rfl, Nat.le_of_ble_eq_true rfl⟩ (z_ild_n hX dX12_twice_121 rfl (z_icne hX dX12_twice_122 (by decide) (tX12_twice_188 hX hr hq) (z_ald_n hX dX12_twice_125 rfl (z_ild hX dX12_twice_126 (z_cv (c := 12) hX hr dX12_twice_128 hjX12_townOf mwX12_townOf rfl wm28_21 ⟨wm28_22, wm28_23⟩ ⟨Nat.le_of_ble_eq_true rfl, Nat.le_of_ble_eq_true rfl⟩ (z_ild_n hX dX12_twice_131 rfl (z_icne hX dX12_twice_132 (by decide) (tX12_twice_188 hX hr hq) (z_ald_n hX dX12_twice_135 rfl (z_ald_n hX dX12_twice_136 rfl (z_gr (c := 12) (j := 0) hX dX12_twice_137 rfl inlX12 wm7_16 ⟨rfl, by decide, rfl⟩ (z_sipush hX dX12_twice_140 (by decide) (z_iconst hX dX12_twice_143 (by decide) (z_ald_n hX dX12_twice_144 rfl (z_ild hX dX12_twice_145 (z_cv (c := 12) hX hr dX12_twice_147 hjX12_openName mwX12_openName rfl wm29_1 ⟨wm29_2, wm29_3⟩ ⟨Nat.le_of_ble_eq_true rfl, Nat.le_of_ble_eq_true rfl⟩ ((tX12_twice_150 hX hr hq)))))))))))))))))))))))))
def kX12_twice_90 (r : pu_R) : pu_K := s_ild 4 (s_ald 0 (s_gr 12 0 (s_push (.int (3)) (s_ai 1 (s_icge (kX12_twice_200 r) (s_push (.int (0)) (s_ist 5 ((r 518)))))))))
theorem vX12_twice_90 : pu_cok2 kX12_twice_90 := fun rf r hr => by
  unfold kX12_twice_90
  exact v_ild (v_ald (v_gr (v_pi (v_ai (v_icge (vX12_twice_200 rf r hr) (v_pi (v_ist ((hr 518)))))))))
theorem tX12_twice_90 {X : pu_X} {r : pu_R} (hX : pu_H X mdX12_twice) (hr : pu_P X.2.1 X.2.2.2.2.2.2.2.2.2.2.1 r) (hq : ∀ i pc, pu_lp i = some (340, pc) → pu_S X mdX12_twice pc (r i)) : pu_S X mdX12_twice 90 (kX12_twice_90 r) := by
  unfold kX12_twice_90
  exact z_ild hX dX12_twice_90 (z_ald_n hX dX12_twice_92 rfl (z_gr (c := 12) (j := 0) hX dX12_twice_93 rfl inlX12 wm7_16 ⟨rfl, by decide, rfl⟩ (z_iconst hX dX12_twice_96 (by decide) (z_iald hX dX12_twice_97 (z_icge hX dX12_twice_98 (by decide) (tX12_twice_200 hX hr hq) (z_iconst hX dX12_twice_101 (by decide) (z_ist hX dX12_twice_102 ((hq 518 104 hl518)))))))))
def kX12_twice_87 (r : pu_R) : pu_K := s_push (.int (0)) (s_ist 4 ((r 517)))
theorem vX12_twice_87 : pu_cok2 kX12_twice_87 := fun rf r hr => by
  unfold kX12_twice_87
  exact v_pi (v_ist ((hr 517)))
theorem tX12_twice_87 {X : pu_X} {r : pu_R} (hX : pu_H X mdX12_twice) (hr : pu_P X.2.1 X.2.2.2.2.2.2.2.2.2.2.1 r) (hq : ∀ i pc, pu_lp i = some (340, pc) → pu_S X mdX12_twice pc (r i)) : pu_S X mdX12_twice 87 (kX12_twice_87 r) := by
  unfold kX12_twice_87
  exact z_iconst hX dX12_twice_87 (by decide) (z_ist hX dX12_twice_88 ((hq 517 90 hl517)))
def kX12_twice_61 (r : pu_R) : pu_K := s_ald 0 (s_gr 12 0 (s_push (.int (14)) (s_push (.int (0)) (s_wi 1 (s_ild 1 (s_ifne (kX12_twice_87 r) (s_ald 0 (s_ild 2 (s_ild 3 (s_cv r 339 2 12 (s_ald 0 (s_gr 12 0 (s_push (.int (14)) (s_ai 1 (s_iret)))))))))))))))
theorem vX12_twice_61 : pu_cok2 kX12_twice_61 := fun rf r hr => by
  unfold kX12_twice_61
  exact v_ald (v_gr (v_pi (v_pi (v_wi (v_ild (v_ifne (vX12_twice_87 rf r hr) (v_ald (v_ild (v_ild (v_cv hr (v_ald (v_gr (v_pi (v_ai (v_iret)))))))))))))))
theorem tX12_twice_61 {X : pu_X} {r : pu_R} (hX : pu_H X mdX12_twice) (hr : pu_P X.2.1 X.2.2.2.2.2.2.2.2.2.2.1 r) (hq : ∀ i pc, pu_lp i = some (340, pc) → pu_S X mdX12_twice pc (r i)) : pu_S X mdX12_twice 61 (kX12_twice_61 r) := by
  unfold kX12_twice_61
  exact z_ald_n hX dX12_twice_61 rfl (z_gr (c := 12) (j := 0) hX dX12_twice_62 rfl inlX12 wm7_16 ⟨rfl, by decide, rfl⟩ (z_bipush hX dX12_twice_65 (by decide) (z_iconst hX dX12_twice_67 (by decide) (z_iast hX dX12_twice_68 (z_ild_n hX dX12_twice_69 rfl (z_ifne hX dX12_twice_70 (by decide) (tX12_twice_87 hX hr hq) (z_ald_n hX dX12_twice_73 rfl (z_ild_n hX dX12_twice_74 rfl (z_ild_n hX dX12_twice_75 rfl (z_cv (c := 12) hX hr dX12_twice_76 hjX12_pairs mwX12_pairs rfl wm64_17 ⟨wm64_18, wm64_19⟩ ⟨Nat.le_of_ble_eq_true rfl, Nat.le_of_ble_eq_true rfl⟩ (z_ald_n hX dX12_twice_79 rfl (z_gr (c := 12) (j := 0) hX dX12_twice_80 rfl inlX12 wm7_16 ⟨rfl, by decide, rfl⟩ (z_bipush hX dX12_twice_83 (by decide) (z_iald hX dX12_twice_85 (z_iret hX dX12_twice_86 rfl)))))))))))))))
def kX12_twice_53 (r : pu_R) : pu_K := s_ild 2 (s_ild 3 (s_icne (kX12_twice_61 r) (s_push (.int (-2)) (s_iret))))
theorem vX12_twice_53 : pu_cok2 kX12_twice_53 := fun rf r hr => by
  unfold kX12_twice_53
  exact v_ild (v_ild (v_icne (vX12_twice_61 rf r hr) (v_pi (v_iret))))
theorem tX12_twice_53 {X : pu_X} {r : pu_R} (hX : pu_H X mdX12_twice) (hr : pu_P X.2.1 X.2.2.2.2.2.2.2.2.2.2.1 r) (hq : ∀ i pc, pu_lp i = some (340, pc) → pu_S X mdX12_twice pc (r i)) : pu_S X mdX12_twice 53 (kX12_twice_53 r) := by
  unfold kX12_twice_53
  exact z_ild_n hX dX12_twice_53 rfl (z_ild_n hX dX12_twice_54 rfl (z_icne hX dX12_twice_55 (by decide) (tX12_twice_61 hX hr hq) (z_bipush hX dX12_twice_58 (by decide) (z_iret hX dX12_twice_60 rfl))))
def kX12_twice_51 (r : pu_R) : pu_K := s_push (.int (-1)) (s_iret)
theorem vX12_twice_51 : pu_cok2 kX12_twice_51 := fun rf r hr => by
  unfold kX12_twice_51
  exact v_pi (v_iret)
theorem tX12_twice_51 {X : pu_X} {r : pu_R} (hX : pu_H X mdX12_twice) (hr : pu_P X.2.1 X.2.2.2.2.2.2.2.2.2.2.1 r) (hq : ∀ i pc, pu_lp i = some (340, pc) → pu_S X mdX12_twice pc (r i)) : pu_S X mdX12_twice 51 (kX12_twice_51 r) := by
  unfold kX12_twice_51
  exact z_iconst hX dX12_twice_51 (by decide) (z_iret hX dX12_twice_52 rfl)
def kX12_twice_35 (r : pu_R) : pu_K := s_ald 0 (s_ild 2 (s_cv r 252 1 12 (s_ifeq (kX12_twice_51 r) (s_ald 0 (s_ild 3 (s_cv r 252 1 12 (s_ifne (kX12_twice_53 r) ((kX12_twice_51 r)))))))))
theorem vX12_twice_35 : pu_cok2 kX12_twice_35 := fun rf r hr => by
  unfold kX12_twice_35
  exact v_ald (v_ild (v_cv hr (v_ifeq (vX12_twice_51 rf r hr) (v_ald (v_ild (v_cv hr (v_ifne (vX12_twice_53 rf r hr) ((vX12_twice_51 rf r hr)))))))))
theorem tX12_twice_35 {X : pu_X} {r : pu_R} (hX : pu_H X mdX12_twice) (hr : pu_P X.2.1 X.2.2.2.2.2.2.2.2.2.2.1 r) (hq : ∀ i pc, pu_lp i = some (340, pc) → pu_S X mdX12_twice pc (r i)) : pu_S X mdX12_twice 35 (kX12_twice_35 r) := by
  unfold kX12_twice_35
  exact z_ald_n hX dX12_twice_35 rfl (z_ild_n hX dX12_twice_36 rfl (z_cv (c := 12) hX hr dX12_twice_37 hjX12_isTown mwX12_isTown rfl wm20_16 ⟨wm20_17, wm20_18⟩ ⟨Nat.le_of_ble_eq_true rfl, Nat.le_of_ble_eq_true rfl⟩ (z_ifeq hX dX12_twice_40 (by decide) (tX12_twice_51 hX hr hq) (z_ald_n hX dX12_twice_43 rfl (z_ild_n hX dX12_twice_44 rfl (z_cv (c := 12) hX hr dX12_twice_45 hjX12_isTown mwX12_isTown rfl wm20_16 ⟨wm20_17, wm20_18⟩ ⟨Nat.le_of_ble_eq_true rfl, Nat.le_of_ble_eq_true rfl⟩ (z_ifne hX dX12_twice_48 (by decide) (tX12_twice_53 hX hr hq) ((tX12_twice_51 hX hr hq)))))))))
def kX12_twice_12 (r : pu_R) : pu_K := s_ild 1 (s_ifne (kX12_twice_35 r) (s_ald 0 (s_ild 2 (s_cv r 251 1 12 (s_ifeq (kX12_twice_51 r) (s_ald 0 (s_ild 3 (s_cv r 251 1 12 (s_ifne (kX12_twice_53 r) ((kX12_twice_51 r)))))))))))
theorem vX12_twice_12 : pu_cok2 kX12_twice_12 := fun rf r hr => by
  unfold kX12_twice_12
  exact v_ild (v_ifne (vX12_twice_35 rf r hr) (v_ald (v_ild (v_cv hr (v_ifeq (vX12_twice_51 rf r hr) (v_ald (v_ild (v_cv hr (v_ifne (vX12_twice_53 rf r hr) ((vX12_twice_51 rf r hr)))))))))))
theorem tX12_twice_12 {X : pu_X} {r : pu_R} (hX : pu_H X mdX12_twice) (hr : pu_P X.2.1 X.2.2.2.2.2.2.2.2.2.2.1 r) (hq : ∀ i pc, pu_lp i = some (340, pc) → pu_S X mdX12_twice pc (r i)) : pu_S X mdX12_twice 12 (kX12_twice_12 r) := by
  unfold kX12_twice_12
  exact z_ild_n hX dX12_twice_12 rfl (z_ifne hX dX12_twice_13 (by decide) (tX12_twice_35 hX hr hq) (z_ald_n hX dX12_twice_16 rfl (z_ild_n hX dX12_twice_17 rfl (z_cv (c := 12) hX hr dX12_twice_18 hjX12_isStreet mwX12_isStreet rfl wm28_6 ⟨wm28_7, wm28_8⟩ ⟨Nat.le_of_ble_eq_true rfl, Nat.le_of_ble_eq_true rfl⟩ (z_ifeq hX dX12_twice_21 (by decide) (tX12_twice_51 hX hr hq) (z_ald_n hX dX12_twice_24 rfl (z_ild_n hX dX12_twice_25 rfl (z_cv (c := 12) hX hr dX12_twice_26 hjX12_isStreet mwX12_isStreet rfl wm28_6 ⟨wm28_7, wm28_8⟩ ⟨Nat.le_of_ble_eq_true rfl, Nat.le_of_ble_eq_true rfl⟩ (z_ifne hX dX12_twice_29 (by decide) (tX12_twice_53 hX hr hq) ((z_goto hX dX12_twice_32 (by decide) (tX12_twice_51 hX hr hq))))))))))))
def kX12_twice_9 (r : pu_R) : pu_K := s_push (.int (-2)) (s_iret)
theorem vX12_twice_9 : pu_cok2 kX12_twice_9 := fun rf r hr => by
  unfold kX12_twice_9
  exact v_pi (v_iret)
theorem tX12_twice_9 {X : pu_X} {r : pu_R} (hX : pu_H X mdX12_twice) (hr : pu_P X.2.1 X.2.2.2.2.2.2.2.2.2.2.1 r) (hq : ∀ i pc, pu_lp i = some (340, pc) → pu_S X mdX12_twice pc (r i)) : pu_S X mdX12_twice 9 (kX12_twice_9 r) := by
  unfold kX12_twice_9
  exact z_bipush hX dX12_twice_9 (by decide) (z_iret hX dX12_twice_11 rfl)
def kX12_twice_0 (r : pu_R) : pu_K := s_ild 1 (s_iflt (kX12_twice_9 r) (s_ild 1 (s_push (.int (1)) (s_icle (kX12_twice_12 r) ((kX12_twice_9 r))))))
theorem vX12_twice_0 : pu_cok2 kX12_twice_0 := fun rf r hr => by
  unfold kX12_twice_0
  exact v_ild (v_iflt (vX12_twice_9 rf r hr) (v_ild (v_pi (v_icle (vX12_twice_12 rf r hr) ((vX12_twice_9 rf r hr))))))
theorem tX12_twice_0 {X : pu_X} {r : pu_R} (hX : pu_H X mdX12_twice) (hr : pu_P X.2.1 X.2.2.2.2.2.2.2.2.2.2.1 r) (hq : ∀ i pc, pu_lp i = some (340, pc) → pu_S X mdX12_twice pc (r i)) : pu_S X mdX12_twice 0 (kX12_twice_0 r) := by
  unfold kX12_twice_0
  exact z_ild_n hX dX12_twice_0 rfl (z_iflt hX dX12_twice_1 (by decide) (tX12_twice_9 hX hr hq) (z_ild_n hX dX12_twice_4 rfl (z_iconst hX dX12_twice_5 (by decide) (z_icle hX dX12_twice_6 (by decide) (tX12_twice_12 hX hr hq) ((tX12_twice_9 hX hr hq))))))
def kX12_pair_42 (r : pu_R) : pu_K := s_iret
theorem vX12_pair_42 : pu_cok2 kX12_pair_42 := fun rf r hr => by
  unfold kX12_pair_42
  exact v_iret
theorem tX12_pair_42 {X : pu_X} {r : pu_R} (hX : pu_H X mdX12_pair) (hr : pu_P X.2.1 X.2.2.2.2.2.2.2.2.2.2.1 r) (hq : ∀ i pc, pu_lp i = some (341, pc) → pu_S X mdX12_pair pc (r i)) : pu_S X mdX12_pair 42 (kX12_pair_42 r) := by
  unfold kX12_pair_42
  exact z_iret hX dX12_pair_42 rfl
def kX12_pair_28 (r : pu_R) : pu_K := s_ald 0 (s_gr 12 0 (s_push (.int (60008)) (s_push (.int (2)) (s_ild 1 (s_imul (s_iadd (s_ild 2 (s_iadd (s_ai 1 ((kX12_pair_42 r)))))))))))
theorem vX12_pair_28 : pu_cok2 kX12_pair_28 := fun rf r hr => by
  unfold kX12_pair_28
  exact v_ald (v_gr (v_pi (v_pi (v_ild (v_imul (v_iadd (v_ild (v_iadd (v_ai ((vX12_pair_42 rf r hr)))))))))))
theorem tX12_pair_28 {X : pu_X} {r : pu_R} (hX : pu_H X mdX12_pair) (hr : pu_P X.2.1 X.2.2.2.2.2.2.2.2.2.2.1 r) (hq : ∀ i pc, pu_lp i = some (341, pc) → pu_S X mdX12_pair pc (r i)) : pu_S X mdX12_pair 28 (kX12_pair_28 r) := by
  unfold kX12_pair_28
  exact z_ald_n hX dX12_pair_28 rfl (z_gr (c := 12) (j := 0) hX dX12_pair_29 rfl inlX12 wm7_16 ⟨rfl, by decide, rfl⟩ (z_ldcw hX dX12_pair_32 wm64_21 (z_iconst hX dX12_pair_35 (by decide) (z_ild_n hX dX12_pair_36 rfl (z_imul hX dX12_pair_37 (z_iadd hX dX12_pair_38 (z_ild_n hX dX12_pair_39 rfl (z_iadd hX dX12_pair_40 (z_iald hX dX12_pair_41 ((tX12_pair_42 hX hr hq)))))))))))
def kX12_pair_24 (r : pu_R) : pu_K := s_push (.int (-1)) ((kX12_pair_42 r))
theorem vX12_pair_24 : pu_cok2 kX12_pair_24 := fun rf r hr => by
  unfold kX12_pair_24
  exact v_pi ((vX12_pair_42 rf r hr))
theorem tX12_pair_24 {X : pu_X} {r : pu_R} (hX : pu_H X mdX12_pair) (hr : pu_P X.2.1 X.2.2.2.2.2.2.2.2.2.2.1 r) (hq : ∀ i pc, pu_lp i = some (341, pc) → pu_S X mdX12_pair pc (r i)) : pu_S X mdX12_pair 24 (kX12_pair_24 r) := by
  unfold kX12_pair_24
  exact z_iconst hX dX12_pair_24 (by decide) ((z_goto hX dX12_pair_25 (by decide) (tX12_pair_42 hX hr hq)))
def kX12_pair_0 (r : pu_R) : pu_K := s_ild 1 (s_iflt (kX12_pair_24 r) (s_ild 1 (s_ald 0 (s_gr 12 0 (s_push (.int (14)) (s_ai 1 (s_icge (kX12_pair_24 r) (s_ild 2 (s_iflt (kX12_pair_24 r) (s_ild 2 (s_push (.int (1)) (s_icle (kX12_pair_28 r) ((kX12_pair_24 r))))))))))))))
theorem vX12_pair_0 : pu_cok2 kX12_pair_0 := fun rf r hr => by
  unfold kX12_pair_0
  exact v_ild (v_iflt (vX12_pair_24 rf r hr) (v_ild (v_ald (v_gr (v_pi (v_ai (v_icge (vX12_pair_24 rf r hr) (v_ild (v_iflt (vX12_pair_24 rf r hr) (v_ild (v_pi (v_icle (vX12_pair_28 rf r hr) ((vX12_pair_24 rf r hr))))))))))))))
theorem tX12_pair_0 {X : pu_X} {r : pu_R} (hX : pu_H X mdX12_pair) (hr : pu_P X.2.1 X.2.2.2.2.2.2.2.2.2.2.1 r) (hq : ∀ i pc, pu_lp i = some (341, pc) → pu_S X mdX12_pair pc (r i)) : pu_S X mdX12_pair 0 (kX12_pair_0 r) := by
  unfold kX12_pair_0
  exact z_ild_n hX dX12_pair_0 rfl (z_iflt hX dX12_pair_1 (by decide) (tX12_pair_24 hX hr hq) (z_ild_n hX dX12_pair_4 rfl (z_ald_n hX dX12_pair_5 rfl (z_gr (c := 12) (j := 0) hX dX12_pair_6 rfl inlX12 wm7_16 ⟨rfl, by decide, rfl⟩ (z_bipush hX dX12_pair_9 (by decide) (z_iald hX dX12_pair_11 (z_icge hX dX12_pair_12 (by decide) (tX12_pair_24 hX hr hq) (z_ild_n hX dX12_pair_15 rfl (z_iflt hX dX12_pair_16 (by decide) (tX12_pair_24 hX hr hq) (z_ild_n hX dX12_pair_19 rfl (z_iconst hX dX12_pair_20 (by decide) (z_icle hX dX12_pair_21 (by decide) (tX12_pair_28 hX hr hq) ((tX12_pair_24 hX hr hq))))))))))))))
