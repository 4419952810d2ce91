def kX12_under_165 (r : pu_R) : pu_K := s_ald 0 (s_ild 1 (s_push (.int (-1)) (s_push (.int (-1)) (s_push (.int (-1)) (s_ild 3 (s_ild 2 (s_ald 0 (s_ild 6 (s_ild 4 (s_cv r 290 2 12 (s_cv r 284 7 12 (s_iret))))))))))))
theorem vX12_under_165 : pu_cok2 kX12_under_165 := fun rf r hr => by
  unfold kX12_under_165
  exact v_ald (v_ild (v_pi (v_pi (v_pi (v_ild (v_ild (v_ald (v_ild (v_ild (v_cv hr (v_cv hr (v_iret))))))))))))
theorem tX12_under_165 {X : pu_X} {r : pu_R} (hX : pu_H X mdX12_under) (hr : pu_P X.2.1 X.2.2.2.2.2.2.2.2.2.2.1 r) (hq : ∀ i pc, pu_lp i = some (291, pc) → pu_S X mdX12_under pc (r i)) : pu_S X mdX12_under 165 (kX12_under_165 r) := by
  unfold kX12_under_165
  exact z_ald_n hX dX12_under_165 rfl (z_ild_n hX dX12_under_166 rfl (z_iconst hX dX12_under_167 (by decide) (z_iconst hX dX12_under_168 (by decide) (z_iconst hX dX12_under_169 (by decide) (z_ild_n hX dX12_under_170 rfl (z_ild_n hX dX12_under_171 rfl (z_ald_n hX dX12_under_172 rfl (z_ild hX dX12_under_173 (z_ild hX dX12_under_175 (z_cv (c := 12) hX hr dX12_under_177 hjX12_paperOn mwX12_paperOn rfl wm35_12 ⟨wm35_13, wm35_14⟩ ⟨Nat.le_of_ble_eq_true rfl, Nat.le_of_ble_eq_true rfl⟩ (z_cv (c := 12) hX hr dX12_under_180 hjX12_made mwX12_made rfl wm32_1 ⟨wm32_2, wm32_3⟩ ⟨Nat.le_of_ble_eq_true rfl, Nat.le_of_ble_eq_true rfl⟩ (z_iret hX dX12_under_183 rfl))))))))))))
def kX12_under_162 (r : pu_R) : pu_K := s_push (.int (-6)) (s_iret)
theorem vX12_under_162 : pu_cok2 kX12_under_162 := fun rf r hr => by
  unfold kX12_under_162
  exact v_pi (v_iret)
theorem tX12_under_162 {X : pu_X} {r : pu_R} (hX : pu_H X mdX12_under) (hr : pu_P X.2.1 X.2.2.2.2.2.2.2.2.2.2.1 r) (hq : ∀ i pc, pu_lp i = some (291, pc) → pu_S X mdX12_under pc (r i)) : pu_S X mdX12_under 162 (kX12_under_162 r) := by
  unfold kX12_under_162
  exact z_bipush hX dX12_under_162 (by decide) (z_iret hX dX12_under_164 rfl)
def kX12_under_139 (r : pu_R) : pu_K := s_ald 0 (s_gr 12 0 (s_push (.int (4)) (s_ai 1 (s_push (.int (100)) (s_iceq (kX12_under_162 r) (s_ald 0 (s_gr 12 0 (s_push (.int (5)) (s_ai 1 (s_push (.int (200)) (s_icne (kX12_under_165 r) ((kX12_under_162 r)))))))))))))
theorem vX12_under_139 : pu_cok2 kX12_under_139 := fun rf r hr => by
  unfold kX12_under_139
  exact v_ald (v_gr (v_pi (v_ai (v_pi (v_iceq (vX12_under_162 rf r hr) (v_ald (v_gr (v_pi (v_ai (v_pi (v_icne (vX12_under_165 rf r hr) ((vX12_under_162 rf r hr)))))))))))))
theorem tX12_under_139 {X : pu_X} {r : pu_R} (hX : pu_H X mdX12_under) (hr : pu_P X.2.1 X.2.2.2.2.2.2.2.2.2.2.1 r) (hq : ∀ i pc, pu_lp i = some (291, pc) → pu_S X mdX12_under pc (r i)) : pu_S X mdX12_under 139 (kX12_under_139 r) := by
  unfold kX12_under_139
  exact z_ald_n hX dX12_under_139 rfl (z_gr (c := 12) (j := 0) hX dX12_under_140 rfl inlX12 wm7_16 ⟨rfl, by decide, rfl⟩ (z_iconst hX dX12_under_143 (by decide) (z_iald hX dX12_under_144 (z_bipush hX dX12_under_145 (by decide) (z_iceq hX dX12_under_147 (by decide) (tX12_under_162 hX hr hq) (z_ald_n hX dX12_under_150 rfl (z_gr (c := 12) (j := 0) hX dX12_under_151 rfl inlX12 wm7_16 ⟨rfl, by decide, rfl⟩ (z_iconst hX dX12_under_154 (by decide) (z_iald hX dX12_under_155 (z_sipush hX dX12_under_156 (by decide) (z_icne hX dX12_under_159 (by decide) (tX12_under_165 hX hr hq) ((tX12_under_162 hX hr hq)))))))))))))
def kX12_under_125 (r : pu_R) : pu_K := s_ald 0 (s_ild 2 (s_ild 1 (s_ild 3 (s_cv r 288 3 12 (s_push (.int (-1)) (s_iceq (kX12_under_139 r) (s_push (.int (-5)) (s_iret))))))))
theorem vX12_under_125 : pu_cok2 kX12_under_125 := fun rf r hr => by
  unfold kX12_under_125
  exact v_ald (v_ild (v_ild (v_ild (v_cv hr (v_pi (v_iceq (vX12_under_139 rf r hr) (v_pi (v_iret))))))))
theorem tX12_under_125 {X : pu_X} {r : pu_R} (hX : pu_H X mdX12_under) (hr : pu_P X.2.1 X.2.2.2.2.2.2.2.2.2.2.1 r) (hq : ∀ i pc, pu_lp i = some (291, pc) → pu_S X mdX12_under pc (r i)) : pu_S X mdX12_under 125 (kX12_under_125 r) := by
  unfold kX12_under_125
  exact z_ald_n hX dX12_under_125 rfl (z_ild_n hX dX12_under_126 rfl (z_ild_n hX dX12_under_127 rfl (z_ild_n hX dX12_under_128 rfl (z_cv (c := 12) hX hr dX12_under_129 hjX12_underneath mwX12_underneath rfl wm35_8 ⟨wm35_9, wm35_10⟩ ⟨Nat.le_of_ble_eq_true rfl, Nat.le_of_ble_eq_true rfl⟩ (z_iconst hX dX12_under_132 (by decide) (z_iceq hX dX12_under_133 (by decide) (tX12_under_139 hX hr hq) (z_bipush hX dX12_under_136 (by decide) (z_iret hX dX12_under_138 rfl))))))))
def kX12_under_104 (r : pu_R) : pu_K := s_ald 0 (s_ild 2 (s_cv r 271 1 12 (s_ist 6 (s_ald 0 (s_ild 6 (s_ild 4 (s_cv r 289 2 12 (s_ifeq (kX12_under_125 r) (s_push (.int (-3)) (s_iret))))))))))
theorem vX12_under_104 : pu_cok2 kX12_under_104 := fun rf r hr => by
  unfold kX12_under_104
  exact v_ald (v_ild (v_cv hr (v_ist (v_ald (v_ild (v_ild (v_cv hr (v_ifeq (vX12_under_125 rf r hr) (v_pi (v_iret))))))))))
theorem tX12_under_104 {X : pu_X} {r : pu_R} (hX : pu_H X mdX12_under) (hr : pu_P X.2.1 X.2.2.2.2.2.2.2.2.2.2.1 r) (hq : ∀ i pc, pu_lp i = some (291, pc) → pu_S X mdX12_under pc (r i)) : pu_S X mdX12_under 104 (kX12_under_104 r) := by
  unfold kX12_under_104
  exact z_ald_n hX dX12_under_104 rfl (z_ild_n hX dX12_under_105 rfl (z_cv (c := 12) hX hr dX12_under_106 hjX12_front mwX12_front rfl wm35_0 ⟨wm35_1, wm35_2⟩ ⟨Nat.le_of_ble_eq_true rfl, Nat.le_of_ble_eq_true rfl⟩ (z_ist hX dX12_under_109 (z_ald_n hX dX12_under_111 rfl (z_ild hX dX12_under_112 (z_ild hX dX12_under_114 (z_cv (c := 12) hX hr dX12_under_116 hjX12_isEarlyAt mwX12_isEarlyAt rfl wm35_4 ⟨wm35_5, wm35_6⟩ ⟨Nat.le_of_ble_eq_true rfl, Nat.le_of_ble_eq_true rfl⟩ (z_ifeq hX dX12_under_119 (by decide) (tX12_under_125 hX hr hq) (z_bipush hX dX12_under_122 (by decide) (z_iret hX dX12_under_124 rfl))))))))))
def kX12_under_101 (r : pu_R) : pu_K := s_push (.int (-2)) (s_iret)
theorem vX12_under_101 : pu_cok2 kX12_under_101 := fun rf r hr => by
  unfold kX12_under_101
  exact v_pi (v_iret)
theorem tX12_under_101 {X : pu_X} {r : pu_R} (hX : pu_H X mdX12_under) (hr : pu_P X.2.1 X.2.2.2.2.2.2.2.2.2.2.1 r) (hq : ∀ i pc, pu_lp i = some (291, pc) → pu_S X mdX12_under pc (r i)) : pu_S X mdX12_under 101 (kX12_under_101 r) := by
  unfold kX12_under_101
  exact z_bipush hX dX12_under_101 (by decide) (z_iret hX dX12_under_103 rfl)
def kX12_under_86 (r : pu_R) : pu_K := s_ist 5 (s_ild 5 (s_ifeq (kX12_under_101 r) (s_ild 4 (s_cs r 234 1 (s_ifne (kX12_under_104 r) ((kX12_under_101 r)))))))
theorem vX12_under_86 : pu_cok2 kX12_under_86 := fun rf r hr => by
  unfold kX12_under_86
  exact v_ist (v_ild (v_ifeq (vX12_under_101 rf r hr) (v_ild (v_cs hr (v_ifne (vX12_under_104 rf r hr) ((vX12_under_101 rf r hr)))))))
theorem tX12_under_86 {X : pu_X} {r : pu_R} (hX : pu_H X mdX12_under) (hr : pu_P X.2.1 X.2.2.2.2.2.2.2.2.2.2.1 r) (hq : ∀ i pc, pu_lp i = some (291, pc) → pu_S X mdX12_under pc (r i)) : pu_S X mdX12_under 86 (kX12_under_86 r) := by
  unfold kX12_under_86
  exact z_ist hX dX12_under_86 (z_ild hX dX12_under_88 (z_ifeq hX dX12_under_90 (by decide) (tX12_under_101 hX hr hq) (z_ild hX dX12_under_93 (z_cs hX hr dX12_under_95 hjX12_isDay mwX12_isDay wm11_5 wm11_6 ⟨Nat.le_of_ble_eq_true rfl, Nat.le_of_ble_eq_true rfl⟩ (z_ifne hX dX12_under_98 (by decide) (tX12_under_104 hX hr hq) ((tX12_under_101 hX hr hq)))))))
def kX12_under_85 (r : pu_R) : pu_K := s_push (.int (0)) ((kX12_under_86 r))
theorem vX12_under_85 : pu_cok2 kX12_under_85 := fun rf r hr => by
  unfold kX12_under_85
  exact v_pi ((vX12_under_86 rf r hr))
theorem tX12_under_85 {X : pu_X} {r : pu_R} (hX : pu_H X mdX12_under) (hr : pu_P X.2.1 X.2.2.2.2.2.2.2.2.2.2.1 r) (hq : ∀ i pc, pu_lp i = some (291, pc) → pu_S X mdX12_under pc (r i)) : pu_S X mdX12_under 85 (kX12_under_85 r) := by
  unfold kX12_under_85
  exact z_iconst hX dX12_under_85 (by decide) ((tX12_under_86 hX hr hq))
def kX12_under_70 (r : pu_R) : pu_K := s_ild 3 (s_push (.int (1)) (s_iclt (kX12_under_85 r) (s_ild 3 (s_push (.int (99)) (s_icgt (kX12_under_85 r) (s_push (.int (1)) ((kX12_under_86 r))))))))
theorem vX12_under_70 : pu_cok2 kX12_under_70 := fun rf r hr => by
  unfold kX12_under_70
  exact v_ild (v_pi (v_iclt (vX12_under_85 rf r hr) (v_ild (v_pi (v_icgt (vX12_under_85 rf r hr) (v_pi ((vX12_under_86 rf r hr))))))))
theorem tX12_under_70 {X : pu_X} {r : pu_R} (hX : pu_H X mdX12_under) (hr : pu_P X.2.1 X.2.2.2.2.2.2.2.2.2.2.1 r) (hq : ∀ i pc, pu_lp i = some (291, pc) → pu_S X mdX12_under pc (r i)) : pu_S X mdX12_under 70 (kX12_under_70 r) := by
  unfold kX12_under_70
  exact z_ild_n hX dX12_under_70 rfl (z_iconst hX dX12_under_71 (by decide) (z_iclt hX dX12_under_72 (by decide) (tX12_under_85 hX hr hq) (z_ild_n hX dX12_under_75 rfl (z_bipush hX dX12_under_76 (by decide) (z_icgt hX dX12_under_78 (by decide) (tX12_under_85 hX hr hq) (z_iconst hX dX12_under_81 (by decide) ((z_goto hX dX12_under_82 (by decide) (tX12_under_86 hX hr hq)))))))))
def kX12_under_66 (r : pu_R) : pu_K := s_push (.int (0)) ((kX12_under_86 r))
theorem vX12_under_66 : pu_cok2 kX12_under_66 := fun rf r hr => by
  unfold kX12_under_66
  exact v_pi ((vX12_under_86 rf r hr))
theorem tX12_under_66 {X : pu_X} {r : pu_R} (hX : pu_H X mdX12_under) (hr : pu_P X.2.1 X.2.2.2.2.2.2.2.2.2.2.1 r) (hq : ∀ i pc, pu_lp i = some (291, pc) → pu_S X mdX12_under pc (r i)) : pu_S X mdX12_under 66 (kX12_under_66 r) := by
  unfold kX12_under_66
  exact z_iconst hX dX12_under_66 (by decide) ((z_goto hX dX12_under_67 (by decide) (tX12_under_86 hX hr hq)))
def kX12_under_53 (r : pu_R) : pu_K := s_ild 1 (s_push (.int (2)) (s_icne (kX12_under_70 r) (s_ild 3 (s_ifne (kX12_under_66 r) (s_push (.int (1)) ((kX12_under_86 r)))))))
theorem vX12_under_53 : pu_cok2 kX12_under_53 := fun rf r hr => by
  unfold kX12_under_53
  exact v_ild (v_pi (v_icne (vX12_under_70 rf r hr) (v_ild (v_ifne (vX12_under_66 rf r hr) (v_pi ((vX12_under_86 rf r hr)))))))
theorem tX12_under_53 {X : pu_X} {r : pu_R} (hX : pu_H X mdX12_under) (hr : pu_P X.2.1 X.2.2.2.2.2.2.2.2.2.2.1 r) (hq : ∀ i pc, pu_lp i = some (291, pc) → pu_S X mdX12_under pc (r i)) : pu_S X mdX12_under 53 (kX12_under_53 r) := by
  unfold kX12_under_53
  exact z_ild_n hX dX12_under_53 rfl (z_iconst hX dX12_under_54 (by decide) (z_icne hX dX12_under_55 (by decide) (tX12_under_70 hX hr hq) (z_ild_n hX dX12_under_58 rfl (z_ifne hX dX12_under_59 (by decide) (tX12_under_66 hX hr hq) (z_iconst hX dX12_under_62 (by decide) ((z_goto hX dX12_under_63 (by decide) (tX12_under_86 hX hr hq))))))))
def kX12_under_51 (r : pu_R) : pu_K := s_push (.int (-1)) (s_iret)
theorem vX12_under_51 : pu_cok2 kX12_under_51 := fun rf r hr => by
  unfold kX12_under_51
  exact v_pi (v_iret)
theorem tX12_under_51 {X : pu_X} {r : pu_R} (hX : pu_H X mdX12_under) (hr : pu_P X.2.1 X.2.2.2.2.2.2.2.2.2.2.1 r) (hq : ∀ i pc, pu_lp i = some (291, pc) → pu_S X mdX12_under pc (r i)) : pu_S X mdX12_under 51 (kX12_under_51 r) := by
  unfold kX12_under_51
  exact z_iconst hX dX12_under_51 (by decide) (z_iret hX dX12_under_52 rfl)
def kX12_under_41 (r : pu_R) : pu_K := s_ald 0 (s_ild 2 (s_push (.int (0)) (s_cv r 265 2 12 (s_push (.int (1)) (s_icle (kX12_under_53 r) ((kX12_under_51 r)))))))
theorem vX12_under_41 : pu_cok2 kX12_under_41 := fun rf r hr => by
  unfold kX12_under_41
  exact v_ald (v_ild (v_pi (v_cv hr (v_pi (v_icle (vX12_under_53 rf r hr) ((vX12_under_51 rf r hr)))))))
theorem tX12_under_41 {X : pu_X} {r : pu_R} (hX : pu_H X mdX12_under) (hr : pu_P X.2.1 X.2.2.2.2.2.2.2.2.2.2.1 r) (hq : ∀ i pc, pu_lp i = some (291, pc) → pu_S X mdX12_under pc (r i)) : pu_S X mdX12_under 41 (kX12_under_41 r) := by
  unfold kX12_under_41
  exact z_ald_n hX dX12_under_41 rfl (z_ild_n hX dX12_under_42 rfl (z_iconst hX dX12_under_43 (by decide) (z_cv (c := 12) hX hr dX12_under_44 hjX12_of mwX12_of rfl wm30_3 ⟨wm30_4, wm30_5⟩ ⟨Nat.le_of_ble_eq_true rfl, Nat.le_of_ble_eq_true rfl⟩ (z_iconst hX dX12_under_47 (by decide) (z_icle hX dX12_under_48 (by decide) (tX12_under_53 hX hr hq) ((tX12_under_51 hX hr hq)))))))
def kX12_under_23 (r : pu_R) : pu_K := s_ild 1 (s_push (.int (3)) (s_icne (kX12_under_41 r) (s_ald 0 (s_ild 2 (s_push (.int (0)) (s_cv r 265 2 12 (s_push (.int (2)) (s_iceq (kX12_under_53 r) ((kX12_under_51 r))))))))))
theorem vX12_under_23 : pu_cok2 kX12_under_23 := fun rf r hr => by
  unfold kX12_under_23
  exact v_ild (v_pi (v_icne (vX12_under_41 rf r hr) (v_ald (v_ild (v_pi (v_cv hr (v_pi (v_iceq (vX12_under_53 rf r hr) ((vX12_under_51 rf r hr))))))))))
theorem tX12_under_23 {X : pu_X} {r : pu_R} (hX : pu_H X mdX12_under) (hr : pu_P X.2.1 X.2.2.2.2.2.2.2.2.2.2.1 r) (hq : ∀ i pc, pu_lp i = some (291, pc) → pu_S X mdX12_under pc (r i)) : pu_S X mdX12_under 23 (kX12_under_23 r) := by
  unfold kX12_under_23
  exact z_ild_n hX dX12_under_23 rfl (z_iconst hX dX12_under_24 (by decide) (z_icne hX dX12_under_25 (by decide) (tX12_under_41 hX hr hq) (z_ald_n hX dX12_under_28 rfl (z_ild_n hX dX12_under_29 rfl (z_iconst hX dX12_under_30 (by decide) (z_cv (c := 12) hX hr dX12_under_31 hjX12_of mwX12_of rfl wm30_3 ⟨wm30_4, wm30_5⟩ ⟨Nat.le_of_ble_eq_true rfl, Nat.le_of_ble_eq_true rfl⟩ (z_iconst hX dX12_under_34 (by decide) (z_iceq hX dX12_under_35 (by decide) (tX12_under_53 hX hr hq) ((z_goto hX dX12_under_38 (by decide) (tX12_under_51 hX hr hq)))))))))))
def kX12_under_20 (r : pu_R) : pu_K := s_push (.int (-2)) (s_iret)
theorem vX12_under_20 : pu_cok2 kX12_under_20 := fun rf r hr => by
  unfold kX12_under_20
  exact v_pi (v_iret)
theorem tX12_under_20 {X : pu_X} {r : pu_R} (hX : pu_H X mdX12_under) (hr : pu_P X.2.1 X.2.2.2.2.2.2.2.2.2.2.1 r) (hq : ∀ i pc, pu_lp i = some (291, pc) → pu_S X mdX12_under pc (r i)) : pu_S X mdX12_under 20 (kX12_under_20 r) := by
  unfold kX12_under_20
  exact z_bipush hX dX12_under_20 (by decide) (z_iret hX dX12_under_22 rfl)
def kX12_under_10 (r : pu_R) : pu_K := s_ild 1 (s_push (.int (2)) (s_iclt (kX12_under_20 r) (s_ild 1 (s_push (.int (4)) (s_icle (kX12_under_23 r) ((kX12_under_20 r)))))))
theorem vX12_under_10 : pu_cok2 kX12_under_10 := fun rf r hr => by
  unfold kX12_under_10
  exact v_ild (v_pi (v_iclt (vX12_under_20 rf r hr) (v_ild (v_pi (v_icle (vX12_under_23 rf r hr) ((vX12_under_20 rf r hr)))))))
theorem tX12_under_10 {X : pu_X} {r : pu_R} (hX : pu_H X mdX12_under) (hr : pu_P X.2.1 X.2.2.2.2.2.2.2.2.2.2.1 r) (hq : ∀ i pc, pu_lp i = some (291, pc) → pu_S X mdX12_under pc (r i)) : pu_S X mdX12_under 10 (kX12_under_10 r) := by
  unfold kX12_under_10
  exact z_ild_n hX dX12_under_10 rfl (z_iconst hX dX12_under_11 (by decide) (z_iclt hX dX12_under_12 (by decide) (tX12_under_20 hX hr hq) (z_ild_n hX dX12_under_15 rfl (z_iconst hX dX12_under_16 (by decide) (z_icle hX dX12_under_17 (by decide) (tX12_under_23 hX hr hq) ((tX12_under_20 hX hr hq)))))))
def kX12_under_0 (r : pu_R) : pu_K := s_ald 0 (s_ild 2 (s_cv r 266 1 12 (s_ifne (kX12_under_10 r) (s_push (.int (-1)) (s_iret)))))
theorem vX12_under_0 : pu_cok2 kX12_under_0 := fun rf r hr => by
  unfold kX12_under_0
  exact v_ald (v_ild (v_cv hr (v_ifne (vX12_under_10 rf r hr) (v_pi (v_iret)))))
theorem tX12_under_0 {X : pu_X} {r : pu_R} (hX : pu_H X mdX12_under) (hr : pu_P X.2.1 X.2.2.2.2.2.2.2.2.2.2.1 r) (hq : ∀ i pc, pu_lp i = some (291, pc) → pu_S X mdX12_under pc (r i)) : pu_S X mdX12_under 0 (kX12_under_0 r) := by
  unfold kX12_under_0
  exact z_ald_n hX dX12_under_0 rfl (z_ild_n hX dX12_under_1 rfl (z_cv (c := 12) hX hr dX12_under_2 hjX12_isOpen mwX12_isOpen rfl wm29_19 ⟨wm29_20, wm29_21⟩ ⟨Nat.le_of_ble_eq_true rfl, Nat.le_of_ble_eq_true rfl⟩ (z_ifne hX dX12_under_5 (by decide) (tX12_under_10 hX hr hq) (z_iconst hX dX12_under_8 (by decide) (z_iret hX dX12_under_9 rfl)))))
def kX12_isUnder_39 (r : pu_R) : pu_K := s_zret
theorem vX12_isUnder_39 : pu_cok2 kX12_isUnder_39 := fun rf r hr => by
  unfold kX12_isUnder_39
  exact v_zret
theorem tX12_isUnder_39 {X : pu_X} {r : pu_R} (hX : pu_H X mdX12_isUnder) (hr : pu_P X.2.1 X.2.2.2.2.2.2.2.2.2.2.1 r) (hq : ∀ i pc, pu_lp i = some (292, pc) → pu_S X mdX12_isUnder pc (r i)) : pu_S X mdX12_isUnder 39 (kX12_isUnder_39 r) := by
  unfold kX12_isUnder_39
  exact z_zret hX dX12_isUnder_39 rfl
def kX12_isUnder_38 (r : pu_R) : pu_K := s_push (.int (0)) ((kX12_isUnder_39 r))
theorem vX12_isUnder_38 : pu_cok2 kX12_isUnder_38 := fun rf r hr => by
  unfold kX12_isUnder_38
  exact v_pi ((vX12_isUnder_39 rf r hr))
theorem tX12_isUnder_38 {X : pu_X} {r : pu_R} (hX : pu_H X mdX12_isUnder) (hr : pu_P X.2.1 X.2.2.2.2.2.2.2.2.2.2.1 r) (hq : ∀ i pc, pu_lp i = some (292, pc) → pu_S X mdX12_isUnder pc (r i)) : pu_S X mdX12_isUnder 38 (kX12_isUnder_38 r) := by
  unfold kX12_isUnder_38
  exact z_iconst hX dX12_isUnder_38 (by decide) ((tX12_isUnder_39 hX hr hq))
def kX12_isUnder_29 (r : pu_R) : pu_K := s_ild 3 (s_ild 2 (s_icne (kX12_isUnder_38 r) (s_push (.int (1)) ((kX12_isUnder_39 r)))))
theorem vX12_isUnder_29 : pu_cok2 kX12_isUnder_29 := fun rf r hr => by
  unfold kX12_isUnder_29
  exact v_ild (v_ild (v_icne (vX12_isUnder_38 rf r hr) (v_pi ((vX12_isUnder_39 rf r hr)))))
theorem tX12_isUnder_29 {X : pu_X} {r : pu_R} (hX : pu_H X mdX12_isUnder) (hr : pu_P X.2.1 X.2.2.2.2.2.2.2.2.2.2.1 r) (hq : ∀ i pc, pu_lp i = some (292, pc) → pu_S X mdX12_isUnder pc (r i)) : pu_S X mdX12_isUnder 29 (kX12_isUnder_29 r) := by
  unfold kX12_isUnder_29
  exact z_ild_n hX dX12_isUnder_29 rfl (z_ild_n hX dX12_isUnder_30 rfl (z_icne hX dX12_isUnder_31 (by decide) (tX12_isUnder_38 hX hr hq) (z_iconst hX dX12_isUnder_34 (by decide) ((z_goto hX dX12_isUnder_35 (by decide) (tX12_isUnder_39 hX hr hq))))))
def kX12_isUnder_2 (r : pu_R) : pu_K := s_ild 3 (s_ild 2 (s_iceq (kX12_isUnder_29 r) (s_ald 0 (s_ild 3 (s_push (.int (8)) (s_cv r 265 2 12 (s_push (.int (-1)) (s_iceq (kX12_isUnder_29 r) (s_ald 0 (s_ild 3 (s_push (.int (8)) (s_cv r 265 2 12 (s_ist 3 ((r 467)))))))))))))))
theorem vX12_isUnder_2 : pu_cok2 kX12_isUnder_2 := fun rf r hr => by
  unfold kX12_isUnder_2
  exact v_ild (v_ild (v_iceq (vX12_isUnder_29 rf r hr) (v_ald (v_ild (v_pi (v_cv hr (v_pi (v_iceq (vX12_isUnder_29 rf r hr) (v_ald (v_ild (v_pi (v_cv hr (v_ist ((hr 467)))))))))))))))
theorem tX12_isUnder_2 {X : pu_X} {r : pu_R} (hX : pu_H X mdX12_isUnder) (hr : pu_P X.2.1 X.2.2.2.2.2.2.2.2.2.2.1 r) (hq : ∀ i pc, pu_lp i = some (292, pc) → pu_S X mdX12_isUnder pc (r i)) : pu_S X mdX12_isUnder 2 (kX12_isUnder_2 r) := by
  unfold kX12_isUnder_2
  exact z_ild_n hX dX12_isUnder_2 rfl (z_ild_n hX dX12_isUnder_3 rfl (z_iceq hX dX12_isUnder_4 (by decide) (tX12_isUnder_29 hX hr hq) (z_ald_n hX dX12_isUnder_7 rfl (z_ild_n hX dX12_isUnder_8 rfl (z_bipush hX dX12_isUnder_9 (by decide) (z_cv (c := 12) hX hr dX12_isUnder_11 hjX12_of mwX12_of rfl wm30_3 ⟨wm30_4, wm30_5⟩ ⟨Nat.le_of_ble_eq_true rfl, Nat.le_of_ble_eq_true rfl⟩ (z_iconst hX dX12_isUnder_14 (by decide) (z_iceq hX dX12_isUnder_15 (by decide) (tX12_isUnder_29 hX hr hq) (z_ald_n hX dX12_isUnder_18 rfl (z_ild_n hX dX12_isUnder_19 rfl (z_bipush hX dX12_isUnder_20 (by decide) (z_cv (c := 12) hX hr dX12_isUnder_22 hjX12_of mwX12_of rfl wm30_3 ⟨wm30_4, wm30_5⟩ ⟨Nat.le_of_ble_eq_true rfl, Nat.le_of_ble_eq_true rfl⟩ (z_ist_n hX dX12_isUnder_25 rfl ((z_goto hX dX12_isUnder_26 (by decide) (hq 467 2 hl467))))))))))))))))
def kX12_isUnder_0 (r : pu_R) : pu_K := s_ild 1 (s_ist 3 ((r 467)))
theorem vX12_isUnder_0 : pu_cok2 kX12_isUnder_0 := fun rf r hr => by
  unfold kX12_isUnder_0
  exact v_ild (v_ist ((hr 467)))
theorem tX12_isUnder_0 {X : pu_X} {r : pu_R} (hX : pu_H X mdX12_isUnder) (hr : pu_P X.2.1 X.2.2.2.2.2.2.2.2.2.2.1 r) (hq : ∀ i pc, pu_lp i = some (292, pc) → pu_S X mdX12_isUnder pc (r i)) : pu_S X mdX12_isUnder 0 (kX12_isUnder_0 r) := by
  unfold kX12_isUnder_0
  exact z_ild_n hX dX12_isUnder_0 rfl (z_ist_n hX dX12_isUnder_1 rfl ((hq 467 2 hl467)))
def kX12_gone_192 (r : pu_R) : pu_K := s_ild 5 (s_iret)
theorem vX12_gone_192 : pu_cok2 kX12_gone_192 := fun rf r hr => by
  unfold kX12_gone_192
  exact v_ild (v_iret)
theorem tX12_gone_192 {X : pu_X} {r : pu_R} (hX : pu_H X mdX12_gone) (hr : pu_P X.2.1 X.2.2.2.2.2.2.2.2.2.2.1 r) (hq : ∀ i pc, pu_lp i = some (293, pc) → pu_S X mdX12_gone pc (r i)) : pu_S X mdX12_gone 192 (kX12_gone_192 r) := by
  unfold kX12_gone_192
  exact z_ild hX dX12_gone_192 (z_iret hX dX12_gone_194 rfl)
def kX12_gone_186 (r : pu_R) : pu_K := s_inc 6 (1) ((r 468))
theorem vX12_gone_186 : pu_cok2 kX12_gone_186 := fun rf r hr => by
  unfold kX12_gone_186
  exact v_inc ((hr 468))
theorem tX12_gone_186 {X : pu_X} {r : pu_R} (hX : pu_H X mdX12_gone) (hr : pu_P X.2.1 X.2.2.2.2.2.2.2.2.2.2.1 r) (hq : ∀ i pc, pu_lp i = some (293, pc) → pu_S X mdX12_gone pc (r i)) : pu_S X mdX12_gone 186 (kX12_gone_186 r) := by
  unfold kX12_gone_186
  exact z_inc hX dX12_gone_186 (by decide) ((z_goto hX dX12_gone_189 (by decide) (hq 468 67 hl468)))
def kX12_gone_180 (r : pu_R) : pu_K := s_inc 7 (1) ((r 469))
theorem vX12_gone_180 : pu_cok2 kX12_gone_180 := fun rf r hr => by
  unfold kX12_gone_180
  exact v_inc ((hr 469))
theorem tX12_gone_180 {X : pu_X} {r : pu_R} (hX : pu_H X mdX12_gone) (hr : pu_P X.2.1 X.2.2.2.2.2.2.2.2.2.2.1 r) (hq : ∀ i pc, pu_lp i = some (293, pc) → pu_S X mdX12_gone pc (r i)) : pu_S X mdX12_gone 180 (kX12_gone_180 r) := by
  unfold kX12_gone_180
  exact z_inc hX dX12_gone_180 (by decide) ((z_goto hX dX12_gone_183 (by decide) (hq 469 125 hl469)))
def kX12_gone_154 (r : pu_R) : pu_K := s_ist 8 (s_ild 8 (s_push (.int (-1)) (s_iceq (kX12_gone_180 r) (s_ald 0 (s_gr 12 0 (s_push (.int (10752)) (s_push (.int (6)) (s_ild 8 (s_imul (s_iadd (s_push (.int (5)) (s_iadd (s_ild 4 (s_wi 1 ((kX12_gone_180 r))))))))))))))))
theorem vX12_gone_154 : pu_cok2 kX12_gone_154 := fun rf r hr => by
  unfold kX12_gone_154
  exact v_ist (v_ild (v_pi (v_iceq (vX12_gone_180 rf r hr) (v_ald (v_gr (v_pi (v_pi (v_ild (v_imul (v_iadd (v_pi (v_iadd (v_ild (v_wi ((vX12_gone_180 rf r hr))))))))))))))))
theorem tX12_gone_154 {X : pu_X} {r : pu_R} (hX : pu_H X mdX12_gone) (hr : pu_P X.2.1 X.2.2.2.2.2.2.2.2.2.2.1 r) (hq : ∀ i pc, pu_lp i = some (293, pc) → pu_S X mdX12_gone pc (r i)) : pu_S X mdX12_gone 154 (kX12_gone_154 r) := by
  unfold kX12_gone_154
  exact z_ist hX dX12_gone_154 (z_ild hX dX12_gone_156 (z_iconst hX dX12_gone_158 (by decide) (z_iceq hX dX12_gone_159 (by decide) (tX12_gone_180 hX hr hq) (z_ald_n hX dX12_gone_162 rfl (z_gr (c := 12) (j := 0) hX dX12_gone_163 rfl inlX12 wm7_16 ⟨rfl, by decide, rfl⟩ (z_sipush hX dX12_gone_166 (by decide) (z_bipush hX dX12_gone_169 (by decide) (z_ild hX dX12_gone_171 (z_imul hX dX12_gone_173 (z_iadd hX dX12_gone_174 (z_iconst hX dX12_gone_175 (by decide) (z_iadd hX dX12_gone_176 (z_ild hX dX12_gone_177 (z_iast hX dX12_gone_179 ((tX12_gone_180 hX hr hq))))))))))))))))
def kX12_gone_153 (r : pu_R) : pu_K := s_push (.int (-1)) ((kX12_gone_154 r))
theorem vX12_gone_153 : pu_cok2 kX12_gone_153 := fun rf r hr => by
  unfold kX12_gone_153
  exact v_pi ((vX12_gone_154 rf r hr))
theorem tX12_gone_153 {X : pu_X} {r : pu_R} (hX : pu_H X mdX12_gone) (hr : pu_P X.2.1 X.2.2.2.2.2.2.2.2.2.2.1 r) (hq : ∀ i pc, pu_lp i = some (293, pc) → pu_S X mdX12_gone pc (r i)) : pu_S X mdX12_gone 153 (kX12_gone_153 r) := by
  unfold kX12_gone_153
  exact z_iconst hX dX12_gone_153 (by decide) ((tX12_gone_154 hX hr hq))
def kX12_gone_125 (r : pu_R) : pu_K := s_ild 7 (s_push (.int (2)) (s_icge (kX12_gone_186 r) (s_ald 0 (s_ild 6 (s_ild 7 (s_cv r 267 2 12 (s_ifeq (kX12_gone_153 r) (s_ald 0 (s_ild 6 (s_ild 7 (s_cv r 272 2 12 ((kX12_gone_154 r)))))))))))))
theorem vX12_gone_125 : pu_cok2 kX12_gone_125 := fun rf r hr => by
  unfold kX12_gone_125
  exact v_ild (v_pi (v_icge (vX12_gone_186 rf r hr) (v_ald (v_ild (v_ild (v_cv hr (v_ifeq (vX12_gone_153 rf r hr) (v_ald (v_ild (v_ild (v_cv hr ((vX12_gone_154 rf r hr)))))))))))))
theorem tX12_gone_125 {X : pu_X} {r : pu_R} (hX : pu_H X mdX12_gone) (hr : pu_P X.2.1 X.2.2.2.2.2.2.2.2.2.2.1 r) (hq : ∀ i pc, pu_lp i = some (293, pc) → pu_S X mdX12_gone pc (r i)) : pu_S X mdX12_gone 125 (kX12_gone_125 r) := by
  unfold kX12_gone_125
  exact z_ild hX dX12_gone_125 (z_iconst hX dX12_gone_127 (by decide) (z_icge hX dX12_gone_128 (by decide) (tX12_gone_186 hX hr hq) (z_ald_n hX dX12_gone_131 rfl (z_ild hX dX12_gone_132 (z_ild hX dX12_gone_134 (z_cv (c := 12) hX hr dX12_gone_136 hjX12_hasPlace mwX12_hasPlace rfl wm30_7 ⟨wm30_8, wm30_9⟩ ⟨Nat.le_of_ble_eq_true rfl, Nat.le_of_ble_eq_true rfl⟩ (z_ifeq hX dX12_gone_139 (by decide) (tX12_gone_153 hX hr hq) (z_ald_n hX dX12_gone_142 rfl (z_ild hX dX12_gone_143 (z_ild hX dX12_gone_145 (z_cv (c := 12) hX hr dX12_gone_147 hjX12_openSpan mwX12_openSpan rfl wm31_2 ⟨wm31_3, wm31_4⟩ ⟨Nat.le_of_ble_eq_true rfl, Nat.le_of_ble_eq_true rfl⟩ ((z_goto hX dX12_gone_150 (by decide) (tX12_gone_154 hX hr hq))))))))))))))
def kX12_gone_100 (r : pu_R) : pu_K := s_inc 5 (1) (s_ald 0 (s_gr 12 0 (s_push (.int (9552)) (s_push (.int (12)) (s_ild 6 (s_imul (s_iadd (s_push (.int (10)) (s_iadd (s_ild 4 (s_wi 1 (s_push (.int (0)) (s_ist 7 ((r 469)))))))))))))))
theorem vX12_gone_100 : pu_cok2 kX12_gone_100 := fun rf r hr => by
  unfold kX12_gone_100
  exact v_inc (v_ald (v_gr (v_pi (v_pi (v_ild (v_imul (v_iadd (v_pi (v_iadd (v_ild (v_wi (v_pi (v_ist ((hr 469)))))))))))))))
theorem tX12_gone_100 {X : pu_X} {r : pu_R} (hX : pu_H X mdX12_gone) (hr : pu_P X.2.1 X.2.2.2.2.2.2.2.2.2.2.1 r) (hq : ∀ i pc, pu_lp i = some (293, pc) → pu_S X mdX12_gone pc (r i)) : pu_S X mdX12_gone 100 (kX12_gone_100 r) := by
  unfold kX12_gone_100
  exact z_inc hX dX12_gone_100 (by decide) (z_ald_n hX dX12_gone_103 rfl (z_gr (c := 12) (j := 0) hX dX12_gone_104 rfl inlX12 wm7_16 ⟨rfl, by decide, rfl⟩ (z_sipush hX dX12_gone_107 (by decide) (z_bipush hX dX12_gone_110 (by decide) (z_ild hX dX12_gone_112 (z_imul hX dX12_gone_114 (z_iadd hX dX12_gone_115 (z_bipush hX dX12_gone_116 (by decide) (z_iadd hX dX12_gone_118 (z_ild hX dX12_gone_119 (z_iast hX dX12_gone_121 (z_iconst hX dX12_gone_122 (by decide) (z_ist hX dX12_gone_123 ((hq 469 125 hl469)))))))))))))))
def kX12_gone_67 (r : pu_R) : pu_K := s_ild 6 (s_ald 0 (s_gr 12 0 (s_push (.int (4)) (s_ai 1 (s_icge (kX12_gone_192 r) (s_ald 0 (s_ild 6 (s_cv r 266 1 12 (s_ifeq (kX12_gone_186 r) (s_ald 0 (s_ild 6 (s_ild 1 (s_cv r 292 2 12 (s_ifne (kX12_gone_100 r) ((kX12_gone_186 r))))))))))))))))
theorem vX12_gone_67 : pu_cok2 kX12_gone_67 := fun rf r hr => by
  unfold kX12_gone_67
  exact v_ild (v_ald (v_gr (v_pi (v_ai (v_icge (vX12_gone_192 rf r hr) (v_ald (v_ild (v_cv hr (v_ifeq (vX12_gone_186 rf r hr) (v_ald (v_ild (v_ild (v_cv hr (v_ifne (vX12_gone_100 rf r hr) ((vX12_gone_186 rf r hr))))))))))))))))
theorem tX12_gone_67 {X : pu_X} {r : pu_R} (hX : pu_H X mdX12_gone) (hr : pu_P X.2.1 X.2.2.2.2.2.2.2.2.2.2.1 r) (hq : ∀ i pc, pu_lp i = some (293, pc) → pu_S X mdX12_gone pc (r i)) : pu_S X mdX12_gone 67 (kX12_gone_67 r) := by
  unfold kX12_gone_67
  exact z_ild hX dX12_gone_67 (z_ald_n hX dX12_gone_69 rfl (z_gr (c := 12) (j := 0) hX dX12_gone_70 rfl inlX12 wm7_16 ⟨rfl, by decide, rfl⟩ (z_iconst hX dX12_gone_73 (by decide) (z_iald hX dX12_gone_74 (z_icge hX dX12_gone_75 (by decide) (tX12_gone_192 hX hr hq) (z_ald_n hX dX12_gone_78 rfl (z_ild hX dX12_gone_79 (z_cv (c := 12) hX hr dX12_gone_81 hjX12_isOpen mwX12_isOpen rfl wm29_19 ⟨wm29_20, wm29_21⟩ ⟨Nat.le_of_ble_eq_true rfl, Nat.le_of_ble_eq_true rfl⟩ (z_ifeq hX dX12_gone_84 (by decide) (tX12_gone_186 hX hr hq) (z_ald_n hX dX12_gone_87 rfl (z_ild hX dX12_gone_88 (z_ild_n hX dX12_gone_90 rfl (z_cv (c := 12) hX hr dX12_gone_91 hjX12_isUnder mwX12_isUnder rfl wm36_8 ⟨wm36_9, wm36_10⟩ ⟨Nat.le_of_ble_eq_true rfl, Nat.le_of_ble_eq_true rfl⟩ (z_ifne hX dX12_gone_94 (by decide) (tX12_gone_100 hX hr hq) ((z_goto hX dX12_gone_97 (by decide) (tX12_gone_186 hX hr hq)))))))))))))))))
def kX12_gone_53 (r : pu_R) : pu_K := s_ald 0 (s_ild 3 (s_ild 2 (s_cv r 290 2 12 (s_ist 4 (s_push (.int (0)) (s_ist 5 (s_push (.int (0)) (s_ist 6 ((r 468))))))))))
theorem vX12_gone_53 : pu_cok2 kX12_gone_53 := fun rf r hr => by
  unfold kX12_gone_53
  exact v_ald (v_ild (v_ild (v_cv hr (v_ist (v_pi (v_ist (v_pi (v_ist ((hr 468))))))))))
theorem tX12_gone_53 {X : pu_X} {r : pu_R} (hX : pu_H X mdX12_gone) (hr : pu_P X.2.1 X.2.2.2.2.2.2.2.2.2.2.1 r) (hq : ∀ i pc, pu_lp i = some (293, pc) → pu_S X mdX12_gone pc (r i)) : pu_S X mdX12_gone 53 (kX12_gone_53 r) := by
  unfold kX12_gone_53
  exact z_ald_n hX dX12_gone_53 rfl (z_ild_n hX dX12_gone_54 rfl (z_ild_n hX dX12_gone_55 rfl (z_cv (c := 12) hX hr dX12_gone_56 hjX12_paperOn mwX12_paperOn rfl wm35_12 ⟨wm35_13, wm35_14⟩ ⟨Nat.le_of_ble_eq_true rfl, Nat.le_of_ble_eq_true rfl⟩ (z_ist hX dX12_gone_59 (z_iconst hX dX12_gone_61 (by decide) (z_ist hX dX12_gone_62 (z_iconst hX dX12_gone_64 (by decide) (z_ist hX dX12_gone_65 ((hq 468 67 hl468))))))))))
def kX12_gone_38 (r : pu_R) : pu_K := s_ald 0 (s_gr 12 0 (s_push (.int (5)) (s_ai 1 (s_push (.int (200)) (s_icne (kX12_gone_53 r) (s_push (.int (-6)) (s_iret)))))))
theorem vX12_gone_38 : pu_cok2 kX12_gone_38 := fun rf r hr => by
  unfold kX12_gone_38
  exact v_ald (v_gr (v_pi (v_ai (v_pi (v_icne (vX12_gone_53 rf r hr) (v_pi (v_iret)))))))
theorem tX12_gone_38 {X : pu_X} {r : pu_R} (hX : pu_H X mdX12_gone) (hr : pu_P X.2.1 X.2.2.2.2.2.2.2.2.2.2.1 r) (hq : ∀ i pc, pu_lp i = some (293, pc) → pu_S X mdX12_gone pc (r i)) : pu_S X mdX12_gone 38 (kX12_gone_38 r) := by
  unfold kX12_gone_38
  exact z_ald_n hX dX12_gone_38 rfl (z_gr (c := 12) (j := 0) hX dX12_gone_39 rfl inlX12 wm7_16 ⟨rfl, by decide, rfl⟩ (z_iconst hX dX12_gone_42 (by decide) (z_iald hX dX12_gone_43 (z_sipush hX dX12_gone_44 (by decide) (z_icne hX dX12_gone_47 (by decide) (tX12_gone_53 hX hr hq) (z_bipush hX dX12_gone_50 (by decide) (z_iret hX dX12_gone_52 rfl)))))))
def kX12_gone_20 (r : pu_R) : pu_K := s_ald 0 (s_ild 1 (s_cv r 271 1 12 (s_ist 3 (s_ald 0 (s_ild 3 (s_ild 2 (s_cv r 289 2 12 (s_ifeq (kX12_gone_38 r) (s_push (.int (-3)) (s_iret))))))))))
theorem vX12_gone_20 : pu_cok2 kX12_gone_20 := fun rf r hr => by
  unfold kX12_gone_20
  exact v_ald (v_ild (v_cv hr (v_ist (v_ald (v_ild (v_ild (v_cv hr (v_ifeq (vX12_gone_38 rf r hr) (v_pi (v_iret))))))))))
theorem tX12_gone_20 {X : pu_X} {r : pu_R} (hX : pu_H X mdX12_gone) (hr : pu_P X.2.1 X.2.2.2.2.2.2.2.2.2.2.1 r) (hq : ∀ i pc, pu_lp i = some (293, pc) → pu_S X mdX12_gone pc (r i)) : pu_S X mdX12_gone 20 (kX12_gone_20 r) := by
  unfold kX12_gone_20
  exact z_ald_n hX dX12_gone_20 rfl (z_ild_n hX dX12_gone_21 rfl (z_cv (c := 12) hX hr dX12_gone_22 hjX12_front mwX12_front rfl wm35_0 ⟨wm35_1, wm35_2⟩ ⟨Nat.le_of_ble_eq_true rfl, Nat.le_of_ble_eq_true rfl⟩ (z_ist_n hX dX12_gone_25 rfl (z_ald_n hX dX12_gone_26 rfl (z_ild_n hX dX12_gone_27 rfl (z_ild_n hX dX12_gone_28 rfl (z_cv (c := 12) hX hr dX12_gone_29 hjX12_isEarlyAt mwX12_isEarlyAt rfl wm35_4 ⟨wm35_5, wm35_6⟩ ⟨Nat.le_of_ble_eq_true rfl, Nat.le_of_ble_eq_true rfl⟩ (z_ifeq hX dX12_gone_32 (by decide) (tX12_gone_38 hX hr hq) (z_bipush hX dX12_gone_35 (by decide) (z_iret hX dX12_gone_37 rfl))))))))))
def kX12_gone_10 (r : pu_R) : pu_K := s_ild 2 (s_cs r 234 1 (s_ifne (kX12_gone_20 r) (s_push (.int (-2)) (s_iret))))
theorem vX12_gone_10 : pu_cok2 kX12_gone_10 := fun rf r hr => by
  unfold kX12_gone_10
  exact v_ild (v_cs hr (v_ifne (vX12_gone_20 rf r hr) (v_pi (v_iret))))
theorem tX12_gone_10 {X : pu_X} {r : pu_R} (hX : pu_H X mdX12_gone) (hr : pu_P X.2.1 X.2.2.2.2.2.2.2.2.2.2.1 r) (hq : ∀ i pc, pu_lp i = some (293, pc) → pu_S X mdX12_gone pc (r i)) : pu_S X mdX12_gone 10 (kX12_gone_10 r) := by
  unfold kX12_gone_10
  exact z_ild_n hX dX12_gone_10 rfl (z_cs hX hr dX12_gone_11 hjX12_isDay mwX12_isDay wm11_5 wm11_6 ⟨Nat.le_of_ble_eq_true rfl, Nat.le_of_ble_eq_true rfl⟩ (z_ifne hX dX12_gone_14 (by decide) (tX12_gone_20 hX hr hq) (z_bipush hX dX12_gone_17 (by decide) (z_iret hX dX12_gone_19 rfl))))
def kX12_gone_0 (r : pu_R) : pu_K := s_ald 0 (s_ild 1 (s_cv r 266 1 12 (s_ifne (kX12_gone_10 r) (s_push (.int (-1)) (s_iret)))))
theorem vX12_gone_0 : pu_cok2 kX12_gone_0 := fun rf r hr => by
  unfold kX12_gone_0
  exact v_ald (v_ild (v_cv hr (v_ifne (vX12_gone_10 rf r hr) (v_pi (v_iret)))))
theorem tX12_gone_0 {X : pu_X} {r : pu_R} (hX : pu_H X mdX12_gone) (hr : pu_P X.2.1 X.2.2.2.2.2.2.2.2.2.2.1 r) (hq : ∀ i pc, pu_lp i = some (293, pc) → pu_S X mdX12_gone pc (r i)) : pu_S X mdX12_gone 0 (kX12_gone_0 r) := by
  unfold kX12_gone_0
  exact z_ald_n hX dX12_gone_0 rfl (z_ild_n hX dX12_gone_1 rfl (z_cv (c := 12) hX hr dX12_gone_2 hjX12_isOpen mwX12_isOpen rfl wm29_19 ⟨wm29_20, wm29_21⟩ ⟨Nat.le_of_ble_eq_true rfl, Nat.le_of_ble_eq_true rfl⟩ (z_ifne hX dX12_gone_5 (by decide) (tX12_gone_10 hX hr hq) (z_iconst hX dX12_gone_8 (by decide) (z_iret hX dX12_gone_9 rfl)))))
def kX12_orders_203 (r : pu_R) : pu_K := s_vret
theorem vX12_orders_203 : pu_cok2 kX12_orders_203 := fun rf r hr => by
  unfold kX12_orders_203
  exact v_vret
theorem tX12_orders_203 {X : pu_X} {r : pu_R} (hX : pu_H X mdX12_orders) (hr : pu_P X.2.1 X.2.2.2.2.2.2.2.2.2.2.1 r) (hq : ∀ i pc, pu_lp i = some (294, pc) → pu_S X mdX12_orders pc (r i)) : pu_S X mdX12_orders 203 (kX12_orders_203 r) := by
  unfold kX12_orders_203
  exact z_vret hX dX12_orders_203 rfl
def kX12_orders_197 (r : pu_R) : pu_K := s_inc 3 (1) ((r 470))
theorem vX12_orders_197 : pu_cok2 kX12_orders_197 := fun rf r hr => by
  unfold kX12_orders_197
  exact v_inc ((hr 470))
theorem tX12_orders_197 {X : pu_X} {r : pu_R} (hX : pu_H X mdX12_orders) (hr : pu_P X.2.1 X.2.2.2.2.2.2.2.2.2.2.1 r) (hq : ∀ i pc, pu_lp i = some (294, pc) → pu_S X mdX12_orders pc (r i)) : pu_S X mdX12_orders 197 (kX12_orders_197 r) := by
  unfold kX12_orders_197
  exact z_inc hX dX12_orders_197 (by decide) ((z_goto hX dX12_orders_200 (by decide) (hq 470 7 hl470)))
def kX12_orders_191 (r : pu_R) : pu_K := s_inc 4 (1) ((r 471))
theorem vX12_orders_191 : pu_cok2 kX12_orders_191 := fun rf r hr => by
  unfold kX12_orders_191
  exact v_inc ((hr 471))
theorem tX12_orders_191 {X : pu_X} {r : pu_R} (hX : pu_H X mdX12_orders) (hr : pu_P X.2.1 X.2.2.2.2.2.2.2.2.2.2.1 r) (hq : ∀ i pc, pu_lp i = some (294, pc) → pu_S X mdX12_orders pc (r i)) : pu_S X mdX12_orders 191 (kX12_orders_191 r) := by
  unfold kX12_orders_191
  exact z_inc hX dX12_orders_191 (by decide) ((z_goto hX dX12_orders_194 (by decide) (hq 471 20 hl471)))
def kX12_orders_168 (r : pu_R) : pu_K := s_ald 0 (s_gr 12 12 (s_ild 5 (s_push (.int (2)) (s_ild 3 (s_imul (s_ild 4 (s_iadd (s_wi 1 (s_ald 0 (s_dup (s_gi 12 13 (s_push (.int (1)) (s_iadd (s_pi 12 13 ((kX12_orders_191 r))))))))))))))))
theorem vX12_orders_168 : pu_cok2 kX12_orders_168 := fun rf r hr => by
  unfold kX12_orders_168
  exact v_ald (v_gr (v_ild (v_pi (v_ild (v_imul (v_ild (v_iadd (v_wi (v_ald (v_dup (v_gi (v_pi (v_iadd (v_puti ((vX12_orders_191 rf r hr))))))))))))))))
theorem tX12_orders_168 {X : pu_X} {r : pu_R} (hX : pu_H X mdX12_orders) (hr : pu_P X.2.1 X.2.2.2.2.2.2.2.2.2.2.1 r) (hq : ∀ i pc, pu_lp i = some (294, pc) → pu_S X mdX12_orders pc (r i)) : pu_S X mdX12_orders 168 (kX12_orders_168 r) := by
  unfold kX12_orders_168
  exact z_ald_n hX dX12_orders_168 rfl (z_gr (c := 12) (j := 12) hX dX12_orders_169 rfl inlX12 wm8_7 ⟨rfl, by decide, rfl⟩ (z_ild hX dX12_orders_172 (z_iconst hX dX12_orders_174 (by decide) (z_ild_n hX dX12_orders_175 rfl (z_imul hX dX12_orders_176 (z_ild hX dX12_orders_177 (z_iadd hX dX12_orders_179 (z_iast hX dX12_orders_180 (z_ald_n hX dX12_orders_181 rfl (z_dup hX dX12_orders_182 (z_gi (c := 12) (j := 13) hX dX12_orders_183 rfl inlX12 wm8_8 ⟨rfl, by decide, rfl⟩ (z_iconst hX dX12_orders_186 (by decide) (z_iadd hX dX12_orders_187 (z_pi (c := 12) (j := 13) tyX12 tyX12_ok nmX12 hX dX12_orders_188 rfl inlX12 wm8_8 ⟨rfl, by decide⟩ ⟨rfl, rfl⟩ rfl ((tX12_orders_191 hX hr hq))))))))))))))))
def kX12_orders_137 (r : pu_R) : pu_K := s_cv r 270 2 12 (s_cs r 275 3 (s_icle (kX12_orders_168 r) (s_ald 0 (s_gr 12 12 (s_ild 5 (s_ald 0 (s_gr 12 12 (s_ild 5 (s_push (.int (1)) (s_isub (s_ai 1 (s_wi 1 (s_inc 5 (-1) ((r 472)))))))))))))))
theorem vX12_orders_137 : pu_cok2 kX12_orders_137 := fun rf r hr => by
  unfold kX12_orders_137
  exact v_cv hr (v_cs hr (v_icle (vX12_orders_168 rf r hr) (v_ald (v_gr (v_ild (v_ald (v_gr (v_ild (v_pi (v_isub (v_ai (v_wi (v_inc ((hr 472)))))))))))))))
theorem tX12_orders_137 {X : pu_X} {r : pu_R} (hX : pu_H X mdX12_orders) (hr : pu_P X.2.1 X.2.2.2.2.2.2.2.2.2.2.1 r) (hq : ∀ i pc, pu_lp i = some (294, pc) → pu_S X mdX12_orders pc (r i)) : pu_S X mdX12_orders 137 (kX12_orders_137 r) := by
  unfold kX12_orders_137
  exact z_cv (c := 12) hX hr dX12_orders_137 hjX12_pacesAt mwX12_pacesAt rfl wm31_6 ⟨wm31_7, wm31_8⟩ ⟨Nat.le_of_ble_eq_true rfl, Nat.le_of_ble_eq_true rfl⟩ (z_cs hX hr dX12_orders_140 hjX12_along mwX12_along wm29_15 wm29_16 ⟨Nat.le_of_ble_eq_true rfl, Nat.le_of_ble_eq_true rfl⟩ (z_icle hX dX12_orders_143 (by decide) (tX12_orders_168 hX hr hq) (z_ald_n hX dX12_orders_146 rfl (z_gr (c := 12) (j := 12) hX dX12_orders_147 rfl inlX12 wm8_7 ⟨rfl, by decide, rfl⟩ (z_ild hX dX12_orders_150 (z_ald_n hX dX12_orders_152 rfl (z_gr (c := 12) (j := 12) hX dX12_orders_153 rfl inlX12 wm8_7 ⟨rfl, by decide, rfl⟩ (z_ild hX dX12_orders_156 (z_iconst hX dX12_orders_158 (by decide) (z_isub hX dX12_orders_159 (z_iald hX dX12_orders_160 (z_iast hX dX12_orders_161 (z_inc hX dX12_orders_162 (by decide) ((z_goto hX dX12_orders_165 (by decide) (hq 472 64 hl472))))))))))))))))
def kX12_orders_101 (r : pu_R) : pu_K := s_ild 5 (s_push (.int (1)) (s_isub (s_ai 1 (s_push (.int (2)) (s_idiv (s_ald 0 (s_gr 12 12 (s_ild 5 (s_push (.int (1)) (s_isub (s_ai 1 (s_push (.int (2)) (s_irem (s_cv r 270 2 12 (s_cs r 275 3 (s_ild 2 (s_ald 0 (s_ild 3 (s_ild 4 (s_cv r 269 2 12 (s_ald 0 (s_ild 3 (s_ild 4 ((kX12_orders_137 r)))))))))))))))))))))))))
theorem vX12_orders_101 : pu_cok2 kX12_orders_101 := fun rf r hr => by
  unfold kX12_orders_101
  exact v_ild (v_pi (v_isub (v_ai (v_pi (v_idiv (v_ald (v_gr (v_ild (v_pi (v_isub (v_ai (v_pi (v_irem (v_cv hr (v_cs hr (v_ild (v_ald (v_ild (v_ild (v_cv hr (v_ald (v_ild (v_ild ((vX12_orders_137 rf r hr)))))))))))))))))))))))))
theorem tX12_orders_101 {X : pu_X} {r : pu_R} (hX : pu_H X mdX12_orders) (hr : pu_P X.2.1 X.2.2.2.2.2.2.2.2.2.2.1 r) (hq : ∀ i pc, pu_lp i = some (294, pc) → pu_S X mdX12_orders pc (r i)) : pu_S X mdX12_orders 101 (kX12_orders_101 r) := by
  unfold kX12_orders_101
  exact z_ild hX dX12_orders_101 (z_iconst hX dX12_orders_103 (by decide) (z_isub hX dX12_orders_104 (z_iald hX dX12_orders_105 (z_iconst hX dX12_orders_106 (by decide) (z_idiv hX dX12_orders_107 (z_ald_n hX dX12_orders_108 rfl (z_gr (c := 12) (j := 12) hX dX12_orders_109 rfl inlX12 wm8_7 ⟨rfl, by decide, rfl⟩ (z_ild hX dX12_orders_112 (z_iconst hX dX12_orders_114 (by decide) (z_isub hX dX12_orders_115 (z_iald hX dX12_orders_116 (z_iconst hX dX12_orders_117 (by decide) (z_irem hX dX12_orders_118 (z_cv (c := 12) hX hr dX12_orders_119 hjX12_pacesAt mwX12_pacesAt rfl wm31_6 ⟨wm31_7, wm31_8⟩ ⟨Nat.le_of_ble_eq_true rfl, Nat.le_of_ble_eq_true rfl⟩ (z_cs hX hr dX12_orders_122 hjX12_along mwX12_along wm29_15 wm29_16 ⟨Nat.le_of_ble_eq_true rfl, Nat.le_of_ble_eq_true rfl⟩ (z_ild_n hX dX12_orders_125 rfl (z_ald_n hX dX12_orders_126 rfl (z_ild_n hX dX12_orders_127 rfl (z_ild hX dX12_orders_128 (z_cv (c := 12) hX hr dX12_orders_130 hjX12_sideAt mwX12_sideAt rfl wm30_15 ⟨wm30_16, wm30_17⟩ ⟨Nat.le_of_ble_eq_true rfl, Nat.le_of_ble_eq_true rfl⟩ (z_ald_n hX dX12_orders_133 rfl (z_ild_n hX dX12_orders_134 rfl (z_ild hX dX12_orders_135 ((tX12_orders_137 hX hr hq)))))))))))))))))))))))))
def kX12_orders_64 (r : pu_R) : pu_K := s_ild 5 (s_ifle (kX12_orders_168 r) (s_ild 2 (s_ald 0 (s_ald 0 (s_gr 12 12 (s_ild 5 (s_push (.int (1)) (s_isub (s_ai 1 (s_push (.int (2)) (s_idiv (s_ald 0 (s_gr 12 12 (s_ild 5 (s_push (.int (1)) (s_isub (s_ai 1 (s_push (.int (2)) (s_irem (s_cv r 269 2 12 (s_ald 0 (s_ald 0 (s_gr 12 12 ((kX12_orders_101 r)))))))))))))))))))))))))
theorem vX12_orders_64 : pu_cok2 kX12_orders_64 := fun rf r hr => by
  unfold kX12_orders_64
  exact v_ild (v_ifle (vX12_orders_168 rf r hr) (v_ild (v_ald (v_ald (v_gr (v_ild (v_pi (v_isub (v_ai (v_pi (v_idiv (v_ald (v_gr (v_ild (v_pi (v_isub (v_ai (v_pi (v_irem (v_cv hr (v_ald (v_ald (v_gr ((vX12_orders_101 rf r hr)))))))))))))))))))))))))
theorem tX12_orders_64 {X : pu_X} {r : pu_R} (hX : pu_H X mdX12_orders) (hr : pu_P X.2.1 X.2.2.2.2.2.2.2.2.2.2.1 r) (hq : ∀ i pc, pu_lp i = some (294, pc) → pu_S X mdX12_orders pc (r i)) : pu_S X mdX12_orders 64 (kX12_orders_64 r) := by
  unfold kX12_orders_64
  exact z_ild hX dX12_orders_64 (z_ifle hX dX12_orders_66 (by decide) (tX12_orders_168 hX hr hq) (z_ild_n hX dX12_orders_69 rfl (z_ald_n hX dX12_orders_70 rfl (z_ald_n hX dX12_orders_71 rfl (z_gr (c := 12) (j := 12) hX dX12_orders_72 rfl inlX12 wm8_7 ⟨rfl, by decide, rfl⟩ (z_ild hX dX12_orders_75 (z_iconst hX dX12_orders_77 (by decide) (z_isub hX dX12_orders_78 (z_iald hX dX12_orders_79 (z_iconst hX dX12_orders_80 (by decide) (z_idiv hX dX12_orders_81 (z_ald_n hX dX12_orders_82 rfl (z_gr (c := 12) (j := 12) hX dX12_orders_83 rfl inlX12 wm8_7 ⟨rfl, by decide, rfl⟩ (z_ild hX dX12_orders_86 (z_iconst hX dX12_orders_88 (by decide) (z_isub hX dX12_orders_89 (z_iald hX dX12_orders_90 (z_iconst hX dX12_orders_91 (by decide) (z_irem hX dX12_orders_92 (z_cv (c := 12) hX hr dX12_orders_93 hjX12_sideAt mwX12_sideAt rfl wm30_15 ⟨wm30_16, wm30_17⟩ ⟨Nat.le_of_ble_eq_true rfl, Nat.le_of_ble_eq_true rfl⟩ (z_ald_n hX dX12_orders_96 rfl (z_ald_n hX dX12_orders_97 rfl (z_gr (c := 12) (j := 12) hX dX12_orders_98 rfl inlX12 wm8_7 ⟨rfl, by decide, rfl⟩ ((tX12_orders_101 hX hr hq)))))))))))))))))))))))))
def kX12_orders_58 (r : pu_R) : pu_K := s_ald 0 (s_gi 12 13 (s_ist 5 ((r 472))))
theorem vX12_orders_58 : pu_cok2 kX12_orders_58 := fun rf r hr => by
  unfold kX12_orders_58
  exact v_ald (v_gi (v_ist ((hr 472))))
theorem tX12_orders_58 {X : pu_X} {r : pu_R} (hX : pu_H X mdX12_orders) (hr : pu_P X.2.1 X.2.2.2.2.2.2.2.2.2.2.1 r) (hq : ∀ i pc, pu_lp i = some (294, pc) → pu_S X mdX12_orders pc (r i)) : pu_S X mdX12_orders 58 (kX12_orders_58 r) := by
  unfold kX12_orders_58
  exact z_ald_n hX dX12_orders_58 rfl (z_gi (c := 12) (j := 13) hX dX12_orders_59 rfl inlX12 wm8_8 ⟨rfl, by decide, rfl⟩ (z_ist hX dX12_orders_62 ((hq 472 64 hl472))))
def kX12_orders_20 (r : pu_R) : pu_K := s_ild 4 (s_push (.int (2)) (s_icge (kX12_orders_197 r) (s_ald 0 (s_ild 3 (s_cv r 266 1 12 (s_ifeq (kX12_orders_191 r) (s_ald 0 (s_ild 3 (s_ild 4 (s_cv r 267 2 12 (s_ifeq (kX12_orders_191 r) (s_ald 0 (s_ild 3 (s_ild 4 (s_cv r 268 2 12 (s_ild 1 (s_iceq (kX12_orders_58 r) ((kX12_orders_191 r)))))))))))))))))))
theorem vX12_orders_20 : pu_cok2 kX12_orders_20 := fun rf r hr => by
  unfold kX12_orders_20
  exact v_ild (v_pi (v_icge (vX12_orders_197 rf r hr) (v_ald (v_ild (v_cv hr (v_ifeq (vX12_orders_191 rf r hr) (v_ald (v_ild (v_ild (v_cv hr (v_ifeq (vX12_orders_191 rf r hr) (v_ald (v_ild (v_ild (v_cv hr (v_ild (v_iceq (vX12_orders_58 rf r hr) ((vX12_orders_191 rf r hr)))))))))))))))))))
theorem tX12_orders_20 {X : pu_X} {r : pu_R} (hX : pu_H X mdX12_orders) (hr : pu_P X.2.1 X.2.2.2.2.2.2.2.2.2.2.1 r) (hq : ∀ i pc, pu_lp i = some (294, pc) → pu_S X mdX12_orders pc (r i)) : pu_S X mdX12_orders 20 (kX12_orders_20 r) := by
  unfold kX12_orders_20
  exact z_ild hX dX12_orders_20 (z_iconst hX dX12_orders_22 (by decide) (z_icge hX dX12_orders_23 (by decide) (tX12_orders_197 hX hr hq) (z_ald_n hX dX12_orders_26 rfl (z_ild_n hX dX12_orders_27 rfl (z_cv (c := 12) hX hr dX12_orders_28 hjX12_isOpen mwX12_isOpen rfl wm29_19 ⟨wm29_20, wm29_21⟩ ⟨Nat.le_of_ble_eq_true rfl, Nat.le_of_ble_eq_true rfl⟩ (z_ifeq hX dX12_orders_31 (by decide) (tX12_orders_191 hX hr hq) (z_ald_n hX dX12_orders_34 rfl (z_ild_n hX dX12_orders_35 rfl (z_ild hX dX12_orders_36 (z_cv (c := 12) hX hr dX12_orders_38 hjX12_hasPlace mwX12_hasPlace rfl wm30_7 ⟨wm30_8, wm30_9⟩ ⟨Nat.le_of_ble_eq_true rfl, Nat.le_of_ble_eq_true rfl⟩ (z_ifeq hX dX12_orders_41 (by decide) (tX12_orders_191 hX hr hq) (z_ald_n hX dX12_orders_44 rfl (z_ild_n hX dX12_orders_45 rfl (z_ild hX dX12_orders_46 (z_cv (c := 12) hX hr dX12_orders_48 hjX12_streetAt mwX12_streetAt rfl wm30_11 ⟨wm30_12, wm30_13⟩ ⟨Nat.le_of_ble_eq_true rfl, Nat.le_of_ble_eq_true rfl⟩ (z_ild_n hX dX12_orders_51 rfl (z_iceq hX dX12_orders_52 (by decide) (tX12_orders_58 hX hr hq) ((z_goto hX dX12_orders_55 (by decide) (tX12_orders_191 hX hr hq))))))))))))))))))))
def kX12_orders_7 (r : pu_R) : pu_K := s_ild 3 (s_ald 0 (s_gr 12 0 (s_push (.int (4)) (s_ai 1 (s_icge (kX12_orders_203 r) (s_push (.int (0)) (s_ist 4 ((r 471)))))))))
theorem vX12_orders_7 : pu_cok2 kX12_orders_7 := fun rf r hr => by
  unfold kX12_orders_7
  exact v_ild (v_ald (v_gr (v_pi (v_ai (v_icge (vX12_orders_203 rf r hr) (v_pi (v_ist ((hr 471)))))))))
theorem tX12_orders_7 {X : pu_X} {r : pu_R} (hX : pu_H X mdX12_orders) (hr : pu_P X.2.1 X.2.2.2.2.2.2.2.2.2.2.1 r) (hq : ∀ i pc, pu_lp i = some (294, pc) → pu_S X mdX12_orders pc (r i)) : pu_S X mdX12_orders 7 (kX12_orders_7 r) := by
  unfold kX12_orders_7
  exact z_ild_n hX dX12_orders_7 rfl (z_ald_n hX dX12_orders_8 rfl (z_gr (c := 12) (j := 0) hX dX12_orders_9 rfl inlX12 wm7_16 ⟨rfl, by decide, rfl⟩ (z_iconst hX dX12_orders_12 (by decide) (z_iald hX dX12_orders_13 (z_icge hX dX12_orders_14 (by decide) (tX12_orders_203 hX hr hq) (z_iconst hX dX12_orders_17 (by decide) (z_ist hX dX12_orders_18 ((hq 471 20 hl471)))))))))
def kX12_orders_0 (r : pu_R) : pu_K := s_ald 0 (s_push (.int (0)) (s_pi 12 13 (s_push (.int (0)) (s_ist 3 ((r 470))))))
theorem vX12_orders_0 : pu_cok2 kX12_orders_0 := fun rf r hr => by
  unfold kX12_orders_0
  exact v_ald (v_pi (v_puti (v_pi (v_ist ((hr 470))))))
theorem tX12_orders_0 {X : pu_X} {r : pu_R} (hX : pu_H X mdX12_orders) (hr : pu_P X.2.1 X.2.2.2.2.2.2.2.2.2.2.1 r) (hq : ∀ i pc, pu_lp i = some (294, pc) → pu_S X mdX12_orders pc (r i)) : pu_S X mdX12_orders 0 (kX12_orders_0 r) := by
  unfold kX12_orders_0
  exact z_ald_n hX dX12_orders_0 rfl (z_iconst hX dX12_orders_1 (by decide) (z_pi (c := 12) (j := 13) tyX12 tyX12_ok nmX12 hX dX12_orders_2 rfl inlX12 wm8_8 ⟨rfl, by decide⟩ ⟨rfl, rfl⟩ rfl (z_iconst hX dX12_orders_5 (by decide) (z_ist_n hX dX12_orders_6 rfl ((hq 470 7 hl470))))))
def kX12_isRising_135 (r : pu_R) : pu_K := s_push (.int (1)) (s_zret)
theorem vX12_isRising_135 : pu_cok2 kX12_isRising_135 := fun rf r hr => by
  unfold kX12_isRising_135
  exact v_pi (v_zret)
theorem tX12_isRising_135 {X : pu_X} {r : pu_R} (hX : pu_H X mdX12_isRising) (hr : pu_P X.2.1 X.2.2.2.2.2.2.2.2.2.2.1 r) (hq : ∀ i pc, pu_lp i = some (295, pc) → pu_S X mdX12_isRising pc (r i)) : pu_S X mdX12_isRising 135 (kX12_isRising_135 r) := by
  unfold kX12_isRising_135
  exact z_iconst hX dX12_isRising_135 (by decide) (z_zret hX dX12_isRising_136 rfl)
def kX12_isRising_129 (r : pu_R) : pu_K := s_inc 1 (1) ((r 473))
theorem vX12_isRising_129 : pu_cok2 kX12_isRising_129 := fun rf r hr => by
  unfold kX12_isRising_129
  exact v_inc ((hr 473))
theorem tX12_isRising_129 {X : pu_X} {r : pu_R} (hX : pu_H X mdX12_isRising) (hr : pu_P X.2.1 X.2.2.2.2.2.2.2.2.2.2.1 r) (hq : ∀ i pc, pu_lp i = some (295, pc) → pu_S X mdX12_isRising pc (r i)) : pu_S X mdX12_isRising 129 (kX12_isRising_129 r) := by
  unfold kX12_isRising_129
  exact z_inc hX dX12_isRising_129 (by decide) ((z_goto hX dX12_isRising_132 (by decide) (hq 473 2 hl473)))
def kX12_isRising_123 (r : pu_R) : pu_K := s_inc 2 (1) ((r 474))
theorem vX12_isRising_123 : pu_cok2 kX12_isRising_123 := fun rf r hr => by
  unfold kX12_isRising_123
  exact v_inc ((hr 474))
theorem tX12_isRising_123 {X : pu_X} {r : pu_R} (hX : pu_H X mdX12_isRising) (hr : pu_P X.2.1 X.2.2.2.2.2.2.2.2.2.2.1 r) (hq : ∀ i pc, pu_lp i = some (295, pc) → pu_S X mdX12_isRising pc (r i)) : pu_S X mdX12_isRising 123 (kX12_isRising_123 r) := by
  unfold kX12_isRising_123
  exact z_inc hX dX12_isRising_123 (by decide) ((z_goto hX dX12_isRising_126 (by decide) (hq 474 12 hl474)))
def kX12_isRising_121 (r : pu_R) : pu_K := s_push (.int (0)) (s_zret)
theorem vX12_isRising_121 : pu_cok2 kX12_isRising_121 := fun rf r hr => by
  unfold kX12_isRising_121
  exact v_pi (v_zret)
theorem tX12_isRising_121 {X : pu_X} {r : pu_R} (hX : pu_H X mdX12_isRising) (hr : pu_P X.2.1 X.2.2.2.2.2.2.2.2.2.2.1 r) (hq : ∀ i pc, pu_lp i = some (295, pc) → pu_S X mdX12_isRising pc (r i)) : pu_S X mdX12_isRising 121 (kX12_isRising_121 r) := by
  unfold kX12_isRising_121
  exact z_iconst hX dX12_isRising_121 (by decide) (z_zret hX dX12_isRising_122 rfl)
def kX12_isRising_86 (r : pu_R) : pu_K := s_ist 3 (s_ald 0 (s_gr 12 14 (s_ild 1 (s_ai 1 (s_ald 0 (s_gr 12 14 (s_ild 2 (s_ai 1 (s_iceq (kX12_isRising_121 r) (s_ild 3 (s_ifeq (kX12_isRising_123 r) (s_ald 0 (s_gr 12 14 (s_ild 1 (s_ai 1 (s_ald 0 (s_gr 12 14 (s_ild 2 (s_ai 1 (s_icge (kX12_isRising_123 r) ((kX12_isRising_121 r))))))))))))))))))))))
theorem vX12_isRising_86 : pu_cok2 kX12_isRising_86 := fun rf r hr => by
  unfold kX12_isRising_86
  exact v_ist (v_ald (v_gr (v_ild (v_ai (v_ald (v_gr (v_ild (v_ai (v_iceq (vX12_isRising_121 rf r hr) (v_ild (v_ifeq (vX12_isRising_123 rf r hr) (v_ald (v_gr (v_ild (v_ai (v_ald (v_gr (v_ild (v_ai (v_icge (vX12_isRising_123 rf r hr) ((vX12_isRising_121 rf r hr))))))))))))))))))))))
theorem tX12_isRising_86 {X : pu_X} {r : pu_R} (hX : pu_H X mdX12_isRising) (hr : pu_P X.2.1 X.2.2.2.2.2.2.2.2.2.2.1 r) (hq : ∀ i pc, pu_lp i = some (295, pc) → pu_S X mdX12_isRising pc (r i)) : pu_S X mdX12_isRising 86 (kX12_isRising_86 r) := by
  unfold kX12_isRising_86
  exact z_ist_n hX dX12_isRising_86 rfl (z_ald_n hX dX12_isRising_87 rfl (z_gr (c := 12) (j := 14) hX dX12_isRising_88 rfl inlX12 wm8_9 ⟨rfl, by decide, rfl⟩ (z_ild_n hX dX12_isRising_91 rfl (z_iald hX dX12_isRising_92 (z_ald_n hX dX12_isRising_93 rfl (z_gr (c := 12) (j := 14) hX dX12_isRising_94 rfl inlX12 wm8_9 ⟨rfl, by decide, rfl⟩ (z_ild_n hX dX12_isRising_97 rfl (z_iald hX dX12_isRising_98 (z_iceq hX dX12_isRising_99 (by decide) (tX12_isRising_121 hX hr hq) (z_ild_n hX dX12_isRising_102 rfl (z_ifeq hX dX12_isRising_103 (by decide) (tX12_isRising_123 hX hr hq) (z_ald_n hX dX12_isRising_106 rfl (z_gr (c := 12) (j := 14) hX dX12_isRising_107 rfl inlX12 wm8_9 ⟨rfl, by decide, rfl⟩ (z_ild_n hX dX12_isRising_110 rfl (z_iald hX dX12_isRising_111 (z_ald_n hX dX12_isRising_112 rfl (z_gr (c := 12) (j := 14) hX dX12_isRising_113 rfl inlX12 wm8_9 ⟨rfl, by decide, rfl⟩ (z_ild_n hX dX12_isRising_116 rfl (z_iald hX dX12_isRising_117 (z_icge hX dX12_isRising_118 (by decide) (tX12_isRising_123 hX hr hq) ((tX12_isRising_121 hX hr hq))))))))))))))))))))))
def kX12_isRising_85 (r : pu_R) : pu_K := s_push (.int (0)) ((kX12_isRising_86 r))
theorem vX12_isRising_85 : pu_cok2 kX12_isRising_85 := fun rf r hr => by
  unfold kX12_isRising_85
  exact v_pi ((vX12_isRising_86 rf r hr))
theorem tX12_isRising_85 {X : pu_X} {r : pu_R} (hX : pu_H X mdX12_isRising) (hr : pu_P X.2.1 X.2.2.2.2.2.2.2.2.2.2.1 r) (hq : ∀ i pc, pu_lp i = some (295, pc) → pu_S X mdX12_isRising pc (r i)) : pu_S X mdX12_isRising 85 (kX12_isRising_85 r) := by
  unfold kX12_isRising_85
  exact z_iconst hX dX12_isRising_85 (by decide) ((tX12_isRising_86 hX hr hq))
def kX12_isRising_72 (r : pu_R) : pu_K := s_ai 1 (s_push (.int (2)) (s_irem (s_cv r 269 2 12 (s_icne (kX12_isRising_85 r) (s_push (.int (1)) ((kX12_isRising_86 r)))))))
theorem vX12_isRising_72 : pu_cok2 kX12_isRising_72 := fun rf r hr => by
  unfold kX12_isRising_72
  exact v_ai (v_pi (v_irem (v_cv hr (v_icne (vX12_isRising_85 rf r hr) (v_pi ((vX12_isRising_86 rf r hr)))))))
theorem tX12_isRising_72 {X : pu_X} {r : pu_R} (hX : pu_H X mdX12_isRising) (hr : pu_P X.2.1 X.2.2.2.2.2.2.2.2.2.2.1 r) (hq : ∀ i pc, pu_lp i = some (295, pc) → pu_S X mdX12_isRising pc (r i)) : pu_S X mdX12_isRising 72 (kX12_isRising_72 r) := by
  unfold kX12_isRising_72
  exact z_iald hX dX12_isRising_72 (z_iconst hX dX12_isRising_73 (by decide) (z_irem hX dX12_isRising_74 (z_cv (c := 12) hX hr dX12_isRising_75 hjX12_sideAt mwX12_sideAt rfl wm30_15 ⟨wm30_16, wm30_17⟩ ⟨Nat.le_of_ble_eq_true rfl, Nat.le_of_ble_eq_true rfl⟩ (z_icne hX dX12_isRising_78 (by decide) (tX12_isRising_85 hX hr hq) (z_iconst hX dX12_isRising_81 (by decide) ((z_goto hX dX12_isRising_82 (by decide) (tX12_isRising_86 hX hr hq))))))))
def kX12_isRising_38 (r : pu_R) : pu_K := s_ald 0 (s_ald 0 (s_gr 12 12 (s_ild 1 (s_ai 1 (s_push (.int (2)) (s_idiv (s_ald 0 (s_gr 12 12 (s_ild 1 (s_ai 1 (s_push (.int (2)) (s_irem (s_cv r 269 2 12 (s_ald 0 (s_ald 0 (s_gr 12 12 (s_ild 2 (s_ai 1 (s_push (.int (2)) (s_idiv (s_ald 0 (s_gr 12 12 (s_ild 2 ((kX12_isRising_72 r)))))))))))))))))))))))))
theorem vX12_isRising_38 : pu_cok2 kX12_isRising_38 := fun rf r hr => by
  unfold kX12_isRising_38
  exact v_ald (v_ald (v_gr (v_ild (v_ai (v_pi (v_idiv (v_ald (v_gr (v_ild (v_ai (v_pi (v_irem (v_cv hr (v_ald (v_ald (v_gr (v_ild (v_ai (v_pi (v_idiv (v_ald (v_gr (v_ild ((vX12_isRising_72 rf r hr)))))))))))))))))))))))))
theorem tX12_isRising_38 {X : pu_X} {r : pu_R} (hX : pu_H X mdX12_isRising) (hr : pu_P X.2.1 X.2.2.2.2.2.2.2.2.2.2.1 r) (hq : ∀ i pc, pu_lp i = some (295, pc) → pu_S X mdX12_isRising pc (r i)) : pu_S X mdX12_isRising 38 (kX12_isRising_38 r) := by
  unfold kX12_isRising_38
  exact z_ald_n hX dX12_isRising_38 rfl (z_ald_n hX dX12_isRising_39 rfl (z_gr (c := 12) (j := 12) hX dX12_isRising_40 rfl inlX12 wm8_7 ⟨rfl, by decide, rfl⟩ (z_ild_n hX dX12_isRising_43 rfl (z_iald hX dX12_isRising_44 (z_iconst hX dX12_isRising_45 (by decide) (z_idiv hX dX12_isRising_46 (z_ald_n hX dX12_isRising_47 rfl (z_gr (c := 12) (j := 12) hX dX12_isRising_48 rfl inlX12 wm8_7 ⟨rfl, by decide, rfl⟩ (z_ild_n hX dX12_isRising_51 rfl (z_iald hX dX12_isRising_52 (z_iconst hX dX12_isRising_53 (by decide) (z_irem hX dX12_isRising_54 (z_cv (c := 12) hX hr dX12_isRising_55 hjX12_sideAt mwX12_sideAt rfl wm30_15 ⟨wm30_16, wm30_17⟩ ⟨Nat.le_of_ble_eq_true rfl, Nat.le_of_ble_eq_true rfl⟩ (z_ald_n hX dX12_isRising_58 rfl (z_ald_n hX dX12_isRising_59 rfl (z_gr (c := 12) (j := 12) hX dX12_isRising_60 rfl inlX12 wm8_7 ⟨rfl, by decide, rfl⟩ (z_ild_n hX dX12_isRising_63 rfl (z_iald hX dX12_isRising_64 (z_iconst hX dX12_isRising_65 (by decide) (z_idiv hX dX12_isRising_66 (z_ald_n hX dX12_isRising_67 rfl (z_gr (c := 12) (j := 12) hX dX12_isRising_68 rfl inlX12 wm8_7 ⟨rfl, by decide, rfl⟩ (z_ild_n hX dX12_isRising_71 rfl ((tX12_isRising_72 hX hr hq)))))))))))))))))))))))))
def kX12_isRising_12 (r : pu_R) : pu_K := s_ild 2 (s_ild 1 (s_icge (kX12_isRising_129 r) (s_ald 0 (s_gr 12 14 (s_ild 1 (s_ai 1 (s_ifeq (kX12_isRising_123 r) (s_ald 0 (s_gr 12 14 (s_ild 2 (s_ai 1 (s_ifne (kX12_isRising_38 r) ((kX12_isRising_123 r))))))))))))))
theorem vX12_isRising_12 : pu_cok2 kX12_isRising_12 := fun rf r hr => by
  unfold kX12_isRising_12
  exact v_ild (v_ild (v_icge (vX12_isRising_129 rf r hr) (v_ald (v_gr (v_ild (v_ai (v_ifeq (vX12_isRising_123 rf r hr) (v_ald (v_gr (v_ild (v_ai (v_ifne (vX12_isRising_38 rf r hr) ((vX12_isRising_123 rf r hr))))))))))))))
theorem tX12_isRising_12 {X : pu_X} {r : pu_R} (hX : pu_H X mdX12_isRising) (hr : pu_P X.2.1 X.2.2.2.2.2.2.2.2.2.2.1 r) (hq : ∀ i pc, pu_lp i = some (295, pc) → pu_S X mdX12_isRising pc (r i)) : pu_S X mdX12_isRising 12 (kX12_isRising_12 r) := by
  unfold kX12_isRising_12
  exact z_ild_n hX dX12_isRising_12 rfl (z_ild_n hX dX12_isRising_13 rfl (z_icge hX dX12_isRising_14 (by decide) (tX12_isRising_129 hX hr hq) (z_ald_n hX dX12_isRising_17 rfl (z_gr (c := 12) (j := 14) hX dX12_isRising_18 rfl inlX12 wm8_9 ⟨rfl, by decide, rfl⟩ (z_ild_n hX dX12_isRising_21 rfl (z_iald hX dX12_isRising_22 (z_ifeq hX dX12_isRising_23 (by decide) (tX12_isRising_123 hX hr hq) (z_ald_n hX dX12_isRising_26 rfl (z_gr (c := 12) (j := 14) hX dX12_isRising_27 rfl inlX12 wm8_9 ⟨rfl, by decide, rfl⟩ (z_ild_n hX dX12_isRising_30 rfl (z_iald hX dX12_isRising_31 (z_ifne hX dX12_isRising_32 (by decide) (tX12_isRising_38 hX hr hq) ((z_goto hX dX12_isRising_35 (by decide) (tX12_isRising_123 hX hr hq)))))))))))))))
def kX12_isRising_2 (r : pu_R) : pu_K := s_ild 1 (s_ald 0 (s_gi 12 13 (s_icge (kX12_isRising_135 r) (s_push (.int (0)) (s_ist 2 ((r 474)))))))
theorem vX12_isRising_2 : pu_cok2 kX12_isRising_2 := fun rf r hr => by
  unfold kX12_isRising_2
  exact v_ild (v_ald (v_gi (v_icge (vX12_isRising_135 rf r hr) (v_pi (v_ist ((hr 474)))))))
theorem tX12_isRising_2 {X : pu_X} {r : pu_R} (hX : pu_H X mdX12_isRising) (hr : pu_P X.2.1 X.2.2.2.2.2.2.2.2.2.2.1 r) (hq : ∀ i pc, pu_lp i = some (295, pc) → pu_S X mdX12_isRising pc (r i)) : pu_S X mdX12_isRising 2 (kX12_isRising_2 r) := by
  unfold kX12_isRising_2
  exact z_ild_n hX dX12_isRising_2 rfl (z_ald_n hX dX12_isRising_3 rfl (z_gi (c := 12) (j := 13) hX dX12_isRising_4 rfl inlX12 wm8_8 ⟨rfl, by decide, rfl⟩ (z_icge hX dX12_isRising_7 (by decide) (tX12_isRising_135 hX hr hq) (z_iconst hX dX12_isRising_10 (by decide) (z_ist_n hX dX12_isRising_11 rfl ((hq 474 12 hl474)))))))
def kX12_isRising_0 (r : pu_R) : pu_K := s_push (.int (0)) (s_ist 1 ((r 473)))
theorem vX12_isRising_0 : pu_cok2 kX12_isRising_0 := fun rf r hr => by
  unfold kX12_isRising_0
  exact v_pi (v_ist ((hr 473)))
theorem tX12_isRising_0 {X : pu_X} {r : pu_R} (hX : pu_H X mdX12_isRising) (hr : pu_P X.2.1 X.2.2.2.2.2.2.2.2.2.2.1 r) (hq : ∀ i pc, pu_lp i = some (295, pc) → pu_S X mdX12_isRising pc (r i)) : pu_S X mdX12_isRising 0 (kX12_isRising_0 r) := by
  unfold kX12_isRising_0
  exact z_iconst hX dX12_isRising_0 (by decide) (z_ist_n hX dX12_isRising_1 rfl ((hq 473 2 hl473)))
def kX12_gets_343 (r : pu_R) : pu_K := s_zret
theorem vX12_gets_343 : pu_cok2 kX12_gets_343 := fun rf r hr => by
  unfold kX12_gets_343
  exact v_zret
theorem tX12_gets_343 {X : pu_X} {r : pu_R} (hX : pu_H X mdX12_gets) (hr : pu_P X.2.1 X.2.2.2.2.2.2.2.2.2.2.1 r) (hq : ∀ i pc, pu_lp i = some (296, pc) → pu_S X mdX12_gets pc (r i)) : pu_S X mdX12_gets 343 (kX12_gets_343 r) := by
  unfold kX12_gets_343
  exact z_zret hX dX12_gets_343 rfl
def kX12_gets_342 (r : pu_R) : pu_K := s_push (.int (0)) ((kX12_gets_343 r))
theorem vX12_gets_342 : pu_cok2 kX12_gets_342 := fun rf r hr => by
  unfold kX12_gets_342
  exact v_pi ((vX12_gets_343 rf r hr))
theorem tX12_gets_342 {X : pu_X} {r : pu_R} (hX : pu_H X mdX12_gets) (hr : pu_P X.2.1 X.2.2.2.2.2.2.2.2.2.2.1 r) (hq : ∀ i pc, pu_lp i = some (296, pc) → pu_S X mdX12_gets pc (r i)) : pu_S X mdX12_gets 342 (kX12_gets_342 r) := by
  unfold kX12_gets_342
  exact z_iconst hX dX12_gets_342 (by decide) ((tX12_gets_343 hX hr hq))
def kX12_gets_338 (r : pu_R) : pu_K := s_push (.int (1)) ((kX12_gets_343 r))
theorem vX12_gets_338 : pu_cok2 kX12_gets_338 := fun rf r hr => by
  unfold kX12_gets_338
  exact v_pi ((vX12_gets_343 rf r hr))
theorem tX12_gets_338 {X : pu_X} {r : pu_R} (hX : pu_H X mdX12_gets) (hr : pu_P X.2.1 X.2.2.2.2.2.2.2.2.2.2.1 r) (hq : ∀ i pc, pu_lp i = some (296, pc) → pu_S X mdX12_gets pc (r i)) : pu_S X mdX12_gets 338 (kX12_gets_338 r) := by
  unfold kX12_gets_338
  exact z_iconst hX dX12_gets_338 (by decide) ((z_goto hX dX12_gets_339 (by decide) (tX12_gets_343 hX hr hq)))
def kX12_gets_326 (r : pu_R) : pu_K := s_ild 2 (s_push (.int (3)) (s_icne (kX12_gets_338 r) (s_ald 0 (s_cv r 295 0 12 (s_ifeq (kX12_gets_342 r) ((kX12_gets_338 r)))))))
theorem vX12_gets_326 : pu_cok2 kX12_gets_326 := fun rf r hr => by
  unfold kX12_gets_326
  exact v_ild (v_pi (v_icne (vX12_gets_338 rf r hr) (v_ald (v_cv hr (v_ifeq (vX12_gets_342 rf r hr) ((vX12_gets_338 rf r hr)))))))
theorem tX12_gets_326 {X : pu_X} {r : pu_R} (hX : pu_H X mdX12_gets) (hr : pu_P X.2.1 X.2.2.2.2.2.2.2.2.2.2.1 r) (hq : ∀ i pc, pu_lp i = some (296, pc) → pu_S X mdX12_gets pc (r i)) : pu_S X mdX12_gets 326 (kX12_gets_326 r) := by
  unfold kX12_gets_326
  exact z_ild_n hX dX12_gets_326 rfl (z_iconst hX dX12_gets_327 (by decide) (z_icne hX dX12_gets_328 (by decide) (tX12_gets_338 hX hr hq) (z_ald_n hX dX12_gets_331 rfl (z_cv (c := 12) hX hr dX12_gets_332 hjX12_isRising mwX12_isRising rfl wm39_1 ⟨wm39_2, wm39_3⟩ ⟨Nat.le_of_ble_eq_true rfl, Nat.le_of_ble_eq_true rfl⟩ (z_ifeq hX dX12_gets_335 (by decide) (tX12_gets_342 hX hr hq) ((tX12_gets_338 hX hr hq)))))))
def kX12_gets_312 (r : pu_R) : pu_K := s_ald 3 (s_ild 5 (s_dup2 (s_ai 1 (s_push (.int (1)) (s_iadd (s_wi 1 (s_inc 4 (1) ((r 475)))))))))
theorem vX12_gets_312 : pu_cok2 kX12_gets_312 := fun rf r hr => by
  unfold kX12_gets_312
  exact v_ald (v_ild (v_dup2 (v_ai (v_pi (v_iadd (v_wi (v_inc ((hr 475)))))))))
theorem tX12_gets_312 {X : pu_X} {r : pu_R} (hX : pu_H X mdX12_gets) (hr : pu_P X.2.1 X.2.2.2.2.2.2.2.2.2.2.1 r) (hq : ∀ i pc, pu_lp i = some (296, pc) → pu_S X mdX12_gets pc (r i)) : pu_S X mdX12_gets 312 (kX12_gets_312 r) := by
  unfold kX12_gets_312
  exact z_ald_n hX dX12_gets_312 rfl (z_ild hX dX12_gets_313 (z_dup2 hX dX12_gets_315 (z_iald hX dX12_gets_316 (z_iconst hX dX12_gets_317 (by decide) (z_iadd hX dX12_gets_318 (z_iast hX dX12_gets_319 (z_inc hX dX12_gets_320 (by decide) ((z_goto hX dX12_gets_323 (by decide) (hq 475 22 hl475))))))))))
def kX12_gets_282 (r : pu_R) : pu_K := s_wi 1 (s_ald 3 (s_ild 5 (s_ai 1 (s_ald 0 (s_gr 12 0 (s_ild 7 (s_ai 1 (s_icge (kX12_gets_312 r) (s_ald 0 (s_gr 12 14 (s_ild 4 (s_ai 1 (s_cs r 263 1 (s_ifne (kX12_gets_312 r) (s_push (.int (0)) (s_zret))))))))))))))))
theorem vX12_gets_282 : pu_cok2 kX12_gets_282 := fun rf r hr => by
  unfold kX12_gets_282
  exact v_wi (v_ald (v_ild (v_ai (v_ald (v_gr (v_ild (v_ai (v_icge (vX12_gets_312 rf r hr) (v_ald (v_gr (v_ild (v_ai (v_cs hr (v_ifne (vX12_gets_312 rf r hr) (v_pi (v_zret))))))))))))))))
theorem tX12_gets_282 {X : pu_X} {r : pu_R} (hX : pu_H X mdX12_gets) (hr : pu_P X.2.1 X.2.2.2.2.2.2.2.2.2.2.1 r) (hq : ∀ i pc, pu_lp i = some (296, pc) → pu_S X mdX12_gets pc (r i)) : pu_S X mdX12_gets 282 (kX12_gets_282 r) := by
  unfold kX12_gets_282
  exact z_iast hX dX12_gets_282 (z_ald_n hX dX12_gets_283 rfl (z_ild hX dX12_gets_284 (z_iald hX dX12_gets_286 (z_ald_n hX dX12_gets_287 rfl (z_gr (c := 12) (j := 0) hX dX12_gets_288 rfl inlX12 wm7_16 ⟨rfl, by decide, rfl⟩ (z_ild hX dX12_gets_291 (z_iald hX dX12_gets_293 (z_icge hX dX12_gets_294 (by decide) (tX12_gets_312 hX hr hq) (z_ald_n hX dX12_gets_297 rfl (z_gr (c := 12) (j := 14) hX dX12_gets_298 rfl inlX12 wm8_9 ⟨rfl, by decide, rfl⟩ (z_ild hX dX12_gets_301 (z_iald hX dX12_gets_303 (z_cs hX hr dX12_gets_304 hjX12_isWhole mwX12_isWhole wm28_13 wm28_14 ⟨Nat.le_of_ble_eq_true rfl, Nat.le_of_ble_eq_true rfl⟩ (z_ifne hX dX12_gets_307 (by decide) (tX12_gets_312 hX hr hq) (z_iconst hX dX12_gets_310 (by decide) (z_zret hX dX12_gets_311 rfl))))))))))))))))
def kX12_gets_281 (r : pu_R) : pu_K := s_push (.int (0)) ((kX12_gets_282 r))
theorem vX12_gets_281 : pu_cok2 kX12_gets_281 := fun rf r hr => by
  unfold kX12_gets_281
  exact v_pi ((vX12_gets_282 rf r hr))
theorem tX12_gets_281 {X : pu_X} {r : pu_R} (hX : pu_H X mdX12_gets) (hr : pu_P X.2.1 X.2.2.2.2.2.2.2.2.2.2.1 r) (hq : ∀ i pc, pu_lp i = some (296, pc) → pu_S X mdX12_gets pc (r i)) : pu_S X mdX12_gets 281 (kX12_gets_281 r) := by
  unfold kX12_gets_281
  exact z_iconst hX dX12_gets_281 (by decide) ((tX12_gets_282 hX hr hq))
def kX12_gets_270 (r : pu_R) : pu_K := s_push (.int (1)) (s_iadd (s_ald 3 (s_ild 5 (s_ai 1 (s_iadd (s_ai 1 ((kX12_gets_282 r))))))))
theorem vX12_gets_270 : pu_cok2 kX12_gets_270 := fun rf r hr => by
  unfold kX12_gets_270
  exact v_pi (v_iadd (v_ald (v_ild (v_ai (v_iadd (v_ai ((vX12_gets_282 rf r hr))))))))
theorem tX12_gets_270 {X : pu_X} {r : pu_R} (hX : pu_H X mdX12_gets) (hr : pu_P X.2.1 X.2.2.2.2.2.2.2.2.2.2.1 r) (hq : ∀ i pc, pu_lp i = some (296, pc) → pu_S X mdX12_gets pc (r i)) : pu_S X mdX12_gets 270 (kX12_gets_270 r) := by
  unfold kX12_gets_270
  exact z_iconst hX dX12_gets_270 (by decide) (z_iadd hX dX12_gets_271 (z_ald_n hX dX12_gets_272 rfl (z_ild hX dX12_gets_273 (z_iald hX dX12_gets_275 (z_iadd hX dX12_gets_276 (z_iald hX dX12_gets_277 ((z_goto hX dX12_gets_278 (by decide) (tX12_gets_282 hX hr hq)))))))))
def kX12_gets_228 (r : pu_R) : pu_K := s_push (.int (30632)) (s_push (.int (601)) (s_push (.int (2)) (s_ild 1 (s_imul (s_ild 5 (s_iadd (s_imul (s_iadd (s_ist 7 (s_ald 0 (s_gr 12 14 (s_ild 4 (s_ald 3 (s_ild 5 (s_ai 1 (s_ald 0 (s_gr 12 0 (s_ild 7 (s_ai 1 (s_icge (kX12_gets_281 r) (s_ald 0 (s_gr 12 0 (s_ild 7 ((kX12_gets_270 r)))))))))))))))))))))))))
theorem vX12_gets_228 : pu_cok2 kX12_gets_228 := fun rf r hr => by
  unfold kX12_gets_228
  exact v_pi (v_pi (v_pi (v_ild (v_imul (v_ild (v_iadd (v_imul (v_iadd (v_ist (v_ald (v_gr (v_ild (v_ald (v_ild (v_ai (v_ald (v_gr (v_ild (v_ai (v_icge (vX12_gets_281 rf r hr) (v_ald (v_gr (v_ild ((vX12_gets_270 rf r hr)))))))))))))))))))))))))
theorem tX12_gets_228 {X : pu_X} {r : pu_R} (hX : pu_H X mdX12_gets) (hr : pu_P X.2.1 X.2.2.2.2.2.2.2.2.2.2.1 r) (hq : ∀ i pc, pu_lp i = some (296, pc) → pu_S X mdX12_gets pc (r i)) : pu_S X mdX12_gets 228 (kX12_gets_228 r) := by
  unfold kX12_gets_228
  exact z_sipush hX dX12_gets_228 (by decide) (z_sipush hX dX12_gets_231 (by decide) (z_iconst hX dX12_gets_234 (by decide) (z_ild_n hX dX12_gets_235 rfl (z_imul hX dX12_gets_236 (z_ild hX dX12_gets_237 (z_iadd hX dX12_gets_239 (z_imul hX dX12_gets_240 (z_iadd hX dX12_gets_241 (z_ist hX dX12_gets_242 (z_ald_n hX dX12_gets_244 rfl (z_gr (c := 12) (j := 14) hX dX12_gets_245 rfl inlX12 wm8_9 ⟨rfl, by decide, rfl⟩ (z_ild hX dX12_gets_248 (z_ald_n hX dX12_gets_250 rfl (z_ild hX dX12_gets_251 (z_iald hX dX12_gets_253 (z_ald_n hX dX12_gets_254 rfl (z_gr (c := 12) (j := 0) hX dX12_gets_255 rfl inlX12 wm7_16 ⟨rfl, by decide, rfl⟩ (z_ild hX dX12_gets_258 (z_iald hX dX12_gets_260 (z_icge hX dX12_gets_261 (by decide) (tX12_gets_281 hX hr hq) (z_ald_n hX dX12_gets_264 rfl (z_gr (c := 12) (j := 0) hX dX12_gets_265 rfl inlX12 wm7_16 ⟨rfl, by decide, rfl⟩ (z_ild hX dX12_gets_268 ((tX12_gets_270 hX hr hq)))))))))))))))))))))))))
def kX12_gets_225 (r : pu_R) : pu_K := (kX12_gets_312 r)
theorem vX12_gets_225 : pu_cok2 kX12_gets_225 := fun rf r hr => by
  unfold kX12_gets_225
  exact (vX12_gets_312 rf r hr)
theorem tX12_gets_225 {X : pu_X} {r : pu_R} (hX : pu_H X mdX12_gets) (hr : pu_P X.2.1 X.2.2.2.2.2.2.2.2.2.2.1 r) (hq : ∀ i pc, pu_lp i = some (296, pc) → pu_S X mdX12_gets pc (r i)) : pu_S X mdX12_gets 225 (kX12_gets_225 r) := by
  unfold kX12_gets_225
  exact (z_goto hX dX12_gets_225 (by decide) (tX12_gets_312 hX hr hq))
def kX12_gets_207 (r : pu_R) : pu_K := s_wi 1 (s_ald 0 (s_gr 12 14 (s_ild 4 (s_ai 1 (s_push (.int (16)) (s_irem (s_push (.int (9)) (s_icle (kX12_gets_225 r) (s_push (.int (0)) (s_zret))))))))))
theorem vX12_gets_207 : pu_cok2 kX12_gets_207 := fun rf r hr => by
  unfold kX12_gets_207
  exact v_wi (v_ald (v_gr (v_ild (v_ai (v_pi (v_irem (v_pi (v_icle (vX12_gets_225 rf r hr) (v_pi (v_zret))))))))))
theorem tX12_gets_207 {X : pu_X} {r : pu_R} (hX : pu_H X mdX12_gets) (hr : pu_P X.2.1 X.2.2.2.2.2.2.2.2.2.2.1 r) (hq : ∀ i pc, pu_lp i = some (296, pc) → pu_S X mdX12_gets pc (r i)) : pu_S X mdX12_gets 207 (kX12_gets_207 r) := by
  unfold kX12_gets_207
  exact z_iast hX dX12_gets_207 (z_ald_n hX dX12_gets_208 rfl (z_gr (c := 12) (j := 14) hX dX12_gets_209 rfl inlX12 wm8_9 ⟨rfl, by decide, rfl⟩ (z_ild hX dX12_gets_212 (z_iald hX dX12_gets_214 (z_bipush hX dX12_gets_215 (by decide) (z_irem hX dX12_gets_217 (z_bipush hX dX12_gets_218 (by decide) (z_icle hX dX12_gets_220 (by decide) (tX12_gets_225 hX hr hq) (z_iconst hX dX12_gets_223 (by decide) (z_zret hX dX12_gets_224 rfl))))))))))
def kX12_gets_202 (r : pu_R) : pu_K := s_push (.int (16)) (s_ild 7 (s_imul ((kX12_gets_207 r))))
theorem vX12_gets_202 : pu_cok2 kX12_gets_202 := fun rf r hr => by
  unfold kX12_gets_202
  exact v_pi (v_ild (v_imul ((vX12_gets_207 rf r hr))))
theorem tX12_gets_202 {X : pu_X} {r : pu_R} (hX : pu_H X mdX12_gets) (hr : pu_P X.2.1 X.2.2.2.2.2.2.2.2.2.2.1 r) (hq : ∀ i pc, pu_lp i = some (296, pc) → pu_S X mdX12_gets pc (r i)) : pu_S X mdX12_gets 202 (kX12_gets_202 r) := by
  unfold kX12_gets_202
  exact z_bipush hX dX12_gets_202 (by decide) (z_ild hX dX12_gets_204 (z_imul hX dX12_gets_206 ((tX12_gets_207 hX hr hq))))
def kX12_gets_175 (r : pu_R) : pu_K := s_ist 8 (s_ald 0 (s_gr 12 14 (s_ild 4 (s_ild 8 (s_ifeq (kX12_gets_202 r) (s_ald 0 (s_gr 12 14 (s_ild 4 (s_push (.int (1)) (s_isub (s_ai 1 (s_push (.int (1)) (s_iadd ((kX12_gets_207 r)))))))))))))))
theorem vX12_gets_175 : pu_cok2 kX12_gets_175 := fun rf r hr => by
  unfold kX12_gets_175
  exact v_ist (v_ald (v_gr (v_ild (v_ild (v_ifeq (vX12_gets_202 rf r hr) (v_ald (v_gr (v_ild (v_pi (v_isub (v_ai (v_pi (v_iadd ((vX12_gets_207 rf r hr)))))))))))))))
theorem tX12_gets_175 {X : pu_X} {r : pu_R} (hX : pu_H X mdX12_gets) (hr : pu_P X.2.1 X.2.2.2.2.2.2.2.2.2.2.1 r) (hq : ∀ i pc, pu_lp i = some (296, pc) → pu_S X mdX12_gets pc (r i)) : pu_S X mdX12_gets 175 (kX12_gets_175 r) := by
  unfold kX12_gets_175
  exact z_ist hX dX12_gets_175 (z_ald_n hX dX12_gets_177 rfl (z_gr (c := 12) (j := 14) hX dX12_gets_178 rfl inlX12 wm8_9 ⟨rfl, by decide, rfl⟩ (z_ild hX dX12_gets_181 (z_ild hX dX12_gets_183 (z_ifeq hX dX12_gets_185 (by decide) (tX12_gets_202 hX hr hq) (z_ald_n hX dX12_gets_188 rfl (z_gr (c := 12) (j := 14) hX dX12_gets_189 rfl inlX12 wm8_9 ⟨rfl, by decide, rfl⟩ (z_ild hX dX12_gets_192 (z_iconst hX dX12_gets_194 (by decide) (z_isub hX dX12_gets_195 (z_iald hX dX12_gets_196 (z_iconst hX dX12_gets_197 (by decide) (z_iadd hX dX12_gets_198 ((z_goto hX dX12_gets_199 (by decide) (tX12_gets_207 hX hr hq))))))))))))))))
def kX12_gets_174 (r : pu_R) : pu_K := s_push (.int (0)) ((kX12_gets_175 r))
theorem vX12_gets_174 : pu_cok2 kX12_gets_174 := fun rf r hr => by
  unfold kX12_gets_174
  exact v_pi ((vX12_gets_175 rf r hr))
theorem tX12_gets_174 {X : pu_X} {r : pu_R} (hX : pu_H X mdX12_gets) (hr : pu_P X.2.1 X.2.2.2.2.2.2.2.2.2.2.1 r) (hq : ∀ i pc, pu_lp i = some (296, pc) → pu_S X mdX12_gets pc (r i)) : pu_S X mdX12_gets 174 (kX12_gets_174 r) := by
  unfold kX12_gets_174
  exact z_iconst hX dX12_gets_174 (by decide) ((tX12_gets_175 hX hr hq))
def kX12_gets_167 (r : pu_R) : pu_K := s_icne (kX12_gets_174 r) (s_push (.int (1)) ((kX12_gets_175 r)))
theorem vX12_gets_167 : pu_cok2 kX12_gets_167 := fun rf r hr => by
  unfold kX12_gets_167
  exact v_icne (vX12_gets_174 rf r hr) (v_pi ((vX12_gets_175 rf r hr)))
theorem tX12_gets_167 {X : pu_X} {r : pu_R} (hX : pu_H X mdX12_gets) (hr : pu_P X.2.1 X.2.2.2.2.2.2.2.2.2.2.1 r) (hq : ∀ i pc, pu_lp i = some (296, pc) → pu_S X mdX12_gets pc (r i)) : pu_S X mdX12_gets 167 (kX12_gets_167 r) := by
  unfold kX12_gets_167
  exact z_icne hX dX12_gets_167 (by decide) (tX12_gets_174 hX hr hq) (z_iconst hX dX12_gets_170 (by decide) ((z_goto hX dX12_gets_171 (by decide) (tX12_gets_175 hX hr hq))))
def kX12_gets_129 (r : pu_R) : pu_K := s_ild 2 (s_push (.int (2)) (s_icne (kX12_gets_228 r) (s_push (.int (2)) (s_ild 6 (s_push (.int (10)) (s_idiv (s_imul (s_push (.int (1)) (s_iadd (s_ild 5 (s_iadd (s_ist 7 (s_ild 4 (s_ifle (kX12_gets_174 r) (s_ald 0 (s_gr 12 14 (s_ild 4 (s_push (.int (1)) (s_isub (s_ai 1 (s_push (.int (16)) (s_idiv (s_ild 7 ((kX12_gets_167 r)))))))))))))))))))))))))
theorem vX12_gets_129 : pu_cok2 kX12_gets_129 := fun rf r hr => by
  unfold kX12_gets_129
  exact v_ild (v_pi (v_icne (vX12_gets_228 rf r hr) (v_pi (v_ild (v_pi (v_idiv (v_imul (v_pi (v_iadd (v_ild (v_iadd (v_ist (v_ild (v_ifle (vX12_gets_174 rf r hr) (v_ald (v_gr (v_ild (v_pi (v_isub (v_ai (v_pi (v_idiv (v_ild ((vX12_gets_167 rf r hr)))))))))))))))))))))))))
theorem tX12_gets_129 {X : pu_X} {r : pu_R} (hX : pu_H X mdX12_gets) (hr : pu_P X.2.1 X.2.2.2.2.2.2.2.2.2.2.1 r) (hq : ∀ i pc, pu_lp i = some (296, pc) → pu_S X mdX12_gets pc (r i)) : pu_S X mdX12_gets 129 (kX12_gets_129 r) := by
  unfold kX12_gets_129
  exact z_ild_n hX dX12_gets_129 rfl (z_iconst hX dX12_gets_130 (by decide) (z_icne hX dX12_gets_131 (by decide) (tX12_gets_228 hX hr hq) (z_iconst hX dX12_gets_134 (by decide) (z_ild hX dX12_gets_135 (z_bipush hX dX12_gets_137 (by decide) (z_idiv hX dX12_gets_139 (z_imul hX dX12_gets_140 (z_iconst hX dX12_gets_141 (by decide) (z_iadd hX dX12_gets_142 (z_ild hX dX12_gets_143 (z_iadd hX dX12_gets_145 (z_ist hX dX12_gets_146 (z_ild hX dX12_gets_148 (z_ifle hX dX12_gets_150 (by decide) (tX12_gets_174 hX hr hq) (z_ald_n hX dX12_gets_153 rfl (z_gr (c := 12) (j := 14) hX dX12_gets_154 rfl inlX12 wm8_9 ⟨rfl, by decide, rfl⟩ (z_ild hX dX12_gets_157 (z_iconst hX dX12_gets_159 (by decide) (z_isub hX dX12_gets_160 (z_iald hX dX12_gets_161 (z_bipush hX dX12_gets_162 (by decide) (z_idiv hX dX12_gets_164 (z_ild hX dX12_gets_165 ((tX12_gets_167 hX hr hq)))))))))))))))))))))))))
def kX12_gets_107 (r : pu_R) : pu_K := s_ild 2 (s_push (.int (1)) (s_icne (kX12_gets_129 r) (s_ald 0 (s_gr 12 14 (s_ild 4 (s_push (.int (16)) (s_ild 4 (s_push (.int (1)) (s_iadd (s_imul (s_wi 1 ((kX12_gets_312 r)))))))))))))
theorem vX12_gets_107 : pu_cok2 kX12_gets_107 := fun rf r hr => by
  unfold kX12_gets_107
  exact v_ild (v_pi (v_icne (vX12_gets_129 rf r hr) (v_ald (v_gr (v_ild (v_pi (v_ild (v_pi (v_iadd (v_imul (v_wi ((vX12_gets_312 rf r hr)))))))))))))
theorem tX12_gets_107 {X : pu_X} {r : pu_R} (hX : pu_H X mdX12_gets) (hr : pu_P X.2.1 X.2.2.2.2.2.2.2.2.2.2.1 r) (hq : ∀ i pc, pu_lp i = some (296, pc) → pu_S X mdX12_gets pc (r i)) : pu_S X mdX12_gets 107 (kX12_gets_107 r) := by
  unfold kX12_gets_107
  exact z_ild_n hX dX12_gets_107 rfl (z_iconst hX dX12_gets_108 (by decide) (z_icne hX dX12_gets_109 (by decide) (tX12_gets_129 hX hr hq) (z_ald_n hX dX12_gets_112 rfl (z_gr (c := 12) (j := 14) hX dX12_gets_113 rfl inlX12 wm8_9 ⟨rfl, by decide, rfl⟩ (z_ild hX dX12_gets_116 (z_bipush hX dX12_gets_118 (by decide) (z_ild hX dX12_gets_120 (z_iconst hX dX12_gets_122 (by decide) (z_iadd hX dX12_gets_123 (z_imul hX dX12_gets_124 (z_iast hX dX12_gets_125 ((z_goto hX dX12_gets_126 (by decide) (tX12_gets_312 hX hr hq))))))))))))))
def kX12_gets_101 (r : pu_R) : pu_K := s_iadd (s_imul (s_wi 1 ((kX12_gets_312 r))))
theorem vX12_gets_101 : pu_cok2 kX12_gets_101 := fun rf r hr => by
  unfold kX12_gets_101
  exact v_iadd (v_imul (v_wi ((vX12_gets_312 rf r hr))))
theorem tX12_gets_101 {X : pu_X} {r : pu_R} (hX : pu_H X mdX12_gets) (hr : pu_P X.2.1 X.2.2.2.2.2.2.2.2.2.2.1 r) (hq : ∀ i pc, pu_lp i = some (296, pc) → pu_S X mdX12_gets pc (r i)) : pu_S X mdX12_gets 101 (kX12_gets_101 r) := by
  unfold kX12_gets_101
  exact z_iadd hX dX12_gets_101 (z_imul hX dX12_gets_102 (z_iast hX dX12_gets_103 ((z_goto hX dX12_gets_104 (by decide) (tX12_gets_312 hX hr hq)))))
def kX12_gets_63 (r : pu_R) : pu_K := s_push (.int (2)) (s_idiv (s_ald 0 (s_gr 12 12 (s_ild 4 (s_ai 1 (s_push (.int (2)) (s_irem (s_cv r 270 2 12 (s_ist 6 (s_ild 2 (s_ifne (kX12_gets_107 r) (s_ald 0 (s_gr 12 14 (s_ild 4 (s_push (.int (16)) (s_push (.int (2)) (s_ald 3 (s_ild 5 (s_ai 1 (s_imul (s_push (.int (1)) (s_iadd (s_ild 5 ((kX12_gets_101 r)))))))))))))))))))))))))
theorem vX12_gets_63 : pu_cok2 kX12_gets_63 := fun rf r hr => by
  unfold kX12_gets_63
  exact v_pi (v_idiv (v_ald (v_gr (v_ild (v_ai (v_pi (v_irem (v_cv hr (v_ist (v_ild (v_ifne (vX12_gets_107 rf r hr) (v_ald (v_gr (v_ild (v_pi (v_pi (v_ald (v_ild (v_ai (v_imul (v_pi (v_iadd (v_ild ((vX12_gets_101 rf r hr)))))))))))))))))))))))))
theorem tX12_gets_63 {X : pu_X} {r : pu_R} (hX : pu_H X mdX12_gets) (hr : pu_P X.2.1 X.2.2.2.2.2.2.2.2.2.2.1 r) (hq : ∀ i pc, pu_lp i = some (296, pc) → pu_S X mdX12_gets pc (r i)) : pu_S X mdX12_gets 63 (kX12_gets_63 r) := by
  unfold kX12_gets_63
  exact z_iconst hX dX12_gets_63 (by decide) (z_idiv hX dX12_gets_64 (z_ald_n hX dX12_gets_65 rfl (z_gr (c := 12) (j := 12) hX dX12_gets_66 rfl inlX12 wm8_7 ⟨rfl, by decide, rfl⟩ (z_ild hX dX12_gets_69 (z_iald hX dX12_gets_71 (z_iconst hX dX12_gets_72 (by decide) (z_irem hX dX12_gets_73 (z_cv (c := 12) hX hr dX12_gets_74 hjX12_pacesAt mwX12_pacesAt rfl wm31_6 ⟨wm31_7, wm31_8⟩ ⟨Nat.le_of_ble_eq_true rfl, Nat.le_of_ble_eq_true rfl⟩ (z_ist hX dX12_gets_77 (z_ild_n hX dX12_gets_79 rfl (z_ifne hX dX12_gets_80 (by decide) (tX12_gets_107 hX hr hq) (z_ald_n hX dX12_gets_83 rfl (z_gr (c := 12) (j := 14) hX dX12_gets_84 rfl inlX12 wm8_9 ⟨rfl, by decide, rfl⟩ (z_ild hX dX12_gets_87 (z_bipush hX dX12_gets_89 (by decide) (z_iconst hX dX12_gets_91 (by decide) (z_ald_n hX dX12_gets_92 rfl (z_ild hX dX12_gets_93 (z_iald hX dX12_gets_95 (z_imul hX dX12_gets_96 (z_iconst hX dX12_gets_97 (by decide) (z_iadd hX dX12_gets_98 (z_ild hX dX12_gets_99 ((tX12_gets_101 hX hr hq)))))))))))))))))))))))))
def kX12_gets_22 (r : pu_R) : pu_K := s_ild 4 (s_ald 0 (s_gi 12 13 (s_icge (kX12_gets_326 r) (s_ald 0 (s_ald 0 (s_gr 12 12 (s_ild 4 (s_ai 1 (s_push (.int (2)) (s_idiv (s_ald 0 (s_gr 12 12 (s_ild 4 (s_ai 1 (s_push (.int (2)) (s_irem (s_cv r 269 2 12 (s_ist 5 (s_ald 0 (s_ald 0 (s_gr 12 12 (s_ild 4 (s_ai 1 ((kX12_gets_63 r)))))))))))))))))))))))))
theorem vX12_gets_22 : pu_cok2 kX12_gets_22 := fun rf r hr => by
  unfold kX12_gets_22
  exact v_ild (v_ald (v_gi (v_icge (vX12_gets_326 rf r hr) (v_ald (v_ald (v_gr (v_ild (v_ai (v_pi (v_idiv (v_ald (v_gr (v_ild (v_ai (v_pi (v_irem (v_cv hr (v_ist (v_ald (v_ald (v_gr (v_ild (v_ai ((vX12_gets_63 rf r hr)))))))))))))))))))))))))
theorem tX12_gets_22 {X : pu_X} {r : pu_R} (hX : pu_H X mdX12_gets) (hr : pu_P X.2.1 X.2.2.2.2.2.2.2.2.2.2.1 r) (hq : ∀ i pc, pu_lp i = some (296, pc) → pu_S X mdX12_gets pc (r i)) : pu_S X mdX12_gets 22 (kX12_gets_22 r) := by
  unfold kX12_gets_22
  exact z_ild hX dX12_gets_22 (z_ald_n hX dX12_gets_24 rfl (z_gi (c := 12) (j := 13) hX dX12_gets_25 rfl inlX12 wm8_8 ⟨rfl, by decide, rfl⟩ (z_icge hX dX12_gets_28 (by decide) (tX12_gets_326 hX hr hq) (z_ald_n hX dX12_gets_31 rfl (z_ald_n hX dX12_gets_32 rfl (z_gr (c := 12) (j := 12) hX dX12_gets_33 rfl inlX12 wm8_7 ⟨rfl, by decide, rfl⟩ (z_ild hX dX12_gets_36 (z_iald hX dX12_gets_38 (z_iconst hX dX12_gets_39 (by decide) (z_idiv hX dX12_gets_40 (z_ald_n hX dX12_gets_41 rfl (z_gr (c := 12) (j := 12) hX dX12_gets_42 rfl inlX12 wm8_7 ⟨rfl, by decide, rfl⟩ (z_ild hX dX12_gets_45 (z_iald hX dX12_gets_47 (z_iconst hX dX12_gets_48 (by decide) (z_irem hX dX12_gets_49 (z_cv (c := 12) hX hr dX12_gets_50 hjX12_sideAt mwX12_sideAt rfl wm30_15 ⟨wm30_16, wm30_17⟩ ⟨Nat.le_of_ble_eq_true rfl, Nat.le_of_ble_eq_true rfl⟩ (z_ist hX dX12_gets_53 (z_ald_n hX dX12_gets_55 rfl (z_ald_n hX dX12_gets_56 rfl (z_gr (c := 12) (j := 12) hX dX12_gets_57 rfl inlX12 wm8_7 ⟨rfl, by decide, rfl⟩ (z_ild hX dX12_gets_60 (z_iald hX dX12_gets_62 ((tX12_gets_63 hX hr hq)))))))))))))))))))))))))
def kX12_gets_0 (r : pu_R) : pu_K := s_ald 0 (s_ild 1 (s_ild 2 (s_cv r 294 2 12 (s_ald 0 (s_gr 12 15 (s_ast 3 (s_ald 3 (s_push (.int (0)) (s_push (.int (0)) (s_wi 1 (s_ald 3 (s_push (.int (1)) (s_push (.int (0)) (s_wi 1 (s_push (.int (0)) (s_ist 4 ((r 475))))))))))))))))))
theorem vX12_gets_0 : pu_cok2 kX12_gets_0 := fun rf r hr => by
  unfold kX12_gets_0
  exact v_ald (v_ild (v_ild (v_cv hr (v_ald (v_gr (v_ast (v_ald (v_pi (v_pi (v_wi (v_ald (v_pi (v_pi (v_wi (v_pi (v_ist ((hr 475))))))))))))))))))
theorem tX12_gets_0 {X : pu_X} {r : pu_R} (hX : pu_H X mdX12_gets) (hr : pu_P X.2.1 X.2.2.2.2.2.2.2.2.2.2.1 r) (hq : ∀ i pc, pu_lp i = some (296, pc) → pu_S X mdX12_gets pc (r i)) : pu_S X mdX12_gets 0 (kX12_gets_0 r) := by
  unfold kX12_gets_0
  exact z_ald_n hX dX12_gets_0 rfl (z_ild_n hX dX12_gets_1 rfl (z_ild_n hX dX12_gets_2 rfl (z_cv (c := 12) hX hr dX12_gets_3 hjX12_orders mwX12_orders rfl wm38_21 ⟨wm38_22, wm38_23⟩ ⟨Nat.le_of_ble_eq_true rfl, Nat.le_of_ble_eq_true rfl⟩ (z_ald_n hX dX12_gets_6 rfl (z_gr (c := 12) (j := 15) hX dX12_gets_7 rfl inlX12 wm8_10 ⟨rfl, by decide, rfl⟩ (z_ast_n hX dX12_gets_10 rfl (z_ald_n hX dX12_gets_11 rfl (z_iconst hX dX12_gets_12 (by decide) (z_iconst hX dX12_gets_13 (by decide) (z_iast hX dX12_gets_14 (z_ald_n hX dX12_gets_15 rfl (z_iconst hX dX12_gets_16 (by decide) (z_iconst hX dX12_gets_17 (by decide) (z_iast hX dX12_gets_18 (z_iconst hX dX12_gets_19 (by decide) (z_ist hX dX12_gets_20 ((hq 475 22 hl475))))))))))))))))))
def kX12_renumber_299 (r : pu_R) : pu_K := s_ild 4 (s_iret)
theorem vX12_renumber_299 : pu_cok2 kX12_renumber_299 := fun rf r hr => by
  unfold kX12_renumber_299
  exact v_ild (v_iret)
theorem tX12_renumber_299 {X : pu_X} {r : pu_R} (hX : pu_H X mdX12_renumber) (hr : pu_P X.2.1 X.2.2.2.2.2.2.2.2.2.2.1 r) (hq : ∀ i pc, pu_lp i = some (297, pc) → pu_S X mdX12_renumber pc (r i)) : pu_S X mdX12_renumber 299 (kX12_renumber_299 r) := by
  unfold kX12_renumber_299
  exact z_ild hX dX12_renumber_299 (z_iret hX dX12_renumber_301 rfl)
def kX12_renumber_293 (r : pu_R) : pu_K := s_inc 6 (1) ((r 477))
theorem vX12_renumber_293 : pu_cok2 kX12_renumber_293 := fun rf r hr => by
  unfold kX12_renumber_293
  exact v_inc ((hr 477))
theorem tX12_renumber_293 {X : pu_X} {r : pu_R} (hX : pu_H X mdX12_renumber) (hr : pu_P X.2.1 X.2.2.2.2.2.2.2.2.2.2.1 r) (hq : ∀ i pc, pu_lp i = some (297, pc) → pu_S X mdX12_renumber pc (r i)) : pu_S X mdX12_renumber 293 (kX12_renumber_293 r) := by
  unfold kX12_renumber_293
  exact z_inc hX dX12_renumber_293 (by decide) ((z_goto hX dX12_renumber_296 (by decide) (hq 477 199 hl477)))
def kX12_renumber_251 (r : pu_R) : pu_K := s_ald 0 (s_gr 12 0 (s_push (.int (10752)) (s_push (.int (6)) (s_ald 0 (s_ild 7 (s_ild 8 (s_cv r 272 2 12 (s_imul (s_iadd (s_push (.int (5)) (s_iadd (s_ild 5 (s_wi 1 (s_ald 0 (s_ild 7 (s_ild 8 (s_ild 1 (s_ald 0 (s_gr 12 14 (s_ild 6 (s_ai 1 (s_ild 5 (s_cv r 274 5 12 ((kX12_renumber_293 r)))))))))))))))))))))))))
theorem vX12_renumber_251 : pu_cok2 kX12_renumber_251 := fun rf r hr => by
  unfold kX12_renumber_251
  exact v_ald (v_gr (v_pi (v_pi (v_ald (v_ild (v_ild (v_cv hr (v_imul (v_iadd (v_pi (v_iadd (v_ild (v_wi (v_ald (v_ild (v_ild (v_ild (v_ald (v_gr (v_ild (v_ai (v_ild (v_cv hr ((vX12_renumber_293 rf r hr)))))))))))))))))))))))))
theorem tX12_renumber_251 {X : pu_X} {r : pu_R} (hX : pu_H X mdX12_renumber) (hr : pu_P X.2.1 X.2.2.2.2.2.2.2.2.2.2.1 r) (hq : ∀ i pc, pu_lp i = some (297, pc) → pu_S X mdX12_renumber pc (r i)) : pu_S X mdX12_renumber 251 (kX12_renumber_251 r) := by
  unfold kX12_renumber_251
  exact z_ald_n hX dX12_renumber_251 rfl (z_gr (c := 12) (j := 0) hX dX12_renumber_252 rfl inlX12 wm7_16 ⟨rfl, by decide, rfl⟩ (z_sipush hX dX12_renumber_255 (by decide) (z_bipush hX dX12_renumber_258 (by decide) (z_ald_n hX dX12_renumber_260 rfl (z_ild hX dX12_renumber_261 (z_ild hX dX12_renumber_263 (z_cv (c := 12) hX hr dX12_renumber_265 hjX12_openSpan mwX12_openSpan rfl wm31_2 ⟨wm31_3, wm31_4⟩ ⟨Nat.le_of_ble_eq_true rfl, Nat.le_of_ble_eq_true rfl⟩ (z_imul hX dX12_renumber_268 (z_iadd hX dX12_renumber_269 (z_iconst hX dX12_renumber_270 (by decide) (z_iadd hX dX12_renumber_271 (z_ild hX dX12_renumber_272 (z_iast hX dX12_renumber_274 (z_ald_n hX dX12_renumber_275 rfl (z_ild hX dX12_renumber_276 (z_ild hX dX12_renumber_278 (z_ild_n hX dX12_renumber_280 rfl (z_ald_n hX dX12_renumber_281 rfl (z_gr (c := 12) (j := 14) hX dX12_renumber_282 rfl inlX12 wm8_9 ⟨rfl, by decide, rfl⟩ (z_ild hX dX12_renumber_285 (z_iald hX dX12_renumber_287 (z_ild hX dX12_renumber_288 (z_cv (c := 12) hX hr dX12_renumber_290 hjX12_opens mwX12_opens rfl wm32_5 ⟨wm32_6, wm32_7⟩ ⟨Nat.le_of_ble_eq_true rfl, Nat.le_of_ble_eq_true rfl⟩ ((tX12_renumber_293 hX hr hq)))))))))))))))))))))))))
def kX12_renumber_242 (r : pu_R) : pu_K := s_ild 6 (s_ai 1 (s_icne (kX12_renumber_251 r) ((kX12_renumber_293 r))))
theorem vX12_renumber_242 : pu_cok2 kX12_renumber_242 := fun rf r hr => by
  unfold kX12_renumber_242
  exact v_ild (v_ai (v_icne (vX12_renumber_251 rf r hr) ((vX12_renumber_293 rf r hr))))
theorem tX12_renumber_242 {X : pu_X} {r : pu_R} (hX : pu_H X mdX12_renumber) (hr : pu_P X.2.1 X.2.2.2.2.2.2.2.2.2.2.1 r) (hq : ∀ i pc, pu_lp i = some (297, pc) → pu_S X mdX12_renumber pc (r i)) : pu_S X mdX12_renumber 242 (kX12_renumber_242 r) := by
  unfold kX12_renumber_242
  exact z_ild hX dX12_renumber_242 (z_iald hX dX12_renumber_244 (z_icne hX dX12_renumber_245 (by decide) (tX12_renumber_251 hX hr hq) ((z_goto hX dX12_renumber_248 (by decide) (tX12_renumber_293 hX hr hq)))))
def kX12_renumber_199 (r : pu_R) : pu_K := s_ild 6 (s_ald 0 (s_gi 12 13 (s_icge (kX12_renumber_299 r) (s_ald 0 (s_gr 12 12 (s_ild 6 (s_ai 1 (s_push (.int (2)) (s_idiv (s_ist 7 (s_ald 0 (s_gr 12 12 (s_ild 6 (s_ai 1 (s_push (.int (2)) (s_irem (s_ist 8 (s_ald 0 (s_ild 7 (s_ild 8 (s_cv r 273 2 12 (s_ald 0 (s_gr 12 14 ((kX12_renumber_242 r)))))))))))))))))))))))))
theorem vX12_renumber_199 : pu_cok2 kX12_renumber_199 := fun rf r hr => by
  unfold kX12_renumber_199
  exact v_ild (v_ald (v_gi (v_icge (vX12_renumber_299 rf r hr) (v_ald (v_gr (v_ild (v_ai (v_pi (v_idiv (v_ist (v_ald (v_gr (v_ild (v_ai (v_pi (v_irem (v_ist (v_ald (v_ild (v_ild (v_cv hr (v_ald (v_gr ((vX12_renumber_242 rf r hr)))))))))))))))))))))))))
theorem tX12_renumber_199 {X : pu_X} {r : pu_R} (hX : pu_H X mdX12_renumber) (hr : pu_P X.2.1 X.2.2.2.2.2.2.2.2.2.2.1 r) (hq : ∀ i pc, pu_lp i = some (297, pc) → pu_S X mdX12_renumber pc (r i)) : pu_S X mdX12_renumber 199 (kX12_renumber_199 r) := by
  unfold kX12_renumber_199
  exact z_ild hX dX12_renumber_199 (z_ald_n hX dX12_renumber_201 rfl (z_gi (c := 12) (j := 13) hX dX12_renumber_202 rfl inlX12 wm8_8 ⟨rfl, by decide, rfl⟩ (z_icge hX dX12_renumber_205 (by decide) (tX12_renumber_299 hX hr hq) (z_ald_n hX dX12_renumber_208 rfl (z_gr (c := 12) (j := 12) hX dX12_renumber_209 rfl inlX12 wm8_7 ⟨rfl, by decide, rfl⟩ (z_ild hX dX12_renumber_212 (z_iald hX dX12_renumber_214 (z_iconst hX dX12_renumber_215 (by decide) (z_idiv hX dX12_renumber_216 (z_ist hX dX12_renumber_217 (z_ald_n hX dX12_renumber_219 rfl (z_gr (c := 12) (j := 12) hX dX12_renumber_220 rfl inlX12 wm8_7 ⟨rfl, by decide, rfl⟩ (z_ild hX dX12_renumber_223 (z_iald hX dX12_renumber_225 (z_iconst hX dX12_renumber_226 (by decide) (z_irem hX dX12_renumber_227 (z_ist hX dX12_renumber_228 (z_ald_n hX dX12_renumber_230 rfl (z_ild hX dX12_renumber_231 (z_ild hX dX12_renumber_233 (z_cv (c := 12) hX hr dX12_renumber_235 hjX12_wholeAt mwX12_wholeAt rfl wm30_22 ⟨wm30_23, wm31_0⟩ ⟨Nat.le_of_ble_eq_true rfl, Nat.le_of_ble_eq_true rfl⟩ (z_ald_n hX dX12_renumber_238 rfl (z_gr (c := 12) (j := 14) hX dX12_renumber_239 rfl inlX12 wm8_9 ⟨rfl, by decide, rfl⟩ ((tX12_renumber_242 hX hr hq)))))))))))))))))))))))))
def kX12_renumber_185 (r : pu_R) : pu_K := s_ald 0 (s_gr 12 0 (s_push (.int (7528)) (s_ild 1 (s_iadd (s_ild 2 (s_wi 1 (s_push (.int (0)) (s_ist 6 ((r 477))))))))))
theorem vX12_renumber_185 : pu_cok2 kX12_renumber_185 := fun rf r hr => by
  unfold kX12_renumber_185
  exact v_ald (v_gr (v_pi (v_ild (v_iadd (v_ild (v_wi (v_pi (v_ist ((hr 477))))))))))
theorem tX12_renumber_185 {X : pu_X} {r : pu_R} (hX : pu_H X mdX12_renumber) (hr : pu_P X.2.1 X.2.2.2.2.2.2.2.2.2.2.1 r) (hq : ∀ i pc, pu_lp i = some (297, pc) → pu_S X mdX12_renumber pc (r i)) : pu_S X mdX12_renumber 185 (kX12_renumber_185 r) := by
  unfold kX12_renumber_185
  exact z_ald_n hX dX12_renumber_185 rfl (z_gr (c := 12) (j := 0) hX dX12_renumber_186 rfl inlX12 wm7_16 ⟨rfl, by decide, rfl⟩ (z_sipush hX dX12_renumber_189 (by decide) (z_ild_n hX dX12_renumber_192 rfl (z_iadd hX dX12_renumber_193 (z_ild_n hX dX12_renumber_194 rfl (z_iast hX dX12_renumber_195 (z_iconst hX dX12_renumber_196 (by decide) (z_ist hX dX12_renumber_197 ((hq 477 199 hl477))))))))))
def kX12_renumber_147 (r : pu_R) : pu_K := s_ald 0 (s_ild 3 (s_ild 1 (s_push (.int (-1)) (s_push (.int (-1)) (s_push (.int (-1)) (s_cv r 257 5 12 (s_ist 5 (s_ald 0 (s_gr 12 0 (s_push (.int (28752)) (s_push (.int (7)) (s_ild 5 (s_imul (s_iadd (s_push (.int (6)) (s_iadd (s_ald 0 (s_gr 12 0 (s_push (.int (7528)) (s_ild 1 (s_iadd (s_ai 1 (s_wi 1 ((kX12_renumber_185 r)))))))))))))))))))))))))
theorem vX12_renumber_147 : pu_cok2 kX12_renumber_147 := fun rf r hr => by
  unfold kX12_renumber_147
  exact v_ald (v_ild (v_ild (v_pi (v_pi (v_pi (v_cv hr (v_ist (v_ald (v_gr (v_pi (v_pi (v_ild (v_imul (v_iadd (v_pi (v_iadd (v_ald (v_gr (v_pi (v_ild (v_iadd (v_ai (v_wi ((vX12_renumber_185 rf r hr)))))))))))))))))))))))))
theorem tX12_renumber_147 {X : pu_X} {r : pu_R} (hX : pu_H X mdX12_renumber) (hr : pu_P X.2.1 X.2.2.2.2.2.2.2.2.2.2.1 r) (hq : ∀ i pc, pu_lp i = some (297, pc) → pu_S X mdX12_renumber pc (r i)) : pu_S X mdX12_renumber 147 (kX12_renumber_147 r) := by
  unfold kX12_renumber_147
  exact z_ald_n hX dX12_renumber_147 rfl (z_ild_n hX dX12_renumber_148 rfl (z_ild_n hX dX12_renumber_149 rfl (z_iconst hX dX12_renumber_150 (by decide) (z_iconst hX dX12_renumber_151 (by decide) (z_iconst hX dX12_renumber_152 (by decide) (z_cv (c := 12) hX hr dX12_renumber_153 hjX12_paper mwX12_paper rfl wm21_8 ⟨wm21_9, wm21_10⟩ ⟨Nat.le_of_ble_eq_true rfl, Nat.le_of_ble_eq_true rfl⟩ (z_ist hX dX12_renumber_156 (z_ald_n hX dX12_renumber_158 rfl (z_gr (c := 12) (j := 0) hX dX12_renumber_159 rfl inlX12 wm7_16 ⟨rfl, by decide, rfl⟩ (z_sipush hX dX12_renumber_162 (by decide) (z_bipush hX dX12_renumber_165 (by decide) (z_ild hX dX12_renumber_167 (z_imul hX dX12_renumber_169 (z_iadd hX dX12_renumber_170 (z_bipush hX dX12_renumber_171 (by decide) (z_iadd hX dX12_renumber_173 (z_ald_n hX dX12_renumber_174 rfl (z_gr (c := 12) (j := 0) hX dX12_renumber_175 rfl inlX12 wm7_16 ⟨rfl, by decide, rfl⟩ (z_sipush hX dX12_renumber_178 (by decide) (z_ild_n hX dX12_renumber_181 rfl (z_iadd hX dX12_renumber_182 (z_iald hX dX12_renumber_183 (z_iast hX dX12_renumber_184 ((tX12_renumber_185 hX hr hq)))))))))))))))))))))))))
def kX12_renumber_144 (r : pu_R) : pu_K := s_push (.int (-6)) (s_iret)
theorem vX12_renumber_144 : pu_cok2 kX12_renumber_144 := fun rf r hr => by
  unfold kX12_renumber_144
  exact v_pi (v_iret)
theorem tX12_renumber_144 {X : pu_X} {r : pu_R} (hX : pu_H X mdX12_renumber) (hr : pu_P X.2.1 X.2.2.2.2.2.2.2.2.2.2.1 r) (hq : ∀ i pc, pu_lp i = some (297, pc) → pu_S X mdX12_renumber pc (r i)) : pu_S X mdX12_renumber 144 (kX12_renumber_144 r) := by
  unfold kX12_renumber_144
  exact z_bipush hX dX12_renumber_144 (by decide) (z_iret hX dX12_renumber_146 rfl)
def kX12_renumber_116 (r : pu_R) : pu_K := s_ald 0 (s_gr 12 0 (s_push (.int (5)) (s_ai 1 (s_push (.int (200)) (s_iceq (kX12_renumber_144 r) (s_ald 0 (s_gr 12 0 (s_push (.int (6)) (s_ai 1 (s_ild 4 (s_iadd (s_push (.int (3000)) (s_icle (kX12_renumber_147 r) ((kX12_renumber_144 r)))))))))))))))
theorem vX12_renumber_116 : pu_cok2 kX12_renumber_116 := fun rf r hr => by
  unfold kX12_renumber_116
  exact v_ald (v_gr (v_pi (v_ai (v_pi (v_iceq (vX12_renumber_144 rf r hr) (v_ald (v_gr (v_pi (v_ai (v_ild (v_iadd (v_pi (v_icle (vX12_renumber_147 rf r hr) ((vX12_renumber_144 rf r hr)))))))))))))))
theorem tX12_renumber_116 {X : pu_X} {r : pu_R} (hX : pu_H X mdX12_renumber) (hr : pu_P X.2.1 X.2.2.2.2.2.2.2.2.2.2.1 r) (hq : ∀ i pc, pu_lp i = some (297, pc) → pu_S X mdX12_renumber pc (r i)) : pu_S X mdX12_renumber 116 (kX12_renumber_116 r) := by
  unfold kX12_renumber_116
  exact z_ald_n hX dX12_renumber_116 rfl (z_gr (c := 12) (j := 0) hX dX12_renumber_117 rfl inlX12 wm7_16 ⟨rfl, by decide, rfl⟩ (z_iconst hX dX12_renumber_120 (by decide) (z_iald hX dX12_renumber_121 (z_sipush hX dX12_renumber_122 (by decide) (z_iceq hX dX12_renumber_125 (by decide) (tX12_renumber_144 hX hr hq) (z_ald_n hX dX12_renumber_128 rfl (z_gr (c := 12) (j := 0) hX dX12_renumber_129 rfl inlX12 wm7_16 ⟨rfl, by decide, rfl⟩ (z_bipush hX dX12_renumber_132 (by decide) (z_iald hX dX12_renumber_134 (z_ild hX dX12_renumber_135 (z_iadd hX dX12_renumber_137 (z_sipush hX dX12_renumber_138 (by decide) (z_icle hX dX12_renumber_141 (by decide) (tX12_renumber_147 hX hr hq) ((tX12_renumber_144 hX hr hq)))))))))))))))
def kX12_renumber_107 (r : pu_R) : pu_K := s_iadd (s_ist 4 (s_inc 5 (1) ((r 476))))
theorem vX12_renumber_107 : pu_cok2 kX12_renumber_107 := fun rf r hr => by
  unfold kX12_renumber_107
  exact v_iadd (v_ist (v_inc ((hr 476))))
theorem tX12_renumber_107 {X : pu_X} {r : pu_R} (hX : pu_H X mdX12_renumber) (hr : pu_P X.2.1 X.2.2.2.2.2.2.2.2.2.2.1 r) (hq : ∀ i pc, pu_lp i = some (297, pc) → pu_S X mdX12_renumber pc (r i)) : pu_S X mdX12_renumber 107 (kX12_renumber_107 r) := by
  unfold kX12_renumber_107
  exact z_iadd hX dX12_renumber_107 (z_ist hX dX12_renumber_108 (z_inc hX dX12_renumber_110 (by decide) ((z_goto hX dX12_renumber_113 (by decide) (hq 476 59 hl476)))))
def kX12_renumber_106 (r : pu_R) : pu_K := s_push (.int (1)) ((kX12_renumber_107 r))
theorem vX12_renumber_106 : pu_cok2 kX12_renumber_106 := fun rf r hr => by
  unfold kX12_renumber_106
  exact v_pi ((vX12_renumber_107 rf r hr))
theorem tX12_renumber_106 {X : pu_X} {r : pu_R} (hX : pu_H X mdX12_renumber) (hr : pu_P X.2.1 X.2.2.2.2.2.2.2.2.2.2.1 r) (hq : ∀ i pc, pu_lp i = some (297, pc) → pu_S X mdX12_renumber pc (r i)) : pu_S X mdX12_renumber 106 (kX12_renumber_106 r) := by
  unfold kX12_renumber_106
  exact z_iconst hX dX12_renumber_106 (by decide) ((tX12_renumber_107 hX hr hq))
def kX12_renumber_102 (r : pu_R) : pu_K := s_push (.int (0)) ((kX12_renumber_107 r))
theorem vX12_renumber_102 : pu_cok2 kX12_renumber_102 := fun rf r hr => by
  unfold kX12_renumber_102
  exact v_pi ((vX12_renumber_107 rf r hr))
theorem tX12_renumber_102 {X : pu_X} {r : pu_R} (hX : pu_H X mdX12_renumber) (hr : pu_P X.2.1 X.2.2.2.2.2.2.2.2.2.2.1 r) (hq : ∀ i pc, pu_lp i = some (297, pc) → pu_S X mdX12_renumber pc (r i)) : pu_S X mdX12_renumber 102 (kX12_renumber_102 r) := by
  unfold kX12_renumber_102
  exact z_iconst hX dX12_renumber_102 (by decide) ((z_goto hX dX12_renumber_103 (by decide) (tX12_renumber_107 hX hr hq)))
def kX12_renumber_59 (r : pu_R) : pu_K := s_ild 5 (s_ald 0 (s_gi 12 13 (s_icge (kX12_renumber_116 r) (s_ild 4 (s_ald 0 (s_ald 0 (s_gr 12 12 (s_ild 5 (s_ai 1 (s_push (.int (2)) (s_idiv (s_ald 0 (s_gr 12 12 (s_ild 5 (s_ai 1 (s_push (.int (2)) (s_irem (s_cv r 273 2 12 (s_ald 0 (s_gr 12 14 (s_ild 5 (s_ai 1 (s_icne (kX12_renumber_106 r) ((kX12_renumber_102 r)))))))))))))))))))))))))
theorem vX12_renumber_59 : pu_cok2 kX12_renumber_59 := fun rf r hr => by
  unfold kX12_renumber_59
  exact v_ild (v_ald (v_gi (v_icge (vX12_renumber_116 rf r hr) (v_ild (v_ald (v_ald (v_gr (v_ild (v_ai (v_pi (v_idiv (v_ald (v_gr (v_ild (v_ai (v_pi (v_irem (v_cv hr (v_ald (v_gr (v_ild (v_ai (v_icne (vX12_renumber_106 rf r hr) ((vX12_renumber_102 rf r hr)))))))))))))))))))))))))
theorem tX12_renumber_59 {X : pu_X} {r : pu_R} (hX : pu_H X mdX12_renumber) (hr : pu_P X.2.1 X.2.2.2.2.2.2.2.2.2.2.1 r) (hq : ∀ i pc, pu_lp i = some (297, pc) → pu_S X mdX12_renumber pc (r i)) : pu_S X mdX12_renumber 59 (kX12_renumber_59 r) := by
  unfold kX12_renumber_59
  exact z_ild hX dX12_renumber_59 (z_ald_n hX dX12_renumber_61 rfl (z_gi (c := 12) (j := 13) hX dX12_renumber_62 rfl inlX12 wm8_8 ⟨rfl, by decide, rfl⟩ (z_icge hX dX12_renumber_65 (by decide) (tX12_renumber_116 hX hr hq) (z_ild hX dX12_renumber_68 (z_ald_n hX dX12_renumber_70 rfl (z_ald_n hX dX12_renumber_71 rfl (z_gr (c := 12) (j := 12) hX dX12_renumber_72 rfl inlX12 wm8_7 ⟨rfl, by decide, rfl⟩ (z_ild hX dX12_renumber_75 (z_iald hX dX12_renumber_77 (z_iconst hX dX12_renumber_78 (by decide) (z_idiv hX dX12_renumber_79 (z_ald_n hX dX12_renumber_80 rfl (z_gr (c := 12) (j := 12) hX dX12_renumber_81 rfl inlX12 wm8_7 ⟨rfl, by decide, rfl⟩ (z_ild hX dX12_renumber_84 (z_iald hX dX12_renumber_86 (z_iconst hX dX12_renumber_87 (by decide) (z_irem hX dX12_renumber_88 (z_cv (c := 12) hX hr dX12_renumber_89 hjX12_wholeAt mwX12_wholeAt rfl wm30_22 ⟨wm30_23, wm31_0⟩ ⟨Nat.le_of_ble_eq_true rfl, Nat.le_of_ble_eq_true rfl⟩ (z_ald_n hX dX12_renumber_92 rfl (z_gr (c := 12) (j := 14) hX dX12_renumber_93 rfl inlX12 wm8_9 ⟨rfl, by decide, rfl⟩ (z_ild hX dX12_renumber_96 (z_iald hX dX12_renumber_98 (z_icne hX dX12_renumber_99 (by decide) (tX12_renumber_106 hX hr hq) ((tX12_renumber_102 hX hr hq)))))))))))))))))))))))))
def kX12_renumber_53 (r : pu_R) : pu_K := s_push (.int (0)) (s_ist 4 (s_push (.int (0)) (s_ist 5 ((r 476)))))
theorem vX12_renumber_53 : pu_cok2 kX12_renumber_53 := fun rf r hr => by
  unfold kX12_renumber_53
  exact v_pi (v_ist (v_pi (v_ist ((hr 476)))))
theorem tX12_renumber_53 {X : pu_X} {r : pu_R} (hX : pu_H X mdX12_renumber) (hr : pu_P X.2.1 X.2.2.2.2.2.2.2.2.2.2.1 r) (hq : ∀ i pc, pu_lp i = some (297, pc) → pu_S X mdX12_renumber pc (r i)) : pu_S X mdX12_renumber 53 (kX12_renumber_53 r) := by
  unfold kX12_renumber_53
  exact z_iconst hX dX12_renumber_53 (by decide) (z_ist hX dX12_renumber_54 (z_iconst hX dX12_renumber_56 (by decide) (z_ist hX dX12_renumber_57 ((hq 476 59 hl476)))))
def kX12_renumber_41 (r : pu_R) : pu_K := s_ald 0 (s_ild 1 (s_ild 2 (s_cv r 296 2 12 (s_ifne (kX12_renumber_53 r) (s_push (.int (-4)) (s_iret))))))
theorem vX12_renumber_41 : pu_cok2 kX12_renumber_41 := fun rf r hr => by
  unfold kX12_renumber_41
  exact v_ald (v_ild (v_ild (v_cv hr (v_ifne (vX12_renumber_53 rf r hr) (v_pi (v_iret))))))
theorem tX12_renumber_41 {X : pu_X} {r : pu_R} (hX : pu_H X mdX12_renumber) (hr : pu_P X.2.1 X.2.2.2.2.2.2.2.2.2.2.1 r) (hq : ∀ i pc, pu_lp i = some (297, pc) → pu_S X mdX12_renumber pc (r i)) : pu_S X mdX12_renumber 41 (kX12_renumber_41 r) := by
  unfold kX12_renumber_41
  exact z_ald_n hX dX12_renumber_41 rfl (z_ild_n hX dX12_renumber_42 rfl (z_ild_n hX dX12_renumber_43 rfl (z_cv (c := 12) hX hr dX12_renumber_44 hjX12_gets mwX12_gets rfl wm38_17 ⟨wm38_18, wm38_19⟩ ⟨Nat.le_of_ble_eq_true rfl, Nat.le_of_ble_eq_true rfl⟩ (z_ifne hX dX12_renumber_47 (by decide) (tX12_renumber_53 hX hr hq) (z_bipush hX dX12_renumber_50 (by decide) (z_iret hX dX12_renumber_52 rfl))))))
def kX12_renumber_29 (r : pu_R) : pu_K := s_ald 0 (s_ild 1 (s_ild 3 (s_cv r 256 2 12 (s_ifeq (kX12_renumber_41 r) (s_push (.int (-3)) (s_iret))))))
theorem vX12_renumber_29 : pu_cok2 kX12_renumber_29 := fun rf r hr => by
  unfold kX12_renumber_29
  exact v_ald (v_ild (v_ild (v_cv hr (v_ifeq (vX12_renumber_41 rf r hr) (v_pi (v_iret))))))
theorem tX12_renumber_29 {X : pu_X} {r : pu_R} (hX : pu_H X mdX12_renumber) (hr : pu_P X.2.1 X.2.2.2.2.2.2.2.2.2.2.1 r) (hq : ∀ i pc, pu_lp i = some (297, pc) → pu_S X mdX12_renumber pc (r i)) : pu_S X mdX12_renumber 29 (kX12_renumber_29 r) := by
  unfold kX12_renumber_29
  exact z_ald_n hX dX12_renumber_29 rfl (z_ild_n hX dX12_renumber_30 rfl (z_ild_n hX dX12_renumber_31 rfl (z_cv (c := 12) hX hr dX12_renumber_32 hjX12_isEarly mwX12_isEarly rfl wm28_17 ⟨wm28_18, wm28_19⟩ ⟨Nat.le_of_ble_eq_true rfl, Nat.le_of_ble_eq_true rfl⟩ (z_ifeq hX dX12_renumber_35 (by decide) (tX12_renumber_41 hX hr hq) (z_bipush hX dX12_renumber_38 (by decide) (z_iret hX dX12_renumber_40 rfl))))))
def kX12_renumber_26 (r : pu_R) : pu_K := s_push (.int (-2)) (s_iret)
theorem vX12_renumber_26 : pu_cok2 kX12_renumber_26 := fun rf r hr => by
  unfold kX12_renumber_26
  exact v_pi (v_iret)
theorem tX12_renumber_26 {X : pu_X} {r : pu_R} (hX : pu_H X mdX12_renumber) (hr : pu_P X.2.1 X.2.2.2.2.2.2.2.2.2.2.1 r) (hq : ∀ i pc, pu_lp i = some (297, pc) → pu_S X mdX12_renumber pc (r i)) : pu_S X mdX12_renumber 26 (kX12_renumber_26 r) := by
  unfold kX12_renumber_26
  exact z_bipush hX dX12_renumber_26 (by decide) (z_iret hX dX12_renumber_28 rfl)
def kX12_renumber_10 (r : pu_R) : pu_K := s_ild 2 (s_iflt (kX12_renumber_26 r) (s_ild 2 (s_push (.int (3)) (s_icgt (kX12_renumber_26 r) (s_ild 3 (s_cs r 234 1 (s_ifne (kX12_renumber_29 r) ((kX12_renumber_26 r)))))))))
theorem vX12_renumber_10 : pu_cok2 kX12_renumber_10 := fun rf r hr => by
  unfold kX12_renumber_10
  exact v_ild (v_iflt (vX12_renumber_26 rf r hr) (v_ild (v_pi (v_icgt (vX12_renumber_26 rf r hr) (v_ild (v_cs hr (v_ifne (vX12_renumber_29 rf r hr) ((vX12_renumber_26 rf r hr)))))))))
theorem tX12_renumber_10 {X : pu_X} {r : pu_R} (hX : pu_H X mdX12_renumber) (hr : pu_P X.2.1 X.2.2.2.2.2.2.2.2.2.2.1 r) (hq : ∀ i pc, pu_lp i = some (297, pc) → pu_S X mdX12_renumber pc (r i)) : pu_S X mdX12_renumber 10 (kX12_renumber_10 r) := by
  unfold kX12_renumber_10
  exact z_ild_n hX dX12_renumber_10 rfl (z_iflt hX dX12_renumber_11 (by decide) (tX12_renumber_26 hX hr hq) (z_ild_n hX dX12_renumber_14 rfl (z_iconst hX dX12_renumber_15 (by decide) (z_icgt hX dX12_renumber_16 (by decide) (tX12_renumber_26 hX hr hq) (z_ild_n hX dX12_renumber_19 rfl (z_cs hX hr dX12_renumber_20 hjX12_isDay mwX12_isDay wm11_5 wm11_6 ⟨Nat.le_of_ble_eq_true rfl, Nat.le_of_ble_eq_true rfl⟩ (z_ifne hX dX12_renumber_23 (by decide) (tX12_renumber_29 hX hr hq) ((tX12_renumber_26 hX hr hq)))))))))
def kX12_renumber_0 (r : pu_R) : pu_K := s_ald 0 (s_ild 1 (s_cv r 251 1 12 (s_ifne (kX12_renumber_10 r) (s_push (.int (-1)) (s_iret)))))
theorem vX12_renumber_0 : pu_cok2 kX12_renumber_0 := fun rf r hr => by
  unfold kX12_renumber_0
  exact v_ald (v_ild (v_cv hr (v_ifne (vX12_renumber_10 rf r hr) (v_pi (v_iret)))))
theorem tX12_renumber_0 {X : pu_X} {r : pu_R} (hX : pu_H X mdX12_renumber) (hr : pu_P X.2.1 X.2.2.2.2.2.2.2.2.2.2.1 r) (hq : ∀ i pc, pu_lp i = some (297, pc) → pu_S X mdX12_renumber pc (r i)) : pu_S X mdX12_renumber 0 (kX12_renumber_0 r) := by
  unfold kX12_renumber_0
  exact z_ald_n hX dX12_renumber_0 rfl (z_ild_n hX dX12_renumber_1 rfl (z_cv (c := 12) hX hr dX12_renumber_2 hjX12_isStreet mwX12_isStreet rfl wm28_6 ⟨wm28_7, wm28_8⟩ ⟨Nat.le_of_ble_eq_true rfl, Nat.le_of_ble_eq_true rfl⟩ (z_ifne hX dX12_renumber_5 (by decide) (tX12_renumber_10 hX hr hq) (z_iconst hX dX12_renumber_8 (by decide) (z_iret hX dX12_renumber_9 rfl)))))
def kX12_row_116 (r : pu_R) : pu_K := s_ald 0 (s_gi 12 6 (s_push (.int (2)) (s_idiv (s_iret))))
theorem vX12_row_116 : pu_cok2 kX12_row_116 := fun rf r hr => by
  unfold kX12_row_116
  exact v_ald (v_gi (v_pi (v_idiv (v_iret))))
theorem tX12_row_116 {X : pu_X} {r : pu_R} (hX : pu_H X mdX12_row) (hr : pu_P X.2.1 X.2.2.2.2.2.2.2.2.2.2.1 r) (hq : ∀ i pc, pu_lp i = some (298, pc) → pu_S X mdX12_row pc (r i)) : pu_S X mdX12_row 116 (kX12_row_116 r) := by
  unfold kX12_row_116
  exact z_ald_n hX dX12_row_116 rfl (z_gi (c := 12) (j := 6) hX dX12_row_117 rfl inlX12 wm8_1 ⟨rfl, by decide, rfl⟩ (z_iconst hX dX12_row_120 (by decide) (z_idiv hX dX12_row_121 (z_iret hX dX12_row_122 rfl))))
def kX12_row_103 (r : pu_R) : pu_K := s_push (.int (1)) (s_iadd (s_cv r 241 1 12 (s_iadd (s_wi 1 (s_inc 4 (1) ((r 478)))))))
theorem vX12_row_103 : pu_cok2 kX12_row_103 := fun rf r hr => by
  unfold kX12_row_103
  exact v_pi (v_iadd (v_cv hr (v_iadd (v_wi (v_inc ((hr 478)))))))
theorem tX12_row_103 {X : pu_X} {r : pu_R} (hX : pu_H X mdX12_row) (hr : pu_P X.2.1 X.2.2.2.2.2.2.2.2.2.2.1 r) (hq : ∀ i pc, pu_lp i = some (298, pc) → pu_S X mdX12_row pc (r i)) : pu_S X mdX12_row 103 (kX12_row_103 r) := by
  unfold kX12_row_103
  exact z_iconst hX dX12_row_103 (by decide) (z_iadd hX dX12_row_104 (z_cv (c := 12) hX hr dX12_row_105 hjX12_here mwX12_here rfl wm15_8 ⟨wm15_9, wm15_10⟩ ⟨Nat.le_of_ble_eq_true rfl, Nat.le_of_ble_eq_true rfl⟩ (z_iadd hX dX12_row_108 (z_iast hX dX12_row_109 (z_inc hX dX12_row_110 (by decide) ((z_goto hX dX12_row_113 (by decide) (hq 478 65 hl478))))))))
def kX12_row_65 (r : pu_R) : pu_K := s_ild 4 (s_ald 0 (s_gi 12 6 (s_push (.int (2)) (s_idiv (s_icge (kX12_row_116 r) (s_ald 0 (s_gr 12 0 (s_ild 3 (s_push (.int (1)) (s_iadd (s_ild 4 (s_iadd (s_ald 0 (s_push (.int (2)) (s_ild 4 (s_imul (s_cv r 241 1 12 (s_push (.int (256)) (s_imul (s_ald 0 (s_push (.int (2)) (s_ild 4 (s_imul ((kX12_row_103 r)))))))))))))))))))))))))
theorem vX12_row_65 : pu_cok2 kX12_row_65 := fun rf r hr => by
  unfold kX12_row_65
  exact v_ild (v_ald (v_gi (v_pi (v_idiv (v_icge (vX12_row_116 rf r hr) (v_ald (v_gr (v_ild (v_pi (v_iadd (v_ild (v_iadd (v_ald (v_pi (v_ild (v_imul (v_cv hr (v_pi (v_imul (v_ald (v_pi (v_ild (v_imul ((vX12_row_103 rf r hr)))))))))))))))))))))))))
theorem tX12_row_65 {X : pu_X} {r : pu_R} (hX : pu_H X mdX12_row) (hr : pu_P X.2.1 X.2.2.2.2.2.2.2.2.2.2.1 r) (hq : ∀ i pc, pu_lp i = some (298, pc) → pu_S X mdX12_row pc (r i)) : pu_S X mdX12_row 65 (kX12_row_65 r) := by
  unfold kX12_row_65
  exact z_ild hX dX12_row_65 (z_ald_n hX dX12_row_67 rfl (z_gi (c := 12) (j := 6) hX dX12_row_68 rfl inlX12 wm8_1 ⟨rfl, by decide, rfl⟩ (z_iconst hX dX12_row_71 (by decide) (z_idiv hX dX12_row_72 (z_icge hX dX12_row_73 (by decide) (tX12_row_116 hX hr hq) (z_ald_n hX dX12_row_76 rfl (z_gr (c := 12) (j := 0) hX dX12_row_77 rfl inlX12 wm7_16 ⟨rfl, by decide, rfl⟩ (z_ild_n hX dX12_row_80 rfl (z_iconst hX dX12_row_81 (by decide) (z_iadd hX dX12_row_82 (z_ild hX dX12_row_83 (z_iadd hX dX12_row_85 (z_ald_n hX dX12_row_86 rfl (z_iconst hX dX12_row_87 (by decide) (z_ild hX dX12_row_88 (z_imul hX dX12_row_90 (z_cv (c := 12) hX hr dX12_row_91 hjX12_here mwX12_here rfl wm15_8 ⟨wm15_9, wm15_10⟩ ⟨Nat.le_of_ble_eq_true rfl, Nat.le_of_ble_eq_true rfl⟩ (z_sipush hX dX12_row_94 (by decide) (z_imul hX dX12_row_97 (z_ald_n hX dX12_row_98 rfl (z_iconst hX dX12_row_99 (by decide) (z_ild hX dX12_row_100 (z_imul hX dX12_row_102 ((tX12_row_103 hX hr hq)))))))))))))))))))))))))
def kX12_row_36 (r : pu_R) : pu_K := s_push (.int (30632)) (s_push (.int (601)) (s_push (.int (2)) (s_ild 1 (s_imul (s_ild 2 (s_iadd (s_imul (s_iadd (s_ist 3 (s_ald 0 (s_gr 12 0 (s_ild 3 (s_ald 0 (s_gi 12 6 (s_push (.int (2)) (s_idiv (s_wi 1 (s_push (.int (0)) (s_ist 4 ((r 478)))))))))))))))))))))
theorem vX12_row_36 : pu_cok2 kX12_row_36 := fun rf r hr => by
  unfold kX12_row_36
  exact v_pi (v_pi (v_pi (v_ild (v_imul (v_ild (v_iadd (v_imul (v_iadd (v_ist (v_ald (v_gr (v_ild (v_ald (v_gi (v_pi (v_idiv (v_wi (v_pi (v_ist ((hr 478)))))))))))))))))))))
theorem tX12_row_36 {X : pu_X} {r : pu_R} (hX : pu_H X mdX12_row) (hr : pu_P X.2.1 X.2.2.2.2.2.2.2.2.2.2.1 r) (hq : ∀ i pc, pu_lp i = some (298, pc) → pu_S X mdX12_row pc (r i)) : pu_S X mdX12_row 36 (kX12_row_36 r) := by
  unfold kX12_row_36
  exact z_sipush hX dX12_row_36 (by decide) (z_sipush hX dX12_row_39 (by decide) (z_iconst hX dX12_row_42 (by decide) (z_ild_n hX dX12_row_43 rfl (z_imul hX dX12_row_44 (z_ild_n hX dX12_row_45 rfl (z_iadd hX dX12_row_46 (z_imul hX dX12_row_47 (z_iadd hX dX12_row_48 (z_ist_n hX dX12_row_49 rfl (z_ald_n hX dX12_row_50 rfl (z_gr (c := 12) (j := 0) hX dX12_row_51 rfl inlX12 wm7_16 ⟨rfl, by decide, rfl⟩ (z_ild_n hX dX12_row_54 rfl (z_ald_n hX dX12_row_55 rfl (z_gi (c := 12) (j := 6) hX dX12_row_56 rfl inlX12 wm8_1 ⟨rfl, by decide, rfl⟩ (z_iconst hX dX12_row_59 (by decide) (z_idiv hX dX12_row_60 (z_iast hX dX12_row_61 (z_iconst hX dX12_row_62 (by decide) (z_ist hX dX12_row_63 ((hq 478 65 hl478)))))))))))))))))))))
def kX12_row_33 (r : pu_R) : pu_K := s_push (.int (-2)) (s_iret)
theorem vX12_row_33 : pu_cok2 kX12_row_33 := fun rf r hr => by
  unfold kX12_row_33
  exact v_pi (v_iret)
theorem tX12_row_33 {X : pu_X} {r : pu_R} (hX : pu_H X mdX12_row) (hr : pu_P X.2.1 X.2.2.2.2.2.2.2.2.2.2.1 r) (hq : ∀ i pc, pu_lp i = some (298, pc) → pu_S X mdX12_row pc (r i)) : pu_S X mdX12_row 33 (kX12_row_33 r) := by
  unfold kX12_row_33
  exact z_bipush hX dX12_row_33 (by decide) (z_iret hX dX12_row_35 rfl)
def kX12_row_14 (r : pu_R) : pu_K := s_ild 2 (s_iflt (kX12_row_33 r) (s_ild 2 (s_push (.int (1)) (s_icgt (kX12_row_33 r) (s_ald 0 (s_gi 12 6 (s_push (.int (2)) (s_irem (s_push (.int (1)) (s_icne (kX12_row_36 r) ((kX12_row_33 r))))))))))))
theorem vX12_row_14 : pu_cok2 kX12_row_14 := fun rf r hr => by
  unfold kX12_row_14
  exact v_ild (v_iflt (vX12_row_33 rf r hr) (v_ild (v_pi (v_icgt (vX12_row_33 rf r hr) (v_ald (v_gi (v_pi (v_irem (v_pi (v_icne (vX12_row_36 rf r hr) ((vX12_row_33 rf r hr))))))))))))
theorem tX12_row_14 {X : pu_X} {r : pu_R} (hX : pu_H X mdX12_row) (hr : pu_P X.2.1 X.2.2.2.2.2.2.2.2.2.2.1 r) (hq : ∀ i pc, pu_lp i = some (298, pc) → pu_S X mdX12_row pc (r i)) : pu_S X mdX12_row 14 (kX12_row_14 r) := by
  unfold kX12_row_14
  exact z_ild_n hX dX12_row_14 rfl (z_iflt hX dX12_row_15 (by decide) (tX12_row_33 hX hr hq) (z_ild_n hX dX12_row_18 rfl (z_iconst hX dX12_row_19 (by decide) (z_icgt hX dX12_row_20 (by decide) (tX12_row_33 hX hr hq) (z_ald_n hX dX12_row_23 rfl (z_gi (c := 12) (j := 6) hX dX12_row_24 rfl inlX12 wm8_1 ⟨rfl, by decide, rfl⟩ (z_iconst hX dX12_row_27 (by decide) (z_irem hX dX12_row_28 (z_iconst hX dX12_row_29 (by decide) (z_icne hX dX12_row_30 (by decide) (tX12_row_36 hX hr hq) ((tX12_row_33 hX hr hq))))))))))))
def kX12_row_0 (r : pu_R) : pu_K := s_ald 0 (s_cv r 233 0 12 (s_ald 0 (s_ild 1 (s_cv r 251 1 12 (s_ifne (kX12_row_14 r) (s_push (.int (-1)) (s_iret)))))))
theorem vX12_row_0 : pu_cok2 kX12_row_0 := fun rf r hr => by
  unfold kX12_row_0
  exact v_ald (v_cv hr (v_ald (v_ild (v_cv hr (v_ifne (vX12_row_14 rf r hr) (v_pi (v_iret)))))))
theorem tX12_row_0 {X : pu_X} {r : pu_R} (hX : pu_H X mdX12_row) (hr : pu_P X.2.1 X.2.2.2.2.2.2.2.2.2.2.1 r) (hq : ∀ i pc, pu_lp i = some (298, pc) → pu_S X mdX12_row pc (r i)) : pu_S X mdX12_row 0 (kX12_row_0 r) := by
  unfold kX12_row_0
  exact z_ald_n hX dX12_row_0 rfl (z_cv (c := 12) hX hr dX12_row_1 hjX12_takes mwX12_takes rfl wm15_0 ⟨wm15_1, wm15_2⟩ ⟨Nat.le_of_ble_eq_true rfl, Nat.le_of_ble_eq_true rfl⟩ (z_ald_n hX dX12_row_4 rfl (z_ild_n hX dX12_row_5 rfl (z_cv (c := 12) hX hr dX12_row_6 hjX12_isStreet mwX12_isStreet rfl wm28_6 ⟨wm28_7, wm28_8⟩ ⟨Nat.le_of_ble_eq_true rfl, Nat.le_of_ble_eq_true rfl⟩ (z_ifne hX dX12_row_9 (by decide) (tX12_row_14 hX hr hq) (z_iconst hX dX12_row_12 (by decide) (z_iret hX dX12_row_13 rfl)))))))
