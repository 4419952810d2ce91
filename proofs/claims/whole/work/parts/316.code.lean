def kX12_isIn_63 (r : pu_R) : pu_K := s_zret
theorem vX12_isIn_63 : pu_cok2 kX12_isIn_63 := fun rf r hr => by
  unfold kX12_isIn_63
  exact v_zret
theorem tX12_isIn_63 {X : pu_X} {r : pu_R} (hX : pu_H X mdX12_isIn) (hr : pu_P X.2.1 X.2.2.2.2.2.2.2.2.2.2.1 r) (hq : ∀ i pc, pu_lp i = some (342, pc) → pu_S X mdX12_isIn pc (r i)) : pu_S X mdX12_isIn 63 (kX12_isIn_63 r) := by
  unfold kX12_isIn_63
  exact z_zret hX dX12_isIn_63 rfl
def kX12_isIn_62 (r : pu_R) : pu_K := s_push (.int (0)) ((kX12_isIn_63 r))
theorem vX12_isIn_62 : pu_cok2 kX12_isIn_62 := fun rf r hr => by
  unfold kX12_isIn_62
  exact v_pi ((vX12_isIn_63 rf r hr))
theorem tX12_isIn_62 {X : pu_X} {r : pu_R} (hX : pu_H X mdX12_isIn) (hr : pu_P X.2.1 X.2.2.2.2.2.2.2.2.2.2.1 r) (hq : ∀ i pc, pu_lp i = some (342, pc) → pu_S X mdX12_isIn pc (r i)) : pu_S X mdX12_isIn 62 (kX12_isIn_62 r) := by
  unfold kX12_isIn_62
  exact z_iconst hX dX12_isIn_62 (by decide) ((tX12_isIn_63 hX hr hq))
def kX12_isIn_22 (r : pu_R) : pu_K := s_ald 0 (s_ild 1 (s_ild 2 (s_ild 4 (s_cv r 332 3 12 (s_ist 5 (s_ild 5 (s_push (.int (-1)) (s_iceq (kX12_isIn_62 r) (s_ald 0 (s_gr 12 0 (s_push (.int (10752)) (s_push (.int (6)) (s_ild 5 (s_imul (s_iadd (s_push (.int (2)) (s_iadd (s_ai 1 (s_ild 3 (s_icne (kX12_isIn_62 r) (s_push (.int (1)) ((kX12_isIn_63 r)))))))))))))))))))))))
theorem vX12_isIn_22 : pu_cok2 kX12_isIn_22 := fun rf r hr => by
  unfold kX12_isIn_22
  exact v_ald (v_ild (v_ild (v_ild (v_cv hr (v_ist (v_ild (v_pi (v_iceq (vX12_isIn_62 rf r hr) (v_ald (v_gr (v_pi (v_pi (v_ild (v_imul (v_iadd (v_pi (v_iadd (v_ai (v_ild (v_icne (vX12_isIn_62 rf r hr) (v_pi ((vX12_isIn_63 rf r hr)))))))))))))))))))))))
theorem tX12_isIn_22 {X : pu_X} {r : pu_R} (hX : pu_H X mdX12_isIn) (hr : pu_P X.2.1 X.2.2.2.2.2.2.2.2.2.2.1 r) (hq : ∀ i pc, pu_lp i = some (342, pc) → pu_S X mdX12_isIn pc (r i)) : pu_S X mdX12_isIn 22 (kX12_isIn_22 r) := by
  unfold kX12_isIn_22
  exact z_ald_n hX dX12_isIn_22 rfl (z_ild_n hX dX12_isIn_23 rfl (z_ild_n hX dX12_isIn_24 rfl (z_ild hX dX12_isIn_25 (z_cv (c := 12) hX hr dX12_isIn_27 hjX12_spanOn mwX12_spanOn rfl wm49_3 ⟨wm49_4, wm49_5⟩ ⟨Nat.le_of_ble_eq_true rfl, Nat.le_of_ble_eq_true rfl⟩ (z_ist hX dX12_isIn_30 (z_ild hX dX12_isIn_32 (z_iconst hX dX12_isIn_34 (by decide) (z_iceq hX dX12_isIn_35 (by decide) (tX12_isIn_62 hX hr hq) (z_ald_n hX dX12_isIn_38 rfl (z_gr (c := 12) (j := 0) hX dX12_isIn_39 rfl inlX12 wm7_16 ⟨rfl, by decide, rfl⟩ (z_sipush hX dX12_isIn_42 (by decide) (z_bipush hX dX12_isIn_45 (by decide) (z_ild hX dX12_isIn_47 (z_imul hX dX12_isIn_49 (z_iadd hX dX12_isIn_50 (z_iconst hX dX12_isIn_51 (by decide) (z_iadd hX dX12_isIn_52 (z_iald hX dX12_isIn_53 (z_ild_n hX dX12_isIn_54 rfl (z_icne hX dX12_isIn_55 (by decide) (tX12_isIn_62 hX hr hq) (z_iconst hX dX12_isIn_58 (by decide) ((z_goto hX dX12_isIn_59 (by decide) (tX12_isIn_63 hX hr hq))))))))))))))))))))))))
def kX12_isIn_20 (r : pu_R) : pu_K := s_push (.int (0)) (s_zret)
theorem vX12_isIn_20 : pu_cok2 kX12_isIn_20 := fun rf r hr => by
  unfold kX12_isIn_20
  exact v_pi (v_zret)
theorem tX12_isIn_20 {X : pu_X} {r : pu_R} (hX : pu_H X mdX12_isIn) (hr : pu_P X.2.1 X.2.2.2.2.2.2.2.2.2.2.1 r) (hq : ∀ i pc, pu_lp i = some (342, pc) → pu_S X mdX12_isIn pc (r i)) : pu_S X mdX12_isIn 20 (kX12_isIn_20 r) := by
  unfold kX12_isIn_20
  exact z_iconst hX dX12_isIn_20 (by decide) (z_zret hX dX12_isIn_21 rfl)
def kX12_isIn_0 (r : pu_R) : pu_K := s_ald 0 (s_ild 1 (s_push (.int (0)) (s_cv r 265 2 12 (s_push (.int (1)) (s_icgt (kX12_isIn_20 r) (s_ald 0 (s_ild 1 (s_ild 4 (s_cv r 315 2 12 (s_ifne (kX12_isIn_22 r) ((kX12_isIn_20 r))))))))))))
theorem vX12_isIn_0 : pu_cok2 kX12_isIn_0 := fun rf r hr => by
  unfold kX12_isIn_0
  exact v_ald (v_ild (v_pi (v_cv hr (v_pi (v_icgt (vX12_isIn_20 rf r hr) (v_ald (v_ild (v_ild (v_cv hr (v_ifne (vX12_isIn_22 rf r hr) ((vX12_isIn_20 rf r hr))))))))))))
theorem tX12_isIn_0 {X : pu_X} {r : pu_R} (hX : pu_H X mdX12_isIn) (hr : pu_P X.2.1 X.2.2.2.2.2.2.2.2.2.2.1 r) (hq : ∀ i pc, pu_lp i = some (342, pc) → pu_S X mdX12_isIn pc (r i)) : pu_S X mdX12_isIn 0 (kX12_isIn_0 r) := by
  unfold kX12_isIn_0
  exact z_ald_n hX dX12_isIn_0 rfl (z_ild_n hX dX12_isIn_1 rfl (z_iconst hX dX12_isIn_2 (by decide) (z_cv (c := 12) hX hr dX12_isIn_3 hjX12_of mwX12_of rfl wm30_3 ⟨wm30_4, wm30_5⟩ ⟨Nat.le_of_ble_eq_true rfl, Nat.le_of_ble_eq_true rfl⟩ (z_iconst hX dX12_isIn_6 (by decide) (z_icgt hX dX12_isIn_7 (by decide) (tX12_isIn_20 hX hr hq) (z_ald_n hX dX12_isIn_10 rfl (z_ild_n hX dX12_isIn_11 rfl (z_ild hX dX12_isIn_12 (z_cv (c := 12) hX hr dX12_isIn_14 hjX12_standsOn mwX12_standsOn rfl wm47_18 ⟨wm47_19, wm47_20⟩ ⟨Nat.le_of_ble_eq_true rfl, Nat.le_of_ble_eq_true rfl⟩ (z_ifne hX dX12_isIn_17 (by decide) (tX12_isIn_22 hX hr hq) ((tX12_isIn_20 hX hr hq))))))))))))
def kX12_near_166 (r : pu_R) : pu_K := s_ild 5 (s_iret)
theorem vX12_near_166 : pu_cok2 kX12_near_166 := fun rf r hr => by
  unfold kX12_near_166
  exact v_ild (v_iret)
theorem tX12_near_166 {X : pu_X} {r : pu_R} (hX : pu_H X mdX12_near) (hr : pu_P X.2.1 X.2.2.2.2.2.2.2.2.2.2.1 r) (hq : ∀ i pc, pu_lp i = some (343, pc) → pu_S X mdX12_near pc (r i)) : pu_S X mdX12_near 166 (kX12_near_166 r) := by
  unfold kX12_near_166
  exact z_ild hX dX12_near_166 (z_iret hX dX12_near_168 rfl)
def kX12_near_160 (r : pu_R) : pu_K := s_inc 7 (1) ((r 519))
theorem vX12_near_160 : pu_cok2 kX12_near_160 := fun rf r hr => by
  unfold kX12_near_160
  exact v_inc ((hr 519))
theorem tX12_near_160 {X : pu_X} {r : pu_R} (hX : pu_H X mdX12_near) (hr : pu_P X.2.1 X.2.2.2.2.2.2.2.2.2.2.1 r) (hq : ∀ i pc, pu_lp i = some (343, pc) → pu_S X mdX12_near pc (r i)) : pu_S X mdX12_near 160 (kX12_near_160 r) := by
  unfold kX12_near_160
  exact z_inc hX dX12_near_160 (by decide) ((z_goto hX dX12_near_163 (by decide) (hq 519 35 hl519)))
def kX12_near_154 (r : pu_R) : pu_K := s_inc 8 (1) ((r 520))
theorem vX12_near_154 : pu_cok2 kX12_near_154 := fun rf r hr => by
  unfold kX12_near_154
  exact v_inc ((hr 520))
theorem tX12_near_154 {X : pu_X} {r : pu_R} (hX : pu_H X mdX12_near) (hr : pu_P X.2.1 X.2.2.2.2.2.2.2.2.2.2.1 r) (hq : ∀ i pc, pu_lp i = some (343, pc) → pu_S X mdX12_near pc (r i)) : pu_S X mdX12_near 154 (kX12_near_154 r) := by
  unfold kX12_near_154
  exact z_inc hX dX12_near_154 (by decide) ((z_goto hX dX12_near_157 (by decide) (hq 520 49 hl520)))
def kX12_near_146 (r : pu_R) : pu_K := s_ild 7 (s_ist 5 (s_ild 10 (s_ist 6 ((kX12_near_154 r)))))
theorem vX12_near_146 : pu_cok2 kX12_near_146 := fun rf r hr => by
  unfold kX12_near_146
  exact v_ild (v_ist (v_ild (v_ist ((vX12_near_154 rf r hr)))))
theorem tX12_near_146 {X : pu_X} {r : pu_R} (hX : pu_H X mdX12_near) (hr : pu_P X.2.1 X.2.2.2.2.2.2.2.2.2.2.1 r) (hq : ∀ i pc, pu_lp i = some (343, pc) → pu_S X mdX12_near pc (r i)) : pu_S X mdX12_near 146 (kX12_near_146 r) := by
  unfold kX12_near_146
  exact z_ild hX dX12_near_146 (z_ist hX dX12_near_148 (z_ild hX dX12_near_150 (z_ist hX dX12_near_152 ((tX12_near_154 hX hr hq)))))
def kX12_near_127 (r : pu_R) : pu_K := s_iadd (s_ist 10 (s_ild 5 (s_push (.int (-1)) (s_iceq (kX12_near_146 r) (s_ild 10 (s_ild 6 (s_iclt (kX12_near_146 r) ((kX12_near_154 r)))))))))
theorem vX12_near_127 : pu_cok2 kX12_near_127 := fun rf r hr => by
  unfold kX12_near_127
  exact v_iadd (v_ist (v_ild (v_pi (v_iceq (vX12_near_146 rf r hr) (v_ild (v_ild (v_iclt (vX12_near_146 rf r hr) ((vX12_near_154 rf r hr)))))))))
theorem tX12_near_127 {X : pu_X} {r : pu_R} (hX : pu_H X mdX12_near) (hr : pu_P X.2.1 X.2.2.2.2.2.2.2.2.2.2.1 r) (hq : ∀ i pc, pu_lp i = some (343, pc) → pu_S X mdX12_near pc (r i)) : pu_S X mdX12_near 127 (kX12_near_127 r) := by
  unfold kX12_near_127
  exact z_iadd hX dX12_near_127 (z_ist hX dX12_near_128 (z_ild hX dX12_near_130 (z_iconst hX dX12_near_132 (by decide) (z_iceq hX dX12_near_133 (by decide) (tX12_near_146 hX hr hq) (z_ild hX dX12_near_136 (z_ild hX dX12_near_138 (z_iclt hX dX12_near_140 (by decide) (tX12_near_146 hX hr hq) ((z_goto hX dX12_near_143 (by decide) (tX12_near_154 hX hr hq))))))))))
def kX12_near_126 (r : pu_R) : pu_K := s_push (.int (1)) ((kX12_near_127 r))
theorem vX12_near_126 : pu_cok2 kX12_near_126 := fun rf r hr => by
  unfold kX12_near_126
  exact v_pi ((vX12_near_127 rf r hr))
theorem tX12_near_126 {X : pu_X} {r : pu_R} (hX : pu_H X mdX12_near) (hr : pu_P X.2.1 X.2.2.2.2.2.2.2.2.2.2.1 r) (hq : ∀ i pc, pu_lp i = some (343, pc) → pu_S X mdX12_near pc (r i)) : pu_S X mdX12_near 126 (kX12_near_126 r) := by
  unfold kX12_near_126
  exact z_iconst hX dX12_near_126 (by decide) ((tX12_near_127 hX hr hq))
def kX12_near_116 (r : pu_R) : pu_K := s_iadd (s_ild 9 (s_ifge (kX12_near_126 r) (s_push (.int (0)) ((kX12_near_127 r)))))
theorem vX12_near_116 : pu_cok2 kX12_near_116 := fun rf r hr => by
  unfold kX12_near_116
  exact v_iadd (v_ild (v_ifge (vX12_near_126 rf r hr) (v_pi ((vX12_near_127 rf r hr)))))
theorem tX12_near_116 {X : pu_X} {r : pu_R} (hX : pu_H X mdX12_near) (hr : pu_P X.2.1 X.2.2.2.2.2.2.2.2.2.2.1 r) (hq : ∀ i pc, pu_lp i = some (343, pc) → pu_S X mdX12_near pc (r i)) : pu_S X mdX12_near 116 (kX12_near_116 r) := by
  unfold kX12_near_116
  exact z_iadd hX dX12_near_116 (z_ild hX dX12_near_117 (z_ifge hX dX12_near_119 (by decide) (tX12_near_126 hX hr hq) (z_iconst hX dX12_near_122 (by decide) ((z_goto hX dX12_near_123 (by decide) (tX12_near_127 hX hr hq))))))
def kX12_near_115 (r : pu_R) : pu_K := s_push (.int (2)) ((kX12_near_116 r))
theorem vX12_near_115 : pu_cok2 kX12_near_115 := fun rf r hr => by
  unfold kX12_near_115
  exact v_pi ((vX12_near_116 rf r hr))
theorem tX12_near_115 {X : pu_X} {r : pu_R} (hX : pu_H X mdX12_near) (hr : pu_P X.2.1 X.2.2.2.2.2.2.2.2.2.2.1 r) (hq : ∀ i pc, pu_lp i = some (343, pc) → pu_S X mdX12_near pc (r i)) : pu_S X mdX12_near 115 (kX12_near_115 r) := by
  unfold kX12_near_115
  exact z_iconst hX dX12_near_115 (by decide) ((tX12_near_116 hX hr hq))
def kX12_near_98 (r : pu_R) : pu_K := s_imul (s_ald 0 (s_ild 7 (s_ild 8 (s_cv r 269 2 12 (s_ild 2 (s_icne (kX12_near_115 r) (s_push (.int (0)) ((kX12_near_116 r)))))))))
theorem vX12_near_98 : pu_cok2 kX12_near_98 := fun rf r hr => by
  unfold kX12_near_98
  exact v_imul (v_ald (v_ild (v_ild (v_cv hr (v_ild (v_icne (vX12_near_115 rf r hr) (v_pi ((vX12_near_116 rf r hr)))))))))
theorem tX12_near_98 {X : pu_X} {r : pu_R} (hX : pu_H X mdX12_near) (hr : pu_P X.2.1 X.2.2.2.2.2.2.2.2.2.2.1 r) (hq : ∀ i pc, pu_lp i = some (343, pc) → pu_S X mdX12_near pc (r i)) : pu_S X mdX12_near 98 (kX12_near_98 r) := by
  unfold kX12_near_98
  exact z_imul hX dX12_near_98 (z_ald_n hX dX12_near_99 rfl (z_ild hX dX12_near_100 (z_ild hX dX12_near_102 (z_cv (c := 12) hX hr dX12_near_104 hjX12_sideAt mwX12_sideAt rfl wm30_15 ⟨wm30_16, wm30_17⟩ ⟨Nat.le_of_ble_eq_true rfl, Nat.le_of_ble_eq_true rfl⟩ (z_ild_n hX dX12_near_107 rfl (z_icne hX dX12_near_108 (by decide) (tX12_near_115 hX hr hq) (z_iconst hX dX12_near_111 (by decide) ((z_goto hX dX12_near_112 (by decide) (tX12_near_116 hX hr hq))))))))))
def kX12_near_96 (r : pu_R) : pu_K := s_ild 9 ((kX12_near_98 r))
theorem vX12_near_96 : pu_cok2 kX12_near_96 := fun rf r hr => by
  unfold kX12_near_96
  exact v_ild ((vX12_near_98 rf r hr))
theorem tX12_near_96 {X : pu_X} {r : pu_R} (hX : pu_H X mdX12_near) (hr : pu_P X.2.1 X.2.2.2.2.2.2.2.2.2.2.1 r) (hq : ∀ i pc, pu_lp i = some (343, pc) → pu_S X mdX12_near pc (r i)) : pu_S X mdX12_near 96 (kX12_near_96 r) := by
  unfold kX12_near_96
  exact z_ild hX dX12_near_96 ((tX12_near_98 hX hr hq))
def kX12_near_72 (r : pu_R) : pu_K := s_ald 0 (s_ild 7 (s_ild 8 (s_cv r 270 2 12 (s_ild 3 (s_isub (s_ist 9 (s_push (.int (4)) (s_ild 9 (s_ifge (kX12_near_96 r) (s_ild 9 (s_ineg ((kX12_near_98 r)))))))))))))
theorem vX12_near_72 : pu_cok2 kX12_near_72 := fun rf r hr => by
  unfold kX12_near_72
  exact v_ald (v_ild (v_ild (v_cv hr (v_ild (v_isub (v_ist (v_pi (v_ild (v_ifge (vX12_near_96 rf r hr) (v_ild (v_ineg ((vX12_near_98 rf r hr)))))))))))))
theorem tX12_near_72 {X : pu_X} {r : pu_R} (hX : pu_H X mdX12_near) (hr : pu_P X.2.1 X.2.2.2.2.2.2.2.2.2.2.1 r) (hq : ∀ i pc, pu_lp i = some (343, pc) → pu_S X mdX12_near pc (r i)) : pu_S X mdX12_near 72 (kX12_near_72 r) := by
  unfold kX12_near_72
  exact z_ald_n hX dX12_near_72 rfl (z_ild hX dX12_near_73 (z_ild hX dX12_near_75 (z_cv (c := 12) hX hr dX12_near_77 hjX12_pacesAt mwX12_pacesAt rfl wm31_6 ⟨wm31_7, wm31_8⟩ ⟨Nat.le_of_ble_eq_true rfl, Nat.le_of_ble_eq_true rfl⟩ (z_ild_n hX dX12_near_80 rfl (z_isub hX dX12_near_81 (z_ist hX dX12_near_82 (z_iconst hX dX12_near_84 (by decide) (z_ild hX dX12_near_85 (z_ifge hX dX12_near_87 (by decide) (tX12_near_96 hX hr hq) (z_ild hX dX12_near_90 (z_ineg hX dX12_near_92 ((z_goto hX dX12_near_93 (by decide) (tX12_near_98 hX hr hq))))))))))))))
def kX12_near_49 (r : pu_R) : pu_K := s_ild 8 (s_push (.int (2)) (s_icge (kX12_near_160 r) (s_ald 0 (s_ild 7 (s_ild 8 (s_ild 1 (s_ild 4 (s_cv r 342 4 12 (s_ifne (kX12_near_72 r) ((kX12_near_154 r)))))))))))
theorem vX12_near_49 : pu_cok2 kX12_near_49 := fun rf r hr => by
  unfold kX12_near_49
  exact v_ild (v_pi (v_icge (vX12_near_160 rf r hr) (v_ald (v_ild (v_ild (v_ild (v_ild (v_cv hr (v_ifne (vX12_near_72 rf r hr) ((vX12_near_154 rf r hr)))))))))))
theorem tX12_near_49 {X : pu_X} {r : pu_R} (hX : pu_H X mdX12_near) (hr : pu_P X.2.1 X.2.2.2.2.2.2.2.2.2.2.1 r) (hq : ∀ i pc, pu_lp i = some (343, pc) → pu_S X mdX12_near pc (r i)) : pu_S X mdX12_near 49 (kX12_near_49 r) := by
  unfold kX12_near_49
  exact z_ild hX dX12_near_49 (z_iconst hX dX12_near_51 (by decide) (z_icge hX dX12_near_52 (by decide) (tX12_near_160 hX hr hq) (z_ald_n hX dX12_near_55 rfl (z_ild hX dX12_near_56 (z_ild hX dX12_near_58 (z_ild_n hX dX12_near_60 rfl (z_ild hX dX12_near_61 (z_cv (c := 12) hX hr dX12_near_63 hjX12_isIn mwX12_isIn rfl wm66_7 ⟨wm66_8, wm66_9⟩ ⟨Nat.le_of_ble_eq_true rfl, Nat.le_of_ble_eq_true rfl⟩ (z_ifne hX dX12_near_66 (by decide) (tX12_near_72 hX hr hq) ((z_goto hX dX12_near_69 (by decide) (tX12_near_154 hX hr hq))))))))))))
def kX12_near_35 (r : pu_R) : pu_K := s_ild 7 (s_ald 0 (s_gr 12 0 (s_push (.int (4)) (s_ai 1 (s_icge (kX12_near_166 r) (s_push (.int (0)) (s_ist 8 ((r 520)))))))))
theorem vX12_near_35 : pu_cok2 kX12_near_35 := fun rf r hr => by
  unfold kX12_near_35
  exact v_ild (v_ald (v_gr (v_pi (v_ai (v_icge (vX12_near_166 rf r hr) (v_pi (v_ist ((hr 520)))))))))
theorem tX12_near_35 {X : pu_X} {r : pu_R} (hX : pu_H X mdX12_near) (hr : pu_P X.2.1 X.2.2.2.2.2.2.2.2.2.2.1 r) (hq : ∀ i pc, pu_lp i = some (343, pc) → pu_S X mdX12_near pc (r i)) : pu_S X mdX12_near 35 (kX12_near_35 r) := by
  unfold kX12_near_35
  exact z_ild hX dX12_near_35 (z_ald_n hX dX12_near_37 rfl (z_gr (c := 12) (j := 0) hX dX12_near_38 rfl inlX12 wm7_16 ⟨rfl, by decide, rfl⟩ (z_iconst hX dX12_near_41 (by decide) (z_iald hX dX12_near_42 (z_icge hX dX12_near_43 (by decide) (tX12_near_166 hX hr hq) (z_iconst hX dX12_near_46 (by decide) (z_ist hX dX12_near_47 ((hq 520 49 hl520)))))))))
def kX12_near_26 (r : pu_R) : pu_K := s_push (.int (-1)) (s_ist 5 (s_push (.int (0)) (s_ist 6 (s_push (.int (0)) (s_ist 7 ((r 519)))))))
theorem vX12_near_26 : pu_cok2 kX12_near_26 := fun rf r hr => by
  unfold kX12_near_26
  exact v_pi (v_ist (v_pi (v_ist (v_pi (v_ist ((hr 519)))))))
theorem tX12_near_26 {X : pu_X} {r : pu_R} (hX : pu_H X mdX12_near) (hr : pu_P X.2.1 X.2.2.2.2.2.2.2.2.2.2.1 r) (hq : ∀ i pc, pu_lp i = some (343, pc) → pu_S X mdX12_near pc (r i)) : pu_S X mdX12_near 26 (kX12_near_26 r) := by
  unfold kX12_near_26
  exact z_iconst hX dX12_near_26 (by decide) (z_ist hX dX12_near_27 (z_iconst hX dX12_near_29 (by decide) (z_ist hX dX12_near_30 (z_iconst hX dX12_near_32 (by decide) (z_ist hX dX12_near_33 ((hq 519 35 hl519)))))))
def kX12_near_24 (r : pu_R) : pu_K := s_push (.int (-1)) (s_iret)
theorem vX12_near_24 : pu_cok2 kX12_near_24 := fun rf r hr => by
  unfold kX12_near_24
  exact v_pi (v_iret)
theorem tX12_near_24 {X : pu_X} {r : pu_R} (hX : pu_H X mdX12_near) (hr : pu_P X.2.1 X.2.2.2.2.2.2.2.2.2.2.1 r) (hq : ∀ i pc, pu_lp i = some (343, pc) → pu_S X mdX12_near pc (r i)) : pu_S X mdX12_near 24 (kX12_near_24 r) := by
  unfold kX12_near_24
  exact z_iconst hX dX12_near_24 (by decide) (z_iret hX dX12_near_25 rfl)
def kX12_near_0 (r : pu_R) : pu_K := s_ald 0 (s_ild 1 (s_cv r 251 1 12 (s_ifeq (kX12_near_24 r) (s_ild 2 (s_ild 3 (s_cs r 283 2 (s_ifeq (kX12_near_24 r) (s_ild 4 (s_cs r 234 1 (s_ifne (kX12_near_26 r) ((kX12_near_24 r))))))))))))
theorem vX12_near_0 : pu_cok2 kX12_near_0 := fun rf r hr => by
  unfold kX12_near_0
  exact v_ald (v_ild (v_cv hr (v_ifeq (vX12_near_24 rf r hr) (v_ild (v_ild (v_cs hr (v_ifeq (vX12_near_24 rf r hr) (v_ild (v_cs hr (v_ifne (vX12_near_26 rf r hr) ((vX12_near_24 rf r hr))))))))))))
theorem tX12_near_0 {X : pu_X} {r : pu_R} (hX : pu_H X mdX12_near) (hr : pu_P X.2.1 X.2.2.2.2.2.2.2.2.2.2.1 r) (hq : ∀ i pc, pu_lp i = some (343, pc) → pu_S X mdX12_near pc (r i)) : pu_S X mdX12_near 0 (kX12_near_0 r) := by
  unfold kX12_near_0
  exact z_ald_n hX dX12_near_0 rfl (z_ild_n hX dX12_near_1 rfl (z_cv (c := 12) hX hr dX12_near_2 hjX12_isStreet mwX12_isStreet rfl wm28_6 ⟨wm28_7, wm28_8⟩ ⟨Nat.le_of_ble_eq_true rfl, Nat.le_of_ble_eq_true rfl⟩ (z_ifeq hX dX12_near_5 (by decide) (tX12_near_24 hX hr hq) (z_ild_n hX dX12_near_8 rfl (z_ild_n hX dX12_near_9 rfl (z_cs hX hr dX12_near_10 hjX12_isPlace mwX12_isPlace wm28_10 wm28_11 ⟨Nat.le_of_ble_eq_true rfl, Nat.le_of_ble_eq_true rfl⟩ (z_ifeq hX dX12_near_13 (by decide) (tX12_near_24 hX hr hq) (z_ild hX dX12_near_16 (z_cs hX hr dX12_near_18 hjX12_isDay mwX12_isDay wm11_5 wm11_6 ⟨Nat.le_of_ble_eq_true rfl, Nat.le_of_ble_eq_true rfl⟩ (z_ifne hX dX12_near_21 (by decide) (tX12_near_26 hX hr hq) ((tX12_near_24 hX hr hq))))))))))))
def kX12_stop_91 (r : pu_R) : pu_K := s_ild 2 (s_wi 1 (s_ald 0 (s_gr 12 0 (s_push (.int (9)) (s_dup2 (s_ai 1 (s_push (.int (1)) (s_iadd (s_wi 1 (s_ald 0 (s_gr 12 0 (s_push (.int (9)) (s_ai 1 (s_iret))))))))))))))
theorem vX12_stop_91 : pu_cok2 kX12_stop_91 := fun rf r hr => by
  unfold kX12_stop_91
  exact v_ild (v_wi (v_ald (v_gr (v_pi (v_dup2 (v_ai (v_pi (v_iadd (v_wi (v_ald (v_gr (v_pi (v_ai (v_iret))))))))))))))
theorem tX12_stop_91 {X : pu_X} {r : pu_R} (hX : pu_H X mdX12_stop) (hr : pu_P X.2.1 X.2.2.2.2.2.2.2.2.2.2.1 r) (hq : ∀ i pc, pu_lp i = some (344, pc) → pu_S X mdX12_stop pc (r i)) : pu_S X mdX12_stop 91 (kX12_stop_91 r) := by
  unfold kX12_stop_91
  exact z_ild_n hX dX12_stop_91 rfl (z_iast hX dX12_stop_92 (z_ald_n hX dX12_stop_93 rfl (z_gr (c := 12) (j := 0) hX dX12_stop_94 rfl inlX12 wm7_16 ⟨rfl, by decide, rfl⟩ (z_bipush hX dX12_stop_97 (by decide) (z_dup2 hX dX12_stop_99 (z_iald hX dX12_stop_100 (z_iconst hX dX12_stop_101 (by decide) (z_iadd hX dX12_stop_102 (z_iast hX dX12_stop_103 (z_ald_n hX dX12_stop_104 rfl (z_gr (c := 12) (j := 0) hX dX12_stop_105 rfl inlX12 wm7_16 ⟨rfl, by decide, rfl⟩ (z_bipush hX dX12_stop_108 (by decide) (z_iald hX dX12_stop_110 (z_iret hX dX12_stop_111 rfl))))))))))))))
def kX12_stop_53 (r : pu_R) : pu_K := s_ald 0 (s_gr 12 0 (s_push (.int (59480)) (s_push (.int (2)) (s_ald 0 (s_gr 12 0 (s_push (.int (9)) (s_ai 1 (s_imul (s_iadd (s_ild 1 (s_wi 1 (s_ald 0 (s_gr 12 0 (s_push (.int (59480)) (s_push (.int (2)) (s_ald 0 (s_gr 12 0 (s_push (.int (9)) (s_ai 1 (s_imul (s_iadd (s_push (.int (1)) (s_iadd ((kX12_stop_91 r)))))))))))))))))))))))))
theorem vX12_stop_53 : pu_cok2 kX12_stop_53 := fun rf r hr => by
  unfold kX12_stop_53
  exact v_ald (v_gr (v_pi (v_pi (v_ald (v_gr (v_pi (v_ai (v_imul (v_iadd (v_ild (v_wi (v_ald (v_gr (v_pi (v_pi (v_ald (v_gr (v_pi (v_ai (v_imul (v_iadd (v_pi (v_iadd ((vX12_stop_91 rf r hr)))))))))))))))))))))))))
theorem tX12_stop_53 {X : pu_X} {r : pu_R} (hX : pu_H X mdX12_stop) (hr : pu_P X.2.1 X.2.2.2.2.2.2.2.2.2.2.1 r) (hq : ∀ i pc, pu_lp i = some (344, pc) → pu_S X mdX12_stop pc (r i)) : pu_S X mdX12_stop 53 (kX12_stop_53 r) := by
  unfold kX12_stop_53
  exact z_ald_n hX dX12_stop_53 rfl (z_gr (c := 12) (j := 0) hX dX12_stop_54 rfl inlX12 wm7_16 ⟨rfl, by decide, rfl⟩ (z_ldcw hX dX12_stop_57 wm67_0 (z_iconst hX dX12_stop_60 (by decide) (z_ald_n hX dX12_stop_61 rfl (z_gr (c := 12) (j := 0) hX dX12_stop_62 rfl inlX12 wm7_16 ⟨rfl, by decide, rfl⟩ (z_bipush hX dX12_stop_65 (by decide) (z_iald hX dX12_stop_67 (z_imul hX dX12_stop_68 (z_iadd hX dX12_stop_69 (z_ild_n hX dX12_stop_70 rfl (z_iast hX dX12_stop_71 (z_ald_n hX dX12_stop_72 rfl (z_gr (c := 12) (j := 0) hX dX12_stop_73 rfl inlX12 wm7_16 ⟨rfl, by decide, rfl⟩ (z_ldcw hX dX12_stop_76 wm67_0 (z_iconst hX dX12_stop_79 (by decide) (z_ald_n hX dX12_stop_80 rfl (z_gr (c := 12) (j := 0) hX dX12_stop_81 rfl inlX12 wm7_16 ⟨rfl, by decide, rfl⟩ (z_bipush hX dX12_stop_84 (by decide) (z_iald hX dX12_stop_86 (z_imul hX dX12_stop_87 (z_iadd hX dX12_stop_88 (z_iconst hX dX12_stop_89 (by decide) (z_iadd hX dX12_stop_90 ((tX12_stop_91 hX hr hq)))))))))))))))))))))))))
def kX12_stop_38 (r : pu_R) : pu_K := s_ald 0 (s_gr 12 0 (s_push (.int (9)) (s_ai 1 (s_push (.int (24)) (s_icne (kX12_stop_53 r) (s_push (.int (-6)) (s_iret)))))))
theorem vX12_stop_38 : pu_cok2 kX12_stop_38 := fun rf r hr => by
  unfold kX12_stop_38
  exact v_ald (v_gr (v_pi (v_ai (v_pi (v_icne (vX12_stop_53 rf r hr) (v_pi (v_iret)))))))
theorem tX12_stop_38 {X : pu_X} {r : pu_R} (hX : pu_H X mdX12_stop) (hr : pu_P X.2.1 X.2.2.2.2.2.2.2.2.2.2.1 r) (hq : ∀ i pc, pu_lp i = some (344, pc) → pu_S X mdX12_stop pc (r i)) : pu_S X mdX12_stop 38 (kX12_stop_38 r) := by
  unfold kX12_stop_38
  exact z_ald_n hX dX12_stop_38 rfl (z_gr (c := 12) (j := 0) hX dX12_stop_39 rfl inlX12 wm7_16 ⟨rfl, by decide, rfl⟩ (z_bipush hX dX12_stop_42 (by decide) (z_iald hX dX12_stop_44 (z_bipush hX dX12_stop_45 (by decide) (z_icne hX dX12_stop_47 (by decide) (tX12_stop_53 hX hr hq) (z_bipush hX dX12_stop_50 (by decide) (z_iret hX dX12_stop_52 rfl)))))))
def kX12_stop_23 (r : pu_R) : pu_K := s_ild 2 (s_push (.int (-1)) (s_icne (kX12_stop_38 r) (s_ald 0 (s_gr 12 0 (s_push (.int (9)) (s_push (.int (0)) (s_wi 1 (s_push (.int (0)) (s_iret)))))))))
theorem vX12_stop_23 : pu_cok2 kX12_stop_23 := fun rf r hr => by
  unfold kX12_stop_23
  exact v_ild (v_pi (v_icne (vX12_stop_38 rf r hr) (v_ald (v_gr (v_pi (v_pi (v_wi (v_pi (v_iret)))))))))
theorem tX12_stop_23 {X : pu_X} {r : pu_R} (hX : pu_H X mdX12_stop) (hr : pu_P X.2.1 X.2.2.2.2.2.2.2.2.2.2.1 r) (hq : ∀ i pc, pu_lp i = some (344, pc) → pu_S X mdX12_stop pc (r i)) : pu_S X mdX12_stop 23 (kX12_stop_23 r) := by
  unfold kX12_stop_23
  exact z_ild_n hX dX12_stop_23 rfl (z_iconst hX dX12_stop_24 (by decide) (z_icne hX dX12_stop_25 (by decide) (tX12_stop_38 hX hr hq) (z_ald_n hX dX12_stop_28 rfl (z_gr (c := 12) (j := 0) hX dX12_stop_29 rfl inlX12 wm7_16 ⟨rfl, by decide, rfl⟩ (z_bipush hX dX12_stop_32 (by decide) (z_iconst hX dX12_stop_34 (by decide) (z_iast hX dX12_stop_35 (z_iconst hX dX12_stop_36 (by decide) (z_iret hX dX12_stop_37 rfl)))))))))
def kX12_stop_20 (r : pu_R) : pu_K := s_push (.int (-2)) (s_iret)
theorem vX12_stop_20 : pu_cok2 kX12_stop_20 := fun rf r hr => by
  unfold kX12_stop_20
  exact v_pi (v_iret)
theorem tX12_stop_20 {X : pu_X} {r : pu_R} (hX : pu_H X mdX12_stop) (hr : pu_P X.2.1 X.2.2.2.2.2.2.2.2.2.2.1 r) (hq : ∀ i pc, pu_lp i = some (344, pc) → pu_S X mdX12_stop pc (r i)) : pu_S X mdX12_stop 20 (kX12_stop_20 r) := by
  unfold kX12_stop_20
  exact z_bipush hX dX12_stop_20 (by decide) (z_iret hX dX12_stop_22 rfl)
def kX12_stop_10 (r : pu_R) : pu_K := s_ild 2 (s_push (.int (-1)) (s_iclt (kX12_stop_20 r) (s_ild 2 (s_push (.int (2)) (s_icle (kX12_stop_23 r) ((kX12_stop_20 r)))))))
theorem vX12_stop_10 : pu_cok2 kX12_stop_10 := fun rf r hr => by
  unfold kX12_stop_10
  exact v_ild (v_pi (v_iclt (vX12_stop_20 rf r hr) (v_ild (v_pi (v_icle (vX12_stop_23 rf r hr) ((vX12_stop_20 rf r hr)))))))
theorem tX12_stop_10 {X : pu_X} {r : pu_R} (hX : pu_H X mdX12_stop) (hr : pu_P X.2.1 X.2.2.2.2.2.2.2.2.2.2.1 r) (hq : ∀ i pc, pu_lp i = some (344, pc) → pu_S X mdX12_stop pc (r i)) : pu_S X mdX12_stop 10 (kX12_stop_10 r) := by
  unfold kX12_stop_10
  exact z_ild_n hX dX12_stop_10 rfl (z_iconst hX dX12_stop_11 (by decide) (z_iclt hX dX12_stop_12 (by decide) (tX12_stop_20 hX hr hq) (z_ild_n hX dX12_stop_15 rfl (z_iconst hX dX12_stop_16 (by decide) (z_icle hX dX12_stop_17 (by decide) (tX12_stop_23 hX hr hq) ((tX12_stop_20 hX hr hq)))))))
def kX12_stop_0 (r : pu_R) : pu_K := s_ald 0 (s_ild 1 (s_cv r 251 1 12 (s_ifne (kX12_stop_10 r) (s_push (.int (-1)) (s_iret)))))
theorem vX12_stop_0 : pu_cok2 kX12_stop_0 := fun rf r hr => by
  unfold kX12_stop_0
  exact v_ald (v_ild (v_cv hr (v_ifne (vX12_stop_10 rf r hr) (v_pi (v_iret)))))
theorem tX12_stop_0 {X : pu_X} {r : pu_R} (hX : pu_H X mdX12_stop) (hr : pu_P X.2.1 X.2.2.2.2.2.2.2.2.2.2.1 r) (hq : ∀ i pc, pu_lp i = some (344, pc) → pu_S X mdX12_stop pc (r i)) : pu_S X mdX12_stop 0 (kX12_stop_0 r) := by
  unfold kX12_stop_0
  exact z_ald_n hX dX12_stop_0 rfl (z_ild_n hX dX12_stop_1 rfl (z_cv (c := 12) hX hr dX12_stop_2 hjX12_isStreet mwX12_isStreet rfl wm28_6 ⟨wm28_7, wm28_8⟩ ⟨Nat.le_of_ble_eq_true rfl, Nat.le_of_ble_eq_true rfl⟩ (z_ifne hX dX12_stop_5 (by decide) (tX12_stop_10 hX hr hq) (z_iconst hX dX12_stop_8 (by decide) (z_iret hX dX12_stop_9 rfl)))))
def kX12_walkKey_40 (r : pu_R) : pu_K := s_iret
theorem vX12_walkKey_40 : pu_cok2 kX12_walkKey_40 := fun rf r hr => by
  unfold kX12_walkKey_40
  exact v_iret
theorem tX12_walkKey_40 {X : pu_X} {r : pu_R} (hX : pu_H X mdX12_walkKey) (hr : pu_P X.2.1 X.2.2.2.2.2.2.2.2.2.2.1 r) (hq : ∀ i pc, pu_lp i = some (345, pc) → pu_S X mdX12_walkKey pc (r i)) : pu_S X mdX12_walkKey 40 (kX12_walkKey_40 r) := by
  unfold kX12_walkKey_40
  exact z_iret hX dX12_walkKey_40 rfl
def kX12_walkKey_31 (r : pu_R) : pu_K := s_push (.int (30000)) (s_push (.int (2)) (s_ild 2 (s_imul (s_isub (s_ild 1 (s_isub ((kX12_walkKey_40 r))))))))
theorem vX12_walkKey_31 : pu_cok2 kX12_walkKey_31 := fun rf r hr => by
  unfold kX12_walkKey_31
  exact v_pi (v_pi (v_ild (v_imul (v_isub (v_ild (v_isub ((vX12_walkKey_40 rf r hr))))))))
theorem tX12_walkKey_31 {X : pu_X} {r : pu_R} (hX : pu_H X mdX12_walkKey) (hr : pu_P X.2.1 X.2.2.2.2.2.2.2.2.2.2.1 r) (hq : ∀ i pc, pu_lp i = some (345, pc) → pu_S X mdX12_walkKey pc (r i)) : pu_S X mdX12_walkKey 31 (kX12_walkKey_31 r) := by
  unfold kX12_walkKey_31
  exact z_sipush hX dX12_walkKey_31 (by decide) (z_iconst hX dX12_walkKey_34 (by decide) (z_ild_n hX dX12_walkKey_35 rfl (z_imul hX dX12_walkKey_36 (z_isub hX dX12_walkKey_37 (z_ild_n hX dX12_walkKey_38 rfl (z_isub hX dX12_walkKey_39 ((tX12_walkKey_40 hX hr hq))))))))
def kX12_walkKey_18 (r : pu_R) : pu_K := s_ild 0 (s_push (.int (1)) (s_icne (kX12_walkKey_31 r) (s_push (.int (2)) (s_ild 2 (s_imul (s_ild 1 (s_iadd ((kX12_walkKey_40 r)))))))))
theorem vX12_walkKey_18 : pu_cok2 kX12_walkKey_18 := fun rf r hr => by
  unfold kX12_walkKey_18
  exact v_ild (v_pi (v_icne (vX12_walkKey_31 rf r hr) (v_pi (v_ild (v_imul (v_ild (v_iadd ((vX12_walkKey_40 rf r hr)))))))))
theorem tX12_walkKey_18 {X : pu_X} {r : pu_R} (hX : pu_H X mdX12_walkKey) (hr : pu_P X.2.1 X.2.2.2.2.2.2.2.2.2.2.1 r) (hq : ∀ i pc, pu_lp i = some (345, pc) → pu_S X mdX12_walkKey pc (r i)) : pu_S X mdX12_walkKey 18 (kX12_walkKey_18 r) := by
  unfold kX12_walkKey_18
  exact z_ild_n hX dX12_walkKey_18 rfl (z_iconst hX dX12_walkKey_19 (by decide) (z_icne hX dX12_walkKey_20 (by decide) (tX12_walkKey_31 hX hr hq) (z_iconst hX dX12_walkKey_23 (by decide) (z_ild_n hX dX12_walkKey_24 rfl (z_imul hX dX12_walkKey_25 (z_ild_n hX dX12_walkKey_26 rfl (z_iadd hX dX12_walkKey_27 ((z_goto hX dX12_walkKey_28 (by decide) (tX12_walkKey_40 hX hr hq))))))))))
def kX12_walkKey_17 (r : pu_R) : pu_K := s_iret
theorem vX12_walkKey_17 : pu_cok2 kX12_walkKey_17 := fun rf r hr => by
  unfold kX12_walkKey_17
  exact v_iret
theorem tX12_walkKey_17 {X : pu_X} {r : pu_R} (hX : pu_H X mdX12_walkKey) (hr : pu_P X.2.1 X.2.2.2.2.2.2.2.2.2.2.1 r) (hq : ∀ i pc, pu_lp i = some (345, pc) → pu_S X mdX12_walkKey pc (r i)) : pu_S X mdX12_walkKey 17 (kX12_walkKey_17 r) := by
  unfold kX12_walkKey_17
  exact z_iret hX dX12_walkKey_17 rfl
def kX12_walkKey_12 (r : pu_R) : pu_K := s_push (.int (20000)) (s_ild 2 (s_isub ((kX12_walkKey_17 r))))
theorem vX12_walkKey_12 : pu_cok2 kX12_walkKey_12 := fun rf r hr => by
  unfold kX12_walkKey_12
  exact v_pi (v_ild (v_isub ((vX12_walkKey_17 rf r hr))))
theorem tX12_walkKey_12 {X : pu_X} {r : pu_R} (hX : pu_H X mdX12_walkKey) (hr : pu_P X.2.1 X.2.2.2.2.2.2.2.2.2.2.1 r) (hq : ∀ i pc, pu_lp i = some (345, pc) → pu_S X mdX12_walkKey pc (r i)) : pu_S X mdX12_walkKey 12 (kX12_walkKey_12 r) := by
  unfold kX12_walkKey_12
  exact z_sipush hX dX12_walkKey_12 (by decide) (z_ild_n hX dX12_walkKey_15 rfl (z_isub hX dX12_walkKey_16 ((tX12_walkKey_17 hX hr hq))))
def kX12_walkKey_0 (r : pu_R) : pu_K := s_ild 0 (s_ifne (kX12_walkKey_18 r) (s_ild 1 (s_ifne (kX12_walkKey_12 r) (s_ild 2 ((kX12_walkKey_17 r))))))
theorem vX12_walkKey_0 : pu_cok2 kX12_walkKey_0 := fun rf r hr => by
  unfold kX12_walkKey_0
  exact v_ild (v_ifne (vX12_walkKey_18 rf r hr) (v_ild (v_ifne (vX12_walkKey_12 rf r hr) (v_ild ((vX12_walkKey_17 rf r hr))))))
theorem tX12_walkKey_0 {X : pu_X} {r : pu_R} (hX : pu_H X mdX12_walkKey) (hr : pu_P X.2.1 X.2.2.2.2.2.2.2.2.2.2.1 r) (hq : ∀ i pc, pu_lp i = some (345, pc) → pu_S X mdX12_walkKey pc (r i)) : pu_S X mdX12_walkKey 0 (kX12_walkKey_0 r) := by
  unfold kX12_walkKey_0
  exact z_ild_n hX dX12_walkKey_0 rfl (z_ifne hX dX12_walkKey_1 (by decide) (tX12_walkKey_18 hX hr hq) (z_ild_n hX dX12_walkKey_4 rfl (z_ifne hX dX12_walkKey_5 (by decide) (tX12_walkKey_12 hX hr hq) (z_ild_n hX dX12_walkKey_8 rfl ((z_goto hX dX12_walkKey_9 (by decide) (tX12_walkKey_17 hX hr hq)))))))
def kX12_isWalked_35 (r : pu_R) : pu_K := s_push (.int (0)) (s_zret)
theorem vX12_isWalked_35 : pu_cok2 kX12_isWalked_35 := fun rf r hr => by
  unfold kX12_isWalked_35
  exact v_pi (v_zret)
theorem tX12_isWalked_35 {X : pu_X} {r : pu_R} (hX : pu_H X mdX12_isWalked) (hr : pu_P X.2.1 X.2.2.2.2.2.2.2.2.2.2.1 r) (hq : ∀ i pc, pu_lp i = some (346, pc) → pu_S X mdX12_isWalked pc (r i)) : pu_S X mdX12_isWalked 35 (kX12_isWalked_35 r) := by
  unfold kX12_isWalked_35
  exact z_iconst hX dX12_isWalked_35 (by decide) (z_zret hX dX12_isWalked_36 rfl)
def kX12_isWalked_29 (r : pu_R) : pu_K := s_inc 2 (1) ((r 521))
theorem vX12_isWalked_29 : pu_cok2 kX12_isWalked_29 := fun rf r hr => by
  unfold kX12_isWalked_29
  exact v_inc ((hr 521))
theorem tX12_isWalked_29 {X : pu_X} {r : pu_R} (hX : pu_H X mdX12_isWalked) (hr : pu_P X.2.1 X.2.2.2.2.2.2.2.2.2.2.1 r) (hq : ∀ i pc, pu_lp i = some (346, pc) → pu_S X mdX12_isWalked pc (r i)) : pu_S X mdX12_isWalked 29 (kX12_isWalked_29 r) := by
  unfold kX12_isWalked_29
  exact z_inc hX dX12_isWalked_29 (by decide) ((z_goto hX dX12_isWalked_32 (by decide) (hq 521 2 hl521)))
def kX12_isWalked_2 (r : pu_R) : pu_K := s_ild 2 (s_ald 0 (s_gr 12 0 (s_push (.int (12)) (s_ai 1 (s_icge (kX12_isWalked_35 r) (s_ald 0 (s_gr 12 0 (s_push (.int (59788)) (s_ild 2 (s_iadd (s_ai 1 (s_ild 1 (s_icne (kX12_isWalked_29 r) (s_push (.int (1)) (s_zret)))))))))))))))
theorem vX12_isWalked_2 : pu_cok2 kX12_isWalked_2 := fun rf r hr => by
  unfold kX12_isWalked_2
  exact v_ild (v_ald (v_gr (v_pi (v_ai (v_icge (vX12_isWalked_35 rf r hr) (v_ald (v_gr (v_pi (v_ild (v_iadd (v_ai (v_ild (v_icne (vX12_isWalked_29 rf r hr) (v_pi (v_zret)))))))))))))))
theorem tX12_isWalked_2 {X : pu_X} {r : pu_R} (hX : pu_H X mdX12_isWalked) (hr : pu_P X.2.1 X.2.2.2.2.2.2.2.2.2.2.1 r) (hq : ∀ i pc, pu_lp i = some (346, pc) → pu_S X mdX12_isWalked pc (r i)) : pu_S X mdX12_isWalked 2 (kX12_isWalked_2 r) := by
  unfold kX12_isWalked_2
  exact z_ild_n hX dX12_isWalked_2 rfl (z_ald_n hX dX12_isWalked_3 rfl (z_gr (c := 12) (j := 0) hX dX12_isWalked_4 rfl inlX12 wm7_16 ⟨rfl, by decide, rfl⟩ (z_bipush hX dX12_isWalked_7 (by decide) (z_iald hX dX12_isWalked_9 (z_icge hX dX12_isWalked_10 (by decide) (tX12_isWalked_35 hX hr hq) (z_ald_n hX dX12_isWalked_13 rfl (z_gr (c := 12) (j := 0) hX dX12_isWalked_14 rfl inlX12 wm7_16 ⟨rfl, by decide, rfl⟩ (z_ldcw hX dX12_isWalked_17 wm68_20 (z_ild_n hX dX12_isWalked_20 rfl (z_iadd hX dX12_isWalked_21 (z_iald hX dX12_isWalked_22 (z_ild_n hX dX12_isWalked_23 rfl (z_icne hX dX12_isWalked_24 (by decide) (tX12_isWalked_29 hX hr hq) (z_iconst hX dX12_isWalked_27 (by decide) (z_zret hX dX12_isWalked_28 rfl)))))))))))))))
def kX12_isWalked_0 (r : pu_R) : pu_K := s_push (.int (0)) (s_ist 2 ((r 521)))
theorem vX12_isWalked_0 : pu_cok2 kX12_isWalked_0 := fun rf r hr => by
  unfold kX12_isWalked_0
  exact v_pi (v_ist ((hr 521)))
theorem tX12_isWalked_0 {X : pu_X} {r : pu_R} (hX : pu_H X mdX12_isWalked) (hr : pu_P X.2.1 X.2.2.2.2.2.2.2.2.2.2.1 r) (hq : ∀ i pc, pu_lp i = some (346, pc) → pu_S X mdX12_isWalked pc (r i)) : pu_S X mdX12_isWalked 0 (kX12_isWalked_0 r) := by
  unfold kX12_isWalked_0
  exact z_iconst hX dX12_isWalked_0 (by decide) (z_ist_n hX dX12_isWalked_1 rfl ((hq 521 2 hl521)))
def kX12_comesTo_0 (r : pu_R) : pu_K := s_ald 0 (s_gr 12 0 (s_push (.int (59788)) (s_ald 0 (s_gr 12 0 (s_push (.int (12)) (s_ai 1 (s_iadd (s_ild 1 (s_wi 1 (s_ald 0 (s_gr 12 0 (s_push (.int (12)) (s_dup2 (s_ai 1 (s_push (.int (1)) (s_iadd (s_wi 1 (s_vret))))))))))))))))))
theorem vX12_comesTo_0 : pu_cok2 kX12_comesTo_0 := fun rf r hr => by
  unfold kX12_comesTo_0
  exact v_ald (v_gr (v_pi (v_ald (v_gr (v_pi (v_ai (v_iadd (v_ild (v_wi (v_ald (v_gr (v_pi (v_dup2 (v_ai (v_pi (v_iadd (v_wi (v_vret))))))))))))))))))
theorem tX12_comesTo_0 {X : pu_X} {r : pu_R} (hX : pu_H X mdX12_comesTo) (hr : pu_P X.2.1 X.2.2.2.2.2.2.2.2.2.2.1 r) (hq : ∀ i pc, pu_lp i = some (347, pc) → pu_S X mdX12_comesTo pc (r i)) : pu_S X mdX12_comesTo 0 (kX12_comesTo_0 r) := by
  unfold kX12_comesTo_0
  exact z_ald_n hX dX12_comesTo_0 rfl (z_gr (c := 12) (j := 0) hX dX12_comesTo_1 rfl inlX12 wm7_16 ⟨rfl, by decide, rfl⟩ (z_ldcw hX dX12_comesTo_4 wm68_20 (z_ald_n hX dX12_comesTo_7 rfl (z_gr (c := 12) (j := 0) hX dX12_comesTo_8 rfl inlX12 wm7_16 ⟨rfl, by decide, rfl⟩ (z_bipush hX dX12_comesTo_11 (by decide) (z_iald hX dX12_comesTo_13 (z_iadd hX dX12_comesTo_14 (z_ild_n hX dX12_comesTo_15 rfl (z_iast hX dX12_comesTo_16 (z_ald_n hX dX12_comesTo_17 rfl (z_gr (c := 12) (j := 0) hX dX12_comesTo_18 rfl inlX12 wm7_16 ⟨rfl, by decide, rfl⟩ (z_bipush hX dX12_comesTo_21 (by decide) (z_dup2 hX dX12_comesTo_23 (z_iald hX dX12_comesTo_24 (z_iconst hX dX12_comesTo_25 (by decide) (z_iadd hX dX12_comesTo_26 (z_iast hX dX12_comesTo_27 (z_vret hX dX12_comesTo_28 rfl))))))))))))))))))
def kX12_comesToAll_104 (r : pu_R) : pu_K := s_vret
theorem vX12_comesToAll_104 : pu_cok2 kX12_comesToAll_104 := fun rf r hr => by
  unfold kX12_comesToAll_104
  exact v_vret
theorem tX12_comesToAll_104 {X : pu_X} {r : pu_R} (hX : pu_H X mdX12_comesToAll) (hr : pu_P X.2.1 X.2.2.2.2.2.2.2.2.2.2.1 r) (hq : ∀ i pc, pu_lp i = some (348, pc) → pu_S X mdX12_comesToAll pc (r i)) : pu_S X mdX12_comesToAll 104 (kX12_comesToAll_104 r) := by
  unfold kX12_comesToAll_104
  exact z_vret hX dX12_comesToAll_104 rfl
def kX12_comesToAll_98 (r : pu_R) : pu_K := s_inc 3 (1) ((r 522))
theorem vX12_comesToAll_98 : pu_cok2 kX12_comesToAll_98 := fun rf r hr => by
  unfold kX12_comesToAll_98
  exact v_inc ((hr 522))
theorem tX12_comesToAll_98 {X : pu_X} {r : pu_R} (hX : pu_H X mdX12_comesToAll) (hr : pu_P X.2.1 X.2.2.2.2.2.2.2.2.2.2.1 r) (hq : ∀ i pc, pu_lp i = some (348, pc) → pu_S X mdX12_comesToAll pc (r i)) : pu_S X mdX12_comesToAll 98 (kX12_comesToAll_98 r) := by
  unfold kX12_comesToAll_98
  exact z_inc hX dX12_comesToAll_98 (by decide) ((z_goto hX dX12_comesToAll_101 (by decide) (hq 522 7 hl522)))
def kX12_comesToAll_92 (r : pu_R) : pu_K := s_inc 4 (1) ((r 523))
theorem vX12_comesToAll_92 : pu_cok2 kX12_comesToAll_92 := fun rf r hr => by
  unfold kX12_comesToAll_92
  exact v_inc ((hr 523))
theorem tX12_comesToAll_92 {X : pu_X} {r : pu_R} (hX : pu_H X mdX12_comesToAll) (hr : pu_P X.2.1 X.2.2.2.2.2.2.2.2.2.2.1 r) (hq : ∀ i pc, pu_lp i = some (348, pc) → pu_S X mdX12_comesToAll pc (r i)) : pu_S X mdX12_comesToAll 92 (kX12_comesToAll_92 r) := by
  unfold kX12_comesToAll_92
  exact z_inc hX dX12_comesToAll_92 (by decide) ((z_goto hX dX12_comesToAll_95 (by decide) (hq 523 15 hl523)))
def kX12_comesToAll_86 (r : pu_R) : pu_K := s_inc 5 (1) ((r 524))
theorem vX12_comesToAll_86 : pu_cok2 kX12_comesToAll_86 := fun rf r hr => by
  unfold kX12_comesToAll_86
  exact v_inc ((hr 524))
theorem tX12_comesToAll_86 {X : pu_X} {r : pu_R} (hX : pu_H X mdX12_comesToAll) (hr : pu_P X.2.1 X.2.2.2.2.2.2.2.2.2.2.1 r) (hq : ∀ i pc, pu_lp i = some (348, pc) → pu_S X mdX12_comesToAll pc (r i)) : pu_S X mdX12_comesToAll 86 (kX12_comesToAll_86 r) := by
  unfold kX12_comesToAll_86
  exact z_inc hX dX12_comesToAll_86 (by decide) ((z_goto hX dX12_comesToAll_89 (by decide) (hq 524 25 hl524)))
def kX12_comesToAll_71 (r : pu_R) : pu_K := s_ild 5 (s_ild 2 (s_cv r 315 2 12 (s_ifeq (kX12_comesToAll_86 r) (s_ald 0 (s_ild 5 (s_cv r 347 1 12 ((kX12_comesToAll_86 r))))))))
theorem vX12_comesToAll_71 : pu_cok2 kX12_comesToAll_71 := fun rf r hr => by
  unfold kX12_comesToAll_71
  exact v_ild (v_ild (v_cv hr (v_ifeq (vX12_comesToAll_86 rf r hr) (v_ald (v_ild (v_cv hr ((vX12_comesToAll_86 rf r hr))))))))
theorem tX12_comesToAll_71 {X : pu_X} {r : pu_R} (hX : pu_H X mdX12_comesToAll) (hr : pu_P X.2.1 X.2.2.2.2.2.2.2.2.2.2.1 r) (hq : ∀ i pc, pu_lp i = some (348, pc) → pu_S X mdX12_comesToAll pc (r i)) : pu_S X mdX12_comesToAll 71 (kX12_comesToAll_71 r) := by
  unfold kX12_comesToAll_71
  exact z_ild hX dX12_comesToAll_71 (z_ild_n hX dX12_comesToAll_73 rfl (z_cv (c := 12) hX hr dX12_comesToAll_74 hjX12_standsOn mwX12_standsOn rfl wm47_18 ⟨wm47_19, wm47_20⟩ ⟨Nat.le_of_ble_eq_true rfl, Nat.le_of_ble_eq_true rfl⟩ (z_ifeq hX dX12_comesToAll_77 (by decide) (tX12_comesToAll_86 hX hr hq) (z_ald_n hX dX12_comesToAll_80 rfl (z_ild hX dX12_comesToAll_81 (z_cv (c := 12) hX hr dX12_comesToAll_83 hjX12_comesTo mwX12_comesTo rfl wm69_4 ⟨wm69_5, wm69_6⟩ ⟨Nat.le_of_ble_eq_true rfl, Nat.le_of_ble_eq_true rfl⟩ ((tX12_comesToAll_86 hX hr hq))))))))
def kX12_comesToAll_25 (r : pu_R) : pu_K := s_ild 5 (s_ald 0 (s_gr 12 0 (s_push (.int (4)) (s_ai 1 (s_icge (kX12_comesToAll_92 r) (s_ald 0 (s_ild 5 (s_push (.int (0)) (s_cv r 265 2 12 (s_ild 3 (s_icne (kX12_comesToAll_86 r) (s_ald 0 (s_ild 5 (s_push (.int (7)) (s_cv r 265 2 12 (s_ild 4 (s_icne (kX12_comesToAll_86 r) (s_ald 0 (s_ild 5 (s_cv r 271 1 12 (s_ild 1 (s_icne (kX12_comesToAll_86 r) (s_ald 0 ((kX12_comesToAll_71 r)))))))))))))))))))))))))
theorem vX12_comesToAll_25 : pu_cok2 kX12_comesToAll_25 := fun rf r hr => by
  unfold kX12_comesToAll_25
  exact v_ild (v_ald (v_gr (v_pi (v_ai (v_icge (vX12_comesToAll_92 rf r hr) (v_ald (v_ild (v_pi (v_cv hr (v_ild (v_icne (vX12_comesToAll_86 rf r hr) (v_ald (v_ild (v_pi (v_cv hr (v_ild (v_icne (vX12_comesToAll_86 rf r hr) (v_ald (v_ild (v_cv hr (v_ild (v_icne (vX12_comesToAll_86 rf r hr) (v_ald ((vX12_comesToAll_71 rf r hr)))))))))))))))))))))))))
theorem tX12_comesToAll_25 {X : pu_X} {r : pu_R} (hX : pu_H X mdX12_comesToAll) (hr : pu_P X.2.1 X.2.2.2.2.2.2.2.2.2.2.1 r) (hq : ∀ i pc, pu_lp i = some (348, pc) → pu_S X mdX12_comesToAll pc (r i)) : pu_S X mdX12_comesToAll 25 (kX12_comesToAll_25 r) := by
  unfold kX12_comesToAll_25
  exact z_ild hX dX12_comesToAll_25 (z_ald_n hX dX12_comesToAll_27 rfl (z_gr (c := 12) (j := 0) hX dX12_comesToAll_28 rfl inlX12 wm7_16 ⟨rfl, by decide, rfl⟩ (z_iconst hX dX12_comesToAll_31 (by decide) (z_iald hX dX12_comesToAll_32 (z_icge hX dX12_comesToAll_33 (by decide) (tX12_comesToAll_92 hX hr hq) (z_ald_n hX dX12_comesToAll_36 rfl (z_ild hX dX12_comesToAll_37 (z_iconst hX dX12_comesToAll_39 (by decide) (z_cv (c := 12) hX hr dX12_comesToAll_40 hjX12_of mwX12_of rfl wm30_3 ⟨wm30_4, wm30_5⟩ ⟨Nat.le_of_ble_eq_true rfl, Nat.le_of_ble_eq_true rfl⟩ (z_ild_n hX dX12_comesToAll_43 rfl (z_icne hX dX12_comesToAll_44 (by decide) (tX12_comesToAll_86 hX hr hq) (z_ald_n hX dX12_comesToAll_47 rfl (z_ild hX dX12_comesToAll_48 (z_bipush hX dX12_comesToAll_50 (by decide) (z_cv (c := 12) hX hr dX12_comesToAll_52 hjX12_of mwX12_of rfl wm30_3 ⟨wm30_4, wm30_5⟩ ⟨Nat.le_of_ble_eq_true rfl, Nat.le_of_ble_eq_true rfl⟩ (z_ild hX dX12_comesToAll_55 (z_icne hX dX12_comesToAll_57 (by decide) (tX12_comesToAll_86 hX hr hq) (z_ald_n hX dX12_comesToAll_60 rfl (z_ild hX dX12_comesToAll_61 (z_cv (c := 12) hX hr dX12_comesToAll_63 hjX12_front mwX12_front rfl wm35_0 ⟨wm35_1, wm35_2⟩ ⟨Nat.le_of_ble_eq_true rfl, Nat.le_of_ble_eq_true rfl⟩ (z_ild_n hX dX12_comesToAll_66 rfl (z_icne hX dX12_comesToAll_67 (by decide) (tX12_comesToAll_86 hX hr hq) (z_ald_n hX dX12_comesToAll_70 rfl ((tX12_comesToAll_71 hX hr hq)))))))))))))))))))))))))
def kX12_comesToAll_15 (r : pu_R) : pu_K := s_ild 4 (s_push (.int (99)) (s_icgt (kX12_comesToAll_98 r) (s_push (.int (0)) (s_ist 5 ((r 524))))))
theorem vX12_comesToAll_15 : pu_cok2 kX12_comesToAll_15 := fun rf r hr => by
  unfold kX12_comesToAll_15
  exact v_ild (v_pi (v_icgt (vX12_comesToAll_98 rf r hr) (v_pi (v_ist ((hr 524))))))
theorem tX12_comesToAll_15 {X : pu_X} {r : pu_R} (hX : pu_H X mdX12_comesToAll) (hr : pu_P X.2.1 X.2.2.2.2.2.2.2.2.2.2.1 r) (hq : ∀ i pc, pu_lp i = some (348, pc) → pu_S X mdX12_comesToAll pc (r i)) : pu_S X mdX12_comesToAll 15 (kX12_comesToAll_15 r) := by
  unfold kX12_comesToAll_15
  exact z_ild hX dX12_comesToAll_15 (z_bipush hX dX12_comesToAll_17 (by decide) (z_icgt hX dX12_comesToAll_19 (by decide) (tX12_comesToAll_98 hX hr hq) (z_iconst hX dX12_comesToAll_22 (by decide) (z_ist hX dX12_comesToAll_23 ((hq 524 25 hl524))))))
def kX12_comesToAll_7 (r : pu_R) : pu_K := s_ild 3 (s_push (.int (4)) (s_icgt (kX12_comesToAll_104 r) (s_push (.int (0)) (s_ist 4 ((r 523))))))
theorem vX12_comesToAll_7 : pu_cok2 kX12_comesToAll_7 := fun rf r hr => by
  unfold kX12_comesToAll_7
  exact v_ild (v_pi (v_icgt (vX12_comesToAll_104 rf r hr) (v_pi (v_ist ((hr 523))))))
theorem tX12_comesToAll_7 {X : pu_X} {r : pu_R} (hX : pu_H X mdX12_comesToAll) (hr : pu_P X.2.1 X.2.2.2.2.2.2.2.2.2.2.1 r) (hq : ∀ i pc, pu_lp i = some (348, pc) → pu_S X mdX12_comesToAll pc (r i)) : pu_S X mdX12_comesToAll 7 (kX12_comesToAll_7 r) := by
  unfold kX12_comesToAll_7
  exact z_ild_n hX dX12_comesToAll_7 rfl (z_iconst hX dX12_comesToAll_8 (by decide) (z_icgt hX dX12_comesToAll_9 (by decide) (tX12_comesToAll_104 hX hr hq) (z_iconst hX dX12_comesToAll_12 (by decide) (z_ist hX dX12_comesToAll_13 ((hq 523 15 hl523))))))
def kX12_comesToAll_0 (r : pu_R) : pu_K := s_ald 0 (s_ild 1 (s_cv r 347 1 12 (s_push (.int (2)) (s_ist 3 ((r 522))))))
theorem vX12_comesToAll_0 : pu_cok2 kX12_comesToAll_0 := fun rf r hr => by
  unfold kX12_comesToAll_0
  exact v_ald (v_ild (v_cv hr (v_pi (v_ist ((hr 522))))))
theorem tX12_comesToAll_0 {X : pu_X} {r : pu_R} (hX : pu_H X mdX12_comesToAll) (hr : pu_P X.2.1 X.2.2.2.2.2.2.2.2.2.2.1 r) (hq : ∀ i pc, pu_lp i = some (348, pc) → pu_S X mdX12_comesToAll pc (r i)) : pu_S X mdX12_comesToAll 0 (kX12_comesToAll_0 r) := by
  unfold kX12_comesToAll_0
  exact z_ald_n hX dX12_comesToAll_0 rfl (z_ild_n hX dX12_comesToAll_1 rfl (z_cv (c := 12) hX hr dX12_comesToAll_2 hjX12_comesTo mwX12_comesTo rfl wm69_4 ⟨wm69_5, wm69_6⟩ ⟨Nat.le_of_ble_eq_true rfl, Nat.le_of_ble_eq_true rfl⟩ (z_iconst hX dX12_comesToAll_5 (by decide) (z_ist_n hX dX12_comesToAll_6 rfl ((hq 522 7 hl522))))))
def kX12_walk_227 (r : pu_R) : pu_K := s_ald 0 (s_gr 12 0 (s_push (.int (12)) (s_ai 1 (s_iret))))
theorem vX12_walk_227 : pu_cok2 kX12_walk_227 := fun rf r hr => by
  unfold kX12_walk_227
  exact v_ald (v_gr (v_pi (v_ai (v_iret))))
theorem tX12_walk_227 {X : pu_X} {r : pu_R} (hX : pu_H X mdX12_walk) (hr : pu_P X.2.1 X.2.2.2.2.2.2.2.2.2.2.1 r) (hq : ∀ i pc, pu_lp i = some (349, pc) → pu_S X mdX12_walk pc (r i)) : pu_S X mdX12_walk 227 (kX12_walk_227 r) := by
  unfold kX12_walk_227
  exact z_ald_n hX dX12_walk_227 rfl (z_gr (c := 12) (j := 0) hX dX12_walk_228 rfl inlX12 wm7_16 ⟨rfl, by decide, rfl⟩ (z_bipush hX dX12_walk_231 (by decide) (z_iald hX dX12_walk_233 (z_iret hX dX12_walk_234 rfl))))
def kX12_walk_221 (r : pu_R) : pu_K := s_inc 2 (1) ((r 525))
theorem vX12_walk_221 : pu_cok2 kX12_walk_221 := fun rf r hr => by
  unfold kX12_walk_221
  exact v_inc ((hr 525))
theorem tX12_walk_221 {X : pu_X} {r : pu_R} (hX : pu_H X mdX12_walk) (hr : pu_P X.2.1 X.2.2.2.2.2.2.2.2.2.2.1 r) (hq : ∀ i pc, pu_lp i = some (349, pc) → pu_S X mdX12_walk pc (r i)) : pu_S X mdX12_walk 221 (kX12_walk_221 r) := by
  unfold kX12_walk_221
  exact z_inc hX dX12_walk_221 (by decide) ((z_goto hX dX12_walk_224 (by decide) (hq 525 28 hl525)))
def kX12_walk_218 (r : pu_R) : pu_K := (r 526)
theorem vX12_walk_218 : pu_cok2 kX12_walk_218 := fun rf r hr => by
  unfold kX12_walk_218
  exact (hr 526)
theorem tX12_walk_218 {X : pu_X} {r : pu_R} (hX : pu_H X mdX12_walk) (hr : pu_P X.2.1 X.2.2.2.2.2.2.2.2.2.2.1 r) (hq : ∀ i pc, pu_lp i = some (349, pc) → pu_S X mdX12_walk pc (r i)) : pu_S X mdX12_walk 218 (kX12_walk_218 r) := by
  unfold kX12_walk_218
  exact (z_goto hX dX12_walk_218 (by decide) (hq 526 75 hl526))
def kX12_walk_204 (r : pu_R) : pu_K := s_ist 5 (s_ild 5 (s_ifeq (kX12_walk_218 r) (s_ald 0 (s_ild 6 (s_ild 1 (s_cv r 348 2 12 ((kX12_walk_218 r))))))))
theorem vX12_walk_204 : pu_cok2 kX12_walk_204 := fun rf r hr => by
  unfold kX12_walk_204
  exact v_ist (v_ild (v_ifeq (vX12_walk_218 rf r hr) (v_ald (v_ild (v_ild (v_cv hr ((vX12_walk_218 rf r hr))))))))
theorem tX12_walk_204 {X : pu_X} {r : pu_R} (hX : pu_H X mdX12_walk) (hr : pu_P X.2.1 X.2.2.2.2.2.2.2.2.2.2.1 r) (hq : ∀ i pc, pu_lp i = some (349, pc) → pu_S X mdX12_walk pc (r i)) : pu_S X mdX12_walk 204 (kX12_walk_204 r) := by
  unfold kX12_walk_204
  exact z_ist hX dX12_walk_204 (z_ild hX dX12_walk_206 (z_ifeq hX dX12_walk_208 (by decide) (tX12_walk_218 hX hr hq) (z_ald_n hX dX12_walk_211 rfl (z_ild hX dX12_walk_212 (z_ild_n hX dX12_walk_214 rfl (z_cv (c := 12) hX hr dX12_walk_215 hjX12_comesToAll mwX12_comesToAll rfl wm69_0 ⟨wm69_1, wm69_2⟩ ⟨Nat.le_of_ble_eq_true rfl, Nat.le_of_ble_eq_true rfl⟩ ((tX12_walk_218 hX hr hq))))))))
def kX12_walk_203 (r : pu_R) : pu_K := s_push (.int (0)) ((kX12_walk_204 r))
theorem vX12_walk_203 : pu_cok2 kX12_walk_203 := fun rf r hr => by
  unfold kX12_walk_203
  exact v_pi ((vX12_walk_204 rf r hr))
theorem tX12_walk_203 {X : pu_X} {r : pu_R} (hX : pu_H X mdX12_walk) (hr : pu_P X.2.1 X.2.2.2.2.2.2.2.2.2.2.1 r) (hq : ∀ i pc, pu_lp i = some (349, pc) → pu_S X mdX12_walk pc (r i)) : pu_S X mdX12_walk 203 (kX12_walk_203 r) := by
  unfold kX12_walk_203
  exact z_iconst hX dX12_walk_203 (by decide) ((tX12_walk_204 hX hr hq))
def kX12_walk_193 (r : pu_R) : pu_K := s_ild 6 (s_push (.int (-1)) (s_iceq (kX12_walk_203 r) (s_push (.int (1)) ((kX12_walk_204 r)))))
theorem vX12_walk_193 : pu_cok2 kX12_walk_193 := fun rf r hr => by
  unfold kX12_walk_193
  exact v_ild (v_pi (v_iceq (vX12_walk_203 rf r hr) (v_pi ((vX12_walk_204 rf r hr)))))
theorem tX12_walk_193 {X : pu_X} {r : pu_R} (hX : pu_H X mdX12_walk) (hr : pu_P X.2.1 X.2.2.2.2.2.2.2.2.2.2.1 r) (hq : ∀ i pc, pu_lp i = some (349, pc) → pu_S X mdX12_walk pc (r i)) : pu_S X mdX12_walk 193 (kX12_walk_193 r) := by
  unfold kX12_walk_193
  exact z_ild hX dX12_walk_193 (z_iconst hX dX12_walk_195 (by decide) (z_iceq hX dX12_walk_196 (by decide) (tX12_walk_203 hX hr hq) (z_iconst hX dX12_walk_199 (by decide) ((z_goto hX dX12_walk_200 (by decide) (tX12_walk_204 hX hr hq))))))
def kX12_walk_187 (r : pu_R) : pu_K := s_inc 8 (1) ((r 527))
theorem vX12_walk_187 : pu_cok2 kX12_walk_187 := fun rf r hr => by
  unfold kX12_walk_187
  exact v_inc ((hr 527))
theorem tX12_walk_187 {X : pu_X} {r : pu_R} (hX : pu_H X mdX12_walk) (hr : pu_P X.2.1 X.2.2.2.2.2.2.2.2.2.2.1 r) (hq : ∀ i pc, pu_lp i = some (349, pc) → pu_S X mdX12_walk pc (r i)) : pu_S X mdX12_walk 187 (kX12_walk_187 r) := by
  unfold kX12_walk_187
  exact z_inc hX dX12_walk_187 (by decide) ((z_goto hX dX12_walk_190 (by decide) (hq 527 89 hl527)))
def kX12_walk_181 (r : pu_R) : pu_K := s_inc 9 (1) ((r 528))
theorem vX12_walk_181 : pu_cok2 kX12_walk_181 := fun rf r hr => by
  unfold kX12_walk_181
  exact v_inc ((hr 528))
theorem tX12_walk_181 {X : pu_X} {r : pu_R} (hX : pu_H X mdX12_walk) (hr : pu_P X.2.1 X.2.2.2.2.2.2.2.2.2.2.1 r) (hq : ∀ i pc, pu_lp i = some (349, pc) → pu_S X mdX12_walk pc (r i)) : pu_S X mdX12_walk 181 (kX12_walk_181 r) := by
  unfold kX12_walk_181
  exact z_inc hX dX12_walk_181 (by decide) ((z_goto hX dX12_walk_184 (by decide) (hq 528 103 hl528)))
def kX12_walk_173 (r : pu_R) : pu_K := s_ild 8 (s_ist 6 (s_ild 10 (s_ist 7 ((kX12_walk_181 r)))))
theorem vX12_walk_173 : pu_cok2 kX12_walk_173 := fun rf r hr => by
  unfold kX12_walk_173
  exact v_ild (v_ist (v_ild (v_ist ((vX12_walk_181 rf r hr)))))
theorem tX12_walk_173 {X : pu_X} {r : pu_R} (hX : pu_H X mdX12_walk) (hr : pu_P X.2.1 X.2.2.2.2.2.2.2.2.2.2.1 r) (hq : ∀ i pc, pu_lp i = some (349, pc) → pu_S X mdX12_walk pc (r i)) : pu_S X mdX12_walk 173 (kX12_walk_173 r) := by
  unfold kX12_walk_173
  exact z_ild hX dX12_walk_173 (z_ist hX dX12_walk_175 (z_ild hX dX12_walk_177 (z_ist hX dX12_walk_179 ((tX12_walk_181 hX hr hq)))))
def kX12_walk_134 (r : pu_R) : pu_K := s_ild 4 (s_ald 0 (s_ild 8 (s_ild 9 (s_cv r 269 2 12 (s_ald 0 (s_ild 8 (s_ild 9 (s_cv r 270 2 12 (s_cs r 345 3 (s_ist 10 (s_ild 6 (s_push (.int (-1)) (s_iceq (kX12_walk_173 r) (s_ild 10 (s_ild 7 (s_iclt (kX12_walk_173 r) ((kX12_walk_181 r))))))))))))))))))
theorem vX12_walk_134 : pu_cok2 kX12_walk_134 := fun rf r hr => by
  unfold kX12_walk_134
  exact v_ild (v_ald (v_ild (v_ild (v_cv hr (v_ald (v_ild (v_ild (v_cv hr (v_cs hr (v_ist (v_ild (v_pi (v_iceq (vX12_walk_173 rf r hr) (v_ild (v_ild (v_iclt (vX12_walk_173 rf r hr) ((vX12_walk_181 rf r hr))))))))))))))))))
theorem tX12_walk_134 {X : pu_X} {r : pu_R} (hX : pu_H X mdX12_walk) (hr : pu_P X.2.1 X.2.2.2.2.2.2.2.2.2.2.1 r) (hq : ∀ i pc, pu_lp i = some (349, pc) → pu_S X mdX12_walk pc (r i)) : pu_S X mdX12_walk 134 (kX12_walk_134 r) := by
  unfold kX12_walk_134
  exact z_ild hX dX12_walk_134 (z_ald_n hX dX12_walk_136 rfl (z_ild hX dX12_walk_137 (z_ild hX dX12_walk_139 (z_cv (c := 12) hX hr dX12_walk_141 hjX12_sideAt mwX12_sideAt rfl wm30_15 ⟨wm30_16, wm30_17⟩ ⟨Nat.le_of_ble_eq_true rfl, Nat.le_of_ble_eq_true rfl⟩ (z_ald_n hX dX12_walk_144 rfl (z_ild hX dX12_walk_145 (z_ild hX dX12_walk_147 (z_cv (c := 12) hX hr dX12_walk_149 hjX12_pacesAt mwX12_pacesAt rfl wm31_6 ⟨wm31_7, wm31_8⟩ ⟨Nat.le_of_ble_eq_true rfl, Nat.le_of_ble_eq_true rfl⟩ (z_cs hX hr dX12_walk_152 hjX12_walkKey mwX12_walkKey wm68_21 wm68_22 ⟨Nat.le_of_ble_eq_true rfl, Nat.le_of_ble_eq_true rfl⟩ (z_ist hX dX12_walk_155 (z_ild hX dX12_walk_157 (z_iconst hX dX12_walk_159 (by decide) (z_iceq hX dX12_walk_160 (by decide) (tX12_walk_173 hX hr hq) (z_ild hX dX12_walk_163 (z_ild hX dX12_walk_165 (z_iclt hX dX12_walk_167 (by decide) (tX12_walk_173 hX hr hq) ((z_goto hX dX12_walk_170 (by decide) (tX12_walk_181 hX hr hq)))))))))))))))))))
def kX12_walk_103 (r : pu_R) : pu_K := s_ild 9 (s_push (.int (2)) (s_icge (kX12_walk_187 r) (s_ald 0 (s_ild 8 (s_ild 9 (s_ild 3 (s_ild 1 (s_cv r 342 4 12 (s_ifeq (kX12_walk_181 r) (s_ald 0 (s_ild 8 (s_cv r 346 1 12 (s_ifeq (kX12_walk_134 r) ((kX12_walk_181 r)))))))))))))))
theorem vX12_walk_103 : pu_cok2 kX12_walk_103 := fun rf r hr => by
  unfold kX12_walk_103
  exact v_ild (v_pi (v_icge (vX12_walk_187 rf r hr) (v_ald (v_ild (v_ild (v_ild (v_ild (v_cv hr (v_ifeq (vX12_walk_181 rf r hr) (v_ald (v_ild (v_cv hr (v_ifeq (vX12_walk_134 rf r hr) ((vX12_walk_181 rf r hr)))))))))))))))
theorem tX12_walk_103 {X : pu_X} {r : pu_R} (hX : pu_H X mdX12_walk) (hr : pu_P X.2.1 X.2.2.2.2.2.2.2.2.2.2.1 r) (hq : ∀ i pc, pu_lp i = some (349, pc) → pu_S X mdX12_walk pc (r i)) : pu_S X mdX12_walk 103 (kX12_walk_103 r) := by
  unfold kX12_walk_103
  exact z_ild hX dX12_walk_103 (z_iconst hX dX12_walk_105 (by decide) (z_icge hX dX12_walk_106 (by decide) (tX12_walk_187 hX hr hq) (z_ald_n hX dX12_walk_109 rfl (z_ild hX dX12_walk_110 (z_ild hX dX12_walk_112 (z_ild_n hX dX12_walk_114 rfl (z_ild_n hX dX12_walk_115 rfl (z_cv (c := 12) hX hr dX12_walk_116 hjX12_isIn mwX12_isIn rfl wm66_7 ⟨wm66_8, wm66_9⟩ ⟨Nat.le_of_ble_eq_true rfl, Nat.le_of_ble_eq_true rfl⟩ (z_ifeq hX dX12_walk_119 (by decide) (tX12_walk_181 hX hr hq) (z_ald_n hX dX12_walk_122 rfl (z_ild hX dX12_walk_123 (z_cv (c := 12) hX hr dX12_walk_125 hjX12_isWalked mwX12_isWalked rfl wm68_16 ⟨wm68_17, wm68_18⟩ ⟨Nat.le_of_ble_eq_true rfl, Nat.le_of_ble_eq_true rfl⟩ (z_ifeq hX dX12_walk_128 (by decide) (tX12_walk_134 hX hr hq) ((z_goto hX dX12_walk_131 (by decide) (tX12_walk_181 hX hr hq))))))))))))))))
def kX12_walk_89 (r : pu_R) : pu_K := s_ild 8 (s_ald 0 (s_gr 12 0 (s_push (.int (4)) (s_ai 1 (s_icge (kX12_walk_193 r) (s_push (.int (0)) (s_ist 9 ((r 528)))))))))
theorem vX12_walk_89 : pu_cok2 kX12_walk_89 := fun rf r hr => by
  unfold kX12_walk_89
  exact v_ild (v_ald (v_gr (v_pi (v_ai (v_icge (vX12_walk_193 rf r hr) (v_pi (v_ist ((hr 528)))))))))
theorem tX12_walk_89 {X : pu_X} {r : pu_R} (hX : pu_H X mdX12_walk) (hr : pu_P X.2.1 X.2.2.2.2.2.2.2.2.2.2.1 r) (hq : ∀ i pc, pu_lp i = some (349, pc) → pu_S X mdX12_walk pc (r i)) : pu_S X mdX12_walk 89 (kX12_walk_89 r) := by
  unfold kX12_walk_89
  exact z_ild hX dX12_walk_89 (z_ald_n hX dX12_walk_91 rfl (z_gr (c := 12) (j := 0) hX dX12_walk_92 rfl inlX12 wm7_16 ⟨rfl, by decide, rfl⟩ (z_iconst hX dX12_walk_95 (by decide) (z_iald hX dX12_walk_96 (z_icge hX dX12_walk_97 (by decide) (tX12_walk_193 hX hr hq) (z_iconst hX dX12_walk_100 (by decide) (z_ist hX dX12_walk_101 ((hq 528 103 hl528)))))))))
def kX12_walk_75 (r : pu_R) : pu_K := s_ild 5 (s_ifeq (kX12_walk_221 r) (s_push (.int (-1)) (s_ist 6 (s_push (.int (0)) (s_ist 7 (s_push (.int (0)) (s_ist 8 ((r 527)))))))))
theorem vX12_walk_75 : pu_cok2 kX12_walk_75 := fun rf r hr => by
  unfold kX12_walk_75
  exact v_ild (v_ifeq (vX12_walk_221 rf r hr) (v_pi (v_ist (v_pi (v_ist (v_pi (v_ist ((hr 527)))))))))
theorem tX12_walk_75 {X : pu_X} {r : pu_R} (hX : pu_H X mdX12_walk) (hr : pu_P X.2.1 X.2.2.2.2.2.2.2.2.2.2.1 r) (hq : ∀ i pc, pu_lp i = some (349, pc) → pu_S X mdX12_walk pc (r i)) : pu_S X mdX12_walk 75 (kX12_walk_75 r) := by
  unfold kX12_walk_75
  exact z_ild hX dX12_walk_75 (z_ifeq hX dX12_walk_77 (by decide) (tX12_walk_221 hX hr hq) (z_iconst hX dX12_walk_80 (by decide) (z_ist hX dX12_walk_81 (z_iconst hX dX12_walk_83 (by decide) (z_ist hX dX12_walk_84 (z_iconst hX dX12_walk_86 (by decide) (z_ist hX dX12_walk_87 ((hq 527 89 hl527)))))))))
def kX12_walk_65 (r : pu_R) : pu_K := s_ai 1 (s_ist 4 (s_ald 0 (s_ild 3 (s_cv r 251 1 12 (s_ist 5 ((r 526)))))))
theorem vX12_walk_65 : pu_cok2 kX12_walk_65 := fun rf r hr => by
  unfold kX12_walk_65
  exact v_ai (v_ist (v_ald (v_ild (v_cv hr (v_ist ((hr 526)))))))
theorem tX12_walk_65 {X : pu_X} {r : pu_R} (hX : pu_H X mdX12_walk) (hr : pu_P X.2.1 X.2.2.2.2.2.2.2.2.2.2.1 r) (hq : ∀ i pc, pu_lp i = some (349, pc) → pu_S X mdX12_walk pc (r i)) : pu_S X mdX12_walk 65 (kX12_walk_65 r) := by
  unfold kX12_walk_65
  exact z_iald hX dX12_walk_65 (z_ist hX dX12_walk_66 (z_ald_n hX dX12_walk_68 rfl (z_ild_n hX dX12_walk_69 rfl (z_cv (c := 12) hX hr dX12_walk_70 hjX12_isStreet mwX12_isStreet rfl wm28_6 ⟨wm28_7, wm28_8⟩ ⟨Nat.le_of_ble_eq_true rfl, Nat.le_of_ble_eq_true rfl⟩ (z_ist hX dX12_walk_73 ((hq 526 75 hl526)))))))
def kX12_walk_28 (r : pu_R) : pu_K := s_ild 2 (s_ald 0 (s_gr 12 0 (s_push (.int (9)) (s_ai 1 (s_icge (kX12_walk_227 r) (s_ald 0 (s_gr 12 0 (s_push (.int (59480)) (s_push (.int (2)) (s_ild 2 (s_imul (s_iadd (s_ai 1 (s_ist 3 (s_ald 0 (s_gr 12 0 (s_push (.int (59480)) (s_push (.int (2)) (s_ild 2 (s_imul (s_iadd (s_push (.int (1)) (s_iadd ((kX12_walk_65 r)))))))))))))))))))))))))
theorem vX12_walk_28 : pu_cok2 kX12_walk_28 := fun rf r hr => by
  unfold kX12_walk_28
  exact v_ild (v_ald (v_gr (v_pi (v_ai (v_icge (vX12_walk_227 rf r hr) (v_ald (v_gr (v_pi (v_pi (v_ild (v_imul (v_iadd (v_ai (v_ist (v_ald (v_gr (v_pi (v_pi (v_ild (v_imul (v_iadd (v_pi (v_iadd ((vX12_walk_65 rf r hr)))))))))))))))))))))))))
theorem tX12_walk_28 {X : pu_X} {r : pu_R} (hX : pu_H X mdX12_walk) (hr : pu_P X.2.1 X.2.2.2.2.2.2.2.2.2.2.1 r) (hq : ∀ i pc, pu_lp i = some (349, pc) → pu_S X mdX12_walk pc (r i)) : pu_S X mdX12_walk 28 (kX12_walk_28 r) := by
  unfold kX12_walk_28
  exact z_ild_n hX dX12_walk_28 rfl (z_ald_n hX dX12_walk_29 rfl (z_gr (c := 12) (j := 0) hX dX12_walk_30 rfl inlX12 wm7_16 ⟨rfl, by decide, rfl⟩ (z_bipush hX dX12_walk_33 (by decide) (z_iald hX dX12_walk_35 (z_icge hX dX12_walk_36 (by decide) (tX12_walk_227 hX hr hq) (z_ald_n hX dX12_walk_39 rfl (z_gr (c := 12) (j := 0) hX dX12_walk_40 rfl inlX12 wm7_16 ⟨rfl, by decide, rfl⟩ (z_ldcw hX dX12_walk_43 wm67_0 (z_iconst hX dX12_walk_46 (by decide) (z_ild_n hX dX12_walk_47 rfl (z_imul hX dX12_walk_48 (z_iadd hX dX12_walk_49 (z_iald hX dX12_walk_50 (z_ist_n hX dX12_walk_51 rfl (z_ald_n hX dX12_walk_52 rfl (z_gr (c := 12) (j := 0) hX dX12_walk_53 rfl inlX12 wm7_16 ⟨rfl, by decide, rfl⟩ (z_ldcw hX dX12_walk_56 wm67_0 (z_iconst hX dX12_walk_59 (by decide) (z_ild_n hX dX12_walk_60 rfl (z_imul hX dX12_walk_61 (z_iadd hX dX12_walk_62 (z_iconst hX dX12_walk_63 (by decide) (z_iadd hX dX12_walk_64 ((tX12_walk_65 hX hr hq)))))))))))))))))))))))))
def kX12_walk_10 (r : pu_R) : pu_K := s_ald 0 (s_gr 12 0 (s_push (.int (12)) (s_push (.int (0)) (s_wi 1 (s_ald 0 (s_gr 12 0 (s_push (.int (17)) (s_push (.int (1)) (s_wi 1 (s_push (.int (0)) (s_ist 2 ((r 525)))))))))))))
theorem vX12_walk_10 : pu_cok2 kX12_walk_10 := fun rf r hr => by
  unfold kX12_walk_10
  exact v_ald (v_gr (v_pi (v_pi (v_wi (v_ald (v_gr (v_pi (v_pi (v_wi (v_pi (v_ist ((hr 525)))))))))))))
theorem tX12_walk_10 {X : pu_X} {r : pu_R} (hX : pu_H X mdX12_walk) (hr : pu_P X.2.1 X.2.2.2.2.2.2.2.2.2.2.1 r) (hq : ∀ i pc, pu_lp i = some (349, pc) → pu_S X mdX12_walk pc (r i)) : pu_S X mdX12_walk 10 (kX12_walk_10 r) := by
  unfold kX12_walk_10
  exact z_ald_n hX dX12_walk_10 rfl (z_gr (c := 12) (j := 0) hX dX12_walk_11 rfl inlX12 wm7_16 ⟨rfl, by decide, rfl⟩ (z_bipush hX dX12_walk_14 (by decide) (z_iconst hX dX12_walk_16 (by decide) (z_iast hX dX12_walk_17 (z_ald_n hX dX12_walk_18 rfl (z_gr (c := 12) (j := 0) hX dX12_walk_19 rfl inlX12 wm7_16 ⟨rfl, by decide, rfl⟩ (z_bipush hX dX12_walk_22 (by decide) (z_iconst hX dX12_walk_24 (by decide) (z_iast hX dX12_walk_25 (z_iconst hX dX12_walk_26 (by decide) (z_ist_n hX dX12_walk_27 rfl ((hq 525 28 hl525)))))))))))))
def kX12_walk_0 (r : pu_R) : pu_K := s_ild 1 (s_cs r 234 1 (s_ifne (kX12_walk_10 r) (s_push (.int (-2)) (s_iret))))
theorem vX12_walk_0 : pu_cok2 kX12_walk_0 := fun rf r hr => by
  unfold kX12_walk_0
  exact v_ild (v_cs hr (v_ifne (vX12_walk_10 rf r hr) (v_pi (v_iret))))
theorem tX12_walk_0 {X : pu_X} {r : pu_R} (hX : pu_H X mdX12_walk) (hr : pu_P X.2.1 X.2.2.2.2.2.2.2.2.2.2.1 r) (hq : ∀ i pc, pu_lp i = some (349, pc) → pu_S X mdX12_walk pc (r i)) : pu_S X mdX12_walk 0 (kX12_walk_0 r) := by
  unfold kX12_walk_0
  exact z_ild_n hX dX12_walk_0 rfl (z_cs hX hr dX12_walk_1 hjX12_isDay mwX12_isDay wm11_5 wm11_6 ⟨Nat.le_of_ble_eq_true rfl, Nat.le_of_ble_eq_true rfl⟩ (z_ifne hX dX12_walk_4 (by decide) (tX12_walk_10 hX hr hq) (z_bipush hX dX12_walk_7 (by decide) (z_iret hX dX12_walk_9 rfl))))
def kX12_walked_29 (r : pu_R) : pu_K := s_iret
theorem vX12_walked_29 : pu_cok2 kX12_walked_29 := fun rf r hr => by
  unfold kX12_walked_29
  exact v_iret
theorem tX12_walked_29 {X : pu_X} {r : pu_R} (hX : pu_H X mdX12_walked) (hr : pu_P X.2.1 X.2.2.2.2.2.2.2.2.2.2.1 r) (hq : ∀ i pc, pu_lp i = some (350, pc) → pu_S X mdX12_walked pc (r i)) : pu_S X mdX12_walked 29 (kX12_walked_29 r) := by
  unfold kX12_walked_29
  exact z_iret hX dX12_walked_29 rfl
def kX12_walked_19 (r : pu_R) : pu_K := s_ald 0 (s_gr 12 0 (s_push (.int (59788)) (s_ild 1 (s_iadd (s_ai 1 ((kX12_walked_29 r)))))))
theorem vX12_walked_19 : pu_cok2 kX12_walked_19 := fun rf r hr => by
  unfold kX12_walked_19
  exact v_ald (v_gr (v_pi (v_ild (v_iadd (v_ai ((vX12_walked_29 rf r hr)))))))
theorem tX12_walked_19 {X : pu_X} {r : pu_R} (hX : pu_H X mdX12_walked) (hr : pu_P X.2.1 X.2.2.2.2.2.2.2.2.2.2.1 r) (hq : ∀ i pc, pu_lp i = some (350, pc) → pu_S X mdX12_walked pc (r i)) : pu_S X mdX12_walked 19 (kX12_walked_19 r) := by
  unfold kX12_walked_19
  exact z_ald_n hX dX12_walked_19 rfl (z_gr (c := 12) (j := 0) hX dX12_walked_20 rfl inlX12 wm7_16 ⟨rfl, by decide, rfl⟩ (z_ldcw hX dX12_walked_23 wm68_20 (z_ild_n hX dX12_walked_26 rfl (z_iadd hX dX12_walked_27 (z_iald hX dX12_walked_28 ((tX12_walked_29 hX hr hq)))))))
def kX12_walked_15 (r : pu_R) : pu_K := s_push (.int (-1)) ((kX12_walked_29 r))
theorem vX12_walked_15 : pu_cok2 kX12_walked_15 := fun rf r hr => by
  unfold kX12_walked_15
  exact v_pi ((vX12_walked_29 rf r hr))
theorem tX12_walked_15 {X : pu_X} {r : pu_R} (hX : pu_H X mdX12_walked) (hr : pu_P X.2.1 X.2.2.2.2.2.2.2.2.2.2.1 r) (hq : ∀ i pc, pu_lp i = some (350, pc) → pu_S X mdX12_walked pc (r i)) : pu_S X mdX12_walked 15 (kX12_walked_15 r) := by
  unfold kX12_walked_15
  exact z_iconst hX dX12_walked_15 (by decide) ((z_goto hX dX12_walked_16 (by decide) (tX12_walked_29 hX hr hq)))
def kX12_walked_0 (r : pu_R) : pu_K := s_ild 1 (s_iflt (kX12_walked_15 r) (s_ild 1 (s_ald 0 (s_gr 12 0 (s_push (.int (12)) (s_ai 1 (s_iclt (kX12_walked_19 r) ((kX12_walked_15 r)))))))))
theorem vX12_walked_0 : pu_cok2 kX12_walked_0 := fun rf r hr => by
  unfold kX12_walked_0
  exact v_ild (v_iflt (vX12_walked_15 rf r hr) (v_ild (v_ald (v_gr (v_pi (v_ai (v_iclt (vX12_walked_19 rf r hr) ((vX12_walked_15 rf r hr)))))))))
theorem tX12_walked_0 {X : pu_X} {r : pu_R} (hX : pu_H X mdX12_walked) (hr : pu_P X.2.1 X.2.2.2.2.2.2.2.2.2.2.1 r) (hq : ∀ i pc, pu_lp i = some (350, pc) → pu_S X mdX12_walked pc (r i)) : pu_S X mdX12_walked 0 (kX12_walked_0 r) := by
  unfold kX12_walked_0
  exact z_ild_n hX dX12_walked_0 rfl (z_iflt hX dX12_walked_1 (by decide) (tX12_walked_15 hX hr hq) (z_ild_n hX dX12_walked_4 rfl (z_ald_n hX dX12_walked_5 rfl (z_gr (c := 12) (j := 0) hX dX12_walked_6 rfl inlX12 wm7_16 ⟨rfl, by decide, rfl⟩ (z_bipush hX dX12_walked_9 (by decide) (z_iald hX dX12_walked_11 (z_iclt hX dX12_walked_12 (by decide) (tX12_walked_19 hX hr hq) ((tX12_walked_15 hX hr hq)))))))))
def kX12_sort_186 (r : pu_R) : pu_K := s_ald 0 (s_gr 12 0 (s_push (.int (13)) (s_ild 1 (s_wi 1 (s_ald 0 (s_gr 12 0 (s_push (.int (10)) (s_push (.int (0)) (s_wi 1 (s_ild 1 (s_iret)))))))))))
theorem vX12_sort_186 : pu_cok2 kX12_sort_186 := fun rf r hr => by
  unfold kX12_sort_186
  exact v_ald (v_gr (v_pi (v_ild (v_wi (v_ald (v_gr (v_pi (v_pi (v_wi (v_ild (v_iret)))))))))))
theorem tX12_sort_186 {X : pu_X} {r : pu_R} (hX : pu_H X mdX12_sort) (hr : pu_P X.2.1 X.2.2.2.2.2.2.2.2.2.2.1 r) (hq : ∀ i pc, pu_lp i = some (351, pc) → pu_S X mdX12_sort pc (r i)) : pu_S X mdX12_sort 186 (kX12_sort_186 r) := by
  unfold kX12_sort_186
  exact z_ald_n hX dX12_sort_186 rfl (z_gr (c := 12) (j := 0) hX dX12_sort_187 rfl inlX12 wm7_16 ⟨rfl, by decide, rfl⟩ (z_bipush hX dX12_sort_190 (by decide) (z_ild_n hX dX12_sort_192 rfl (z_iast hX dX12_sort_193 (z_ald_n hX dX12_sort_194 rfl (z_gr (c := 12) (j := 0) hX dX12_sort_195 rfl inlX12 wm7_16 ⟨rfl, by decide, rfl⟩ (z_bipush hX dX12_sort_198 (by decide) (z_iconst hX dX12_sort_200 (by decide) (z_iast hX dX12_sort_201 (z_ild_n hX dX12_sort_202 rfl (z_iret hX dX12_sort_203 rfl)))))))))))
def kX12_sort_180 (r : pu_R) : pu_K := s_inc 3 (1) ((r 531))
theorem vX12_sort_180 : pu_cok2 kX12_sort_180 := fun rf r hr => by
  unfold kX12_sort_180
  exact v_inc ((hr 531))
theorem tX12_sort_180 {X : pu_X} {r : pu_R} (hX : pu_H X mdX12_sort) (hr : pu_P X.2.1 X.2.2.2.2.2.2.2.2.2.2.1 r) (hq : ∀ i pc, pu_lp i = some (351, pc) → pu_S X mdX12_sort pc (r i)) : pu_S X mdX12_sort 180 (kX12_sort_180 r) := by
  unfold kX12_sort_180
  exact z_inc hX dX12_sort_180 (by decide) ((z_goto hX dX12_sort_183 (by decide) (hq 531 115 hl531)))
def kX12_sort_176 (r : pu_R) : pu_K := s_wi 1 (s_inc 2 (1) ((kX12_sort_180 r)))
theorem vX12_sort_176 : pu_cok2 kX12_sort_176 := fun rf r hr => by
  unfold kX12_sort_176
  exact v_wi (v_inc ((vX12_sort_180 rf r hr)))
theorem tX12_sort_176 {X : pu_X} {r : pu_R} (hX : pu_H X mdX12_sort) (hr : pu_P X.2.1 X.2.2.2.2.2.2.2.2.2.2.1 r) (hq : ∀ i pc, pu_lp i = some (351, pc) → pu_S X mdX12_sort pc (r i)) : pu_S X mdX12_sort 176 (kX12_sort_176 r) := by
  unfold kX12_sort_176
  exact z_iast hX dX12_sort_176 (z_inc hX dX12_sort_177 (by decide) ((tX12_sort_180 hX hr hq)))
def kX12_sort_140 (r : pu_R) : pu_K := s_ald 0 (s_gr 12 0 (s_push (.int (59888)) (s_push (.int (2)) (s_ild 2 (s_imul (s_iadd (s_ild 3 (s_wi 1 (s_ald 0 (s_gr 12 0 (s_push (.int (59888)) (s_push (.int (2)) (s_ild 2 (s_imul (s_iadd (s_push (.int (1)) (s_iadd (s_ald 0 (s_gr 12 0 (s_push (.int (59528)) (s_ild 3 (s_iadd (s_ai 1 ((kX12_sort_176 r)))))))))))))))))))))))))
theorem vX12_sort_140 : pu_cok2 kX12_sort_140 := fun rf r hr => by
  unfold kX12_sort_140
  exact v_ald (v_gr (v_pi (v_pi (v_ild (v_imul (v_iadd (v_ild (v_wi (v_ald (v_gr (v_pi (v_pi (v_ild (v_imul (v_iadd (v_pi (v_iadd (v_ald (v_gr (v_pi (v_ild (v_iadd (v_ai ((vX12_sort_176 rf r hr)))))))))))))))))))))))))
theorem tX12_sort_140 {X : pu_X} {r : pu_R} (hX : pu_H X mdX12_sort) (hr : pu_P X.2.1 X.2.2.2.2.2.2.2.2.2.2.1 r) (hq : ∀ i pc, pu_lp i = some (351, pc) → pu_S X mdX12_sort pc (r i)) : pu_S X mdX12_sort 140 (kX12_sort_140 r) := by
  unfold kX12_sort_140
  exact z_ald_n hX dX12_sort_140 rfl (z_gr (c := 12) (j := 0) hX dX12_sort_141 rfl inlX12 wm7_16 ⟨rfl, by decide, rfl⟩ (z_ldcw hX dX12_sort_144 wm71_4 (z_iconst hX dX12_sort_147 (by decide) (z_ild_n hX dX12_sort_148 rfl (z_imul hX dX12_sort_149 (z_iadd hX dX12_sort_150 (z_ild_n hX dX12_sort_151 rfl (z_iast hX dX12_sort_152 (z_ald_n hX dX12_sort_153 rfl (z_gr (c := 12) (j := 0) hX dX12_sort_154 rfl inlX12 wm7_16 ⟨rfl, by decide, rfl⟩ (z_ldcw hX dX12_sort_157 wm71_4 (z_iconst hX dX12_sort_160 (by decide) (z_ild_n hX dX12_sort_161 rfl (z_imul hX dX12_sort_162 (z_iadd hX dX12_sort_163 (z_iconst hX dX12_sort_164 (by decide) (z_iadd hX dX12_sort_165 (z_ald_n hX dX12_sort_166 rfl (z_gr (c := 12) (j := 0) hX dX12_sort_167 rfl inlX12 wm7_16 ⟨rfl, by decide, rfl⟩ (z_ldcw hX dX12_sort_170 wm70_6 (z_ild_n hX dX12_sort_173 rfl (z_iadd hX dX12_sort_174 (z_iald hX dX12_sort_175 ((tX12_sort_176 hX hr hq)))))))))))))))))))))))))
def kX12_sort_115 (r : pu_R) : pu_K := s_ild 3 (s_ild 1 (s_icge (kX12_sort_186 r) (s_ald 0 (s_ald 0 (s_gr 12 0 (s_push (.int (59528)) (s_ild 3 (s_iadd (s_ai 1 (s_cv r 346 1 12 (s_ifeq (kX12_sort_140 r) ((kX12_sort_180 r)))))))))))))
theorem vX12_sort_115 : pu_cok2 kX12_sort_115 := fun rf r hr => by
  unfold kX12_sort_115
  exact v_ild (v_ild (v_icge (vX12_sort_186 rf r hr) (v_ald (v_ald (v_gr (v_pi (v_ild (v_iadd (v_ai (v_cv hr (v_ifeq (vX12_sort_140 rf r hr) ((vX12_sort_180 rf r hr)))))))))))))
theorem tX12_sort_115 {X : pu_X} {r : pu_R} (hX : pu_H X mdX12_sort) (hr : pu_P X.2.1 X.2.2.2.2.2.2.2.2.2.2.1 r) (hq : ∀ i pc, pu_lp i = some (351, pc) → pu_S X mdX12_sort pc (r i)) : pu_S X mdX12_sort 115 (kX12_sort_115 r) := by
  unfold kX12_sort_115
  exact z_ild_n hX dX12_sort_115 rfl (z_ild_n hX dX12_sort_116 rfl (z_icge hX dX12_sort_117 (by decide) (tX12_sort_186 hX hr hq) (z_ald_n hX dX12_sort_120 rfl (z_ald_n hX dX12_sort_121 rfl (z_gr (c := 12) (j := 0) hX dX12_sort_122 rfl inlX12 wm7_16 ⟨rfl, by decide, rfl⟩ (z_ldcw hX dX12_sort_125 wm70_6 (z_ild_n hX dX12_sort_128 rfl (z_iadd hX dX12_sort_129 (z_iald hX dX12_sort_130 (z_cv (c := 12) hX hr dX12_sort_131 hjX12_isWalked mwX12_isWalked rfl wm68_16 ⟨wm68_17, wm68_18⟩ ⟨Nat.le_of_ble_eq_true rfl, Nat.le_of_ble_eq_true rfl⟩ (z_ifeq hX dX12_sort_134 (by decide) (tX12_sort_140 hX hr hq) ((z_goto hX dX12_sort_137 (by decide) (tX12_sort_180 hX hr hq))))))))))))))
def kX12_sort_113 (r : pu_R) : pu_K := s_push (.int (0)) (s_ist 3 ((r 531)))
theorem vX12_sort_113 : pu_cok2 kX12_sort_113 := fun rf r hr => by
  unfold kX12_sort_113
  exact v_pi (v_ist ((hr 531)))
theorem tX12_sort_113 {X : pu_X} {r : pu_R} (hX : pu_H X mdX12_sort) (hr : pu_P X.2.1 X.2.2.2.2.2.2.2.2.2.2.1 r) (hq : ∀ i pc, pu_lp i = some (351, pc) → pu_S X mdX12_sort pc (r i)) : pu_S X mdX12_sort 113 (kX12_sort_113 r) := by
  unfold kX12_sort_113
  exact z_iconst hX dX12_sort_113 (by decide) (z_ist_n hX dX12_sort_114 rfl ((hq 531 115 hl531)))
def kX12_sort_107 (r : pu_R) : pu_K := s_inc 3 (1) ((r 529))
theorem vX12_sort_107 : pu_cok2 kX12_sort_107 := fun rf r hr => by
  unfold kX12_sort_107
  exact v_inc ((hr 529))
theorem tX12_sort_107 {X : pu_X} {r : pu_R} (hX : pu_H X mdX12_sort) (hr : pu_P X.2.1 X.2.2.2.2.2.2.2.2.2.2.1 r) (hq : ∀ i pc, pu_lp i = some (351, pc) → pu_S X mdX12_sort pc (r i)) : pu_S X mdX12_sort 107 (kX12_sort_107 r) := by
  unfold kX12_sort_107
  exact z_inc hX dX12_sort_107 (by decide) ((z_goto hX dX12_sort_110 (by decide) (hq 529 12 hl529)))
def kX12_sort_101 (r : pu_R) : pu_K := s_inc 4 (1) ((r 530))
theorem vX12_sort_101 : pu_cok2 kX12_sort_101 := fun rf r hr => by
  unfold kX12_sort_101
  exact v_inc ((hr 530))
theorem tX12_sort_101 {X : pu_X} {r : pu_R} (hX : pu_H X mdX12_sort) (hr : pu_P X.2.1 X.2.2.2.2.2.2.2.2.2.2.1 r) (hq : ∀ i pc, pu_lp i = some (351, pc) → pu_S X mdX12_sort pc (r i)) : pu_S X mdX12_sort 101 (kX12_sort_101 r) := by
  unfold kX12_sort_101
  exact z_inc hX dX12_sort_101 (by decide) ((z_goto hX dX12_sort_104 (by decide) (hq 530 26 hl530)))
def kX12_sort_97 (r : pu_R) : pu_K := s_wi 1 (s_inc 2 (1) ((kX12_sort_101 r)))
theorem vX12_sort_97 : pu_cok2 kX12_sort_97 := fun rf r hr => by
  unfold kX12_sort_97
  exact v_wi (v_inc ((vX12_sort_101 rf r hr)))
theorem tX12_sort_97 {X : pu_X} {r : pu_R} (hX : pu_H X mdX12_sort) (hr : pu_P X.2.1 X.2.2.2.2.2.2.2.2.2.2.1 r) (hq : ∀ i pc, pu_lp i = some (351, pc) → pu_S X mdX12_sort pc (r i)) : pu_S X mdX12_sort 97 (kX12_sort_97 r) := by
  unfold kX12_sort_97
  exact z_iast hX dX12_sort_97 (z_inc hX dX12_sort_98 (by decide) ((tX12_sort_101 hX hr hq)))
def kX12_sort_59 (r : pu_R) : pu_K := s_ald 0 (s_gr 12 0 (s_push (.int (59888)) (s_push (.int (2)) (s_ild 2 (s_imul (s_iadd (s_ild 4 (s_wi 1 (s_ald 0 (s_gr 12 0 (s_push (.int (59888)) (s_push (.int (2)) (s_ild 2 (s_imul (s_iadd (s_push (.int (1)) (s_iadd (s_ald 0 (s_gr 12 0 (s_push (.int (59528)) (s_ild 4 (s_iadd (s_ai 1 ((kX12_sort_97 r)))))))))))))))))))))))))
theorem vX12_sort_59 : pu_cok2 kX12_sort_59 := fun rf r hr => by
  unfold kX12_sort_59
  exact v_ald (v_gr (v_pi (v_pi (v_ild (v_imul (v_iadd (v_ild (v_wi (v_ald (v_gr (v_pi (v_pi (v_ild (v_imul (v_iadd (v_pi (v_iadd (v_ald (v_gr (v_pi (v_ild (v_iadd (v_ai ((vX12_sort_97 rf r hr)))))))))))))))))))))))))
theorem tX12_sort_59 {X : pu_X} {r : pu_R} (hX : pu_H X mdX12_sort) (hr : pu_P X.2.1 X.2.2.2.2.2.2.2.2.2.2.1 r) (hq : ∀ i pc, pu_lp i = some (351, pc) → pu_S X mdX12_sort pc (r i)) : pu_S X mdX12_sort 59 (kX12_sort_59 r) := by
  unfold kX12_sort_59
  exact z_ald_n hX dX12_sort_59 rfl (z_gr (c := 12) (j := 0) hX dX12_sort_60 rfl inlX12 wm7_16 ⟨rfl, by decide, rfl⟩ (z_ldcw hX dX12_sort_63 wm71_4 (z_iconst hX dX12_sort_66 (by decide) (z_ild_n hX dX12_sort_67 rfl (z_imul hX dX12_sort_68 (z_iadd hX dX12_sort_69 (z_ild hX dX12_sort_70 (z_iast hX dX12_sort_72 (z_ald_n hX dX12_sort_73 rfl (z_gr (c := 12) (j := 0) hX dX12_sort_74 rfl inlX12 wm7_16 ⟨rfl, by decide, rfl⟩ (z_ldcw hX dX12_sort_77 wm71_4 (z_iconst hX dX12_sort_80 (by decide) (z_ild_n hX dX12_sort_81 rfl (z_imul hX dX12_sort_82 (z_iadd hX dX12_sort_83 (z_iconst hX dX12_sort_84 (by decide) (z_iadd hX dX12_sort_85 (z_ald_n hX dX12_sort_86 rfl (z_gr (c := 12) (j := 0) hX dX12_sort_87 rfl inlX12 wm7_16 ⟨rfl, by decide, rfl⟩ (z_ldcw hX dX12_sort_90 wm70_6 (z_ild hX dX12_sort_93 (z_iadd hX dX12_sort_95 (z_iald hX dX12_sort_96 ((tX12_sort_97 hX hr hq)))))))))))))))))))))))))
def kX12_sort_26 (r : pu_R) : pu_K := s_ild 4 (s_ild 1 (s_icge (kX12_sort_107 r) (s_ald 0 (s_gr 12 0 (s_push (.int (59528)) (s_ild 4 (s_iadd (s_ai 1 (s_ald 0 (s_gr 12 0 (s_push (.int (59788)) (s_ild 3 (s_iadd (s_ai 1 (s_iceq (kX12_sort_59 r) ((kX12_sort_101 r)))))))))))))))))
theorem vX12_sort_26 : pu_cok2 kX12_sort_26 := fun rf r hr => by
  unfold kX12_sort_26
  exact v_ild (v_ild (v_icge (vX12_sort_107 rf r hr) (v_ald (v_gr (v_pi (v_ild (v_iadd (v_ai (v_ald (v_gr (v_pi (v_ild (v_iadd (v_ai (v_iceq (vX12_sort_59 rf r hr) ((vX12_sort_101 rf r hr)))))))))))))))))
theorem tX12_sort_26 {X : pu_X} {r : pu_R} (hX : pu_H X mdX12_sort) (hr : pu_P X.2.1 X.2.2.2.2.2.2.2.2.2.2.1 r) (hq : ∀ i pc, pu_lp i = some (351, pc) → pu_S X mdX12_sort pc (r i)) : pu_S X mdX12_sort 26 (kX12_sort_26 r) := by
  unfold kX12_sort_26
  exact z_ild hX dX12_sort_26 (z_ild_n hX dX12_sort_28 rfl (z_icge hX dX12_sort_29 (by decide) (tX12_sort_107 hX hr hq) (z_ald_n hX dX12_sort_32 rfl (z_gr (c := 12) (j := 0) hX dX12_sort_33 rfl inlX12 wm7_16 ⟨rfl, by decide, rfl⟩ (z_ldcw hX dX12_sort_36 wm70_6 (z_ild hX dX12_sort_39 (z_iadd hX dX12_sort_41 (z_iald hX dX12_sort_42 (z_ald_n hX dX12_sort_43 rfl (z_gr (c := 12) (j := 0) hX dX12_sort_44 rfl inlX12 wm7_16 ⟨rfl, by decide, rfl⟩ (z_ldcw hX dX12_sort_47 wm68_20 (z_ild_n hX dX12_sort_50 rfl (z_iadd hX dX12_sort_51 (z_iald hX dX12_sort_52 (z_iceq hX dX12_sort_53 (by decide) (tX12_sort_59 hX hr hq) ((z_goto hX dX12_sort_56 (by decide) (tX12_sort_101 hX hr hq))))))))))))))))))
def kX12_sort_12 (r : pu_R) : pu_K := s_ild 3 (s_ald 0 (s_gr 12 0 (s_push (.int (12)) (s_ai 1 (s_icge (kX12_sort_113 r) (s_push (.int (0)) (s_ist 4 ((r 530)))))))))
theorem vX12_sort_12 : pu_cok2 kX12_sort_12 := fun rf r hr => by
  unfold kX12_sort_12
  exact v_ild (v_ald (v_gr (v_pi (v_ai (v_icge (vX12_sort_113 rf r hr) (v_pi (v_ist ((hr 530)))))))))
theorem tX12_sort_12 {X : pu_X} {r : pu_R} (hX : pu_H X mdX12_sort) (hr : pu_P X.2.1 X.2.2.2.2.2.2.2.2.2.2.1 r) (hq : ∀ i pc, pu_lp i = some (351, pc) → pu_S X mdX12_sort pc (r i)) : pu_S X mdX12_sort 12 (kX12_sort_12 r) := by
  unfold kX12_sort_12
  exact z_ild_n hX dX12_sort_12 rfl (z_ald_n hX dX12_sort_13 rfl (z_gr (c := 12) (j := 0) hX dX12_sort_14 rfl inlX12 wm7_16 ⟨rfl, by decide, rfl⟩ (z_bipush hX dX12_sort_17 (by decide) (z_iald hX dX12_sort_19 (z_icge hX dX12_sort_20 (by decide) (tX12_sort_113 hX hr hq) (z_iconst hX dX12_sort_23 (by decide) (z_ist hX dX12_sort_24 ((hq 530 26 hl530)))))))))
def kX12_sort_0 (r : pu_R) : pu_K := s_ald 0 (s_gr 12 0 (s_push (.int (10)) (s_ai 1 (s_ist 1 (s_push (.int (0)) (s_ist 2 (s_push (.int (0)) (s_ist 3 ((r 529))))))))))
theorem vX12_sort_0 : pu_cok2 kX12_sort_0 := fun rf r hr => by
  unfold kX12_sort_0
  exact v_ald (v_gr (v_pi (v_ai (v_ist (v_pi (v_ist (v_pi (v_ist ((hr 529))))))))))
theorem tX12_sort_0 {X : pu_X} {r : pu_R} (hX : pu_H X mdX12_sort) (hr : pu_P X.2.1 X.2.2.2.2.2.2.2.2.2.2.1 r) (hq : ∀ i pc, pu_lp i = some (351, pc) → pu_S X mdX12_sort pc (r i)) : pu_S X mdX12_sort 0 (kX12_sort_0 r) := by
  unfold kX12_sort_0
  exact z_ald_n hX dX12_sort_0 rfl (z_gr (c := 12) (j := 0) hX dX12_sort_1 rfl inlX12 wm7_16 ⟨rfl, by decide, rfl⟩ (z_bipush hX dX12_sort_4 (by decide) (z_iald hX dX12_sort_6 (z_ist_n hX dX12_sort_7 rfl (z_iconst hX dX12_sort_8 (by decide) (z_ist_n hX dX12_sort_9 rfl (z_iconst hX dX12_sort_10 (by decide) (z_ist_n hX dX12_sort_11 rfl ((hq 529 12 hl529))))))))))
def kX12_sorted_42 (r : pu_R) : pu_K := s_iret
theorem vX12_sorted_42 : pu_cok2 kX12_sorted_42 := fun rf r hr => by
  unfold kX12_sorted_42
  exact v_iret
theorem tX12_sorted_42 {X : pu_X} {r : pu_R} (hX : pu_H X mdX12_sorted) (hr : pu_P X.2.1 X.2.2.2.2.2.2.2.2.2.2.1 r) (hq : ∀ i pc, pu_lp i = some (352, pc) → pu_S X mdX12_sorted pc (r i)) : pu_S X mdX12_sorted 42 (kX12_sorted_42 r) := by
  unfold kX12_sorted_42
  exact z_iret hX dX12_sorted_42 rfl
def kX12_sorted_28 (r : pu_R) : pu_K := s_ald 0 (s_gr 12 0 (s_push (.int (59888)) (s_push (.int (2)) (s_ild 1 (s_imul (s_iadd (s_ild 2 (s_iadd (s_ai 1 ((kX12_sorted_42 r)))))))))))
theorem vX12_sorted_28 : pu_cok2 kX12_sorted_28 := fun rf r hr => by
  unfold kX12_sorted_28
  exact v_ald (v_gr (v_pi (v_pi (v_ild (v_imul (v_iadd (v_ild (v_iadd (v_ai ((vX12_sorted_42 rf r hr)))))))))))
theorem tX12_sorted_28 {X : pu_X} {r : pu_R} (hX : pu_H X mdX12_sorted) (hr : pu_P X.2.1 X.2.2.2.2.2.2.2.2.2.2.1 r) (hq : ∀ i pc, pu_lp i = some (352, pc) → pu_S X mdX12_sorted pc (r i)) : pu_S X mdX12_sorted 28 (kX12_sorted_28 r) := by
  unfold kX12_sorted_28
  exact z_ald_n hX dX12_sorted_28 rfl (z_gr (c := 12) (j := 0) hX dX12_sorted_29 rfl inlX12 wm7_16 ⟨rfl, by decide, rfl⟩ (z_ldcw hX dX12_sorted_32 wm71_4 (z_iconst hX dX12_sorted_35 (by decide) (z_ild_n hX dX12_sorted_36 rfl (z_imul hX dX12_sorted_37 (z_iadd hX dX12_sorted_38 (z_ild_n hX dX12_sorted_39 rfl (z_iadd hX dX12_sorted_40 (z_iald hX dX12_sorted_41 ((tX12_sorted_42 hX hr hq)))))))))))
def kX12_sorted_24 (r : pu_R) : pu_K := s_push (.int (-1)) ((kX12_sorted_42 r))
theorem vX12_sorted_24 : pu_cok2 kX12_sorted_24 := fun rf r hr => by
  unfold kX12_sorted_24
  exact v_pi ((vX12_sorted_42 rf r hr))
theorem tX12_sorted_24 {X : pu_X} {r : pu_R} (hX : pu_H X mdX12_sorted) (hr : pu_P X.2.1 X.2.2.2.2.2.2.2.2.2.2.1 r) (hq : ∀ i pc, pu_lp i = some (352, pc) → pu_S X mdX12_sorted pc (r i)) : pu_S X mdX12_sorted 24 (kX12_sorted_24 r) := by
  unfold kX12_sorted_24
  exact z_iconst hX dX12_sorted_24 (by decide) ((z_goto hX dX12_sorted_25 (by decide) (tX12_sorted_42 hX hr hq)))
def kX12_sorted_0 (r : pu_R) : pu_K := s_ild 1 (s_iflt (kX12_sorted_24 r) (s_ild 1 (s_ald 0 (s_gr 12 0 (s_push (.int (13)) (s_ai 1 (s_icge (kX12_sorted_24 r) (s_ild 2 (s_iflt (kX12_sorted_24 r) (s_ild 2 (s_push (.int (1)) (s_icle (kX12_sorted_28 r) ((kX12_sorted_24 r))))))))))))))
theorem vX12_sorted_0 : pu_cok2 kX12_sorted_0 := fun rf r hr => by
  unfold kX12_sorted_0
  exact v_ild (v_iflt (vX12_sorted_24 rf r hr) (v_ild (v_ald (v_gr (v_pi (v_ai (v_icge (vX12_sorted_24 rf r hr) (v_ild (v_iflt (vX12_sorted_24 rf r hr) (v_ild (v_pi (v_icle (vX12_sorted_28 rf r hr) ((vX12_sorted_24 rf r hr))))))))))))))
theorem tX12_sorted_0 {X : pu_X} {r : pu_R} (hX : pu_H X mdX12_sorted) (hr : pu_P X.2.1 X.2.2.2.2.2.2.2.2.2.2.1 r) (hq : ∀ i pc, pu_lp i = some (352, pc) → pu_S X mdX12_sorted pc (r i)) : pu_S X mdX12_sorted 0 (kX12_sorted_0 r) := by
  unfold kX12_sorted_0
  exact z_ild_n hX dX12_sorted_0 rfl (z_iflt hX dX12_sorted_1 (by decide) (tX12_sorted_24 hX hr hq) (z_ild_n hX dX12_sorted_4 rfl (z_ald_n hX dX12_sorted_5 rfl (z_gr (c := 12) (j := 0) hX dX12_sorted_6 rfl inlX12 wm7_16 ⟨rfl, by decide, rfl⟩ (z_bipush hX dX12_sorted_9 (by decide) (z_iald hX dX12_sorted_11 (z_icge hX dX12_sorted_12 (by decide) (tX12_sorted_24 hX hr hq) (z_ild_n hX dX12_sorted_15 rfl (z_iflt hX dX12_sorted_16 (by decide) (tX12_sorted_24 hX hr hq) (z_ild_n hX dX12_sorted_19 rfl (z_iconst hX dX12_sorted_20 (by decide) (z_icle hX dX12_sorted_21 (by decide) (tX12_sorted_28 hX hr hq) ((tX12_sorted_24 hX hr hq))))))))))))))
def kX12_listed_21 (r : pu_R) : pu_K := s_ald 0 (s_ild 1 (s_ild 2 (s_ild 3 (s_cv r 332 3 12 (s_iret)))))
theorem vX12_listed_21 : pu_cok2 kX12_listed_21 := fun rf r hr => by
  unfold kX12_listed_21
  exact v_ald (v_ild (v_ild (v_ild (v_cv hr (v_iret)))))
theorem tX12_listed_21 {X : pu_X} {r : pu_R} (hX : pu_H X mdX12_listed) (hr : pu_P X.2.1 X.2.2.2.2.2.2.2.2.2.2.1 r) (hq : ∀ i pc, pu_lp i = some (353, pc) → pu_S X mdX12_listed pc (r i)) : pu_S X mdX12_listed 21 (kX12_listed_21 r) := by
  unfold kX12_listed_21
  exact z_ald_n hX dX12_listed_21 rfl (z_ild_n hX dX12_listed_22 rfl (z_ild_n hX dX12_listed_23 rfl (z_ild_n hX dX12_listed_24 rfl (z_cv (c := 12) hX hr dX12_listed_25 hjX12_spanOn mwX12_spanOn rfl wm49_3 ⟨wm49_4, wm49_5⟩ ⟨Nat.le_of_ble_eq_true rfl, Nat.le_of_ble_eq_true rfl⟩ (z_iret hX dX12_listed_28 rfl)))))
def kX12_listed_19 (r : pu_R) : pu_K := s_push (.int (-1)) (s_iret)
theorem vX12_listed_19 : pu_cok2 kX12_listed_19 := fun rf r hr => by
  unfold kX12_listed_19
  exact v_pi (v_iret)
theorem tX12_listed_19 {X : pu_X} {r : pu_R} (hX : pu_H X mdX12_listed) (hr : pu_P X.2.1 X.2.2.2.2.2.2.2.2.2.2.1 r) (hq : ∀ i pc, pu_lp i = some (353, pc) → pu_S X mdX12_listed pc (r i)) : pu_S X mdX12_listed 19 (kX12_listed_19 r) := by
  unfold kX12_listed_19
  exact z_iconst hX dX12_listed_19 (by decide) (z_iret hX dX12_listed_20 rfl)
def kX12_listed_0 (r : pu_R) : pu_K := s_ald 0 (s_ild 1 (s_push (.int (0)) (s_cv r 265 2 12 (s_push (.int (1)) (s_icgt (kX12_listed_19 r) (s_ald 0 (s_ild 1 (s_ild 3 (s_cv r 315 2 12 (s_ifne (kX12_listed_21 r) ((kX12_listed_19 r))))))))))))
theorem vX12_listed_0 : pu_cok2 kX12_listed_0 := fun rf r hr => by
  unfold kX12_listed_0
  exact v_ald (v_ild (v_pi (v_cv hr (v_pi (v_icgt (vX12_listed_19 rf r hr) (v_ald (v_ild (v_ild (v_cv hr (v_ifne (vX12_listed_21 rf r hr) ((vX12_listed_19 rf r hr))))))))))))
theorem tX12_listed_0 {X : pu_X} {r : pu_R} (hX : pu_H X mdX12_listed) (hr : pu_P X.2.1 X.2.2.2.2.2.2.2.2.2.2.1 r) (hq : ∀ i pc, pu_lp i = some (353, pc) → pu_S X mdX12_listed pc (r i)) : pu_S X mdX12_listed 0 (kX12_listed_0 r) := by
  unfold kX12_listed_0
  exact z_ald_n hX dX12_listed_0 rfl (z_ild_n hX dX12_listed_1 rfl (z_iconst hX dX12_listed_2 (by decide) (z_cv (c := 12) hX hr dX12_listed_3 hjX12_of mwX12_of rfl wm30_3 ⟨wm30_4, wm30_5⟩ ⟨Nat.le_of_ble_eq_true rfl, Nat.le_of_ble_eq_true rfl⟩ (z_iconst hX dX12_listed_6 (by decide) (z_icgt hX dX12_listed_7 (by decide) (tX12_listed_19 hX hr hq) (z_ald_n hX dX12_listed_10 rfl (z_ild_n hX dX12_listed_11 rfl (z_ild_n hX dX12_listed_12 rfl (z_cv (c := 12) hX hr dX12_listed_13 hjX12_standsOn mwX12_standsOn rfl wm47_18 ⟨wm47_19, wm47_20⟩ ⟨Nat.le_of_ble_eq_true rfl, Nat.le_of_ble_eq_true rfl⟩ (z_ifne hX dX12_listed_16 (by decide) (tX12_listed_21 hX hr hq) ((tX12_listed_19 hX hr hq))))))))))))
def kX12_list_136 (r : pu_R) : pu_K := s_ald 0 (s_gi 12 8 (s_iret))
theorem vX12_list_136 : pu_cok2 kX12_list_136 := fun rf r hr => by
  unfold kX12_list_136
  exact v_ald (v_gi (v_iret))
theorem tX12_list_136 {X : pu_X} {r : pu_R} (hX : pu_H X mdX12_list) (hr : pu_P X.2.1 X.2.2.2.2.2.2.2.2.2.2.1 r) (hq : ∀ i pc, pu_lp i = some (354, pc) → pu_S X mdX12_list pc (r i)) : pu_S X mdX12_list 136 (kX12_list_136 r) := by
  unfold kX12_list_136
  exact z_ald_n hX dX12_list_136 rfl (z_gi (c := 12) (j := 8) hX dX12_list_137 rfl inlX12 wm8_3 ⟨rfl, by decide, rfl⟩ (z_iret hX dX12_list_140 rfl))
def kX12_list_130 (r : pu_R) : pu_K := s_inc 2 (1) ((r 532))
theorem vX12_list_130 : pu_cok2 kX12_list_130 := fun rf r hr => by
  unfold kX12_list_130
  exact v_inc ((hr 532))
theorem tX12_list_130 {X : pu_X} {r : pu_R} (hX : pu_H X mdX12_list) (hr : pu_P X.2.1 X.2.2.2.2.2.2.2.2.2.2.1 r) (hq : ∀ i pc, pu_lp i = some (354, pc) → pu_S X mdX12_list pc (r i)) : pu_S X mdX12_list 130 (kX12_list_130 r) := by
  unfold kX12_list_130
  exact z_inc hX dX12_list_130 (by decide) ((z_goto hX dX12_list_133 (by decide) (hq 532 17 hl532)))
def kX12_list_124 (r : pu_R) : pu_K := s_inc 3 (1) ((r 533))
theorem vX12_list_124 : pu_cok2 kX12_list_124 := fun rf r hr => by
  unfold kX12_list_124
  exact v_inc ((hr 533))
theorem tX12_list_124 {X : pu_X} {r : pu_R} (hX : pu_H X mdX12_list) (hr : pu_P X.2.1 X.2.2.2.2.2.2.2.2.2.2.1 r) (hq : ∀ i pc, pu_lp i = some (354, pc) → pu_S X mdX12_list pc (r i)) : pu_S X mdX12_list 124 (kX12_list_124 r) := by
  unfold kX12_list_124
  exact z_inc hX dX12_list_124 (by decide) ((z_goto hX dX12_list_127 (by decide) (hq 533 29 hl533)))
def kX12_list_91 (r : pu_R) : pu_K := s_ai 1 (s_cv r 334 1 12 (s_ald 0 (s_ild 3 (s_cv r 334 1 12 (s_ald 0 (s_ild 5 (s_push (.int (16)) (s_ishr (s_cv r 334 1 12 (s_ald 0 (s_ild 5 (s_push (.int (8)) (s_ishr (s_cv r 334 1 12 (s_ald 0 (s_ild 5 (s_cv r 334 1 12 ((kX12_list_124 r)))))))))))))))))))
theorem vX12_list_91 : pu_cok2 kX12_list_91 := fun rf r hr => by
  unfold kX12_list_91
  exact v_ai (v_cv hr (v_ald (v_ild (v_cv hr (v_ald (v_ild (v_pi (v_ishr (v_cv hr (v_ald (v_ild (v_pi (v_ishr (v_cv hr (v_ald (v_ild (v_cv hr ((vX12_list_124 rf r hr)))))))))))))))))))
theorem tX12_list_91 {X : pu_X} {r : pu_R} (hX : pu_H X mdX12_list) (hr : pu_P X.2.1 X.2.2.2.2.2.2.2.2.2.2.1 r) (hq : ∀ i pc, pu_lp i = some (354, pc) → pu_S X mdX12_list pc (r i)) : pu_S X mdX12_list 91 (kX12_list_91 r) := by
  unfold kX12_list_91
  exact z_iald hX dX12_list_91 (z_cv (c := 12) hX hr dX12_list_92 hjX12_put mwX12_put rfl wm53_8 ⟨wm53_9, wm53_10⟩ ⟨Nat.le_of_ble_eq_true rfl, Nat.le_of_ble_eq_true rfl⟩ (z_ald_n hX dX12_list_95 rfl (z_ild_n hX dX12_list_96 rfl (z_cv (c := 12) hX hr dX12_list_97 hjX12_put mwX12_put rfl wm53_8 ⟨wm53_9, wm53_10⟩ ⟨Nat.le_of_ble_eq_true rfl, Nat.le_of_ble_eq_true rfl⟩ (z_ald_n hX dX12_list_100 rfl (z_ild hX dX12_list_101 (z_bipush hX dX12_list_103 (by decide) (z_ishr hX dX12_list_105 (z_cv (c := 12) hX hr dX12_list_106 hjX12_put mwX12_put rfl wm53_8 ⟨wm53_9, wm53_10⟩ ⟨Nat.le_of_ble_eq_true rfl, Nat.le_of_ble_eq_true rfl⟩ (z_ald_n hX dX12_list_109 rfl (z_ild hX dX12_list_110 (z_bipush hX dX12_list_112 (by decide) (z_ishr hX dX12_list_114 (z_cv (c := 12) hX hr dX12_list_115 hjX12_put mwX12_put rfl wm53_8 ⟨wm53_9, wm53_10⟩ ⟨Nat.le_of_ble_eq_true rfl, Nat.le_of_ble_eq_true rfl⟩ (z_ald_n hX dX12_list_118 rfl (z_ild hX dX12_list_119 (z_cv (c := 12) hX hr dX12_list_121 hjX12_put mwX12_put rfl wm53_8 ⟨wm53_9, wm53_10⟩ ⟨Nat.le_of_ble_eq_true rfl, Nat.le_of_ble_eq_true rfl⟩ ((tX12_list_124 hX hr hq)))))))))))))))))))
def kX12_list_52 (r : pu_R) : pu_K := s_ald 0 (s_gr 12 0 (s_push (.int (10752)) (s_push (.int (6)) (s_ild 4 (s_imul (s_iadd (s_push (.int (3)) (s_iadd (s_ai 1 (s_ist 5 (s_ald 0 (s_ild 2 (s_cv r 334 1 12 (s_ald 0 (s_ald 0 (s_gr 12 0 (s_push (.int (10752)) (s_push (.int (6)) (s_ild 4 (s_imul (s_iadd (s_push (.int (2)) (s_iadd ((kX12_list_91 r)))))))))))))))))))))))))
theorem vX12_list_52 : pu_cok2 kX12_list_52 := fun rf r hr => by
  unfold kX12_list_52
  exact v_ald (v_gr (v_pi (v_pi (v_ild (v_imul (v_iadd (v_pi (v_iadd (v_ai (v_ist (v_ald (v_ild (v_cv hr (v_ald (v_ald (v_gr (v_pi (v_pi (v_ild (v_imul (v_iadd (v_pi (v_iadd ((vX12_list_91 rf r hr)))))))))))))))))))))))))
theorem tX12_list_52 {X : pu_X} {r : pu_R} (hX : pu_H X mdX12_list) (hr : pu_P X.2.1 X.2.2.2.2.2.2.2.2.2.2.1 r) (hq : ∀ i pc, pu_lp i = some (354, pc) → pu_S X mdX12_list pc (r i)) : pu_S X mdX12_list 52 (kX12_list_52 r) := by
  unfold kX12_list_52
  exact z_ald_n hX dX12_list_52 rfl (z_gr (c := 12) (j := 0) hX dX12_list_53 rfl inlX12 wm7_16 ⟨rfl, by decide, rfl⟩ (z_sipush hX dX12_list_56 (by decide) (z_bipush hX dX12_list_59 (by decide) (z_ild hX dX12_list_61 (z_imul hX dX12_list_63 (z_iadd hX dX12_list_64 (z_iconst hX dX12_list_65 (by decide) (z_iadd hX dX12_list_66 (z_iald hX dX12_list_67 (z_ist hX dX12_list_68 (z_ald_n hX dX12_list_70 rfl (z_ild_n hX dX12_list_71 rfl (z_cv (c := 12) hX hr dX12_list_72 hjX12_put mwX12_put rfl wm53_8 ⟨wm53_9, wm53_10⟩ ⟨Nat.le_of_ble_eq_true rfl, Nat.le_of_ble_eq_true rfl⟩ (z_ald_n hX dX12_list_75 rfl (z_ald_n hX dX12_list_76 rfl (z_gr (c := 12) (j := 0) hX dX12_list_77 rfl inlX12 wm7_16 ⟨rfl, by decide, rfl⟩ (z_sipush hX dX12_list_80 (by decide) (z_bipush hX dX12_list_83 (by decide) (z_ild hX dX12_list_85 (z_imul hX dX12_list_87 (z_iadd hX dX12_list_88 (z_iconst hX dX12_list_89 (by decide) (z_iadd hX dX12_list_90 ((tX12_list_91 hX hr hq)))))))))))))))))))))))))
def kX12_list_29 (r : pu_R) : pu_K := s_ild 3 (s_push (.int (2)) (s_icge (kX12_list_130 r) (s_ald 0 (s_ild 2 (s_ild 3 (s_ild 1 (s_cv r 353 3 12 (s_ist 4 (s_ild 4 (s_push (.int (-1)) (s_icne (kX12_list_52 r) ((kX12_list_124 r)))))))))))))
theorem vX12_list_29 : pu_cok2 kX12_list_29 := fun rf r hr => by
  unfold kX12_list_29
  exact v_ild (v_pi (v_icge (vX12_list_130 rf r hr) (v_ald (v_ild (v_ild (v_ild (v_cv hr (v_ist (v_ild (v_pi (v_icne (vX12_list_52 rf r hr) ((vX12_list_124 rf r hr)))))))))))))
theorem tX12_list_29 {X : pu_X} {r : pu_R} (hX : pu_H X mdX12_list) (hr : pu_P X.2.1 X.2.2.2.2.2.2.2.2.2.2.1 r) (hq : ∀ i pc, pu_lp i = some (354, pc) → pu_S X mdX12_list pc (r i)) : pu_S X mdX12_list 29 (kX12_list_29 r) := by
  unfold kX12_list_29
  exact z_ild_n hX dX12_list_29 rfl (z_iconst hX dX12_list_30 (by decide) (z_icge hX dX12_list_31 (by decide) (tX12_list_130 hX hr hq) (z_ald_n hX dX12_list_34 rfl (z_ild_n hX dX12_list_35 rfl (z_ild_n hX dX12_list_36 rfl (z_ild_n hX dX12_list_37 rfl (z_cv (c := 12) hX hr dX12_list_38 hjX12_listed mwX12_listed rfl wm72_13 ⟨wm72_14, wm72_15⟩ ⟨Nat.le_of_ble_eq_true rfl, Nat.le_of_ble_eq_true rfl⟩ (z_ist hX dX12_list_41 (z_ild hX dX12_list_43 (z_iconst hX dX12_list_45 (by decide) (z_icne hX dX12_list_46 (by decide) (tX12_list_52 hX hr hq) ((z_goto hX dX12_list_49 (by decide) (tX12_list_124 hX hr hq))))))))))))))
def kX12_list_17 (r : pu_R) : pu_K := s_ild 2 (s_ald 0 (s_gr 12 0 (s_push (.int (4)) (s_ai 1 (s_icge (kX12_list_136 r) (s_push (.int (0)) (s_ist 3 ((r 533)))))))))
theorem vX12_list_17 : pu_cok2 kX12_list_17 := fun rf r hr => by
  unfold kX12_list_17
  exact v_ild (v_ald (v_gr (v_pi (v_ai (v_icge (vX12_list_136 rf r hr) (v_pi (v_ist ((hr 533)))))))))
theorem tX12_list_17 {X : pu_X} {r : pu_R} (hX : pu_H X mdX12_list) (hr : pu_P X.2.1 X.2.2.2.2.2.2.2.2.2.2.1 r) (hq : ∀ i pc, pu_lp i = some (354, pc) → pu_S X mdX12_list pc (r i)) : pu_S X mdX12_list 17 (kX12_list_17 r) := by
  unfold kX12_list_17
  exact z_ild_n hX dX12_list_17 rfl (z_ald_n hX dX12_list_18 rfl (z_gr (c := 12) (j := 0) hX dX12_list_19 rfl inlX12 wm7_16 ⟨rfl, by decide, rfl⟩ (z_iconst hX dX12_list_22 (by decide) (z_iald hX dX12_list_23 (z_icge hX dX12_list_24 (by decide) (tX12_list_136 hX hr hq) (z_iconst hX dX12_list_27 (by decide) (z_ist_n hX dX12_list_28 rfl ((hq 533 29 hl533)))))))))
def kX12_list_10 (r : pu_R) : pu_K := s_ald 0 (s_push (.int (0)) (s_pi 12 8 (s_push (.int (0)) (s_ist 2 ((r 532))))))
theorem vX12_list_10 : pu_cok2 kX12_list_10 := fun rf r hr => by
  unfold kX12_list_10
  exact v_ald (v_pi (v_puti (v_pi (v_ist ((hr 532))))))
theorem tX12_list_10 {X : pu_X} {r : pu_R} (hX : pu_H X mdX12_list) (hr : pu_P X.2.1 X.2.2.2.2.2.2.2.2.2.2.1 r) (hq : ∀ i pc, pu_lp i = some (354, pc) → pu_S X mdX12_list pc (r i)) : pu_S X mdX12_list 10 (kX12_list_10 r) := by
  unfold kX12_list_10
  exact z_ald_n hX dX12_list_10 rfl (z_iconst hX dX12_list_11 (by decide) (z_pi (c := 12) (j := 8) tyX12 tyX12_ok nmX12 hX dX12_list_12 rfl inlX12 wm8_3 ⟨rfl, by decide⟩ ⟨rfl, rfl⟩ rfl (z_iconst hX dX12_list_15 (by decide) (z_ist_n hX dX12_list_16 rfl ((hq 532 17 hl532))))))
def kX12_list_0 (r : pu_R) : pu_K := s_ild 1 (s_cs r 234 1 (s_ifne (kX12_list_10 r) (s_push (.int (-2)) (s_iret))))
theorem vX12_list_0 : pu_cok2 kX12_list_0 := fun rf r hr => by
  unfold kX12_list_0
  exact v_ild (v_cs hr (v_ifne (vX12_list_10 rf r hr) (v_pi (v_iret))))
theorem tX12_list_0 {X : pu_X} {r : pu_R} (hX : pu_H X mdX12_list) (hr : pu_P X.2.1 X.2.2.2.2.2.2.2.2.2.2.1 r) (hq : ∀ i pc, pu_lp i = some (354, pc) → pu_S X mdX12_list pc (r i)) : pu_S X mdX12_list 0 (kX12_list_0 r) := by
  unfold kX12_list_0
  exact z_ild_n hX dX12_list_0 rfl (z_cs hX hr dX12_list_1 hjX12_isDay mwX12_isDay wm11_5 wm11_6 ⟨Nat.le_of_ble_eq_true rfl, Nat.le_of_ble_eq_true rfl⟩ (z_ifne hX dX12_list_4 (by decide) (tX12_list_10 hX hr hq) (z_bipush hX dX12_list_7 (by decide) (z_iret hX dX12_list_9 rfl))))
def kX12_check_294 (r : pu_R) : pu_K := s_push (.int (-1)) (s_iret)
theorem vX12_check_294 : pu_cok2 kX12_check_294 := fun rf r hr => by
  unfold kX12_check_294
  exact v_pi (v_iret)
theorem tX12_check_294 {X : pu_X} {r : pu_R} (hX : pu_H X mdX12_check) (hr : pu_P X.2.1 X.2.2.2.2.2.2.2.2.2.2.1 r) (hq : ∀ i pc, pu_lp i = some (355, pc) → pu_S X mdX12_check pc (r i)) : pu_S X mdX12_check 294 (kX12_check_294 r) := by
  unfold kX12_check_294
  exact z_iconst hX dX12_check_294 (by decide) (z_iret hX dX12_check_295 rfl)
def kX12_check_288 (r : pu_R) : pu_K := s_inc 2 (1) ((r 536))
theorem vX12_check_288 : pu_cok2 kX12_check_288 := fun rf r hr => by
  unfold kX12_check_288
  exact v_inc ((hr 536))
theorem tX12_check_288 {X : pu_X} {r : pu_R} (hX : pu_H X mdX12_check) (hr : pu_P X.2.1 X.2.2.2.2.2.2.2.2.2.2.1 r) (hq : ∀ i pc, pu_lp i = some (355, pc) → pu_S X mdX12_check pc (r i)) : pu_S X mdX12_check 288 (kX12_check_288 r) := by
  unfold kX12_check_288
  exact z_inc hX dX12_check_288 (by decide) ((z_goto hX dX12_check_291 (by decide) (hq 536 235 hl536)))
def kX12_check_282 (r : pu_R) : pu_K := s_inc 3 (1) ((r 537))
theorem vX12_check_282 : pu_cok2 kX12_check_282 := fun rf r hr => by
  unfold kX12_check_282
  exact v_inc ((hr 537))
theorem tX12_check_282 {X : pu_X} {r : pu_R} (hX : pu_H X mdX12_check) (hr : pu_P X.2.1 X.2.2.2.2.2.2.2.2.2.2.1 r) (hq : ∀ i pc, pu_lp i = some (355, pc) → pu_S X mdX12_check pc (r i)) : pu_S X mdX12_check 282 (kX12_check_282 r) := by
  unfold kX12_check_282
  exact z_inc hX dX12_check_282 (by decide) ((z_goto hX dX12_check_285 (by decide) (hq 537 247 hl537)))
def kX12_check_247 (r : pu_R) : pu_K := s_ild 3 (s_push (.int (2)) (s_icge (kX12_check_288 r) (s_ald 0 (s_ild 2 (s_ild 3 (s_ild 1 (s_cv r 353 3 12 (s_push (.int (-1)) (s_iceq (kX12_check_282 r) (s_ald 0 (s_gr 12 25 (s_push (.int (2)) (s_ild 2 (s_imul (s_ild 3 (s_iadd (s_ai 4 (s_ifne (kX12_check_282 r) (s_push (.int (1000)) (s_ild 2 (s_iadd (s_iret))))))))))))))))))))))
theorem vX12_check_247 : pu_cok2 kX12_check_247 := fun rf r hr => by
  unfold kX12_check_247
  exact v_ild (v_pi (v_icge (vX12_check_288 rf r hr) (v_ald (v_ild (v_ild (v_ild (v_cv hr (v_pi (v_iceq (vX12_check_282 rf r hr) (v_ald (v_gr (v_pi (v_ild (v_imul (v_ild (v_iadd (v_ai (v_ifne (vX12_check_282 rf r hr) (v_pi (v_ild (v_iadd (v_iret))))))))))))))))))))))
theorem tX12_check_247 {X : pu_X} {r : pu_R} (hX : pu_H X mdX12_check) (hr : pu_P X.2.1 X.2.2.2.2.2.2.2.2.2.2.1 r) (hq : ∀ i pc, pu_lp i = some (355, pc) → pu_S X mdX12_check pc (r i)) : pu_S X mdX12_check 247 (kX12_check_247 r) := by
  unfold kX12_check_247
  exact z_ild_n hX dX12_check_247 rfl (z_iconst hX dX12_check_248 (by decide) (z_icge hX dX12_check_249 (by decide) (tX12_check_288 hX hr hq) (z_ald_n hX dX12_check_252 rfl (z_ild_n hX dX12_check_253 rfl (z_ild_n hX dX12_check_254 rfl (z_ild_n hX dX12_check_255 rfl (z_cv (c := 12) hX hr dX12_check_256 hjX12_listed mwX12_listed rfl wm72_13 ⟨wm72_14, wm72_15⟩ ⟨Nat.le_of_ble_eq_true rfl, Nat.le_of_ble_eq_true rfl⟩ (z_iconst hX dX12_check_259 (by decide) (z_iceq hX dX12_check_260 (by decide) (tX12_check_282 hX hr hq) (z_ald_n hX dX12_check_263 rfl (z_gr (c := 12) (j := 25) hX dX12_check_264 rfl inlX12 wm8_20 ⟨rfl, by decide, rfl⟩ (z_iconst hX dX12_check_267 (by decide) (z_ild_n hX dX12_check_268 rfl (z_imul hX dX12_check_269 (z_ild_n hX dX12_check_270 rfl (z_iadd hX dX12_check_271 (z_zald hX dX12_check_272 (z_ifne hX dX12_check_273 (by decide) (tX12_check_282 hX hr hq) (z_sipush hX dX12_check_276 (by decide) (z_ild_n hX dX12_check_279 rfl (z_iadd hX dX12_check_280 (z_iret hX dX12_check_281 rfl))))))))))))))))))))))
def kX12_check_235 (r : pu_R) : pu_K := s_ild 2 (s_ald 0 (s_gr 12 0 (s_push (.int (4)) (s_ai 1 (s_icge (kX12_check_294 r) (s_push (.int (0)) (s_ist 3 ((r 537)))))))))
theorem vX12_check_235 : pu_cok2 kX12_check_235 := fun rf r hr => by
  unfold kX12_check_235
  exact v_ild (v_ald (v_gr (v_pi (v_ai (v_icge (vX12_check_294 rf r hr) (v_pi (v_ist ((hr 537)))))))))
theorem tX12_check_235 {X : pu_X} {r : pu_R} (hX : pu_H X mdX12_check) (hr : pu_P X.2.1 X.2.2.2.2.2.2.2.2.2.2.1 r) (hq : ∀ i pc, pu_lp i = some (355, pc) → pu_S X mdX12_check pc (r i)) : pu_S X mdX12_check 235 (kX12_check_235 r) := by
  unfold kX12_check_235
  exact z_ild_n hX dX12_check_235 rfl (z_ald_n hX dX12_check_236 rfl (z_gr (c := 12) (j := 0) hX dX12_check_237 rfl inlX12 wm7_16 ⟨rfl, by decide, rfl⟩ (z_iconst hX dX12_check_240 (by decide) (z_iald hX dX12_check_241 (z_icge hX dX12_check_242 (by decide) (tX12_check_294 hX hr hq) (z_iconst hX dX12_check_245 (by decide) (z_ist_n hX dX12_check_246 rfl ((hq 537 247 hl537)))))))))
def kX12_check_233 (r : pu_R) : pu_K := s_push (.int (0)) (s_ist 2 ((r 536)))
theorem vX12_check_233 : pu_cok2 kX12_check_233 := fun rf r hr => by
  unfold kX12_check_233
  exact v_pi (v_ist ((hr 536)))
theorem tX12_check_233 {X : pu_X} {r : pu_R} (hX : pu_H X mdX12_check) (hr : pu_P X.2.1 X.2.2.2.2.2.2.2.2.2.2.1 r) (hq : ∀ i pc, pu_lp i = some (355, pc) → pu_S X mdX12_check pc (r i)) : pu_S X mdX12_check 233 (kX12_check_233 r) := by
  unfold kX12_check_233
  exact z_iconst hX dX12_check_233 (by decide) (z_ist_n hX dX12_check_234 rfl ((hq 536 235 hl536)))
def kX12_check_214 (r : pu_R) : pu_K := s_ald 0 (s_gr 12 25 (s_push (.int (2)) (s_ild 4 (s_imul (s_ild 5 (s_iadd (s_push (.int (1)) (s_wz (s_inc 2 (1) ((r 535)))))))))))
theorem vX12_check_214 : pu_cok2 kX12_check_214 := fun rf r hr => by
  unfold kX12_check_214
  exact v_ald (v_gr (v_pi (v_ild (v_imul (v_ild (v_iadd (v_pi (v_wz (v_inc ((hr 535)))))))))))
theorem tX12_check_214 {X : pu_X} {r : pu_R} (hX : pu_H X mdX12_check) (hr : pu_P X.2.1 X.2.2.2.2.2.2.2.2.2.2.1 r) (hq : ∀ i pc, pu_lp i = some (355, pc) → pu_S X mdX12_check pc (r i)) : pu_S X mdX12_check 214 (kX12_check_214 r) := by
  unfold kX12_check_214
  exact z_ald_n hX dX12_check_214 rfl (z_gr (c := 12) (j := 25) hX dX12_check_215 rfl inlX12 wm8_20 ⟨rfl, by decide, rfl⟩ (z_iconst hX dX12_check_218 (by decide) (z_ild hX dX12_check_219 (z_imul hX dX12_check_221 (z_ild hX dX12_check_222 (z_iadd hX dX12_check_224 (z_iconst hX dX12_check_225 (by decide) (z_zast hX dX12_check_226 (z_inc hX dX12_check_227 (by decide) ((z_goto hX dX12_check_230 (by decide) (hq 535 38 hl535))))))))))))
def kX12_check_212 (r : pu_R) : pu_K := s_ild 2 (s_iret)
theorem vX12_check_212 : pu_cok2 kX12_check_212 := fun rf r hr => by
  unfold kX12_check_212
  exact v_ild (v_iret)
theorem tX12_check_212 {X : pu_X} {r : pu_R} (hX : pu_H X mdX12_check) (hr : pu_P X.2.1 X.2.2.2.2.2.2.2.2.2.2.1 r) (hq : ∀ i pc, pu_lp i = some (355, pc) → pu_S X mdX12_check pc (r i)) : pu_S X mdX12_check 212 (kX12_check_212 r) := by
  unfold kX12_check_212
  exact z_ild_n hX dX12_check_212 rfl (z_iret hX dX12_check_213 rfl)
def kX12_check_177 (r : pu_R) : pu_K := s_gr 12 0 (s_push (.int (10752)) (s_push (.int (6)) (s_ild 6 (s_imul (s_iadd (s_push (.int (3)) (s_iadd (s_ai 1 (s_ild 7 (s_icne (kX12_check_212 r) (s_ald 0 (s_gr 12 25 (s_push (.int (2)) (s_ild 4 (s_imul (s_ild 5 (s_iadd (s_ai 4 (s_ifeq (kX12_check_214 r) ((kX12_check_212 r)))))))))))))))))))))
theorem vX12_check_177 : pu_cok2 kX12_check_177 := fun rf r hr => by
  unfold kX12_check_177
  exact v_gr (v_pi (v_pi (v_ild (v_imul (v_iadd (v_pi (v_iadd (v_ai (v_ild (v_icne (vX12_check_212 rf r hr) (v_ald (v_gr (v_pi (v_ild (v_imul (v_ild (v_iadd (v_ai (v_ifeq (vX12_check_214 rf r hr) ((vX12_check_212 rf r hr)))))))))))))))))))))
theorem tX12_check_177 {X : pu_X} {r : pu_R} (hX : pu_H X mdX12_check) (hr : pu_P X.2.1 X.2.2.2.2.2.2.2.2.2.2.1 r) (hq : ∀ i pc, pu_lp i = some (355, pc) → pu_S X mdX12_check pc (r i)) : pu_S X mdX12_check 177 (kX12_check_177 r) := by
  unfold kX12_check_177
  exact z_gr (c := 12) (j := 0) hX dX12_check_177 rfl inlX12 wm7_16 ⟨rfl, by decide, rfl⟩ (z_sipush hX dX12_check_180 (by decide) (z_bipush hX dX12_check_183 (by decide) (z_ild hX dX12_check_185 (z_imul hX dX12_check_187 (z_iadd hX dX12_check_188 (z_iconst hX dX12_check_189 (by decide) (z_iadd hX dX12_check_190 (z_iald hX dX12_check_191 (z_ild hX dX12_check_192 (z_icne hX dX12_check_194 (by decide) (tX12_check_212 hX hr hq) (z_ald_n hX dX12_check_197 rfl (z_gr (c := 12) (j := 25) hX dX12_check_198 rfl inlX12 wm8_20 ⟨rfl, by decide, rfl⟩ (z_iconst hX dX12_check_201 (by decide) (z_ild hX dX12_check_202 (z_imul hX dX12_check_204 (z_ild hX dX12_check_205 (z_iadd hX dX12_check_207 (z_zald hX dX12_check_208 (z_ifeq hX dX12_check_209 (by decide) (tX12_check_214 hX hr hq) ((tX12_check_212 hX hr hq)))))))))))))))))))))
def kX12_check_137 (r : pu_R) : pu_K := s_iadd (s_cv r 241 1 12 (s_iadd (s_ist 7 (s_ild 6 (s_push (.int (-1)) (s_iceq (kX12_check_212 r) (s_ald 0 (s_gr 12 0 (s_push (.int (10752)) (s_push (.int (6)) (s_ild 6 (s_imul (s_iadd (s_push (.int (2)) (s_iadd (s_ai 1 (s_ald 0 (s_ild 3 (s_push (.int (1)) (s_iadd (s_cv r 241 1 12 (s_icne (kX12_check_212 r) (s_ald 0 ((kX12_check_177 r)))))))))))))))))))))))))
theorem vX12_check_137 : pu_cok2 kX12_check_137 := fun rf r hr => by
  unfold kX12_check_137
  exact v_iadd (v_cv hr (v_iadd (v_ist (v_ild (v_pi (v_iceq (vX12_check_212 rf r hr) (v_ald (v_gr (v_pi (v_pi (v_ild (v_imul (v_iadd (v_pi (v_iadd (v_ai (v_ald (v_ild (v_pi (v_iadd (v_cv hr (v_icne (vX12_check_212 rf r hr) (v_ald ((vX12_check_177 rf r hr)))))))))))))))))))))))))
theorem tX12_check_137 {X : pu_X} {r : pu_R} (hX : pu_H X mdX12_check) (hr : pu_P X.2.1 X.2.2.2.2.2.2.2.2.2.2.1 r) (hq : ∀ i pc, pu_lp i = some (355, pc) → pu_S X mdX12_check pc (r i)) : pu_S X mdX12_check 137 (kX12_check_137 r) := by
  unfold kX12_check_137
  exact z_iadd hX dX12_check_137 (z_cv (c := 12) hX hr dX12_check_138 hjX12_here mwX12_here rfl wm15_8 ⟨wm15_9, wm15_10⟩ ⟨Nat.le_of_ble_eq_true rfl, Nat.le_of_ble_eq_true rfl⟩ (z_iadd hX dX12_check_141 (z_ist hX dX12_check_142 (z_ild hX dX12_check_144 (z_iconst hX dX12_check_146 (by decide) (z_iceq hX dX12_check_147 (by decide) (tX12_check_212 hX hr hq) (z_ald_n hX dX12_check_150 rfl (z_gr (c := 12) (j := 0) hX dX12_check_151 rfl inlX12 wm7_16 ⟨rfl, by decide, rfl⟩ (z_sipush hX dX12_check_154 (by decide) (z_bipush hX dX12_check_157 (by decide) (z_ild hX dX12_check_159 (z_imul hX dX12_check_161 (z_iadd hX dX12_check_162 (z_iconst hX dX12_check_163 (by decide) (z_iadd hX dX12_check_164 (z_iald hX dX12_check_165 (z_ald_n hX dX12_check_166 rfl (z_ild_n hX dX12_check_167 rfl (z_iconst hX dX12_check_168 (by decide) (z_iadd hX dX12_check_169 (z_cv (c := 12) hX hr dX12_check_170 hjX12_here mwX12_here rfl wm15_8 ⟨wm15_9, wm15_10⟩ ⟨Nat.le_of_ble_eq_true rfl, Nat.le_of_ble_eq_true rfl⟩ (z_icne hX dX12_check_173 (by decide) (tX12_check_212 hX hr hq) (z_ald_n hX dX12_check_176 rfl ((tX12_check_177 hX hr hq)))))))))))))))))))))))))
def kX12_check_100 (r : pu_R) : pu_K := s_ald 0 (s_ild 4 (s_ild 5 (s_ild 1 (s_cv r 353 3 12 (s_ist 6 (s_ald 0 (s_ild 3 (s_push (.int (3)) (s_iadd (s_cv r 241 1 12 (s_push (.int (65536)) (s_imul (s_ald 0 (s_ild 3 (s_push (.int (4)) (s_iadd (s_cv r 241 1 12 (s_push (.int (256)) (s_imul (s_iadd (s_ald 0 (s_ild 3 (s_push (.int (5)) ((kX12_check_137 r)))))))))))))))))))))))))
theorem vX12_check_100 : pu_cok2 kX12_check_100 := fun rf r hr => by
  unfold kX12_check_100
  exact v_ald (v_ild (v_ild (v_ild (v_cv hr (v_ist (v_ald (v_ild (v_pi (v_iadd (v_cv hr (v_pi (v_imul (v_ald (v_ild (v_pi (v_iadd (v_cv hr (v_pi (v_imul (v_iadd (v_ald (v_ild (v_pi ((vX12_check_137 rf r hr)))))))))))))))))))))))))
theorem tX12_check_100 {X : pu_X} {r : pu_R} (hX : pu_H X mdX12_check) (hr : pu_P X.2.1 X.2.2.2.2.2.2.2.2.2.2.1 r) (hq : ∀ i pc, pu_lp i = some (355, pc) → pu_S X mdX12_check pc (r i)) : pu_S X mdX12_check 100 (kX12_check_100 r) := by
  unfold kX12_check_100
  exact z_ald_n hX dX12_check_100 rfl (z_ild hX dX12_check_101 (z_ild hX dX12_check_103 (z_ild_n hX dX12_check_105 rfl (z_cv (c := 12) hX hr dX12_check_106 hjX12_listed mwX12_listed rfl wm72_13 ⟨wm72_14, wm72_15⟩ ⟨Nat.le_of_ble_eq_true rfl, Nat.le_of_ble_eq_true rfl⟩ (z_ist hX dX12_check_109 (z_ald_n hX dX12_check_111 rfl (z_ild_n hX dX12_check_112 rfl (z_iconst hX dX12_check_113 (by decide) (z_iadd hX dX12_check_114 (z_cv (c := 12) hX hr dX12_check_115 hjX12_here mwX12_here rfl wm15_8 ⟨wm15_9, wm15_10⟩ ⟨Nat.le_of_ble_eq_true rfl, Nat.le_of_ble_eq_true rfl⟩ (z_ldcw hX dX12_check_118 wm73_10 (z_imul hX dX12_check_121 (z_ald_n hX dX12_check_122 rfl (z_ild_n hX dX12_check_123 rfl (z_iconst hX dX12_check_124 (by decide) (z_iadd hX dX12_check_125 (z_cv (c := 12) hX hr dX12_check_126 hjX12_here mwX12_here rfl wm15_8 ⟨wm15_9, wm15_10⟩ ⟨Nat.le_of_ble_eq_true rfl, Nat.le_of_ble_eq_true rfl⟩ (z_sipush hX dX12_check_129 (by decide) (z_imul hX dX12_check_132 (z_iadd hX dX12_check_133 (z_ald_n hX dX12_check_134 rfl (z_ild_n hX dX12_check_135 rfl (z_iconst hX dX12_check_136 (by decide) ((tX12_check_137 hX hr hq)))))))))))))))))))))))))
def kX12_check_98 (r : pu_R) : pu_K := s_ild 2 (s_iret)
theorem vX12_check_98 : pu_cok2 kX12_check_98 := fun rf r hr => by
  unfold kX12_check_98
  exact v_ild (v_iret)
theorem tX12_check_98 {X : pu_X} {r : pu_R} (hX : pu_H X mdX12_check) (hr : pu_P X.2.1 X.2.2.2.2.2.2.2.2.2.2.1 r) (hq : ∀ i pc, pu_lp i = some (355, pc) → pu_S X mdX12_check pc (r i)) : pu_S X mdX12_check 98 (kX12_check_98 r) := by
  unfold kX12_check_98
  exact z_ild_n hX dX12_check_98 rfl (z_iret hX dX12_check_99 rfl)
def kX12_check_67 (r : pu_R) : pu_K := s_ald 0 (s_ild 3 (s_cv r 241 1 12 (s_ist 4 (s_ald 0 (s_ild 3 (s_push (.int (2)) (s_iadd (s_cv r 241 1 12 (s_ist 5 (s_ald 0 (s_ild 4 (s_cv r 264 1 12 (s_ifeq (kX12_check_98 r) (s_ild 5 (s_push (.int (1)) (s_icle (kX12_check_100 r) ((kX12_check_98 r))))))))))))))))))
theorem vX12_check_67 : pu_cok2 kX12_check_67 := fun rf r hr => by
  unfold kX12_check_67
  exact v_ald (v_ild (v_cv hr (v_ist (v_ald (v_ild (v_pi (v_iadd (v_cv hr (v_ist (v_ald (v_ild (v_cv hr (v_ifeq (vX12_check_98 rf r hr) (v_ild (v_pi (v_icle (vX12_check_100 rf r hr) ((vX12_check_98 rf r hr))))))))))))))))))
theorem tX12_check_67 {X : pu_X} {r : pu_R} (hX : pu_H X mdX12_check) (hr : pu_P X.2.1 X.2.2.2.2.2.2.2.2.2.2.1 r) (hq : ∀ i pc, pu_lp i = some (355, pc) → pu_S X mdX12_check pc (r i)) : pu_S X mdX12_check 67 (kX12_check_67 r) := by
  unfold kX12_check_67
  exact z_ald_n hX dX12_check_67 rfl (z_ild_n hX dX12_check_68 rfl (z_cv (c := 12) hX hr dX12_check_69 hjX12_here mwX12_here rfl wm15_8 ⟨wm15_9, wm15_10⟩ ⟨Nat.le_of_ble_eq_true rfl, Nat.le_of_ble_eq_true rfl⟩ (z_ist hX dX12_check_72 (z_ald_n hX dX12_check_74 rfl (z_ild_n hX dX12_check_75 rfl (z_iconst hX dX12_check_76 (by decide) (z_iadd hX dX12_check_77 (z_cv (c := 12) hX hr dX12_check_78 hjX12_here mwX12_here rfl wm15_8 ⟨wm15_9, wm15_10⟩ ⟨Nat.le_of_ble_eq_true rfl, Nat.le_of_ble_eq_true rfl⟩ (z_ist hX dX12_check_81 (z_ald_n hX dX12_check_83 rfl (z_ild hX dX12_check_84 (z_cv (c := 12) hX hr dX12_check_86 hjX12_isDoor mwX12_isDoor rfl wm29_23 ⟨wm30_0, wm30_1⟩ ⟨Nat.le_of_ble_eq_true rfl, Nat.le_of_ble_eq_true rfl⟩ (z_ifeq hX dX12_check_89 (by decide) (tX12_check_98 hX hr hq) (z_ild hX dX12_check_92 (z_iconst hX dX12_check_94 (by decide) (z_icle hX dX12_check_95 (by decide) (tX12_check_100 hX hr hq) ((tX12_check_98 hX hr hq))))))))))))))))))
def kX12_check_38 (r : pu_R) : pu_K := s_push (.int (6)) (s_ild 2 (s_imul (s_ald 0 (s_gi 12 6 (s_icge (kX12_check_233 r) (s_push (.int (6)) (s_ild 2 (s_imul (s_ist 3 (s_ild 3 (s_push (.int (6)) (s_iadd (s_ald 0 (s_gi 12 6 (s_icle (kX12_check_67 r) (s_ild 2 (s_iret)))))))))))))))))
theorem vX12_check_38 : pu_cok2 kX12_check_38 := fun rf r hr => by
  unfold kX12_check_38
  exact v_pi (v_ild (v_imul (v_ald (v_gi (v_icge (vX12_check_233 rf r hr) (v_pi (v_ild (v_imul (v_ist (v_ild (v_pi (v_iadd (v_ald (v_gi (v_icle (vX12_check_67 rf r hr) (v_ild (v_iret)))))))))))))))))
theorem tX12_check_38 {X : pu_X} {r : pu_R} (hX : pu_H X mdX12_check) (hr : pu_P X.2.1 X.2.2.2.2.2.2.2.2.2.2.1 r) (hq : ∀ i pc, pu_lp i = some (355, pc) → pu_S X mdX12_check pc (r i)) : pu_S X mdX12_check 38 (kX12_check_38 r) := by
  unfold kX12_check_38
  exact z_bipush hX dX12_check_38 (by decide) (z_ild_n hX dX12_check_40 rfl (z_imul hX dX12_check_41 (z_ald_n hX dX12_check_42 rfl (z_gi (c := 12) (j := 6) hX dX12_check_43 rfl inlX12 wm8_1 ⟨rfl, by decide, rfl⟩ (z_icge hX dX12_check_46 (by decide) (tX12_check_233 hX hr hq) (z_bipush hX dX12_check_49 (by decide) (z_ild_n hX dX12_check_51 rfl (z_imul hX dX12_check_52 (z_ist_n hX dX12_check_53 rfl (z_ild_n hX dX12_check_54 rfl (z_bipush hX dX12_check_55 (by decide) (z_iadd hX dX12_check_57 (z_ald_n hX dX12_check_58 rfl (z_gi (c := 12) (j := 6) hX dX12_check_59 rfl inlX12 wm8_1 ⟨rfl, by decide, rfl⟩ (z_icle hX dX12_check_62 (by decide) (tX12_check_67 hX hr hq) (z_ild_n hX dX12_check_65 rfl (z_iret hX dX12_check_66 rfl)))))))))))))))))
def kX12_check_36 (r : pu_R) : pu_K := s_push (.int (0)) (s_ist 2 ((r 535)))
theorem vX12_check_36 : pu_cok2 kX12_check_36 := fun rf r hr => by
  unfold kX12_check_36
  exact v_pi (v_ist ((hr 535)))
theorem tX12_check_36 {X : pu_X} {r : pu_R} (hX : pu_H X mdX12_check) (hr : pu_P X.2.1 X.2.2.2.2.2.2.2.2.2.2.1 r) (hq : ∀ i pc, pu_lp i = some (355, pc) → pu_S X mdX12_check pc (r i)) : pu_S X mdX12_check 36 (kX12_check_36 r) := by
  unfold kX12_check_36
  exact z_iconst hX dX12_check_36 (by decide) (z_ist_n hX dX12_check_37 rfl ((hq 535 38 hl535)))
def kX12_check_16 (r : pu_R) : pu_K := s_ild 2 (s_push (.int (200)) (s_icge (kX12_check_36 r) (s_ald 0 (s_gr 12 25 (s_ild 2 (s_push (.int (0)) (s_wz (s_inc 2 (1) ((r 534))))))))))
theorem vX12_check_16 : pu_cok2 kX12_check_16 := fun rf r hr => by
  unfold kX12_check_16
  exact v_ild (v_pi (v_icge (vX12_check_36 rf r hr) (v_ald (v_gr (v_ild (v_pi (v_wz (v_inc ((hr 534))))))))))
theorem tX12_check_16 {X : pu_X} {r : pu_R} (hX : pu_H X mdX12_check) (hr : pu_P X.2.1 X.2.2.2.2.2.2.2.2.2.2.1 r) (hq : ∀ i pc, pu_lp i = some (355, pc) → pu_S X mdX12_check pc (r i)) : pu_S X mdX12_check 16 (kX12_check_16 r) := by
  unfold kX12_check_16
  exact z_ild_n hX dX12_check_16 rfl (z_sipush hX dX12_check_17 (by decide) (z_icge hX dX12_check_20 (by decide) (tX12_check_36 hX hr hq) (z_ald_n hX dX12_check_23 rfl (z_gr (c := 12) (j := 25) hX dX12_check_24 rfl inlX12 wm8_20 ⟨rfl, by decide, rfl⟩ (z_ild_n hX dX12_check_27 rfl (z_iconst hX dX12_check_28 (by decide) (z_zast hX dX12_check_29 (z_inc hX dX12_check_30 (by decide) ((z_goto hX dX12_check_33 (by decide) (hq 534 16 hl534)))))))))))
def kX12_check_14 (r : pu_R) : pu_K := s_push (.int (0)) (s_ist 2 ((r 534)))
theorem vX12_check_14 : pu_cok2 kX12_check_14 := fun rf r hr => by
  unfold kX12_check_14
  exact v_pi (v_ist ((hr 534)))
theorem tX12_check_14 {X : pu_X} {r : pu_R} (hX : pu_H X mdX12_check) (hr : pu_P X.2.1 X.2.2.2.2.2.2.2.2.2.2.1 r) (hq : ∀ i pc, pu_lp i = some (355, pc) → pu_S X mdX12_check pc (r i)) : pu_S X mdX12_check 14 (kX12_check_14 r) := by
  unfold kX12_check_14
  exact z_iconst hX dX12_check_14 (by decide) (z_ist_n hX dX12_check_15 rfl ((hq 534 16 hl534)))
def kX12_check_0 (r : pu_R) : pu_K := s_ald 0 (s_cv r 233 0 12 (s_ild 1 (s_cs r 234 1 (s_ifne (kX12_check_14 r) (s_push (.int (-2)) (s_iret))))))
theorem vX12_check_0 : pu_cok2 kX12_check_0 := fun rf r hr => by
  unfold kX12_check_0
  exact v_ald (v_cv hr (v_ild (v_cs hr (v_ifne (vX12_check_14 rf r hr) (v_pi (v_iret))))))
theorem tX12_check_0 {X : pu_X} {r : pu_R} (hX : pu_H X mdX12_check) (hr : pu_P X.2.1 X.2.2.2.2.2.2.2.2.2.2.1 r) (hq : ∀ i pc, pu_lp i = some (355, pc) → pu_S X mdX12_check pc (r i)) : pu_S X mdX12_check 0 (kX12_check_0 r) := by
  unfold kX12_check_0
  exact z_ald_n hX dX12_check_0 rfl (z_cv (c := 12) hX hr dX12_check_1 hjX12_takes mwX12_takes rfl wm15_0 ⟨wm15_1, wm15_2⟩ ⟨Nat.le_of_ble_eq_true rfl, Nat.le_of_ble_eq_true rfl⟩ (z_ild_n hX dX12_check_4 rfl (z_cs hX hr dX12_check_5 hjX12_isDay mwX12_isDay wm11_5 wm11_6 ⟨Nat.le_of_ble_eq_true rfl, Nat.le_of_ble_eq_true rfl⟩ (z_ifne hX dX12_check_8 (by decide) (tX12_check_14 hX hr hq) (z_bipush hX dX12_check_11 (by decide) (z_iret hX dX12_check_13 rfl))))))
