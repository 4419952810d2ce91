def kX1_copyFrom_228 (r : pu_R) : pu_K := s_gi 1 7 (s_cp1 (s_vret))
theorem vX1_copyFrom_228 : pu_cok2 kX1_copyFrom_228 := fun rf r hr => by
  unfold kX1_copyFrom_228
  exact v_gi (v_cp1 (v_vret))
theorem tX1_copyFrom_228 {X : pu_X} {r : pu_R} (hX : pu_H X mdX1_copyFrom) (hr : pu_P X.2.1 X.2.2.2.2.2.2.2.2.2.2.1 r) (hq : ∀ i pc, pu_lp i = some (140, pc) → pu_S X mdX1_copyFrom pc (r i)) : pu_S X mdX1_copyFrom 228 (kX1_copyFrom_228 r) := by
  unfold kX1_copyFrom_228
  exact z_gi (c := 1) (j := 7) hX dX1_copyFrom_228 rfl inlX1 wm46_0 ⟨rfl, by decide, rfl⟩ (z_cp1 hX dX1_copyFrom_231 ⟨wm46_1, wm10_8, wm10_9, wm10_10⟩ ⟨Nat.le_of_ble_eq_true rfl, Nat.le_of_ble_eq_true rfl⟩ (z_vret hX dX1_copyFrom_234 rfl))
def kX1_copyFrom_184 (r : pu_R) : pu_K := s_gr 1 17 (s_push (.int (0)) (s_ald 0 (s_gr 1 17 (s_push (.int (0)) (s_ald 0 (s_gi 1 6 (s_cp1 (s_ald 1 (s_gr 1 18 (s_push (.int (0)) (s_ald 0 (s_gr 1 18 (s_push (.int (0)) (s_ald 0 (s_gi 1 7 (s_cp1 (s_ald 1 (s_gr 1 19 (s_push (.int (0)) (s_ald 0 (s_gr 1 19 (s_push (.int (0)) (s_ald 0 ((kX1_copyFrom_228 r)))))))))))))))))))))))))
theorem vX1_copyFrom_184 : pu_cok2 kX1_copyFrom_184 := fun rf r hr => by
  unfold kX1_copyFrom_184
  exact v_gr (v_pi (v_ald (v_gr (v_pi (v_ald (v_gi (v_cp1 (v_ald (v_gr (v_pi (v_ald (v_gr (v_pi (v_ald (v_gi (v_cp1 (v_ald (v_gr (v_pi (v_ald (v_gr (v_pi (v_ald ((vX1_copyFrom_228 rf r hr)))))))))))))))))))))))))
theorem tX1_copyFrom_184 {X : pu_X} {r : pu_R} (hX : pu_H X mdX1_copyFrom) (hr : pu_P X.2.1 X.2.2.2.2.2.2.2.2.2.2.1 r) (hq : ∀ i pc, pu_lp i = some (140, pc) → pu_S X mdX1_copyFrom pc (r i)) : pu_S X mdX1_copyFrom 184 (kX1_copyFrom_184 r) := by
  unfold kX1_copyFrom_184
  exact z_gr (c := 1) (j := 17) hX dX1_copyFrom_184 rfl inlX1 wm6_17 ⟨rfl, by decide, rfl⟩ (z_iconst hX dX1_copyFrom_187 (by decide) (z_ald_n hX dX1_copyFrom_188 rfl (z_gr (c := 1) (j := 17) hX dX1_copyFrom_189 rfl inlX1 wm6_17 ⟨rfl, by decide, rfl⟩ (z_iconst hX dX1_copyFrom_192 (by decide) (z_ald_n hX dX1_copyFrom_193 rfl (z_gi (c := 1) (j := 6) hX dX1_copyFrom_194 rfl inlX1 wm45_23 ⟨rfl, by decide, rfl⟩ (z_cp1 hX dX1_copyFrom_197 ⟨wm46_1, wm10_8, wm10_9, wm10_10⟩ ⟨Nat.le_of_ble_eq_true rfl, Nat.le_of_ble_eq_true rfl⟩ (z_ald_n hX dX1_copyFrom_200 rfl (z_gr (c := 1) (j := 18) hX dX1_copyFrom_201 rfl inlX1 wm6_18 ⟨rfl, by decide, rfl⟩ (z_iconst hX dX1_copyFrom_204 (by decide) (z_ald_n hX dX1_copyFrom_205 rfl (z_gr (c := 1) (j := 18) hX dX1_copyFrom_206 rfl inlX1 wm6_18 ⟨rfl, by decide, rfl⟩ (z_iconst hX dX1_copyFrom_209 (by decide) (z_ald_n hX dX1_copyFrom_210 rfl (z_gi (c := 1) (j := 7) hX dX1_copyFrom_211 rfl inlX1 wm46_0 ⟨rfl, by decide, rfl⟩ (z_cp1 hX dX1_copyFrom_214 ⟨wm46_1, wm10_8, wm10_9, wm10_10⟩ ⟨Nat.le_of_ble_eq_true rfl, Nat.le_of_ble_eq_true rfl⟩ (z_ald_n hX dX1_copyFrom_217 rfl (z_gr (c := 1) (j := 19) hX dX1_copyFrom_218 rfl inlX1 wm6_19 ⟨rfl, by decide, rfl⟩ (z_iconst hX dX1_copyFrom_221 (by decide) (z_ald_n hX dX1_copyFrom_222 rfl (z_gr (c := 1) (j := 19) hX dX1_copyFrom_223 rfl inlX1 wm6_19 ⟨rfl, by decide, rfl⟩ (z_iconst hX dX1_copyFrom_226 (by decide) (z_ald_n hX dX1_copyFrom_227 rfl ((tX1_copyFrom_228 hX hr hq)))))))))))))))))))))))))
def kX1_copyFrom_138 (r : pu_R) : pu_K := s_gr 1 14 (s_push (.int (0)) (s_ald 0 (s_gi 1 4 (s_cp1 (s_ald 1 (s_gr 1 15 (s_push (.int (0)) (s_ald 0 (s_gr 1 15 (s_push (.int (0)) (s_ald 0 (s_gi 1 4 (s_cp1 (s_ald 1 (s_gr 1 16 (s_push (.int (0)) (s_ald 0 (s_gr 1 16 (s_push (.int (0)) (s_ald 0 (s_gi 1 5 (s_cp1 (s_ald 1 ((kX1_copyFrom_184 r)))))))))))))))))))))))))
theorem vX1_copyFrom_138 : pu_cok2 kX1_copyFrom_138 := fun rf r hr => by
  unfold kX1_copyFrom_138
  exact v_gr (v_pi (v_ald (v_gi (v_cp1 (v_ald (v_gr (v_pi (v_ald (v_gr (v_pi (v_ald (v_gi (v_cp1 (v_ald (v_gr (v_pi (v_ald (v_gr (v_pi (v_ald (v_gi (v_cp1 (v_ald ((vX1_copyFrom_184 rf r hr)))))))))))))))))))))))))
theorem tX1_copyFrom_138 {X : pu_X} {r : pu_R} (hX : pu_H X mdX1_copyFrom) (hr : pu_P X.2.1 X.2.2.2.2.2.2.2.2.2.2.1 r) (hq : ∀ i pc, pu_lp i = some (140, pc) → pu_S X mdX1_copyFrom pc (r i)) : pu_S X mdX1_copyFrom 138 (kX1_copyFrom_138 r) := by
  unfold kX1_copyFrom_138
  exact z_gr (c := 1) (j := 14) hX dX1_copyFrom_138 rfl inlX1 wm6_14 ⟨rfl, by decide, rfl⟩ (z_iconst hX dX1_copyFrom_141 (by decide) (z_ald_n hX dX1_copyFrom_142 rfl (z_gi (c := 1) (j := 4) hX dX1_copyFrom_143 rfl inlX1 wm45_21 ⟨rfl, by decide, rfl⟩ (z_cp1 hX dX1_copyFrom_146 ⟨wm46_1, wm10_8, wm10_9, wm10_10⟩ ⟨Nat.le_of_ble_eq_true rfl, Nat.le_of_ble_eq_true rfl⟩ (z_ald_n hX dX1_copyFrom_149 rfl (z_gr (c := 1) (j := 15) hX dX1_copyFrom_150 rfl inlX1 wm6_15 ⟨rfl, by decide, rfl⟩ (z_iconst hX dX1_copyFrom_153 (by decide) (z_ald_n hX dX1_copyFrom_154 rfl (z_gr (c := 1) (j := 15) hX dX1_copyFrom_155 rfl inlX1 wm6_15 ⟨rfl, by decide, rfl⟩ (z_iconst hX dX1_copyFrom_158 (by decide) (z_ald_n hX dX1_copyFrom_159 rfl (z_gi (c := 1) (j := 4) hX dX1_copyFrom_160 rfl inlX1 wm45_21 ⟨rfl, by decide, rfl⟩ (z_cp1 hX dX1_copyFrom_163 ⟨wm46_1, wm10_8, wm10_9, wm10_10⟩ ⟨Nat.le_of_ble_eq_true rfl, Nat.le_of_ble_eq_true rfl⟩ (z_ald_n hX dX1_copyFrom_166 rfl (z_gr (c := 1) (j := 16) hX dX1_copyFrom_167 rfl inlX1 wm6_16 ⟨rfl, by decide, rfl⟩ (z_iconst hX dX1_copyFrom_170 (by decide) (z_ald_n hX dX1_copyFrom_171 rfl (z_gr (c := 1) (j := 16) hX dX1_copyFrom_172 rfl inlX1 wm6_16 ⟨rfl, by decide, rfl⟩ (z_iconst hX dX1_copyFrom_175 (by decide) (z_ald_n hX dX1_copyFrom_176 rfl (z_gi (c := 1) (j := 5) hX dX1_copyFrom_177 rfl inlX1 wm45_22 ⟨rfl, by decide, rfl⟩ (z_cp1 hX dX1_copyFrom_180 ⟨wm46_1, wm10_8, wm10_9, wm10_10⟩ ⟨Nat.le_of_ble_eq_true rfl, Nat.le_of_ble_eq_true rfl⟩ (z_ald_n hX dX1_copyFrom_183 rfl ((tX1_copyFrom_184 hX hr hq)))))))))))))))))))))))))
def kX1_copyFrom_92 (r : pu_R) : pu_K := s_gi 1 2 (s_cp1 (s_ald 1 (s_gr 1 11 (s_push (.int (0)) (s_ald 0 (s_gr 1 11 (s_push (.int (0)) (s_ald 0 (s_gi 1 3 (s_cp1 (s_ald 1 (s_gr 1 12 (s_push (.int (0)) (s_ald 0 (s_gr 1 12 (s_push (.int (0)) (s_ald 0 (s_gi 1 3 (s_cp1 (s_ald 1 (s_gr 1 14 (s_push (.int (0)) (s_ald 0 ((kX1_copyFrom_138 r)))))))))))))))))))))))))
theorem vX1_copyFrom_92 : pu_cok2 kX1_copyFrom_92 := fun rf r hr => by
  unfold kX1_copyFrom_92
  exact v_gi (v_cp1 (v_ald (v_gr (v_pi (v_ald (v_gr (v_pi (v_ald (v_gi (v_cp1 (v_ald (v_gr (v_pi (v_ald (v_gr (v_pi (v_ald (v_gi (v_cp1 (v_ald (v_gr (v_pi (v_ald ((vX1_copyFrom_138 rf r hr)))))))))))))))))))))))))
theorem tX1_copyFrom_92 {X : pu_X} {r : pu_R} (hX : pu_H X mdX1_copyFrom) (hr : pu_P X.2.1 X.2.2.2.2.2.2.2.2.2.2.1 r) (hq : ∀ i pc, pu_lp i = some (140, pc) → pu_S X mdX1_copyFrom pc (r i)) : pu_S X mdX1_copyFrom 92 (kX1_copyFrom_92 r) := by
  unfold kX1_copyFrom_92
  exact z_gi (c := 1) (j := 2) hX dX1_copyFrom_92 rfl inlX1 wm45_19 ⟨rfl, by decide, rfl⟩ (z_cp1 hX dX1_copyFrom_95 ⟨wm46_1, wm10_8, wm10_9, wm10_10⟩ ⟨Nat.le_of_ble_eq_true rfl, Nat.le_of_ble_eq_true rfl⟩ (z_ald_n hX dX1_copyFrom_98 rfl (z_gr (c := 1) (j := 11) hX dX1_copyFrom_99 rfl inlX1 wm6_11 ⟨rfl, by decide, rfl⟩ (z_iconst hX dX1_copyFrom_102 (by decide) (z_ald_n hX dX1_copyFrom_103 rfl (z_gr (c := 1) (j := 11) hX dX1_copyFrom_104 rfl inlX1 wm6_11 ⟨rfl, by decide, rfl⟩ (z_iconst hX dX1_copyFrom_107 (by decide) (z_ald_n hX dX1_copyFrom_108 rfl (z_gi (c := 1) (j := 3) hX dX1_copyFrom_109 rfl inlX1 wm45_20 ⟨rfl, by decide, rfl⟩ (z_cp1 hX dX1_copyFrom_112 ⟨wm46_1, wm10_8, wm10_9, wm10_10⟩ ⟨Nat.le_of_ble_eq_true rfl, Nat.le_of_ble_eq_true rfl⟩ (z_ald_n hX dX1_copyFrom_115 rfl (z_gr (c := 1) (j := 12) hX dX1_copyFrom_116 rfl inlX1 wm6_12 ⟨rfl, by decide, rfl⟩ (z_iconst hX dX1_copyFrom_119 (by decide) (z_ald_n hX dX1_copyFrom_120 rfl (z_gr (c := 1) (j := 12) hX dX1_copyFrom_121 rfl inlX1 wm6_12 ⟨rfl, by decide, rfl⟩ (z_iconst hX dX1_copyFrom_124 (by decide) (z_ald_n hX dX1_copyFrom_125 rfl (z_gi (c := 1) (j := 3) hX dX1_copyFrom_126 rfl inlX1 wm45_20 ⟨rfl, by decide, rfl⟩ (z_cp1 hX dX1_copyFrom_129 ⟨wm46_1, wm10_8, wm10_9, wm10_10⟩ ⟨Nat.le_of_ble_eq_true rfl, Nat.le_of_ble_eq_true rfl⟩ (z_ald_n hX dX1_copyFrom_132 rfl (z_gr (c := 1) (j := 14) hX dX1_copyFrom_133 rfl inlX1 wm6_14 ⟨rfl, by decide, rfl⟩ (z_iconst hX dX1_copyFrom_136 (by decide) (z_ald_n hX dX1_copyFrom_137 rfl ((tX1_copyFrom_138 hX hr hq)))))))))))))))))))))))))
def kX1_copyFrom_48 (r : pu_R) : pu_K := s_ald 0 (s_ald 1 (s_gi 1 6 (s_pi 1 6 (s_ald 0 (s_ald 1 (s_gi 1 7 (s_pi 1 7 (s_ald 1 (s_gr 1 8 (s_push (.int (0)) (s_ald 0 (s_gr 1 8 (s_push (.int (0)) (s_ald 0 (s_gi 1 2 (s_cp1 (s_ald 1 (s_gr 1 9 (s_push (.int (0)) (s_ald 0 (s_gr 1 9 (s_push (.int (0)) (s_ald 0 ((kX1_copyFrom_92 r)))))))))))))))))))))))))
theorem vX1_copyFrom_48 : pu_cok2 kX1_copyFrom_48 := fun rf r hr => by
  unfold kX1_copyFrom_48
  exact v_ald (v_ald (v_gi (v_puti (v_ald (v_ald (v_gi (v_puti (v_ald (v_gr (v_pi (v_ald (v_gr (v_pi (v_ald (v_gi (v_cp1 (v_ald (v_gr (v_pi (v_ald (v_gr (v_pi (v_ald ((vX1_copyFrom_92 rf r hr)))))))))))))))))))))))))
theorem tX1_copyFrom_48 {X : pu_X} {r : pu_R} (hX : pu_H X mdX1_copyFrom) (hr : pu_P X.2.1 X.2.2.2.2.2.2.2.2.2.2.1 r) (hq : ∀ i pc, pu_lp i = some (140, pc) → pu_S X mdX1_copyFrom pc (r i)) : pu_S X mdX1_copyFrom 48 (kX1_copyFrom_48 r) := by
  unfold kX1_copyFrom_48
  exact z_ald_n hX dX1_copyFrom_48 rfl (z_ald_n hX dX1_copyFrom_49 rfl (z_gi (c := 1) (j := 6) hX dX1_copyFrom_50 rfl inlX1 wm45_23 ⟨rfl, by decide, rfl⟩ (z_pi (c := 1) (j := 6) tyX1 tyX1_ok nmX1 hX dX1_copyFrom_53 rfl inlX1 wm45_23 ⟨rfl, by decide⟩ ⟨rfl, rfl⟩ rfl (z_ald_n hX dX1_copyFrom_56 rfl (z_ald_n hX dX1_copyFrom_57 rfl (z_gi (c := 1) (j := 7) hX dX1_copyFrom_58 rfl inlX1 wm46_0 ⟨rfl, by decide, rfl⟩ (z_pi (c := 1) (j := 7) tyX1 tyX1_ok nmX1 hX dX1_copyFrom_61 rfl inlX1 wm46_0 ⟨rfl, by decide⟩ ⟨rfl, rfl⟩ rfl (z_ald_n hX dX1_copyFrom_64 rfl (z_gr (c := 1) (j := 8) hX dX1_copyFrom_65 rfl inlX1 wm6_8 ⟨rfl, by decide, rfl⟩ (z_iconst hX dX1_copyFrom_68 (by decide) (z_ald_n hX dX1_copyFrom_69 rfl (z_gr (c := 1) (j := 8) hX dX1_copyFrom_70 rfl inlX1 wm6_8 ⟨rfl, by decide, rfl⟩ (z_iconst hX dX1_copyFrom_73 (by decide) (z_ald_n hX dX1_copyFrom_74 rfl (z_gi (c := 1) (j := 2) hX dX1_copyFrom_75 rfl inlX1 wm45_19 ⟨rfl, by decide, rfl⟩ (z_cp1 hX dX1_copyFrom_78 ⟨wm46_1, wm10_8, wm10_9, wm10_10⟩ ⟨Nat.le_of_ble_eq_true rfl, Nat.le_of_ble_eq_true rfl⟩ (z_ald_n hX dX1_copyFrom_81 rfl (z_gr (c := 1) (j := 9) hX dX1_copyFrom_82 rfl inlX1 wm6_9 ⟨rfl, by decide, rfl⟩ (z_iconst hX dX1_copyFrom_85 (by decide) (z_ald_n hX dX1_copyFrom_86 rfl (z_gr (c := 1) (j := 9) hX dX1_copyFrom_87 rfl inlX1 wm6_9 ⟨rfl, by decide, rfl⟩ (z_iconst hX dX1_copyFrom_90 (by decide) (z_ald_n hX dX1_copyFrom_91 rfl ((tX1_copyFrom_92 hX hr hq)))))))))))))))))))))))))
def kX1_copyFrom_0 (r : pu_R) : pu_K := s_ald 0 (s_ald 1 (s_gi 1 0 (s_pi 1 0 (s_ald 0 (s_ald 1 (s_gi 1 1 (s_pi 1 1 (s_ald 0 (s_ald 1 (s_gi 1 2 (s_pi 1 2 (s_ald 0 (s_ald 1 (s_gi 1 3 (s_pi 1 3 (s_ald 0 (s_ald 1 (s_gi 1 4 (s_pi 1 4 (s_ald 0 (s_ald 1 (s_gi 1 5 (s_pi 1 5 ((kX1_copyFrom_48 r)))))))))))))))))))))))))
theorem vX1_copyFrom_0 : pu_cok2 kX1_copyFrom_0 := fun rf r hr => by
  unfold kX1_copyFrom_0
  exact v_ald (v_ald (v_gi (v_puti (v_ald (v_ald (v_gi (v_puti (v_ald (v_ald (v_gi (v_puti (v_ald (v_ald (v_gi (v_puti (v_ald (v_ald (v_gi (v_puti (v_ald (v_ald (v_gi (v_puti ((vX1_copyFrom_48 rf r hr)))))))))))))))))))))))))
theorem tX1_copyFrom_0 {X : pu_X} {r : pu_R} (hX : pu_H X mdX1_copyFrom) (hr : pu_P X.2.1 X.2.2.2.2.2.2.2.2.2.2.1 r) (hq : ∀ i pc, pu_lp i = some (140, pc) → pu_S X mdX1_copyFrom pc (r i)) : pu_S X mdX1_copyFrom 0 (kX1_copyFrom_0 r) := by
  unfold kX1_copyFrom_0
  exact z_ald_n hX dX1_copyFrom_0 rfl (z_ald_n hX dX1_copyFrom_1 rfl (z_gi (c := 1) (j := 0) hX dX1_copyFrom_2 rfl inlX1 wm6_6 ⟨rfl, by decide, rfl⟩ (z_pi (c := 1) (j := 0) tyX1 tyX1_ok nmX1 hX dX1_copyFrom_5 rfl inlX1 wm6_6 ⟨rfl, by decide⟩ ⟨rfl, rfl⟩ rfl (z_ald_n hX dX1_copyFrom_8 rfl (z_ald_n hX dX1_copyFrom_9 rfl (z_gi (c := 1) (j := 1) hX dX1_copyFrom_10 rfl inlX1 wm6_7 ⟨rfl, by decide, rfl⟩ (z_pi (c := 1) (j := 1) tyX1 tyX1_ok nmX1 hX dX1_copyFrom_13 rfl inlX1 wm6_7 ⟨rfl, by decide⟩ ⟨rfl, rfl⟩ rfl (z_ald_n hX dX1_copyFrom_16 rfl (z_ald_n hX dX1_copyFrom_17 rfl (z_gi (c := 1) (j := 2) hX dX1_copyFrom_18 rfl inlX1 wm45_19 ⟨rfl, by decide, rfl⟩ (z_pi (c := 1) (j := 2) tyX1 tyX1_ok nmX1 hX dX1_copyFrom_21 rfl inlX1 wm45_19 ⟨rfl, by decide⟩ ⟨rfl, rfl⟩ rfl (z_ald_n hX dX1_copyFrom_24 rfl (z_ald_n hX dX1_copyFrom_25 rfl (z_gi (c := 1) (j := 3) hX dX1_copyFrom_26 rfl inlX1 wm45_20 ⟨rfl, by decide, rfl⟩ (z_pi (c := 1) (j := 3) tyX1 tyX1_ok nmX1 hX dX1_copyFrom_29 rfl inlX1 wm45_20 ⟨rfl, by decide⟩ ⟨rfl, rfl⟩ rfl (z_ald_n hX dX1_copyFrom_32 rfl (z_ald_n hX dX1_copyFrom_33 rfl (z_gi (c := 1) (j := 4) hX dX1_copyFrom_34 rfl inlX1 wm45_21 ⟨rfl, by decide, rfl⟩ (z_pi (c := 1) (j := 4) tyX1 tyX1_ok nmX1 hX dX1_copyFrom_37 rfl inlX1 wm45_21 ⟨rfl, by decide⟩ ⟨rfl, rfl⟩ rfl (z_ald_n hX dX1_copyFrom_40 rfl (z_ald_n hX dX1_copyFrom_41 rfl (z_gi (c := 1) (j := 5) hX dX1_copyFrom_42 rfl inlX1 wm45_22 ⟨rfl, by decide, rfl⟩ (z_pi (c := 1) (j := 5) tyX1 tyX1_ok nmX1 hX dX1_copyFrom_45 rfl inlX1 wm45_22 ⟨rfl, by decide⟩ ⟨rfl, rfl⟩ rfl ((tX1_copyFrom_48 hX hr hq)))))))))))))))))))))))))
def kX5_copyFrom_52 (r : pu_R) : pu_K := s_cv r 138 1 2 (s_ald 0 (s_gr 5 5 (s_ald 1 (s_gr 5 5 (s_cv r 139 1 8 (s_ald 0 (s_gr 5 6 (s_ald 1 (s_gr 5 6 (s_cv r 140 1 1 (s_vret)))))))))))
theorem vX5_copyFrom_52 : pu_cok2 kX5_copyFrom_52 := fun rf r hr => by
  unfold kX5_copyFrom_52
  exact v_cv hr (v_ald (v_gr (v_ald (v_gr (v_cv hr (v_ald (v_gr (v_ald (v_gr (v_cv hr (v_vret)))))))))))
theorem tX5_copyFrom_52 {X : pu_X} {r : pu_R} (hX : pu_H X mdX5_copyFrom) (hr : pu_P X.2.1 X.2.2.2.2.2.2.2.2.2.2.1 r) (hq : ∀ i pc, pu_lp i = some (141, pc) → pu_S X mdX5_copyFrom pc (r i)) : pu_S X mdX5_copyFrom 52 (kX5_copyFrom_52 r) := by
  unfold kX5_copyFrom_52
  exact z_cv (c := 2) hX hr dX5_copyFrom_52 hjX2_copyFrom mwX2_copyFrom rfl wm45_5 ⟨wm45_6, wm45_7⟩ ⟨Nat.le_of_ble_eq_true rfl, Nat.le_of_ble_eq_true rfl⟩ (z_ald_n hX dX5_copyFrom_55 rfl (z_gr (c := 5) (j := 5) hX dX5_copyFrom_56 rfl inlX5 wm3_17 ⟨rfl, by decide, rfl⟩ (z_ald_n hX dX5_copyFrom_59 rfl (z_gr (c := 5) (j := 5) hX dX5_copyFrom_60 rfl inlX5 wm3_17 ⟨rfl, by decide, rfl⟩ (z_cv (c := 8) hX hr dX5_copyFrom_63 hjX8_copyFrom mwX8_copyFrom rfl wm45_10 ⟨wm45_11, wm45_12⟩ ⟨Nat.le_of_ble_eq_true rfl, Nat.le_of_ble_eq_true rfl⟩ (z_ald_n hX dX5_copyFrom_66 rfl (z_gr (c := 5) (j := 6) hX dX5_copyFrom_67 rfl inlX5 wm3_21 ⟨rfl, by decide, rfl⟩ (z_ald_n hX dX5_copyFrom_70 rfl (z_gr (c := 5) (j := 6) hX dX5_copyFrom_71 rfl inlX5 wm3_21 ⟨rfl, by decide, rfl⟩ (z_cv (c := 1) hX hr dX5_copyFrom_74 hjX1_copyFrom mwX1_copyFrom rfl wm45_15 ⟨wm45_16, wm45_17⟩ ⟨Nat.le_of_ble_eq_true rfl, Nat.le_of_ble_eq_true rfl⟩ (z_vret hX dX5_copyFrom_77 rfl)))))))))))
def kX5_copyFrom_0 (r : pu_R) : pu_K := s_ald 0 (s_gr 5 0 (s_ald 1 (s_gr 5 0 (s_cv r 134 1 6 (s_ald 0 (s_gr 5 1 (s_ald 1 (s_gr 5 1 (s_cv r 135 1 4 (s_ald 0 (s_gr 5 2 (s_ald 1 (s_gr 5 2 (s_cv r 136 1 3 (s_ald 0 (s_gr 5 3 (s_ald 1 (s_gr 5 3 (s_cv r 137 1 10 (s_ald 0 (s_gr 5 4 (s_ald 1 (s_gr 5 4 ((kX5_copyFrom_52 r)))))))))))))))))))))))))
theorem vX5_copyFrom_0 : pu_cok2 kX5_copyFrom_0 := fun rf r hr => by
  unfold kX5_copyFrom_0
  exact v_ald (v_gr (v_ald (v_gr (v_cv hr (v_ald (v_gr (v_ald (v_gr (v_cv hr (v_ald (v_gr (v_ald (v_gr (v_cv hr (v_ald (v_gr (v_ald (v_gr (v_cv hr (v_ald (v_gr (v_ald (v_gr ((vX5_copyFrom_52 rf r hr)))))))))))))))))))))))))
theorem tX5_copyFrom_0 {X : pu_X} {r : pu_R} (hX : pu_H X mdX5_copyFrom) (hr : pu_P X.2.1 X.2.2.2.2.2.2.2.2.2.2.1 r) (hq : ∀ i pc, pu_lp i = some (141, pc) → pu_S X mdX5_copyFrom pc (r i)) : pu_S X mdX5_copyFrom 0 (kX5_copyFrom_0 r) := by
  unfold kX5_copyFrom_0
  exact z_ald_n hX dX5_copyFrom_0 rfl (z_gr (c := 5) (j := 0) hX dX5_copyFrom_1 rfl inlX5 wm2_21 ⟨rfl, by decide, rfl⟩ (z_ald_n hX dX5_copyFrom_4 rfl (z_gr (c := 5) (j := 0) hX dX5_copyFrom_5 rfl inlX5 wm2_21 ⟨rfl, by decide, rfl⟩ (z_cv (c := 6) hX hr dX5_copyFrom_8 hjX6_copyFrom mwX6_copyFrom rfl wm44_11 ⟨wm44_12, wm44_13⟩ ⟨Nat.le_of_ble_eq_true rfl, Nat.le_of_ble_eq_true rfl⟩ (z_ald_n hX dX5_copyFrom_11 rfl (z_gr (c := 5) (j := 1) hX dX5_copyFrom_12 rfl inlX5 wm3_1 ⟨rfl, by decide, rfl⟩ (z_ald_n hX dX5_copyFrom_15 rfl (z_gr (c := 5) (j := 1) hX dX5_copyFrom_16 rfl inlX5 wm3_1 ⟨rfl, by decide, rfl⟩ (z_cv (c := 4) hX hr dX5_copyFrom_19 hjX4_copyFrom mwX4_copyFrom rfl wm44_16 ⟨wm44_17, wm44_18⟩ ⟨Nat.le_of_ble_eq_true rfl, Nat.le_of_ble_eq_true rfl⟩ (z_ald_n hX dX5_copyFrom_22 rfl (z_gr (c := 5) (j := 2) hX dX5_copyFrom_23 rfl inlX5 wm3_5 ⟨rfl, by decide, rfl⟩ (z_ald_n hX dX5_copyFrom_26 rfl (z_gr (c := 5) (j := 2) hX dX5_copyFrom_27 rfl inlX5 wm3_5 ⟨rfl, by decide, rfl⟩ (z_cv (c := 3) hX hr dX5_copyFrom_30 hjX3_copyFrom mwX3_copyFrom rfl wm44_21 ⟨wm44_22, wm44_23⟩ ⟨Nat.le_of_ble_eq_true rfl, Nat.le_of_ble_eq_true rfl⟩ (z_ald_n hX dX5_copyFrom_33 rfl (z_gr (c := 5) (j := 3) hX dX5_copyFrom_34 rfl inlX5 wm3_9 ⟨rfl, by decide, rfl⟩ (z_ald_n hX dX5_copyFrom_37 rfl (z_gr (c := 5) (j := 3) hX dX5_copyFrom_38 rfl inlX5 wm3_9 ⟨rfl, by decide, rfl⟩ (z_cv (c := 10) hX hr dX5_copyFrom_41 hjX10_copyFrom mwX10_copyFrom rfl wm45_1 ⟨wm45_2, wm45_3⟩ ⟨Nat.le_of_ble_eq_true rfl, Nat.le_of_ble_eq_true rfl⟩ (z_ald_n hX dX5_copyFrom_44 rfl (z_gr (c := 5) (j := 4) hX dX5_copyFrom_45 rfl inlX5 wm3_13 ⟨rfl, by decide, rfl⟩ (z_ald_n hX dX5_copyFrom_48 rfl (z_gr (c := 5) (j := 4) hX dX5_copyFrom_49 rfl inlX5 wm3_13 ⟨rfl, by decide, rfl⟩ ((tX5_copyFrom_52 hX hr hq)))))))))))))))))))))))))
def kX11_image_33 (r : pu_R) : pu_K := s_ald 0 (s_gr 11 3 (s_ild 1 (s_ar (s_ald 0 (s_gr 11 2 (s_cv r 141 1 5 (s_push (.int (1)) (s_zret))))))))
theorem vX11_image_33 : pu_cok2 kX11_image_33 := fun rf r hr => by
  unfold kX11_image_33
  exact v_ald (v_gr (v_ild (v_ar (v_ald (v_gr (v_cv hr (v_pi (v_zret))))))))
theorem tX11_image_33 {X : pu_X} {r : pu_R} (hX : pu_H X mdX11_image) (hr : pu_P X.2.1 X.2.2.2.2.2.2.2.2.2.2.1 r) (hq : ∀ i pc, pu_lp i = some (142, pc) → pu_S X mdX11_image pc (r i)) : pu_S X mdX11_image 33 (kX11_image_33 r) := by
  unfold kX11_image_33
  exact z_ald_n hX dX11_image_33 rfl (z_gr (c := 11) (j := 3) hX dX11_image_34 rfl inlX11 wm1_21 ⟨rfl, by decide, rfl⟩ (z_ild_n hX dX11_image_37 rfl (z_aald hX dX11_image_38 (z_ald_n hX dX11_image_39 rfl (z_gr (c := 11) (j := 2) hX dX11_image_40 rfl inlX11 wm1_20 ⟨rfl, by decide, rfl⟩ (z_cv (c := 5) hX hr dX11_image_43 hjX5_copyFrom mwX5_copyFrom rfl wm44_7 ⟨wm44_8, wm44_9⟩ ⟨Nat.le_of_ble_eq_true rfl, Nat.le_of_ble_eq_true rfl⟩ (z_iconst hX dX11_image_46 (by decide) (z_zret hX dX11_image_47 rfl))))))))
def kX11_image_11 (r : pu_R) : pu_K := s_ald 0 (s_gr 11 3 (s_ild 1 (s_ar (s_nn (kX11_image_33 r) (s_ald 0 (s_gr 11 3 (s_ild 1 (s_new 5 (s_dup (s_ci r 8 0 (s_wr ((kX11_image_33 r)))))))))))))
theorem vX11_image_11 : pu_cok2 kX11_image_11 := fun rf r hr => by
  unfold kX11_image_11
  exact v_ald (v_gr (v_ild (v_ar (v_nn (vX11_image_33 rf r hr) (v_ald (v_gr (v_ild (v_new (v_dup (v_ci hr (v_wr ((vX11_image_33 rf r hr)))))))))))))
theorem tX11_image_11 {X : pu_X} {r : pu_R} (hX : pu_H X mdX11_image) (hr : pu_P X.2.1 X.2.2.2.2.2.2.2.2.2.2.1 r) (hq : ∀ i pc, pu_lp i = some (142, pc) → pu_S X mdX11_image pc (r i)) : pu_S X mdX11_image 11 (kX11_image_11 r) := by
  unfold kX11_image_11
  exact z_ald_n hX dX11_image_11 rfl (z_gr (c := 11) (j := 3) hX dX11_image_12 rfl inlX11 wm1_21 ⟨rfl, by decide, rfl⟩ (z_ild_n hX dX11_image_15 rfl (z_aald hX dX11_image_16 (z_nn hX dX11_image_17 (by decide) (tX11_image_33 hX hr hq) (z_ald_n hX dX11_image_20 rfl (z_gr (c := 11) (j := 3) hX dX11_image_21 rfl inlX11 wm1_21 ⟨rfl, by decide, rfl⟩ (z_ild_n hX dX11_image_24 rfl (z_new (c := 5) tyX5 tyX5_ok hX dX11_image_25 rfl inlX5 ⟨wm1_17, wm1_18, wm1_19⟩ ⟨rfl, by decide⟩ (z_dup hX dX11_image_28 (z_ciN hX hr dX11_image_29 hjX5_init mwX5_init ⟨rfl, rfl⟩ ne1 wm2_15 ⟨Nat.le_of_ble_eq_true rfl, Nat.le_of_ble_eq_true rfl⟩ (z_aast hX dX11_image_32 ((tX11_image_33 hX hr hq)))))))))))))
def kX11_image_9 (r : pu_R) : pu_K := s_push (.int (0)) (s_zret)
theorem vX11_image_9 : pu_cok2 kX11_image_9 := fun rf r hr => by
  unfold kX11_image_9
  exact v_pi (v_zret)
theorem tX11_image_9 {X : pu_X} {r : pu_R} (hX : pu_H X mdX11_image) (hr : pu_P X.2.1 X.2.2.2.2.2.2.2.2.2.2.1 r) (hq : ∀ i pc, pu_lp i = some (142, pc) → pu_S X mdX11_image pc (r i)) : pu_S X mdX11_image 9 (kX11_image_9 r) := by
  unfold kX11_image_9
  exact z_iconst hX dX11_image_9 (by decide) (z_zret hX dX11_image_10 rfl)
def kX11_image_0 (r : pu_R) : pu_K := s_ild 1 (s_iflt (kX11_image_9 r) (s_ild 1 (s_push (.int (3)) (s_iclt (kX11_image_11 r) ((kX11_image_9 r))))))
theorem vX11_image_0 : pu_cok2 kX11_image_0 := fun rf r hr => by
  unfold kX11_image_0
  exact v_ild (v_iflt (vX11_image_9 rf r hr) (v_ild (v_pi (v_iclt (vX11_image_11 rf r hr) ((vX11_image_9 rf r hr))))))
theorem tX11_image_0 {X : pu_X} {r : pu_R} (hX : pu_H X mdX11_image) (hr : pu_P X.2.1 X.2.2.2.2.2.2.2.2.2.2.1 r) (hq : ∀ i pc, pu_lp i = some (142, pc) → pu_S X mdX11_image pc (r i)) : pu_S X mdX11_image 0 (kX11_image_0 r) := by
  unfold kX11_image_0
  exact z_ild_n hX dX11_image_0 rfl (z_iflt hX dX11_image_1 (by decide) (tX11_image_9 hX hr hq) (z_ild_n hX dX11_image_4 rfl (z_iconst hX dX11_image_5 (by decide) (z_iclt hX dX11_image_6 (by decide) (tX11_image_11 hX hr hq) ((tX11_image_9 hX hr hq))))))
def kX11_back_20 (r : pu_R) : pu_K := s_ald 0 (s_gr 11 2 (s_ald 0 (s_gr 11 3 (s_ild 1 (s_ar (s_cv r 141 1 5 (s_push (.int (1)) (s_zret))))))))
theorem vX11_back_20 : pu_cok2 kX11_back_20 := fun rf r hr => by
  unfold kX11_back_20
  exact v_ald (v_gr (v_ald (v_gr (v_ild (v_ar (v_cv hr (v_pi (v_zret))))))))
theorem tX11_back_20 {X : pu_X} {r : pu_R} (hX : pu_H X mdX11_back) (hr : pu_P X.2.1 X.2.2.2.2.2.2.2.2.2.2.1 r) (hq : ∀ i pc, pu_lp i = some (143, pc) → pu_S X mdX11_back pc (r i)) : pu_S X mdX11_back 20 (kX11_back_20 r) := by
  unfold kX11_back_20
  exact z_ald_n hX dX11_back_20 rfl (z_gr (c := 11) (j := 2) hX dX11_back_21 rfl inlX11 wm1_20 ⟨rfl, by decide, rfl⟩ (z_ald_n hX dX11_back_24 rfl (z_gr (c := 11) (j := 3) hX dX11_back_25 rfl inlX11 wm1_21 ⟨rfl, by decide, rfl⟩ (z_ild_n hX dX11_back_28 rfl (z_aald hX dX11_back_29 (z_cv (c := 5) hX hr dX11_back_30 hjX5_copyFrom mwX5_copyFrom rfl wm44_7 ⟨wm44_8, wm44_9⟩ ⟨Nat.le_of_ble_eq_true rfl, Nat.le_of_ble_eq_true rfl⟩ (z_iconst hX dX11_back_33 (by decide) (z_zret hX dX11_back_34 rfl))))))))
def kX11_back_18 (r : pu_R) : pu_K := s_push (.int (0)) (s_zret)
theorem vX11_back_18 : pu_cok2 kX11_back_18 := fun rf r hr => by
  unfold kX11_back_18
  exact v_pi (v_zret)
theorem tX11_back_18 {X : pu_X} {r : pu_R} (hX : pu_H X mdX11_back) (hr : pu_P X.2.1 X.2.2.2.2.2.2.2.2.2.2.1 r) (hq : ∀ i pc, pu_lp i = some (143, pc) → pu_S X mdX11_back pc (r i)) : pu_S X mdX11_back 18 (kX11_back_18 r) := by
  unfold kX11_back_18
  exact z_iconst hX dX11_back_18 (by decide) (z_zret hX dX11_back_19 rfl)
def kX11_back_0 (r : pu_R) : pu_K := s_ild 1 (s_iflt (kX11_back_18 r) (s_ild 1 (s_push (.int (3)) (s_icge (kX11_back_18 r) (s_ald 0 (s_gr 11 3 (s_ild 1 (s_ar (s_nn (kX11_back_20 r) ((kX11_back_18 r)))))))))))
theorem vX11_back_0 : pu_cok2 kX11_back_0 := fun rf r hr => by
  unfold kX11_back_0
  exact v_ild (v_iflt (vX11_back_18 rf r hr) (v_ild (v_pi (v_icge (vX11_back_18 rf r hr) (v_ald (v_gr (v_ild (v_ar (v_nn (vX11_back_20 rf r hr) ((vX11_back_18 rf r hr)))))))))))
theorem tX11_back_0 {X : pu_X} {r : pu_R} (hX : pu_H X mdX11_back) (hr : pu_P X.2.1 X.2.2.2.2.2.2.2.2.2.2.1 r) (hq : ∀ i pc, pu_lp i = some (143, pc) → pu_S X mdX11_back pc (r i)) : pu_S X mdX11_back 0 (kX11_back_0 r) := by
  unfold kX11_back_0
  exact z_ild_n hX dX11_back_0 rfl (z_iflt hX dX11_back_1 (by decide) (tX11_back_18 hX hr hq) (z_ild_n hX dX11_back_4 rfl (z_iconst hX dX11_back_5 (by decide) (z_icge hX dX11_back_6 (by decide) (tX11_back_18 hX hr hq) (z_ald_n hX dX11_back_9 rfl (z_gr (c := 11) (j := 3) hX dX11_back_10 rfl inlX11 wm1_21 ⟨rfl, by decide, rfl⟩ (z_ild_n hX dX11_back_13 rfl (z_aald hX dX11_back_14 (z_nn hX dX11_back_15 (by decide) (tX11_back_20 hX hr hq) ((tX11_back_18 hX hr hq)))))))))))
def kX11_about_219 (r : pu_R) : pu_K := s_push (.int (-1)) (s_iret)
theorem vX11_about_219 : pu_cok2 kX11_about_219 := fun rf r hr => by
  unfold kX11_about_219
  exact v_pi (v_iret)
theorem tX11_about_219 {X : pu_X} {r : pu_R} (hX : pu_H X mdX11_about) (hr : pu_P X.2.1 X.2.2.2.2.2.2.2.2.2.2.1 r) (hq : ∀ i pc, pu_lp i = some (144, pc) → pu_S X mdX11_about pc (r i)) : pu_S X mdX11_about 219 (kX11_about_219 r) := by
  unfold kX11_about_219
  exact z_iconst hX dX11_about_219 (by decide) (z_iret hX dX11_about_220 rfl)
def kX11_about_206 (r : pu_R) : pu_K := s_ald 0 (s_gr 11 2 (s_gr 5 4 (s_gr 2 2 (s_ild 1 (s_ai 1 (s_iret))))))
theorem vX11_about_206 : pu_cok2 kX11_about_206 := fun rf r hr => by
  unfold kX11_about_206
  exact v_ald (v_gr (v_gr (v_gr (v_ild (v_ai (v_iret))))))
theorem tX11_about_206 {X : pu_X} {r : pu_R} (hX : pu_H X mdX11_about) (hr : pu_P X.2.1 X.2.2.2.2.2.2.2.2.2.2.1 r) (hq : ∀ i pc, pu_lp i = some (144, pc) → pu_S X mdX11_about pc (r i)) : pu_S X mdX11_about 206 (kX11_about_206 r) := by
  unfold kX11_about_206
  exact z_ald_n hX dX11_about_206 rfl (z_gr (c := 11) (j := 2) hX dX11_about_207 rfl inlX11 wm1_20 ⟨rfl, by decide, rfl⟩ (z_gr (c := 5) (j := 4) hX dX11_about_210 rfl inlX5 wm21_20 ⟨rfl, by decide, rfl⟩ (z_gr (c := 2) (j := 2) hX dX11_about_213 rfl inlX2 wm46_23 ⟨rfl, by decide, rfl⟩ (z_ild_n hX dX11_about_216 rfl (z_iald hX dX11_about_217 (z_iret hX dX11_about_218 rfl))))))
def kX11_about_193 (r : pu_R) : pu_K := s_ald 0 (s_gr 11 2 (s_gr 5 4 (s_gr 2 4 (s_ild 1 (s_ai 1 (s_iret))))))
theorem vX11_about_193 : pu_cok2 kX11_about_193 := fun rf r hr => by
  unfold kX11_about_193
  exact v_ald (v_gr (v_gr (v_gr (v_ild (v_ai (v_iret))))))
theorem tX11_about_193 {X : pu_X} {r : pu_R} (hX : pu_H X mdX11_about) (hr : pu_P X.2.1 X.2.2.2.2.2.2.2.2.2.2.1 r) (hq : ∀ i pc, pu_lp i = some (144, pc) → pu_S X mdX11_about pc (r i)) : pu_S X mdX11_about 193 (kX11_about_193 r) := by
  unfold kX11_about_193
  exact z_ald_n hX dX11_about_193 rfl (z_gr (c := 11) (j := 2) hX dX11_about_194 rfl inlX11 wm1_20 ⟨rfl, by decide, rfl⟩ (z_gr (c := 5) (j := 4) hX dX11_about_197 rfl inlX5 wm21_20 ⟨rfl, by decide, rfl⟩ (z_gr (c := 2) (j := 4) hX dX11_about_200 rfl inlX2 wm46_22 ⟨rfl, by decide, rfl⟩ (z_ild_n hX dX11_about_203 rfl (z_iald hX dX11_about_204 (z_iret hX dX11_about_205 rfl))))))
def kX11_about_176 (r : pu_R) : pu_K := s_ald 0 (s_gr 11 2 (s_gr 5 4 (s_gr 2 10 (s_push (.int (2)) (s_ild 1 (s_imul (s_push (.int (1)) (s_iadd (s_ai 1 (s_iret))))))))))
theorem vX11_about_176 : pu_cok2 kX11_about_176 := fun rf r hr => by
  unfold kX11_about_176
  exact v_ald (v_gr (v_gr (v_gr (v_pi (v_ild (v_imul (v_pi (v_iadd (v_ai (v_iret))))))))))
theorem tX11_about_176 {X : pu_X} {r : pu_R} (hX : pu_H X mdX11_about) (hr : pu_P X.2.1 X.2.2.2.2.2.2.2.2.2.2.1 r) (hq : ∀ i pc, pu_lp i = some (144, pc) → pu_S X mdX11_about pc (r i)) : pu_S X mdX11_about 176 (kX11_about_176 r) := by
  unfold kX11_about_176
  exact z_ald_n hX dX11_about_176 rfl (z_gr (c := 11) (j := 2) hX dX11_about_177 rfl inlX11 wm1_20 ⟨rfl, by decide, rfl⟩ (z_gr (c := 5) (j := 4) hX dX11_about_180 rfl inlX5 wm21_20 ⟨rfl, by decide, rfl⟩ (z_gr (c := 2) (j := 10) hX dX11_about_183 rfl inlX2 wm46_21 ⟨rfl, by decide, rfl⟩ (z_iconst hX dX11_about_186 (by decide) (z_ild_n hX dX11_about_187 rfl (z_imul hX dX11_about_188 (z_iconst hX dX11_about_189 (by decide) (z_iadd hX dX11_about_190 (z_iald hX dX11_about_191 (z_iret hX dX11_about_192 rfl))))))))))
def kX11_about_159 (r : pu_R) : pu_K := s_ald 0 (s_gr 11 2 (s_gr 5 4 (s_gr 2 9 (s_push (.int (2)) (s_ild 1 (s_imul (s_push (.int (1)) (s_iadd (s_ai 1 (s_iret))))))))))
theorem vX11_about_159 : pu_cok2 kX11_about_159 := fun rf r hr => by
  unfold kX11_about_159
  exact v_ald (v_gr (v_gr (v_gr (v_pi (v_ild (v_imul (v_pi (v_iadd (v_ai (v_iret))))))))))
theorem tX11_about_159 {X : pu_X} {r : pu_R} (hX : pu_H X mdX11_about) (hr : pu_P X.2.1 X.2.2.2.2.2.2.2.2.2.2.1 r) (hq : ∀ i pc, pu_lp i = some (144, pc) → pu_S X mdX11_about pc (r i)) : pu_S X mdX11_about 159 (kX11_about_159 r) := by
  unfold kX11_about_159
  exact z_ald_n hX dX11_about_159 rfl (z_gr (c := 11) (j := 2) hX dX11_about_160 rfl inlX11 wm1_20 ⟨rfl, by decide, rfl⟩ (z_gr (c := 5) (j := 4) hX dX11_about_163 rfl inlX5 wm21_20 ⟨rfl, by decide, rfl⟩ (z_gr (c := 2) (j := 9) hX dX11_about_166 rfl inlX2 wm46_20 ⟨rfl, by decide, rfl⟩ (z_iconst hX dX11_about_169 (by decide) (z_ild_n hX dX11_about_170 rfl (z_imul hX dX11_about_171 (z_iconst hX dX11_about_172 (by decide) (z_iadd hX dX11_about_173 (z_iald hX dX11_about_174 (z_iret hX dX11_about_175 rfl))))))))))
def kX11_about_142 (r : pu_R) : pu_K := s_ald 0 (s_gr 11 2 (s_gr 5 4 (s_gr 2 8 (s_push (.int (2)) (s_ild 1 (s_imul (s_push (.int (1)) (s_iadd (s_ai 1 (s_iret))))))))))
theorem vX11_about_142 : pu_cok2 kX11_about_142 := fun rf r hr => by
  unfold kX11_about_142
  exact v_ald (v_gr (v_gr (v_gr (v_pi (v_ild (v_imul (v_pi (v_iadd (v_ai (v_iret))))))))))
theorem tX11_about_142 {X : pu_X} {r : pu_R} (hX : pu_H X mdX11_about) (hr : pu_P X.2.1 X.2.2.2.2.2.2.2.2.2.2.1 r) (hq : ∀ i pc, pu_lp i = some (144, pc) → pu_S X mdX11_about pc (r i)) : pu_S X mdX11_about 142 (kX11_about_142 r) := by
  unfold kX11_about_142
  exact z_ald_n hX dX11_about_142 rfl (z_gr (c := 11) (j := 2) hX dX11_about_143 rfl inlX11 wm1_20 ⟨rfl, by decide, rfl⟩ (z_gr (c := 5) (j := 4) hX dX11_about_146 rfl inlX5 wm21_20 ⟨rfl, by decide, rfl⟩ (z_gr (c := 2) (j := 8) hX dX11_about_149 rfl inlX2 wm46_19 ⟨rfl, by decide, rfl⟩ (z_iconst hX dX11_about_152 (by decide) (z_ild_n hX dX11_about_153 rfl (z_imul hX dX11_about_154 (z_iconst hX dX11_about_155 (by decide) (z_iadd hX dX11_about_156 (z_iald hX dX11_about_157 (z_iret hX dX11_about_158 rfl))))))))))
def kX11_about_127 (r : pu_R) : pu_K := s_ald 0 (s_gr 11 2 (s_gr 5 4 (s_gr 2 10 (s_push (.int (2)) (s_ild 1 (s_imul (s_ai 1 (s_iret))))))))
theorem vX11_about_127 : pu_cok2 kX11_about_127 := fun rf r hr => by
  unfold kX11_about_127
  exact v_ald (v_gr (v_gr (v_gr (v_pi (v_ild (v_imul (v_ai (v_iret))))))))
theorem tX11_about_127 {X : pu_X} {r : pu_R} (hX : pu_H X mdX11_about) (hr : pu_P X.2.1 X.2.2.2.2.2.2.2.2.2.2.1 r) (hq : ∀ i pc, pu_lp i = some (144, pc) → pu_S X mdX11_about pc (r i)) : pu_S X mdX11_about 127 (kX11_about_127 r) := by
  unfold kX11_about_127
  exact z_ald_n hX dX11_about_127 rfl (z_gr (c := 11) (j := 2) hX dX11_about_128 rfl inlX11 wm1_20 ⟨rfl, by decide, rfl⟩ (z_gr (c := 5) (j := 4) hX dX11_about_131 rfl inlX5 wm21_20 ⟨rfl, by decide, rfl⟩ (z_gr (c := 2) (j := 10) hX dX11_about_134 rfl inlX2 wm46_21 ⟨rfl, by decide, rfl⟩ (z_iconst hX dX11_about_137 (by decide) (z_ild_n hX dX11_about_138 rfl (z_imul hX dX11_about_139 (z_iald hX dX11_about_140 (z_iret hX dX11_about_141 rfl))))))))
def kX11_about_112 (r : pu_R) : pu_K := s_ald 0 (s_gr 11 2 (s_gr 5 4 (s_gr 2 9 (s_push (.int (2)) (s_ild 1 (s_imul (s_ai 1 (s_iret))))))))
theorem vX11_about_112 : pu_cok2 kX11_about_112 := fun rf r hr => by
  unfold kX11_about_112
  exact v_ald (v_gr (v_gr (v_gr (v_pi (v_ild (v_imul (v_ai (v_iret))))))))
theorem tX11_about_112 {X : pu_X} {r : pu_R} (hX : pu_H X mdX11_about) (hr : pu_P X.2.1 X.2.2.2.2.2.2.2.2.2.2.1 r) (hq : ∀ i pc, pu_lp i = some (144, pc) → pu_S X mdX11_about pc (r i)) : pu_S X mdX11_about 112 (kX11_about_112 r) := by
  unfold kX11_about_112
  exact z_ald_n hX dX11_about_112 rfl (z_gr (c := 11) (j := 2) hX dX11_about_113 rfl inlX11 wm1_20 ⟨rfl, by decide, rfl⟩ (z_gr (c := 5) (j := 4) hX dX11_about_116 rfl inlX5 wm21_20 ⟨rfl, by decide, rfl⟩ (z_gr (c := 2) (j := 9) hX dX11_about_119 rfl inlX2 wm46_20 ⟨rfl, by decide, rfl⟩ (z_iconst hX dX11_about_122 (by decide) (z_ild_n hX dX11_about_123 rfl (z_imul hX dX11_about_124 (z_iald hX dX11_about_125 (z_iret hX dX11_about_126 rfl))))))))
def kX11_about_97 (r : pu_R) : pu_K := s_ald 0 (s_gr 11 2 (s_gr 5 4 (s_gr 2 8 (s_push (.int (2)) (s_ild 1 (s_imul (s_ai 1 (s_iret))))))))
theorem vX11_about_97 : pu_cok2 kX11_about_97 := fun rf r hr => by
  unfold kX11_about_97
  exact v_ald (v_gr (v_gr (v_gr (v_pi (v_ild (v_imul (v_ai (v_iret))))))))
theorem tX11_about_97 {X : pu_X} {r : pu_R} (hX : pu_H X mdX11_about) (hr : pu_P X.2.1 X.2.2.2.2.2.2.2.2.2.2.1 r) (hq : ∀ i pc, pu_lp i = some (144, pc) → pu_S X mdX11_about pc (r i)) : pu_S X mdX11_about 97 (kX11_about_97 r) := by
  unfold kX11_about_97
  exact z_ald_n hX dX11_about_97 rfl (z_gr (c := 11) (j := 2) hX dX11_about_98 rfl inlX11 wm1_20 ⟨rfl, by decide, rfl⟩ (z_gr (c := 5) (j := 4) hX dX11_about_101 rfl inlX5 wm21_20 ⟨rfl, by decide, rfl⟩ (z_gr (c := 2) (j := 8) hX dX11_about_104 rfl inlX2 wm46_19 ⟨rfl, by decide, rfl⟩ (z_iconst hX dX11_about_107 (by decide) (z_ild_n hX dX11_about_108 rfl (z_imul hX dX11_about_109 (z_iald hX dX11_about_110 (z_iret hX dX11_about_111 rfl))))))))
def kX11_about_84 (r : pu_R) : pu_K := s_ald 0 (s_gr 11 2 (s_gr 5 4 (s_gr 2 3 (s_ild 1 (s_ai 1 (s_iret))))))
theorem vX11_about_84 : pu_cok2 kX11_about_84 := fun rf r hr => by
  unfold kX11_about_84
  exact v_ald (v_gr (v_gr (v_gr (v_ild (v_ai (v_iret))))))
theorem tX11_about_84 {X : pu_X} {r : pu_R} (hX : pu_H X mdX11_about) (hr : pu_P X.2.1 X.2.2.2.2.2.2.2.2.2.2.1 r) (hq : ∀ i pc, pu_lp i = some (144, pc) → pu_S X mdX11_about pc (r i)) : pu_S X mdX11_about 84 (kX11_about_84 r) := by
  unfold kX11_about_84
  exact z_ald_n hX dX11_about_84 rfl (z_gr (c := 11) (j := 2) hX dX11_about_85 rfl inlX11 wm1_20 ⟨rfl, by decide, rfl⟩ (z_gr (c := 5) (j := 4) hX dX11_about_88 rfl inlX5 wm21_20 ⟨rfl, by decide, rfl⟩ (z_gr (c := 2) (j := 3) hX dX11_about_91 rfl inlX2 wm46_18 ⟨rfl, by decide, rfl⟩ (z_ild_n hX dX11_about_94 rfl (z_iald hX dX11_about_95 (z_iret hX dX11_about_96 rfl))))))
def kX11_about_72 (r : pu_R) : pu_K := s_ald 0 (s_gr 11 2 (s_gr 5 4 (s_ild 1 (s_cv r 91 1 2 (s_iret)))))
theorem vX11_about_72 : pu_cok2 kX11_about_72 := fun rf r hr => by
  unfold kX11_about_72
  exact v_ald (v_gr (v_gr (v_ild (v_cv hr (v_iret)))))
theorem tX11_about_72 {X : pu_X} {r : pu_R} (hX : pu_H X mdX11_about) (hr : pu_P X.2.1 X.2.2.2.2.2.2.2.2.2.2.1 r) (hq : ∀ i pc, pu_lp i = some (144, pc) → pu_S X mdX11_about pc (r i)) : pu_S X mdX11_about 72 (kX11_about_72 r) := by
  unfold kX11_about_72
  exact z_ald_n hX dX11_about_72 rfl (z_gr (c := 11) (j := 2) hX dX11_about_73 rfl inlX11 wm1_20 ⟨rfl, by decide, rfl⟩ (z_gr (c := 5) (j := 4) hX dX11_about_76 rfl inlX5 wm21_20 ⟨rfl, by decide, rfl⟩ (z_ild_n hX dX11_about_79 rfl (z_cv (c := 2) hX hr dX11_about_80 hjX2_sortOf mwX2_sortOf rfl wm32_18 ⟨wm32_19, wm32_20⟩ ⟨Nat.le_of_ble_eq_true rfl, Nat.le_of_ble_eq_true rfl⟩ (z_iret hX dX11_about_83 rfl)))))
def kX11_about_16 (r : pu_R) : pu_K := s_ild 2 (s_sw (0) [(kX11_about_72 r), (kX11_about_84 r), (kX11_about_97 r), (kX11_about_112 r), (kX11_about_127 r), (kX11_about_142 r), (kX11_about_159 r), (kX11_about_176 r), (kX11_about_193 r), (kX11_about_206 r)] (kX11_about_219 r))
theorem vX11_about_16 : pu_cok2 kX11_about_16 := fun rf r hr => by
  unfold kX11_about_16
  exact v_ild (v_sw (kfs := fun f => [(kX11_about_72 (rf f)), (kX11_about_84 (rf f)), (kX11_about_97 (rf f)), (kX11_about_112 (rf f)), (kX11_about_127 (rf f)), (kX11_about_142 (rf f)), (kX11_about_159 (rf f)), (kX11_about_176 (rf f)), (kX11_about_193 (rf f)), (kX11_about_206 (rf f))]) (fun i k hk => match i, hk with
    | 0, hk => by cases hk; exact ⟨_, fun _ => rfl, (vX11_about_72 rf r hr)⟩
    | 1, hk => by cases hk; exact ⟨_, fun _ => rfl, (vX11_about_84 rf r hr)⟩
    | 2, hk => by cases hk; exact ⟨_, fun _ => rfl, (vX11_about_97 rf r hr)⟩
    | 3, hk => by cases hk; exact ⟨_, fun _ => rfl, (vX11_about_112 rf r hr)⟩
    | 4, hk => by cases hk; exact ⟨_, fun _ => rfl, (vX11_about_127 rf r hr)⟩
    | 5, hk => by cases hk; exact ⟨_, fun _ => rfl, (vX11_about_142 rf r hr)⟩
    | 6, hk => by cases hk; exact ⟨_, fun _ => rfl, (vX11_about_159 rf r hr)⟩
    | 7, hk => by cases hk; exact ⟨_, fun _ => rfl, (vX11_about_176 rf r hr)⟩
    | 8, hk => by cases hk; exact ⟨_, fun _ => rfl, (vX11_about_193 rf r hr)⟩
    | 9, hk => by cases hk; exact ⟨_, fun _ => rfl, (vX11_about_206 rf r hr)⟩
    | q + 10, hk => by cases hk) (fun _ => rfl) (vX11_about_219 rf r hr))
theorem tX11_about_16 {X : pu_X} {r : pu_R} (hX : pu_H X mdX11_about) (hr : pu_P X.2.1 X.2.2.2.2.2.2.2.2.2.2.1 r) (hq : ∀ i pc, pu_lp i = some (144, pc) → pu_S X mdX11_about pc (r i)) : pu_S X mdX11_about 16 (kX11_about_16 r) := by
  unfold kX11_about_16
  exact z_ild_n hX dX11_about_16 rfl (z_sw hX dX11_about_17 (by rfl) (by decide) (tX11_about_219 hX hr hq) (fun i k hk => match i, hk with
    | 0, hk => by cases hk; exact ⟨55, 72, rfl, by decide, (tX11_about_72 hX hr hq)⟩
    | 1, hk => by cases hk; exact ⟨67, 84, rfl, by decide, (tX11_about_84 hX hr hq)⟩
    | 2, hk => by cases hk; exact ⟨80, 97, rfl, by decide, (tX11_about_97 hX hr hq)⟩
    | 3, hk => by cases hk; exact ⟨95, 112, rfl, by decide, (tX11_about_112 hX hr hq)⟩
    | 4, hk => by cases hk; exact ⟨110, 127, rfl, by decide, (tX11_about_127 hX hr hq)⟩
    | 5, hk => by cases hk; exact ⟨125, 142, rfl, by decide, (tX11_about_142 hX hr hq)⟩
    | 6, hk => by cases hk; exact ⟨142, 159, rfl, by decide, (tX11_about_159 hX hr hq)⟩
    | 7, hk => by cases hk; exact ⟨159, 176, rfl, by decide, (tX11_about_176 hX hr hq)⟩
    | 8, hk => by cases hk; exact ⟨176, 193, rfl, by decide, (tX11_about_193 hX hr hq)⟩
    | 9, hk => by cases hk; exact ⟨189, 206, rfl, by decide, (tX11_about_206 hX hr hq)⟩
    | q + 10, hk => by cases hk))
def kX11_about_0 (r : pu_R) : pu_K := s_ald 0 (s_gr 11 2 (s_gr 5 4 (s_ild 1 (s_cv r 85 1 2 (s_ifne (kX11_about_16 r) (s_push (.int (-1)) (s_iret)))))))
theorem vX11_about_0 : pu_cok2 kX11_about_0 := fun rf r hr => by
  unfold kX11_about_0
  exact v_ald (v_gr (v_gr (v_ild (v_cv hr (v_ifne (vX11_about_16 rf r hr) (v_pi (v_iret)))))))
theorem tX11_about_0 {X : pu_X} {r : pu_R} (hX : pu_H X mdX11_about) (hr : pu_P X.2.1 X.2.2.2.2.2.2.2.2.2.2.1 r) (hq : ∀ i pc, pu_lp i = some (144, pc) → pu_S X mdX11_about pc (r i)) : pu_S X mdX11_about 0 (kX11_about_0 r) := by
  unfold kX11_about_0
  exact z_ald_n hX dX11_about_0 rfl (z_gr (c := 11) (j := 2) hX dX11_about_1 rfl inlX11 wm1_20 ⟨rfl, by decide, rfl⟩ (z_gr (c := 5) (j := 4) hX dX11_about_4 rfl inlX5 wm21_20 ⟨rfl, by decide, rfl⟩ (z_ild_n hX dX11_about_7 rfl (z_cv (c := 2) hX hr dX11_about_8 hjX2_isDoor mwX2_isDoor rfl wm47_0 ⟨wm27_13, wm27_14⟩ ⟨Nat.le_of_ble_eq_true rfl, Nat.le_of_ble_eq_true rfl⟩ (z_ifne hX dX11_about_11 (by decide) (tX11_about_16 hX hr hq) (z_iconst hX dX11_about_14 (by decide) (z_iret hX dX11_about_15 rfl)))))))
def kX2_isThereOn_33 (r : pu_R) : pu_K := s_zret
theorem vX2_isThereOn_33 : pu_cok2 kX2_isThereOn_33 := fun rf r hr => by
  unfold kX2_isThereOn_33
  exact v_zret
theorem tX2_isThereOn_33 {X : pu_X} {r : pu_R} (hX : pu_H X mdX2_isThereOn) (hr : pu_P X.2.1 X.2.2.2.2.2.2.2.2.2.2.1 r) (hq : ∀ i pc, pu_lp i = some (145, pc) → pu_S X mdX2_isThereOn pc (r i)) : pu_S X mdX2_isThereOn 33 (kX2_isThereOn_33 r) := by
  unfold kX2_isThereOn_33
  exact z_zret hX dX2_isThereOn_33 rfl
def kX2_isThereOn_32 (r : pu_R) : pu_K := s_push (.int (0)) ((kX2_isThereOn_33 r))
theorem vX2_isThereOn_32 : pu_cok2 kX2_isThereOn_32 := fun rf r hr => by
  unfold kX2_isThereOn_32
  exact v_pi ((vX2_isThereOn_33 rf r hr))
theorem tX2_isThereOn_32 {X : pu_X} {r : pu_R} (hX : pu_H X mdX2_isThereOn) (hr : pu_P X.2.1 X.2.2.2.2.2.2.2.2.2.2.1 r) (hq : ∀ i pc, pu_lp i = some (145, pc) → pu_S X mdX2_isThereOn pc (r i)) : pu_S X mdX2_isThereOn 32 (kX2_isThereOn_32 r) := by
  unfold kX2_isThereOn_32
  exact z_iconst hX dX2_isThereOn_32 (by decide) ((tX2_isThereOn_33 hX hr hq))
def kX2_isThereOn_0 (r : pu_R) : pu_K := s_ald 0 (s_ild 1 (s_cv r 85 1 2 (s_ifeq (kX2_isThereOn_32 r) (s_ald 3 (s_ald 0 (s_gr 2 5 (s_ild 1 (s_ai 1 (s_ald 0 (s_gr 2 6 (s_ild 1 (s_ai 1 (s_ild 2 (s_cv r 68 3 6 (s_ifeq (kX2_isThereOn_32 r) (s_push (.int (1)) ((kX2_isThereOn_33 r))))))))))))))))))
theorem vX2_isThereOn_0 : pu_cok2 kX2_isThereOn_0 := fun rf r hr => by
  unfold kX2_isThereOn_0
  exact v_ald (v_ild (v_cv hr (v_ifeq (vX2_isThereOn_32 rf r hr) (v_ald (v_ald (v_gr (v_ild (v_ai (v_ald (v_gr (v_ild (v_ai (v_ild (v_cv hr (v_ifeq (vX2_isThereOn_32 rf r hr) (v_pi ((vX2_isThereOn_33 rf r hr))))))))))))))))))
theorem tX2_isThereOn_0 {X : pu_X} {r : pu_R} (hX : pu_H X mdX2_isThereOn) (hr : pu_P X.2.1 X.2.2.2.2.2.2.2.2.2.2.1 r) (hq : ∀ i pc, pu_lp i = some (145, pc) → pu_S X mdX2_isThereOn pc (r i)) : pu_S X mdX2_isThereOn 0 (kX2_isThereOn_0 r) := by
  unfold kX2_isThereOn_0
  exact z_ald_n hX dX2_isThereOn_0 rfl (z_ild_n hX dX2_isThereOn_1 rfl (z_cv (c := 2) hX hr dX2_isThereOn_2 hjX2_isDoor mwX2_isDoor rfl wm27_12 ⟨wm27_13, wm27_14⟩ ⟨Nat.le_of_ble_eq_true rfl, Nat.le_of_ble_eq_true rfl⟩ (z_ifeq hX dX2_isThereOn_5 (by decide) (tX2_isThereOn_32 hX hr hq) (z_ald_n hX dX2_isThereOn_8 rfl (z_ald_n hX dX2_isThereOn_9 rfl (z_gr (c := 2) (j := 5) hX dX2_isThereOn_10 rfl inlX2 wm5_16 ⟨rfl, by decide, rfl⟩ (z_ild_n hX dX2_isThereOn_13 rfl (z_iald hX dX2_isThereOn_14 (z_ald_n hX dX2_isThereOn_15 rfl (z_gr (c := 2) (j := 6) hX dX2_isThereOn_16 rfl inlX2 wm5_17 ⟨rfl, by decide, rfl⟩ (z_ild_n hX dX2_isThereOn_19 rfl (z_iald hX dX2_isThereOn_20 (z_ild_n hX dX2_isThereOn_21 rfl (z_cv (c := 6) hX hr dX2_isThereOn_22 hjX6_holds mwX6_holds rfl wm47_13 ⟨wm24_18, wm24_19⟩ ⟨Nat.le_of_ble_eq_true rfl, Nat.le_of_ble_eq_true rfl⟩ (z_ifeq hX dX2_isThereOn_25 (by decide) (tX2_isThereOn_32 hX hr hq) (z_iconst hX dX2_isThereOn_28 (by decide) ((z_goto hX dX2_isThereOn_29 (by decide) (tX2_isThereOn_33 hX hr hq)))))))))))))))))))
def kX11_stands_34 (r : pu_R) : pu_K := s_zret
theorem vX11_stands_34 : pu_cok2 kX11_stands_34 := fun rf r hr => by
  unfold kX11_stands_34
  exact v_zret
theorem tX11_stands_34 {X : pu_X} {r : pu_R} (hX : pu_H X mdX11_stands) (hr : pu_P X.2.1 X.2.2.2.2.2.2.2.2.2.2.1 r) (hq : ∀ i pc, pu_lp i = some (146, pc) → pu_S X mdX11_stands pc (r i)) : pu_S X mdX11_stands 34 (kX11_stands_34 r) := by
  unfold kX11_stands_34
  exact z_zret hX dX11_stands_34 rfl
def kX11_stands_33 (r : pu_R) : pu_K := s_push (.int (0)) ((kX11_stands_34 r))
theorem vX11_stands_33 : pu_cok2 kX11_stands_33 := fun rf r hr => by
  unfold kX11_stands_33
  exact v_pi ((vX11_stands_34 rf r hr))
theorem tX11_stands_33 {X : pu_X} {r : pu_R} (hX : pu_H X mdX11_stands) (hr : pu_P X.2.1 X.2.2.2.2.2.2.2.2.2.2.1 r) (hq : ∀ i pc, pu_lp i = some (146, pc) → pu_S X mdX11_stands pc (r i)) : pu_S X mdX11_stands 33 (kX11_stands_33 r) := by
  unfold kX11_stands_33
  exact z_iconst hX dX11_stands_33 (by decide) ((tX11_stands_34 hX hr hq))
def kX11_stands_0 (r : pu_R) : pu_K := s_ild 2 (s_cs r 18 1 (s_ifeq (kX11_stands_33 r) (s_ald 0 (s_gr 11 2 (s_gr 5 4 (s_ild 1 (s_ild 2 (s_ald 0 (s_gr 11 2 (s_gr 5 0 (s_cv r 145 3 2 (s_ifeq (kX11_stands_33 r) (s_push (.int (1)) ((kX11_stands_34 r)))))))))))))))
theorem vX11_stands_0 : pu_cok2 kX11_stands_0 := fun rf r hr => by
  unfold kX11_stands_0
  exact v_ild (v_cs hr (v_ifeq (vX11_stands_33 rf r hr) (v_ald (v_gr (v_gr (v_ild (v_ild (v_ald (v_gr (v_gr (v_cv hr (v_ifeq (vX11_stands_33 rf r hr) (v_pi ((vX11_stands_34 rf r hr)))))))))))))))
theorem tX11_stands_0 {X : pu_X} {r : pu_R} (hX : pu_H X mdX11_stands) (hr : pu_P X.2.1 X.2.2.2.2.2.2.2.2.2.2.1 r) (hq : ∀ i pc, pu_lp i = some (146, pc) → pu_S X mdX11_stands pc (r i)) : pu_S X mdX11_stands 0 (kX11_stands_0 r) := by
  unfold kX11_stands_0
  exact z_ild_n hX dX11_stands_0 rfl (z_cs hX hr dX11_stands_1 hjX11_isDay mwX11_isDay wm10_21 wm10_22 ⟨Nat.le_of_ble_eq_true rfl, Nat.le_of_ble_eq_true rfl⟩ (z_ifeq hX dX11_stands_4 (by decide) (tX11_stands_33 hX hr hq) (z_ald_n hX dX11_stands_7 rfl (z_gr (c := 11) (j := 2) hX dX11_stands_8 rfl inlX11 wm1_20 ⟨rfl, by decide, rfl⟩ (z_gr (c := 5) (j := 4) hX dX11_stands_11 rfl inlX5 wm21_20 ⟨rfl, by decide, rfl⟩ (z_ild_n hX dX11_stands_14 rfl (z_ild_n hX dX11_stands_15 rfl (z_ald_n hX dX11_stands_16 rfl (z_gr (c := 11) (j := 2) hX dX11_stands_17 rfl inlX11 wm1_20 ⟨rfl, by decide, rfl⟩ (z_gr (c := 5) (j := 0) hX dX11_stands_20 rfl inlX5 wm10_19 ⟨rfl, by decide, rfl⟩ (z_cv (c := 2) hX hr dX11_stands_23 hjX2_isThereOn mwX2_isThereOn rfl wm47_9 ⟨wm47_10, wm47_11⟩ ⟨Nat.le_of_ble_eq_true rfl, Nat.le_of_ble_eq_true rfl⟩ (z_ifeq hX dX11_stands_26 (by decide) (tX11_stands_33 hX hr hq) (z_iconst hX dX11_stands_29 (by decide) ((z_goto hX dX11_stands_30 (by decide) (tX11_stands_34 hX hr hq))))))))))))))))
def kX4_holding_54 (r : pu_R) : pu_K := s_push (.int (-1)) (s_iret)
theorem vX4_holding_54 : pu_cok2 kX4_holding_54 := fun rf r hr => by
  unfold kX4_holding_54
  exact v_pi (v_iret)
theorem tX4_holding_54 {X : pu_X} {r : pu_R} (hX : pu_H X mdX4_holding) (hr : pu_P X.2.1 X.2.2.2.2.2.2.2.2.2.2.1 r) (hq : ∀ i pc, pu_lp i = some (147, pc) → pu_S X mdX4_holding pc (r i)) : pu_S X mdX4_holding 54 (kX4_holding_54 r) := by
  unfold kX4_holding_54
  exact z_iconst hX dX4_holding_54 (by decide) (z_iret hX dX4_holding_55 rfl)
def kX4_holding_48 (r : pu_R) : pu_K := s_inc 4 (1) ((r 393))
theorem vX4_holding_48 : pu_cok2 kX4_holding_48 := fun rf r hr => by
  unfold kX4_holding_48
  exact v_inc ((hr 393))
theorem tX4_holding_48 {X : pu_X} {r : pu_R} (hX : pu_H X mdX4_holding) (hr : pu_P X.2.1 X.2.2.2.2.2.2.2.2.2.2.1 r) (hq : ∀ i pc, pu_lp i = some (147, pc) → pu_S X mdX4_holding pc (r i)) : pu_S X mdX4_holding 48 (kX4_holding_48 r) := by
  unfold kX4_holding_48
  exact z_inc hX dX4_holding_48 (by decide) ((z_goto hX dX4_holding_51 (by decide) (hq 393 3 hl393)))
def kX4_holding_3 (r : pu_R) : pu_K := s_ild 4 (s_ald 0 (s_gi 4 0 (s_icge (kX4_holding_54 r) (s_ald 0 (s_gr 4 1 (s_ild 4 (s_ai 1 (s_ild 1 (s_icne (kX4_holding_48 r) (s_ald 3 (s_ald 0 (s_gr 4 3 (s_ild 4 (s_ai 1 (s_ald 0 (s_gr 4 4 (s_ild 4 (s_ai 1 (s_ild 2 (s_cv r 68 3 6 (s_ifeq (kX4_holding_48 r) (s_ild 4 (s_iret)))))))))))))))))))))))
theorem vX4_holding_3 : pu_cok2 kX4_holding_3 := fun rf r hr => by
  unfold kX4_holding_3
  exact v_ild (v_ald (v_gi (v_icge (vX4_holding_54 rf r hr) (v_ald (v_gr (v_ild (v_ai (v_ild (v_icne (vX4_holding_48 rf r hr) (v_ald (v_ald (v_gr (v_ild (v_ai (v_ald (v_gr (v_ild (v_ai (v_ild (v_cv hr (v_ifeq (vX4_holding_48 rf r hr) (v_ild (v_iret)))))))))))))))))))))))
theorem tX4_holding_3 {X : pu_X} {r : pu_R} (hX : pu_H X mdX4_holding) (hr : pu_P X.2.1 X.2.2.2.2.2.2.2.2.2.2.1 r) (hq : ∀ i pc, pu_lp i = some (147, pc) → pu_S X mdX4_holding pc (r i)) : pu_S X mdX4_holding 3 (kX4_holding_3 r) := by
  unfold kX4_holding_3
  exact z_ild hX dX4_holding_3 (z_ald_n hX dX4_holding_5 rfl (z_gi (c := 4) (j := 0) hX dX4_holding_6 rfl inlX4 wm28_1 ⟨rfl, by decide, rfl⟩ (z_icge hX dX4_holding_9 (by decide) (tX4_holding_54 hX hr hq) (z_ald_n hX dX4_holding_12 rfl (z_gr (c := 4) (j := 1) hX dX4_holding_13 rfl inlX4 wm4_12 ⟨rfl, by decide, rfl⟩ (z_ild hX dX4_holding_16 (z_iald hX dX4_holding_18 (z_ild_n hX dX4_holding_19 rfl (z_icne hX dX4_holding_20 (by decide) (tX4_holding_48 hX hr hq) (z_ald_n hX dX4_holding_23 rfl (z_ald_n hX dX4_holding_24 rfl (z_gr (c := 4) (j := 3) hX dX4_holding_25 rfl inlX4 wm4_14 ⟨rfl, by decide, rfl⟩ (z_ild hX dX4_holding_28 (z_iald hX dX4_holding_30 (z_ald_n hX dX4_holding_31 rfl (z_gr (c := 4) (j := 4) hX dX4_holding_32 rfl inlX4 wm4_15 ⟨rfl, by decide, rfl⟩ (z_ild hX dX4_holding_35 (z_iald hX dX4_holding_37 (z_ild_n hX dX4_holding_38 rfl (z_cv (c := 6) hX hr dX4_holding_39 hjX6_holds mwX6_holds rfl wm48_17 ⟨wm24_18, wm24_19⟩ ⟨Nat.le_of_ble_eq_true rfl, Nat.le_of_ble_eq_true rfl⟩ (z_ifeq hX dX4_holding_42 (by decide) (tX4_holding_48 hX hr hq) (z_ild hX dX4_holding_45 (z_iret hX dX4_holding_47 rfl)))))))))))))))))))))))
def kX4_holding_0 (r : pu_R) : pu_K := s_push (.int (0)) (s_ist 4 ((r 393)))
theorem vX4_holding_0 : pu_cok2 kX4_holding_0 := fun rf r hr => by
  unfold kX4_holding_0
  exact v_pi (v_ist ((hr 393)))
theorem tX4_holding_0 {X : pu_X} {r : pu_R} (hX : pu_H X mdX4_holding) (hr : pu_P X.2.1 X.2.2.2.2.2.2.2.2.2.2.1 r) (hq : ∀ i pc, pu_lp i = some (147, pc) → pu_S X mdX4_holding pc (r i)) : pu_S X mdX4_holding 0 (kX4_holding_0 r) := by
  unfold kX4_holding_0
  exact z_iconst hX dX4_holding_0 (by decide) (z_ist hX dX4_holding_1 ((hq 393 3 hl393)))
def kX6_endOf_19 (r : pu_R) : pu_K := s_iret
theorem vX6_endOf_19 : pu_cok2 kX6_endOf_19 := fun rf r hr => by
  unfold kX6_endOf_19
  exact v_iret
theorem tX6_endOf_19 {X : pu_X} {r : pu_R} (hX : pu_H X mdX6_endOf) (hr : pu_P X.2.1 X.2.2.2.2.2.2.2.2.2.2.1 r) (hq : ∀ i pc, pu_lp i = some (148, pc) → pu_S X mdX6_endOf pc (r i)) : pu_S X mdX6_endOf 19 (kX6_endOf_19 r) := by
  unfold kX6_endOf_19
  exact z_iret hX dX6_endOf_19 rfl
def kX6_endOf_17 (r : pu_R) : pu_K := s_push (.int (109575)) ((kX6_endOf_19 r))
theorem vX6_endOf_17 : pu_cok2 kX6_endOf_17 := fun rf r hr => by
  unfold kX6_endOf_17
  exact v_pi ((vX6_endOf_19 rf r hr))
theorem tX6_endOf_17 {X : pu_X} {r : pu_R} (hX : pu_H X mdX6_endOf) (hr : pu_P X.2.1 X.2.2.2.2.2.2.2.2.2.2.1 r) (hq : ∀ i pc, pu_lp i = some (148, pc) → pu_S X mdX6_endOf pc (r i)) : pu_S X mdX6_endOf 17 (kX6_endOf_17 r) := by
  unfold kX6_endOf_17
  exact z_ldc hX dX6_endOf_17 wm19_0 ((tX6_endOf_19 hX hr hq))
def kX6_endOf_0 (r : pu_R) : pu_K := s_ald 0 (s_ild 1 (s_cv r 67 1 6 (s_ifeq (kX6_endOf_17 r) (s_ald 0 (s_gr 6 3 (s_ild 1 (s_ai 1 ((kX6_endOf_19 r)))))))))
theorem vX6_endOf_0 : pu_cok2 kX6_endOf_0 := fun rf r hr => by
  unfold kX6_endOf_0
  exact v_ald (v_ild (v_cv hr (v_ifeq (vX6_endOf_17 rf r hr) (v_ald (v_gr (v_ild (v_ai ((vX6_endOf_19 rf r hr)))))))))
theorem tX6_endOf_0 {X : pu_X} {r : pu_R} (hX : pu_H X mdX6_endOf) (hr : pu_P X.2.1 X.2.2.2.2.2.2.2.2.2.2.1 r) (hq : ∀ i pc, pu_lp i = some (148, pc) → pu_S X mdX6_endOf pc (r i)) : pu_S X mdX6_endOf 0 (kX6_endOf_0 r) := by
  unfold kX6_endOf_0
  exact z_ald_n hX dX6_endOf_0 rfl (z_ild_n hX dX6_endOf_1 rfl (z_cv (c := 6) hX hr dX6_endOf_2 hjX6_isThere mwX6_isThere rfl wm24_21 ⟨wm24_22, wm24_23⟩ ⟨Nat.le_of_ble_eq_true rfl, Nat.le_of_ble_eq_true rfl⟩ (z_ifeq hX dX6_endOf_5 (by decide) (tX6_endOf_17 hX hr hq) (z_ald_n hX dX6_endOf_8 rfl (z_gr (c := 6) (j := 3) hX dX6_endOf_9 rfl inlX6 wm4_2 ⟨rfl, by decide, rfl⟩ (z_ild_n hX dX6_endOf_12 rfl (z_iald hX dX6_endOf_13 ((z_goto hX dX6_endOf_14 (by decide) (tX6_endOf_19 hX hr hq))))))))))
def kX11_number_182 (r : pu_R) : pu_K := s_push (.int (-1)) (s_iret)
theorem vX11_number_182 : pu_cok2 kX11_number_182 := fun rf r hr => by
  unfold kX11_number_182
  exact v_pi (v_iret)
theorem tX11_number_182 {X : pu_X} {r : pu_R} (hX : pu_H X mdX11_number) (hr : pu_P X.2.1 X.2.2.2.2.2.2.2.2.2.2.1 r) (hq : ∀ i pc, pu_lp i = some (149, pc) → pu_S X mdX11_number pc (r i)) : pu_S X mdX11_number 182 (kX11_number_182 r) := by
  unfold kX11_number_182
  exact z_iconst hX dX11_number_182 (by decide) (z_iret hX dX11_number_183 rfl)
def kX11_number_181 (r : pu_R) : pu_K := s_iret
theorem vX11_number_181 : pu_cok2 kX11_number_181 := fun rf r hr => by
  unfold kX11_number_181
  exact v_iret
theorem tX11_number_181 {X : pu_X} {r : pu_R} (hX : pu_H X mdX11_number) (hr : pu_P X.2.1 X.2.2.2.2.2.2.2.2.2.2.1 r) (hq : ∀ i pc, pu_lp i = some (149, pc) → pu_S X mdX11_number pc (r i)) : pu_S X mdX11_number 181 (kX11_number_181 r) := by
  unfold kX11_number_181
  exact z_iret hX dX11_number_181 rfl
def kX11_number_179 (r : pu_R) : pu_K := s_ild 6 ((kX11_number_181 r))
theorem vX11_number_179 : pu_cok2 kX11_number_179 := fun rf r hr => by
  unfold kX11_number_179
  exact v_ild ((vX11_number_181 rf r hr))
theorem tX11_number_179 {X : pu_X} {r : pu_R} (hX : pu_H X mdX11_number) (hr : pu_P X.2.1 X.2.2.2.2.2.2.2.2.2.2.1 r) (hq : ∀ i pc, pu_lp i = some (149, pc) → pu_S X mdX11_number pc (r i)) : pu_S X mdX11_number 179 (kX11_number_179 r) := by
  unfold kX11_number_179
  exact z_ild hX dX11_number_179 ((tX11_number_181 hX hr hq))
def kX11_number_142 (r : pu_R) : pu_K := s_ald 0 (s_gr 11 2 (s_gr 5 0 (s_ald 0 (s_gr 11 2 (s_gr 5 1 (s_gr 4 4 (s_ild 5 (s_ai 1 (s_cv r 148 1 6 (s_ist 6 (s_ild 6 (s_push (.int (109575)) (s_icne (kX11_number_179 r) (s_push (.int (-1)) ((kX11_number_181 r))))))))))))))))
theorem vX11_number_142 : pu_cok2 kX11_number_142 := fun rf r hr => by
  unfold kX11_number_142
  exact v_ald (v_gr (v_gr (v_ald (v_gr (v_gr (v_gr (v_ild (v_ai (v_cv hr (v_ist (v_ild (v_pi (v_icne (vX11_number_179 rf r hr) (v_pi ((vX11_number_181 rf r hr))))))))))))))))
theorem tX11_number_142 {X : pu_X} {r : pu_R} (hX : pu_H X mdX11_number) (hr : pu_P X.2.1 X.2.2.2.2.2.2.2.2.2.2.1 r) (hq : ∀ i pc, pu_lp i = some (149, pc) → pu_S X mdX11_number pc (r i)) : pu_S X mdX11_number 142 (kX11_number_142 r) := by
  unfold kX11_number_142
  exact z_ald_n hX dX11_number_142 rfl (z_gr (c := 11) (j := 2) hX dX11_number_143 rfl inlX11 wm1_20 ⟨rfl, by decide, rfl⟩ (z_gr (c := 5) (j := 0) hX dX11_number_146 rfl inlX5 wm10_19 ⟨rfl, by decide, rfl⟩ (z_ald_n hX dX11_number_149 rfl (z_gr (c := 11) (j := 2) hX dX11_number_150 rfl inlX11 wm1_20 ⟨rfl, by decide, rfl⟩ (z_gr (c := 5) (j := 1) hX dX11_number_153 rfl inlX5 wm21_22 ⟨rfl, by decide, rfl⟩ (z_gr (c := 4) (j := 4) hX dX11_number_156 rfl inlX4 wm38_10 ⟨rfl, by decide, rfl⟩ (z_ild hX dX11_number_159 (z_iald hX dX11_number_161 (z_cv (c := 6) hX hr dX11_number_162 hjX6_endOf mwX6_endOf rfl wm48_19 ⟨wm48_20, wm48_21⟩ ⟨Nat.le_of_ble_eq_true rfl, Nat.le_of_ble_eq_true rfl⟩ (z_ist hX dX11_number_165 (z_ild hX dX11_number_167 (z_ldcw hX dX11_number_169 wm48_12 (z_icne hX dX11_number_172 (by decide) (tX11_number_179 hX hr hq) (z_iconst hX dX11_number_175 (by decide) ((z_goto hX dX11_number_176 (by decide) (tX11_number_181 hX hr hq)))))))))))))))))
def kX11_number_118 (r : pu_R) : pu_K := s_ald 0 (s_gr 11 2 (s_gr 5 0 (s_ald 0 (s_gr 11 2 (s_gr 5 1 (s_gr 4 3 (s_ild 5 (s_ai 1 (s_cv r 47 1 6 (s_iret))))))))))
theorem vX11_number_118 : pu_cok2 kX11_number_118 := fun rf r hr => by
  unfold kX11_number_118
  exact v_ald (v_gr (v_gr (v_ald (v_gr (v_gr (v_gr (v_ild (v_ai (v_cv hr (v_iret))))))))))
theorem tX11_number_118 {X : pu_X} {r : pu_R} (hX : pu_H X mdX11_number) (hr : pu_P X.2.1 X.2.2.2.2.2.2.2.2.2.2.1 r) (hq : ∀ i pc, pu_lp i = some (149, pc) → pu_S X mdX11_number pc (r i)) : pu_S X mdX11_number 118 (kX11_number_118 r) := by
  unfold kX11_number_118
  exact z_ald_n hX dX11_number_118 rfl (z_gr (c := 11) (j := 2) hX dX11_number_119 rfl inlX11 wm1_20 ⟨rfl, by decide, rfl⟩ (z_gr (c := 5) (j := 0) hX dX11_number_122 rfl inlX5 wm10_19 ⟨rfl, by decide, rfl⟩ (z_ald_n hX dX11_number_125 rfl (z_gr (c := 11) (j := 2) hX dX11_number_126 rfl inlX11 wm1_20 ⟨rfl, by decide, rfl⟩ (z_gr (c := 5) (j := 1) hX dX11_number_129 rfl inlX5 wm21_22 ⟨rfl, by decide, rfl⟩ (z_gr (c := 4) (j := 3) hX dX11_number_132 rfl inlX4 wm48_11 ⟨rfl, by decide, rfl⟩ (z_ild hX dX11_number_135 (z_iald hX dX11_number_137 (z_cv (c := 6) hX hr dX11_number_138 hjX6_startOf mwX6_startOf rfl wm48_18 ⟨wm18_21, wm18_22⟩ ⟨Nat.le_of_ble_eq_true rfl, Nat.le_of_ble_eq_true rfl⟩ (z_iret hX dX11_number_141 rfl))))))))))
def kX11_number_104 (r : pu_R) : pu_K := s_ald 0 (s_gr 11 2 (s_gr 5 1 (s_gr 4 2 (s_ild 5 (s_ai 1 (s_iret))))))
theorem vX11_number_104 : pu_cok2 kX11_number_104 := fun rf r hr => by
  unfold kX11_number_104
  exact v_ald (v_gr (v_gr (v_gr (v_ild (v_ai (v_iret))))))
theorem tX11_number_104 {X : pu_X} {r : pu_R} (hX : pu_H X mdX11_number) (hr : pu_P X.2.1 X.2.2.2.2.2.2.2.2.2.2.1 r) (hq : ∀ i pc, pu_lp i = some (149, pc) → pu_S X mdX11_number pc (r i)) : pu_S X mdX11_number 104 (kX11_number_104 r) := by
  unfold kX11_number_104
  exact z_ald_n hX dX11_number_104 rfl (z_gr (c := 11) (j := 2) hX dX11_number_105 rfl inlX11 wm1_20 ⟨rfl, by decide, rfl⟩ (z_gr (c := 5) (j := 1) hX dX11_number_108 rfl inlX5 wm21_22 ⟨rfl, by decide, rfl⟩ (z_gr (c := 4) (j := 2) hX dX11_number_111 rfl inlX4 wm48_10 ⟨rfl, by decide, rfl⟩ (z_ild hX dX11_number_114 (z_iald hX dX11_number_116 (z_iret hX dX11_number_117 rfl))))))
def kX11_number_76 (r : pu_R) : pu_K := s_ild 4 (s_sw (0) [(kX11_number_104 r), (kX11_number_118 r), (kX11_number_142 r)] (kX11_number_182 r))
theorem vX11_number_76 : pu_cok2 kX11_number_76 := fun rf r hr => by
  unfold kX11_number_76
  exact v_ild (v_sw (kfs := fun f => [(kX11_number_104 (rf f)), (kX11_number_118 (rf f)), (kX11_number_142 (rf f))]) (fun i k hk => match i, hk with
    | 0, hk => by cases hk; exact ⟨_, fun _ => rfl, (vX11_number_104 rf r hr)⟩
    | 1, hk => by cases hk; exact ⟨_, fun _ => rfl, (vX11_number_118 rf r hr)⟩
    | 2, hk => by cases hk; exact ⟨_, fun _ => rfl, (vX11_number_142 rf r hr)⟩
    | q + 3, hk => by cases hk) (fun _ => rfl) (vX11_number_182 rf r hr))
theorem tX11_number_76 {X : pu_X} {r : pu_R} (hX : pu_H X mdX11_number) (hr : pu_P X.2.1 X.2.2.2.2.2.2.2.2.2.2.1 r) (hq : ∀ i pc, pu_lp i = some (149, pc) → pu_S X mdX11_number pc (r i)) : pu_S X mdX11_number 76 (kX11_number_76 r) := by
  unfold kX11_number_76
  exact z_ild hX dX11_number_76 (z_sw hX dX11_number_78 (by rfl) (by decide) (tX11_number_182 hX hr hq) (fun i k hk => match i, hk with
    | 0, hk => by cases hk; exact ⟨26, 104, rfl, by decide, (tX11_number_104 hX hr hq)⟩
    | 1, hk => by cases hk; exact ⟨40, 118, rfl, by decide, (tX11_number_118 hX hr hq)⟩
    | 2, hk => by cases hk; exact ⟨64, 142, rfl, by decide, (tX11_number_142 hX hr hq)⟩
    | q + 3, hk => by cases hk))
def kX11_number_32 (r : pu_R) : pu_K := s_ald 0 (s_gr 11 2 (s_gr 5 1 (s_push (.int (2)) (s_ald 0 (s_gr 11 2 (s_gr 5 4 (s_gr 2 3 (s_ild 1 (s_ai 1 (s_imul (s_ild 2 (s_iadd (s_ild 3 (s_ald 0 (s_gr 11 2 (s_gr 5 0 (s_cv r 147 3 4 (s_ist 5 (s_ild 5 (s_push (.int (-1)) (s_icne (kX11_number_76 r) (s_push (.int (-1)) (s_iret)))))))))))))))))))))))
theorem vX11_number_32 : pu_cok2 kX11_number_32 := fun rf r hr => by
  unfold kX11_number_32
  exact v_ald (v_gr (v_gr (v_pi (v_ald (v_gr (v_gr (v_gr (v_ild (v_ai (v_imul (v_ild (v_iadd (v_ild (v_ald (v_gr (v_gr (v_cv hr (v_ist (v_ild (v_pi (v_icne (vX11_number_76 rf r hr) (v_pi (v_iret)))))))))))))))))))))))
theorem tX11_number_32 {X : pu_X} {r : pu_R} (hX : pu_H X mdX11_number) (hr : pu_P X.2.1 X.2.2.2.2.2.2.2.2.2.2.1 r) (hq : ∀ i pc, pu_lp i = some (149, pc) → pu_S X mdX11_number pc (r i)) : pu_S X mdX11_number 32 (kX11_number_32 r) := by
  unfold kX11_number_32
  exact z_ald_n hX dX11_number_32 rfl (z_gr (c := 11) (j := 2) hX dX11_number_33 rfl inlX11 wm1_20 ⟨rfl, by decide, rfl⟩ (z_gr (c := 5) (j := 1) hX dX11_number_36 rfl inlX5 wm21_22 ⟨rfl, by decide, rfl⟩ (z_iconst hX dX11_number_39 (by decide) (z_ald_n hX dX11_number_40 rfl (z_gr (c := 11) (j := 2) hX dX11_number_41 rfl inlX11 wm1_20 ⟨rfl, by decide, rfl⟩ (z_gr (c := 5) (j := 4) hX dX11_number_44 rfl inlX5 wm21_20 ⟨rfl, by decide, rfl⟩ (z_gr (c := 2) (j := 3) hX dX11_number_47 rfl inlX2 wm46_18 ⟨rfl, by decide, rfl⟩ (z_ild_n hX dX11_number_50 rfl (z_iald hX dX11_number_51 (z_imul hX dX11_number_52 (z_ild_n hX dX11_number_53 rfl (z_iadd hX dX11_number_54 (z_ild_n hX dX11_number_55 rfl (z_ald_n hX dX11_number_56 rfl (z_gr (c := 11) (j := 2) hX dX11_number_57 rfl inlX11 wm1_20 ⟨rfl, by decide, rfl⟩ (z_gr (c := 5) (j := 0) hX dX11_number_60 rfl inlX5 wm10_19 ⟨rfl, by decide, rfl⟩ (z_cv (c := 4) hX hr dX11_number_63 hjX4_holding mwX4_holding rfl wm48_13 ⟨wm48_14, wm48_15⟩ ⟨Nat.le_of_ble_eq_true rfl, Nat.le_of_ble_eq_true rfl⟩ (z_ist hX dX11_number_66 (z_ild hX dX11_number_68 (z_iconst hX dX11_number_70 (by decide) (z_icne hX dX11_number_71 (by decide) (tX11_number_76 hX hr hq) (z_iconst hX dX11_number_74 (by decide) (z_iret hX dX11_number_75 rfl)))))))))))))))))))))))
def kX11_number_30 (r : pu_R) : pu_K := s_push (.int (-1)) (s_iret)
theorem vX11_number_30 : pu_cok2 kX11_number_30 := fun rf r hr => by
  unfold kX11_number_30
  exact v_pi (v_iret)
theorem tX11_number_30 {X : pu_X} {r : pu_R} (hX : pu_H X mdX11_number) (hr : pu_P X.2.1 X.2.2.2.2.2.2.2.2.2.2.1 r) (hq : ∀ i pc, pu_lp i = some (149, pc) → pu_S X mdX11_number pc (r i)) : pu_S X mdX11_number 30 (kX11_number_30 r) := by
  unfold kX11_number_30
  exact z_iconst hX dX11_number_30 (by decide) (z_iret hX dX11_number_31 rfl)
def kX11_number_0 (r : pu_R) : pu_K := s_ald 0 (s_gr 11 2 (s_gr 5 4 (s_ild 1 (s_cv r 85 1 2 (s_ifeq (kX11_number_30 r) (s_ild 2 (s_iflt (kX11_number_30 r) (s_ild 2 (s_push (.int (1)) (s_icgt (kX11_number_30 r) (s_ild 3 (s_cs r 18 1 (s_ifne (kX11_number_32 r) ((kX11_number_30 r)))))))))))))))
theorem vX11_number_0 : pu_cok2 kX11_number_0 := fun rf r hr => by
  unfold kX11_number_0
  exact v_ald (v_gr (v_gr (v_ild (v_cv hr (v_ifeq (vX11_number_30 rf r hr) (v_ild (v_iflt (vX11_number_30 rf r hr) (v_ild (v_pi (v_icgt (vX11_number_30 rf r hr) (v_ild (v_cs hr (v_ifne (vX11_number_32 rf r hr) ((vX11_number_30 rf r hr)))))))))))))))
theorem tX11_number_0 {X : pu_X} {r : pu_R} (hX : pu_H X mdX11_number) (hr : pu_P X.2.1 X.2.2.2.2.2.2.2.2.2.2.1 r) (hq : ∀ i pc, pu_lp i = some (149, pc) → pu_S X mdX11_number pc (r i)) : pu_S X mdX11_number 0 (kX11_number_0 r) := by
  unfold kX11_number_0
  exact z_ald_n hX dX11_number_0 rfl (z_gr (c := 11) (j := 2) hX dX11_number_1 rfl inlX11 wm1_20 ⟨rfl, by decide, rfl⟩ (z_gr (c := 5) (j := 4) hX dX11_number_4 rfl inlX5 wm21_20 ⟨rfl, by decide, rfl⟩ (z_ild_n hX dX11_number_7 rfl (z_cv (c := 2) hX hr dX11_number_8 hjX2_isDoor mwX2_isDoor rfl wm47_0 ⟨wm27_13, wm27_14⟩ ⟨Nat.le_of_ble_eq_true rfl, Nat.le_of_ble_eq_true rfl⟩ (z_ifeq hX dX11_number_11 (by decide) (tX11_number_30 hX hr hq) (z_ild_n hX dX11_number_14 rfl (z_iflt hX dX11_number_15 (by decide) (tX11_number_30 hX hr hq) (z_ild_n hX dX11_number_18 rfl (z_iconst hX dX11_number_19 (by decide) (z_icgt hX dX11_number_20 (by decide) (tX11_number_30 hX hr hq) (z_ild_n hX dX11_number_23 rfl (z_cs hX hr dX11_number_24 hjX11_isDay mwX11_isDay wm10_21 wm10_22 ⟨Nat.le_of_ble_eq_true rfl, Nat.le_of_ble_eq_true rfl⟩ (z_ifne hX dX11_number_27 (by decide) (tX11_number_32 hX hr hq) ((tX11_number_30 hX hr hq)))))))))))))))
def kX3_holding_54 (r : pu_R) : pu_K := s_push (.int (-1)) (s_iret)
theorem vX3_holding_54 : pu_cok2 kX3_holding_54 := fun rf r hr => by
  unfold kX3_holding_54
  exact v_pi (v_iret)
theorem tX3_holding_54 {X : pu_X} {r : pu_R} (hX : pu_H X mdX3_holding) (hr : pu_P X.2.1 X.2.2.2.2.2.2.2.2.2.2.1 r) (hq : ∀ i pc, pu_lp i = some (150, pc) → pu_S X mdX3_holding pc (r i)) : pu_S X mdX3_holding 54 (kX3_holding_54 r) := by
  unfold kX3_holding_54
  exact z_iconst hX dX3_holding_54 (by decide) (z_iret hX dX3_holding_55 rfl)
def kX3_holding_48 (r : pu_R) : pu_K := s_inc 4 (1) ((r 394))
theorem vX3_holding_48 : pu_cok2 kX3_holding_48 := fun rf r hr => by
  unfold kX3_holding_48
  exact v_inc ((hr 394))
theorem tX3_holding_48 {X : pu_X} {r : pu_R} (hX : pu_H X mdX3_holding) (hr : pu_P X.2.1 X.2.2.2.2.2.2.2.2.2.2.1 r) (hq : ∀ i pc, pu_lp i = some (150, pc) → pu_S X mdX3_holding pc (r i)) : pu_S X mdX3_holding 48 (kX3_holding_48 r) := by
  unfold kX3_holding_48
  exact z_inc hX dX3_holding_48 (by decide) ((z_goto hX dX3_holding_51 (by decide) (hq 394 3 hl394)))
def kX3_holding_3 (r : pu_R) : pu_K := s_ild 4 (s_ald 0 (s_gi 3 0 (s_icge (kX3_holding_54 r) (s_ald 0 (s_gr 3 1 (s_ild 4 (s_ai 1 (s_ild 1 (s_icne (kX3_holding_48 r) (s_ald 3 (s_ald 0 (s_gr 3 3 (s_ild 4 (s_ai 1 (s_ald 0 (s_gr 3 4 (s_ild 4 (s_ai 1 (s_ild 2 (s_cv r 68 3 6 (s_ifeq (kX3_holding_48 r) (s_ild 4 (s_iret)))))))))))))))))))))))
theorem vX3_holding_3 : pu_cok2 kX3_holding_3 := fun rf r hr => by
  unfold kX3_holding_3
  exact v_ild (v_ald (v_gi (v_icge (vX3_holding_54 rf r hr) (v_ald (v_gr (v_ild (v_ai (v_ild (v_icne (vX3_holding_48 rf r hr) (v_ald (v_ald (v_gr (v_ild (v_ai (v_ald (v_gr (v_ild (v_ai (v_ild (v_cv hr (v_ifeq (vX3_holding_48 rf r hr) (v_ild (v_iret)))))))))))))))))))))))
theorem tX3_holding_3 {X : pu_X} {r : pu_R} (hX : pu_H X mdX3_holding) (hr : pu_P X.2.1 X.2.2.2.2.2.2.2.2.2.2.1 r) (hq : ∀ i pc, pu_lp i = some (150, pc) → pu_S X mdX3_holding pc (r i)) : pu_S X mdX3_holding 3 (kX3_holding_3 r) := by
  unfold kX3_holding_3
  exact z_ild hX dX3_holding_3 (z_ald_n hX dX3_holding_5 rfl (z_gi (c := 3) (j := 0) hX dX3_holding_6 rfl inlX3 wm16_21 ⟨rfl, by decide, rfl⟩ (z_icge hX dX3_holding_9 (by decide) (tX3_holding_54 hX hr hq) (z_ald_n hX dX3_holding_12 rfl (z_gr (c := 3) (j := 1) hX dX3_holding_13 rfl inlX3 wm4_19 ⟨rfl, by decide, rfl⟩ (z_ild hX dX3_holding_16 (z_iald hX dX3_holding_18 (z_ild_n hX dX3_holding_19 rfl (z_icne hX dX3_holding_20 (by decide) (tX3_holding_48 hX hr hq) (z_ald_n hX dX3_holding_23 rfl (z_ald_n hX dX3_holding_24 rfl (z_gr (c := 3) (j := 3) hX dX3_holding_25 rfl inlX3 wm4_21 ⟨rfl, by decide, rfl⟩ (z_ild hX dX3_holding_28 (z_iald hX dX3_holding_30 (z_ald_n hX dX3_holding_31 rfl (z_gr (c := 3) (j := 4) hX dX3_holding_32 rfl inlX3 wm4_22 ⟨rfl, by decide, rfl⟩ (z_ild hX dX3_holding_35 (z_iald hX dX3_holding_37 (z_ild_n hX dX3_holding_38 rfl (z_cv (c := 6) hX hr dX3_holding_39 hjX6_holds mwX6_holds rfl wm49_18 ⟨wm24_18, wm24_19⟩ ⟨Nat.le_of_ble_eq_true rfl, Nat.le_of_ble_eq_true rfl⟩ (z_ifeq hX dX3_holding_42 (by decide) (tX3_holding_48 hX hr hq) (z_ild hX dX3_holding_45 (z_iret hX dX3_holding_47 rfl)))))))))))))))))))))))
def kX3_holding_0 (r : pu_R) : pu_K := s_push (.int (0)) (s_ist 4 ((r 394)))
theorem vX3_holding_0 : pu_cok2 kX3_holding_0 := fun rf r hr => by
  unfold kX3_holding_0
  exact v_pi (v_ist ((hr 394)))
theorem tX3_holding_0 {X : pu_X} {r : pu_R} (hX : pu_H X mdX3_holding) (hr : pu_P X.2.1 X.2.2.2.2.2.2.2.2.2.2.1 r) (hq : ∀ i pc, pu_lp i = some (150, pc) → pu_S X mdX3_holding pc (r i)) : pu_S X mdX3_holding 0 (kX3_holding_0 r) := by
  unfold kX3_holding_0
  exact z_iconst hX dX3_holding_0 (by decide) (z_ist hX dX3_holding_1 ((hq 394 3 hl394)))
def kX0_putWord_58 (r : pu_R) : pu_K := s_vret
theorem vX0_putWord_58 : pu_cok2 kX0_putWord_58 := fun rf r hr => by
  unfold kX0_putWord_58
  exact v_vret
theorem tX0_putWord_58 {X : pu_X} {r : pu_R} (hX : pu_H X mdX0_putWord) (hr : pu_P X.2.1 X.2.2.2.2.2.2.2.2.2.2.1 r) (hq : ∀ i pc, pu_lp i = some (151, pc) → pu_S X mdX0_putWord pc (r i)) : pu_S X mdX0_putWord 58 (kX0_putWord_58 r) := by
  unfold kX0_putWord_58
  exact z_vret hX dX0_putWord_58 rfl
def kX0_putWord_47 (r : pu_R) : pu_K := s_lld 5 (s_push (.long (27)) (s_ldiv (s_lst 5 ((r 395)))))
theorem vX0_putWord_47 : pu_cok2 kX0_putWord_47 := fun rf r hr => by
  unfold kX0_putWord_47
  exact v_lld (v_pl (v_ldiv (v_lst ((hr 395)))))
theorem tX0_putWord_47 {X : pu_X} {r : pu_R} (hX : pu_H X mdX0_putWord) (hr : pu_P X.2.1 X.2.2.2.2.2.2.2.2.2.2.1 r) (hq : ∀ i pc, pu_lp i = some (151, pc) → pu_S X mdX0_putWord pc (r i)) : pu_S X mdX0_putWord 47 (kX0_putWord_47 r) := by
  unfold kX0_putWord_47
  exact z_lld hX dX0_putWord_47 (z_ldc2 hX dX0_putWord_49 wm50_4 (z_ldiv hX dX0_putWord_52 (z_lst hX dX0_putWord_53 ((z_goto hX dX0_putWord_55 (by decide) (hq 395 7 hl395))))))
def kX0_putWord_43 (r : pu_R) : pu_K := s_isub (s_cv r 12 1 0 ((kX0_putWord_47 r)))
theorem vX0_putWord_43 : pu_cok2 kX0_putWord_43 := fun rf r hr => by
  unfold kX0_putWord_43
  exact v_isub (v_cv hr ((vX0_putWord_47 rf r hr)))
theorem tX0_putWord_43 {X : pu_X} {r : pu_R} (hX : pu_H X mdX0_putWord) (hr : pu_P X.2.1 X.2.2.2.2.2.2.2.2.2.2.1 r) (hq : ∀ i pc, pu_lp i = some (151, pc) → pu_S X mdX0_putWord pc (r i)) : pu_S X mdX0_putWord 43 (kX0_putWord_43 r) := by
  unfold kX0_putWord_43
  exact z_isub hX dX0_putWord_43 (z_cv (c := 0) hX hr dX0_putWord_44 hjX0_put mwX0_put rfl wm9_6 ⟨wm9_7, wm9_8⟩ ⟨Nat.le_of_ble_eq_true rfl, Nat.le_of_ble_eq_true rfl⟩ ((tX0_putWord_47 hX hr hq)))
def kX0_putWord_7 (r : pu_R) : pu_K := s_lld 5 (s_push (.long 0) (s_lcmp (s_ifle (kX0_putWord_58 r) (s_lld 3 (s_lld 5 (s_ldiv (s_lst 7 (s_lld 3 (s_lld 7 (s_lld 5 (s_lmul (s_lsub (s_lst 3 (s_lld 7 (s_push (.long 0) (s_lcmp (s_ifle (kX0_putWord_47 r) (s_ald 0 (s_push (.int (97)) (s_lld 7 (s_l2i (s_iadd (s_push (.int (1)) ((kX0_putWord_43 r)))))))))))))))))))))))))
theorem vX0_putWord_7 : pu_cok2 kX0_putWord_7 := fun rf r hr => by
  unfold kX0_putWord_7
  exact v_lld (v_pl (v_lcmp (v_ifle (vX0_putWord_58 rf r hr) (v_lld (v_lld (v_ldiv (v_lst (v_lld (v_lld (v_lld (v_lmul (v_lsub (v_lst (v_lld (v_pl (v_lcmp (v_ifle (vX0_putWord_47 rf r hr) (v_ald (v_pi (v_lld (v_l2i (v_iadd (v_pi ((vX0_putWord_43 rf r hr)))))))))))))))))))))))))
theorem tX0_putWord_7 {X : pu_X} {r : pu_R} (hX : pu_H X mdX0_putWord) (hr : pu_P X.2.1 X.2.2.2.2.2.2.2.2.2.2.1 r) (hq : ∀ i pc, pu_lp i = some (151, pc) → pu_S X mdX0_putWord pc (r i)) : pu_S X mdX0_putWord 7 (kX0_putWord_7 r) := by
  unfold kX0_putWord_7
  exact z_lld hX dX0_putWord_7 (z_lconst hX dX0_putWord_9 (by decide) (z_lcmp hX dX0_putWord_10 (z_ifle hX dX0_putWord_11 (by decide) (tX0_putWord_58 hX hr hq) (z_lld_n hX dX0_putWord_14 rfl (z_lld hX dX0_putWord_15 (z_ldiv hX dX0_putWord_17 (z_lst hX dX0_putWord_18 (z_lld_n hX dX0_putWord_20 rfl (z_lld hX dX0_putWord_21 (z_lld hX dX0_putWord_23 (z_lmul hX dX0_putWord_25 (z_lsub hX dX0_putWord_26 (z_lst_n hX dX0_putWord_27 rfl (z_lld hX dX0_putWord_28 (z_lconst hX dX0_putWord_30 (by decide) (z_lcmp hX dX0_putWord_31 (z_ifle hX dX0_putWord_32 (by decide) (tX0_putWord_47 hX hr hq) (z_ald_n hX dX0_putWord_35 rfl (z_bipush hX dX0_putWord_36 (by decide) (z_lld hX dX0_putWord_38 (z_l2i hX dX0_putWord_40 (z_iadd hX dX0_putWord_41 (z_iconst hX dX0_putWord_42 (by decide) ((tX0_putWord_43 hX hr hq)))))))))))))))))))))))))
def kX0_putWord_0 (r : pu_R) : pu_K := s_lld 1 (s_lst 3 (s_push (.long (5559060566555523)) (s_lst 5 ((r 395)))))
theorem vX0_putWord_0 : pu_cok2 kX0_putWord_0 := fun rf r hr => by
  unfold kX0_putWord_0
  exact v_lld (v_lst (v_pl (v_lst ((hr 395)))))
theorem tX0_putWord_0 {X : pu_X} {r : pu_R} (hX : pu_H X mdX0_putWord) (hr : pu_P X.2.1 X.2.2.2.2.2.2.2.2.2.2.1 r) (hq : ∀ i pc, pu_lp i = some (151, pc) → pu_S X mdX0_putWord pc (r i)) : pu_S X mdX0_putWord 0 (kX0_putWord_0 r) := by
  unfold kX0_putWord_0
  exact z_lld_n hX dX0_putWord_0 rfl (z_lst_n hX dX0_putWord_1 rfl (z_ldc2 hX dX0_putWord_2 wm50_3 (z_lst hX dX0_putWord_5 ((hq 395 7 hl395)))))
def kX0_putName_51 (r : pu_R) : pu_K := s_vret
theorem vX0_putName_51 : pu_cok2 kX0_putName_51 := fun rf r hr => by
  unfold kX0_putName_51
  exact v_vret
theorem tX0_putName_51 {X : pu_X} {r : pu_R} (hX : pu_H X mdX0_putName) (hr : pu_P X.2.1 X.2.2.2.2.2.2.2.2.2.2.1 r) (hq : ∀ i pc, pu_lp i = some (152, pc) → pu_S X mdX0_putName pc (r i)) : pu_S X mdX0_putName 51 (kX0_putName_51 r) := by
  unfold kX0_putName_51
  exact z_vret hX dX0_putName_51 rfl
def kX0_putName_38 (r : pu_R) : pu_K := s_ald 0 (s_ald 1 (s_ild 3 (s_al (s_cv r 151 1 0 (s_inc 3 (1) ((r 396)))))))
theorem vX0_putName_38 : pu_cok2 kX0_putName_38 := fun rf r hr => by
  unfold kX0_putName_38
  exact v_ald (v_ald (v_ild (v_al (v_cv hr (v_inc ((hr 396)))))))
theorem tX0_putName_38 {X : pu_X} {r : pu_R} (hX : pu_H X mdX0_putName) (hr : pu_P X.2.1 X.2.2.2.2.2.2.2.2.2.2.1 r) (hq : ∀ i pc, pu_lp i = some (152, pc) → pu_S X mdX0_putName pc (r i)) : pu_S X mdX0_putName 38 (kX0_putName_38 r) := by
  unfold kX0_putName_38
  exact z_ald_n hX dX0_putName_38 rfl (z_ald_n hX dX0_putName_39 rfl (z_ild_n hX dX0_putName_40 rfl (z_lald hX dX0_putName_41 (z_cv (c := 0) hX hr dX0_putName_42 hjX0_putWord mwX0_putWord rfl wm49_23 ⟨wm50_0, wm50_1⟩ ⟨Nat.le_of_ble_eq_true rfl, Nat.le_of_ble_eq_true rfl⟩ (z_inc hX dX0_putName_45 (by decide) ((z_goto hX dX0_putName_48 (by decide) (hq 396 2 hl396))))))))
def kX0_putName_2 (r : pu_R) : pu_K := s_ild 3 (s_iflt (kX0_putName_51 r) (s_ild 3 (s_ild 2 (s_push (.int (3)) (s_iadd (s_icge (kX0_putName_51 r) (s_ild 3 (s_ald 1 (s_len (s_icge (kX0_putName_51 r) (s_ald 1 (s_ild 3 (s_al (s_push (.long 0) (s_lcmp (s_ifeq (kX0_putName_38 r) (s_ild 3 (s_ild 2 (s_icle (kX0_putName_38 r) (s_ald 0 (s_push (.int (32)) (s_cv r 12 1 0 ((kX0_putName_38 r))))))))))))))))))))))))
theorem vX0_putName_2 : pu_cok2 kX0_putName_2 := fun rf r hr => by
  unfold kX0_putName_2
  exact v_ild (v_iflt (vX0_putName_51 rf r hr) (v_ild (v_ild (v_pi (v_iadd (v_icge (vX0_putName_51 rf r hr) (v_ild (v_ald (v_len (v_icge (vX0_putName_51 rf r hr) (v_ald (v_ild (v_al (v_pl (v_lcmp (v_ifeq (vX0_putName_38 rf r hr) (v_ild (v_ild (v_icle (vX0_putName_38 rf r hr) (v_ald (v_pi (v_cv hr ((vX0_putName_38 rf r hr))))))))))))))))))))))))
theorem tX0_putName_2 {X : pu_X} {r : pu_R} (hX : pu_H X mdX0_putName) (hr : pu_P X.2.1 X.2.2.2.2.2.2.2.2.2.2.1 r) (hq : ∀ i pc, pu_lp i = some (152, pc) → pu_S X mdX0_putName pc (r i)) : pu_S X mdX0_putName 2 (kX0_putName_2 r) := by
  unfold kX0_putName_2
  exact z_ild_n hX dX0_putName_2 rfl (z_iflt hX dX0_putName_3 (by decide) (tX0_putName_51 hX hr hq) (z_ild_n hX dX0_putName_6 rfl (z_ild_n hX dX0_putName_7 rfl (z_iconst hX dX0_putName_8 (by decide) (z_iadd hX dX0_putName_9 (z_icge hX dX0_putName_10 (by decide) (tX0_putName_51 hX hr hq) (z_ild_n hX dX0_putName_13 rfl (z_ald_n hX dX0_putName_14 rfl (z_len hX dX0_putName_15 (z_icge hX dX0_putName_16 (by decide) (tX0_putName_51 hX hr hq) (z_ald_n hX dX0_putName_19 rfl (z_ild_n hX dX0_putName_20 rfl (z_lald hX dX0_putName_21 (z_lconst hX dX0_putName_22 (by decide) (z_lcmp hX dX0_putName_23 (z_ifeq hX dX0_putName_24 (by decide) (tX0_putName_38 hX hr hq) (z_ild_n hX dX0_putName_27 rfl (z_ild_n hX dX0_putName_28 rfl (z_icle hX dX0_putName_29 (by decide) (tX0_putName_38 hX hr hq) (z_ald_n hX dX0_putName_32 rfl (z_bipush hX dX0_putName_33 (by decide) (z_cv (c := 0) hX hr dX0_putName_35 hjX0_put mwX0_put rfl wm9_6 ⟨wm9_7, wm9_8⟩ ⟨Nat.le_of_ble_eq_true rfl, Nat.le_of_ble_eq_true rfl⟩ ((tX0_putName_38 hX hr hq))))))))))))))))))))))))
def kX0_putName_0 (r : pu_R) : pu_K := s_ild 2 (s_ist 3 ((r 396)))
theorem vX0_putName_0 : pu_cok2 kX0_putName_0 := fun rf r hr => by
  unfold kX0_putName_0
  exact v_ild (v_ist ((hr 396)))
theorem tX0_putName_0 {X : pu_X} {r : pu_R} (hX : pu_H X mdX0_putName) (hr : pu_P X.2.1 X.2.2.2.2.2.2.2.2.2.2.1 r) (hq : ∀ i pc, pu_lp i = some (152, pc) → pu_S X mdX0_putName pc (r i)) : pu_S X mdX0_putName 0 (kX0_putName_0 r) := by
  unfold kX0_putName_0
  exact z_ild_n hX dX0_putName_0 rfl (z_ist_n hX dX0_putName_1 rfl ((hq 396 2 hl396)))
def kX0_putDecimal_34 (r : pu_R) : pu_K := s_vret
theorem vX0_putDecimal_34 : pu_cok2 kX0_putDecimal_34 := fun rf r hr => by
  unfold kX0_putDecimal_34
  exact v_vret
theorem tX0_putDecimal_34 {X : pu_X} {r : pu_R} (hX : pu_H X mdX0_putDecimal) (hr : pu_P X.2.1 X.2.2.2.2.2.2.2.2.2.2.1 r) (hq : ∀ i pc, pu_lp i = some (153, pc) → pu_S X mdX0_putDecimal pc (r i)) : pu_S X mdX0_putDecimal 34 (kX0_putDecimal_34 r) := by
  unfold kX0_putDecimal_34
  exact z_vret hX dX0_putDecimal_34 rfl
def kX0_putDecimal_26 (r : pu_R) : pu_K := s_ild 2 (s_push (.int (10)) (s_idiv (s_ist 2 ((r 397)))))
theorem vX0_putDecimal_26 : pu_cok2 kX0_putDecimal_26 := fun rf r hr => by
  unfold kX0_putDecimal_26
  exact v_ild (v_pi (v_idiv (v_ist ((hr 397)))))
theorem tX0_putDecimal_26 {X : pu_X} {r : pu_R} (hX : pu_H X mdX0_putDecimal) (hr : pu_P X.2.1 X.2.2.2.2.2.2.2.2.2.2.1 r) (hq : ∀ i pc, pu_lp i = some (153, pc) → pu_S X mdX0_putDecimal pc (r i)) : pu_S X mdX0_putDecimal 26 (kX0_putDecimal_26 r) := by
  unfold kX0_putDecimal_26
  exact z_ild_n hX dX0_putDecimal_26 rfl (z_bipush hX dX0_putDecimal_27 (by decide) (z_idiv hX dX0_putDecimal_29 (z_ist_n hX dX0_putDecimal_30 rfl ((z_goto hX dX0_putDecimal_31 (by decide) (hq 397 4 hl397))))))
def kX0_putDecimal_4 (r : pu_R) : pu_K := s_ild 2 (s_ifle (kX0_putDecimal_34 r) (s_ild 1 (s_ild 2 (s_iclt (kX0_putDecimal_26 r) (s_ald 0 (s_push (.int (48)) (s_ild 1 (s_ild 2 (s_idiv (s_push (.int (10)) (s_irem (s_iadd (s_cv r 12 1 0 ((kX0_putDecimal_26 r)))))))))))))))
theorem vX0_putDecimal_4 : pu_cok2 kX0_putDecimal_4 := fun rf r hr => by
  unfold kX0_putDecimal_4
  exact v_ild (v_ifle (vX0_putDecimal_34 rf r hr) (v_ild (v_ild (v_iclt (vX0_putDecimal_26 rf r hr) (v_ald (v_pi (v_ild (v_ild (v_idiv (v_pi (v_irem (v_iadd (v_cv hr ((vX0_putDecimal_26 rf r hr)))))))))))))))
theorem tX0_putDecimal_4 {X : pu_X} {r : pu_R} (hX : pu_H X mdX0_putDecimal) (hr : pu_P X.2.1 X.2.2.2.2.2.2.2.2.2.2.1 r) (hq : ∀ i pc, pu_lp i = some (153, pc) → pu_S X mdX0_putDecimal pc (r i)) : pu_S X mdX0_putDecimal 4 (kX0_putDecimal_4 r) := by
  unfold kX0_putDecimal_4
  exact z_ild_n hX dX0_putDecimal_4 rfl (z_ifle hX dX0_putDecimal_5 (by decide) (tX0_putDecimal_34 hX hr hq) (z_ild_n hX dX0_putDecimal_8 rfl (z_ild_n hX dX0_putDecimal_9 rfl (z_iclt hX dX0_putDecimal_10 (by decide) (tX0_putDecimal_26 hX hr hq) (z_ald_n hX dX0_putDecimal_13 rfl (z_bipush hX dX0_putDecimal_14 (by decide) (z_ild_n hX dX0_putDecimal_16 rfl (z_ild_n hX dX0_putDecimal_17 rfl (z_idiv hX dX0_putDecimal_18 (z_bipush hX dX0_putDecimal_19 (by decide) (z_irem hX dX0_putDecimal_21 (z_iadd hX dX0_putDecimal_22 (z_cv (c := 0) hX hr dX0_putDecimal_23 hjX0_put mwX0_put rfl wm9_6 ⟨wm9_7, wm9_8⟩ ⟨Nat.le_of_ble_eq_true rfl, Nat.le_of_ble_eq_true rfl⟩ ((tX0_putDecimal_26 hX hr hq)))))))))))))))
def kX0_putDecimal_0 (r : pu_R) : pu_K := s_push (.int (1000)) (s_ist 2 ((r 397)))
theorem vX0_putDecimal_0 : pu_cok2 kX0_putDecimal_0 := fun rf r hr => by
  unfold kX0_putDecimal_0
  exact v_pi (v_ist ((hr 397)))
theorem tX0_putDecimal_0 {X : pu_X} {r : pu_R} (hX : pu_H X mdX0_putDecimal) (hr : pu_P X.2.1 X.2.2.2.2.2.2.2.2.2.2.1 r) (hq : ∀ i pc, pu_lp i = some (153, pc) → pu_S X mdX0_putDecimal pc (r i)) : pu_S X mdX0_putDecimal 0 (kX0_putDecimal_0 r) := by
  unfold kX0_putDecimal_0
  exact z_sipush hX dX0_putDecimal_0 (by decide) (z_ist_n hX dX0_putDecimal_3 rfl ((hq 397 4 hl397)))
def kX0_putWhole_42 (r : pu_R) : pu_K := s_vret
theorem vX0_putWhole_42 : pu_cok2 kX0_putWhole_42 := fun rf r hr => by
  unfold kX0_putWhole_42
  exact v_vret
theorem tX0_putWhole_42 {X : pu_X} {r : pu_R} (hX : pu_H X mdX0_putWhole) (hr : pu_P X.2.1 X.2.2.2.2.2.2.2.2.2.2.1 r) (hq : ∀ i pc, pu_lp i = some (154, pc) → pu_S X mdX0_putWhole pc (r i)) : pu_S X mdX0_putWhole 42 (kX0_putWhole_42 r) := by
  unfold kX0_putWhole_42
  exact z_vret hX dX0_putWhole_42 rfl
def kX0_putWhole_28 (r : pu_R) : pu_K := s_ild 2 (s_ifle (kX0_putWhole_42 r) (s_ald 0 (s_push (.int (97)) (s_ild 2 (s_iadd (s_push (.int (1)) (s_isub (s_cv r 12 1 0 ((kX0_putWhole_42 r))))))))))
theorem vX0_putWhole_28 : pu_cok2 kX0_putWhole_28 := fun rf r hr => by
  unfold kX0_putWhole_28
  exact v_ild (v_ifle (vX0_putWhole_42 rf r hr) (v_ald (v_pi (v_ild (v_iadd (v_pi (v_isub (v_cv hr ((vX0_putWhole_42 rf r hr))))))))))
theorem tX0_putWhole_28 {X : pu_X} {r : pu_R} (hX : pu_H X mdX0_putWhole) (hr : pu_P X.2.1 X.2.2.2.2.2.2.2.2.2.2.1 r) (hq : ∀ i pc, pu_lp i = some (154, pc) → pu_S X mdX0_putWhole pc (r i)) : pu_S X mdX0_putWhole 28 (kX0_putWhole_28 r) := by
  unfold kX0_putWhole_28
  exact z_ild_n hX dX0_putWhole_28 rfl (z_ifle hX dX0_putWhole_29 (by decide) (tX0_putWhole_42 hX hr hq) (z_ald_n hX dX0_putWhole_32 rfl (z_bipush hX dX0_putWhole_33 (by decide) (z_ild_n hX dX0_putWhole_35 rfl (z_iadd hX dX0_putWhole_36 (z_iconst hX dX0_putWhole_37 (by decide) (z_isub hX dX0_putWhole_38 (z_cv (c := 0) hX hr dX0_putWhole_39 hjX0_put mwX0_put rfl wm9_6 ⟨wm9_7, wm9_8⟩ ⟨Nat.le_of_ble_eq_true rfl, Nat.le_of_ble_eq_true rfl⟩ ((tX0_putWhole_42 hX hr hq))))))))))
def kX0_putWhole_0 (r : pu_R) : pu_K := s_ald 0 (s_ild 1 (s_push (.int (16)) (s_idiv (s_cv r 153 1 0 (s_ild 1 (s_push (.int (16)) (s_irem (s_ist 2 (s_ild 2 (s_push (.int (9)) (s_icne (kX0_putWhole_28 r) (s_ald 0 (s_push (.int (43)) (s_cv r 12 1 0 ((kX0_putWhole_42 r))))))))))))))))
theorem vX0_putWhole_0 : pu_cok2 kX0_putWhole_0 := fun rf r hr => by
  unfold kX0_putWhole_0
  exact v_ald (v_ild (v_pi (v_idiv (v_cv hr (v_ild (v_pi (v_irem (v_ist (v_ild (v_pi (v_icne (vX0_putWhole_28 rf r hr) (v_ald (v_pi (v_cv hr ((vX0_putWhole_42 rf r hr))))))))))))))))
theorem tX0_putWhole_0 {X : pu_X} {r : pu_R} (hX : pu_H X mdX0_putWhole) (hr : pu_P X.2.1 X.2.2.2.2.2.2.2.2.2.2.1 r) (hq : ∀ i pc, pu_lp i = some (154, pc) → pu_S X mdX0_putWhole pc (r i)) : pu_S X mdX0_putWhole 0 (kX0_putWhole_0 r) := by
  unfold kX0_putWhole_0
  exact z_ald_n hX dX0_putWhole_0 rfl (z_ild_n hX dX0_putWhole_1 rfl (z_bipush hX dX0_putWhole_2 (by decide) (z_idiv hX dX0_putWhole_4 (z_cv (c := 0) hX hr dX0_putWhole_5 hjX0_putDecimal mwX0_putDecimal rfl wm50_10 ⟨wm50_11, wm50_12⟩ ⟨Nat.le_of_ble_eq_true rfl, Nat.le_of_ble_eq_true rfl⟩ (z_ild_n hX dX0_putWhole_8 rfl (z_bipush hX dX0_putWhole_9 (by decide) (z_irem hX dX0_putWhole_11 (z_ist_n hX dX0_putWhole_12 rfl (z_ild_n hX dX0_putWhole_13 rfl (z_bipush hX dX0_putWhole_14 (by decide) (z_icne hX dX0_putWhole_16 (by decide) (tX0_putWhole_28 hX hr hq) (z_ald_n hX dX0_putWhole_19 rfl (z_bipush hX dX0_putWhole_20 (by decide) (z_cv (c := 0) hX hr dX0_putWhole_22 hjX0_put mwX0_put rfl wm9_6 ⟨wm9_7, wm9_8⟩ ⟨Nat.le_of_ble_eq_true rfl, Nat.le_of_ble_eq_true rfl⟩ ((z_goto hX dX0_putWhole_25 (by decide) (tX0_putWhole_42 hX hr hq)))))))))))))))))
def kJ0_coder_7d493_14 (r : pu_R) : pu_K := s_nret .byte
theorem vJ0_coder_7d493_14 : pu_cok2 kJ0_coder_7d493_14 := fun rf r hr => by
  unfold kJ0_coder_7d493_14
  exact v_nret
theorem tJ0_coder_7d493_14 {X : pu_X} {r : pu_R} (hX : pu_H X mdJ0_coder_7d493) (hr : pu_P X.2.1 X.2.2.2.2.2.2.2.2.2.2.1 r) (hq : ∀ i pc, pu_lp i = some (155, pc) → pu_S X mdJ0_coder_7d493 pc (r i)) : pu_S X mdJ0_coder_7d493 14 (kJ0_coder_7d493_14 r) := by
  unfold kJ0_coder_7d493_14
  exact z_nret hX dJ0_coder_7d493_14 rfl
def kJ0_coder_7d493_13 (r : pu_R) : pu_K := s_push (.int (1)) ((kJ0_coder_7d493_14 r))
theorem vJ0_coder_7d493_13 : pu_cok2 kJ0_coder_7d493_13 := fun rf r hr => by
  unfold kJ0_coder_7d493_13
  exact v_pi ((vJ0_coder_7d493_14 rf r hr))
theorem tJ0_coder_7d493_13 {X : pu_X} {r : pu_R} (hX : pu_H X mdJ0_coder_7d493) (hr : pu_P X.2.1 X.2.2.2.2.2.2.2.2.2.2.1 r) (hq : ∀ i pc, pu_lp i = some (155, pc) → pu_S X mdJ0_coder_7d493 pc (r i)) : pu_S X mdJ0_coder_7d493 13 (kJ0_coder_7d493_13 r) := by
  unfold kJ0_coder_7d493_13
  exact z_iconst hX dJ0_coder_7d493_13 (by decide) ((tJ0_coder_7d493_14 hX hr hq))
def kJ0_coder_7d493_0 (r : pu_R) : pu_K := s_push (.int 1) (s_ifeq (kJ0_coder_7d493_13 r) (s_ald 0 (s_gsc ((kJ0_coder_7d493_14 r)))))
theorem vJ0_coder_7d493_0 : pu_cok2 kJ0_coder_7d493_0 := fun rf r hr => by
  unfold kJ0_coder_7d493_0
  exact v_pi (v_ifeq (vJ0_coder_7d493_13 rf r hr) (v_ald (v_gsc ((vJ0_coder_7d493_14 rf r hr)))))
theorem tJ0_coder_7d493_0 {X : pu_X} {r : pu_R} (hX : pu_H X mdJ0_coder_7d493) (hr : pu_P X.2.1 X.2.2.2.2.2.2.2.2.2.2.1 r) (hq : ∀ i pc, pu_lp i = some (155, pc) → pu_S X mdJ0_coder_7d493 pc (r i)) : pu_S X mdJ0_coder_7d493 0 (kJ0_coder_7d493_0 r) := by
  unfold kJ0_coder_7d493_0
  exact z_gcs hX dJ0_coder_7d493_0 wm51_8 (z_ifeq hX dJ0_coder_7d493_3 (by decide) (tJ0_coder_7d493_13 hX hr hq) (z_ald_n hX dJ0_coder_7d493_6 rfl (z_gsc hX dJ0_coder_7d493_7 wm51_9 ((z_goto hX dJ0_coder_7d493_10 (by decide) (tJ0_coder_7d493_14 hX hr hq))))))
def kJ0_length_8abf5_0 (r : pu_R) : pu_K := s_ald 0 (s_gsv (s_sal (s_ald 0 (s_ct r 155 0 (s_ishr (s_iret))))))
theorem vJ0_length_8abf5_0 : pu_cok2 kJ0_length_8abf5_0 := fun rf r hr => by
  unfold kJ0_length_8abf5_0
  exact v_ald (v_gsv (v_sal (v_ald (v_ct hr (v_ishr (v_iret))))))
theorem tJ0_length_8abf5_0 {X : pu_X} {r : pu_R} (hX : pu_H X mdJ0_length_8abf5) (hr : pu_P X.2.1 X.2.2.2.2.2.2.2.2.2.2.1 r) (hq : ∀ i pc, pu_lp i = some (156, pc) → pu_S X mdJ0_length_8abf5 pc (r i)) : pu_S X mdJ0_length_8abf5 0 (kJ0_length_8abf5_0 r) := by
  unfold kJ0_length_8abf5_0
  exact z_ald_n hX dJ0_length_8abf5_0 rfl (z_gsv hX dJ0_length_8abf5_1 wm51_3 (z_sal (index := 0) hX dJ0_length_8abf5_4 (z_ald_n hX dJ0_length_8abf5_5 rfl (z_ct hX hr dJ0_length_8abf5_6 hjJ0_coder_7d493 mwJ0_coder_7d493 rfl wm51_4 ⟨wm51_5, wm51_6⟩ ⟨Nat.le_of_ble_eq_true rfl, Nat.le_of_ble_eq_true rfl⟩ (z_ishr hX dJ0_length_8abf5_9 (z_iret hX dJ0_length_8abf5_10 rfl))))))
def kJ0_isLatin1_aae02_18 (r : pu_R) : pu_K := s_zret
theorem vJ0_isLatin1_aae02_18 : pu_cok2 kJ0_isLatin1_aae02_18 := fun rf r hr => by
  unfold kJ0_isLatin1_aae02_18
  exact v_zret
theorem tJ0_isLatin1_aae02_18 {X : pu_X} {r : pu_R} (hX : pu_H X mdJ0_isLatin1_aae02) (hr : pu_P X.2.1 X.2.2.2.2.2.2.2.2.2.2.1 r) (hq : ∀ i pc, pu_lp i = some (157, pc) → pu_S X mdJ0_isLatin1_aae02 pc (r i)) : pu_S X mdJ0_isLatin1_aae02 18 (kJ0_isLatin1_aae02_18 r) := by
  unfold kJ0_isLatin1_aae02_18
  exact z_zret hX dJ0_isLatin1_aae02_18 rfl
def kJ0_isLatin1_aae02_17 (r : pu_R) : pu_K := s_push (.int (0)) ((kJ0_isLatin1_aae02_18 r))
theorem vJ0_isLatin1_aae02_17 : pu_cok2 kJ0_isLatin1_aae02_17 := fun rf r hr => by
  unfold kJ0_isLatin1_aae02_17
  exact v_pi ((vJ0_isLatin1_aae02_18 rf r hr))
theorem tJ0_isLatin1_aae02_17 {X : pu_X} {r : pu_R} (hX : pu_H X mdJ0_isLatin1_aae02) (hr : pu_P X.2.1 X.2.2.2.2.2.2.2.2.2.2.1 r) (hq : ∀ i pc, pu_lp i = some (157, pc) → pu_S X mdJ0_isLatin1_aae02 pc (r i)) : pu_S X mdJ0_isLatin1_aae02 17 (kJ0_isLatin1_aae02_17 r) := by
  unfold kJ0_isLatin1_aae02_17
  exact z_iconst hX dJ0_isLatin1_aae02_17 (by decide) ((tJ0_isLatin1_aae02_18 hX hr hq))
def kJ0_isLatin1_aae02_0 (r : pu_R) : pu_K := s_push (.int 1) (s_ifeq (kJ0_isLatin1_aae02_17 r) (s_ald 0 (s_gsc (s_ifne (kJ0_isLatin1_aae02_17 r) (s_push (.int (1)) ((kJ0_isLatin1_aae02_18 r)))))))
theorem vJ0_isLatin1_aae02_0 : pu_cok2 kJ0_isLatin1_aae02_0 := fun rf r hr => by
  unfold kJ0_isLatin1_aae02_0
  exact v_pi (v_ifeq (vJ0_isLatin1_aae02_17 rf r hr) (v_ald (v_gsc (v_ifne (vJ0_isLatin1_aae02_17 rf r hr) (v_pi ((vJ0_isLatin1_aae02_18 rf r hr)))))))
theorem tJ0_isLatin1_aae02_0 {X : pu_X} {r : pu_R} (hX : pu_H X mdJ0_isLatin1_aae02) (hr : pu_P X.2.1 X.2.2.2.2.2.2.2.2.2.2.1 r) (hq : ∀ i pc, pu_lp i = some (157, pc) → pu_S X mdJ0_isLatin1_aae02 pc (r i)) : pu_S X mdJ0_isLatin1_aae02 0 (kJ0_isLatin1_aae02_0 r) := by
  unfold kJ0_isLatin1_aae02_0
  exact z_gcs hX dJ0_isLatin1_aae02_0 wm51_8 (z_ifeq hX dJ0_isLatin1_aae02_3 (by decide) (tJ0_isLatin1_aae02_17 hX hr hq) (z_ald_n hX dJ0_isLatin1_aae02_6 rfl (z_gsc hX dJ0_isLatin1_aae02_7 wm51_9 (z_ifne hX dJ0_isLatin1_aae02_10 (by decide) (tJ0_isLatin1_aae02_17 hX hr hq) (z_iconst hX dJ0_isLatin1_aae02_13 (by decide) ((z_goto hX dJ0_isLatin1_aae02_14 (by decide) (tJ0_isLatin1_aae02_18 hX hr hq))))))))
def kJ3_checkIndex_8e157_16 (r : pu_R) : pu_K := s_ild 0 (s_iret)
theorem vJ3_checkIndex_8e157_16 : pu_cok2 kJ3_checkIndex_8e157_16 := fun rf r hr => by
  unfold kJ3_checkIndex_8e157_16
  exact v_ild (v_iret)
theorem tJ3_checkIndex_8e157_16 {X : pu_X} {r : pu_R} (hX : pu_H X mdJ3_checkIndex_8e157) (hr : pu_P X.2.1 X.2.2.2.2.2.2.2.2.2.2.1 r) (hq : ∀ i pc, pu_lp i = some (158, pc) → pu_S X mdJ3_checkIndex_8e157 pc (r i)) : pu_S X mdJ3_checkIndex_8e157 16 (kJ3_checkIndex_8e157_16 r) := by
  unfold kJ3_checkIndex_8e157_16
  exact z_ild_n hX dJ3_checkIndex_8e157_16 rfl (z_iret hX dJ3_checkIndex_8e157_17 rfl)
def kJ3_checkIndex_8e157_0 (r : pu_R) : pu_K := s_ild 0 (s_iflt s_no (s_ild 0 (s_ild 1 (s_iclt (kJ3_checkIndex_8e157_16 r) (s_no)))))
theorem vJ3_checkIndex_8e157_0 : pu_cok2 kJ3_checkIndex_8e157_0 := fun rf r hr => by
  unfold kJ3_checkIndex_8e157_0
  exact v_ild (v_iflt v_no (v_ild (v_ild (v_iclt (vJ3_checkIndex_8e157_16 rf r hr) (v_no)))))
theorem tJ3_checkIndex_8e157_0 {X : pu_X} {r : pu_R} (hX : pu_H X mdJ3_checkIndex_8e157) (hr : pu_P X.2.1 X.2.2.2.2.2.2.2.2.2.2.1 r) (hq : ∀ i pc, pu_lp i = some (158, pc) → pu_S X mdJ3_checkIndex_8e157 pc (r i)) : pu_S X mdJ3_checkIndex_8e157 0 (kJ3_checkIndex_8e157_0 r) := by
  unfold kJ3_checkIndex_8e157_0
  exact z_ild_n hX dJ3_checkIndex_8e157_0 rfl (z_iflt hX dJ3_checkIndex_8e157_1 (by decide) (z_no (pc := 9)) (z_ild_n hX dJ3_checkIndex_8e157_4 rfl (z_ild_n hX dJ3_checkIndex_8e157_5 rfl (z_iclt hX dJ3_checkIndex_8e157_6 (by decide) (tJ3_checkIndex_8e157_16 hX hr hq) ((z_no (pc := 9)))))))
def kJ0_checkIndex_df160_0 (r : pu_R) : pu_K := s_ild 0 (s_ild 1 (s_push (.retAddr 0) (s_cs r 158 3 (s_pop (s_vret)))))
theorem vJ0_checkIndex_df160_0 : pu_cok2 kJ0_checkIndex_df160_0 := fun rf r hr => by
  unfold kJ0_checkIndex_df160_0
  exact v_ild (v_ild (v_pr' (v_cs hr (v_pop (v_vret)))))
theorem tJ0_checkIndex_df160_0 {X : pu_X} {r : pu_R} (hX : pu_H X mdJ0_checkIndex_df160) (hr : pu_P X.2.1 X.2.2.2.2.2.2.2.2.2.2.1 r) (hq : ∀ i pc, pu_lp i = some (159, pc) → pu_S X mdJ0_checkIndex_df160 pc (r i)) : pu_S X mdJ0_checkIndex_df160 0 (kJ0_checkIndex_df160_0 r) := by
  unfold kJ0_checkIndex_df160_0
  exact z_ild_n hX dJ0_checkIndex_df160_0 rfl (z_ild_n hX dJ0_checkIndex_df160_1 rfl (z_gso hX dJ0_checkIndex_df160_2 wm52_1 (z_cs hX hr dJ0_checkIndex_df160_5 hjJ3_checkIndex_8e157 mwJ3_checkIndex_8e157 wm52_2 wm52_3 ⟨Nat.le_of_ble_eq_true rfl, Nat.le_of_ble_eq_true rfl⟩ (z_pop hX dJ0_checkIndex_df160_8 (z_vret hX dJ0_checkIndex_df160_9 rfl)))))
def kJ1_charAt_3b067_0 (r : pu_R) : pu_K := s_ild 1 (s_ald 0 (s_sal (s_cs r 159 2 (s_ald 0 (s_ild 1 (s_sba (s_push (.int (255)) (s_iand (s_i2c (s_nret .char))))))))))
theorem vJ1_charAt_3b067_0 : pu_cok2 kJ1_charAt_3b067_0 := fun rf r hr => by
  unfold kJ1_charAt_3b067_0
  exact v_ild (v_ald (v_sal (v_cs hr (v_ald (v_ild (v_sba (v_pi (v_iand (v_i2c (v_nret))))))))))
theorem tJ1_charAt_3b067_0 {X : pu_X} {r : pu_R} (hX : pu_H X mdJ1_charAt_3b067) (hr : pu_P X.2.1 X.2.2.2.2.2.2.2.2.2.2.1 r) (hq : ∀ i pc, pu_lp i = some (160, pc) → pu_S X mdJ1_charAt_3b067 pc (r i)) : pu_S X mdJ1_charAt_3b067 0 (kJ1_charAt_3b067_0 r) := by
  unfold kJ1_charAt_3b067_0
  exact z_ild_n hX dJ1_charAt_3b067_0 rfl (z_ald_n hX dJ1_charAt_3b067_1 rfl (z_sal (index := 0) hX dJ1_charAt_3b067_2 (z_cs hX hr dJ1_charAt_3b067_3 hjJ0_checkIndex_df160 mwJ0_checkIndex_df160 wm51_22 wm51_23 ⟨Nat.le_of_ble_eq_true rfl, Nat.le_of_ble_eq_true rfl⟩ (z_ald_n hX dJ1_charAt_3b067_6 rfl (z_ild_n hX dJ1_charAt_3b067_7 rfl (z_sba (index := 0) hX dJ1_charAt_3b067_8 (z_sipush hX dJ1_charAt_3b067_9 (by decide) (z_iand hX dJ1_charAt_3b067_12 (z_i2c hX dJ1_charAt_3b067_13 (z_nret hX dJ1_charAt_3b067_14 rfl))))))))))
def kJ0_charAt_5068e_0 (r : pu_R) : pu_K := s_ald 0 (s_ct r 157 0 (s_ifeq s_no (s_ald 0 (s_gsv (s_ild 1 (s_cs r 160 2 (s_nret .char)))))))
theorem vJ0_charAt_5068e_0 : pu_cok2 kJ0_charAt_5068e_0 := fun rf r hr => by
  unfold kJ0_charAt_5068e_0
  exact v_ald (v_ct hr (v_ifeq v_no (v_ald (v_gsv (v_ild (v_cs hr (v_nret)))))))
theorem tJ0_charAt_5068e_0 {X : pu_X} {r : pu_R} (hX : pu_H X mdJ0_charAt_5068e) (hr : pu_P X.2.1 X.2.2.2.2.2.2.2.2.2.2.1 r) (hq : ∀ i pc, pu_lp i = some (161, pc) → pu_S X mdJ0_charAt_5068e pc (r i)) : pu_S X mdJ0_charAt_5068e 0 (kJ0_charAt_5068e_0 r) := by
  unfold kJ0_charAt_5068e_0
  exact z_ald_n hX dJ0_charAt_5068e_0 rfl (z_ct hX hr dJ0_charAt_5068e_1 hjJ0_isLatin1_aae02 mwJ0_isLatin1_aae02 rfl wm51_14 ⟨wm51_15, wm51_16⟩ ⟨Nat.le_of_ble_eq_true rfl, Nat.le_of_ble_eq_true rfl⟩ (z_ifeq hX dJ0_charAt_5068e_4 (by decide) (z_no (pc := 16)) (z_ald_n hX dJ0_charAt_5068e_7 rfl (z_gsv hX dJ0_charAt_5068e_8 wm51_3 (z_ild_n hX dJ0_charAt_5068e_11 rfl (z_cs hX hr dJ0_charAt_5068e_12 hjJ1_charAt_3b067 mwJ1_charAt_3b067 wm51_18 wm51_19 ⟨Nat.le_of_ble_eq_true rfl, Nat.le_of_ble_eq_true rfl⟩ (z_nret hX dJ0_charAt_5068e_15 rfl)))))))
def kX0_putText_25 (r : pu_R) : pu_K := s_vret
theorem vX0_putText_25 : pu_cok2 kX0_putText_25 := fun rf r hr => by
  unfold kX0_putText_25
  exact v_vret
theorem tX0_putText_25 {X : pu_X} {r : pu_R} (hX : pu_H X mdX0_putText) (hr : pu_P X.2.1 X.2.2.2.2.2.2.2.2.2.2.1 r) (hq : ∀ i pc, pu_lp i = some (162, pc) → pu_S X mdX0_putText pc (r i)) : pu_S X mdX0_putText 25 (kX0_putText_25 r) := by
  unfold kX0_putText_25
  exact z_vret hX dX0_putText_25 rfl
def kX0_putText_2 (r : pu_R) : pu_K := s_ild 2 (s_ald 1 (s_ct r 156 0 (s_icge (kX0_putText_25 r) (s_ald 0 (s_ald 1 (s_ild 2 (s_ct r 161 1 (s_cv r 12 1 0 (s_inc 2 (1) ((r 398)))))))))))
theorem vX0_putText_2 : pu_cok2 kX0_putText_2 := fun rf r hr => by
  unfold kX0_putText_2
  exact v_ild (v_ald (v_ct hr (v_icge (vX0_putText_25 rf r hr) (v_ald (v_ald (v_ild (v_ct hr (v_cv hr (v_inc ((hr 398)))))))))))
theorem tX0_putText_2 {X : pu_X} {r : pu_R} (hX : pu_H X mdX0_putText) (hr : pu_P X.2.1 X.2.2.2.2.2.2.2.2.2.2.1 r) (hq : ∀ i pc, pu_lp i = some (162, pc) → pu_S X mdX0_putText pc (r i)) : pu_S X mdX0_putText 2 (kX0_putText_2 r) := by
  unfold kX0_putText_2
  exact z_ild_n hX dX0_putText_2 rfl (z_ald_n hX dX0_putText_3 rfl (z_ct hX hr dX0_putText_4 hjJ0_length_8abf5 mwJ0_length_8abf5 rfl wm50_22 ⟨wm50_23, wm51_0⟩ ⟨Nat.le_of_ble_eq_true rfl, Nat.le_of_ble_eq_true rfl⟩ (z_icge hX dX0_putText_7 (by decide) (tX0_putText_25 hX hr hq) (z_ald_n hX dX0_putText_10 rfl (z_ald_n hX dX0_putText_11 rfl (z_ild_n hX dX0_putText_12 rfl (z_ct hX hr dX0_putText_13 hjJ0_charAt_5068e mwJ0_charAt_5068e rfl wm51_10 ⟨wm51_11, wm51_12⟩ ⟨Nat.le_of_ble_eq_true rfl, Nat.le_of_ble_eq_true rfl⟩ (z_cv (c := 0) hX hr dX0_putText_16 hjX0_put mwX0_put rfl wm9_6 ⟨wm9_7, wm9_8⟩ ⟨Nat.le_of_ble_eq_true rfl, Nat.le_of_ble_eq_true rfl⟩ (z_inc hX dX0_putText_19 (by decide) ((z_goto hX dX0_putText_22 (by decide) (hq 398 2 hl398))))))))))))
def kX0_putText_0 (r : pu_R) : pu_K := s_push (.int (0)) (s_ist 2 ((r 398)))
theorem vX0_putText_0 : pu_cok2 kX0_putText_0 := fun rf r hr => by
  unfold kX0_putText_0
  exact v_pi (v_ist ((hr 398)))
theorem tX0_putText_0 {X : pu_X} {r : pu_R} (hX : pu_H X mdX0_putText) (hr : pu_P X.2.1 X.2.2.2.2.2.2.2.2.2.2.1 r) (hq : ∀ i pc, pu_lp i = some (162, pc) → pu_S X mdX0_putText pc (r i)) : pu_S X mdX0_putText 0 (kX0_putText_0 r) := by
  unfold kX0_putText_0
  exact z_iconst hX dX0_putText_0 (by decide) (z_ist_n hX dX0_putText_1 rfl ((hq 398 2 hl398)))
def kX11_putExtra_113 (r : pu_R) : pu_K := s_vret
theorem vX11_putExtra_113 : pu_cok2 kX11_putExtra_113 := fun rf r hr => by
  unfold kX11_putExtra_113
  exact v_vret
theorem tX11_putExtra_113 {X : pu_X} {r : pu_R} (hX : pu_H X mdX11_putExtra) (hr : pu_P X.2.1 X.2.2.2.2.2.2.2.2.2.2.1 r) (hq : ∀ i pc, pu_lp i = some (163, pc) → pu_S X mdX11_putExtra pc (r i)) : pu_S X mdX11_putExtra 113 (kX11_putExtra_113 r) := by
  unfold kX11_putExtra_113
  exact z_vret hX dX11_putExtra_113 rfl
def kX11_putExtra_81 (r : pu_R) : pu_K := s_ald 0 (s_gr 11 1 (s_push (.float 3) (s_cv r 162 1 0 (s_ald 0 (s_gr 11 1 (s_ald 0 (s_gr 11 2 (s_gr 5 4 (s_gr 2 4 (s_ild 1 (s_ai 1 (s_cv r 153 1 0 ((kX11_putExtra_113 r))))))))))))))
theorem vX11_putExtra_81 : pu_cok2 kX11_putExtra_81 := fun rf r hr => by
  unfold kX11_putExtra_81
  exact v_ald (v_gr (v_pf (v_cv hr (v_ald (v_gr (v_ald (v_gr (v_gr (v_gr (v_ild (v_ai (v_cv hr ((vX11_putExtra_113 rf r hr))))))))))))))
theorem tX11_putExtra_81 {X : pu_X} {r : pu_R} (hX : pu_H X mdX11_putExtra) (hr : pu_P X.2.1 X.2.2.2.2.2.2.2.2.2.2.1 r) (hq : ∀ i pc, pu_lp i = some (163, pc) → pu_S X mdX11_putExtra pc (r i)) : pu_S X mdX11_putExtra 81 (kX11_putExtra_81 r) := by
  unfold kX11_putExtra_81
  exact z_ald_n hX dX11_putExtra_81 rfl (z_gr (c := 11) (j := 1) hX dX11_putExtra_82 rfl inlX11 wm1_16 ⟨rfl, by decide, rfl⟩ (z_ldcwS (i := 2) hX dX11_putExtra_85 ⟨by decide, rfl, rfl, rfl⟩ (z_cv (c := 0) hX hr dX11_putExtra_88 hjX0_putText mwX0_putText rfl wm50_18 ⟨wm50_19, wm50_20⟩ ⟨Nat.le_of_ble_eq_true rfl, Nat.le_of_ble_eq_true rfl⟩ (z_ald_n hX dX11_putExtra_91 rfl (z_gr (c := 11) (j := 1) hX dX11_putExtra_92 rfl inlX11 wm1_16 ⟨rfl, by decide, rfl⟩ (z_ald_n hX dX11_putExtra_95 rfl (z_gr (c := 11) (j := 2) hX dX11_putExtra_96 rfl inlX11 wm1_20 ⟨rfl, by decide, rfl⟩ (z_gr (c := 5) (j := 4) hX dX11_putExtra_99 rfl inlX5 wm21_20 ⟨rfl, by decide, rfl⟩ (z_gr (c := 2) (j := 4) hX dX11_putExtra_102 rfl inlX2 wm46_22 ⟨rfl, by decide, rfl⟩ (z_ild_n hX dX11_putExtra_105 rfl (z_iald hX dX11_putExtra_106 (z_cv (c := 0) hX hr dX11_putExtra_107 hjX0_putDecimal mwX0_putDecimal rfl wm52_23 ⟨wm50_11, wm50_12⟩ ⟨Nat.le_of_ble_eq_true rfl, Nat.le_of_ble_eq_true rfl⟩ ((z_goto hX dX11_putExtra_110 (by decide) (tX11_putExtra_113 hX hr hq)))))))))))))))
def kX11_putExtra_49 (r : pu_R) : pu_K := s_ald 0 (s_gr 11 1 (s_push (.float 2) (s_cv r 162 1 0 (s_ald 0 (s_gr 11 1 (s_ald 0 (s_gr 11 2 (s_gr 5 4 (s_gr 2 4 (s_ild 1 (s_ai 1 (s_cv r 153 1 0 ((kX11_putExtra_113 r))))))))))))))
theorem vX11_putExtra_49 : pu_cok2 kX11_putExtra_49 := fun rf r hr => by
  unfold kX11_putExtra_49
  exact v_ald (v_gr (v_pf (v_cv hr (v_ald (v_gr (v_ald (v_gr (v_gr (v_gr (v_ild (v_ai (v_cv hr ((vX11_putExtra_113 rf r hr))))))))))))))
theorem tX11_putExtra_49 {X : pu_X} {r : pu_R} (hX : pu_H X mdX11_putExtra) (hr : pu_P X.2.1 X.2.2.2.2.2.2.2.2.2.2.1 r) (hq : ∀ i pc, pu_lp i = some (163, pc) → pu_S X mdX11_putExtra pc (r i)) : pu_S X mdX11_putExtra 49 (kX11_putExtra_49 r) := by
  unfold kX11_putExtra_49
  exact z_ald_n hX dX11_putExtra_49 rfl (z_gr (c := 11) (j := 1) hX dX11_putExtra_50 rfl inlX11 wm1_16 ⟨rfl, by decide, rfl⟩ (z_ldcwS (i := 1) hX dX11_putExtra_53 ⟨by decide, rfl, rfl, rfl⟩ (z_cv (c := 0) hX hr dX11_putExtra_56 hjX0_putText mwX0_putText rfl wm50_18 ⟨wm50_19, wm50_20⟩ ⟨Nat.le_of_ble_eq_true rfl, Nat.le_of_ble_eq_true rfl⟩ (z_ald_n hX dX11_putExtra_59 rfl (z_gr (c := 11) (j := 1) hX dX11_putExtra_60 rfl inlX11 wm1_16 ⟨rfl, by decide, rfl⟩ (z_ald_n hX dX11_putExtra_63 rfl (z_gr (c := 11) (j := 2) hX dX11_putExtra_64 rfl inlX11 wm1_20 ⟨rfl, by decide, rfl⟩ (z_gr (c := 5) (j := 4) hX dX11_putExtra_67 rfl inlX5 wm21_20 ⟨rfl, by decide, rfl⟩ (z_gr (c := 2) (j := 4) hX dX11_putExtra_70 rfl inlX2 wm46_22 ⟨rfl, by decide, rfl⟩ (z_ild_n hX dX11_putExtra_73 rfl (z_iald hX dX11_putExtra_74 (z_cv (c := 0) hX hr dX11_putExtra_75 hjX0_putDecimal mwX0_putDecimal rfl wm52_23 ⟨wm50_11, wm50_12⟩ ⟨Nat.le_of_ble_eq_true rfl, Nat.le_of_ble_eq_true rfl⟩ ((z_goto hX dX11_putExtra_78 (by decide) (tX11_putExtra_113 hX hr hq)))))))))))))))
def kX11_putExtra_36 (r : pu_R) : pu_K := s_ald 0 (s_gr 11 1 (s_push (.float 1) (s_cv r 162 1 0 ((kX11_putExtra_113 r)))))
theorem vX11_putExtra_36 : pu_cok2 kX11_putExtra_36 := fun rf r hr => by
  unfold kX11_putExtra_36
  exact v_ald (v_gr (v_pf (v_cv hr ((vX11_putExtra_113 rf r hr)))))
theorem tX11_putExtra_36 {X : pu_X} {r : pu_R} (hX : pu_H X mdX11_putExtra) (hr : pu_P X.2.1 X.2.2.2.2.2.2.2.2.2.2.1 r) (hq : ∀ i pc, pu_lp i = some (163, pc) → pu_S X mdX11_putExtra pc (r i)) : pu_S X mdX11_putExtra 36 (kX11_putExtra_36 r) := by
  unfold kX11_putExtra_36
  exact z_ald_n hX dX11_putExtra_36 rfl (z_gr (c := 11) (j := 1) hX dX11_putExtra_37 rfl inlX11 wm1_16 ⟨rfl, by decide, rfl⟩ (z_ldcwS (i := 0) hX dX11_putExtra_40 ⟨by decide, rfl, rfl, rfl⟩ (z_cv (c := 0) hX hr dX11_putExtra_43 hjX0_putText mwX0_putText rfl wm50_18 ⟨wm50_19, wm50_20⟩ ⟨Nat.le_of_ble_eq_true rfl, Nat.le_of_ble_eq_true rfl⟩ ((z_goto hX dX11_putExtra_46 (by decide) (tX11_putExtra_113 hX hr hq))))))
def kX11_putExtra_0 (r : pu_R) : pu_K := s_ald 0 (s_gr 11 2 (s_gr 5 4 (s_ild 1 (s_cv r 91 1 2 (s_sw (2) [(kX11_putExtra_36 r), (kX11_putExtra_49 r), (kX11_putExtra_81 r)] (kX11_putExtra_113 r))))))
theorem vX11_putExtra_0 : pu_cok2 kX11_putExtra_0 := fun rf r hr => by
  unfold kX11_putExtra_0
  exact v_ald (v_gr (v_gr (v_ild (v_cv hr (v_sw (kfs := fun f => [(kX11_putExtra_36 (rf f)), (kX11_putExtra_49 (rf f)), (kX11_putExtra_81 (rf f))]) (fun i k hk => match i, hk with
    | 0, hk => by cases hk; exact ⟨_, fun _ => rfl, (vX11_putExtra_36 rf r hr)⟩
    | 1, hk => by cases hk; exact ⟨_, fun _ => rfl, (vX11_putExtra_49 rf r hr)⟩
    | 2, hk => by cases hk; exact ⟨_, fun _ => rfl, (vX11_putExtra_81 rf r hr)⟩
    | q + 3, hk => by cases hk) (fun _ => rfl) (vX11_putExtra_113 rf r hr))))))
theorem tX11_putExtra_0 {X : pu_X} {r : pu_R} (hX : pu_H X mdX11_putExtra) (hr : pu_P X.2.1 X.2.2.2.2.2.2.2.2.2.2.1 r) (hq : ∀ i pc, pu_lp i = some (163, pc) → pu_S X mdX11_putExtra pc (r i)) : pu_S X mdX11_putExtra 0 (kX11_putExtra_0 r) := by
  unfold kX11_putExtra_0
  exact z_ald_n hX dX11_putExtra_0 rfl (z_gr (c := 11) (j := 2) hX dX11_putExtra_1 rfl inlX11 wm1_20 ⟨rfl, by decide, rfl⟩ (z_gr (c := 5) (j := 4) hX dX11_putExtra_4 rfl inlX5 wm21_20 ⟨rfl, by decide, rfl⟩ (z_ild_n hX dX11_putExtra_7 rfl (z_cv (c := 2) hX hr dX11_putExtra_8 hjX2_sortOf mwX2_sortOf rfl wm32_18 ⟨wm32_19, wm32_20⟩ ⟨Nat.le_of_ble_eq_true rfl, Nat.le_of_ble_eq_true rfl⟩ (z_sw hX dX11_putExtra_11 (by rfl) (by decide) (tX11_putExtra_113 hX hr hq) (fun i k hk => match i, hk with
    | 0, hk => by cases hk; exact ⟨25, 36, rfl, by decide, (tX11_putExtra_36 hX hr hq)⟩
    | 1, hk => by cases hk; exact ⟨38, 49, rfl, by decide, (tX11_putExtra_49 hX hr hq)⟩
    | 2, hk => by cases hk; exact ⟨70, 81, rfl, by decide, (tX11_putExtra_81 hX hr hq)⟩
    | q + 3, hk => by cases hk))))))
def kX11_write_227 (r : pu_R) : pu_K := s_gr 3 2 (s_ild 6 (s_ai 1 (s_imul (s_cv r 152 2 0 (s_ald 0 (s_gr 11 1 (s_gi 0 0 (s_iret))))))))
theorem vX11_write_227 : pu_cok2 kX11_write_227 := fun rf r hr => by
  unfold kX11_write_227
  exact v_gr (v_ild (v_ai (v_imul (v_cv hr (v_ald (v_gr (v_gi (v_iret))))))))
theorem tX11_write_227 {X : pu_X} {r : pu_R} (hX : pu_H X mdX11_write) (hr : pu_P X.2.1 X.2.2.2.2.2.2.2.2.2.2.1 r) (hq : ∀ i pc, pu_lp i = some (164, pc) → pu_S X mdX11_write pc (r i)) : pu_S X mdX11_write 227 (kX11_write_227 r) := by
  unfold kX11_write_227
  exact z_gr (c := 3) (j := 2) hX dX11_write_227 rfl inlX3 wm39_9 ⟨rfl, by decide, rfl⟩ (z_ild hX dX11_write_230 (z_iald hX dX11_write_232 (z_imul hX dX11_write_233 (z_cv (c := 0) hX hr dX11_write_234 hjX0_putName mwX0_putName rfl wm49_19 ⟨wm49_20, wm49_21⟩ ⟨Nat.le_of_ble_eq_true rfl, Nat.le_of_ble_eq_true rfl⟩ (z_ald_n hX dX11_write_237 rfl (z_gr (c := 11) (j := 1) hX dX11_write_238 rfl inlX11 wm1_16 ⟨rfl, by decide, rfl⟩ (z_gi (c := 0) (j := 0) hX dX11_write_241 rfl inlX0 wm9_1 ⟨rfl, by decide, rfl⟩ (z_iret hX dX11_write_244 rfl))))))))
def kX11_write_176 (r : pu_R) : pu_K := s_ild 5 (s_ai 1 (s_cv r 154 1 0 (s_ald 0 (s_ild 1 (s_cv r 163 1 11 (s_ald 0 (s_gr 11 1 (s_push (.int (44)) (s_cv r 12 1 0 (s_ald 0 (s_gr 11 1 (s_push (.int (32)) (s_cv r 12 1 0 (s_ald 0 (s_gr 11 1 (s_ald 0 (s_gr 11 2 (s_gr 5 3 (s_gr 10 2 (s_push (.int (3)) (s_ald 0 (s_gr 11 2 (s_gr 5 2 ((kX11_write_227 r)))))))))))))))))))))))))
theorem vX11_write_176 : pu_cok2 kX11_write_176 := fun rf r hr => by
  unfold kX11_write_176
  exact v_ild (v_ai (v_cv hr (v_ald (v_ild (v_cv hr (v_ald (v_gr (v_pi (v_cv hr (v_ald (v_gr (v_pi (v_cv hr (v_ald (v_gr (v_ald (v_gr (v_gr (v_gr (v_pi (v_ald (v_gr (v_gr ((vX11_write_227 rf r hr)))))))))))))))))))))))))
theorem tX11_write_176 {X : pu_X} {r : pu_R} (hX : pu_H X mdX11_write) (hr : pu_P X.2.1 X.2.2.2.2.2.2.2.2.2.2.1 r) (hq : ∀ i pc, pu_lp i = some (164, pc) → pu_S X mdX11_write pc (r i)) : pu_S X mdX11_write 176 (kX11_write_176 r) := by
  unfold kX11_write_176
  exact z_ild hX dX11_write_176 (z_iald hX dX11_write_178 (z_cv (c := 0) hX hr dX11_write_179 hjX0_putWhole mwX0_putWhole rfl wm50_6 ⟨wm50_7, wm50_8⟩ ⟨Nat.le_of_ble_eq_true rfl, Nat.le_of_ble_eq_true rfl⟩ (z_ald_n hX dX11_write_182 rfl (z_ild_n hX dX11_write_183 rfl (z_cv (c := 11) hX hr dX11_write_184 hjX11_putExtra mwX11_putExtra rfl wm50_14 ⟨wm50_15, wm50_16⟩ ⟨Nat.le_of_ble_eq_true rfl, Nat.le_of_ble_eq_true rfl⟩ (z_ald_n hX dX11_write_187 rfl (z_gr (c := 11) (j := 1) hX dX11_write_188 rfl inlX11 wm1_16 ⟨rfl, by decide, rfl⟩ (z_bipush hX dX11_write_191 (by decide) (z_cv (c := 0) hX hr dX11_write_193 hjX0_put mwX0_put rfl wm50_5 ⟨wm9_7, wm9_8⟩ ⟨Nat.le_of_ble_eq_true rfl, Nat.le_of_ble_eq_true rfl⟩ (z_ald_n hX dX11_write_196 rfl (z_gr (c := 11) (j := 1) hX dX11_write_197 rfl inlX11 wm1_16 ⟨rfl, by decide, rfl⟩ (z_bipush hX dX11_write_200 (by decide) (z_cv (c := 0) hX hr dX11_write_202 hjX0_put mwX0_put rfl wm50_5 ⟨wm9_7, wm9_8⟩ ⟨Nat.le_of_ble_eq_true rfl, Nat.le_of_ble_eq_true rfl⟩ (z_ald_n hX dX11_write_205 rfl (z_gr (c := 11) (j := 1) hX dX11_write_206 rfl inlX11 wm1_16 ⟨rfl, by decide, rfl⟩ (z_ald_n hX dX11_write_209 rfl (z_gr (c := 11) (j := 2) hX dX11_write_210 rfl inlX11 wm1_20 ⟨rfl, by decide, rfl⟩ (z_gr (c := 5) (j := 3) hX dX11_write_213 rfl inlX5 wm11_22 ⟨rfl, by decide, rfl⟩ (z_gr (c := 10) (j := 2) hX dX11_write_216 rfl inlX10 wm49_12 ⟨rfl, by decide, rfl⟩ (z_iconst hX dX11_write_219 (by decide) (z_ald_n hX dX11_write_220 rfl (z_gr (c := 11) (j := 2) hX dX11_write_221 rfl inlX11 wm1_20 ⟨rfl, by decide, rfl⟩ (z_gr (c := 5) (j := 2) hX dX11_write_224 rfl inlX5 wm16_7 ⟨rfl, by decide, rfl⟩ ((tX11_write_227 hX hr hq)))))))))))))))))))))))))
def kX11_write_124 (r : pu_R) : pu_K := s_ald 0 (s_gr 11 1 (s_push (.int (0)) (s_pi 0 0 (s_ald 0 (s_gr 11 1 (s_ald 0 (s_gr 11 2 (s_gr 5 2 (s_gr 3 5 (s_push (.int (3)) (s_ild 6 (s_imul (s_cv r 152 2 0 (s_ald 0 (s_gr 11 1 (s_push (.int (32)) (s_cv r 12 1 0 (s_ald 0 (s_gr 11 1 (s_ald 0 (s_gr 11 2 (s_gr 5 1 (s_gr 4 2 ((kX11_write_176 r)))))))))))))))))))))))))
theorem vX11_write_124 : pu_cok2 kX11_write_124 := fun rf r hr => by
  unfold kX11_write_124
  exact v_ald (v_gr (v_pi (v_puti (v_ald (v_gr (v_ald (v_gr (v_gr (v_gr (v_pi (v_ild (v_imul (v_cv hr (v_ald (v_gr (v_pi (v_cv hr (v_ald (v_gr (v_ald (v_gr (v_gr (v_gr ((vX11_write_176 rf r hr)))))))))))))))))))))))))
theorem tX11_write_124 {X : pu_X} {r : pu_R} (hX : pu_H X mdX11_write) (hr : pu_P X.2.1 X.2.2.2.2.2.2.2.2.2.2.1 r) (hq : ∀ i pc, pu_lp i = some (164, pc) → pu_S X mdX11_write pc (r i)) : pu_S X mdX11_write 124 (kX11_write_124 r) := by
  unfold kX11_write_124
  exact z_ald_n hX dX11_write_124 rfl (z_gr (c := 11) (j := 1) hX dX11_write_125 rfl inlX11 wm1_16 ⟨rfl, by decide, rfl⟩ (z_iconst hX dX11_write_128 (by decide) (z_pi (c := 0) (j := 0) tyX0 tyX0_ok nmX0 hX dX11_write_129 rfl inlX0 wm9_1 ⟨rfl, by decide⟩ ⟨rfl, rfl⟩ rfl (z_ald_n hX dX11_write_132 rfl (z_gr (c := 11) (j := 1) hX dX11_write_133 rfl inlX11 wm1_16 ⟨rfl, by decide, rfl⟩ (z_ald_n hX dX11_write_136 rfl (z_gr (c := 11) (j := 2) hX dX11_write_137 rfl inlX11 wm1_20 ⟨rfl, by decide, rfl⟩ (z_gr (c := 5) (j := 2) hX dX11_write_140 rfl inlX5 wm16_7 ⟨rfl, by decide, rfl⟩ (z_gr (c := 3) (j := 5) hX dX11_write_143 rfl inlX3 wm49_11 ⟨rfl, by decide, rfl⟩ (z_iconst hX dX11_write_146 (by decide) (z_ild hX dX11_write_147 (z_imul hX dX11_write_149 (z_cv (c := 0) hX hr dX11_write_150 hjX0_putName mwX0_putName rfl wm49_19 ⟨wm49_20, wm49_21⟩ ⟨Nat.le_of_ble_eq_true rfl, Nat.le_of_ble_eq_true rfl⟩ (z_ald_n hX dX11_write_153 rfl (z_gr (c := 11) (j := 1) hX dX11_write_154 rfl inlX11 wm1_16 ⟨rfl, by decide, rfl⟩ (z_bipush hX dX11_write_157 (by decide) (z_cv (c := 0) hX hr dX11_write_159 hjX0_put mwX0_put rfl wm50_5 ⟨wm9_7, wm9_8⟩ ⟨Nat.le_of_ble_eq_true rfl, Nat.le_of_ble_eq_true rfl⟩ (z_ald_n hX dX11_write_162 rfl (z_gr (c := 11) (j := 1) hX dX11_write_163 rfl inlX11 wm1_16 ⟨rfl, by decide, rfl⟩ (z_ald_n hX dX11_write_166 rfl (z_gr (c := 11) (j := 2) hX dX11_write_167 rfl inlX11 wm1_20 ⟨rfl, by decide, rfl⟩ (z_gr (c := 5) (j := 1) hX dX11_write_170 rfl inlX5 wm21_22 ⟨rfl, by decide, rfl⟩ (z_gr (c := 4) (j := 2) hX dX11_write_173 rfl inlX4 wm48_10 ⟨rfl, by decide, rfl⟩ ((tX11_write_176 hX hr hq)))))))))))))))))))))))))
def kX11_write_84 (r : pu_R) : pu_K := s_ald 0 (s_gr 11 2 (s_gr 5 2 (s_ald 0 (s_gr 11 2 (s_gr 5 4 (s_ild 4 (s_cv r 66 1 2 (s_ild 3 (s_ald 0 (s_gr 11 2 (s_gr 5 0 (s_cv r 150 3 3 (s_ist 6 (s_ild 6 (s_push (.int (-1)) (s_icne (kX11_write_124 r) (s_push (.int (-1)) (s_iret))))))))))))))))))
theorem vX11_write_84 : pu_cok2 kX11_write_84 := fun rf r hr => by
  unfold kX11_write_84
  exact v_ald (v_gr (v_gr (v_ald (v_gr (v_gr (v_ild (v_cv hr (v_ild (v_ald (v_gr (v_gr (v_cv hr (v_ist (v_ild (v_pi (v_icne (vX11_write_124 rf r hr) (v_pi (v_iret))))))))))))))))))
theorem tX11_write_84 {X : pu_X} {r : pu_R} (hX : pu_H X mdX11_write) (hr : pu_P X.2.1 X.2.2.2.2.2.2.2.2.2.2.1 r) (hq : ∀ i pc, pu_lp i = some (164, pc) → pu_S X mdX11_write pc (r i)) : pu_S X mdX11_write 84 (kX11_write_84 r) := by
  unfold kX11_write_84
  exact z_ald_n hX dX11_write_84 rfl (z_gr (c := 11) (j := 2) hX dX11_write_85 rfl inlX11 wm1_20 ⟨rfl, by decide, rfl⟩ (z_gr (c := 5) (j := 2) hX dX11_write_88 rfl inlX5 wm16_7 ⟨rfl, by decide, rfl⟩ (z_ald_n hX dX11_write_91 rfl (z_gr (c := 11) (j := 2) hX dX11_write_92 rfl inlX11 wm1_20 ⟨rfl, by decide, rfl⟩ (z_gr (c := 5) (j := 4) hX dX11_write_95 rfl inlX5 wm21_20 ⟨rfl, by decide, rfl⟩ (z_ild hX dX11_write_98 (z_cv (c := 2) hX hr dX11_write_100 hjX2_streetOf mwX2_streetOf rfl wm32_22 ⟨wm24_7, wm24_8⟩ ⟨Nat.le_of_ble_eq_true rfl, Nat.le_of_ble_eq_true rfl⟩ (z_ild_n hX dX11_write_103 rfl (z_ald_n hX dX11_write_104 rfl (z_gr (c := 11) (j := 2) hX dX11_write_105 rfl inlX11 wm1_20 ⟨rfl, by decide, rfl⟩ (z_gr (c := 5) (j := 0) hX dX11_write_108 rfl inlX5 wm10_19 ⟨rfl, by decide, rfl⟩ (z_cv (c := 3) hX hr dX11_write_111 hjX3_holding mwX3_holding rfl wm49_14 ⟨wm49_15, wm49_16⟩ ⟨Nat.le_of_ble_eq_true rfl, Nat.le_of_ble_eq_true rfl⟩ (z_ist hX dX11_write_114 (z_ild hX dX11_write_116 (z_iconst hX dX11_write_118 (by decide) (z_icne hX dX11_write_119 (by decide) (tX11_write_124 hX hr hq) (z_iconst hX dX11_write_122 (by decide) (z_iret hX dX11_write_123 rfl))))))))))))))))))
def kX11_write_82 (r : pu_R) : pu_K := s_push (.int (-1)) (s_iret)
theorem vX11_write_82 : pu_cok2 kX11_write_82 := fun rf r hr => by
  unfold kX11_write_82
  exact v_pi (v_iret)
theorem tX11_write_82 {X : pu_X} {r : pu_R} (hX : pu_H X mdX11_write) (hr : pu_P X.2.1 X.2.2.2.2.2.2.2.2.2.2.1 r) (hq : ∀ i pc, pu_lp i = some (164, pc) → pu_S X mdX11_write pc (r i)) : pu_S X mdX11_write 82 (kX11_write_82 r) := by
  unfold kX11_write_82
  exact z_iconst hX dX11_write_82 (by decide) (z_iret hX dX11_write_83 rfl)
def kX11_write_66 (r : pu_R) : pu_K := s_ald 0 (s_gr 11 2 (s_gr 5 1 (s_gr 4 2 (s_ild 5 (s_ai 1 (s_ifne (kX11_write_84 r) ((kX11_write_82 r))))))))
theorem vX11_write_66 : pu_cok2 kX11_write_66 := fun rf r hr => by
  unfold kX11_write_66
  exact v_ald (v_gr (v_gr (v_gr (v_ild (v_ai (v_ifne (vX11_write_84 rf r hr) ((vX11_write_82 rf r hr))))))))
theorem tX11_write_66 {X : pu_X} {r : pu_R} (hX : pu_H X mdX11_write) (hr : pu_P X.2.1 X.2.2.2.2.2.2.2.2.2.2.1 r) (hq : ∀ i pc, pu_lp i = some (164, pc) → pu_S X mdX11_write pc (r i)) : pu_S X mdX11_write 66 (kX11_write_66 r) := by
  unfold kX11_write_66
  exact z_ald_n hX dX11_write_66 rfl (z_gr (c := 11) (j := 2) hX dX11_write_67 rfl inlX11 wm1_20 ⟨rfl, by decide, rfl⟩ (z_gr (c := 5) (j := 1) hX dX11_write_70 rfl inlX5 wm21_22 ⟨rfl, by decide, rfl⟩ (z_gr (c := 4) (j := 2) hX dX11_write_73 rfl inlX4 wm48_10 ⟨rfl, by decide, rfl⟩ (z_ild hX dX11_write_76 (z_iald hX dX11_write_78 (z_ifne hX dX11_write_79 (by decide) (tX11_write_84 hX hr hq) ((tX11_write_82 hX hr hq))))))))
def kX11_write_20 (r : pu_R) : pu_K := s_push (.int (2)) (s_ald 0 (s_gr 11 2 (s_gr 5 4 (s_gr 2 3 (s_ild 1 (s_ai 1 (s_imul (s_ild 2 (s_iadd (s_ist 4 (s_ald 0 (s_gr 11 2 (s_gr 5 1 (s_ild 4 (s_ild 3 (s_ald 0 (s_gr 11 2 (s_gr 5 0 (s_cv r 147 3 4 (s_ist 5 (s_ild 5 (s_push (.int (-1)) (s_iceq (kX11_write_82 r) ((kX11_write_66 r)))))))))))))))))))))))))
theorem vX11_write_20 : pu_cok2 kX11_write_20 := fun rf r hr => by
  unfold kX11_write_20
  exact v_pi (v_ald (v_gr (v_gr (v_gr (v_ild (v_ai (v_imul (v_ild (v_iadd (v_ist (v_ald (v_gr (v_gr (v_ild (v_ild (v_ald (v_gr (v_gr (v_cv hr (v_ist (v_ild (v_pi (v_iceq (vX11_write_82 rf r hr) ((vX11_write_66 rf r hr)))))))))))))))))))))))))
theorem tX11_write_20 {X : pu_X} {r : pu_R} (hX : pu_H X mdX11_write) (hr : pu_P X.2.1 X.2.2.2.2.2.2.2.2.2.2.1 r) (hq : ∀ i pc, pu_lp i = some (164, pc) → pu_S X mdX11_write pc (r i)) : pu_S X mdX11_write 20 (kX11_write_20 r) := by
  unfold kX11_write_20
  exact z_iconst hX dX11_write_20 (by decide) (z_ald_n hX dX11_write_21 rfl (z_gr (c := 11) (j := 2) hX dX11_write_22 rfl inlX11 wm1_20 ⟨rfl, by decide, rfl⟩ (z_gr (c := 5) (j := 4) hX dX11_write_25 rfl inlX5 wm21_20 ⟨rfl, by decide, rfl⟩ (z_gr (c := 2) (j := 3) hX dX11_write_28 rfl inlX2 wm46_18 ⟨rfl, by decide, rfl⟩ (z_ild_n hX dX11_write_31 rfl (z_iald hX dX11_write_32 (z_imul hX dX11_write_33 (z_ild_n hX dX11_write_34 rfl (z_iadd hX dX11_write_35 (z_ist hX dX11_write_36 (z_ald_n hX dX11_write_38 rfl (z_gr (c := 11) (j := 2) hX dX11_write_39 rfl inlX11 wm1_20 ⟨rfl, by decide, rfl⟩ (z_gr (c := 5) (j := 1) hX dX11_write_42 rfl inlX5 wm21_22 ⟨rfl, by decide, rfl⟩ (z_ild hX dX11_write_45 (z_ild_n hX dX11_write_47 rfl (z_ald_n hX dX11_write_48 rfl (z_gr (c := 11) (j := 2) hX dX11_write_49 rfl inlX11 wm1_20 ⟨rfl, by decide, rfl⟩ (z_gr (c := 5) (j := 0) hX dX11_write_52 rfl inlX5 wm10_19 ⟨rfl, by decide, rfl⟩ (z_cv (c := 4) hX hr dX11_write_55 hjX4_holding mwX4_holding rfl wm48_13 ⟨wm48_14, wm48_15⟩ ⟨Nat.le_of_ble_eq_true rfl, Nat.le_of_ble_eq_true rfl⟩ (z_ist hX dX11_write_58 (z_ild hX dX11_write_60 (z_iconst hX dX11_write_62 (by decide) (z_iceq hX dX11_write_63 (by decide) (tX11_write_82 hX hr hq) ((tX11_write_66 hX hr hq)))))))))))))))))))))))))
def kX11_write_18 (r : pu_R) : pu_K := s_push (.int (-1)) (s_iret)
theorem vX11_write_18 : pu_cok2 kX11_write_18 := fun rf r hr => by
  unfold kX11_write_18
  exact v_pi (v_iret)
theorem tX11_write_18 {X : pu_X} {r : pu_R} (hX : pu_H X mdX11_write) (hr : pu_P X.2.1 X.2.2.2.2.2.2.2.2.2.2.1 r) (hq : ∀ i pc, pu_lp i = some (164, pc) → pu_S X mdX11_write pc (r i)) : pu_S X mdX11_write 18 (kX11_write_18 r) := by
  unfold kX11_write_18
  exact z_iconst hX dX11_write_18 (by decide) (z_iret hX dX11_write_19 rfl)
def kX11_write_0 (r : pu_R) : pu_K := s_ild 2 (s_iflt (kX11_write_18 r) (s_ild 2 (s_push (.int (1)) (s_icgt (kX11_write_18 r) (s_ald 0 (s_ild 1 (s_ild 3 (s_cv r 146 2 11 (s_ifne (kX11_write_20 r) ((kX11_write_18 r)))))))))))
theorem vX11_write_0 : pu_cok2 kX11_write_0 := fun rf r hr => by
  unfold kX11_write_0
  exact v_ild (v_iflt (vX11_write_18 rf r hr) (v_ild (v_pi (v_icgt (vX11_write_18 rf r hr) (v_ald (v_ild (v_ild (v_cv hr (v_ifne (vX11_write_20 rf r hr) ((vX11_write_18 rf r hr)))))))))))
theorem tX11_write_0 {X : pu_X} {r : pu_R} (hX : pu_H X mdX11_write) (hr : pu_P X.2.1 X.2.2.2.2.2.2.2.2.2.2.1 r) (hq : ∀ i pc, pu_lp i = some (164, pc) → pu_S X mdX11_write pc (r i)) : pu_S X mdX11_write 0 (kX11_write_0 r) := by
  unfold kX11_write_0
  exact z_ild_n hX dX11_write_0 rfl (z_iflt hX dX11_write_1 (by decide) (tX11_write_18 hX hr hq) (z_ild_n hX dX11_write_4 rfl (z_iconst hX dX11_write_5 (by decide) (z_icgt hX dX11_write_6 (by decide) (tX11_write_18 hX hr hq) (z_ald_n hX dX11_write_9 rfl (z_ild_n hX dX11_write_10 rfl (z_ild_n hX dX11_write_11 rfl (z_cv (c := 11) hX hr dX11_write_12 hjX11_stands mwX11_stands rfl wm49_13 ⟨wm47_6, wm47_7⟩ ⟨Nat.le_of_ble_eq_true rfl, Nat.le_of_ble_eq_true rfl⟩ (z_ifne hX dX11_write_15 (by decide) (tX11_write_20 hX hr hq) ((tX11_write_18 hX hr hq)))))))))))
def kX7_readStreet_66 (r : pu_R) : pu_K := s_push (.int (0)) (s_zret)
theorem vX7_readStreet_66 : pu_cok2 kX7_readStreet_66 := fun rf r hr => by
  unfold kX7_readStreet_66
  exact v_pi (v_zret)
theorem tX7_readStreet_66 {X : pu_X} {r : pu_R} (hX : pu_H X mdX7_readStreet) (hr : pu_P X.2.1 X.2.2.2.2.2.2.2.2.2.2.1 r) (hq : ∀ i pc, pu_lp i = some (165, pc) → pu_S X mdX7_readStreet pc (r i)) : pu_S X mdX7_readStreet 66 (kX7_readStreet_66 r) := by
  unfold kX7_readStreet_66
  exact z_iconst hX dX7_readStreet_66 (by decide) (z_zret hX dX7_readStreet_67 rfl)
def kX7_readStreet_60 (r : pu_R) : pu_K := s_inc 1 (1) ((r 399))
theorem vX7_readStreet_60 : pu_cok2 kX7_readStreet_60 := fun rf r hr => by
  unfold kX7_readStreet_60
  exact v_inc ((hr 399))
theorem tX7_readStreet_60 {X : pu_X} {r : pu_R} (hX : pu_H X mdX7_readStreet) (hr : pu_P X.2.1 X.2.2.2.2.2.2.2.2.2.2.1 r) (hq : ∀ i pc, pu_lp i = some (165, pc) → pu_S X mdX7_readStreet pc (r i)) : pu_S X mdX7_readStreet 60 (kX7_readStreet_60 r) := by
  unfold kX7_readStreet_60
  exact z_inc hX dX7_readStreet_60 (by decide) ((z_goto hX dX7_readStreet_63 (by decide) (hq 399 10 hl399)))
def kX7_readStreet_47 (r : pu_R) : pu_K := s_ald 0 (s_push (.int (49)) (s_push (.int (57)) (s_cv r 23 2 7 (s_ifeq (kX7_readStreet_60 r) (s_push (.int (1)) (s_zret))))))
theorem vX7_readStreet_47 : pu_cok2 kX7_readStreet_47 := fun rf r hr => by
  unfold kX7_readStreet_47
  exact v_ald (v_pi (v_pi (v_cv hr (v_ifeq (vX7_readStreet_60 rf r hr) (v_pi (v_zret))))))
theorem tX7_readStreet_47 {X : pu_X} {r : pu_R} (hX : pu_H X mdX7_readStreet) (hr : pu_P X.2.1 X.2.2.2.2.2.2.2.2.2.2.1 r) (hq : ∀ i pc, pu_lp i = some (165, pc) → pu_S X mdX7_readStreet pc (r i)) : pu_S X mdX7_readStreet 47 (kX7_readStreet_47 r) := by
  unfold kX7_readStreet_47
  exact z_ald_n hX dX7_readStreet_47 rfl (z_bipush hX dX7_readStreet_48 (by decide) (z_bipush hX dX7_readStreet_50 (by decide) (z_cv (c := 7) hX hr dX7_readStreet_52 hjX7_isNext mwX7_isNext rfl wm13_7 ⟨wm13_8, wm13_9⟩ ⟨Nat.le_of_ble_eq_true rfl, Nat.le_of_ble_eq_true rfl⟩ (z_ifeq hX dX7_readStreet_55 (by decide) (tX7_readStreet_60 hX hr hq) (z_iconst hX dX7_readStreet_58 (by decide) (z_zret hX dX7_readStreet_59 rfl))))))
def kX7_readStreet_45 (r : pu_R) : pu_K := s_push (.int (0)) (s_zret)
theorem vX7_readStreet_45 : pu_cok2 kX7_readStreet_45 := fun rf r hr => by
  unfold kX7_readStreet_45
  exact v_pi (v_zret)
theorem tX7_readStreet_45 {X : pu_X} {r : pu_R} (hX : pu_H X mdX7_readStreet) (hr : pu_P X.2.1 X.2.2.2.2.2.2.2.2.2.2.1 r) (hq : ∀ i pc, pu_lp i = some (165, pc) → pu_S X mdX7_readStreet pc (r i)) : pu_S X mdX7_readStreet 45 (kX7_readStreet_45 r) := by
  unfold kX7_readStreet_45
  exact z_iconst hX dX7_readStreet_45 (by decide) (z_zret hX dX7_readStreet_46 rfl)
def kX7_readStreet_10 (r : pu_R) : pu_K := s_ild 1 (s_push (.int (3)) (s_icge (kX7_readStreet_66 r) (s_ald 0 (s_gr 7 0 (s_ild 1 (s_ald 0 (s_cv r 24 0 7 (s_wl (s_ald 0 (s_gr 7 0 (s_ild 1 (s_al (s_push (.long 0) (s_lcmp (s_ifeq (kX7_readStreet_45 r) (s_ald 0 (s_push (.int (32)) (s_cv r 25 1 7 (s_ifne (kX7_readStreet_47 r) ((kX7_readStreet_45 r)))))))))))))))))))))
theorem vX7_readStreet_10 : pu_cok2 kX7_readStreet_10 := fun rf r hr => by
  unfold kX7_readStreet_10
  exact v_ild (v_pi (v_icge (vX7_readStreet_66 rf r hr) (v_ald (v_gr (v_ild (v_ald (v_cv hr (v_wl (v_ald (v_gr (v_ild (v_al (v_pl (v_lcmp (v_ifeq (vX7_readStreet_45 rf r hr) (v_ald (v_pi (v_cv hr (v_ifne (vX7_readStreet_47 rf r hr) ((vX7_readStreet_45 rf r hr)))))))))))))))))))))
theorem tX7_readStreet_10 {X : pu_X} {r : pu_R} (hX : pu_H X mdX7_readStreet) (hr : pu_P X.2.1 X.2.2.2.2.2.2.2.2.2.2.1 r) (hq : ∀ i pc, pu_lp i = some (165, pc) → pu_S X mdX7_readStreet pc (r i)) : pu_S X mdX7_readStreet 10 (kX7_readStreet_10 r) := by
  unfold kX7_readStreet_10
  exact z_ild_n hX dX7_readStreet_10 rfl (z_iconst hX dX7_readStreet_11 (by decide) (z_icge hX dX7_readStreet_12 (by decide) (tX7_readStreet_66 hX hr hq) (z_ald_n hX dX7_readStreet_15 rfl (z_gr (c := 7) (j := 0) hX dX7_readStreet_16 rfl inlX7 wm6_23 ⟨rfl, by decide, rfl⟩ (z_ild_n hX dX7_readStreet_19 rfl (z_ald_n hX dX7_readStreet_20 rfl (z_cv (c := 7) hX hr dX7_readStreet_21 hjX7_readWord mwX7_readWord rfl wm13_1 ⟨wm13_2, wm13_3⟩ ⟨Nat.le_of_ble_eq_true rfl, Nat.le_of_ble_eq_true rfl⟩ (z_last hX dX7_readStreet_24 (z_ald_n hX dX7_readStreet_25 rfl (z_gr (c := 7) (j := 0) hX dX7_readStreet_26 rfl inlX7 wm6_23 ⟨rfl, by decide, rfl⟩ (z_ild_n hX dX7_readStreet_29 rfl (z_lald hX dX7_readStreet_30 (z_lconst hX dX7_readStreet_31 (by decide) (z_lcmp hX dX7_readStreet_32 (z_ifeq hX dX7_readStreet_33 (by decide) (tX7_readStreet_45 hX hr hq) (z_ald_n hX dX7_readStreet_36 rfl (z_bipush hX dX7_readStreet_37 (by decide) (z_cv (c := 7) hX hr dX7_readStreet_39 hjX7_readByte mwX7_readByte rfl wm13_11 ⟨wm13_12, wm13_13⟩ ⟨Nat.le_of_ble_eq_true rfl, Nat.le_of_ble_eq_true rfl⟩ (z_ifne hX dX7_readStreet_42 (by decide) (tX7_readStreet_47 hX hr hq) ((tX7_readStreet_45 hX hr hq)))))))))))))))))))))
def kX7_readStreet_0 (r : pu_R) : pu_K := s_ald 0 (s_gr 7 0 (s_push (.long 0) (s_cs r 22 2 (s_push (.int (0)) (s_ist 1 ((r 399)))))))
theorem vX7_readStreet_0 : pu_cok2 kX7_readStreet_0 := fun rf r hr => by
  unfold kX7_readStreet_0
  exact v_ald (v_gr (v_pl (v_cs hr (v_pi (v_ist ((hr 399)))))))
theorem tX7_readStreet_0 {X : pu_X} {r : pu_R} (hX : pu_H X mdX7_readStreet) (hr : pu_P X.2.1 X.2.2.2.2.2.2.2.2.2.2.1 r) (hq : ∀ i pc, pu_lp i = some (165, pc) → pu_S X mdX7_readStreet pc (r i)) : pu_S X mdX7_readStreet 0 (kX7_readStreet_0 r) := by
  unfold kX7_readStreet_0
  exact z_ald_n hX dX7_readStreet_0 rfl (z_gr (c := 7) (j := 0) hX dX7_readStreet_1 rfl inlX7 wm6_23 ⟨rfl, by decide, rfl⟩ (z_lconst hX dX7_readStreet_4 (by decide) (z_cs hX hr dX7_readStreet_5 hjJ7_fill_d0a16 mwJ7_fill_d0a16 wm12_21 wm12_22 ⟨Nat.le_of_ble_eq_true rfl, Nat.le_of_ble_eq_true rfl⟩ (z_iconst hX dX7_readStreet_8 (by decide) (z_ist_n hX dX7_readStreet_9 rfl ((hq 399 10 hl399)))))))
