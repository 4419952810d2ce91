def kX11_seekOldIn_256 (r : pu_R) : pu_K := s_vret
theorem vX11_seekOldIn_256 : pu_cok2 kX11_seekOldIn_256 := fun rf r hr => by
  unfold kX11_seekOldIn_256
  exact v_vret
theorem tX11_seekOldIn_256 {X : pu_X} {r : pu_R} (hX : pu_H X mdX11_seekOldIn) (hr : pu_P X.2.1 X.2.2.2.2.2.2.2.2.2.2.1 r) (hq : ∀ i pc, pu_lp i = some (188, pc) → pu_S X mdX11_seekOldIn pc (r i)) : pu_S X mdX11_seekOldIn 256 (kX11_seekOldIn_256 r) := by
  unfold kX11_seekOldIn_256
  exact z_vret hX dX11_seekOldIn_256 rfl
def kX11_seekOldIn_250 (r : pu_R) : pu_K := s_inc 5 (1) ((r 409))
theorem vX11_seekOldIn_250 : pu_cok2 kX11_seekOldIn_250 := fun rf r hr => by
  unfold kX11_seekOldIn_250
  exact v_inc ((hr 409))
theorem tX11_seekOldIn_250 {X : pu_X} {r : pu_R} (hX : pu_H X mdX11_seekOldIn) (hr : pu_P X.2.1 X.2.2.2.2.2.2.2.2.2.2.1 r) (hq : ∀ i pc, pu_lp i = some (188, pc) → pu_S X mdX11_seekOldIn pc (r i)) : pu_S X mdX11_seekOldIn 250 (kX11_seekOldIn_250 r) := by
  unfold kX11_seekOldIn_250
  exact z_inc hX dX11_seekOldIn_250 (by decide) ((z_goto hX dX11_seekOldIn_253 (by decide) (hq 409 54 hl409)))
def kX11_seekOldIn_216 (r : pu_R) : pu_K := s_ild 5 (s_ai 1 (s_cv r 148 1 6 (s_min (s_ist 8 (s_ald 0 (s_ald 0 (s_gr 11 2 (s_gr 5 1 (s_gr 4 1 (s_ild 5 (s_ai 1 (s_push (.int (2)) (s_idiv (s_ild 7 (s_ild 8 (s_cv r 187 3 11 ((kX11_seekOldIn_250 r))))))))))))))))))
theorem vX11_seekOldIn_216 : pu_cok2 kX11_seekOldIn_216 := fun rf r hr => by
  unfold kX11_seekOldIn_216
  exact v_ild (v_ai (v_cv hr (v_min (v_ist (v_ald (v_ald (v_gr (v_gr (v_gr (v_ild (v_ai (v_pi (v_idiv (v_ild (v_ild (v_cv hr ((vX11_seekOldIn_250 rf r hr))))))))))))))))))
theorem tX11_seekOldIn_216 {X : pu_X} {r : pu_R} (hX : pu_H X mdX11_seekOldIn) (hr : pu_P X.2.1 X.2.2.2.2.2.2.2.2.2.2.1 r) (hq : ∀ i pc, pu_lp i = some (188, pc) → pu_S X mdX11_seekOldIn pc (r i)) : pu_S X mdX11_seekOldIn 216 (kX11_seekOldIn_216 r) := by
  unfold kX11_seekOldIn_216
  exact z_ild hX dX11_seekOldIn_216 (z_iald hX dX11_seekOldIn_218 (z_cv (c := 6) hX hr dX11_seekOldIn_219 hjX6_endOf mwX6_endOf rfl wm48_19 ⟨wm48_20, wm48_21⟩ ⟨Nat.le_of_ble_eq_true rfl, Nat.le_of_ble_eq_true rfl⟩ (z_min hX dX11_seekOldIn_222 ⟨wm42_1, wm19_23, wm18_13, wm20_0⟩ ⟨Nat.le_of_ble_eq_true rfl, Nat.le_of_ble_eq_true rfl⟩ (z_ist hX dX11_seekOldIn_225 (z_ald_n hX dX11_seekOldIn_227 rfl (z_ald_n hX dX11_seekOldIn_228 rfl (z_gr (c := 11) (j := 2) hX dX11_seekOldIn_229 rfl inlX11 wm1_20 ⟨rfl, by decide, rfl⟩ (z_gr (c := 5) (j := 1) hX dX11_seekOldIn_232 rfl inlX5 wm21_22 ⟨rfl, by decide, rfl⟩ (z_gr (c := 4) (j := 1) hX dX11_seekOldIn_235 rfl inlX4 wm62_15 ⟨rfl, by decide, rfl⟩ (z_ild hX dX11_seekOldIn_238 (z_iald hX dX11_seekOldIn_240 (z_iconst hX dX11_seekOldIn_241 (by decide) (z_idiv hX dX11_seekOldIn_242 (z_ild hX dX11_seekOldIn_243 (z_ild hX dX11_seekOldIn_245 (z_cv (c := 11) hX hr dX11_seekOldIn_247 hjX11_seekOldAt mwX11_seekOldAt rfl wm62_17 ⟨wm62_18, wm62_19⟩ ⟨Nat.le_of_ble_eq_true rfl, Nat.le_of_ble_eq_true rfl⟩ ((tX11_seekOldIn_250 hX hr hq))))))))))))))))))
def kX11_seekOldIn_161 (r : pu_R) : pu_K := s_ist 6 (s_ild 6 (s_ifeq (kX11_seekOldIn_250 r) (s_ild 3 (s_ald 0 (s_gr 11 2 (s_gr 5 0 (s_ald 0 (s_gr 11 2 (s_gr 5 1 (s_gr 4 3 (s_ild 5 (s_ai 1 (s_cv r 47 1 6 (s_max (s_ist 7 (s_ild 4 (s_ald 0 (s_gr 11 2 (s_gr 5 0 (s_ald 0 (s_gr 11 2 (s_gr 5 1 (s_gr 4 4 ((kX11_seekOldIn_216 r)))))))))))))))))))))))))
theorem vX11_seekOldIn_161 : pu_cok2 kX11_seekOldIn_161 := fun rf r hr => by
  unfold kX11_seekOldIn_161
  exact v_ist (v_ild (v_ifeq (vX11_seekOldIn_250 rf r hr) (v_ild (v_ald (v_gr (v_gr (v_ald (v_gr (v_gr (v_gr (v_ild (v_ai (v_cv hr (v_max (v_ist (v_ild (v_ald (v_gr (v_gr (v_ald (v_gr (v_gr (v_gr ((vX11_seekOldIn_216 rf r hr)))))))))))))))))))))))))
theorem tX11_seekOldIn_161 {X : pu_X} {r : pu_R} (hX : pu_H X mdX11_seekOldIn) (hr : pu_P X.2.1 X.2.2.2.2.2.2.2.2.2.2.1 r) (hq : ∀ i pc, pu_lp i = some (188, pc) → pu_S X mdX11_seekOldIn pc (r i)) : pu_S X mdX11_seekOldIn 161 (kX11_seekOldIn_161 r) := by
  unfold kX11_seekOldIn_161
  exact z_ist hX dX11_seekOldIn_161 (z_ild hX dX11_seekOldIn_163 (z_ifeq hX dX11_seekOldIn_165 (by decide) (tX11_seekOldIn_250 hX hr hq) (z_ild_n hX dX11_seekOldIn_168 rfl (z_ald_n hX dX11_seekOldIn_169 rfl (z_gr (c := 11) (j := 2) hX dX11_seekOldIn_170 rfl inlX11 wm1_20 ⟨rfl, by decide, rfl⟩ (z_gr (c := 5) (j := 0) hX dX11_seekOldIn_173 rfl inlX5 wm10_19 ⟨rfl, by decide, rfl⟩ (z_ald_n hX dX11_seekOldIn_176 rfl (z_gr (c := 11) (j := 2) hX dX11_seekOldIn_177 rfl inlX11 wm1_20 ⟨rfl, by decide, rfl⟩ (z_gr (c := 5) (j := 1) hX dX11_seekOldIn_180 rfl inlX5 wm21_22 ⟨rfl, by decide, rfl⟩ (z_gr (c := 4) (j := 3) hX dX11_seekOldIn_183 rfl inlX4 wm48_11 ⟨rfl, by decide, rfl⟩ (z_ild hX dX11_seekOldIn_186 (z_iald hX dX11_seekOldIn_188 (z_cv (c := 6) hX hr dX11_seekOldIn_189 hjX6_startOf mwX6_startOf rfl wm48_18 ⟨wm18_21, wm18_22⟩ ⟨Nat.le_of_ble_eq_true rfl, Nat.le_of_ble_eq_true rfl⟩ (z_max hX dX11_seekOldIn_192 ⟨wm32_13, wm18_12, wm18_13, wm18_14⟩ ⟨Nat.le_of_ble_eq_true rfl, Nat.le_of_ble_eq_true rfl⟩ (z_ist hX dX11_seekOldIn_195 (z_ild hX dX11_seekOldIn_197 (z_ald_n hX dX11_seekOldIn_199 rfl (z_gr (c := 11) (j := 2) hX dX11_seekOldIn_200 rfl inlX11 wm1_20 ⟨rfl, by decide, rfl⟩ (z_gr (c := 5) (j := 0) hX dX11_seekOldIn_203 rfl inlX5 wm10_19 ⟨rfl, by decide, rfl⟩ (z_ald_n hX dX11_seekOldIn_206 rfl (z_gr (c := 11) (j := 2) hX dX11_seekOldIn_207 rfl inlX11 wm1_20 ⟨rfl, by decide, rfl⟩ (z_gr (c := 5) (j := 1) hX dX11_seekOldIn_210 rfl inlX5 wm21_22 ⟨rfl, by decide, rfl⟩ (z_gr (c := 4) (j := 4) hX dX11_seekOldIn_213 rfl inlX4 wm38_10 ⟨rfl, by decide, rfl⟩ ((tX11_seekOldIn_216 hX hr hq)))))))))))))))))))))))))
def kX11_seekOldIn_160 (r : pu_R) : pu_K := s_push (.int (0)) ((kX11_seekOldIn_161 r))
theorem vX11_seekOldIn_160 : pu_cok2 kX11_seekOldIn_160 := fun rf r hr => by
  unfold kX11_seekOldIn_160
  exact v_pi ((vX11_seekOldIn_161 rf r hr))
theorem tX11_seekOldIn_160 {X : pu_X} {r : pu_R} (hX : pu_H X mdX11_seekOldIn) (hr : pu_P X.2.1 X.2.2.2.2.2.2.2.2.2.2.1 r) (hq : ∀ i pc, pu_lp i = some (188, pc) → pu_S X mdX11_seekOldIn pc (r i)) : pu_S X mdX11_seekOldIn 160 (kX11_seekOldIn_160 r) := by
  unfold kX11_seekOldIn_160
  exact z_iconst hX dX11_seekOldIn_160 (by decide) ((tX11_seekOldIn_161 hX hr hq))
def kX11_seekOldIn_111 (r : pu_R) : pu_K := s_ai 1 (s_cv r 66 1 2 (s_ald 0 (s_gr 11 2 (s_gr 5 2 (s_gr 3 1 (s_ild 1 (s_ai 1 (s_icne (kX11_seekOldIn_160 r) (s_ald 0 (s_gr 11 2 (s_gr 5 0 (s_ald 0 (s_gr 11 2 (s_gr 5 1 (s_gr 4 3 (s_ild 5 (s_ai 1 (s_cv r 67 1 6 (s_ifeq (kX11_seekOldIn_160 r) (s_push (.int (1)) ((kX11_seekOldIn_161 r))))))))))))))))))))))
theorem vX11_seekOldIn_111 : pu_cok2 kX11_seekOldIn_111 := fun rf r hr => by
  unfold kX11_seekOldIn_111
  exact v_ai (v_cv hr (v_ald (v_gr (v_gr (v_gr (v_ild (v_ai (v_icne (vX11_seekOldIn_160 rf r hr) (v_ald (v_gr (v_gr (v_ald (v_gr (v_gr (v_gr (v_ild (v_ai (v_cv hr (v_ifeq (vX11_seekOldIn_160 rf r hr) (v_pi ((vX11_seekOldIn_161 rf r hr))))))))))))))))))))))
theorem tX11_seekOldIn_111 {X : pu_X} {r : pu_R} (hX : pu_H X mdX11_seekOldIn) (hr : pu_P X.2.1 X.2.2.2.2.2.2.2.2.2.2.1 r) (hq : ∀ i pc, pu_lp i = some (188, pc) → pu_S X mdX11_seekOldIn pc (r i)) : pu_S X mdX11_seekOldIn 111 (kX11_seekOldIn_111 r) := by
  unfold kX11_seekOldIn_111
  exact z_iald hX dX11_seekOldIn_111 (z_cv (c := 2) hX hr dX11_seekOldIn_112 hjX2_streetOf mwX2_streetOf rfl wm32_22 ⟨wm24_7, wm24_8⟩ ⟨Nat.le_of_ble_eq_true rfl, Nat.le_of_ble_eq_true rfl⟩ (z_ald_n hX dX11_seekOldIn_115 rfl (z_gr (c := 11) (j := 2) hX dX11_seekOldIn_116 rfl inlX11 wm1_20 ⟨rfl, by decide, rfl⟩ (z_gr (c := 5) (j := 2) hX dX11_seekOldIn_119 rfl inlX5 wm16_7 ⟨rfl, by decide, rfl⟩ (z_gr (c := 3) (j := 1) hX dX11_seekOldIn_122 rfl inlX3 wm62_16 ⟨rfl, by decide, rfl⟩ (z_ild_n hX dX11_seekOldIn_125 rfl (z_iald hX dX11_seekOldIn_126 (z_icne hX dX11_seekOldIn_127 (by decide) (tX11_seekOldIn_160 hX hr hq) (z_ald_n hX dX11_seekOldIn_130 rfl (z_gr (c := 11) (j := 2) hX dX11_seekOldIn_131 rfl inlX11 wm1_20 ⟨rfl, by decide, rfl⟩ (z_gr (c := 5) (j := 0) hX dX11_seekOldIn_134 rfl inlX5 wm10_19 ⟨rfl, by decide, rfl⟩ (z_ald_n hX dX11_seekOldIn_137 rfl (z_gr (c := 11) (j := 2) hX dX11_seekOldIn_138 rfl inlX11 wm1_20 ⟨rfl, by decide, rfl⟩ (z_gr (c := 5) (j := 1) hX dX11_seekOldIn_141 rfl inlX5 wm21_22 ⟨rfl, by decide, rfl⟩ (z_gr (c := 4) (j := 3) hX dX11_seekOldIn_144 rfl inlX4 wm48_11 ⟨rfl, by decide, rfl⟩ (z_ild hX dX11_seekOldIn_147 (z_iald hX dX11_seekOldIn_149 (z_cv (c := 6) hX hr dX11_seekOldIn_150 hjX6_isThere mwX6_isThere rfl wm62_9 ⟨wm24_22, wm24_23⟩ ⟨Nat.le_of_ble_eq_true rfl, Nat.le_of_ble_eq_true rfl⟩ (z_ifeq hX dX11_seekOldIn_153 (by decide) (tX11_seekOldIn_160 hX hr hq) (z_iconst hX dX11_seekOldIn_156 (by decide) ((z_goto hX dX11_seekOldIn_157 (by decide) (tX11_seekOldIn_161 hX hr hq)))))))))))))))))))))))
def kX11_seekOldIn_54 (r : pu_R) : pu_K := s_ild 5 (s_ald 0 (s_gr 11 2 (s_gr 5 1 (s_gi 4 0 (s_icge (kX11_seekOldIn_256 r) (s_ald 0 (s_gr 11 2 (s_gr 5 1 (s_gr 4 2 (s_ild 5 (s_ai 1 (s_ald 0 (s_gr 11 4 (s_gi 7 2 (s_icne (kX11_seekOldIn_160 r) (s_ald 0 (s_gr 11 2 (s_gr 5 4 (s_ald 0 (s_gr 11 2 (s_gr 5 1 (s_gr 4 1 (s_ild 5 ((kX11_seekOldIn_111 r)))))))))))))))))))))))))
theorem vX11_seekOldIn_54 : pu_cok2 kX11_seekOldIn_54 := fun rf r hr => by
  unfold kX11_seekOldIn_54
  exact v_ild (v_ald (v_gr (v_gr (v_gi (v_icge (vX11_seekOldIn_256 rf r hr) (v_ald (v_gr (v_gr (v_gr (v_ild (v_ai (v_ald (v_gr (v_gi (v_icne (vX11_seekOldIn_160 rf r hr) (v_ald (v_gr (v_gr (v_ald (v_gr (v_gr (v_gr (v_ild ((vX11_seekOldIn_111 rf r hr)))))))))))))))))))))))))
theorem tX11_seekOldIn_54 {X : pu_X} {r : pu_R} (hX : pu_H X mdX11_seekOldIn) (hr : pu_P X.2.1 X.2.2.2.2.2.2.2.2.2.2.1 r) (hq : ∀ i pc, pu_lp i = some (188, pc) → pu_S X mdX11_seekOldIn pc (r i)) : pu_S X mdX11_seekOldIn 54 (kX11_seekOldIn_54 r) := by
  unfold kX11_seekOldIn_54
  exact z_ild hX dX11_seekOldIn_54 (z_ald_n hX dX11_seekOldIn_56 rfl (z_gr (c := 11) (j := 2) hX dX11_seekOldIn_57 rfl inlX11 wm1_20 ⟨rfl, by decide, rfl⟩ (z_gr (c := 5) (j := 1) hX dX11_seekOldIn_60 rfl inlX5 wm21_22 ⟨rfl, by decide, rfl⟩ (z_gi (c := 4) (j := 0) hX dX11_seekOldIn_63 rfl inlX4 wm62_14 ⟨rfl, by decide, rfl⟩ (z_icge hX dX11_seekOldIn_66 (by decide) (tX11_seekOldIn_256 hX hr hq) (z_ald_n hX dX11_seekOldIn_69 rfl (z_gr (c := 11) (j := 2) hX dX11_seekOldIn_70 rfl inlX11 wm1_20 ⟨rfl, by decide, rfl⟩ (z_gr (c := 5) (j := 1) hX dX11_seekOldIn_73 rfl inlX5 wm21_22 ⟨rfl, by decide, rfl⟩ (z_gr (c := 4) (j := 2) hX dX11_seekOldIn_76 rfl inlX4 wm48_10 ⟨rfl, by decide, rfl⟩ (z_ild hX dX11_seekOldIn_79 (z_iald hX dX11_seekOldIn_81 (z_ald_n hX dX11_seekOldIn_82 rfl (z_gr (c := 11) (j := 4) hX dX11_seekOldIn_83 rfl inlX11 wm2_1 ⟨rfl, by decide, rfl⟩ (z_gi (c := 7) (j := 2) hX dX11_seekOldIn_86 rfl inlX7 wm54_2 ⟨rfl, by decide, rfl⟩ (z_icne hX dX11_seekOldIn_89 (by decide) (tX11_seekOldIn_160 hX hr hq) (z_ald_n hX dX11_seekOldIn_92 rfl (z_gr (c := 11) (j := 2) hX dX11_seekOldIn_93 rfl inlX11 wm1_20 ⟨rfl, by decide, rfl⟩ (z_gr (c := 5) (j := 4) hX dX11_seekOldIn_96 rfl inlX5 wm21_20 ⟨rfl, by decide, rfl⟩ (z_ald_n hX dX11_seekOldIn_99 rfl (z_gr (c := 11) (j := 2) hX dX11_seekOldIn_100 rfl inlX11 wm1_20 ⟨rfl, by decide, rfl⟩ (z_gr (c := 5) (j := 1) hX dX11_seekOldIn_103 rfl inlX5 wm21_22 ⟨rfl, by decide, rfl⟩ (z_gr (c := 4) (j := 1) hX dX11_seekOldIn_106 rfl inlX4 wm62_15 ⟨rfl, by decide, rfl⟩ (z_ild hX dX11_seekOldIn_109 ((tX11_seekOldIn_111 hX hr hq)))))))))))))))))))))))))
def kX11_seekOldIn_51 (r : pu_R) : pu_K := s_push (.int (0)) (s_ist 5 ((r 409)))
theorem vX11_seekOldIn_51 : pu_cok2 kX11_seekOldIn_51 := fun rf r hr => by
  unfold kX11_seekOldIn_51
  exact v_pi (v_ist ((hr 409)))
theorem tX11_seekOldIn_51 {X : pu_X} {r : pu_R} (hX : pu_H X mdX11_seekOldIn) (hr : pu_P X.2.1 X.2.2.2.2.2.2.2.2.2.2.1 r) (hq : ∀ i pc, pu_lp i = some (188, pc) → pu_S X mdX11_seekOldIn pc (r i)) : pu_S X mdX11_seekOldIn 51 (kX11_seekOldIn_51 r) := by
  unfold kX11_seekOldIn_51
  exact z_iconst hX dX11_seekOldIn_51 (by decide) (z_ist hX dX11_seekOldIn_52 ((hq 409 54 hl409)))
def kX11_seekOldIn_0 (r : pu_R) : pu_K := s_ald 0 (s_gr 11 2 (s_gr 5 0 (s_ald 0 (s_gr 11 2 (s_gr 5 2 (s_gr 3 3 (s_ild 1 (s_ai 1 (s_cv r 47 1 6 (s_ist 3 (s_ild 2 (s_ald 0 (s_gr 11 2 (s_gr 5 0 (s_ald 0 (s_gr 11 2 (s_gr 5 2 (s_gr 3 4 (s_ild 1 (s_ai 1 (s_cv r 148 1 6 (s_min (s_ist 4 ((kX11_seekOldIn_51 r)))))))))))))))))))))))))
theorem vX11_seekOldIn_0 : pu_cok2 kX11_seekOldIn_0 := fun rf r hr => by
  unfold kX11_seekOldIn_0
  exact v_ald (v_gr (v_gr (v_ald (v_gr (v_gr (v_gr (v_ild (v_ai (v_cv hr (v_ist (v_ild (v_ald (v_gr (v_gr (v_ald (v_gr (v_gr (v_gr (v_ild (v_ai (v_cv hr (v_min (v_ist ((vX11_seekOldIn_51 rf r hr)))))))))))))))))))))))))
theorem tX11_seekOldIn_0 {X : pu_X} {r : pu_R} (hX : pu_H X mdX11_seekOldIn) (hr : pu_P X.2.1 X.2.2.2.2.2.2.2.2.2.2.1 r) (hq : ∀ i pc, pu_lp i = some (188, pc) → pu_S X mdX11_seekOldIn pc (r i)) : pu_S X mdX11_seekOldIn 0 (kX11_seekOldIn_0 r) := by
  unfold kX11_seekOldIn_0
  exact z_ald_n hX dX11_seekOldIn_0 rfl (z_gr (c := 11) (j := 2) hX dX11_seekOldIn_1 rfl inlX11 wm1_20 ⟨rfl, by decide, rfl⟩ (z_gr (c := 5) (j := 0) hX dX11_seekOldIn_4 rfl inlX5 wm10_19 ⟨rfl, by decide, rfl⟩ (z_ald_n hX dX11_seekOldIn_7 rfl (z_gr (c := 11) (j := 2) hX dX11_seekOldIn_8 rfl inlX11 wm1_20 ⟨rfl, by decide, rfl⟩ (z_gr (c := 5) (j := 2) hX dX11_seekOldIn_11 rfl inlX5 wm16_7 ⟨rfl, by decide, rfl⟩ (z_gr (c := 3) (j := 3) hX dX11_seekOldIn_14 rfl inlX3 wm62_7 ⟨rfl, by decide, rfl⟩ (z_ild_n hX dX11_seekOldIn_17 rfl (z_iald hX dX11_seekOldIn_18 (z_cv (c := 6) hX hr dX11_seekOldIn_19 hjX6_startOf mwX6_startOf rfl wm48_18 ⟨wm18_21, wm18_22⟩ ⟨Nat.le_of_ble_eq_true rfl, Nat.le_of_ble_eq_true rfl⟩ (z_ist_n hX dX11_seekOldIn_22 rfl (z_ild_n hX dX11_seekOldIn_23 rfl (z_ald_n hX dX11_seekOldIn_24 rfl (z_gr (c := 11) (j := 2) hX dX11_seekOldIn_25 rfl inlX11 wm1_20 ⟨rfl, by decide, rfl⟩ (z_gr (c := 5) (j := 0) hX dX11_seekOldIn_28 rfl inlX5 wm10_19 ⟨rfl, by decide, rfl⟩ (z_ald_n hX dX11_seekOldIn_31 rfl (z_gr (c := 11) (j := 2) hX dX11_seekOldIn_32 rfl inlX11 wm1_20 ⟨rfl, by decide, rfl⟩ (z_gr (c := 5) (j := 2) hX dX11_seekOldIn_35 rfl inlX5 wm16_7 ⟨rfl, by decide, rfl⟩ (z_gr (c := 3) (j := 4) hX dX11_seekOldIn_38 rfl inlX3 wm39_10 ⟨rfl, by decide, rfl⟩ (z_ild_n hX dX11_seekOldIn_41 rfl (z_iald hX dX11_seekOldIn_42 (z_cv (c := 6) hX hr dX11_seekOldIn_43 hjX6_endOf mwX6_endOf rfl wm48_19 ⟨wm48_20, wm48_21⟩ ⟨Nat.le_of_ble_eq_true rfl, Nat.le_of_ble_eq_true rfl⟩ (z_min hX dX11_seekOldIn_46 ⟨wm42_1, wm19_23, wm18_13, wm20_0⟩ ⟨Nat.le_of_ble_eq_true rfl, Nat.le_of_ble_eq_true rfl⟩ (z_ist hX dX11_seekOldIn_49 ((tX11_seekOldIn_51 hX hr hq)))))))))))))))))))))))))
def kX11_seekOld_103 (r : pu_R) : pu_K := s_vret
theorem vX11_seekOld_103 : pu_cok2 kX11_seekOld_103 := fun rf r hr => by
  unfold kX11_seekOld_103
  exact v_vret
theorem tX11_seekOld_103 {X : pu_X} {r : pu_R} (hX : pu_H X mdX11_seekOld) (hr : pu_P X.2.1 X.2.2.2.2.2.2.2.2.2.2.1 r) (hq : ∀ i pc, pu_lp i = some (189, pc) → pu_S X mdX11_seekOld pc (r i)) : pu_S X mdX11_seekOld 103 (kX11_seekOld_103 r) := by
  unfold kX11_seekOld_103
  exact z_vret hX dX11_seekOld_103 rfl
def kX11_seekOld_97 (r : pu_R) : pu_K := s_inc 3 (1) ((r 410))
theorem vX11_seekOld_97 : pu_cok2 kX11_seekOld_97 := fun rf r hr => by
  unfold kX11_seekOld_97
  exact v_inc ((hr 410))
theorem tX11_seekOld_97 {X : pu_X} {r : pu_R} (hX : pu_H X mdX11_seekOld) (hr : pu_P X.2.1 X.2.2.2.2.2.2.2.2.2.2.1 r) (hq : ∀ i pc, pu_lp i = some (189, pc) → pu_S X mdX11_seekOld pc (r i)) : pu_S X mdX11_seekOld 97 (kX11_seekOld_97 r) := by
  unfold kX11_seekOld_97
  exact z_inc hX dX11_seekOld_97 (by decide) ((z_goto hX dX11_seekOld_100 (by decide) (hq 410 30 hl410)))
def kX11_seekOld_84 (r : pu_R) : pu_K := s_ai 1 (s_cv r 67 1 6 (s_ifeq (kX11_seekOld_97 r) (s_ald 0 (s_ild 3 (s_ild 1 (s_cv r 188 2 11 ((kX11_seekOld_97 r))))))))
theorem vX11_seekOld_84 : pu_cok2 kX11_seekOld_84 := fun rf r hr => by
  unfold kX11_seekOld_84
  exact v_ai (v_cv hr (v_ifeq (vX11_seekOld_97 rf r hr) (v_ald (v_ild (v_ild (v_cv hr ((vX11_seekOld_97 rf r hr))))))))
theorem tX11_seekOld_84 {X : pu_X} {r : pu_R} (hX : pu_H X mdX11_seekOld) (hr : pu_P X.2.1 X.2.2.2.2.2.2.2.2.2.2.1 r) (hq : ∀ i pc, pu_lp i = some (189, pc) → pu_S X mdX11_seekOld pc (r i)) : pu_S X mdX11_seekOld 84 (kX11_seekOld_84 r) := by
  unfold kX11_seekOld_84
  exact z_iald hX dX11_seekOld_84 (z_cv (c := 6) hX hr dX11_seekOld_85 hjX6_isThere mwX6_isThere rfl wm62_9 ⟨wm24_22, wm24_23⟩ ⟨Nat.le_of_ble_eq_true rfl, Nat.le_of_ble_eq_true rfl⟩ (z_ifeq hX dX11_seekOld_88 (by decide) (tX11_seekOld_97 hX hr hq) (z_ald_n hX dX11_seekOld_91 rfl (z_ild_n hX dX11_seekOld_92 rfl (z_ild_n hX dX11_seekOld_93 rfl (z_cv (c := 11) hX hr dX11_seekOld_94 hjX11_seekOldIn mwX11_seekOldIn rfl wm62_10 ⟨wm62_11, wm62_12⟩ ⟨Nat.le_of_ble_eq_true rfl, Nat.le_of_ble_eq_true rfl⟩ ((tX11_seekOld_97 hX hr hq))))))))
def kX11_seekOld_30 (r : pu_R) : pu_K := s_ild 3 (s_ald 0 (s_gr 11 2 (s_gr 5 2 (s_gi 3 0 (s_icge (kX11_seekOld_103 r) (s_ald 0 (s_gr 11 2 (s_gr 5 2 (s_ild 3 (s_ald 0 (s_gr 11 4 (s_gr 7 0 (s_ild 2 (s_cv r 48 3 3 (s_ifeq (kX11_seekOld_97 r) (s_ald 0 (s_gr 11 2 (s_gr 5 0 (s_ald 0 (s_gr 11 2 (s_gr 5 2 (s_gr 3 3 (s_ild 3 ((kX11_seekOld_84 r)))))))))))))))))))))))))
theorem vX11_seekOld_30 : pu_cok2 kX11_seekOld_30 := fun rf r hr => by
  unfold kX11_seekOld_30
  exact v_ild (v_ald (v_gr (v_gr (v_gi (v_icge (vX11_seekOld_103 rf r hr) (v_ald (v_gr (v_gr (v_ild (v_ald (v_gr (v_gr (v_ild (v_cv hr (v_ifeq (vX11_seekOld_97 rf r hr) (v_ald (v_gr (v_gr (v_ald (v_gr (v_gr (v_gr (v_ild ((vX11_seekOld_84 rf r hr)))))))))))))))))))))))))
theorem tX11_seekOld_30 {X : pu_X} {r : pu_R} (hX : pu_H X mdX11_seekOld) (hr : pu_P X.2.1 X.2.2.2.2.2.2.2.2.2.2.1 r) (hq : ∀ i pc, pu_lp i = some (189, pc) → pu_S X mdX11_seekOld pc (r i)) : pu_S X mdX11_seekOld 30 (kX11_seekOld_30 r) := by
  unfold kX11_seekOld_30
  exact z_ild_n hX dX11_seekOld_30 rfl (z_ald_n hX dX11_seekOld_31 rfl (z_gr (c := 11) (j := 2) hX dX11_seekOld_32 rfl inlX11 wm1_20 ⟨rfl, by decide, rfl⟩ (z_gr (c := 5) (j := 2) hX dX11_seekOld_35 rfl inlX5 wm16_7 ⟨rfl, by decide, rfl⟩ (z_gi (c := 3) (j := 0) hX dX11_seekOld_38 rfl inlX3 wm62_6 ⟨rfl, by decide, rfl⟩ (z_icge hX dX11_seekOld_41 (by decide) (tX11_seekOld_103 hX hr hq) (z_ald_n hX dX11_seekOld_44 rfl (z_gr (c := 11) (j := 2) hX dX11_seekOld_45 rfl inlX11 wm1_20 ⟨rfl, by decide, rfl⟩ (z_gr (c := 5) (j := 2) hX dX11_seekOld_48 rfl inlX5 wm16_7 ⟨rfl, by decide, rfl⟩ (z_ild_n hX dX11_seekOld_51 rfl (z_ald_n hX dX11_seekOld_52 rfl (z_gr (c := 11) (j := 4) hX dX11_seekOld_53 rfl inlX11 wm2_1 ⟨rfl, by decide, rfl⟩ (z_gr (c := 7) (j := 0) hX dX11_seekOld_56 rfl inlX7 wm11_23 ⟨rfl, by decide, rfl⟩ (z_ild_n hX dX11_seekOld_59 rfl (z_cv (c := 3) hX hr dX11_seekOld_60 hjX3_isNamed mwX3_isNamed rfl wm62_8 ⟨wm19_6, wm19_7⟩ ⟨Nat.le_of_ble_eq_true rfl, Nat.le_of_ble_eq_true rfl⟩ (z_ifeq hX dX11_seekOld_63 (by decide) (tX11_seekOld_97 hX hr hq) (z_ald_n hX dX11_seekOld_66 rfl (z_gr (c := 11) (j := 2) hX dX11_seekOld_67 rfl inlX11 wm1_20 ⟨rfl, by decide, rfl⟩ (z_gr (c := 5) (j := 0) hX dX11_seekOld_70 rfl inlX5 wm10_19 ⟨rfl, by decide, rfl⟩ (z_ald_n hX dX11_seekOld_73 rfl (z_gr (c := 11) (j := 2) hX dX11_seekOld_74 rfl inlX11 wm1_20 ⟨rfl, by decide, rfl⟩ (z_gr (c := 5) (j := 2) hX dX11_seekOld_77 rfl inlX5 wm16_7 ⟨rfl, by decide, rfl⟩ (z_gr (c := 3) (j := 3) hX dX11_seekOld_80 rfl inlX3 wm62_7 ⟨rfl, by decide, rfl⟩ (z_ild_n hX dX11_seekOld_83 rfl ((tX11_seekOld_84 hX hr hq)))))))))))))))))))))))))
def kX11_seekOld_0 (r : pu_R) : pu_K := s_ald 0 (s_push (.int (-1)) (s_pi 11 8 (s_ald 0 (s_push (.int (-1)) (s_pi 11 9 (s_ald 0 (s_gr 11 2 (s_gr 5 3 (s_ald 0 (s_gr 11 4 (s_gr 7 1 (s_cv r 33 1 10 (s_ist 2 (s_push (.int (0)) (s_ist 3 ((r 410)))))))))))))))))
theorem vX11_seekOld_0 : pu_cok2 kX11_seekOld_0 := fun rf r hr => by
  unfold kX11_seekOld_0
  exact v_ald (v_pi (v_puti (v_ald (v_pi (v_puti (v_ald (v_gr (v_gr (v_ald (v_gr (v_gr (v_cv hr (v_ist (v_pi (v_ist ((hr 410)))))))))))))))))
theorem tX11_seekOld_0 {X : pu_X} {r : pu_R} (hX : pu_H X mdX11_seekOld) (hr : pu_P X.2.1 X.2.2.2.2.2.2.2.2.2.2.1 r) (hq : ∀ i pc, pu_lp i = some (189, pc) → pu_S X mdX11_seekOld pc (r i)) : pu_S X mdX11_seekOld 0 (kX11_seekOld_0 r) := by
  unfold kX11_seekOld_0
  exact z_ald_n hX dX11_seekOld_0 rfl (z_iconst hX dX11_seekOld_1 (by decide) (z_pi (c := 11) (j := 8) tyX11 tyX11_ok nmX11 hX dX11_seekOld_2 rfl inlX11 wm2_9 ⟨rfl, by decide⟩ ⟨rfl, rfl⟩ rfl (z_ald_n hX dX11_seekOld_5 rfl (z_iconst hX dX11_seekOld_6 (by decide) (z_pi (c := 11) (j := 9) tyX11 tyX11_ok nmX11 hX dX11_seekOld_7 rfl inlX11 wm2_10 ⟨rfl, by decide⟩ ⟨rfl, rfl⟩ rfl (z_ald_n hX dX11_seekOld_10 rfl (z_gr (c := 11) (j := 2) hX dX11_seekOld_11 rfl inlX11 wm1_20 ⟨rfl, by decide, rfl⟩ (z_gr (c := 5) (j := 3) hX dX11_seekOld_14 rfl inlX5 wm11_22 ⟨rfl, by decide, rfl⟩ (z_ald_n hX dX11_seekOld_17 rfl (z_gr (c := 11) (j := 4) hX dX11_seekOld_18 rfl inlX11 wm2_1 ⟨rfl, by decide, rfl⟩ (z_gr (c := 7) (j := 1) hX dX11_seekOld_21 rfl inlX7 wm55_18 ⟨rfl, by decide, rfl⟩ (z_cv (c := 10) hX hr dX11_seekOld_24 hjX10_townNamed mwX10_townNamed rfl wm14_3 ⟨wm14_4, wm14_5⟩ ⟨Nat.le_of_ble_eq_true rfl, Nat.le_of_ble_eq_true rfl⟩ (z_ist_n hX dX11_seekOld_27 rfl (z_iconst hX dX11_seekOld_28 (by decide) (z_ist_n hX dX11_seekOld_29 rfl ((hq 410 30 hl410)))))))))))))))))
def kX11_call_45 (r : pu_R) : pu_K := s_ald 0 (s_gr 11 2 (s_gr 5 6 (s_ald 0 (s_gi 11 8 (s_push (.int (1)) (s_iadd (s_pi 1 1 (s_push (.int (-100)) (s_ald 0 (s_gi 11 9 (s_isub (s_iret))))))))))))
theorem vX11_call_45 : pu_cok2 kX11_call_45 := fun rf r hr => by
  unfold kX11_call_45
  exact v_ald (v_gr (v_gr (v_ald (v_gi (v_pi (v_iadd (v_puti (v_pi (v_ald (v_gi (v_isub (v_iret))))))))))))
theorem tX11_call_45 {X : pu_X} {r : pu_R} (hX : pu_H X mdX11_call) (hr : pu_P X.2.1 X.2.2.2.2.2.2.2.2.2.2.1 r) (hq : ∀ i pc, pu_lp i = some (190, pc) → pu_S X mdX11_call pc (r i)) : pu_S X mdX11_call 45 (kX11_call_45 r) := by
  unfold kX11_call_45
  exact z_ald_n hX dX11_call_45 rfl (z_gr (c := 11) (j := 2) hX dX11_call_46 rfl inlX11 wm1_20 ⟨rfl, by decide, rfl⟩ (z_gr (c := 5) (j := 6) hX dX11_call_49 rfl inlX5 wm54_0 ⟨rfl, by decide, rfl⟩ (z_ald_n hX dX11_call_52 rfl (z_gi (c := 11) (j := 8) hX dX11_call_53 rfl inlX11 wm2_9 ⟨rfl, by decide, rfl⟩ (z_iconst hX dX11_call_56 (by decide) (z_iadd hX dX11_call_57 (z_pi (c := 1) (j := 1) tyX1 tyX1_ok nmX1 hX dX11_call_58 rfl inlX1 wm61_21 ⟨rfl, by decide⟩ ⟨rfl, rfl⟩ rfl (z_bipush hX dX11_call_61 (by decide) (z_ald_n hX dX11_call_63 rfl (z_gi (c := 11) (j := 9) hX dX11_call_64 rfl inlX11 wm2_10 ⟨rfl, by decide, rfl⟩ (z_isub hX dX11_call_67 (z_iret hX dX11_call_68 rfl))))))))))))
def kX11_call_30 (r : pu_R) : pu_K := s_ald 0 (s_ild 1 (s_cv r 189 1 11 (s_ald 0 (s_gi 11 9 (s_push (.int (-1)) (s_icne (kX11_call_45 r) (s_push (.int (-1)) (s_iret))))))))
theorem vX11_call_30 : pu_cok2 kX11_call_30 := fun rf r hr => by
  unfold kX11_call_30
  exact v_ald (v_ild (v_cv hr (v_ald (v_gi (v_pi (v_icne (vX11_call_45 rf r hr) (v_pi (v_iret))))))))
theorem tX11_call_30 {X : pu_X} {r : pu_R} (hX : pu_H X mdX11_call) (hr : pu_P X.2.1 X.2.2.2.2.2.2.2.2.2.2.1 r) (hq : ∀ i pc, pu_lp i = some (190, pc) → pu_S X mdX11_call pc (r i)) : pu_S X mdX11_call 30 (kX11_call_30 r) := by
  unfold kX11_call_30
  exact z_ald_n hX dX11_call_30 rfl (z_ild_n hX dX11_call_31 rfl (z_cv (c := 11) hX hr dX11_call_32 hjX11_seekOld mwX11_seekOld rfl wm62_2 ⟨wm62_3, wm62_4⟩ ⟨Nat.le_of_ble_eq_true rfl, Nat.le_of_ble_eq_true rfl⟩ (z_ald_n hX dX11_call_35 rfl (z_gi (c := 11) (j := 9) hX dX11_call_36 rfl inlX11 wm2_10 ⟨rfl, by decide, rfl⟩ (z_iconst hX dX11_call_39 (by decide) (z_icne hX dX11_call_40 (by decide) (tX11_call_45 hX hr hq) (z_iconst hX dX11_call_43 (by decide) (z_iret hX dX11_call_44 rfl))))))))
def kX11_call_17 (r : pu_R) : pu_K := s_ald 0 (s_ild 1 (s_cv r 186 1 11 (s_ist 2 (s_ild 2 (s_push (.int (-1)) (s_iceq (kX11_call_30 r) (s_ild 2 (s_iret))))))))
theorem vX11_call_17 : pu_cok2 kX11_call_17 := fun rf r hr => by
  unfold kX11_call_17
  exact v_ald (v_ild (v_cv hr (v_ist (v_ild (v_pi (v_iceq (vX11_call_30 rf r hr) (v_ild (v_iret))))))))
theorem tX11_call_17 {X : pu_X} {r : pu_R} (hX : pu_H X mdX11_call) (hr : pu_P X.2.1 X.2.2.2.2.2.2.2.2.2.2.1 r) (hq : ∀ i pc, pu_lp i = some (190, pc) → pu_S X mdX11_call pc (r i)) : pu_S X mdX11_call 17 (kX11_call_17 r) := by
  unfold kX11_call_17
  exact z_ald_n hX dX11_call_17 rfl (z_ild_n hX dX11_call_18 rfl (z_cv (c := 11) hX hr dX11_call_19 hjX11_sureDoor mwX11_sureDoor rfl wm61_22 ⟨wm61_23, wm62_0⟩ ⟨Nat.le_of_ble_eq_true rfl, Nat.le_of_ble_eq_true rfl⟩ (z_ist_n hX dX11_call_22 rfl (z_ild_n hX dX11_call_23 rfl (z_iconst hX dX11_call_24 (by decide) (z_iceq hX dX11_call_25 (by decide) (tX11_call_30 hX hr hq) (z_ild_n hX dX11_call_28 rfl (z_iret hX dX11_call_29 rfl))))))))
def kX11_call_14 (r : pu_R) : pu_K := s_push (.int (-2)) (s_iret)
theorem vX11_call_14 : pu_cok2 kX11_call_14 := fun rf r hr => by
  unfold kX11_call_14
  exact v_pi (v_iret)
theorem tX11_call_14 {X : pu_X} {r : pu_R} (hX : pu_H X mdX11_call) (hr : pu_P X.2.1 X.2.2.2.2.2.2.2.2.2.2.1 r) (hq : ∀ i pc, pu_lp i = some (190, pc) → pu_S X mdX11_call pc (r i)) : pu_S X mdX11_call 14 (kX11_call_14 r) := by
  unfold kX11_call_14
  exact z_bipush hX dX11_call_14 (by decide) (z_iret hX dX11_call_16 rfl)
def kX11_call_0 (r : pu_R) : pu_K := s_ald 0 (s_cv r 171 0 11 (s_ifeq (kX11_call_14 r) (s_ild 1 (s_cs r 18 1 (s_ifne (kX11_call_17 r) ((kX11_call_14 r)))))))
theorem vX11_call_0 : pu_cok2 kX11_call_0 := fun rf r hr => by
  unfold kX11_call_0
  exact v_ald (v_cv hr (v_ifeq (vX11_call_14 rf r hr) (v_ild (v_cs hr (v_ifne (vX11_call_17 rf r hr) ((vX11_call_14 rf r hr)))))))
theorem tX11_call_0 {X : pu_X} {r : pu_R} (hX : pu_H X mdX11_call) (hr : pu_P X.2.1 X.2.2.2.2.2.2.2.2.2.2.1 r) (hq : ∀ i pc, pu_lp i = some (190, pc) → pu_S X mdX11_call pc (r i)) : pu_S X mdX11_call 0 (kX11_call_0 r) := by
  unfold kX11_call_0
  exact z_ald_n hX dX11_call_0 rfl (z_cv (c := 11) hX hr dX11_call_1 hjX11_readAddress mwX11_readAddress rfl wm54_3 ⟨wm54_4, wm54_5⟩ ⟨Nat.le_of_ble_eq_true rfl, Nat.le_of_ble_eq_true rfl⟩ (z_ifeq hX dX11_call_4 (by decide) (tX11_call_14 hX hr hq) (z_ild_n hX dX11_call_7 rfl (z_cs hX hr dX11_call_8 hjX11_isDay mwX11_isDay wm10_21 wm10_22 ⟨Nat.le_of_ble_eq_true rfl, Nat.le_of_ble_eq_true rfl⟩ (z_ifne hX dX11_call_11 (by decide) (tX11_call_17 hX hr hq) ((tX11_call_14 hX hr hq)))))))
def kX11_ended_0 (r : pu_R) : pu_K := s_ald 0 (s_gr 11 2 (s_gr 5 6 (s_gi 1 1 (s_iret))))
theorem vX11_ended_0 : pu_cok2 kX11_ended_0 := fun rf r hr => by
  unfold kX11_ended_0
  exact v_ald (v_gr (v_gr (v_gi (v_iret))))
theorem tX11_ended_0 {X : pu_X} {r : pu_R} (hX : pu_H X mdX11_ended) (hr : pu_P X.2.1 X.2.2.2.2.2.2.2.2.2.2.1 r) (hq : ∀ i pc, pu_lp i = some (191, pc) → pu_S X mdX11_ended pc (r i)) : pu_S X mdX11_ended 0 (kX11_ended_0 r) := by
  unfold kX11_ended_0
  exact z_ald_n hX dX11_ended_0 rfl (z_gr (c := 11) (j := 2) hX dX11_ended_1 rfl inlX11 wm1_20 ⟨rfl, by decide, rfl⟩ (z_gr (c := 5) (j := 6) hX dX11_ended_4 rfl inlX5 wm54_0 ⟨rfl, by decide, rfl⟩ (z_gi (c := 1) (j := 1) hX dX11_ended_7 rfl inlX1 wm61_21 ⟨rfl, by decide, rfl⟩ (z_iret hX dX11_ended_10 rfl))))
def kX5_isOpenKnownNumberIn_50 (r : pu_R) : pu_K := s_zret
theorem vX5_isOpenKnownNumberIn_50 : pu_cok2 kX5_isOpenKnownNumberIn_50 := fun rf r hr => by
  unfold kX5_isOpenKnownNumberIn_50
  exact v_zret
theorem tX5_isOpenKnownNumberIn_50 {X : pu_X} {r : pu_R} (hX : pu_H X mdX5_isOpenKnownNumberIn) (hr : pu_P X.2.1 X.2.2.2.2.2.2.2.2.2.2.1 r) (hq : ∀ i pc, pu_lp i = some (192, pc) → pu_S X mdX5_isOpenKnownNumberIn pc (r i)) : pu_S X mdX5_isOpenKnownNumberIn 50 (kX5_isOpenKnownNumberIn_50 r) := by
  unfold kX5_isOpenKnownNumberIn_50
  exact z_zret hX dX5_isOpenKnownNumberIn_50 rfl
def kX5_isOpenKnownNumberIn_49 (r : pu_R) : pu_K := s_push (.int (0)) ((kX5_isOpenKnownNumberIn_50 r))
theorem vX5_isOpenKnownNumberIn_49 : pu_cok2 kX5_isOpenKnownNumberIn_49 := fun rf r hr => by
  unfold kX5_isOpenKnownNumberIn_49
  exact v_pi ((vX5_isOpenKnownNumberIn_50 rf r hr))
theorem tX5_isOpenKnownNumberIn_49 {X : pu_X} {r : pu_R} (hX : pu_H X mdX5_isOpenKnownNumberIn) (hr : pu_P X.2.1 X.2.2.2.2.2.2.2.2.2.2.1 r) (hq : ∀ i pc, pu_lp i = some (192, pc) → pu_S X mdX5_isOpenKnownNumberIn pc (r i)) : pu_S X mdX5_isOpenKnownNumberIn 49 (kX5_isOpenKnownNumberIn_49 r) := by
  unfold kX5_isOpenKnownNumberIn_49
  exact z_iconst hX dX5_isOpenKnownNumberIn_49 (by decide) ((tX5_isOpenKnownNumberIn_50 hX hr hq))
def kX5_isOpenKnownNumberIn_46 (r : pu_R) : pu_K := (kX5_isOpenKnownNumberIn_50 r)
theorem vX5_isOpenKnownNumberIn_46 : pu_cok2 kX5_isOpenKnownNumberIn_46 := fun rf r hr => by
  unfold kX5_isOpenKnownNumberIn_46
  exact (vX5_isOpenKnownNumberIn_50 rf r hr)
theorem tX5_isOpenKnownNumberIn_46 {X : pu_X} {r : pu_R} (hX : pu_H X mdX5_isOpenKnownNumberIn) (hr : pu_P X.2.1 X.2.2.2.2.2.2.2.2.2.2.1 r) (hq : ∀ i pc, pu_lp i = some (192, pc) → pu_S X mdX5_isOpenKnownNumberIn pc (r i)) : pu_S X mdX5_isOpenKnownNumberIn 46 (kX5_isOpenKnownNumberIn_46 r) := by
  unfold kX5_isOpenKnownNumberIn_46
  exact (z_goto hX dX5_isOpenKnownNumberIn_46 (by decide) (tX5_isOpenKnownNumberIn_50 hX hr hq))
def kX5_isOpenKnownNumberIn_0 (r : pu_R) : pu_K := s_ald 0 (s_gr 5 1 (s_gr 4 4 (s_ild 1 (s_ai 1 (s_push (.int (-1)) (s_icne (kX5_isOpenKnownNumberIn_49 r) (s_ald 0 (s_gr 5 1 (s_gr 4 2 (s_ild 1 (s_ai 1 (s_ifeq (kX5_isOpenKnownNumberIn_49 r) (s_ald 0 (s_gr 5 4 (s_ald 0 (s_gr 5 1 (s_gr 4 1 (s_ild 1 (s_ai 1 (s_cv r 66 1 2 (s_ild 2 (s_icne (kX5_isOpenKnownNumberIn_49 r) (s_push (.int (1)) ((kX5_isOpenKnownNumberIn_46 r)))))))))))))))))))))))))
theorem vX5_isOpenKnownNumberIn_0 : pu_cok2 kX5_isOpenKnownNumberIn_0 := fun rf r hr => by
  unfold kX5_isOpenKnownNumberIn_0
  exact v_ald (v_gr (v_gr (v_ild (v_ai (v_pi (v_icne (vX5_isOpenKnownNumberIn_49 rf r hr) (v_ald (v_gr (v_gr (v_ild (v_ai (v_ifeq (vX5_isOpenKnownNumberIn_49 rf r hr) (v_ald (v_gr (v_ald (v_gr (v_gr (v_ild (v_ai (v_cv hr (v_ild (v_icne (vX5_isOpenKnownNumberIn_49 rf r hr) (v_pi ((vX5_isOpenKnownNumberIn_46 rf r hr)))))))))))))))))))))))))
theorem tX5_isOpenKnownNumberIn_0 {X : pu_X} {r : pu_R} (hX : pu_H X mdX5_isOpenKnownNumberIn) (hr : pu_P X.2.1 X.2.2.2.2.2.2.2.2.2.2.1 r) (hq : ∀ i pc, pu_lp i = some (192, pc) → pu_S X mdX5_isOpenKnownNumberIn pc (r i)) : pu_S X mdX5_isOpenKnownNumberIn 0 (kX5_isOpenKnownNumberIn_0 r) := by
  unfold kX5_isOpenKnownNumberIn_0
  exact z_ald_n hX dX5_isOpenKnownNumberIn_0 rfl (z_gr (c := 5) (j := 1) hX dX5_isOpenKnownNumberIn_1 rfl inlX5 wm3_1 ⟨rfl, by decide, rfl⟩ (z_gr (c := 4) (j := 4) hX dX5_isOpenKnownNumberIn_4 rfl inlX4 wm64_0 ⟨rfl, by decide, rfl⟩ (z_ild_n hX dX5_isOpenKnownNumberIn_7 rfl (z_iald hX dX5_isOpenKnownNumberIn_8 (z_iconst hX dX5_isOpenKnownNumberIn_9 (by decide) (z_icne hX dX5_isOpenKnownNumberIn_10 (by decide) (tX5_isOpenKnownNumberIn_49 hX hr hq) (z_ald_n hX dX5_isOpenKnownNumberIn_13 rfl (z_gr (c := 5) (j := 1) hX dX5_isOpenKnownNumberIn_14 rfl inlX5 wm3_1 ⟨rfl, by decide, rfl⟩ (z_gr (c := 4) (j := 2) hX dX5_isOpenKnownNumberIn_17 rfl inlX4 wm64_1 ⟨rfl, by decide, rfl⟩ (z_ild_n hX dX5_isOpenKnownNumberIn_20 rfl (z_iald hX dX5_isOpenKnownNumberIn_21 (z_ifeq hX dX5_isOpenKnownNumberIn_22 (by decide) (tX5_isOpenKnownNumberIn_49 hX hr hq) (z_ald_n hX dX5_isOpenKnownNumberIn_25 rfl (z_gr (c := 5) (j := 4) hX dX5_isOpenKnownNumberIn_26 rfl inlX5 wm3_13 ⟨rfl, by decide, rfl⟩ (z_ald_n hX dX5_isOpenKnownNumberIn_29 rfl (z_gr (c := 5) (j := 1) hX dX5_isOpenKnownNumberIn_30 rfl inlX5 wm3_1 ⟨rfl, by decide, rfl⟩ (z_gr (c := 4) (j := 1) hX dX5_isOpenKnownNumberIn_33 rfl inlX4 wm64_2 ⟨rfl, by decide, rfl⟩ (z_ild_n hX dX5_isOpenKnownNumberIn_36 rfl (z_iald hX dX5_isOpenKnownNumberIn_37 (z_cv (c := 2) hX hr dX5_isOpenKnownNumberIn_38 hjX2_streetOf mwX2_streetOf rfl wm34_8 ⟨wm24_7, wm24_8⟩ ⟨Nat.le_of_ble_eq_true rfl, Nat.le_of_ble_eq_true rfl⟩ (z_ild_n hX dX5_isOpenKnownNumberIn_41 rfl (z_icne hX dX5_isOpenKnownNumberIn_42 (by decide) (tX5_isOpenKnownNumberIn_49 hX hr hq) (z_iconst hX dX5_isOpenKnownNumberIn_45 (by decide) ((tX5_isOpenKnownNumberIn_46 hX hr hq)))))))))))))))))))))))))
def kX1_addPair_96 (r : pu_R) : pu_K := s_ald 0 (s_gr 1 11 (s_ild 5 (s_ild 1 (s_wi 1 (s_ald 0 (s_gr 1 12 (s_ild 5 (s_ild 2 (s_wi 1 (s_ald 0 (s_gr 1 13 (s_ild 5 (s_ild 3 (s_wi 1 (s_ald 0 (s_dup (s_gi 1 3 (s_push (.int (1)) (s_iadd (s_pi 1 3 (s_vret)))))))))))))))))))))
theorem vX1_addPair_96 : pu_cok2 kX1_addPair_96 := fun rf r hr => by
  unfold kX1_addPair_96
  exact v_ald (v_gr (v_ild (v_ild (v_wi (v_ald (v_gr (v_ild (v_ild (v_wi (v_ald (v_gr (v_ild (v_ild (v_wi (v_ald (v_dup (v_gi (v_pi (v_iadd (v_puti (v_vret)))))))))))))))))))))
theorem tX1_addPair_96 {X : pu_X} {r : pu_R} (hX : pu_H X mdX1_addPair) (hr : pu_P X.2.1 X.2.2.2.2.2.2.2.2.2.2.1 r) (hq : ∀ i pc, pu_lp i = some (193, pc) → pu_S X mdX1_addPair pc (r i)) : pu_S X mdX1_addPair 96 (kX1_addPair_96 r) := by
  unfold kX1_addPair_96
  exact z_ald_n hX dX1_addPair_96 rfl (z_gr (c := 1) (j := 11) hX dX1_addPair_97 rfl inlX1 wm6_11 ⟨rfl, by decide, rfl⟩ (z_ild hX dX1_addPair_100 (z_ild_n hX dX1_addPair_102 rfl (z_iast hX dX1_addPair_103 (z_ald_n hX dX1_addPair_104 rfl (z_gr (c := 1) (j := 12) hX dX1_addPair_105 rfl inlX1 wm6_12 ⟨rfl, by decide, rfl⟩ (z_ild hX dX1_addPair_108 (z_ild_n hX dX1_addPair_110 rfl (z_iast hX dX1_addPair_111 (z_ald_n hX dX1_addPair_112 rfl (z_gr (c := 1) (j := 13) hX dX1_addPair_113 rfl inlX1 wm6_13 ⟨rfl, by decide, rfl⟩ (z_ild hX dX1_addPair_116 (z_ild_n hX dX1_addPair_118 rfl (z_iast hX dX1_addPair_119 (z_ald_n hX dX1_addPair_120 rfl (z_dup hX dX1_addPair_121 (z_gi (c := 1) (j := 3) hX dX1_addPair_122 rfl inlX1 wm45_20 ⟨rfl, by decide, rfl⟩ (z_iconst hX dX1_addPair_125 (by decide) (z_iadd hX dX1_addPair_126 (z_pi (c := 1) (j := 3) tyX1 tyX1_ok nmX1 hX dX1_addPair_127 rfl inlX1 wm45_20 ⟨rfl, by decide⟩ ⟨rfl, rfl⟩ rfl (z_vret hX dX1_addPair_130 rfl)))))))))))))))))))))
def kX1_addPair_59 (r : pu_R) : pu_K := s_gr 1 12 (s_ild 5 (s_ald 0 (s_gr 1 12 (s_ild 5 (s_push (.int (1)) (s_isub (s_ai 1 (s_wi 1 (s_ald 0 (s_gr 1 13 (s_ild 5 (s_ald 0 (s_gr 1 13 (s_ild 5 (s_push (.int (1)) (s_isub (s_ai 1 (s_wi 1 (s_inc 5 (-1) ((r 411)))))))))))))))))))))
theorem vX1_addPair_59 : pu_cok2 kX1_addPair_59 := fun rf r hr => by
  unfold kX1_addPair_59
  exact v_gr (v_ild (v_ald (v_gr (v_ild (v_pi (v_isub (v_ai (v_wi (v_ald (v_gr (v_ild (v_ald (v_gr (v_ild (v_pi (v_isub (v_ai (v_wi (v_inc ((hr 411)))))))))))))))))))))
theorem tX1_addPair_59 {X : pu_X} {r : pu_R} (hX : pu_H X mdX1_addPair) (hr : pu_P X.2.1 X.2.2.2.2.2.2.2.2.2.2.1 r) (hq : ∀ i pc, pu_lp i = some (193, pc) → pu_S X mdX1_addPair pc (r i)) : pu_S X mdX1_addPair 59 (kX1_addPair_59 r) := by
  unfold kX1_addPair_59
  exact z_gr (c := 1) (j := 12) hX dX1_addPair_59 rfl inlX1 wm6_12 ⟨rfl, by decide, rfl⟩ (z_ild hX dX1_addPair_62 (z_ald_n hX dX1_addPair_64 rfl (z_gr (c := 1) (j := 12) hX dX1_addPair_65 rfl inlX1 wm6_12 ⟨rfl, by decide, rfl⟩ (z_ild hX dX1_addPair_68 (z_iconst hX dX1_addPair_70 (by decide) (z_isub hX dX1_addPair_71 (z_iald hX dX1_addPair_72 (z_iast hX dX1_addPair_73 (z_ald_n hX dX1_addPair_74 rfl (z_gr (c := 1) (j := 13) hX dX1_addPair_75 rfl inlX1 wm6_13 ⟨rfl, by decide, rfl⟩ (z_ild hX dX1_addPair_78 (z_ald_n hX dX1_addPair_80 rfl (z_gr (c := 1) (j := 13) hX dX1_addPair_81 rfl inlX1 wm6_13 ⟨rfl, by decide, rfl⟩ (z_ild hX dX1_addPair_84 (z_iconst hX dX1_addPair_86 (by decide) (z_isub hX dX1_addPair_87 (z_iald hX dX1_addPair_88 (z_iast hX dX1_addPair_89 (z_inc hX dX1_addPair_90 (by decide) ((z_goto hX dX1_addPair_93 (by decide) (hq 411 17 hl411))))))))))))))))))))))
def kX1_addPair_17 (r : pu_R) : pu_K := s_ild 5 (s_ild 4 (s_icle (kX1_addPair_96 r) (s_ild 5 (s_ifle (kX1_addPair_96 r) (s_ald 0 (s_gr 1 13 (s_ild 5 (s_push (.int (1)) (s_isub (s_ai 1 (s_ild 3 (s_icle (kX1_addPair_96 r) (s_ald 0 (s_gr 1 11 (s_ild 5 (s_ald 0 (s_gr 1 11 (s_ild 5 (s_push (.int (1)) (s_isub (s_ai 1 (s_wi 1 (s_ald 0 ((kX1_addPair_59 r)))))))))))))))))))))))))
theorem vX1_addPair_17 : pu_cok2 kX1_addPair_17 := fun rf r hr => by
  unfold kX1_addPair_17
  exact v_ild (v_ild (v_icle (vX1_addPair_96 rf r hr) (v_ild (v_ifle (vX1_addPair_96 rf r hr) (v_ald (v_gr (v_ild (v_pi (v_isub (v_ai (v_ild (v_icle (vX1_addPair_96 rf r hr) (v_ald (v_gr (v_ild (v_ald (v_gr (v_ild (v_pi (v_isub (v_ai (v_wi (v_ald ((vX1_addPair_59 rf r hr)))))))))))))))))))))))))
theorem tX1_addPair_17 {X : pu_X} {r : pu_R} (hX : pu_H X mdX1_addPair) (hr : pu_P X.2.1 X.2.2.2.2.2.2.2.2.2.2.1 r) (hq : ∀ i pc, pu_lp i = some (193, pc) → pu_S X mdX1_addPair pc (r i)) : pu_S X mdX1_addPair 17 (kX1_addPair_17 r) := by
  unfold kX1_addPair_17
  exact z_ild hX dX1_addPair_17 (z_ild hX dX1_addPair_19 (z_icle hX dX1_addPair_21 (by decide) (tX1_addPair_96 hX hr hq) (z_ild hX dX1_addPair_24 (z_ifle hX dX1_addPair_26 (by decide) (tX1_addPair_96 hX hr hq) (z_ald_n hX dX1_addPair_29 rfl (z_gr (c := 1) (j := 13) hX dX1_addPair_30 rfl inlX1 wm6_13 ⟨rfl, by decide, rfl⟩ (z_ild hX dX1_addPair_33 (z_iconst hX dX1_addPair_35 (by decide) (z_isub hX dX1_addPair_36 (z_iald hX dX1_addPair_37 (z_ild_n hX dX1_addPair_38 rfl (z_icle hX dX1_addPair_39 (by decide) (tX1_addPair_96 hX hr hq) (z_ald_n hX dX1_addPair_42 rfl (z_gr (c := 1) (j := 11) hX dX1_addPair_43 rfl inlX1 wm6_11 ⟨rfl, by decide, rfl⟩ (z_ild hX dX1_addPair_46 (z_ald_n hX dX1_addPair_48 rfl (z_gr (c := 1) (j := 11) hX dX1_addPair_49 rfl inlX1 wm6_11 ⟨rfl, by decide, rfl⟩ (z_ild hX dX1_addPair_52 (z_iconst hX dX1_addPair_54 (by decide) (z_isub hX dX1_addPair_55 (z_iald hX dX1_addPair_56 (z_iast hX dX1_addPair_57 (z_ald_n hX dX1_addPair_58 rfl ((tX1_addPair_59 hX hr hq)))))))))))))))))))))))))
def kX1_addPair_11 (r : pu_R) : pu_K := s_ald 0 (s_gi 1 3 (s_ist 5 ((r 411))))
theorem vX1_addPair_11 : pu_cok2 kX1_addPair_11 := fun rf r hr => by
  unfold kX1_addPair_11
  exact v_ald (v_gi (v_ist ((hr 411))))
theorem tX1_addPair_11 {X : pu_X} {r : pu_R} (hX : pu_H X mdX1_addPair) (hr : pu_P X.2.1 X.2.2.2.2.2.2.2.2.2.2.1 r) (hq : ∀ i pc, pu_lp i = some (193, pc) → pu_S X mdX1_addPair pc (r i)) : pu_S X mdX1_addPair 11 (kX1_addPair_11 r) := by
  unfold kX1_addPair_11
  exact z_ald_n hX dX1_addPair_11 rfl (z_gi (c := 1) (j := 3) hX dX1_addPair_12 rfl inlX1 wm45_20 ⟨rfl, by decide, rfl⟩ (z_ist hX dX1_addPair_15 ((hq 411 17 hl411))))
def kX1_addPair_0 (r : pu_R) : pu_K := s_ald 0 (s_gi 1 3 (s_push (.int (200)) (s_iclt (kX1_addPair_11 r) (s_vret))))
theorem vX1_addPair_0 : pu_cok2 kX1_addPair_0 := fun rf r hr => by
  unfold kX1_addPair_0
  exact v_ald (v_gi (v_pi (v_iclt (vX1_addPair_11 rf r hr) (v_vret))))
theorem tX1_addPair_0 {X : pu_X} {r : pu_R} (hX : pu_H X mdX1_addPair) (hr : pu_P X.2.1 X.2.2.2.2.2.2.2.2.2.2.1 r) (hq : ∀ i pc, pu_lp i = some (193, pc) → pu_S X mdX1_addPair pc (r i)) : pu_S X mdX1_addPair 0 (kX1_addPair_0 r) := by
  unfold kX1_addPair_0
  exact z_ald_n hX dX1_addPair_0 rfl (z_gi (c := 1) (j := 3) hX dX1_addPair_1 rfl inlX1 wm45_20 ⟨rfl, by decide, rfl⟩ (z_sipush hX dX1_addPair_4 (by decide) (z_iclt hX dX1_addPair_7 (by decide) (tX1_addPair_11 hX hr hq) (z_vret hX dX1_addPair_10 rfl))))
def kX11_pairStreets_172 (r : pu_R) : pu_K := s_vret
theorem vX11_pairStreets_172 : pu_cok2 kX11_pairStreets_172 := fun rf r hr => by
  unfold kX11_pairStreets_172
  exact v_vret
theorem tX11_pairStreets_172 {X : pu_X} {r : pu_R} (hX : pu_H X mdX11_pairStreets) (hr : pu_P X.2.1 X.2.2.2.2.2.2.2.2.2.2.1 r) (hq : ∀ i pc, pu_lp i = some (194, pc) → pu_S X mdX11_pairStreets pc (r i)) : pu_S X mdX11_pairStreets 172 (kX11_pairStreets_172 r) := by
  unfold kX11_pairStreets_172
  exact z_vret hX dX11_pairStreets_172 rfl
def kX11_pairStreets_166 (r : pu_R) : pu_K := s_inc 4 (1) ((r 412))
theorem vX11_pairStreets_166 : pu_cok2 kX11_pairStreets_166 := fun rf r hr => by
  unfold kX11_pairStreets_166
  exact v_inc ((hr 412))
theorem tX11_pairStreets_166 {X : pu_X} {r : pu_R} (hX : pu_H X mdX11_pairStreets) (hr : pu_P X.2.1 X.2.2.2.2.2.2.2.2.2.2.1 r) (hq : ∀ i pc, pu_lp i = some (194, pc) → pu_S X mdX11_pairStreets pc (r i)) : pu_S X mdX11_pairStreets 166 (kX11_pairStreets_166 r) := by
  unfold kX11_pairStreets_166
  exact z_inc hX dX11_pairStreets_166 (by decide) ((z_goto hX dX11_pairStreets_169 (by decide) (hq 412 14 hl412)))
def kX11_pairStreets_160 (r : pu_R) : pu_K := s_inc 5 (1) ((r 413))
theorem vX11_pairStreets_160 : pu_cok2 kX11_pairStreets_160 := fun rf r hr => by
  unfold kX11_pairStreets_160
  exact v_inc ((hr 413))
theorem tX11_pairStreets_160 {X : pu_X} {r : pu_R} (hX : pu_H X mdX11_pairStreets) (hr : pu_P X.2.1 X.2.2.2.2.2.2.2.2.2.2.1 r) (hq : ∀ i pc, pu_lp i = some (194, pc) → pu_S X mdX11_pairStreets pc (r i)) : pu_S X mdX11_pairStreets 160 (kX11_pairStreets_160 r) := by
  unfold kX11_pairStreets_160
  exact z_inc hX dX11_pairStreets_160 (by decide) ((z_goto hX dX11_pairStreets_163 (by decide) (hq 413 45 hl413)))
def kX11_pairStreets_151 (r : pu_R) : pu_K := s_ai 1 (s_push (.int (2)) (s_idiv (s_ild 6 (s_ild 3 (s_cv r 193 4 1 ((kX11_pairStreets_160 r)))))))
theorem vX11_pairStreets_151 : pu_cok2 kX11_pairStreets_151 := fun rf r hr => by
  unfold kX11_pairStreets_151
  exact v_ai (v_pi (v_idiv (v_ild (v_ild (v_cv hr ((vX11_pairStreets_160 rf r hr)))))))
theorem tX11_pairStreets_151 {X : pu_X} {r : pu_R} (hX : pu_H X mdX11_pairStreets) (hr : pu_P X.2.1 X.2.2.2.2.2.2.2.2.2.2.1 r) (hq : ∀ i pc, pu_lp i = some (194, pc) → pu_S X mdX11_pairStreets pc (r i)) : pu_S X mdX11_pairStreets 151 (kX11_pairStreets_151 r) := by
  unfold kX11_pairStreets_151
  exact z_iald hX dX11_pairStreets_151 (z_iconst hX dX11_pairStreets_152 (by decide) (z_idiv hX dX11_pairStreets_153 (z_ild hX dX11_pairStreets_154 (z_ild_n hX dX11_pairStreets_156 rfl (z_cv (c := 1) hX hr dX11_pairStreets_157 hjX1_addPair mwX1_addPair rfl wm64_3 ⟨wm64_4, wm64_5⟩ ⟨Nat.le_of_ble_eq_true rfl, Nat.le_of_ble_eq_true rfl⟩ ((tX11_pairStreets_160 hX hr hq)))))))
def kX11_pairStreets_99 (r : pu_R) : pu_K := s_ifeq (kX11_pairStreets_160 r) (s_ald 0 (s_gr 11 2 (s_gr 5 1 (s_gr 4 2 (s_ild 4 (s_ai 1 (s_ist 6 (s_ald 0 (s_gr 11 2 (s_gr 5 6 (s_ald 0 (s_gr 11 2 (s_gr 5 1 (s_gr 4 1 (s_ild 4 (s_ai 1 (s_push (.int (2)) (s_idiv (s_ald 0 (s_gr 11 2 (s_gr 5 1 (s_gr 4 1 (s_ild 5 ((kX11_pairStreets_151 r)))))))))))))))))))))))))
theorem vX11_pairStreets_99 : pu_cok2 kX11_pairStreets_99 := fun rf r hr => by
  unfold kX11_pairStreets_99
  exact v_ifeq (vX11_pairStreets_160 rf r hr) (v_ald (v_gr (v_gr (v_gr (v_ild (v_ai (v_ist (v_ald (v_gr (v_gr (v_ald (v_gr (v_gr (v_gr (v_ild (v_ai (v_pi (v_idiv (v_ald (v_gr (v_gr (v_gr (v_ild ((vX11_pairStreets_151 rf r hr)))))))))))))))))))))))))
theorem tX11_pairStreets_99 {X : pu_X} {r : pu_R} (hX : pu_H X mdX11_pairStreets) (hr : pu_P X.2.1 X.2.2.2.2.2.2.2.2.2.2.1 r) (hq : ∀ i pc, pu_lp i = some (194, pc) → pu_S X mdX11_pairStreets pc (r i)) : pu_S X mdX11_pairStreets 99 (kX11_pairStreets_99 r) := by
  unfold kX11_pairStreets_99
  exact z_ifeq hX dX11_pairStreets_99 (by decide) (tX11_pairStreets_160 hX hr hq) (z_ald_n hX dX11_pairStreets_102 rfl (z_gr (c := 11) (j := 2) hX dX11_pairStreets_103 rfl inlX11 wm1_20 ⟨rfl, by decide, rfl⟩ (z_gr (c := 5) (j := 1) hX dX11_pairStreets_106 rfl inlX5 wm21_22 ⟨rfl, by decide, rfl⟩ (z_gr (c := 4) (j := 2) hX dX11_pairStreets_109 rfl inlX4 wm48_10 ⟨rfl, by decide, rfl⟩ (z_ild hX dX11_pairStreets_112 (z_iald hX dX11_pairStreets_114 (z_ist hX dX11_pairStreets_115 (z_ald_n hX dX11_pairStreets_117 rfl (z_gr (c := 11) (j := 2) hX dX11_pairStreets_118 rfl inlX11 wm1_20 ⟨rfl, by decide, rfl⟩ (z_gr (c := 5) (j := 6) hX dX11_pairStreets_121 rfl inlX5 wm54_0 ⟨rfl, by decide, rfl⟩ (z_ald_n hX dX11_pairStreets_124 rfl (z_gr (c := 11) (j := 2) hX dX11_pairStreets_125 rfl inlX11 wm1_20 ⟨rfl, by decide, rfl⟩ (z_gr (c := 5) (j := 1) hX dX11_pairStreets_128 rfl inlX5 wm21_22 ⟨rfl, by decide, rfl⟩ (z_gr (c := 4) (j := 1) hX dX11_pairStreets_131 rfl inlX4 wm62_15 ⟨rfl, by decide, rfl⟩ (z_ild hX dX11_pairStreets_134 (z_iald hX dX11_pairStreets_136 (z_iconst hX dX11_pairStreets_137 (by decide) (z_idiv hX dX11_pairStreets_138 (z_ald_n hX dX11_pairStreets_139 rfl (z_gr (c := 11) (j := 2) hX dX11_pairStreets_140 rfl inlX11 wm1_20 ⟨rfl, by decide, rfl⟩ (z_gr (c := 5) (j := 1) hX dX11_pairStreets_143 rfl inlX5 wm21_22 ⟨rfl, by decide, rfl⟩ (z_gr (c := 4) (j := 1) hX dX11_pairStreets_146 rfl inlX4 wm62_15 ⟨rfl, by decide, rfl⟩ (z_ild hX dX11_pairStreets_149 ((tX11_pairStreets_151 hX hr hq)))))))))))))))))))))))))
def kX11_pairStreets_45 (r : pu_R) : pu_K := s_ild 5 (s_ald 0 (s_gr 11 2 (s_gr 5 1 (s_gi 4 0 (s_icge (kX11_pairStreets_166 r) (s_ald 0 (s_gr 11 2 (s_gr 5 1 (s_gr 4 2 (s_ild 5 (s_ai 1 (s_ald 0 (s_gr 11 2 (s_gr 5 1 (s_gr 4 2 (s_ild 4 (s_ai 1 (s_icne (kX11_pairStreets_160 r) (s_ald 0 (s_gr 11 2 (s_ild 5 (s_ild 2 (s_cv r 192 2 5 ((kX11_pairStreets_99 r)))))))))))))))))))))))))
theorem vX11_pairStreets_45 : pu_cok2 kX11_pairStreets_45 := fun rf r hr => by
  unfold kX11_pairStreets_45
  exact v_ild (v_ald (v_gr (v_gr (v_gi (v_icge (vX11_pairStreets_166 rf r hr) (v_ald (v_gr (v_gr (v_gr (v_ild (v_ai (v_ald (v_gr (v_gr (v_gr (v_ild (v_ai (v_icne (vX11_pairStreets_160 rf r hr) (v_ald (v_gr (v_ild (v_ild (v_cv hr ((vX11_pairStreets_99 rf r hr)))))))))))))))))))))))))
theorem tX11_pairStreets_45 {X : pu_X} {r : pu_R} (hX : pu_H X mdX11_pairStreets) (hr : pu_P X.2.1 X.2.2.2.2.2.2.2.2.2.2.1 r) (hq : ∀ i pc, pu_lp i = some (194, pc) → pu_S X mdX11_pairStreets pc (r i)) : pu_S X mdX11_pairStreets 45 (kX11_pairStreets_45 r) := by
  unfold kX11_pairStreets_45
  exact z_ild hX dX11_pairStreets_45 (z_ald_n hX dX11_pairStreets_47 rfl (z_gr (c := 11) (j := 2) hX dX11_pairStreets_48 rfl inlX11 wm1_20 ⟨rfl, by decide, rfl⟩ (z_gr (c := 5) (j := 1) hX dX11_pairStreets_51 rfl inlX5 wm21_22 ⟨rfl, by decide, rfl⟩ (z_gi (c := 4) (j := 0) hX dX11_pairStreets_54 rfl inlX4 wm62_14 ⟨rfl, by decide, rfl⟩ (z_icge hX dX11_pairStreets_57 (by decide) (tX11_pairStreets_166 hX hr hq) (z_ald_n hX dX11_pairStreets_60 rfl (z_gr (c := 11) (j := 2) hX dX11_pairStreets_61 rfl inlX11 wm1_20 ⟨rfl, by decide, rfl⟩ (z_gr (c := 5) (j := 1) hX dX11_pairStreets_64 rfl inlX5 wm21_22 ⟨rfl, by decide, rfl⟩ (z_gr (c := 4) (j := 2) hX dX11_pairStreets_67 rfl inlX4 wm48_10 ⟨rfl, by decide, rfl⟩ (z_ild hX dX11_pairStreets_70 (z_iald hX dX11_pairStreets_72 (z_ald_n hX dX11_pairStreets_73 rfl (z_gr (c := 11) (j := 2) hX dX11_pairStreets_74 rfl inlX11 wm1_20 ⟨rfl, by decide, rfl⟩ (z_gr (c := 5) (j := 1) hX dX11_pairStreets_77 rfl inlX5 wm21_22 ⟨rfl, by decide, rfl⟩ (z_gr (c := 4) (j := 2) hX dX11_pairStreets_80 rfl inlX4 wm48_10 ⟨rfl, by decide, rfl⟩ (z_ild hX dX11_pairStreets_83 (z_iald hX dX11_pairStreets_85 (z_icne hX dX11_pairStreets_86 (by decide) (tX11_pairStreets_160 hX hr hq) (z_ald_n hX dX11_pairStreets_89 rfl (z_gr (c := 11) (j := 2) hX dX11_pairStreets_90 rfl inlX11 wm1_20 ⟨rfl, by decide, rfl⟩ (z_ild hX dX11_pairStreets_93 (z_ild_n hX dX11_pairStreets_95 rfl (z_cv (c := 5) hX hr dX11_pairStreets_96 hjX5_isOpenKnownNumberIn mwX5_isOpenKnownNumberIn rfl wm63_20 ⟨wm63_21, wm63_22⟩ ⟨Nat.le_of_ble_eq_true rfl, Nat.le_of_ble_eq_true rfl⟩ ((tX11_pairStreets_99 hX hr hq)))))))))))))))))))))))))
def kX11_pairStreets_14 (r : pu_R) : pu_K := s_ild 4 (s_ald 0 (s_gr 11 2 (s_gr 5 1 (s_gi 4 0 (s_icge (kX11_pairStreets_172 r) (s_ald 0 (s_gr 11 2 (s_ild 4 (s_ild 1 (s_cv r 192 2 5 (s_ifeq (kX11_pairStreets_166 r) (s_push (.int (0)) (s_ist 5 ((r 413)))))))))))))))
theorem vX11_pairStreets_14 : pu_cok2 kX11_pairStreets_14 := fun rf r hr => by
  unfold kX11_pairStreets_14
  exact v_ild (v_ald (v_gr (v_gr (v_gi (v_icge (vX11_pairStreets_172 rf r hr) (v_ald (v_gr (v_ild (v_ild (v_cv hr (v_ifeq (vX11_pairStreets_166 rf r hr) (v_pi (v_ist ((hr 413)))))))))))))))
theorem tX11_pairStreets_14 {X : pu_X} {r : pu_R} (hX : pu_H X mdX11_pairStreets) (hr : pu_P X.2.1 X.2.2.2.2.2.2.2.2.2.2.1 r) (hq : ∀ i pc, pu_lp i = some (194, pc) → pu_S X mdX11_pairStreets pc (r i)) : pu_S X mdX11_pairStreets 14 (kX11_pairStreets_14 r) := by
  unfold kX11_pairStreets_14
  exact z_ild hX dX11_pairStreets_14 (z_ald_n hX dX11_pairStreets_16 rfl (z_gr (c := 11) (j := 2) hX dX11_pairStreets_17 rfl inlX11 wm1_20 ⟨rfl, by decide, rfl⟩ (z_gr (c := 5) (j := 1) hX dX11_pairStreets_20 rfl inlX5 wm21_22 ⟨rfl, by decide, rfl⟩ (z_gi (c := 4) (j := 0) hX dX11_pairStreets_23 rfl inlX4 wm62_14 ⟨rfl, by decide, rfl⟩ (z_icge hX dX11_pairStreets_26 (by decide) (tX11_pairStreets_172 hX hr hq) (z_ald_n hX dX11_pairStreets_29 rfl (z_gr (c := 11) (j := 2) hX dX11_pairStreets_30 rfl inlX11 wm1_20 ⟨rfl, by decide, rfl⟩ (z_ild hX dX11_pairStreets_33 (z_ild_n hX dX11_pairStreets_35 rfl (z_cv (c := 5) hX hr dX11_pairStreets_36 hjX5_isOpenKnownNumberIn mwX5_isOpenKnownNumberIn rfl wm63_20 ⟨wm63_21, wm63_22⟩ ⟨Nat.le_of_ble_eq_true rfl, Nat.le_of_ble_eq_true rfl⟩ (z_ifeq hX dX11_pairStreets_39 (by decide) (tX11_pairStreets_166 hX hr hq) (z_iconst hX dX11_pairStreets_42 (by decide) (z_ist hX dX11_pairStreets_43 ((hq 413 45 hl413)))))))))))))))
def kX11_pairStreets_0 (r : pu_R) : pu_K := s_ald 0 (s_gr 11 2 (s_gr 5 6 (s_gi 1 3 (s_ist 3 (s_push (.int (0)) (s_ist 4 ((r 412))))))))
theorem vX11_pairStreets_0 : pu_cok2 kX11_pairStreets_0 := fun rf r hr => by
  unfold kX11_pairStreets_0
  exact v_ald (v_gr (v_gr (v_gi (v_ist (v_pi (v_ist ((hr 412))))))))
theorem tX11_pairStreets_0 {X : pu_X} {r : pu_R} (hX : pu_H X mdX11_pairStreets) (hr : pu_P X.2.1 X.2.2.2.2.2.2.2.2.2.2.1 r) (hq : ∀ i pc, pu_lp i = some (194, pc) → pu_S X mdX11_pairStreets pc (r i)) : pu_S X mdX11_pairStreets 0 (kX11_pairStreets_0 r) := by
  unfold kX11_pairStreets_0
  exact z_ald_n hX dX11_pairStreets_0 rfl (z_gr (c := 11) (j := 2) hX dX11_pairStreets_1 rfl inlX11 wm1_20 ⟨rfl, by decide, rfl⟩ (z_gr (c := 5) (j := 6) hX dX11_pairStreets_4 rfl inlX5 wm54_0 ⟨rfl, by decide, rfl⟩ (z_gi (c := 1) (j := 3) hX dX11_pairStreets_7 rfl inlX1 wm63_15 ⟨rfl, by decide, rfl⟩ (z_ist_n hX dX11_pairStreets_10 rfl (z_iconst hX dX11_pairStreets_11 (by decide) (z_ist hX dX11_pairStreets_12 ((hq 412 14 hl412))))))))
def kX11_pairTowns_64 (r : pu_R) : pu_K := s_vret
theorem vX11_pairTowns_64 : pu_cok2 kX11_pairTowns_64 := fun rf r hr => by
  unfold kX11_pairTowns_64
  exact v_vret
theorem tX11_pairTowns_64 {X : pu_X} {r : pu_R} (hX : pu_H X mdX11_pairTowns) (hr : pu_P X.2.1 X.2.2.2.2.2.2.2.2.2.2.1 r) (hq : ∀ i pc, pu_lp i = some (195, pc) → pu_S X mdX11_pairTowns pc (r i)) : pu_S X mdX11_pairTowns 64 (kX11_pairTowns_64 r) := by
  unfold kX11_pairTowns_64
  exact z_vret hX dX11_pairTowns_64 rfl
def kX11_pairTowns_58 (r : pu_R) : pu_K := s_inc 3 (1) ((r 414))
theorem vX11_pairTowns_58 : pu_cok2 kX11_pairTowns_58 := fun rf r hr => by
  unfold kX11_pairTowns_58
  exact v_inc ((hr 414))
theorem tX11_pairTowns_58 {X : pu_X} {r : pu_R} (hX : pu_H X mdX11_pairTowns) (hr : pu_P X.2.1 X.2.2.2.2.2.2.2.2.2.2.1 r) (hq : ∀ i pc, pu_lp i = some (195, pc) → pu_S X mdX11_pairTowns pc (r i)) : pu_S X mdX11_pairTowns 58 (kX11_pairTowns_58 r) := by
  unfold kX11_pairTowns_58
  exact z_inc hX dX11_pairTowns_58 (by decide) ((z_goto hX dX11_pairTowns_61 (by decide) (hq 414 2 hl414)))
def kX11_pairTowns_52 (r : pu_R) : pu_K := s_ild 3 (s_ild 4 (s_cv r 194 2 11 ((kX11_pairTowns_58 r))))
theorem vX11_pairTowns_52 : pu_cok2 kX11_pairTowns_52 := fun rf r hr => by
  unfold kX11_pairTowns_52
  exact v_ild (v_ild (v_cv hr ((vX11_pairTowns_58 rf r hr))))
theorem tX11_pairTowns_52 {X : pu_X} {r : pu_R} (hX : pu_H X mdX11_pairTowns) (hr : pu_P X.2.1 X.2.2.2.2.2.2.2.2.2.2.1 r) (hq : ∀ i pc, pu_lp i = some (195, pc) → pu_S X mdX11_pairTowns pc (r i)) : pu_S X mdX11_pairTowns 52 (kX11_pairTowns_52 r) := by
  unfold kX11_pairTowns_52
  exact z_ild_n hX dX11_pairTowns_52 rfl (z_ild hX dX11_pairTowns_53 (z_cv (c := 11) hX hr dX11_pairTowns_55 hjX11_pairStreets mwX11_pairStreets rfl wm63_16 ⟨wm63_17, wm63_18⟩ ⟨Nat.le_of_ble_eq_true rfl, Nat.le_of_ble_eq_true rfl⟩ ((tX11_pairTowns_58 hX hr hq))))
def kX11_pairTowns_2 (r : pu_R) : pu_K := s_ild 3 (s_ald 0 (s_gr 11 2 (s_gr 5 3 (s_gi 10 1 (s_icge (kX11_pairTowns_64 r) (s_ald 0 (s_gr 11 2 (s_gr 5 2 (s_ild 3 (s_cv r 62 1 3 (s_ild 1 (s_icne (kX11_pairTowns_58 r) (s_ald 0 (s_gr 11 2 (s_gr 5 2 (s_ild 3 (s_ild 2 (s_cv r 117 2 3 (s_ist 4 (s_ild 4 (s_push (.int (-1)) (s_iceq (kX11_pairTowns_58 r) (s_ald 0 ((kX11_pairTowns_52 r)))))))))))))))))))))))))
theorem vX11_pairTowns_2 : pu_cok2 kX11_pairTowns_2 := fun rf r hr => by
  unfold kX11_pairTowns_2
  exact v_ild (v_ald (v_gr (v_gr (v_gi (v_icge (vX11_pairTowns_64 rf r hr) (v_ald (v_gr (v_gr (v_ild (v_cv hr (v_ild (v_icne (vX11_pairTowns_58 rf r hr) (v_ald (v_gr (v_gr (v_ild (v_ild (v_cv hr (v_ist (v_ild (v_pi (v_iceq (vX11_pairTowns_58 rf r hr) (v_ald ((vX11_pairTowns_52 rf r hr)))))))))))))))))))))))))
theorem tX11_pairTowns_2 {X : pu_X} {r : pu_R} (hX : pu_H X mdX11_pairTowns) (hr : pu_P X.2.1 X.2.2.2.2.2.2.2.2.2.2.1 r) (hq : ∀ i pc, pu_lp i = some (195, pc) → pu_S X mdX11_pairTowns pc (r i)) : pu_S X mdX11_pairTowns 2 (kX11_pairTowns_2 r) := by
  unfold kX11_pairTowns_2
  exact z_ild_n hX dX11_pairTowns_2 rfl (z_ald_n hX dX11_pairTowns_3 rfl (z_gr (c := 11) (j := 2) hX dX11_pairTowns_4 rfl inlX11 wm1_20 ⟨rfl, by decide, rfl⟩ (z_gr (c := 5) (j := 3) hX dX11_pairTowns_7 rfl inlX5 wm11_22 ⟨rfl, by decide, rfl⟩ (z_gi (c := 10) (j := 1) hX dX11_pairTowns_10 rfl inlX10 wm17_14 ⟨rfl, by decide, rfl⟩ (z_icge hX dX11_pairTowns_13 (by decide) (tX11_pairTowns_64 hX hr hq) (z_ald_n hX dX11_pairTowns_16 rfl (z_gr (c := 11) (j := 2) hX dX11_pairTowns_17 rfl inlX11 wm1_20 ⟨rfl, by decide, rfl⟩ (z_gr (c := 5) (j := 2) hX dX11_pairTowns_20 rfl inlX5 wm16_7 ⟨rfl, by decide, rfl⟩ (z_ild_n hX dX11_pairTowns_23 rfl (z_cv (c := 3) hX hr dX11_pairTowns_24 hjX3_townOf mwX3_townOf rfl wm64_11 ⟨wm22_20, wm22_21⟩ ⟨Nat.le_of_ble_eq_true rfl, Nat.le_of_ble_eq_true rfl⟩ (z_ild_n hX dX11_pairTowns_27 rfl (z_icne hX dX11_pairTowns_28 (by decide) (tX11_pairTowns_58 hX hr hq) (z_ald_n hX dX11_pairTowns_31 rfl (z_gr (c := 11) (j := 2) hX dX11_pairTowns_32 rfl inlX11 wm1_20 ⟨rfl, by decide, rfl⟩ (z_gr (c := 5) (j := 2) hX dX11_pairTowns_35 rfl inlX5 wm16_7 ⟨rfl, by decide, rfl⟩ (z_ild_n hX dX11_pairTowns_38 rfl (z_ild_n hX dX11_pairTowns_39 rfl (z_cv (c := 3) hX hr dX11_pairTowns_40 hjX3_streetNamedLike mwX3_streetNamedLike rfl wm64_12 ⟨wm40_8, wm40_9⟩ ⟨Nat.le_of_ble_eq_true rfl, Nat.le_of_ble_eq_true rfl⟩ (z_ist hX dX11_pairTowns_43 (z_ild hX dX11_pairTowns_45 (z_iconst hX dX11_pairTowns_47 (by decide) (z_iceq hX dX11_pairTowns_48 (by decide) (tX11_pairTowns_58 hX hr hq) (z_ald_n hX dX11_pairTowns_51 rfl ((tX11_pairTowns_52 hX hr hq)))))))))))))))))))))))))
def kX11_pairTowns_0 (r : pu_R) : pu_K := s_push (.int (0)) (s_ist 3 ((r 414)))
theorem vX11_pairTowns_0 : pu_cok2 kX11_pairTowns_0 := fun rf r hr => by
  unfold kX11_pairTowns_0
  exact v_pi (v_ist ((hr 414)))
theorem tX11_pairTowns_0 {X : pu_X} {r : pu_R} (hX : pu_H X mdX11_pairTowns) (hr : pu_P X.2.1 X.2.2.2.2.2.2.2.2.2.2.1 r) (hq : ∀ i pc, pu_lp i = some (195, pc) → pu_S X mdX11_pairTowns pc (r i)) : pu_S X mdX11_pairTowns 0 (kX11_pairTowns_0 r) := by
  unfold kX11_pairTowns_0
  exact z_iconst hX dX11_pairTowns_0 (by decide) (z_ist_n hX dX11_pairTowns_1 rfl ((hq 414 2 hl414)))
def kX11_twice_101 (r : pu_R) : pu_K := s_ald 0 (s_gr 11 2 (s_gr 5 6 (s_gi 1 3 (s_iret))))
theorem vX11_twice_101 : pu_cok2 kX11_twice_101 := fun rf r hr => by
  unfold kX11_twice_101
  exact v_ald (v_gr (v_gr (v_gi (v_iret))))
theorem tX11_twice_101 {X : pu_X} {r : pu_R} (hX : pu_H X mdX11_twice) (hr : pu_P X.2.1 X.2.2.2.2.2.2.2.2.2.2.1 r) (hq : ∀ i pc, pu_lp i = some (196, pc) → pu_S X mdX11_twice pc (r i)) : pu_S X mdX11_twice 101 (kX11_twice_101 r) := by
  unfold kX11_twice_101
  exact z_ald_n hX dX11_twice_101 rfl (z_gr (c := 11) (j := 2) hX dX11_twice_102 rfl inlX11 wm1_20 ⟨rfl, by decide, rfl⟩ (z_gr (c := 5) (j := 6) hX dX11_twice_105 rfl inlX5 wm54_0 ⟨rfl, by decide, rfl⟩ (z_gi (c := 1) (j := 3) hX dX11_twice_108 rfl inlX1 wm63_15 ⟨rfl, by decide, rfl⟩ (z_iret hX dX11_twice_111 rfl))))
def kX11_twice_95 (r : pu_R) : pu_K := s_ald 0 (s_ild 2 (s_ild 3 (s_cv r 195 2 11 ((kX11_twice_101 r)))))
theorem vX11_twice_95 : pu_cok2 kX11_twice_95 := fun rf r hr => by
  unfold kX11_twice_95
  exact v_ald (v_ild (v_ild (v_cv hr ((vX11_twice_101 rf r hr)))))
theorem tX11_twice_95 {X : pu_X} {r : pu_R} (hX : pu_H X mdX11_twice) (hr : pu_P X.2.1 X.2.2.2.2.2.2.2.2.2.2.1 r) (hq : ∀ i pc, pu_lp i = some (196, pc) → pu_S X mdX11_twice pc (r i)) : pu_S X mdX11_twice 95 (kX11_twice_95 r) := by
  unfold kX11_twice_95
  exact z_ald_n hX dX11_twice_95 rfl (z_ild_n hX dX11_twice_96 rfl (z_ild_n hX dX11_twice_97 rfl (z_cv (c := 11) hX hr dX11_twice_98 hjX11_pairTowns mwX11_pairTowns rfl wm64_7 ⟨wm64_8, wm64_9⟩ ⟨Nat.le_of_ble_eq_true rfl, Nat.le_of_ble_eq_true rfl⟩ ((tX11_twice_101 hX hr hq)))))
def kX11_twice_71 (r : pu_R) : pu_K := s_ald 0 (s_gr 11 2 (s_gr 5 6 (s_push (.int (0)) (s_pi 1 3 (s_ild 1 (s_ifne (kX11_twice_95 r) (s_ald 0 (s_ild 2 (s_ild 3 (s_cv r 194 2 11 ((kX11_twice_101 r))))))))))))
theorem vX11_twice_71 : pu_cok2 kX11_twice_71 := fun rf r hr => by
  unfold kX11_twice_71
  exact v_ald (v_gr (v_gr (v_pi (v_puti (v_ild (v_ifne (vX11_twice_95 rf r hr) (v_ald (v_ild (v_ild (v_cv hr ((vX11_twice_101 rf r hr))))))))))))
theorem tX11_twice_71 {X : pu_X} {r : pu_R} (hX : pu_H X mdX11_twice) (hr : pu_P X.2.1 X.2.2.2.2.2.2.2.2.2.2.1 r) (hq : ∀ i pc, pu_lp i = some (196, pc) → pu_S X mdX11_twice pc (r i)) : pu_S X mdX11_twice 71 (kX11_twice_71 r) := by
  unfold kX11_twice_71
  exact z_ald_n hX dX11_twice_71 rfl (z_gr (c := 11) (j := 2) hX dX11_twice_72 rfl inlX11 wm1_20 ⟨rfl, by decide, rfl⟩ (z_gr (c := 5) (j := 6) hX dX11_twice_75 rfl inlX5 wm54_0 ⟨rfl, by decide, rfl⟩ (z_iconst hX dX11_twice_78 (by decide) (z_pi (c := 1) (j := 3) tyX1 tyX1_ok nmX1 hX dX11_twice_79 rfl inlX1 wm63_15 ⟨rfl, by decide⟩ ⟨rfl, rfl⟩ rfl (z_ild_n hX dX11_twice_82 rfl (z_ifne hX dX11_twice_83 (by decide) (tX11_twice_95 hX hr hq) (z_ald_n hX dX11_twice_86 rfl (z_ild_n hX dX11_twice_87 rfl (z_ild_n hX dX11_twice_88 rfl (z_cv (c := 11) hX hr dX11_twice_89 hjX11_pairStreets mwX11_pairStreets rfl wm63_16 ⟨wm63_17, wm63_18⟩ ⟨Nat.le_of_ble_eq_true rfl, Nat.le_of_ble_eq_true rfl⟩ ((z_goto hX dX11_twice_92 (by decide) (tX11_twice_101 hX hr hq)))))))))))))
def kX11_twice_63 (r : pu_R) : pu_K := s_ild 2 (s_ild 3 (s_icne (kX11_twice_71 r) (s_push (.int (-2)) (s_iret))))
theorem vX11_twice_63 : pu_cok2 kX11_twice_63 := fun rf r hr => by
  unfold kX11_twice_63
  exact v_ild (v_ild (v_icne (vX11_twice_71 rf r hr) (v_pi (v_iret))))
theorem tX11_twice_63 {X : pu_X} {r : pu_R} (hX : pu_H X mdX11_twice) (hr : pu_P X.2.1 X.2.2.2.2.2.2.2.2.2.2.1 r) (hq : ∀ i pc, pu_lp i = some (196, pc) → pu_S X mdX11_twice pc (r i)) : pu_S X mdX11_twice 63 (kX11_twice_63 r) := by
  unfold kX11_twice_63
  exact z_ild_n hX dX11_twice_63 rfl (z_ild_n hX dX11_twice_64 rfl (z_icne hX dX11_twice_65 (by decide) (tX11_twice_71 hX hr hq) (z_bipush hX dX11_twice_68 (by decide) (z_iret hX dX11_twice_70 rfl))))
def kX11_twice_61 (r : pu_R) : pu_K := s_push (.int (-1)) (s_iret)
theorem vX11_twice_61 : pu_cok2 kX11_twice_61 := fun rf r hr => by
  unfold kX11_twice_61
  exact v_pi (v_iret)
theorem tX11_twice_61 {X : pu_X} {r : pu_R} (hX : pu_H X mdX11_twice) (hr : pu_P X.2.1 X.2.2.2.2.2.2.2.2.2.2.1 r) (hq : ∀ i pc, pu_lp i = some (196, pc) → pu_S X mdX11_twice pc (r i)) : pu_S X mdX11_twice 61 (kX11_twice_61 r) := by
  unfold kX11_twice_61
  exact z_iconst hX dX11_twice_61 (by decide) (z_iret hX dX11_twice_62 rfl)
def kX11_twice_39 (r : pu_R) : pu_K := s_ist 4 (s_ild 2 (s_iflt (kX11_twice_61 r) (s_ild 3 (s_iflt (kX11_twice_61 r) (s_ild 2 (s_ild 4 (s_icge (kX11_twice_61 r) (s_ild 3 (s_ild 4 (s_iclt (kX11_twice_63 r) ((kX11_twice_61 r))))))))))))
theorem vX11_twice_39 : pu_cok2 kX11_twice_39 := fun rf r hr => by
  unfold kX11_twice_39
  exact v_ist (v_ild (v_iflt (vX11_twice_61 rf r hr) (v_ild (v_iflt (vX11_twice_61 rf r hr) (v_ild (v_ild (v_icge (vX11_twice_61 rf r hr) (v_ild (v_ild (v_iclt (vX11_twice_63 rf r hr) ((vX11_twice_61 rf r hr))))))))))))
theorem tX11_twice_39 {X : pu_X} {r : pu_R} (hX : pu_H X mdX11_twice) (hr : pu_P X.2.1 X.2.2.2.2.2.2.2.2.2.2.1 r) (hq : ∀ i pc, pu_lp i = some (196, pc) → pu_S X mdX11_twice pc (r i)) : pu_S X mdX11_twice 39 (kX11_twice_39 r) := by
  unfold kX11_twice_39
  exact z_ist hX dX11_twice_39 (z_ild_n hX dX11_twice_41 rfl (z_iflt hX dX11_twice_42 (by decide) (tX11_twice_61 hX hr hq) (z_ild_n hX dX11_twice_45 rfl (z_iflt hX dX11_twice_46 (by decide) (tX11_twice_61 hX hr hq) (z_ild_n hX dX11_twice_49 rfl (z_ild hX dX11_twice_50 (z_icge hX dX11_twice_52 (by decide) (tX11_twice_61 hX hr hq) (z_ild_n hX dX11_twice_55 rfl (z_ild hX dX11_twice_56 (z_iclt hX dX11_twice_58 (by decide) (tX11_twice_63 hX hr hq) ((tX11_twice_61 hX hr hq))))))))))))
def kX11_twice_29 (r : pu_R) : pu_K := s_ald 0 (s_gr 11 2 (s_gr 5 3 (s_gi 10 0 ((kX11_twice_39 r)))))
theorem vX11_twice_29 : pu_cok2 kX11_twice_29 := fun rf r hr => by
  unfold kX11_twice_29
  exact v_ald (v_gr (v_gr (v_gi ((vX11_twice_39 rf r hr)))))
theorem tX11_twice_29 {X : pu_X} {r : pu_R} (hX : pu_H X mdX11_twice) (hr : pu_P X.2.1 X.2.2.2.2.2.2.2.2.2.2.1 r) (hq : ∀ i pc, pu_lp i = some (196, pc) → pu_S X mdX11_twice pc (r i)) : pu_S X mdX11_twice 29 (kX11_twice_29 r) := by
  unfold kX11_twice_29
  exact z_ald_n hX dX11_twice_29 rfl (z_gr (c := 11) (j := 2) hX dX11_twice_30 rfl inlX11 wm1_20 ⟨rfl, by decide, rfl⟩ (z_gr (c := 5) (j := 3) hX dX11_twice_33 rfl inlX5 wm11_22 ⟨rfl, by decide, rfl⟩ (z_gi (c := 10) (j := 0) hX dX11_twice_36 rfl inlX10 wm12_0 ⟨rfl, by decide, rfl⟩ ((tX11_twice_39 hX hr hq)))))
def kX11_twice_12 (r : pu_R) : pu_K := s_ild 1 (s_ifne (kX11_twice_29 r) (s_ald 0 (s_gr 11 2 (s_gr 5 3 (s_gi 10 1 ((kX11_twice_39 r)))))))
theorem vX11_twice_12 : pu_cok2 kX11_twice_12 := fun rf r hr => by
  unfold kX11_twice_12
  exact v_ild (v_ifne (vX11_twice_29 rf r hr) (v_ald (v_gr (v_gr (v_gi ((vX11_twice_39 rf r hr)))))))
theorem tX11_twice_12 {X : pu_X} {r : pu_R} (hX : pu_H X mdX11_twice) (hr : pu_P X.2.1 X.2.2.2.2.2.2.2.2.2.2.1 r) (hq : ∀ i pc, pu_lp i = some (196, pc) → pu_S X mdX11_twice pc (r i)) : pu_S X mdX11_twice 12 (kX11_twice_12 r) := by
  unfold kX11_twice_12
  exact z_ild_n hX dX11_twice_12 rfl (z_ifne hX dX11_twice_13 (by decide) (tX11_twice_29 hX hr hq) (z_ald_n hX dX11_twice_16 rfl (z_gr (c := 11) (j := 2) hX dX11_twice_17 rfl inlX11 wm1_20 ⟨rfl, by decide, rfl⟩ (z_gr (c := 5) (j := 3) hX dX11_twice_20 rfl inlX5 wm11_22 ⟨rfl, by decide, rfl⟩ (z_gi (c := 10) (j := 1) hX dX11_twice_23 rfl inlX10 wm17_14 ⟨rfl, by decide, rfl⟩ ((z_goto hX dX11_twice_26 (by decide) (tX11_twice_39 hX hr hq))))))))
def kX11_twice_0 (r : pu_R) : pu_K := s_ild 1 (s_ifeq (kX11_twice_12 r) (s_ild 1 (s_push (.int (1)) (s_iceq (kX11_twice_12 r) (s_push (.int (-2)) (s_iret))))))
theorem vX11_twice_0 : pu_cok2 kX11_twice_0 := fun rf r hr => by
  unfold kX11_twice_0
  exact v_ild (v_ifeq (vX11_twice_12 rf r hr) (v_ild (v_pi (v_iceq (vX11_twice_12 rf r hr) (v_pi (v_iret))))))
theorem tX11_twice_0 {X : pu_X} {r : pu_R} (hX : pu_H X mdX11_twice) (hr : pu_P X.2.1 X.2.2.2.2.2.2.2.2.2.2.1 r) (hq : ∀ i pc, pu_lp i = some (196, pc) → pu_S X mdX11_twice pc (r i)) : pu_S X mdX11_twice 0 (kX11_twice_0 r) := by
  unfold kX11_twice_0
  exact z_ild_n hX dX11_twice_0 rfl (z_ifeq hX dX11_twice_1 (by decide) (tX11_twice_12 hX hr hq) (z_ild_n hX dX11_twice_4 rfl (z_iconst hX dX11_twice_5 (by decide) (z_iceq hX dX11_twice_6 (by decide) (tX11_twice_12 hX hr hq) (z_bipush hX dX11_twice_9 (by decide) (z_iret hX dX11_twice_11 rfl))))))
def kX11_pair_58 (r : pu_R) : pu_K := s_iret
theorem vX11_pair_58 : pu_cok2 kX11_pair_58 := fun rf r hr => by
  unfold kX11_pair_58
  exact v_iret
theorem tX11_pair_58 {X : pu_X} {r : pu_R} (hX : pu_H X mdX11_pair) (hr : pu_P X.2.1 X.2.2.2.2.2.2.2.2.2.2.1 r) (hq : ∀ i pc, pu_lp i = some (197, pc) → pu_S X mdX11_pair pc (r i)) : pu_S X mdX11_pair 58 (kX11_pair_58 r) := by
  unfold kX11_pair_58
  exact z_iret hX dX11_pair_58 rfl
def kX11_pair_57 (r : pu_R) : pu_K := s_push (.int (-1)) ((kX11_pair_58 r))
theorem vX11_pair_57 : pu_cok2 kX11_pair_57 := fun rf r hr => by
  unfold kX11_pair_57
  exact v_pi ((vX11_pair_58 rf r hr))
theorem tX11_pair_57 {X : pu_X} {r : pu_R} (hX : pu_H X mdX11_pair) (hr : pu_P X.2.1 X.2.2.2.2.2.2.2.2.2.2.1 r) (hq : ∀ i pc, pu_lp i = some (197, pc) → pu_S X mdX11_pair pc (r i)) : pu_S X mdX11_pair 57 (kX11_pair_57 r) := by
  unfold kX11_pair_57
  exact z_iconst hX dX11_pair_57 (by decide) ((tX11_pair_58 hX hr hq))
def kX11_pair_37 (r : pu_R) : pu_K := s_ild 2 (s_push (.int (1)) (s_icne (kX11_pair_57 r) (s_ald 0 (s_gr 11 2 (s_gr 5 6 (s_gr 1 12 (s_ild 1 (s_ai 1 ((kX11_pair_58 r))))))))))
theorem vX11_pair_37 : pu_cok2 kX11_pair_37 := fun rf r hr => by
  unfold kX11_pair_37
  exact v_ild (v_pi (v_icne (vX11_pair_57 rf r hr) (v_ald (v_gr (v_gr (v_gr (v_ild (v_ai ((vX11_pair_58 rf r hr))))))))))
theorem tX11_pair_37 {X : pu_X} {r : pu_R} (hX : pu_H X mdX11_pair) (hr : pu_P X.2.1 X.2.2.2.2.2.2.2.2.2.2.1 r) (hq : ∀ i pc, pu_lp i = some (197, pc) → pu_S X mdX11_pair pc (r i)) : pu_S X mdX11_pair 37 (kX11_pair_37 r) := by
  unfold kX11_pair_37
  exact z_ild_n hX dX11_pair_37 rfl (z_iconst hX dX11_pair_38 (by decide) (z_icne hX dX11_pair_39 (by decide) (tX11_pair_57 hX hr hq) (z_ald_n hX dX11_pair_42 rfl (z_gr (c := 11) (j := 2) hX dX11_pair_43 rfl inlX11 wm1_20 ⟨rfl, by decide, rfl⟩ (z_gr (c := 5) (j := 6) hX dX11_pair_46 rfl inlX5 wm54_0 ⟨rfl, by decide, rfl⟩ (z_gr (c := 1) (j := 12) hX dX11_pair_49 rfl inlX1 wm65_3 ⟨rfl, by decide, rfl⟩ (z_ild_n hX dX11_pair_52 rfl (z_iald hX dX11_pair_53 ((z_goto hX dX11_pair_54 (by decide) (tX11_pair_58 hX hr hq)))))))))))
def kX11_pair_20 (r : pu_R) : pu_K := s_ild 2 (s_ifne (kX11_pair_37 r) (s_ald 0 (s_gr 11 2 (s_gr 5 6 (s_gr 1 11 (s_ild 1 (s_ai 1 (s_iret))))))))
theorem vX11_pair_20 : pu_cok2 kX11_pair_20 := fun rf r hr => by
  unfold kX11_pair_20
  exact v_ild (v_ifne (vX11_pair_37 rf r hr) (v_ald (v_gr (v_gr (v_gr (v_ild (v_ai (v_iret))))))))
theorem tX11_pair_20 {X : pu_X} {r : pu_R} (hX : pu_H X mdX11_pair) (hr : pu_P X.2.1 X.2.2.2.2.2.2.2.2.2.2.1 r) (hq : ∀ i pc, pu_lp i = some (197, pc) → pu_S X mdX11_pair pc (r i)) : pu_S X mdX11_pair 20 (kX11_pair_20 r) := by
  unfold kX11_pair_20
  exact z_ild_n hX dX11_pair_20 rfl (z_ifne hX dX11_pair_21 (by decide) (tX11_pair_37 hX hr hq) (z_ald_n hX dX11_pair_24 rfl (z_gr (c := 11) (j := 2) hX dX11_pair_25 rfl inlX11 wm1_20 ⟨rfl, by decide, rfl⟩ (z_gr (c := 5) (j := 6) hX dX11_pair_28 rfl inlX5 wm54_0 ⟨rfl, by decide, rfl⟩ (z_gr (c := 1) (j := 11) hX dX11_pair_31 rfl inlX1 wm65_2 ⟨rfl, by decide, rfl⟩ (z_ild_n hX dX11_pair_34 rfl (z_iald hX dX11_pair_35 (z_iret hX dX11_pair_36 rfl))))))))
def kX11_pair_18 (r : pu_R) : pu_K := s_push (.int (-1)) (s_iret)
theorem vX11_pair_18 : pu_cok2 kX11_pair_18 := fun rf r hr => by
  unfold kX11_pair_18
  exact v_pi (v_iret)
theorem tX11_pair_18 {X : pu_X} {r : pu_R} (hX : pu_H X mdX11_pair) (hr : pu_P X.2.1 X.2.2.2.2.2.2.2.2.2.2.1 r) (hq : ∀ i pc, pu_lp i = some (197, pc) → pu_S X mdX11_pair pc (r i)) : pu_S X mdX11_pair 18 (kX11_pair_18 r) := by
  unfold kX11_pair_18
  exact z_iconst hX dX11_pair_18 (by decide) (z_iret hX dX11_pair_19 rfl)
def kX11_pair_0 (r : pu_R) : pu_K := s_ild 1 (s_iflt (kX11_pair_18 r) (s_ild 1 (s_ald 0 (s_gr 11 2 (s_gr 5 6 (s_gi 1 3 (s_iclt (kX11_pair_20 r) ((kX11_pair_18 r)))))))))
theorem vX11_pair_0 : pu_cok2 kX11_pair_0 := fun rf r hr => by
  unfold kX11_pair_0
  exact v_ild (v_iflt (vX11_pair_18 rf r hr) (v_ild (v_ald (v_gr (v_gr (v_gi (v_iclt (vX11_pair_20 rf r hr) ((vX11_pair_18 rf r hr)))))))))
theorem tX11_pair_0 {X : pu_X} {r : pu_R} (hX : pu_H X mdX11_pair) (hr : pu_P X.2.1 X.2.2.2.2.2.2.2.2.2.2.1 r) (hq : ∀ i pc, pu_lp i = some (197, pc) → pu_S X mdX11_pair pc (r i)) : pu_S X mdX11_pair 0 (kX11_pair_0 r) := by
  unfold kX11_pair_0
  exact z_ild_n hX dX11_pair_0 rfl (z_iflt hX dX11_pair_1 (by decide) (tX11_pair_18 hX hr hq) (z_ild_n hX dX11_pair_4 rfl (z_ald_n hX dX11_pair_5 rfl (z_gr (c := 11) (j := 2) hX dX11_pair_6 rfl inlX11 wm1_20 ⟨rfl, by decide, rfl⟩ (z_gr (c := 5) (j := 6) hX dX11_pair_9 rfl inlX5 wm54_0 ⟨rfl, by decide, rfl⟩ (z_gi (c := 1) (j := 3) hX dX11_pair_12 rfl inlX1 wm63_15 ⟨rfl, by decide, rfl⟩ (z_iclt hX dX11_pair_15 (by decide) (tX11_pair_20 hX hr hq) ((tX11_pair_18 hX hr hq)))))))))
def kX11_free_27 (r : pu_R) : pu_K := s_ald 0 (s_ild 1 (s_ild 2 (s_ild 3 (s_push (.int (0)) (s_cv r 83 4 11 (s_iret))))))
theorem vX11_free_27 : pu_cok2 kX11_free_27 := fun rf r hr => by
  unfold kX11_free_27
  exact v_ald (v_ild (v_ild (v_ild (v_pi (v_cv hr (v_iret))))))
theorem tX11_free_27 {X : pu_X} {r : pu_R} (hX : pu_H X mdX11_free) (hr : pu_P X.2.1 X.2.2.2.2.2.2.2.2.2.2.1 r) (hq : ∀ i pc, pu_lp i = some (198, pc) → pu_S X mdX11_free pc (r i)) : pu_S X mdX11_free 27 (kX11_free_27 r) := by
  unfold kX11_free_27
  exact z_ald_n hX dX11_free_27 rfl (z_ild_n hX dX11_free_28 rfl (z_ild_n hX dX11_free_29 rfl (z_ild_n hX dX11_free_30 rfl (z_iconst hX dX11_free_31 (by decide) (z_cv (c := 11) hX hr dX11_free_32 hjX11_fittingNumber mwX11_fittingNumber rfl wm23_4 ⟨wm23_5, wm23_6⟩ ⟨Nat.le_of_ble_eq_true rfl, Nat.le_of_ble_eq_true rfl⟩ (z_iret hX dX11_free_35 rfl))))))
def kX11_free_16 (r : pu_R) : pu_K := s_ild 2 (s_ild 3 (s_cs r 58 2 (s_ifne (kX11_free_27 r) (s_push (.int (-2)) (s_iret)))))
theorem vX11_free_16 : pu_cok2 kX11_free_16 := fun rf r hr => by
  unfold kX11_free_16
  exact v_ild (v_ild (v_cs hr (v_ifne (vX11_free_27 rf r hr) (v_pi (v_iret)))))
theorem tX11_free_16 {X : pu_X} {r : pu_R} (hX : pu_H X mdX11_free) (hr : pu_P X.2.1 X.2.2.2.2.2.2.2.2.2.2.1 r) (hq : ∀ i pc, pu_lp i = some (198, pc) → pu_S X mdX11_free pc (r i)) : pu_S X mdX11_free 16 (kX11_free_16 r) := by
  unfold kX11_free_16
  exact z_ild_n hX dX11_free_16 rfl (z_ild_n hX dX11_free_17 rfl (z_cs hX hr dX11_free_18 hjX11_isPlace mwX11_isPlace wm22_3 wm22_4 ⟨Nat.le_of_ble_eq_true rfl, Nat.le_of_ble_eq_true rfl⟩ (z_ifne hX dX11_free_21 (by decide) (tX11_free_27 hX hr hq) (z_bipush hX dX11_free_24 (by decide) (z_iret hX dX11_free_26 rfl)))))
def kX11_free_0 (r : pu_R) : pu_K := s_ald 0 (s_gr 11 2 (s_gr 5 3 (s_ild 1 (s_cv r 56 1 10 (s_ifne (kX11_free_16 r) (s_push (.int (-1)) (s_iret)))))))
theorem vX11_free_0 : pu_cok2 kX11_free_0 := fun rf r hr => by
  unfold kX11_free_0
  exact v_ald (v_gr (v_gr (v_ild (v_cv hr (v_ifne (vX11_free_16 rf r hr) (v_pi (v_iret)))))))
theorem tX11_free_0 {X : pu_X} {r : pu_R} (hX : pu_H X mdX11_free) (hr : pu_P X.2.1 X.2.2.2.2.2.2.2.2.2.2.1 r) (hq : ∀ i pc, pu_lp i = some (198, pc) → pu_S X mdX11_free pc (r i)) : pu_S X mdX11_free 0 (kX11_free_0 r) := by
  unfold kX11_free_0
  exact z_ald_n hX dX11_free_0 rfl (z_gr (c := 11) (j := 2) hX dX11_free_1 rfl inlX11 wm1_20 ⟨rfl, by decide, rfl⟩ (z_gr (c := 5) (j := 3) hX dX11_free_4 rfl inlX5 wm11_22 ⟨rfl, by decide, rfl⟩ (z_ild_n hX dX11_free_7 rfl (z_cv (c := 10) hX hr dX11_free_8 hjX10_isStreet mwX10_isStreet rfl wm21_23 ⟨wm22_0, wm22_1⟩ ⟨Nat.le_of_ble_eq_true rfl, Nat.le_of_ble_eq_true rfl⟩ (z_ifne hX dX11_free_11 (by decide) (tX11_free_16 hX hr hq) (z_iconst hX dX11_free_14 (by decide) (z_iret hX dX11_free_15 rfl)))))))
def kX11_isNearer_85 (r : pu_R) : pu_K := s_zret
theorem vX11_isNearer_85 : pu_cok2 kX11_isNearer_85 := fun rf r hr => by
  unfold kX11_isNearer_85
  exact v_zret
theorem tX11_isNearer_85 {X : pu_X} {r : pu_R} (hX : pu_H X mdX11_isNearer) (hr : pu_P X.2.1 X.2.2.2.2.2.2.2.2.2.2.1 r) (hq : ∀ i pc, pu_lp i = some (199, pc) → pu_S X mdX11_isNearer pc (r i)) : pu_S X mdX11_isNearer 85 (kX11_isNearer_85 r) := by
  unfold kX11_isNearer_85
  exact z_zret hX dX11_isNearer_85 rfl
def kX11_isNearer_84 (r : pu_R) : pu_K := s_push (.int (0)) ((kX11_isNearer_85 r))
theorem vX11_isNearer_84 : pu_cok2 kX11_isNearer_84 := fun rf r hr => by
  unfold kX11_isNearer_84
  exact v_pi ((vX11_isNearer_85 rf r hr))
theorem tX11_isNearer_84 {X : pu_X} {r : pu_R} (hX : pu_H X mdX11_isNearer) (hr : pu_P X.2.1 X.2.2.2.2.2.2.2.2.2.2.1 r) (hq : ∀ i pc, pu_lp i = some (199, pc) → pu_S X mdX11_isNearer pc (r i)) : pu_S X mdX11_isNearer 84 (kX11_isNearer_84 r) := by
  unfold kX11_isNearer_84
  exact z_iconst hX dX11_isNearer_84 (by decide) ((tX11_isNearer_85 hX hr hq))
def kX11_isNearer_54 (r : pu_R) : pu_K := s_ald 0 (s_gr 11 5 (s_gr 9 6 (s_ild 1 (s_ai 1 (s_ild 3 (s_icne (kX11_isNearer_84 r) (s_ald 0 (s_gr 11 5 (s_gr 9 6 (s_ild 2 (s_ai 1 (s_ild 3 (s_iceq (kX11_isNearer_84 r) (s_push (.int (1)) ((kX11_isNearer_85 r))))))))))))))))
theorem vX11_isNearer_54 : pu_cok2 kX11_isNearer_54 := fun rf r hr => by
  unfold kX11_isNearer_54
  exact v_ald (v_gr (v_gr (v_ild (v_ai (v_ild (v_icne (vX11_isNearer_84 rf r hr) (v_ald (v_gr (v_gr (v_ild (v_ai (v_ild (v_iceq (vX11_isNearer_84 rf r hr) (v_pi ((vX11_isNearer_85 rf r hr))))))))))))))))
theorem tX11_isNearer_54 {X : pu_X} {r : pu_R} (hX : pu_H X mdX11_isNearer) (hr : pu_P X.2.1 X.2.2.2.2.2.2.2.2.2.2.1 r) (hq : ∀ i pc, pu_lp i = some (199, pc) → pu_S X mdX11_isNearer pc (r i)) : pu_S X mdX11_isNearer 54 (kX11_isNearer_54 r) := by
  unfold kX11_isNearer_54
  exact z_ald_n hX dX11_isNearer_54 rfl (z_gr (c := 11) (j := 5) hX dX11_isNearer_55 rfl inlX11 wm2_5 ⟨rfl, by decide, rfl⟩ (z_gr (c := 9) (j := 6) hX dX11_isNearer_58 rfl inlX9 wm36_22 ⟨rfl, by decide, rfl⟩ (z_ild_n hX dX11_isNearer_61 rfl (z_iald hX dX11_isNearer_62 (z_ild_n hX dX11_isNearer_63 rfl (z_icne hX dX11_isNearer_64 (by decide) (tX11_isNearer_84 hX hr hq) (z_ald_n hX dX11_isNearer_67 rfl (z_gr (c := 11) (j := 5) hX dX11_isNearer_68 rfl inlX11 wm2_5 ⟨rfl, by decide, rfl⟩ (z_gr (c := 9) (j := 6) hX dX11_isNearer_71 rfl inlX9 wm36_22 ⟨rfl, by decide, rfl⟩ (z_ild_n hX dX11_isNearer_74 rfl (z_iald hX dX11_isNearer_75 (z_ild_n hX dX11_isNearer_76 rfl (z_iceq hX dX11_isNearer_77 (by decide) (tX11_isNearer_84 hX hr hq) (z_iconst hX dX11_isNearer_80 (by decide) ((z_goto hX dX11_isNearer_81 (by decide) (tX11_isNearer_85 hX hr hq)))))))))))))))))
def kX11_isNearer_53 (r : pu_R) : pu_K := s_zret
theorem vX11_isNearer_53 : pu_cok2 kX11_isNearer_53 := fun rf r hr => by
  unfold kX11_isNearer_53
  exact v_zret
theorem tX11_isNearer_53 {X : pu_X} {r : pu_R} (hX : pu_H X mdX11_isNearer) (hr : pu_P X.2.1 X.2.2.2.2.2.2.2.2.2.2.1 r) (hq : ∀ i pc, pu_lp i = some (199, pc) → pu_S X mdX11_isNearer pc (r i)) : pu_S X mdX11_isNearer 53 (kX11_isNearer_53 r) := by
  unfold kX11_isNearer_53
  exact z_zret hX dX11_isNearer_53 rfl
def kX11_isNearer_52 (r : pu_R) : pu_K := s_push (.int (0)) ((kX11_isNearer_53 r))
theorem vX11_isNearer_52 : pu_cok2 kX11_isNearer_52 := fun rf r hr => by
  unfold kX11_isNearer_52
  exact v_pi ((vX11_isNearer_53 rf r hr))
theorem tX11_isNearer_52 {X : pu_X} {r : pu_R} (hX : pu_H X mdX11_isNearer) (hr : pu_P X.2.1 X.2.2.2.2.2.2.2.2.2.2.1 r) (hq : ∀ i pc, pu_lp i = some (199, pc) → pu_S X mdX11_isNearer pc (r i)) : pu_S X mdX11_isNearer 52 (kX11_isNearer_52 r) := by
  unfold kX11_isNearer_52
  exact z_iconst hX dX11_isNearer_52 (by decide) ((tX11_isNearer_53 hX hr hq))
def kX11_isNearer_48 (r : pu_R) : pu_K := s_push (.int (1)) ((kX11_isNearer_53 r))
theorem vX11_isNearer_48 : pu_cok2 kX11_isNearer_48 := fun rf r hr => by
  unfold kX11_isNearer_48
  exact v_pi ((vX11_isNearer_53 rf r hr))
theorem tX11_isNearer_48 {X : pu_X} {r : pu_R} (hX : pu_H X mdX11_isNearer) (hr : pu_P X.2.1 X.2.2.2.2.2.2.2.2.2.2.1 r) (hq : ∀ i pc, pu_lp i = some (199, pc) → pu_S X mdX11_isNearer pc (r i)) : pu_S X mdX11_isNearer 48 (kX11_isNearer_48 r) := by
  unfold kX11_isNearer_48
  exact z_iconst hX dX11_isNearer_48 (by decide) ((z_goto hX dX11_isNearer_49 (by decide) (tX11_isNearer_53 hX hr hq)))
def kX11_isNearer_0 (r : pu_R) : pu_K := s_ald 0 (s_gr 11 5 (s_gr 9 7 (s_ild 1 (s_ai 1 (s_ild 4 (s_isub (s_abs (s_ist 5 (s_ald 0 (s_gr 11 5 (s_gr 9 7 (s_ild 2 (s_ai 1 (s_ild 4 (s_isub (s_abs (s_ist 6 (s_ild 5 (s_ild 6 (s_iceq (kX11_isNearer_54 r) (s_ild 5 (s_ild 6 (s_icge (kX11_isNearer_52 r) ((kX11_isNearer_48 r)))))))))))))))))))))))))
theorem vX11_isNearer_0 : pu_cok2 kX11_isNearer_0 := fun rf r hr => by
  unfold kX11_isNearer_0
  exact v_ald (v_gr (v_gr (v_ild (v_ai (v_ild (v_isub (v_abs (v_ist (v_ald (v_gr (v_gr (v_ild (v_ai (v_ild (v_isub (v_abs (v_ist (v_ild (v_ild (v_iceq (vX11_isNearer_54 rf r hr) (v_ild (v_ild (v_icge (vX11_isNearer_52 rf r hr) ((vX11_isNearer_48 rf r hr)))))))))))))))))))))))))
theorem tX11_isNearer_0 {X : pu_X} {r : pu_R} (hX : pu_H X mdX11_isNearer) (hr : pu_P X.2.1 X.2.2.2.2.2.2.2.2.2.2.1 r) (hq : ∀ i pc, pu_lp i = some (199, pc) → pu_S X mdX11_isNearer pc (r i)) : pu_S X mdX11_isNearer 0 (kX11_isNearer_0 r) := by
  unfold kX11_isNearer_0
  exact z_ald_n hX dX11_isNearer_0 rfl (z_gr (c := 11) (j := 5) hX dX11_isNearer_1 rfl inlX11 wm2_5 ⟨rfl, by decide, rfl⟩ (z_gr (c := 9) (j := 7) hX dX11_isNearer_4 rfl inlX9 wm36_23 ⟨rfl, by decide, rfl⟩ (z_ild_n hX dX11_isNearer_7 rfl (z_iald hX dX11_isNearer_8 (z_ild hX dX11_isNearer_9 (z_isub hX dX11_isNearer_11 (z_abs hX dX11_isNearer_12 ⟨wm66_0, wm66_1, wm18_13, wm66_2⟩ ⟨Nat.le_of_ble_eq_true rfl, Nat.le_of_ble_eq_true rfl⟩ (z_ist hX dX11_isNearer_15 (z_ald_n hX dX11_isNearer_17 rfl (z_gr (c := 11) (j := 5) hX dX11_isNearer_18 rfl inlX11 wm2_5 ⟨rfl, by decide, rfl⟩ (z_gr (c := 9) (j := 7) hX dX11_isNearer_21 rfl inlX9 wm36_23 ⟨rfl, by decide, rfl⟩ (z_ild_n hX dX11_isNearer_24 rfl (z_iald hX dX11_isNearer_25 (z_ild hX dX11_isNearer_26 (z_isub hX dX11_isNearer_28 (z_abs hX dX11_isNearer_29 ⟨wm66_0, wm66_1, wm18_13, wm66_2⟩ ⟨Nat.le_of_ble_eq_true rfl, Nat.le_of_ble_eq_true rfl⟩ (z_ist hX dX11_isNearer_32 (z_ild hX dX11_isNearer_34 (z_ild hX dX11_isNearer_36 (z_iceq hX dX11_isNearer_38 (by decide) (tX11_isNearer_54 hX hr hq) (z_ild hX dX11_isNearer_41 (z_ild hX dX11_isNearer_43 (z_icge hX dX11_isNearer_45 (by decide) (tX11_isNearer_52 hX hr hq) ((tX11_isNearer_48 hX hr hq)))))))))))))))))))))))))
def kX11_near_116 (r : pu_R) : pu_K := s_iret
theorem vX11_near_116 : pu_cok2 kX11_near_116 := fun rf r hr => by
  unfold kX11_near_116
  exact v_iret
theorem tX11_near_116 {X : pu_X} {r : pu_R} (hX : pu_H X mdX11_near) (hr : pu_P X.2.1 X.2.2.2.2.2.2.2.2.2.2.1 r) (hq : ∀ i pc, pu_lp i = some (200, pc) → pu_S X mdX11_near pc (r i)) : pu_S X mdX11_near 116 (kX11_near_116 r) := by
  unfold kX11_near_116
  exact z_iret hX dX11_near_116 rfl
def kX11_near_104 (r : pu_R) : pu_K := s_ald 0 (s_gr 11 5 (s_gr 9 4 (s_ild 5 (s_ai 1 (s_push (.int (2)) (s_idiv ((kX11_near_116 r))))))))
theorem vX11_near_104 : pu_cok2 kX11_near_104 := fun rf r hr => by
  unfold kX11_near_104
  exact v_ald (v_gr (v_gr (v_ild (v_ai (v_pi (v_idiv ((vX11_near_116 rf r hr))))))))
theorem tX11_near_104 {X : pu_X} {r : pu_R} (hX : pu_H X mdX11_near) (hr : pu_P X.2.1 X.2.2.2.2.2.2.2.2.2.2.1 r) (hq : ∀ i pc, pu_lp i = some (200, pc) → pu_S X mdX11_near pc (r i)) : pu_S X mdX11_near 104 (kX11_near_104 r) := by
  unfold kX11_near_104
  exact z_ald_n hX dX11_near_104 rfl (z_gr (c := 11) (j := 5) hX dX11_near_105 rfl inlX11 wm2_5 ⟨rfl, by decide, rfl⟩ (z_gr (c := 9) (j := 4) hX dX11_near_108 rfl inlX9 wm38_12 ⟨rfl, by decide, rfl⟩ (z_ild hX dX11_near_111 (z_iald hX dX11_near_113 (z_iconst hX dX11_near_114 (by decide) (z_idiv hX dX11_near_115 ((tX11_near_116 hX hr hq))))))))
def kX11_near_94 (r : pu_R) : pu_K := s_ild 5 (s_push (.int (-1)) (s_icne (kX11_near_104 r) (s_push (.int (-1)) ((kX11_near_116 r)))))
theorem vX11_near_94 : pu_cok2 kX11_near_94 := fun rf r hr => by
  unfold kX11_near_94
  exact v_ild (v_pi (v_icne (vX11_near_104 rf r hr) (v_pi ((vX11_near_116 rf r hr)))))
theorem tX11_near_94 {X : pu_X} {r : pu_R} (hX : pu_H X mdX11_near) (hr : pu_P X.2.1 X.2.2.2.2.2.2.2.2.2.2.1 r) (hq : ∀ i pc, pu_lp i = some (200, pc) → pu_S X mdX11_near pc (r i)) : pu_S X mdX11_near 94 (kX11_near_94 r) := by
  unfold kX11_near_94
  exact z_ild hX dX11_near_94 (z_iconst hX dX11_near_96 (by decide) (z_icne hX dX11_near_97 (by decide) (tX11_near_104 hX hr hq) (z_iconst hX dX11_near_100 (by decide) ((z_goto hX dX11_near_101 (by decide) (tX11_near_116 hX hr hq))))))
def kX11_near_88 (r : pu_R) : pu_K := s_inc 6 (1) ((r 415))
theorem vX11_near_88 : pu_cok2 kX11_near_88 := fun rf r hr => by
  unfold kX11_near_88
  exact v_inc ((hr 415))
theorem tX11_near_88 {X : pu_X} {r : pu_R} (hX : pu_H X mdX11_near) (hr : pu_P X.2.1 X.2.2.2.2.2.2.2.2.2.2.1 r) (hq : ∀ i pc, pu_lp i = some (200, pc) → pu_S X mdX11_near pc (r i)) : pu_S X mdX11_near 88 (kX11_near_88 r) := by
  unfold kX11_near_88
  exact z_inc hX dX11_near_88 (by decide) ((z_goto hX dX11_near_91 (by decide) (hq 415 53 hl415)))
def kX11_near_84 (r : pu_R) : pu_K := s_ild 6 (s_ist 5 ((kX11_near_88 r)))
theorem vX11_near_84 : pu_cok2 kX11_near_84 := fun rf r hr => by
  unfold kX11_near_84
  exact v_ild (v_ist ((vX11_near_88 rf r hr)))
theorem tX11_near_84 {X : pu_X} {r : pu_R} (hX : pu_H X mdX11_near) (hr : pu_P X.2.1 X.2.2.2.2.2.2.2.2.2.2.1 r) (hq : ∀ i pc, pu_lp i = some (200, pc) → pu_S X mdX11_near pc (r i)) : pu_S X mdX11_near 84 (kX11_near_84 r) := by
  unfold kX11_near_84
  exact z_ild hX dX11_near_84 (z_ist hX dX11_near_86 ((tX11_near_88 hX hr hq)))
def kX11_near_53 (r : pu_R) : pu_K := s_ild 6 (s_ald 0 (s_gr 11 5 (s_gi 9 0 (s_icge (kX11_near_94 r) (s_ild 5 (s_push (.int (-1)) (s_iceq (kX11_near_84 r) (s_ald 0 (s_ild 6 (s_ild 5 (s_ild 2 (s_ild 3 (s_cv r 199 4 11 (s_ifeq (kX11_near_88 r) ((kX11_near_84 r))))))))))))))))
theorem vX11_near_53 : pu_cok2 kX11_near_53 := fun rf r hr => by
  unfold kX11_near_53
  exact v_ild (v_ald (v_gr (v_gi (v_icge (vX11_near_94 rf r hr) (v_ild (v_pi (v_iceq (vX11_near_84 rf r hr) (v_ald (v_ild (v_ild (v_ild (v_ild (v_cv hr (v_ifeq (vX11_near_88 rf r hr) ((vX11_near_84 rf r hr))))))))))))))))
theorem tX11_near_53 {X : pu_X} {r : pu_R} (hX : pu_H X mdX11_near) (hr : pu_P X.2.1 X.2.2.2.2.2.2.2.2.2.2.1 r) (hq : ∀ i pc, pu_lp i = some (200, pc) → pu_S X mdX11_near pc (r i)) : pu_S X mdX11_near 53 (kX11_near_53 r) := by
  unfold kX11_near_53
  exact z_ild hX dX11_near_53 (z_ald_n hX dX11_near_55 rfl (z_gr (c := 11) (j := 5) hX dX11_near_56 rfl inlX11 wm2_5 ⟨rfl, by decide, rfl⟩ (z_gi (c := 9) (j := 0) hX dX11_near_59 rfl inlX9 wm36_21 ⟨rfl, by decide, rfl⟩ (z_icge hX dX11_near_62 (by decide) (tX11_near_94 hX hr hq) (z_ild hX dX11_near_65 (z_iconst hX dX11_near_67 (by decide) (z_iceq hX dX11_near_68 (by decide) (tX11_near_84 hX hr hq) (z_ald_n hX dX11_near_71 rfl (z_ild hX dX11_near_72 (z_ild hX dX11_near_74 (z_ild_n hX dX11_near_76 rfl (z_ild_n hX dX11_near_77 rfl (z_cv (c := 11) hX hr dX11_near_78 hjX11_isNearer mwX11_isNearer rfl wm65_20 ⟨wm65_21, wm65_22⟩ ⟨Nat.le_of_ble_eq_true rfl, Nat.le_of_ble_eq_true rfl⟩ (z_ifeq hX dX11_near_81 (by decide) (tX11_near_88 hX hr hq) ((tX11_near_84 hX hr hq))))))))))))))))
def kX11_near_32 (r : pu_R) : pu_K := s_ald 0 (s_gr 11 5 (s_ald 0 (s_gr 11 2 (s_ild 1 (s_ild 4 (s_push (.int (1)) (s_cv r 73 4 9 (s_push (.int (-1)) (s_ist 5 (s_push (.int (0)) (s_ist 6 ((r 415)))))))))))))
theorem vX11_near_32 : pu_cok2 kX11_near_32 := fun rf r hr => by
  unfold kX11_near_32
  exact v_ald (v_gr (v_ald (v_gr (v_ild (v_ild (v_pi (v_cv hr (v_pi (v_ist (v_pi (v_ist ((hr 415)))))))))))))
theorem tX11_near_32 {X : pu_X} {r : pu_R} (hX : pu_H X mdX11_near) (hr : pu_P X.2.1 X.2.2.2.2.2.2.2.2.2.2.1 r) (hq : ∀ i pc, pu_lp i = some (200, pc) → pu_S X mdX11_near pc (r i)) : pu_S X mdX11_near 32 (kX11_near_32 r) := by
  unfold kX11_near_32
  exact z_ald_n hX dX11_near_32 rfl (z_gr (c := 11) (j := 5) hX dX11_near_33 rfl inlX11 wm2_5 ⟨rfl, by decide, rfl⟩ (z_ald_n hX dX11_near_36 rfl (z_gr (c := 11) (j := 2) hX dX11_near_37 rfl inlX11 wm1_20 ⟨rfl, by decide, rfl⟩ (z_ild_n hX dX11_near_40 rfl (z_ild hX dX11_near_41 (z_iconst hX dX11_near_43 (by decide) (z_cv (c := 9) hX hr dX11_near_44 hjX9_fill mwX9_fill rfl wm23_16 ⟨wm23_17, wm23_18⟩ ⟨Nat.le_of_ble_eq_true rfl, Nat.le_of_ble_eq_true rfl⟩ (z_iconst hX dX11_near_47 (by decide) (z_ist hX dX11_near_48 (z_iconst hX dX11_near_50 (by decide) (z_ist hX dX11_near_51 ((hq 415 53 hl415)))))))))))))
def kX11_near_30 (r : pu_R) : pu_K := s_push (.int (-1)) (s_iret)
theorem vX11_near_30 : pu_cok2 kX11_near_30 := fun rf r hr => by
  unfold kX11_near_30
  exact v_pi (v_iret)
theorem tX11_near_30 {X : pu_X} {r : pu_R} (hX : pu_H X mdX11_near) (hr : pu_P X.2.1 X.2.2.2.2.2.2.2.2.2.2.1 r) (hq : ∀ i pc, pu_lp i = some (200, pc) → pu_S X mdX11_near pc (r i)) : pu_S X mdX11_near 30 (kX11_near_30 r) := by
  unfold kX11_near_30
  exact z_iconst hX dX11_near_30 (by decide) (z_iret hX dX11_near_31 rfl)
def kX11_near_0 (r : pu_R) : pu_K := s_ald 0 (s_gr 11 2 (s_gr 5 3 (s_ild 1 (s_cv r 56 1 10 (s_ifeq (kX11_near_30 r) (s_ild 2 (s_ild 3 (s_cs r 58 2 (s_ifeq (kX11_near_30 r) (s_ild 4 (s_cs r 18 1 (s_ifne (kX11_near_32 r) ((kX11_near_30 r))))))))))))))
theorem vX11_near_0 : pu_cok2 kX11_near_0 := fun rf r hr => by
  unfold kX11_near_0
  exact v_ald (v_gr (v_gr (v_ild (v_cv hr (v_ifeq (vX11_near_30 rf r hr) (v_ild (v_ild (v_cs hr (v_ifeq (vX11_near_30 rf r hr) (v_ild (v_cs hr (v_ifne (vX11_near_32 rf r hr) ((vX11_near_30 rf r hr))))))))))))))
theorem tX11_near_0 {X : pu_X} {r : pu_R} (hX : pu_H X mdX11_near) (hr : pu_P X.2.1 X.2.2.2.2.2.2.2.2.2.2.1 r) (hq : ∀ i pc, pu_lp i = some (200, pc) → pu_S X mdX11_near pc (r i)) : pu_S X mdX11_near 0 (kX11_near_0 r) := by
  unfold kX11_near_0
  exact z_ald_n hX dX11_near_0 rfl (z_gr (c := 11) (j := 2) hX dX11_near_1 rfl inlX11 wm1_20 ⟨rfl, by decide, rfl⟩ (z_gr (c := 5) (j := 3) hX dX11_near_4 rfl inlX5 wm11_22 ⟨rfl, by decide, rfl⟩ (z_ild_n hX dX11_near_7 rfl (z_cv (c := 10) hX hr dX11_near_8 hjX10_isStreet mwX10_isStreet rfl wm21_23 ⟨wm22_0, wm22_1⟩ ⟨Nat.le_of_ble_eq_true rfl, Nat.le_of_ble_eq_true rfl⟩ (z_ifeq hX dX11_near_11 (by decide) (tX11_near_30 hX hr hq) (z_ild_n hX dX11_near_14 rfl (z_ild_n hX dX11_near_15 rfl (z_cs hX hr dX11_near_16 hjX11_isPlace mwX11_isPlace wm22_3 wm22_4 ⟨Nat.le_of_ble_eq_true rfl, Nat.le_of_ble_eq_true rfl⟩ (z_ifeq hX dX11_near_19 (by decide) (tX11_near_30 hX hr hq) (z_ild hX dX11_near_22 (z_cs hX hr dX11_near_24 hjX11_isDay mwX11_isDay wm10_21 wm10_22 ⟨Nat.le_of_ble_eq_true rfl, Nat.le_of_ble_eq_true rfl⟩ (z_ifne hX dX11_near_27 (by decide) (tX11_near_32 hX hr hq) ((tX11_near_30 hX hr hq))))))))))))))
def kX1_addStop_39 (r : pu_R) : pu_K := s_ald 0 (s_gi 1 4 (s_iret))
theorem vX1_addStop_39 : pu_cok2 kX1_addStop_39 := fun rf r hr => by
  unfold kX1_addStop_39
  exact v_ald (v_gi (v_iret))
theorem tX1_addStop_39 {X : pu_X} {r : pu_R} (hX : pu_H X mdX1_addStop) (hr : pu_P X.2.1 X.2.2.2.2.2.2.2.2.2.2.1 r) (hq : ∀ i pc, pu_lp i = some (201, pc) → pu_S X mdX1_addStop pc (r i)) : pu_S X mdX1_addStop 39 (kX1_addStop_39 r) := by
  unfold kX1_addStop_39
  exact z_ald_n hX dX1_addStop_39 rfl (z_gi (c := 1) (j := 4) hX dX1_addStop_40 rfl inlX1 wm45_21 ⟨rfl, by decide, rfl⟩ (z_iret hX dX1_addStop_43 rfl))
def kX1_addStop_0 (r : pu_R) : pu_K := s_ald 0 (s_gi 1 4 (s_push (.int (24)) (s_icge (kX1_addStop_39 r) (s_ald 0 (s_gr 1 14 (s_ald 0 (s_gi 1 4 (s_ild 1 (s_wi 1 (s_ald 0 (s_gr 1 15 (s_ald 0 (s_gi 1 4 (s_ild 2 (s_wi 1 (s_ald 0 (s_dup (s_gi 1 4 (s_push (.int (1)) (s_iadd (s_pi 1 4 ((kX1_addStop_39 r)))))))))))))))))))))))
theorem vX1_addStop_0 : pu_cok2 kX1_addStop_0 := fun rf r hr => by
  unfold kX1_addStop_0
  exact v_ald (v_gi (v_pi (v_icge (vX1_addStop_39 rf r hr) (v_ald (v_gr (v_ald (v_gi (v_ild (v_wi (v_ald (v_gr (v_ald (v_gi (v_ild (v_wi (v_ald (v_dup (v_gi (v_pi (v_iadd (v_puti ((vX1_addStop_39 rf r hr)))))))))))))))))))))))
theorem tX1_addStop_0 {X : pu_X} {r : pu_R} (hX : pu_H X mdX1_addStop) (hr : pu_P X.2.1 X.2.2.2.2.2.2.2.2.2.2.1 r) (hq : ∀ i pc, pu_lp i = some (201, pc) → pu_S X mdX1_addStop pc (r i)) : pu_S X mdX1_addStop 0 (kX1_addStop_0 r) := by
  unfold kX1_addStop_0
  exact z_ald_n hX dX1_addStop_0 rfl (z_gi (c := 1) (j := 4) hX dX1_addStop_1 rfl inlX1 wm45_21 ⟨rfl, by decide, rfl⟩ (z_bipush hX dX1_addStop_4 (by decide) (z_icge hX dX1_addStop_6 (by decide) (tX1_addStop_39 hX hr hq) (z_ald_n hX dX1_addStop_9 rfl (z_gr (c := 1) (j := 14) hX dX1_addStop_10 rfl inlX1 wm6_14 ⟨rfl, by decide, rfl⟩ (z_ald_n hX dX1_addStop_13 rfl (z_gi (c := 1) (j := 4) hX dX1_addStop_14 rfl inlX1 wm45_21 ⟨rfl, by decide, rfl⟩ (z_ild_n hX dX1_addStop_17 rfl (z_iast hX dX1_addStop_18 (z_ald_n hX dX1_addStop_19 rfl (z_gr (c := 1) (j := 15) hX dX1_addStop_20 rfl inlX1 wm6_15 ⟨rfl, by decide, rfl⟩ (z_ald_n hX dX1_addStop_23 rfl (z_gi (c := 1) (j := 4) hX dX1_addStop_24 rfl inlX1 wm45_21 ⟨rfl, by decide, rfl⟩ (z_ild_n hX dX1_addStop_27 rfl (z_iast hX dX1_addStop_28 (z_ald_n hX dX1_addStop_29 rfl (z_dup hX dX1_addStop_30 (z_gi (c := 1) (j := 4) hX dX1_addStop_31 rfl inlX1 wm45_21 ⟨rfl, by decide, rfl⟩ (z_iconst hX dX1_addStop_34 (by decide) (z_iadd hX dX1_addStop_35 (z_pi (c := 1) (j := 4) tyX1 tyX1_ok nmX1 hX dX1_addStop_36 rfl inlX1 wm45_21 ⟨rfl, by decide⟩ ⟨rfl, rfl⟩ rfl ((tX1_addStop_39 hX hr hq)))))))))))))))))))))))
def kX11_stop_64 (r : pu_R) : pu_K := s_ald 0 (s_gr 11 2 (s_gr 5 6 (s_ild 1 (s_ild 2 (s_cv r 201 2 1 (s_iret))))))
theorem vX11_stop_64 : pu_cok2 kX11_stop_64 := fun rf r hr => by
  unfold kX11_stop_64
  exact v_ald (v_gr (v_gr (v_ild (v_ild (v_cv hr (v_iret))))))
theorem tX11_stop_64 {X : pu_X} {r : pu_R} (hX : pu_H X mdX11_stop) (hr : pu_P X.2.1 X.2.2.2.2.2.2.2.2.2.2.1 r) (hq : ∀ i pc, pu_lp i = some (202, pc) → pu_S X mdX11_stop pc (r i)) : pu_S X mdX11_stop 64 (kX11_stop_64 r) := by
  unfold kX11_stop_64
  exact z_ald_n hX dX11_stop_64 rfl (z_gr (c := 11) (j := 2) hX dX11_stop_65 rfl inlX11 wm1_20 ⟨rfl, by decide, rfl⟩ (z_gr (c := 5) (j := 6) hX dX11_stop_68 rfl inlX5 wm54_0 ⟨rfl, by decide, rfl⟩ (z_ild_n hX dX11_stop_71 rfl (z_ild_n hX dX11_stop_72 rfl (z_cv (c := 1) hX hr dX11_stop_73 hjX1_addStop mwX1_addStop rfl wm66_16 ⟨wm66_17, wm66_18⟩ ⟨Nat.le_of_ble_eq_true rfl, Nat.le_of_ble_eq_true rfl⟩ (z_iret hX dX11_stop_76 rfl))))))
def kX11_stop_46 (r : pu_R) : pu_K := s_ald 0 (s_gr 11 2 (s_gr 5 6 (s_gi 1 4 (s_push (.int (24)) (s_iclt (kX11_stop_64 r) (s_push (.int (-6)) (s_iret)))))))
theorem vX11_stop_46 : pu_cok2 kX11_stop_46 := fun rf r hr => by
  unfold kX11_stop_46
  exact v_ald (v_gr (v_gr (v_gi (v_pi (v_iclt (vX11_stop_64 rf r hr) (v_pi (v_iret)))))))
theorem tX11_stop_46 {X : pu_X} {r : pu_R} (hX : pu_H X mdX11_stop) (hr : pu_P X.2.1 X.2.2.2.2.2.2.2.2.2.2.1 r) (hq : ∀ i pc, pu_lp i = some (202, pc) → pu_S X mdX11_stop pc (r i)) : pu_S X mdX11_stop 46 (kX11_stop_46 r) := by
  unfold kX11_stop_46
  exact z_ald_n hX dX11_stop_46 rfl (z_gr (c := 11) (j := 2) hX dX11_stop_47 rfl inlX11 wm1_20 ⟨rfl, by decide, rfl⟩ (z_gr (c := 5) (j := 6) hX dX11_stop_50 rfl inlX5 wm54_0 ⟨rfl, by decide, rfl⟩ (z_gi (c := 1) (j := 4) hX dX11_stop_53 rfl inlX1 wm66_15 ⟨rfl, by decide, rfl⟩ (z_bipush hX dX11_stop_56 (by decide) (z_iclt hX dX11_stop_58 (by decide) (tX11_stop_64 hX hr hq) (z_bipush hX dX11_stop_61 (by decide) (z_iret hX dX11_stop_63 rfl)))))))
def kX11_stop_43 (r : pu_R) : pu_K := s_push (.int (-2)) (s_iret)
theorem vX11_stop_43 : pu_cok2 kX11_stop_43 := fun rf r hr => by
  unfold kX11_stop_43
  exact v_pi (v_iret)
theorem tX11_stop_43 {X : pu_X} {r : pu_R} (hX : pu_H X mdX11_stop) (hr : pu_P X.2.1 X.2.2.2.2.2.2.2.2.2.2.1 r) (hq : ∀ i pc, pu_lp i = some (202, pc) → pu_S X mdX11_stop pc (r i)) : pu_S X mdX11_stop 43 (kX11_stop_43 r) := by
  unfold kX11_stop_43
  exact z_bipush hX dX11_stop_43 (by decide) (z_iret hX dX11_stop_45 rfl)
def kX11_stop_34 (r : pu_R) : pu_K := s_ild 2 (s_iflt (kX11_stop_43 r) (s_ild 2 (s_push (.int (2)) (s_icle (kX11_stop_46 r) ((kX11_stop_43 r))))))
theorem vX11_stop_34 : pu_cok2 kX11_stop_34 := fun rf r hr => by
  unfold kX11_stop_34
  exact v_ild (v_iflt (vX11_stop_43 rf r hr) (v_ild (v_pi (v_icle (vX11_stop_46 rf r hr) ((vX11_stop_43 rf r hr))))))
theorem tX11_stop_34 {X : pu_X} {r : pu_R} (hX : pu_H X mdX11_stop) (hr : pu_P X.2.1 X.2.2.2.2.2.2.2.2.2.2.1 r) (hq : ∀ i pc, pu_lp i = some (202, pc) → pu_S X mdX11_stop pc (r i)) : pu_S X mdX11_stop 34 (kX11_stop_34 r) := by
  unfold kX11_stop_34
  exact z_ild_n hX dX11_stop_34 rfl (z_iflt hX dX11_stop_35 (by decide) (tX11_stop_43 hX hr hq) (z_ild_n hX dX11_stop_38 rfl (z_iconst hX dX11_stop_39 (by decide) (z_icle hX dX11_stop_40 (by decide) (tX11_stop_46 hX hr hq) ((tX11_stop_43 hX hr hq))))))
def kX11_stop_16 (r : pu_R) : pu_K := s_ild 2 (s_push (.int (-1)) (s_icne (kX11_stop_34 r) (s_ald 0 (s_gr 11 2 (s_gr 5 6 (s_push (.int (0)) (s_pi 1 4 (s_push (.int (0)) (s_iret)))))))))
theorem vX11_stop_16 : pu_cok2 kX11_stop_16 := fun rf r hr => by
  unfold kX11_stop_16
  exact v_ild (v_pi (v_icne (vX11_stop_34 rf r hr) (v_ald (v_gr (v_gr (v_pi (v_puti (v_pi (v_iret)))))))))
theorem tX11_stop_16 {X : pu_X} {r : pu_R} (hX : pu_H X mdX11_stop) (hr : pu_P X.2.1 X.2.2.2.2.2.2.2.2.2.2.1 r) (hq : ∀ i pc, pu_lp i = some (202, pc) → pu_S X mdX11_stop pc (r i)) : pu_S X mdX11_stop 16 (kX11_stop_16 r) := by
  unfold kX11_stop_16
  exact z_ild_n hX dX11_stop_16 rfl (z_iconst hX dX11_stop_17 (by decide) (z_icne hX dX11_stop_18 (by decide) (tX11_stop_34 hX hr hq) (z_ald_n hX dX11_stop_21 rfl (z_gr (c := 11) (j := 2) hX dX11_stop_22 rfl inlX11 wm1_20 ⟨rfl, by decide, rfl⟩ (z_gr (c := 5) (j := 6) hX dX11_stop_25 rfl inlX5 wm54_0 ⟨rfl, by decide, rfl⟩ (z_iconst hX dX11_stop_28 (by decide) (z_pi (c := 1) (j := 4) tyX1 tyX1_ok nmX1 hX dX11_stop_29 rfl inlX1 wm66_15 ⟨rfl, by decide⟩ ⟨rfl, rfl⟩ rfl (z_iconst hX dX11_stop_32 (by decide) (z_iret hX dX11_stop_33 rfl)))))))))
def kX11_stop_0 (r : pu_R) : pu_K := s_ald 0 (s_gr 11 2 (s_gr 5 3 (s_ild 1 (s_cv r 56 1 10 (s_ifne (kX11_stop_16 r) (s_push (.int (-1)) (s_iret)))))))
theorem vX11_stop_0 : pu_cok2 kX11_stop_0 := fun rf r hr => by
  unfold kX11_stop_0
  exact v_ald (v_gr (v_gr (v_ild (v_cv hr (v_ifne (vX11_stop_16 rf r hr) (v_pi (v_iret)))))))
theorem tX11_stop_0 {X : pu_X} {r : pu_R} (hX : pu_H X mdX11_stop) (hr : pu_P X.2.1 X.2.2.2.2.2.2.2.2.2.2.1 r) (hq : ∀ i pc, pu_lp i = some (202, pc) → pu_S X mdX11_stop pc (r i)) : pu_S X mdX11_stop 0 (kX11_stop_0 r) := by
  unfold kX11_stop_0
  exact z_ald_n hX dX11_stop_0 rfl (z_gr (c := 11) (j := 2) hX dX11_stop_1 rfl inlX11 wm1_20 ⟨rfl, by decide, rfl⟩ (z_gr (c := 5) (j := 3) hX dX11_stop_4 rfl inlX5 wm11_22 ⟨rfl, by decide, rfl⟩ (z_ild_n hX dX11_stop_7 rfl (z_cv (c := 10) hX hr dX11_stop_8 hjX10_isStreet mwX10_isStreet rfl wm21_23 ⟨wm22_0, wm22_1⟩ ⟨Nat.le_of_ble_eq_true rfl, Nat.le_of_ble_eq_true rfl⟩ (z_ifne hX dX11_stop_11 (by decide) (tX11_stop_16 hX hr hq) (z_iconst hX dX11_stop_14 (by decide) (z_iret hX dX11_stop_15 rfl)))))))
def kX1_whenWalked_28 (r : pu_R) : pu_K := s_push (.int (-1)) (s_iret)
theorem vX1_whenWalked_28 : pu_cok2 kX1_whenWalked_28 := fun rf r hr => by
  unfold kX1_whenWalked_28
  exact v_pi (v_iret)
theorem tX1_whenWalked_28 {X : pu_X} {r : pu_R} (hX : pu_H X mdX1_whenWalked) (hr : pu_P X.2.1 X.2.2.2.2.2.2.2.2.2.2.1 r) (hq : ∀ i pc, pu_lp i = some (203, pc) → pu_S X mdX1_whenWalked pc (r i)) : pu_S X mdX1_whenWalked 28 (kX1_whenWalked_28 r) := by
  unfold kX1_whenWalked_28
  exact z_iconst hX dX1_whenWalked_28 (by decide) (z_iret hX dX1_whenWalked_29 rfl)
def kX1_whenWalked_22 (r : pu_R) : pu_K := s_inc 2 (1) ((r 416))
theorem vX1_whenWalked_22 : pu_cok2 kX1_whenWalked_22 := fun rf r hr => by
  unfold kX1_whenWalked_22
  exact v_inc ((hr 416))
theorem tX1_whenWalked_22 {X : pu_X} {r : pu_R} (hX : pu_H X mdX1_whenWalked) (hr : pu_P X.2.1 X.2.2.2.2.2.2.2.2.2.2.1 r) (hq : ∀ i pc, pu_lp i = some (203, pc) → pu_S X mdX1_whenWalked pc (r i)) : pu_S X mdX1_whenWalked 22 (kX1_whenWalked_22 r) := by
  unfold kX1_whenWalked_22
  exact z_inc hX dX1_whenWalked_22 (by decide) ((z_goto hX dX1_whenWalked_25 (by decide) (hq 416 2 hl416)))
def kX1_whenWalked_2 (r : pu_R) : pu_K := s_ild 2 (s_ald 0 (s_gi 1 5 (s_icge (kX1_whenWalked_28 r) (s_ald 0 (s_gr 1 16 (s_ild 2 (s_ai 1 (s_ild 1 (s_icne (kX1_whenWalked_22 r) (s_ild 2 (s_iret)))))))))))
theorem vX1_whenWalked_2 : pu_cok2 kX1_whenWalked_2 := fun rf r hr => by
  unfold kX1_whenWalked_2
  exact v_ild (v_ald (v_gi (v_icge (vX1_whenWalked_28 rf r hr) (v_ald (v_gr (v_ild (v_ai (v_ild (v_icne (vX1_whenWalked_22 rf r hr) (v_ild (v_iret)))))))))))
theorem tX1_whenWalked_2 {X : pu_X} {r : pu_R} (hX : pu_H X mdX1_whenWalked) (hr : pu_P X.2.1 X.2.2.2.2.2.2.2.2.2.2.1 r) (hq : ∀ i pc, pu_lp i = some (203, pc) → pu_S X mdX1_whenWalked pc (r i)) : pu_S X mdX1_whenWalked 2 (kX1_whenWalked_2 r) := by
  unfold kX1_whenWalked_2
  exact z_ild_n hX dX1_whenWalked_2 rfl (z_ald_n hX dX1_whenWalked_3 rfl (z_gi (c := 1) (j := 5) hX dX1_whenWalked_4 rfl inlX1 wm45_22 ⟨rfl, by decide, rfl⟩ (z_icge hX dX1_whenWalked_7 (by decide) (tX1_whenWalked_28 hX hr hq) (z_ald_n hX dX1_whenWalked_10 rfl (z_gr (c := 1) (j := 16) hX dX1_whenWalked_11 rfl inlX1 wm6_16 ⟨rfl, by decide, rfl⟩ (z_ild_n hX dX1_whenWalked_14 rfl (z_iald hX dX1_whenWalked_15 (z_ild_n hX dX1_whenWalked_16 rfl (z_icne hX dX1_whenWalked_17 (by decide) (tX1_whenWalked_22 hX hr hq) (z_ild_n hX dX1_whenWalked_20 rfl (z_iret hX dX1_whenWalked_21 rfl)))))))))))
def kX1_whenWalked_0 (r : pu_R) : pu_K := s_push (.int (0)) (s_ist 2 ((r 416)))
theorem vX1_whenWalked_0 : pu_cok2 kX1_whenWalked_0 := fun rf r hr => by
  unfold kX1_whenWalked_0
  exact v_pi (v_ist ((hr 416)))
theorem tX1_whenWalked_0 {X : pu_X} {r : pu_R} (hX : pu_H X mdX1_whenWalked) (hr : pu_P X.2.1 X.2.2.2.2.2.2.2.2.2.2.1 r) (hq : ∀ i pc, pu_lp i = some (203, pc) → pu_S X mdX1_whenWalked pc (r i)) : pu_S X mdX1_whenWalked 0 (kX1_whenWalked_0 r) := by
  unfold kX1_whenWalked_0
  exact z_iconst hX dX1_whenWalked_0 (by decide) (z_ist_n hX dX1_whenWalked_1 rfl ((hq 416 2 hl416)))
def kX1_addWalked_29 (r : pu_R) : pu_K := s_vret
theorem vX1_addWalked_29 : pu_cok2 kX1_addWalked_29 := fun rf r hr => by
  unfold kX1_addWalked_29
  exact v_vret
theorem tX1_addWalked_29 {X : pu_X} {r : pu_R} (hX : pu_H X mdX1_addWalked) (hr : pu_P X.2.1 X.2.2.2.2.2.2.2.2.2.2.1 r) (hq : ∀ i pc, pu_lp i = some (204, pc) → pu_S X mdX1_addWalked pc (r i)) : pu_S X mdX1_addWalked 29 (kX1_addWalked_29 r) := by
  unfold kX1_addWalked_29
  exact z_vret hX dX1_addWalked_29 rfl
def kX1_addWalked_0 (r : pu_R) : pu_K := s_ald 0 (s_gi 1 5 (s_push (.int (100)) (s_icge (kX1_addWalked_29 r) (s_ald 0 (s_gr 1 16 (s_ald 0 (s_gi 1 5 (s_ild 1 (s_wi 1 (s_ald 0 (s_dup (s_gi 1 5 (s_push (.int (1)) (s_iadd (s_pi 1 5 ((kX1_addWalked_29 r)))))))))))))))))
theorem vX1_addWalked_0 : pu_cok2 kX1_addWalked_0 := fun rf r hr => by
  unfold kX1_addWalked_0
  exact v_ald (v_gi (v_pi (v_icge (vX1_addWalked_29 rf r hr) (v_ald (v_gr (v_ald (v_gi (v_ild (v_wi (v_ald (v_dup (v_gi (v_pi (v_iadd (v_puti ((vX1_addWalked_29 rf r hr)))))))))))))))))
theorem tX1_addWalked_0 {X : pu_X} {r : pu_R} (hX : pu_H X mdX1_addWalked) (hr : pu_P X.2.1 X.2.2.2.2.2.2.2.2.2.2.1 r) (hq : ∀ i pc, pu_lp i = some (204, pc) → pu_S X mdX1_addWalked pc (r i)) : pu_S X mdX1_addWalked 0 (kX1_addWalked_0 r) := by
  unfold kX1_addWalked_0
  exact z_ald_n hX dX1_addWalked_0 rfl (z_gi (c := 1) (j := 5) hX dX1_addWalked_1 rfl inlX1 wm45_22 ⟨rfl, by decide, rfl⟩ (z_bipush hX dX1_addWalked_4 (by decide) (z_icge hX dX1_addWalked_6 (by decide) (tX1_addWalked_29 hX hr hq) (z_ald_n hX dX1_addWalked_9 rfl (z_gr (c := 1) (j := 16) hX dX1_addWalked_10 rfl inlX1 wm6_16 ⟨rfl, by decide, rfl⟩ (z_ald_n hX dX1_addWalked_13 rfl (z_gi (c := 1) (j := 5) hX dX1_addWalked_14 rfl inlX1 wm45_22 ⟨rfl, by decide, rfl⟩ (z_ild_n hX dX1_addWalked_17 rfl (z_iast hX dX1_addWalked_18 (z_ald_n hX dX1_addWalked_19 rfl (z_dup hX dX1_addWalked_20 (z_gi (c := 1) (j := 5) hX dX1_addWalked_21 rfl inlX1 wm45_22 ⟨rfl, by decide, rfl⟩ (z_iconst hX dX1_addWalked_24 (by decide) (z_iadd hX dX1_addWalked_25 (z_pi (c := 1) (j := 5) tyX1 tyX1_ok nmX1 hX dX1_addWalked_26 rfl inlX1 wm45_22 ⟨rfl, by decide⟩ ⟨rfl, rfl⟩ rfl ((tX1_addWalked_29 hX hr hq)))))))))))))))))
def kX5_rankUnder_37 (r : pu_R) : pu_K := s_iret
theorem vX5_rankUnder_37 : pu_cok2 kX5_rankUnder_37 := fun rf r hr => by
  unfold kX5_rankUnder_37
  exact v_iret
theorem tX5_rankUnder_37 {X : pu_X} {r : pu_R} (hX : pu_H X mdX5_rankUnder) (hr : pu_P X.2.1 X.2.2.2.2.2.2.2.2.2.2.1 r) (hq : ∀ i pc, pu_lp i = some (205, pc) → pu_S X mdX5_rankUnder pc (r i)) : pu_S X mdX5_rankUnder 37 (kX5_rankUnder_37 r) := by
  unfold kX5_rankUnder_37
  exact z_iret hX dX5_rankUnder_37 rfl
def kX5_rankUnder_36 (r : pu_R) : pu_K := s_push (.int (0)) ((kX5_rankUnder_37 r))
theorem vX5_rankUnder_36 : pu_cok2 kX5_rankUnder_36 := fun rf r hr => by
  unfold kX5_rankUnder_36
  exact v_pi ((vX5_rankUnder_37 rf r hr))
theorem tX5_rankUnder_36 {X : pu_X} {r : pu_R} (hX : pu_H X mdX5_rankUnder) (hr : pu_P X.2.1 X.2.2.2.2.2.2.2.2.2.2.1 r) (hq : ∀ i pc, pu_lp i = some (205, pc) → pu_S X mdX5_rankUnder pc (r i)) : pu_S X mdX5_rankUnder 36 (kX5_rankUnder_36 r) := by
  unfold kX5_rankUnder_36
  exact z_iconst hX dX5_rankUnder_36 (by decide) ((tX5_rankUnder_37 hX hr hq))
def kX5_rankUnder_0 (r : pu_R) : pu_K := s_ald 0 (s_gr 5 4 (s_ild 1 (s_cv r 85 1 2 (s_ifeq (kX5_rankUnder_36 r) (s_ald 0 (s_gr 5 4 (s_gr 2 1 (s_ild 1 (s_ai 1 (s_push (.int (100)) (s_imul (s_ald 0 (s_gr 5 4 (s_gr 2 4 (s_ild 1 (s_ai 1 (s_iadd ((kX5_rankUnder_37 r)))))))))))))))))))
theorem vX5_rankUnder_0 : pu_cok2 kX5_rankUnder_0 := fun rf r hr => by
  unfold kX5_rankUnder_0
  exact v_ald (v_gr (v_ild (v_cv hr (v_ifeq (vX5_rankUnder_36 rf r hr) (v_ald (v_gr (v_gr (v_ild (v_ai (v_pi (v_imul (v_ald (v_gr (v_gr (v_ild (v_ai (v_iadd ((vX5_rankUnder_37 rf r hr)))))))))))))))))))
theorem tX5_rankUnder_0 {X : pu_X} {r : pu_R} (hX : pu_H X mdX5_rankUnder) (hr : pu_P X.2.1 X.2.2.2.2.2.2.2.2.2.2.1 r) (hq : ∀ i pc, pu_lp i = some (205, pc) → pu_S X mdX5_rankUnder pc (r i)) : pu_S X mdX5_rankUnder 0 (kX5_rankUnder_0 r) := by
  unfold kX5_rankUnder_0
  exact z_ald_n hX dX5_rankUnder_0 rfl (z_gr (c := 5) (j := 4) hX dX5_rankUnder_1 rfl inlX5 wm3_13 ⟨rfl, by decide, rfl⟩ (z_ild_n hX dX5_rankUnder_4 rfl (z_cv (c := 2) hX hr dX5_rankUnder_5 hjX2_isDoor mwX2_isDoor rfl wm34_7 ⟨wm27_13, wm27_14⟩ ⟨Nat.le_of_ble_eq_true rfl, Nat.le_of_ble_eq_true rfl⟩ (z_ifeq hX dX5_rankUnder_8 (by decide) (tX5_rankUnder_36 hX hr hq) (z_ald_n hX dX5_rankUnder_11 rfl (z_gr (c := 5) (j := 4) hX dX5_rankUnder_12 rfl inlX5 wm3_13 ⟨rfl, by decide, rfl⟩ (z_gr (c := 2) (j := 1) hX dX5_rankUnder_15 rfl inlX2 wm68_10 ⟨rfl, by decide, rfl⟩ (z_ild_n hX dX5_rankUnder_18 rfl (z_iald hX dX5_rankUnder_19 (z_bipush hX dX5_rankUnder_20 (by decide) (z_imul hX dX5_rankUnder_22 (z_ald_n hX dX5_rankUnder_23 rfl (z_gr (c := 5) (j := 4) hX dX5_rankUnder_24 rfl inlX5 wm3_13 ⟨rfl, by decide, rfl⟩ (z_gr (c := 2) (j := 4) hX dX5_rankUnder_27 rfl inlX2 wm68_11 ⟨rfl, by decide, rfl⟩ (z_ild_n hX dX5_rankUnder_30 rfl (z_iald hX dX5_rankUnder_31 (z_iadd hX dX5_rankUnder_32 ((z_goto hX dX5_rankUnder_33 (by decide) (tX5_rankUnder_37 hX hr hq))))))))))))))))))))
def kX5_sinkWalked_98 (r : pu_R) : pu_K := s_vret
theorem vX5_sinkWalked_98 : pu_cok2 kX5_sinkWalked_98 := fun rf r hr => by
  unfold kX5_sinkWalked_98
  exact v_vret
theorem tX5_sinkWalked_98 {X : pu_X} {r : pu_R} (hX : pu_H X mdX5_sinkWalked) (hr : pu_P X.2.1 X.2.2.2.2.2.2.2.2.2.2.1 r) (hq : ∀ i pc, pu_lp i = some (206, pc) → pu_S X mdX5_sinkWalked pc (r i)) : pu_S X mdX5_sinkWalked 98 (kX5_sinkWalked_98 r) := by
  unfold kX5_sinkWalked_98
  exact z_vret hX dX5_sinkWalked_98 rfl
def kX5_sinkWalked_92 (r : pu_R) : pu_K := s_inc 2 (-1) ((r 417))
theorem vX5_sinkWalked_92 : pu_cok2 kX5_sinkWalked_92 := fun rf r hr => by
  unfold kX5_sinkWalked_92
  exact v_inc ((hr 417))
theorem tX5_sinkWalked_92 {X : pu_X} {r : pu_R} (hX : pu_H X mdX5_sinkWalked) (hr : pu_P X.2.1 X.2.2.2.2.2.2.2.2.2.2.1 r) (hq : ∀ i pc, pu_lp i = some (206, pc) → pu_S X mdX5_sinkWalked pc (r i)) : pu_S X mdX5_sinkWalked 92 (kX5_sinkWalked_92 r) := by
  unfold kX5_sinkWalked_92
  exact z_inc hX dX5_sinkWalked_92 (by decide) ((z_goto hX dX5_sinkWalked_95 (by decide) (hq 417 10 hl417)))
def kX5_sinkWalked_54 (r : pu_R) : pu_K := s_gr 1 16 (s_ild 2 (s_ai 1 (s_ist 3 (s_ald 0 (s_gr 5 6 (s_gr 1 16 (s_ild 2 (s_ald 0 (s_gr 5 6 (s_gr 1 16 (s_ild 2 (s_push (.int (1)) (s_isub (s_ai 1 (s_wi 1 (s_ald 0 (s_gr 5 6 (s_gr 1 16 (s_ild 2 (s_push (.int (1)) (s_isub (s_ild 3 (s_wi 1 ((kX5_sinkWalked_92 r)))))))))))))))))))))))))
theorem vX5_sinkWalked_54 : pu_cok2 kX5_sinkWalked_54 := fun rf r hr => by
  unfold kX5_sinkWalked_54
  exact v_gr (v_ild (v_ai (v_ist (v_ald (v_gr (v_gr (v_ild (v_ald (v_gr (v_gr (v_ild (v_pi (v_isub (v_ai (v_wi (v_ald (v_gr (v_gr (v_ild (v_pi (v_isub (v_ild (v_wi ((vX5_sinkWalked_92 rf r hr)))))))))))))))))))))))))
theorem tX5_sinkWalked_54 {X : pu_X} {r : pu_R} (hX : pu_H X mdX5_sinkWalked) (hr : pu_P X.2.1 X.2.2.2.2.2.2.2.2.2.2.1 r) (hq : ∀ i pc, pu_lp i = some (206, pc) → pu_S X mdX5_sinkWalked pc (r i)) : pu_S X mdX5_sinkWalked 54 (kX5_sinkWalked_54 r) := by
  unfold kX5_sinkWalked_54
  exact z_gr (c := 1) (j := 16) hX dX5_sinkWalked_54 rfl inlX1 wm68_5 ⟨rfl, by decide, rfl⟩ (z_ild_n hX dX5_sinkWalked_57 rfl (z_iald hX dX5_sinkWalked_58 (z_ist_n hX dX5_sinkWalked_59 rfl (z_ald_n hX dX5_sinkWalked_60 rfl (z_gr (c := 5) (j := 6) hX dX5_sinkWalked_61 rfl inlX5 wm3_21 ⟨rfl, by decide, rfl⟩ (z_gr (c := 1) (j := 16) hX dX5_sinkWalked_64 rfl inlX1 wm68_5 ⟨rfl, by decide, rfl⟩ (z_ild_n hX dX5_sinkWalked_67 rfl (z_ald_n hX dX5_sinkWalked_68 rfl (z_gr (c := 5) (j := 6) hX dX5_sinkWalked_69 rfl inlX5 wm3_21 ⟨rfl, by decide, rfl⟩ (z_gr (c := 1) (j := 16) hX dX5_sinkWalked_72 rfl inlX1 wm68_5 ⟨rfl, by decide, rfl⟩ (z_ild_n hX dX5_sinkWalked_75 rfl (z_iconst hX dX5_sinkWalked_76 (by decide) (z_isub hX dX5_sinkWalked_77 (z_iald hX dX5_sinkWalked_78 (z_iast hX dX5_sinkWalked_79 (z_ald_n hX dX5_sinkWalked_80 rfl (z_gr (c := 5) (j := 6) hX dX5_sinkWalked_81 rfl inlX5 wm3_21 ⟨rfl, by decide, rfl⟩ (z_gr (c := 1) (j := 16) hX dX5_sinkWalked_84 rfl inlX1 wm68_5 ⟨rfl, by decide, rfl⟩ (z_ild_n hX dX5_sinkWalked_87 rfl (z_iconst hX dX5_sinkWalked_88 (by decide) (z_isub hX dX5_sinkWalked_89 (z_ild_n hX dX5_sinkWalked_90 rfl (z_iast hX dX5_sinkWalked_91 ((tX5_sinkWalked_92 hX hr hq)))))))))))))))))))))))))
def kX5_sinkWalked_10 (r : pu_R) : pu_K := s_ild 2 (s_ild 1 (s_icle (kX5_sinkWalked_98 r) (s_ild 2 (s_ifle (kX5_sinkWalked_98 r) (s_ald 0 (s_ald 0 (s_gr 5 6 (s_gr 1 16 (s_ild 2 (s_push (.int (1)) (s_isub (s_ai 1 (s_cv r 205 1 5 (s_ald 0 (s_ald 0 (s_gr 5 6 (s_gr 1 16 (s_ild 2 (s_ai 1 (s_cv r 205 1 5 (s_icle (kX5_sinkWalked_98 r) (s_ald 0 (s_gr 5 6 ((kX5_sinkWalked_54 r)))))))))))))))))))))))))
theorem vX5_sinkWalked_10 : pu_cok2 kX5_sinkWalked_10 := fun rf r hr => by
  unfold kX5_sinkWalked_10
  exact v_ild (v_ild (v_icle (vX5_sinkWalked_98 rf r hr) (v_ild (v_ifle (vX5_sinkWalked_98 rf r hr) (v_ald (v_ald (v_gr (v_gr (v_ild (v_pi (v_isub (v_ai (v_cv hr (v_ald (v_ald (v_gr (v_gr (v_ild (v_ai (v_cv hr (v_icle (vX5_sinkWalked_98 rf r hr) (v_ald (v_gr ((vX5_sinkWalked_54 rf r hr)))))))))))))))))))))))))
theorem tX5_sinkWalked_10 {X : pu_X} {r : pu_R} (hX : pu_H X mdX5_sinkWalked) (hr : pu_P X.2.1 X.2.2.2.2.2.2.2.2.2.2.1 r) (hq : ∀ i pc, pu_lp i = some (206, pc) → pu_S X mdX5_sinkWalked pc (r i)) : pu_S X mdX5_sinkWalked 10 (kX5_sinkWalked_10 r) := by
  unfold kX5_sinkWalked_10
  exact z_ild_n hX dX5_sinkWalked_10 rfl (z_ild_n hX dX5_sinkWalked_11 rfl (z_icle hX dX5_sinkWalked_12 (by decide) (tX5_sinkWalked_98 hX hr hq) (z_ild_n hX dX5_sinkWalked_15 rfl (z_ifle hX dX5_sinkWalked_16 (by decide) (tX5_sinkWalked_98 hX hr hq) (z_ald_n hX dX5_sinkWalked_19 rfl (z_ald_n hX dX5_sinkWalked_20 rfl (z_gr (c := 5) (j := 6) hX dX5_sinkWalked_21 rfl inlX5 wm3_21 ⟨rfl, by decide, rfl⟩ (z_gr (c := 1) (j := 16) hX dX5_sinkWalked_24 rfl inlX1 wm68_5 ⟨rfl, by decide, rfl⟩ (z_ild_n hX dX5_sinkWalked_27 rfl (z_iconst hX dX5_sinkWalked_28 (by decide) (z_isub hX dX5_sinkWalked_29 (z_iald hX dX5_sinkWalked_30 (z_cv (c := 5) hX hr dX5_sinkWalked_31 hjX5_rankUnder mwX5_rankUnder rfl wm68_6 ⟨wm68_7, wm68_8⟩ ⟨Nat.le_of_ble_eq_true rfl, Nat.le_of_ble_eq_true rfl⟩ (z_ald_n hX dX5_sinkWalked_34 rfl (z_ald_n hX dX5_sinkWalked_35 rfl (z_gr (c := 5) (j := 6) hX dX5_sinkWalked_36 rfl inlX5 wm3_21 ⟨rfl, by decide, rfl⟩ (z_gr (c := 1) (j := 16) hX dX5_sinkWalked_39 rfl inlX1 wm68_5 ⟨rfl, by decide, rfl⟩ (z_ild_n hX dX5_sinkWalked_42 rfl (z_iald hX dX5_sinkWalked_43 (z_cv (c := 5) hX hr dX5_sinkWalked_44 hjX5_rankUnder mwX5_rankUnder rfl wm68_6 ⟨wm68_7, wm68_8⟩ ⟨Nat.le_of_ble_eq_true rfl, Nat.le_of_ble_eq_true rfl⟩ (z_icle hX dX5_sinkWalked_47 (by decide) (tX5_sinkWalked_98 hX hr hq) (z_ald_n hX dX5_sinkWalked_50 rfl (z_gr (c := 5) (j := 6) hX dX5_sinkWalked_51 rfl inlX5 wm3_21 ⟨rfl, by decide, rfl⟩ ((tX5_sinkWalked_54 hX hr hq)))))))))))))))))))))))))
def kX5_sinkWalked_0 (r : pu_R) : pu_K := s_ald 0 (s_gr 5 6 (s_gi 1 5 (s_push (.int (1)) (s_isub (s_ist 2 ((r 417)))))))
theorem vX5_sinkWalked_0 : pu_cok2 kX5_sinkWalked_0 := fun rf r hr => by
  unfold kX5_sinkWalked_0
  exact v_ald (v_gr (v_gi (v_pi (v_isub (v_ist ((hr 417)))))))
theorem tX5_sinkWalked_0 {X : pu_X} {r : pu_R} (hX : pu_H X mdX5_sinkWalked) (hr : pu_P X.2.1 X.2.2.2.2.2.2.2.2.2.2.1 r) (hq : ∀ i pc, pu_lp i = some (206, pc) → pu_S X mdX5_sinkWalked pc (r i)) : pu_S X mdX5_sinkWalked 0 (kX5_sinkWalked_0 r) := by
  unfold kX5_sinkWalked_0
  exact z_ald_n hX dX5_sinkWalked_0 rfl (z_gr (c := 5) (j := 6) hX dX5_sinkWalked_1 rfl inlX5 wm3_21 ⟨rfl, by decide, rfl⟩ (z_gi (c := 1) (j := 5) hX dX5_sinkWalked_4 rfl inlX1 wm68_4 ⟨rfl, by decide, rfl⟩ (z_iconst hX dX5_sinkWalked_7 (by decide) (z_isub hX dX5_sinkWalked_8 (z_ist_n hX dX5_sinkWalked_9 rfl ((hq 417 10 hl417)))))))
def kX11_walkUnder_113 (r : pu_R) : pu_K := s_vret
theorem vX11_walkUnder_113 : pu_cok2 kX11_walkUnder_113 := fun rf r hr => by
  unfold kX11_walkUnder_113
  exact v_vret
theorem tX11_walkUnder_113 {X : pu_X} {r : pu_R} (hX : pu_H X mdX11_walkUnder) (hr : pu_P X.2.1 X.2.2.2.2.2.2.2.2.2.2.1 r) (hq : ∀ i pc, pu_lp i = some (207, pc) → pu_S X mdX11_walkUnder pc (r i)) : pu_S X mdX11_walkUnder 113 (kX11_walkUnder_113 r) := by
  unfold kX11_walkUnder_113
  exact z_vret hX dX11_walkUnder_113 rfl
def kX11_walkUnder_107 (r : pu_R) : pu_K := s_inc 4 (1) ((r 418))
theorem vX11_walkUnder_107 : pu_cok2 kX11_walkUnder_107 := fun rf r hr => by
  unfold kX11_walkUnder_107
  exact v_inc ((hr 418))
theorem tX11_walkUnder_107 {X : pu_X} {r : pu_R} (hX : pu_H X mdX11_walkUnder) (hr : pu_P X.2.1 X.2.2.2.2.2.2.2.2.2.2.1 r) (hq : ∀ i pc, pu_lp i = some (207, pc) → pu_S X mdX11_walkUnder pc (r i)) : pu_S X mdX11_walkUnder 107 (kX11_walkUnder_107 r) := by
  unfold kX11_walkUnder_107
  exact z_inc hX dX11_walkUnder_107 (by decide) ((z_goto hX dX11_walkUnder_110 (by decide) (hq 418 14 hl418)))
def kX11_walkUnder_57 (r : pu_R) : pu_K := s_ist 5 (s_ild 5 (s_ifeq (kX11_walkUnder_107 r) (s_ald 0 (s_gr 11 2 (s_gr 5 4 (s_ild 4 (s_ild 2 (s_ald 0 (s_gr 11 2 (s_gr 5 0 (s_cv r 145 3 2 (s_ifeq (kX11_walkUnder_107 r) (s_ald 0 (s_gr 11 2 (s_gr 5 6 (s_ild 4 (s_cv r 204 1 1 (s_ald 0 (s_gr 11 2 (s_ild 3 (s_cv r 206 1 5 ((kX11_walkUnder_107 r)))))))))))))))))))))))
theorem vX11_walkUnder_57 : pu_cok2 kX11_walkUnder_57 := fun rf r hr => by
  unfold kX11_walkUnder_57
  exact v_ist (v_ild (v_ifeq (vX11_walkUnder_107 rf r hr) (v_ald (v_gr (v_gr (v_ild (v_ild (v_ald (v_gr (v_gr (v_cv hr (v_ifeq (vX11_walkUnder_107 rf r hr) (v_ald (v_gr (v_gr (v_ild (v_cv hr (v_ald (v_gr (v_ild (v_cv hr ((vX11_walkUnder_107 rf r hr)))))))))))))))))))))))
theorem tX11_walkUnder_57 {X : pu_X} {r : pu_R} (hX : pu_H X mdX11_walkUnder) (hr : pu_P X.2.1 X.2.2.2.2.2.2.2.2.2.2.1 r) (hq : ∀ i pc, pu_lp i = some (207, pc) → pu_S X mdX11_walkUnder pc (r i)) : pu_S X mdX11_walkUnder 57 (kX11_walkUnder_57 r) := by
  unfold kX11_walkUnder_57
  exact z_ist hX dX11_walkUnder_57 (z_ild hX dX11_walkUnder_59 (z_ifeq hX dX11_walkUnder_61 (by decide) (tX11_walkUnder_107 hX hr hq) (z_ald_n hX dX11_walkUnder_64 rfl (z_gr (c := 11) (j := 2) hX dX11_walkUnder_65 rfl inlX11 wm1_20 ⟨rfl, by decide, rfl⟩ (z_gr (c := 5) (j := 4) hX dX11_walkUnder_68 rfl inlX5 wm21_20 ⟨rfl, by decide, rfl⟩ (z_ild hX dX11_walkUnder_71 (z_ild_n hX dX11_walkUnder_73 rfl (z_ald_n hX dX11_walkUnder_74 rfl (z_gr (c := 11) (j := 2) hX dX11_walkUnder_75 rfl inlX11 wm1_20 ⟨rfl, by decide, rfl⟩ (z_gr (c := 5) (j := 0) hX dX11_walkUnder_78 rfl inlX5 wm10_19 ⟨rfl, by decide, rfl⟩ (z_cv (c := 2) hX hr dX11_walkUnder_81 hjX2_isThereOn mwX2_isThereOn rfl wm47_9 ⟨wm47_10, wm47_11⟩ ⟨Nat.le_of_ble_eq_true rfl, Nat.le_of_ble_eq_true rfl⟩ (z_ifeq hX dX11_walkUnder_84 (by decide) (tX11_walkUnder_107 hX hr hq) (z_ald_n hX dX11_walkUnder_87 rfl (z_gr (c := 11) (j := 2) hX dX11_walkUnder_88 rfl inlX11 wm1_20 ⟨rfl, by decide, rfl⟩ (z_gr (c := 5) (j := 6) hX dX11_walkUnder_91 rfl inlX5 wm54_0 ⟨rfl, by decide, rfl⟩ (z_ild hX dX11_walkUnder_94 (z_cv (c := 1) hX hr dX11_walkUnder_96 hjX1_addWalked mwX1_addWalked rfl wm67_16 ⟨wm67_17, wm67_18⟩ ⟨Nat.le_of_ble_eq_true rfl, Nat.le_of_ble_eq_true rfl⟩ (z_ald_n hX dX11_walkUnder_99 rfl (z_gr (c := 11) (j := 2) hX dX11_walkUnder_100 rfl inlX11 wm1_20 ⟨rfl, by decide, rfl⟩ (z_ild_n hX dX11_walkUnder_103 rfl (z_cv (c := 5) hX hr dX11_walkUnder_104 hjX5_sinkWalked mwX5_sinkWalked rfl wm68_0 ⟨wm68_1, wm68_2⟩ ⟨Nat.le_of_ble_eq_true rfl, Nat.le_of_ble_eq_true rfl⟩ ((tX11_walkUnder_107 hX hr hq)))))))))))))))))))))))
def kX11_walkUnder_56 (r : pu_R) : pu_K := s_push (.int (0)) ((kX11_walkUnder_57 r))
theorem vX11_walkUnder_56 : pu_cok2 kX11_walkUnder_56 := fun rf r hr => by
  unfold kX11_walkUnder_56
  exact v_pi ((vX11_walkUnder_57 rf r hr))
theorem tX11_walkUnder_56 {X : pu_X} {r : pu_R} (hX : pu_H X mdX11_walkUnder) (hr : pu_P X.2.1 X.2.2.2.2.2.2.2.2.2.2.1 r) (hq : ∀ i pc, pu_lp i = some (207, pc) → pu_S X mdX11_walkUnder pc (r i)) : pu_S X mdX11_walkUnder 56 (kX11_walkUnder_56 r) := by
  unfold kX11_walkUnder_56
  exact z_iconst hX dX11_walkUnder_56 (by decide) ((tX11_walkUnder_57 hX hr hq))
def kX11_walkUnder_14 (r : pu_R) : pu_K := s_ild 4 (s_ald 0 (s_gr 11 2 (s_gr 5 4 (s_gi 2 0 (s_icge (kX11_walkUnder_113 r) (s_ild 4 (s_ild 1 (s_iceq (kX11_walkUnder_56 r) (s_ald 0 (s_gr 11 2 (s_gr 5 4 (s_gr 2 3 (s_ild 4 (s_ai 1 (s_ild 1 (s_icne (kX11_walkUnder_56 r) (s_push (.int (1)) ((kX11_walkUnder_57 r)))))))))))))))))))
theorem vX11_walkUnder_14 : pu_cok2 kX11_walkUnder_14 := fun rf r hr => by
  unfold kX11_walkUnder_14
  exact v_ild (v_ald (v_gr (v_gr (v_gi (v_icge (vX11_walkUnder_113 rf r hr) (v_ild (v_ild (v_iceq (vX11_walkUnder_56 rf r hr) (v_ald (v_gr (v_gr (v_gr (v_ild (v_ai (v_ild (v_icne (vX11_walkUnder_56 rf r hr) (v_pi ((vX11_walkUnder_57 rf r hr)))))))))))))))))))
theorem tX11_walkUnder_14 {X : pu_X} {r : pu_R} (hX : pu_H X mdX11_walkUnder) (hr : pu_P X.2.1 X.2.2.2.2.2.2.2.2.2.2.1 r) (hq : ∀ i pc, pu_lp i = some (207, pc) → pu_S X mdX11_walkUnder pc (r i)) : pu_S X mdX11_walkUnder 14 (kX11_walkUnder_14 r) := by
  unfold kX11_walkUnder_14
  exact z_ild hX dX11_walkUnder_14 (z_ald_n hX dX11_walkUnder_16 rfl (z_gr (c := 11) (j := 2) hX dX11_walkUnder_17 rfl inlX11 wm1_20 ⟨rfl, by decide, rfl⟩ (z_gr (c := 5) (j := 4) hX dX11_walkUnder_20 rfl inlX5 wm21_20 ⟨rfl, by decide, rfl⟩ (z_gi (c := 2) (j := 0) hX dX11_walkUnder_23 rfl inlX2 wm21_21 ⟨rfl, by decide, rfl⟩ (z_icge hX dX11_walkUnder_26 (by decide) (tX11_walkUnder_113 hX hr hq) (z_ild hX dX11_walkUnder_29 (z_ild_n hX dX11_walkUnder_31 rfl (z_iceq hX dX11_walkUnder_32 (by decide) (tX11_walkUnder_56 hX hr hq) (z_ald_n hX dX11_walkUnder_35 rfl (z_gr (c := 11) (j := 2) hX dX11_walkUnder_36 rfl inlX11 wm1_20 ⟨rfl, by decide, rfl⟩ (z_gr (c := 5) (j := 4) hX dX11_walkUnder_39 rfl inlX5 wm21_20 ⟨rfl, by decide, rfl⟩ (z_gr (c := 2) (j := 3) hX dX11_walkUnder_42 rfl inlX2 wm46_18 ⟨rfl, by decide, rfl⟩ (z_ild hX dX11_walkUnder_45 (z_iald hX dX11_walkUnder_47 (z_ild_n hX dX11_walkUnder_48 rfl (z_icne hX dX11_walkUnder_49 (by decide) (tX11_walkUnder_56 hX hr hq) (z_iconst hX dX11_walkUnder_52 (by decide) ((z_goto hX dX11_walkUnder_53 (by decide) (tX11_walkUnder_57 hX hr hq))))))))))))))))))))
def kX11_walkUnder_0 (r : pu_R) : pu_K := s_ald 0 (s_gr 11 2 (s_gr 5 6 (s_gi 1 5 (s_ist 3 (s_push (.int (0)) (s_ist 4 ((r 418))))))))
theorem vX11_walkUnder_0 : pu_cok2 kX11_walkUnder_0 := fun rf r hr => by
  unfold kX11_walkUnder_0
  exact v_ald (v_gr (v_gr (v_gi (v_ist (v_pi (v_ist ((hr 418))))))))
theorem tX11_walkUnder_0 {X : pu_X} {r : pu_R} (hX : pu_H X mdX11_walkUnder) (hr : pu_P X.2.1 X.2.2.2.2.2.2.2.2.2.2.1 r) (hq : ∀ i pc, pu_lp i = some (207, pc) → pu_S X mdX11_walkUnder pc (r i)) : pu_S X mdX11_walkUnder 0 (kX11_walkUnder_0 r) := by
  unfold kX11_walkUnder_0
  exact z_ald_n hX dX11_walkUnder_0 rfl (z_gr (c := 11) (j := 2) hX dX11_walkUnder_1 rfl inlX11 wm1_20 ⟨rfl, by decide, rfl⟩ (z_gr (c := 5) (j := 6) hX dX11_walkUnder_4 rfl inlX5 wm54_0 ⟨rfl, by decide, rfl⟩ (z_gi (c := 1) (j := 5) hX dX11_walkUnder_7 rfl inlX1 wm67_5 ⟨rfl, by decide, rfl⟩ (z_ist_n hX dX11_walkUnder_10 rfl (z_iconst hX dX11_walkUnder_11 (by decide) (z_ist hX dX11_walkUnder_12 ((hq 418 14 hl418))))))))
