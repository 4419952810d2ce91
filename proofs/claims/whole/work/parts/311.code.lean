def kX12_opens_75 (r : pu_R) : pu_K := s_wi 1 (s_ald 0 (s_gr 12 0 (s_push (.int (6)) (s_dup2 (s_ai 1 (s_push (.int (1)) (s_iadd (s_wi 1 (s_vret)))))))))
theorem vX12_opens_75 : pu_cok2 kX12_opens_75 := fun rf r hr => by
  unfold kX12_opens_75
  exact v_wi (v_ald (v_gr (v_pi (v_dup2 (v_ai (v_pi (v_iadd (v_wi (v_vret)))))))))
theorem tX12_opens_75 {X : pu_X} {r : pu_R} (hX : pu_H X mdX12_opens) (hr : pu_P X.2.1 X.2.2.2.2.2.2.2.2.2.2.1 r) (hq : ∀ i pc, pu_lp i = some (274, pc) → pu_S X mdX12_opens pc (r i)) : pu_S X mdX12_opens 75 (kX12_opens_75 r) := by
  unfold kX12_opens_75
  exact z_iast hX dX12_opens_75 (z_ald_n hX dX12_opens_76 rfl (z_gr (c := 12) (j := 0) hX dX12_opens_77 rfl inlX12 wm7_16 ⟨rfl, by decide, rfl⟩ (z_bipush hX dX12_opens_80 (by decide) (z_dup2 hX dX12_opens_82 (z_iald hX dX12_opens_83 (z_iconst hX dX12_opens_84 (by decide) (z_iadd hX dX12_opens_85 (z_iast hX dX12_opens_86 (z_vret hX dX12_opens_87 rfl)))))))))
def kX12_opens_40 (r : pu_R) : pu_K := s_push (.int (2)) (s_iadd (s_ild 3 (s_wi 1 (s_ald 0 (s_gr 12 0 (s_ild 6 (s_push (.int (3)) (s_iadd (s_ild 4 (s_wi 1 (s_ald 0 (s_gr 12 0 (s_ild 6 (s_push (.int (4)) (s_iadd (s_ild 5 (s_wi 1 (s_ald 0 (s_gr 12 0 (s_ild 6 (s_push (.int (5)) (s_iadd (s_push (.int (-1)) ((kX12_opens_75 r)))))))))))))))))))))))))
theorem vX12_opens_40 : pu_cok2 kX12_opens_40 := fun rf r hr => by
  unfold kX12_opens_40
  exact v_pi (v_iadd (v_ild (v_wi (v_ald (v_gr (v_ild (v_pi (v_iadd (v_ild (v_wi (v_ald (v_gr (v_ild (v_pi (v_iadd (v_ild (v_wi (v_ald (v_gr (v_ild (v_pi (v_iadd (v_pi ((vX12_opens_75 rf r hr)))))))))))))))))))))))))
theorem tX12_opens_40 {X : pu_X} {r : pu_R} (hX : pu_H X mdX12_opens) (hr : pu_P X.2.1 X.2.2.2.2.2.2.2.2.2.2.1 r) (hq : ∀ i pc, pu_lp i = some (274, pc) → pu_S X mdX12_opens pc (r i)) : pu_S X mdX12_opens 40 (kX12_opens_40 r) := by
  unfold kX12_opens_40
  exact z_iconst hX dX12_opens_40 (by decide) (z_iadd hX dX12_opens_41 (z_ild_n hX dX12_opens_42 rfl (z_iast hX dX12_opens_43 (z_ald_n hX dX12_opens_44 rfl (z_gr (c := 12) (j := 0) hX dX12_opens_45 rfl inlX12 wm7_16 ⟨rfl, by decide, rfl⟩ (z_ild hX dX12_opens_48 (z_iconst hX dX12_opens_50 (by decide) (z_iadd hX dX12_opens_51 (z_ild hX dX12_opens_52 (z_iast hX dX12_opens_54 (z_ald_n hX dX12_opens_55 rfl (z_gr (c := 12) (j := 0) hX dX12_opens_56 rfl inlX12 wm7_16 ⟨rfl, by decide, rfl⟩ (z_ild hX dX12_opens_59 (z_iconst hX dX12_opens_61 (by decide) (z_iadd hX dX12_opens_62 (z_ild hX dX12_opens_63 (z_iast hX dX12_opens_65 (z_ald_n hX dX12_opens_66 rfl (z_gr (c := 12) (j := 0) hX dX12_opens_67 rfl inlX12 wm7_16 ⟨rfl, by decide, rfl⟩ (z_ild hX dX12_opens_70 (z_iconst hX dX12_opens_72 (by decide) (z_iadd hX dX12_opens_73 (z_iconst hX dX12_opens_74 (by decide) ((tX12_opens_75 hX hr hq)))))))))))))))))))))))))
def kX12_opens_0 (r : pu_R) : pu_K := s_push (.int (10752)) (s_push (.int (6)) (s_ald 0 (s_gr 12 0 (s_push (.int (6)) (s_ai 1 (s_imul (s_iadd (s_ist 6 (s_ald 0 (s_gr 12 0 (s_ild 6 (s_ild 1 (s_wi 1 (s_ald 0 (s_gr 12 0 (s_ild 6 (s_push (.int (1)) (s_iadd (s_ild 2 (s_wi 1 (s_ald 0 (s_gr 12 0 (s_ild 6 ((kX12_opens_40 r)))))))))))))))))))))))))
theorem vX12_opens_0 : pu_cok2 kX12_opens_0 := fun rf r hr => by
  unfold kX12_opens_0
  exact v_pi (v_pi (v_ald (v_gr (v_pi (v_ai (v_imul (v_iadd (v_ist (v_ald (v_gr (v_ild (v_ild (v_wi (v_ald (v_gr (v_ild (v_pi (v_iadd (v_ild (v_wi (v_ald (v_gr (v_ild ((vX12_opens_40 rf r hr)))))))))))))))))))))))))
theorem tX12_opens_0 {X : pu_X} {r : pu_R} (hX : pu_H X mdX12_opens) (hr : pu_P X.2.1 X.2.2.2.2.2.2.2.2.2.2.1 r) (hq : ∀ i pc, pu_lp i = some (274, pc) → pu_S X mdX12_opens pc (r i)) : pu_S X mdX12_opens 0 (kX12_opens_0 r) := by
  unfold kX12_opens_0
  exact z_sipush hX dX12_opens_0 (by decide) (z_bipush hX dX12_opens_3 (by decide) (z_ald_n hX dX12_opens_5 rfl (z_gr (c := 12) (j := 0) hX dX12_opens_6 rfl inlX12 wm7_16 ⟨rfl, by decide, rfl⟩ (z_bipush hX dX12_opens_9 (by decide) (z_iald hX dX12_opens_11 (z_imul hX dX12_opens_12 (z_iadd hX dX12_opens_13 (z_ist hX dX12_opens_14 (z_ald_n hX dX12_opens_16 rfl (z_gr (c := 12) (j := 0) hX dX12_opens_17 rfl inlX12 wm7_16 ⟨rfl, by decide, rfl⟩ (z_ild hX dX12_opens_20 (z_ild_n hX dX12_opens_22 rfl (z_iast hX dX12_opens_23 (z_ald_n hX dX12_opens_24 rfl (z_gr (c := 12) (j := 0) hX dX12_opens_25 rfl inlX12 wm7_16 ⟨rfl, by decide, rfl⟩ (z_ild hX dX12_opens_28 (z_iconst hX dX12_opens_30 (by decide) (z_iadd hX dX12_opens_31 (z_ild_n hX dX12_opens_32 rfl (z_iast hX dX12_opens_33 (z_ald_n hX dX12_opens_34 rfl (z_gr (c := 12) (j := 0) hX dX12_opens_35 rfl inlX12 wm7_16 ⟨rfl, by decide, rfl⟩ (z_ild hX dX12_opens_38 ((tX12_opens_40 hX hr hq)))))))))))))))))))))))))
def kX12_along_19 (r : pu_R) : pu_K := s_push (.int (100000)) (s_ild 1 (s_imul (s_ild 2 (s_iadd (s_iret)))))
theorem vX12_along_19 : pu_cok2 kX12_along_19 := fun rf r hr => by
  unfold kX12_along_19
  exact v_pi (v_ild (v_imul (v_ild (v_iadd (v_iret)))))
theorem tX12_along_19 {X : pu_X} {r : pu_R} (hX : pu_H X mdX12_along) (hr : pu_P X.2.1 X.2.2.2.2.2.2.2.2.2.2.1 r) (hq : ∀ i pc, pu_lp i = some (275, pc) → pu_S X mdX12_along pc (r i)) : pu_S X mdX12_along 19 (kX12_along_19 r) := by
  unfold kX12_along_19
  exact z_ldc hX dX12_along_19 wm29_18 (z_ild_n hX dX12_along_21 rfl (z_imul hX dX12_along_22 (z_ild_n hX dX12_along_23 rfl (z_iadd hX dX12_along_24 (z_iret hX dX12_along_25 rfl)))))
def kX12_along_18 (r : pu_R) : pu_K := s_iret
theorem vX12_along_18 : pu_cok2 kX12_along_18 := fun rf r hr => by
  unfold kX12_along_18
  exact v_iret
theorem tX12_along_18 {X : pu_X} {r : pu_R} (hX : pu_H X mdX12_along) (hr : pu_P X.2.1 X.2.2.2.2.2.2.2.2.2.2.1 r) (hq : ∀ i pc, pu_lp i = some (275, pc) → pu_S X mdX12_along pc (r i)) : pu_S X mdX12_along 18 (kX12_along_18 r) := by
  unfold kX12_along_18
  exact z_iret hX dX12_along_18 rfl
def kX12_along_13 (r : pu_R) : pu_K := s_push (.int (20000)) (s_ild 2 (s_isub ((kX12_along_18 r))))
theorem vX12_along_13 : pu_cok2 kX12_along_13 := fun rf r hr => by
  unfold kX12_along_13
  exact v_pi (v_ild (v_isub ((vX12_along_18 rf r hr))))
theorem tX12_along_13 {X : pu_X} {r : pu_R} (hX : pu_H X mdX12_along) (hr : pu_P X.2.1 X.2.2.2.2.2.2.2.2.2.2.1 r) (hq : ∀ i pc, pu_lp i = some (275, pc) → pu_S X mdX12_along pc (r i)) : pu_S X mdX12_along 13 (kX12_along_13 r) := by
  unfold kX12_along_13
  exact z_sipush hX dX12_along_13 (by decide) (z_ild_n hX dX12_along_16 rfl (z_isub hX dX12_along_17 ((tX12_along_18 hX hr hq))))
def kX12_along_0 (r : pu_R) : pu_K := s_ild 0 (s_push (.int (1)) (s_icne (kX12_along_19 r) (s_ild 1 (s_ifne (kX12_along_13 r) (s_ild 2 ((kX12_along_18 r)))))))
theorem vX12_along_0 : pu_cok2 kX12_along_0 := fun rf r hr => by
  unfold kX12_along_0
  exact v_ild (v_pi (v_icne (vX12_along_19 rf r hr) (v_ild (v_ifne (vX12_along_13 rf r hr) (v_ild ((vX12_along_18 rf r hr)))))))
theorem tX12_along_0 {X : pu_X} {r : pu_R} (hX : pu_H X mdX12_along) (hr : pu_P X.2.1 X.2.2.2.2.2.2.2.2.2.2.1 r) (hq : ∀ i pc, pu_lp i = some (275, pc) → pu_S X mdX12_along pc (r i)) : pu_S X mdX12_along 0 (kX12_along_0 r) := by
  unfold kX12_along_0
  exact z_ild_n hX dX12_along_0 rfl (z_iconst hX dX12_along_1 (by decide) (z_icne hX dX12_along_2 (by decide) (tX12_along_19 hX hr hq) (z_ild_n hX dX12_along_5 rfl (z_ifne hX dX12_along_6 (by decide) (tX12_along_13 hX hr hq) (z_ild_n hX dX12_along_9 rfl ((z_goto hX dX12_along_10 (by decide) (tX12_along_18 hX hr hq))))))))
def kX12_isOrdered_15 (r : pu_R) : pu_K := s_zret
theorem vX12_isOrdered_15 : pu_cok2 kX12_isOrdered_15 := fun rf r hr => by
  unfold kX12_isOrdered_15
  exact v_zret
theorem tX12_isOrdered_15 {X : pu_X} {r : pu_R} (hX : pu_H X mdX12_isOrdered) (hr : pu_P X.2.1 X.2.2.2.2.2.2.2.2.2.2.1 r) (hq : ∀ i pc, pu_lp i = some (276, pc) → pu_S X mdX12_isOrdered pc (r i)) : pu_S X mdX12_isOrdered 15 (kX12_isOrdered_15 r) := by
  unfold kX12_isOrdered_15
  exact z_zret hX dX12_isOrdered_15 rfl
def kX12_isOrdered_14 (r : pu_R) : pu_K := s_push (.int (0)) ((kX12_isOrdered_15 r))
theorem vX12_isOrdered_14 : pu_cok2 kX12_isOrdered_14 := fun rf r hr => by
  unfold kX12_isOrdered_14
  exact v_pi ((vX12_isOrdered_15 rf r hr))
theorem tX12_isOrdered_14 {X : pu_X} {r : pu_R} (hX : pu_H X mdX12_isOrdered) (hr : pu_P X.2.1 X.2.2.2.2.2.2.2.2.2.2.1 r) (hq : ∀ i pc, pu_lp i = some (276, pc) → pu_S X mdX12_isOrdered pc (r i)) : pu_S X mdX12_isOrdered 14 (kX12_isOrdered_14 r) := by
  unfold kX12_isOrdered_14
  exact z_iconst hX dX12_isOrdered_14 (by decide) ((tX12_isOrdered_15 hX hr hq))
def kX12_isOrdered_10 (r : pu_R) : pu_K := s_push (.int (1)) ((kX12_isOrdered_15 r))
theorem vX12_isOrdered_10 : pu_cok2 kX12_isOrdered_10 := fun rf r hr => by
  unfold kX12_isOrdered_10
  exact v_pi ((vX12_isOrdered_15 rf r hr))
theorem tX12_isOrdered_10 {X : pu_X} {r : pu_R} (hX : pu_H X mdX12_isOrdered) (hr : pu_P X.2.1 X.2.2.2.2.2.2.2.2.2.2.1 r) (hq : ∀ i pc, pu_lp i = some (276, pc) → pu_S X mdX12_isOrdered pc (r i)) : pu_S X mdX12_isOrdered 10 (kX12_isOrdered_10 r) := by
  unfold kX12_isOrdered_10
  exact z_iconst hX dX12_isOrdered_10 (by decide) ((z_goto hX dX12_isOrdered_11 (by decide) (tX12_isOrdered_15 hX hr hq)))
def kX12_isOrdered_0 (r : pu_R) : pu_K := s_ild 0 (s_push (.int (1)) (s_iceq (kX12_isOrdered_10 r) (s_ild 1 (s_ild 2 (s_icne (kX12_isOrdered_14 r) ((kX12_isOrdered_10 r)))))))
theorem vX12_isOrdered_0 : pu_cok2 kX12_isOrdered_0 := fun rf r hr => by
  unfold kX12_isOrdered_0
  exact v_ild (v_pi (v_iceq (vX12_isOrdered_10 rf r hr) (v_ild (v_ild (v_icne (vX12_isOrdered_14 rf r hr) ((vX12_isOrdered_10 rf r hr)))))))
theorem tX12_isOrdered_0 {X : pu_X} {r : pu_R} (hX : pu_H X mdX12_isOrdered) (hr : pu_P X.2.1 X.2.2.2.2.2.2.2.2.2.2.1 r) (hq : ∀ i pc, pu_lp i = some (276, pc) → pu_S X mdX12_isOrdered pc (r i)) : pu_S X mdX12_isOrdered 0 (kX12_isOrdered_0 r) := by
  unfold kX12_isOrdered_0
  exact z_ild_n hX dX12_isOrdered_0 rfl (z_iconst hX dX12_isOrdered_1 (by decide) (z_iceq hX dX12_isOrdered_2 (by decide) (tX12_isOrdered_10 hX hr hq) (z_ild_n hX dX12_isOrdered_5 rfl (z_ild_n hX dX12_isOrdered_6 rfl (z_icne hX dX12_isOrdered_7 (by decide) (tX12_isOrdered_14 hX hr hq) ((tX12_isOrdered_10 hX hr hq)))))))
def kX12_bounds_215 (r : pu_R) : pu_K := s_vret
theorem vX12_bounds_215 : pu_cok2 kX12_bounds_215 := fun rf r hr => by
  unfold kX12_bounds_215
  exact v_vret
theorem tX12_bounds_215 {X : pu_X} {r : pu_R} (hX : pu_H X mdX12_bounds) (hr : pu_P X.2.1 X.2.2.2.2.2.2.2.2.2.2.1 r) (hq : ∀ i pc, pu_lp i = some (277, pc) → pu_S X mdX12_bounds pc (r i)) : pu_S X mdX12_bounds 215 (kX12_bounds_215 r) := by
  unfold kX12_bounds_215
  exact z_vret hX dX12_bounds_215 rfl
def kX12_bounds_209 (r : pu_R) : pu_K := s_inc 8 (1) ((r 458))
theorem vX12_bounds_209 : pu_cok2 kX12_bounds_209 := fun rf r hr => by
  unfold kX12_bounds_209
  exact v_inc ((hr 458))
theorem tX12_bounds_209 {X : pu_X} {r : pu_R} (hX : pu_H X mdX12_bounds) (hr : pu_P X.2.1 X.2.2.2.2.2.2.2.2.2.2.1 r) (hq : ∀ i pc, pu_lp i = some (277, pc) → pu_S X mdX12_bounds pc (r i)) : pu_S X mdX12_bounds 209 (kX12_bounds_209 r) := by
  unfold kX12_bounds_209
  exact z_inc hX dX12_bounds_209 (by decide) ((z_goto hX dX12_bounds_212 (by decide) (hq 458 42 hl458)))
def kX12_bounds_203 (r : pu_R) : pu_K := s_inc 9 (1) ((r 459))
theorem vX12_bounds_203 : pu_cok2 kX12_bounds_203 := fun rf r hr => by
  unfold kX12_bounds_203
  exact v_inc ((hr 459))
theorem tX12_bounds_203 {X : pu_X} {r : pu_R} (hX : pu_H X mdX12_bounds) (hr : pu_P X.2.1 X.2.2.2.2.2.2.2.2.2.2.1 r) (hq : ∀ i pc, pu_lp i = some (277, pc) → pu_S X mdX12_bounds pc (r i)) : pu_S X mdX12_bounds 203 (kX12_bounds_203 r) := by
  unfold kX12_bounds_203
  exact z_inc hX dX12_bounds_203 (by decide) ((z_goto hX dX12_bounds_206 (by decide) (hq 459 56 hl459)))
def kX12_bounds_179 (r : pu_R) : pu_K := s_ild 11 (s_ild 5 (s_icle (kX12_bounds_203 r) (s_ild 11 (s_ild 7 (s_icge (kX12_bounds_203 r) (s_ild 11 (s_ist 7 (s_ald 0 (s_ild 10 (s_pi 12 11 ((kX12_bounds_203 r))))))))))))
theorem vX12_bounds_179 : pu_cok2 kX12_bounds_179 := fun rf r hr => by
  unfold kX12_bounds_179
  exact v_ild (v_ild (v_icle (vX12_bounds_203 rf r hr) (v_ild (v_ild (v_icge (vX12_bounds_203 rf r hr) (v_ild (v_ist (v_ald (v_ild (v_puti ((vX12_bounds_203 rf r hr))))))))))))
theorem tX12_bounds_179 {X : pu_X} {r : pu_R} (hX : pu_H X mdX12_bounds) (hr : pu_P X.2.1 X.2.2.2.2.2.2.2.2.2.2.1 r) (hq : ∀ i pc, pu_lp i = some (277, pc) → pu_S X mdX12_bounds pc (r i)) : pu_S X mdX12_bounds 179 (kX12_bounds_179 r) := by
  unfold kX12_bounds_179
  exact z_ild hX dX12_bounds_179 (z_ild hX dX12_bounds_181 (z_icle hX dX12_bounds_183 (by decide) (tX12_bounds_203 hX hr hq) (z_ild hX dX12_bounds_186 (z_ild hX dX12_bounds_188 (z_icge hX dX12_bounds_190 (by decide) (tX12_bounds_203 hX hr hq) (z_ild hX dX12_bounds_193 (z_ist hX dX12_bounds_195 (z_ald_n hX dX12_bounds_197 rfl (z_ild hX dX12_bounds_198 (z_pi (c := 12) (j := 11) tyX12 tyX12_ok nmX12 hX dX12_bounds_200 rfl inlX12 wm8_6 ⟨rfl, by decide⟩ ⟨rfl, rfl⟩ rfl ((tX12_bounds_203 hX hr hq))))))))))))
def kX12_bounds_132 (r : pu_R) : pu_K := s_ild 4 (s_ald 0 (s_ild 8 (s_ild 9 (s_cv r 269 2 12 (s_ald 0 (s_ild 8 (s_ild 9 (s_cv r 270 2 12 (s_cs r 275 3 (s_ist 11 (s_ild 11 (s_ild 5 (s_icge (kX12_bounds_179 r) (s_ild 11 (s_ild 6 (s_icle (kX12_bounds_179 r) (s_ild 11 (s_ist 6 (s_ald 0 (s_ild 10 (s_pi 12 10 ((kX12_bounds_179 r)))))))))))))))))))))))
theorem vX12_bounds_132 : pu_cok2 kX12_bounds_132 := fun rf r hr => by
  unfold kX12_bounds_132
  exact v_ild (v_ald (v_ild (v_ild (v_cv hr (v_ald (v_ild (v_ild (v_cv hr (v_cs hr (v_ist (v_ild (v_ild (v_icge (vX12_bounds_179 rf r hr) (v_ild (v_ild (v_icle (vX12_bounds_179 rf r hr) (v_ild (v_ist (v_ald (v_ild (v_puti ((vX12_bounds_179 rf r hr)))))))))))))))))))))))
theorem tX12_bounds_132 {X : pu_X} {r : pu_R} (hX : pu_H X mdX12_bounds) (hr : pu_P X.2.1 X.2.2.2.2.2.2.2.2.2.2.1 r) (hq : ∀ i pc, pu_lp i = some (277, pc) → pu_S X mdX12_bounds pc (r i)) : pu_S X mdX12_bounds 132 (kX12_bounds_132 r) := by
  unfold kX12_bounds_132
  exact z_ild hX dX12_bounds_132 (z_ald_n hX dX12_bounds_134 rfl (z_ild hX dX12_bounds_135 (z_ild hX dX12_bounds_137 (z_cv (c := 12) hX hr dX12_bounds_139 hjX12_sideAt mwX12_sideAt rfl wm30_15 ⟨wm30_16, wm30_17⟩ ⟨Nat.le_of_ble_eq_true rfl, Nat.le_of_ble_eq_true rfl⟩ (z_ald_n hX dX12_bounds_142 rfl (z_ild hX dX12_bounds_143 (z_ild hX dX12_bounds_145 (z_cv (c := 12) hX hr dX12_bounds_147 hjX12_pacesAt mwX12_pacesAt rfl wm31_6 ⟨wm31_7, wm31_8⟩ ⟨Nat.le_of_ble_eq_true rfl, Nat.le_of_ble_eq_true rfl⟩ (z_cs hX hr dX12_bounds_150 hjX12_along mwX12_along wm29_15 wm29_16 ⟨Nat.le_of_ble_eq_true rfl, Nat.le_of_ble_eq_true rfl⟩ (z_ist hX dX12_bounds_153 (z_ild hX dX12_bounds_155 (z_ild hX dX12_bounds_157 (z_icge hX dX12_bounds_159 (by decide) (tX12_bounds_179 hX hr hq) (z_ild hX dX12_bounds_162 (z_ild hX dX12_bounds_164 (z_icle hX dX12_bounds_166 (by decide) (tX12_bounds_179 hX hr hq) (z_ild hX dX12_bounds_169 (z_ist hX dX12_bounds_171 (z_ald_n hX dX12_bounds_173 rfl (z_ild hX dX12_bounds_174 (z_pi (c := 12) (j := 10) tyX12 tyX12_ok nmX12 hX dX12_bounds_176 rfl inlX12 wm8_5 ⟨rfl, by decide⟩ ⟨rfl, rfl⟩ rfl ((tX12_bounds_179 hX hr hq)))))))))))))))))))))))
def kX12_bounds_114 (r : pu_R) : pu_K := s_ald 0 (s_ild 8 (s_ild 9 (s_cv r 273 2 12 (s_ist 10 (s_ild 10 (s_ifgt (kX12_bounds_132 r) ((kX12_bounds_203 r))))))))
theorem vX12_bounds_114 : pu_cok2 kX12_bounds_114 := fun rf r hr => by
  unfold kX12_bounds_114
  exact v_ald (v_ild (v_ild (v_cv hr (v_ist (v_ild (v_ifgt (vX12_bounds_132 rf r hr) ((vX12_bounds_203 rf r hr))))))))
theorem tX12_bounds_114 {X : pu_X} {r : pu_R} (hX : pu_H X mdX12_bounds) (hr : pu_P X.2.1 X.2.2.2.2.2.2.2.2.2.2.1 r) (hq : ∀ i pc, pu_lp i = some (277, pc) → pu_S X mdX12_bounds pc (r i)) : pu_S X mdX12_bounds 114 (kX12_bounds_114 r) := by
  unfold kX12_bounds_114
  exact z_ald_n hX dX12_bounds_114 rfl (z_ild hX dX12_bounds_115 (z_ild hX dX12_bounds_117 (z_cv (c := 12) hX hr dX12_bounds_119 hjX12_wholeAt mwX12_wholeAt rfl wm30_22 ⟨wm30_23, wm31_0⟩ ⟨Nat.le_of_ble_eq_true rfl, Nat.le_of_ble_eq_true rfl⟩ (z_ist hX dX12_bounds_122 (z_ild hX dX12_bounds_124 (z_ifgt hX dX12_bounds_126 (by decide) (tX12_bounds_132 hX hr hq) ((z_goto hX dX12_bounds_129 (by decide) (tX12_bounds_203 hX hr hq)))))))))
def kX12_bounds_105 (r : pu_R) : pu_K := s_cs r 276 3 (s_ifne (kX12_bounds_114 r) ((kX12_bounds_203 r)))
theorem vX12_bounds_105 : pu_cok2 kX12_bounds_105 := fun rf r hr => by
  unfold kX12_bounds_105
  exact v_cs hr (v_ifne (vX12_bounds_114 rf r hr) ((vX12_bounds_203 rf r hr)))
theorem tX12_bounds_105 {X : pu_X} {r : pu_R} (hX : pu_H X mdX12_bounds) (hr : pu_P X.2.1 X.2.2.2.2.2.2.2.2.2.2.1 r) (hq : ∀ i pc, pu_lp i = some (277, pc) → pu_S X mdX12_bounds pc (r i)) : pu_S X mdX12_bounds 105 (kX12_bounds_105 r) := by
  unfold kX12_bounds_105
  exact z_cs hX hr dX12_bounds_105 hjX12_isOrdered mwX12_isOrdered wm30_19 wm30_20 ⟨Nat.le_of_ble_eq_true rfl, Nat.le_of_ble_eq_true rfl⟩ (z_ifne hX dX12_bounds_108 (by decide) (tX12_bounds_114 hX hr hq) ((z_goto hX dX12_bounds_111 (by decide) (tX12_bounds_203 hX hr hq))))
def kX12_bounds_56 (r : pu_R) : pu_K := s_ild 9 (s_push (.int (2)) (s_icge (kX12_bounds_209 r) (s_ald 0 (s_ild 8 (s_cv r 266 1 12 (s_ifeq (kX12_bounds_203 r) (s_ald 0 (s_ild 8 (s_ild 9 (s_cv r 267 2 12 (s_ifeq (kX12_bounds_203 r) (s_ald 0 (s_ild 8 (s_ild 9 (s_cv r 268 2 12 (s_ild 1 (s_icne (kX12_bounds_203 r) (s_ild 4 (s_ild 2 (s_ald 0 (s_ild 8 (s_ild 9 (s_cv r 269 2 12 ((kX12_bounds_105 r)))))))))))))))))))))))))
theorem vX12_bounds_56 : pu_cok2 kX12_bounds_56 := fun rf r hr => by
  unfold kX12_bounds_56
  exact v_ild (v_pi (v_icge (vX12_bounds_209 rf r hr) (v_ald (v_ild (v_cv hr (v_ifeq (vX12_bounds_203 rf r hr) (v_ald (v_ild (v_ild (v_cv hr (v_ifeq (vX12_bounds_203 rf r hr) (v_ald (v_ild (v_ild (v_cv hr (v_ild (v_icne (vX12_bounds_203 rf r hr) (v_ild (v_ild (v_ald (v_ild (v_ild (v_cv hr ((vX12_bounds_105 rf r hr)))))))))))))))))))))))))
theorem tX12_bounds_56 {X : pu_X} {r : pu_R} (hX : pu_H X mdX12_bounds) (hr : pu_P X.2.1 X.2.2.2.2.2.2.2.2.2.2.1 r) (hq : ∀ i pc, pu_lp i = some (277, pc) → pu_S X mdX12_bounds pc (r i)) : pu_S X mdX12_bounds 56 (kX12_bounds_56 r) := by
  unfold kX12_bounds_56
  exact z_ild hX dX12_bounds_56 (z_iconst hX dX12_bounds_58 (by decide) (z_icge hX dX12_bounds_59 (by decide) (tX12_bounds_209 hX hr hq) (z_ald_n hX dX12_bounds_62 rfl (z_ild hX dX12_bounds_63 (z_cv (c := 12) hX hr dX12_bounds_65 hjX12_isOpen mwX12_isOpen rfl wm29_19 ⟨wm29_20, wm29_21⟩ ⟨Nat.le_of_ble_eq_true rfl, Nat.le_of_ble_eq_true rfl⟩ (z_ifeq hX dX12_bounds_68 (by decide) (tX12_bounds_203 hX hr hq) (z_ald_n hX dX12_bounds_71 rfl (z_ild hX dX12_bounds_72 (z_ild hX dX12_bounds_74 (z_cv (c := 12) hX hr dX12_bounds_76 hjX12_hasPlace mwX12_hasPlace rfl wm30_7 ⟨wm30_8, wm30_9⟩ ⟨Nat.le_of_ble_eq_true rfl, Nat.le_of_ble_eq_true rfl⟩ (z_ifeq hX dX12_bounds_79 (by decide) (tX12_bounds_203 hX hr hq) (z_ald_n hX dX12_bounds_82 rfl (z_ild hX dX12_bounds_83 (z_ild hX dX12_bounds_85 (z_cv (c := 12) hX hr dX12_bounds_87 hjX12_streetAt mwX12_streetAt rfl wm30_11 ⟨wm30_12, wm30_13⟩ ⟨Nat.le_of_ble_eq_true rfl, Nat.le_of_ble_eq_true rfl⟩ (z_ild_n hX dX12_bounds_90 rfl (z_icne hX dX12_bounds_91 (by decide) (tX12_bounds_203 hX hr hq) (z_ild hX dX12_bounds_94 (z_ild_n hX dX12_bounds_96 rfl (z_ald_n hX dX12_bounds_97 rfl (z_ild hX dX12_bounds_98 (z_ild hX dX12_bounds_100 (z_cv (c := 12) hX hr dX12_bounds_102 hjX12_sideAt mwX12_sideAt rfl wm30_15 ⟨wm30_16, wm30_17⟩ ⟨Nat.le_of_ble_eq_true rfl, Nat.le_of_ble_eq_true rfl⟩ ((tX12_bounds_105 hX hr hq)))))))))))))))))))))))))
def kX12_bounds_42 (r : pu_R) : pu_K := s_ild 8 (s_ald 0 (s_gr 12 0 (s_push (.int (4)) (s_ai 1 (s_icge (kX12_bounds_215 r) (s_push (.int (0)) (s_ist 9 ((r 459)))))))))
theorem vX12_bounds_42 : pu_cok2 kX12_bounds_42 := fun rf r hr => by
  unfold kX12_bounds_42
  exact v_ild (v_ald (v_gr (v_pi (v_ai (v_icge (vX12_bounds_215 rf r hr) (v_pi (v_ist ((hr 459)))))))))
theorem tX12_bounds_42 {X : pu_X} {r : pu_R} (hX : pu_H X mdX12_bounds) (hr : pu_P X.2.1 X.2.2.2.2.2.2.2.2.2.2.1 r) (hq : ∀ i pc, pu_lp i = some (277, pc) → pu_S X mdX12_bounds pc (r i)) : pu_S X mdX12_bounds 42 (kX12_bounds_42 r) := by
  unfold kX12_bounds_42
  exact z_ild hX dX12_bounds_42 (z_ald_n hX dX12_bounds_44 rfl (z_gr (c := 12) (j := 0) hX dX12_bounds_45 rfl inlX12 wm7_16 ⟨rfl, by decide, rfl⟩ (z_iconst hX dX12_bounds_48 (by decide) (z_iald hX dX12_bounds_49 (z_icge hX dX12_bounds_50 (by decide) (tX12_bounds_215 hX hr hq) (z_iconst hX dX12_bounds_53 (by decide) (z_ist hX dX12_bounds_54 ((hq 459 56 hl459)))))))))
def kX12_bounds_0 (r : pu_R) : pu_K := s_ald 0 (s_gr 12 0 (s_push (.int (7528)) (s_ild 1 (s_iadd (s_ai 1 (s_ist 4 (s_ild 4 (s_ild 2 (s_ild 3 (s_cs r 275 3 (s_ist 5 (s_push (.int (-1)) (s_ist 6 (s_push (.int (1000000)) (s_ist 7 (s_ald 0 (s_push (.int (0)) (s_pi 12 10 (s_ald 0 (s_push (.int (160000)) (s_pi 12 11 (s_push (.int (0)) (s_ist 8 ((r 458)))))))))))))))))))))))))
theorem vX12_bounds_0 : pu_cok2 kX12_bounds_0 := fun rf r hr => by
  unfold kX12_bounds_0
  exact v_ald (v_gr (v_pi (v_ild (v_iadd (v_ai (v_ist (v_ild (v_ild (v_ild (v_cs hr (v_ist (v_pi (v_ist (v_pi (v_ist (v_ald (v_pi (v_puti (v_ald (v_pi (v_puti (v_pi (v_ist ((hr 458)))))))))))))))))))))))))
theorem tX12_bounds_0 {X : pu_X} {r : pu_R} (hX : pu_H X mdX12_bounds) (hr : pu_P X.2.1 X.2.2.2.2.2.2.2.2.2.2.1 r) (hq : ∀ i pc, pu_lp i = some (277, pc) → pu_S X mdX12_bounds pc (r i)) : pu_S X mdX12_bounds 0 (kX12_bounds_0 r) := by
  unfold kX12_bounds_0
  exact z_ald_n hX dX12_bounds_0 rfl (z_gr (c := 12) (j := 0) hX dX12_bounds_1 rfl inlX12 wm7_16 ⟨rfl, by decide, rfl⟩ (z_sipush hX dX12_bounds_4 (by decide) (z_ild_n hX dX12_bounds_7 rfl (z_iadd hX dX12_bounds_8 (z_iald hX dX12_bounds_9 (z_ist hX dX12_bounds_10 (z_ild hX dX12_bounds_12 (z_ild_n hX dX12_bounds_14 rfl (z_ild_n hX dX12_bounds_15 rfl (z_cs hX hr dX12_bounds_16 hjX12_along mwX12_along wm29_15 wm29_16 ⟨Nat.le_of_ble_eq_true rfl, Nat.le_of_ble_eq_true rfl⟩ (z_ist hX dX12_bounds_19 (z_iconst hX dX12_bounds_21 (by decide) (z_ist hX dX12_bounds_22 (z_ldc hX dX12_bounds_24 wm29_13 (z_ist hX dX12_bounds_26 (z_ald_n hX dX12_bounds_28 rfl (z_iconst hX dX12_bounds_29 (by decide) (z_pi (c := 12) (j := 10) tyX12 tyX12_ok nmX12 hX dX12_bounds_30 rfl inlX12 wm8_5 ⟨rfl, by decide⟩ ⟨rfl, rfl⟩ rfl (z_ald_n hX dX12_bounds_33 rfl (z_ldc hX dX12_bounds_34 wm29_14 (z_pi (c := 12) (j := 11) tyX12 tyX12_ok nmX12 hX dX12_bounds_36 rfl inlX12 wm8_6 ⟨rfl, by decide⟩ ⟨rfl, rfl⟩ rfl (z_iconst hX dX12_bounds_39 (by decide) (z_ist hX dX12_bounds_40 ((hq 458 42 hl458)))))))))))))))))))))))))
def kX12_isUsed_75 (r : pu_R) : pu_K := s_push (.int (0)) (s_zret)
theorem vX12_isUsed_75 : pu_cok2 kX12_isUsed_75 := fun rf r hr => by
  unfold kX12_isUsed_75
  exact v_pi (v_zret)
theorem tX12_isUsed_75 {X : pu_X} {r : pu_R} (hX : pu_H X mdX12_isUsed) (hr : pu_P X.2.1 X.2.2.2.2.2.2.2.2.2.2.1 r) (hq : ∀ i pc, pu_lp i = some (278, pc) → pu_S X mdX12_isUsed pc (r i)) : pu_S X mdX12_isUsed 75 (kX12_isUsed_75 r) := by
  unfold kX12_isUsed_75
  exact z_iconst hX dX12_isUsed_75 (by decide) (z_zret hX dX12_isUsed_76 rfl)
def kX12_isUsed_69 (r : pu_R) : pu_K := s_inc 3 (1) ((r 460))
theorem vX12_isUsed_69 : pu_cok2 kX12_isUsed_69 := fun rf r hr => by
  unfold kX12_isUsed_69
  exact v_inc ((hr 460))
theorem tX12_isUsed_69 {X : pu_X} {r : pu_R} (hX : pu_H X mdX12_isUsed) (hr : pu_P X.2.1 X.2.2.2.2.2.2.2.2.2.2.1 r) (hq : ∀ i pc, pu_lp i = some (278, pc) → pu_S X mdX12_isUsed pc (r i)) : pu_S X mdX12_isUsed 69 (kX12_isUsed_69 r) := by
  unfold kX12_isUsed_69
  exact z_inc hX dX12_isUsed_69 (by decide) ((z_goto hX dX12_isUsed_72 (by decide) (hq 460 2 hl460)))
def kX12_isUsed_63 (r : pu_R) : pu_K := s_inc 4 (1) ((r 461))
theorem vX12_isUsed_63 : pu_cok2 kX12_isUsed_63 := fun rf r hr => by
  unfold kX12_isUsed_63
  exact v_inc ((hr 461))
theorem tX12_isUsed_63 {X : pu_X} {r : pu_R} (hX : pu_H X mdX12_isUsed) (hr : pu_P X.2.1 X.2.2.2.2.2.2.2.2.2.2.1 r) (hq : ∀ i pc, pu_lp i = some (278, pc) → pu_S X mdX12_isUsed pc (r i)) : pu_S X mdX12_isUsed 63 (kX12_isUsed_63 r) := by
  unfold kX12_isUsed_63
  exact z_inc hX dX12_isUsed_63 (by decide) ((z_goto hX dX12_isUsed_66 (by decide) (hq 461 15 hl461)))
def kX12_isUsed_61 (r : pu_R) : pu_K := s_push (.int (1)) (s_zret)
theorem vX12_isUsed_61 : pu_cok2 kX12_isUsed_61 := fun rf r hr => by
  unfold kX12_isUsed_61
  exact v_pi (v_zret)
theorem tX12_isUsed_61 {X : pu_X} {r : pu_R} (hX : pu_H X mdX12_isUsed) (hr : pu_P X.2.1 X.2.2.2.2.2.2.2.2.2.2.1 r) (hq : ∀ i pc, pu_lp i = some (278, pc) → pu_S X mdX12_isUsed pc (r i)) : pu_S X mdX12_isUsed 61 (kX12_isUsed_61 r) := by
  unfold kX12_isUsed_61
  exact z_iconst hX dX12_isUsed_61 (by decide) (z_zret hX dX12_isUsed_62 rfl)
def kX12_isUsed_15 (r : pu_R) : pu_K := s_ild 4 (s_push (.int (2)) (s_icge (kX12_isUsed_69 r) (s_ald 0 (s_ild 3 (s_cv r 266 1 12 (s_ifeq (kX12_isUsed_63 r) (s_ald 0 (s_ild 3 (s_ild 4 (s_cv r 267 2 12 (s_ifeq (kX12_isUsed_63 r) (s_ald 0 (s_ild 3 (s_ild 4 (s_cv r 268 2 12 (s_ild 1 (s_icne (kX12_isUsed_63 r) (s_ald 0 (s_ild 3 (s_ild 4 (s_cv r 273 2 12 (s_ild 2 (s_icne (kX12_isUsed_63 r) ((kX12_isUsed_61 r)))))))))))))))))))))))))
theorem vX12_isUsed_15 : pu_cok2 kX12_isUsed_15 := fun rf r hr => by
  unfold kX12_isUsed_15
  exact v_ild (v_pi (v_icge (vX12_isUsed_69 rf r hr) (v_ald (v_ild (v_cv hr (v_ifeq (vX12_isUsed_63 rf r hr) (v_ald (v_ild (v_ild (v_cv hr (v_ifeq (vX12_isUsed_63 rf r hr) (v_ald (v_ild (v_ild (v_cv hr (v_ild (v_icne (vX12_isUsed_63 rf r hr) (v_ald (v_ild (v_ild (v_cv hr (v_ild (v_icne (vX12_isUsed_63 rf r hr) ((vX12_isUsed_61 rf r hr)))))))))))))))))))))))))
theorem tX12_isUsed_15 {X : pu_X} {r : pu_R} (hX : pu_H X mdX12_isUsed) (hr : pu_P X.2.1 X.2.2.2.2.2.2.2.2.2.2.1 r) (hq : ∀ i pc, pu_lp i = some (278, pc) → pu_S X mdX12_isUsed pc (r i)) : pu_S X mdX12_isUsed 15 (kX12_isUsed_15 r) := by
  unfold kX12_isUsed_15
  exact z_ild hX dX12_isUsed_15 (z_iconst hX dX12_isUsed_17 (by decide) (z_icge hX dX12_isUsed_18 (by decide) (tX12_isUsed_69 hX hr hq) (z_ald_n hX dX12_isUsed_21 rfl (z_ild_n hX dX12_isUsed_22 rfl (z_cv (c := 12) hX hr dX12_isUsed_23 hjX12_isOpen mwX12_isOpen rfl wm29_19 ⟨wm29_20, wm29_21⟩ ⟨Nat.le_of_ble_eq_true rfl, Nat.le_of_ble_eq_true rfl⟩ (z_ifeq hX dX12_isUsed_26 (by decide) (tX12_isUsed_63 hX hr hq) (z_ald_n hX dX12_isUsed_29 rfl (z_ild_n hX dX12_isUsed_30 rfl (z_ild hX dX12_isUsed_31 (z_cv (c := 12) hX hr dX12_isUsed_33 hjX12_hasPlace mwX12_hasPlace rfl wm30_7 ⟨wm30_8, wm30_9⟩ ⟨Nat.le_of_ble_eq_true rfl, Nat.le_of_ble_eq_true rfl⟩ (z_ifeq hX dX12_isUsed_36 (by decide) (tX12_isUsed_63 hX hr hq) (z_ald_n hX dX12_isUsed_39 rfl (z_ild_n hX dX12_isUsed_40 rfl (z_ild hX dX12_isUsed_41 (z_cv (c := 12) hX hr dX12_isUsed_43 hjX12_streetAt mwX12_streetAt rfl wm30_11 ⟨wm30_12, wm30_13⟩ ⟨Nat.le_of_ble_eq_true rfl, Nat.le_of_ble_eq_true rfl⟩ (z_ild_n hX dX12_isUsed_46 rfl (z_icne hX dX12_isUsed_47 (by decide) (tX12_isUsed_63 hX hr hq) (z_ald_n hX dX12_isUsed_50 rfl (z_ild_n hX dX12_isUsed_51 rfl (z_ild hX dX12_isUsed_52 (z_cv (c := 12) hX hr dX12_isUsed_54 hjX12_wholeAt mwX12_wholeAt rfl wm30_22 ⟨wm30_23, wm31_0⟩ ⟨Nat.le_of_ble_eq_true rfl, Nat.le_of_ble_eq_true rfl⟩ (z_ild_n hX dX12_isUsed_57 rfl (z_icne hX dX12_isUsed_58 (by decide) (tX12_isUsed_63 hX hr hq) ((tX12_isUsed_61 hX hr hq)))))))))))))))))))))))))
def kX12_isUsed_2 (r : pu_R) : pu_K := s_ild 3 (s_ald 0 (s_gr 12 0 (s_push (.int (4)) (s_ai 1 (s_icge (kX12_isUsed_75 r) (s_push (.int (0)) (s_ist 4 ((r 461)))))))))
theorem vX12_isUsed_2 : pu_cok2 kX12_isUsed_2 := fun rf r hr => by
  unfold kX12_isUsed_2
  exact v_ild (v_ald (v_gr (v_pi (v_ai (v_icge (vX12_isUsed_75 rf r hr) (v_pi (v_ist ((hr 461)))))))))
theorem tX12_isUsed_2 {X : pu_X} {r : pu_R} (hX : pu_H X mdX12_isUsed) (hr : pu_P X.2.1 X.2.2.2.2.2.2.2.2.2.2.1 r) (hq : ∀ i pc, pu_lp i = some (278, pc) → pu_S X mdX12_isUsed pc (r i)) : pu_S X mdX12_isUsed 2 (kX12_isUsed_2 r) := by
  unfold kX12_isUsed_2
  exact z_ild_n hX dX12_isUsed_2 rfl (z_ald_n hX dX12_isUsed_3 rfl (z_gr (c := 12) (j := 0) hX dX12_isUsed_4 rfl inlX12 wm7_16 ⟨rfl, by decide, rfl⟩ (z_iconst hX dX12_isUsed_7 (by decide) (z_iald hX dX12_isUsed_8 (z_icge hX dX12_isUsed_9 (by decide) (tX12_isUsed_75 hX hr hq) (z_iconst hX dX12_isUsed_12 (by decide) (z_ist hX dX12_isUsed_13 ((hq 461 15 hl461)))))))))
def kX12_isUsed_0 (r : pu_R) : pu_K := s_push (.int (0)) (s_ist 3 ((r 460)))
theorem vX12_isUsed_0 : pu_cok2 kX12_isUsed_0 := fun rf r hr => by
  unfold kX12_isUsed_0
  exact v_pi (v_ist ((hr 460)))
theorem tX12_isUsed_0 {X : pu_X} {r : pu_R} (hX : pu_H X mdX12_isUsed) (hr : pu_P X.2.1 X.2.2.2.2.2.2.2.2.2.2.1 r) (hq : ∀ i pc, pu_lp i = some (278, pc) → pu_S X mdX12_isUsed pc (r i)) : pu_S X mdX12_isUsed 0 (kX12_isUsed_0 r) := by
  unfold kX12_isUsed_0
  exact z_iconst hX dX12_isUsed_0 (by decide) (z_ist_n hX dX12_isUsed_1 rfl ((hq 460 2 hl460)))
def kX12_mayBe_44 (r : pu_R) : pu_K := s_push (.int (1)) (s_zret)
theorem vX12_mayBe_44 : pu_cok2 kX12_mayBe_44 := fun rf r hr => by
  unfold kX12_mayBe_44
  exact v_pi (v_zret)
theorem tX12_mayBe_44 {X : pu_X} {r : pu_R} (hX : pu_H X mdX12_mayBe) (hr : pu_P X.2.1 X.2.2.2.2.2.2.2.2.2.2.1 r) (hq : ∀ i pc, pu_lp i = some (279, pc) → pu_S X mdX12_mayBe pc (r i)) : pu_S X mdX12_mayBe 44 (kX12_mayBe_44 r) := by
  unfold kX12_mayBe_44
  exact z_iconst hX dX12_mayBe_44 (by decide) (z_zret hX dX12_mayBe_45 rfl)
def kX12_mayBe_43 (r : pu_R) : pu_K := s_zret
theorem vX12_mayBe_43 : pu_cok2 kX12_mayBe_43 := fun rf r hr => by
  unfold kX12_mayBe_43
  exact v_zret
theorem tX12_mayBe_43 {X : pu_X} {r : pu_R} (hX : pu_H X mdX12_mayBe) (hr : pu_P X.2.1 X.2.2.2.2.2.2.2.2.2.2.1 r) (hq : ∀ i pc, pu_lp i = some (279, pc) → pu_S X mdX12_mayBe pc (r i)) : pu_S X mdX12_mayBe 43 (kX12_mayBe_43 r) := by
  unfold kX12_mayBe_43
  exact z_zret hX dX12_mayBe_43 rfl
def kX12_mayBe_42 (r : pu_R) : pu_K := s_push (.int (0)) ((kX12_mayBe_43 r))
theorem vX12_mayBe_42 : pu_cok2 kX12_mayBe_42 := fun rf r hr => by
  unfold kX12_mayBe_42
  exact v_pi ((vX12_mayBe_43 rf r hr))
theorem tX12_mayBe_42 {X : pu_X} {r : pu_R} (hX : pu_H X mdX12_mayBe) (hr : pu_P X.2.1 X.2.2.2.2.2.2.2.2.2.2.1 r) (hq : ∀ i pc, pu_lp i = some (279, pc) → pu_S X mdX12_mayBe pc (r i)) : pu_S X mdX12_mayBe 42 (kX12_mayBe_42 r) := by
  unfold kX12_mayBe_42
  exact z_iconst hX dX12_mayBe_42 (by decide) ((tX12_mayBe_43 hX hr hq))
def kX12_mayBe_19 (r : pu_R) : pu_K := s_ild 0 (s_push (.int (2)) (s_icne (kX12_mayBe_44 r) (s_ild 3 (s_push (.int (2)) (s_ild 2 (s_push (.int (10)) (s_idiv (s_imul (s_push (.int (1)) (s_iadd (s_ild 1 (s_iadd (s_icne (kX12_mayBe_42 r) (s_push (.int (1)) ((kX12_mayBe_43 r))))))))))))))))
theorem vX12_mayBe_19 : pu_cok2 kX12_mayBe_19 := fun rf r hr => by
  unfold kX12_mayBe_19
  exact v_ild (v_pi (v_icne (vX12_mayBe_44 rf r hr) (v_ild (v_pi (v_ild (v_pi (v_idiv (v_imul (v_pi (v_iadd (v_ild (v_iadd (v_icne (vX12_mayBe_42 rf r hr) (v_pi ((vX12_mayBe_43 rf r hr))))))))))))))))
theorem tX12_mayBe_19 {X : pu_X} {r : pu_R} (hX : pu_H X mdX12_mayBe) (hr : pu_P X.2.1 X.2.2.2.2.2.2.2.2.2.2.1 r) (hq : ∀ i pc, pu_lp i = some (279, pc) → pu_S X mdX12_mayBe pc (r i)) : pu_S X mdX12_mayBe 19 (kX12_mayBe_19 r) := by
  unfold kX12_mayBe_19
  exact z_ild_n hX dX12_mayBe_19 rfl (z_iconst hX dX12_mayBe_20 (by decide) (z_icne hX dX12_mayBe_21 (by decide) (tX12_mayBe_44 hX hr hq) (z_ild_n hX dX12_mayBe_24 rfl (z_iconst hX dX12_mayBe_25 (by decide) (z_ild_n hX dX12_mayBe_26 rfl (z_bipush hX dX12_mayBe_27 (by decide) (z_idiv hX dX12_mayBe_29 (z_imul hX dX12_mayBe_30 (z_iconst hX dX12_mayBe_31 (by decide) (z_iadd hX dX12_mayBe_32 (z_ild_n hX dX12_mayBe_33 rfl (z_iadd hX dX12_mayBe_34 (z_icne hX dX12_mayBe_35 (by decide) (tX12_mayBe_42 hX hr hq) (z_iconst hX dX12_mayBe_38 (by decide) ((z_goto hX dX12_mayBe_39 (by decide) (tX12_mayBe_43 hX hr hq)))))))))))))))))
def kX12_mayBe_18 (r : pu_R) : pu_K := s_zret
theorem vX12_mayBe_18 : pu_cok2 kX12_mayBe_18 := fun rf r hr => by
  unfold kX12_mayBe_18
  exact v_zret
theorem tX12_mayBe_18 {X : pu_X} {r : pu_R} (hX : pu_H X mdX12_mayBe) (hr : pu_P X.2.1 X.2.2.2.2.2.2.2.2.2.2.1 r) (hq : ∀ i pc, pu_lp i = some (279, pc) → pu_S X mdX12_mayBe pc (r i)) : pu_S X mdX12_mayBe 18 (kX12_mayBe_18 r) := by
  unfold kX12_mayBe_18
  exact z_zret hX dX12_mayBe_18 rfl
def kX12_mayBe_17 (r : pu_R) : pu_K := s_push (.int (0)) ((kX12_mayBe_18 r))
theorem vX12_mayBe_17 : pu_cok2 kX12_mayBe_17 := fun rf r hr => by
  unfold kX12_mayBe_17
  exact v_pi ((vX12_mayBe_18 rf r hr))
theorem tX12_mayBe_17 {X : pu_X} {r : pu_R} (hX : pu_H X mdX12_mayBe) (hr : pu_P X.2.1 X.2.2.2.2.2.2.2.2.2.2.1 r) (hq : ∀ i pc, pu_lp i = some (279, pc) → pu_S X mdX12_mayBe pc (r i)) : pu_S X mdX12_mayBe 17 (kX12_mayBe_17 r) := by
  unfold kX12_mayBe_17
  exact z_iconst hX dX12_mayBe_17 (by decide) ((tX12_mayBe_18 hX hr hq))
def kX12_mayBe_0 (r : pu_R) : pu_K := s_ild 0 (s_ifne (kX12_mayBe_19 r) (s_ild 3 (s_push (.int (2)) (s_irem (s_push (.int (1)) (s_ild 1 (s_isub (s_icne (kX12_mayBe_17 r) (s_push (.int (1)) ((kX12_mayBe_18 r)))))))))))
theorem vX12_mayBe_0 : pu_cok2 kX12_mayBe_0 := fun rf r hr => by
  unfold kX12_mayBe_0
  exact v_ild (v_ifne (vX12_mayBe_19 rf r hr) (v_ild (v_pi (v_irem (v_pi (v_ild (v_isub (v_icne (vX12_mayBe_17 rf r hr) (v_pi ((vX12_mayBe_18 rf r hr)))))))))))
theorem tX12_mayBe_0 {X : pu_X} {r : pu_R} (hX : pu_H X mdX12_mayBe) (hr : pu_P X.2.1 X.2.2.2.2.2.2.2.2.2.2.1 r) (hq : ∀ i pc, pu_lp i = some (279, pc) → pu_S X mdX12_mayBe pc (r i)) : pu_S X mdX12_mayBe 0 (kX12_mayBe_0 r) := by
  unfold kX12_mayBe_0
  exact z_ild_n hX dX12_mayBe_0 rfl (z_ifne hX dX12_mayBe_1 (by decide) (tX12_mayBe_19 hX hr hq) (z_ild_n hX dX12_mayBe_4 rfl (z_iconst hX dX12_mayBe_5 (by decide) (z_irem hX dX12_mayBe_6 (z_iconst hX dX12_mayBe_7 (by decide) (z_ild_n hX dX12_mayBe_8 rfl (z_isub hX dX12_mayBe_9 (z_icne hX dX12_mayBe_10 (by decide) (tX12_mayBe_17 hX hr hq) (z_iconst hX dX12_mayBe_13 (by decide) ((z_goto hX dX12_mayBe_14 (by decide) (tX12_mayBe_18 hX hr hq))))))))))))
def kX12_isCandidate_56 (r : pu_R) : pu_K := s_zret
theorem vX12_isCandidate_56 : pu_cok2 kX12_isCandidate_56 := fun rf r hr => by
  unfold kX12_isCandidate_56
  exact v_zret
theorem tX12_isCandidate_56 {X : pu_X} {r : pu_R} (hX : pu_H X mdX12_isCandidate) (hr : pu_P X.2.1 X.2.2.2.2.2.2.2.2.2.2.1 r) (hq : ∀ i pc, pu_lp i = some (280, pc) → pu_S X mdX12_isCandidate pc (r i)) : pu_S X mdX12_isCandidate 56 (kX12_isCandidate_56 r) := by
  unfold kX12_isCandidate_56
  exact z_zret hX dX12_isCandidate_56 rfl
def kX12_isCandidate_55 (r : pu_R) : pu_K := s_push (.int (0)) ((kX12_isCandidate_56 r))
theorem vX12_isCandidate_55 : pu_cok2 kX12_isCandidate_55 := fun rf r hr => by
  unfold kX12_isCandidate_55
  exact v_pi ((vX12_isCandidate_56 rf r hr))
theorem tX12_isCandidate_55 {X : pu_X} {r : pu_R} (hX : pu_H X mdX12_isCandidate) (hr : pu_P X.2.1 X.2.2.2.2.2.2.2.2.2.2.1 r) (hq : ∀ i pc, pu_lp i = some (280, pc) → pu_S X mdX12_isCandidate pc (r i)) : pu_S X mdX12_isCandidate 55 (kX12_isCandidate_55 r) := by
  unfold kX12_isCandidate_55
  exact z_iconst hX dX12_isCandidate_55 (by decide) ((tX12_isCandidate_56 hX hr hq))
def kX12_isCandidate_45 (r : pu_R) : pu_K := s_cv r 278 2 12 (s_ifne (kX12_isCandidate_55 r) (s_push (.int (1)) ((kX12_isCandidate_56 r))))
theorem vX12_isCandidate_45 : pu_cok2 kX12_isCandidate_45 := fun rf r hr => by
  unfold kX12_isCandidate_45
  exact v_cv hr (v_ifne (vX12_isCandidate_55 rf r hr) (v_pi ((vX12_isCandidate_56 rf r hr))))
theorem tX12_isCandidate_45 {X : pu_X} {r : pu_R} (hX : pu_H X mdX12_isCandidate) (hr : pu_P X.2.1 X.2.2.2.2.2.2.2.2.2.2.1 r) (hq : ∀ i pc, pu_lp i = some (280, pc) → pu_S X mdX12_isCandidate pc (r i)) : pu_S X mdX12_isCandidate 45 (kX12_isCandidate_45 r) := by
  unfold kX12_isCandidate_45
  exact z_cv (c := 12) hX hr dX12_isCandidate_45 hjX12_isUsed mwX12_isUsed rfl wm31_17 ⟨wm31_18, wm31_19⟩ ⟨Nat.le_of_ble_eq_true rfl, Nat.le_of_ble_eq_true rfl⟩ (z_ifne hX dX12_isCandidate_48 (by decide) (tX12_isCandidate_55 hX hr hq) (z_iconst hX dX12_isCandidate_51 (by decide) ((z_goto hX dX12_isCandidate_52 (by decide) (tX12_isCandidate_56 hX hr hq)))))
def kX12_isCandidate_0 (r : pu_R) : pu_K := s_ild 4 (s_ald 0 (s_gi 12 10 (s_icle (kX12_isCandidate_55 r) (s_ild 4 (s_ald 0 (s_gi 12 11 (s_icge (kX12_isCandidate_55 r) (s_ald 0 (s_gr 12 0 (s_push (.int (7528)) (s_ild 1 (s_iadd (s_ai 1 (s_ild 2 (s_ild 3 (s_ild 4 (s_push (.int (16)) (s_idiv (s_cs r 279 4 (s_ifeq (kX12_isCandidate_55 r) (s_ald 0 (s_ild 1 (s_ild 4 ((kX12_isCandidate_45 r)))))))))))))))))))))))))
theorem vX12_isCandidate_0 : pu_cok2 kX12_isCandidate_0 := fun rf r hr => by
  unfold kX12_isCandidate_0
  exact v_ild (v_ald (v_gi (v_icle (vX12_isCandidate_55 rf r hr) (v_ild (v_ald (v_gi (v_icge (vX12_isCandidate_55 rf r hr) (v_ald (v_gr (v_pi (v_ild (v_iadd (v_ai (v_ild (v_ild (v_ild (v_pi (v_idiv (v_cs hr (v_ifeq (vX12_isCandidate_55 rf r hr) (v_ald (v_ild (v_ild ((vX12_isCandidate_45 rf r hr)))))))))))))))))))))))))
theorem tX12_isCandidate_0 {X : pu_X} {r : pu_R} (hX : pu_H X mdX12_isCandidate) (hr : pu_P X.2.1 X.2.2.2.2.2.2.2.2.2.2.1 r) (hq : ∀ i pc, pu_lp i = some (280, pc) → pu_S X mdX12_isCandidate pc (r i)) : pu_S X mdX12_isCandidate 0 (kX12_isCandidate_0 r) := by
  unfold kX12_isCandidate_0
  exact z_ild hX dX12_isCandidate_0 (z_ald_n hX dX12_isCandidate_2 rfl (z_gi (c := 12) (j := 10) hX dX12_isCandidate_3 rfl inlX12 wm8_5 ⟨rfl, by decide, rfl⟩ (z_icle hX dX12_isCandidate_6 (by decide) (tX12_isCandidate_55 hX hr hq) (z_ild hX dX12_isCandidate_9 (z_ald_n hX dX12_isCandidate_11 rfl (z_gi (c := 12) (j := 11) hX dX12_isCandidate_12 rfl inlX12 wm8_6 ⟨rfl, by decide, rfl⟩ (z_icge hX dX12_isCandidate_15 (by decide) (tX12_isCandidate_55 hX hr hq) (z_ald_n hX dX12_isCandidate_18 rfl (z_gr (c := 12) (j := 0) hX dX12_isCandidate_19 rfl inlX12 wm7_16 ⟨rfl, by decide, rfl⟩ (z_sipush hX dX12_isCandidate_22 (by decide) (z_ild_n hX dX12_isCandidate_25 rfl (z_iadd hX dX12_isCandidate_26 (z_iald hX dX12_isCandidate_27 (z_ild_n hX dX12_isCandidate_28 rfl (z_ild_n hX dX12_isCandidate_29 rfl (z_ild hX dX12_isCandidate_30 (z_bipush hX dX12_isCandidate_32 (by decide) (z_idiv hX dX12_isCandidate_34 (z_cs hX hr dX12_isCandidate_35 hjX12_mayBe mwX12_mayBe wm31_14 wm31_15 ⟨Nat.le_of_ble_eq_true rfl, Nat.le_of_ble_eq_true rfl⟩ (z_ifeq hX dX12_isCandidate_38 (by decide) (tX12_isCandidate_55 hX hr hq) (z_ald_n hX dX12_isCandidate_41 rfl (z_ild_n hX dX12_isCandidate_42 rfl (z_ild hX dX12_isCandidate_43 ((tX12_isCandidate_45 hX hr hq)))))))))))))))))))))))))
def kX12_least_118 (r : pu_R) : pu_K := s_push (.int (-1)) (s_iret)
theorem vX12_least_118 : pu_cok2 kX12_least_118 := fun rf r hr => by
  unfold kX12_least_118
  exact v_pi (v_iret)
theorem tX12_least_118 {X : pu_X} {r : pu_R} (hX : pu_H X mdX12_least) (hr : pu_P X.2.1 X.2.2.2.2.2.2.2.2.2.2.1 r) (hq : ∀ i pc, pu_lp i = some (281, pc) → pu_S X mdX12_least pc (r i)) : pu_S X mdX12_least 118 (kX12_least_118 r) := by
  unfold kX12_least_118
  exact z_iconst hX dX12_least_118 (by decide) (z_iret hX dX12_least_119 rfl)
def kX12_least_112 (r : pu_R) : pu_K := s_inc 5 (1) ((r 462))
theorem vX12_least_112 : pu_cok2 kX12_least_112 := fun rf r hr => by
  unfold kX12_least_112
  exact v_inc ((hr 462))
theorem tX12_least_112 {X : pu_X} {r : pu_R} (hX : pu_H X mdX12_least) (hr : pu_P X.2.1 X.2.2.2.2.2.2.2.2.2.2.1 r) (hq : ∀ i pc, pu_lp i = some (281, pc) → pu_S X mdX12_least pc (r i)) : pu_S X mdX12_least 112 (kX12_least_112 r) := by
  unfold kX12_least_112
  exact z_inc hX dX12_least_112 (by decide) ((z_goto hX dX12_least_115 (by decide) (hq 462 34 hl462)))
def kX12_least_106 (r : pu_R) : pu_K := s_inc 6 (1) ((r 463))
theorem vX12_least_106 : pu_cok2 kX12_least_106 := fun rf r hr => by
  unfold kX12_least_106
  exact v_inc ((hr 463))
theorem tX12_least_106 {X : pu_X} {r : pu_R} (hX : pu_H X mdX12_least) (hr : pu_P X.2.1 X.2.2.2.2.2.2.2.2.2.2.1 r) (hq : ∀ i pc, pu_lp i = some (281, pc) → pu_S X mdX12_least pc (r i)) : pu_S X mdX12_least 106 (kX12_least_106 r) := by
  unfold kX12_least_106
  exact z_inc hX dX12_least_106 (by decide) ((z_goto hX dX12_least_109 (by decide) (hq 463 50 hl463)))
def kX12_least_94 (r : pu_R) : pu_K := s_ifeq (kX12_least_106 r) (s_push (.int (16)) (s_ild 6 (s_imul (s_ild 5 (s_iadd (s_iret))))))
theorem vX12_least_94 : pu_cok2 kX12_least_94 := fun rf r hr => by
  unfold kX12_least_94
  exact v_ifeq (vX12_least_106 rf r hr) (v_pi (v_ild (v_imul (v_ild (v_iadd (v_iret))))))
theorem tX12_least_94 {X : pu_X} {r : pu_R} (hX : pu_H X mdX12_least) (hr : pu_P X.2.1 X.2.2.2.2.2.2.2.2.2.2.1 r) (hq : ∀ i pc, pu_lp i = some (281, pc) → pu_S X mdX12_least pc (r i)) : pu_S X mdX12_least 94 (kX12_least_94 r) := by
  unfold kX12_least_94
  exact z_ifeq hX dX12_least_94 (by decide) (tX12_least_106 hX hr hq) (z_bipush hX dX12_least_97 (by decide) (z_ild hX dX12_least_99 (z_imul hX dX12_least_101 (z_ild hX dX12_least_102 (z_iadd hX dX12_least_104 (z_iret hX dX12_least_105 rfl))))))
def kX12_least_50 (r : pu_R) : pu_K := s_ild 6 (s_push (.int (9999)) (s_icgt (kX12_least_112 r) (s_push (.int (16)) (s_ild 6 (s_imul (s_ild 5 (s_iadd (s_ald 0 (s_gi 12 11 (s_icge (kX12_least_112 r) (s_ild 6 (s_push (.int (1)) (s_iclt (kX12_least_106 r) (s_ald 0 (s_ild 1 (s_ild 2 (s_ild 3 (s_push (.int (16)) (s_ild 6 (s_imul (s_ild 5 (s_iadd (s_cv r 280 4 12 ((kX12_least_94 r)))))))))))))))))))))))))
theorem vX12_least_50 : pu_cok2 kX12_least_50 := fun rf r hr => by
  unfold kX12_least_50
  exact v_ild (v_pi (v_icgt (vX12_least_112 rf r hr) (v_pi (v_ild (v_imul (v_ild (v_iadd (v_ald (v_gi (v_icge (vX12_least_112 rf r hr) (v_ild (v_pi (v_iclt (vX12_least_106 rf r hr) (v_ald (v_ild (v_ild (v_ild (v_pi (v_ild (v_imul (v_ild (v_iadd (v_cv hr ((vX12_least_94 rf r hr)))))))))))))))))))))))))
theorem tX12_least_50 {X : pu_X} {r : pu_R} (hX : pu_H X mdX12_least) (hr : pu_P X.2.1 X.2.2.2.2.2.2.2.2.2.2.1 r) (hq : ∀ i pc, pu_lp i = some (281, pc) → pu_S X mdX12_least pc (r i)) : pu_S X mdX12_least 50 (kX12_least_50 r) := by
  unfold kX12_least_50
  exact z_ild hX dX12_least_50 (z_sipush hX dX12_least_52 (by decide) (z_icgt hX dX12_least_55 (by decide) (tX12_least_112 hX hr hq) (z_bipush hX dX12_least_58 (by decide) (z_ild hX dX12_least_60 (z_imul hX dX12_least_62 (z_ild hX dX12_least_63 (z_iadd hX dX12_least_65 (z_ald_n hX dX12_least_66 rfl (z_gi (c := 12) (j := 11) hX dX12_least_67 rfl inlX12 wm8_6 ⟨rfl, by decide, rfl⟩ (z_icge hX dX12_least_70 (by decide) (tX12_least_112 hX hr hq) (z_ild hX dX12_least_73 (z_iconst hX dX12_least_75 (by decide) (z_iclt hX dX12_least_76 (by decide) (tX12_least_106 hX hr hq) (z_ald_n hX dX12_least_79 rfl (z_ild_n hX dX12_least_80 rfl (z_ild_n hX dX12_least_81 rfl (z_ild_n hX dX12_least_82 rfl (z_bipush hX dX12_least_83 (by decide) (z_ild hX dX12_least_85 (z_imul hX dX12_least_87 (z_ild hX dX12_least_88 (z_iadd hX dX12_least_90 (z_cv (c := 12) hX hr dX12_least_91 hjX12_isCandidate mwX12_isCandidate rfl wm31_10 ⟨wm31_11, wm31_12⟩ ⟨Nat.le_of_ble_eq_true rfl, Nat.le_of_ble_eq_true rfl⟩ ((tX12_least_94 hX hr hq)))))))))))))))))))))))))
def kX12_least_34 (r : pu_R) : pu_K := s_ild 5 (s_push (.int (9)) (s_icgt (kX12_least_118 r) (s_ald 0 (s_gi 12 10 (s_push (.int (16)) (s_idiv (s_ist 6 ((r 463)))))))))
theorem vX12_least_34 : pu_cok2 kX12_least_34 := fun rf r hr => by
  unfold kX12_least_34
  exact v_ild (v_pi (v_icgt (vX12_least_118 rf r hr) (v_ald (v_gi (v_pi (v_idiv (v_ist ((hr 463)))))))))
theorem tX12_least_34 {X : pu_X} {r : pu_R} (hX : pu_H X mdX12_least) (hr : pu_P X.2.1 X.2.2.2.2.2.2.2.2.2.2.1 r) (hq : ∀ i pc, pu_lp i = some (281, pc) → pu_S X mdX12_least pc (r i)) : pu_S X mdX12_least 34 (kX12_least_34 r) := by
  unfold kX12_least_34
  exact z_ild hX dX12_least_34 (z_bipush hX dX12_least_36 (by decide) (z_icgt hX dX12_least_38 (by decide) (tX12_least_118 hX hr hq) (z_ald_n hX dX12_least_41 rfl (z_gi (c := 12) (j := 10) hX dX12_least_42 rfl inlX12 wm8_5 ⟨rfl, by decide, rfl⟩ (z_bipush hX dX12_least_45 (by decide) (z_idiv hX dX12_least_47 (z_ist hX dX12_least_48 ((hq 463 50 hl463)))))))))
def kX12_least_31 (r : pu_R) : pu_K := s_push (.int (0)) (s_ist 5 ((r 462)))
theorem vX12_least_31 : pu_cok2 kX12_least_31 := fun rf r hr => by
  unfold kX12_least_31
  exact v_pi (v_ist ((hr 462)))
theorem tX12_least_31 {X : pu_X} {r : pu_R} (hX : pu_H X mdX12_least) (hr : pu_P X.2.1 X.2.2.2.2.2.2.2.2.2.2.1 r) (hq : ∀ i pc, pu_lp i = some (281, pc) → pu_S X mdX12_least pc (r i)) : pu_S X mdX12_least 31 (kX12_least_31 r) := by
  unfold kX12_least_31
  exact z_iconst hX dX12_least_31 (by decide) (z_ist hX dX12_least_32 ((hq 462 34 hl462)))
def kX12_least_30 (r : pu_R) : pu_K := s_iret
theorem vX12_least_30 : pu_cok2 kX12_least_30 := fun rf r hr => by
  unfold kX12_least_30
  exact v_iret
theorem tX12_least_30 {X : pu_X} {r : pu_R} (hX : pu_H X mdX12_least) (hr : pu_P X.2.1 X.2.2.2.2.2.2.2.2.2.2.1 r) (hq : ∀ i pc, pu_lp i = some (281, pc) → pu_S X mdX12_least pc (r i)) : pu_S X mdX12_least 30 (kX12_least_30 r) := by
  unfold kX12_least_30
  exact z_iret hX dX12_least_30 rfl
def kX12_least_29 (r : pu_R) : pu_K := s_push (.int (-1)) ((kX12_least_30 r))
theorem vX12_least_29 : pu_cok2 kX12_least_29 := fun rf r hr => by
  unfold kX12_least_29
  exact v_pi ((vX12_least_30 rf r hr))
theorem tX12_least_29 {X : pu_X} {r : pu_R} (hX : pu_H X mdX12_least) (hr : pu_P X.2.1 X.2.2.2.2.2.2.2.2.2.2.1 r) (hq : ∀ i pc, pu_lp i = some (281, pc) → pu_S X mdX12_least pc (r i)) : pu_S X mdX12_least 29 (kX12_least_29 r) := by
  unfold kX12_least_29
  exact z_iconst hX dX12_least_29 (by decide) ((tX12_least_30 hX hr hq))
def kX12_least_0 (r : pu_R) : pu_K := s_ald 0 (s_ild 1 (s_ild 2 (s_ild 3 (s_cv r 277 3 12 (s_ild 4 (s_ifle (kX12_least_31 r) (s_ald 0 (s_ild 1 (s_ild 2 (s_ild 3 (s_ild 4 (s_cv r 280 4 12 (s_ifeq (kX12_least_29 r) (s_ild 4 ((kX12_least_30 r))))))))))))))))
theorem vX12_least_0 : pu_cok2 kX12_least_0 := fun rf r hr => by
  unfold kX12_least_0
  exact v_ald (v_ild (v_ild (v_ild (v_cv hr (v_ild (v_ifle (vX12_least_31 rf r hr) (v_ald (v_ild (v_ild (v_ild (v_ild (v_cv hr (v_ifeq (vX12_least_29 rf r hr) (v_ild ((vX12_least_30 rf r hr))))))))))))))))
theorem tX12_least_0 {X : pu_X} {r : pu_R} (hX : pu_H X mdX12_least) (hr : pu_P X.2.1 X.2.2.2.2.2.2.2.2.2.2.1 r) (hq : ∀ i pc, pu_lp i = some (281, pc) → pu_S X mdX12_least pc (r i)) : pu_S X mdX12_least 0 (kX12_least_0 r) := by
  unfold kX12_least_0
  exact z_ald_n hX dX12_least_0 rfl (z_ild_n hX dX12_least_1 rfl (z_ild_n hX dX12_least_2 rfl (z_ild_n hX dX12_least_3 rfl (z_cv (c := 12) hX hr dX12_least_4 hjX12_bounds mwX12_bounds rfl wm29_9 ⟨wm29_10, wm29_11⟩ ⟨Nat.le_of_ble_eq_true rfl, Nat.le_of_ble_eq_true rfl⟩ (z_ild hX dX12_least_7 (z_ifle hX dX12_least_9 (by decide) (tX12_least_31 hX hr hq) (z_ald_n hX dX12_least_12 rfl (z_ild_n hX dX12_least_13 rfl (z_ild_n hX dX12_least_14 rfl (z_ild_n hX dX12_least_15 rfl (z_ild hX dX12_least_16 (z_cv (c := 12) hX hr dX12_least_18 hjX12_isCandidate mwX12_isCandidate rfl wm31_10 ⟨wm31_11, wm31_12⟩ ⟨Nat.le_of_ble_eq_true rfl, Nat.le_of_ble_eq_true rfl⟩ (z_ifeq hX dX12_least_21 (by decide) (tX12_least_29 hX hr hq) (z_ild hX dX12_least_24 ((z_goto hX dX12_least_26 (by decide) (tX12_least_30 hX hr hq)))))))))))))))))
def kX12_isOccupied_93 (r : pu_R) : pu_K := s_push (.int (0)) (s_zret)
theorem vX12_isOccupied_93 : pu_cok2 kX12_isOccupied_93 := fun rf r hr => by
  unfold kX12_isOccupied_93
  exact v_pi (v_zret)
theorem tX12_isOccupied_93 {X : pu_X} {r : pu_R} (hX : pu_H X mdX12_isOccupied) (hr : pu_P X.2.1 X.2.2.2.2.2.2.2.2.2.2.1 r) (hq : ∀ i pc, pu_lp i = some (282, pc) → pu_S X mdX12_isOccupied pc (r i)) : pu_S X mdX12_isOccupied 93 (kX12_isOccupied_93 r) := by
  unfold kX12_isOccupied_93
  exact z_iconst hX dX12_isOccupied_93 (by decide) (z_zret hX dX12_isOccupied_94 rfl)
def kX12_isOccupied_87 (r : pu_R) : pu_K := s_inc 4 (1) ((r 464))
theorem vX12_isOccupied_87 : pu_cok2 kX12_isOccupied_87 := fun rf r hr => by
  unfold kX12_isOccupied_87
  exact v_inc ((hr 464))
theorem tX12_isOccupied_87 {X : pu_X} {r : pu_R} (hX : pu_H X mdX12_isOccupied) (hr : pu_P X.2.1 X.2.2.2.2.2.2.2.2.2.2.1 r) (hq : ∀ i pc, pu_lp i = some (282, pc) → pu_S X mdX12_isOccupied pc (r i)) : pu_S X mdX12_isOccupied 87 (kX12_isOccupied_87 r) := by
  unfold kX12_isOccupied_87
  exact z_inc hX dX12_isOccupied_87 (by decide) ((z_goto hX dX12_isOccupied_90 (by decide) (hq 464 3 hl464)))
def kX12_isOccupied_81 (r : pu_R) : pu_K := s_inc 5 (1) ((r 465))
theorem vX12_isOccupied_81 : pu_cok2 kX12_isOccupied_81 := fun rf r hr => by
  unfold kX12_isOccupied_81
  exact v_inc ((hr 465))
theorem tX12_isOccupied_81 {X : pu_X} {r : pu_R} (hX : pu_H X mdX12_isOccupied) (hr : pu_P X.2.1 X.2.2.2.2.2.2.2.2.2.2.1 r) (hq : ∀ i pc, pu_lp i = some (282, pc) → pu_S X mdX12_isOccupied pc (r i)) : pu_S X mdX12_isOccupied 81 (kX12_isOccupied_81 r) := by
  unfold kX12_isOccupied_81
  exact z_inc hX dX12_isOccupied_81 (by decide) ((z_goto hX dX12_isOccupied_84 (by decide) (hq 465 17 hl465)))
def kX12_isOccupied_67 (r : pu_R) : pu_K := s_ald 0 (s_ild 4 (s_ild 5 (s_cv r 270 2 12 (s_ild 3 (s_icne (kX12_isOccupied_81 r) (s_push (.int (1)) (s_zret)))))))
theorem vX12_isOccupied_67 : pu_cok2 kX12_isOccupied_67 := fun rf r hr => by
  unfold kX12_isOccupied_67
  exact v_ald (v_ild (v_ild (v_cv hr (v_ild (v_icne (vX12_isOccupied_81 rf r hr) (v_pi (v_zret)))))))
theorem tX12_isOccupied_67 {X : pu_X} {r : pu_R} (hX : pu_H X mdX12_isOccupied) (hr : pu_P X.2.1 X.2.2.2.2.2.2.2.2.2.2.1 r) (hq : ∀ i pc, pu_lp i = some (282, pc) → pu_S X mdX12_isOccupied pc (r i)) : pu_S X mdX12_isOccupied 67 (kX12_isOccupied_67 r) := by
  unfold kX12_isOccupied_67
  exact z_ald_n hX dX12_isOccupied_67 rfl (z_ild hX dX12_isOccupied_68 (z_ild hX dX12_isOccupied_70 (z_cv (c := 12) hX hr dX12_isOccupied_72 hjX12_pacesAt mwX12_pacesAt rfl wm31_6 ⟨wm31_7, wm31_8⟩ ⟨Nat.le_of_ble_eq_true rfl, Nat.le_of_ble_eq_true rfl⟩ (z_ild_n hX dX12_isOccupied_75 rfl (z_icne hX dX12_isOccupied_76 (by decide) (tX12_isOccupied_81 hX hr hq) (z_iconst hX dX12_isOccupied_79 (by decide) (z_zret hX dX12_isOccupied_80 rfl)))))))
def kX12_isOccupied_17 (r : pu_R) : pu_K := s_ild 5 (s_push (.int (2)) (s_icge (kX12_isOccupied_87 r) (s_ald 0 (s_ild 4 (s_cv r 266 1 12 (s_ifeq (kX12_isOccupied_81 r) (s_ald 0 (s_ild 4 (s_ild 5 (s_cv r 267 2 12 (s_ifeq (kX12_isOccupied_81 r) (s_ald 0 (s_ild 4 (s_ild 5 (s_cv r 268 2 12 (s_ild 1 (s_icne (kX12_isOccupied_81 r) (s_ald 0 (s_ild 4 (s_ild 5 (s_cv r 269 2 12 (s_ild 2 (s_icne (kX12_isOccupied_81 r) ((kX12_isOccupied_67 r)))))))))))))))))))))))))
theorem vX12_isOccupied_17 : pu_cok2 kX12_isOccupied_17 := fun rf r hr => by
  unfold kX12_isOccupied_17
  exact v_ild (v_pi (v_icge (vX12_isOccupied_87 rf r hr) (v_ald (v_ild (v_cv hr (v_ifeq (vX12_isOccupied_81 rf r hr) (v_ald (v_ild (v_ild (v_cv hr (v_ifeq (vX12_isOccupied_81 rf r hr) (v_ald (v_ild (v_ild (v_cv hr (v_ild (v_icne (vX12_isOccupied_81 rf r hr) (v_ald (v_ild (v_ild (v_cv hr (v_ild (v_icne (vX12_isOccupied_81 rf r hr) ((vX12_isOccupied_67 rf r hr)))))))))))))))))))))))))
theorem tX12_isOccupied_17 {X : pu_X} {r : pu_R} (hX : pu_H X mdX12_isOccupied) (hr : pu_P X.2.1 X.2.2.2.2.2.2.2.2.2.2.1 r) (hq : ∀ i pc, pu_lp i = some (282, pc) → pu_S X mdX12_isOccupied pc (r i)) : pu_S X mdX12_isOccupied 17 (kX12_isOccupied_17 r) := by
  unfold kX12_isOccupied_17
  exact z_ild hX dX12_isOccupied_17 (z_iconst hX dX12_isOccupied_19 (by decide) (z_icge hX dX12_isOccupied_20 (by decide) (tX12_isOccupied_87 hX hr hq) (z_ald_n hX dX12_isOccupied_23 rfl (z_ild hX dX12_isOccupied_24 (z_cv (c := 12) hX hr dX12_isOccupied_26 hjX12_isOpen mwX12_isOpen rfl wm29_19 ⟨wm29_20, wm29_21⟩ ⟨Nat.le_of_ble_eq_true rfl, Nat.le_of_ble_eq_true rfl⟩ (z_ifeq hX dX12_isOccupied_29 (by decide) (tX12_isOccupied_81 hX hr hq) (z_ald_n hX dX12_isOccupied_32 rfl (z_ild hX dX12_isOccupied_33 (z_ild hX dX12_isOccupied_35 (z_cv (c := 12) hX hr dX12_isOccupied_37 hjX12_hasPlace mwX12_hasPlace rfl wm30_7 ⟨wm30_8, wm30_9⟩ ⟨Nat.le_of_ble_eq_true rfl, Nat.le_of_ble_eq_true rfl⟩ (z_ifeq hX dX12_isOccupied_40 (by decide) (tX12_isOccupied_81 hX hr hq) (z_ald_n hX dX12_isOccupied_43 rfl (z_ild hX dX12_isOccupied_44 (z_ild hX dX12_isOccupied_46 (z_cv (c := 12) hX hr dX12_isOccupied_48 hjX12_streetAt mwX12_streetAt rfl wm30_11 ⟨wm30_12, wm30_13⟩ ⟨Nat.le_of_ble_eq_true rfl, Nat.le_of_ble_eq_true rfl⟩ (z_ild_n hX dX12_isOccupied_51 rfl (z_icne hX dX12_isOccupied_52 (by decide) (tX12_isOccupied_81 hX hr hq) (z_ald_n hX dX12_isOccupied_55 rfl (z_ild hX dX12_isOccupied_56 (z_ild hX dX12_isOccupied_58 (z_cv (c := 12) hX hr dX12_isOccupied_60 hjX12_sideAt mwX12_sideAt rfl wm30_15 ⟨wm30_16, wm30_17⟩ ⟨Nat.le_of_ble_eq_true rfl, Nat.le_of_ble_eq_true rfl⟩ (z_ild_n hX dX12_isOccupied_63 rfl (z_icne hX dX12_isOccupied_64 (by decide) (tX12_isOccupied_81 hX hr hq) ((tX12_isOccupied_67 hX hr hq)))))))))))))))))))))))))
def kX12_isOccupied_3 (r : pu_R) : pu_K := s_ild 4 (s_ald 0 (s_gr 12 0 (s_push (.int (4)) (s_ai 1 (s_icge (kX12_isOccupied_93 r) (s_push (.int (0)) (s_ist 5 ((r 465)))))))))
theorem vX12_isOccupied_3 : pu_cok2 kX12_isOccupied_3 := fun rf r hr => by
  unfold kX12_isOccupied_3
  exact v_ild (v_ald (v_gr (v_pi (v_ai (v_icge (vX12_isOccupied_93 rf r hr) (v_pi (v_ist ((hr 465)))))))))
theorem tX12_isOccupied_3 {X : pu_X} {r : pu_R} (hX : pu_H X mdX12_isOccupied) (hr : pu_P X.2.1 X.2.2.2.2.2.2.2.2.2.2.1 r) (hq : ∀ i pc, pu_lp i = some (282, pc) → pu_S X mdX12_isOccupied pc (r i)) : pu_S X mdX12_isOccupied 3 (kX12_isOccupied_3 r) := by
  unfold kX12_isOccupied_3
  exact z_ild hX dX12_isOccupied_3 (z_ald_n hX dX12_isOccupied_5 rfl (z_gr (c := 12) (j := 0) hX dX12_isOccupied_6 rfl inlX12 wm7_16 ⟨rfl, by decide, rfl⟩ (z_iconst hX dX12_isOccupied_9 (by decide) (z_iald hX dX12_isOccupied_10 (z_icge hX dX12_isOccupied_11 (by decide) (tX12_isOccupied_93 hX hr hq) (z_iconst hX dX12_isOccupied_14 (by decide) (z_ist hX dX12_isOccupied_15 ((hq 465 17 hl465)))))))))
def kX12_isOccupied_0 (r : pu_R) : pu_K := s_push (.int (0)) (s_ist 4 ((r 464)))
theorem vX12_isOccupied_0 : pu_cok2 kX12_isOccupied_0 := fun rf r hr => by
  unfold kX12_isOccupied_0
  exact v_pi (v_ist ((hr 464)))
theorem tX12_isOccupied_0 {X : pu_X} {r : pu_R} (hX : pu_H X mdX12_isOccupied) (hr : pu_P X.2.1 X.2.2.2.2.2.2.2.2.2.2.1 r) (hq : ∀ i pc, pu_lp i = some (282, pc) → pu_S X mdX12_isOccupied pc (r i)) : pu_S X mdX12_isOccupied 0 (kX12_isOccupied_0 r) := by
  unfold kX12_isOccupied_0
  exact z_iconst hX dX12_isOccupied_0 (by decide) (z_ist hX dX12_isOccupied_1 ((hq 464 3 hl464)))
def kX12_isPlace_25 (r : pu_R) : pu_K := s_zret
theorem vX12_isPlace_25 : pu_cok2 kX12_isPlace_25 := fun rf r hr => by
  unfold kX12_isPlace_25
  exact v_zret
theorem tX12_isPlace_25 {X : pu_X} {r : pu_R} (hX : pu_H X mdX12_isPlace) (hr : pu_P X.2.1 X.2.2.2.2.2.2.2.2.2.2.1 r) (hq : ∀ i pc, pu_lp i = some (283, pc) → pu_S X mdX12_isPlace pc (r i)) : pu_S X mdX12_isPlace 25 (kX12_isPlace_25 r) := by
  unfold kX12_isPlace_25
  exact z_zret hX dX12_isPlace_25 rfl
def kX12_isPlace_24 (r : pu_R) : pu_K := s_push (.int (0)) ((kX12_isPlace_25 r))
theorem vX12_isPlace_24 : pu_cok2 kX12_isPlace_24 := fun rf r hr => by
  unfold kX12_isPlace_24
  exact v_pi ((vX12_isPlace_25 rf r hr))
theorem tX12_isPlace_24 {X : pu_X} {r : pu_R} (hX : pu_H X mdX12_isPlace) (hr : pu_P X.2.1 X.2.2.2.2.2.2.2.2.2.2.1 r) (hq : ∀ i pc, pu_lp i = some (283, pc) → pu_S X mdX12_isPlace pc (r i)) : pu_S X mdX12_isPlace 24 (kX12_isPlace_24 r) := by
  unfold kX12_isPlace_24
  exact z_iconst hX dX12_isPlace_24 (by decide) ((tX12_isPlace_25 hX hr hq))
def kX12_isPlace_0 (r : pu_R) : pu_K := s_ild 0 (s_iflt (kX12_isPlace_24 r) (s_ild 0 (s_push (.int (1)) (s_icgt (kX12_isPlace_24 r) (s_ild 1 (s_iflt (kX12_isPlace_24 r) (s_ild 1 (s_push (.int (9999)) (s_icgt (kX12_isPlace_24 r) (s_push (.int (1)) ((kX12_isPlace_25 r))))))))))))
theorem vX12_isPlace_0 : pu_cok2 kX12_isPlace_0 := fun rf r hr => by
  unfold kX12_isPlace_0
  exact v_ild (v_iflt (vX12_isPlace_24 rf r hr) (v_ild (v_pi (v_icgt (vX12_isPlace_24 rf r hr) (v_ild (v_iflt (vX12_isPlace_24 rf r hr) (v_ild (v_pi (v_icgt (vX12_isPlace_24 rf r hr) (v_pi ((vX12_isPlace_25 rf r hr))))))))))))
theorem tX12_isPlace_0 {X : pu_X} {r : pu_R} (hX : pu_H X mdX12_isPlace) (hr : pu_P X.2.1 X.2.2.2.2.2.2.2.2.2.2.1 r) (hq : ∀ i pc, pu_lp i = some (283, pc) → pu_S X mdX12_isPlace pc (r i)) : pu_S X mdX12_isPlace 0 (kX12_isPlace_0 r) := by
  unfold kX12_isPlace_0
  exact z_ild_n hX dX12_isPlace_0 rfl (z_iflt hX dX12_isPlace_1 (by decide) (tX12_isPlace_24 hX hr hq) (z_ild_n hX dX12_isPlace_4 rfl (z_iconst hX dX12_isPlace_5 (by decide) (z_icgt hX dX12_isPlace_6 (by decide) (tX12_isPlace_24 hX hr hq) (z_ild_n hX dX12_isPlace_9 rfl (z_iflt hX dX12_isPlace_10 (by decide) (tX12_isPlace_24 hX hr hq) (z_ild_n hX dX12_isPlace_13 rfl (z_sipush hX dX12_isPlace_14 (by decide) (z_icgt hX dX12_isPlace_17 (by decide) (tX12_isPlace_24 hX hr hq) (z_iconst hX dX12_isPlace_20 (by decide) ((z_goto hX dX12_isPlace_21 (by decide) (tX12_isPlace_25 hX hr hq)))))))))))))
def kX12_made_152 (r : pu_R) : pu_K := s_dup2 (s_ai 1 (s_push (.int (1)) (s_iadd (s_wi 1 (s_ild 8 (s_iret))))))
theorem vX12_made_152 : pu_cok2 kX12_made_152 := fun rf r hr => by
  unfold kX12_made_152
  exact v_dup2 (v_ai (v_pi (v_iadd (v_wi (v_ild (v_iret))))))
theorem tX12_made_152 {X : pu_X} {r : pu_R} (hX : pu_H X mdX12_made) (hr : pu_P X.2.1 X.2.2.2.2.2.2.2.2.2.2.1 r) (hq : ∀ i pc, pu_lp i = some (284, pc) → pu_S X mdX12_made pc (r i)) : pu_S X mdX12_made 152 (kX12_made_152 r) := by
  unfold kX12_made_152
  exact z_dup2 hX dX12_made_152 (z_iald hX dX12_made_153 (z_iconst hX dX12_made_154 (by decide) (z_iadd hX dX12_made_155 (z_iast hX dX12_made_156 (z_ild hX dX12_made_157 (z_iret hX dX12_made_159 rfl))))))
def kX12_made_113 (r : pu_R) : pu_K := s_ald 0 (s_gr 12 0 (s_ild 9 (s_push (.int (9)) (s_iadd (s_ild 7 (s_wi 1 (s_ald 0 (s_gr 12 0 (s_ild 9 (s_push (.int (10)) (s_iadd (s_push (.int (-1)) (s_wi 1 (s_ald 0 (s_gr 12 0 (s_ild 9 (s_push (.int (11)) (s_iadd (s_push (.int (-1)) (s_wi 1 (s_ald 0 (s_gr 12 0 (s_push (.int (4)) ((kX12_made_152 r)))))))))))))))))))))))))
theorem vX12_made_113 : pu_cok2 kX12_made_113 := fun rf r hr => by
  unfold kX12_made_113
  exact v_ald (v_gr (v_ild (v_pi (v_iadd (v_ild (v_wi (v_ald (v_gr (v_ild (v_pi (v_iadd (v_pi (v_wi (v_ald (v_gr (v_ild (v_pi (v_iadd (v_pi (v_wi (v_ald (v_gr (v_pi ((vX12_made_152 rf r hr)))))))))))))))))))))))))
theorem tX12_made_113 {X : pu_X} {r : pu_R} (hX : pu_H X mdX12_made) (hr : pu_P X.2.1 X.2.2.2.2.2.2.2.2.2.2.1 r) (hq : ∀ i pc, pu_lp i = some (284, pc) → pu_S X mdX12_made pc (r i)) : pu_S X mdX12_made 113 (kX12_made_113 r) := by
  unfold kX12_made_113
  exact z_ald_n hX dX12_made_113 rfl (z_gr (c := 12) (j := 0) hX dX12_made_114 rfl inlX12 wm7_16 ⟨rfl, by decide, rfl⟩ (z_ild hX dX12_made_117 (z_bipush hX dX12_made_119 (by decide) (z_iadd hX dX12_made_121 (z_ild hX dX12_made_122 (z_iast hX dX12_made_124 (z_ald_n hX dX12_made_125 rfl (z_gr (c := 12) (j := 0) hX dX12_made_126 rfl inlX12 wm7_16 ⟨rfl, by decide, rfl⟩ (z_ild hX dX12_made_129 (z_bipush hX dX12_made_131 (by decide) (z_iadd hX dX12_made_133 (z_iconst hX dX12_made_134 (by decide) (z_iast hX dX12_made_135 (z_ald_n hX dX12_made_136 rfl (z_gr (c := 12) (j := 0) hX dX12_made_137 rfl inlX12 wm7_16 ⟨rfl, by decide, rfl⟩ (z_ild hX dX12_made_140 (z_bipush hX dX12_made_142 (by decide) (z_iadd hX dX12_made_144 (z_iconst hX dX12_made_145 (by decide) (z_iast hX dX12_made_146 (z_ald_n hX dX12_made_147 rfl (z_gr (c := 12) (j := 0) hX dX12_made_148 rfl inlX12 wm7_16 ⟨rfl, by decide, rfl⟩ (z_iconst hX dX12_made_151 (by decide) ((tX12_made_152 hX hr hq)))))))))))))))))))))))))
def kX12_made_75 (r : pu_R) : pu_K := s_iadd (s_push (.int (-1)) (s_wi 1 (s_ald 0 (s_gr 12 0 (s_ild 9 (s_push (.int (6)) (s_iadd (s_push (.int (-1)) (s_wi 1 (s_ald 0 (s_gr 12 0 (s_ild 9 (s_push (.int (7)) (s_iadd (s_ild 5 (s_wi 1 (s_ald 0 (s_gr 12 0 (s_ild 9 (s_push (.int (8)) (s_iadd (s_ild 6 (s_wi 1 ((kX12_made_113 r)))))))))))))))))))))))))
theorem vX12_made_75 : pu_cok2 kX12_made_75 := fun rf r hr => by
  unfold kX12_made_75
  exact v_iadd (v_pi (v_wi (v_ald (v_gr (v_ild (v_pi (v_iadd (v_pi (v_wi (v_ald (v_gr (v_ild (v_pi (v_iadd (v_ild (v_wi (v_ald (v_gr (v_ild (v_pi (v_iadd (v_ild (v_wi ((vX12_made_113 rf r hr)))))))))))))))))))))))))
theorem tX12_made_75 {X : pu_X} {r : pu_R} (hX : pu_H X mdX12_made) (hr : pu_P X.2.1 X.2.2.2.2.2.2.2.2.2.2.1 r) (hq : ∀ i pc, pu_lp i = some (284, pc) → pu_S X mdX12_made pc (r i)) : pu_S X mdX12_made 75 (kX12_made_75 r) := by
  unfold kX12_made_75
  exact z_iadd hX dX12_made_75 (z_iconst hX dX12_made_76 (by decide) (z_iast hX dX12_made_77 (z_ald_n hX dX12_made_78 rfl (z_gr (c := 12) (j := 0) hX dX12_made_79 rfl inlX12 wm7_16 ⟨rfl, by decide, rfl⟩ (z_ild hX dX12_made_82 (z_bipush hX dX12_made_84 (by decide) (z_iadd hX dX12_made_86 (z_iconst hX dX12_made_87 (by decide) (z_iast hX dX12_made_88 (z_ald_n hX dX12_made_89 rfl (z_gr (c := 12) (j := 0) hX dX12_made_90 rfl inlX12 wm7_16 ⟨rfl, by decide, rfl⟩ (z_ild hX dX12_made_93 (z_bipush hX dX12_made_95 (by decide) (z_iadd hX dX12_made_97 (z_ild hX dX12_made_98 (z_iast hX dX12_made_100 (z_ald_n hX dX12_made_101 rfl (z_gr (c := 12) (j := 0) hX dX12_made_102 rfl inlX12 wm7_16 ⟨rfl, by decide, rfl⟩ (z_ild hX dX12_made_105 (z_bipush hX dX12_made_107 (by decide) (z_iadd hX dX12_made_109 (z_ild hX dX12_made_110 (z_iast hX dX12_made_112 ((tX12_made_113 hX hr hq)))))))))))))))))))))))))
def kX12_made_38 (r : pu_R) : pu_K := s_gr 12 0 (s_ild 9 (s_push (.int (2)) (s_iadd (s_ild 3 (s_wi 1 (s_ald 0 (s_gr 12 0 (s_ild 9 (s_push (.int (3)) (s_iadd (s_ild 4 (s_wi 1 (s_ald 0 (s_gr 12 0 (s_ild 9 (s_push (.int (4)) (s_iadd (s_push (.int (-1)) (s_wi 1 (s_ald 0 (s_gr 12 0 (s_ild 9 (s_push (.int (5)) ((kX12_made_75 r)))))))))))))))))))))))))
theorem vX12_made_38 : pu_cok2 kX12_made_38 := fun rf r hr => by
  unfold kX12_made_38
  exact v_gr (v_ild (v_pi (v_iadd (v_ild (v_wi (v_ald (v_gr (v_ild (v_pi (v_iadd (v_ild (v_wi (v_ald (v_gr (v_ild (v_pi (v_iadd (v_pi (v_wi (v_ald (v_gr (v_ild (v_pi ((vX12_made_75 rf r hr)))))))))))))))))))))))))
theorem tX12_made_38 {X : pu_X} {r : pu_R} (hX : pu_H X mdX12_made) (hr : pu_P X.2.1 X.2.2.2.2.2.2.2.2.2.2.1 r) (hq : ∀ i pc, pu_lp i = some (284, pc) → pu_S X mdX12_made pc (r i)) : pu_S X mdX12_made 38 (kX12_made_38 r) := by
  unfold kX12_made_38
  exact z_gr (c := 12) (j := 0) hX dX12_made_38 rfl inlX12 wm7_16 ⟨rfl, by decide, rfl⟩ (z_ild hX dX12_made_41 (z_iconst hX dX12_made_43 (by decide) (z_iadd hX dX12_made_44 (z_ild_n hX dX12_made_45 rfl (z_iast hX dX12_made_46 (z_ald_n hX dX12_made_47 rfl (z_gr (c := 12) (j := 0) hX dX12_made_48 rfl inlX12 wm7_16 ⟨rfl, by decide, rfl⟩ (z_ild hX dX12_made_51 (z_iconst hX dX12_made_53 (by decide) (z_iadd hX dX12_made_54 (z_ild hX dX12_made_55 (z_iast hX dX12_made_57 (z_ald_n hX dX12_made_58 rfl (z_gr (c := 12) (j := 0) hX dX12_made_59 rfl inlX12 wm7_16 ⟨rfl, by decide, rfl⟩ (z_ild hX dX12_made_62 (z_iconst hX dX12_made_64 (by decide) (z_iadd hX dX12_made_65 (z_iconst hX dX12_made_66 (by decide) (z_iast hX dX12_made_67 (z_ald_n hX dX12_made_68 rfl (z_gr (c := 12) (j := 0) hX dX12_made_69 rfl inlX12 wm7_16 ⟨rfl, by decide, rfl⟩ (z_ild hX dX12_made_72 (z_iconst hX dX12_made_74 (by decide) ((tX12_made_75 hX hr hq)))))))))))))))))))))))))
def kX12_made_0 (r : pu_R) : pu_K := s_ald 0 (s_gr 12 0 (s_push (.int (4)) (s_ai 1 (s_ist 8 (s_push (.int (9552)) (s_push (.int (12)) (s_ild 8 (s_imul (s_iadd (s_ist 9 (s_ald 0 (s_gr 12 0 (s_ild 9 (s_ild 1 (s_wi 1 (s_ald 0 (s_gr 12 0 (s_ild 9 (s_push (.int (1)) (s_iadd (s_ild 2 (s_wi 1 (s_ald 0 ((kX12_made_38 r)))))))))))))))))))))))))
theorem vX12_made_0 : pu_cok2 kX12_made_0 := fun rf r hr => by
  unfold kX12_made_0
  exact v_ald (v_gr (v_pi (v_ai (v_ist (v_pi (v_pi (v_ild (v_imul (v_iadd (v_ist (v_ald (v_gr (v_ild (v_ild (v_wi (v_ald (v_gr (v_ild (v_pi (v_iadd (v_ild (v_wi (v_ald ((vX12_made_38 rf r hr)))))))))))))))))))))))))
theorem tX12_made_0 {X : pu_X} {r : pu_R} (hX : pu_H X mdX12_made) (hr : pu_P X.2.1 X.2.2.2.2.2.2.2.2.2.2.1 r) (hq : ∀ i pc, pu_lp i = some (284, pc) → pu_S X mdX12_made pc (r i)) : pu_S X mdX12_made 0 (kX12_made_0 r) := by
  unfold kX12_made_0
  exact z_ald_n hX dX12_made_0 rfl (z_gr (c := 12) (j := 0) hX dX12_made_1 rfl inlX12 wm7_16 ⟨rfl, by decide, rfl⟩ (z_iconst hX dX12_made_4 (by decide) (z_iald hX dX12_made_5 (z_ist hX dX12_made_6 (z_sipush hX dX12_made_8 (by decide) (z_bipush hX dX12_made_11 (by decide) (z_ild hX dX12_made_13 (z_imul hX dX12_made_15 (z_iadd hX dX12_made_16 (z_ist hX dX12_made_17 (z_ald_n hX dX12_made_19 rfl (z_gr (c := 12) (j := 0) hX dX12_made_20 rfl inlX12 wm7_16 ⟨rfl, by decide, rfl⟩ (z_ild hX dX12_made_23 (z_ild_n hX dX12_made_25 rfl (z_iast hX dX12_made_26 (z_ald_n hX dX12_made_27 rfl (z_gr (c := 12) (j := 0) hX dX12_made_28 rfl inlX12 wm7_16 ⟨rfl, by decide, rfl⟩ (z_ild hX dX12_made_31 (z_iconst hX dX12_made_33 (by decide) (z_iadd hX dX12_made_34 (z_ild_n hX dX12_made_35 rfl (z_iast hX dX12_made_36 (z_ald_n hX dX12_made_37 rfl ((tX12_made_38 hX hr hq)))))))))))))))))))))))))
def kX12_door_162 (r : pu_R) : pu_K := s_cv r 274 5 12 (s_ild 8 (s_iret))
theorem vX12_door_162 : pu_cok2 kX12_door_162 := fun rf r hr => by
  unfold kX12_door_162
  exact v_cv hr (v_ild (v_iret))
theorem tX12_door_162 {X : pu_X} {r : pu_R} (hX : pu_H X mdX12_door) (hr : pu_P X.2.1 X.2.2.2.2.2.2.2.2.2.2.1 r) (hq : ∀ i pc, pu_lp i = some (285, pc) → pu_S X mdX12_door pc (r i)) : pu_S X mdX12_door 162 (kX12_door_162 r) := by
  unfold kX12_door_162
  exact z_cv (c := 12) hX hr dX12_door_162 hjX12_opens mwX12_opens rfl wm32_5 ⟨wm32_6, wm32_7⟩ ⟨Nat.le_of_ble_eq_true rfl, Nat.le_of_ble_eq_true rfl⟩ (z_ild hX dX12_door_165 (z_iret hX dX12_door_167 rfl))
def kX12_door_127 (r : pu_R) : pu_K := s_ald 0 (s_ild 5 (s_ild 1 (s_push (.int (-1)) (s_push (.int (-1)) (s_push (.int (-1)) (s_cv r 257 5 12 (s_ist 7 (s_ald 0 (s_push (.int (0)) (s_ild 1 (s_ild 2 (s_ild 3 (s_push (.int (0)) (s_push (.int (-1)) (s_ild 7 (s_cv r 284 7 12 (s_ist 8 (s_ald 0 (s_ild 8 (s_push (.int (0)) (s_ild 1 (s_ild 6 (s_ild 7 ((kX12_door_162 r)))))))))))))))))))))))))
theorem vX12_door_127 : pu_cok2 kX12_door_127 := fun rf r hr => by
  unfold kX12_door_127
  exact v_ald (v_ild (v_ild (v_pi (v_pi (v_pi (v_cv hr (v_ist (v_ald (v_pi (v_ild (v_ild (v_ild (v_pi (v_pi (v_ild (v_cv hr (v_ist (v_ald (v_ild (v_pi (v_ild (v_ild (v_ild ((vX12_door_162 rf r hr)))))))))))))))))))))))))
theorem tX12_door_127 {X : pu_X} {r : pu_R} (hX : pu_H X mdX12_door) (hr : pu_P X.2.1 X.2.2.2.2.2.2.2.2.2.2.1 r) (hq : ∀ i pc, pu_lp i = some (285, pc) → pu_S X mdX12_door pc (r i)) : pu_S X mdX12_door 127 (kX12_door_127 r) := by
  unfold kX12_door_127
  exact z_ald_n hX dX12_door_127 rfl (z_ild hX dX12_door_128 (z_ild_n hX dX12_door_130 rfl (z_iconst hX dX12_door_131 (by decide) (z_iconst hX dX12_door_132 (by decide) (z_iconst hX dX12_door_133 (by decide) (z_cv (c := 12) hX hr dX12_door_134 hjX12_paper mwX12_paper rfl wm21_8 ⟨wm21_9, wm21_10⟩ ⟨Nat.le_of_ble_eq_true rfl, Nat.le_of_ble_eq_true rfl⟩ (z_ist hX dX12_door_137 (z_ald_n hX dX12_door_139 rfl (z_iconst hX dX12_door_140 (by decide) (z_ild_n hX dX12_door_141 rfl (z_ild_n hX dX12_door_142 rfl (z_ild_n hX dX12_door_143 rfl (z_iconst hX dX12_door_144 (by decide) (z_iconst hX dX12_door_145 (by decide) (z_ild hX dX12_door_146 (z_cv (c := 12) hX hr dX12_door_148 hjX12_made mwX12_made rfl wm32_1 ⟨wm32_2, wm32_3⟩ ⟨Nat.le_of_ble_eq_true rfl, Nat.le_of_ble_eq_true rfl⟩ (z_ist hX dX12_door_151 (z_ald_n hX dX12_door_153 rfl (z_ild hX dX12_door_154 (z_iconst hX dX12_door_156 (by decide) (z_ild_n hX dX12_door_157 rfl (z_ild hX dX12_door_158 (z_ild hX dX12_door_160 ((tX12_door_162 hX hr hq)))))))))))))))))))))))))
def kX12_door_124 (r : pu_R) : pu_K := s_push (.int (-6)) (s_iret)
theorem vX12_door_124 : pu_cok2 kX12_door_124 := fun rf r hr => by
  unfold kX12_door_124
  exact v_pi (v_iret)
theorem tX12_door_124 {X : pu_X} {r : pu_R} (hX : pu_H X mdX12_door) (hr : pu_P X.2.1 X.2.2.2.2.2.2.2.2.2.2.1 r) (hq : ∀ i pc, pu_lp i = some (285, pc) → pu_S X mdX12_door pc (r i)) : pu_S X mdX12_door 124 (kX12_door_124 r) := by
  unfold kX12_door_124
  exact z_bipush hX dX12_door_124 (by decide) (z_iret hX dX12_door_126 rfl)
def kX12_door_88 (r : pu_R) : pu_K := s_ald 0 (s_gr 12 0 (s_push (.int (4)) (s_ai 1 (s_push (.int (100)) (s_iceq (kX12_door_124 r) (s_ald 0 (s_gr 12 0 (s_push (.int (5)) (s_ai 1 (s_push (.int (200)) (s_iceq (kX12_door_124 r) (s_ald 0 (s_gr 12 0 (s_push (.int (6)) (s_ai 1 (s_push (.int (3000)) (s_icne (kX12_door_127 r) ((kX12_door_124 r)))))))))))))))))))
theorem vX12_door_88 : pu_cok2 kX12_door_88 := fun rf r hr => by
  unfold kX12_door_88
  exact v_ald (v_gr (v_pi (v_ai (v_pi (v_iceq (vX12_door_124 rf r hr) (v_ald (v_gr (v_pi (v_ai (v_pi (v_iceq (vX12_door_124 rf r hr) (v_ald (v_gr (v_pi (v_ai (v_pi (v_icne (vX12_door_127 rf r hr) ((vX12_door_124 rf r hr)))))))))))))))))))
theorem tX12_door_88 {X : pu_X} {r : pu_R} (hX : pu_H X mdX12_door) (hr : pu_P X.2.1 X.2.2.2.2.2.2.2.2.2.2.1 r) (hq : ∀ i pc, pu_lp i = some (285, pc) → pu_S X mdX12_door pc (r i)) : pu_S X mdX12_door 88 (kX12_door_88 r) := by
  unfold kX12_door_88
  exact z_ald_n hX dX12_door_88 rfl (z_gr (c := 12) (j := 0) hX dX12_door_89 rfl inlX12 wm7_16 ⟨rfl, by decide, rfl⟩ (z_iconst hX dX12_door_92 (by decide) (z_iald hX dX12_door_93 (z_bipush hX dX12_door_94 (by decide) (z_iceq hX dX12_door_96 (by decide) (tX12_door_124 hX hr hq) (z_ald_n hX dX12_door_99 rfl (z_gr (c := 12) (j := 0) hX dX12_door_100 rfl inlX12 wm7_16 ⟨rfl, by decide, rfl⟩ (z_iconst hX dX12_door_103 (by decide) (z_iald hX dX12_door_104 (z_sipush hX dX12_door_105 (by decide) (z_iceq hX dX12_door_108 (by decide) (tX12_door_124 hX hr hq) (z_ald_n hX dX12_door_111 rfl (z_gr (c := 12) (j := 0) hX dX12_door_112 rfl inlX12 wm7_16 ⟨rfl, by decide, rfl⟩ (z_bipush hX dX12_door_115 (by decide) (z_iald hX dX12_door_117 (z_sipush hX dX12_door_118 (by decide) (z_icne hX dX12_door_121 (by decide) (tX12_door_127 hX hr hq) ((tX12_door_124 hX hr hq)))))))))))))))))))
def kX12_door_75 (r : pu_R) : pu_K := s_ald 0 (s_ild 1 (s_ild 2 (s_ild 3 (s_cv r 282 3 12 (s_ifeq (kX12_door_88 r) (s_push (.int (-5)) (s_iret)))))))
theorem vX12_door_75 : pu_cok2 kX12_door_75 := fun rf r hr => by
  unfold kX12_door_75
  exact v_ald (v_ild (v_ild (v_ild (v_cv hr (v_ifeq (vX12_door_88 rf r hr) (v_pi (v_iret)))))))
theorem tX12_door_75 {X : pu_X} {r : pu_R} (hX : pu_H X mdX12_door) (hr : pu_P X.2.1 X.2.2.2.2.2.2.2.2.2.2.1 r) (hq : ∀ i pc, pu_lp i = some (285, pc) → pu_S X mdX12_door pc (r i)) : pu_S X mdX12_door 75 (kX12_door_75 r) := by
  unfold kX12_door_75
  exact z_ald_n hX dX12_door_75 rfl (z_ild_n hX dX12_door_76 rfl (z_ild_n hX dX12_door_77 rfl (z_ild_n hX dX12_door_78 rfl (z_cv (c := 12) hX hr dX12_door_79 hjX12_isOccupied mwX12_isOccupied rfl wm31_21 ⟨wm31_22, wm31_23⟩ ⟨Nat.le_of_ble_eq_true rfl, Nat.le_of_ble_eq_true rfl⟩ (z_ifeq hX dX12_door_82 (by decide) (tX12_door_88 hX hr hq) (z_bipush hX dX12_door_85 (by decide) (z_iret hX dX12_door_87 rfl)))))))
def kX12_door_55 (r : pu_R) : pu_K := s_ald 0 (s_ild 1 (s_ild 2 (s_ild 3 (s_ild 4 (s_cv r 281 4 12 (s_ist 6 (s_ild 6 (s_push (.int (-1)) (s_icne (kX12_door_75 r) (s_push (.int (-4)) (s_iret)))))))))))
theorem vX12_door_55 : pu_cok2 kX12_door_55 := fun rf r hr => by
  unfold kX12_door_55
  exact v_ald (v_ild (v_ild (v_ild (v_ild (v_cv hr (v_ist (v_ild (v_pi (v_icne (vX12_door_75 rf r hr) (v_pi (v_iret)))))))))))
theorem tX12_door_55 {X : pu_X} {r : pu_R} (hX : pu_H X mdX12_door) (hr : pu_P X.2.1 X.2.2.2.2.2.2.2.2.2.2.1 r) (hq : ∀ i pc, pu_lp i = some (285, pc) → pu_S X mdX12_door pc (r i)) : pu_S X mdX12_door 55 (kX12_door_55 r) := by
  unfold kX12_door_55
  exact z_ald_n hX dX12_door_55 rfl (z_ild_n hX dX12_door_56 rfl (z_ild_n hX dX12_door_57 rfl (z_ild_n hX dX12_door_58 rfl (z_ild hX dX12_door_59 (z_cv (c := 12) hX hr dX12_door_61 hjX12_least mwX12_least rfl wm29_5 ⟨wm29_6, wm29_7⟩ ⟨Nat.le_of_ble_eq_true rfl, Nat.le_of_ble_eq_true rfl⟩ (z_ist hX dX12_door_64 (z_ild hX dX12_door_66 (z_iconst hX dX12_door_68 (by decide) (z_icne hX dX12_door_69 (by decide) (tX12_door_75 hX hr hq) (z_bipush hX dX12_door_72 (by decide) (z_iret hX dX12_door_74 rfl)))))))))))
def kX12_door_42 (r : pu_R) : pu_K := s_ald 0 (s_ild 1 (s_ild 5 (s_cv r 256 2 12 (s_ifeq (kX12_door_55 r) (s_push (.int (-3)) (s_iret))))))
theorem vX12_door_42 : pu_cok2 kX12_door_42 := fun rf r hr => by
  unfold kX12_door_42
  exact v_ald (v_ild (v_ild (v_cv hr (v_ifeq (vX12_door_55 rf r hr) (v_pi (v_iret))))))
theorem tX12_door_42 {X : pu_X} {r : pu_R} (hX : pu_H X mdX12_door) (hr : pu_P X.2.1 X.2.2.2.2.2.2.2.2.2.2.1 r) (hq : ∀ i pc, pu_lp i = some (285, pc) → pu_S X mdX12_door pc (r i)) : pu_S X mdX12_door 42 (kX12_door_42 r) := by
  unfold kX12_door_42
  exact z_ald_n hX dX12_door_42 rfl (z_ild_n hX dX12_door_43 rfl (z_ild hX dX12_door_44 (z_cv (c := 12) hX hr dX12_door_46 hjX12_isEarly mwX12_isEarly rfl wm28_17 ⟨wm28_18, wm28_19⟩ ⟨Nat.le_of_ble_eq_true rfl, Nat.le_of_ble_eq_true rfl⟩ (z_ifeq hX dX12_door_49 (by decide) (tX12_door_55 hX hr hq) (z_bipush hX dX12_door_52 (by decide) (z_iret hX dX12_door_54 rfl))))))
def kX12_door_39 (r : pu_R) : pu_K := s_push (.int (-2)) (s_iret)
theorem vX12_door_39 : pu_cok2 kX12_door_39 := fun rf r hr => by
  unfold kX12_door_39
  exact v_pi (v_iret)
theorem tX12_door_39 {X : pu_X} {r : pu_R} (hX : pu_H X mdX12_door) (hr : pu_P X.2.1 X.2.2.2.2.2.2.2.2.2.2.1 r) (hq : ∀ i pc, pu_lp i = some (285, pc) → pu_S X mdX12_door pc (r i)) : pu_S X mdX12_door 39 (kX12_door_39 r) := by
  unfold kX12_door_39
  exact z_bipush hX dX12_door_39 (by decide) (z_iret hX dX12_door_41 rfl)
def kX12_door_31 (r : pu_R) : pu_K := s_ild 5 (s_cs r 234 1 (s_ifne (kX12_door_42 r) ((kX12_door_39 r))))
theorem vX12_door_31 : pu_cok2 kX12_door_31 := fun rf r hr => by
  unfold kX12_door_31
  exact v_ild (v_cs hr (v_ifne (vX12_door_42 rf r hr) ((vX12_door_39 rf r hr))))
theorem tX12_door_31 {X : pu_X} {r : pu_R} (hX : pu_H X mdX12_door) (hr : pu_P X.2.1 X.2.2.2.2.2.2.2.2.2.2.1 r) (hq : ∀ i pc, pu_lp i = some (285, pc) → pu_S X mdX12_door pc (r i)) : pu_S X mdX12_door 31 (kX12_door_31 r) := by
  unfold kX12_door_31
  exact z_ild hX dX12_door_31 (z_cs hX hr dX12_door_33 hjX12_isDay mwX12_isDay wm11_5 wm11_6 ⟨Nat.le_of_ble_eq_true rfl, Nat.le_of_ble_eq_true rfl⟩ (z_ifne hX dX12_door_36 (by decide) (tX12_door_42 hX hr hq) ((tX12_door_39 hX hr hq))))
def kX12_door_10 (r : pu_R) : pu_K := s_ild 2 (s_ild 3 (s_cs r 283 2 (s_ifeq (kX12_door_39 r) (s_ild 4 (s_ifeq (kX12_door_31 r) (s_ild 4 (s_cs r 263 1 (s_ifeq (kX12_door_39 r) ((kX12_door_31 r))))))))))
theorem vX12_door_10 : pu_cok2 kX12_door_10 := fun rf r hr => by
  unfold kX12_door_10
  exact v_ild (v_ild (v_cs hr (v_ifeq (vX12_door_39 rf r hr) (v_ild (v_ifeq (vX12_door_31 rf r hr) (v_ild (v_cs hr (v_ifeq (vX12_door_39 rf r hr) ((vX12_door_31 rf r hr))))))))))
theorem tX12_door_10 {X : pu_X} {r : pu_R} (hX : pu_H X mdX12_door) (hr : pu_P X.2.1 X.2.2.2.2.2.2.2.2.2.2.1 r) (hq : ∀ i pc, pu_lp i = some (285, pc) → pu_S X mdX12_door pc (r i)) : pu_S X mdX12_door 10 (kX12_door_10 r) := by
  unfold kX12_door_10
  exact z_ild_n hX dX12_door_10 rfl (z_ild_n hX dX12_door_11 rfl (z_cs hX hr dX12_door_12 hjX12_isPlace mwX12_isPlace wm28_10 wm28_11 ⟨Nat.le_of_ble_eq_true rfl, Nat.le_of_ble_eq_true rfl⟩ (z_ifeq hX dX12_door_15 (by decide) (tX12_door_39 hX hr hq) (z_ild hX dX12_door_18 (z_ifeq hX dX12_door_20 (by decide) (tX12_door_31 hX hr hq) (z_ild hX dX12_door_23 (z_cs hX hr dX12_door_25 hjX12_isWhole mwX12_isWhole wm28_13 wm28_14 ⟨Nat.le_of_ble_eq_true rfl, Nat.le_of_ble_eq_true rfl⟩ (z_ifeq hX dX12_door_28 (by decide) (tX12_door_39 hX hr hq) ((tX12_door_31 hX hr hq))))))))))
def kX12_door_0 (r : pu_R) : pu_K := s_ald 0 (s_ild 1 (s_cv r 251 1 12 (s_ifne (kX12_door_10 r) (s_push (.int (-1)) (s_iret)))))
theorem vX12_door_0 : pu_cok2 kX12_door_0 := fun rf r hr => by
  unfold kX12_door_0
  exact v_ald (v_ild (v_cv hr (v_ifne (vX12_door_10 rf r hr) (v_pi (v_iret)))))
theorem tX12_door_0 {X : pu_X} {r : pu_R} (hX : pu_H X mdX12_door) (hr : pu_P X.2.1 X.2.2.2.2.2.2.2.2.2.2.1 r) (hq : ∀ i pc, pu_lp i = some (285, pc) → pu_S X mdX12_door pc (r i)) : pu_S X mdX12_door 0 (kX12_door_0 r) := by
  unfold kX12_door_0
  exact z_ald_n hX dX12_door_0 rfl (z_ild_n hX dX12_door_1 rfl (z_cv (c := 12) hX hr dX12_door_2 hjX12_isStreet mwX12_isStreet rfl wm28_6 ⟨wm28_7, wm28_8⟩ ⟨Nat.le_of_ble_eq_true rfl, Nat.le_of_ble_eq_true rfl⟩ (z_ifne hX dX12_door_5 (by decide) (tX12_door_10 hX hr hq) (z_iconst hX dX12_door_8 (by decide) (z_iret hX dX12_door_9 rfl)))))
def kX12_free_57 (r : pu_R) : pu_K := s_iret
theorem vX12_free_57 : pu_cok2 kX12_free_57 := fun rf r hr => by
  unfold kX12_free_57
  exact v_iret
theorem tX12_free_57 {X : pu_X} {r : pu_R} (hX : pu_H X mdX12_free) (hr : pu_P X.2.1 X.2.2.2.2.2.2.2.2.2.2.1 r) (hq : ∀ i pc, pu_lp i = some (286, pc) → pu_S X mdX12_free pc (r i)) : pu_S X mdX12_free 57 (kX12_free_57 r) := by
  unfold kX12_free_57
  exact z_iret hX dX12_free_57 rfl
def kX12_free_55 (r : pu_R) : pu_K := s_ild 4 ((kX12_free_57 r))
theorem vX12_free_55 : pu_cok2 kX12_free_55 := fun rf r hr => by
  unfold kX12_free_55
  exact v_ild ((vX12_free_57 rf r hr))
theorem tX12_free_55 {X : pu_X} {r : pu_R} (hX : pu_H X mdX12_free) (hr : pu_P X.2.1 X.2.2.2.2.2.2.2.2.2.2.1 r) (hq : ∀ i pc, pu_lp i = some (286, pc) → pu_S X mdX12_free pc (r i)) : pu_S X mdX12_free 55 (kX12_free_55 r) := by
  unfold kX12_free_55
  exact z_ild hX dX12_free_55 ((tX12_free_57 hX hr hq))
def kX12_free_40 (r : pu_R) : pu_K := s_ald 0 (s_ild 1 (s_ild 2 (s_ild 3 (s_cv r 282 3 12 (s_ifeq (kX12_free_55 r) (s_push (.int (-5)) ((kX12_free_57 r))))))))
theorem vX12_free_40 : pu_cok2 kX12_free_40 := fun rf r hr => by
  unfold kX12_free_40
  exact v_ald (v_ild (v_ild (v_ild (v_cv hr (v_ifeq (vX12_free_55 rf r hr) (v_pi ((vX12_free_57 rf r hr))))))))
theorem tX12_free_40 {X : pu_X} {r : pu_R} (hX : pu_H X mdX12_free) (hr : pu_P X.2.1 X.2.2.2.2.2.2.2.2.2.2.1 r) (hq : ∀ i pc, pu_lp i = some (286, pc) → pu_S X mdX12_free pc (r i)) : pu_S X mdX12_free 40 (kX12_free_40 r) := by
  unfold kX12_free_40
  exact z_ald_n hX dX12_free_40 rfl (z_ild_n hX dX12_free_41 rfl (z_ild_n hX dX12_free_42 rfl (z_ild_n hX dX12_free_43 rfl (z_cv (c := 12) hX hr dX12_free_44 hjX12_isOccupied mwX12_isOccupied rfl wm31_21 ⟨wm31_22, wm31_23⟩ ⟨Nat.le_of_ble_eq_true rfl, Nat.le_of_ble_eq_true rfl⟩ (z_ifeq hX dX12_free_47 (by decide) (tX12_free_55 hX hr hq) (z_bipush hX dX12_free_50 (by decide) ((z_goto hX dX12_free_52 (by decide) (tX12_free_57 hX hr hq)))))))))
def kX12_free_21 (r : pu_R) : pu_K := s_ald 0 (s_ild 1 (s_ild 2 (s_ild 3 (s_push (.int (0)) (s_cv r 281 4 12 (s_ist 4 (s_ild 4 (s_push (.int (-1)) (s_icne (kX12_free_40 r) (s_push (.int (-4)) (s_iret)))))))))))
theorem vX12_free_21 : pu_cok2 kX12_free_21 := fun rf r hr => by
  unfold kX12_free_21
  exact v_ald (v_ild (v_ild (v_ild (v_pi (v_cv hr (v_ist (v_ild (v_pi (v_icne (vX12_free_40 rf r hr) (v_pi (v_iret)))))))))))
theorem tX12_free_21 {X : pu_X} {r : pu_R} (hX : pu_H X mdX12_free) (hr : pu_P X.2.1 X.2.2.2.2.2.2.2.2.2.2.1 r) (hq : ∀ i pc, pu_lp i = some (286, pc) → pu_S X mdX12_free pc (r i)) : pu_S X mdX12_free 21 (kX12_free_21 r) := by
  unfold kX12_free_21
  exact z_ald_n hX dX12_free_21 rfl (z_ild_n hX dX12_free_22 rfl (z_ild_n hX dX12_free_23 rfl (z_ild_n hX dX12_free_24 rfl (z_iconst hX dX12_free_25 (by decide) (z_cv (c := 12) hX hr dX12_free_26 hjX12_least mwX12_least rfl wm29_5 ⟨wm29_6, wm29_7⟩ ⟨Nat.le_of_ble_eq_true rfl, Nat.le_of_ble_eq_true rfl⟩ (z_ist hX dX12_free_29 (z_ild hX dX12_free_31 (z_iconst hX dX12_free_33 (by decide) (z_icne hX dX12_free_34 (by decide) (tX12_free_40 hX hr hq) (z_bipush hX dX12_free_37 (by decide) (z_iret hX dX12_free_39 rfl)))))))))))
def kX12_free_10 (r : pu_R) : pu_K := s_ild 2 (s_ild 3 (s_cs r 283 2 (s_ifne (kX12_free_21 r) (s_push (.int (-2)) (s_iret)))))
theorem vX12_free_10 : pu_cok2 kX12_free_10 := fun rf r hr => by
  unfold kX12_free_10
  exact v_ild (v_ild (v_cs hr (v_ifne (vX12_free_21 rf r hr) (v_pi (v_iret)))))
theorem tX12_free_10 {X : pu_X} {r : pu_R} (hX : pu_H X mdX12_free) (hr : pu_P X.2.1 X.2.2.2.2.2.2.2.2.2.2.1 r) (hq : ∀ i pc, pu_lp i = some (286, pc) → pu_S X mdX12_free pc (r i)) : pu_S X mdX12_free 10 (kX12_free_10 r) := by
  unfold kX12_free_10
  exact z_ild_n hX dX12_free_10 rfl (z_ild_n hX dX12_free_11 rfl (z_cs hX hr dX12_free_12 hjX12_isPlace mwX12_isPlace wm28_10 wm28_11 ⟨Nat.le_of_ble_eq_true rfl, Nat.le_of_ble_eq_true rfl⟩ (z_ifne hX dX12_free_15 (by decide) (tX12_free_21 hX hr hq) (z_bipush hX dX12_free_18 (by decide) (z_iret hX dX12_free_20 rfl)))))
def kX12_free_0 (r : pu_R) : pu_K := s_ald 0 (s_ild 1 (s_cv r 251 1 12 (s_ifne (kX12_free_10 r) (s_push (.int (-1)) (s_iret)))))
theorem vX12_free_0 : pu_cok2 kX12_free_0 := fun rf r hr => by
  unfold kX12_free_0
  exact v_ald (v_ild (v_cv hr (v_ifne (vX12_free_10 rf r hr) (v_pi (v_iret)))))
theorem tX12_free_0 {X : pu_X} {r : pu_R} (hX : pu_H X mdX12_free) (hr : pu_P X.2.1 X.2.2.2.2.2.2.2.2.2.2.1 r) (hq : ∀ i pc, pu_lp i = some (286, pc) → pu_S X mdX12_free pc (r i)) : pu_S X mdX12_free 0 (kX12_free_0 r) := by
  unfold kX12_free_0
  exact z_ald_n hX dX12_free_0 rfl (z_ild_n hX dX12_free_1 rfl (z_cv (c := 12) hX hr dX12_free_2 hjX12_isStreet mwX12_isStreet rfl wm28_6 ⟨wm28_7, wm28_8⟩ ⟨Nat.le_of_ble_eq_true rfl, Nat.le_of_ble_eq_true rfl⟩ (z_ifne hX dX12_free_5 (by decide) (tX12_free_10 hX hr hq) (z_iconst hX dX12_free_8 (by decide) (z_iret hX dX12_free_9 rfl)))))
def kX12_corner_237 (r : pu_R) : pu_K := s_ild 8 (s_wi 1 (s_ald 0 (s_ild 1 (s_push (.int (1)) (s_ild 2 (s_ild 7 (s_ild 8 (s_cv r 274 5 12 (s_ild 7 (s_iret))))))))))
theorem vX12_corner_237 : pu_cok2 kX12_corner_237 := fun rf r hr => by
  unfold kX12_corner_237
  exact v_ild (v_wi (v_ald (v_ild (v_pi (v_ild (v_ild (v_ild (v_cv hr (v_ild (v_iret))))))))))
theorem tX12_corner_237 {X : pu_X} {r : pu_R} (hX : pu_H X mdX12_corner) (hr : pu_P X.2.1 X.2.2.2.2.2.2.2.2.2.2.1 r) (hq : ∀ i pc, pu_lp i = some (287, pc) → pu_S X mdX12_corner pc (r i)) : pu_S X mdX12_corner 237 (kX12_corner_237 r) := by
  unfold kX12_corner_237
  exact z_ild hX dX12_corner_237 (z_iast hX dX12_corner_239 (z_ald_n hX dX12_corner_240 rfl (z_ild_n hX dX12_corner_241 rfl (z_iconst hX dX12_corner_242 (by decide) (z_ild_n hX dX12_corner_243 rfl (z_ild hX dX12_corner_244 (z_ild hX dX12_corner_246 (z_cv (c := 12) hX hr dX12_corner_248 hjX12_opens mwX12_opens rfl wm32_5 ⟨wm32_6, wm32_7⟩ ⟨Nat.le_of_ble_eq_true rfl, Nat.le_of_ble_eq_true rfl⟩ (z_ild hX dX12_corner_251 (z_iret hX dX12_corner_253 rfl))))))))))
def kX12_corner_200 (r : pu_R) : pu_K := s_ild 9 (s_push (.int (4)) (s_iadd (s_ild 2 (s_wi 1 (s_ald 0 (s_gr 12 0 (s_ild 9 (s_push (.int (5)) (s_iadd (s_ild 3 (s_wi 1 (s_ald 0 (s_gr 12 0 (s_ild 9 (s_push (.int (6)) (s_iadd (s_ild 4 (s_wi 1 (s_ald 0 (s_gr 12 0 (s_ild 9 (s_push (.int (11)) (s_iadd ((kX12_corner_237 r)))))))))))))))))))))))))
theorem vX12_corner_200 : pu_cok2 kX12_corner_200 := fun rf r hr => by
  unfold kX12_corner_200
  exact v_ild (v_pi (v_iadd (v_ild (v_wi (v_ald (v_gr (v_ild (v_pi (v_iadd (v_ild (v_wi (v_ald (v_gr (v_ild (v_pi (v_iadd (v_ild (v_wi (v_ald (v_gr (v_ild (v_pi (v_iadd ((vX12_corner_237 rf r hr)))))))))))))))))))))))))
theorem tX12_corner_200 {X : pu_X} {r : pu_R} (hX : pu_H X mdX12_corner) (hr : pu_P X.2.1 X.2.2.2.2.2.2.2.2.2.2.1 r) (hq : ∀ i pc, pu_lp i = some (287, pc) → pu_S X mdX12_corner pc (r i)) : pu_S X mdX12_corner 200 (kX12_corner_200 r) := by
  unfold kX12_corner_200
  exact z_ild hX dX12_corner_200 (z_iconst hX dX12_corner_202 (by decide) (z_iadd hX dX12_corner_203 (z_ild_n hX dX12_corner_204 rfl (z_iast hX dX12_corner_205 (z_ald_n hX dX12_corner_206 rfl (z_gr (c := 12) (j := 0) hX dX12_corner_207 rfl inlX12 wm7_16 ⟨rfl, by decide, rfl⟩ (z_ild hX dX12_corner_210 (z_iconst hX dX12_corner_212 (by decide) (z_iadd hX dX12_corner_213 (z_ild_n hX dX12_corner_214 rfl (z_iast hX dX12_corner_215 (z_ald_n hX dX12_corner_216 rfl (z_gr (c := 12) (j := 0) hX dX12_corner_217 rfl inlX12 wm7_16 ⟨rfl, by decide, rfl⟩ (z_ild hX dX12_corner_220 (z_bipush hX dX12_corner_222 (by decide) (z_iadd hX dX12_corner_224 (z_ild hX dX12_corner_225 (z_iast hX dX12_corner_227 (z_ald_n hX dX12_corner_228 rfl (z_gr (c := 12) (j := 0) hX dX12_corner_229 rfl inlX12 wm7_16 ⟨rfl, by decide, rfl⟩ (z_ild hX dX12_corner_232 (z_bipush hX dX12_corner_234 (by decide) (z_iadd hX dX12_corner_236 ((tX12_corner_237 hX hr hq)))))))))))))))))))))))))
def kX12_corner_161 (r : pu_R) : pu_K := s_ald 0 (s_ild 6 (s_ald 0 (s_ild 1 (s_push (.int (1)) (s_cv r 265 2 12 (s_ild 2 (s_push (.int (-1)) (s_push (.int (-1)) (s_cv r 257 5 12 (s_ist 8 (s_push (.int (9552)) (s_push (.int (12)) (s_ild 1 (s_imul (s_iadd (s_ist 9 (s_ald 0 (s_gr 12 0 (s_ild 9 (s_push (.int (1)) (s_wi 1 (s_ald 0 (s_gr 12 0 ((kX12_corner_200 r)))))))))))))))))))))))))
theorem vX12_corner_161 : pu_cok2 kX12_corner_161 := fun rf r hr => by
  unfold kX12_corner_161
  exact v_ald (v_ild (v_ald (v_ild (v_pi (v_cv hr (v_ild (v_pi (v_pi (v_cv hr (v_ist (v_pi (v_pi (v_ild (v_imul (v_iadd (v_ist (v_ald (v_gr (v_ild (v_pi (v_wi (v_ald (v_gr ((vX12_corner_200 rf r hr)))))))))))))))))))))))))
theorem tX12_corner_161 {X : pu_X} {r : pu_R} (hX : pu_H X mdX12_corner) (hr : pu_P X.2.1 X.2.2.2.2.2.2.2.2.2.2.1 r) (hq : ∀ i pc, pu_lp i = some (287, pc) → pu_S X mdX12_corner pc (r i)) : pu_S X mdX12_corner 161 (kX12_corner_161 r) := by
  unfold kX12_corner_161
  exact z_ald_n hX dX12_corner_161 rfl (z_ild hX dX12_corner_162 (z_ald_n hX dX12_corner_164 rfl (z_ild_n hX dX12_corner_165 rfl (z_iconst hX dX12_corner_166 (by decide) (z_cv (c := 12) hX hr dX12_corner_167 hjX12_of mwX12_of rfl wm30_3 ⟨wm30_4, wm30_5⟩ ⟨Nat.le_of_ble_eq_true rfl, Nat.le_of_ble_eq_true rfl⟩ (z_ild_n hX dX12_corner_170 rfl (z_iconst hX dX12_corner_171 (by decide) (z_iconst hX dX12_corner_172 (by decide) (z_cv (c := 12) hX hr dX12_corner_173 hjX12_paper mwX12_paper rfl wm21_8 ⟨wm21_9, wm21_10⟩ ⟨Nat.le_of_ble_eq_true rfl, Nat.le_of_ble_eq_true rfl⟩ (z_ist hX dX12_corner_176 (z_sipush hX dX12_corner_178 (by decide) (z_bipush hX dX12_corner_181 (by decide) (z_ild_n hX dX12_corner_183 rfl (z_imul hX dX12_corner_184 (z_iadd hX dX12_corner_185 (z_ist hX dX12_corner_186 (z_ald_n hX dX12_corner_188 rfl (z_gr (c := 12) (j := 0) hX dX12_corner_189 rfl inlX12 wm7_16 ⟨rfl, by decide, rfl⟩ (z_ild hX dX12_corner_192 (z_iconst hX dX12_corner_194 (by decide) (z_iast hX dX12_corner_195 (z_ald_n hX dX12_corner_196 rfl (z_gr (c := 12) (j := 0) hX dX12_corner_197 rfl inlX12 wm7_16 ⟨rfl, by decide, rfl⟩ ((tX12_corner_200 hX hr hq)))))))))))))))))))))))))
def kX12_corner_158 (r : pu_R) : pu_K := s_push (.int (-6)) (s_iret)
theorem vX12_corner_158 : pu_cok2 kX12_corner_158 := fun rf r hr => by
  unfold kX12_corner_158
  exact v_pi (v_iret)
theorem tX12_corner_158 {X : pu_X} {r : pu_R} (hX : pu_H X mdX12_corner) (hr : pu_P X.2.1 X.2.2.2.2.2.2.2.2.2.2.1 r) (hq : ∀ i pc, pu_lp i = some (287, pc) → pu_S X mdX12_corner pc (r i)) : pu_S X mdX12_corner 158 (kX12_corner_158 r) := by
  unfold kX12_corner_158
  exact z_bipush hX dX12_corner_158 (by decide) (z_iret hX dX12_corner_160 rfl)
def kX12_corner_133 (r : pu_R) : pu_K := s_ald 0 (s_gr 12 0 (s_push (.int (5)) (s_ai 1 (s_push (.int (200)) (s_iceq (kX12_corner_158 r) (s_ald 0 (s_gr 12 0 (s_push (.int (6)) (s_ai 1 (s_push (.int (3000)) (s_icne (kX12_corner_161 r) ((kX12_corner_158 r)))))))))))))
theorem vX12_corner_133 : pu_cok2 kX12_corner_133 := fun rf r hr => by
  unfold kX12_corner_133
  exact v_ald (v_gr (v_pi (v_ai (v_pi (v_iceq (vX12_corner_158 rf r hr) (v_ald (v_gr (v_pi (v_ai (v_pi (v_icne (vX12_corner_161 rf r hr) ((vX12_corner_158 rf r hr)))))))))))))
theorem tX12_corner_133 {X : pu_X} {r : pu_R} (hX : pu_H X mdX12_corner) (hr : pu_P X.2.1 X.2.2.2.2.2.2.2.2.2.2.1 r) (hq : ∀ i pc, pu_lp i = some (287, pc) → pu_S X mdX12_corner pc (r i)) : pu_S X mdX12_corner 133 (kX12_corner_133 r) := by
  unfold kX12_corner_133
  exact z_ald_n hX dX12_corner_133 rfl (z_gr (c := 12) (j := 0) hX dX12_corner_134 rfl inlX12 wm7_16 ⟨rfl, by decide, rfl⟩ (z_iconst hX dX12_corner_137 (by decide) (z_iald hX dX12_corner_138 (z_sipush hX dX12_corner_139 (by decide) (z_iceq hX dX12_corner_142 (by decide) (tX12_corner_158 hX hr hq) (z_ald_n hX dX12_corner_145 rfl (z_gr (c := 12) (j := 0) hX dX12_corner_146 rfl inlX12 wm7_16 ⟨rfl, by decide, rfl⟩ (z_bipush hX dX12_corner_149 (by decide) (z_iald hX dX12_corner_151 (z_sipush hX dX12_corner_152 (by decide) (z_icne hX dX12_corner_155 (by decide) (tX12_corner_161 hX hr hq) ((tX12_corner_158 hX hr hq)))))))))))))
def kX12_corner_119 (r : pu_R) : pu_K := s_ald 0 (s_ild 2 (s_ild 3 (s_ild 4 (s_cv r 282 3 12 (s_ifeq (kX12_corner_133 r) (s_push (.int (-5)) (s_iret)))))))
theorem vX12_corner_119 : pu_cok2 kX12_corner_119 := fun rf r hr => by
  unfold kX12_corner_119
  exact v_ald (v_ild (v_ild (v_ild (v_cv hr (v_ifeq (vX12_corner_133 rf r hr) (v_pi (v_iret)))))))
theorem tX12_corner_119 {X : pu_X} {r : pu_R} (hX : pu_H X mdX12_corner) (hr : pu_P X.2.1 X.2.2.2.2.2.2.2.2.2.2.1 r) (hq : ∀ i pc, pu_lp i = some (287, pc) → pu_S X mdX12_corner pc (r i)) : pu_S X mdX12_corner 119 (kX12_corner_119 r) := by
  unfold kX12_corner_119
  exact z_ald_n hX dX12_corner_119 rfl (z_ild_n hX dX12_corner_120 rfl (z_ild_n hX dX12_corner_121 rfl (z_ild hX dX12_corner_122 (z_cv (c := 12) hX hr dX12_corner_124 hjX12_isOccupied mwX12_isOccupied rfl wm31_21 ⟨wm31_22, wm31_23⟩ ⟨Nat.le_of_ble_eq_true rfl, Nat.le_of_ble_eq_true rfl⟩ (z_ifeq hX dX12_corner_127 (by decide) (tX12_corner_133 hX hr hq) (z_bipush hX dX12_corner_130 (by decide) (z_iret hX dX12_corner_132 rfl)))))))
def kX12_corner_98 (r : pu_R) : pu_K := s_ald 0 (s_ild 2 (s_ild 3 (s_ild 4 (s_ild 5 (s_cv r 281 4 12 (s_ist 7 (s_ild 7 (s_push (.int (-1)) (s_icne (kX12_corner_119 r) (s_push (.int (-4)) (s_iret)))))))))))
theorem vX12_corner_98 : pu_cok2 kX12_corner_98 := fun rf r hr => by
  unfold kX12_corner_98
  exact v_ald (v_ild (v_ild (v_ild (v_ild (v_cv hr (v_ist (v_ild (v_pi (v_icne (vX12_corner_119 rf r hr) (v_pi (v_iret)))))))))))
theorem tX12_corner_98 {X : pu_X} {r : pu_R} (hX : pu_H X mdX12_corner) (hr : pu_P X.2.1 X.2.2.2.2.2.2.2.2.2.2.1 r) (hq : ∀ i pc, pu_lp i = some (287, pc) → pu_S X mdX12_corner pc (r i)) : pu_S X mdX12_corner 98 (kX12_corner_98 r) := by
  unfold kX12_corner_98
  exact z_ald_n hX dX12_corner_98 rfl (z_ild_n hX dX12_corner_99 rfl (z_ild_n hX dX12_corner_100 rfl (z_ild hX dX12_corner_101 (z_ild hX dX12_corner_103 (z_cv (c := 12) hX hr dX12_corner_105 hjX12_least mwX12_least rfl wm29_5 ⟨wm29_6, wm29_7⟩ ⟨Nat.le_of_ble_eq_true rfl, Nat.le_of_ble_eq_true rfl⟩ (z_ist hX dX12_corner_108 (z_ild hX dX12_corner_110 (z_iconst hX dX12_corner_112 (by decide) (z_icne hX dX12_corner_113 (by decide) (tX12_corner_119 hX hr hq) (z_bipush hX dX12_corner_116 (by decide) (z_iret hX dX12_corner_118 rfl)))))))))))
def kX12_corner_95 (r : pu_R) : pu_K := s_push (.int (-3)) (s_iret)
theorem vX12_corner_95 : pu_cok2 kX12_corner_95 := fun rf r hr => by
  unfold kX12_corner_95
  exact v_pi (v_iret)
theorem tX12_corner_95 {X : pu_X} {r : pu_R} (hX : pu_H X mdX12_corner) (hr : pu_P X.2.1 X.2.2.2.2.2.2.2.2.2.2.1 r) (hq : ∀ i pc, pu_lp i = some (287, pc) → pu_S X mdX12_corner pc (r i)) : pu_S X mdX12_corner 95 (kX12_corner_95 r) := by
  unfold kX12_corner_95
  exact z_bipush hX dX12_corner_95 (by decide) (z_iret hX dX12_corner_97 rfl)
def kX12_corner_70 (r : pu_R) : pu_K := s_ald 0 (s_ild 2 (s_ild 6 (s_cv r 256 2 12 (s_ifne (kX12_corner_95 r) (s_ald 0 (s_ald 0 (s_ild 1 (s_push (.int (1)) (s_cv r 265 2 12 (s_ild 6 (s_cv r 256 2 12 (s_ifeq (kX12_corner_98 r) ((kX12_corner_95 r))))))))))))))
theorem vX12_corner_70 : pu_cok2 kX12_corner_70 := fun rf r hr => by
  unfold kX12_corner_70
  exact v_ald (v_ild (v_ild (v_cv hr (v_ifne (vX12_corner_95 rf r hr) (v_ald (v_ald (v_ild (v_pi (v_cv hr (v_ild (v_cv hr (v_ifeq (vX12_corner_98 rf r hr) ((vX12_corner_95 rf r hr))))))))))))))
theorem tX12_corner_70 {X : pu_X} {r : pu_R} (hX : pu_H X mdX12_corner) (hr : pu_P X.2.1 X.2.2.2.2.2.2.2.2.2.2.1 r) (hq : ∀ i pc, pu_lp i = some (287, pc) → pu_S X mdX12_corner pc (r i)) : pu_S X mdX12_corner 70 (kX12_corner_70 r) := by
  unfold kX12_corner_70
  exact z_ald_n hX dX12_corner_70 rfl (z_ild_n hX dX12_corner_71 rfl (z_ild hX dX12_corner_72 (z_cv (c := 12) hX hr dX12_corner_74 hjX12_isEarly mwX12_isEarly rfl wm28_17 ⟨wm28_18, wm28_19⟩ ⟨Nat.le_of_ble_eq_true rfl, Nat.le_of_ble_eq_true rfl⟩ (z_ifne hX dX12_corner_77 (by decide) (tX12_corner_95 hX hr hq) (z_ald_n hX dX12_corner_80 rfl (z_ald_n hX dX12_corner_81 rfl (z_ild_n hX dX12_corner_82 rfl (z_iconst hX dX12_corner_83 (by decide) (z_cv (c := 12) hX hr dX12_corner_84 hjX12_of mwX12_of rfl wm30_3 ⟨wm30_4, wm30_5⟩ ⟨Nat.le_of_ble_eq_true rfl, Nat.le_of_ble_eq_true rfl⟩ (z_ild hX dX12_corner_87 (z_cv (c := 12) hX hr dX12_corner_89 hjX12_isEarly mwX12_isEarly rfl wm28_17 ⟨wm28_18, wm28_19⟩ ⟨Nat.le_of_ble_eq_true rfl, Nat.le_of_ble_eq_true rfl⟩ (z_ifeq hX dX12_corner_92 (by decide) (tX12_corner_98 hX hr hq) ((tX12_corner_95 hX hr hq))))))))))))))
def kX12_corner_67 (r : pu_R) : pu_K := s_push (.int (-2)) (s_iret)
theorem vX12_corner_67 : pu_cok2 kX12_corner_67 := fun rf r hr => by
  unfold kX12_corner_67
  exact v_pi (v_iret)
theorem tX12_corner_67 {X : pu_X} {r : pu_R} (hX : pu_H X mdX12_corner) (hr : pu_P X.2.1 X.2.2.2.2.2.2.2.2.2.2.1 r) (hq : ∀ i pc, pu_lp i = some (287, pc) → pu_S X mdX12_corner pc (r i)) : pu_S X mdX12_corner 67 (kX12_corner_67 r) := by
  unfold kX12_corner_67
  exact z_bipush hX dX12_corner_67 (by decide) (z_iret hX dX12_corner_69 rfl)
def kX12_corner_59 (r : pu_R) : pu_K := s_ild 6 (s_cs r 234 1 (s_ifne (kX12_corner_70 r) ((kX12_corner_67 r))))
theorem vX12_corner_59 : pu_cok2 kX12_corner_59 := fun rf r hr => by
  unfold kX12_corner_59
  exact v_ild (v_cs hr (v_ifne (vX12_corner_70 rf r hr) ((vX12_corner_67 rf r hr))))
theorem tX12_corner_59 {X : pu_X} {r : pu_R} (hX : pu_H X mdX12_corner) (hr : pu_P X.2.1 X.2.2.2.2.2.2.2.2.2.2.1 r) (hq : ∀ i pc, pu_lp i = some (287, pc) → pu_S X mdX12_corner pc (r i)) : pu_S X mdX12_corner 59 (kX12_corner_59 r) := by
  unfold kX12_corner_59
  exact z_ild hX dX12_corner_59 (z_cs hX hr dX12_corner_61 hjX12_isDay mwX12_isDay wm11_5 wm11_6 ⟨Nat.le_of_ble_eq_true rfl, Nat.le_of_ble_eq_true rfl⟩ (z_ifne hX dX12_corner_64 (by decide) (tX12_corner_70 hX hr hq) ((tX12_corner_67 hX hr hq))))
def kX12_corner_27 (r : pu_R) : pu_K := s_ald 0 (s_ild 1 (s_push (.int (1)) (s_cv r 265 2 12 (s_ild 2 (s_iceq (kX12_corner_67 r) (s_ild 3 (s_ild 4 (s_cs r 283 2 (s_ifeq (kX12_corner_67 r) (s_ild 5 (s_ifeq (kX12_corner_59 r) (s_ild 5 (s_cs r 263 1 (s_ifeq (kX12_corner_67 r) ((kX12_corner_59 r))))))))))))))))
theorem vX12_corner_27 : pu_cok2 kX12_corner_27 := fun rf r hr => by
  unfold kX12_corner_27
  exact v_ald (v_ild (v_pi (v_cv hr (v_ild (v_iceq (vX12_corner_67 rf r hr) (v_ild (v_ild (v_cs hr (v_ifeq (vX12_corner_67 rf r hr) (v_ild (v_ifeq (vX12_corner_59 rf r hr) (v_ild (v_cs hr (v_ifeq (vX12_corner_67 rf r hr) ((vX12_corner_59 rf r hr))))))))))))))))
theorem tX12_corner_27 {X : pu_X} {r : pu_R} (hX : pu_H X mdX12_corner) (hr : pu_P X.2.1 X.2.2.2.2.2.2.2.2.2.2.1 r) (hq : ∀ i pc, pu_lp i = some (287, pc) → pu_S X mdX12_corner pc (r i)) : pu_S X mdX12_corner 27 (kX12_corner_27 r) := by
  unfold kX12_corner_27
  exact z_ald_n hX dX12_corner_27 rfl (z_ild_n hX dX12_corner_28 rfl (z_iconst hX dX12_corner_29 (by decide) (z_cv (c := 12) hX hr dX12_corner_30 hjX12_of mwX12_of rfl wm30_3 ⟨wm30_4, wm30_5⟩ ⟨Nat.le_of_ble_eq_true rfl, Nat.le_of_ble_eq_true rfl⟩ (z_ild_n hX dX12_corner_33 rfl (z_iceq hX dX12_corner_34 (by decide) (tX12_corner_67 hX hr hq) (z_ild_n hX dX12_corner_37 rfl (z_ild hX dX12_corner_38 (z_cs hX hr dX12_corner_40 hjX12_isPlace mwX12_isPlace wm28_10 wm28_11 ⟨Nat.le_of_ble_eq_true rfl, Nat.le_of_ble_eq_true rfl⟩ (z_ifeq hX dX12_corner_43 (by decide) (tX12_corner_67 hX hr hq) (z_ild hX dX12_corner_46 (z_ifeq hX dX12_corner_48 (by decide) (tX12_corner_59 hX hr hq) (z_ild hX dX12_corner_51 (z_cs hX hr dX12_corner_53 hjX12_isWhole mwX12_isWhole wm28_13 wm28_14 ⟨Nat.le_of_ble_eq_true rfl, Nat.le_of_ble_eq_true rfl⟩ (z_ifeq hX dX12_corner_56 (by decide) (tX12_corner_67 hX hr hq) ((tX12_corner_59 hX hr hq))))))))))))))))
def kX12_corner_25 (r : pu_R) : pu_K := s_push (.int (-1)) (s_iret)
theorem vX12_corner_25 : pu_cok2 kX12_corner_25 := fun rf r hr => by
  unfold kX12_corner_25
  exact v_pi (v_iret)
theorem tX12_corner_25 {X : pu_X} {r : pu_R} (hX : pu_H X mdX12_corner) (hr : pu_P X.2.1 X.2.2.2.2.2.2.2.2.2.2.1 r) (hq : ∀ i pc, pu_lp i = some (287, pc) → pu_S X mdX12_corner pc (r i)) : pu_S X mdX12_corner 25 (kX12_corner_25 r) := by
  unfold kX12_corner_25
  exact z_iconst hX dX12_corner_25 (by decide) (z_iret hX dX12_corner_26 rfl)
def kX12_corner_0 (r : pu_R) : pu_K := s_ald 0 (s_ild 2 (s_cv r 251 1 12 (s_ifeq (kX12_corner_25 r) (s_ald 0 (s_ild 1 (s_cv r 266 1 12 (s_ifeq (kX12_corner_25 r) (s_ald 0 (s_ild 1 (s_push (.int (0)) (s_cv r 265 2 12 (s_ifeq (kX12_corner_27 r) ((kX12_corner_25 r))))))))))))))
theorem vX12_corner_0 : pu_cok2 kX12_corner_0 := fun rf r hr => by
  unfold kX12_corner_0
  exact v_ald (v_ild (v_cv hr (v_ifeq (vX12_corner_25 rf r hr) (v_ald (v_ild (v_cv hr (v_ifeq (vX12_corner_25 rf r hr) (v_ald (v_ild (v_pi (v_cv hr (v_ifeq (vX12_corner_27 rf r hr) ((vX12_corner_25 rf r hr))))))))))))))
theorem tX12_corner_0 {X : pu_X} {r : pu_R} (hX : pu_H X mdX12_corner) (hr : pu_P X.2.1 X.2.2.2.2.2.2.2.2.2.2.1 r) (hq : ∀ i pc, pu_lp i = some (287, pc) → pu_S X mdX12_corner pc (r i)) : pu_S X mdX12_corner 0 (kX12_corner_0 r) := by
  unfold kX12_corner_0
  exact z_ald_n hX dX12_corner_0 rfl (z_ild_n hX dX12_corner_1 rfl (z_cv (c := 12) hX hr dX12_corner_2 hjX12_isStreet mwX12_isStreet rfl wm28_6 ⟨wm28_7, wm28_8⟩ ⟨Nat.le_of_ble_eq_true rfl, Nat.le_of_ble_eq_true rfl⟩ (z_ifeq hX dX12_corner_5 (by decide) (tX12_corner_25 hX hr hq) (z_ald_n hX dX12_corner_8 rfl (z_ild_n hX dX12_corner_9 rfl (z_cv (c := 12) hX hr dX12_corner_10 hjX12_isOpen mwX12_isOpen rfl wm29_19 ⟨wm29_20, wm29_21⟩ ⟨Nat.le_of_ble_eq_true rfl, Nat.le_of_ble_eq_true rfl⟩ (z_ifeq hX dX12_corner_13 (by decide) (tX12_corner_25 hX hr hq) (z_ald_n hX dX12_corner_16 rfl (z_ild_n hX dX12_corner_17 rfl (z_iconst hX dX12_corner_18 (by decide) (z_cv (c := 12) hX hr dX12_corner_19 hjX12_of mwX12_of rfl wm30_3 ⟨wm30_4, wm30_5⟩ ⟨Nat.le_of_ble_eq_true rfl, Nat.le_of_ble_eq_true rfl⟩ (z_ifeq hX dX12_corner_22 (by decide) (tX12_corner_27 hX hr hq) ((tX12_corner_25 hX hr hq))))))))))))))
def kX12_underneath_67 (r : pu_R) : pu_K := s_push (.int (-1)) (s_iret)
theorem vX12_underneath_67 : pu_cok2 kX12_underneath_67 := fun rf r hr => by
  unfold kX12_underneath_67
  exact v_pi (v_iret)
theorem tX12_underneath_67 {X : pu_X} {r : pu_R} (hX : pu_H X mdX12_underneath) (hr : pu_P X.2.1 X.2.2.2.2.2.2.2.2.2.2.1 r) (hq : ∀ i pc, pu_lp i = some (288, pc) → pu_S X mdX12_underneath pc (r i)) : pu_S X mdX12_underneath 67 (kX12_underneath_67 r) := by
  unfold kX12_underneath_67
  exact z_iconst hX dX12_underneath_67 (by decide) (z_iret hX dX12_underneath_68 rfl)
def kX12_underneath_61 (r : pu_R) : pu_K := s_inc 4 (1) ((r 466))
theorem vX12_underneath_61 : pu_cok2 kX12_underneath_61 := fun rf r hr => by
  unfold kX12_underneath_61
  exact v_inc ((hr 466))
theorem tX12_underneath_61 {X : pu_X} {r : pu_R} (hX : pu_H X mdX12_underneath) (hr : pu_P X.2.1 X.2.2.2.2.2.2.2.2.2.2.1 r) (hq : ∀ i pc, pu_lp i = some (288, pc) → pu_S X mdX12_underneath pc (r i)) : pu_S X mdX12_underneath 61 (kX12_underneath_61 r) := by
  unfold kX12_underneath_61
  exact z_inc hX dX12_underneath_61 (by decide) ((z_goto hX dX12_underneath_64 (by decide) (hq 466 3 hl466)))
def kX12_underneath_49 (r : pu_R) : pu_K := s_push (.int (7)) (s_cv r 265 2 12 (s_ild 3 (s_icne (kX12_underneath_61 r) (s_ild 4 (s_iret)))))
theorem vX12_underneath_49 : pu_cok2 kX12_underneath_49 := fun rf r hr => by
  unfold kX12_underneath_49
  exact v_pi (v_cv hr (v_ild (v_icne (vX12_underneath_61 rf r hr) (v_ild (v_iret)))))
theorem tX12_underneath_49 {X : pu_X} {r : pu_R} (hX : pu_H X mdX12_underneath) (hr : pu_P X.2.1 X.2.2.2.2.2.2.2.2.2.2.1 r) (hq : ∀ i pc, pu_lp i = some (288, pc) → pu_S X mdX12_underneath pc (r i)) : pu_S X mdX12_underneath 49 (kX12_underneath_49 r) := by
  unfold kX12_underneath_49
  exact z_bipush hX dX12_underneath_49 (by decide) (z_cv (c := 12) hX hr dX12_underneath_51 hjX12_of mwX12_of rfl wm30_3 ⟨wm30_4, wm30_5⟩ ⟨Nat.le_of_ble_eq_true rfl, Nat.le_of_ble_eq_true rfl⟩ (z_ild_n hX dX12_underneath_54 rfl (z_icne hX dX12_underneath_55 (by decide) (tX12_underneath_61 hX hr hq) (z_ild hX dX12_underneath_58 (z_iret hX dX12_underneath_60 rfl)))))
def kX12_underneath_3 (r : pu_R) : pu_K := s_ild 4 (s_ald 0 (s_gr 12 0 (s_push (.int (4)) (s_ai 1 (s_icge (kX12_underneath_67 r) (s_ald 0 (s_ild 4 (s_cv r 266 1 12 (s_ifeq (kX12_underneath_61 r) (s_ald 0 (s_ild 4 (s_push (.int (8)) (s_cv r 265 2 12 (s_ild 1 (s_icne (kX12_underneath_61 r) (s_ald 0 (s_ild 4 (s_push (.int (0)) (s_cv r 265 2 12 (s_ild 2 (s_icne (kX12_underneath_61 r) (s_ald 0 (s_ild 4 ((kX12_underneath_49 r)))))))))))))))))))))))))
theorem vX12_underneath_3 : pu_cok2 kX12_underneath_3 := fun rf r hr => by
  unfold kX12_underneath_3
  exact v_ild (v_ald (v_gr (v_pi (v_ai (v_icge (vX12_underneath_67 rf r hr) (v_ald (v_ild (v_cv hr (v_ifeq (vX12_underneath_61 rf r hr) (v_ald (v_ild (v_pi (v_cv hr (v_ild (v_icne (vX12_underneath_61 rf r hr) (v_ald (v_ild (v_pi (v_cv hr (v_ild (v_icne (vX12_underneath_61 rf r hr) (v_ald (v_ild ((vX12_underneath_49 rf r hr)))))))))))))))))))))))))
theorem tX12_underneath_3 {X : pu_X} {r : pu_R} (hX : pu_H X mdX12_underneath) (hr : pu_P X.2.1 X.2.2.2.2.2.2.2.2.2.2.1 r) (hq : ∀ i pc, pu_lp i = some (288, pc) → pu_S X mdX12_underneath pc (r i)) : pu_S X mdX12_underneath 3 (kX12_underneath_3 r) := by
  unfold kX12_underneath_3
  exact z_ild hX dX12_underneath_3 (z_ald_n hX dX12_underneath_5 rfl (z_gr (c := 12) (j := 0) hX dX12_underneath_6 rfl inlX12 wm7_16 ⟨rfl, by decide, rfl⟩ (z_iconst hX dX12_underneath_9 (by decide) (z_iald hX dX12_underneath_10 (z_icge hX dX12_underneath_11 (by decide) (tX12_underneath_67 hX hr hq) (z_ald_n hX dX12_underneath_14 rfl (z_ild hX dX12_underneath_15 (z_cv (c := 12) hX hr dX12_underneath_17 hjX12_isOpen mwX12_isOpen rfl wm29_19 ⟨wm29_20, wm29_21⟩ ⟨Nat.le_of_ble_eq_true rfl, Nat.le_of_ble_eq_true rfl⟩ (z_ifeq hX dX12_underneath_20 (by decide) (tX12_underneath_61 hX hr hq) (z_ald_n hX dX12_underneath_23 rfl (z_ild hX dX12_underneath_24 (z_bipush hX dX12_underneath_26 (by decide) (z_cv (c := 12) hX hr dX12_underneath_28 hjX12_of mwX12_of rfl wm30_3 ⟨wm30_4, wm30_5⟩ ⟨Nat.le_of_ble_eq_true rfl, Nat.le_of_ble_eq_true rfl⟩ (z_ild_n hX dX12_underneath_31 rfl (z_icne hX dX12_underneath_32 (by decide) (tX12_underneath_61 hX hr hq) (z_ald_n hX dX12_underneath_35 rfl (z_ild hX dX12_underneath_36 (z_iconst hX dX12_underneath_38 (by decide) (z_cv (c := 12) hX hr dX12_underneath_39 hjX12_of mwX12_of rfl wm30_3 ⟨wm30_4, wm30_5⟩ ⟨Nat.le_of_ble_eq_true rfl, Nat.le_of_ble_eq_true rfl⟩ (z_ild_n hX dX12_underneath_42 rfl (z_icne hX dX12_underneath_43 (by decide) (tX12_underneath_61 hX hr hq) (z_ald_n hX dX12_underneath_46 rfl (z_ild hX dX12_underneath_47 ((tX12_underneath_49 hX hr hq)))))))))))))))))))))))))
def kX12_underneath_0 (r : pu_R) : pu_K := s_push (.int (0)) (s_ist 4 ((r 466)))
theorem vX12_underneath_0 : pu_cok2 kX12_underneath_0 := fun rf r hr => by
  unfold kX12_underneath_0
  exact v_pi (v_ist ((hr 466)))
theorem tX12_underneath_0 {X : pu_X} {r : pu_R} (hX : pu_H X mdX12_underneath) (hr : pu_P X.2.1 X.2.2.2.2.2.2.2.2.2.2.1 r) (hq : ∀ i pc, pu_lp i = some (288, pc) → pu_S X mdX12_underneath pc (r i)) : pu_S X mdX12_underneath 0 (kX12_underneath_0 r) := by
  unfold kX12_underneath_0
  exact z_iconst hX dX12_underneath_0 (by decide) (z_ist hX dX12_underneath_1 ((hq 466 3 hl466)))
def kX12_isEarlyAt_42 (r : pu_R) : pu_K := s_zret
theorem vX12_isEarlyAt_42 : pu_cok2 kX12_isEarlyAt_42 := fun rf r hr => by
  unfold kX12_isEarlyAt_42
  exact v_zret
theorem tX12_isEarlyAt_42 {X : pu_X} {r : pu_R} (hX : pu_H X mdX12_isEarlyAt) (hr : pu_P X.2.1 X.2.2.2.2.2.2.2.2.2.2.1 r) (hq : ∀ i pc, pu_lp i = some (289, pc) → pu_S X mdX12_isEarlyAt pc (r i)) : pu_S X mdX12_isEarlyAt 42 (kX12_isEarlyAt_42 r) := by
  unfold kX12_isEarlyAt_42
  exact z_zret hX dX12_isEarlyAt_42 rfl
def kX12_isEarlyAt_41 (r : pu_R) : pu_K := s_push (.int (0)) ((kX12_isEarlyAt_42 r))
theorem vX12_isEarlyAt_41 : pu_cok2 kX12_isEarlyAt_41 := fun rf r hr => by
  unfold kX12_isEarlyAt_41
  exact v_pi ((vX12_isEarlyAt_42 rf r hr))
theorem tX12_isEarlyAt_41 {X : pu_X} {r : pu_R} (hX : pu_H X mdX12_isEarlyAt) (hr : pu_P X.2.1 X.2.2.2.2.2.2.2.2.2.2.1 r) (hq : ∀ i pc, pu_lp i = some (289, pc) → pu_S X mdX12_isEarlyAt pc (r i)) : pu_S X mdX12_isEarlyAt 41 (kX12_isEarlyAt_41 r) := by
  unfold kX12_isEarlyAt_41
  exact z_iconst hX dX12_isEarlyAt_41 (by decide) ((tX12_isEarlyAt_42 hX hr hq))
def kX12_isEarlyAt_37 (r : pu_R) : pu_K := s_push (.int (1)) ((kX12_isEarlyAt_42 r))
theorem vX12_isEarlyAt_37 : pu_cok2 kX12_isEarlyAt_37 := fun rf r hr => by
  unfold kX12_isEarlyAt_37
  exact v_pi ((vX12_isEarlyAt_42 rf r hr))
theorem tX12_isEarlyAt_37 {X : pu_X} {r : pu_R} (hX : pu_H X mdX12_isEarlyAt) (hr : pu_P X.2.1 X.2.2.2.2.2.2.2.2.2.2.1 r) (hq : ∀ i pc, pu_lp i = some (289, pc) → pu_S X mdX12_isEarlyAt pc (r i)) : pu_S X mdX12_isEarlyAt 37 (kX12_isEarlyAt_37 r) := by
  unfold kX12_isEarlyAt_37
  exact z_iconst hX dX12_isEarlyAt_37 (by decide) ((z_goto hX dX12_isEarlyAt_38 (by decide) (tX12_isEarlyAt_42 hX hr hq)))
def kX12_isEarlyAt_0 (r : pu_R) : pu_K := s_ald 0 (s_ald 0 (s_ild 1 (s_push (.int (1)) (s_cv r 265 2 12 (s_ild 2 (s_cv r 256 2 12 (s_ifne (kX12_isEarlyAt_37 r) (s_ald 0 (s_ild 1 (s_push (.int (1)) (s_cv r 267 2 12 (s_ifeq (kX12_isEarlyAt_41 r) (s_ald 0 (s_ald 0 (s_ild 1 (s_push (.int (4)) (s_cv r 265 2 12 (s_ild 2 (s_cv r 256 2 12 (s_ifeq (kX12_isEarlyAt_41 r) ((kX12_isEarlyAt_37 r))))))))))))))))))))))
theorem vX12_isEarlyAt_0 : pu_cok2 kX12_isEarlyAt_0 := fun rf r hr => by
  unfold kX12_isEarlyAt_0
  exact v_ald (v_ald (v_ild (v_pi (v_cv hr (v_ild (v_cv hr (v_ifne (vX12_isEarlyAt_37 rf r hr) (v_ald (v_ild (v_pi (v_cv hr (v_ifeq (vX12_isEarlyAt_41 rf r hr) (v_ald (v_ald (v_ild (v_pi (v_cv hr (v_ild (v_cv hr (v_ifeq (vX12_isEarlyAt_41 rf r hr) ((vX12_isEarlyAt_37 rf r hr))))))))))))))))))))))
theorem tX12_isEarlyAt_0 {X : pu_X} {r : pu_R} (hX : pu_H X mdX12_isEarlyAt) (hr : pu_P X.2.1 X.2.2.2.2.2.2.2.2.2.2.1 r) (hq : ∀ i pc, pu_lp i = some (289, pc) → pu_S X mdX12_isEarlyAt pc (r i)) : pu_S X mdX12_isEarlyAt 0 (kX12_isEarlyAt_0 r) := by
  unfold kX12_isEarlyAt_0
  exact z_ald_n hX dX12_isEarlyAt_0 rfl (z_ald_n hX dX12_isEarlyAt_1 rfl (z_ild_n hX dX12_isEarlyAt_2 rfl (z_iconst hX dX12_isEarlyAt_3 (by decide) (z_cv (c := 12) hX hr dX12_isEarlyAt_4 hjX12_of mwX12_of rfl wm30_3 ⟨wm30_4, wm30_5⟩ ⟨Nat.le_of_ble_eq_true rfl, Nat.le_of_ble_eq_true rfl⟩ (z_ild_n hX dX12_isEarlyAt_7 rfl (z_cv (c := 12) hX hr dX12_isEarlyAt_8 hjX12_isEarly mwX12_isEarly rfl wm28_17 ⟨wm28_18, wm28_19⟩ ⟨Nat.le_of_ble_eq_true rfl, Nat.le_of_ble_eq_true rfl⟩ (z_ifne hX dX12_isEarlyAt_11 (by decide) (tX12_isEarlyAt_37 hX hr hq) (z_ald_n hX dX12_isEarlyAt_14 rfl (z_ild_n hX dX12_isEarlyAt_15 rfl (z_iconst hX dX12_isEarlyAt_16 (by decide) (z_cv (c := 12) hX hr dX12_isEarlyAt_17 hjX12_hasPlace mwX12_hasPlace rfl wm30_7 ⟨wm30_8, wm30_9⟩ ⟨Nat.le_of_ble_eq_true rfl, Nat.le_of_ble_eq_true rfl⟩ (z_ifeq hX dX12_isEarlyAt_20 (by decide) (tX12_isEarlyAt_41 hX hr hq) (z_ald_n hX dX12_isEarlyAt_23 rfl (z_ald_n hX dX12_isEarlyAt_24 rfl (z_ild_n hX dX12_isEarlyAt_25 rfl (z_iconst hX dX12_isEarlyAt_26 (by decide) (z_cv (c := 12) hX hr dX12_isEarlyAt_27 hjX12_of mwX12_of rfl wm30_3 ⟨wm30_4, wm30_5⟩ ⟨Nat.le_of_ble_eq_true rfl, Nat.le_of_ble_eq_true rfl⟩ (z_ild_n hX dX12_isEarlyAt_30 rfl (z_cv (c := 12) hX hr dX12_isEarlyAt_31 hjX12_isEarly mwX12_isEarly rfl wm28_17 ⟨wm28_18, wm28_19⟩ ⟨Nat.le_of_ble_eq_true rfl, Nat.le_of_ble_eq_true rfl⟩ (z_ifeq hX dX12_isEarlyAt_34 (by decide) (tX12_isEarlyAt_41 hX hr hq) ((tX12_isEarlyAt_37 hX hr hq))))))))))))))))))))))
def kX12_paperOn_27 (r : pu_R) : pu_K := s_push (.int (-1)) (s_push (.int (-1)) (s_cv r 257 5 12 (s_iret)))
theorem vX12_paperOn_27 : pu_cok2 kX12_paperOn_27 := fun rf r hr => by
  unfold kX12_paperOn_27
  exact v_pi (v_pi (v_cv hr (v_iret)))
theorem tX12_paperOn_27 {X : pu_X} {r : pu_R} (hX : pu_H X mdX12_paperOn) (hr : pu_P X.2.1 X.2.2.2.2.2.2.2.2.2.2.1 r) (hq : ∀ i pc, pu_lp i = some (290, pc) → pu_S X mdX12_paperOn pc (r i)) : pu_S X mdX12_paperOn 27 (kX12_paperOn_27 r) := by
  unfold kX12_paperOn_27
  exact z_iconst hX dX12_paperOn_27 (by decide) (z_iconst hX dX12_paperOn_28 (by decide) (z_cv (c := 12) hX hr dX12_paperOn_29 hjX12_paper mwX12_paper rfl wm21_8 ⟨wm21_9, wm21_10⟩ ⟨Nat.le_of_ble_eq_true rfl, Nat.le_of_ble_eq_true rfl⟩ (z_iret hX dX12_paperOn_32 rfl)))
def kX12_paperOn_26 (r : pu_R) : pu_K := s_push (.int (-1)) ((kX12_paperOn_27 r))
theorem vX12_paperOn_26 : pu_cok2 kX12_paperOn_26 := fun rf r hr => by
  unfold kX12_paperOn_26
  exact v_pi ((vX12_paperOn_27 rf r hr))
theorem tX12_paperOn_26 {X : pu_X} {r : pu_R} (hX : pu_H X mdX12_paperOn) (hr : pu_P X.2.1 X.2.2.2.2.2.2.2.2.2.2.1 r) (hq : ∀ i pc, pu_lp i = some (290, pc) → pu_S X mdX12_paperOn pc (r i)) : pu_S X mdX12_paperOn 26 (kX12_paperOn_26 r) := by
  unfold kX12_paperOn_26
  exact z_iconst hX dX12_paperOn_26 (by decide) ((tX12_paperOn_27 hX hr hq))
def kX12_paperOn_0 (r : pu_R) : pu_K := s_ald 0 (s_ild 2 (s_ald 0 (s_ild 1 (s_push (.int (1)) (s_cv r 265 2 12 (s_ald 0 (s_ild 1 (s_push (.int (1)) (s_cv r 267 2 12 (s_ifeq (kX12_paperOn_26 r) (s_ald 0 (s_ild 1 (s_push (.int (4)) (s_cv r 265 2 12 ((kX12_paperOn_27 r))))))))))))))))
theorem vX12_paperOn_0 : pu_cok2 kX12_paperOn_0 := fun rf r hr => by
  unfold kX12_paperOn_0
  exact v_ald (v_ild (v_ald (v_ild (v_pi (v_cv hr (v_ald (v_ild (v_pi (v_cv hr (v_ifeq (vX12_paperOn_26 rf r hr) (v_ald (v_ild (v_pi (v_cv hr ((vX12_paperOn_27 rf r hr))))))))))))))))
theorem tX12_paperOn_0 {X : pu_X} {r : pu_R} (hX : pu_H X mdX12_paperOn) (hr : pu_P X.2.1 X.2.2.2.2.2.2.2.2.2.2.1 r) (hq : ∀ i pc, pu_lp i = some (290, pc) → pu_S X mdX12_paperOn pc (r i)) : pu_S X mdX12_paperOn 0 (kX12_paperOn_0 r) := by
  unfold kX12_paperOn_0
  exact z_ald_n hX dX12_paperOn_0 rfl (z_ild_n hX dX12_paperOn_1 rfl (z_ald_n hX dX12_paperOn_2 rfl (z_ild_n hX dX12_paperOn_3 rfl (z_iconst hX dX12_paperOn_4 (by decide) (z_cv (c := 12) hX hr dX12_paperOn_5 hjX12_of mwX12_of rfl wm30_3 ⟨wm30_4, wm30_5⟩ ⟨Nat.le_of_ble_eq_true rfl, Nat.le_of_ble_eq_true rfl⟩ (z_ald_n hX dX12_paperOn_8 rfl (z_ild_n hX dX12_paperOn_9 rfl (z_iconst hX dX12_paperOn_10 (by decide) (z_cv (c := 12) hX hr dX12_paperOn_11 hjX12_hasPlace mwX12_hasPlace rfl wm30_7 ⟨wm30_8, wm30_9⟩ ⟨Nat.le_of_ble_eq_true rfl, Nat.le_of_ble_eq_true rfl⟩ (z_ifeq hX dX12_paperOn_14 (by decide) (tX12_paperOn_26 hX hr hq) (z_ald_n hX dX12_paperOn_17 rfl (z_ild_n hX dX12_paperOn_18 rfl (z_iconst hX dX12_paperOn_19 (by decide) (z_cv (c := 12) hX hr dX12_paperOn_20 hjX12_of mwX12_of rfl wm30_3 ⟨wm30_4, wm30_5⟩ ⟨Nat.le_of_ble_eq_true rfl, Nat.le_of_ble_eq_true rfl⟩ ((z_goto hX dX12_paperOn_23 (by decide) (tX12_paperOn_27 hX hr hq)))))))))))))))))
