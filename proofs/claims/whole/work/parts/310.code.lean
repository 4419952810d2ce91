def kX12_latest_130 (r : pu_R) : pu_K := s_ild 3 (s_iret)
theorem vX12_latest_130 : pu_cok2 kX12_latest_130 := fun rf r hr => by
  unfold kX12_latest_130
  exact v_ild (v_iret)
theorem tX12_latest_130 {X : pu_X} {r : pu_R} (hX : pu_H X mdX12_latest) (hr : pu_P X.2.1 X.2.2.2.2.2.2.2.2.2.2.1 r) (hq : ∀ i pc, pu_lp i = some (255, pc) → pu_S X mdX12_latest pc (r i)) : pu_S X mdX12_latest 130 (kX12_latest_130 r) := by
  unfold kX12_latest_130
  exact z_ild_n hX dX12_latest_130 rfl (z_iret hX dX12_latest_131 rfl)
def kX12_latest_124 (r : pu_R) : pu_K := s_inc 4 (1) ((r 451))
theorem vX12_latest_124 : pu_cok2 kX12_latest_124 := fun rf r hr => by
  unfold kX12_latest_124
  exact v_inc ((hr 451))
theorem tX12_latest_124 {X : pu_X} {r : pu_R} (hX : pu_H X mdX12_latest) (hr : pu_P X.2.1 X.2.2.2.2.2.2.2.2.2.2.1 r) (hq : ∀ i pc, pu_lp i = some (255, pc) → pu_S X mdX12_latest pc (r i)) : pu_S X mdX12_latest 124 (kX12_latest_124 r) := by
  unfold kX12_latest_124
  exact z_inc hX dX12_latest_124 (by decide) ((z_goto hX dX12_latest_127 (by decide) (hq 451 5 hl451)))
def kX12_latest_94 (r : pu_R) : pu_K := s_ist 6 (s_ild 6 (s_ifeq (kX12_latest_124 r) (s_ald 0 (s_gr 12 0 (s_ild 5 (s_push (.int (1)) (s_iadd (s_ai 1 (s_ild 3 (s_icle (kX12_latest_124 r) (s_ald 0 (s_gr 12 0 (s_ild 5 (s_push (.int (1)) (s_iadd (s_ai 1 (s_ist 3 ((kX12_latest_124 r)))))))))))))))))))
theorem vX12_latest_94 : pu_cok2 kX12_latest_94 := fun rf r hr => by
  unfold kX12_latest_94
  exact v_ist (v_ild (v_ifeq (vX12_latest_124 rf r hr) (v_ald (v_gr (v_ild (v_pi (v_iadd (v_ai (v_ild (v_icle (vX12_latest_124 rf r hr) (v_ald (v_gr (v_ild (v_pi (v_iadd (v_ai (v_ist ((vX12_latest_124 rf r hr)))))))))))))))))))
theorem tX12_latest_94 {X : pu_X} {r : pu_R} (hX : pu_H X mdX12_latest) (hr : pu_P X.2.1 X.2.2.2.2.2.2.2.2.2.2.1 r) (hq : ∀ i pc, pu_lp i = some (255, pc) → pu_S X mdX12_latest pc (r i)) : pu_S X mdX12_latest 94 (kX12_latest_94 r) := by
  unfold kX12_latest_94
  exact z_ist hX dX12_latest_94 (z_ild hX dX12_latest_96 (z_ifeq hX dX12_latest_98 (by decide) (tX12_latest_124 hX hr hq) (z_ald_n hX dX12_latest_101 rfl (z_gr (c := 12) (j := 0) hX dX12_latest_102 rfl inlX12 wm7_16 ⟨rfl, by decide, rfl⟩ (z_ild hX dX12_latest_105 (z_iconst hX dX12_latest_107 (by decide) (z_iadd hX dX12_latest_108 (z_iald hX dX12_latest_109 (z_ild_n hX dX12_latest_110 rfl (z_icle hX dX12_latest_111 (by decide) (tX12_latest_124 hX hr hq) (z_ald_n hX dX12_latest_114 rfl (z_gr (c := 12) (j := 0) hX dX12_latest_115 rfl inlX12 wm7_16 ⟨rfl, by decide, rfl⟩ (z_ild hX dX12_latest_118 (z_iconst hX dX12_latest_120 (by decide) (z_iadd hX dX12_latest_121 (z_iald hX dX12_latest_122 (z_ist_n hX dX12_latest_123 rfl ((tX12_latest_124 hX hr hq)))))))))))))))))))
def kX12_latest_93 (r : pu_R) : pu_K := s_push (.int (0)) ((kX12_latest_94 r))
theorem vX12_latest_93 : pu_cok2 kX12_latest_93 := fun rf r hr => by
  unfold kX12_latest_93
  exact v_pi ((vX12_latest_94 rf r hr))
theorem tX12_latest_93 {X : pu_X} {r : pu_R} (hX : pu_H X mdX12_latest) (hr : pu_P X.2.1 X.2.2.2.2.2.2.2.2.2.2.1 r) (hq : ∀ i pc, pu_lp i = some (255, pc) → pu_S X mdX12_latest pc (r i)) : pu_S X mdX12_latest 93 (kX12_latest_93 r) := by
  unfold kX12_latest_93
  exact z_iconst hX dX12_latest_93 (by decide) ((tX12_latest_94 hX hr hq))
def kX12_latest_89 (r : pu_R) : pu_K := s_push (.int (1)) ((kX12_latest_94 r))
theorem vX12_latest_89 : pu_cok2 kX12_latest_89 := fun rf r hr => by
  unfold kX12_latest_89
  exact v_pi ((vX12_latest_94 rf r hr))
theorem tX12_latest_89 {X : pu_X} {r : pu_R} (hX : pu_H X mdX12_latest) (hr : pu_P X.2.1 X.2.2.2.2.2.2.2.2.2.2.1 r) (hq : ∀ i pc, pu_lp i = some (255, pc) → pu_S X mdX12_latest pc (r i)) : pu_S X mdX12_latest 89 (kX12_latest_89 r) := by
  unfold kX12_latest_89
  exact z_iconst hX dX12_latest_89 (by decide) ((z_goto hX dX12_latest_90 (by decide) (tX12_latest_94 hX hr hq)))
def kX12_latest_58 (r : pu_R) : pu_K := s_ild 2 (s_push (.int (-1)) (s_iceq (kX12_latest_93 r) (s_ald 0 (s_gr 12 0 (s_ild 5 (s_push (.int (4)) (s_iadd (s_ai 1 (s_ild 2 (s_iceq (kX12_latest_89 r) (s_ald 0 (s_gr 12 0 (s_ild 5 (s_push (.int (5)) (s_iadd (s_ai 1 (s_ild 2 (s_icne (kX12_latest_93 r) ((kX12_latest_89 r))))))))))))))))))))
theorem vX12_latest_58 : pu_cok2 kX12_latest_58 := fun rf r hr => by
  unfold kX12_latest_58
  exact v_ild (v_pi (v_iceq (vX12_latest_93 rf r hr) (v_ald (v_gr (v_ild (v_pi (v_iadd (v_ai (v_ild (v_iceq (vX12_latest_89 rf r hr) (v_ald (v_gr (v_ild (v_pi (v_iadd (v_ai (v_ild (v_icne (vX12_latest_93 rf r hr) ((vX12_latest_89 rf r hr))))))))))))))))))))
theorem tX12_latest_58 {X : pu_X} {r : pu_R} (hX : pu_H X mdX12_latest) (hr : pu_P X.2.1 X.2.2.2.2.2.2.2.2.2.2.1 r) (hq : ∀ i pc, pu_lp i = some (255, pc) → pu_S X mdX12_latest pc (r i)) : pu_S X mdX12_latest 58 (kX12_latest_58 r) := by
  unfold kX12_latest_58
  exact z_ild_n hX dX12_latest_58 rfl (z_iconst hX dX12_latest_59 (by decide) (z_iceq hX dX12_latest_60 (by decide) (tX12_latest_93 hX hr hq) (z_ald_n hX dX12_latest_63 rfl (z_gr (c := 12) (j := 0) hX dX12_latest_64 rfl inlX12 wm7_16 ⟨rfl, by decide, rfl⟩ (z_ild hX dX12_latest_67 (z_iconst hX dX12_latest_69 (by decide) (z_iadd hX dX12_latest_70 (z_iald hX dX12_latest_71 (z_ild_n hX dX12_latest_72 rfl (z_iceq hX dX12_latest_73 (by decide) (tX12_latest_89 hX hr hq) (z_ald_n hX dX12_latest_76 rfl (z_gr (c := 12) (j := 0) hX dX12_latest_77 rfl inlX12 wm7_16 ⟨rfl, by decide, rfl⟩ (z_ild hX dX12_latest_80 (z_iconst hX dX12_latest_82 (by decide) (z_iadd hX dX12_latest_83 (z_iald hX dX12_latest_84 (z_ild_n hX dX12_latest_85 rfl (z_icne hX dX12_latest_86 (by decide) (tX12_latest_93 hX hr hq) ((tX12_latest_89 hX hr hq))))))))))))))))))))
def kX12_latest_46 (r : pu_R) : pu_K := s_gr 12 0 (s_ild 5 (s_push (.int (3)) (s_iadd (s_ai 1 (s_ild 1 (s_iceq (kX12_latest_89 r) ((kX12_latest_58 r))))))))
theorem vX12_latest_46 : pu_cok2 kX12_latest_46 := fun rf r hr => by
  unfold kX12_latest_46
  exact v_gr (v_ild (v_pi (v_iadd (v_ai (v_ild (v_iceq (vX12_latest_89 rf r hr) ((vX12_latest_58 rf r hr))))))))
theorem tX12_latest_46 {X : pu_X} {r : pu_R} (hX : pu_H X mdX12_latest) (hr : pu_P X.2.1 X.2.2.2.2.2.2.2.2.2.2.1 r) (hq : ∀ i pc, pu_lp i = some (255, pc) → pu_S X mdX12_latest pc (r i)) : pu_S X mdX12_latest 46 (kX12_latest_46 r) := by
  unfold kX12_latest_46
  exact z_gr (c := 12) (j := 0) hX dX12_latest_46 rfl inlX12 wm7_16 ⟨rfl, by decide, rfl⟩ (z_ild hX dX12_latest_49 (z_iconst hX dX12_latest_51 (by decide) (z_iadd hX dX12_latest_52 (z_iald hX dX12_latest_53 (z_ild_n hX dX12_latest_54 rfl (z_iceq hX dX12_latest_55 (by decide) (tX12_latest_89 hX hr hq) ((tX12_latest_58 hX hr hq))))))))
def kX12_latest_5 (r : pu_R) : pu_K := s_ild 4 (s_ald 0 (s_gr 12 0 (s_push (.int (5)) (s_ai 1 (s_icge (kX12_latest_130 r) (s_push (.int (28752)) (s_push (.int (7)) (s_ild 4 (s_imul (s_iadd (s_ist 5 (s_ild 1 (s_push (.int (-1)) (s_iceq (kX12_latest_58 r) (s_ald 0 (s_gr 12 0 (s_ild 5 (s_push (.int (2)) (s_iadd (s_ai 1 (s_ild 1 (s_iceq (kX12_latest_89 r) (s_ald 0 ((kX12_latest_46 r)))))))))))))))))))))))))
theorem vX12_latest_5 : pu_cok2 kX12_latest_5 := fun rf r hr => by
  unfold kX12_latest_5
  exact v_ild (v_ald (v_gr (v_pi (v_ai (v_icge (vX12_latest_130 rf r hr) (v_pi (v_pi (v_ild (v_imul (v_iadd (v_ist (v_ild (v_pi (v_iceq (vX12_latest_58 rf r hr) (v_ald (v_gr (v_ild (v_pi (v_iadd (v_ai (v_ild (v_iceq (vX12_latest_89 rf r hr) (v_ald ((vX12_latest_46 rf r hr)))))))))))))))))))))))))
theorem tX12_latest_5 {X : pu_X} {r : pu_R} (hX : pu_H X mdX12_latest) (hr : pu_P X.2.1 X.2.2.2.2.2.2.2.2.2.2.1 r) (hq : ∀ i pc, pu_lp i = some (255, pc) → pu_S X mdX12_latest pc (r i)) : pu_S X mdX12_latest 5 (kX12_latest_5 r) := by
  unfold kX12_latest_5
  exact z_ild hX dX12_latest_5 (z_ald_n hX dX12_latest_7 rfl (z_gr (c := 12) (j := 0) hX dX12_latest_8 rfl inlX12 wm7_16 ⟨rfl, by decide, rfl⟩ (z_iconst hX dX12_latest_11 (by decide) (z_iald hX dX12_latest_12 (z_icge hX dX12_latest_13 (by decide) (tX12_latest_130 hX hr hq) (z_sipush hX dX12_latest_16 (by decide) (z_bipush hX dX12_latest_19 (by decide) (z_ild hX dX12_latest_21 (z_imul hX dX12_latest_23 (z_iadd hX dX12_latest_24 (z_ist hX dX12_latest_25 (z_ild_n hX dX12_latest_27 rfl (z_iconst hX dX12_latest_28 (by decide) (z_iceq hX dX12_latest_29 (by decide) (tX12_latest_58 hX hr hq) (z_ald_n hX dX12_latest_32 rfl (z_gr (c := 12) (j := 0) hX dX12_latest_33 rfl inlX12 wm7_16 ⟨rfl, by decide, rfl⟩ (z_ild hX dX12_latest_36 (z_iconst hX dX12_latest_38 (by decide) (z_iadd hX dX12_latest_39 (z_iald hX dX12_latest_40 (z_ild_n hX dX12_latest_41 rfl (z_iceq hX dX12_latest_42 (by decide) (tX12_latest_89 hX hr hq) (z_ald_n hX dX12_latest_45 rfl ((tX12_latest_46 hX hr hq)))))))))))))))))))))))))
def kX12_latest_0 (r : pu_R) : pu_K := s_push (.int (-1)) (s_ist 3 (s_push (.int (0)) (s_ist 4 ((r 451)))))
theorem vX12_latest_0 : pu_cok2 kX12_latest_0 := fun rf r hr => by
  unfold kX12_latest_0
  exact v_pi (v_ist (v_pi (v_ist ((hr 451)))))
theorem tX12_latest_0 {X : pu_X} {r : pu_R} (hX : pu_H X mdX12_latest) (hr : pu_P X.2.1 X.2.2.2.2.2.2.2.2.2.2.1 r) (hq : ∀ i pc, pu_lp i = some (255, pc) → pu_S X mdX12_latest pc (r i)) : pu_S X mdX12_latest 0 (kX12_latest_0 r) := by
  unfold kX12_latest_0
  exact z_iconst hX dX12_latest_0 (by decide) (z_ist_n hX dX12_latest_1 rfl (z_iconst hX dX12_latest_2 (by decide) (z_ist hX dX12_latest_3 ((hq 451 5 hl451)))))
def kX12_isEarly_19 (r : pu_R) : pu_K := s_zret
theorem vX12_isEarly_19 : pu_cok2 kX12_isEarly_19 := fun rf r hr => by
  unfold kX12_isEarly_19
  exact v_zret
theorem tX12_isEarly_19 {X : pu_X} {r : pu_R} (hX : pu_H X mdX12_isEarly) (hr : pu_P X.2.1 X.2.2.2.2.2.2.2.2.2.2.1 r) (hq : ∀ i pc, pu_lp i = some (256, pc) → pu_S X mdX12_isEarly pc (r i)) : pu_S X mdX12_isEarly 19 (kX12_isEarly_19 r) := by
  unfold kX12_isEarly_19
  exact z_zret hX dX12_isEarly_19 rfl
def kX12_isEarly_18 (r : pu_R) : pu_K := s_push (.int (0)) ((kX12_isEarly_19 r))
theorem vX12_isEarly_18 : pu_cok2 kX12_isEarly_18 := fun rf r hr => by
  unfold kX12_isEarly_18
  exact v_pi ((vX12_isEarly_19 rf r hr))
theorem tX12_isEarly_18 {X : pu_X} {r : pu_R} (hX : pu_H X mdX12_isEarly) (hr : pu_P X.2.1 X.2.2.2.2.2.2.2.2.2.2.1 r) (hq : ∀ i pc, pu_lp i = some (256, pc) → pu_S X mdX12_isEarly pc (r i)) : pu_S X mdX12_isEarly 18 (kX12_isEarly_18 r) := by
  unfold kX12_isEarly_18
  exact z_iconst hX dX12_isEarly_18 (by decide) ((tX12_isEarly_19 hX hr hq))
def kX12_isEarly_0 (r : pu_R) : pu_K := s_ild 2 (s_ald 0 (s_ild 1 (s_ald 0 (s_ild 1 (s_cv r 254 1 12 (s_cv r 255 2 12 (s_icge (kX12_isEarly_18 r) (s_push (.int (1)) ((kX12_isEarly_19 r))))))))))
theorem vX12_isEarly_0 : pu_cok2 kX12_isEarly_0 := fun rf r hr => by
  unfold kX12_isEarly_0
  exact v_ild (v_ald (v_ild (v_ald (v_ild (v_cv hr (v_cv hr (v_icge (vX12_isEarly_18 rf r hr) (v_pi ((vX12_isEarly_19 rf r hr))))))))))
theorem tX12_isEarly_0 {X : pu_X} {r : pu_R} (hX : pu_H X mdX12_isEarly) (hr : pu_P X.2.1 X.2.2.2.2.2.2.2.2.2.2.1 r) (hq : ∀ i pc, pu_lp i = some (256, pc) → pu_S X mdX12_isEarly pc (r i)) : pu_S X mdX12_isEarly 0 (kX12_isEarly_0 r) := by
  unfold kX12_isEarly_0
  exact z_ild_n hX dX12_isEarly_0 rfl (z_ald_n hX dX12_isEarly_1 rfl (z_ild_n hX dX12_isEarly_2 rfl (z_ald_n hX dX12_isEarly_3 rfl (z_ild_n hX dX12_isEarly_4 rfl (z_cv (c := 12) hX hr dX12_isEarly_5 hjX12_townOf mwX12_townOf rfl wm28_21 ⟨wm28_22, wm28_23⟩ ⟨Nat.le_of_ble_eq_true rfl, Nat.le_of_ble_eq_true rfl⟩ (z_cv (c := 12) hX hr dX12_isEarly_8 hjX12_latest mwX12_latest rfl wm20_20 ⟨wm20_21, wm20_22⟩ ⟨Nat.le_of_ble_eq_true rfl, Nat.le_of_ble_eq_true rfl⟩ (z_icge hX dX12_isEarly_11 (by decide) (tX12_isEarly_18 hX hr hq) (z_iconst hX dX12_isEarly_14 (by decide) ((z_goto hX dX12_isEarly_15 (by decide) (tX12_isEarly_19 hX hr hq)))))))))))
def kX12_paper_74 (r : pu_R) : pu_K := s_gr 12 0 (s_ild 7 (s_push (.int (5)) (s_iadd (s_ild 5 (s_wi 1 (s_ald 0 (s_gr 12 0 (s_ild 7 (s_push (.int (6)) (s_iadd (s_push (.int (-1)) (s_wi 1 (s_ald 0 (s_gr 12 0 (s_push (.int (5)) (s_dup2 (s_ai 1 (s_push (.int (1)) (s_iadd (s_wi 1 (s_ild 6 (s_iret))))))))))))))))))))))
theorem vX12_paper_74 : pu_cok2 kX12_paper_74 := fun rf r hr => by
  unfold kX12_paper_74
  exact v_gr (v_ild (v_pi (v_iadd (v_ild (v_wi (v_ald (v_gr (v_ild (v_pi (v_iadd (v_pi (v_wi (v_ald (v_gr (v_pi (v_dup2 (v_ai (v_pi (v_iadd (v_wi (v_ild (v_iret))))))))))))))))))))))
theorem tX12_paper_74 {X : pu_X} {r : pu_R} (hX : pu_H X mdX12_paper) (hr : pu_P X.2.1 X.2.2.2.2.2.2.2.2.2.2.1 r) (hq : ∀ i pc, pu_lp i = some (257, pc) → pu_S X mdX12_paper pc (r i)) : pu_S X mdX12_paper 74 (kX12_paper_74 r) := by
  unfold kX12_paper_74
  exact z_gr (c := 12) (j := 0) hX dX12_paper_74 rfl inlX12 wm7_16 ⟨rfl, by decide, rfl⟩ (z_ild hX dX12_paper_77 (z_iconst hX dX12_paper_79 (by decide) (z_iadd hX dX12_paper_80 (z_ild hX dX12_paper_81 (z_iast hX dX12_paper_83 (z_ald_n hX dX12_paper_84 rfl (z_gr (c := 12) (j := 0) hX dX12_paper_85 rfl inlX12 wm7_16 ⟨rfl, by decide, rfl⟩ (z_ild hX dX12_paper_88 (z_bipush hX dX12_paper_90 (by decide) (z_iadd hX dX12_paper_92 (z_iconst hX dX12_paper_93 (by decide) (z_iast hX dX12_paper_94 (z_ald_n hX dX12_paper_95 rfl (z_gr (c := 12) (j := 0) hX dX12_paper_96 rfl inlX12 wm7_16 ⟨rfl, by decide, rfl⟩ (z_iconst hX dX12_paper_99 (by decide) (z_dup2 hX dX12_paper_100 (z_iald hX dX12_paper_101 (z_iconst hX dX12_paper_102 (by decide) (z_iadd hX dX12_paper_103 (z_iast hX dX12_paper_104 (z_ild hX dX12_paper_105 (z_iret hX dX12_paper_107 rfl))))))))))))))))))))))
def kX12_paper_40 (r : pu_R) : pu_K := s_ild 1 (s_wi 1 (s_ald 0 (s_gr 12 0 (s_ild 7 (s_push (.int (2)) (s_iadd (s_ild 2 (s_wi 1 (s_ald 0 (s_gr 12 0 (s_ild 7 (s_push (.int (3)) (s_iadd (s_ild 3 (s_wi 1 (s_ald 0 (s_gr 12 0 (s_ild 7 (s_push (.int (4)) (s_iadd (s_ild 4 (s_wi 1 (s_ald 0 ((kX12_paper_74 r)))))))))))))))))))))))))
theorem vX12_paper_40 : pu_cok2 kX12_paper_40 := fun rf r hr => by
  unfold kX12_paper_40
  exact v_ild (v_wi (v_ald (v_gr (v_ild (v_pi (v_iadd (v_ild (v_wi (v_ald (v_gr (v_ild (v_pi (v_iadd (v_ild (v_wi (v_ald (v_gr (v_ild (v_pi (v_iadd (v_ild (v_wi (v_ald ((vX12_paper_74 rf r hr)))))))))))))))))))))))))
theorem tX12_paper_40 {X : pu_X} {r : pu_R} (hX : pu_H X mdX12_paper) (hr : pu_P X.2.1 X.2.2.2.2.2.2.2.2.2.2.1 r) (hq : ∀ i pc, pu_lp i = some (257, pc) → pu_S X mdX12_paper pc (r i)) : pu_S X mdX12_paper 40 (kX12_paper_40 r) := by
  unfold kX12_paper_40
  exact z_ild_n hX dX12_paper_40 rfl (z_iast hX dX12_paper_41 (z_ald_n hX dX12_paper_42 rfl (z_gr (c := 12) (j := 0) hX dX12_paper_43 rfl inlX12 wm7_16 ⟨rfl, by decide, rfl⟩ (z_ild hX dX12_paper_46 (z_iconst hX dX12_paper_48 (by decide) (z_iadd hX dX12_paper_49 (z_ild_n hX dX12_paper_50 rfl (z_iast hX dX12_paper_51 (z_ald_n hX dX12_paper_52 rfl (z_gr (c := 12) (j := 0) hX dX12_paper_53 rfl inlX12 wm7_16 ⟨rfl, by decide, rfl⟩ (z_ild hX dX12_paper_56 (z_iconst hX dX12_paper_58 (by decide) (z_iadd hX dX12_paper_59 (z_ild_n hX dX12_paper_60 rfl (z_iast hX dX12_paper_61 (z_ald_n hX dX12_paper_62 rfl (z_gr (c := 12) (j := 0) hX dX12_paper_63 rfl inlX12 wm7_16 ⟨rfl, by decide, rfl⟩ (z_ild hX dX12_paper_66 (z_iconst hX dX12_paper_68 (by decide) (z_iadd hX dX12_paper_69 (z_ild hX dX12_paper_70 (z_iast hX dX12_paper_72 (z_ald_n hX dX12_paper_73 rfl ((tX12_paper_74 hX hr hq)))))))))))))))))))))))))
def kX12_paper_0 (r : pu_R) : pu_K := s_ald 0 (s_gr 12 0 (s_push (.int (5)) (s_ai 1 (s_ist 6 (s_push (.int (28752)) (s_push (.int (7)) (s_ild 6 (s_imul (s_iadd (s_ist 7 (s_ald 0 (s_gr 12 0 (s_ild 7 (s_ald 0 (s_gr 12 0 (s_push (.int (0)) (s_ai 1 (s_wi 1 (s_ald 0 (s_gr 12 0 (s_ild 7 (s_push (.int (1)) (s_iadd ((kX12_paper_40 r)))))))))))))))))))))))))
theorem vX12_paper_0 : pu_cok2 kX12_paper_0 := fun rf r hr => by
  unfold kX12_paper_0
  exact v_ald (v_gr (v_pi (v_ai (v_ist (v_pi (v_pi (v_ild (v_imul (v_iadd (v_ist (v_ald (v_gr (v_ild (v_ald (v_gr (v_pi (v_ai (v_wi (v_ald (v_gr (v_ild (v_pi (v_iadd ((vX12_paper_40 rf r hr)))))))))))))))))))))))))
theorem tX12_paper_0 {X : pu_X} {r : pu_R} (hX : pu_H X mdX12_paper) (hr : pu_P X.2.1 X.2.2.2.2.2.2.2.2.2.2.1 r) (hq : ∀ i pc, pu_lp i = some (257, pc) → pu_S X mdX12_paper pc (r i)) : pu_S X mdX12_paper 0 (kX12_paper_0 r) := by
  unfold kX12_paper_0
  exact z_ald_n hX dX12_paper_0 rfl (z_gr (c := 12) (j := 0) hX dX12_paper_1 rfl inlX12 wm7_16 ⟨rfl, by decide, rfl⟩ (z_iconst hX dX12_paper_4 (by decide) (z_iald hX dX12_paper_5 (z_ist hX dX12_paper_6 (z_sipush hX dX12_paper_8 (by decide) (z_bipush hX dX12_paper_11 (by decide) (z_ild hX dX12_paper_13 (z_imul hX dX12_paper_15 (z_iadd hX dX12_paper_16 (z_ist hX dX12_paper_17 (z_ald_n hX dX12_paper_19 rfl (z_gr (c := 12) (j := 0) hX dX12_paper_20 rfl inlX12 wm7_16 ⟨rfl, by decide, rfl⟩ (z_ild hX dX12_paper_23 (z_ald_n hX dX12_paper_25 rfl (z_gr (c := 12) (j := 0) hX dX12_paper_26 rfl inlX12 wm7_16 ⟨rfl, by decide, rfl⟩ (z_iconst hX dX12_paper_29 (by decide) (z_iald hX dX12_paper_30 (z_iast hX dX12_paper_31 (z_ald_n hX dX12_paper_32 rfl (z_gr (c := 12) (j := 0) hX dX12_paper_33 rfl inlX12 wm7_16 ⟨rfl, by decide, rfl⟩ (z_ild hX dX12_paper_36 (z_iconst hX dX12_paper_38 (by decide) (z_iadd hX dX12_paper_39 ((tX12_paper_40 hX hr hq)))))))))))))))))))))))))
def kX12_openName__73 (r : pu_R) : pu_K := s_iadd (s_wi 1 (s_vret))
theorem vX12_openName__73 : pu_cok2 kX12_openName__73 := fun rf r hr => by
  unfold kX12_openName__73
  exact v_iadd (v_wi (v_vret))
theorem tX12_openName__73 {X : pu_X} {r : pu_R} (hX : pu_H X mdX12_openName_) (hr : pu_P X.2.1 X.2.2.2.2.2.2.2.2.2.2.1 r) (hq : ∀ i pc, pu_lp i = some (258, pc) → pu_S X mdX12_openName_ pc (r i)) : pu_S X mdX12_openName_ 73 (kX12_openName__73 r) := by
  unfold kX12_openName__73
  exact z_iadd hX dX12_openName__73 (z_iast hX dX12_openName__74 (z_vret hX dX12_openName__75 rfl))
def kX12_openName__39 (r : pu_R) : pu_K := s_push (.int (2)) (s_iadd (s_ild 3 (s_wi 1 (s_ald 0 (s_gr 12 0 (s_ild 5 (s_push (.int (3)) (s_iadd (s_ild 4 (s_wi 1 (s_ald 0 (s_gr 12 0 (s_ild 5 (s_push (.int (4)) (s_iadd (s_push (.int (-1)) (s_wi 1 (s_ald 0 (s_gr 12 0 (s_push (.int (7)) (s_dup2 (s_ai 1 (s_push (.int (1)) ((kX12_openName__73 r)))))))))))))))))))))))))
theorem vX12_openName__39 : pu_cok2 kX12_openName__39 := fun rf r hr => by
  unfold kX12_openName__39
  exact v_pi (v_iadd (v_ild (v_wi (v_ald (v_gr (v_ild (v_pi (v_iadd (v_ild (v_wi (v_ald (v_gr (v_ild (v_pi (v_iadd (v_pi (v_wi (v_ald (v_gr (v_pi (v_dup2 (v_ai (v_pi ((vX12_openName__73 rf r hr)))))))))))))))))))))))))
theorem tX12_openName__39 {X : pu_X} {r : pu_R} (hX : pu_H X mdX12_openName_) (hr : pu_P X.2.1 X.2.2.2.2.2.2.2.2.2.2.1 r) (hq : ∀ i pc, pu_lp i = some (258, pc) → pu_S X mdX12_openName_ pc (r i)) : pu_S X mdX12_openName_ 39 (kX12_openName__39 r) := by
  unfold kX12_openName__39
  exact z_iconst hX dX12_openName__39 (by decide) (z_iadd hX dX12_openName__40 (z_ild_n hX dX12_openName__41 rfl (z_iast hX dX12_openName__42 (z_ald_n hX dX12_openName__43 rfl (z_gr (c := 12) (j := 0) hX dX12_openName__44 rfl inlX12 wm7_16 ⟨rfl, by decide, rfl⟩ (z_ild hX dX12_openName__47 (z_iconst hX dX12_openName__49 (by decide) (z_iadd hX dX12_openName__50 (z_ild hX dX12_openName__51 (z_iast hX dX12_openName__53 (z_ald_n hX dX12_openName__54 rfl (z_gr (c := 12) (j := 0) hX dX12_openName__55 rfl inlX12 wm7_16 ⟨rfl, by decide, rfl⟩ (z_ild hX dX12_openName__58 (z_iconst hX dX12_openName__60 (by decide) (z_iadd hX dX12_openName__61 (z_iconst hX dX12_openName__62 (by decide) (z_iast hX dX12_openName__63 (z_ald_n hX dX12_openName__64 rfl (z_gr (c := 12) (j := 0) hX dX12_openName__65 rfl inlX12 wm7_16 ⟨rfl, by decide, rfl⟩ (z_bipush hX dX12_openName__68 (by decide) (z_dup2 hX dX12_openName__70 (z_iald hX dX12_openName__71 (z_iconst hX dX12_openName__72 (by decide) ((tX12_openName__73 hX hr hq)))))))))))))))))))))))))
def kX12_openName__0 (r : pu_R) : pu_K := s_push (.int (7552)) (s_push (.int (5)) (s_ald 0 (s_gr 12 0 (s_push (.int (7)) (s_ai 1 (s_imul (s_iadd (s_ist 5 (s_ald 0 (s_gr 12 0 (s_ild 5 (s_ild 1 (s_wi 1 (s_ald 0 (s_gr 12 0 (s_ild 5 (s_push (.int (1)) (s_iadd (s_ild 2 (s_wi 1 (s_ald 0 (s_gr 12 0 (s_ild 5 ((kX12_openName__39 r)))))))))))))))))))))))))
theorem vX12_openName__0 : pu_cok2 kX12_openName__0 := fun rf r hr => by
  unfold kX12_openName__0
  exact v_pi (v_pi (v_ald (v_gr (v_pi (v_ai (v_imul (v_iadd (v_ist (v_ald (v_gr (v_ild (v_ild (v_wi (v_ald (v_gr (v_ild (v_pi (v_iadd (v_ild (v_wi (v_ald (v_gr (v_ild ((vX12_openName__39 rf r hr)))))))))))))))))))))))))
theorem tX12_openName__0 {X : pu_X} {r : pu_R} (hX : pu_H X mdX12_openName_) (hr : pu_P X.2.1 X.2.2.2.2.2.2.2.2.2.2.1 r) (hq : ∀ i pc, pu_lp i = some (258, pc) → pu_S X mdX12_openName_ pc (r i)) : pu_S X mdX12_openName_ 0 (kX12_openName__0 r) := by
  unfold kX12_openName__0
  exact z_sipush hX dX12_openName__0 (by decide) (z_iconst hX dX12_openName__3 (by decide) (z_ald_n hX dX12_openName__4 rfl (z_gr (c := 12) (j := 0) hX dX12_openName__5 rfl inlX12 wm7_16 ⟨rfl, by decide, rfl⟩ (z_bipush hX dX12_openName__8 (by decide) (z_iald hX dX12_openName__10 (z_imul hX dX12_openName__11 (z_iadd hX dX12_openName__12 (z_ist hX dX12_openName__13 (z_ald_n hX dX12_openName__15 rfl (z_gr (c := 12) (j := 0) hX dX12_openName__16 rfl inlX12 wm7_16 ⟨rfl, by decide, rfl⟩ (z_ild hX dX12_openName__19 (z_ild_n hX dX12_openName__21 rfl (z_iast hX dX12_openName__22 (z_ald_n hX dX12_openName__23 rfl (z_gr (c := 12) (j := 0) hX dX12_openName__24 rfl inlX12 wm7_16 ⟨rfl, by decide, rfl⟩ (z_ild hX dX12_openName__27 (z_iconst hX dX12_openName__29 (by decide) (z_iadd hX dX12_openName__30 (z_ild_n hX dX12_openName__31 rfl (z_iast hX dX12_openName__32 (z_ald_n hX dX12_openName__33 rfl (z_gr (c := 12) (j := 0) hX dX12_openName__34 rfl inlX12 wm7_16 ⟨rfl, by decide, rfl⟩ (z_ild hX dX12_openName__37 ((tX12_openName__39 hX hr hq)))))))))))))))))))))))))
def kX12_isTaken_115 (r : pu_R) : pu_K := s_push (.int (0)) (s_zret)
theorem vX12_isTaken_115 : pu_cok2 kX12_isTaken_115 := fun rf r hr => by
  unfold kX12_isTaken_115
  exact v_pi (v_zret)
theorem tX12_isTaken_115 {X : pu_X} {r : pu_R} (hX : pu_H X mdX12_isTaken) (hr : pu_P X.2.1 X.2.2.2.2.2.2.2.2.2.2.1 r) (hq : ∀ i pc, pu_lp i = some (259, pc) → pu_S X mdX12_isTaken pc (r i)) : pu_S X mdX12_isTaken 115 (kX12_isTaken_115 r) := by
  unfold kX12_isTaken_115
  exact z_iconst hX dX12_isTaken_115 (by decide) (z_zret hX dX12_isTaken_116 rfl)
def kX12_isTaken_109 (r : pu_R) : pu_K := s_inc 3 (1) ((r 452))
theorem vX12_isTaken_109 : pu_cok2 kX12_isTaken_109 := fun rf r hr => by
  unfold kX12_isTaken_109
  exact v_inc ((hr 452))
theorem tX12_isTaken_109 {X : pu_X} {r : pu_R} (hX : pu_H X mdX12_isTaken) (hr : pu_P X.2.1 X.2.2.2.2.2.2.2.2.2.2.1 r) (hq : ∀ i pc, pu_lp i = some (259, pc) → pu_S X mdX12_isTaken pc (r i)) : pu_S X mdX12_isTaken 109 (kX12_isTaken_109 r) := by
  unfold kX12_isTaken_109
  exact z_inc hX dX12_isTaken_109 (by decide) ((z_goto hX dX12_isTaken_112 (by decide) (hq 452 2 hl452)))
def kX12_isTaken_107 (r : pu_R) : pu_K := s_push (.int (1)) (s_zret)
theorem vX12_isTaken_107 : pu_cok2 kX12_isTaken_107 := fun rf r hr => by
  unfold kX12_isTaken_107
  exact v_pi (v_zret)
theorem tX12_isTaken_107 {X : pu_X} {r : pu_R} (hX : pu_H X mdX12_isTaken) (hr : pu_P X.2.1 X.2.2.2.2.2.2.2.2.2.2.1 r) (hq : ∀ i pc, pu_lp i = some (259, pc) → pu_S X mdX12_isTaken pc (r i)) : pu_S X mdX12_isTaken 107 (kX12_isTaken_107 r) := by
  unfold kX12_isTaken_107
  exact z_iconst hX dX12_isTaken_107 (by decide) (z_zret hX dX12_isTaken_108 rfl)
def kX12_isTaken_100 (r : pu_R) : pu_K := s_ai 1 (s_cv r 238 1 12 (s_icle (kX12_isTaken_109 r) ((kX12_isTaken_107 r))))
theorem vX12_isTaken_100 : pu_cok2 kX12_isTaken_100 := fun rf r hr => by
  unfold kX12_isTaken_100
  exact v_ai (v_cv hr (v_icle (vX12_isTaken_109 rf r hr) ((vX12_isTaken_107 rf r hr))))
theorem tX12_isTaken_100 {X : pu_X} {r : pu_R} (hX : pu_H X mdX12_isTaken) (hr : pu_P X.2.1 X.2.2.2.2.2.2.2.2.2.2.1 r) (hq : ∀ i pc, pu_lp i = some (259, pc) → pu_S X mdX12_isTaken pc (r i)) : pu_S X mdX12_isTaken 100 (kX12_isTaken_100 r) := by
  unfold kX12_isTaken_100
  exact z_iald hX dX12_isTaken_100 (z_cv (c := 12) hX hr dX12_isTaken_101 hjX12_from mwX12_from rfl wm21_4 ⟨wm21_5, wm21_6⟩ ⟨Nat.le_of_ble_eq_true rfl, Nat.le_of_ble_eq_true rfl⟩ (z_icle hX dX12_isTaken_104 (by decide) (tX12_isTaken_109 hX hr hq) ((tX12_isTaken_107 hX hr hq))))
def kX12_isTaken_58 (r : pu_R) : pu_K := s_ald 0 (s_gr 12 0 (s_ild 4 (s_push (.int (4)) (s_iadd (s_ai 1 (s_ist 5 (s_ild 5 (s_push (.int (-1)) (s_iceq (kX12_isTaken_107 r) (s_ald 0 (s_ild 5 (s_cv r 238 1 12 (s_ild 2 (s_icle (kX12_isTaken_109 r) (s_ald 0 (s_ild 5 (s_cv r 238 1 12 (s_ald 0 (s_ald 0 (s_gr 12 0 (s_ild 4 (s_push (.int (3)) (s_iadd ((kX12_isTaken_100 r)))))))))))))))))))))))))
theorem vX12_isTaken_58 : pu_cok2 kX12_isTaken_58 := fun rf r hr => by
  unfold kX12_isTaken_58
  exact v_ald (v_gr (v_ild (v_pi (v_iadd (v_ai (v_ist (v_ild (v_pi (v_iceq (vX12_isTaken_107 rf r hr) (v_ald (v_ild (v_cv hr (v_ild (v_icle (vX12_isTaken_109 rf r hr) (v_ald (v_ild (v_cv hr (v_ald (v_ald (v_gr (v_ild (v_pi (v_iadd ((vX12_isTaken_100 rf r hr)))))))))))))))))))))))))
theorem tX12_isTaken_58 {X : pu_X} {r : pu_R} (hX : pu_H X mdX12_isTaken) (hr : pu_P X.2.1 X.2.2.2.2.2.2.2.2.2.2.1 r) (hq : ∀ i pc, pu_lp i = some (259, pc) → pu_S X mdX12_isTaken pc (r i)) : pu_S X mdX12_isTaken 58 (kX12_isTaken_58 r) := by
  unfold kX12_isTaken_58
  exact z_ald_n hX dX12_isTaken_58 rfl (z_gr (c := 12) (j := 0) hX dX12_isTaken_59 rfl inlX12 wm7_16 ⟨rfl, by decide, rfl⟩ (z_ild hX dX12_isTaken_62 (z_iconst hX dX12_isTaken_64 (by decide) (z_iadd hX dX12_isTaken_65 (z_iald hX dX12_isTaken_66 (z_ist hX dX12_isTaken_67 (z_ild hX dX12_isTaken_69 (z_iconst hX dX12_isTaken_71 (by decide) (z_iceq hX dX12_isTaken_72 (by decide) (tX12_isTaken_107 hX hr hq) (z_ald_n hX dX12_isTaken_75 rfl (z_ild hX dX12_isTaken_76 (z_cv (c := 12) hX hr dX12_isTaken_78 hjX12_from mwX12_from rfl wm21_4 ⟨wm21_5, wm21_6⟩ ⟨Nat.le_of_ble_eq_true rfl, Nat.le_of_ble_eq_true rfl⟩ (z_ild_n hX dX12_isTaken_81 rfl (z_icle hX dX12_isTaken_82 (by decide) (tX12_isTaken_109 hX hr hq) (z_ald_n hX dX12_isTaken_85 rfl (z_ild hX dX12_isTaken_86 (z_cv (c := 12) hX hr dX12_isTaken_88 hjX12_from mwX12_from rfl wm21_4 ⟨wm21_5, wm21_6⟩ ⟨Nat.le_of_ble_eq_true rfl, Nat.le_of_ble_eq_true rfl⟩ (z_ald_n hX dX12_isTaken_91 rfl (z_ald_n hX dX12_isTaken_92 rfl (z_gr (c := 12) (j := 0) hX dX12_isTaken_93 rfl inlX12 wm7_16 ⟨rfl, by decide, rfl⟩ (z_ild hX dX12_isTaken_96 (z_iconst hX dX12_isTaken_98 (by decide) (z_iadd hX dX12_isTaken_99 ((tX12_isTaken_100 hX hr hq)))))))))))))))))))))))))
def kX12_isTaken_41 (r : pu_R) : pu_K := s_gr 12 0 (s_ild 4 (s_push (.int (2)) (s_iadd (s_ai 1 (s_cv r 245 2 12 (s_ifne (kX12_isTaken_58 r) ((kX12_isTaken_109 r))))))))
theorem vX12_isTaken_41 : pu_cok2 kX12_isTaken_41 := fun rf r hr => by
  unfold kX12_isTaken_41
  exact v_gr (v_ild (v_pi (v_iadd (v_ai (v_cv hr (v_ifne (vX12_isTaken_58 rf r hr) ((vX12_isTaken_109 rf r hr))))))))
theorem tX12_isTaken_41 {X : pu_X} {r : pu_R} (hX : pu_H X mdX12_isTaken) (hr : pu_P X.2.1 X.2.2.2.2.2.2.2.2.2.2.1 r) (hq : ∀ i pc, pu_lp i = some (259, pc) → pu_S X mdX12_isTaken pc (r i)) : pu_S X mdX12_isTaken 41 (kX12_isTaken_41 r) := by
  unfold kX12_isTaken_41
  exact z_gr (c := 12) (j := 0) hX dX12_isTaken_41 rfl inlX12 wm7_16 ⟨rfl, by decide, rfl⟩ (z_ild hX dX12_isTaken_44 (z_iconst hX dX12_isTaken_46 (by decide) (z_iadd hX dX12_isTaken_47 (z_iald hX dX12_isTaken_48 (z_cv (c := 12) hX hr dX12_isTaken_49 hjX12_isName mwX12_isName rfl wm15_19 ⟨wm15_20, wm15_21⟩ ⟨Nat.le_of_ble_eq_true rfl, Nat.le_of_ble_eq_true rfl⟩ (z_ifne hX dX12_isTaken_52 (by decide) (tX12_isTaken_58 hX hr hq) ((z_goto hX dX12_isTaken_55 (by decide) (tX12_isTaken_109 hX hr hq)))))))))
def kX12_isTaken_2 (r : pu_R) : pu_K := s_ild 3 (s_ald 0 (s_gr 12 0 (s_push (.int (7)) (s_ai 1 (s_icge (kX12_isTaken_115 r) (s_push (.int (7552)) (s_push (.int (5)) (s_ild 3 (s_imul (s_iadd (s_ist 4 (s_ald 0 (s_gr 12 0 (s_ild 4 (s_push (.int (1)) (s_iadd (s_ai 1 (s_ild 1 (s_icne (kX12_isTaken_109 r) (s_ald 0 (s_ald 0 (s_gr 12 9 (s_ald 0 ((kX12_isTaken_41 r)))))))))))))))))))))))))
theorem vX12_isTaken_2 : pu_cok2 kX12_isTaken_2 := fun rf r hr => by
  unfold kX12_isTaken_2
  exact v_ild (v_ald (v_gr (v_pi (v_ai (v_icge (vX12_isTaken_115 rf r hr) (v_pi (v_pi (v_ild (v_imul (v_iadd (v_ist (v_ald (v_gr (v_ild (v_pi (v_iadd (v_ai (v_ild (v_icne (vX12_isTaken_109 rf r hr) (v_ald (v_ald (v_gr (v_ald ((vX12_isTaken_41 rf r hr)))))))))))))))))))))))))
theorem tX12_isTaken_2 {X : pu_X} {r : pu_R} (hX : pu_H X mdX12_isTaken) (hr : pu_P X.2.1 X.2.2.2.2.2.2.2.2.2.2.1 r) (hq : ∀ i pc, pu_lp i = some (259, pc) → pu_S X mdX12_isTaken pc (r i)) : pu_S X mdX12_isTaken 2 (kX12_isTaken_2 r) := by
  unfold kX12_isTaken_2
  exact z_ild_n hX dX12_isTaken_2 rfl (z_ald_n hX dX12_isTaken_3 rfl (z_gr (c := 12) (j := 0) hX dX12_isTaken_4 rfl inlX12 wm7_16 ⟨rfl, by decide, rfl⟩ (z_bipush hX dX12_isTaken_7 (by decide) (z_iald hX dX12_isTaken_9 (z_icge hX dX12_isTaken_10 (by decide) (tX12_isTaken_115 hX hr hq) (z_sipush hX dX12_isTaken_13 (by decide) (z_iconst hX dX12_isTaken_16 (by decide) (z_ild_n hX dX12_isTaken_17 rfl (z_imul hX dX12_isTaken_18 (z_iadd hX dX12_isTaken_19 (z_ist hX dX12_isTaken_20 (z_ald_n hX dX12_isTaken_22 rfl (z_gr (c := 12) (j := 0) hX dX12_isTaken_23 rfl inlX12 wm7_16 ⟨rfl, by decide, rfl⟩ (z_ild hX dX12_isTaken_26 (z_iconst hX dX12_isTaken_28 (by decide) (z_iadd hX dX12_isTaken_29 (z_iald hX dX12_isTaken_30 (z_ild_n hX dX12_isTaken_31 rfl (z_icne hX dX12_isTaken_32 (by decide) (tX12_isTaken_109 hX hr hq) (z_ald_n hX dX12_isTaken_35 rfl (z_ald_n hX dX12_isTaken_36 rfl (z_gr (c := 12) (j := 9) hX dX12_isTaken_37 rfl inlX12 wm8_4 ⟨rfl, by decide, rfl⟩ (z_ald_n hX dX12_isTaken_40 rfl ((tX12_isTaken_41 hX hr hq)))))))))))))))))))))))))
def kX12_isTaken_0 (r : pu_R) : pu_K := s_push (.int (0)) (s_ist 3 ((r 452)))
theorem vX12_isTaken_0 : pu_cok2 kX12_isTaken_0 := fun rf r hr => by
  unfold kX12_isTaken_0
  exact v_pi (v_ist ((hr 452)))
theorem tX12_isTaken_0 {X : pu_X} {r : pu_R} (hX : pu_H X mdX12_isTaken) (hr : pu_P X.2.1 X.2.2.2.2.2.2.2.2.2.2.1 r) (hq : ∀ i pc, pu_lp i = some (259, pc) → pu_S X mdX12_isTaken pc (r i)) : pu_S X mdX12_isTaken 0 (kX12_isTaken_0 r) := by
  unfold kX12_isTaken_0
  exact z_iconst hX dX12_isTaken_0 (by decide) (z_ist_n hX dX12_isTaken_1 rfl ((hq 452 2 hl452)))
def kX12_street_184 (r : pu_R) : pu_K := s_push (.int (-1)) (s_wi 1 (s_ald 0 (s_gr 12 0 (s_push (.int (30632)) (s_push (.int (601)) (s_push (.int (2)) (s_ild 5 (s_imul (s_push (.int (1)) (s_iadd (s_imul (s_iadd (s_push (.int (-1)) (s_wi 1 (s_ild 5 (s_iret))))))))))))))))
theorem vX12_street_184 : pu_cok2 kX12_street_184 := fun rf r hr => by
  unfold kX12_street_184
  exact v_pi (v_wi (v_ald (v_gr (v_pi (v_pi (v_pi (v_ild (v_imul (v_pi (v_iadd (v_imul (v_iadd (v_pi (v_wi (v_ild (v_iret))))))))))))))))
theorem tX12_street_184 {X : pu_X} {r : pu_R} (hX : pu_H X mdX12_street) (hr : pu_P X.2.1 X.2.2.2.2.2.2.2.2.2.2.1 r) (hq : ∀ i pc, pu_lp i = some (260, pc) → pu_S X mdX12_street pc (r i)) : pu_S X mdX12_street 184 (kX12_street_184 r) := by
  unfold kX12_street_184
  exact z_iconst hX dX12_street_184 (by decide) (z_iast hX dX12_street_185 (z_ald_n hX dX12_street_186 rfl (z_gr (c := 12) (j := 0) hX dX12_street_187 rfl inlX12 wm7_16 ⟨rfl, by decide, rfl⟩ (z_sipush hX dX12_street_190 (by decide) (z_sipush hX dX12_street_193 (by decide) (z_iconst hX dX12_street_196 (by decide) (z_ild hX dX12_street_197 (z_imul hX dX12_street_199 (z_iconst hX dX12_street_200 (by decide) (z_iadd hX dX12_street_201 (z_imul hX dX12_street_202 (z_iadd hX dX12_street_203 (z_iconst hX dX12_street_204 (by decide) (z_iast hX dX12_street_205 (z_ild hX dX12_street_206 (z_iret hX dX12_street_208 rfl))))))))))))))))
def kX12_street_142 (r : pu_R) : pu_K := s_ild 5 (s_iadd (s_ild 2 (s_wi 1 (s_ald 0 (s_push (.int (8)) (s_ild 6 (s_iadd (s_cv r 247 1 12 (s_ald 0 (s_ild 5 (s_ild 1 (s_push (.int (8)) (s_ild 6 (s_iadd (s_ild 6 (s_cv r 258 4 12 (s_ald 0 (s_gr 12 0 (s_push (.int (30632)) (s_push (.int (1202)) (s_ild 5 (s_imul (s_iadd ((kX12_street_184 r)))))))))))))))))))))))))
theorem vX12_street_142 : pu_cok2 kX12_street_142 := fun rf r hr => by
  unfold kX12_street_142
  exact v_ild (v_iadd (v_ild (v_wi (v_ald (v_pi (v_ild (v_iadd (v_cv hr (v_ald (v_ild (v_ild (v_pi (v_ild (v_iadd (v_ild (v_cv hr (v_ald (v_gr (v_pi (v_pi (v_ild (v_imul (v_iadd ((vX12_street_184 rf r hr)))))))))))))))))))))))))
theorem tX12_street_142 {X : pu_X} {r : pu_R} (hX : pu_H X mdX12_street) (hr : pu_P X.2.1 X.2.2.2.2.2.2.2.2.2.2.1 r) (hq : ∀ i pc, pu_lp i = some (260, pc) → pu_S X mdX12_street pc (r i)) : pu_S X mdX12_street 142 (kX12_street_142 r) := by
  unfold kX12_street_142
  exact z_ild hX dX12_street_142 (z_iadd hX dX12_street_144 (z_ild_n hX dX12_street_145 rfl (z_iast hX dX12_street_146 (z_ald_n hX dX12_street_147 rfl (z_bipush hX dX12_street_148 (by decide) (z_ild hX dX12_street_150 (z_iadd hX dX12_street_152 (z_cv (c := 12) hX hr dX12_street_153 hjX12_keepName mwX12_keepName rfl wm15_23 ⟨wm16_0, wm16_1⟩ ⟨Nat.le_of_ble_eq_true rfl, Nat.le_of_ble_eq_true rfl⟩ (z_ald_n hX dX12_street_156 rfl (z_ild hX dX12_street_157 (z_ild_n hX dX12_street_159 rfl (z_bipush hX dX12_street_160 (by decide) (z_ild hX dX12_street_162 (z_iadd hX dX12_street_164 (z_ild hX dX12_street_165 (z_cv (c := 12) hX hr dX12_street_167 hjX12_openName_ mwX12_openName_ rfl wm21_12 ⟨wm21_13, wm21_14⟩ ⟨Nat.le_of_ble_eq_true rfl, Nat.le_of_ble_eq_true rfl⟩ (z_ald_n hX dX12_street_170 rfl (z_gr (c := 12) (j := 0) hX dX12_street_171 rfl inlX12 wm7_16 ⟨rfl, by decide, rfl⟩ (z_sipush hX dX12_street_174 (by decide) (z_sipush hX dX12_street_177 (by decide) (z_ild hX dX12_street_180 (z_imul hX dX12_street_182 (z_iadd hX dX12_street_183 ((tX12_street_184 hX hr hq)))))))))))))))))))))))))
def kX12_street_105 (r : pu_R) : pu_K := s_ald 0 (s_gr 12 0 (s_push (.int (3)) (s_ai 1 (s_ist 5 (s_ald 0 (s_ild 3 (s_ild 5 (s_push (.int (-1)) (s_push (.int (-1)) (s_push (.int (-1)) (s_cv r 257 5 12 (s_ist 6 (s_ald 0 (s_gr 12 0 (s_push (.int (3)) (s_dup2 (s_ai 1 (s_push (.int (1)) (s_iadd (s_wi 1 (s_ald 0 (s_gr 12 0 (s_push (.int (7528)) ((kX12_street_142 r)))))))))))))))))))))))))
theorem vX12_street_105 : pu_cok2 kX12_street_105 := fun rf r hr => by
  unfold kX12_street_105
  exact v_ald (v_gr (v_pi (v_ai (v_ist (v_ald (v_ild (v_ild (v_pi (v_pi (v_pi (v_cv hr (v_ist (v_ald (v_gr (v_pi (v_dup2 (v_ai (v_pi (v_iadd (v_wi (v_ald (v_gr (v_pi ((vX12_street_142 rf r hr)))))))))))))))))))))))))
theorem tX12_street_105 {X : pu_X} {r : pu_R} (hX : pu_H X mdX12_street) (hr : pu_P X.2.1 X.2.2.2.2.2.2.2.2.2.2.1 r) (hq : ∀ i pc, pu_lp i = some (260, pc) → pu_S X mdX12_street pc (r i)) : pu_S X mdX12_street 105 (kX12_street_105 r) := by
  unfold kX12_street_105
  exact z_ald_n hX dX12_street_105 rfl (z_gr (c := 12) (j := 0) hX dX12_street_106 rfl inlX12 wm7_16 ⟨rfl, by decide, rfl⟩ (z_iconst hX dX12_street_109 (by decide) (z_iald hX dX12_street_110 (z_ist hX dX12_street_111 (z_ald_n hX dX12_street_113 rfl (z_ild_n hX dX12_street_114 rfl (z_ild hX dX12_street_115 (z_iconst hX dX12_street_117 (by decide) (z_iconst hX dX12_street_118 (by decide) (z_iconst hX dX12_street_119 (by decide) (z_cv (c := 12) hX hr dX12_street_120 hjX12_paper mwX12_paper rfl wm21_8 ⟨wm21_9, wm21_10⟩ ⟨Nat.le_of_ble_eq_true rfl, Nat.le_of_ble_eq_true rfl⟩ (z_ist hX dX12_street_123 (z_ald_n hX dX12_street_125 rfl (z_gr (c := 12) (j := 0) hX dX12_street_126 rfl inlX12 wm7_16 ⟨rfl, by decide, rfl⟩ (z_iconst hX dX12_street_129 (by decide) (z_dup2 hX dX12_street_130 (z_iald hX dX12_street_131 (z_iconst hX dX12_street_132 (by decide) (z_iadd hX dX12_street_133 (z_iast hX dX12_street_134 (z_ald_n hX dX12_street_135 rfl (z_gr (c := 12) (j := 0) hX dX12_street_136 rfl inlX12 wm7_16 ⟨rfl, by decide, rfl⟩ (z_sipush hX dX12_street_139 (by decide) ((tX12_street_142 hX hr hq)))))))))))))))))))))))))
def kX12_street_102 (r : pu_R) : pu_K := s_push (.int (-6)) (s_iret)
theorem vX12_street_102 : pu_cok2 kX12_street_102 := fun rf r hr => by
  unfold kX12_street_102
  exact v_pi (v_iret)
theorem tX12_street_102 {X : pu_X} {r : pu_R} (hX : pu_H X mdX12_street) (hr : pu_P X.2.1 X.2.2.2.2.2.2.2.2.2.2.1 r) (hq : ∀ i pc, pu_lp i = some (260, pc) → pu_S X mdX12_street pc (r i)) : pu_S X mdX12_street 102 (kX12_street_102 r) := by
  unfold kX12_street_102
  exact z_bipush hX dX12_street_102 (by decide) (z_iret hX dX12_street_104 rfl)
def kX12_street_79 (r : pu_R) : pu_K := s_ald 0 (s_gr 12 0 (s_push (.int (3)) (s_ai 1 (s_push (.int (24)) (s_iceq (kX12_street_102 r) (s_ald 0 (s_gr 12 0 (s_push (.int (5)) (s_ai 1 (s_push (.int (200)) (s_icne (kX12_street_105 r) ((kX12_street_102 r)))))))))))))
theorem vX12_street_79 : pu_cok2 kX12_street_79 := fun rf r hr => by
  unfold kX12_street_79
  exact v_ald (v_gr (v_pi (v_ai (v_pi (v_iceq (vX12_street_102 rf r hr) (v_ald (v_gr (v_pi (v_ai (v_pi (v_icne (vX12_street_105 rf r hr) ((vX12_street_102 rf r hr)))))))))))))
theorem tX12_street_79 {X : pu_X} {r : pu_R} (hX : pu_H X mdX12_street) (hr : pu_P X.2.1 X.2.2.2.2.2.2.2.2.2.2.1 r) (hq : ∀ i pc, pu_lp i = some (260, pc) → pu_S X mdX12_street pc (r i)) : pu_S X mdX12_street 79 (kX12_street_79 r) := by
  unfold kX12_street_79
  exact z_ald_n hX dX12_street_79 rfl (z_gr (c := 12) (j := 0) hX dX12_street_80 rfl inlX12 wm7_16 ⟨rfl, by decide, rfl⟩ (z_iconst hX dX12_street_83 (by decide) (z_iald hX dX12_street_84 (z_bipush hX dX12_street_85 (by decide) (z_iceq hX dX12_street_87 (by decide) (tX12_street_102 hX hr hq) (z_ald_n hX dX12_street_90 rfl (z_gr (c := 12) (j := 0) hX dX12_street_91 rfl inlX12 wm7_16 ⟨rfl, by decide, rfl⟩ (z_iconst hX dX12_street_94 (by decide) (z_iald hX dX12_street_95 (z_sipush hX dX12_street_96 (by decide) (z_icne hX dX12_street_99 (by decide) (tX12_street_105 hX hr hq) ((tX12_street_102 hX hr hq)))))))))))))
def kX12_street_67 (r : pu_R) : pu_K := s_ald 0 (s_ild 1 (s_ild 3 (s_cv r 259 2 12 (s_ifeq (kX12_street_79 r) (s_push (.int (-5)) (s_iret))))))
theorem vX12_street_67 : pu_cok2 kX12_street_67 := fun rf r hr => by
  unfold kX12_street_67
  exact v_ald (v_ild (v_ild (v_cv hr (v_ifeq (vX12_street_79 rf r hr) (v_pi (v_iret))))))
theorem tX12_street_67 {X : pu_X} {r : pu_R} (hX : pu_H X mdX12_street) (hr : pu_P X.2.1 X.2.2.2.2.2.2.2.2.2.2.1 r) (hq : ∀ i pc, pu_lp i = some (260, pc) → pu_S X mdX12_street pc (r i)) : pu_S X mdX12_street 67 (kX12_street_67 r) := by
  unfold kX12_street_67
  exact z_ald_n hX dX12_street_67 rfl (z_ild_n hX dX12_street_68 rfl (z_ild_n hX dX12_street_69 rfl (z_cv (c := 12) hX hr dX12_street_70 hjX12_isTaken mwX12_isTaken rfl wm21_0 ⟨wm21_1, wm21_2⟩ ⟨Nat.le_of_ble_eq_true rfl, Nat.le_of_ble_eq_true rfl⟩ (z_ifeq hX dX12_street_73 (by decide) (tX12_street_79 hX hr hq) (z_bipush hX dX12_street_76 (by decide) (z_iret hX dX12_street_78 rfl))))))
def kX12_street_54 (r : pu_R) : pu_K := s_ild 3 (s_ald 0 (s_push (.int (-1)) (s_ild 1 (s_cv r 255 2 12 (s_icge (kX12_street_67 r) (s_push (.int (-3)) (s_iret)))))))
theorem vX12_street_54 : pu_cok2 kX12_street_54 := fun rf r hr => by
  unfold kX12_street_54
  exact v_ild (v_ald (v_pi (v_ild (v_cv hr (v_icge (vX12_street_67 rf r hr) (v_pi (v_iret)))))))
theorem tX12_street_54 {X : pu_X} {r : pu_R} (hX : pu_H X mdX12_street) (hr : pu_P X.2.1 X.2.2.2.2.2.2.2.2.2.2.1 r) (hq : ∀ i pc, pu_lp i = some (260, pc) → pu_S X mdX12_street pc (r i)) : pu_S X mdX12_street 54 (kX12_street_54 r) := by
  unfold kX12_street_54
  exact z_ild_n hX dX12_street_54 rfl (z_ald_n hX dX12_street_55 rfl (z_iconst hX dX12_street_56 (by decide) (z_ild_n hX dX12_street_57 rfl (z_cv (c := 12) hX hr dX12_street_58 hjX12_latest mwX12_latest rfl wm20_20 ⟨wm20_21, wm20_22⟩ ⟨Nat.le_of_ble_eq_true rfl, Nat.le_of_ble_eq_true rfl⟩ (z_icge hX dX12_street_61 (by decide) (tX12_street_67 hX hr hq) (z_bipush hX dX12_street_64 (by decide) (z_iret hX dX12_street_66 rfl)))))))
def kX12_street_51 (r : pu_R) : pu_K := s_push (.int (-2)) (s_iret)
theorem vX12_street_51 : pu_cok2 kX12_street_51 := fun rf r hr => by
  unfold kX12_street_51
  exact v_pi (v_iret)
theorem tX12_street_51 {X : pu_X} {r : pu_R} (hX : pu_H X mdX12_street) (hr : pu_P X.2.1 X.2.2.2.2.2.2.2.2.2.2.1 r) (hq : ∀ i pc, pu_lp i = some (260, pc) → pu_S X mdX12_street pc (r i)) : pu_S X mdX12_street 51 (kX12_street_51 r) := by
  unfold kX12_street_51
  exact z_bipush hX dX12_street_51 (by decide) (z_iret hX dX12_street_53 rfl)
def kX12_street_30 (r : pu_R) : pu_K := s_ild 4 (s_ifeq (kX12_street_51 r) (s_ild 2 (s_iflt (kX12_street_51 r) (s_ild 2 (s_push (.int (3)) (s_icgt (kX12_street_51 r) (s_ild 3 (s_cs r 234 1 (s_ifne (kX12_street_54 r) ((kX12_street_51 r)))))))))))
theorem vX12_street_30 : pu_cok2 kX12_street_30 := fun rf r hr => by
  unfold kX12_street_30
  exact v_ild (v_ifeq (vX12_street_51 rf r hr) (v_ild (v_iflt (vX12_street_51 rf r hr) (v_ild (v_pi (v_icgt (vX12_street_51 rf r hr) (v_ild (v_cs hr (v_ifne (vX12_street_54 rf r hr) ((vX12_street_51 rf r hr)))))))))))
theorem tX12_street_30 {X : pu_X} {r : pu_R} (hX : pu_H X mdX12_street) (hr : pu_P X.2.1 X.2.2.2.2.2.2.2.2.2.2.1 r) (hq : ∀ i pc, pu_lp i = some (260, pc) → pu_S X mdX12_street pc (r i)) : pu_S X mdX12_street 30 (kX12_street_30 r) := by
  unfold kX12_street_30
  exact z_ild hX dX12_street_30 (z_ifeq hX dX12_street_32 (by decide) (tX12_street_51 hX hr hq) (z_ild_n hX dX12_street_35 rfl (z_iflt hX dX12_street_36 (by decide) (tX12_street_51 hX hr hq) (z_ild_n hX dX12_street_39 rfl (z_iconst hX dX12_street_40 (by decide) (z_icgt hX dX12_street_41 (by decide) (tX12_street_51 hX hr hq) (z_ild_n hX dX12_street_44 rfl (z_cs hX hr dX12_street_45 hjX12_isDay mwX12_isDay wm11_5 wm11_6 ⟨Nat.le_of_ble_eq_true rfl, Nat.le_of_ble_eq_true rfl⟩ (z_ifne hX dX12_street_48 (by decide) (tX12_street_54 hX hr hq) ((tX12_street_51 hX hr hq)))))))))))
def kX12_street_28 (r : pu_R) : pu_K := s_push (.int (-1)) (s_iret)
theorem vX12_street_28 : pu_cok2 kX12_street_28 := fun rf r hr => by
  unfold kX12_street_28
  exact v_pi (v_iret)
theorem tX12_street_28 {X : pu_X} {r : pu_R} (hX : pu_H X mdX12_street) (hr : pu_P X.2.1 X.2.2.2.2.2.2.2.2.2.2.1 r) (hq : ∀ i pc, pu_lp i = some (260, pc) → pu_S X mdX12_street pc (r i)) : pu_S X mdX12_street 28 (kX12_street_28 r) := by
  unfold kX12_street_28
  exact z_iconst hX dX12_street_28 (by decide) (z_iret hX dX12_street_29 rfl)
def kX12_street_0 (r : pu_R) : pu_K := s_ald 0 (s_cv r 244 0 12 (s_ist 4 (s_ald 0 (s_ild 1 (s_cv r 252 1 12 (s_ifeq (kX12_street_28 r) (s_ald 0 (s_gr 12 0 (s_push (.int (7520)) (s_ild 1 (s_iadd (s_ai 1 (s_push (.int (-1)) (s_iceq (kX12_street_30 r) ((kX12_street_28 r))))))))))))))))
theorem vX12_street_0 : pu_cok2 kX12_street_0 := fun rf r hr => by
  unfold kX12_street_0
  exact v_ald (v_cv hr (v_ist (v_ald (v_ild (v_cv hr (v_ifeq (vX12_street_28 rf r hr) (v_ald (v_gr (v_pi (v_ild (v_iadd (v_ai (v_pi (v_iceq (vX12_street_30 rf r hr) ((vX12_street_28 rf r hr))))))))))))))))
theorem tX12_street_0 {X : pu_X} {r : pu_R} (hX : pu_H X mdX12_street) (hr : pu_P X.2.1 X.2.2.2.2.2.2.2.2.2.2.1 r) (hq : ∀ i pc, pu_lp i = some (260, pc) → pu_S X mdX12_street pc (r i)) : pu_S X mdX12_street 0 (kX12_street_0 r) := by
  unfold kX12_street_0
  exact z_ald_n hX dX12_street_0 rfl (z_cv (c := 12) hX hr dX12_street_1 hjX12_readsName mwX12_readsName rfl wm14_20 ⟨wm14_21, wm14_22⟩ ⟨Nat.le_of_ble_eq_true rfl, Nat.le_of_ble_eq_true rfl⟩ (z_ist hX dX12_street_4 (z_ald_n hX dX12_street_6 rfl (z_ild_n hX dX12_street_7 rfl (z_cv (c := 12) hX hr dX12_street_8 hjX12_isTown mwX12_isTown rfl wm20_16 ⟨wm20_17, wm20_18⟩ ⟨Nat.le_of_ble_eq_true rfl, Nat.le_of_ble_eq_true rfl⟩ (z_ifeq hX dX12_street_11 (by decide) (tX12_street_28 hX hr hq) (z_ald_n hX dX12_street_14 rfl (z_gr (c := 12) (j := 0) hX dX12_street_15 rfl inlX12 wm7_16 ⟨rfl, by decide, rfl⟩ (z_sipush hX dX12_street_18 (by decide) (z_ild_n hX dX12_street_21 rfl (z_iadd hX dX12_street_22 (z_iald hX dX12_street_23 (z_iconst hX dX12_street_24 (by decide) (z_iceq hX dX12_street_25 (by decide) (tX12_street_30 hX hr hq) ((tX12_street_28 hX hr hq))))))))))))))))
def kX12_rename_115 (r : pu_R) : pu_K := s_push (.int (4)) (s_iadd (s_ild 6 (s_wi 1 (s_ald 0 (s_ild 1 (s_ild 4 (s_push (.int (8)) (s_ild 6 (s_iadd (s_ild 6 (s_cv r 258 4 12 (s_push (.int (1)) (s_iret)))))))))))))
theorem vX12_rename_115 : pu_cok2 kX12_rename_115 := fun rf r hr => by
  unfold kX12_rename_115
  exact v_pi (v_iadd (v_ild (v_wi (v_ald (v_ild (v_ild (v_pi (v_ild (v_iadd (v_ild (v_cv hr (v_pi (v_iret)))))))))))))
theorem tX12_rename_115 {X : pu_X} {r : pu_R} (hX : pu_H X mdX12_rename) (hr : pu_P X.2.1 X.2.2.2.2.2.2.2.2.2.2.1 r) (hq : ∀ i pc, pu_lp i = some (261, pc) → pu_S X mdX12_rename pc (r i)) : pu_S X mdX12_rename 115 (kX12_rename_115 r) := by
  unfold kX12_rename_115
  exact z_iconst hX dX12_rename_115 (by decide) (z_iadd hX dX12_rename_116 (z_ild hX dX12_rename_117 (z_iast hX dX12_rename_119 (z_ald_n hX dX12_rename_120 rfl (z_ild_n hX dX12_rename_121 rfl (z_ild hX dX12_rename_122 (z_bipush hX dX12_rename_124 (by decide) (z_ild hX dX12_rename_126 (z_iadd hX dX12_rename_128 (z_ild hX dX12_rename_129 (z_cv (c := 12) hX hr dX12_rename_131 hjX12_openName_ mwX12_openName_ rfl wm21_12 ⟨wm21_13, wm21_14⟩ ⟨Nat.le_of_ble_eq_true rfl, Nat.le_of_ble_eq_true rfl⟩ (z_iconst hX dX12_rename_134 (by decide) (z_iret hX dX12_rename_135 rfl)))))))))))))
def kX12_rename_76 (r : pu_R) : pu_K := s_ald 0 (s_ild 1 (s_cv r 253 1 12 (s_ist 5 (s_ald 0 (s_ild 2 (s_ild 1 (s_push (.int (-1)) (s_push (.int (-1)) (s_push (.int (-1)) (s_cv r 257 5 12 (s_ist 6 (s_ald 0 (s_push (.int (8)) (s_ild 6 (s_iadd (s_cv r 247 1 12 (s_ald 0 (s_gr 12 0 (s_push (.int (7552)) (s_push (.int (5)) (s_ild 5 (s_imul (s_iadd ((kX12_rename_115 r)))))))))))))))))))))))))
theorem vX12_rename_76 : pu_cok2 kX12_rename_76 := fun rf r hr => by
  unfold kX12_rename_76
  exact v_ald (v_ild (v_cv hr (v_ist (v_ald (v_ild (v_ild (v_pi (v_pi (v_pi (v_cv hr (v_ist (v_ald (v_pi (v_ild (v_iadd (v_cv hr (v_ald (v_gr (v_pi (v_pi (v_ild (v_imul (v_iadd ((vX12_rename_115 rf r hr)))))))))))))))))))))))))
theorem tX12_rename_76 {X : pu_X} {r : pu_R} (hX : pu_H X mdX12_rename) (hr : pu_P X.2.1 X.2.2.2.2.2.2.2.2.2.2.1 r) (hq : ∀ i pc, pu_lp i = some (261, pc) → pu_S X mdX12_rename pc (r i)) : pu_S X mdX12_rename 76 (kX12_rename_76 r) := by
  unfold kX12_rename_76
  exact z_ald_n hX dX12_rename_76 rfl (z_ild_n hX dX12_rename_77 rfl (z_cv (c := 12) hX hr dX12_rename_78 hjX12_openName mwX12_openName rfl wm29_1 ⟨wm29_2, wm29_3⟩ ⟨Nat.le_of_ble_eq_true rfl, Nat.le_of_ble_eq_true rfl⟩ (z_ist hX dX12_rename_81 (z_ald_n hX dX12_rename_83 rfl (z_ild_n hX dX12_rename_84 rfl (z_ild_n hX dX12_rename_85 rfl (z_iconst hX dX12_rename_86 (by decide) (z_iconst hX dX12_rename_87 (by decide) (z_iconst hX dX12_rename_88 (by decide) (z_cv (c := 12) hX hr dX12_rename_89 hjX12_paper mwX12_paper rfl wm21_8 ⟨wm21_9, wm21_10⟩ ⟨Nat.le_of_ble_eq_true rfl, Nat.le_of_ble_eq_true rfl⟩ (z_ist hX dX12_rename_92 (z_ald_n hX dX12_rename_94 rfl (z_bipush hX dX12_rename_95 (by decide) (z_ild hX dX12_rename_97 (z_iadd hX dX12_rename_99 (z_cv (c := 12) hX hr dX12_rename_100 hjX12_keepName mwX12_keepName rfl wm15_23 ⟨wm16_0, wm16_1⟩ ⟨Nat.le_of_ble_eq_true rfl, Nat.le_of_ble_eq_true rfl⟩ (z_ald_n hX dX12_rename_103 rfl (z_gr (c := 12) (j := 0) hX dX12_rename_104 rfl inlX12 wm7_16 ⟨rfl, by decide, rfl⟩ (z_sipush hX dX12_rename_107 (by decide) (z_iconst hX dX12_rename_110 (by decide) (z_ild hX dX12_rename_111 (z_imul hX dX12_rename_113 (z_iadd hX dX12_rename_114 ((tX12_rename_115 hX hr hq)))))))))))))))))))))))))
def kX12_rename_61 (r : pu_R) : pu_K := s_ald 0 (s_gr 12 0 (s_push (.int (5)) (s_ai 1 (s_push (.int (200)) (s_icne (kX12_rename_76 r) (s_push (.int (-6)) (s_iret)))))))
theorem vX12_rename_61 : pu_cok2 kX12_rename_61 := fun rf r hr => by
  unfold kX12_rename_61
  exact v_ald (v_gr (v_pi (v_ai (v_pi (v_icne (vX12_rename_76 rf r hr) (v_pi (v_iret)))))))
theorem tX12_rename_61 {X : pu_X} {r : pu_R} (hX : pu_H X mdX12_rename) (hr : pu_P X.2.1 X.2.2.2.2.2.2.2.2.2.2.1 r) (hq : ∀ i pc, pu_lp i = some (261, pc) → pu_S X mdX12_rename pc (r i)) : pu_S X mdX12_rename 61 (kX12_rename_61 r) := by
  unfold kX12_rename_61
  exact z_ald_n hX dX12_rename_61 rfl (z_gr (c := 12) (j := 0) hX dX12_rename_62 rfl inlX12 wm7_16 ⟨rfl, by decide, rfl⟩ (z_iconst hX dX12_rename_65 (by decide) (z_iald hX dX12_rename_66 (z_sipush hX dX12_rename_67 (by decide) (z_icne hX dX12_rename_70 (by decide) (tX12_rename_76 hX hr hq) (z_bipush hX dX12_rename_73 (by decide) (z_iret hX dX12_rename_75 rfl)))))))
def kX12_rename_41 (r : pu_R) : pu_K := s_ald 0 (s_ild 1 (s_cv r 254 1 12 (s_ist 4 (s_ald 0 (s_ild 4 (s_ild 2 (s_cv r 259 2 12 (s_ifeq (kX12_rename_61 r) (s_push (.int (-5)) (s_iret))))))))))
theorem vX12_rename_41 : pu_cok2 kX12_rename_41 := fun rf r hr => by
  unfold kX12_rename_41
  exact v_ald (v_ild (v_cv hr (v_ist (v_ald (v_ild (v_ild (v_cv hr (v_ifeq (vX12_rename_61 rf r hr) (v_pi (v_iret))))))))))
theorem tX12_rename_41 {X : pu_X} {r : pu_R} (hX : pu_H X mdX12_rename) (hr : pu_P X.2.1 X.2.2.2.2.2.2.2.2.2.2.1 r) (hq : ∀ i pc, pu_lp i = some (261, pc) → pu_S X mdX12_rename pc (r i)) : pu_S X mdX12_rename 41 (kX12_rename_41 r) := by
  unfold kX12_rename_41
  exact z_ald_n hX dX12_rename_41 rfl (z_ild_n hX dX12_rename_42 rfl (z_cv (c := 12) hX hr dX12_rename_43 hjX12_townOf mwX12_townOf rfl wm28_21 ⟨wm28_22, wm28_23⟩ ⟨Nat.le_of_ble_eq_true rfl, Nat.le_of_ble_eq_true rfl⟩ (z_ist hX dX12_rename_46 (z_ald_n hX dX12_rename_48 rfl (z_ild hX dX12_rename_49 (z_ild_n hX dX12_rename_51 rfl (z_cv (c := 12) hX hr dX12_rename_52 hjX12_isTaken mwX12_isTaken rfl wm21_0 ⟨wm21_1, wm21_2⟩ ⟨Nat.le_of_ble_eq_true rfl, Nat.le_of_ble_eq_true rfl⟩ (z_ifeq hX dX12_rename_55 (by decide) (tX12_rename_61 hX hr hq) (z_bipush hX dX12_rename_58 (by decide) (z_iret hX dX12_rename_60 rfl))))))))))
def kX12_rename_29 (r : pu_R) : pu_K := s_ald 0 (s_ild 1 (s_ild 2 (s_cv r 256 2 12 (s_ifeq (kX12_rename_41 r) (s_push (.int (-3)) (s_iret))))))
theorem vX12_rename_29 : pu_cok2 kX12_rename_29 := fun rf r hr => by
  unfold kX12_rename_29
  exact v_ald (v_ild (v_ild (v_cv hr (v_ifeq (vX12_rename_41 rf r hr) (v_pi (v_iret))))))
theorem tX12_rename_29 {X : pu_X} {r : pu_R} (hX : pu_H X mdX12_rename) (hr : pu_P X.2.1 X.2.2.2.2.2.2.2.2.2.2.1 r) (hq : ∀ i pc, pu_lp i = some (261, pc) → pu_S X mdX12_rename pc (r i)) : pu_S X mdX12_rename 29 (kX12_rename_29 r) := by
  unfold kX12_rename_29
  exact z_ald_n hX dX12_rename_29 rfl (z_ild_n hX dX12_rename_30 rfl (z_ild_n hX dX12_rename_31 rfl (z_cv (c := 12) hX hr dX12_rename_32 hjX12_isEarly mwX12_isEarly rfl wm28_17 ⟨wm28_18, wm28_19⟩ ⟨Nat.le_of_ble_eq_true rfl, Nat.le_of_ble_eq_true rfl⟩ (z_ifeq hX dX12_rename_35 (by decide) (tX12_rename_41 hX hr hq) (z_bipush hX dX12_rename_38 (by decide) (z_iret hX dX12_rename_40 rfl))))))
def kX12_rename_26 (r : pu_R) : pu_K := s_push (.int (-2)) (s_iret)
theorem vX12_rename_26 : pu_cok2 kX12_rename_26 := fun rf r hr => by
  unfold kX12_rename_26
  exact v_pi (v_iret)
theorem tX12_rename_26 {X : pu_X} {r : pu_R} (hX : pu_H X mdX12_rename) (hr : pu_P X.2.1 X.2.2.2.2.2.2.2.2.2.2.1 r) (hq : ∀ i pc, pu_lp i = some (261, pc) → pu_S X mdX12_rename pc (r i)) : pu_S X mdX12_rename 26 (kX12_rename_26 r) := by
  unfold kX12_rename_26
  exact z_bipush hX dX12_rename_26 (by decide) (z_iret hX dX12_rename_28 rfl)
def kX12_rename_15 (r : pu_R) : pu_K := s_ild 3 (s_ifeq (kX12_rename_26 r) (s_ild 2 (s_cs r 234 1 (s_ifne (kX12_rename_29 r) ((kX12_rename_26 r))))))
theorem vX12_rename_15 : pu_cok2 kX12_rename_15 := fun rf r hr => by
  unfold kX12_rename_15
  exact v_ild (v_ifeq (vX12_rename_26 rf r hr) (v_ild (v_cs hr (v_ifne (vX12_rename_29 rf r hr) ((vX12_rename_26 rf r hr))))))
theorem tX12_rename_15 {X : pu_X} {r : pu_R} (hX : pu_H X mdX12_rename) (hr : pu_P X.2.1 X.2.2.2.2.2.2.2.2.2.2.1 r) (hq : ∀ i pc, pu_lp i = some (261, pc) → pu_S X mdX12_rename pc (r i)) : pu_S X mdX12_rename 15 (kX12_rename_15 r) := by
  unfold kX12_rename_15
  exact z_ild_n hX dX12_rename_15 rfl (z_ifeq hX dX12_rename_16 (by decide) (tX12_rename_26 hX hr hq) (z_ild_n hX dX12_rename_19 rfl (z_cs hX hr dX12_rename_20 hjX12_isDay mwX12_isDay wm11_5 wm11_6 ⟨Nat.le_of_ble_eq_true rfl, Nat.le_of_ble_eq_true rfl⟩ (z_ifne hX dX12_rename_23 (by decide) (tX12_rename_29 hX hr hq) ((tX12_rename_26 hX hr hq))))))
def kX12_rename_0 (r : pu_R) : pu_K := s_ald 0 (s_cv r 244 0 12 (s_ist 3 (s_ald 0 (s_ild 1 (s_cv r 251 1 12 (s_ifne (kX12_rename_15 r) (s_push (.int (-1)) (s_iret))))))))
theorem vX12_rename_0 : pu_cok2 kX12_rename_0 := fun rf r hr => by
  unfold kX12_rename_0
  exact v_ald (v_cv hr (v_ist (v_ald (v_ild (v_cv hr (v_ifne (vX12_rename_15 rf r hr) (v_pi (v_iret))))))))
theorem tX12_rename_0 {X : pu_X} {r : pu_R} (hX : pu_H X mdX12_rename) (hr : pu_P X.2.1 X.2.2.2.2.2.2.2.2.2.2.1 r) (hq : ∀ i pc, pu_lp i = some (261, pc) → pu_S X mdX12_rename pc (r i)) : pu_S X mdX12_rename 0 (kX12_rename_0 r) := by
  unfold kX12_rename_0
  exact z_ald_n hX dX12_rename_0 rfl (z_cv (c := 12) hX hr dX12_rename_1 hjX12_readsName mwX12_readsName rfl wm14_20 ⟨wm14_21, wm14_22⟩ ⟨Nat.le_of_ble_eq_true rfl, Nat.le_of_ble_eq_true rfl⟩ (z_ist_n hX dX12_rename_4 rfl (z_ald_n hX dX12_rename_5 rfl (z_ild_n hX dX12_rename_6 rfl (z_cv (c := 12) hX hr dX12_rename_7 hjX12_isStreet mwX12_isStreet rfl wm28_6 ⟨wm28_7, wm28_8⟩ ⟨Nat.le_of_ble_eq_true rfl, Nat.le_of_ble_eq_true rfl⟩ (z_ifne hX dX12_rename_10 (by decide) (tX12_rename_15 hX hr hq) (z_iconst hX dX12_rename_13 (by decide) (z_iret hX dX12_rename_14 rfl))))))))
def kX12_join_395 (r : pu_R) : pu_K := s_ild 5 (s_iret)
theorem vX12_join_395 : pu_cok2 kX12_join_395 := fun rf r hr => by
  unfold kX12_join_395
  exact v_ild (v_iret)
theorem tX12_join_395 {X : pu_X} {r : pu_R} (hX : pu_H X mdX12_join) (hr : pu_P X.2.1 X.2.2.2.2.2.2.2.2.2.2.1 r) (hq : ∀ i pc, pu_lp i = some (262, pc) → pu_S X mdX12_join pc (r i)) : pu_S X mdX12_join 395 (kX12_join_395 r) := by
  unfold kX12_join_395
  exact z_ild hX dX12_join_395 (z_iret hX dX12_join_397 rfl)
def kX12_join_389 (r : pu_R) : pu_K := s_inc 8 (1) ((r 455))
theorem vX12_join_389 : pu_cok2 kX12_join_389 := fun rf r hr => by
  unfold kX12_join_389
  exact v_inc ((hr 455))
theorem tX12_join_389 {X : pu_X} {r : pu_R} (hX : pu_H X mdX12_join) (hr : pu_P X.2.1 X.2.2.2.2.2.2.2.2.2.2.1 r) (hq : ∀ i pc, pu_lp i = some (262, pc) → pu_S X mdX12_join pc (r i)) : pu_S X mdX12_join 389 (kX12_join_389 r) := by
  unfold kX12_join_389
  exact z_inc hX dX12_join_389 (by decide) ((z_goto hX dX12_join_392 (by decide) (hq 455 316 hl455)))
def kX12_join_380 (r : pu_R) : pu_K := s_iadd (s_push (.int (2)) (s_iadd (s_ai 1 (s_ild 7 (s_cv r 258 4 12 ((kX12_join_389 r)))))))
theorem vX12_join_380 : pu_cok2 kX12_join_380 := fun rf r hr => by
  unfold kX12_join_380
  exact v_iadd (v_pi (v_iadd (v_ai (v_ild (v_cv hr ((vX12_join_389 rf r hr)))))))
theorem tX12_join_380 {X : pu_X} {r : pu_R} (hX : pu_H X mdX12_join) (hr : pu_P X.2.1 X.2.2.2.2.2.2.2.2.2.2.1 r) (hq : ∀ i pc, pu_lp i = some (262, pc) → pu_S X mdX12_join pc (r i)) : pu_S X mdX12_join 380 (kX12_join_380 r) := by
  unfold kX12_join_380
  exact z_iadd hX dX12_join_380 (z_iconst hX dX12_join_381 (by decide) (z_iadd hX dX12_join_382 (z_iald hX dX12_join_383 (z_ild hX dX12_join_384 (z_cv (c := 12) hX hr dX12_join_386 hjX12_openName_ mwX12_openName_ rfl wm21_12 ⟨wm21_13, wm21_14⟩ ⟨Nat.le_of_ble_eq_true rfl, Nat.le_of_ble_eq_true rfl⟩ ((tX12_join_389 hX hr hq)))))))
def kX12_join_340 (r : pu_R) : pu_K := s_ald 0 (s_ild 8 (s_cv r 253 1 12 (s_ist 9 (s_ald 0 (s_gr 12 0 (s_push (.int (7552)) (s_push (.int (5)) (s_ild 9 (s_imul (s_iadd (s_push (.int (4)) (s_iadd (s_ild 7 (s_wi 1 (s_ald 0 (s_ild 8 (s_ild 1 (s_ald 0 (s_gr 12 0 (s_push (.int (7552)) (s_push (.int (5)) (s_ild 9 (s_imul ((kX12_join_380 r)))))))))))))))))))))))))
theorem vX12_join_340 : pu_cok2 kX12_join_340 := fun rf r hr => by
  unfold kX12_join_340
  exact v_ald (v_ild (v_cv hr (v_ist (v_ald (v_gr (v_pi (v_pi (v_ild (v_imul (v_iadd (v_pi (v_iadd (v_ild (v_wi (v_ald (v_ild (v_ild (v_ald (v_gr (v_pi (v_pi (v_ild (v_imul ((vX12_join_380 rf r hr)))))))))))))))))))))))))
theorem tX12_join_340 {X : pu_X} {r : pu_R} (hX : pu_H X mdX12_join) (hr : pu_P X.2.1 X.2.2.2.2.2.2.2.2.2.2.1 r) (hq : ∀ i pc, pu_lp i = some (262, pc) → pu_S X mdX12_join pc (r i)) : pu_S X mdX12_join 340 (kX12_join_340 r) := by
  unfold kX12_join_340
  exact z_ald_n hX dX12_join_340 rfl (z_ild hX dX12_join_341 (z_cv (c := 12) hX hr dX12_join_343 hjX12_openName mwX12_openName rfl wm29_1 ⟨wm29_2, wm29_3⟩ ⟨Nat.le_of_ble_eq_true rfl, Nat.le_of_ble_eq_true rfl⟩ (z_ist hX dX12_join_346 (z_ald_n hX dX12_join_348 rfl (z_gr (c := 12) (j := 0) hX dX12_join_349 rfl inlX12 wm7_16 ⟨rfl, by decide, rfl⟩ (z_sipush hX dX12_join_352 (by decide) (z_iconst hX dX12_join_355 (by decide) (z_ild hX dX12_join_356 (z_imul hX dX12_join_358 (z_iadd hX dX12_join_359 (z_iconst hX dX12_join_360 (by decide) (z_iadd hX dX12_join_361 (z_ild hX dX12_join_362 (z_iast hX dX12_join_364 (z_ald_n hX dX12_join_365 rfl (z_ild hX dX12_join_366 (z_ild_n hX dX12_join_368 rfl (z_ald_n hX dX12_join_369 rfl (z_gr (c := 12) (j := 0) hX dX12_join_370 rfl inlX12 wm7_16 ⟨rfl, by decide, rfl⟩ (z_sipush hX dX12_join_373 (by decide) (z_iconst hX dX12_join_376 (by decide) (z_ild hX dX12_join_377 (z_imul hX dX12_join_379 ((tX12_join_380 hX hr hq)))))))))))))))))))))))))
def kX12_join_316 (r : pu_R) : pu_K := s_ild 8 (s_ald 0 (s_gr 12 0 (s_push (.int (3)) (s_ai 1 (s_icge (kX12_join_395 r) (s_ald 0 (s_ild 8 (s_cv r 254 1 12 (s_ild 2 (s_iceq (kX12_join_340 r) ((kX12_join_389 r))))))))))))
theorem vX12_join_316 : pu_cok2 kX12_join_316 := fun rf r hr => by
  unfold kX12_join_316
  exact v_ild (v_ald (v_gr (v_pi (v_ai (v_icge (vX12_join_395 rf r hr) (v_ald (v_ild (v_cv hr (v_ild (v_iceq (vX12_join_340 rf r hr) ((vX12_join_389 rf r hr))))))))))))
theorem tX12_join_316 {X : pu_X} {r : pu_R} (hX : pu_H X mdX12_join) (hr : pu_P X.2.1 X.2.2.2.2.2.2.2.2.2.2.1 r) (hq : ∀ i pc, pu_lp i = some (262, pc) → pu_S X mdX12_join pc (r i)) : pu_S X mdX12_join 316 (kX12_join_316 r) := by
  unfold kX12_join_316
  exact z_ild hX dX12_join_316 (z_ald_n hX dX12_join_318 rfl (z_gr (c := 12) (j := 0) hX dX12_join_319 rfl inlX12 wm7_16 ⟨rfl, by decide, rfl⟩ (z_iconst hX dX12_join_322 (by decide) (z_iald hX dX12_join_323 (z_icge hX dX12_join_324 (by decide) (tX12_join_395 hX hr hq) (z_ald_n hX dX12_join_327 rfl (z_ild hX dX12_join_328 (z_cv (c := 12) hX hr dX12_join_330 hjX12_townOf mwX12_townOf rfl wm28_21 ⟨wm28_22, wm28_23⟩ ⟨Nat.le_of_ble_eq_true rfl, Nat.le_of_ble_eq_true rfl⟩ (z_ild_n hX dX12_join_333 rfl (z_iceq hX dX12_join_334 (by decide) (tX12_join_340 hX hr hq) ((z_goto hX dX12_join_337 (by decide) (tX12_join_389 hX hr hq)))))))))))))
def kX12_join_290 (r : pu_R) : pu_K := s_ald 0 (s_ild 3 (s_push (.int (-1)) (s_push (.int (-1)) (s_ild 1 (s_ild 2 (s_cv r 257 5 12 (s_ist 7 (s_ald 0 (s_gr 12 0 (s_push (.int (7520)) (s_ild 2 (s_iadd (s_ild 7 (s_wi 1 (s_push (.int (0)) (s_ist 8 ((r 455))))))))))))))))))
theorem vX12_join_290 : pu_cok2 kX12_join_290 := fun rf r hr => by
  unfold kX12_join_290
  exact v_ald (v_ild (v_pi (v_pi (v_ild (v_ild (v_cv hr (v_ist (v_ald (v_gr (v_pi (v_ild (v_iadd (v_ild (v_wi (v_pi (v_ist ((hr 455))))))))))))))))))
theorem tX12_join_290 {X : pu_X} {r : pu_R} (hX : pu_H X mdX12_join) (hr : pu_P X.2.1 X.2.2.2.2.2.2.2.2.2.2.1 r) (hq : ∀ i pc, pu_lp i = some (262, pc) → pu_S X mdX12_join pc (r i)) : pu_S X mdX12_join 290 (kX12_join_290 r) := by
  unfold kX12_join_290
  exact z_ald_n hX dX12_join_290 rfl (z_ild_n hX dX12_join_291 rfl (z_iconst hX dX12_join_292 (by decide) (z_iconst hX dX12_join_293 (by decide) (z_ild_n hX dX12_join_294 rfl (z_ild_n hX dX12_join_295 rfl (z_cv (c := 12) hX hr dX12_join_296 hjX12_paper mwX12_paper rfl wm21_8 ⟨wm21_9, wm21_10⟩ ⟨Nat.le_of_ble_eq_true rfl, Nat.le_of_ble_eq_true rfl⟩ (z_ist hX dX12_join_299 (z_ald_n hX dX12_join_301 rfl (z_gr (c := 12) (j := 0) hX dX12_join_302 rfl inlX12 wm7_16 ⟨rfl, by decide, rfl⟩ (z_sipush hX dX12_join_305 (by decide) (z_ild_n hX dX12_join_308 rfl (z_iadd hX dX12_join_309 (z_ild hX dX12_join_310 (z_iast hX dX12_join_312 (z_iconst hX dX12_join_313 (by decide) (z_ist hX dX12_join_314 ((hq 455 316 hl455))))))))))))))))))
def kX12_join_275 (r : pu_R) : pu_K := s_ald 0 (s_gr 12 0 (s_push (.int (5)) (s_ai 1 (s_push (.int (200)) (s_icne (kX12_join_290 r) (s_push (.int (-6)) (s_iret)))))))
theorem vX12_join_275 : pu_cok2 kX12_join_275 := fun rf r hr => by
  unfold kX12_join_275
  exact v_ald (v_gr (v_pi (v_ai (v_pi (v_icne (vX12_join_290 rf r hr) (v_pi (v_iret)))))))
theorem tX12_join_275 {X : pu_X} {r : pu_R} (hX : pu_H X mdX12_join) (hr : pu_P X.2.1 X.2.2.2.2.2.2.2.2.2.2.1 r) (hq : ∀ i pc, pu_lp i = some (262, pc) → pu_S X mdX12_join pc (r i)) : pu_S X mdX12_join 275 (kX12_join_275 r) := by
  unfold kX12_join_275
  exact z_ald_n hX dX12_join_275 rfl (z_gr (c := 12) (j := 0) hX dX12_join_276 rfl inlX12 wm7_16 ⟨rfl, by decide, rfl⟩ (z_iconst hX dX12_join_279 (by decide) (z_iald hX dX12_join_280 (z_sipush hX dX12_join_281 (by decide) (z_icne hX dX12_join_284 (by decide) (tX12_join_290 hX hr hq) (z_bipush hX dX12_join_287 (by decide) (z_iret hX dX12_join_289 rfl)))))))
def kX12_join_267 (r : pu_R) : pu_K := s_ild 6 (s_ifeq (kX12_join_275 r) (s_push (.int (-5)) (s_iret)))
theorem vX12_join_267 : pu_cok2 kX12_join_267 := fun rf r hr => by
  unfold kX12_join_267
  exact v_ild (v_ifeq (vX12_join_275 rf r hr) (v_pi (v_iret)))
theorem tX12_join_267 {X : pu_X} {r : pu_R} (hX : pu_H X mdX12_join) (hr : pu_P X.2.1 X.2.2.2.2.2.2.2.2.2.2.1 r) (hq : ∀ i pc, pu_lp i = some (262, pc) → pu_S X mdX12_join pc (r i)) : pu_S X mdX12_join 267 (kX12_join_267 r) := by
  unfold kX12_join_267
  exact z_ild hX dX12_join_267 (z_ifeq hX dX12_join_269 (by decide) (tX12_join_275 hX hr hq) (z_bipush hX dX12_join_272 (by decide) (z_iret hX dX12_join_274 rfl)))
def kX12_join_259 (r : pu_R) : pu_K := s_ild 4 (s_ifeq (kX12_join_267 r) (s_push (.int (-3)) (s_iret)))
theorem vX12_join_259 : pu_cok2 kX12_join_259 := fun rf r hr => by
  unfold kX12_join_259
  exact v_ild (v_ifeq (vX12_join_267 rf r hr) (v_pi (v_iret)))
theorem tX12_join_259 {X : pu_X} {r : pu_R} (hX : pu_H X mdX12_join) (hr : pu_P X.2.1 X.2.2.2.2.2.2.2.2.2.2.1 r) (hq : ∀ i pc, pu_lp i = some (262, pc) → pu_S X mdX12_join pc (r i)) : pu_S X mdX12_join 259 (kX12_join_259 r) := by
  unfold kX12_join_259
  exact z_ild hX dX12_join_259 (z_ifeq hX dX12_join_261 (by decide) (tX12_join_267 hX hr hq) (z_bipush hX dX12_join_264 (by decide) (z_iret hX dX12_join_266 rfl)))
def kX12_join_253 (r : pu_R) : pu_K := s_inc 7 (1) ((r 453))
theorem vX12_join_253 : pu_cok2 kX12_join_253 := fun rf r hr => by
  unfold kX12_join_253
  exact v_inc ((hr 453))
theorem tX12_join_253 {X : pu_X} {r : pu_R} (hX : pu_H X mdX12_join) (hr : pu_P X.2.1 X.2.2.2.2.2.2.2.2.2.2.1 r) (hq : ∀ i pc, pu_lp i = some (262, pc) → pu_S X mdX12_join pc (r i)) : pu_S X mdX12_join 253 (kX12_join_253 r) := by
  unfold kX12_join_253
  exact z_inc hX dX12_join_253 (by decide) ((z_goto hX dX12_join_256 (by decide) (hq 453 97 hl453)))
def kX12_join_245 (r : pu_R) : pu_K := s_ist 6 (s_inc 9 (1) ((r 454)))
theorem vX12_join_245 : pu_cok2 kX12_join_245 := fun rf r hr => by
  unfold kX12_join_245
  exact v_ist (v_inc ((hr 454)))
theorem tX12_join_245 {X : pu_X} {r : pu_R} (hX : pu_H X mdX12_join) (hr : pu_P X.2.1 X.2.2.2.2.2.2.2.2.2.2.1 r) (hq : ∀ i pc, pu_lp i = some (262, pc) → pu_S X mdX12_join pc (r i)) : pu_S X mdX12_join 245 (kX12_join_245 r) := by
  unfold kX12_join_245
  exact z_ist hX dX12_join_245 (z_inc hX dX12_join_247 (by decide) ((z_goto hX dX12_join_250 (by decide) (hq 454 169 hl454))))
def kX12_join_244 (r : pu_R) : pu_K := s_push (.int (0)) ((kX12_join_245 r))
theorem vX12_join_244 : pu_cok2 kX12_join_244 := fun rf r hr => by
  unfold kX12_join_244
  exact v_pi ((vX12_join_245 rf r hr))
theorem tX12_join_244 {X : pu_X} {r : pu_R} (hX : pu_H X mdX12_join) (hr : pu_P X.2.1 X.2.2.2.2.2.2.2.2.2.2.1 r) (hq : ∀ i pc, pu_lp i = some (262, pc) → pu_S X mdX12_join pc (r i)) : pu_S X mdX12_join 244 (kX12_join_244 r) := by
  unfold kX12_join_244
  exact z_iconst hX dX12_join_244 (by decide) ((tX12_join_245 hX hr hq))
def kX12_join_240 (r : pu_R) : pu_K := s_push (.int (1)) ((kX12_join_245 r))
theorem vX12_join_240 : pu_cok2 kX12_join_240 := fun rf r hr => by
  unfold kX12_join_240
  exact v_pi ((vX12_join_245 rf r hr))
theorem tX12_join_240 {X : pu_X} {r : pu_R} (hX : pu_H X mdX12_join) (hr : pu_P X.2.1 X.2.2.2.2.2.2.2.2.2.2.1 r) (hq : ∀ i pc, pu_lp i = some (262, pc) → pu_S X mdX12_join pc (r i)) : pu_S X mdX12_join 240 (kX12_join_240 r) := by
  unfold kX12_join_240
  exact z_iconst hX dX12_join_240 (by decide) ((z_goto hX dX12_join_241 (by decide) (tX12_join_245 hX hr hq)))
def kX12_join_213 (r : pu_R) : pu_K := s_iadd (s_ai 1 (s_ald 0 (s_gr 12 0 (s_push (.int (7552)) (s_push (.int (5)) (s_ald 0 (s_ild 7 (s_cv r 253 1 12 (s_imul (s_iadd (s_push (.int (2)) (s_iadd (s_ai 1 (s_cv r 246 2 12 (s_ifeq (kX12_join_244 r) ((kX12_join_240 r)))))))))))))))))
theorem vX12_join_213 : pu_cok2 kX12_join_213 := fun rf r hr => by
  unfold kX12_join_213
  exact v_iadd (v_ai (v_ald (v_gr (v_pi (v_pi (v_ald (v_ild (v_cv hr (v_imul (v_iadd (v_pi (v_iadd (v_ai (v_cv hr (v_ifeq (vX12_join_244 rf r hr) ((vX12_join_240 rf r hr)))))))))))))))))
theorem tX12_join_213 {X : pu_X} {r : pu_R} (hX : pu_H X mdX12_join) (hr : pu_P X.2.1 X.2.2.2.2.2.2.2.2.2.2.1 r) (hq : ∀ i pc, pu_lp i = some (262, pc) → pu_S X mdX12_join pc (r i)) : pu_S X mdX12_join 213 (kX12_join_213 r) := by
  unfold kX12_join_213
  exact z_iadd hX dX12_join_213 (z_iald hX dX12_join_214 (z_ald_n hX dX12_join_215 rfl (z_gr (c := 12) (j := 0) hX dX12_join_216 rfl inlX12 wm7_16 ⟨rfl, by decide, rfl⟩ (z_sipush hX dX12_join_219 (by decide) (z_iconst hX dX12_join_222 (by decide) (z_ald_n hX dX12_join_223 rfl (z_ild hX dX12_join_224 (z_cv (c := 12) hX hr dX12_join_226 hjX12_openName mwX12_openName rfl wm29_1 ⟨wm29_2, wm29_3⟩ ⟨Nat.le_of_ble_eq_true rfl, Nat.le_of_ble_eq_true rfl⟩ (z_imul hX dX12_join_229 (z_iadd hX dX12_join_230 (z_iconst hX dX12_join_231 (by decide) (z_iadd hX dX12_join_232 (z_iald hX dX12_join_233 (z_cv (c := 12) hX hr dX12_join_234 hjX12_areAlike mwX12_areAlike rfl wm40_20 ⟨wm40_21, wm40_22⟩ ⟨Nat.le_of_ble_eq_true rfl, Nat.le_of_ble_eq_true rfl⟩ (z_ifeq hX dX12_join_237 (by decide) (tX12_join_244 hX hr hq) ((tX12_join_240 hX hr hq)))))))))))))))))
def kX12_join_169 (r : pu_R) : pu_K := s_ild 9 (s_ald 0 (s_gr 12 0 (s_push (.int (3)) (s_ai 1 (s_icge (kX12_join_253 r) (s_ild 6 (s_ifne (kX12_join_240 r) (s_ald 0 (s_ild 9 (s_cv r 254 1 12 (s_ild 1 (s_icne (kX12_join_244 r) (s_ald 0 (s_ald 0 (s_gr 12 0 (s_push (.int (7552)) (s_push (.int (5)) (s_ald 0 (s_ild 9 (s_cv r 253 1 12 (s_imul (s_iadd (s_push (.int (2)) ((kX12_join_213 r)))))))))))))))))))))))))
theorem vX12_join_169 : pu_cok2 kX12_join_169 := fun rf r hr => by
  unfold kX12_join_169
  exact v_ild (v_ald (v_gr (v_pi (v_ai (v_icge (vX12_join_253 rf r hr) (v_ild (v_ifne (vX12_join_240 rf r hr) (v_ald (v_ild (v_cv hr (v_ild (v_icne (vX12_join_244 rf r hr) (v_ald (v_ald (v_gr (v_pi (v_pi (v_ald (v_ild (v_cv hr (v_imul (v_iadd (v_pi ((vX12_join_213 rf r hr)))))))))))))))))))))))))
theorem tX12_join_169 {X : pu_X} {r : pu_R} (hX : pu_H X mdX12_join) (hr : pu_P X.2.1 X.2.2.2.2.2.2.2.2.2.2.1 r) (hq : ∀ i pc, pu_lp i = some (262, pc) → pu_S X mdX12_join pc (r i)) : pu_S X mdX12_join 169 (kX12_join_169 r) := by
  unfold kX12_join_169
  exact z_ild hX dX12_join_169 (z_ald_n hX dX12_join_171 rfl (z_gr (c := 12) (j := 0) hX dX12_join_172 rfl inlX12 wm7_16 ⟨rfl, by decide, rfl⟩ (z_iconst hX dX12_join_175 (by decide) (z_iald hX dX12_join_176 (z_icge hX dX12_join_177 (by decide) (tX12_join_253 hX hr hq) (z_ild hX dX12_join_180 (z_ifne hX dX12_join_182 (by decide) (tX12_join_240 hX hr hq) (z_ald_n hX dX12_join_185 rfl (z_ild hX dX12_join_186 (z_cv (c := 12) hX hr dX12_join_188 hjX12_townOf mwX12_townOf rfl wm28_21 ⟨wm28_22, wm28_23⟩ ⟨Nat.le_of_ble_eq_true rfl, Nat.le_of_ble_eq_true rfl⟩ (z_ild_n hX dX12_join_191 rfl (z_icne hX dX12_join_192 (by decide) (tX12_join_244 hX hr hq) (z_ald_n hX dX12_join_195 rfl (z_ald_n hX dX12_join_196 rfl (z_gr (c := 12) (j := 0) hX dX12_join_197 rfl inlX12 wm7_16 ⟨rfl, by decide, rfl⟩ (z_sipush hX dX12_join_200 (by decide) (z_iconst hX dX12_join_203 (by decide) (z_ald_n hX dX12_join_204 rfl (z_ild hX dX12_join_205 (z_cv (c := 12) hX hr dX12_join_207 hjX12_openName mwX12_openName rfl wm29_1 ⟨wm29_2, wm29_3⟩ ⟨Nat.le_of_ble_eq_true rfl, Nat.le_of_ble_eq_true rfl⟩ (z_imul hX dX12_join_210 (z_iadd hX dX12_join_211 (z_iconst hX dX12_join_212 (by decide) ((tX12_join_213 hX hr hq)))))))))))))))))))))))))
def kX12_join_163 (r : pu_R) : pu_K := s_inc 5 (1) (s_push (.int (0)) (s_ist 9 ((r 454))))
theorem vX12_join_163 : pu_cok2 kX12_join_163 := fun rf r hr => by
  unfold kX12_join_163
  exact v_inc (v_pi (v_ist ((hr 454))))
theorem tX12_join_163 {X : pu_X} {r : pu_R} (hX : pu_H X mdX12_join) (hr : pu_P X.2.1 X.2.2.2.2.2.2.2.2.2.2.1 r) (hq : ∀ i pc, pu_lp i = some (262, pc) → pu_S X mdX12_join pc (r i)) : pu_S X mdX12_join 163 (kX12_join_163 r) := by
  unfold kX12_join_163
  exact z_inc hX dX12_join_163 (by decide) (z_iconst hX dX12_join_166 (by decide) (z_ist hX dX12_join_167 ((hq 454 169 hl454))))
def kX12_join_152 (r : pu_R) : pu_K := s_ist 4 (s_ild 8 (s_ild 2 (s_iceq (kX12_join_163 r) ((kX12_join_253 r)))))
theorem vX12_join_152 : pu_cok2 kX12_join_152 := fun rf r hr => by
  unfold kX12_join_152
  exact v_ist (v_ild (v_ild (v_iceq (vX12_join_163 rf r hr) ((vX12_join_253 rf r hr)))))
theorem tX12_join_152 {X : pu_X} {r : pu_R} (hX : pu_H X mdX12_join) (hr : pu_P X.2.1 X.2.2.2.2.2.2.2.2.2.2.1 r) (hq : ∀ i pc, pu_lp i = some (262, pc) → pu_S X mdX12_join pc (r i)) : pu_S X mdX12_join 152 (kX12_join_152 r) := by
  unfold kX12_join_152
  exact z_ist hX dX12_join_152 (z_ild hX dX12_join_154 (z_ild_n hX dX12_join_156 rfl (z_iceq hX dX12_join_157 (by decide) (tX12_join_163 hX hr hq) ((z_goto hX dX12_join_160 (by decide) (tX12_join_253 hX hr hq))))))
def kX12_join_151 (r : pu_R) : pu_K := s_push (.int (0)) ((kX12_join_152 r))
theorem vX12_join_151 : pu_cok2 kX12_join_151 := fun rf r hr => by
  unfold kX12_join_151
  exact v_pi ((vX12_join_152 rf r hr))
theorem tX12_join_151 {X : pu_X} {r : pu_R} (hX : pu_H X mdX12_join) (hr : pu_P X.2.1 X.2.2.2.2.2.2.2.2.2.2.1 r) (hq : ∀ i pc, pu_lp i = some (262, pc) → pu_S X mdX12_join pc (r i)) : pu_S X mdX12_join 151 (kX12_join_151 r) := by
  unfold kX12_join_151
  exact z_iconst hX dX12_join_151 (by decide) ((tX12_join_152 hX hr hq))
def kX12_join_147 (r : pu_R) : pu_K := s_push (.int (1)) ((kX12_join_152 r))
theorem vX12_join_147 : pu_cok2 kX12_join_147 := fun rf r hr => by
  unfold kX12_join_147
  exact v_pi ((vX12_join_152 rf r hr))
theorem tX12_join_147 {X : pu_X} {r : pu_R} (hX : pu_H X mdX12_join) (hr : pu_P X.2.1 X.2.2.2.2.2.2.2.2.2.2.1 r) (hq : ∀ i pc, pu_lp i = some (262, pc) → pu_S X mdX12_join pc (r i)) : pu_S X mdX12_join 147 (kX12_join_147 r) := by
  unfold kX12_join_147
  exact z_iconst hX dX12_join_147 (by decide) ((z_goto hX dX12_join_148 (by decide) (tX12_join_152 hX hr hq)))
def kX12_join_131 (r : pu_R) : pu_K := s_ild 4 (s_ifne (kX12_join_147 r) (s_ild 3 (s_ald 0 (s_ild 7 (s_push (.int (-1)) (s_cv r 255 2 12 (s_icge (kX12_join_151 r) ((kX12_join_147 r)))))))))
theorem vX12_join_131 : pu_cok2 kX12_join_131 := fun rf r hr => by
  unfold kX12_join_131
  exact v_ild (v_ifne (vX12_join_147 rf r hr) (v_ild (v_ald (v_ild (v_pi (v_cv hr (v_icge (vX12_join_151 rf r hr) ((vX12_join_147 rf r hr)))))))))
theorem tX12_join_131 {X : pu_X} {r : pu_R} (hX : pu_H X mdX12_join) (hr : pu_P X.2.1 X.2.2.2.2.2.2.2.2.2.2.1 r) (hq : ∀ i pc, pu_lp i = some (262, pc) → pu_S X mdX12_join pc (r i)) : pu_S X mdX12_join 131 (kX12_join_131 r) := by
  unfold kX12_join_131
  exact z_ild hX dX12_join_131 (z_ifne hX dX12_join_133 (by decide) (tX12_join_147 hX hr hq) (z_ild_n hX dX12_join_136 rfl (z_ald_n hX dX12_join_137 rfl (z_ild hX dX12_join_138 (z_iconst hX dX12_join_140 (by decide) (z_cv (c := 12) hX hr dX12_join_141 hjX12_latest mwX12_latest rfl wm20_20 ⟨wm20_21, wm20_22⟩ ⟨Nat.le_of_ble_eq_true rfl, Nat.le_of_ble_eq_true rfl⟩ (z_icge hX dX12_join_144 (by decide) (tX12_join_151 hX hr hq) ((tX12_join_147 hX hr hq)))))))))
def kX12_join_97 (r : pu_R) : pu_K := s_ild 7 (s_ald 0 (s_gr 12 0 (s_push (.int (3)) (s_ai 1 (s_icge (kX12_join_259 r) (s_ald 0 (s_ild 7 (s_cv r 254 1 12 (s_ist 8 (s_ild 8 (s_ild 1 (s_iceq (kX12_join_131 r) (s_ild 8 (s_ild 2 (s_iceq (kX12_join_131 r) ((kX12_join_253 r)))))))))))))))))
theorem vX12_join_97 : pu_cok2 kX12_join_97 := fun rf r hr => by
  unfold kX12_join_97
  exact v_ild (v_ald (v_gr (v_pi (v_ai (v_icge (vX12_join_259 rf r hr) (v_ald (v_ild (v_cv hr (v_ist (v_ild (v_ild (v_iceq (vX12_join_131 rf r hr) (v_ild (v_ild (v_iceq (vX12_join_131 rf r hr) ((vX12_join_253 rf r hr)))))))))))))))))
theorem tX12_join_97 {X : pu_X} {r : pu_R} (hX : pu_H X mdX12_join) (hr : pu_P X.2.1 X.2.2.2.2.2.2.2.2.2.2.1 r) (hq : ∀ i pc, pu_lp i = some (262, pc) → pu_S X mdX12_join pc (r i)) : pu_S X mdX12_join 97 (kX12_join_97 r) := by
  unfold kX12_join_97
  exact z_ild hX dX12_join_97 (z_ald_n hX dX12_join_99 rfl (z_gr (c := 12) (j := 0) hX dX12_join_100 rfl inlX12 wm7_16 ⟨rfl, by decide, rfl⟩ (z_iconst hX dX12_join_103 (by decide) (z_iald hX dX12_join_104 (z_icge hX dX12_join_105 (by decide) (tX12_join_259 hX hr hq) (z_ald_n hX dX12_join_108 rfl (z_ild hX dX12_join_109 (z_cv (c := 12) hX hr dX12_join_111 hjX12_townOf mwX12_townOf rfl wm28_21 ⟨wm28_22, wm28_23⟩ ⟨Nat.le_of_ble_eq_true rfl, Nat.le_of_ble_eq_true rfl⟩ (z_ist hX dX12_join_114 (z_ild hX dX12_join_116 (z_ild_n hX dX12_join_118 rfl (z_iceq hX dX12_join_119 (by decide) (tX12_join_131 hX hr hq) (z_ild hX dX12_join_122 (z_ild_n hX dX12_join_124 rfl (z_iceq hX dX12_join_125 (by decide) (tX12_join_131 hX hr hq) ((z_goto hX dX12_join_128 (by decide) (tX12_join_253 hX hr hq))))))))))))))))))
def kX12_join_86 (r : pu_R) : pu_K := s_ist 4 (s_push (.int (0)) (s_ist 5 (s_push (.int (0)) (s_ist 6 (s_push (.int (0)) (s_ist 7 ((r 453))))))))
theorem vX12_join_86 : pu_cok2 kX12_join_86 := fun rf r hr => by
  unfold kX12_join_86
  exact v_ist (v_pi (v_ist (v_pi (v_ist (v_pi (v_ist ((hr 453))))))))
theorem tX12_join_86 {X : pu_X} {r : pu_R} (hX : pu_H X mdX12_join) (hr : pu_P X.2.1 X.2.2.2.2.2.2.2.2.2.2.1 r) (hq : ∀ i pc, pu_lp i = some (262, pc) → pu_S X mdX12_join pc (r i)) : pu_S X mdX12_join 86 (kX12_join_86 r) := by
  unfold kX12_join_86
  exact z_ist hX dX12_join_86 (z_iconst hX dX12_join_88 (by decide) (z_ist hX dX12_join_89 (z_iconst hX dX12_join_91 (by decide) (z_ist hX dX12_join_92 (z_iconst hX dX12_join_94 (by decide) (z_ist hX dX12_join_95 ((hq 453 97 hl453))))))))
def kX12_join_85 (r : pu_R) : pu_K := s_push (.int (0)) ((kX12_join_86 r))
theorem vX12_join_85 : pu_cok2 kX12_join_85 := fun rf r hr => by
  unfold kX12_join_85
  exact v_pi ((vX12_join_86 rf r hr))
theorem tX12_join_85 {X : pu_X} {r : pu_R} (hX : pu_H X mdX12_join) (hr : pu_P X.2.1 X.2.2.2.2.2.2.2.2.2.2.1 r) (hq : ∀ i pc, pu_lp i = some (262, pc) → pu_S X mdX12_join pc (r i)) : pu_S X mdX12_join 85 (kX12_join_85 r) := by
  unfold kX12_join_85
  exact z_iconst hX dX12_join_85 (by decide) ((tX12_join_86 hX hr hq))
def kX12_join_81 (r : pu_R) : pu_K := s_push (.int (1)) ((kX12_join_86 r))
theorem vX12_join_81 : pu_cok2 kX12_join_81 := fun rf r hr => by
  unfold kX12_join_81
  exact v_pi ((vX12_join_86 rf r hr))
theorem tX12_join_81 {X : pu_X} {r : pu_R} (hX : pu_H X mdX12_join) (hr : pu_P X.2.1 X.2.2.2.2.2.2.2.2.2.2.1 r) (hq : ∀ i pc, pu_lp i = some (262, pc) → pu_S X mdX12_join pc (r i)) : pu_S X mdX12_join 81 (kX12_join_81 r) := by
  unfold kX12_join_81
  exact z_iconst hX dX12_join_81 (by decide) ((z_goto hX dX12_join_82 (by decide) (tX12_join_86 hX hr hq)))
def kX12_join_61 (r : pu_R) : pu_K := s_ild 3 (s_ald 0 (s_push (.int (-1)) (s_ild 1 (s_cv r 255 2 12 (s_iclt (kX12_join_81 r) (s_ild 3 (s_ald 0 (s_push (.int (-1)) (s_ild 2 (s_cv r 255 2 12 (s_icge (kX12_join_85 r) ((kX12_join_81 r)))))))))))))
theorem vX12_join_61 : pu_cok2 kX12_join_61 := fun rf r hr => by
  unfold kX12_join_61
  exact v_ild (v_ald (v_pi (v_ild (v_cv hr (v_iclt (vX12_join_81 rf r hr) (v_ild (v_ald (v_pi (v_ild (v_cv hr (v_icge (vX12_join_85 rf r hr) ((vX12_join_81 rf r hr)))))))))))))
theorem tX12_join_61 {X : pu_X} {r : pu_R} (hX : pu_H X mdX12_join) (hr : pu_P X.2.1 X.2.2.2.2.2.2.2.2.2.2.1 r) (hq : ∀ i pc, pu_lp i = some (262, pc) → pu_S X mdX12_join pc (r i)) : pu_S X mdX12_join 61 (kX12_join_61 r) := by
  unfold kX12_join_61
  exact z_ild_n hX dX12_join_61 rfl (z_ald_n hX dX12_join_62 rfl (z_iconst hX dX12_join_63 (by decide) (z_ild_n hX dX12_join_64 rfl (z_cv (c := 12) hX hr dX12_join_65 hjX12_latest mwX12_latest rfl wm20_20 ⟨wm20_21, wm20_22⟩ ⟨Nat.le_of_ble_eq_true rfl, Nat.le_of_ble_eq_true rfl⟩ (z_iclt hX dX12_join_68 (by decide) (tX12_join_81 hX hr hq) (z_ild_n hX dX12_join_71 rfl (z_ald_n hX dX12_join_72 rfl (z_iconst hX dX12_join_73 (by decide) (z_ild_n hX dX12_join_74 rfl (z_cv (c := 12) hX hr dX12_join_75 hjX12_latest mwX12_latest rfl wm20_20 ⟨wm20_21, wm20_22⟩ ⟨Nat.le_of_ble_eq_true rfl, Nat.le_of_ble_eq_true rfl⟩ (z_icge hX dX12_join_78 (by decide) (tX12_join_85 hX hr hq) ((tX12_join_81 hX hr hq)))))))))))))
def kX12_join_58 (r : pu_R) : pu_K := s_push (.int (-2)) (s_iret)
theorem vX12_join_58 : pu_cok2 kX12_join_58 := fun rf r hr => by
  unfold kX12_join_58
  exact v_pi (v_iret)
theorem tX12_join_58 {X : pu_X} {r : pu_R} (hX : pu_H X mdX12_join) (hr : pu_P X.2.1 X.2.2.2.2.2.2.2.2.2.2.1 r) (hq : ∀ i pc, pu_lp i = some (262, pc) → pu_S X mdX12_join pc (r i)) : pu_S X mdX12_join 58 (kX12_join_58 r) := by
  unfold kX12_join_58
  exact z_bipush hX dX12_join_58 (by decide) (z_iret hX dX12_join_60 rfl)
def kX12_join_46 (r : pu_R) : pu_K := s_ild 1 (s_ild 2 (s_iceq (kX12_join_58 r) (s_ild 3 (s_cs r 234 1 (s_ifne (kX12_join_61 r) ((kX12_join_58 r)))))))
theorem vX12_join_46 : pu_cok2 kX12_join_46 := fun rf r hr => by
  unfold kX12_join_46
  exact v_ild (v_ild (v_iceq (vX12_join_58 rf r hr) (v_ild (v_cs hr (v_ifne (vX12_join_61 rf r hr) ((vX12_join_58 rf r hr)))))))
theorem tX12_join_46 {X : pu_X} {r : pu_R} (hX : pu_H X mdX12_join) (hr : pu_P X.2.1 X.2.2.2.2.2.2.2.2.2.2.1 r) (hq : ∀ i pc, pu_lp i = some (262, pc) → pu_S X mdX12_join pc (r i)) : pu_S X mdX12_join 46 (kX12_join_46 r) := by
  unfold kX12_join_46
  exact z_ild_n hX dX12_join_46 rfl (z_ild_n hX dX12_join_47 rfl (z_iceq hX dX12_join_48 (by decide) (tX12_join_58 hX hr hq) (z_ild_n hX dX12_join_51 rfl (z_cs hX hr dX12_join_52 hjX12_isDay mwX12_isDay wm11_5 wm11_6 ⟨Nat.le_of_ble_eq_true rfl, Nat.le_of_ble_eq_true rfl⟩ (z_ifne hX dX12_join_55 (by decide) (tX12_join_61 hX hr hq) ((tX12_join_58 hX hr hq)))))))
def kX12_join_44 (r : pu_R) : pu_K := s_push (.int (-1)) (s_iret)
theorem vX12_join_44 : pu_cok2 kX12_join_44 := fun rf r hr => by
  unfold kX12_join_44
  exact v_pi (v_iret)
theorem tX12_join_44 {X : pu_X} {r : pu_R} (hX : pu_H X mdX12_join) (hr : pu_P X.2.1 X.2.2.2.2.2.2.2.2.2.2.1 r) (hq : ∀ i pc, pu_lp i = some (262, pc) → pu_S X mdX12_join pc (r i)) : pu_S X mdX12_join 44 (kX12_join_44 r) := by
  unfold kX12_join_44
  exact z_iconst hX dX12_join_44 (by decide) (z_iret hX dX12_join_45 rfl)
def kX12_join_0 (r : pu_R) : pu_K := s_ald 0 (s_ild 1 (s_cv r 252 1 12 (s_ifeq (kX12_join_44 r) (s_ald 0 (s_ild 2 (s_cv r 252 1 12 (s_ifeq (kX12_join_44 r) (s_ald 0 (s_gr 12 0 (s_push (.int (7520)) (s_ild 1 (s_iadd (s_ai 1 (s_push (.int (-1)) (s_icne (kX12_join_44 r) (s_ald 0 (s_gr 12 0 (s_push (.int (7520)) (s_ild 2 (s_iadd (s_ai 1 (s_push (.int (-1)) (s_iceq (kX12_join_46 r) ((kX12_join_44 r)))))))))))))))))))))))))
theorem vX12_join_0 : pu_cok2 kX12_join_0 := fun rf r hr => by
  unfold kX12_join_0
  exact v_ald (v_ild (v_cv hr (v_ifeq (vX12_join_44 rf r hr) (v_ald (v_ild (v_cv hr (v_ifeq (vX12_join_44 rf r hr) (v_ald (v_gr (v_pi (v_ild (v_iadd (v_ai (v_pi (v_icne (vX12_join_44 rf r hr) (v_ald (v_gr (v_pi (v_ild (v_iadd (v_ai (v_pi (v_iceq (vX12_join_46 rf r hr) ((vX12_join_44 rf r hr)))))))))))))))))))))))))
theorem tX12_join_0 {X : pu_X} {r : pu_R} (hX : pu_H X mdX12_join) (hr : pu_P X.2.1 X.2.2.2.2.2.2.2.2.2.2.1 r) (hq : ∀ i pc, pu_lp i = some (262, pc) → pu_S X mdX12_join pc (r i)) : pu_S X mdX12_join 0 (kX12_join_0 r) := by
  unfold kX12_join_0
  exact z_ald_n hX dX12_join_0 rfl (z_ild_n hX dX12_join_1 rfl (z_cv (c := 12) hX hr dX12_join_2 hjX12_isTown mwX12_isTown rfl wm20_16 ⟨wm20_17, wm20_18⟩ ⟨Nat.le_of_ble_eq_true rfl, Nat.le_of_ble_eq_true rfl⟩ (z_ifeq hX dX12_join_5 (by decide) (tX12_join_44 hX hr hq) (z_ald_n hX dX12_join_8 rfl (z_ild_n hX dX12_join_9 rfl (z_cv (c := 12) hX hr dX12_join_10 hjX12_isTown mwX12_isTown rfl wm20_16 ⟨wm20_17, wm20_18⟩ ⟨Nat.le_of_ble_eq_true rfl, Nat.le_of_ble_eq_true rfl⟩ (z_ifeq hX dX12_join_13 (by decide) (tX12_join_44 hX hr hq) (z_ald_n hX dX12_join_16 rfl (z_gr (c := 12) (j := 0) hX dX12_join_17 rfl inlX12 wm7_16 ⟨rfl, by decide, rfl⟩ (z_sipush hX dX12_join_20 (by decide) (z_ild_n hX dX12_join_23 rfl (z_iadd hX dX12_join_24 (z_iald hX dX12_join_25 (z_iconst hX dX12_join_26 (by decide) (z_icne hX dX12_join_27 (by decide) (tX12_join_44 hX hr hq) (z_ald_n hX dX12_join_30 rfl (z_gr (c := 12) (j := 0) hX dX12_join_31 rfl inlX12 wm7_16 ⟨rfl, by decide, rfl⟩ (z_sipush hX dX12_join_34 (by decide) (z_ild_n hX dX12_join_37 rfl (z_iadd hX dX12_join_38 (z_iald hX dX12_join_39 (z_iconst hX dX12_join_40 (by decide) (z_iceq hX dX12_join_41 (by decide) (tX12_join_46 hX hr hq) ((tX12_join_44 hX hr hq)))))))))))))))))))))))))
def kX12_isWhole_26 (r : pu_R) : pu_K := s_zret
theorem vX12_isWhole_26 : pu_cok2 kX12_isWhole_26 := fun rf r hr => by
  unfold kX12_isWhole_26
  exact v_zret
theorem tX12_isWhole_26 {X : pu_X} {r : pu_R} (hX : pu_H X mdX12_isWhole) (hr : pu_P X.2.1 X.2.2.2.2.2.2.2.2.2.2.1 r) (hq : ∀ i pc, pu_lp i = some (263, pc) → pu_S X mdX12_isWhole pc (r i)) : pu_S X mdX12_isWhole 26 (kX12_isWhole_26 r) := by
  unfold kX12_isWhole_26
  exact z_zret hX dX12_isWhole_26 rfl
def kX12_isWhole_25 (r : pu_R) : pu_K := s_push (.int (0)) ((kX12_isWhole_26 r))
theorem vX12_isWhole_25 : pu_cok2 kX12_isWhole_25 := fun rf r hr => by
  unfold kX12_isWhole_25
  exact v_pi ((vX12_isWhole_26 rf r hr))
theorem tX12_isWhole_25 {X : pu_X} {r : pu_R} (hX : pu_H X mdX12_isWhole) (hr : pu_P X.2.1 X.2.2.2.2.2.2.2.2.2.2.1 r) (hq : ∀ i pc, pu_lp i = some (263, pc) → pu_S X mdX12_isWhole pc (r i)) : pu_S X mdX12_isWhole 25 (kX12_isWhole_25 r) := by
  unfold kX12_isWhole_25
  exact z_iconst hX dX12_isWhole_25 (by decide) ((tX12_isWhole_26 hX hr hq))
def kX12_isWhole_0 (r : pu_R) : pu_K := s_ild 0 (s_push (.int (16)) (s_iclt (kX12_isWhole_25 r) (s_ild 0 (s_push (.int (159993)) (s_icgt (kX12_isWhole_25 r) (s_ild 0 (s_push (.int (16)) (s_irem (s_push (.int (9)) (s_icgt (kX12_isWhole_25 r) (s_push (.int (1)) ((kX12_isWhole_26 r)))))))))))))
theorem vX12_isWhole_0 : pu_cok2 kX12_isWhole_0 := fun rf r hr => by
  unfold kX12_isWhole_0
  exact v_ild (v_pi (v_iclt (vX12_isWhole_25 rf r hr) (v_ild (v_pi (v_icgt (vX12_isWhole_25 rf r hr) (v_ild (v_pi (v_irem (v_pi (v_icgt (vX12_isWhole_25 rf r hr) (v_pi ((vX12_isWhole_26 rf r hr)))))))))))))
theorem tX12_isWhole_0 {X : pu_X} {r : pu_R} (hX : pu_H X mdX12_isWhole) (hr : pu_P X.2.1 X.2.2.2.2.2.2.2.2.2.2.1 r) (hq : ∀ i pc, pu_lp i = some (263, pc) → pu_S X mdX12_isWhole pc (r i)) : pu_S X mdX12_isWhole 0 (kX12_isWhole_0 r) := by
  unfold kX12_isWhole_0
  exact z_ild_n hX dX12_isWhole_0 rfl (z_bipush hX dX12_isWhole_1 (by decide) (z_iclt hX dX12_isWhole_3 (by decide) (tX12_isWhole_25 hX hr hq) (z_ild_n hX dX12_isWhole_6 rfl (z_ldc hX dX12_isWhole_7 wm28_16 (z_icgt hX dX12_isWhole_9 (by decide) (tX12_isWhole_25 hX hr hq) (z_ild_n hX dX12_isWhole_12 rfl (z_bipush hX dX12_isWhole_13 (by decide) (z_irem hX dX12_isWhole_15 (z_bipush hX dX12_isWhole_16 (by decide) (z_icgt hX dX12_isWhole_18 (by decide) (tX12_isWhole_25 hX hr hq) (z_iconst hX dX12_isWhole_21 (by decide) ((z_goto hX dX12_isWhole_22 (by decide) (tX12_isWhole_26 hX hr hq))))))))))))))
def kX12_isDoor_19 (r : pu_R) : pu_K := s_zret
theorem vX12_isDoor_19 : pu_cok2 kX12_isDoor_19 := fun rf r hr => by
  unfold kX12_isDoor_19
  exact v_zret
theorem tX12_isDoor_19 {X : pu_X} {r : pu_R} (hX : pu_H X mdX12_isDoor) (hr : pu_P X.2.1 X.2.2.2.2.2.2.2.2.2.2.1 r) (hq : ∀ i pc, pu_lp i = some (264, pc) → pu_S X mdX12_isDoor pc (r i)) : pu_S X mdX12_isDoor 19 (kX12_isDoor_19 r) := by
  unfold kX12_isDoor_19
  exact z_zret hX dX12_isDoor_19 rfl
def kX12_isDoor_18 (r : pu_R) : pu_K := s_push (.int (0)) ((kX12_isDoor_19 r))
theorem vX12_isDoor_18 : pu_cok2 kX12_isDoor_18 := fun rf r hr => by
  unfold kX12_isDoor_18
  exact v_pi ((vX12_isDoor_19 rf r hr))
theorem tX12_isDoor_18 {X : pu_X} {r : pu_R} (hX : pu_H X mdX12_isDoor) (hr : pu_P X.2.1 X.2.2.2.2.2.2.2.2.2.2.1 r) (hq : ∀ i pc, pu_lp i = some (264, pc) → pu_S X mdX12_isDoor pc (r i)) : pu_S X mdX12_isDoor 18 (kX12_isDoor_18 r) := by
  unfold kX12_isDoor_18
  exact z_iconst hX dX12_isDoor_18 (by decide) ((tX12_isDoor_19 hX hr hq))
def kX12_isDoor_0 (r : pu_R) : pu_K := s_ild 1 (s_iflt (kX12_isDoor_18 r) (s_ild 1 (s_ald 0 (s_gr 12 0 (s_push (.int (4)) (s_ai 1 (s_icge (kX12_isDoor_18 r) (s_push (.int (1)) ((kX12_isDoor_19 r))))))))))
theorem vX12_isDoor_0 : pu_cok2 kX12_isDoor_0 := fun rf r hr => by
  unfold kX12_isDoor_0
  exact v_ild (v_iflt (vX12_isDoor_18 rf r hr) (v_ild (v_ald (v_gr (v_pi (v_ai (v_icge (vX12_isDoor_18 rf r hr) (v_pi ((vX12_isDoor_19 rf r hr))))))))))
theorem tX12_isDoor_0 {X : pu_X} {r : pu_R} (hX : pu_H X mdX12_isDoor) (hr : pu_P X.2.1 X.2.2.2.2.2.2.2.2.2.2.1 r) (hq : ∀ i pc, pu_lp i = some (264, pc) → pu_S X mdX12_isDoor pc (r i)) : pu_S X mdX12_isDoor 0 (kX12_isDoor_0 r) := by
  unfold kX12_isDoor_0
  exact z_ild_n hX dX12_isDoor_0 rfl (z_iflt hX dX12_isDoor_1 (by decide) (tX12_isDoor_18 hX hr hq) (z_ild_n hX dX12_isDoor_4 rfl (z_ald_n hX dX12_isDoor_5 rfl (z_gr (c := 12) (j := 0) hX dX12_isDoor_6 rfl inlX12 wm7_16 ⟨rfl, by decide, rfl⟩ (z_iconst hX dX12_isDoor_9 (by decide) (z_iald hX dX12_isDoor_10 (z_icge hX dX12_isDoor_11 (by decide) (tX12_isDoor_18 hX hr hq) (z_iconst hX dX12_isDoor_14 (by decide) ((z_goto hX dX12_isDoor_15 (by decide) (tX12_isDoor_19 hX hr hq)))))))))))
def kX12_of_0 (r : pu_R) : pu_K := s_ald 0 (s_gr 12 0 (s_push (.int (9552)) (s_push (.int (12)) (s_ild 1 (s_imul (s_iadd (s_ild 2 (s_iadd (s_ai 1 (s_iret))))))))))
theorem vX12_of_0 : pu_cok2 kX12_of_0 := fun rf r hr => by
  unfold kX12_of_0
  exact v_ald (v_gr (v_pi (v_pi (v_ild (v_imul (v_iadd (v_ild (v_iadd (v_ai (v_iret))))))))))
theorem tX12_of_0 {X : pu_X} {r : pu_R} (hX : pu_H X mdX12_of) (hr : pu_P X.2.1 X.2.2.2.2.2.2.2.2.2.2.1 r) (hq : ∀ i pc, pu_lp i = some (265, pc) → pu_S X mdX12_of pc (r i)) : pu_S X mdX12_of 0 (kX12_of_0 r) := by
  unfold kX12_of_0
  exact z_ald_n hX dX12_of_0 rfl (z_gr (c := 12) (j := 0) hX dX12_of_1 rfl inlX12 wm7_16 ⟨rfl, by decide, rfl⟩ (z_sipush hX dX12_of_4 (by decide) (z_bipush hX dX12_of_7 (by decide) (z_ild_n hX dX12_of_9 rfl (z_imul hX dX12_of_10 (z_iadd hX dX12_of_11 (z_ild_n hX dX12_of_12 rfl (z_iadd hX dX12_of_13 (z_iald hX dX12_of_14 (z_iret hX dX12_of_15 rfl))))))))))
def kX12_isOpen_24 (r : pu_R) : pu_K := s_zret
theorem vX12_isOpen_24 : pu_cok2 kX12_isOpen_24 := fun rf r hr => by
  unfold kX12_isOpen_24
  exact v_zret
theorem tX12_isOpen_24 {X : pu_X} {r : pu_R} (hX : pu_H X mdX12_isOpen) (hr : pu_P X.2.1 X.2.2.2.2.2.2.2.2.2.2.1 r) (hq : ∀ i pc, pu_lp i = some (266, pc) → pu_S X mdX12_isOpen pc (r i)) : pu_S X mdX12_isOpen 24 (kX12_isOpen_24 r) := by
  unfold kX12_isOpen_24
  exact z_zret hX dX12_isOpen_24 rfl
def kX12_isOpen_23 (r : pu_R) : pu_K := s_push (.int (0)) ((kX12_isOpen_24 r))
theorem vX12_isOpen_23 : pu_cok2 kX12_isOpen_23 := fun rf r hr => by
  unfold kX12_isOpen_23
  exact v_pi ((vX12_isOpen_24 rf r hr))
theorem tX12_isOpen_23 {X : pu_X} {r : pu_R} (hX : pu_H X mdX12_isOpen) (hr : pu_P X.2.1 X.2.2.2.2.2.2.2.2.2.2.1 r) (hq : ∀ i pc, pu_lp i = some (266, pc) → pu_S X mdX12_isOpen pc (r i)) : pu_S X mdX12_isOpen 23 (kX12_isOpen_23 r) := by
  unfold kX12_isOpen_23
  exact z_iconst hX dX12_isOpen_23 (by decide) ((tX12_isOpen_24 hX hr hq))
def kX12_isOpen_0 (r : pu_R) : pu_K := s_ald 0 (s_ild 1 (s_cv r 264 1 12 (s_ifeq (kX12_isOpen_23 r) (s_ald 0 (s_ild 1 (s_push (.int (10)) (s_cv r 265 2 12 (s_push (.int (-1)) (s_icne (kX12_isOpen_23 r) (s_push (.int (1)) ((kX12_isOpen_24 r))))))))))))
theorem vX12_isOpen_0 : pu_cok2 kX12_isOpen_0 := fun rf r hr => by
  unfold kX12_isOpen_0
  exact v_ald (v_ild (v_cv hr (v_ifeq (vX12_isOpen_23 rf r hr) (v_ald (v_ild (v_pi (v_cv hr (v_pi (v_icne (vX12_isOpen_23 rf r hr) (v_pi ((vX12_isOpen_24 rf r hr))))))))))))
theorem tX12_isOpen_0 {X : pu_X} {r : pu_R} (hX : pu_H X mdX12_isOpen) (hr : pu_P X.2.1 X.2.2.2.2.2.2.2.2.2.2.1 r) (hq : ∀ i pc, pu_lp i = some (266, pc) → pu_S X mdX12_isOpen pc (r i)) : pu_S X mdX12_isOpen 0 (kX12_isOpen_0 r) := by
  unfold kX12_isOpen_0
  exact z_ald_n hX dX12_isOpen_0 rfl (z_ild_n hX dX12_isOpen_1 rfl (z_cv (c := 12) hX hr dX12_isOpen_2 hjX12_isDoor mwX12_isDoor rfl wm29_23 ⟨wm30_0, wm30_1⟩ ⟨Nat.le_of_ble_eq_true rfl, Nat.le_of_ble_eq_true rfl⟩ (z_ifeq hX dX12_isOpen_5 (by decide) (tX12_isOpen_23 hX hr hq) (z_ald_n hX dX12_isOpen_8 rfl (z_ild_n hX dX12_isOpen_9 rfl (z_bipush hX dX12_isOpen_10 (by decide) (z_cv (c := 12) hX hr dX12_isOpen_12 hjX12_of mwX12_of rfl wm30_3 ⟨wm30_4, wm30_5⟩ ⟨Nat.le_of_ble_eq_true rfl, Nat.le_of_ble_eq_true rfl⟩ (z_iconst hX dX12_isOpen_15 (by decide) (z_icne hX dX12_isOpen_16 (by decide) (tX12_isOpen_23 hX hr hq) (z_iconst hX dX12_isOpen_19 (by decide) ((z_goto hX dX12_isOpen_20 (by decide) (tX12_isOpen_24 hX hr hq)))))))))))))
def kX12_hasPlace_35 (r : pu_R) : pu_K := s_zret
theorem vX12_hasPlace_35 : pu_cok2 kX12_hasPlace_35 := fun rf r hr => by
  unfold kX12_hasPlace_35
  exact v_zret
theorem tX12_hasPlace_35 {X : pu_X} {r : pu_R} (hX : pu_H X mdX12_hasPlace) (hr : pu_P X.2.1 X.2.2.2.2.2.2.2.2.2.2.1 r) (hq : ∀ i pc, pu_lp i = some (267, pc) → pu_S X mdX12_hasPlace pc (r i)) : pu_S X mdX12_hasPlace 35 (kX12_hasPlace_35 r) := by
  unfold kX12_hasPlace_35
  exact z_zret hX dX12_hasPlace_35 rfl
def kX12_hasPlace_34 (r : pu_R) : pu_K := s_push (.int (0)) ((kX12_hasPlace_35 r))
theorem vX12_hasPlace_34 : pu_cok2 kX12_hasPlace_34 := fun rf r hr => by
  unfold kX12_hasPlace_34
  exact v_pi ((vX12_hasPlace_35 rf r hr))
theorem tX12_hasPlace_34 {X : pu_X} {r : pu_R} (hX : pu_H X mdX12_hasPlace) (hr : pu_P X.2.1 X.2.2.2.2.2.2.2.2.2.2.1 r) (hq : ∀ i pc, pu_lp i = some (267, pc) → pu_S X mdX12_hasPlace pc (r i)) : pu_S X mdX12_hasPlace 34 (kX12_hasPlace_34 r) := by
  unfold kX12_hasPlace_34
  exact z_iconst hX dX12_hasPlace_34 (by decide) ((tX12_hasPlace_35 hX hr hq))
def kX12_hasPlace_30 (r : pu_R) : pu_K := s_push (.int (1)) ((kX12_hasPlace_35 r))
theorem vX12_hasPlace_30 : pu_cok2 kX12_hasPlace_30 := fun rf r hr => by
  unfold kX12_hasPlace_30
  exact v_pi ((vX12_hasPlace_35 rf r hr))
theorem tX12_hasPlace_30 {X : pu_X} {r : pu_R} (hX : pu_H X mdX12_hasPlace) (hr : pu_P X.2.1 X.2.2.2.2.2.2.2.2.2.2.1 r) (hq : ∀ i pc, pu_lp i = some (267, pc) → pu_S X mdX12_hasPlace pc (r i)) : pu_S X mdX12_hasPlace 30 (kX12_hasPlace_30 r) := by
  unfold kX12_hasPlace_30
  exact z_iconst hX dX12_hasPlace_30 (by decide) ((z_goto hX dX12_hasPlace_31 (by decide) (tX12_hasPlace_35 hX hr hq)))
def kX12_hasPlace_0 (r : pu_R) : pu_K := s_ald 0 (s_ild 1 (s_push (.int (0)) (s_cv r 265 2 12 (s_push (.int (2)) (s_icge (kX12_hasPlace_34 r) (s_ild 2 (s_ifeq (kX12_hasPlace_30 r) (s_ild 2 (s_push (.int (1)) (s_icne (kX12_hasPlace_34 r) (s_ald 0 (s_ild 1 (s_push (.int (11)) (s_cv r 265 2 12 (s_push (.int (-1)) (s_iceq (kX12_hasPlace_34 r) ((kX12_hasPlace_30 r))))))))))))))))))
theorem vX12_hasPlace_0 : pu_cok2 kX12_hasPlace_0 := fun rf r hr => by
  unfold kX12_hasPlace_0
  exact v_ald (v_ild (v_pi (v_cv hr (v_pi (v_icge (vX12_hasPlace_34 rf r hr) (v_ild (v_ifeq (vX12_hasPlace_30 rf r hr) (v_ild (v_pi (v_icne (vX12_hasPlace_34 rf r hr) (v_ald (v_ild (v_pi (v_cv hr (v_pi (v_iceq (vX12_hasPlace_34 rf r hr) ((vX12_hasPlace_30 rf r hr))))))))))))))))))
theorem tX12_hasPlace_0 {X : pu_X} {r : pu_R} (hX : pu_H X mdX12_hasPlace) (hr : pu_P X.2.1 X.2.2.2.2.2.2.2.2.2.2.1 r) (hq : ∀ i pc, pu_lp i = some (267, pc) → pu_S X mdX12_hasPlace pc (r i)) : pu_S X mdX12_hasPlace 0 (kX12_hasPlace_0 r) := by
  unfold kX12_hasPlace_0
  exact z_ald_n hX dX12_hasPlace_0 rfl (z_ild_n hX dX12_hasPlace_1 rfl (z_iconst hX dX12_hasPlace_2 (by decide) (z_cv (c := 12) hX hr dX12_hasPlace_3 hjX12_of mwX12_of rfl wm30_3 ⟨wm30_4, wm30_5⟩ ⟨Nat.le_of_ble_eq_true rfl, Nat.le_of_ble_eq_true rfl⟩ (z_iconst hX dX12_hasPlace_6 (by decide) (z_icge hX dX12_hasPlace_7 (by decide) (tX12_hasPlace_34 hX hr hq) (z_ild_n hX dX12_hasPlace_10 rfl (z_ifeq hX dX12_hasPlace_11 (by decide) (tX12_hasPlace_30 hX hr hq) (z_ild_n hX dX12_hasPlace_14 rfl (z_iconst hX dX12_hasPlace_15 (by decide) (z_icne hX dX12_hasPlace_16 (by decide) (tX12_hasPlace_34 hX hr hq) (z_ald_n hX dX12_hasPlace_19 rfl (z_ild_n hX dX12_hasPlace_20 rfl (z_bipush hX dX12_hasPlace_21 (by decide) (z_cv (c := 12) hX hr dX12_hasPlace_23 hjX12_of mwX12_of rfl wm30_3 ⟨wm30_4, wm30_5⟩ ⟨Nat.le_of_ble_eq_true rfl, Nat.le_of_ble_eq_true rfl⟩ (z_iconst hX dX12_hasPlace_26 (by decide) (z_iceq hX dX12_hasPlace_27 (by decide) (tX12_hasPlace_34 hX hr hq) ((tX12_hasPlace_30 hX hr hq))))))))))))))))))
def kX12_streetAt_0 (r : pu_R) : pu_K := s_ald 0 (s_ild 1 (s_push (.int (1)) (s_push (.int (3)) (s_ild 2 (s_imul (s_iadd (s_cv r 265 2 12 (s_iret))))))))
theorem vX12_streetAt_0 : pu_cok2 kX12_streetAt_0 := fun rf r hr => by
  unfold kX12_streetAt_0
  exact v_ald (v_ild (v_pi (v_pi (v_ild (v_imul (v_iadd (v_cv hr (v_iret))))))))
theorem tX12_streetAt_0 {X : pu_X} {r : pu_R} (hX : pu_H X mdX12_streetAt) (hr : pu_P X.2.1 X.2.2.2.2.2.2.2.2.2.2.1 r) (hq : ∀ i pc, pu_lp i = some (268, pc) → pu_S X mdX12_streetAt pc (r i)) : pu_S X mdX12_streetAt 0 (kX12_streetAt_0 r) := by
  unfold kX12_streetAt_0
  exact z_ald_n hX dX12_streetAt_0 rfl (z_ild_n hX dX12_streetAt_1 rfl (z_iconst hX dX12_streetAt_2 (by decide) (z_iconst hX dX12_streetAt_3 (by decide) (z_ild_n hX dX12_streetAt_4 rfl (z_imul hX dX12_streetAt_5 (z_iadd hX dX12_streetAt_6 (z_cv (c := 12) hX hr dX12_streetAt_7 hjX12_of mwX12_of rfl wm30_3 ⟨wm30_4, wm30_5⟩ ⟨Nat.le_of_ble_eq_true rfl, Nat.le_of_ble_eq_true rfl⟩ (z_iret hX dX12_streetAt_10 rfl))))))))
def kX12_sideAt_0 (r : pu_R) : pu_K := s_ald 0 (s_ild 1 (s_push (.int (2)) (s_push (.int (3)) (s_ild 2 (s_imul (s_iadd (s_cv r 265 2 12 (s_iret))))))))
theorem vX12_sideAt_0 : pu_cok2 kX12_sideAt_0 := fun rf r hr => by
  unfold kX12_sideAt_0
  exact v_ald (v_ild (v_pi (v_pi (v_ild (v_imul (v_iadd (v_cv hr (v_iret))))))))
theorem tX12_sideAt_0 {X : pu_X} {r : pu_R} (hX : pu_H X mdX12_sideAt) (hr : pu_P X.2.1 X.2.2.2.2.2.2.2.2.2.2.1 r) (hq : ∀ i pc, pu_lp i = some (269, pc) → pu_S X mdX12_sideAt pc (r i)) : pu_S X mdX12_sideAt 0 (kX12_sideAt_0 r) := by
  unfold kX12_sideAt_0
  exact z_ald_n hX dX12_sideAt_0 rfl (z_ild_n hX dX12_sideAt_1 rfl (z_iconst hX dX12_sideAt_2 (by decide) (z_iconst hX dX12_sideAt_3 (by decide) (z_ild_n hX dX12_sideAt_4 rfl (z_imul hX dX12_sideAt_5 (z_iadd hX dX12_sideAt_6 (z_cv (c := 12) hX hr dX12_sideAt_7 hjX12_of mwX12_of rfl wm30_3 ⟨wm30_4, wm30_5⟩ ⟨Nat.le_of_ble_eq_true rfl, Nat.le_of_ble_eq_true rfl⟩ (z_iret hX dX12_sideAt_10 rfl))))))))
def kX12_pacesAt_0 (r : pu_R) : pu_K := s_ald 0 (s_ild 1 (s_push (.int (3)) (s_push (.int (3)) (s_ild 2 (s_imul (s_iadd (s_cv r 265 2 12 (s_iret))))))))
theorem vX12_pacesAt_0 : pu_cok2 kX12_pacesAt_0 := fun rf r hr => by
  unfold kX12_pacesAt_0
  exact v_ald (v_ild (v_pi (v_pi (v_ild (v_imul (v_iadd (v_cv hr (v_iret))))))))
theorem tX12_pacesAt_0 {X : pu_X} {r : pu_R} (hX : pu_H X mdX12_pacesAt) (hr : pu_P X.2.1 X.2.2.2.2.2.2.2.2.2.2.1 r) (hq : ∀ i pc, pu_lp i = some (270, pc) → pu_S X mdX12_pacesAt pc (r i)) : pu_S X mdX12_pacesAt 0 (kX12_pacesAt_0 r) := by
  unfold kX12_pacesAt_0
  exact z_ald_n hX dX12_pacesAt_0 rfl (z_ild_n hX dX12_pacesAt_1 rfl (z_iconst hX dX12_pacesAt_2 (by decide) (z_iconst hX dX12_pacesAt_3 (by decide) (z_ild_n hX dX12_pacesAt_4 rfl (z_imul hX dX12_pacesAt_5 (z_iadd hX dX12_pacesAt_6 (z_cv (c := 12) hX hr dX12_pacesAt_7 hjX12_of mwX12_of rfl wm30_3 ⟨wm30_4, wm30_5⟩ ⟨Nat.le_of_ble_eq_true rfl, Nat.le_of_ble_eq_true rfl⟩ (z_iret hX dX12_pacesAt_10 rfl))))))))
def kX12_front_23 (r : pu_R) : pu_K := s_ild 2 (s_iret)
theorem vX12_front_23 : pu_cok2 kX12_front_23 := fun rf r hr => by
  unfold kX12_front_23
  exact v_ild (v_iret)
theorem tX12_front_23 {X : pu_X} {r : pu_R} (hX : pu_H X mdX12_front) (hr : pu_P X.2.1 X.2.2.2.2.2.2.2.2.2.2.1 r) (hq : ∀ i pc, pu_lp i = some (271, pc) → pu_S X mdX12_front pc (r i)) : pu_S X mdX12_front 23 (kX12_front_23 r) := by
  unfold kX12_front_23
  exact z_ild_n hX dX12_front_23 rfl (z_iret hX dX12_front_24 rfl)
def kX12_front_2 (r : pu_R) : pu_K := s_ald 0 (s_ild 2 (s_push (.int (0)) (s_cv r 265 2 12 (s_push (.int (2)) (s_iclt (kX12_front_23 r) (s_ald 0 (s_ild 2 (s_push (.int (8)) (s_cv r 265 2 12 (s_ist 2 ((r 456))))))))))))
theorem vX12_front_2 : pu_cok2 kX12_front_2 := fun rf r hr => by
  unfold kX12_front_2
  exact v_ald (v_ild (v_pi (v_cv hr (v_pi (v_iclt (vX12_front_23 rf r hr) (v_ald (v_ild (v_pi (v_cv hr (v_ist ((hr 456))))))))))))
theorem tX12_front_2 {X : pu_X} {r : pu_R} (hX : pu_H X mdX12_front) (hr : pu_P X.2.1 X.2.2.2.2.2.2.2.2.2.2.1 r) (hq : ∀ i pc, pu_lp i = some (271, pc) → pu_S X mdX12_front pc (r i)) : pu_S X mdX12_front 2 (kX12_front_2 r) := by
  unfold kX12_front_2
  exact z_ald_n hX dX12_front_2 rfl (z_ild_n hX dX12_front_3 rfl (z_iconst hX dX12_front_4 (by decide) (z_cv (c := 12) hX hr dX12_front_5 hjX12_of mwX12_of rfl wm30_3 ⟨wm30_4, wm30_5⟩ ⟨Nat.le_of_ble_eq_true rfl, Nat.le_of_ble_eq_true rfl⟩ (z_iconst hX dX12_front_8 (by decide) (z_iclt hX dX12_front_9 (by decide) (tX12_front_23 hX hr hq) (z_ald_n hX dX12_front_12 rfl (z_ild_n hX dX12_front_13 rfl (z_bipush hX dX12_front_14 (by decide) (z_cv (c := 12) hX hr dX12_front_16 hjX12_of mwX12_of rfl wm30_3 ⟨wm30_4, wm30_5⟩ ⟨Nat.le_of_ble_eq_true rfl, Nat.le_of_ble_eq_true rfl⟩ (z_ist_n hX dX12_front_19 rfl ((z_goto hX dX12_front_20 (by decide) (hq 456 2 hl456)))))))))))))
def kX12_front_0 (r : pu_R) : pu_K := s_ild 1 (s_ist 2 ((r 456)))
theorem vX12_front_0 : pu_cok2 kX12_front_0 := fun rf r hr => by
  unfold kX12_front_0
  exact v_ild (v_ist ((hr 456)))
theorem tX12_front_0 {X : pu_X} {r : pu_R} (hX : pu_H X mdX12_front) (hr : pu_P X.2.1 X.2.2.2.2.2.2.2.2.2.2.1 r) (hq : ∀ i pc, pu_lp i = some (271, pc) → pu_S X mdX12_front pc (r i)) : pu_S X mdX12_front 0 (kX12_front_0 r) := by
  unfold kX12_front_0
  exact z_ild_n hX dX12_front_0 rfl (z_ist_n hX dX12_front_1 rfl ((hq 456 2 hl456)))
def kX12_openSpan_69 (r : pu_R) : pu_K := s_push (.int (-1)) (s_iret)
theorem vX12_openSpan_69 : pu_cok2 kX12_openSpan_69 := fun rf r hr => by
  unfold kX12_openSpan_69
  exact v_pi (v_iret)
theorem tX12_openSpan_69 {X : pu_X} {r : pu_R} (hX : pu_H X mdX12_openSpan) (hr : pu_P X.2.1 X.2.2.2.2.2.2.2.2.2.2.1 r) (hq : ∀ i pc, pu_lp i = some (272, pc) → pu_S X mdX12_openSpan pc (r i)) : pu_S X mdX12_openSpan 69 (kX12_openSpan_69 r) := by
  unfold kX12_openSpan_69
  exact z_iconst hX dX12_openSpan_69 (by decide) (z_iret hX dX12_openSpan_70 rfl)
def kX12_openSpan_63 (r : pu_R) : pu_K := s_inc 3 (-1) ((r 457))
theorem vX12_openSpan_63 : pu_cok2 kX12_openSpan_63 := fun rf r hr => by
  unfold kX12_openSpan_63
  exact v_inc ((hr 457))
theorem tX12_openSpan_63 {X : pu_X} {r : pu_R} (hX : pu_H X mdX12_openSpan) (hr : pu_P X.2.1 X.2.2.2.2.2.2.2.2.2.2.1 r) (hq : ∀ i pc, pu_lp i = some (272, pc) → pu_S X mdX12_openSpan pc (r i)) : pu_S X mdX12_openSpan 63 (kX12_openSpan_63 r) := by
  unfold kX12_openSpan_63
  exact z_inc hX dX12_openSpan_63 (by decide) ((z_goto hX dX12_openSpan_66 (by decide) (hq 457 10 hl457)))
def kX12_openSpan_52 (r : pu_R) : pu_K := s_ild 4 (s_push (.int (5)) (s_iadd (s_ai 1 (s_push (.int (-1)) (s_icne (kX12_openSpan_63 r) (s_ild 3 (s_iret)))))))
theorem vX12_openSpan_52 : pu_cok2 kX12_openSpan_52 := fun rf r hr => by
  unfold kX12_openSpan_52
  exact v_ild (v_pi (v_iadd (v_ai (v_pi (v_icne (vX12_openSpan_63 rf r hr) (v_ild (v_iret)))))))
theorem tX12_openSpan_52 {X : pu_X} {r : pu_R} (hX : pu_H X mdX12_openSpan) (hr : pu_P X.2.1 X.2.2.2.2.2.2.2.2.2.2.1 r) (hq : ∀ i pc, pu_lp i = some (272, pc) → pu_S X mdX12_openSpan pc (r i)) : pu_S X mdX12_openSpan 52 (kX12_openSpan_52 r) := by
  unfold kX12_openSpan_52
  exact z_ild hX dX12_openSpan_52 (z_iconst hX dX12_openSpan_54 (by decide) (z_iadd hX dX12_openSpan_55 (z_iald hX dX12_openSpan_56 (z_iconst hX dX12_openSpan_57 (by decide) (z_icne hX dX12_openSpan_58 (by decide) (tX12_openSpan_63 hX hr hq) (z_ild_n hX dX12_openSpan_61 rfl (z_iret hX dX12_openSpan_62 rfl)))))))
def kX12_openSpan_10 (r : pu_R) : pu_K := s_ild 3 (s_iflt (kX12_openSpan_69 r) (s_push (.int (10752)) (s_push (.int (6)) (s_ild 3 (s_imul (s_iadd (s_ist 4 (s_ald 0 (s_gr 12 0 (s_ild 4 (s_ai 1 (s_ild 1 (s_icne (kX12_openSpan_63 r) (s_ald 0 (s_gr 12 0 (s_ild 4 (s_push (.int (1)) (s_iadd (s_ai 1 (s_ild 2 (s_icne (kX12_openSpan_63 r) (s_ald 0 (s_gr 12 0 ((kX12_openSpan_52 r)))))))))))))))))))))))))
theorem vX12_openSpan_10 : pu_cok2 kX12_openSpan_10 := fun rf r hr => by
  unfold kX12_openSpan_10
  exact v_ild (v_iflt (vX12_openSpan_69 rf r hr) (v_pi (v_pi (v_ild (v_imul (v_iadd (v_ist (v_ald (v_gr (v_ild (v_ai (v_ild (v_icne (vX12_openSpan_63 rf r hr) (v_ald (v_gr (v_ild (v_pi (v_iadd (v_ai (v_ild (v_icne (vX12_openSpan_63 rf r hr) (v_ald (v_gr ((vX12_openSpan_52 rf r hr)))))))))))))))))))))))))
theorem tX12_openSpan_10 {X : pu_X} {r : pu_R} (hX : pu_H X mdX12_openSpan) (hr : pu_P X.2.1 X.2.2.2.2.2.2.2.2.2.2.1 r) (hq : ∀ i pc, pu_lp i = some (272, pc) → pu_S X mdX12_openSpan pc (r i)) : pu_S X mdX12_openSpan 10 (kX12_openSpan_10 r) := by
  unfold kX12_openSpan_10
  exact z_ild_n hX dX12_openSpan_10 rfl (z_iflt hX dX12_openSpan_11 (by decide) (tX12_openSpan_69 hX hr hq) (z_sipush hX dX12_openSpan_14 (by decide) (z_bipush hX dX12_openSpan_17 (by decide) (z_ild_n hX dX12_openSpan_19 rfl (z_imul hX dX12_openSpan_20 (z_iadd hX dX12_openSpan_21 (z_ist hX dX12_openSpan_22 (z_ald_n hX dX12_openSpan_24 rfl (z_gr (c := 12) (j := 0) hX dX12_openSpan_25 rfl inlX12 wm7_16 ⟨rfl, by decide, rfl⟩ (z_ild hX dX12_openSpan_28 (z_iald hX dX12_openSpan_30 (z_ild_n hX dX12_openSpan_31 rfl (z_icne hX dX12_openSpan_32 (by decide) (tX12_openSpan_63 hX hr hq) (z_ald_n hX dX12_openSpan_35 rfl (z_gr (c := 12) (j := 0) hX dX12_openSpan_36 rfl inlX12 wm7_16 ⟨rfl, by decide, rfl⟩ (z_ild hX dX12_openSpan_39 (z_iconst hX dX12_openSpan_41 (by decide) (z_iadd hX dX12_openSpan_42 (z_iald hX dX12_openSpan_43 (z_ild_n hX dX12_openSpan_44 rfl (z_icne hX dX12_openSpan_45 (by decide) (tX12_openSpan_63 hX hr hq) (z_ald_n hX dX12_openSpan_48 rfl (z_gr (c := 12) (j := 0) hX dX12_openSpan_49 rfl inlX12 wm7_16 ⟨rfl, by decide, rfl⟩ ((tX12_openSpan_52 hX hr hq)))))))))))))))))))))))))
def kX12_openSpan_0 (r : pu_R) : pu_K := s_ald 0 (s_gr 12 0 (s_push (.int (6)) (s_ai 1 (s_push (.int (1)) (s_isub (s_ist 3 ((r 457))))))))
theorem vX12_openSpan_0 : pu_cok2 kX12_openSpan_0 := fun rf r hr => by
  unfold kX12_openSpan_0
  exact v_ald (v_gr (v_pi (v_ai (v_pi (v_isub (v_ist ((hr 457))))))))
theorem tX12_openSpan_0 {X : pu_X} {r : pu_R} (hX : pu_H X mdX12_openSpan) (hr : pu_P X.2.1 X.2.2.2.2.2.2.2.2.2.2.1 r) (hq : ∀ i pc, pu_lp i = some (272, pc) → pu_S X mdX12_openSpan pc (r i)) : pu_S X mdX12_openSpan 0 (kX12_openSpan_0 r) := by
  unfold kX12_openSpan_0
  exact z_ald_n hX dX12_openSpan_0 rfl (z_gr (c := 12) (j := 0) hX dX12_openSpan_1 rfl inlX12 wm7_16 ⟨rfl, by decide, rfl⟩ (z_bipush hX dX12_openSpan_4 (by decide) (z_iald hX dX12_openSpan_6 (z_iconst hX dX12_openSpan_7 (by decide) (z_isub hX dX12_openSpan_8 (z_ist_n hX dX12_openSpan_9 rfl ((hq 457 10 hl457))))))))
def kX12_wholeAt_31 (r : pu_R) : pu_K := s_iret
theorem vX12_wholeAt_31 : pu_cok2 kX12_wholeAt_31 := fun rf r hr => by
  unfold kX12_wholeAt_31
  exact v_iret
theorem tX12_wholeAt_31 {X : pu_X} {r : pu_R} (hX : pu_H X mdX12_wholeAt) (hr : pu_P X.2.1 X.2.2.2.2.2.2.2.2.2.2.1 r) (hq : ∀ i pc, pu_lp i = some (273, pc) → pu_S X mdX12_wholeAt pc (r i)) : pu_S X mdX12_wholeAt 31 (kX12_wholeAt_31 r) := by
  unfold kX12_wholeAt_31
  exact z_iret hX dX12_wholeAt_31 rfl
def kX12_wholeAt_16 (r : pu_R) : pu_K := s_ald 0 (s_gr 12 0 (s_push (.int (10752)) (s_push (.int (6)) (s_ild 3 (s_imul (s_iadd (s_push (.int (3)) (s_iadd (s_ai 1 ((kX12_wholeAt_31 r)))))))))))
theorem vX12_wholeAt_16 : pu_cok2 kX12_wholeAt_16 := fun rf r hr => by
  unfold kX12_wholeAt_16
  exact v_ald (v_gr (v_pi (v_pi (v_ild (v_imul (v_iadd (v_pi (v_iadd (v_ai ((vX12_wholeAt_31 rf r hr)))))))))))
theorem tX12_wholeAt_16 {X : pu_X} {r : pu_R} (hX : pu_H X mdX12_wholeAt) (hr : pu_P X.2.1 X.2.2.2.2.2.2.2.2.2.2.1 r) (hq : ∀ i pc, pu_lp i = some (273, pc) → pu_S X mdX12_wholeAt pc (r i)) : pu_S X mdX12_wholeAt 16 (kX12_wholeAt_16 r) := by
  unfold kX12_wholeAt_16
  exact z_ald_n hX dX12_wholeAt_16 rfl (z_gr (c := 12) (j := 0) hX dX12_wholeAt_17 rfl inlX12 wm7_16 ⟨rfl, by decide, rfl⟩ (z_sipush hX dX12_wholeAt_20 (by decide) (z_bipush hX dX12_wholeAt_23 (by decide) (z_ild_n hX dX12_wholeAt_25 rfl (z_imul hX dX12_wholeAt_26 (z_iadd hX dX12_wholeAt_27 (z_iconst hX dX12_wholeAt_28 (by decide) (z_iadd hX dX12_wholeAt_29 (z_iald hX dX12_wholeAt_30 ((tX12_wholeAt_31 hX hr hq)))))))))))
def kX12_wholeAt_0 (r : pu_R) : pu_K := s_ald 0 (s_ild 1 (s_ild 2 (s_cv r 272 2 12 (s_ist 3 (s_ild 3 (s_push (.int (-1)) (s_icne (kX12_wholeAt_16 r) (s_push (.int (-1)) ((kX12_wholeAt_31 r))))))))))
theorem vX12_wholeAt_0 : pu_cok2 kX12_wholeAt_0 := fun rf r hr => by
  unfold kX12_wholeAt_0
  exact v_ald (v_ild (v_ild (v_cv hr (v_ist (v_ild (v_pi (v_icne (vX12_wholeAt_16 rf r hr) (v_pi ((vX12_wholeAt_31 rf r hr))))))))))
theorem tX12_wholeAt_0 {X : pu_X} {r : pu_R} (hX : pu_H X mdX12_wholeAt) (hr : pu_P X.2.1 X.2.2.2.2.2.2.2.2.2.2.1 r) (hq : ∀ i pc, pu_lp i = some (273, pc) → pu_S X mdX12_wholeAt pc (r i)) : pu_S X mdX12_wholeAt 0 (kX12_wholeAt_0 r) := by
  unfold kX12_wholeAt_0
  exact z_ald_n hX dX12_wholeAt_0 rfl (z_ild_n hX dX12_wholeAt_1 rfl (z_ild_n hX dX12_wholeAt_2 rfl (z_cv (c := 12) hX hr dX12_wholeAt_3 hjX12_openSpan mwX12_openSpan rfl wm31_2 ⟨wm31_3, wm31_4⟩ ⟨Nat.le_of_ble_eq_true rfl, Nat.le_of_ble_eq_true rfl⟩ (z_ist_n hX dX12_wholeAt_6 rfl (z_ild_n hX dX12_wholeAt_7 rfl (z_iconst hX dX12_wholeAt_8 (by decide) (z_icne hX dX12_wholeAt_9 (by decide) (tX12_wholeAt_16 hX hr hq) (z_iconst hX dX12_wholeAt_12 (by decide) ((z_goto hX dX12_wholeAt_13 (by decide) (tX12_wholeAt_31 hX hr hq)))))))))))
