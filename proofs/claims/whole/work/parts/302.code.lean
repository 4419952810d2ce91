def kX9_add_104 (r : pu_R) : pu_K := s_gr 9 7 (s_ild 6 (s_ald 1 (s_gr 2 10 (s_ild 2 (s_ai 1 (s_wi 1 (s_ald 0 (s_gr 9 8 (s_ild 6 (s_ild 5 (s_wi 1 (s_ald 0 (s_dup (s_gi 9 0 (s_push (.int (1)) (s_iadd (s_pi 9 0 (s_vret))))))))))))))))))
theorem vX9_add_104 : pu_cok2 kX9_add_104 := fun rf r hr => by
  unfold kX9_add_104
  exact v_gr (v_ild (v_ald (v_gr (v_ild (v_ai (v_wi (v_ald (v_gr (v_ild (v_ild (v_wi (v_ald (v_dup (v_gi (v_pi (v_iadd (v_puti (v_vret))))))))))))))))))
theorem tX9_add_104 {X : pu_X} {r : pu_R} (hX : pu_H X mdX9_add) (hr : pu_P X.2.1 X.2.2.2.2.2.2.2.2.2.2.1 r) (hq : ∀ i pc, pu_lp i = some (72, pc) → pu_S X mdX9_add pc (r i)) : pu_S X mdX9_add 104 (kX9_add_104 r) := by
  unfold kX9_add_104
  exact z_gr (c := 9) (j := 7) hX dX9_add_104 rfl inlX9 wm7_9 ⟨rfl, by decide, rfl⟩ (z_ild hX dX9_add_107 (z_ald_n hX dX9_add_109 rfl (z_gr (c := 2) (j := 10) hX dX9_add_110 rfl inlX2 wm25_6 ⟨rfl, by decide, rfl⟩ (z_ild_n hX dX9_add_113 rfl (z_iald hX dX9_add_114 (z_iast hX dX9_add_115 (z_ald_n hX dX9_add_116 rfl (z_gr (c := 9) (j := 8) hX dX9_add_117 rfl inlX9 wm7_10 ⟨rfl, by decide, rfl⟩ (z_ild hX dX9_add_120 (z_ild hX dX9_add_122 (z_iast hX dX9_add_124 (z_ald_n hX dX9_add_125 rfl (z_dup hX dX9_add_126 (z_gi (c := 9) (j := 0) hX dX9_add_127 rfl inlX9 wm23_20 ⟨rfl, by decide, rfl⟩ (z_iconst hX dX9_add_130 (by decide) (z_iadd hX dX9_add_131 (z_pi (c := 9) (j := 0) tyX9 tyX9_ok nmX9 hX dX9_add_132 rfl inlX9 wm23_20 ⟨rfl, by decide⟩ ⟨rfl, rfl⟩ rfl (z_vret hX dX9_add_135 rfl))))))))))))))))))
def kX9_add_65 (r : pu_R) : pu_K := s_ald 0 (s_gr 9 3 (s_ild 6 (s_ild 4 (s_wi 1 (s_ald 0 (s_gr 9 4 (s_ild 6 (s_ild 2 (s_wi 1 (s_ald 0 (s_gr 9 5 (s_ild 6 (s_ild 3 (s_wi 1 (s_ald 0 (s_gr 9 6 (s_ild 6 (s_ald 1 (s_gr 2 9 (s_ild 2 (s_ai 1 (s_wi 1 (s_ald 0 ((kX9_add_104 r)))))))))))))))))))))))))
theorem vX9_add_65 : pu_cok2 kX9_add_65 := fun rf r hr => by
  unfold kX9_add_65
  exact v_ald (v_gr (v_ild (v_ild (v_wi (v_ald (v_gr (v_ild (v_ild (v_wi (v_ald (v_gr (v_ild (v_ild (v_wi (v_ald (v_gr (v_ild (v_ald (v_gr (v_ild (v_ai (v_wi (v_ald ((vX9_add_104 rf r hr)))))))))))))))))))))))))
theorem tX9_add_65 {X : pu_X} {r : pu_R} (hX : pu_H X mdX9_add) (hr : pu_P X.2.1 X.2.2.2.2.2.2.2.2.2.2.1 r) (hq : ∀ i pc, pu_lp i = some (72, pc) → pu_S X mdX9_add pc (r i)) : pu_S X mdX9_add 65 (kX9_add_65 r) := by
  unfold kX9_add_65
  exact z_ald_n hX dX9_add_65 rfl (z_gr (c := 9) (j := 3) hX dX9_add_66 rfl inlX9 wm7_5 ⟨rfl, by decide, rfl⟩ (z_ild hX dX9_add_69 (z_ild hX dX9_add_71 (z_iast hX dX9_add_73 (z_ald_n hX dX9_add_74 rfl (z_gr (c := 9) (j := 4) hX dX9_add_75 rfl inlX9 wm7_6 ⟨rfl, by decide, rfl⟩ (z_ild hX dX9_add_78 (z_ild_n hX dX9_add_80 rfl (z_iast hX dX9_add_81 (z_ald_n hX dX9_add_82 rfl (z_gr (c := 9) (j := 5) hX dX9_add_83 rfl inlX9 wm7_7 ⟨rfl, by decide, rfl⟩ (z_ild hX dX9_add_86 (z_ild_n hX dX9_add_88 rfl (z_iast hX dX9_add_89 (z_ald_n hX dX9_add_90 rfl (z_gr (c := 9) (j := 6) hX dX9_add_91 rfl inlX9 wm7_8 ⟨rfl, by decide, rfl⟩ (z_ild hX dX9_add_94 (z_ald_n hX dX9_add_96 rfl (z_gr (c := 2) (j := 9) hX dX9_add_97 rfl inlX2 wm25_5 ⟨rfl, by decide, rfl⟩ (z_ild_n hX dX9_add_100 rfl (z_iald hX dX9_add_101 (z_iast hX dX9_add_102 (z_ald_n hX dX9_add_103 rfl ((tX9_add_104 hX hr hq)))))))))))))))))))))))))
def kX9_add_34 (r : pu_R) : pu_K := s_ild 6 (s_ifle (kX9_add_65 r) (s_ald 0 (s_gr 9 8 (s_ild 6 (s_push (.int (1)) (s_isub (s_ai 1 (s_ild 5 (s_icle (kX9_add_65 r) (s_ald 0 (s_ild 6 (s_cv r 71 1 9 (s_inc 6 (-1) ((r 370)))))))))))))))
theorem vX9_add_34 : pu_cok2 kX9_add_34 := fun rf r hr => by
  unfold kX9_add_34
  exact v_ild (v_ifle (vX9_add_65 rf r hr) (v_ald (v_gr (v_ild (v_pi (v_isub (v_ai (v_ild (v_icle (vX9_add_65 rf r hr) (v_ald (v_ild (v_cv hr (v_inc ((hr 370)))))))))))))))
theorem tX9_add_34 {X : pu_X} {r : pu_R} (hX : pu_H X mdX9_add) (hr : pu_P X.2.1 X.2.2.2.2.2.2.2.2.2.2.1 r) (hq : ∀ i pc, pu_lp i = some (72, pc) → pu_S X mdX9_add pc (r i)) : pu_S X mdX9_add 34 (kX9_add_34 r) := by
  unfold kX9_add_34
  exact z_ild hX dX9_add_34 (z_ifle hX dX9_add_36 (by decide) (tX9_add_65 hX hr hq) (z_ald_n hX dX9_add_39 rfl (z_gr (c := 9) (j := 8) hX dX9_add_40 rfl inlX9 wm7_10 ⟨rfl, by decide, rfl⟩ (z_ild hX dX9_add_43 (z_iconst hX dX9_add_45 (by decide) (z_isub hX dX9_add_46 (z_iald hX dX9_add_47 (z_ild hX dX9_add_48 (z_icle hX dX9_add_50 (by decide) (tX9_add_65 hX hr hq) (z_ald_n hX dX9_add_53 rfl (z_ild hX dX9_add_54 (z_cv (c := 9) hX hr dX9_add_56 hjX9_moveUp mwX9_moveUp rfl wm25_11 ⟨wm25_12, wm25_13⟩ ⟨Nat.le_of_ble_eq_true rfl, Nat.le_of_ble_eq_true rfl⟩ (z_inc hX dX9_add_59 (by decide) ((z_goto hX dX9_add_62 (by decide) (hq 370 34 hl370))))))))))))))))
def kX9_add_10 (r : pu_R) : pu_K := s_ald 0 (s_ald 1 (s_gr 2 9 (s_ild 2 (s_ai 1 (s_ald 1 (s_gr 2 10 (s_ild 2 (s_ai 1 (s_cv r 70 2 9 (s_ist 5 (s_ald 0 (s_gi 9 0 (s_ist 6 ((r 370)))))))))))))))
theorem vX9_add_10 : pu_cok2 kX9_add_10 := fun rf r hr => by
  unfold kX9_add_10
  exact v_ald (v_ald (v_gr (v_ild (v_ai (v_ald (v_gr (v_ild (v_ai (v_cv hr (v_ist (v_ald (v_gi (v_ist ((hr 370)))))))))))))))
theorem tX9_add_10 {X : pu_X} {r : pu_R} (hX : pu_H X mdX9_add) (hr : pu_P X.2.1 X.2.2.2.2.2.2.2.2.2.2.1 r) (hq : ∀ i pc, pu_lp i = some (72, pc) → pu_S X mdX9_add pc (r i)) : pu_S X mdX9_add 10 (kX9_add_10 r) := by
  unfold kX9_add_10
  exact z_ald_n hX dX9_add_10 rfl (z_ald_n hX dX9_add_11 rfl (z_gr (c := 2) (j := 9) hX dX9_add_12 rfl inlX2 wm25_5 ⟨rfl, by decide, rfl⟩ (z_ild_n hX dX9_add_15 rfl (z_iald hX dX9_add_16 (z_ald_n hX dX9_add_17 rfl (z_gr (c := 2) (j := 10) hX dX9_add_18 rfl inlX2 wm25_6 ⟨rfl, by decide, rfl⟩ (z_ild_n hX dX9_add_21 rfl (z_iald hX dX9_add_22 (z_cv (c := 9) hX hr dX9_add_23 hjX9_rankOf mwX9_rankOf rfl wm25_7 ⟨wm25_8, wm25_9⟩ ⟨Nat.le_of_ble_eq_true rfl, Nat.le_of_ble_eq_true rfl⟩ (z_ist hX dX9_add_26 (z_ald_n hX dX9_add_28 rfl (z_gi (c := 9) (j := 0) hX dX9_add_29 rfl inlX9 wm23_20 ⟨rfl, by decide, rfl⟩ (z_ist hX dX9_add_32 ((hq 370 34 hl370)))))))))))))))
def kX9_add_0 (r : pu_R) : pu_K := s_ald 0 (s_gi 9 0 (s_push (.int (100)) (s_iclt (kX9_add_10 r) (s_vret))))
theorem vX9_add_0 : pu_cok2 kX9_add_0 := fun rf r hr => by
  unfold kX9_add_0
  exact v_ald (v_gi (v_pi (v_iclt (vX9_add_10 rf r hr) (v_vret))))
theorem tX9_add_0 {X : pu_X} {r : pu_R} (hX : pu_H X mdX9_add) (hr : pu_P X.2.1 X.2.2.2.2.2.2.2.2.2.2.1 r) (hq : ∀ i pc, pu_lp i = some (72, pc) → pu_S X mdX9_add pc (r i)) : pu_S X mdX9_add 0 (kX9_add_0 r) := by
  unfold kX9_add_0
  exact z_ald_n hX dX9_add_0 rfl (z_gi (c := 9) (j := 0) hX dX9_add_1 rfl inlX9 wm23_20 ⟨rfl, by decide, rfl⟩ (z_bipush hX dX9_add_4 (by decide) (z_iclt hX dX9_add_6 (by decide) (tX9_add_10 hX hr hq) (z_vret hX dX9_add_9 rfl))))
def kX9_fill_103 (r : pu_R) : pu_K := s_vret
theorem vX9_fill_103 : pu_cok2 kX9_fill_103 := fun rf r hr => by
  unfold kX9_fill_103
  exact v_vret
theorem tX9_fill_103 {X : pu_X} {r : pu_R} (hX : pu_H X mdX9_fill) (hr : pu_P X.2.1 X.2.2.2.2.2.2.2.2.2.2.1 r) (hq : ∀ i pc, pu_lp i = some (73, pc) → pu_S X mdX9_fill pc (r i)) : pu_S X mdX9_fill 103 (kX9_fill_103 r) := by
  unfold kX9_fill_103
  exact z_vret hX dX9_fill_103 rfl
def kX9_fill_97 (r : pu_R) : pu_K := s_inc 6 (1) ((r 371))
theorem vX9_fill_97 : pu_cok2 kX9_fill_97 := fun rf r hr => by
  unfold kX9_fill_97
  exact v_inc ((hr 371))
theorem tX9_fill_97 {X : pu_X} {r : pu_R} (hX : pu_H X mdX9_fill) (hr : pu_P X.2.1 X.2.2.2.2.2.2.2.2.2.2.1 r) (hq : ∀ i pc, pu_lp i = some (73, pc) → pu_S X mdX9_fill pc (r i)) : pu_S X mdX9_fill 97 (kX9_fill_97 r) := by
  unfold kX9_fill_97
  exact z_inc hX dX9_fill_97 (by decide) ((z_goto hX dX9_fill_100 (by decide) (hq 371 32 hl371)))
def kX9_fill_83 (r : pu_R) : pu_K := s_ai 1 (s_ald 5 (s_gr 4 2 (s_ild 6 (s_ai 1 (s_ild 6 (s_cv r 72 4 9 ((kX9_fill_97 r))))))))
theorem vX9_fill_83 : pu_cok2 kX9_fill_83 := fun rf r hr => by
  unfold kX9_fill_83
  exact v_ai (v_ald (v_gr (v_ild (v_ai (v_ild (v_cv hr ((vX9_fill_97 rf r hr))))))))
theorem tX9_fill_83 {X : pu_X} {r : pu_R} (hX : pu_H X mdX9_fill) (hr : pu_P X.2.1 X.2.2.2.2.2.2.2.2.2.2.1 r) (hq : ∀ i pc, pu_lp i = some (73, pc) → pu_S X mdX9_fill pc (r i)) : pu_S X mdX9_fill 83 (kX9_fill_83 r) := by
  unfold kX9_fill_83
  exact z_iald hX dX9_fill_83 (z_ald hX dX9_fill_84 (z_gr (c := 4) (j := 2) hX dX9_fill_86 rfl inlX4 wm24_4 ⟨rfl, by decide, rfl⟩ (z_ild hX dX9_fill_89 (z_iald hX dX9_fill_91 (z_ild hX dX9_fill_92 (z_cv (c := 9) hX hr dX9_fill_94 hjX9_add mwX9_add rfl wm25_1 ⟨wm25_2, wm25_3⟩ ⟨Nat.le_of_ble_eq_true rfl, Nat.le_of_ble_eq_true rfl⟩ ((tX9_fill_97 hX hr hq))))))))
def kX9_fill_32 (r : pu_R) : pu_K := s_ild 6 (s_ald 5 (s_gi 4 0 (s_icge (kX9_fill_103 r) (s_ald 1 (s_gr 5 4 (s_ald 5 (s_gr 4 1 (s_ild 6 (s_ai 1 (s_cv r 66 1 2 (s_ild 2 (s_icne (kX9_fill_97 r) (s_ald 1 (s_ild 6 (s_ild 3 (s_cs r 69 3 (s_ifeq (kX9_fill_97 r) (s_ald 0 (s_ald 1 (s_gr 5 4 (s_ald 5 (s_gr 4 1 (s_ild 6 ((kX9_fill_83 r)))))))))))))))))))))))))
theorem vX9_fill_32 : pu_cok2 kX9_fill_32 := fun rf r hr => by
  unfold kX9_fill_32
  exact v_ild (v_ald (v_gi (v_icge (vX9_fill_103 rf r hr) (v_ald (v_gr (v_ald (v_gr (v_ild (v_ai (v_cv hr (v_ild (v_icne (vX9_fill_97 rf r hr) (v_ald (v_ild (v_ild (v_cs hr (v_ifeq (vX9_fill_97 rf r hr) (v_ald (v_ald (v_gr (v_ald (v_gr (v_ild ((vX9_fill_83 rf r hr)))))))))))))))))))))))))
theorem tX9_fill_32 {X : pu_X} {r : pu_R} (hX : pu_H X mdX9_fill) (hr : pu_P X.2.1 X.2.2.2.2.2.2.2.2.2.2.1 r) (hq : ∀ i pc, pu_lp i = some (73, pc) → pu_S X mdX9_fill pc (r i)) : pu_S X mdX9_fill 32 (kX9_fill_32 r) := by
  unfold kX9_fill_32
  exact z_ild hX dX9_fill_32 (z_ald hX dX9_fill_34 (z_gi (c := 4) (j := 0) hX dX9_fill_36 rfl inlX4 wm24_1 ⟨rfl, by decide, rfl⟩ (z_icge hX dX9_fill_39 (by decide) (tX9_fill_103 hX hr hq) (z_ald_n hX dX9_fill_42 rfl (z_gr (c := 5) (j := 4) hX dX9_fill_43 rfl inlX5 wm24_2 ⟨rfl, by decide, rfl⟩ (z_ald hX dX9_fill_46 (z_gr (c := 4) (j := 1) hX dX9_fill_48 rfl inlX4 wm24_3 ⟨rfl, by decide, rfl⟩ (z_ild hX dX9_fill_51 (z_iald hX dX9_fill_53 (z_cv (c := 2) hX hr dX9_fill_54 hjX2_streetOf mwX2_streetOf rfl wm24_6 ⟨wm24_7, wm24_8⟩ ⟨Nat.le_of_ble_eq_true rfl, Nat.le_of_ble_eq_true rfl⟩ (z_ild_n hX dX9_fill_57 rfl (z_icne hX dX9_fill_58 (by decide) (tX9_fill_97 hX hr hq) (z_ald_n hX dX9_fill_61 rfl (z_ild hX dX9_fill_62 (z_ild_n hX dX9_fill_64 rfl (z_cs hX hr dX9_fill_65 hjX9_isThen mwX9_isThen wm24_11 wm24_12 ⟨Nat.le_of_ble_eq_true rfl, Nat.le_of_ble_eq_true rfl⟩ (z_ifeq hX dX9_fill_68 (by decide) (tX9_fill_97 hX hr hq) (z_ald_n hX dX9_fill_71 rfl (z_ald_n hX dX9_fill_72 rfl (z_gr (c := 5) (j := 4) hX dX9_fill_73 rfl inlX5 wm24_2 ⟨rfl, by decide, rfl⟩ (z_ald hX dX9_fill_76 (z_gr (c := 4) (j := 1) hX dX9_fill_78 rfl inlX4 wm24_3 ⟨rfl, by decide, rfl⟩ (z_ild hX dX9_fill_81 ((tX9_fill_83 hX hr hq)))))))))))))))))))))))))
def kX9_fill_0 (r : pu_R) : pu_K := s_ald 0 (s_push (.int (0)) (s_pi 9 0 (s_ald 0 (s_ald 1 (s_gr 5 3 (s_ild 2 (s_cv r 64 1 10 (s_pi 9 1 (s_ald 0 (s_ild 4 (s_pi 9 2 (s_ald 1 (s_gr 5 1 (s_ast 5 (s_push (.int (0)) (s_ist 6 ((r 371))))))))))))))))))
theorem vX9_fill_0 : pu_cok2 kX9_fill_0 := fun rf r hr => by
  unfold kX9_fill_0
  exact v_ald (v_pi (v_puti (v_ald (v_ald (v_gr (v_ild (v_cv hr (v_puti (v_ald (v_ild (v_puti (v_ald (v_gr (v_ast (v_pi (v_ist ((hr 371))))))))))))))))))
theorem tX9_fill_0 {X : pu_X} {r : pu_R} (hX : pu_H X mdX9_fill) (hr : pu_P X.2.1 X.2.2.2.2.2.2.2.2.2.2.1 r) (hq : ∀ i pc, pu_lp i = some (73, pc) → pu_S X mdX9_fill pc (r i)) : pu_S X mdX9_fill 0 (kX9_fill_0 r) := by
  unfold kX9_fill_0
  exact z_ald_n hX dX9_fill_0 rfl (z_iconst hX dX9_fill_1 (by decide) (z_pi (c := 9) (j := 0) tyX9 tyX9_ok nmX9 hX dX9_fill_2 rfl inlX9 wm23_20 ⟨rfl, by decide⟩ ⟨rfl, rfl⟩ rfl (z_ald_n hX dX9_fill_5 rfl (z_ald_n hX dX9_fill_6 rfl (z_gr (c := 5) (j := 3) hX dX9_fill_7 rfl inlX5 wm23_21 ⟨rfl, by decide, rfl⟩ (z_ild_n hX dX9_fill_10 rfl (z_cv (c := 10) hX hr dX9_fill_11 hjX10_ruleOf mwX10_ruleOf rfl wm24_5 ⟨wm23_9, wm23_10⟩ ⟨Nat.le_of_ble_eq_true rfl, Nat.le_of_ble_eq_true rfl⟩ (z_pi (c := 9) (j := 1) tyX9 tyX9_ok nmX9 hX dX9_fill_14 rfl inlX9 wm23_22 ⟨rfl, by decide⟩ ⟨rfl, rfl⟩ rfl (z_ald_n hX dX9_fill_17 rfl (z_ild hX dX9_fill_18 (z_pi (c := 9) (j := 2) tyX9 tyX9_ok nmX9 hX dX9_fill_20 rfl inlX9 wm23_23 ⟨rfl, by decide⟩ ⟨rfl, rfl⟩ rfl (z_ald_n hX dX9_fill_23 rfl (z_gr (c := 5) (j := 1) hX dX9_fill_24 rfl inlX5 wm24_0 ⟨rfl, by decide, rfl⟩ (z_ast hX dX9_fill_27 (z_iconst hX dX9_fill_29 (by decide) (z_ist hX dX9_fill_30 ((hq 371 32 hl371))))))))))))))))))
def kX9_isInLine_22 (r : pu_R) : pu_K := s_zret
theorem vX9_isInLine_22 : pu_cok2 kX9_isInLine_22 := fun rf r hr => by
  unfold kX9_isInLine_22
  exact v_zret
theorem tX9_isInLine_22 {X : pu_X} {r : pu_R} (hX : pu_H X mdX9_isInLine) (hr : pu_P X.2.1 X.2.2.2.2.2.2.2.2.2.2.1 r) (hq : ∀ i pc, pu_lp i = some (74, pc) → pu_S X mdX9_isInLine pc (r i)) : pu_S X mdX9_isInLine 22 (kX9_isInLine_22 r) := by
  unfold kX9_isInLine_22
  exact z_zret hX dX9_isInLine_22 rfl
def kX9_isInLine_21 (r : pu_R) : pu_K := s_push (.int (0)) ((kX9_isInLine_22 r))
theorem vX9_isInLine_21 : pu_cok2 kX9_isInLine_21 := fun rf r hr => by
  unfold kX9_isInLine_21
  exact v_pi ((vX9_isInLine_22 rf r hr))
theorem tX9_isInLine_21 {X : pu_X} {r : pu_R} (hX : pu_H X mdX9_isInLine) (hr : pu_P X.2.1 X.2.2.2.2.2.2.2.2.2.2.1 r) (hq : ∀ i pc, pu_lp i = some (74, pc) → pu_S X mdX9_isInLine pc (r i)) : pu_S X mdX9_isInLine 21 (kX9_isInLine_21 r) := by
  unfold kX9_isInLine_21
  exact z_iconst hX dX9_isInLine_21 (by decide) ((tX9_isInLine_22 hX hr hq))
def kX9_isInLine_17 (r : pu_R) : pu_K := s_push (.int (1)) ((kX9_isInLine_22 r))
theorem vX9_isInLine_17 : pu_cok2 kX9_isInLine_17 := fun rf r hr => by
  unfold kX9_isInLine_17
  exact v_pi ((vX9_isInLine_22 rf r hr))
theorem tX9_isInLine_17 {X : pu_X} {r : pu_R} (hX : pu_H X mdX9_isInLine) (hr : pu_P X.2.1 X.2.2.2.2.2.2.2.2.2.2.1 r) (hq : ∀ i pc, pu_lp i = some (74, pc) → pu_S X mdX9_isInLine pc (r i)) : pu_S X mdX9_isInLine 17 (kX9_isInLine_17 r) := by
  unfold kX9_isInLine_17
  exact z_iconst hX dX9_isInLine_17 (by decide) ((z_goto hX dX9_isInLine_18 (by decide) (tX9_isInLine_22 hX hr hq)))
def kX9_isInLine_0 (r : pu_R) : pu_K := s_ald 0 (s_gi 9 2 (s_ifeq (kX9_isInLine_17 r) (s_ald 0 (s_gr 9 6 (s_ild 1 (s_ai 1 (s_ild 2 (s_icne (kX9_isInLine_21 r) ((kX9_isInLine_17 r))))))))))
theorem vX9_isInLine_0 : pu_cok2 kX9_isInLine_0 := fun rf r hr => by
  unfold kX9_isInLine_0
  exact v_ald (v_gi (v_ifeq (vX9_isInLine_17 rf r hr) (v_ald (v_gr (v_ild (v_ai (v_ild (v_icne (vX9_isInLine_21 rf r hr) ((vX9_isInLine_17 rf r hr))))))))))
theorem tX9_isInLine_0 {X : pu_X} {r : pu_R} (hX : pu_H X mdX9_isInLine) (hr : pu_P X.2.1 X.2.2.2.2.2.2.2.2.2.2.1 r) (hq : ∀ i pc, pu_lp i = some (74, pc) → pu_S X mdX9_isInLine pc (r i)) : pu_S X mdX9_isInLine 0 (kX9_isInLine_0 r) := by
  unfold kX9_isInLine_0
  exact z_ald_n hX dX9_isInLine_0 rfl (z_gi (c := 9) (j := 2) hX dX9_isInLine_1 rfl inlX9 wm23_23 ⟨rfl, by decide, rfl⟩ (z_ifeq hX dX9_isInLine_4 (by decide) (tX9_isInLine_17 hX hr hq) (z_ald_n hX dX9_isInLine_7 rfl (z_gr (c := 9) (j := 6) hX dX9_isInLine_8 rfl inlX9 wm7_8 ⟨rfl, by decide, rfl⟩ (z_ild_n hX dX9_isInLine_11 rfl (z_iald hX dX9_isInLine_12 (z_ild_n hX dX9_isInLine_13 rfl (z_icne hX dX9_isInLine_14 (by decide) (tX9_isInLine_21 hX hr hq) ((tX9_isInLine_17 hX hr hq))))))))))
def kX9_lowAt_59 (r : pu_R) : pu_K := s_ild 3 (s_iret)
theorem vX9_lowAt_59 : pu_cok2 kX9_lowAt_59 := fun rf r hr => by
  unfold kX9_lowAt_59
  exact v_ild (v_iret)
theorem tX9_lowAt_59 {X : pu_X} {r : pu_R} (hX : pu_H X mdX9_lowAt) (hr : pu_P X.2.1 X.2.2.2.2.2.2.2.2.2.2.1 r) (hq : ∀ i pc, pu_lp i = some (75, pc) → pu_S X mdX9_lowAt pc (r i)) : pu_S X mdX9_lowAt 59 (kX9_lowAt_59 r) := by
  unfold kX9_lowAt_59
  exact z_ild_n hX dX9_lowAt_59 rfl (z_iret hX dX9_lowAt_60 rfl)
def kX9_lowAt_53 (r : pu_R) : pu_K := s_inc 4 (1) ((r 372))
theorem vX9_lowAt_53 : pu_cok2 kX9_lowAt_53 := fun rf r hr => by
  unfold kX9_lowAt_53
  exact v_inc ((hr 372))
theorem tX9_lowAt_53 {X : pu_X} {r : pu_R} (hX : pu_H X mdX9_lowAt) (hr : pu_P X.2.1 X.2.2.2.2.2.2.2.2.2.2.1 r) (hq : ∀ i pc, pu_lp i = some (75, pc) → pu_S X mdX9_lowAt pc (r i)) : pu_S X mdX9_lowAt 53 (kX9_lowAt_53 r) := by
  unfold kX9_lowAt_53
  exact z_inc hX dX9_lowAt_53 (by decide) ((z_goto hX dX9_lowAt_56 (by decide) (hq 372 5 hl372)))
def kX9_lowAt_52 (r : pu_R) : pu_K := s_ist 3 ((kX9_lowAt_53 r))
theorem vX9_lowAt_52 : pu_cok2 kX9_lowAt_52 := fun rf r hr => by
  unfold kX9_lowAt_52
  exact v_ist ((vX9_lowAt_53 rf r hr))
theorem tX9_lowAt_52 {X : pu_X} {r : pu_R} (hX : pu_H X mdX9_lowAt) (hr : pu_P X.2.1 X.2.2.2.2.2.2.2.2.2.2.1 r) (hq : ∀ i pc, pu_lp i = some (75, pc) → pu_S X mdX9_lowAt pc (r i)) : pu_S X mdX9_lowAt 52 (kX9_lowAt_52 r) := by
  unfold kX9_lowAt_52
  exact z_ist_n hX dX9_lowAt_52 rfl ((tX9_lowAt_53 hX hr hq))
def kX9_lowAt_5 (r : pu_R) : pu_K := s_ild 4 (s_ald 0 (s_gi 9 0 (s_icge (kX9_lowAt_59 r) (s_ald 0 (s_gr 9 8 (s_ild 4 (s_ai 1 (s_ild 2 (s_icge (kX9_lowAt_53 r) (s_ald 0 (s_gr 9 5 (s_ild 4 (s_ai 1 (s_ifeq (kX9_lowAt_53 r) (s_ald 0 (s_ild 4 (s_ild 1 (s_cv r 74 2 9 (s_ifeq (kX9_lowAt_53 r) (s_ald 0 (s_gr 9 5 (s_ild 4 (s_ai 1 ((kX9_lowAt_52 r)))))))))))))))))))))))))
theorem vX9_lowAt_5 : pu_cok2 kX9_lowAt_5 := fun rf r hr => by
  unfold kX9_lowAt_5
  exact v_ild (v_ald (v_gi (v_icge (vX9_lowAt_59 rf r hr) (v_ald (v_gr (v_ild (v_ai (v_ild (v_icge (vX9_lowAt_53 rf r hr) (v_ald (v_gr (v_ild (v_ai (v_ifeq (vX9_lowAt_53 rf r hr) (v_ald (v_ild (v_ild (v_cv hr (v_ifeq (vX9_lowAt_53 rf r hr) (v_ald (v_gr (v_ild (v_ai ((vX9_lowAt_52 rf r hr)))))))))))))))))))))))))
theorem tX9_lowAt_5 {X : pu_X} {r : pu_R} (hX : pu_H X mdX9_lowAt) (hr : pu_P X.2.1 X.2.2.2.2.2.2.2.2.2.2.1 r) (hq : ∀ i pc, pu_lp i = some (75, pc) → pu_S X mdX9_lowAt pc (r i)) : pu_S X mdX9_lowAt 5 (kX9_lowAt_5 r) := by
  unfold kX9_lowAt_5
  exact z_ild hX dX9_lowAt_5 (z_ald_n hX dX9_lowAt_7 rfl (z_gi (c := 9) (j := 0) hX dX9_lowAt_8 rfl inlX9 wm23_20 ⟨rfl, by decide, rfl⟩ (z_icge hX dX9_lowAt_11 (by decide) (tX9_lowAt_59 hX hr hq) (z_ald_n hX dX9_lowAt_14 rfl (z_gr (c := 9) (j := 8) hX dX9_lowAt_15 rfl inlX9 wm7_10 ⟨rfl, by decide, rfl⟩ (z_ild hX dX9_lowAt_18 (z_iald hX dX9_lowAt_20 (z_ild_n hX dX9_lowAt_21 rfl (z_icge hX dX9_lowAt_22 (by decide) (tX9_lowAt_53 hX hr hq) (z_ald_n hX dX9_lowAt_25 rfl (z_gr (c := 9) (j := 5) hX dX9_lowAt_26 rfl inlX9 wm7_7 ⟨rfl, by decide, rfl⟩ (z_ild hX dX9_lowAt_29 (z_iald hX dX9_lowAt_31 (z_ifeq hX dX9_lowAt_32 (by decide) (tX9_lowAt_53 hX hr hq) (z_ald_n hX dX9_lowAt_35 rfl (z_ild hX dX9_lowAt_36 (z_ild_n hX dX9_lowAt_38 rfl (z_cv (c := 9) hX hr dX9_lowAt_39 hjX9_isInLine mwX9_isInLine rfl wm26_1 ⟨wm26_2, wm26_3⟩ ⟨Nat.le_of_ble_eq_true rfl, Nat.le_of_ble_eq_true rfl⟩ (z_ifeq hX dX9_lowAt_42 (by decide) (tX9_lowAt_53 hX hr hq) (z_ald_n hX dX9_lowAt_45 rfl (z_gr (c := 9) (j := 5) hX dX9_lowAt_46 rfl inlX9 wm7_7 ⟨rfl, by decide, rfl⟩ (z_ild hX dX9_lowAt_49 (z_iald hX dX9_lowAt_51 ((tX9_lowAt_52 hX hr hq)))))))))))))))))))))))))
def kX9_lowAt_0 (r : pu_R) : pu_K := s_push (.int (0)) (s_ist 3 (s_push (.int (0)) (s_ist 4 ((r 372)))))
theorem vX9_lowAt_0 : pu_cok2 kX9_lowAt_0 := fun rf r hr => by
  unfold kX9_lowAt_0
  exact v_pi (v_ist (v_pi (v_ist ((hr 372)))))
theorem tX9_lowAt_0 {X : pu_X} {r : pu_R} (hX : pu_H X mdX9_lowAt) (hr : pu_P X.2.1 X.2.2.2.2.2.2.2.2.2.2.1 r) (hq : ∀ i pc, pu_lp i = some (75, pc) → pu_S X mdX9_lowAt pc (r i)) : pu_S X mdX9_lowAt 0 (kX9_lowAt_0 r) := by
  unfold kX9_lowAt_0
  exact z_iconst hX dX9_lowAt_0 (by decide) (z_ist_n hX dX9_lowAt_1 rfl (z_iconst hX dX9_lowAt_2 (by decide) (z_ist hX dX9_lowAt_3 ((hq 372 5 hl372)))))
def kX9_highAt_51 (r : pu_R) : pu_K := s_push (.int (160000)) (s_iret)
theorem vX9_highAt_51 : pu_cok2 kX9_highAt_51 := fun rf r hr => by
  unfold kX9_highAt_51
  exact v_pi (v_iret)
theorem tX9_highAt_51 {X : pu_X} {r : pu_R} (hX : pu_H X mdX9_highAt) (hr : pu_P X.2.1 X.2.2.2.2.2.2.2.2.2.2.1 r) (hq : ∀ i pc, pu_lp i = some (76, pc) → pu_S X mdX9_highAt pc (r i)) : pu_S X mdX9_highAt 51 (kX9_highAt_51 r) := by
  unfold kX9_highAt_51
  exact z_ldc hX dX9_highAt_51 wm26_9 (z_iret hX dX9_highAt_53 rfl)
def kX9_highAt_45 (r : pu_R) : pu_K := s_inc 3 (1) ((r 373))
theorem vX9_highAt_45 : pu_cok2 kX9_highAt_45 := fun rf r hr => by
  unfold kX9_highAt_45
  exact v_inc ((hr 373))
theorem tX9_highAt_45 {X : pu_X} {r : pu_R} (hX : pu_H X mdX9_highAt) (hr : pu_P X.2.1 X.2.2.2.2.2.2.2.2.2.2.1 r) (hq : ∀ i pc, pu_lp i = some (76, pc) → pu_S X mdX9_highAt pc (r i)) : pu_S X mdX9_highAt 45 (kX9_highAt_45 r) := by
  unfold kX9_highAt_45
  exact z_inc hX dX9_highAt_45 (by decide) ((z_goto hX dX9_highAt_48 (by decide) (hq 373 2 hl373)))
def kX9_highAt_44 (r : pu_R) : pu_K := s_iret
theorem vX9_highAt_44 : pu_cok2 kX9_highAt_44 := fun rf r hr => by
  unfold kX9_highAt_44
  exact v_iret
theorem tX9_highAt_44 {X : pu_X} {r : pu_R} (hX : pu_H X mdX9_highAt) (hr : pu_P X.2.1 X.2.2.2.2.2.2.2.2.2.2.1 r) (hq : ∀ i pc, pu_lp i = some (76, pc) → pu_S X mdX9_highAt pc (r i)) : pu_S X mdX9_highAt 44 (kX9_highAt_44 r) := by
  unfold kX9_highAt_44
  exact z_iret hX dX9_highAt_44 rfl
def kX9_highAt_2 (r : pu_R) : pu_K := s_ild 3 (s_ald 0 (s_gi 9 0 (s_icge (kX9_highAt_51 r) (s_ald 0 (s_gr 9 8 (s_ild 3 (s_ai 1 (s_ild 2 (s_icle (kX9_highAt_45 r) (s_ald 0 (s_gr 9 5 (s_ild 3 (s_ai 1 (s_ifeq (kX9_highAt_45 r) (s_ald 0 (s_ild 3 (s_ild 1 (s_cv r 74 2 9 (s_ifeq (kX9_highAt_45 r) (s_ald 0 (s_gr 9 5 (s_ild 3 (s_ai 1 ((kX9_highAt_44 r)))))))))))))))))))))))))
theorem vX9_highAt_2 : pu_cok2 kX9_highAt_2 := fun rf r hr => by
  unfold kX9_highAt_2
  exact v_ild (v_ald (v_gi (v_icge (vX9_highAt_51 rf r hr) (v_ald (v_gr (v_ild (v_ai (v_ild (v_icle (vX9_highAt_45 rf r hr) (v_ald (v_gr (v_ild (v_ai (v_ifeq (vX9_highAt_45 rf r hr) (v_ald (v_ild (v_ild (v_cv hr (v_ifeq (vX9_highAt_45 rf r hr) (v_ald (v_gr (v_ild (v_ai ((vX9_highAt_44 rf r hr)))))))))))))))))))))))))
theorem tX9_highAt_2 {X : pu_X} {r : pu_R} (hX : pu_H X mdX9_highAt) (hr : pu_P X.2.1 X.2.2.2.2.2.2.2.2.2.2.1 r) (hq : ∀ i pc, pu_lp i = some (76, pc) → pu_S X mdX9_highAt pc (r i)) : pu_S X mdX9_highAt 2 (kX9_highAt_2 r) := by
  unfold kX9_highAt_2
  exact z_ild_n hX dX9_highAt_2 rfl (z_ald_n hX dX9_highAt_3 rfl (z_gi (c := 9) (j := 0) hX dX9_highAt_4 rfl inlX9 wm23_20 ⟨rfl, by decide, rfl⟩ (z_icge hX dX9_highAt_7 (by decide) (tX9_highAt_51 hX hr hq) (z_ald_n hX dX9_highAt_10 rfl (z_gr (c := 9) (j := 8) hX dX9_highAt_11 rfl inlX9 wm7_10 ⟨rfl, by decide, rfl⟩ (z_ild_n hX dX9_highAt_14 rfl (z_iald hX dX9_highAt_15 (z_ild_n hX dX9_highAt_16 rfl (z_icle hX dX9_highAt_17 (by decide) (tX9_highAt_45 hX hr hq) (z_ald_n hX dX9_highAt_20 rfl (z_gr (c := 9) (j := 5) hX dX9_highAt_21 rfl inlX9 wm7_7 ⟨rfl, by decide, rfl⟩ (z_ild_n hX dX9_highAt_24 rfl (z_iald hX dX9_highAt_25 (z_ifeq hX dX9_highAt_26 (by decide) (tX9_highAt_45 hX hr hq) (z_ald_n hX dX9_highAt_29 rfl (z_ild_n hX dX9_highAt_30 rfl (z_ild_n hX dX9_highAt_31 rfl (z_cv (c := 9) hX hr dX9_highAt_32 hjX9_isInLine mwX9_isInLine rfl wm26_1 ⟨wm26_2, wm26_3⟩ ⟨Nat.le_of_ble_eq_true rfl, Nat.le_of_ble_eq_true rfl⟩ (z_ifeq hX dX9_highAt_35 (by decide) (tX9_highAt_45 hX hr hq) (z_ald_n hX dX9_highAt_38 rfl (z_gr (c := 9) (j := 5) hX dX9_highAt_39 rfl inlX9 wm7_7 ⟨rfl, by decide, rfl⟩ (z_ild_n hX dX9_highAt_42 rfl (z_iald hX dX9_highAt_43 ((tX9_highAt_44 hX hr hq)))))))))))))))))))))))))
def kX9_highAt_0 (r : pu_R) : pu_K := s_push (.int (0)) (s_ist 3 ((r 373)))
theorem vX9_highAt_0 : pu_cok2 kX9_highAt_0 := fun rf r hr => by
  unfold kX9_highAt_0
  exact v_pi (v_ist ((hr 373)))
theorem tX9_highAt_0 {X : pu_X} {r : pu_R} (hX : pu_H X mdX9_highAt) (hr : pu_P X.2.1 X.2.2.2.2.2.2.2.2.2.2.1 r) (hq : ∀ i pc, pu_lp i = some (76, pc) → pu_S X mdX9_highAt pc (r i)) : pu_S X mdX9_highAt 0 (kX9_highAt_0 r) := by
  unfold kX9_highAt_0
  exact z_iconst hX dX9_highAt_0 (by decide) (z_ist_n hX dX9_highAt_1 rfl ((hq 373 2 hl373)))
def kX11_areDigitsOfSide_14 (r : pu_R) : pu_K := s_zret
theorem vX11_areDigitsOfSide_14 : pu_cok2 kX11_areDigitsOfSide_14 := fun rf r hr => by
  unfold kX11_areDigitsOfSide_14
  exact v_zret
theorem tX11_areDigitsOfSide_14 {X : pu_X} {r : pu_R} (hX : pu_H X mdX11_areDigitsOfSide) (hr : pu_P X.2.1 X.2.2.2.2.2.2.2.2.2.2.1 r) (hq : ∀ i pc, pu_lp i = some (77, pc) → pu_S X mdX11_areDigitsOfSide pc (r i)) : pu_S X mdX11_areDigitsOfSide 14 (kX11_areDigitsOfSide_14 r) := by
  unfold kX11_areDigitsOfSide_14
  exact z_zret hX dX11_areDigitsOfSide_14 rfl
def kX11_areDigitsOfSide_13 (r : pu_R) : pu_K := s_push (.int (0)) ((kX11_areDigitsOfSide_14 r))
theorem vX11_areDigitsOfSide_13 : pu_cok2 kX11_areDigitsOfSide_13 := fun rf r hr => by
  unfold kX11_areDigitsOfSide_13
  exact v_pi ((vX11_areDigitsOfSide_14 rf r hr))
theorem tX11_areDigitsOfSide_13 {X : pu_X} {r : pu_R} (hX : pu_H X mdX11_areDigitsOfSide) (hr : pu_P X.2.1 X.2.2.2.2.2.2.2.2.2.2.1 r) (hq : ∀ i pc, pu_lp i = some (77, pc) → pu_S X mdX11_areDigitsOfSide pc (r i)) : pu_S X mdX11_areDigitsOfSide 13 (kX11_areDigitsOfSide_13 r) := by
  unfold kX11_areDigitsOfSide_13
  exact z_iconst hX dX11_areDigitsOfSide_13 (by decide) ((tX11_areDigitsOfSide_14 hX hr hq))
def kX11_areDigitsOfSide_0 (r : pu_R) : pu_K := s_ild 0 (s_push (.int (1)) (s_iand (s_push (.int (1)) (s_ild 1 (s_isub (s_icne (kX11_areDigitsOfSide_13 r) (s_push (.int (1)) ((kX11_areDigitsOfSide_14 r)))))))))
theorem vX11_areDigitsOfSide_0 : pu_cok2 kX11_areDigitsOfSide_0 := fun rf r hr => by
  unfold kX11_areDigitsOfSide_0
  exact v_ild (v_pi (v_iand (v_pi (v_ild (v_isub (v_icne (vX11_areDigitsOfSide_13 rf r hr) (v_pi ((vX11_areDigitsOfSide_14 rf r hr)))))))))
theorem tX11_areDigitsOfSide_0 {X : pu_X} {r : pu_R} (hX : pu_H X mdX11_areDigitsOfSide) (hr : pu_P X.2.1 X.2.2.2.2.2.2.2.2.2.2.1 r) (hq : ∀ i pc, pu_lp i = some (77, pc) → pu_S X mdX11_areDigitsOfSide pc (r i)) : pu_S X mdX11_areDigitsOfSide 0 (kX11_areDigitsOfSide_0 r) := by
  unfold kX11_areDigitsOfSide_0
  exact z_ild_n hX dX11_areDigitsOfSide_0 rfl (z_iconst hX dX11_areDigitsOfSide_1 (by decide) (z_iand hX dX11_areDigitsOfSide_2 (z_iconst hX dX11_areDigitsOfSide_3 (by decide) (z_ild_n hX dX11_areDigitsOfSide_4 rfl (z_isub hX dX11_areDigitsOfSide_5 (z_icne hX dX11_areDigitsOfSide_6 (by decide) (tX11_areDigitsOfSide_13 hX hr hq) (z_iconst hX dX11_areDigitsOfSide_9 (by decide) ((z_goto hX dX11_areDigitsOfSide_10 (by decide) (tX11_areDigitsOfSide_14 hX hr hq))))))))))
def kX11_digitsByPaces_0 (r : pu_R) : pu_K := s_push (.int (2)) (s_ild 1 (s_push (.int (10)) (s_idiv (s_imul (s_push (.int (1)) (s_iadd (s_ild 0 (s_iadd (s_iret)))))))))
theorem vX11_digitsByPaces_0 : pu_cok2 kX11_digitsByPaces_0 := fun rf r hr => by
  unfold kX11_digitsByPaces_0
  exact v_pi (v_ild (v_pi (v_idiv (v_imul (v_pi (v_iadd (v_ild (v_iadd (v_iret)))))))))
theorem tX11_digitsByPaces_0 {X : pu_X} {r : pu_R} (hX : pu_H X mdX11_digitsByPaces) (hr : pu_P X.2.1 X.2.2.2.2.2.2.2.2.2.2.1 r) (hq : ∀ i pc, pu_lp i = some (78, pc) → pu_S X mdX11_digitsByPaces pc (r i)) : pu_S X mdX11_digitsByPaces 0 (kX11_digitsByPaces_0 r) := by
  unfold kX11_digitsByPaces_0
  exact z_iconst hX dX11_digitsByPaces_0 (by decide) (z_ild_n hX dX11_digitsByPaces_1 rfl (z_bipush hX dX11_digitsByPaces_2 (by decide) (z_idiv hX dX11_digitsByPaces_4 (z_imul hX dX11_digitsByPaces_5 (z_iconst hX dX11_digitsByPaces_6 (by decide) (z_iadd hX dX11_digitsByPaces_7 (z_ild_n hX dX11_digitsByPaces_8 rfl (z_iadd hX dX11_digitsByPaces_9 (z_iret hX dX11_digitsByPaces_10 rfl)))))))))
def kX9_indexOf_28 (r : pu_R) : pu_K := s_push (.int (-1)) (s_iret)
theorem vX9_indexOf_28 : pu_cok2 kX9_indexOf_28 := fun rf r hr => by
  unfold kX9_indexOf_28
  exact v_pi (v_iret)
theorem tX9_indexOf_28 {X : pu_X} {r : pu_R} (hX : pu_H X mdX9_indexOf) (hr : pu_P X.2.1 X.2.2.2.2.2.2.2.2.2.2.1 r) (hq : ∀ i pc, pu_lp i = some (79, pc) → pu_S X mdX9_indexOf pc (r i)) : pu_S X mdX9_indexOf 28 (kX9_indexOf_28 r) := by
  unfold kX9_indexOf_28
  exact z_iconst hX dX9_indexOf_28 (by decide) (z_iret hX dX9_indexOf_29 rfl)
def kX9_indexOf_22 (r : pu_R) : pu_K := s_inc 2 (1) ((r 374))
theorem vX9_indexOf_22 : pu_cok2 kX9_indexOf_22 := fun rf r hr => by
  unfold kX9_indexOf_22
  exact v_inc ((hr 374))
theorem tX9_indexOf_22 {X : pu_X} {r : pu_R} (hX : pu_H X mdX9_indexOf) (hr : pu_P X.2.1 X.2.2.2.2.2.2.2.2.2.2.1 r) (hq : ∀ i pc, pu_lp i = some (79, pc) → pu_S X mdX9_indexOf pc (r i)) : pu_S X mdX9_indexOf 22 (kX9_indexOf_22 r) := by
  unfold kX9_indexOf_22
  exact z_inc hX dX9_indexOf_22 (by decide) ((z_goto hX dX9_indexOf_25 (by decide) (hq 374 2 hl374)))
def kX9_indexOf_2 (r : pu_R) : pu_K := s_ild 2 (s_ald 0 (s_gi 9 0 (s_icge (kX9_indexOf_28 r) (s_ald 0 (s_gr 9 5 (s_ild 2 (s_ai 1 (s_ild 1 (s_icne (kX9_indexOf_22 r) (s_ild 2 (s_iret)))))))))))
theorem vX9_indexOf_2 : pu_cok2 kX9_indexOf_2 := fun rf r hr => by
  unfold kX9_indexOf_2
  exact v_ild (v_ald (v_gi (v_icge (vX9_indexOf_28 rf r hr) (v_ald (v_gr (v_ild (v_ai (v_ild (v_icne (vX9_indexOf_22 rf r hr) (v_ild (v_iret)))))))))))
theorem tX9_indexOf_2 {X : pu_X} {r : pu_R} (hX : pu_H X mdX9_indexOf) (hr : pu_P X.2.1 X.2.2.2.2.2.2.2.2.2.2.1 r) (hq : ∀ i pc, pu_lp i = some (79, pc) → pu_S X mdX9_indexOf pc (r i)) : pu_S X mdX9_indexOf 2 (kX9_indexOf_2 r) := by
  unfold kX9_indexOf_2
  exact z_ild_n hX dX9_indexOf_2 rfl (z_ald_n hX dX9_indexOf_3 rfl (z_gi (c := 9) (j := 0) hX dX9_indexOf_4 rfl inlX9 wm23_20 ⟨rfl, by decide, rfl⟩ (z_icge hX dX9_indexOf_7 (by decide) (tX9_indexOf_28 hX hr hq) (z_ald_n hX dX9_indexOf_10 rfl (z_gr (c := 9) (j := 5) hX dX9_indexOf_11 rfl inlX9 wm7_7 ⟨rfl, by decide, rfl⟩ (z_ild_n hX dX9_indexOf_14 rfl (z_iald hX dX9_indexOf_15 (z_ild_n hX dX9_indexOf_16 rfl (z_icne hX dX9_indexOf_17 (by decide) (tX9_indexOf_22 hX hr hq) (z_ild_n hX dX9_indexOf_20 rfl (z_iret hX dX9_indexOf_21 rfl)))))))))))
def kX9_indexOf_0 (r : pu_R) : pu_K := s_push (.int (0)) (s_ist 2 ((r 374)))
theorem vX9_indexOf_0 : pu_cok2 kX9_indexOf_0 := fun rf r hr => by
  unfold kX9_indexOf_0
  exact v_pi (v_ist ((hr 374)))
theorem tX9_indexOf_0 {X : pu_X} {r : pu_R} (hX : pu_H X mdX9_indexOf) (hr : pu_P X.2.1 X.2.2.2.2.2.2.2.2.2.2.1 r) (hq : ∀ i pc, pu_lp i = some (79, pc) → pu_S X mdX9_indexOf pc (r i)) : pu_S X mdX9_indexOf 0 (kX9_indexOf_0 r) := by
  unfold kX9_indexOf_0
  exact z_iconst hX dX9_indexOf_0 (by decide) (z_ist_n hX dX9_indexOf_1 rfl ((hq 374 2 hl374)))
def kX9_isFreeByRule_58 (r : pu_R) : pu_K := s_zret
theorem vX9_isFreeByRule_58 : pu_cok2 kX9_isFreeByRule_58 := fun rf r hr => by
  unfold kX9_isFreeByRule_58
  exact v_zret
theorem tX9_isFreeByRule_58 {X : pu_X} {r : pu_R} (hX : pu_H X mdX9_isFreeByRule) (hr : pu_P X.2.1 X.2.2.2.2.2.2.2.2.2.2.1 r) (hq : ∀ i pc, pu_lp i = some (80, pc) → pu_S X mdX9_isFreeByRule pc (r i)) : pu_S X mdX9_isFreeByRule 58 (kX9_isFreeByRule_58 r) := by
  unfold kX9_isFreeByRule_58
  exact z_zret hX dX9_isFreeByRule_58 rfl
def kX9_isFreeByRule_57 (r : pu_R) : pu_K := s_push (.int (0)) ((kX9_isFreeByRule_58 r))
theorem vX9_isFreeByRule_57 : pu_cok2 kX9_isFreeByRule_57 := fun rf r hr => by
  unfold kX9_isFreeByRule_57
  exact v_pi ((vX9_isFreeByRule_58 rf r hr))
theorem tX9_isFreeByRule_57 {X : pu_X} {r : pu_R} (hX : pu_H X mdX9_isFreeByRule) (hr : pu_P X.2.1 X.2.2.2.2.2.2.2.2.2.2.1 r) (hq : ∀ i pc, pu_lp i = some (80, pc) → pu_S X mdX9_isFreeByRule pc (r i)) : pu_S X mdX9_isFreeByRule 57 (kX9_isFreeByRule_57 r) := by
  unfold kX9_isFreeByRule_57
  exact z_iconst hX dX9_isFreeByRule_57 (by decide) ((tX9_isFreeByRule_58 hX hr hq))
def kX9_isFreeByRule_44 (r : pu_R) : pu_K := s_ald 0 (s_ild 1 (s_cv r 79 1 9 (s_push (.int (-1)) (s_icne (kX9_isFreeByRule_57 r) (s_push (.int (1)) ((kX9_isFreeByRule_58 r)))))))
theorem vX9_isFreeByRule_44 : pu_cok2 kX9_isFreeByRule_44 := fun rf r hr => by
  unfold kX9_isFreeByRule_44
  exact v_ald (v_ild (v_cv hr (v_pi (v_icne (vX9_isFreeByRule_57 rf r hr) (v_pi ((vX9_isFreeByRule_58 rf r hr)))))))
theorem tX9_isFreeByRule_44 {X : pu_X} {r : pu_R} (hX : pu_H X mdX9_isFreeByRule) (hr : pu_P X.2.1 X.2.2.2.2.2.2.2.2.2.2.1 r) (hq : ∀ i pc, pu_lp i = some (80, pc) → pu_S X mdX9_isFreeByRule pc (r i)) : pu_S X mdX9_isFreeByRule 44 (kX9_isFreeByRule_44 r) := by
  unfold kX9_isFreeByRule_44
  exact z_ald_n hX dX9_isFreeByRule_44 rfl (z_ild_n hX dX9_isFreeByRule_45 rfl (z_cv (c := 9) hX hr dX9_isFreeByRule_46 hjX9_indexOf mwX9_indexOf rfl wm26_18 ⟨wm26_19, wm26_20⟩ ⟨Nat.le_of_ble_eq_true rfl, Nat.le_of_ble_eq_true rfl⟩ (z_iconst hX dX9_isFreeByRule_49 (by decide) (z_icne hX dX9_isFreeByRule_50 (by decide) (tX9_isFreeByRule_57 hX hr hq) (z_iconst hX dX9_isFreeByRule_53 (by decide) ((z_goto hX dX9_isFreeByRule_54 (by decide) (tX9_isFreeByRule_58 hX hr hq))))))))
def kX9_isFreeByRule_24 (r : pu_R) : pu_K := s_ald 0 (s_gi 9 1 (s_push (.int (2)) (s_icne (kX9_isFreeByRule_44 r) (s_ild 4 (s_ild 2 (s_ild 3 (s_cs r 78 2 (s_iceq (kX9_isFreeByRule_44 r) (s_push (.int (0)) (s_zret))))))))))
theorem vX9_isFreeByRule_24 : pu_cok2 kX9_isFreeByRule_24 := fun rf r hr => by
  unfold kX9_isFreeByRule_24
  exact v_ald (v_gi (v_pi (v_icne (vX9_isFreeByRule_44 rf r hr) (v_ild (v_ild (v_ild (v_cs hr (v_iceq (vX9_isFreeByRule_44 rf r hr) (v_pi (v_zret))))))))))
theorem tX9_isFreeByRule_24 {X : pu_X} {r : pu_R} (hX : pu_H X mdX9_isFreeByRule) (hr : pu_P X.2.1 X.2.2.2.2.2.2.2.2.2.2.1 r) (hq : ∀ i pc, pu_lp i = some (80, pc) → pu_S X mdX9_isFreeByRule pc (r i)) : pu_S X mdX9_isFreeByRule 24 (kX9_isFreeByRule_24 r) := by
  unfold kX9_isFreeByRule_24
  exact z_ald_n hX dX9_isFreeByRule_24 rfl (z_gi (c := 9) (j := 1) hX dX9_isFreeByRule_25 rfl inlX9 wm23_22 ⟨rfl, by decide, rfl⟩ (z_iconst hX dX9_isFreeByRule_28 (by decide) (z_icne hX dX9_isFreeByRule_29 (by decide) (tX9_isFreeByRule_44 hX hr hq) (z_ild hX dX9_isFreeByRule_32 (z_ild_n hX dX9_isFreeByRule_34 rfl (z_ild_n hX dX9_isFreeByRule_35 rfl (z_csN hX hr dX9_isFreeByRule_36 hjX11_digitsByPaces mwX11_digitsByPaces ne11 wm26_16 ⟨Nat.le_of_ble_eq_true rfl, Nat.le_of_ble_eq_true rfl⟩ (z_iceq hX dX9_isFreeByRule_39 (by decide) (tX9_isFreeByRule_44 hX hr hq) (z_iconst hX dX9_isFreeByRule_42 (by decide) (z_zret hX dX9_isFreeByRule_43 rfl))))))))))
def kX9_isFreeByRule_0 (r : pu_R) : pu_K := s_ild 1 (s_push (.int (16)) (s_idiv (s_ist 4 (s_ald 0 (s_gi 9 1 (s_ifne (kX9_isFreeByRule_24 r) (s_ild 4 (s_ild 2 (s_cs r 77 2 (s_ifne (kX9_isFreeByRule_24 r) (s_push (.int (0)) (s_zret))))))))))))
theorem vX9_isFreeByRule_0 : pu_cok2 kX9_isFreeByRule_0 := fun rf r hr => by
  unfold kX9_isFreeByRule_0
  exact v_ild (v_pi (v_idiv (v_ist (v_ald (v_gi (v_ifne (vX9_isFreeByRule_24 rf r hr) (v_ild (v_ild (v_cs hr (v_ifne (vX9_isFreeByRule_24 rf r hr) (v_pi (v_zret))))))))))))
theorem tX9_isFreeByRule_0 {X : pu_X} {r : pu_R} (hX : pu_H X mdX9_isFreeByRule) (hr : pu_P X.2.1 X.2.2.2.2.2.2.2.2.2.2.1 r) (hq : ∀ i pc, pu_lp i = some (80, pc) → pu_S X mdX9_isFreeByRule pc (r i)) : pu_S X mdX9_isFreeByRule 0 (kX9_isFreeByRule_0 r) := by
  unfold kX9_isFreeByRule_0
  exact z_ild_n hX dX9_isFreeByRule_0 rfl (z_bipush hX dX9_isFreeByRule_1 (by decide) (z_idiv hX dX9_isFreeByRule_3 (z_ist hX dX9_isFreeByRule_4 (z_ald_n hX dX9_isFreeByRule_6 rfl (z_gi (c := 9) (j := 1) hX dX9_isFreeByRule_7 rfl inlX9 wm23_22 ⟨rfl, by decide, rfl⟩ (z_ifne hX dX9_isFreeByRule_10 (by decide) (tX9_isFreeByRule_24 hX hr hq) (z_ild hX dX9_isFreeByRule_13 (z_ild_n hX dX9_isFreeByRule_15 rfl (z_csN hX hr dX9_isFreeByRule_16 hjX11_areDigitsOfSide mwX11_areDigitsOfSide ne12 wm26_14 ⟨Nat.le_of_ble_eq_true rfl, Nat.le_of_ble_eq_true rfl⟩ (z_ifne hX dX9_isFreeByRule_19 (by decide) (tX9_isFreeByRule_24 hX hr hq) (z_iconst hX dX9_isFreeByRule_22 (by decide) (z_zret hX dX9_isFreeByRule_23 rfl))))))))))))
def kX9_fittingNumber_184 (r : pu_R) : pu_K := s_push (.int (-1)) (s_iret)
theorem vX9_fittingNumber_184 : pu_cok2 kX9_fittingNumber_184 := fun rf r hr => by
  unfold kX9_fittingNumber_184
  exact v_pi (v_iret)
theorem tX9_fittingNumber_184 {X : pu_X} {r : pu_R} (hX : pu_H X mdX9_fittingNumber) (hr : pu_P X.2.1 X.2.2.2.2.2.2.2.2.2.2.1 r) (hq : ∀ i pc, pu_lp i = some (81, pc) → pu_S X mdX9_fittingNumber pc (r i)) : pu_S X mdX9_fittingNumber 184 (kX9_fittingNumber_184 r) := by
  unfold kX9_fittingNumber_184
  exact z_iconst hX dX9_fittingNumber_184 (by decide) (z_iret hX dX9_fittingNumber_185 rfl)
def kX9_fittingNumber_178 (r : pu_R) : pu_K := s_inc 9 (1) ((r 375))
theorem vX9_fittingNumber_178 : pu_cok2 kX9_fittingNumber_178 := fun rf r hr => by
  unfold kX9_fittingNumber_178
  exact v_inc ((hr 375))
theorem tX9_fittingNumber_178 {X : pu_X} {r : pu_R} (hX : pu_H X mdX9_fittingNumber) (hr : pu_P X.2.1 X.2.2.2.2.2.2.2.2.2.2.1 r) (hq : ∀ i pc, pu_lp i = some (81, pc) → pu_S X mdX9_fittingNumber pc (r i)) : pu_S X mdX9_fittingNumber 178 (kX9_fittingNumber_178 r) := by
  unfold kX9_fittingNumber_178
  exact z_inc hX dX9_fittingNumber_178 (by decide) ((z_goto hX dX9_fittingNumber_181 (by decide) (hq 375 112 hl375)))
def kX9_fittingNumber_172 (r : pu_R) : pu_K := s_inc 10 (1) ((r 376))
theorem vX9_fittingNumber_172 : pu_cok2 kX9_fittingNumber_172 := fun rf r hr => by
  unfold kX9_fittingNumber_172
  exact v_inc ((hr 376))
theorem tX9_fittingNumber_172 {X : pu_X} {r : pu_R} (hX : pu_H X mdX9_fittingNumber) (hr : pu_P X.2.1 X.2.2.2.2.2.2.2.2.2.2.1 r) (hq : ∀ i pc, pu_lp i = some (81, pc) → pu_S X mdX9_fittingNumber pc (r i)) : pu_S X mdX9_fittingNumber 172 (kX9_fittingNumber_172 r) := by
  unfold kX9_fittingNumber_172
  exact z_inc hX dX9_fittingNumber_172 (by decide) ((z_goto hX dX9_fittingNumber_175 (by decide) (hq 376 127 hl376)))
def kX9_fittingNumber_127 (r : pu_R) : pu_K := s_ild 10 (s_ild 8 (s_icgt (kX9_fittingNumber_178 r) (s_push (.int (16)) (s_ild 10 (s_imul (s_ild 9 (s_iadd (s_ist 11 (s_ild 11 (s_ild 5 (s_icle (kX9_fittingNumber_172 r) (s_ild 11 (s_ild 6 (s_icge (kX9_fittingNumber_172 r) (s_ald 0 (s_ild 11 (s_ild 1 (s_ild 2 (s_cv r 80 3 9 (s_ifeq (kX9_fittingNumber_172 r) (s_ild 11 (s_iret))))))))))))))))))))))
theorem vX9_fittingNumber_127 : pu_cok2 kX9_fittingNumber_127 := fun rf r hr => by
  unfold kX9_fittingNumber_127
  exact v_ild (v_ild (v_icgt (vX9_fittingNumber_178 rf r hr) (v_pi (v_ild (v_imul (v_ild (v_iadd (v_ist (v_ild (v_ild (v_icle (vX9_fittingNumber_172 rf r hr) (v_ild (v_ild (v_icge (vX9_fittingNumber_172 rf r hr) (v_ald (v_ild (v_ild (v_ild (v_cv hr (v_ifeq (vX9_fittingNumber_172 rf r hr) (v_ild (v_iret))))))))))))))))))))))
theorem tX9_fittingNumber_127 {X : pu_X} {r : pu_R} (hX : pu_H X mdX9_fittingNumber) (hr : pu_P X.2.1 X.2.2.2.2.2.2.2.2.2.2.1 r) (hq : ∀ i pc, pu_lp i = some (81, pc) → pu_S X mdX9_fittingNumber pc (r i)) : pu_S X mdX9_fittingNumber 127 (kX9_fittingNumber_127 r) := by
  unfold kX9_fittingNumber_127
  exact z_ild hX dX9_fittingNumber_127 (z_ild hX dX9_fittingNumber_129 (z_icgt hX dX9_fittingNumber_131 (by decide) (tX9_fittingNumber_178 hX hr hq) (z_bipush hX dX9_fittingNumber_134 (by decide) (z_ild hX dX9_fittingNumber_136 (z_imul hX dX9_fittingNumber_138 (z_ild hX dX9_fittingNumber_139 (z_iadd hX dX9_fittingNumber_141 (z_ist hX dX9_fittingNumber_142 (z_ild hX dX9_fittingNumber_144 (z_ild hX dX9_fittingNumber_146 (z_icle hX dX9_fittingNumber_148 (by decide) (tX9_fittingNumber_172 hX hr hq) (z_ild hX dX9_fittingNumber_151 (z_ild hX dX9_fittingNumber_153 (z_icge hX dX9_fittingNumber_155 (by decide) (tX9_fittingNumber_172 hX hr hq) (z_ald_n hX dX9_fittingNumber_158 rfl (z_ild hX dX9_fittingNumber_159 (z_ild_n hX dX9_fittingNumber_161 rfl (z_ild_n hX dX9_fittingNumber_162 rfl (z_cv (c := 9) hX hr dX9_fittingNumber_163 hjX9_isFreeByRule mwX9_isFreeByRule rfl wm26_10 ⟨wm26_11, wm26_12⟩ ⟨Nat.le_of_ble_eq_true rfl, Nat.le_of_ble_eq_true rfl⟩ (z_ifeq hX dX9_fittingNumber_166 (by decide) (tX9_fittingNumber_172 hX hr hq) (z_ild hX dX9_fittingNumber_169 (z_iret hX dX9_fittingNumber_171 rfl))))))))))))))))))))))
def kX9_fittingNumber_112 (r : pu_R) : pu_K := s_ild 9 (s_push (.int (9)) (s_icgt (kX9_fittingNumber_184 r) (s_push (.int (1)) (s_ild 7 (s_max (s_ist 10 ((r 376))))))))
theorem vX9_fittingNumber_112 : pu_cok2 kX9_fittingNumber_112 := fun rf r hr => by
  unfold kX9_fittingNumber_112
  exact v_ild (v_pi (v_icgt (vX9_fittingNumber_184 rf r hr) (v_pi (v_ild (v_max (v_ist ((hr 376))))))))
theorem tX9_fittingNumber_112 {X : pu_X} {r : pu_R} (hX : pu_H X mdX9_fittingNumber) (hr : pu_P X.2.1 X.2.2.2.2.2.2.2.2.2.2.1 r) (hq : ∀ i pc, pu_lp i = some (81, pc) → pu_S X mdX9_fittingNumber pc (r i)) : pu_S X mdX9_fittingNumber 112 (kX9_fittingNumber_112 r) := by
  unfold kX9_fittingNumber_112
  exact z_ild hX dX9_fittingNumber_112 (z_bipush hX dX9_fittingNumber_114 (by decide) (z_icgt hX dX9_fittingNumber_116 (by decide) (tX9_fittingNumber_184 hX hr hq) (z_iconst hX dX9_fittingNumber_119 (by decide) (z_ild hX dX9_fittingNumber_120 (z_max hX dX9_fittingNumber_122 ⟨wm25_20, wm18_12, wm18_13, wm18_14⟩ ⟨Nat.le_of_ble_eq_true rfl, Nat.le_of_ble_eq_true rfl⟩ (z_ist hX dX9_fittingNumber_125 ((hq 376 127 hl376))))))))
def kX9_fittingNumber_109 (r : pu_R) : pu_K := s_push (.int (0)) (s_ist 9 ((r 375)))
theorem vX9_fittingNumber_109 : pu_cok2 kX9_fittingNumber_109 := fun rf r hr => by
  unfold kX9_fittingNumber_109
  exact v_pi (v_ist ((hr 375)))
theorem tX9_fittingNumber_109 {X : pu_X} {r : pu_R} (hX : pu_H X mdX9_fittingNumber) (hr : pu_P X.2.1 X.2.2.2.2.2.2.2.2.2.2.1 r) (hq : ∀ i pc, pu_lp i = some (81, pc) → pu_S X mdX9_fittingNumber pc (r i)) : pu_S X mdX9_fittingNumber 109 (kX9_fittingNumber_109 r) := by
  unfold kX9_fittingNumber_109
  exact z_iconst hX dX9_fittingNumber_109 (by decide) (z_ist hX dX9_fittingNumber_110 ((hq 375 112 hl375)))
def kX9_fittingNumber_70 (r : pu_R) : pu_K := s_ild 5 (s_push (.int (16)) (s_idiv (s_ist 7 (s_push (.int (9999)) (s_ild 6 (s_push (.int (16)) (s_idiv (s_min (s_ist 8 (s_ald 0 (s_gi 9 1 (s_push (.int (2)) (s_icne (kX9_fittingNumber_109 r) (s_ild 1 (s_ild 2 (s_cs r 78 2 (s_ist 7 (s_ild 7 (s_ist 8 ((kX9_fittingNumber_109 r)))))))))))))))))))))
theorem vX9_fittingNumber_70 : pu_cok2 kX9_fittingNumber_70 := fun rf r hr => by
  unfold kX9_fittingNumber_70
  exact v_ild (v_pi (v_idiv (v_ist (v_pi (v_ild (v_pi (v_idiv (v_min (v_ist (v_ald (v_gi (v_pi (v_icne (vX9_fittingNumber_109 rf r hr) (v_ild (v_ild (v_cs hr (v_ist (v_ild (v_ist ((vX9_fittingNumber_109 rf r hr)))))))))))))))))))))
theorem tX9_fittingNumber_70 {X : pu_X} {r : pu_R} (hX : pu_H X mdX9_fittingNumber) (hr : pu_P X.2.1 X.2.2.2.2.2.2.2.2.2.2.1 r) (hq : ∀ i pc, pu_lp i = some (81, pc) → pu_S X mdX9_fittingNumber pc (r i)) : pu_S X mdX9_fittingNumber 70 (kX9_fittingNumber_70 r) := by
  unfold kX9_fittingNumber_70
  exact z_ild hX dX9_fittingNumber_70 (z_bipush hX dX9_fittingNumber_72 (by decide) (z_idiv hX dX9_fittingNumber_74 (z_ist hX dX9_fittingNumber_75 (z_sipush hX dX9_fittingNumber_77 (by decide) (z_ild hX dX9_fittingNumber_80 (z_bipush hX dX9_fittingNumber_82 (by decide) (z_idiv hX dX9_fittingNumber_84 (z_min hX dX9_fittingNumber_85 ⟨wm25_19, wm19_23, wm18_13, wm20_0⟩ ⟨Nat.le_of_ble_eq_true rfl, Nat.le_of_ble_eq_true rfl⟩ (z_ist hX dX9_fittingNumber_88 (z_ald_n hX dX9_fittingNumber_90 rfl (z_gi (c := 9) (j := 1) hX dX9_fittingNumber_91 rfl inlX9 wm23_22 ⟨rfl, by decide, rfl⟩ (z_iconst hX dX9_fittingNumber_94 (by decide) (z_icne hX dX9_fittingNumber_95 (by decide) (tX9_fittingNumber_109 hX hr hq) (z_ild_n hX dX9_fittingNumber_98 rfl (z_ild_n hX dX9_fittingNumber_99 rfl (z_csN hX hr dX9_fittingNumber_100 hjX11_digitsByPaces mwX11_digitsByPaces ne11 wm26_16 ⟨Nat.le_of_ble_eq_true rfl, Nat.le_of_ble_eq_true rfl⟩ (z_ist hX dX9_fittingNumber_103 (z_ild hX dX9_fittingNumber_105 (z_ist hX dX9_fittingNumber_107 ((tX9_fittingNumber_109 hX hr hq)))))))))))))))))))))
def kX9_fittingNumber_69 (r : pu_R) : pu_K := s_iret
theorem vX9_fittingNumber_69 : pu_cok2 kX9_fittingNumber_69 := fun rf r hr => by
  unfold kX9_fittingNumber_69
  exact v_iret
theorem tX9_fittingNumber_69 {X : pu_X} {r : pu_R} (hX : pu_H X mdX9_fittingNumber) (hr : pu_P X.2.1 X.2.2.2.2.2.2.2.2.2.2.1 r) (hq : ∀ i pc, pu_lp i = some (81, pc) → pu_S X mdX9_fittingNumber pc (r i)) : pu_S X mdX9_fittingNumber 69 (kX9_fittingNumber_69 r) := by
  unfold kX9_fittingNumber_69
  exact z_iret hX dX9_fittingNumber_69 rfl
def kX9_fittingNumber_68 (r : pu_R) : pu_K := s_push (.int (-1)) ((kX9_fittingNumber_69 r))
theorem vX9_fittingNumber_68 : pu_cok2 kX9_fittingNumber_68 := fun rf r hr => by
  unfold kX9_fittingNumber_68
  exact v_pi ((vX9_fittingNumber_69 rf r hr))
theorem tX9_fittingNumber_68 {X : pu_X} {r : pu_R} (hX : pu_H X mdX9_fittingNumber) (hr : pu_P X.2.1 X.2.2.2.2.2.2.2.2.2.2.1 r) (hq : ∀ i pc, pu_lp i = some (81, pc) → pu_S X mdX9_fittingNumber pc (r i)) : pu_S X mdX9_fittingNumber 68 (kX9_fittingNumber_68 r) := by
  unfold kX9_fittingNumber_68
  exact z_iconst hX dX9_fittingNumber_68 (by decide) ((tX9_fittingNumber_69 hX hr hq))
def kX9_fittingNumber_57 (r : pu_R) : pu_K := s_ist 7 (s_ild 7 (s_ifeq (kX9_fittingNumber_68 r) (s_ild 3 ((kX9_fittingNumber_69 r)))))
theorem vX9_fittingNumber_57 : pu_cok2 kX9_fittingNumber_57 := fun rf r hr => by
  unfold kX9_fittingNumber_57
  exact v_ist (v_ild (v_ifeq (vX9_fittingNumber_68 rf r hr) (v_ild ((vX9_fittingNumber_69 rf r hr)))))
theorem tX9_fittingNumber_57 {X : pu_X} {r : pu_R} (hX : pu_H X mdX9_fittingNumber) (hr : pu_P X.2.1 X.2.2.2.2.2.2.2.2.2.2.1 r) (hq : ∀ i pc, pu_lp i = some (81, pc) → pu_S X mdX9_fittingNumber pc (r i)) : pu_S X mdX9_fittingNumber 57 (kX9_fittingNumber_57 r) := by
  unfold kX9_fittingNumber_57
  exact z_ist hX dX9_fittingNumber_57 (z_ild hX dX9_fittingNumber_59 (z_ifeq hX dX9_fittingNumber_61 (by decide) (tX9_fittingNumber_68 hX hr hq) (z_ild_n hX dX9_fittingNumber_64 rfl ((z_goto hX dX9_fittingNumber_65 (by decide) (tX9_fittingNumber_69 hX hr hq))))))
def kX9_fittingNumber_56 (r : pu_R) : pu_K := s_push (.int (0)) ((kX9_fittingNumber_57 r))
theorem vX9_fittingNumber_56 : pu_cok2 kX9_fittingNumber_56 := fun rf r hr => by
  unfold kX9_fittingNumber_56
  exact v_pi ((vX9_fittingNumber_57 rf r hr))
theorem tX9_fittingNumber_56 {X : pu_X} {r : pu_R} (hX : pu_H X mdX9_fittingNumber) (hr : pu_P X.2.1 X.2.2.2.2.2.2.2.2.2.2.1 r) (hq : ∀ i pc, pu_lp i = some (81, pc) → pu_S X mdX9_fittingNumber pc (r i)) : pu_S X mdX9_fittingNumber 56 (kX9_fittingNumber_56 r) := by
  unfold kX9_fittingNumber_56
  exact z_iconst hX dX9_fittingNumber_56 (by decide) ((tX9_fittingNumber_57 hX hr hq))
def kX9_fittingNumber_43 (r : pu_R) : pu_K := s_ild 3 (s_ild 1 (s_ild 2 (s_cv r 80 3 9 (s_ifeq (kX9_fittingNumber_56 r) (s_push (.int (1)) ((kX9_fittingNumber_57 r)))))))
theorem vX9_fittingNumber_43 : pu_cok2 kX9_fittingNumber_43 := fun rf r hr => by
  unfold kX9_fittingNumber_43
  exact v_ild (v_ild (v_ild (v_cv hr (v_ifeq (vX9_fittingNumber_56 rf r hr) (v_pi ((vX9_fittingNumber_57 rf r hr)))))))
theorem tX9_fittingNumber_43 {X : pu_X} {r : pu_R} (hX : pu_H X mdX9_fittingNumber) (hr : pu_P X.2.1 X.2.2.2.2.2.2.2.2.2.2.1 r) (hq : ∀ i pc, pu_lp i = some (81, pc) → pu_S X mdX9_fittingNumber pc (r i)) : pu_S X mdX9_fittingNumber 43 (kX9_fittingNumber_43 r) := by
  unfold kX9_fittingNumber_43
  exact z_ild_n hX dX9_fittingNumber_43 rfl (z_ild_n hX dX9_fittingNumber_44 rfl (z_ild_n hX dX9_fittingNumber_45 rfl (z_cv (c := 9) hX hr dX9_fittingNumber_46 hjX9_isFreeByRule mwX9_isFreeByRule rfl wm26_10 ⟨wm26_11, wm26_12⟩ ⟨Nat.le_of_ble_eq_true rfl, Nat.le_of_ble_eq_true rfl⟩ (z_ifeq hX dX9_fittingNumber_49 (by decide) (tX9_fittingNumber_56 hX hr hq) (z_iconst hX dX9_fittingNumber_52 (by decide) ((z_goto hX dX9_fittingNumber_53 (by decide) (tX9_fittingNumber_57 hX hr hq))))))))
def kX9_fittingNumber_0 (r : pu_R) : pu_K := s_ald 0 (s_ild 1 (s_ild 2 (s_cv r 70 2 9 (s_ist 4 (s_ald 0 (s_ild 1 (s_ild 4 (s_cv r 75 2 9 (s_ist 5 (s_ald 0 (s_ild 1 (s_ild 4 (s_cv r 76 2 9 (s_ist 6 (s_ild 3 (s_ifeq (kX9_fittingNumber_70 r) (s_ild 3 (s_ild 5 (s_icle (kX9_fittingNumber_56 r) (s_ild 3 (s_ild 6 (s_icge (kX9_fittingNumber_56 r) (s_ald 0 ((kX9_fittingNumber_43 r)))))))))))))))))))))))))
theorem vX9_fittingNumber_0 : pu_cok2 kX9_fittingNumber_0 := fun rf r hr => by
  unfold kX9_fittingNumber_0
  exact v_ald (v_ild (v_ild (v_cv hr (v_ist (v_ald (v_ild (v_ild (v_cv hr (v_ist (v_ald (v_ild (v_ild (v_cv hr (v_ist (v_ild (v_ifeq (vX9_fittingNumber_70 rf r hr) (v_ild (v_ild (v_icle (vX9_fittingNumber_56 rf r hr) (v_ild (v_ild (v_icge (vX9_fittingNumber_56 rf r hr) (v_ald ((vX9_fittingNumber_43 rf r hr)))))))))))))))))))))))))
theorem tX9_fittingNumber_0 {X : pu_X} {r : pu_R} (hX : pu_H X mdX9_fittingNumber) (hr : pu_P X.2.1 X.2.2.2.2.2.2.2.2.2.2.1 r) (hq : ∀ i pc, pu_lp i = some (81, pc) → pu_S X mdX9_fittingNumber pc (r i)) : pu_S X mdX9_fittingNumber 0 (kX9_fittingNumber_0 r) := by
  unfold kX9_fittingNumber_0
  exact z_ald_n hX dX9_fittingNumber_0 rfl (z_ild_n hX dX9_fittingNumber_1 rfl (z_ild_n hX dX9_fittingNumber_2 rfl (z_cv (c := 9) hX hr dX9_fittingNumber_3 hjX9_rankOf mwX9_rankOf rfl wm25_7 ⟨wm25_8, wm25_9⟩ ⟨Nat.le_of_ble_eq_true rfl, Nat.le_of_ble_eq_true rfl⟩ (z_ist hX dX9_fittingNumber_6 (z_ald_n hX dX9_fittingNumber_8 rfl (z_ild_n hX dX9_fittingNumber_9 rfl (z_ild hX dX9_fittingNumber_10 (z_cv (c := 9) hX hr dX9_fittingNumber_12 hjX9_lowAt mwX9_lowAt rfl wm25_21 ⟨wm25_22, wm25_23⟩ ⟨Nat.le_of_ble_eq_true rfl, Nat.le_of_ble_eq_true rfl⟩ (z_ist hX dX9_fittingNumber_15 (z_ald_n hX dX9_fittingNumber_17 rfl (z_ild_n hX dX9_fittingNumber_18 rfl (z_ild hX dX9_fittingNumber_19 (z_cv (c := 9) hX hr dX9_fittingNumber_21 hjX9_highAt mwX9_highAt rfl wm26_5 ⟨wm26_6, wm26_7⟩ ⟨Nat.le_of_ble_eq_true rfl, Nat.le_of_ble_eq_true rfl⟩ (z_ist hX dX9_fittingNumber_24 (z_ild_n hX dX9_fittingNumber_26 rfl (z_ifeq hX dX9_fittingNumber_27 (by decide) (tX9_fittingNumber_70 hX hr hq) (z_ild_n hX dX9_fittingNumber_30 rfl (z_ild hX dX9_fittingNumber_31 (z_icle hX dX9_fittingNumber_33 (by decide) (tX9_fittingNumber_56 hX hr hq) (z_ild_n hX dX9_fittingNumber_36 rfl (z_ild hX dX9_fittingNumber_37 (z_icge hX dX9_fittingNumber_39 (by decide) (tX9_fittingNumber_56 hX hr hq) (z_ald_n hX dX9_fittingNumber_42 rfl ((tX9_fittingNumber_43 hX hr hq)))))))))))))))))))))))))
def kX9_hasDoorAt_38 (r : pu_R) : pu_K := s_push (.int (0)) (s_zret)
theorem vX9_hasDoorAt_38 : pu_cok2 kX9_hasDoorAt_38 := fun rf r hr => by
  unfold kX9_hasDoorAt_38
  exact v_pi (v_zret)
theorem tX9_hasDoorAt_38 {X : pu_X} {r : pu_R} (hX : pu_H X mdX9_hasDoorAt) (hr : pu_P X.2.1 X.2.2.2.2.2.2.2.2.2.2.1 r) (hq : ∀ i pc, pu_lp i = some (82, pc) → pu_S X mdX9_hasDoorAt pc (r i)) : pu_S X mdX9_hasDoorAt 38 (kX9_hasDoorAt_38 r) := by
  unfold kX9_hasDoorAt_38
  exact z_iconst hX dX9_hasDoorAt_38 (by decide) (z_zret hX dX9_hasDoorAt_39 rfl)
def kX9_hasDoorAt_32 (r : pu_R) : pu_K := s_inc 3 (1) ((r 377))
theorem vX9_hasDoorAt_32 : pu_cok2 kX9_hasDoorAt_32 := fun rf r hr => by
  unfold kX9_hasDoorAt_32
  exact v_inc ((hr 377))
theorem tX9_hasDoorAt_32 {X : pu_X} {r : pu_R} (hX : pu_H X mdX9_hasDoorAt) (hr : pu_P X.2.1 X.2.2.2.2.2.2.2.2.2.2.1 r) (hq : ∀ i pc, pu_lp i = some (82, pc) → pu_S X mdX9_hasDoorAt pc (r i)) : pu_S X mdX9_hasDoorAt 32 (kX9_hasDoorAt_32 r) := by
  unfold kX9_hasDoorAt_32
  exact z_inc hX dX9_hasDoorAt_32 (by decide) ((z_goto hX dX9_hasDoorAt_35 (by decide) (hq 377 2 hl377)))
def kX9_hasDoorAt_2 (r : pu_R) : pu_K := s_ild 3 (s_ald 0 (s_gi 9 0 (s_icge (kX9_hasDoorAt_38 r) (s_ald 0 (s_gr 9 6 (s_ild 3 (s_ai 1 (s_ild 1 (s_icne (kX9_hasDoorAt_32 r) (s_ald 0 (s_gr 9 7 (s_ild 3 (s_ai 1 (s_ild 2 (s_icne (kX9_hasDoorAt_32 r) (s_push (.int (1)) (s_zret)))))))))))))))))
theorem vX9_hasDoorAt_2 : pu_cok2 kX9_hasDoorAt_2 := fun rf r hr => by
  unfold kX9_hasDoorAt_2
  exact v_ild (v_ald (v_gi (v_icge (vX9_hasDoorAt_38 rf r hr) (v_ald (v_gr (v_ild (v_ai (v_ild (v_icne (vX9_hasDoorAt_32 rf r hr) (v_ald (v_gr (v_ild (v_ai (v_ild (v_icne (vX9_hasDoorAt_32 rf r hr) (v_pi (v_zret)))))))))))))))))
theorem tX9_hasDoorAt_2 {X : pu_X} {r : pu_R} (hX : pu_H X mdX9_hasDoorAt) (hr : pu_P X.2.1 X.2.2.2.2.2.2.2.2.2.2.1 r) (hq : ∀ i pc, pu_lp i = some (82, pc) → pu_S X mdX9_hasDoorAt pc (r i)) : pu_S X mdX9_hasDoorAt 2 (kX9_hasDoorAt_2 r) := by
  unfold kX9_hasDoorAt_2
  exact z_ild_n hX dX9_hasDoorAt_2 rfl (z_ald_n hX dX9_hasDoorAt_3 rfl (z_gi (c := 9) (j := 0) hX dX9_hasDoorAt_4 rfl inlX9 wm23_20 ⟨rfl, by decide, rfl⟩ (z_icge hX dX9_hasDoorAt_7 (by decide) (tX9_hasDoorAt_38 hX hr hq) (z_ald_n hX dX9_hasDoorAt_10 rfl (z_gr (c := 9) (j := 6) hX dX9_hasDoorAt_11 rfl inlX9 wm7_8 ⟨rfl, by decide, rfl⟩ (z_ild_n hX dX9_hasDoorAt_14 rfl (z_iald hX dX9_hasDoorAt_15 (z_ild_n hX dX9_hasDoorAt_16 rfl (z_icne hX dX9_hasDoorAt_17 (by decide) (tX9_hasDoorAt_32 hX hr hq) (z_ald_n hX dX9_hasDoorAt_20 rfl (z_gr (c := 9) (j := 7) hX dX9_hasDoorAt_21 rfl inlX9 wm7_9 ⟨rfl, by decide, rfl⟩ (z_ild_n hX dX9_hasDoorAt_24 rfl (z_iald hX dX9_hasDoorAt_25 (z_ild_n hX dX9_hasDoorAt_26 rfl (z_icne hX dX9_hasDoorAt_27 (by decide) (tX9_hasDoorAt_32 hX hr hq) (z_iconst hX dX9_hasDoorAt_30 (by decide) (z_zret hX dX9_hasDoorAt_31 rfl)))))))))))))))))
def kX9_hasDoorAt_0 (r : pu_R) : pu_K := s_push (.int (0)) (s_ist 3 ((r 377)))
theorem vX9_hasDoorAt_0 : pu_cok2 kX9_hasDoorAt_0 := fun rf r hr => by
  unfold kX9_hasDoorAt_0
  exact v_pi (v_ist ((hr 377)))
theorem tX9_hasDoorAt_0 {X : pu_X} {r : pu_R} (hX : pu_H X mdX9_hasDoorAt) (hr : pu_P X.2.1 X.2.2.2.2.2.2.2.2.2.2.1 r) (hq : ∀ i pc, pu_lp i = some (82, pc) → pu_S X mdX9_hasDoorAt pc (r i)) : pu_S X mdX9_hasDoorAt 0 (kX9_hasDoorAt_0 r) := by
  unfold kX9_hasDoorAt_0
  exact z_iconst hX dX9_hasDoorAt_0 (by decide) (z_ist_n hX dX9_hasDoorAt_1 rfl ((hq 377 2 hl377)))
def kX11_fittingNumber_68 (r : pu_R) : pu_K := s_iret
theorem vX11_fittingNumber_68 : pu_cok2 kX11_fittingNumber_68 := fun rf r hr => by
  unfold kX11_fittingNumber_68
  exact v_iret
theorem tX11_fittingNumber_68 {X : pu_X} {r : pu_R} (hX : pu_H X mdX11_fittingNumber) (hr : pu_P X.2.1 X.2.2.2.2.2.2.2.2.2.2.1 r) (hq : ∀ i pc, pu_lp i = some (83, pc) → pu_S X mdX11_fittingNumber pc (r i)) : pu_S X mdX11_fittingNumber 68 (kX11_fittingNumber_68 r) := by
  unfold kX11_fittingNumber_68
  exact z_iret hX dX11_fittingNumber_68 rfl
def kX11_fittingNumber_66 (r : pu_R) : pu_K := s_ild 5 ((kX11_fittingNumber_68 r))
theorem vX11_fittingNumber_66 : pu_cok2 kX11_fittingNumber_66 := fun rf r hr => by
  unfold kX11_fittingNumber_66
  exact v_ild ((vX11_fittingNumber_68 rf r hr))
theorem tX11_fittingNumber_66 {X : pu_X} {r : pu_R} (hX : pu_H X mdX11_fittingNumber) (hr : pu_P X.2.1 X.2.2.2.2.2.2.2.2.2.2.1 r) (hq : ∀ i pc, pu_lp i = some (83, pc) → pu_S X mdX11_fittingNumber pc (r i)) : pu_S X mdX11_fittingNumber 66 (kX11_fittingNumber_66 r) := by
  unfold kX11_fittingNumber_66
  exact z_ild hX dX11_fittingNumber_66 ((tX11_fittingNumber_68 hX hr hq))
def kX11_fittingNumber_49 (r : pu_R) : pu_K := s_ald 0 (s_gr 11 5 (s_ild 2 (s_ild 3 (s_cv r 82 2 9 (s_ifeq (kX11_fittingNumber_66 r) (s_push (.int (-5)) ((kX11_fittingNumber_68 r))))))))
theorem vX11_fittingNumber_49 : pu_cok2 kX11_fittingNumber_49 := fun rf r hr => by
  unfold kX11_fittingNumber_49
  exact v_ald (v_gr (v_ild (v_ild (v_cv hr (v_ifeq (vX11_fittingNumber_66 rf r hr) (v_pi ((vX11_fittingNumber_68 rf r hr))))))))
theorem tX11_fittingNumber_49 {X : pu_X} {r : pu_R} (hX : pu_H X mdX11_fittingNumber) (hr : pu_P X.2.1 X.2.2.2.2.2.2.2.2.2.2.1 r) (hq : ∀ i pc, pu_lp i = some (83, pc) → pu_S X mdX11_fittingNumber pc (r i)) : pu_S X mdX11_fittingNumber 49 (kX11_fittingNumber_49 r) := by
  unfold kX11_fittingNumber_49
  exact z_ald_n hX dX11_fittingNumber_49 rfl (z_gr (c := 11) (j := 5) hX dX11_fittingNumber_50 rfl inlX11 wm2_5 ⟨rfl, by decide, rfl⟩ (z_ild_n hX dX11_fittingNumber_53 rfl (z_ild_n hX dX11_fittingNumber_54 rfl (z_cv (c := 9) hX hr dX11_fittingNumber_55 hjX9_hasDoorAt mwX9_hasDoorAt rfl wm26_22 ⟨wm26_23, wm27_0⟩ ⟨Nat.le_of_ble_eq_true rfl, Nat.le_of_ble_eq_true rfl⟩ (z_ifeq hX dX11_fittingNumber_58 (by decide) (tX11_fittingNumber_66 hX hr hq) (z_bipush hX dX11_fittingNumber_61 (by decide) ((z_goto hX dX11_fittingNumber_63 (by decide) (tX11_fittingNumber_68 hX hr hq)))))))))
def kX11_fittingNumber_48 (r : pu_R) : pu_K := s_iret
theorem vX11_fittingNumber_48 : pu_cok2 kX11_fittingNumber_48 := fun rf r hr => by
  unfold kX11_fittingNumber_48
  exact v_iret
theorem tX11_fittingNumber_48 {X : pu_X} {r : pu_R} (hX : pu_H X mdX11_fittingNumber) (hr : pu_P X.2.1 X.2.2.2.2.2.2.2.2.2.2.1 r) (hq : ∀ i pc, pu_lp i = some (83, pc) → pu_S X mdX11_fittingNumber pc (r i)) : pu_S X mdX11_fittingNumber 48 (kX11_fittingNumber_48 r) := by
  unfold kX11_fittingNumber_48
  exact z_iret hX dX11_fittingNumber_48 rfl
def kX11_fittingNumber_0 (r : pu_R) : pu_K := s_ald 0 (s_gr 11 5 (s_ald 0 (s_gr 11 2 (s_ild 1 (s_push (.int (-1)) (s_ald 0 (s_gr 11 2 (s_gr 5 3 (s_ild 1 (s_cv r 64 1 10 (s_cs r 65 1 (s_cv r 73 4 9 (s_ald 0 (s_gr 11 5 (s_ild 2 (s_ild 3 (s_ild 4 (s_cv r 81 3 9 (s_ist 5 (s_ild 5 (s_push (.int (-1)) (s_icne (kX11_fittingNumber_49 r) (s_push (.int (-4)) ((kX11_fittingNumber_48 r)))))))))))))))))))))))))
theorem vX11_fittingNumber_0 : pu_cok2 kX11_fittingNumber_0 := fun rf r hr => by
  unfold kX11_fittingNumber_0
  exact v_ald (v_gr (v_ald (v_gr (v_ild (v_pi (v_ald (v_gr (v_gr (v_ild (v_cv hr (v_cs hr (v_cv hr (v_ald (v_gr (v_ild (v_ild (v_ild (v_cv hr (v_ist (v_ild (v_pi (v_icne (vX11_fittingNumber_49 rf r hr) (v_pi ((vX11_fittingNumber_48 rf r hr)))))))))))))))))))))))))
theorem tX11_fittingNumber_0 {X : pu_X} {r : pu_R} (hX : pu_H X mdX11_fittingNumber) (hr : pu_P X.2.1 X.2.2.2.2.2.2.2.2.2.2.1 r) (hq : ∀ i pc, pu_lp i = some (83, pc) → pu_S X mdX11_fittingNumber pc (r i)) : pu_S X mdX11_fittingNumber 0 (kX11_fittingNumber_0 r) := by
  unfold kX11_fittingNumber_0
  exact z_ald_n hX dX11_fittingNumber_0 rfl (z_gr (c := 11) (j := 5) hX dX11_fittingNumber_1 rfl inlX11 wm2_5 ⟨rfl, by decide, rfl⟩ (z_ald_n hX dX11_fittingNumber_4 rfl (z_gr (c := 11) (j := 2) hX dX11_fittingNumber_5 rfl inlX11 wm1_20 ⟨rfl, by decide, rfl⟩ (z_ild_n hX dX11_fittingNumber_8 rfl (z_iconst hX dX11_fittingNumber_9 (by decide) (z_ald_n hX dX11_fittingNumber_10 rfl (z_gr (c := 11) (j := 2) hX dX11_fittingNumber_11 rfl inlX11 wm1_20 ⟨rfl, by decide, rfl⟩ (z_gr (c := 5) (j := 3) hX dX11_fittingNumber_14 rfl inlX5 wm11_22 ⟨rfl, by decide, rfl⟩ (z_ild_n hX dX11_fittingNumber_17 rfl (z_cv (c := 10) hX hr dX11_fittingNumber_18 hjX10_ruleOf mwX10_ruleOf rfl wm23_8 ⟨wm23_9, wm23_10⟩ ⟨Nat.le_of_ble_eq_true rfl, Nat.le_of_ble_eq_true rfl⟩ (z_cs hX hr dX11_fittingNumber_21 hjX11_orderOf mwX11_orderOf wm23_13 wm23_14 ⟨Nat.le_of_ble_eq_true rfl, Nat.le_of_ble_eq_true rfl⟩ (z_cv (c := 9) hX hr dX11_fittingNumber_24 hjX9_fill mwX9_fill rfl wm23_16 ⟨wm23_17, wm23_18⟩ ⟨Nat.le_of_ble_eq_true rfl, Nat.le_of_ble_eq_true rfl⟩ (z_ald_n hX dX11_fittingNumber_27 rfl (z_gr (c := 11) (j := 5) hX dX11_fittingNumber_28 rfl inlX11 wm2_5 ⟨rfl, by decide, rfl⟩ (z_ild_n hX dX11_fittingNumber_31 rfl (z_ild_n hX dX11_fittingNumber_32 rfl (z_ild hX dX11_fittingNumber_33 (z_cv (c := 9) hX hr dX11_fittingNumber_35 hjX9_fittingNumber mwX9_fittingNumber rfl wm25_15 ⟨wm25_16, wm25_17⟩ ⟨Nat.le_of_ble_eq_true rfl, Nat.le_of_ble_eq_true rfl⟩ (z_ist hX dX11_fittingNumber_38 (z_ild hX dX11_fittingNumber_40 (z_iconst hX dX11_fittingNumber_42 (by decide) (z_icne hX dX11_fittingNumber_43 (by decide) (tX11_fittingNumber_49 hX hr hq) (z_bipush hX dX11_fittingNumber_46 (by decide) ((tX11_fittingNumber_48 hX hr hq)))))))))))))))))))))))))
def kX5_hasRoomForNumbers_30 (r : pu_R) : pu_K := s_zret
theorem vX5_hasRoomForNumbers_30 : pu_cok2 kX5_hasRoomForNumbers_30 := fun rf r hr => by
  unfold kX5_hasRoomForNumbers_30
  exact v_zret
theorem tX5_hasRoomForNumbers_30 {X : pu_X} {r : pu_R} (hX : pu_H X mdX5_hasRoomForNumbers) (hr : pu_P X.2.1 X.2.2.2.2.2.2.2.2.2.2.1 r) (hq : ∀ i pc, pu_lp i = some (84, pc) → pu_S X mdX5_hasRoomForNumbers pc (r i)) : pu_S X mdX5_hasRoomForNumbers 30 (kX5_hasRoomForNumbers_30 r) := by
  unfold kX5_hasRoomForNumbers_30
  exact z_zret hX dX5_hasRoomForNumbers_30 rfl
def kX5_hasRoomForNumbers_29 (r : pu_R) : pu_K := s_push (.int (0)) ((kX5_hasRoomForNumbers_30 r))
theorem vX5_hasRoomForNumbers_29 : pu_cok2 kX5_hasRoomForNumbers_29 := fun rf r hr => by
  unfold kX5_hasRoomForNumbers_29
  exact v_pi ((vX5_hasRoomForNumbers_30 rf r hr))
theorem tX5_hasRoomForNumbers_29 {X : pu_X} {r : pu_R} (hX : pu_H X mdX5_hasRoomForNumbers) (hr : pu_P X.2.1 X.2.2.2.2.2.2.2.2.2.2.1 r) (hq : ∀ i pc, pu_lp i = some (84, pc) → pu_S X mdX5_hasRoomForNumbers pc (r i)) : pu_S X mdX5_hasRoomForNumbers 29 (kX5_hasRoomForNumbers_29 r) := by
  unfold kX5_hasRoomForNumbers_29
  exact z_iconst hX dX5_hasRoomForNumbers_29 (by decide) ((tX5_hasRoomForNumbers_30 hX hr hq))
def kX5_hasRoomForNumbers_0 (r : pu_R) : pu_K := s_ald 0 (s_gr 5 0 (s_cv r 51 0 6 (s_ifeq (kX5_hasRoomForNumbers_29 r) (s_ald 0 (s_gr 5 1 (s_gi 4 0 (s_ild 1 (s_iadd (s_push (.int (3000)) (s_icgt (kX5_hasRoomForNumbers_29 r) (s_push (.int (1)) ((kX5_hasRoomForNumbers_30 r)))))))))))))
theorem vX5_hasRoomForNumbers_0 : pu_cok2 kX5_hasRoomForNumbers_0 := fun rf r hr => by
  unfold kX5_hasRoomForNumbers_0
  exact v_ald (v_gr (v_cv hr (v_ifeq (vX5_hasRoomForNumbers_29 rf r hr) (v_ald (v_gr (v_gi (v_ild (v_iadd (v_pi (v_icgt (vX5_hasRoomForNumbers_29 rf r hr) (v_pi ((vX5_hasRoomForNumbers_30 rf r hr)))))))))))))
theorem tX5_hasRoomForNumbers_0 {X : pu_X} {r : pu_R} (hX : pu_H X mdX5_hasRoomForNumbers) (hr : pu_P X.2.1 X.2.2.2.2.2.2.2.2.2.2.1 r) (hq : ∀ i pc, pu_lp i = some (84, pc) → pu_S X mdX5_hasRoomForNumbers pc (r i)) : pu_S X mdX5_hasRoomForNumbers 0 (kX5_hasRoomForNumbers_0 r) := by
  unfold kX5_hasRoomForNumbers_0
  exact z_ald_n hX dX5_hasRoomForNumbers_0 rfl (z_gr (c := 5) (j := 0) hX dX5_hasRoomForNumbers_1 rfl inlX5 wm2_21 ⟨rfl, by decide, rfl⟩ (z_cv (c := 6) hX hr dX5_hasRoomForNumbers_4 hjX6_hasRoom mwX6_hasRoom rfl wm27_7 ⟨wm19_15, wm19_16⟩ ⟨Nat.le_of_ble_eq_true rfl, Nat.le_of_ble_eq_true rfl⟩ (z_ifeq hX dX5_hasRoomForNumbers_7 (by decide) (tX5_hasRoomForNumbers_29 hX hr hq) (z_ald_n hX dX5_hasRoomForNumbers_10 rfl (z_gr (c := 5) (j := 1) hX dX5_hasRoomForNumbers_11 rfl inlX5 wm3_1 ⟨rfl, by decide, rfl⟩ (z_gi (c := 4) (j := 0) hX dX5_hasRoomForNumbers_14 rfl inlX4 wm27_6 ⟨rfl, by decide, rfl⟩ (z_ild_n hX dX5_hasRoomForNumbers_17 rfl (z_iadd hX dX5_hasRoomForNumbers_18 (z_sipush hX dX5_hasRoomForNumbers_19 (by decide) (z_icgt hX dX5_hasRoomForNumbers_22 (by decide) (tX5_hasRoomForNumbers_29 hX hr hq) (z_iconst hX dX5_hasRoomForNumbers_25 (by decide) ((z_goto hX dX5_hasRoomForNumbers_26 (by decide) (tX5_hasRoomForNumbers_30 hX hr hq))))))))))))))
def kX2_isDoor_17 (r : pu_R) : pu_K := s_zret
theorem vX2_isDoor_17 : pu_cok2 kX2_isDoor_17 := fun rf r hr => by
  unfold kX2_isDoor_17
  exact v_zret
theorem tX2_isDoor_17 {X : pu_X} {r : pu_R} (hX : pu_H X mdX2_isDoor) (hr : pu_P X.2.1 X.2.2.2.2.2.2.2.2.2.2.1 r) (hq : ∀ i pc, pu_lp i = some (85, pc) → pu_S X mdX2_isDoor pc (r i)) : pu_S X mdX2_isDoor 17 (kX2_isDoor_17 r) := by
  unfold kX2_isDoor_17
  exact z_zret hX dX2_isDoor_17 rfl
def kX2_isDoor_16 (r : pu_R) : pu_K := s_push (.int (0)) ((kX2_isDoor_17 r))
theorem vX2_isDoor_16 : pu_cok2 kX2_isDoor_16 := fun rf r hr => by
  unfold kX2_isDoor_16
  exact v_pi ((vX2_isDoor_17 rf r hr))
theorem tX2_isDoor_16 {X : pu_X} {r : pu_R} (hX : pu_H X mdX2_isDoor) (hr : pu_P X.2.1 X.2.2.2.2.2.2.2.2.2.2.1 r) (hq : ∀ i pc, pu_lp i = some (85, pc) → pu_S X mdX2_isDoor pc (r i)) : pu_S X mdX2_isDoor 16 (kX2_isDoor_16 r) := by
  unfold kX2_isDoor_16
  exact z_iconst hX dX2_isDoor_16 (by decide) ((tX2_isDoor_17 hX hr hq))
def kX2_isDoor_0 (r : pu_R) : pu_K := s_ild 1 (s_iflt (kX2_isDoor_16 r) (s_ild 1 (s_ald 0 (s_gi 2 0 (s_icge (kX2_isDoor_16 r) (s_push (.int (1)) ((kX2_isDoor_17 r))))))))
theorem vX2_isDoor_0 : pu_cok2 kX2_isDoor_0 := fun rf r hr => by
  unfold kX2_isDoor_0
  exact v_ild (v_iflt (vX2_isDoor_16 rf r hr) (v_ild (v_ald (v_gi (v_icge (vX2_isDoor_16 rf r hr) (v_pi ((vX2_isDoor_17 rf r hr))))))))
theorem tX2_isDoor_0 {X : pu_X} {r : pu_R} (hX : pu_H X mdX2_isDoor) (hr : pu_P X.2.1 X.2.2.2.2.2.2.2.2.2.2.1 r) (hq : ∀ i pc, pu_lp i = some (85, pc) → pu_S X mdX2_isDoor pc (r i)) : pu_S X mdX2_isDoor 0 (kX2_isDoor_0 r) := by
  unfold kX2_isDoor_0
  exact z_ild_n hX dX2_isDoor_0 rfl (z_iflt hX dX2_isDoor_1 (by decide) (tX2_isDoor_16 hX hr hq) (z_ild_n hX dX2_isDoor_4 rfl (z_ald_n hX dX2_isDoor_5 rfl (z_gi (c := 2) (j := 0) hX dX2_isDoor_6 rfl inlX2 wm24_10 ⟨rfl, by decide, rfl⟩ (z_icge hX dX2_isDoor_9 (by decide) (tX2_isDoor_16 hX hr hq) (z_iconst hX dX2_isDoor_12 (by decide) ((z_goto hX dX2_isDoor_13 (by decide) (tX2_isDoor_17 hX hr hq)))))))))
def kX2_setPlace_33 (r : pu_R) : pu_K := s_vret
theorem vX2_setPlace_33 : pu_cok2 kX2_setPlace_33 := fun rf r hr => by
  unfold kX2_setPlace_33
  exact v_vret
theorem tX2_setPlace_33 {X : pu_X} {r : pu_R} (hX : pu_H X mdX2_setPlace) (hr : pu_P X.2.1 X.2.2.2.2.2.2.2.2.2.2.1 r) (hq : ∀ i pc, pu_lp i = some (86, pc) → pu_S X mdX2_setPlace pc (r i)) : pu_S X mdX2_setPlace 33 (kX2_setPlace_33 r) := by
  unfold kX2_setPlace_33
  exact z_vret hX dX2_setPlace_33 rfl
def kX2_setPlace_0 (r : pu_R) : pu_K := s_ild 1 (s_iflt (kX2_setPlace_33 r) (s_ild 1 (s_push (.int (200)) (s_icge (kX2_setPlace_33 r) (s_ald 0 (s_gr 2 8 (s_ild 1 (s_ild 2 (s_wi 1 (s_ald 0 (s_gr 2 9 (s_ild 1 (s_ild 3 (s_wi 1 (s_ald 0 (s_gr 2 10 (s_ild 1 (s_ild 4 (s_wi 1 ((kX2_setPlace_33 r)))))))))))))))))))))
theorem vX2_setPlace_0 : pu_cok2 kX2_setPlace_0 := fun rf r hr => by
  unfold kX2_setPlace_0
  exact v_ild (v_iflt (vX2_setPlace_33 rf r hr) (v_ild (v_pi (v_icge (vX2_setPlace_33 rf r hr) (v_ald (v_gr (v_ild (v_ild (v_wi (v_ald (v_gr (v_ild (v_ild (v_wi (v_ald (v_gr (v_ild (v_ild (v_wi ((vX2_setPlace_33 rf r hr)))))))))))))))))))))
theorem tX2_setPlace_0 {X : pu_X} {r : pu_R} (hX : pu_H X mdX2_setPlace) (hr : pu_P X.2.1 X.2.2.2.2.2.2.2.2.2.2.1 r) (hq : ∀ i pc, pu_lp i = some (86, pc) → pu_S X mdX2_setPlace pc (r i)) : pu_S X mdX2_setPlace 0 (kX2_setPlace_0 r) := by
  unfold kX2_setPlace_0
  exact z_ild_n hX dX2_setPlace_0 rfl (z_iflt hX dX2_setPlace_1 (by decide) (tX2_setPlace_33 hX hr hq) (z_ild_n hX dX2_setPlace_4 rfl (z_sipush hX dX2_setPlace_5 (by decide) (z_icge hX dX2_setPlace_8 (by decide) (tX2_setPlace_33 hX hr hq) (z_ald_n hX dX2_setPlace_11 rfl (z_gr (c := 2) (j := 8) hX dX2_setPlace_12 rfl inlX2 wm5_19 ⟨rfl, by decide, rfl⟩ (z_ild_n hX dX2_setPlace_15 rfl (z_ild_n hX dX2_setPlace_16 rfl (z_iast hX dX2_setPlace_17 (z_ald_n hX dX2_setPlace_18 rfl (z_gr (c := 2) (j := 9) hX dX2_setPlace_19 rfl inlX2 wm5_20 ⟨rfl, by decide, rfl⟩ (z_ild_n hX dX2_setPlace_22 rfl (z_ild_n hX dX2_setPlace_23 rfl (z_iast hX dX2_setPlace_24 (z_ald_n hX dX2_setPlace_25 rfl (z_gr (c := 2) (j := 10) hX dX2_setPlace_26 rfl inlX2 wm5_21 ⟨rfl, by decide, rfl⟩ (z_ild_n hX dX2_setPlace_29 rfl (z_ild hX dX2_setPlace_30 (z_iast hX dX2_setPlace_32 ((tX2_setPlace_33 hX hr hq)))))))))))))))))))))
def kX2_add_106 (r : pu_R) : pu_K := s_imul (s_push (.int (-1)) (s_push (.int (-1)) (s_push (.int (-1)) (s_cv r 86 4 2 (s_ald 0 (s_push (.int (2)) (s_ild 5 (s_imul (s_push (.int (1)) (s_iadd (s_push (.int (-1)) (s_push (.int (-1)) (s_push (.int (-1)) (s_cv r 86 4 2 (s_ild 5 (s_iret))))))))))))))))
theorem vX2_add_106 : pu_cok2 kX2_add_106 := fun rf r hr => by
  unfold kX2_add_106
  exact v_imul (v_pi (v_pi (v_pi (v_cv hr (v_ald (v_pi (v_ild (v_imul (v_pi (v_iadd (v_pi (v_pi (v_pi (v_cv hr (v_ild (v_iret))))))))))))))))
theorem tX2_add_106 {X : pu_X} {r : pu_R} (hX : pu_H X mdX2_add) (hr : pu_P X.2.1 X.2.2.2.2.2.2.2.2.2.2.1 r) (hq : ∀ i pc, pu_lp i = some (87, pc) → pu_S X mdX2_add pc (r i)) : pu_S X mdX2_add 106 (kX2_add_106 r) := by
  unfold kX2_add_106
  exact z_imul hX dX2_add_106 (z_iconst hX dX2_add_107 (by decide) (z_iconst hX dX2_add_108 (by decide) (z_iconst hX dX2_add_109 (by decide) (z_cv (c := 2) hX hr dX2_add_110 hjX2_setPlace mwX2_setPlace rfl wm27_16 ⟨wm27_17, wm27_18⟩ ⟨Nat.le_of_ble_eq_true rfl, Nat.le_of_ble_eq_true rfl⟩ (z_ald_n hX dX2_add_113 rfl (z_iconst hX dX2_add_114 (by decide) (z_ild hX dX2_add_115 (z_imul hX dX2_add_117 (z_iconst hX dX2_add_118 (by decide) (z_iadd hX dX2_add_119 (z_iconst hX dX2_add_120 (by decide) (z_iconst hX dX2_add_121 (by decide) (z_iconst hX dX2_add_122 (by decide) (z_cv (c := 2) hX hr dX2_add_123 hjX2_setPlace mwX2_setPlace rfl wm27_16 ⟨wm27_17, wm27_18⟩ ⟨Nat.le_of_ble_eq_true rfl, Nat.le_of_ble_eq_true rfl⟩ (z_ild hX dX2_add_126 (z_iret hX dX2_add_128 rfl))))))))))))))))
def kX2_add_68 (r : pu_R) : pu_K := s_wi 1 (s_ald 0 (s_gr 2 4 (s_ild 5 (s_ild 3 (s_wi 1 (s_ald 0 (s_gr 2 5 (s_ild 5 (s_ild 4 (s_wi 1 (s_ald 0 (s_gr 2 6 (s_ild 5 (s_push (.int (-1)) (s_wi 1 (s_ald 0 (s_gr 2 7 (s_ild 5 (s_push (.int (-1)) (s_wi 1 (s_ald 0 (s_push (.int (2)) (s_ild 5 ((kX2_add_106 r)))))))))))))))))))))))))
theorem vX2_add_68 : pu_cok2 kX2_add_68 := fun rf r hr => by
  unfold kX2_add_68
  exact v_wi (v_ald (v_gr (v_ild (v_ild (v_wi (v_ald (v_gr (v_ild (v_ild (v_wi (v_ald (v_gr (v_ild (v_pi (v_wi (v_ald (v_gr (v_ild (v_pi (v_wi (v_ald (v_pi (v_ild ((vX2_add_106 rf r hr)))))))))))))))))))))))))
theorem tX2_add_68 {X : pu_X} {r : pu_R} (hX : pu_H X mdX2_add) (hr : pu_P X.2.1 X.2.2.2.2.2.2.2.2.2.2.1 r) (hq : ∀ i pc, pu_lp i = some (87, pc) → pu_S X mdX2_add pc (r i)) : pu_S X mdX2_add 68 (kX2_add_68 r) := by
  unfold kX2_add_68
  exact z_iast hX dX2_add_68 (z_ald_n hX dX2_add_69 rfl (z_gr (c := 2) (j := 4) hX dX2_add_70 rfl inlX2 wm5_15 ⟨rfl, by decide, rfl⟩ (z_ild hX dX2_add_73 (z_ild_n hX dX2_add_75 rfl (z_iast hX dX2_add_76 (z_ald_n hX dX2_add_77 rfl (z_gr (c := 2) (j := 5) hX dX2_add_78 rfl inlX2 wm5_16 ⟨rfl, by decide, rfl⟩ (z_ild hX dX2_add_81 (z_ild hX dX2_add_83 (z_iast hX dX2_add_85 (z_ald_n hX dX2_add_86 rfl (z_gr (c := 2) (j := 6) hX dX2_add_87 rfl inlX2 wm5_17 ⟨rfl, by decide, rfl⟩ (z_ild hX dX2_add_90 (z_iconst hX dX2_add_92 (by decide) (z_iast hX dX2_add_93 (z_ald_n hX dX2_add_94 rfl (z_gr (c := 2) (j := 7) hX dX2_add_95 rfl inlX2 wm5_18 ⟨rfl, by decide, rfl⟩ (z_ild hX dX2_add_98 (z_iconst hX dX2_add_100 (by decide) (z_iast hX dX2_add_101 (z_ald_n hX dX2_add_102 rfl (z_iconst hX dX2_add_103 (by decide) (z_ild hX dX2_add_104 ((tX2_add_106 hX hr hq)))))))))))))))))))))))))
def kX2_add_66 (r : pu_R) : pu_K := s_ild 5 ((kX2_add_68 r))
theorem vX2_add_66 : pu_cok2 kX2_add_66 := fun rf r hr => by
  unfold kX2_add_66
  exact v_ild ((vX2_add_68 rf r hr))
theorem tX2_add_66 {X : pu_X} {r : pu_R} (hX : pu_H X mdX2_add) (hr : pu_P X.2.1 X.2.2.2.2.2.2.2.2.2.2.1 r) (hq : ∀ i pc, pu_lp i = some (87, pc) → pu_S X mdX2_add pc (r i)) : pu_S X mdX2_add 66 (kX2_add_66 r) := by
  unfold kX2_add_66
  exact z_ild hX dX2_add_66 ((tX2_add_68 hX hr hq))
def kX2_add_51 (r : pu_R) : pu_K := s_cv r 85 1 2 (s_ifeq (kX2_add_66 r) (s_ald 0 (s_gr 2 3 (s_ild 2 (s_ai 1 ((kX2_add_68 r)))))))
theorem vX2_add_51 : pu_cok2 kX2_add_51 := fun rf r hr => by
  unfold kX2_add_51
  exact v_cv hr (v_ifeq (vX2_add_66 rf r hr) (v_ald (v_gr (v_ild (v_ai ((vX2_add_68 rf r hr)))))))
theorem tX2_add_51 {X : pu_X} {r : pu_R} (hX : pu_H X mdX2_add) (hr : pu_P X.2.1 X.2.2.2.2.2.2.2.2.2.2.1 r) (hq : ∀ i pc, pu_lp i = some (87, pc) → pu_S X mdX2_add pc (r i)) : pu_S X mdX2_add 51 (kX2_add_51 r) := by
  unfold kX2_add_51
  exact z_cv (c := 2) hX hr dX2_add_51 hjX2_isDoor mwX2_isDoor rfl wm27_12 ⟨wm27_13, wm27_14⟩ ⟨Nat.le_of_ble_eq_true rfl, Nat.le_of_ble_eq_true rfl⟩ (z_ifeq hX dX2_add_54 (by decide) (tX2_add_66 hX hr hq) (z_ald_n hX dX2_add_57 rfl (z_gr (c := 2) (j := 3) hX dX2_add_58 rfl inlX2 wm5_14 ⟨rfl, by decide, rfl⟩ (z_ild_n hX dX2_add_61 rfl (z_iald hX dX2_add_62 ((z_goto hX dX2_add_63 (by decide) (tX2_add_68 hX hr hq))))))))
def kX2_add_11 (r : pu_R) : pu_K := s_ald 0 (s_gi 2 0 (s_ist 5 (s_ald 0 (s_dup (s_gi 2 0 (s_push (.int (1)) (s_iadd (s_pi 2 0 (s_ald 0 (s_gr 2 1 (s_ild 5 (s_ild 1 (s_wi 1 (s_ald 0 (s_gr 2 2 (s_ild 5 (s_ild 2 (s_wi 1 (s_ald 0 (s_gr 2 3 (s_ild 5 (s_ald 0 (s_ild 2 ((kX2_add_51 r)))))))))))))))))))))))))
theorem vX2_add_11 : pu_cok2 kX2_add_11 := fun rf r hr => by
  unfold kX2_add_11
  exact v_ald (v_gi (v_ist (v_ald (v_dup (v_gi (v_pi (v_iadd (v_puti (v_ald (v_gr (v_ild (v_ild (v_wi (v_ald (v_gr (v_ild (v_ild (v_wi (v_ald (v_gr (v_ild (v_ald (v_ild ((vX2_add_51 rf r hr)))))))))))))))))))))))))
theorem tX2_add_11 {X : pu_X} {r : pu_R} (hX : pu_H X mdX2_add) (hr : pu_P X.2.1 X.2.2.2.2.2.2.2.2.2.2.1 r) (hq : ∀ i pc, pu_lp i = some (87, pc) → pu_S X mdX2_add pc (r i)) : pu_S X mdX2_add 11 (kX2_add_11 r) := by
  unfold kX2_add_11
  exact z_ald_n hX dX2_add_11 rfl (z_gi (c := 2) (j := 0) hX dX2_add_12 rfl inlX2 wm24_10 ⟨rfl, by decide, rfl⟩ (z_ist hX dX2_add_15 (z_ald_n hX dX2_add_17 rfl (z_dup hX dX2_add_18 (z_gi (c := 2) (j := 0) hX dX2_add_19 rfl inlX2 wm24_10 ⟨rfl, by decide, rfl⟩ (z_iconst hX dX2_add_22 (by decide) (z_iadd hX dX2_add_23 (z_pi (c := 2) (j := 0) tyX2 tyX2_ok nmX2 hX dX2_add_24 rfl inlX2 wm24_10 ⟨rfl, by decide⟩ ⟨rfl, rfl⟩ rfl (z_ald_n hX dX2_add_27 rfl (z_gr (c := 2) (j := 1) hX dX2_add_28 rfl inlX2 wm5_12 ⟨rfl, by decide, rfl⟩ (z_ild hX dX2_add_31 (z_ild_n hX dX2_add_33 rfl (z_iast hX dX2_add_34 (z_ald_n hX dX2_add_35 rfl (z_gr (c := 2) (j := 2) hX dX2_add_36 rfl inlX2 wm5_13 ⟨rfl, by decide, rfl⟩ (z_ild hX dX2_add_39 (z_ild_n hX dX2_add_41 rfl (z_iast hX dX2_add_42 (z_ald_n hX dX2_add_43 rfl (z_gr (c := 2) (j := 3) hX dX2_add_44 rfl inlX2 wm5_14 ⟨rfl, by decide, rfl⟩ (z_ild hX dX2_add_47 (z_ald_n hX dX2_add_49 rfl (z_ild_n hX dX2_add_50 rfl ((tX2_add_51 hX hr hq)))))))))))))))))))))))))
def kX2_add_0 (r : pu_R) : pu_K := s_ald 0 (s_gi 2 0 (s_push (.int (100)) (s_iclt (kX2_add_11 r) (s_push (.int (-1)) (s_iret)))))
theorem vX2_add_0 : pu_cok2 kX2_add_0 := fun rf r hr => by
  unfold kX2_add_0
  exact v_ald (v_gi (v_pi (v_iclt (vX2_add_11 rf r hr) (v_pi (v_iret)))))
theorem tX2_add_0 {X : pu_X} {r : pu_R} (hX : pu_H X mdX2_add) (hr : pu_P X.2.1 X.2.2.2.2.2.2.2.2.2.2.1 r) (hq : ∀ i pc, pu_lp i = some (87, pc) → pu_S X mdX2_add pc (r i)) : pu_S X mdX2_add 0 (kX2_add_0 r) := by
  unfold kX2_add_0
  exact z_ald_n hX dX2_add_0 rfl (z_gi (c := 2) (j := 0) hX dX2_add_1 rfl inlX2 wm24_10 ⟨rfl, by decide, rfl⟩ (z_bipush hX dX2_add_4 (by decide) (z_iclt hX dX2_add_6 (by decide) (tX2_add_11 hX hr hq) (z_iconst hX dX2_add_9 (by decide) (z_iret hX dX2_add_10 rfl)))))
def kX4_open_60 (r : pu_R) : pu_K := s_vret
theorem vX4_open_60 : pu_cok2 kX4_open_60 := fun rf r hr => by
  unfold kX4_open_60
  exact v_vret
theorem tX4_open_60 {X : pu_X} {r : pu_R} (hX : pu_H X mdX4_open) (hr : pu_P X.2.1 X.2.2.2.2.2.2.2.2.2.2.1 r) (hq : ∀ i pc, pu_lp i = some (88, pc) → pu_S X mdX4_open pc (r i)) : pu_S X mdX4_open 60 (kX4_open_60 r) := by
  unfold kX4_open_60
  exact z_vret hX dX4_open_60 rfl
def kX4_open_44 (r : pu_R) : pu_K := s_ald 0 (s_gi 4 0 (s_push (.int (-1)) (s_wi 1 (s_ald 0 (s_dup (s_gi 4 0 (s_push (.int (1)) (s_iadd (s_pi 4 0 ((kX4_open_60 r)))))))))))
theorem vX4_open_44 : pu_cok2 kX4_open_44 := fun rf r hr => by
  unfold kX4_open_44
  exact v_ald (v_gi (v_pi (v_wi (v_ald (v_dup (v_gi (v_pi (v_iadd (v_puti ((vX4_open_60 rf r hr)))))))))))
theorem tX4_open_44 {X : pu_X} {r : pu_R} (hX : pu_H X mdX4_open) (hr : pu_P X.2.1 X.2.2.2.2.2.2.2.2.2.2.1 r) (hq : ∀ i pc, pu_lp i = some (88, pc) → pu_S X mdX4_open pc (r i)) : pu_S X mdX4_open 44 (kX4_open_44 r) := by
  unfold kX4_open_44
  exact z_ald_n hX dX4_open_44 rfl (z_gi (c := 4) (j := 0) hX dX4_open_45 rfl inlX4 wm28_1 ⟨rfl, by decide, rfl⟩ (z_iconst hX dX4_open_48 (by decide) (z_iast hX dX4_open_49 (z_ald_n hX dX4_open_50 rfl (z_dup hX dX4_open_51 (z_gi (c := 4) (j := 0) hX dX4_open_52 rfl inlX4 wm28_1 ⟨rfl, by decide, rfl⟩ (z_iconst hX dX4_open_55 (by decide) (z_iadd hX dX4_open_56 (z_pi (c := 4) (j := 0) tyX4 tyX4_ok nmX4 hX dX4_open_57 rfl inlX4 wm28_1 ⟨rfl, by decide⟩ ⟨rfl, rfl⟩ rfl ((tX4_open_60 hX hr hq)))))))))))
def kX4_open_0 (r : pu_R) : pu_K := s_ald 0 (s_gi 4 0 (s_push (.int (3000)) (s_icge (kX4_open_60 r) (s_ald 0 (s_gr 4 1 (s_ald 0 (s_gi 4 0 (s_ild 1 (s_wi 1 (s_ald 0 (s_gr 4 2 (s_ald 0 (s_gi 4 0 (s_ild 2 (s_wi 1 (s_ald 0 (s_gr 4 3 (s_ald 0 (s_gi 4 0 (s_ild 3 (s_wi 1 (s_ald 0 (s_gr 4 4 ((kX4_open_44 r)))))))))))))))))))))))))
theorem vX4_open_0 : pu_cok2 kX4_open_0 := fun rf r hr => by
  unfold kX4_open_0
  exact v_ald (v_gi (v_pi (v_icge (vX4_open_60 rf r hr) (v_ald (v_gr (v_ald (v_gi (v_ild (v_wi (v_ald (v_gr (v_ald (v_gi (v_ild (v_wi (v_ald (v_gr (v_ald (v_gi (v_ild (v_wi (v_ald (v_gr ((vX4_open_44 rf r hr)))))))))))))))))))))))))
theorem tX4_open_0 {X : pu_X} {r : pu_R} (hX : pu_H X mdX4_open) (hr : pu_P X.2.1 X.2.2.2.2.2.2.2.2.2.2.1 r) (hq : ∀ i pc, pu_lp i = some (88, pc) → pu_S X mdX4_open pc (r i)) : pu_S X mdX4_open 0 (kX4_open_0 r) := by
  unfold kX4_open_0
  exact z_ald_n hX dX4_open_0 rfl (z_gi (c := 4) (j := 0) hX dX4_open_1 rfl inlX4 wm28_1 ⟨rfl, by decide, rfl⟩ (z_sipush hX dX4_open_4 (by decide) (z_icge hX dX4_open_7 (by decide) (tX4_open_60 hX hr hq) (z_ald_n hX dX4_open_10 rfl (z_gr (c := 4) (j := 1) hX dX4_open_11 rfl inlX4 wm4_12 ⟨rfl, by decide, rfl⟩ (z_ald_n hX dX4_open_14 rfl (z_gi (c := 4) (j := 0) hX dX4_open_15 rfl inlX4 wm28_1 ⟨rfl, by decide, rfl⟩ (z_ild_n hX dX4_open_18 rfl (z_iast hX dX4_open_19 (z_ald_n hX dX4_open_20 rfl (z_gr (c := 4) (j := 2) hX dX4_open_21 rfl inlX4 wm4_13 ⟨rfl, by decide, rfl⟩ (z_ald_n hX dX4_open_24 rfl (z_gi (c := 4) (j := 0) hX dX4_open_25 rfl inlX4 wm28_1 ⟨rfl, by decide, rfl⟩ (z_ild_n hX dX4_open_28 rfl (z_iast hX dX4_open_29 (z_ald_n hX dX4_open_30 rfl (z_gr (c := 4) (j := 3) hX dX4_open_31 rfl inlX4 wm4_14 ⟨rfl, by decide, rfl⟩ (z_ald_n hX dX4_open_34 rfl (z_gi (c := 4) (j := 0) hX dX4_open_35 rfl inlX4 wm28_1 ⟨rfl, by decide, rfl⟩ (z_ild_n hX dX4_open_38 rfl (z_iast hX dX4_open_39 (z_ald_n hX dX4_open_40 rfl (z_gr (c := 4) (j := 4) hX dX4_open_41 rfl inlX4 wm4_15 ⟨rfl, by decide, rfl⟩ ((tX4_open_44 hX hr hq)))))))))))))))))))))))))
def kX11_door_152 (r : pu_R) : pu_K := s_ild 2 (s_ild 3 (s_cv r 86 4 2 (s_ald 0 (s_gr 11 2 (s_gr 5 1 (s_push (.int (2)) (s_ild 8 (s_imul (s_ild 6 (s_ild 7 (s_cv r 88 3 4 (s_ild 8 (s_iret)))))))))))))
theorem vX11_door_152 : pu_cok2 kX11_door_152 := fun rf r hr => by
  unfold kX11_door_152
  exact v_ild (v_ild (v_cv hr (v_ald (v_gr (v_gr (v_pi (v_ild (v_imul (v_ild (v_ild (v_cv hr (v_ild (v_iret)))))))))))))
theorem tX11_door_152 {X : pu_X} {r : pu_R} (hX : pu_H X mdX11_door) (hr : pu_P X.2.1 X.2.2.2.2.2.2.2.2.2.2.1 r) (hq : ∀ i pc, pu_lp i = some (89, pc) → pu_S X mdX11_door pc (r i)) : pu_S X mdX11_door 152 (kX11_door_152 r) := by
  unfold kX11_door_152
  exact z_ild_n hX dX11_door_152 rfl (z_ild_n hX dX11_door_153 rfl (z_cv (c := 2) hX hr dX11_door_154 hjX2_setPlace mwX2_setPlace rfl wm27_20 ⟨wm27_17, wm27_18⟩ ⟨Nat.le_of_ble_eq_true rfl, Nat.le_of_ble_eq_true rfl⟩ (z_ald_n hX dX11_door_157 rfl (z_gr (c := 11) (j := 2) hX dX11_door_158 rfl inlX11 wm1_20 ⟨rfl, by decide, rfl⟩ (z_gr (c := 5) (j := 1) hX dX11_door_161 rfl inlX5 wm21_22 ⟨rfl, by decide, rfl⟩ (z_iconst hX dX11_door_164 (by decide) (z_ild hX dX11_door_165 (z_imul hX dX11_door_167 (z_ild hX dX11_door_168 (z_ild hX dX11_door_170 (z_cv (c := 4) hX hr dX11_door_172 hjX4_open mwX4_open rfl wm27_21 ⟨wm27_22, wm27_23⟩ ⟨Nat.le_of_ble_eq_true rfl, Nat.le_of_ble_eq_true rfl⟩ (z_ild hX dX11_door_175 (z_iret hX dX11_door_177 rfl)))))))))))))
def kX11_door_107 (r : pu_R) : pu_K := s_ald 0 (s_gr 11 2 (s_gr 5 0 (s_ild 5 (s_ild 1 (s_push (.int (-1)) (s_cv r 52 3 6 (s_ist 7 (s_ald 0 (s_gr 11 2 (s_gr 5 4 (s_push (.int (0)) (s_push (.int (-1)) (s_push (.int (0)) (s_ild 7 (s_cv r 87 4 2 (s_ist 8 (s_ald 0 (s_gr 11 2 (s_gr 5 4 (s_push (.int (2)) (s_ild 8 (s_imul (s_ild 1 ((kX11_door_152 r)))))))))))))))))))))))))
theorem vX11_door_107 : pu_cok2 kX11_door_107 := fun rf r hr => by
  unfold kX11_door_107
  exact v_ald (v_gr (v_gr (v_ild (v_ild (v_pi (v_cv hr (v_ist (v_ald (v_gr (v_gr (v_pi (v_pi (v_pi (v_ild (v_cv hr (v_ist (v_ald (v_gr (v_gr (v_pi (v_ild (v_imul (v_ild ((vX11_door_152 rf r hr)))))))))))))))))))))))))
theorem tX11_door_107 {X : pu_X} {r : pu_R} (hX : pu_H X mdX11_door) (hr : pu_P X.2.1 X.2.2.2.2.2.2.2.2.2.2.1 r) (hq : ∀ i pc, pu_lp i = some (89, pc) → pu_S X mdX11_door pc (r i)) : pu_S X mdX11_door 107 (kX11_door_107 r) := by
  unfold kX11_door_107
  exact z_ald_n hX dX11_door_107 rfl (z_gr (c := 11) (j := 2) hX dX11_door_108 rfl inlX11 wm1_20 ⟨rfl, by decide, rfl⟩ (z_gr (c := 5) (j := 0) hX dX11_door_111 rfl inlX5 wm10_19 ⟨rfl, by decide, rfl⟩ (z_ild hX dX11_door_114 (z_ild_n hX dX11_door_116 rfl (z_iconst hX dX11_door_117 (by decide) (z_cv (c := 6) hX hr dX11_door_118 hjX6_lay mwX6_lay rfl wm19_18 ⟨wm19_19, wm19_20⟩ ⟨Nat.le_of_ble_eq_true rfl, Nat.le_of_ble_eq_true rfl⟩ (z_ist hX dX11_door_121 (z_ald_n hX dX11_door_123 rfl (z_gr (c := 11) (j := 2) hX dX11_door_124 rfl inlX11 wm1_20 ⟨rfl, by decide, rfl⟩ (z_gr (c := 5) (j := 4) hX dX11_door_127 rfl inlX5 wm21_20 ⟨rfl, by decide, rfl⟩ (z_iconst hX dX11_door_130 (by decide) (z_iconst hX dX11_door_131 (by decide) (z_iconst hX dX11_door_132 (by decide) (z_ild hX dX11_door_133 (z_cv (c := 2) hX hr dX11_door_135 hjX2_add mwX2_add rfl wm27_8 ⟨wm27_9, wm27_10⟩ ⟨Nat.le_of_ble_eq_true rfl, Nat.le_of_ble_eq_true rfl⟩ (z_ist hX dX11_door_138 (z_ald_n hX dX11_door_140 rfl (z_gr (c := 11) (j := 2) hX dX11_door_141 rfl inlX11 wm1_20 ⟨rfl, by decide, rfl⟩ (z_gr (c := 5) (j := 4) hX dX11_door_144 rfl inlX5 wm21_20 ⟨rfl, by decide, rfl⟩ (z_iconst hX dX11_door_147 (by decide) (z_ild hX dX11_door_148 (z_imul hX dX11_door_150 (z_ild_n hX dX11_door_151 rfl ((tX11_door_152 hX hr hq)))))))))))))))))))))))))
def kX11_door_104 (r : pu_R) : pu_K := s_push (.int (-6)) (s_iret)
theorem vX11_door_104 : pu_cok2 kX11_door_104 := fun rf r hr => by
  unfold kX11_door_104
  exact v_pi (v_iret)
theorem tX11_door_104 {X : pu_X} {r : pu_R} (hX : pu_H X mdX11_door) (hr : pu_P X.2.1 X.2.2.2.2.2.2.2.2.2.2.1 r) (hq : ∀ i pc, pu_lp i = some (89, pc) → pu_S X mdX11_door pc (r i)) : pu_S X mdX11_door 104 (kX11_door_104 r) := by
  unfold kX11_door_104
  exact z_bipush hX dX11_door_104 (by decide) (z_iret hX dX11_door_106 rfl)
def kX11_door_78 (r : pu_R) : pu_K := s_ald 0 (s_gr 11 2 (s_gr 5 4 (s_gi 2 0 (s_push (.int (100)) (s_icge (kX11_door_104 r) (s_ald 0 (s_gr 11 2 (s_push (.int (1)) (s_cv r 84 1 5 (s_ifne (kX11_door_107 r) ((kX11_door_104 r))))))))))))
theorem vX11_door_78 : pu_cok2 kX11_door_78 := fun rf r hr => by
  unfold kX11_door_78
  exact v_ald (v_gr (v_gr (v_gi (v_pi (v_icge (vX11_door_104 rf r hr) (v_ald (v_gr (v_pi (v_cv hr (v_ifne (vX11_door_107 rf r hr) ((vX11_door_104 rf r hr))))))))))))
theorem tX11_door_78 {X : pu_X} {r : pu_R} (hX : pu_H X mdX11_door) (hr : pu_P X.2.1 X.2.2.2.2.2.2.2.2.2.2.1 r) (hq : ∀ i pc, pu_lp i = some (89, pc) → pu_S X mdX11_door pc (r i)) : pu_S X mdX11_door 78 (kX11_door_78 r) := by
  unfold kX11_door_78
  exact z_ald_n hX dX11_door_78 rfl (z_gr (c := 11) (j := 2) hX dX11_door_79 rfl inlX11 wm1_20 ⟨rfl, by decide, rfl⟩ (z_gr (c := 5) (j := 4) hX dX11_door_82 rfl inlX5 wm21_20 ⟨rfl, by decide, rfl⟩ (z_gi (c := 2) (j := 0) hX dX11_door_85 rfl inlX2 wm21_21 ⟨rfl, by decide, rfl⟩ (z_bipush hX dX11_door_88 (by decide) (z_icge hX dX11_door_90 (by decide) (tX11_door_104 hX hr hq) (z_ald_n hX dX11_door_93 rfl (z_gr (c := 11) (j := 2) hX dX11_door_94 rfl inlX11 wm1_20 ⟨rfl, by decide, rfl⟩ (z_iconst hX dX11_door_97 (by decide) (z_cv (c := 5) hX hr dX11_door_98 hjX5_hasRoomForNumbers mwX5_hasRoomForNumbers rfl wm27_2 ⟨wm27_3, wm27_4⟩ ⟨Nat.le_of_ble_eq_true rfl, Nat.le_of_ble_eq_true rfl⟩ (z_ifne hX dX11_door_101 (by decide) (tX11_door_107 hX hr hq) ((tX11_door_104 hX hr hq))))))))))))
def kX11_door_59 (r : pu_R) : pu_K := s_ald 0 (s_ild 1 (s_ild 2 (s_ild 3 (s_ild 4 (s_cv r 83 4 11 (s_ist 6 (s_ild 6 (s_ifge (kX11_door_78 r) (s_ild 6 (s_iret))))))))))
theorem vX11_door_59 : pu_cok2 kX11_door_59 := fun rf r hr => by
  unfold kX11_door_59
  exact v_ald (v_ild (v_ild (v_ild (v_ild (v_cv hr (v_ist (v_ild (v_ifge (vX11_door_78 rf r hr) (v_ild (v_iret))))))))))
theorem tX11_door_59 {X : pu_X} {r : pu_R} (hX : pu_H X mdX11_door) (hr : pu_P X.2.1 X.2.2.2.2.2.2.2.2.2.2.1 r) (hq : ∀ i pc, pu_lp i = some (89, pc) → pu_S X mdX11_door pc (r i)) : pu_S X mdX11_door 59 (kX11_door_59 r) := by
  unfold kX11_door_59
  exact z_ald_n hX dX11_door_59 rfl (z_ild_n hX dX11_door_60 rfl (z_ild_n hX dX11_door_61 rfl (z_ild_n hX dX11_door_62 rfl (z_ild hX dX11_door_63 (z_cv (c := 11) hX hr dX11_door_65 hjX11_fittingNumber mwX11_fittingNumber rfl wm23_4 ⟨wm23_5, wm23_6⟩ ⟨Nat.le_of_ble_eq_true rfl, Nat.le_of_ble_eq_true rfl⟩ (z_ist hX dX11_door_68 (z_ild hX dX11_door_70 (z_ifge hX dX11_door_72 (by decide) (tX11_door_78 hX hr hq) (z_ild hX dX11_door_75 (z_iret hX dX11_door_77 rfl))))))))))
def kX11_door_43 (r : pu_R) : pu_K := s_ild 5 (s_ald 0 (s_gr 11 2 (s_ild 1 (s_cv r 63 1 5 (s_icge (kX11_door_59 r) (s_push (.int (-3)) (s_iret)))))))
theorem vX11_door_43 : pu_cok2 kX11_door_43 := fun rf r hr => by
  unfold kX11_door_43
  exact v_ild (v_ald (v_gr (v_ild (v_cv hr (v_icge (vX11_door_59 rf r hr) (v_pi (v_iret)))))))
theorem tX11_door_43 {X : pu_X} {r : pu_R} (hX : pu_H X mdX11_door) (hr : pu_P X.2.1 X.2.2.2.2.2.2.2.2.2.2.1 r) (hq : ∀ i pc, pu_lp i = some (89, pc) → pu_S X mdX11_door pc (r i)) : pu_S X mdX11_door 43 (kX11_door_43 r) := by
  unfold kX11_door_43
  exact z_ild hX dX11_door_43 (z_ald_n hX dX11_door_45 rfl (z_gr (c := 11) (j := 2) hX dX11_door_46 rfl inlX11 wm1_20 ⟨rfl, by decide, rfl⟩ (z_ild_n hX dX11_door_49 rfl (z_cv (c := 5) hX hr dX11_door_50 hjX5_earliestOn mwX5_earliestOn rfl wm22_15 ⟨wm22_16, wm22_17⟩ ⟨Nat.le_of_ble_eq_true rfl, Nat.le_of_ble_eq_true rfl⟩ (z_icge hX dX11_door_53 (by decide) (tX11_door_59 hX hr hq) (z_bipush hX dX11_door_56 (by decide) (z_iret hX dX11_door_58 rfl)))))))
def kX11_door_40 (r : pu_R) : pu_K := s_push (.int (-2)) (s_iret)
theorem vX11_door_40 : pu_cok2 kX11_door_40 := fun rf r hr => by
  unfold kX11_door_40
  exact v_pi (v_iret)
theorem tX11_door_40 {X : pu_X} {r : pu_R} (hX : pu_H X mdX11_door) (hr : pu_P X.2.1 X.2.2.2.2.2.2.2.2.2.2.1 r) (hq : ∀ i pc, pu_lp i = some (89, pc) → pu_S X mdX11_door pc (r i)) : pu_S X mdX11_door 40 (kX11_door_40 r) := by
  unfold kX11_door_40
  exact z_bipush hX dX11_door_40 (by decide) (z_iret hX dX11_door_42 rfl)
def kX11_door_16 (r : pu_R) : pu_K := s_ild 2 (s_ild 3 (s_cs r 58 2 (s_ifeq (kX11_door_40 r) (s_ild 4 (s_cs r 60 1 (s_ifeq (kX11_door_40 r) (s_ild 5 (s_cs r 18 1 (s_ifne (kX11_door_43 r) ((kX11_door_40 r)))))))))))
theorem vX11_door_16 : pu_cok2 kX11_door_16 := fun rf r hr => by
  unfold kX11_door_16
  exact v_ild (v_ild (v_cs hr (v_ifeq (vX11_door_40 rf r hr) (v_ild (v_cs hr (v_ifeq (vX11_door_40 rf r hr) (v_ild (v_cs hr (v_ifne (vX11_door_43 rf r hr) ((vX11_door_40 rf r hr)))))))))))
theorem tX11_door_16 {X : pu_X} {r : pu_R} (hX : pu_H X mdX11_door) (hr : pu_P X.2.1 X.2.2.2.2.2.2.2.2.2.2.1 r) (hq : ∀ i pc, pu_lp i = some (89, pc) → pu_S X mdX11_door pc (r i)) : pu_S X mdX11_door 16 (kX11_door_16 r) := by
  unfold kX11_door_16
  exact z_ild_n hX dX11_door_16 rfl (z_ild_n hX dX11_door_17 rfl (z_cs hX hr dX11_door_18 hjX11_isPlace mwX11_isPlace wm22_3 wm22_4 ⟨Nat.le_of_ble_eq_true rfl, Nat.le_of_ble_eq_true rfl⟩ (z_ifeq hX dX11_door_21 (by decide) (tX11_door_40 hX hr hq) (z_ild hX dX11_door_24 (z_cs hX hr dX11_door_26 hjX11_isWholeOrLeast mwX11_isWholeOrLeast wm22_9 wm22_10 ⟨Nat.le_of_ble_eq_true rfl, Nat.le_of_ble_eq_true rfl⟩ (z_ifeq hX dX11_door_29 (by decide) (tX11_door_40 hX hr hq) (z_ild hX dX11_door_32 (z_cs hX hr dX11_door_34 hjX11_isDay mwX11_isDay wm10_21 wm10_22 ⟨Nat.le_of_ble_eq_true rfl, Nat.le_of_ble_eq_true rfl⟩ (z_ifne hX dX11_door_37 (by decide) (tX11_door_43 hX hr hq) ((tX11_door_40 hX hr hq)))))))))))
def kX11_door_0 (r : pu_R) : pu_K := s_ald 0 (s_gr 11 2 (s_gr 5 3 (s_ild 1 (s_cv r 56 1 10 (s_ifne (kX11_door_16 r) (s_push (.int (-1)) (s_iret)))))))
theorem vX11_door_0 : pu_cok2 kX11_door_0 := fun rf r hr => by
  unfold kX11_door_0
  exact v_ald (v_gr (v_gr (v_ild (v_cv hr (v_ifne (vX11_door_16 rf r hr) (v_pi (v_iret)))))))
theorem tX11_door_0 {X : pu_X} {r : pu_R} (hX : pu_H X mdX11_door) (hr : pu_P X.2.1 X.2.2.2.2.2.2.2.2.2.2.1 r) (hq : ∀ i pc, pu_lp i = some (89, pc) → pu_S X mdX11_door pc (r i)) : pu_S X mdX11_door 0 (kX11_door_0 r) := by
  unfold kX11_door_0
  exact z_ald_n hX dX11_door_0 rfl (z_gr (c := 11) (j := 2) hX dX11_door_1 rfl inlX11 wm1_20 ⟨rfl, by decide, rfl⟩ (z_gr (c := 5) (j := 3) hX dX11_door_4 rfl inlX5 wm11_22 ⟨rfl, by decide, rfl⟩ (z_ild_n hX dX11_door_7 rfl (z_cv (c := 10) hX hr dX11_door_8 hjX10_isStreet mwX10_isStreet rfl wm21_23 ⟨wm22_0, wm22_1⟩ ⟨Nat.le_of_ble_eq_true rfl, Nat.le_of_ble_eq_true rfl⟩ (z_ifne hX dX11_door_11 (by decide) (tX11_door_16 hX hr hq) (z_iconst hX dX11_door_14 (by decide) (z_iret hX dX11_door_15 rfl)))))))
def kX2_isOpen_23 (r : pu_R) : pu_K := s_zret
theorem vX2_isOpen_23 : pu_cok2 kX2_isOpen_23 := fun rf r hr => by
  unfold kX2_isOpen_23
  exact v_zret
theorem tX2_isOpen_23 {X : pu_X} {r : pu_R} (hX : pu_H X mdX2_isOpen) (hr : pu_P X.2.1 X.2.2.2.2.2.2.2.2.2.2.1 r) (hq : ∀ i pc, pu_lp i = some (90, pc) → pu_S X mdX2_isOpen pc (r i)) : pu_S X mdX2_isOpen 23 (kX2_isOpen_23 r) := by
  unfold kX2_isOpen_23
  exact z_zret hX dX2_isOpen_23 rfl
def kX2_isOpen_22 (r : pu_R) : pu_K := s_push (.int (0)) ((kX2_isOpen_23 r))
theorem vX2_isOpen_22 : pu_cok2 kX2_isOpen_22 := fun rf r hr => by
  unfold kX2_isOpen_22
  exact v_pi ((vX2_isOpen_23 rf r hr))
theorem tX2_isOpen_22 {X : pu_X} {r : pu_R} (hX : pu_H X mdX2_isOpen) (hr : pu_P X.2.1 X.2.2.2.2.2.2.2.2.2.2.1 r) (hq : ∀ i pc, pu_lp i = some (90, pc) → pu_S X mdX2_isOpen pc (r i)) : pu_S X mdX2_isOpen 22 (kX2_isOpen_22 r) := by
  unfold kX2_isOpen_22
  exact z_iconst hX dX2_isOpen_22 (by decide) ((tX2_isOpen_23 hX hr hq))
def kX2_isOpen_0 (r : pu_R) : pu_K := s_ald 0 (s_ild 1 (s_cv r 85 1 2 (s_ifeq (kX2_isOpen_22 r) (s_ald 0 (s_gr 2 6 (s_ild 1 (s_ai 1 (s_push (.int (-1)) (s_icne (kX2_isOpen_22 r) (s_push (.int (1)) ((kX2_isOpen_23 r))))))))))))
theorem vX2_isOpen_0 : pu_cok2 kX2_isOpen_0 := fun rf r hr => by
  unfold kX2_isOpen_0
  exact v_ald (v_ild (v_cv hr (v_ifeq (vX2_isOpen_22 rf r hr) (v_ald (v_gr (v_ild (v_ai (v_pi (v_icne (vX2_isOpen_22 rf r hr) (v_pi ((vX2_isOpen_23 rf r hr))))))))))))
theorem tX2_isOpen_0 {X : pu_X} {r : pu_R} (hX : pu_H X mdX2_isOpen) (hr : pu_P X.2.1 X.2.2.2.2.2.2.2.2.2.2.1 r) (hq : ∀ i pc, pu_lp i = some (90, pc) → pu_S X mdX2_isOpen pc (r i)) : pu_S X mdX2_isOpen 0 (kX2_isOpen_0 r) := by
  unfold kX2_isOpen_0
  exact z_ald_n hX dX2_isOpen_0 rfl (z_ild_n hX dX2_isOpen_1 rfl (z_cv (c := 2) hX hr dX2_isOpen_2 hjX2_isDoor mwX2_isDoor rfl wm27_12 ⟨wm27_13, wm27_14⟩ ⟨Nat.le_of_ble_eq_true rfl, Nat.le_of_ble_eq_true rfl⟩ (z_ifeq hX dX2_isOpen_5 (by decide) (tX2_isOpen_22 hX hr hq) (z_ald_n hX dX2_isOpen_8 rfl (z_gr (c := 2) (j := 6) hX dX2_isOpen_9 rfl inlX2 wm5_17 ⟨rfl, by decide, rfl⟩ (z_ild_n hX dX2_isOpen_12 rfl (z_iald hX dX2_isOpen_13 (z_iconst hX dX2_isOpen_14 (by decide) (z_icne hX dX2_isOpen_15 (by decide) (tX2_isOpen_22 hX hr hq) (z_iconst hX dX2_isOpen_18 (by decide) ((z_goto hX dX2_isOpen_19 (by decide) (tX2_isOpen_23 hX hr hq)))))))))))))
def kX2_sortOf_30 (r : pu_R) : pu_K := s_iret
theorem vX2_sortOf_30 : pu_cok2 kX2_sortOf_30 := fun rf r hr => by
  unfold kX2_sortOf_30
  exact v_iret
theorem tX2_sortOf_30 {X : pu_X} {r : pu_R} (hX : pu_H X mdX2_sortOf) (hr : pu_P X.2.1 X.2.2.2.2.2.2.2.2.2.2.1 r) (hq : ∀ i pc, pu_lp i = some (91, pc) → pu_S X mdX2_sortOf pc (r i)) : pu_S X mdX2_sortOf 30 (kX2_sortOf_30 r) := by
  unfold kX2_sortOf_30
  exact z_iret hX dX2_sortOf_30 rfl
def kX2_sortOf_24 (r : pu_R) : pu_K := s_ald 0 (s_gr 2 1 (s_ild 1 (s_ai 1 ((kX2_sortOf_30 r)))))
theorem vX2_sortOf_24 : pu_cok2 kX2_sortOf_24 := fun rf r hr => by
  unfold kX2_sortOf_24
  exact v_ald (v_gr (v_ild (v_ai ((vX2_sortOf_30 rf r hr)))))
theorem tX2_sortOf_24 {X : pu_X} {r : pu_R} (hX : pu_H X mdX2_sortOf) (hr : pu_P X.2.1 X.2.2.2.2.2.2.2.2.2.2.1 r) (hq : ∀ i pc, pu_lp i = some (91, pc) → pu_S X mdX2_sortOf pc (r i)) : pu_S X mdX2_sortOf 24 (kX2_sortOf_24 r) := by
  unfold kX2_sortOf_24
  exact z_ald_n hX dX2_sortOf_24 rfl (z_gr (c := 2) (j := 1) hX dX2_sortOf_25 rfl inlX2 wm5_12 ⟨rfl, by decide, rfl⟩ (z_ild_n hX dX2_sortOf_28 rfl (z_iald hX dX2_sortOf_29 ((tX2_sortOf_30 hX hr hq)))))
def kX2_sortOf_10 (r : pu_R) : pu_K := s_ald 0 (s_gr 2 7 (s_ild 1 (s_ai 1 (s_push (.int (-1)) (s_iceq (kX2_sortOf_24 r) (s_push (.int (1)) ((kX2_sortOf_30 r))))))))
theorem vX2_sortOf_10 : pu_cok2 kX2_sortOf_10 := fun rf r hr => by
  unfold kX2_sortOf_10
  exact v_ald (v_gr (v_ild (v_ai (v_pi (v_iceq (vX2_sortOf_24 rf r hr) (v_pi ((vX2_sortOf_30 rf r hr))))))))
theorem tX2_sortOf_10 {X : pu_X} {r : pu_R} (hX : pu_H X mdX2_sortOf) (hr : pu_P X.2.1 X.2.2.2.2.2.2.2.2.2.2.1 r) (hq : ∀ i pc, pu_lp i = some (91, pc) → pu_S X mdX2_sortOf pc (r i)) : pu_S X mdX2_sortOf 10 (kX2_sortOf_10 r) := by
  unfold kX2_sortOf_10
  exact z_ald_n hX dX2_sortOf_10 rfl (z_gr (c := 2) (j := 7) hX dX2_sortOf_11 rfl inlX2 wm5_18 ⟨rfl, by decide, rfl⟩ (z_ild_n hX dX2_sortOf_14 rfl (z_iald hX dX2_sortOf_15 (z_iconst hX dX2_sortOf_16 (by decide) (z_iceq hX dX2_sortOf_17 (by decide) (tX2_sortOf_24 hX hr hq) (z_iconst hX dX2_sortOf_20 (by decide) ((z_goto hX dX2_sortOf_21 (by decide) (tX2_sortOf_30 hX hr hq)))))))))
def kX2_sortOf_0 (r : pu_R) : pu_K := s_ald 0 (s_ild 1 (s_cv r 85 1 2 (s_ifne (kX2_sortOf_10 r) (s_push (.int (-1)) (s_iret)))))
theorem vX2_sortOf_0 : pu_cok2 kX2_sortOf_0 := fun rf r hr => by
  unfold kX2_sortOf_0
  exact v_ald (v_ild (v_cv hr (v_ifne (vX2_sortOf_10 rf r hr) (v_pi (v_iret)))))
theorem tX2_sortOf_0 {X : pu_X} {r : pu_R} (hX : pu_H X mdX2_sortOf) (hr : pu_P X.2.1 X.2.2.2.2.2.2.2.2.2.2.1 r) (hq : ∀ i pc, pu_lp i = some (91, pc) → pu_S X mdX2_sortOf pc (r i)) : pu_S X mdX2_sortOf 0 (kX2_sortOf_0 r) := by
  unfold kX2_sortOf_0
  exact z_ald_n hX dX2_sortOf_0 rfl (z_ild_n hX dX2_sortOf_1 rfl (z_cv (c := 2) hX hr dX2_sortOf_2 hjX2_isDoor mwX2_isDoor rfl wm27_12 ⟨wm27_13, wm27_14⟩ ⟨Nat.le_of_ble_eq_true rfl, Nat.le_of_ble_eq_true rfl⟩ (z_ifne hX dX2_sortOf_5 (by decide) (tX2_sortOf_10 hX hr hq) (z_iconst hX dX2_sortOf_8 (by decide) (z_iret hX dX2_sortOf_9 rfl)))))
def kX2_makeCorner_15 (r : pu_R) : pu_K := s_vret
theorem vX2_makeCorner_15 : pu_cok2 kX2_makeCorner_15 := fun rf r hr => by
  unfold kX2_makeCorner_15
  exact v_vret
theorem tX2_makeCorner_15 {X : pu_X} {r : pu_R} (hX : pu_H X mdX2_makeCorner) (hr : pu_P X.2.1 X.2.2.2.2.2.2.2.2.2.2.1 r) (hq : ∀ i pc, pu_lp i = some (92, pc) → pu_S X mdX2_makeCorner pc (r i)) : pu_S X mdX2_makeCorner 15 (kX2_makeCorner_15 r) := by
  unfold kX2_makeCorner_15
  exact z_vret hX dX2_makeCorner_15 rfl
def kX2_makeCorner_0 (r : pu_R) : pu_K := s_ald 0 (s_ild 1 (s_cv r 85 1 2 (s_ifeq (kX2_makeCorner_15 r) (s_ald 0 (s_gr 2 7 (s_ild 1 (s_ild 2 (s_wi 1 ((kX2_makeCorner_15 r))))))))))
theorem vX2_makeCorner_0 : pu_cok2 kX2_makeCorner_0 := fun rf r hr => by
  unfold kX2_makeCorner_0
  exact v_ald (v_ild (v_cv hr (v_ifeq (vX2_makeCorner_15 rf r hr) (v_ald (v_gr (v_ild (v_ild (v_wi ((vX2_makeCorner_15 rf r hr))))))))))
theorem tX2_makeCorner_0 {X : pu_X} {r : pu_R} (hX : pu_H X mdX2_makeCorner) (hr : pu_P X.2.1 X.2.2.2.2.2.2.2.2.2.2.1 r) (hq : ∀ i pc, pu_lp i = some (92, pc) → pu_S X mdX2_makeCorner pc (r i)) : pu_S X mdX2_makeCorner 0 (kX2_makeCorner_0 r) := by
  unfold kX2_makeCorner_0
  exact z_ald_n hX dX2_makeCorner_0 rfl (z_ild_n hX dX2_makeCorner_1 rfl (z_cv (c := 2) hX hr dX2_makeCorner_2 hjX2_isDoor mwX2_isDoor rfl wm27_12 ⟨wm27_13, wm27_14⟩ ⟨Nat.le_of_ble_eq_true rfl, Nat.le_of_ble_eq_true rfl⟩ (z_ifeq hX dX2_makeCorner_5 (by decide) (tX2_makeCorner_15 hX hr hq) (z_ald_n hX dX2_makeCorner_8 rfl (z_gr (c := 2) (j := 7) hX dX2_makeCorner_9 rfl inlX2 wm5_18 ⟨rfl, by decide, rfl⟩ (z_ild_n hX dX2_makeCorner_12 rfl (z_ild_n hX dX2_makeCorner_13 rfl (z_iast hX dX2_makeCorner_14 ((tX2_makeCorner_15 hX hr hq))))))))))
def kX11_corner_199 (r : pu_R) : pu_K := s_ild 4 (s_cv r 86 4 2 (s_ald 0 (s_gr 11 2 (s_gr 5 1 (s_push (.int (2)) (s_ild 1 (s_imul (s_push (.int (1)) (s_iadd (s_ild 8 (s_ild 9 (s_cv r 88 3 4 (s_ild 8 (s_iret))))))))))))))
theorem vX11_corner_199 : pu_cok2 kX11_corner_199 := fun rf r hr => by
  unfold kX11_corner_199
  exact v_ild (v_cv hr (v_ald (v_gr (v_gr (v_pi (v_ild (v_imul (v_pi (v_iadd (v_ild (v_ild (v_cv hr (v_ild (v_iret))))))))))))))
theorem tX11_corner_199 {X : pu_X} {r : pu_R} (hX : pu_H X mdX11_corner) (hr : pu_P X.2.1 X.2.2.2.2.2.2.2.2.2.2.1 r) (hq : ∀ i pc, pu_lp i = some (93, pc) → pu_S X mdX11_corner pc (r i)) : pu_S X mdX11_corner 199 (kX11_corner_199 r) := by
  unfold kX11_corner_199
  exact z_ild hX dX11_corner_199 (z_cv (c := 2) hX hr dX11_corner_201 hjX2_setPlace mwX2_setPlace rfl wm27_20 ⟨wm27_17, wm27_18⟩ ⟨Nat.le_of_ble_eq_true rfl, Nat.le_of_ble_eq_true rfl⟩ (z_ald_n hX dX11_corner_204 rfl (z_gr (c := 11) (j := 2) hX dX11_corner_205 rfl inlX11 wm1_20 ⟨rfl, by decide, rfl⟩ (z_gr (c := 5) (j := 1) hX dX11_corner_208 rfl inlX5 wm21_22 ⟨rfl, by decide, rfl⟩ (z_iconst hX dX11_corner_211 (by decide) (z_ild_n hX dX11_corner_212 rfl (z_imul hX dX11_corner_213 (z_iconst hX dX11_corner_214 (by decide) (z_iadd hX dX11_corner_215 (z_ild hX dX11_corner_216 (z_ild hX dX11_corner_218 (z_cv (c := 4) hX hr dX11_corner_220 hjX4_open mwX4_open rfl wm27_21 ⟨wm27_22, wm27_23⟩ ⟨Nat.le_of_ble_eq_true rfl, Nat.le_of_ble_eq_true rfl⟩ (z_ild hX dX11_corner_223 (z_iret hX dX11_corner_225 rfl))))))))))))))
def kX11_corner_155 (r : pu_R) : pu_K := s_ald 0 (s_gr 11 2 (s_gr 5 0 (s_ild 6 (s_ild 7 (s_ild 2 (s_cv r 52 3 6 (s_ist 9 (s_ald 0 (s_gr 11 2 (s_gr 5 4 (s_ild 1 (s_ild 9 (s_cv r 92 2 2 (s_ald 0 (s_gr 11 2 (s_gr 5 4 (s_push (.int (2)) (s_ild 1 (s_imul (s_push (.int (1)) (s_iadd (s_ild 2 (s_ild 3 ((kX11_corner_199 r)))))))))))))))))))))))))
theorem vX11_corner_155 : pu_cok2 kX11_corner_155 := fun rf r hr => by
  unfold kX11_corner_155
  exact v_ald (v_gr (v_gr (v_ild (v_ild (v_ild (v_cv hr (v_ist (v_ald (v_gr (v_gr (v_ild (v_ild (v_cv hr (v_ald (v_gr (v_gr (v_pi (v_ild (v_imul (v_pi (v_iadd (v_ild (v_ild ((vX11_corner_199 rf r hr)))))))))))))))))))))))))
theorem tX11_corner_155 {X : pu_X} {r : pu_R} (hX : pu_H X mdX11_corner) (hr : pu_P X.2.1 X.2.2.2.2.2.2.2.2.2.2.1 r) (hq : ∀ i pc, pu_lp i = some (93, pc) → pu_S X mdX11_corner pc (r i)) : pu_S X mdX11_corner 155 (kX11_corner_155 r) := by
  unfold kX11_corner_155
  exact z_ald_n hX dX11_corner_155 rfl (z_gr (c := 11) (j := 2) hX dX11_corner_156 rfl inlX11 wm1_20 ⟨rfl, by decide, rfl⟩ (z_gr (c := 5) (j := 0) hX dX11_corner_159 rfl inlX5 wm10_19 ⟨rfl, by decide, rfl⟩ (z_ild hX dX11_corner_162 (z_ild hX dX11_corner_164 (z_ild_n hX dX11_corner_166 rfl (z_cv (c := 6) hX hr dX11_corner_167 hjX6_lay mwX6_lay rfl wm19_18 ⟨wm19_19, wm19_20⟩ ⟨Nat.le_of_ble_eq_true rfl, Nat.le_of_ble_eq_true rfl⟩ (z_ist hX dX11_corner_170 (z_ald_n hX dX11_corner_172 rfl (z_gr (c := 11) (j := 2) hX dX11_corner_173 rfl inlX11 wm1_20 ⟨rfl, by decide, rfl⟩ (z_gr (c := 5) (j := 4) hX dX11_corner_176 rfl inlX5 wm21_20 ⟨rfl, by decide, rfl⟩ (z_ild_n hX dX11_corner_179 rfl (z_ild hX dX11_corner_180 (z_cv (c := 2) hX hr dX11_corner_182 hjX2_makeCorner mwX2_makeCorner rfl wm32_23 ⟨wm33_0, wm33_1⟩ ⟨Nat.le_of_ble_eq_true rfl, Nat.le_of_ble_eq_true rfl⟩ (z_ald_n hX dX11_corner_185 rfl (z_gr (c := 11) (j := 2) hX dX11_corner_186 rfl inlX11 wm1_20 ⟨rfl, by decide, rfl⟩ (z_gr (c := 5) (j := 4) hX dX11_corner_189 rfl inlX5 wm21_20 ⟨rfl, by decide, rfl⟩ (z_iconst hX dX11_corner_192 (by decide) (z_ild_n hX dX11_corner_193 rfl (z_imul hX dX11_corner_194 (z_iconst hX dX11_corner_195 (by decide) (z_iadd hX dX11_corner_196 (z_ild_n hX dX11_corner_197 rfl (z_ild_n hX dX11_corner_198 rfl ((tX11_corner_199 hX hr hq)))))))))))))))))))))))))
def kX11_corner_141 (r : pu_R) : pu_K := s_ald 0 (s_gr 11 2 (s_push (.int (1)) (s_cv r 84 1 5 (s_ifne (kX11_corner_155 r) (s_push (.int (-6)) (s_iret))))))
theorem vX11_corner_141 : pu_cok2 kX11_corner_141 := fun rf r hr => by
  unfold kX11_corner_141
  exact v_ald (v_gr (v_pi (v_cv hr (v_ifne (vX11_corner_155 rf r hr) (v_pi (v_iret))))))
theorem tX11_corner_141 {X : pu_X} {r : pu_R} (hX : pu_H X mdX11_corner) (hr : pu_P X.2.1 X.2.2.2.2.2.2.2.2.2.2.1 r) (hq : ∀ i pc, pu_lp i = some (93, pc) → pu_S X mdX11_corner pc (r i)) : pu_S X mdX11_corner 141 (kX11_corner_141 r) := by
  unfold kX11_corner_141
  exact z_ald_n hX dX11_corner_141 rfl (z_gr (c := 11) (j := 2) hX dX11_corner_142 rfl inlX11 wm1_20 ⟨rfl, by decide, rfl⟩ (z_iconst hX dX11_corner_145 (by decide) (z_cv (c := 5) hX hr dX11_corner_146 hjX5_hasRoomForNumbers mwX5_hasRoomForNumbers rfl wm27_2 ⟨wm27_3, wm27_4⟩ ⟨Nat.le_of_ble_eq_true rfl, Nat.le_of_ble_eq_true rfl⟩ (z_ifne hX dX11_corner_149 (by decide) (tX11_corner_155 hX hr hq) (z_bipush hX dX11_corner_152 (by decide) (z_iret hX dX11_corner_154 rfl))))))
def kX11_corner_121 (r : pu_R) : pu_K := s_ald 0 (s_ild 2 (s_ild 3 (s_ild 4 (s_ild 5 (s_cv r 83 4 11 (s_ist 8 (s_ild 8 (s_ifge (kX11_corner_141 r) (s_ild 8 (s_iret))))))))))
theorem vX11_corner_121 : pu_cok2 kX11_corner_121 := fun rf r hr => by
  unfold kX11_corner_121
  exact v_ald (v_ild (v_ild (v_ild (v_ild (v_cv hr (v_ist (v_ild (v_ifge (vX11_corner_141 rf r hr) (v_ild (v_iret))))))))))
theorem tX11_corner_121 {X : pu_X} {r : pu_R} (hX : pu_H X mdX11_corner) (hr : pu_P X.2.1 X.2.2.2.2.2.2.2.2.2.2.1 r) (hq : ∀ i pc, pu_lp i = some (93, pc) → pu_S X mdX11_corner pc (r i)) : pu_S X mdX11_corner 121 (kX11_corner_121 r) := by
  unfold kX11_corner_121
  exact z_ald_n hX dX11_corner_121 rfl (z_ild_n hX dX11_corner_122 rfl (z_ild_n hX dX11_corner_123 rfl (z_ild hX dX11_corner_124 (z_ild hX dX11_corner_126 (z_cv (c := 11) hX hr dX11_corner_128 hjX11_fittingNumber mwX11_fittingNumber rfl wm23_4 ⟨wm23_5, wm23_6⟩ ⟨Nat.le_of_ble_eq_true rfl, Nat.le_of_ble_eq_true rfl⟩ (z_ist hX dX11_corner_131 (z_ild hX dX11_corner_133 (z_ifge hX dX11_corner_135 (by decide) (tX11_corner_141 hX hr hq) (z_ild hX dX11_corner_138 (z_iret hX dX11_corner_140 rfl))))))))))
def kX11_corner_93 (r : pu_R) : pu_K := s_ild 6 (s_ald 0 (s_gr 11 2 (s_ild 7 (s_cv r 63 1 5 (s_ald 0 (s_gr 11 2 (s_ild 2 (s_cv r 63 1 5 (s_max (s_icge (kX11_corner_121 r) (s_push (.int (-3)) (s_iret))))))))))))
theorem vX11_corner_93 : pu_cok2 kX11_corner_93 := fun rf r hr => by
  unfold kX11_corner_93
  exact v_ild (v_ald (v_gr (v_ild (v_cv hr (v_ald (v_gr (v_ild (v_cv hr (v_max (v_icge (vX11_corner_121 rf r hr) (v_pi (v_iret))))))))))))
theorem tX11_corner_93 {X : pu_X} {r : pu_R} (hX : pu_H X mdX11_corner) (hr : pu_P X.2.1 X.2.2.2.2.2.2.2.2.2.2.1 r) (hq : ∀ i pc, pu_lp i = some (93, pc) → pu_S X mdX11_corner pc (r i)) : pu_S X mdX11_corner 93 (kX11_corner_93 r) := by
  unfold kX11_corner_93
  exact z_ild hX dX11_corner_93 (z_ald_n hX dX11_corner_95 rfl (z_gr (c := 11) (j := 2) hX dX11_corner_96 rfl inlX11 wm1_20 ⟨rfl, by decide, rfl⟩ (z_ild hX dX11_corner_99 (z_cv (c := 5) hX hr dX11_corner_101 hjX5_earliestOn mwX5_earliestOn rfl wm22_15 ⟨wm22_16, wm22_17⟩ ⟨Nat.le_of_ble_eq_true rfl, Nat.le_of_ble_eq_true rfl⟩ (z_ald_n hX dX11_corner_104 rfl (z_gr (c := 11) (j := 2) hX dX11_corner_105 rfl inlX11 wm1_20 ⟨rfl, by decide, rfl⟩ (z_ild_n hX dX11_corner_108 rfl (z_cv (c := 5) hX hr dX11_corner_109 hjX5_earliestOn mwX5_earliestOn rfl wm22_15 ⟨wm22_16, wm22_17⟩ ⟨Nat.le_of_ble_eq_true rfl, Nat.le_of_ble_eq_true rfl⟩ (z_max hX dX11_corner_112 ⟨wm32_13, wm18_12, wm18_13, wm18_14⟩ ⟨Nat.le_of_ble_eq_true rfl, Nat.le_of_ble_eq_true rfl⟩ (z_icge hX dX11_corner_115 (by decide) (tX11_corner_121 hX hr hq) (z_bipush hX dX11_corner_118 (by decide) (z_iret hX dX11_corner_120 rfl))))))))))))
def kX11_corner_90 (r : pu_R) : pu_K := s_push (.int (-2)) (s_iret)
theorem vX11_corner_90 : pu_cok2 kX11_corner_90 := fun rf r hr => by
  unfold kX11_corner_90
  exact v_pi (v_iret)
theorem tX11_corner_90 {X : pu_X} {r : pu_R} (hX : pu_H X mdX11_corner) (hr : pu_P X.2.1 X.2.2.2.2.2.2.2.2.2.2.1 r) (hq : ∀ i pc, pu_lp i = some (93, pc) → pu_S X mdX11_corner pc (r i)) : pu_S X mdX11_corner 90 (kX11_corner_90 r) := by
  unfold kX11_corner_90
  exact z_bipush hX dX11_corner_90 (by decide) (z_iret hX dX11_corner_92 rfl)
def kX11_corner_44 (r : pu_R) : pu_K := s_ald 0 (s_gr 11 2 (s_gr 5 4 (s_push (.int (2)) (s_ild 1 (s_imul (s_cv r 66 1 2 (s_ist 7 (s_ild 7 (s_ild 2 (s_iceq (kX11_corner_90 r) (s_ild 3 (s_ild 4 (s_cs r 58 2 (s_ifeq (kX11_corner_90 r) (s_ild 5 (s_cs r 60 1 (s_ifeq (kX11_corner_90 r) (s_ild 6 (s_cs r 18 1 (s_ifne (kX11_corner_93 r) ((kX11_corner_90 r))))))))))))))))))))))
theorem vX11_corner_44 : pu_cok2 kX11_corner_44 := fun rf r hr => by
  unfold kX11_corner_44
  exact v_ald (v_gr (v_gr (v_pi (v_ild (v_imul (v_cv hr (v_ist (v_ild (v_ild (v_iceq (vX11_corner_90 rf r hr) (v_ild (v_ild (v_cs hr (v_ifeq (vX11_corner_90 rf r hr) (v_ild (v_cs hr (v_ifeq (vX11_corner_90 rf r hr) (v_ild (v_cs hr (v_ifne (vX11_corner_93 rf r hr) ((vX11_corner_90 rf r hr))))))))))))))))))))))
theorem tX11_corner_44 {X : pu_X} {r : pu_R} (hX : pu_H X mdX11_corner) (hr : pu_P X.2.1 X.2.2.2.2.2.2.2.2.2.2.1 r) (hq : ∀ i pc, pu_lp i = some (93, pc) → pu_S X mdX11_corner pc (r i)) : pu_S X mdX11_corner 44 (kX11_corner_44 r) := by
  unfold kX11_corner_44
  exact z_ald_n hX dX11_corner_44 rfl (z_gr (c := 11) (j := 2) hX dX11_corner_45 rfl inlX11 wm1_20 ⟨rfl, by decide, rfl⟩ (z_gr (c := 5) (j := 4) hX dX11_corner_48 rfl inlX5 wm21_20 ⟨rfl, by decide, rfl⟩ (z_iconst hX dX11_corner_51 (by decide) (z_ild_n hX dX11_corner_52 rfl (z_imul hX dX11_corner_53 (z_cv (c := 2) hX hr dX11_corner_54 hjX2_streetOf mwX2_streetOf rfl wm32_22 ⟨wm24_7, wm24_8⟩ ⟨Nat.le_of_ble_eq_true rfl, Nat.le_of_ble_eq_true rfl⟩ (z_ist hX dX11_corner_57 (z_ild hX dX11_corner_59 (z_ild_n hX dX11_corner_61 rfl (z_iceq hX dX11_corner_62 (by decide) (tX11_corner_90 hX hr hq) (z_ild_n hX dX11_corner_65 rfl (z_ild hX dX11_corner_66 (z_cs hX hr dX11_corner_68 hjX11_isPlace mwX11_isPlace wm22_3 wm22_4 ⟨Nat.le_of_ble_eq_true rfl, Nat.le_of_ble_eq_true rfl⟩ (z_ifeq hX dX11_corner_71 (by decide) (tX11_corner_90 hX hr hq) (z_ild hX dX11_corner_74 (z_cs hX hr dX11_corner_76 hjX11_isWholeOrLeast mwX11_isWholeOrLeast wm22_9 wm22_10 ⟨Nat.le_of_ble_eq_true rfl, Nat.le_of_ble_eq_true rfl⟩ (z_ifeq hX dX11_corner_79 (by decide) (tX11_corner_90 hX hr hq) (z_ild hX dX11_corner_82 (z_cs hX hr dX11_corner_84 hjX11_isDay mwX11_isDay wm10_21 wm10_22 ⟨Nat.le_of_ble_eq_true rfl, Nat.le_of_ble_eq_true rfl⟩ (z_ifne hX dX11_corner_87 (by decide) (tX11_corner_93 hX hr hq) ((tX11_corner_90 hX hr hq))))))))))))))))))))))
def kX11_corner_42 (r : pu_R) : pu_K := s_push (.int (-1)) (s_iret)
theorem vX11_corner_42 : pu_cok2 kX11_corner_42 := fun rf r hr => by
  unfold kX11_corner_42
  exact v_pi (v_iret)
theorem tX11_corner_42 {X : pu_X} {r : pu_R} (hX : pu_H X mdX11_corner) (hr : pu_P X.2.1 X.2.2.2.2.2.2.2.2.2.2.1 r) (hq : ∀ i pc, pu_lp i = some (93, pc) → pu_S X mdX11_corner pc (r i)) : pu_S X mdX11_corner 42 (kX11_corner_42 r) := by
  unfold kX11_corner_42
  exact z_iconst hX dX11_corner_42 (by decide) (z_iret hX dX11_corner_43 rfl)
def kX11_corner_0 (r : pu_R) : pu_K := s_ald 0 (s_gr 11 2 (s_gr 5 3 (s_ild 2 (s_cv r 56 1 10 (s_ifeq (kX11_corner_42 r) (s_ald 0 (s_gr 11 2 (s_gr 5 4 (s_ild 1 (s_cv r 90 1 2 (s_ifeq (kX11_corner_42 r) (s_ald 0 (s_gr 11 2 (s_gr 5 4 (s_ild 1 (s_cv r 91 1 2 (s_ifeq (kX11_corner_44 r) ((kX11_corner_42 r)))))))))))))))))))
theorem vX11_corner_0 : pu_cok2 kX11_corner_0 := fun rf r hr => by
  unfold kX11_corner_0
  exact v_ald (v_gr (v_gr (v_ild (v_cv hr (v_ifeq (vX11_corner_42 rf r hr) (v_ald (v_gr (v_gr (v_ild (v_cv hr (v_ifeq (vX11_corner_42 rf r hr) (v_ald (v_gr (v_gr (v_ild (v_cv hr (v_ifeq (vX11_corner_44 rf r hr) ((vX11_corner_42 rf r hr)))))))))))))))))))
theorem tX11_corner_0 {X : pu_X} {r : pu_R} (hX : pu_H X mdX11_corner) (hr : pu_P X.2.1 X.2.2.2.2.2.2.2.2.2.2.1 r) (hq : ∀ i pc, pu_lp i = some (93, pc) → pu_S X mdX11_corner pc (r i)) : pu_S X mdX11_corner 0 (kX11_corner_0 r) := by
  unfold kX11_corner_0
  exact z_ald_n hX dX11_corner_0 rfl (z_gr (c := 11) (j := 2) hX dX11_corner_1 rfl inlX11 wm1_20 ⟨rfl, by decide, rfl⟩ (z_gr (c := 5) (j := 3) hX dX11_corner_4 rfl inlX5 wm11_22 ⟨rfl, by decide, rfl⟩ (z_ild_n hX dX11_corner_7 rfl (z_cv (c := 10) hX hr dX11_corner_8 hjX10_isStreet mwX10_isStreet rfl wm21_23 ⟨wm22_0, wm22_1⟩ ⟨Nat.le_of_ble_eq_true rfl, Nat.le_of_ble_eq_true rfl⟩ (z_ifeq hX dX11_corner_11 (by decide) (tX11_corner_42 hX hr hq) (z_ald_n hX dX11_corner_14 rfl (z_gr (c := 11) (j := 2) hX dX11_corner_15 rfl inlX11 wm1_20 ⟨rfl, by decide, rfl⟩ (z_gr (c := 5) (j := 4) hX dX11_corner_18 rfl inlX5 wm21_20 ⟨rfl, by decide, rfl⟩ (z_ild_n hX dX11_corner_21 rfl (z_cv (c := 2) hX hr dX11_corner_22 hjX2_isOpen mwX2_isOpen rfl wm32_14 ⟨wm32_15, wm32_16⟩ ⟨Nat.le_of_ble_eq_true rfl, Nat.le_of_ble_eq_true rfl⟩ (z_ifeq hX dX11_corner_25 (by decide) (tX11_corner_42 hX hr hq) (z_ald_n hX dX11_corner_28 rfl (z_gr (c := 11) (j := 2) hX dX11_corner_29 rfl inlX11 wm1_20 ⟨rfl, by decide, rfl⟩ (z_gr (c := 5) (j := 4) hX dX11_corner_32 rfl inlX5 wm21_20 ⟨rfl, by decide, rfl⟩ (z_ild_n hX dX11_corner_35 rfl (z_cv (c := 2) hX hr dX11_corner_36 hjX2_sortOf mwX2_sortOf rfl wm32_18 ⟨wm32_19, wm32_20⟩ ⟨Nat.le_of_ble_eq_true rfl, Nat.le_of_ble_eq_true rfl⟩ (z_ifeq hX dX11_corner_39 (by decide) (tX11_corner_44 hX hr hq) ((tX11_corner_42 hX hr hq)))))))))))))))))))
def kX11_isUnderSort_15 (r : pu_R) : pu_K := s_zret
theorem vX11_isUnderSort_15 : pu_cok2 kX11_isUnderSort_15 := fun rf r hr => by
  unfold kX11_isUnderSort_15
  exact v_zret
theorem tX11_isUnderSort_15 {X : pu_X} {r : pu_R} (hX : pu_H X mdX11_isUnderSort) (hr : pu_P X.2.1 X.2.2.2.2.2.2.2.2.2.2.1 r) (hq : ∀ i pc, pu_lp i = some (94, pc) → pu_S X mdX11_isUnderSort pc (r i)) : pu_S X mdX11_isUnderSort 15 (kX11_isUnderSort_15 r) := by
  unfold kX11_isUnderSort_15
  exact z_zret hX dX11_isUnderSort_15 rfl
def kX11_isUnderSort_14 (r : pu_R) : pu_K := s_push (.int (0)) ((kX11_isUnderSort_15 r))
theorem vX11_isUnderSort_14 : pu_cok2 kX11_isUnderSort_14 := fun rf r hr => by
  unfold kX11_isUnderSort_14
  exact v_pi ((vX11_isUnderSort_15 rf r hr))
theorem tX11_isUnderSort_14 {X : pu_X} {r : pu_R} (hX : pu_H X mdX11_isUnderSort) (hr : pu_P X.2.1 X.2.2.2.2.2.2.2.2.2.2.1 r) (hq : ∀ i pc, pu_lp i = some (94, pc) → pu_S X mdX11_isUnderSort pc (r i)) : pu_S X mdX11_isUnderSort 14 (kX11_isUnderSort_14 r) := by
  unfold kX11_isUnderSort_14
  exact z_iconst hX dX11_isUnderSort_14 (by decide) ((tX11_isUnderSort_15 hX hr hq))
def kX11_isUnderSort_0 (r : pu_R) : pu_K := s_ild 0 (s_push (.int (2)) (s_iclt (kX11_isUnderSort_14 r) (s_ild 0 (s_push (.int (4)) (s_icgt (kX11_isUnderSort_14 r) (s_push (.int (1)) ((kX11_isUnderSort_15 r))))))))
theorem vX11_isUnderSort_0 : pu_cok2 kX11_isUnderSort_0 := fun rf r hr => by
  unfold kX11_isUnderSort_0
  exact v_ild (v_pi (v_iclt (vX11_isUnderSort_14 rf r hr) (v_ild (v_pi (v_icgt (vX11_isUnderSort_14 rf r hr) (v_pi ((vX11_isUnderSort_15 rf r hr))))))))
theorem tX11_isUnderSort_0 {X : pu_X} {r : pu_R} (hX : pu_H X mdX11_isUnderSort) (hr : pu_P X.2.1 X.2.2.2.2.2.2.2.2.2.2.1 r) (hq : ∀ i pc, pu_lp i = some (94, pc) → pu_S X mdX11_isUnderSort pc (r i)) : pu_S X mdX11_isUnderSort 0 (kX11_isUnderSort_0 r) := by
  unfold kX11_isUnderSort_0
  exact z_ild_n hX dX11_isUnderSort_0 rfl (z_iconst hX dX11_isUnderSort_1 (by decide) (z_iclt hX dX11_isUnderSort_2 (by decide) (tX11_isUnderSort_14 hX hr hq) (z_ild_n hX dX11_isUnderSort_5 rfl (z_iconst hX dX11_isUnderSort_6 (by decide) (z_icgt hX dX11_isUnderSort_7 (by decide) (tX11_isUnderSort_14 hX hr hq) (z_iconst hX dX11_isUnderSort_10 (by decide) ((z_goto hX dX11_isUnderSort_11 (by decide) (tX11_isUnderSort_15 hX hr hq)))))))))
def kX11_canHaveUnder_44 (r : pu_R) : pu_K := s_zret
theorem vX11_canHaveUnder_44 : pu_cok2 kX11_canHaveUnder_44 := fun rf r hr => by
  unfold kX11_canHaveUnder_44
  exact v_zret
theorem tX11_canHaveUnder_44 {X : pu_X} {r : pu_R} (hX : pu_H X mdX11_canHaveUnder) (hr : pu_P X.2.1 X.2.2.2.2.2.2.2.2.2.2.1 r) (hq : ∀ i pc, pu_lp i = some (95, pc) → pu_S X mdX11_canHaveUnder pc (r i)) : pu_S X mdX11_canHaveUnder 44 (kX11_canHaveUnder_44 r) := by
  unfold kX11_canHaveUnder_44
  exact z_zret hX dX11_canHaveUnder_44 rfl
def kX11_canHaveUnder_43 (r : pu_R) : pu_K := s_push (.int (0)) ((kX11_canHaveUnder_44 r))
theorem vX11_canHaveUnder_43 : pu_cok2 kX11_canHaveUnder_43 := fun rf r hr => by
  unfold kX11_canHaveUnder_43
  exact v_pi ((vX11_canHaveUnder_44 rf r hr))
theorem tX11_canHaveUnder_43 {X : pu_X} {r : pu_R} (hX : pu_H X mdX11_canHaveUnder) (hr : pu_P X.2.1 X.2.2.2.2.2.2.2.2.2.2.1 r) (hq : ∀ i pc, pu_lp i = some (95, pc) → pu_S X mdX11_canHaveUnder pc (r i)) : pu_S X mdX11_canHaveUnder 43 (kX11_canHaveUnder_43 r) := by
  unfold kX11_canHaveUnder_43
  exact z_iconst hX dX11_canHaveUnder_43 (by decide) ((tX11_canHaveUnder_44 hX hr hq))
def kX11_canHaveUnder_39 (r : pu_R) : pu_K := s_push (.int (1)) ((kX11_canHaveUnder_44 r))
theorem vX11_canHaveUnder_39 : pu_cok2 kX11_canHaveUnder_39 := fun rf r hr => by
  unfold kX11_canHaveUnder_39
  exact v_pi ((vX11_canHaveUnder_44 rf r hr))
theorem tX11_canHaveUnder_39 {X : pu_X} {r : pu_R} (hX : pu_H X mdX11_canHaveUnder) (hr : pu_P X.2.1 X.2.2.2.2.2.2.2.2.2.2.1 r) (hq : ∀ i pc, pu_lp i = some (95, pc) → pu_S X mdX11_canHaveUnder pc (r i)) : pu_S X mdX11_canHaveUnder 39 (kX11_canHaveUnder_39 r) := by
  unfold kX11_canHaveUnder_39
  exact z_iconst hX dX11_canHaveUnder_39 (by decide) ((z_goto hX dX11_canHaveUnder_40 (by decide) (tX11_canHaveUnder_44 hX hr hq)))
def kX11_canHaveUnder_30 (r : pu_R) : pu_K := s_ild 3 (s_ifeq (kX11_canHaveUnder_39 r) (s_ild 3 (s_push (.int (1)) (s_icne (kX11_canHaveUnder_43 r) ((kX11_canHaveUnder_39 r))))))
theorem vX11_canHaveUnder_30 : pu_cok2 kX11_canHaveUnder_30 := fun rf r hr => by
  unfold kX11_canHaveUnder_30
  exact v_ild (v_ifeq (vX11_canHaveUnder_39 rf r hr) (v_ild (v_pi (v_icne (vX11_canHaveUnder_43 rf r hr) ((vX11_canHaveUnder_39 rf r hr))))))
theorem tX11_canHaveUnder_30 {X : pu_X} {r : pu_R} (hX : pu_H X mdX11_canHaveUnder) (hr : pu_P X.2.1 X.2.2.2.2.2.2.2.2.2.2.1 r) (hq : ∀ i pc, pu_lp i = some (95, pc) → pu_S X mdX11_canHaveUnder pc (r i)) : pu_S X mdX11_canHaveUnder 30 (kX11_canHaveUnder_30 r) := by
  unfold kX11_canHaveUnder_30
  exact z_ild_n hX dX11_canHaveUnder_30 rfl (z_ifeq hX dX11_canHaveUnder_31 (by decide) (tX11_canHaveUnder_39 hX hr hq) (z_ild_n hX dX11_canHaveUnder_34 rfl (z_iconst hX dX11_canHaveUnder_35 (by decide) (z_icne hX dX11_canHaveUnder_36 (by decide) (tX11_canHaveUnder_43 hX hr hq) ((tX11_canHaveUnder_39 hX hr hq))))))
def kX11_canHaveUnder_26 (r : pu_R) : pu_K := s_push (.int (0)) ((kX11_canHaveUnder_44 r))
theorem vX11_canHaveUnder_26 : pu_cok2 kX11_canHaveUnder_26 := fun rf r hr => by
  unfold kX11_canHaveUnder_26
  exact v_pi ((vX11_canHaveUnder_44 rf r hr))
theorem tX11_canHaveUnder_26 {X : pu_X} {r : pu_R} (hX : pu_H X mdX11_canHaveUnder) (hr : pu_P X.2.1 X.2.2.2.2.2.2.2.2.2.2.1 r) (hq : ∀ i pc, pu_lp i = some (95, pc) → pu_S X mdX11_canHaveUnder pc (r i)) : pu_S X mdX11_canHaveUnder 26 (kX11_canHaveUnder_26 r) := by
  unfold kX11_canHaveUnder_26
  exact z_iconst hX dX11_canHaveUnder_26 (by decide) ((z_goto hX dX11_canHaveUnder_27 (by decide) (tX11_canHaveUnder_44 hX hr hq)))
def kX11_canHaveUnder_0 (r : pu_R) : pu_K := s_ald 0 (s_gr 11 2 (s_gr 5 4 (s_ild 1 (s_cv r 91 1 2 (s_ist 3 (s_ild 2 (s_push (.int (3)) (s_icne (kX11_canHaveUnder_30 r) (s_ild 3 (s_push (.int (2)) (s_icne (kX11_canHaveUnder_26 r) (s_push (.int (1)) ((kX11_canHaveUnder_44 r))))))))))))))
theorem vX11_canHaveUnder_0 : pu_cok2 kX11_canHaveUnder_0 := fun rf r hr => by
  unfold kX11_canHaveUnder_0
  exact v_ald (v_gr (v_gr (v_ild (v_cv hr (v_ist (v_ild (v_pi (v_icne (vX11_canHaveUnder_30 rf r hr) (v_ild (v_pi (v_icne (vX11_canHaveUnder_26 rf r hr) (v_pi ((vX11_canHaveUnder_44 rf r hr))))))))))))))
theorem tX11_canHaveUnder_0 {X : pu_X} {r : pu_R} (hX : pu_H X mdX11_canHaveUnder) (hr : pu_P X.2.1 X.2.2.2.2.2.2.2.2.2.2.1 r) (hq : ∀ i pc, pu_lp i = some (95, pc) → pu_S X mdX11_canHaveUnder pc (r i)) : pu_S X mdX11_canHaveUnder 0 (kX11_canHaveUnder_0 r) := by
  unfold kX11_canHaveUnder_0
  exact z_ald_n hX dX11_canHaveUnder_0 rfl (z_gr (c := 11) (j := 2) hX dX11_canHaveUnder_1 rfl inlX11 wm1_20 ⟨rfl, by decide, rfl⟩ (z_gr (c := 5) (j := 4) hX dX11_canHaveUnder_4 rfl inlX5 wm21_20 ⟨rfl, by decide, rfl⟩ (z_ild_n hX dX11_canHaveUnder_7 rfl (z_cv (c := 2) hX hr dX11_canHaveUnder_8 hjX2_sortOf mwX2_sortOf rfl wm32_18 ⟨wm32_19, wm32_20⟩ ⟨Nat.le_of_ble_eq_true rfl, Nat.le_of_ble_eq_true rfl⟩ (z_ist_n hX dX11_canHaveUnder_11 rfl (z_ild_n hX dX11_canHaveUnder_12 rfl (z_iconst hX dX11_canHaveUnder_13 (by decide) (z_icne hX dX11_canHaveUnder_14 (by decide) (tX11_canHaveUnder_30 hX hr hq) (z_ild_n hX dX11_canHaveUnder_17 rfl (z_iconst hX dX11_canHaveUnder_18 (by decide) (z_icne hX dX11_canHaveUnder_19 (by decide) (tX11_canHaveUnder_26 hX hr hq) (z_iconst hX dX11_canHaveUnder_22 (by decide) ((z_goto hX dX11_canHaveUnder_23 (by decide) (tX11_canHaveUnder_44 hX hr hq)))))))))))))))
def kX11_isUnderNumber_33 (r : pu_R) : pu_K := s_zret
theorem vX11_isUnderNumber_33 : pu_cok2 kX11_isUnderNumber_33 := fun rf r hr => by
  unfold kX11_isUnderNumber_33
  exact v_zret
theorem tX11_isUnderNumber_33 {X : pu_X} {r : pu_R} (hX : pu_H X mdX11_isUnderNumber) (hr : pu_P X.2.1 X.2.2.2.2.2.2.2.2.2.2.1 r) (hq : ∀ i pc, pu_lp i = some (96, pc) → pu_S X mdX11_isUnderNumber pc (r i)) : pu_S X mdX11_isUnderNumber 33 (kX11_isUnderNumber_33 r) := by
  unfold kX11_isUnderNumber_33
  exact z_zret hX dX11_isUnderNumber_33 rfl
def kX11_isUnderNumber_32 (r : pu_R) : pu_K := s_push (.int (0)) ((kX11_isUnderNumber_33 r))
theorem vX11_isUnderNumber_32 : pu_cok2 kX11_isUnderNumber_32 := fun rf r hr => by
  unfold kX11_isUnderNumber_32
  exact v_pi ((vX11_isUnderNumber_33 rf r hr))
theorem tX11_isUnderNumber_32 {X : pu_X} {r : pu_R} (hX : pu_H X mdX11_isUnderNumber) (hr : pu_P X.2.1 X.2.2.2.2.2.2.2.2.2.2.1 r) (hq : ∀ i pc, pu_lp i = some (96, pc) → pu_S X mdX11_isUnderNumber pc (r i)) : pu_S X mdX11_isUnderNumber 32 (kX11_isUnderNumber_32 r) := by
  unfold kX11_isUnderNumber_32
  exact z_iconst hX dX11_isUnderNumber_32 (by decide) ((tX11_isUnderNumber_33 hX hr hq))
def kX11_isUnderNumber_17 (r : pu_R) : pu_K := s_ild 1 (s_push (.int (1)) (s_iclt (kX11_isUnderNumber_32 r) (s_ild 1 (s_push (.int (99)) (s_icgt (kX11_isUnderNumber_32 r) (s_push (.int (1)) ((kX11_isUnderNumber_33 r))))))))
theorem vX11_isUnderNumber_17 : pu_cok2 kX11_isUnderNumber_17 := fun rf r hr => by
  unfold kX11_isUnderNumber_17
  exact v_ild (v_pi (v_iclt (vX11_isUnderNumber_32 rf r hr) (v_ild (v_pi (v_icgt (vX11_isUnderNumber_32 rf r hr) (v_pi ((vX11_isUnderNumber_33 rf r hr))))))))
theorem tX11_isUnderNumber_17 {X : pu_X} {r : pu_R} (hX : pu_H X mdX11_isUnderNumber) (hr : pu_P X.2.1 X.2.2.2.2.2.2.2.2.2.2.1 r) (hq : ∀ i pc, pu_lp i = some (96, pc) → pu_S X mdX11_isUnderNumber pc (r i)) : pu_S X mdX11_isUnderNumber 17 (kX11_isUnderNumber_17 r) := by
  unfold kX11_isUnderNumber_17
  exact z_ild_n hX dX11_isUnderNumber_17 rfl (z_iconst hX dX11_isUnderNumber_18 (by decide) (z_iclt hX dX11_isUnderNumber_19 (by decide) (tX11_isUnderNumber_32 hX hr hq) (z_ild_n hX dX11_isUnderNumber_22 rfl (z_bipush hX dX11_isUnderNumber_23 (by decide) (z_icgt hX dX11_isUnderNumber_25 (by decide) (tX11_isUnderNumber_32 hX hr hq) (z_iconst hX dX11_isUnderNumber_28 (by decide) ((z_goto hX dX11_isUnderNumber_29 (by decide) (tX11_isUnderNumber_33 hX hr hq)))))))))
def kX11_isUnderNumber_13 (r : pu_R) : pu_K := s_push (.int (0)) ((kX11_isUnderNumber_33 r))
theorem vX11_isUnderNumber_13 : pu_cok2 kX11_isUnderNumber_13 := fun rf r hr => by
  unfold kX11_isUnderNumber_13
  exact v_pi ((vX11_isUnderNumber_33 rf r hr))
theorem tX11_isUnderNumber_13 {X : pu_X} {r : pu_R} (hX : pu_H X mdX11_isUnderNumber) (hr : pu_P X.2.1 X.2.2.2.2.2.2.2.2.2.2.1 r) (hq : ∀ i pc, pu_lp i = some (96, pc) → pu_S X mdX11_isUnderNumber pc (r i)) : pu_S X mdX11_isUnderNumber 13 (kX11_isUnderNumber_13 r) := by
  unfold kX11_isUnderNumber_13
  exact z_iconst hX dX11_isUnderNumber_13 (by decide) ((z_goto hX dX11_isUnderNumber_14 (by decide) (tX11_isUnderNumber_33 hX hr hq)))
def kX11_isUnderNumber_0 (r : pu_R) : pu_K := s_ild 0 (s_push (.int (2)) (s_icne (kX11_isUnderNumber_17 r) (s_ild 1 (s_ifne (kX11_isUnderNumber_13 r) (s_push (.int (1)) ((kX11_isUnderNumber_33 r)))))))
theorem vX11_isUnderNumber_0 : pu_cok2 kX11_isUnderNumber_0 := fun rf r hr => by
  unfold kX11_isUnderNumber_0
  exact v_ild (v_pi (v_icne (vX11_isUnderNumber_17 rf r hr) (v_ild (v_ifne (vX11_isUnderNumber_13 rf r hr) (v_pi ((vX11_isUnderNumber_33 rf r hr)))))))
theorem tX11_isUnderNumber_0 {X : pu_X} {r : pu_R} (hX : pu_H X mdX11_isUnderNumber) (hr : pu_P X.2.1 X.2.2.2.2.2.2.2.2.2.2.1 r) (hq : ∀ i pc, pu_lp i = some (96, pc) → pu_S X mdX11_isUnderNumber pc (r i)) : pu_S X mdX11_isUnderNumber 0 (kX11_isUnderNumber_0 r) := by
  unfold kX11_isUnderNumber_0
  exact z_ild_n hX dX11_isUnderNumber_0 rfl (z_iconst hX dX11_isUnderNumber_1 (by decide) (z_icne hX dX11_isUnderNumber_2 (by decide) (tX11_isUnderNumber_17 hX hr hq) (z_ild_n hX dX11_isUnderNumber_5 rfl (z_ifne hX dX11_isUnderNumber_6 (by decide) (tX11_isUnderNumber_13 hX hr hq) (z_iconst hX dX11_isUnderNumber_9 (by decide) ((z_goto hX dX11_isUnderNumber_10 (by decide) (tX11_isUnderNumber_33 hX hr hq))))))))
