def kX12_feed_138 (r : pu_R) : pu_K := s_ald 0 (s_dup (s_gi 12 4 (s_push (.int (20)) (s_iadd (s_pi 12 4 (s_ald 0 (s_gi 12 4 (s_iret))))))))
theorem vX12_feed_138 : pu_cok2 kX12_feed_138 := fun rf r hr => by
  unfold kX12_feed_138
  exact v_ald (v_dup (v_gi (v_pi (v_iadd (v_puti (v_ald (v_gi (v_iret))))))))
theorem tX12_feed_138 {X : pu_X} {r : pu_R} (hX : pu_H X mdX12_feed) (hr : pu_P X.2.1 X.2.2.2.2.2.2.2.2.2.2.1 r) (hq : ∀ i pc, pu_lp i = some (229, pc) → pu_S X mdX12_feed pc (r i)) : pu_S X mdX12_feed 138 (kX12_feed_138 r) := by
  unfold kX12_feed_138
  exact z_ald_n hX dX12_feed_138 rfl (z_dup hX dX12_feed_139 (z_gi (c := 12) (j := 4) hX dX12_feed_140 rfl inlX12 wm7_23 ⟨rfl, by decide, rfl⟩ (z_bipush hX dX12_feed_143 (by decide) (z_iadd hX dX12_feed_145 (z_pi (c := 12) (j := 4) tyX12 tyX12_ok nmX12 hX dX12_feed_146 rfl inlX12 wm7_23 ⟨rfl, by decide⟩ ⟨rfl, rfl⟩ rfl (z_ald_n hX dX12_feed_149 rfl (z_gi (c := 12) (j := 4) hX dX12_feed_150 rfl inlX12 wm7_23 ⟨rfl, by decide, rfl⟩ (z_iret hX dX12_feed_153 rfl))))))))
def kX12_feed_132 (r : pu_R) : pu_K := s_inc 6 (1) ((r 430))
theorem vX12_feed_132 : pu_cok2 kX12_feed_132 := fun rf r hr => by
  unfold kX12_feed_132
  exact v_inc ((hr 430))
theorem tX12_feed_132 {X : pu_X} {r : pu_R} (hX : pu_H X mdX12_feed) (hr : pu_P X.2.1 X.2.2.2.2.2.2.2.2.2.2.1 r) (hq : ∀ i pc, pu_lp i = some (229, pc) → pu_S X mdX12_feed pc (r i)) : pu_S X mdX12_feed 132 (kX12_feed_132 r) := by
  unfold kX12_feed_132
  exact z_inc hX dX12_feed_132 (by decide) ((z_goto hX dX12_feed_135 (by decide) (hq 430 18 hl430)))
def kX12_feed_94 (r : pu_R) : pu_K := s_ald 0 (s_gi 12 4 (s_push (.int (12)) (s_iadd (s_ild 6 (s_iadd (s_ild 4 (s_ild 7 (s_ishr (s_i2b (s_wb (s_ald 0 (s_gr 12 3 (s_ald 0 (s_gi 12 4 (s_push (.int (16)) (s_iadd (s_ild 6 (s_iadd (s_ild 5 (s_ild 7 (s_ishr (s_i2b (s_wb ((kX12_feed_132 r)))))))))))))))))))))))))
theorem vX12_feed_94 : pu_cok2 kX12_feed_94 := fun rf r hr => by
  unfold kX12_feed_94
  exact v_ald (v_gi (v_pi (v_iadd (v_ild (v_iadd (v_ild (v_ild (v_ishr (v_i2b (v_wb (v_ald (v_gr (v_ald (v_gi (v_pi (v_iadd (v_ild (v_iadd (v_ild (v_ild (v_ishr (v_i2b (v_wb ((vX12_feed_132 rf r hr)))))))))))))))))))))))))
theorem tX12_feed_94 {X : pu_X} {r : pu_R} (hX : pu_H X mdX12_feed) (hr : pu_P X.2.1 X.2.2.2.2.2.2.2.2.2.2.1 r) (hq : ∀ i pc, pu_lp i = some (229, pc) → pu_S X mdX12_feed pc (r i)) : pu_S X mdX12_feed 94 (kX12_feed_94 r) := by
  unfold kX12_feed_94
  exact z_ald_n hX dX12_feed_94 rfl (z_gi (c := 12) (j := 4) hX dX12_feed_95 rfl inlX12 wm7_23 ⟨rfl, by decide, rfl⟩ (z_bipush hX dX12_feed_98 (by decide) (z_iadd hX dX12_feed_100 (z_ild hX dX12_feed_101 (z_iadd hX dX12_feed_103 (z_ild hX dX12_feed_104 (z_ild hX dX12_feed_106 (z_ishr hX dX12_feed_108 (z_i2b hX dX12_feed_109 (z_bast hX dX12_feed_110 (z_ald_n hX dX12_feed_111 rfl (z_gr (c := 12) (j := 3) hX dX12_feed_112 rfl inlX12 wm7_22 ⟨rfl, by decide, rfl⟩ (z_ald_n hX dX12_feed_115 rfl (z_gi (c := 12) (j := 4) hX dX12_feed_116 rfl inlX12 wm7_23 ⟨rfl, by decide, rfl⟩ (z_bipush hX dX12_feed_119 (by decide) (z_iadd hX dX12_feed_121 (z_ild hX dX12_feed_122 (z_iadd hX dX12_feed_124 (z_ild hX dX12_feed_125 (z_ild hX dX12_feed_127 (z_ishr hX dX12_feed_129 (z_i2b hX dX12_feed_130 (z_bast hX dX12_feed_131 ((tX12_feed_132 hX hr hq)))))))))))))))))))))))))
def kX12_feed_59 (r : pu_R) : pu_K := s_push (.int (4)) (s_iadd (s_ild 6 (s_iadd (s_ild 2 (s_ild 7 (s_ishr (s_i2b (s_wb (s_ald 0 (s_gr 12 3 (s_ald 0 (s_gi 12 4 (s_push (.int (8)) (s_iadd (s_ild 6 (s_iadd (s_ild 3 (s_ild 7 (s_ishr (s_i2b (s_wb (s_ald 0 (s_gr 12 3 ((kX12_feed_94 r)))))))))))))))))))))))))
theorem vX12_feed_59 : pu_cok2 kX12_feed_59 := fun rf r hr => by
  unfold kX12_feed_59
  exact v_pi (v_iadd (v_ild (v_iadd (v_ild (v_ild (v_ishr (v_i2b (v_wb (v_ald (v_gr (v_ald (v_gi (v_pi (v_iadd (v_ild (v_iadd (v_ild (v_ild (v_ishr (v_i2b (v_wb (v_ald (v_gr ((vX12_feed_94 rf r hr)))))))))))))))))))))))))
theorem tX12_feed_59 {X : pu_X} {r : pu_R} (hX : pu_H X mdX12_feed) (hr : pu_P X.2.1 X.2.2.2.2.2.2.2.2.2.2.1 r) (hq : ∀ i pc, pu_lp i = some (229, pc) → pu_S X mdX12_feed pc (r i)) : pu_S X mdX12_feed 59 (kX12_feed_59 r) := by
  unfold kX12_feed_59
  exact z_iconst hX dX12_feed_59 (by decide) (z_iadd hX dX12_feed_60 (z_ild hX dX12_feed_61 (z_iadd hX dX12_feed_63 (z_ild_n hX dX12_feed_64 rfl (z_ild hX dX12_feed_65 (z_ishr hX dX12_feed_67 (z_i2b hX dX12_feed_68 (z_bast hX dX12_feed_69 (z_ald_n hX dX12_feed_70 rfl (z_gr (c := 12) (j := 3) hX dX12_feed_71 rfl inlX12 wm7_22 ⟨rfl, by decide, rfl⟩ (z_ald_n hX dX12_feed_74 rfl (z_gi (c := 12) (j := 4) hX dX12_feed_75 rfl inlX12 wm7_23 ⟨rfl, by decide, rfl⟩ (z_bipush hX dX12_feed_78 (by decide) (z_iadd hX dX12_feed_80 (z_ild hX dX12_feed_81 (z_iadd hX dX12_feed_83 (z_ild_n hX dX12_feed_84 rfl (z_ild hX dX12_feed_85 (z_ishr hX dX12_feed_87 (z_i2b hX dX12_feed_88 (z_bast hX dX12_feed_89 (z_ald_n hX dX12_feed_90 rfl (z_gr (c := 12) (j := 3) hX dX12_feed_91 rfl inlX12 wm7_22 ⟨rfl, by decide, rfl⟩ ((tX12_feed_94 hX hr hq)))))))))))))))))))))))))
def kX12_feed_18 (r : pu_R) : pu_K := s_ild 6 (s_push (.int (4)) (s_icge (kX12_feed_138 r) (s_push (.int (24)) (s_push (.int (8)) (s_ild 6 (s_imul (s_isub (s_ist 7 (s_ald 0 (s_gr 12 3 (s_ald 0 (s_gi 12 4 (s_ild 6 (s_iadd (s_ild 1 (s_ild 7 (s_ishr (s_i2b (s_wb (s_ald 0 (s_gr 12 3 (s_ald 0 (s_gi 12 4 ((kX12_feed_59 r)))))))))))))))))))))))))
theorem vX12_feed_18 : pu_cok2 kX12_feed_18 := fun rf r hr => by
  unfold kX12_feed_18
  exact v_ild (v_pi (v_icge (vX12_feed_138 rf r hr) (v_pi (v_pi (v_ild (v_imul (v_isub (v_ist (v_ald (v_gr (v_ald (v_gi (v_ild (v_iadd (v_ild (v_ild (v_ishr (v_i2b (v_wb (v_ald (v_gr (v_ald (v_gi ((vX12_feed_59 rf r hr)))))))))))))))))))))))))
theorem tX12_feed_18 {X : pu_X} {r : pu_R} (hX : pu_H X mdX12_feed) (hr : pu_P X.2.1 X.2.2.2.2.2.2.2.2.2.2.1 r) (hq : ∀ i pc, pu_lp i = some (229, pc) → pu_S X mdX12_feed pc (r i)) : pu_S X mdX12_feed 18 (kX12_feed_18 r) := by
  unfold kX12_feed_18
  exact z_ild hX dX12_feed_18 (z_iconst hX dX12_feed_20 (by decide) (z_icge hX dX12_feed_21 (by decide) (tX12_feed_138 hX hr hq) (z_bipush hX dX12_feed_24 (by decide) (z_bipush hX dX12_feed_26 (by decide) (z_ild hX dX12_feed_28 (z_imul hX dX12_feed_30 (z_isub hX dX12_feed_31 (z_ist hX dX12_feed_32 (z_ald_n hX dX12_feed_34 rfl (z_gr (c := 12) (j := 3) hX dX12_feed_35 rfl inlX12 wm7_22 ⟨rfl, by decide, rfl⟩ (z_ald_n hX dX12_feed_38 rfl (z_gi (c := 12) (j := 4) hX dX12_feed_39 rfl inlX12 wm7_23 ⟨rfl, by decide, rfl⟩ (z_ild hX dX12_feed_42 (z_iadd hX dX12_feed_44 (z_ild_n hX dX12_feed_45 rfl (z_ild hX dX12_feed_46 (z_ishr hX dX12_feed_48 (z_i2b hX dX12_feed_49 (z_bast hX dX12_feed_50 (z_ald_n hX dX12_feed_51 rfl (z_gr (c := 12) (j := 3) hX dX12_feed_52 rfl inlX12 wm7_22 ⟨rfl, by decide, rfl⟩ (z_ald_n hX dX12_feed_55 rfl (z_gi (c := 12) (j := 4) hX dX12_feed_56 rfl inlX12 wm7_23 ⟨rfl, by decide, rfl⟩ ((tX12_feed_59 hX hr hq)))))))))))))))))))))))))
def kX12_feed_15 (r : pu_R) : pu_K := s_push (.int (0)) (s_ist 6 ((r 430)))
theorem vX12_feed_15 : pu_cok2 kX12_feed_15 := fun rf r hr => by
  unfold kX12_feed_15
  exact v_pi (v_ist ((hr 430)))
theorem tX12_feed_15 {X : pu_X} {r : pu_R} (hX : pu_H X mdX12_feed) (hr : pu_P X.2.1 X.2.2.2.2.2.2.2.2.2.2.1 r) (hq : ∀ i pc, pu_lp i = some (229, pc) → pu_S X mdX12_feed pc (r i)) : pu_S X mdX12_feed 15 (kX12_feed_15 r) := by
  unfold kX12_feed_15
  exact z_iconst hX dX12_feed_15 (by decide) (z_ist hX dX12_feed_16 ((hq 430 18 hl430)))
def kX12_feed_0 (r : pu_R) : pu_K := s_ald 0 (s_gi 12 4 (s_push (.int (20)) (s_iadd (s_push (.int (1200)) (s_icle (kX12_feed_15 r) (s_push (.int (-1)) (s_iret)))))))
theorem vX12_feed_0 : pu_cok2 kX12_feed_0 := fun rf r hr => by
  unfold kX12_feed_0
  exact v_ald (v_gi (v_pi (v_iadd (v_pi (v_icle (vX12_feed_15 rf r hr) (v_pi (v_iret)))))))
theorem tX12_feed_0 {X : pu_X} {r : pu_R} (hX : pu_H X mdX12_feed) (hr : pu_P X.2.1 X.2.2.2.2.2.2.2.2.2.2.1 r) (hq : ∀ i pc, pu_lp i = some (229, pc) → pu_S X mdX12_feed pc (r i)) : pu_S X mdX12_feed 0 (kX12_feed_0 r) := by
  unfold kX12_feed_0
  exact z_ald_n hX dX12_feed_0 rfl (z_gi (c := 12) (j := 4) hX dX12_feed_1 rfl inlX12 wm7_23 ⟨rfl, by decide, rfl⟩ (z_bipush hX dX12_feed_4 (by decide) (z_iadd hX dX12_feed_6 (z_sipush hX dX12_feed_7 (by decide) (z_icle hX dX12_feed_10 (by decide) (tX12_feed_15 hX hr hq) (z_iconst hX dX12_feed_13 (by decide) (z_iret hX dX12_feed_14 rfl)))))))
def kX12_end_14 (r : pu_R) : pu_K := s_ald 0 (s_ild 1 (s_pi 12 4 (s_push (.int (1)) (s_zret))))
theorem vX12_end_14 : pu_cok2 kX12_end_14 := fun rf r hr => by
  unfold kX12_end_14
  exact v_ald (v_ild (v_puti (v_pi (v_zret))))
theorem tX12_end_14 {X : pu_X} {r : pu_R} (hX : pu_H X mdX12_end) (hr : pu_P X.2.1 X.2.2.2.2.2.2.2.2.2.2.1 r) (hq : ∀ i pc, pu_lp i = some (230, pc) → pu_S X mdX12_end pc (r i)) : pu_S X mdX12_end 14 (kX12_end_14 r) := by
  unfold kX12_end_14
  exact z_ald_n hX dX12_end_14 rfl (z_ild_n hX dX12_end_15 rfl (z_pi (c := 12) (j := 4) tyX12 tyX12_ok nmX12 hX dX12_end_16 rfl inlX12 wm7_23 ⟨rfl, by decide⟩ ⟨rfl, rfl⟩ rfl (z_iconst hX dX12_end_19 (by decide) (z_zret hX dX12_end_20 rfl))))
def kX12_end_12 (r : pu_R) : pu_K := s_push (.int (0)) (s_zret)
theorem vX12_end_12 : pu_cok2 kX12_end_12 := fun rf r hr => by
  unfold kX12_end_12
  exact v_pi (v_zret)
theorem tX12_end_12 {X : pu_X} {r : pu_R} (hX : pu_H X mdX12_end) (hr : pu_P X.2.1 X.2.2.2.2.2.2.2.2.2.2.1 r) (hq : ∀ i pc, pu_lp i = some (230, pc) → pu_S X mdX12_end pc (r i)) : pu_S X mdX12_end 12 (kX12_end_12 r) := by
  unfold kX12_end_12
  exact z_iconst hX dX12_end_12 (by decide) (z_zret hX dX12_end_13 rfl)
def kX12_end_0 (r : pu_R) : pu_K := s_ild 1 (s_iflt (kX12_end_12 r) (s_ild 1 (s_ald 0 (s_gi 12 4 (s_icle (kX12_end_14 r) ((kX12_end_12 r)))))))
theorem vX12_end_0 : pu_cok2 kX12_end_0 := fun rf r hr => by
  unfold kX12_end_0
  exact v_ild (v_iflt (vX12_end_12 rf r hr) (v_ild (v_ald (v_gi (v_icle (vX12_end_14 rf r hr) ((vX12_end_12 rf r hr)))))))
theorem tX12_end_0 {X : pu_X} {r : pu_R} (hX : pu_H X mdX12_end) (hr : pu_P X.2.1 X.2.2.2.2.2.2.2.2.2.2.1 r) (hq : ∀ i pc, pu_lp i = some (230, pc) → pu_S X mdX12_end pc (r i)) : pu_S X mdX12_end 0 (kX12_end_0 r) := by
  unfold kX12_end_0
  exact z_ild_n hX dX12_end_0 rfl (z_iflt hX dX12_end_1 (by decide) (tX12_end_12 hX hr hq) (z_ild_n hX dX12_end_4 rfl (z_ald_n hX dX12_end_5 rfl (z_gi (c := 12) (j := 4) hX dX12_end_6 rfl inlX12 wm7_23 ⟨rfl, by decide, rfl⟩ (z_icle hX dX12_end_9 (by decide) (tX12_end_14 hX hr hq) ((tX12_end_12 hX hr hq)))))))
def kX12_take_36 (r : pu_R) : pu_K := s_ald 0 (s_gi 12 4 (s_iret))
theorem vX12_take_36 : pu_cok2 kX12_take_36 := fun rf r hr => by
  unfold kX12_take_36
  exact v_ald (v_gi (v_iret))
theorem tX12_take_36 {X : pu_X} {r : pu_R} (hX : pu_H X mdX12_take) (hr : pu_P X.2.1 X.2.2.2.2.2.2.2.2.2.2.1 r) (hq : ∀ i pc, pu_lp i = some (231, pc) → pu_S X mdX12_take pc (r i)) : pu_S X mdX12_take 36 (kX12_take_36 r) := by
  unfold kX12_take_36
  exact z_ald_n hX dX12_take_36 rfl (z_gi (c := 12) (j := 4) hX dX12_take_37 rfl inlX12 wm7_23 ⟨rfl, by decide, rfl⟩ (z_iret hX dX12_take_40 rfl))
def kX12_take_10 (r : pu_R) : pu_K := s_ild 1 (s_ald 0 (s_gi 12 4 (s_icge (kX12_take_36 r) (s_ald 0 (s_gr 12 3 (s_ild 1 (s_ald 0 (s_gr 12 7 (s_ild 1 (s_ai 2 (s_wb (s_inc 1 (1) ((r 431))))))))))))))
theorem vX12_take_10 : pu_cok2 kX12_take_10 := fun rf r hr => by
  unfold kX12_take_10
  exact v_ild (v_ald (v_gi (v_icge (vX12_take_36 rf r hr) (v_ald (v_gr (v_ild (v_ald (v_gr (v_ild (v_ai (v_wb (v_inc ((hr 431))))))))))))))
theorem tX12_take_10 {X : pu_X} {r : pu_R} (hX : pu_H X mdX12_take) (hr : pu_P X.2.1 X.2.2.2.2.2.2.2.2.2.2.1 r) (hq : ∀ i pc, pu_lp i = some (231, pc) → pu_S X mdX12_take pc (r i)) : pu_S X mdX12_take 10 (kX12_take_10 r) := by
  unfold kX12_take_10
  exact z_ild_n hX dX12_take_10 rfl (z_ald_n hX dX12_take_11 rfl (z_gi (c := 12) (j := 4) hX dX12_take_12 rfl inlX12 wm7_23 ⟨rfl, by decide, rfl⟩ (z_icge hX dX12_take_15 (by decide) (tX12_take_36 hX hr hq) (z_ald_n hX dX12_take_18 rfl (z_gr (c := 12) (j := 3) hX dX12_take_19 rfl inlX12 wm7_22 ⟨rfl, by decide, rfl⟩ (z_ild_n hX dX12_take_22 rfl (z_ald_n hX dX12_take_23 rfl (z_gr (c := 12) (j := 7) hX dX12_take_24 rfl inlX12 wm8_2 ⟨rfl, by decide, rfl⟩ (z_ild_n hX dX12_take_27 rfl (z_bald hX dX12_take_28 (z_bast hX dX12_take_29 (z_inc hX dX12_take_30 (by decide) ((z_goto hX dX12_take_33 (by decide) (hq 431 10 hl431)))))))))))))))
def kX12_take_0 (r : pu_R) : pu_K := s_ald 0 (s_ald 0 (s_gi 12 8 (s_pi 12 4 (s_push (.int (0)) (s_ist 1 ((r 431)))))))
theorem vX12_take_0 : pu_cok2 kX12_take_0 := fun rf r hr => by
  unfold kX12_take_0
  exact v_ald (v_ald (v_gi (v_puti (v_pi (v_ist ((hr 431)))))))
theorem tX12_take_0 {X : pu_X} {r : pu_R} (hX : pu_H X mdX12_take) (hr : pu_P X.2.1 X.2.2.2.2.2.2.2.2.2.2.1 r) (hq : ∀ i pc, pu_lp i = some (231, pc) → pu_S X mdX12_take pc (r i)) : pu_S X mdX12_take 0 (kX12_take_0 r) := by
  unfold kX12_take_0
  exact z_ald_n hX dX12_take_0 rfl (z_ald_n hX dX12_take_1 rfl (z_gi (c := 12) (j := 8) hX dX12_take_2 rfl inlX12 wm8_3 ⟨rfl, by decide, rfl⟩ (z_pi (c := 12) (j := 4) tyX12 tyX12_ok nmX12 hX dX12_take_5 rfl inlX12 wm7_23 ⟨rfl, by decide⟩ ⟨rfl, rfl⟩ rfl (z_iconst hX dX12_take_8 (by decide) (z_ist_n hX dX12_take_9 rfl ((hq 431 10 hl431)))))))
def kX12_out_26 (r : pu_R) : pu_K := s_iret
theorem vX12_out_26 : pu_cok2 kX12_out_26 := fun rf r hr => by
  unfold kX12_out_26
  exact v_iret
theorem tX12_out_26 {X : pu_X} {r : pu_R} (hX : pu_H X mdX12_out) (hr : pu_P X.2.1 X.2.2.2.2.2.2.2.2.2.2.1 r) (hq : ∀ i pc, pu_lp i = some (232, pc) → pu_S X mdX12_out pc (r i)) : pu_S X mdX12_out 26 (kX12_out_26 r) := by
  unfold kX12_out_26
  exact z_iret hX dX12_out_26 rfl
def kX12_out_16 (r : pu_R) : pu_K := s_ald 0 (s_gr 12 7 (s_ild 1 (s_ai 2 (s_push (.int (255)) (s_iand ((kX12_out_26 r)))))))
theorem vX12_out_16 : pu_cok2 kX12_out_16 := fun rf r hr => by
  unfold kX12_out_16
  exact v_ald (v_gr (v_ild (v_ai (v_pi (v_iand ((vX12_out_26 rf r hr)))))))
theorem tX12_out_16 {X : pu_X} {r : pu_R} (hX : pu_H X mdX12_out) (hr : pu_P X.2.1 X.2.2.2.2.2.2.2.2.2.2.1 r) (hq : ∀ i pc, pu_lp i = some (232, pc) → pu_S X mdX12_out pc (r i)) : pu_S X mdX12_out 16 (kX12_out_16 r) := by
  unfold kX12_out_16
  exact z_ald_n hX dX12_out_16 rfl (z_gr (c := 12) (j := 7) hX dX12_out_17 rfl inlX12 wm8_2 ⟨rfl, by decide, rfl⟩ (z_ild_n hX dX12_out_20 rfl (z_bald hX dX12_out_21 (z_sipush hX dX12_out_22 (by decide) (z_iand hX dX12_out_25 ((tX12_out_26 hX hr hq)))))))
def kX12_out_12 (r : pu_R) : pu_K := s_push (.int (-1)) ((kX12_out_26 r))
theorem vX12_out_12 : pu_cok2 kX12_out_12 := fun rf r hr => by
  unfold kX12_out_12
  exact v_pi ((vX12_out_26 rf r hr))
theorem tX12_out_12 {X : pu_X} {r : pu_R} (hX : pu_H X mdX12_out) (hr : pu_P X.2.1 X.2.2.2.2.2.2.2.2.2.2.1 r) (hq : ∀ i pc, pu_lp i = some (232, pc) → pu_S X mdX12_out pc (r i)) : pu_S X mdX12_out 12 (kX12_out_12 r) := by
  unfold kX12_out_12
  exact z_iconst hX dX12_out_12 (by decide) ((z_goto hX dX12_out_13 (by decide) (tX12_out_26 hX hr hq)))
def kX12_out_0 (r : pu_R) : pu_K := s_ild 1 (s_iflt (kX12_out_12 r) (s_ild 1 (s_ald 0 (s_gi 12 8 (s_iclt (kX12_out_16 r) ((kX12_out_12 r)))))))
theorem vX12_out_0 : pu_cok2 kX12_out_0 := fun rf r hr => by
  unfold kX12_out_0
  exact v_ild (v_iflt (vX12_out_12 rf r hr) (v_ild (v_ald (v_gi (v_iclt (vX12_out_16 rf r hr) ((vX12_out_12 rf r hr)))))))
theorem tX12_out_0 {X : pu_X} {r : pu_R} (hX : pu_H X mdX12_out) (hr : pu_P X.2.1 X.2.2.2.2.2.2.2.2.2.2.1 r) (hq : ∀ i pc, pu_lp i = some (232, pc) → pu_S X mdX12_out pc (r i)) : pu_S X mdX12_out 0 (kX12_out_0 r) := by
  unfold kX12_out_0
  exact z_ild_n hX dX12_out_0 rfl (z_iflt hX dX12_out_1 (by decide) (tX12_out_12 hX hr hq) (z_ild_n hX dX12_out_4 rfl (z_ald_n hX dX12_out_5 rfl (z_gi (c := 12) (j := 8) hX dX12_out_6 rfl inlX12 wm8_3 ⟨rfl, by decide, rfl⟩ (z_iclt hX dX12_out_9 (by decide) (tX12_out_16 hX hr hq) ((tX12_out_12 hX hr hq)))))))
def kX12_takes_36 (r : pu_R) : pu_K := s_ald 0 (s_push (.int (0)) (s_pi 12 4 (s_vret)))
theorem vX12_takes_36 : pu_cok2 kX12_takes_36 := fun rf r hr => by
  unfold kX12_takes_36
  exact v_ald (v_pi (v_puti (v_vret)))
theorem tX12_takes_36 {X : pu_X} {r : pu_R} (hX : pu_H X mdX12_takes) (hr : pu_P X.2.1 X.2.2.2.2.2.2.2.2.2.2.1 r) (hq : ∀ i pc, pu_lp i = some (233, pc) → pu_S X mdX12_takes pc (r i)) : pu_S X mdX12_takes 36 (kX12_takes_36 r) := by
  unfold kX12_takes_36
  exact z_ald_n hX dX12_takes_36 rfl (z_iconst hX dX12_takes_37 (by decide) (z_pi (c := 12) (j := 4) tyX12 tyX12_ok nmX12 hX dX12_takes_38 rfl inlX12 wm7_23 ⟨rfl, by decide⟩ ⟨rfl, rfl⟩ rfl (z_vret hX dX12_takes_41 rfl)))
def kX12_takes_10 (r : pu_R) : pu_K := s_ild 1 (s_ald 0 (s_gi 12 6 (s_icge (kX12_takes_36 r) (s_ald 0 (s_gr 12 5 (s_ild 1 (s_ald 0 (s_gr 12 3 (s_ild 1 (s_ai 2 (s_wb (s_inc 1 (1) ((r 432))))))))))))))
theorem vX12_takes_10 : pu_cok2 kX12_takes_10 := fun rf r hr => by
  unfold kX12_takes_10
  exact v_ild (v_ald (v_gi (v_icge (vX12_takes_36 rf r hr) (v_ald (v_gr (v_ild (v_ald (v_gr (v_ild (v_ai (v_wb (v_inc ((hr 432))))))))))))))
theorem tX12_takes_10 {X : pu_X} {r : pu_R} (hX : pu_H X mdX12_takes) (hr : pu_P X.2.1 X.2.2.2.2.2.2.2.2.2.2.1 r) (hq : ∀ i pc, pu_lp i = some (233, pc) → pu_S X mdX12_takes pc (r i)) : pu_S X mdX12_takes 10 (kX12_takes_10 r) := by
  unfold kX12_takes_10
  exact z_ild_n hX dX12_takes_10 rfl (z_ald_n hX dX12_takes_11 rfl (z_gi (c := 12) (j := 6) hX dX12_takes_12 rfl inlX12 wm8_1 ⟨rfl, by decide, rfl⟩ (z_icge hX dX12_takes_15 (by decide) (tX12_takes_36 hX hr hq) (z_ald_n hX dX12_takes_18 rfl (z_gr (c := 12) (j := 5) hX dX12_takes_19 rfl inlX12 wm8_0 ⟨rfl, by decide, rfl⟩ (z_ild_n hX dX12_takes_22 rfl (z_ald_n hX dX12_takes_23 rfl (z_gr (c := 12) (j := 3) hX dX12_takes_24 rfl inlX12 wm7_22 ⟨rfl, by decide, rfl⟩ (z_ild_n hX dX12_takes_27 rfl (z_bald hX dX12_takes_28 (z_bast hX dX12_takes_29 (z_inc hX dX12_takes_30 (by decide) ((z_goto hX dX12_takes_33 (by decide) (hq 432 10 hl432)))))))))))))))
def kX12_takes_0 (r : pu_R) : pu_K := s_ald 0 (s_ald 0 (s_gi 12 4 (s_pi 12 6 (s_push (.int (0)) (s_ist 1 ((r 432)))))))
theorem vX12_takes_0 : pu_cok2 kX12_takes_0 := fun rf r hr => by
  unfold kX12_takes_0
  exact v_ald (v_ald (v_gi (v_puti (v_pi (v_ist ((hr 432)))))))
theorem tX12_takes_0 {X : pu_X} {r : pu_R} (hX : pu_H X mdX12_takes) (hr : pu_P X.2.1 X.2.2.2.2.2.2.2.2.2.2.1 r) (hq : ∀ i pc, pu_lp i = some (233, pc) → pu_S X mdX12_takes pc (r i)) : pu_S X mdX12_takes 0 (kX12_takes_0 r) := by
  unfold kX12_takes_0
  exact z_ald_n hX dX12_takes_0 rfl (z_ald_n hX dX12_takes_1 rfl (z_gi (c := 12) (j := 4) hX dX12_takes_2 rfl inlX12 wm7_23 ⟨rfl, by decide, rfl⟩ (z_pi (c := 12) (j := 6) tyX12 tyX12_ok nmX12 hX dX12_takes_5 rfl inlX12 wm8_1 ⟨rfl, by decide⟩ ⟨rfl, rfl⟩ rfl (z_iconst hX dX12_takes_8 (by decide) (z_ist_n hX dX12_takes_9 rfl ((hq 432 10 hl432)))))))
def kX12_isDay_15 (r : pu_R) : pu_K := s_zret
theorem vX12_isDay_15 : pu_cok2 kX12_isDay_15 := fun rf r hr => by
  unfold kX12_isDay_15
  exact v_zret
theorem tX12_isDay_15 {X : pu_X} {r : pu_R} (hX : pu_H X mdX12_isDay) (hr : pu_P X.2.1 X.2.2.2.2.2.2.2.2.2.2.1 r) (hq : ∀ i pc, pu_lp i = some (234, pc) → pu_S X mdX12_isDay pc (r i)) : pu_S X mdX12_isDay 15 (kX12_isDay_15 r) := by
  unfold kX12_isDay_15
  exact z_zret hX dX12_isDay_15 rfl
def kX12_isDay_14 (r : pu_R) : pu_K := s_push (.int (0)) ((kX12_isDay_15 r))
theorem vX12_isDay_14 : pu_cok2 kX12_isDay_14 := fun rf r hr => by
  unfold kX12_isDay_14
  exact v_pi ((vX12_isDay_15 rf r hr))
theorem tX12_isDay_14 {X : pu_X} {r : pu_R} (hX : pu_H X mdX12_isDay) (hr : pu_P X.2.1 X.2.2.2.2.2.2.2.2.2.2.1 r) (hq : ∀ i pc, pu_lp i = some (234, pc) → pu_S X mdX12_isDay pc (r i)) : pu_S X mdX12_isDay 14 (kX12_isDay_14 r) := by
  unfold kX12_isDay_14
  exact z_iconst hX dX12_isDay_14 (by decide) ((tX12_isDay_15 hX hr hq))
def kX12_isDay_0 (r : pu_R) : pu_K := s_ild 0 (s_iflt (kX12_isDay_14 r) (s_ild 0 (s_push (.int (109574)) (s_icgt (kX12_isDay_14 r) (s_push (.int (1)) ((kX12_isDay_15 r)))))))
theorem vX12_isDay_0 : pu_cok2 kX12_isDay_0 := fun rf r hr => by
  unfold kX12_isDay_0
  exact v_ild (v_iflt (vX12_isDay_14 rf r hr) (v_ild (v_pi (v_icgt (vX12_isDay_14 rf r hr) (v_pi ((vX12_isDay_15 rf r hr)))))))
theorem tX12_isDay_0 {X : pu_X} {r : pu_R} (hX : pu_H X mdX12_isDay) (hr : pu_P X.2.1 X.2.2.2.2.2.2.2.2.2.2.1 r) (hq : ∀ i pc, pu_lp i = some (234, pc) → pu_S X mdX12_isDay pc (r i)) : pu_S X mdX12_isDay 0 (kX12_isDay_0 r) := by
  unfold kX12_isDay_0
  exact z_ild_n hX dX12_isDay_0 rfl (z_iflt hX dX12_isDay_1 (by decide) (tX12_isDay_14 hX hr hq) (z_ild_n hX dX12_isDay_4 rfl (z_ldc hX dX12_isDay_5 wm11_8 (z_icgt hX dX12_isDay_7 (by decide) (tX12_isDay_14 hX hr hq) (z_iconst hX dX12_isDay_10 (by decide) ((z_goto hX dX12_isDay_11 (by decide) (tX12_isDay_15 hX hr hq))))))))
def kX12_day_19 (r : pu_R) : pu_K := s_ald 0 (s_gr 12 0 (s_push (.int (0)) (s_ild 1 (s_wi 1 (s_push (.int (1)) (s_zret))))))
theorem vX12_day_19 : pu_cok2 kX12_day_19 := fun rf r hr => by
  unfold kX12_day_19
  exact v_ald (v_gr (v_pi (v_ild (v_wi (v_pi (v_zret))))))
theorem tX12_day_19 {X : pu_X} {r : pu_R} (hX : pu_H X mdX12_day) (hr : pu_P X.2.1 X.2.2.2.2.2.2.2.2.2.2.1 r) (hq : ∀ i pc, pu_lp i = some (235, pc) → pu_S X mdX12_day pc (r i)) : pu_S X mdX12_day 19 (kX12_day_19 r) := by
  unfold kX12_day_19
  exact z_ald_n hX dX12_day_19 rfl (z_gr (c := 12) (j := 0) hX dX12_day_20 rfl inlX12 wm7_16 ⟨rfl, by decide, rfl⟩ (z_iconst hX dX12_day_23 (by decide) (z_ild_n hX dX12_day_24 rfl (z_iast hX dX12_day_25 (z_iconst hX dX12_day_26 (by decide) (z_zret hX dX12_day_27 rfl))))))
def kX12_day_17 (r : pu_R) : pu_K := s_push (.int (0)) (s_zret)
theorem vX12_day_17 : pu_cok2 kX12_day_17 := fun rf r hr => by
  unfold kX12_day_17
  exact v_pi (v_zret)
theorem tX12_day_17 {X : pu_X} {r : pu_R} (hX : pu_H X mdX12_day) (hr : pu_P X.2.1 X.2.2.2.2.2.2.2.2.2.2.1 r) (hq : ∀ i pc, pu_lp i = some (235, pc) → pu_S X mdX12_day pc (r i)) : pu_S X mdX12_day 17 (kX12_day_17 r) := by
  unfold kX12_day_17
  exact z_iconst hX dX12_day_17 (by decide) (z_zret hX dX12_day_18 rfl)
def kX12_day_0 (r : pu_R) : pu_K := s_ild 1 (s_cs r 234 1 (s_ifeq (kX12_day_17 r) (s_ild 1 (s_ald 0 (s_gr 12 0 (s_push (.int (0)) (s_ai 1 (s_icge (kX12_day_19 r) ((kX12_day_17 r))))))))))
theorem vX12_day_0 : pu_cok2 kX12_day_0 := fun rf r hr => by
  unfold kX12_day_0
  exact v_ild (v_cs hr (v_ifeq (vX12_day_17 rf r hr) (v_ild (v_ald (v_gr (v_pi (v_ai (v_icge (vX12_day_19 rf r hr) ((vX12_day_17 rf r hr))))))))))
theorem tX12_day_0 {X : pu_X} {r : pu_R} (hX : pu_H X mdX12_day) (hr : pu_P X.2.1 X.2.2.2.2.2.2.2.2.2.2.1 r) (hq : ∀ i pc, pu_lp i = some (235, pc) → pu_S X mdX12_day pc (r i)) : pu_S X mdX12_day 0 (kX12_day_0 r) := by
  unfold kX12_day_0
  exact z_ild_n hX dX12_day_0 rfl (z_cs hX hr dX12_day_1 hjX12_isDay mwX12_isDay wm11_5 wm11_6 ⟨Nat.le_of_ble_eq_true rfl, Nat.le_of_ble_eq_true rfl⟩ (z_ifeq hX dX12_day_4 (by decide) (tX12_day_17 hX hr hq) (z_ild_n hX dX12_day_7 rfl (z_ald_n hX dX12_day_8 rfl (z_gr (c := 12) (j := 0) hX dX12_day_9 rfl inlX12 wm7_16 ⟨rfl, by decide, rfl⟩ (z_iconst hX dX12_day_12 (by decide) (z_iald hX dX12_day_13 (z_icge hX dX12_day_14 (by decide) (tX12_day_19 hX hr hq) ((tX12_day_17 hX hr hq))))))))))
def kX12_as_14 (r : pu_R) : pu_K := s_ald 0 (s_gr 12 0 (s_push (.int (1)) (s_ild 1 (s_wi 1 (s_push (.int (1)) (s_zret))))))
theorem vX12_as_14 : pu_cok2 kX12_as_14 := fun rf r hr => by
  unfold kX12_as_14
  exact v_ald (v_gr (v_pi (v_ild (v_wi (v_pi (v_zret))))))
theorem tX12_as_14 {X : pu_X} {r : pu_R} (hX : pu_H X mdX12_as) (hr : pu_P X.2.1 X.2.2.2.2.2.2.2.2.2.2.1 r) (hq : ∀ i pc, pu_lp i = some (236, pc) → pu_S X mdX12_as pc (r i)) : pu_S X mdX12_as 14 (kX12_as_14 r) := by
  unfold kX12_as_14
  exact z_ald_n hX dX12_as_14 rfl (z_gr (c := 12) (j := 0) hX dX12_as_15 rfl inlX12 wm7_16 ⟨rfl, by decide, rfl⟩ (z_iconst hX dX12_as_18 (by decide) (z_ild_n hX dX12_as_19 rfl (z_iast hX dX12_as_20 (z_iconst hX dX12_as_21 (by decide) (z_zret hX dX12_as_22 rfl))))))
def kX12_as_0 (r : pu_R) : pu_K := s_ild 1 (s_push (.int (-1)) (s_iceq (kX12_as_14 r) (s_ild 1 (s_cs r 234 1 (s_ifne (kX12_as_14 r) (s_push (.int (0)) (s_zret)))))))
theorem vX12_as_0 : pu_cok2 kX12_as_0 := fun rf r hr => by
  unfold kX12_as_0
  exact v_ild (v_pi (v_iceq (vX12_as_14 rf r hr) (v_ild (v_cs hr (v_ifne (vX12_as_14 rf r hr) (v_pi (v_zret)))))))
theorem tX12_as_0 {X : pu_X} {r : pu_R} (hX : pu_H X mdX12_as) (hr : pu_P X.2.1 X.2.2.2.2.2.2.2.2.2.2.1 r) (hq : ∀ i pc, pu_lp i = some (236, pc) → pu_S X mdX12_as pc (r i)) : pu_S X mdX12_as 0 (kX12_as_0 r) := by
  unfold kX12_as_0
  exact z_ild_n hX dX12_as_0 rfl (z_iconst hX dX12_as_1 (by decide) (z_iceq hX dX12_as_2 (by decide) (tX12_as_14 hX hr hq) (z_ild_n hX dX12_as_5 rfl (z_cs hX hr dX12_as_6 hjX12_isDay mwX12_isDay wm11_5 wm11_6 ⟨Nat.le_of_ble_eq_true rfl, Nat.le_of_ble_eq_true rfl⟩ (z_ifne hX dX12_as_9 (by decide) (tX12_as_14 hX hr hq) (z_iconst hX dX12_as_12 (by decide) (z_zret hX dX12_as_13 rfl)))))))
def kX12_isKnown_37 (r : pu_R) : pu_K := s_zret
theorem vX12_isKnown_37 : pu_cok2 kX12_isKnown_37 := fun rf r hr => by
  unfold kX12_isKnown_37
  exact v_zret
theorem tX12_isKnown_37 {X : pu_X} {r : pu_R} (hX : pu_H X mdX12_isKnown) (hr : pu_P X.2.1 X.2.2.2.2.2.2.2.2.2.2.1 r) (hq : ∀ i pc, pu_lp i = some (237, pc) → pu_S X mdX12_isKnown pc (r i)) : pu_S X mdX12_isKnown 37 (kX12_isKnown_37 r) := by
  unfold kX12_isKnown_37
  exact z_zret hX dX12_isKnown_37 rfl
def kX12_isKnown_36 (r : pu_R) : pu_K := s_push (.int (0)) ((kX12_isKnown_37 r))
theorem vX12_isKnown_36 : pu_cok2 kX12_isKnown_36 := fun rf r hr => by
  unfold kX12_isKnown_36
  exact v_pi ((vX12_isKnown_37 rf r hr))
theorem tX12_isKnown_36 {X : pu_X} {r : pu_R} (hX : pu_H X mdX12_isKnown) (hr : pu_P X.2.1 X.2.2.2.2.2.2.2.2.2.2.1 r) (hq : ∀ i pc, pu_lp i = some (237, pc) → pu_S X mdX12_isKnown pc (r i)) : pu_S X mdX12_isKnown 36 (kX12_isKnown_36 r) := by
  unfold kX12_isKnown_36
  exact z_iconst hX dX12_isKnown_36 (by decide) ((tX12_isKnown_37 hX hr hq))
def kX12_isKnown_32 (r : pu_R) : pu_K := s_push (.int (1)) ((kX12_isKnown_37 r))
theorem vX12_isKnown_32 : pu_cok2 kX12_isKnown_32 := fun rf r hr => by
  unfold kX12_isKnown_32
  exact v_pi ((vX12_isKnown_37 rf r hr))
theorem tX12_isKnown_32 {X : pu_X} {r : pu_R} (hX : pu_H X mdX12_isKnown) (hr : pu_P X.2.1 X.2.2.2.2.2.2.2.2.2.2.1 r) (hq : ∀ i pc, pu_lp i = some (237, pc) → pu_S X mdX12_isKnown pc (r i)) : pu_S X mdX12_isKnown 32 (kX12_isKnown_32 r) := by
  unfold kX12_isKnown_32
  exact z_iconst hX dX12_isKnown_32 (by decide) ((z_goto hX dX12_isKnown_33 (by decide) (tX12_isKnown_37 hX hr hq)))
def kX12_isKnown_0 (r : pu_R) : pu_K := s_ald 0 (s_gr 12 0 (s_push (.int (1)) (s_ai 1 (s_push (.int (-1)) (s_iceq (kX12_isKnown_32 r) (s_ald 0 (s_gr 12 0 (s_push (.int (28752)) (s_push (.int (7)) (s_ild 1 (s_imul (s_iadd (s_ai 1 (s_ald 0 (s_gr 12 0 (s_push (.int (1)) (s_ai 1 (s_icgt (kX12_isKnown_36 r) ((kX12_isKnown_32 r))))))))))))))))))))
theorem vX12_isKnown_0 : pu_cok2 kX12_isKnown_0 := fun rf r hr => by
  unfold kX12_isKnown_0
  exact v_ald (v_gr (v_pi (v_ai (v_pi (v_iceq (vX12_isKnown_32 rf r hr) (v_ald (v_gr (v_pi (v_pi (v_ild (v_imul (v_iadd (v_ai (v_ald (v_gr (v_pi (v_ai (v_icgt (vX12_isKnown_36 rf r hr) ((vX12_isKnown_32 rf r hr))))))))))))))))))))
theorem tX12_isKnown_0 {X : pu_X} {r : pu_R} (hX : pu_H X mdX12_isKnown) (hr : pu_P X.2.1 X.2.2.2.2.2.2.2.2.2.2.1 r) (hq : ∀ i pc, pu_lp i = some (237, pc) → pu_S X mdX12_isKnown pc (r i)) : pu_S X mdX12_isKnown 0 (kX12_isKnown_0 r) := by
  unfold kX12_isKnown_0
  exact z_ald_n hX dX12_isKnown_0 rfl (z_gr (c := 12) (j := 0) hX dX12_isKnown_1 rfl inlX12 wm7_16 ⟨rfl, by decide, rfl⟩ (z_iconst hX dX12_isKnown_4 (by decide) (z_iald hX dX12_isKnown_5 (z_iconst hX dX12_isKnown_6 (by decide) (z_iceq hX dX12_isKnown_7 (by decide) (tX12_isKnown_32 hX hr hq) (z_ald_n hX dX12_isKnown_10 rfl (z_gr (c := 12) (j := 0) hX dX12_isKnown_11 rfl inlX12 wm7_16 ⟨rfl, by decide, rfl⟩ (z_sipush hX dX12_isKnown_14 (by decide) (z_bipush hX dX12_isKnown_17 (by decide) (z_ild_n hX dX12_isKnown_19 rfl (z_imul hX dX12_isKnown_20 (z_iadd hX dX12_isKnown_21 (z_iald hX dX12_isKnown_22 (z_ald_n hX dX12_isKnown_23 rfl (z_gr (c := 12) (j := 0) hX dX12_isKnown_24 rfl inlX12 wm7_16 ⟨rfl, by decide, rfl⟩ (z_iconst hX dX12_isKnown_27 (by decide) (z_iald hX dX12_isKnown_28 (z_icgt hX dX12_isKnown_29 (by decide) (tX12_isKnown_36 hX hr hq) ((tX12_isKnown_32 hX hr hq))))))))))))))))))))
def kX12_from_0 (r : pu_R) : pu_K := s_ald 0 (s_gr 12 0 (s_push (.int (28752)) (s_push (.int (7)) (s_ild 1 (s_imul (s_iadd (s_push (.int (1)) (s_iadd (s_ai 1 (s_iret))))))))))
theorem vX12_from_0 : pu_cok2 kX12_from_0 := fun rf r hr => by
  unfold kX12_from_0
  exact v_ald (v_gr (v_pi (v_pi (v_ild (v_imul (v_iadd (v_pi (v_iadd (v_ai (v_iret))))))))))
theorem tX12_from_0 {X : pu_X} {r : pu_R} (hX : pu_H X mdX12_from) (hr : pu_P X.2.1 X.2.2.2.2.2.2.2.2.2.2.1 r) (hq : ∀ i pc, pu_lp i = some (238, pc) → pu_S X mdX12_from pc (r i)) : pu_S X mdX12_from 0 (kX12_from_0 r) := by
  unfold kX12_from_0
  exact z_ald_n hX dX12_from_0 rfl (z_gr (c := 12) (j := 0) hX dX12_from_1 rfl inlX12 wm7_16 ⟨rfl, by decide, rfl⟩ (z_sipush hX dX12_from_4 (by decide) (z_bipush hX dX12_from_7 (by decide) (z_ild_n hX dX12_from_9 rfl (z_imul hX dX12_from_10 (z_iadd hX dX12_from_11 (z_iconst hX dX12_from_12 (by decide) (z_iadd hX dX12_from_13 (z_iald hX dX12_from_14 (z_iret hX dX12_from_15 rfl))))))))))
def kX12_holds_46 (r : pu_R) : pu_K := s_zret
theorem vX12_holds_46 : pu_cok2 kX12_holds_46 := fun rf r hr => by
  unfold kX12_holds_46
  exact v_zret
theorem tX12_holds_46 {X : pu_X} {r : pu_R} (hX : pu_H X mdX12_holds) (hr : pu_P X.2.1 X.2.2.2.2.2.2.2.2.2.2.1 r) (hq : ∀ i pc, pu_lp i = some (239, pc) → pu_S X mdX12_holds pc (r i)) : pu_S X mdX12_holds 46 (kX12_holds_46 r) := by
  unfold kX12_holds_46
  exact z_zret hX dX12_holds_46 rfl
def kX12_holds_45 (r : pu_R) : pu_K := s_push (.int (0)) ((kX12_holds_46 r))
theorem vX12_holds_45 : pu_cok2 kX12_holds_45 := fun rf r hr => by
  unfold kX12_holds_45
  exact v_pi ((vX12_holds_46 rf r hr))
theorem tX12_holds_45 {X : pu_X} {r : pu_R} (hX : pu_H X mdX12_holds) (hr : pu_P X.2.1 X.2.2.2.2.2.2.2.2.2.2.1 r) (hq : ∀ i pc, pu_lp i = some (239, pc) → pu_S X mdX12_holds pc (r i)) : pu_S X mdX12_holds 45 (kX12_holds_45 r) := by
  unfold kX12_holds_45
  exact z_iconst hX dX12_holds_45 (by decide) ((tX12_holds_46 hX hr hq))
def kX12_holds_41 (r : pu_R) : pu_K := s_push (.int (1)) ((kX12_holds_46 r))
theorem vX12_holds_41 : pu_cok2 kX12_holds_41 := fun rf r hr => by
  unfold kX12_holds_41
  exact v_pi ((vX12_holds_46 rf r hr))
theorem tX12_holds_41 {X : pu_X} {r : pu_R} (hX : pu_H X mdX12_holds) (hr : pu_P X.2.1 X.2.2.2.2.2.2.2.2.2.2.1 r) (hq : ∀ i pc, pu_lp i = some (239, pc) → pu_S X mdX12_holds pc (r i)) : pu_S X mdX12_holds 41 (kX12_holds_41 r) := by
  unfold kX12_holds_41
  exact z_iconst hX dX12_holds_41 (by decide) ((z_goto hX dX12_holds_42 (by decide) (tX12_holds_46 hX hr hq)))
def kX12_holds_19 (r : pu_R) : pu_K := s_ild 2 (s_push (.int (-1)) (s_iceq (kX12_holds_41 r) (s_ald 0 (s_ild 2 (s_cv r 237 1 12 (s_ifeq (kX12_holds_41 r) (s_ald 0 (s_ild 2 (s_cv r 238 1 12 (s_ild 3 (s_icle (kX12_holds_45 r) ((kX12_holds_41 r)))))))))))))
theorem vX12_holds_19 : pu_cok2 kX12_holds_19 := fun rf r hr => by
  unfold kX12_holds_19
  exact v_ild (v_pi (v_iceq (vX12_holds_41 rf r hr) (v_ald (v_ild (v_cv hr (v_ifeq (vX12_holds_41 rf r hr) (v_ald (v_ild (v_cv hr (v_ild (v_icle (vX12_holds_45 rf r hr) ((vX12_holds_41 rf r hr)))))))))))))
theorem tX12_holds_19 {X : pu_X} {r : pu_R} (hX : pu_H X mdX12_holds) (hr : pu_P X.2.1 X.2.2.2.2.2.2.2.2.2.2.1 r) (hq : ∀ i pc, pu_lp i = some (239, pc) → pu_S X mdX12_holds pc (r i)) : pu_S X mdX12_holds 19 (kX12_holds_19 r) := by
  unfold kX12_holds_19
  exact z_ild_n hX dX12_holds_19 rfl (z_iconst hX dX12_holds_20 (by decide) (z_iceq hX dX12_holds_21 (by decide) (tX12_holds_41 hX hr hq) (z_ald_n hX dX12_holds_24 rfl (z_ild_n hX dX12_holds_25 rfl (z_cv (c := 12) hX hr dX12_holds_26 hjX12_isKnown mwX12_isKnown rfl wm48_2 ⟨wm48_3, wm48_4⟩ ⟨Nat.le_of_ble_eq_true rfl, Nat.le_of_ble_eq_true rfl⟩ (z_ifeq hX dX12_holds_29 (by decide) (tX12_holds_41 hX hr hq) (z_ald_n hX dX12_holds_32 rfl (z_ild_n hX dX12_holds_33 rfl (z_cv (c := 12) hX hr dX12_holds_34 hjX12_from mwX12_from rfl wm21_4 ⟨wm21_5, wm21_6⟩ ⟨Nat.le_of_ble_eq_true rfl, Nat.le_of_ble_eq_true rfl⟩ (z_ild_n hX dX12_holds_37 rfl (z_icle hX dX12_holds_38 (by decide) (tX12_holds_45 hX hr hq) ((tX12_holds_41 hX hr hq)))))))))))))
def kX12_holds_17 (r : pu_R) : pu_K := s_push (.int (0)) (s_zret)
theorem vX12_holds_17 : pu_cok2 kX12_holds_17 := fun rf r hr => by
  unfold kX12_holds_17
  exact v_pi (v_zret)
theorem tX12_holds_17 {X : pu_X} {r : pu_R} (hX : pu_H X mdX12_holds) (hr : pu_P X.2.1 X.2.2.2.2.2.2.2.2.2.2.1 r) (hq : ∀ i pc, pu_lp i = some (239, pc) → pu_S X mdX12_holds pc (r i)) : pu_S X mdX12_holds 17 (kX12_holds_17 r) := by
  unfold kX12_holds_17
  exact z_iconst hX dX12_holds_17 (by decide) (z_zret hX dX12_holds_18 rfl)
def kX12_holds_0 (r : pu_R) : pu_K := s_ald 0 (s_ild 1 (s_cv r 237 1 12 (s_ifeq (kX12_holds_17 r) (s_ald 0 (s_ild 1 (s_cv r 238 1 12 (s_ild 3 (s_icle (kX12_holds_19 r) ((kX12_holds_17 r))))))))))
theorem vX12_holds_0 : pu_cok2 kX12_holds_0 := fun rf r hr => by
  unfold kX12_holds_0
  exact v_ald (v_ild (v_cv hr (v_ifeq (vX12_holds_17 rf r hr) (v_ald (v_ild (v_cv hr (v_ild (v_icle (vX12_holds_19 rf r hr) ((vX12_holds_17 rf r hr))))))))))
theorem tX12_holds_0 {X : pu_X} {r : pu_R} (hX : pu_H X mdX12_holds) (hr : pu_P X.2.1 X.2.2.2.2.2.2.2.2.2.2.1 r) (hq : ∀ i pc, pu_lp i = some (239, pc) → pu_S X mdX12_holds pc (r i)) : pu_S X mdX12_holds 0 (kX12_holds_0 r) := by
  unfold kX12_holds_0
  exact z_ald_n hX dX12_holds_0 rfl (z_ild_n hX dX12_holds_1 rfl (z_cv (c := 12) hX hr dX12_holds_2 hjX12_isKnown mwX12_isKnown rfl wm48_2 ⟨wm48_3, wm48_4⟩ ⟨Nat.le_of_ble_eq_true rfl, Nat.le_of_ble_eq_true rfl⟩ (z_ifeq hX dX12_holds_5 (by decide) (tX12_holds_17 hX hr hq) (z_ald_n hX dX12_holds_8 rfl (z_ild_n hX dX12_holds_9 rfl (z_cv (c := 12) hX hr dX12_holds_10 hjX12_from mwX12_from rfl wm21_4 ⟨wm21_5, wm21_6⟩ ⟨Nat.le_of_ble_eq_true rfl, Nat.le_of_ble_eq_true rfl⟩ (z_ild_n hX dX12_holds_13 rfl (z_icle hX dX12_holds_14 (by decide) (tX12_holds_19 hX hr hq) ((tX12_holds_17 hX hr hq))))))))))
def kX12_isLetter_17 (r : pu_R) : pu_K := s_zret
theorem vX12_isLetter_17 : pu_cok2 kX12_isLetter_17 := fun rf r hr => by
  unfold kX12_isLetter_17
  exact v_zret
theorem tX12_isLetter_17 {X : pu_X} {r : pu_R} (hX : pu_H X mdX12_isLetter) (hr : pu_P X.2.1 X.2.2.2.2.2.2.2.2.2.2.1 r) (hq : ∀ i pc, pu_lp i = some (240, pc) → pu_S X mdX12_isLetter pc (r i)) : pu_S X mdX12_isLetter 17 (kX12_isLetter_17 r) := by
  unfold kX12_isLetter_17
  exact z_zret hX dX12_isLetter_17 rfl
def kX12_isLetter_16 (r : pu_R) : pu_K := s_push (.int (0)) ((kX12_isLetter_17 r))
theorem vX12_isLetter_16 : pu_cok2 kX12_isLetter_16 := fun rf r hr => by
  unfold kX12_isLetter_16
  exact v_pi ((vX12_isLetter_17 rf r hr))
theorem tX12_isLetter_16 {X : pu_X} {r : pu_R} (hX : pu_H X mdX12_isLetter) (hr : pu_P X.2.1 X.2.2.2.2.2.2.2.2.2.2.1 r) (hq : ∀ i pc, pu_lp i = some (240, pc) → pu_S X mdX12_isLetter pc (r i)) : pu_S X mdX12_isLetter 16 (kX12_isLetter_16 r) := by
  unfold kX12_isLetter_16
  exact z_iconst hX dX12_isLetter_16 (by decide) ((tX12_isLetter_17 hX hr hq))
def kX12_isLetter_0 (r : pu_R) : pu_K := s_ild 0 (s_push (.int (97)) (s_iclt (kX12_isLetter_16 r) (s_ild 0 (s_push (.int (122)) (s_icgt (kX12_isLetter_16 r) (s_push (.int (1)) ((kX12_isLetter_17 r))))))))
theorem vX12_isLetter_0 : pu_cok2 kX12_isLetter_0 := fun rf r hr => by
  unfold kX12_isLetter_0
  exact v_ild (v_pi (v_iclt (vX12_isLetter_16 rf r hr) (v_ild (v_pi (v_icgt (vX12_isLetter_16 rf r hr) (v_pi ((vX12_isLetter_17 rf r hr))))))))
theorem tX12_isLetter_0 {X : pu_X} {r : pu_R} (hX : pu_H X mdX12_isLetter) (hr : pu_P X.2.1 X.2.2.2.2.2.2.2.2.2.2.1 r) (hq : ∀ i pc, pu_lp i = some (240, pc) → pu_S X mdX12_isLetter pc (r i)) : pu_S X mdX12_isLetter 0 (kX12_isLetter_0 r) := by
  unfold kX12_isLetter_0
  exact z_ild_n hX dX12_isLetter_0 rfl (z_bipush hX dX12_isLetter_1 (by decide) (z_iclt hX dX12_isLetter_3 (by decide) (tX12_isLetter_16 hX hr hq) (z_ild_n hX dX12_isLetter_6 rfl (z_bipush hX dX12_isLetter_7 (by decide) (z_icgt hX dX12_isLetter_9 (by decide) (tX12_isLetter_16 hX hr hq) (z_iconst hX dX12_isLetter_12 (by decide) ((z_goto hX dX12_isLetter_13 (by decide) (tX12_isLetter_17 hX hr hq)))))))))
def kX12_here_22 (r : pu_R) : pu_K := s_iret
theorem vX12_here_22 : pu_cok2 kX12_here_22 := fun rf r hr => by
  unfold kX12_here_22
  exact v_iret
theorem tX12_here_22 {X : pu_X} {r : pu_R} (hX : pu_H X mdX12_here) (hr : pu_P X.2.1 X.2.2.2.2.2.2.2.2.2.2.1 r) (hq : ∀ i pc, pu_lp i = some (241, pc) → pu_S X mdX12_here pc (r i)) : pu_S X mdX12_here 22 (kX12_here_22 r) := by
  unfold kX12_here_22
  exact z_iret hX dX12_here_22 rfl
def kX12_here_21 (r : pu_R) : pu_K := s_push (.int (-1)) ((kX12_here_22 r))
theorem vX12_here_21 : pu_cok2 kX12_here_21 := fun rf r hr => by
  unfold kX12_here_21
  exact v_pi ((vX12_here_22 rf r hr))
theorem tX12_here_21 {X : pu_X} {r : pu_R} (hX : pu_H X mdX12_here) (hr : pu_P X.2.1 X.2.2.2.2.2.2.2.2.2.2.1 r) (hq : ∀ i pc, pu_lp i = some (241, pc) → pu_S X mdX12_here pc (r i)) : pu_S X mdX12_here 21 (kX12_here_21 r) := by
  unfold kX12_here_21
  exact z_iconst hX dX12_here_21 (by decide) ((tX12_here_22 hX hr hq))
def kX12_here_0 (r : pu_R) : pu_K := s_ild 1 (s_ald 0 (s_gi 12 6 (s_icge (kX12_here_21 r) (s_ald 0 (s_gr 12 5 (s_ild 1 (s_ai 2 (s_push (.int (255)) (s_iand ((kX12_here_22 r)))))))))))
theorem vX12_here_0 : pu_cok2 kX12_here_0 := fun rf r hr => by
  unfold kX12_here_0
  exact v_ild (v_ald (v_gi (v_icge (vX12_here_21 rf r hr) (v_ald (v_gr (v_ild (v_ai (v_pi (v_iand ((vX12_here_22 rf r hr)))))))))))
theorem tX12_here_0 {X : pu_X} {r : pu_R} (hX : pu_H X mdX12_here) (hr : pu_P X.2.1 X.2.2.2.2.2.2.2.2.2.2.1 r) (hq : ∀ i pc, pu_lp i = some (241, pc) → pu_S X mdX12_here pc (r i)) : pu_S X mdX12_here 0 (kX12_here_0 r) := by
  unfold kX12_here_0
  exact z_ild_n hX dX12_here_0 rfl (z_ald_n hX dX12_here_1 rfl (z_gi (c := 12) (j := 6) hX dX12_here_2 rfl inlX12 wm8_1 ⟨rfl, by decide, rfl⟩ (z_icge hX dX12_here_5 (by decide) (tX12_here_21 hX hr hq) (z_ald_n hX dX12_here_8 rfl (z_gr (c := 12) (j := 5) hX dX12_here_9 rfl inlX12 wm8_0 ⟨rfl, by decide, rfl⟩ (z_ild_n hX dX12_here_12 rfl (z_bald hX dX12_here_13 (z_sipush hX dX12_here_14 (by decide) (z_iand hX dX12_here_17 ((z_goto hX dX12_here_18 (by decide) (tX12_here_22 hX hr hq))))))))))))
def kX12_lengthen_131 (r : pu_R) : pu_K := s_vret
theorem vX12_lengthen_131 : pu_cok2 kX12_lengthen_131 := fun rf r hr => by
  unfold kX12_lengthen_131
  exact v_vret
theorem tX12_lengthen_131 {X : pu_X} {r : pu_R} (hX : pu_H X mdX12_lengthen) (hr : pu_P X.2.1 X.2.2.2.2.2.2.2.2.2.2.1 r) (hq : ∀ i pc, pu_lp i = some (242, pc) → pu_S X mdX12_lengthen pc (r i)) : pu_S X mdX12_lengthen 131 (kX12_lengthen_131 r) := by
  unfold kX12_lengthen_131
  exact z_vret hX dX12_lengthen_131 rfl
def kX12_lengthen_125 (r : pu_R) : pu_K := s_inc 3 (1) ((r 433))
theorem vX12_lengthen_125 : pu_cok2 kX12_lengthen_125 := fun rf r hr => by
  unfold kX12_lengthen_125
  exact v_inc ((hr 433))
theorem tX12_lengthen_125 {X : pu_X} {r : pu_R} (hX : pu_H X mdX12_lengthen) (hr : pu_P X.2.1 X.2.2.2.2.2.2.2.2.2.2.1 r) (hq : ∀ i pc, pu_lp i = some (242, pc) → pu_S X mdX12_lengthen pc (r i)) : pu_S X mdX12_lengthen 125 (kX12_lengthen_125 r) := by
  unfold kX12_lengthen_125
  exact z_inc hX dX12_lengthen_125 (by decide) ((z_goto hX dX12_lengthen_128 (by decide) (hq 433 2 hl433)))
def kX12_lengthen_124 (r : pu_R) : pu_K := s_vret
theorem vX12_lengthen_124 : pu_cok2 kX12_lengthen_124 := fun rf r hr => by
  unfold kX12_lengthen_124
  exact v_vret
theorem tX12_lengthen_124 {X : pu_X} {r : pu_R} (hX : pu_H X mdX12_lengthen) (hr : pu_P X.2.1 X.2.2.2.2.2.2.2.2.2.2.1 r) (hq : ∀ i pc, pu_lp i = some (242, pc) → pu_S X mdX12_lengthen pc (r i)) : pu_S X mdX12_lengthen 124 (kX12_lengthen_124 r) := by
  unfold kX12_lengthen_124
  exact z_vret hX dX12_lengthen_124 rfl
def kX12_lengthen_83 (r : pu_R) : pu_K := s_ild 5 (s_push (.int (12)) (s_icge (kX12_lengthen_124 r) (s_ald 1 (s_push (.int (12)) (s_ild 2 (s_imul (s_ild 5 (s_iadd (s_ald 0 (s_gr 12 0 (s_push (.int (30152)) (s_push (.int (24)) (s_ild 3 (s_imul (s_iadd (s_push (.int (12)) (s_iadd (s_ild 5 (s_iadd (s_ai 1 (s_wi 1 (s_inc 5 (1) ((r 435))))))))))))))))))))))))
theorem vX12_lengthen_83 : pu_cok2 kX12_lengthen_83 := fun rf r hr => by
  unfold kX12_lengthen_83
  exact v_ild (v_pi (v_icge (vX12_lengthen_124 rf r hr) (v_ald (v_pi (v_ild (v_imul (v_ild (v_iadd (v_ald (v_gr (v_pi (v_pi (v_ild (v_imul (v_iadd (v_pi (v_iadd (v_ild (v_iadd (v_ai (v_wi (v_inc ((hr 435))))))))))))))))))))))))
theorem tX12_lengthen_83 {X : pu_X} {r : pu_R} (hX : pu_H X mdX12_lengthen) (hr : pu_P X.2.1 X.2.2.2.2.2.2.2.2.2.2.1 r) (hq : ∀ i pc, pu_lp i = some (242, pc) → pu_S X mdX12_lengthen pc (r i)) : pu_S X mdX12_lengthen 83 (kX12_lengthen_83 r) := by
  unfold kX12_lengthen_83
  exact z_ild hX dX12_lengthen_83 (z_bipush hX dX12_lengthen_85 (by decide) (z_icge hX dX12_lengthen_87 (by decide) (tX12_lengthen_124 hX hr hq) (z_ald_n hX dX12_lengthen_90 rfl (z_bipush hX dX12_lengthen_91 (by decide) (z_ild_n hX dX12_lengthen_93 rfl (z_imul hX dX12_lengthen_94 (z_ild hX dX12_lengthen_95 (z_iadd hX dX12_lengthen_97 (z_ald_n hX dX12_lengthen_98 rfl (z_gr (c := 12) (j := 0) hX dX12_lengthen_99 rfl inlX12 wm7_16 ⟨rfl, by decide, rfl⟩ (z_sipush hX dX12_lengthen_102 (by decide) (z_bipush hX dX12_lengthen_105 (by decide) (z_ild_n hX dX12_lengthen_107 rfl (z_imul hX dX12_lengthen_108 (z_iadd hX dX12_lengthen_109 (z_bipush hX dX12_lengthen_110 (by decide) (z_iadd hX dX12_lengthen_112 (z_ild hX dX12_lengthen_113 (z_iadd hX dX12_lengthen_115 (z_iald hX dX12_lengthen_116 (z_iast hX dX12_lengthen_117 (z_inc hX dX12_lengthen_118 (by decide) ((z_goto hX dX12_lengthen_121 (by decide) (hq 435 83 hl435)))))))))))))))))))))))))
def kX12_lengthen_80 (r : pu_R) : pu_K := s_push (.int (0)) (s_ist 5 ((r 435)))
theorem vX12_lengthen_80 : pu_cok2 kX12_lengthen_80 := fun rf r hr => by
  unfold kX12_lengthen_80
  exact v_pi (v_ist ((hr 435)))
theorem tX12_lengthen_80 {X : pu_X} {r : pu_R} (hX : pu_H X mdX12_lengthen) (hr : pu_P X.2.1 X.2.2.2.2.2.2.2.2.2.2.1 r) (hq : ∀ i pc, pu_lp i = some (242, pc) → pu_S X mdX12_lengthen pc (r i)) : pu_S X mdX12_lengthen 80 (kX12_lengthen_80 r) := by
  unfold kX12_lengthen_80
  exact z_iconst hX dX12_lengthen_80 (by decide) (z_ist hX dX12_lengthen_81 ((hq 435 83 hl435)))
def kX12_lengthen_72 (r : pu_R) : pu_K := s_ild 4 (s_ifne (kX12_lengthen_80 r) ((kX12_lengthen_125 r)))
theorem vX12_lengthen_72 : pu_cok2 kX12_lengthen_72 := fun rf r hr => by
  unfold kX12_lengthen_72
  exact v_ild (v_ifne (vX12_lengthen_80 rf r hr) ((vX12_lengthen_125 rf r hr)))
theorem tX12_lengthen_72 {X : pu_X} {r : pu_R} (hX : pu_H X mdX12_lengthen) (hr : pu_P X.2.1 X.2.2.2.2.2.2.2.2.2.2.1 r) (hq : ∀ i pc, pu_lp i = some (242, pc) → pu_S X mdX12_lengthen pc (r i)) : pu_S X mdX12_lengthen 72 (kX12_lengthen_72 r) := by
  unfold kX12_lengthen_72
  exact z_ild hX dX12_lengthen_72 (z_ifne hX dX12_lengthen_74 (by decide) (tX12_lengthen_80 hX hr hq) ((z_goto hX dX12_lengthen_77 (by decide) (tX12_lengthen_125 hX hr hq))))
def kX12_lengthen_64 (r : pu_R) : pu_K := s_ist 4 (s_inc 5 (1) ((r 434)))
theorem vX12_lengthen_64 : pu_cok2 kX12_lengthen_64 := fun rf r hr => by
  unfold kX12_lengthen_64
  exact v_ist (v_inc ((hr 434)))
theorem tX12_lengthen_64 {X : pu_X} {r : pu_R} (hX : pu_H X mdX12_lengthen) (hr : pu_P X.2.1 X.2.2.2.2.2.2.2.2.2.2.1 r) (hq : ∀ i pc, pu_lp i = some (242, pc) → pu_S X mdX12_lengthen pc (r i)) : pu_S X mdX12_lengthen 64 (kX12_lengthen_64 r) := by
  unfold kX12_lengthen_64
  exact z_ist hX dX12_lengthen_64 (z_inc hX dX12_lengthen_66 (by decide) ((z_goto hX dX12_lengthen_69 (by decide) (hq 434 19 hl434))))
def kX12_lengthen_63 (r : pu_R) : pu_K := s_push (.int (0)) ((kX12_lengthen_64 r))
theorem vX12_lengthen_63 : pu_cok2 kX12_lengthen_63 := fun rf r hr => by
  unfold kX12_lengthen_63
  exact v_pi ((vX12_lengthen_64 rf r hr))
theorem tX12_lengthen_63 {X : pu_X} {r : pu_R} (hX : pu_H X mdX12_lengthen) (hr : pu_P X.2.1 X.2.2.2.2.2.2.2.2.2.2.1 r) (hq : ∀ i pc, pu_lp i = some (242, pc) → pu_S X mdX12_lengthen pc (r i)) : pu_S X mdX12_lengthen 63 (kX12_lengthen_63 r) := by
  unfold kX12_lengthen_63
  exact z_iconst hX dX12_lengthen_63 (by decide) ((tX12_lengthen_64 hX hr hq))
def kX12_lengthen_60 (r : pu_R) : pu_K := (kX12_lengthen_64 r)
theorem vX12_lengthen_60 : pu_cok2 kX12_lengthen_60 := fun rf r hr => by
  unfold kX12_lengthen_60
  exact (vX12_lengthen_64 rf r hr)
theorem tX12_lengthen_60 {X : pu_X} {r : pu_R} (hX : pu_H X mdX12_lengthen) (hr : pu_P X.2.1 X.2.2.2.2.2.2.2.2.2.2.1 r) (hq : ∀ i pc, pu_lp i = some (242, pc) → pu_S X mdX12_lengthen pc (r i)) : pu_S X mdX12_lengthen 60 (kX12_lengthen_60 r) := by
  unfold kX12_lengthen_60
  exact (z_goto hX dX12_lengthen_60 (by decide) (tX12_lengthen_64 hX hr hq))
def kX12_lengthen_19 (r : pu_R) : pu_K := s_ild 5 (s_push (.int (12)) (s_icge (kX12_lengthen_72 r) (s_ild 4 (s_ifeq (kX12_lengthen_72 r) (s_ald 1 (s_push (.int (12)) (s_ild 2 (s_imul (s_ild 5 (s_iadd (s_ai 1 (s_ald 0 (s_gr 12 0 (s_push (.int (30152)) (s_push (.int (24)) (s_ild 3 (s_imul (s_iadd (s_ild 5 (s_iadd (s_ai 1 (s_icne (kX12_lengthen_63 r) (s_push (.int (1)) ((kX12_lengthen_60 r)))))))))))))))))))))))))
theorem vX12_lengthen_19 : pu_cok2 kX12_lengthen_19 := fun rf r hr => by
  unfold kX12_lengthen_19
  exact v_ild (v_pi (v_icge (vX12_lengthen_72 rf r hr) (v_ild (v_ifeq (vX12_lengthen_72 rf r hr) (v_ald (v_pi (v_ild (v_imul (v_ild (v_iadd (v_ai (v_ald (v_gr (v_pi (v_pi (v_ild (v_imul (v_iadd (v_ild (v_iadd (v_ai (v_icne (vX12_lengthen_63 rf r hr) (v_pi ((vX12_lengthen_60 rf r hr)))))))))))))))))))))))))
theorem tX12_lengthen_19 {X : pu_X} {r : pu_R} (hX : pu_H X mdX12_lengthen) (hr : pu_P X.2.1 X.2.2.2.2.2.2.2.2.2.2.1 r) (hq : ∀ i pc, pu_lp i = some (242, pc) → pu_S X mdX12_lengthen pc (r i)) : pu_S X mdX12_lengthen 19 (kX12_lengthen_19 r) := by
  unfold kX12_lengthen_19
  exact z_ild hX dX12_lengthen_19 (z_bipush hX dX12_lengthen_21 (by decide) (z_icge hX dX12_lengthen_23 (by decide) (tX12_lengthen_72 hX hr hq) (z_ild hX dX12_lengthen_26 (z_ifeq hX dX12_lengthen_28 (by decide) (tX12_lengthen_72 hX hr hq) (z_ald_n hX dX12_lengthen_31 rfl (z_bipush hX dX12_lengthen_32 (by decide) (z_ild_n hX dX12_lengthen_34 rfl (z_imul hX dX12_lengthen_35 (z_ild hX dX12_lengthen_36 (z_iadd hX dX12_lengthen_38 (z_iald hX dX12_lengthen_39 (z_ald_n hX dX12_lengthen_40 rfl (z_gr (c := 12) (j := 0) hX dX12_lengthen_41 rfl inlX12 wm7_16 ⟨rfl, by decide, rfl⟩ (z_sipush hX dX12_lengthen_44 (by decide) (z_bipush hX dX12_lengthen_47 (by decide) (z_ild_n hX dX12_lengthen_49 rfl (z_imul hX dX12_lengthen_50 (z_iadd hX dX12_lengthen_51 (z_ild hX dX12_lengthen_52 (z_iadd hX dX12_lengthen_54 (z_iald hX dX12_lengthen_55 (z_icne hX dX12_lengthen_56 (by decide) (tX12_lengthen_63 hX hr hq) (z_iconst hX dX12_lengthen_59 (by decide) ((tX12_lengthen_60 hX hr hq)))))))))))))))))))))))))
def kX12_lengthen_2 (r : pu_R) : pu_K := s_ild 3 (s_ald 0 (s_gr 12 0 (s_push (.int (8)) (s_ai 1 (s_icge (kX12_lengthen_131 r) (s_push (.int (1)) (s_ist 4 (s_push (.int (0)) (s_ist 5 ((r 434)))))))))))
theorem vX12_lengthen_2 : pu_cok2 kX12_lengthen_2 := fun rf r hr => by
  unfold kX12_lengthen_2
  exact v_ild (v_ald (v_gr (v_pi (v_ai (v_icge (vX12_lengthen_131 rf r hr) (v_pi (v_ist (v_pi (v_ist ((hr 434)))))))))))
theorem tX12_lengthen_2 {X : pu_X} {r : pu_R} (hX : pu_H X mdX12_lengthen) (hr : pu_P X.2.1 X.2.2.2.2.2.2.2.2.2.2.1 r) (hq : ∀ i pc, pu_lp i = some (242, pc) → pu_S X mdX12_lengthen pc (r i)) : pu_S X mdX12_lengthen 2 (kX12_lengthen_2 r) := by
  unfold kX12_lengthen_2
  exact z_ild_n hX dX12_lengthen_2 rfl (z_ald_n hX dX12_lengthen_3 rfl (z_gr (c := 12) (j := 0) hX dX12_lengthen_4 rfl inlX12 wm7_16 ⟨rfl, by decide, rfl⟩ (z_bipush hX dX12_lengthen_7 (by decide) (z_iald hX dX12_lengthen_9 (z_icge hX dX12_lengthen_10 (by decide) (tX12_lengthen_131 hX hr hq) (z_iconst hX dX12_lengthen_13 (by decide) (z_ist hX dX12_lengthen_14 (z_iconst hX dX12_lengthen_16 (by decide) (z_ist hX dX12_lengthen_17 ((hq 434 19 hl434)))))))))))
def kX12_lengthen_0 (r : pu_R) : pu_K := s_push (.int (0)) (s_ist 3 ((r 433)))
theorem vX12_lengthen_0 : pu_cok2 kX12_lengthen_0 := fun rf r hr => by
  unfold kX12_lengthen_0
  exact v_pi (v_ist ((hr 433)))
theorem tX12_lengthen_0 {X : pu_X} {r : pu_R} (hX : pu_H X mdX12_lengthen) (hr : pu_P X.2.1 X.2.2.2.2.2.2.2.2.2.2.1 r) (hq : ∀ i pc, pu_lp i = some (242, pc) → pu_S X mdX12_lengthen pc (r i)) : pu_S X mdX12_lengthen 0 (kX12_lengthen_0 r) := by
  unfold kX12_lengthen_0
  exact z_iconst hX dX12_lengthen_0 (by decide) (z_ist_n hX dX12_lengthen_1 rfl ((hq 433 2 hl433)))
def kX12_reads_133 (r : pu_R) : pu_K := s_zret
theorem vX12_reads_133 : pu_cok2 kX12_reads_133 := fun rf r hr => by
  unfold kX12_reads_133
  exact v_zret
theorem tX12_reads_133 {X : pu_X} {r : pu_R} (hX : pu_H X mdX12_reads) (hr : pu_P X.2.1 X.2.2.2.2.2.2.2.2.2.2.1 r) (hq : ∀ i pc, pu_lp i = some (243, pc) → pu_S X mdX12_reads pc (r i)) : pu_S X mdX12_reads 133 (kX12_reads_133 r) := by
  unfold kX12_reads_133
  exact z_zret hX dX12_reads_133 rfl
def kX12_reads_132 (r : pu_R) : pu_K := s_push (.int (0)) ((kX12_reads_133 r))
theorem vX12_reads_132 : pu_cok2 kX12_reads_132 := fun rf r hr => by
  unfold kX12_reads_132
  exact v_pi ((vX12_reads_133 rf r hr))
theorem tX12_reads_132 {X : pu_X} {r : pu_R} (hX : pu_H X mdX12_reads) (hr : pu_P X.2.1 X.2.2.2.2.2.2.2.2.2.2.1 r) (hq : ∀ i pc, pu_lp i = some (243, pc) → pu_S X mdX12_reads pc (r i)) : pu_S X mdX12_reads 132 (kX12_reads_132 r) := by
  unfold kX12_reads_132
  exact z_iconst hX dX12_reads_132 (by decide) ((tX12_reads_133 hX hr hq))
def kX12_reads_116 (r : pu_R) : pu_K := s_ild 4 (s_ifle (kX12_reads_132 r) (s_ild 3 (s_push (.int (1)) (s_iadd (s_ild 1 (s_iclt (kX12_reads_132 r) (s_push (.int (1)) ((kX12_reads_133 r)))))))))
theorem vX12_reads_116 : pu_cok2 kX12_reads_116 := fun rf r hr => by
  unfold kX12_reads_116
  exact v_ild (v_ifle (vX12_reads_132 rf r hr) (v_ild (v_pi (v_iadd (v_ild (v_iclt (vX12_reads_132 rf r hr) (v_pi ((vX12_reads_133 rf r hr)))))))))
theorem tX12_reads_116 {X : pu_X} {r : pu_R} (hX : pu_H X mdX12_reads) (hr : pu_P X.2.1 X.2.2.2.2.2.2.2.2.2.2.1 r) (hq : ∀ i pc, pu_lp i = some (243, pc) → pu_S X mdX12_reads pc (r i)) : pu_S X mdX12_reads 116 (kX12_reads_116 r) := by
  unfold kX12_reads_116
  exact z_ild hX dX12_reads_116 (z_ifle hX dX12_reads_118 (by decide) (tX12_reads_132 hX hr hq) (z_ild_n hX dX12_reads_121 rfl (z_iconst hX dX12_reads_122 (by decide) (z_iadd hX dX12_reads_123 (z_ild_n hX dX12_reads_124 rfl (z_iclt hX dX12_reads_125 (by decide) (tX12_reads_132 hX hr hq) (z_iconst hX dX12_reads_128 (by decide) ((z_goto hX dX12_reads_129 (by decide) (tX12_reads_133 hX hr hq))))))))))
def kX12_reads_110 (r : pu_R) : pu_K := s_inc 5 (1) ((r 437))
theorem vX12_reads_110 : pu_cok2 kX12_reads_110 := fun rf r hr => by
  unfold kX12_reads_110
  exact v_inc ((hr 437))
theorem tX12_reads_110 {X : pu_X} {r : pu_R} (hX : pu_H X mdX12_reads) (hr : pu_P X.2.1 X.2.2.2.2.2.2.2.2.2.2.1 r) (hq : ∀ i pc, pu_lp i = some (243, pc) → pu_S X mdX12_reads pc (r i)) : pu_S X mdX12_reads 110 (kX12_reads_110 r) := by
  unfold kX12_reads_110
  exact z_inc hX dX12_reads_110 (by decide) ((z_goto hX dX12_reads_113 (by decide) (hq 437 29 hl437)))
def kX12_reads_104 (r : pu_R) : pu_K := s_inc 3 (1) (s_push (.int (0)) (s_ist 4 ((kX12_reads_110 r))))
theorem vX12_reads_104 : pu_cok2 kX12_reads_104 := fun rf r hr => by
  unfold kX12_reads_104
  exact v_inc (v_pi (v_ist ((vX12_reads_110 rf r hr))))
theorem tX12_reads_104 {X : pu_X} {r : pu_R} (hX : pu_H X mdX12_reads) (hr : pu_P X.2.1 X.2.2.2.2.2.2.2.2.2.2.1 r) (hq : ∀ i pc, pu_lp i = some (243, pc) → pu_S X mdX12_reads pc (r i)) : pu_S X mdX12_reads 104 (kX12_reads_104 r) := by
  unfold kX12_reads_104
  exact z_inc hX dX12_reads_104 (by decide) (z_iconst hX dX12_reads_107 (by decide) (z_ist hX dX12_reads_108 ((tX12_reads_110 hX hr hq))))
def kX12_reads_102 (r : pu_R) : pu_K := s_push (.int (0)) (s_zret)
theorem vX12_reads_102 : pu_cok2 kX12_reads_102 := fun rf r hr => by
  unfold kX12_reads_102
  exact v_pi (v_zret)
theorem tX12_reads_102 {X : pu_X} {r : pu_R} (hX : pu_H X mdX12_reads) (hr : pu_P X.2.1 X.2.2.2.2.2.2.2.2.2.2.1 r) (hq : ∀ i pc, pu_lp i = some (243, pc) → pu_S X mdX12_reads pc (r i)) : pu_S X mdX12_reads 102 (kX12_reads_102 r) := by
  unfold kX12_reads_102
  exact z_iconst hX dX12_reads_102 (by decide) (z_zret hX dX12_reads_103 rfl)
def kX12_reads_83 (r : pu_R) : pu_K := s_ild 6 (s_push (.int (32)) (s_icne (kX12_reads_102 r) (s_ild 4 (s_ifeq (kX12_reads_102 r) (s_ild 3 (s_push (.int (1)) (s_iadd (s_ild 2 (s_icne (kX12_reads_104 r) ((kX12_reads_102 r)))))))))))
theorem vX12_reads_83 : pu_cok2 kX12_reads_83 := fun rf r hr => by
  unfold kX12_reads_83
  exact v_ild (v_pi (v_icne (vX12_reads_102 rf r hr) (v_ild (v_ifeq (vX12_reads_102 rf r hr) (v_ild (v_pi (v_iadd (v_ild (v_icne (vX12_reads_104 rf r hr) ((vX12_reads_102 rf r hr)))))))))))
theorem tX12_reads_83 {X : pu_X} {r : pu_R} (hX : pu_H X mdX12_reads) (hr : pu_P X.2.1 X.2.2.2.2.2.2.2.2.2.2.1 r) (hq : ∀ i pc, pu_lp i = some (243, pc) → pu_S X mdX12_reads pc (r i)) : pu_S X mdX12_reads 83 (kX12_reads_83 r) := by
  unfold kX12_reads_83
  exact z_ild hX dX12_reads_83 (z_bipush hX dX12_reads_85 (by decide) (z_icne hX dX12_reads_87 (by decide) (tX12_reads_102 hX hr hq) (z_ild hX dX12_reads_90 (z_ifeq hX dX12_reads_92 (by decide) (tX12_reads_102 hX hr hq) (z_ild_n hX dX12_reads_95 rfl (z_iconst hX dX12_reads_96 (by decide) (z_iadd hX dX12_reads_97 (z_ild_n hX dX12_reads_98 rfl (z_icne hX dX12_reads_99 (by decide) (tX12_reads_104 hX hr hq) ((tX12_reads_102 hX hr hq)))))))))))
def kX12_reads_63 (r : pu_R) : pu_K := s_ald 0 (s_gr 12 9 (s_push (.int (12)) (s_ild 3 (s_imul (s_ild 4 (s_iadd (s_ild 6 (s_wi 1 (s_inc 4 (1) ((kX12_reads_110 r)))))))))))
theorem vX12_reads_63 : pu_cok2 kX12_reads_63 := fun rf r hr => by
  unfold kX12_reads_63
  exact v_ald (v_gr (v_pi (v_ild (v_imul (v_ild (v_iadd (v_ild (v_wi (v_inc ((vX12_reads_110 rf r hr)))))))))))
theorem tX12_reads_63 {X : pu_X} {r : pu_R} (hX : pu_H X mdX12_reads) (hr : pu_P X.2.1 X.2.2.2.2.2.2.2.2.2.2.1 r) (hq : ∀ i pc, pu_lp i = some (243, pc) → pu_S X mdX12_reads pc (r i)) : pu_S X mdX12_reads 63 (kX12_reads_63 r) := by
  unfold kX12_reads_63
  exact z_ald_n hX dX12_reads_63 rfl (z_gr (c := 12) (j := 9) hX dX12_reads_64 rfl inlX12 wm8_4 ⟨rfl, by decide, rfl⟩ (z_bipush hX dX12_reads_67 (by decide) (z_ild_n hX dX12_reads_69 rfl (z_imul hX dX12_reads_70 (z_ild hX dX12_reads_71 (z_iadd hX dX12_reads_73 (z_ild hX dX12_reads_74 (z_iast hX dX12_reads_76 (z_inc hX dX12_reads_77 (by decide) ((z_goto hX dX12_reads_80 (by decide) (tX12_reads_110 hX hr hq))))))))))))
def kX12_reads_29 (r : pu_R) : pu_K := s_ild 5 (s_ald 0 (s_gi 12 6 (s_icge (kX12_reads_116 r) (s_ald 0 (s_ild 5 (s_cv r 241 1 12 (s_ist 6 (s_ild 6 (s_cs r 240 1 (s_ifeq (kX12_reads_83 r) (s_ild 4 (s_push (.int (12)) (s_icne (kX12_reads_63 r) (s_push (.int (0)) (s_zret)))))))))))))))
theorem vX12_reads_29 : pu_cok2 kX12_reads_29 := fun rf r hr => by
  unfold kX12_reads_29
  exact v_ild (v_ald (v_gi (v_icge (vX12_reads_116 rf r hr) (v_ald (v_ild (v_cv hr (v_ist (v_ild (v_cs hr (v_ifeq (vX12_reads_83 rf r hr) (v_ild (v_pi (v_icne (vX12_reads_63 rf r hr) (v_pi (v_zret)))))))))))))))
theorem tX12_reads_29 {X : pu_X} {r : pu_R} (hX : pu_H X mdX12_reads) (hr : pu_P X.2.1 X.2.2.2.2.2.2.2.2.2.2.1 r) (hq : ∀ i pc, pu_lp i = some (243, pc) → pu_S X mdX12_reads pc (r i)) : pu_S X mdX12_reads 29 (kX12_reads_29 r) := by
  unfold kX12_reads_29
  exact z_ild hX dX12_reads_29 (z_ald_n hX dX12_reads_31 rfl (z_gi (c := 12) (j := 6) hX dX12_reads_32 rfl inlX12 wm8_1 ⟨rfl, by decide, rfl⟩ (z_icge hX dX12_reads_35 (by decide) (tX12_reads_116 hX hr hq) (z_ald_n hX dX12_reads_38 rfl (z_ild hX dX12_reads_39 (z_cv (c := 12) hX hr dX12_reads_41 hjX12_here mwX12_here rfl wm15_8 ⟨wm15_9, wm15_10⟩ ⟨Nat.le_of_ble_eq_true rfl, Nat.le_of_ble_eq_true rfl⟩ (z_ist hX dX12_reads_44 (z_ild hX dX12_reads_46 (z_cs hX hr dX12_reads_48 hjX12_isLetter mwX12_isLetter wm15_12 wm15_13 ⟨Nat.le_of_ble_eq_true rfl, Nat.le_of_ble_eq_true rfl⟩ (z_ifeq hX dX12_reads_51 (by decide) (tX12_reads_83 hX hr hq) (z_ild hX dX12_reads_54 (z_bipush hX dX12_reads_56 (by decide) (z_icne hX dX12_reads_58 (by decide) (tX12_reads_63 hX hr hq) (z_iconst hX dX12_reads_61 (by decide) (z_zret hX dX12_reads_62 rfl)))))))))))))))
def kX12_reads_21 (r : pu_R) : pu_K := s_push (.int (0)) (s_ist 3 (s_push (.int (0)) (s_ist 4 (s_push (.int (0)) (s_ist 5 ((r 437)))))))
theorem vX12_reads_21 : pu_cok2 kX12_reads_21 := fun rf r hr => by
  unfold kX12_reads_21
  exact v_pi (v_ist (v_pi (v_ist (v_pi (v_ist ((hr 437)))))))
theorem tX12_reads_21 {X : pu_X} {r : pu_R} (hX : pu_H X mdX12_reads) (hr : pu_P X.2.1 X.2.2.2.2.2.2.2.2.2.2.1 r) (hq : ∀ i pc, pu_lp i = some (243, pc) → pu_S X mdX12_reads pc (r i)) : pu_S X mdX12_reads 21 (kX12_reads_21 r) := by
  unfold kX12_reads_21
  exact z_iconst hX dX12_reads_21 (by decide) (z_ist_n hX dX12_reads_22 rfl (z_iconst hX dX12_reads_23 (by decide) (z_ist hX dX12_reads_24 (z_iconst hX dX12_reads_26 (by decide) (z_ist hX dX12_reads_27 ((hq 437 29 hl437)))))))
def kX12_reads_2 (r : pu_R) : pu_K := s_ild 3 (s_push (.int (36)) (s_icge (kX12_reads_21 r) (s_ald 0 (s_gr 12 9 (s_ild 3 (s_push (.int (0)) (s_wi 1 (s_inc 3 (1) ((r 436))))))))))
theorem vX12_reads_2 : pu_cok2 kX12_reads_2 := fun rf r hr => by
  unfold kX12_reads_2
  exact v_ild (v_pi (v_icge (vX12_reads_21 rf r hr) (v_ald (v_gr (v_ild (v_pi (v_wi (v_inc ((hr 436))))))))))
theorem tX12_reads_2 {X : pu_X} {r : pu_R} (hX : pu_H X mdX12_reads) (hr : pu_P X.2.1 X.2.2.2.2.2.2.2.2.2.2.1 r) (hq : ∀ i pc, pu_lp i = some (243, pc) → pu_S X mdX12_reads pc (r i)) : pu_S X mdX12_reads 2 (kX12_reads_2 r) := by
  unfold kX12_reads_2
  exact z_ild_n hX dX12_reads_2 rfl (z_bipush hX dX12_reads_3 (by decide) (z_icge hX dX12_reads_5 (by decide) (tX12_reads_21 hX hr hq) (z_ald_n hX dX12_reads_8 rfl (z_gr (c := 12) (j := 9) hX dX12_reads_9 rfl inlX12 wm8_4 ⟨rfl, by decide, rfl⟩ (z_ild_n hX dX12_reads_12 rfl (z_iconst hX dX12_reads_13 (by decide) (z_iast hX dX12_reads_14 (z_inc hX dX12_reads_15 (by decide) ((z_goto hX dX12_reads_18 (by decide) (hq 436 2 hl436)))))))))))
def kX12_reads_0 (r : pu_R) : pu_K := s_push (.int (0)) (s_ist 3 ((r 436)))
theorem vX12_reads_0 : pu_cok2 kX12_reads_0 := fun rf r hr => by
  unfold kX12_reads_0
  exact v_pi (v_ist ((hr 436)))
theorem tX12_reads_0 {X : pu_X} {r : pu_R} (hX : pu_H X mdX12_reads) (hr : pu_P X.2.1 X.2.2.2.2.2.2.2.2.2.2.1 r) (hq : ∀ i pc, pu_lp i = some (243, pc) → pu_S X mdX12_reads pc (r i)) : pu_S X mdX12_reads 0 (kX12_reads_0 r) := by
  unfold kX12_reads_0
  exact z_iconst hX dX12_reads_0 (by decide) (z_ist_n hX dX12_reads_1 rfl ((hq 436 2 hl436)))
def kX12_readsName_49 (r : pu_R) : pu_K := s_push (.int (1)) (s_zret)
theorem vX12_readsName_49 : pu_cok2 kX12_readsName_49 := fun rf r hr => by
  unfold kX12_readsName_49
  exact v_pi (v_zret)
theorem tX12_readsName_49 {X : pu_X} {r : pu_R} (hX : pu_H X mdX12_readsName) (hr : pu_P X.2.1 X.2.2.2.2.2.2.2.2.2.2.1 r) (hq : ∀ i pc, pu_lp i = some (244, pc) → pu_S X mdX12_readsName pc (r i)) : pu_S X mdX12_readsName 49 (kX12_readsName_49 r) := by
  unfold kX12_readsName_49
  exact z_iconst hX dX12_readsName_49 (by decide) (z_zret hX dX12_readsName_50 rfl)
def kX12_readsName_43 (r : pu_R) : pu_K := s_inc 1 (1) ((r 438))
theorem vX12_readsName_43 : pu_cok2 kX12_readsName_43 := fun rf r hr => by
  unfold kX12_readsName_43
  exact v_inc ((hr 438))
theorem tX12_readsName_43 {X : pu_X} {r : pu_R} (hX : pu_H X mdX12_readsName) (hr : pu_P X.2.1 X.2.2.2.2.2.2.2.2.2.2.1 r) (hq : ∀ i pc, pu_lp i = some (244, pc) → pu_S X mdX12_readsName pc (r i)) : pu_S X mdX12_readsName 43 (kX12_readsName_43 r) := by
  unfold kX12_readsName_43
  exact z_inc hX dX12_readsName_43 (by decide) ((z_goto hX dX12_readsName_46 (by decide) (hq 438 17 hl438)))
def kX12_readsName_17 (r : pu_R) : pu_K := s_ild 1 (s_push (.int (3)) (s_icge (kX12_readsName_49 r) (s_ald 0 (s_gr 12 9 (s_push (.int (12)) (s_ild 1 (s_imul (s_ai 1 (s_ifeq (kX12_readsName_43 r) (s_ald 0 (s_ald 0 (s_gr 12 9 (s_ild 1 (s_cv r 242 2 12 ((kX12_readsName_43 r))))))))))))))))
theorem vX12_readsName_17 : pu_cok2 kX12_readsName_17 := fun rf r hr => by
  unfold kX12_readsName_17
  exact v_ild (v_pi (v_icge (vX12_readsName_49 rf r hr) (v_ald (v_gr (v_pi (v_ild (v_imul (v_ai (v_ifeq (vX12_readsName_43 rf r hr) (v_ald (v_ald (v_gr (v_ild (v_cv hr ((vX12_readsName_43 rf r hr))))))))))))))))
theorem tX12_readsName_17 {X : pu_X} {r : pu_R} (hX : pu_H X mdX12_readsName) (hr : pu_P X.2.1 X.2.2.2.2.2.2.2.2.2.2.1 r) (hq : ∀ i pc, pu_lp i = some (244, pc) → pu_S X mdX12_readsName pc (r i)) : pu_S X mdX12_readsName 17 (kX12_readsName_17 r) := by
  unfold kX12_readsName_17
  exact z_ild_n hX dX12_readsName_17 rfl (z_iconst hX dX12_readsName_18 (by decide) (z_icge hX dX12_readsName_19 (by decide) (tX12_readsName_49 hX hr hq) (z_ald_n hX dX12_readsName_22 rfl (z_gr (c := 12) (j := 9) hX dX12_readsName_23 rfl inlX12 wm8_4 ⟨rfl, by decide, rfl⟩ (z_bipush hX dX12_readsName_26 (by decide) (z_ild_n hX dX12_readsName_28 rfl (z_imul hX dX12_readsName_29 (z_iald hX dX12_readsName_30 (z_ifeq hX dX12_readsName_31 (by decide) (tX12_readsName_43 hX hr hq) (z_ald_n hX dX12_readsName_34 rfl (z_ald_n hX dX12_readsName_35 rfl (z_gr (c := 12) (j := 9) hX dX12_readsName_36 rfl inlX12 wm8_4 ⟨rfl, by decide, rfl⟩ (z_ild_n hX dX12_readsName_39 rfl (z_cv (c := 12) hX hr dX12_readsName_40 hjX12_lengthen mwX12_lengthen rfl wm15_15 ⟨wm15_16, wm15_17⟩ ⟨Nat.le_of_ble_eq_true rfl, Nat.le_of_ble_eq_true rfl⟩ ((tX12_readsName_43 hX hr hq))))))))))))))))
def kX12_readsName_15 (r : pu_R) : pu_K := s_push (.int (0)) (s_ist 1 ((r 438)))
theorem vX12_readsName_15 : pu_cok2 kX12_readsName_15 := fun rf r hr => by
  unfold kX12_readsName_15
  exact v_pi (v_ist ((hr 438)))
theorem tX12_readsName_15 {X : pu_X} {r : pu_R} (hX : pu_H X mdX12_readsName) (hr : pu_P X.2.1 X.2.2.2.2.2.2.2.2.2.2.1 r) (hq : ∀ i pc, pu_lp i = some (244, pc) → pu_S X mdX12_readsName pc (r i)) : pu_S X mdX12_readsName 15 (kX12_readsName_15 r) := by
  unfold kX12_readsName_15
  exact z_iconst hX dX12_readsName_15 (by decide) (z_ist_n hX dX12_readsName_16 rfl ((hq 438 17 hl438)))
def kX12_readsName_0 (r : pu_R) : pu_K := s_ald 0 (s_cv r 233 0 12 (s_ald 0 (s_push (.int (1)) (s_push (.int (3)) (s_cv r 243 2 12 (s_ifne (kX12_readsName_15 r) (s_push (.int (0)) (s_zret))))))))
theorem vX12_readsName_0 : pu_cok2 kX12_readsName_0 := fun rf r hr => by
  unfold kX12_readsName_0
  exact v_ald (v_cv hr (v_ald (v_pi (v_pi (v_cv hr (v_ifne (vX12_readsName_15 rf r hr) (v_pi (v_zret))))))))
theorem tX12_readsName_0 {X : pu_X} {r : pu_R} (hX : pu_H X mdX12_readsName) (hr : pu_P X.2.1 X.2.2.2.2.2.2.2.2.2.2.1 r) (hq : ∀ i pc, pu_lp i = some (244, pc) → pu_S X mdX12_readsName pc (r i)) : pu_S X mdX12_readsName 0 (kX12_readsName_0 r) := by
  unfold kX12_readsName_0
  exact z_ald_n hX dX12_readsName_0 rfl (z_cv (c := 12) hX hr dX12_readsName_1 hjX12_takes mwX12_takes rfl wm15_0 ⟨wm15_1, wm15_2⟩ ⟨Nat.le_of_ble_eq_true rfl, Nat.le_of_ble_eq_true rfl⟩ (z_ald_n hX dX12_readsName_4 rfl (z_iconst hX dX12_readsName_5 (by decide) (z_iconst hX dX12_readsName_6 (by decide) (z_cv (c := 12) hX hr dX12_readsName_7 hjX12_reads mwX12_reads rfl wm15_4 ⟨wm15_5, wm15_6⟩ ⟨Nat.le_of_ble_eq_true rfl, Nat.le_of_ble_eq_true rfl⟩ (z_ifne hX dX12_readsName_10 (by decide) (tX12_readsName_15 hX hr hq) (z_iconst hX dX12_readsName_13 (by decide) (z_zret hX dX12_readsName_14 rfl))))))))
def kX12_isName_50 (r : pu_R) : pu_K := s_ild 3 (s_zret)
theorem vX12_isName_50 : pu_cok2 kX12_isName_50 := fun rf r hr => by
  unfold kX12_isName_50
  exact v_ild (v_zret)
theorem tX12_isName_50 {X : pu_X} {r : pu_R} (hX : pu_H X mdX12_isName) (hr : pu_P X.2.1 X.2.2.2.2.2.2.2.2.2.2.1 r) (hq : ∀ i pc, pu_lp i = some (245, pc) → pu_S X mdX12_isName pc (r i)) : pu_S X mdX12_isName 50 (kX12_isName_50 r) := by
  unfold kX12_isName_50
  exact z_ild_n hX dX12_isName_50 rfl (z_zret hX dX12_isName_51 rfl)
def kX12_isName_43 (r : pu_R) : pu_K := s_ist 3 (s_inc 4 (1) ((r 439)))
theorem vX12_isName_43 : pu_cok2 kX12_isName_43 := fun rf r hr => by
  unfold kX12_isName_43
  exact v_ist (v_inc ((hr 439)))
theorem tX12_isName_43 {X : pu_X} {r : pu_R} (hX : pu_H X mdX12_isName) (hr : pu_P X.2.1 X.2.2.2.2.2.2.2.2.2.2.1 r) (hq : ∀ i pc, pu_lp i = some (245, pc) → pu_S X mdX12_isName pc (r i)) : pu_S X mdX12_isName 43 (kX12_isName_43 r) := by
  unfold kX12_isName_43
  exact z_ist_n hX dX12_isName_43 rfl (z_inc hX dX12_isName_44 (by decide) ((z_goto hX dX12_isName_47 (by decide) (hq 439 5 hl439))))
def kX12_isName_42 (r : pu_R) : pu_K := s_push (.int (0)) ((kX12_isName_43 r))
theorem vX12_isName_42 : pu_cok2 kX12_isName_42 := fun rf r hr => by
  unfold kX12_isName_42
  exact v_pi ((vX12_isName_43 rf r hr))
theorem tX12_isName_42 {X : pu_X} {r : pu_R} (hX : pu_H X mdX12_isName) (hr : pu_P X.2.1 X.2.2.2.2.2.2.2.2.2.2.1 r) (hq : ∀ i pc, pu_lp i = some (245, pc) → pu_S X mdX12_isName pc (r i)) : pu_S X mdX12_isName 42 (kX12_isName_42 r) := by
  unfold kX12_isName_42
  exact z_iconst hX dX12_isName_42 (by decide) ((tX12_isName_43 hX hr hq))
def kX12_isName_5 (r : pu_R) : pu_K := s_ild 4 (s_push (.int (36)) (s_icge (kX12_isName_50 r) (s_ild 3 (s_ifeq (kX12_isName_50 r) (s_ald 1 (s_ild 4 (s_ai 1 (s_ald 0 (s_gr 12 0 (s_push (.int (32)) (s_push (.int (36)) (s_ild 2 (s_imul (s_iadd (s_ild 4 (s_iadd (s_ai 1 (s_icne (kX12_isName_42 r) (s_push (.int (1)) ((kX12_isName_43 r)))))))))))))))))))))
theorem vX12_isName_5 : pu_cok2 kX12_isName_5 := fun rf r hr => by
  unfold kX12_isName_5
  exact v_ild (v_pi (v_icge (vX12_isName_50 rf r hr) (v_ild (v_ifeq (vX12_isName_50 rf r hr) (v_ald (v_ild (v_ai (v_ald (v_gr (v_pi (v_pi (v_ild (v_imul (v_iadd (v_ild (v_iadd (v_ai (v_icne (vX12_isName_42 rf r hr) (v_pi ((vX12_isName_43 rf r hr)))))))))))))))))))))
theorem tX12_isName_5 {X : pu_X} {r : pu_R} (hX : pu_H X mdX12_isName) (hr : pu_P X.2.1 X.2.2.2.2.2.2.2.2.2.2.1 r) (hq : ∀ i pc, pu_lp i = some (245, pc) → pu_S X mdX12_isName pc (r i)) : pu_S X mdX12_isName 5 (kX12_isName_5 r) := by
  unfold kX12_isName_5
  exact z_ild hX dX12_isName_5 (z_bipush hX dX12_isName_7 (by decide) (z_icge hX dX12_isName_9 (by decide) (tX12_isName_50 hX hr hq) (z_ild_n hX dX12_isName_12 rfl (z_ifeq hX dX12_isName_13 (by decide) (tX12_isName_50 hX hr hq) (z_ald_n hX dX12_isName_16 rfl (z_ild hX dX12_isName_17 (z_iald hX dX12_isName_19 (z_ald_n hX dX12_isName_20 rfl (z_gr (c := 12) (j := 0) hX dX12_isName_21 rfl inlX12 wm7_16 ⟨rfl, by decide, rfl⟩ (z_bipush hX dX12_isName_24 (by decide) (z_bipush hX dX12_isName_26 (by decide) (z_ild_n hX dX12_isName_28 rfl (z_imul hX dX12_isName_29 (z_iadd hX dX12_isName_30 (z_ild hX dX12_isName_31 (z_iadd hX dX12_isName_33 (z_iald hX dX12_isName_34 (z_icne hX dX12_isName_35 (by decide) (tX12_isName_42 hX hr hq) (z_iconst hX dX12_isName_38 (by decide) ((z_goto hX dX12_isName_39 (by decide) (tX12_isName_43 hX hr hq))))))))))))))))))))))
def kX12_isName_0 (r : pu_R) : pu_K := s_push (.int (1)) (s_ist 3 (s_push (.int (0)) (s_ist 4 ((r 439)))))
theorem vX12_isName_0 : pu_cok2 kX12_isName_0 := fun rf r hr => by
  unfold kX12_isName_0
  exact v_pi (v_ist (v_pi (v_ist ((hr 439)))))
theorem tX12_isName_0 {X : pu_X} {r : pu_R} (hX : pu_H X mdX12_isName) (hr : pu_P X.2.1 X.2.2.2.2.2.2.2.2.2.2.1 r) (hq : ∀ i pc, pu_lp i = some (245, pc) → pu_S X mdX12_isName pc (r i)) : pu_S X mdX12_isName 0 (kX12_isName_0 r) := by
  unfold kX12_isName_0
  exact z_iconst hX dX12_isName_0 (by decide) (z_ist_n hX dX12_isName_1 rfl (z_iconst hX dX12_isName_2 (by decide) (z_ist hX dX12_isName_3 ((hq 439 5 hl439)))))
def kX12_areAlike_61 (r : pu_R) : pu_K := s_ild 3 (s_zret)
theorem vX12_areAlike_61 : pu_cok2 kX12_areAlike_61 := fun rf r hr => by
  unfold kX12_areAlike_61
  exact v_ild (v_zret)
theorem tX12_areAlike_61 {X : pu_X} {r : pu_R} (hX : pu_H X mdX12_areAlike) (hr : pu_P X.2.1 X.2.2.2.2.2.2.2.2.2.2.1 r) (hq : ∀ i pc, pu_lp i = some (246, pc) → pu_S X mdX12_areAlike pc (r i)) : pu_S X mdX12_areAlike 61 (kX12_areAlike_61 r) := by
  unfold kX12_areAlike_61
  exact z_ild_n hX dX12_areAlike_61 rfl (z_zret hX dX12_areAlike_62 rfl)
def kX12_areAlike_54 (r : pu_R) : pu_K := s_ist 3 (s_inc 4 (1) ((r 440)))
theorem vX12_areAlike_54 : pu_cok2 kX12_areAlike_54 := fun rf r hr => by
  unfold kX12_areAlike_54
  exact v_ist (v_inc ((hr 440)))
theorem tX12_areAlike_54 {X : pu_X} {r : pu_R} (hX : pu_H X mdX12_areAlike) (hr : pu_P X.2.1 X.2.2.2.2.2.2.2.2.2.2.1 r) (hq : ∀ i pc, pu_lp i = some (246, pc) → pu_S X mdX12_areAlike pc (r i)) : pu_S X mdX12_areAlike 54 (kX12_areAlike_54 r) := by
  unfold kX12_areAlike_54
  exact z_ist_n hX dX12_areAlike_54 rfl (z_inc hX dX12_areAlike_55 (by decide) ((z_goto hX dX12_areAlike_58 (by decide) (hq 440 5 hl440))))
def kX12_areAlike_53 (r : pu_R) : pu_K := s_push (.int (0)) ((kX12_areAlike_54 r))
theorem vX12_areAlike_53 : pu_cok2 kX12_areAlike_53 := fun rf r hr => by
  unfold kX12_areAlike_53
  exact v_pi ((vX12_areAlike_54 rf r hr))
theorem tX12_areAlike_53 {X : pu_X} {r : pu_R} (hX : pu_H X mdX12_areAlike) (hr : pu_P X.2.1 X.2.2.2.2.2.2.2.2.2.2.1 r) (hq : ∀ i pc, pu_lp i = some (246, pc) → pu_S X mdX12_areAlike pc (r i)) : pu_S X mdX12_areAlike 53 (kX12_areAlike_53 r) := by
  unfold kX12_areAlike_53
  exact z_iconst hX dX12_areAlike_53 (by decide) ((tX12_areAlike_54 hX hr hq))
def kX12_areAlike_45 (r : pu_R) : pu_K := s_ai 1 (s_icne (kX12_areAlike_53 r) (s_push (.int (1)) ((kX12_areAlike_54 r))))
theorem vX12_areAlike_45 : pu_cok2 kX12_areAlike_45 := fun rf r hr => by
  unfold kX12_areAlike_45
  exact v_ai (v_icne (vX12_areAlike_53 rf r hr) (v_pi ((vX12_areAlike_54 rf r hr))))
theorem tX12_areAlike_45 {X : pu_X} {r : pu_R} (hX : pu_H X mdX12_areAlike) (hr : pu_P X.2.1 X.2.2.2.2.2.2.2.2.2.2.1 r) (hq : ∀ i pc, pu_lp i = some (246, pc) → pu_S X mdX12_areAlike pc (r i)) : pu_S X mdX12_areAlike 45 (kX12_areAlike_45 r) := by
  unfold kX12_areAlike_45
  exact z_iald hX dX12_areAlike_45 (z_icne hX dX12_areAlike_46 (by decide) (tX12_areAlike_53 hX hr hq) (z_iconst hX dX12_areAlike_49 (by decide) ((z_goto hX dX12_areAlike_50 (by decide) (tX12_areAlike_54 hX hr hq)))))
def kX12_areAlike_5 (r : pu_R) : pu_K := s_ild 4 (s_push (.int (36)) (s_icge (kX12_areAlike_61 r) (s_ild 3 (s_ifeq (kX12_areAlike_61 r) (s_ald 0 (s_gr 12 0 (s_push (.int (32)) (s_push (.int (36)) (s_ild 1 (s_imul (s_iadd (s_ild 4 (s_iadd (s_ai 1 (s_ald 0 (s_gr 12 0 (s_push (.int (32)) (s_push (.int (36)) (s_ild 2 (s_imul (s_iadd (s_ild 4 (s_iadd ((kX12_areAlike_45 r)))))))))))))))))))))))))
theorem vX12_areAlike_5 : pu_cok2 kX12_areAlike_5 := fun rf r hr => by
  unfold kX12_areAlike_5
  exact v_ild (v_pi (v_icge (vX12_areAlike_61 rf r hr) (v_ild (v_ifeq (vX12_areAlike_61 rf r hr) (v_ald (v_gr (v_pi (v_pi (v_ild (v_imul (v_iadd (v_ild (v_iadd (v_ai (v_ald (v_gr (v_pi (v_pi (v_ild (v_imul (v_iadd (v_ild (v_iadd ((vX12_areAlike_45 rf r hr)))))))))))))))))))))))))
theorem tX12_areAlike_5 {X : pu_X} {r : pu_R} (hX : pu_H X mdX12_areAlike) (hr : pu_P X.2.1 X.2.2.2.2.2.2.2.2.2.2.1 r) (hq : ∀ i pc, pu_lp i = some (246, pc) → pu_S X mdX12_areAlike pc (r i)) : pu_S X mdX12_areAlike 5 (kX12_areAlike_5 r) := by
  unfold kX12_areAlike_5
  exact z_ild hX dX12_areAlike_5 (z_bipush hX dX12_areAlike_7 (by decide) (z_icge hX dX12_areAlike_9 (by decide) (tX12_areAlike_61 hX hr hq) (z_ild_n hX dX12_areAlike_12 rfl (z_ifeq hX dX12_areAlike_13 (by decide) (tX12_areAlike_61 hX hr hq) (z_ald_n hX dX12_areAlike_16 rfl (z_gr (c := 12) (j := 0) hX dX12_areAlike_17 rfl inlX12 wm7_16 ⟨rfl, by decide, rfl⟩ (z_bipush hX dX12_areAlike_20 (by decide) (z_bipush hX dX12_areAlike_22 (by decide) (z_ild_n hX dX12_areAlike_24 rfl (z_imul hX dX12_areAlike_25 (z_iadd hX dX12_areAlike_26 (z_ild hX dX12_areAlike_27 (z_iadd hX dX12_areAlike_29 (z_iald hX dX12_areAlike_30 (z_ald_n hX dX12_areAlike_31 rfl (z_gr (c := 12) (j := 0) hX dX12_areAlike_32 rfl inlX12 wm7_16 ⟨rfl, by decide, rfl⟩ (z_bipush hX dX12_areAlike_35 (by decide) (z_bipush hX dX12_areAlike_37 (by decide) (z_ild_n hX dX12_areAlike_39 rfl (z_imul hX dX12_areAlike_40 (z_iadd hX dX12_areAlike_41 (z_ild hX dX12_areAlike_42 (z_iadd hX dX12_areAlike_44 ((tX12_areAlike_45 hX hr hq)))))))))))))))))))))))))
def kX12_areAlike_0 (r : pu_R) : pu_K := s_push (.int (1)) (s_ist 3 (s_push (.int (0)) (s_ist 4 ((r 440)))))
theorem vX12_areAlike_0 : pu_cok2 kX12_areAlike_0 := fun rf r hr => by
  unfold kX12_areAlike_0
  exact v_pi (v_ist (v_pi (v_ist ((hr 440)))))
theorem tX12_areAlike_0 {X : pu_X} {r : pu_R} (hX : pu_H X mdX12_areAlike) (hr : pu_P X.2.1 X.2.2.2.2.2.2.2.2.2.2.1 r) (hq : ∀ i pc, pu_lp i = some (246, pc) → pu_S X mdX12_areAlike pc (r i)) : pu_S X mdX12_areAlike 0 (kX12_areAlike_0 r) := by
  unfold kX12_areAlike_0
  exact z_iconst hX dX12_areAlike_0 (by decide) (z_ist_n hX dX12_areAlike_1 rfl (z_iconst hX dX12_areAlike_2 (by decide) (z_ist hX dX12_areAlike_3 ((hq 440 5 hl440)))))
def kX12_keepName_34 (r : pu_R) : pu_K := s_vret
theorem vX12_keepName_34 : pu_cok2 kX12_keepName_34 := fun rf r hr => by
  unfold kX12_keepName_34
  exact v_vret
theorem tX12_keepName_34 {X : pu_X} {r : pu_R} (hX : pu_H X mdX12_keepName) (hr : pu_P X.2.1 X.2.2.2.2.2.2.2.2.2.2.1 r) (hq : ∀ i pc, pu_lp i = some (247, pc) → pu_S X mdX12_keepName pc (r i)) : pu_S X mdX12_keepName 34 (kX12_keepName_34 r) := by
  unfold kX12_keepName_34
  exact z_vret hX dX12_keepName_34 rfl
def kX12_keepName_2 (r : pu_R) : pu_K := s_ild 2 (s_push (.int (36)) (s_icge (kX12_keepName_34 r) (s_ald 0 (s_gr 12 0 (s_push (.int (32)) (s_push (.int (36)) (s_ild 1 (s_imul (s_iadd (s_ild 2 (s_iadd (s_ald 0 (s_gr 12 9 (s_ild 2 (s_ai 1 (s_wi 1 (s_inc 2 (1) ((r 441)))))))))))))))))))
theorem vX12_keepName_2 : pu_cok2 kX12_keepName_2 := fun rf r hr => by
  unfold kX12_keepName_2
  exact v_ild (v_pi (v_icge (vX12_keepName_34 rf r hr) (v_ald (v_gr (v_pi (v_pi (v_ild (v_imul (v_iadd (v_ild (v_iadd (v_ald (v_gr (v_ild (v_ai (v_wi (v_inc ((hr 441)))))))))))))))))))
theorem tX12_keepName_2 {X : pu_X} {r : pu_R} (hX : pu_H X mdX12_keepName) (hr : pu_P X.2.1 X.2.2.2.2.2.2.2.2.2.2.1 r) (hq : ∀ i pc, pu_lp i = some (247, pc) → pu_S X mdX12_keepName pc (r i)) : pu_S X mdX12_keepName 2 (kX12_keepName_2 r) := by
  unfold kX12_keepName_2
  exact z_ild_n hX dX12_keepName_2 rfl (z_bipush hX dX12_keepName_3 (by decide) (z_icge hX dX12_keepName_5 (by decide) (tX12_keepName_34 hX hr hq) (z_ald_n hX dX12_keepName_8 rfl (z_gr (c := 12) (j := 0) hX dX12_keepName_9 rfl inlX12 wm7_16 ⟨rfl, by decide, rfl⟩ (z_bipush hX dX12_keepName_12 (by decide) (z_bipush hX dX12_keepName_14 (by decide) (z_ild_n hX dX12_keepName_16 rfl (z_imul hX dX12_keepName_17 (z_iadd hX dX12_keepName_18 (z_ild_n hX dX12_keepName_19 rfl (z_iadd hX dX12_keepName_20 (z_ald_n hX dX12_keepName_21 rfl (z_gr (c := 12) (j := 9) hX dX12_keepName_22 rfl inlX12 wm8_4 ⟨rfl, by decide, rfl⟩ (z_ild_n hX dX12_keepName_25 rfl (z_iald hX dX12_keepName_26 (z_iast hX dX12_keepName_27 (z_inc hX dX12_keepName_28 (by decide) ((z_goto hX dX12_keepName_31 (by decide) (hq 441 2 hl441))))))))))))))))))))
def kX12_keepName_0 (r : pu_R) : pu_K := s_push (.int (0)) (s_ist 2 ((r 441)))
theorem vX12_keepName_0 : pu_cok2 kX12_keepName_0 := fun rf r hr => by
  unfold kX12_keepName_0
  exact v_pi (v_ist ((hr 441)))
theorem tX12_keepName_0 {X : pu_X} {r : pu_R} (hX : pu_H X mdX12_keepName) (hr : pu_P X.2.1 X.2.2.2.2.2.2.2.2.2.2.1 r) (hq : ∀ i pc, pu_lp i = some (247, pc) → pu_S X mdX12_keepName pc (r i)) : pu_S X mdX12_keepName 0 (kX12_keepName_0 r) := by
  unfold kX12_keepName_0
  exact z_iconst hX dX12_keepName_0 (by decide) (z_ist_n hX dX12_keepName_1 rfl ((hq 441 2 hl441)))
def kX12_town_91 (r : pu_R) : pu_K := s_iret
theorem vX12_town_91 : pu_cok2 kX12_town_91 := fun rf r hr => by
  unfold kX12_town_91
  exact v_iret
theorem tX12_town_91 {X : pu_X} {r : pu_R} (hX : pu_H X mdX12_town) (hr : pu_P X.2.1 X.2.2.2.2.2.2.2.2.2.2.1 r) (hq : ∀ i pc, pu_lp i = some (248, pc) → pu_S X mdX12_town pc (r i)) : pu_S X mdX12_town 91 (kX12_town_91 r) := by
  unfold kX12_town_91
  exact z_iret hX dX12_town_91 rfl
def kX12_town_57 (r : pu_R) : pu_K := s_ald 0 (s_gr 12 0 (s_push (.int (2)) (s_ai 1 (s_ist 1 (s_ald 0 (s_ild 1 (s_cv r 247 1 12 (s_ald 0 (s_gr 12 0 (s_push (.int (7520)) (s_ild 1 (s_iadd (s_push (.int (-1)) (s_wi 1 (s_ald 0 (s_gr 12 0 (s_push (.int (2)) (s_dup2 (s_ai 1 (s_push (.int (1)) (s_iadd (s_wi 1 (s_ild 1 ((kX12_town_91 r)))))))))))))))))))))))))
theorem vX12_town_57 : pu_cok2 kX12_town_57 := fun rf r hr => by
  unfold kX12_town_57
  exact v_ald (v_gr (v_pi (v_ai (v_ist (v_ald (v_ild (v_cv hr (v_ald (v_gr (v_pi (v_ild (v_iadd (v_pi (v_wi (v_ald (v_gr (v_pi (v_dup2 (v_ai (v_pi (v_iadd (v_wi (v_ild ((vX12_town_91 rf r hr)))))))))))))))))))))))))
theorem tX12_town_57 {X : pu_X} {r : pu_R} (hX : pu_H X mdX12_town) (hr : pu_P X.2.1 X.2.2.2.2.2.2.2.2.2.2.1 r) (hq : ∀ i pc, pu_lp i = some (248, pc) → pu_S X mdX12_town pc (r i)) : pu_S X mdX12_town 57 (kX12_town_57 r) := by
  unfold kX12_town_57
  exact z_ald_n hX dX12_town_57 rfl (z_gr (c := 12) (j := 0) hX dX12_town_58 rfl inlX12 wm7_16 ⟨rfl, by decide, rfl⟩ (z_iconst hX dX12_town_61 (by decide) (z_iald hX dX12_town_62 (z_ist_n hX dX12_town_63 rfl (z_ald_n hX dX12_town_64 rfl (z_ild_n hX dX12_town_65 rfl (z_cv (c := 12) hX hr dX12_town_66 hjX12_keepName mwX12_keepName rfl wm15_23 ⟨wm16_0, wm16_1⟩ ⟨Nat.le_of_ble_eq_true rfl, Nat.le_of_ble_eq_true rfl⟩ (z_ald_n hX dX12_town_69 rfl (z_gr (c := 12) (j := 0) hX dX12_town_70 rfl inlX12 wm7_16 ⟨rfl, by decide, rfl⟩ (z_sipush hX dX12_town_73 (by decide) (z_ild_n hX dX12_town_76 rfl (z_iadd hX dX12_town_77 (z_iconst hX dX12_town_78 (by decide) (z_iast hX dX12_town_79 (z_ald_n hX dX12_town_80 rfl (z_gr (c := 12) (j := 0) hX dX12_town_81 rfl inlX12 wm7_16 ⟨rfl, by decide, rfl⟩ (z_iconst hX dX12_town_84 (by decide) (z_dup2 hX dX12_town_85 (z_iald hX dX12_town_86 (z_iconst hX dX12_town_87 (by decide) (z_iadd hX dX12_town_88 (z_iast hX dX12_town_89 (z_ild_n hX dX12_town_90 rfl ((tX12_town_91 hX hr hq)))))))))))))))))))))))))
def kX12_town_43 (r : pu_R) : pu_K := s_ald 0 (s_gr 12 0 (s_push (.int (2)) (s_ai 1 (s_push (.int (8)) (s_icne (kX12_town_57 r) (s_push (.int (-6)) (s_iret)))))))
theorem vX12_town_43 : pu_cok2 kX12_town_43 := fun rf r hr => by
  unfold kX12_town_43
  exact v_ald (v_gr (v_pi (v_ai (v_pi (v_icne (vX12_town_57 rf r hr) (v_pi (v_iret)))))))
theorem tX12_town_43 {X : pu_X} {r : pu_R} (hX : pu_H X mdX12_town) (hr : pu_P X.2.1 X.2.2.2.2.2.2.2.2.2.2.1 r) (hq : ∀ i pc, pu_lp i = some (248, pc) → pu_S X mdX12_town pc (r i)) : pu_S X mdX12_town 43 (kX12_town_43 r) := by
  unfold kX12_town_43
  exact z_ald_n hX dX12_town_43 rfl (z_gr (c := 12) (j := 0) hX dX12_town_44 rfl inlX12 wm7_16 ⟨rfl, by decide, rfl⟩ (z_iconst hX dX12_town_47 (by decide) (z_iald hX dX12_town_48 (z_bipush hX dX12_town_49 (by decide) (z_icne hX dX12_town_51 (by decide) (tX12_town_57 hX hr hq) (z_bipush hX dX12_town_54 (by decide) (z_iret hX dX12_town_56 rfl)))))))
def kX12_town_37 (r : pu_R) : pu_K := s_inc 1 (1) ((r 442))
theorem vX12_town_37 : pu_cok2 kX12_town_37 := fun rf r hr => by
  unfold kX12_town_37
  exact v_inc ((hr 442))
theorem tX12_town_37 {X : pu_X} {r : pu_R} (hX : pu_H X mdX12_town) (hr : pu_P X.2.1 X.2.2.2.2.2.2.2.2.2.2.1 r) (hq : ∀ i pc, pu_lp i = some (248, pc) → pu_S X mdX12_town pc (r i)) : pu_S X mdX12_town 37 (kX12_town_37 r) := by
  unfold kX12_town_37
  exact z_inc hX dX12_town_37 (by decide) ((z_goto hX dX12_town_40 (by decide) (hq 442 12 hl442)))
def kX12_town_12 (r : pu_R) : pu_K := s_ild 1 (s_ald 0 (s_gr 12 0 (s_push (.int (2)) (s_ai 1 (s_icge (kX12_town_43 r) (s_ald 0 (s_ald 0 (s_gr 12 9 (s_ild 1 (s_cv r 245 2 12 (s_ifeq (kX12_town_37 r) (s_push (.int (-5)) (s_iret)))))))))))))
theorem vX12_town_12 : pu_cok2 kX12_town_12 := fun rf r hr => by
  unfold kX12_town_12
  exact v_ild (v_ald (v_gr (v_pi (v_ai (v_icge (vX12_town_43 rf r hr) (v_ald (v_ald (v_gr (v_ild (v_cv hr (v_ifeq (vX12_town_37 rf r hr) (v_pi (v_iret)))))))))))))
theorem tX12_town_12 {X : pu_X} {r : pu_R} (hX : pu_H X mdX12_town) (hr : pu_P X.2.1 X.2.2.2.2.2.2.2.2.2.2.1 r) (hq : ∀ i pc, pu_lp i = some (248, pc) → pu_S X mdX12_town pc (r i)) : pu_S X mdX12_town 12 (kX12_town_12 r) := by
  unfold kX12_town_12
  exact z_ild_n hX dX12_town_12 rfl (z_ald_n hX dX12_town_13 rfl (z_gr (c := 12) (j := 0) hX dX12_town_14 rfl inlX12 wm7_16 ⟨rfl, by decide, rfl⟩ (z_iconst hX dX12_town_17 (by decide) (z_iald hX dX12_town_18 (z_icge hX dX12_town_19 (by decide) (tX12_town_43 hX hr hq) (z_ald_n hX dX12_town_22 rfl (z_ald_n hX dX12_town_23 rfl (z_gr (c := 12) (j := 9) hX dX12_town_24 rfl inlX12 wm8_4 ⟨rfl, by decide, rfl⟩ (z_ild_n hX dX12_town_27 rfl (z_cv (c := 12) hX hr dX12_town_28 hjX12_isName mwX12_isName rfl wm15_19 ⟨wm15_20, wm15_21⟩ ⟨Nat.le_of_ble_eq_true rfl, Nat.le_of_ble_eq_true rfl⟩ (z_ifeq hX dX12_town_31 (by decide) (tX12_town_37 hX hr hq) (z_bipush hX dX12_town_34 (by decide) (z_iret hX dX12_town_36 rfl)))))))))))))
def kX12_town_10 (r : pu_R) : pu_K := s_push (.int (0)) (s_ist 1 ((r 442)))
theorem vX12_town_10 : pu_cok2 kX12_town_10 := fun rf r hr => by
  unfold kX12_town_10
  exact v_pi (v_ist ((hr 442)))
theorem tX12_town_10 {X : pu_X} {r : pu_R} (hX : pu_H X mdX12_town) (hr : pu_P X.2.1 X.2.2.2.2.2.2.2.2.2.2.1 r) (hq : ∀ i pc, pu_lp i = some (248, pc) → pu_S X mdX12_town pc (r i)) : pu_S X mdX12_town 10 (kX12_town_10 r) := by
  unfold kX12_town_10
  exact z_iconst hX dX12_town_10 (by decide) (z_ist_n hX dX12_town_11 rfl ((hq 442 12 hl442)))
def kX12_town_0 (r : pu_R) : pu_K := s_ald 0 (s_cv r 244 0 12 (s_ifne (kX12_town_10 r) (s_push (.int (-2)) (s_iret))))
theorem vX12_town_0 : pu_cok2 kX12_town_0 := fun rf r hr => by
  unfold kX12_town_0
  exact v_ald (v_cv hr (v_ifne (vX12_town_10 rf r hr) (v_pi (v_iret))))
theorem tX12_town_0 {X : pu_X} {r : pu_R} (hX : pu_H X mdX12_town) (hr : pu_P X.2.1 X.2.2.2.2.2.2.2.2.2.2.1 r) (hq : ∀ i pc, pu_lp i = some (248, pc) → pu_S X mdX12_town pc (r i)) : pu_S X mdX12_town 0 (kX12_town_0 r) := by
  unfold kX12_town_0
  exact z_ald_n hX dX12_town_0 rfl (z_cv (c := 12) hX hr dX12_town_1 hjX12_readsName mwX12_readsName rfl wm14_20 ⟨wm14_21, wm14_22⟩ ⟨Nat.le_of_ble_eq_true rfl, Nat.le_of_ble_eq_true rfl⟩ (z_ifne hX dX12_town_4 (by decide) (tX12_town_10 hX hr hq) (z_bipush hX dX12_town_7 (by decide) (z_iret hX dX12_town_9 rfl))))
def kX12_isWordOf_77 (r : pu_R) : pu_K := s_push (.int (0)) (s_zret)
theorem vX12_isWordOf_77 : pu_cok2 kX12_isWordOf_77 := fun rf r hr => by
  unfold kX12_isWordOf_77
  exact v_pi (v_zret)
theorem tX12_isWordOf_77 {X : pu_X} {r : pu_R} (hX : pu_H X mdX12_isWordOf) (hr : pu_P X.2.1 X.2.2.2.2.2.2.2.2.2.2.1 r) (hq : ∀ i pc, pu_lp i = some (249, pc) → pu_S X mdX12_isWordOf pc (r i)) : pu_S X mdX12_isWordOf 77 (kX12_isWordOf_77 r) := by
  unfold kX12_isWordOf_77
  exact z_iconst hX dX12_isWordOf_77 (by decide) (z_zret hX dX12_isWordOf_78 rfl)
def kX12_isWordOf_71 (r : pu_R) : pu_K := s_inc 2 (1) ((r 443))
theorem vX12_isWordOf_71 : pu_cok2 kX12_isWordOf_71 := fun rf r hr => by
  unfold kX12_isWordOf_71
  exact v_inc ((hr 443))
theorem tX12_isWordOf_71 {X : pu_X} {r : pu_R} (hX : pu_H X mdX12_isWordOf) (hr : pu_P X.2.1 X.2.2.2.2.2.2.2.2.2.2.1 r) (hq : ∀ i pc, pu_lp i = some (249, pc) → pu_S X mdX12_isWordOf pc (r i)) : pu_S X mdX12_isWordOf 71 (kX12_isWordOf_71 r) := by
  unfold kX12_isWordOf_71
  exact z_inc hX dX12_isWordOf_71 (by decide) ((z_goto hX dX12_isWordOf_74 (by decide) (hq 443 2 hl443)))
def kX12_isWordOf_65 (r : pu_R) : pu_K := s_ild 3 (s_ifeq (kX12_isWordOf_71 r) (s_push (.int (1)) (s_zret)))
theorem vX12_isWordOf_65 : pu_cok2 kX12_isWordOf_65 := fun rf r hr => by
  unfold kX12_isWordOf_65
  exact v_ild (v_ifeq (vX12_isWordOf_71 rf r hr) (v_pi (v_zret)))
theorem tX12_isWordOf_65 {X : pu_X} {r : pu_R} (hX : pu_H X mdX12_isWordOf) (hr : pu_P X.2.1 X.2.2.2.2.2.2.2.2.2.2.1 r) (hq : ∀ i pc, pu_lp i = some (249, pc) → pu_S X mdX12_isWordOf pc (r i)) : pu_S X mdX12_isWordOf 65 (kX12_isWordOf_65 r) := by
  unfold kX12_isWordOf_65
  exact z_ild_n hX dX12_isWordOf_65 rfl (z_ifeq hX dX12_isWordOf_66 (by decide) (tX12_isWordOf_71 hX hr hq) (z_iconst hX dX12_isWordOf_69 (by decide) (z_zret hX dX12_isWordOf_70 rfl)))
def kX12_isWordOf_58 (r : pu_R) : pu_K := s_ist 3 (s_inc 4 (1) ((r 444)))
theorem vX12_isWordOf_58 : pu_cok2 kX12_isWordOf_58 := fun rf r hr => by
  unfold kX12_isWordOf_58
  exact v_ist (v_inc ((hr 444)))
theorem tX12_isWordOf_58 {X : pu_X} {r : pu_R} (hX : pu_H X mdX12_isWordOf) (hr : pu_P X.2.1 X.2.2.2.2.2.2.2.2.2.2.1 r) (hq : ∀ i pc, pu_lp i = some (249, pc) → pu_S X mdX12_isWordOf pc (r i)) : pu_S X mdX12_isWordOf 58 (kX12_isWordOf_58 r) := by
  unfold kX12_isWordOf_58
  exact z_ist_n hX dX12_isWordOf_58 rfl (z_inc hX dX12_isWordOf_59 (by decide) ((z_goto hX dX12_isWordOf_62 (by decide) (hq 444 12 hl444))))
def kX12_isWordOf_57 (r : pu_R) : pu_K := s_push (.int (0)) ((kX12_isWordOf_58 r))
theorem vX12_isWordOf_57 : pu_cok2 kX12_isWordOf_57 := fun rf r hr => by
  unfold kX12_isWordOf_57
  exact v_pi ((vX12_isWordOf_58 rf r hr))
theorem tX12_isWordOf_57 {X : pu_X} {r : pu_R} (hX : pu_H X mdX12_isWordOf) (hr : pu_P X.2.1 X.2.2.2.2.2.2.2.2.2.2.1 r) (hq : ∀ i pc, pu_lp i = some (249, pc) → pu_S X mdX12_isWordOf pc (r i)) : pu_S X mdX12_isWordOf 57 (kX12_isWordOf_57 r) := by
  unfold kX12_isWordOf_57
  exact z_iconst hX dX12_isWordOf_57 (by decide) ((tX12_isWordOf_58 hX hr hq))
def kX12_isWordOf_53 (r : pu_R) : pu_K := s_push (.int (1)) ((kX12_isWordOf_58 r))
theorem vX12_isWordOf_53 : pu_cok2 kX12_isWordOf_53 := fun rf r hr => by
  unfold kX12_isWordOf_53
  exact v_pi ((vX12_isWordOf_58 rf r hr))
theorem tX12_isWordOf_53 {X : pu_X} {r : pu_R} (hX : pu_H X mdX12_isWordOf) (hr : pu_P X.2.1 X.2.2.2.2.2.2.2.2.2.2.1 r) (hq : ∀ i pc, pu_lp i = some (249, pc) → pu_S X mdX12_isWordOf pc (r i)) : pu_S X mdX12_isWordOf 53 (kX12_isWordOf_53 r) := by
  unfold kX12_isWordOf_53
  exact z_iconst hX dX12_isWordOf_53 (by decide) ((z_goto hX dX12_isWordOf_54 (by decide) (tX12_isWordOf_58 hX hr hq)))
def kX12_isWordOf_12 (r : pu_R) : pu_K := s_ild 4 (s_push (.int (12)) (s_icge (kX12_isWordOf_65 r) (s_ild 3 (s_ifeq (kX12_isWordOf_65 r) (s_ald 0 (s_gr 12 9 (s_ild 4 (s_ai 1 (s_ald 0 (s_gr 12 0 (s_push (.int (32)) (s_push (.int (36)) (s_ild 1 (s_imul (s_iadd (s_push (.int (12)) (s_ild 2 (s_imul (s_iadd (s_ild 4 (s_iadd (s_ai 1 (s_icne (kX12_isWordOf_57 r) ((kX12_isWordOf_53 r)))))))))))))))))))))))))
theorem vX12_isWordOf_12 : pu_cok2 kX12_isWordOf_12 := fun rf r hr => by
  unfold kX12_isWordOf_12
  exact v_ild (v_pi (v_icge (vX12_isWordOf_65 rf r hr) (v_ild (v_ifeq (vX12_isWordOf_65 rf r hr) (v_ald (v_gr (v_ild (v_ai (v_ald (v_gr (v_pi (v_pi (v_ild (v_imul (v_iadd (v_pi (v_ild (v_imul (v_iadd (v_ild (v_iadd (v_ai (v_icne (vX12_isWordOf_57 rf r hr) ((vX12_isWordOf_53 rf r hr)))))))))))))))))))))))))
theorem tX12_isWordOf_12 {X : pu_X} {r : pu_R} (hX : pu_H X mdX12_isWordOf) (hr : pu_P X.2.1 X.2.2.2.2.2.2.2.2.2.2.1 r) (hq : ∀ i pc, pu_lp i = some (249, pc) → pu_S X mdX12_isWordOf pc (r i)) : pu_S X mdX12_isWordOf 12 (kX12_isWordOf_12 r) := by
  unfold kX12_isWordOf_12
  exact z_ild hX dX12_isWordOf_12 (z_bipush hX dX12_isWordOf_14 (by decide) (z_icge hX dX12_isWordOf_16 (by decide) (tX12_isWordOf_65 hX hr hq) (z_ild_n hX dX12_isWordOf_19 rfl (z_ifeq hX dX12_isWordOf_20 (by decide) (tX12_isWordOf_65 hX hr hq) (z_ald_n hX dX12_isWordOf_23 rfl (z_gr (c := 12) (j := 9) hX dX12_isWordOf_24 rfl inlX12 wm8_4 ⟨rfl, by decide, rfl⟩ (z_ild hX dX12_isWordOf_27 (z_iald hX dX12_isWordOf_29 (z_ald_n hX dX12_isWordOf_30 rfl (z_gr (c := 12) (j := 0) hX dX12_isWordOf_31 rfl inlX12 wm7_16 ⟨rfl, by decide, rfl⟩ (z_bipush hX dX12_isWordOf_34 (by decide) (z_bipush hX dX12_isWordOf_36 (by decide) (z_ild_n hX dX12_isWordOf_38 rfl (z_imul hX dX12_isWordOf_39 (z_iadd hX dX12_isWordOf_40 (z_bipush hX dX12_isWordOf_41 (by decide) (z_ild_n hX dX12_isWordOf_43 rfl (z_imul hX dX12_isWordOf_44 (z_iadd hX dX12_isWordOf_45 (z_ild hX dX12_isWordOf_46 (z_iadd hX dX12_isWordOf_48 (z_iald hX dX12_isWordOf_49 (z_icne hX dX12_isWordOf_50 (by decide) (tX12_isWordOf_57 hX hr hq) ((tX12_isWordOf_53 hX hr hq)))))))))))))))))))))))))
def kX12_isWordOf_2 (r : pu_R) : pu_K := s_ild 2 (s_push (.int (3)) (s_icge (kX12_isWordOf_77 r) (s_push (.int (1)) (s_ist 3 (s_push (.int (0)) (s_ist 4 ((r 444))))))))
theorem vX12_isWordOf_2 : pu_cok2 kX12_isWordOf_2 := fun rf r hr => by
  unfold kX12_isWordOf_2
  exact v_ild (v_pi (v_icge (vX12_isWordOf_77 rf r hr) (v_pi (v_ist (v_pi (v_ist ((hr 444))))))))
theorem tX12_isWordOf_2 {X : pu_X} {r : pu_R} (hX : pu_H X mdX12_isWordOf) (hr : pu_P X.2.1 X.2.2.2.2.2.2.2.2.2.2.1 r) (hq : ∀ i pc, pu_lp i = some (249, pc) → pu_S X mdX12_isWordOf pc (r i)) : pu_S X mdX12_isWordOf 2 (kX12_isWordOf_2 r) := by
  unfold kX12_isWordOf_2
  exact z_ild_n hX dX12_isWordOf_2 rfl (z_iconst hX dX12_isWordOf_3 (by decide) (z_icge hX dX12_isWordOf_4 (by decide) (tX12_isWordOf_77 hX hr hq) (z_iconst hX dX12_isWordOf_7 (by decide) (z_ist_n hX dX12_isWordOf_8 rfl (z_iconst hX dX12_isWordOf_9 (by decide) (z_ist hX dX12_isWordOf_10 ((hq 444 12 hl444))))))))
def kX12_isWordOf_0 (r : pu_R) : pu_K := s_push (.int (0)) (s_ist 2 ((r 443)))
theorem vX12_isWordOf_0 : pu_cok2 kX12_isWordOf_0 := fun rf r hr => by
  unfold kX12_isWordOf_0
  exact v_pi (v_ist ((hr 443)))
theorem tX12_isWordOf_0 {X : pu_X} {r : pu_R} (hX : pu_H X mdX12_isWordOf) (hr : pu_P X.2.1 X.2.2.2.2.2.2.2.2.2.2.1 r) (hq : ∀ i pc, pu_lp i = some (249, pc) → pu_S X mdX12_isWordOf pc (r i)) : pu_S X mdX12_isWordOf 0 (kX12_isWordOf_0 r) := by
  unfold kX12_isWordOf_0
  exact z_iconst hX dX12_isWordOf_0 (by decide) (z_ist_n hX dX12_isWordOf_1 rfl ((hq 443 2 hl443)))
def kX12_shorten_226 (r : pu_R) : pu_K := s_ald 0 (s_gr 12 0 (s_push (.int (8)) (s_ai 1 (s_iret))))
theorem vX12_shorten_226 : pu_cok2 kX12_shorten_226 := fun rf r hr => by
  unfold kX12_shorten_226
  exact v_ald (v_gr (v_pi (v_ai (v_iret))))
theorem tX12_shorten_226 {X : pu_X} {r : pu_R} (hX : pu_H X mdX12_shorten) (hr : pu_P X.2.1 X.2.2.2.2.2.2.2.2.2.2.1 r) (hq : ∀ i pc, pu_lp i = some (250, pc) → pu_S X mdX12_shorten pc (r i)) : pu_S X mdX12_shorten 226 (kX12_shorten_226 r) := by
  unfold kX12_shorten_226
  exact z_ald_n hX dX12_shorten_226 rfl (z_gr (c := 12) (j := 0) hX dX12_shorten_227 rfl inlX12 wm7_16 ⟨rfl, by decide, rfl⟩ (z_bipush hX dX12_shorten_230 (by decide) (z_iald hX dX12_shorten_232 (z_iret hX dX12_shorten_233 rfl))))
def kX12_shorten_211 (r : pu_R) : pu_K := s_ild 2 (s_ifne (kX12_shorten_226 r) (s_ald 0 (s_gr 12 0 (s_push (.int (8)) (s_dup2 (s_ai 1 (s_push (.int (1)) (s_iadd (s_wi 1 ((kX12_shorten_226 r)))))))))))
theorem vX12_shorten_211 : pu_cok2 kX12_shorten_211 := fun rf r hr => by
  unfold kX12_shorten_211
  exact v_ild (v_ifne (vX12_shorten_226 rf r hr) (v_ald (v_gr (v_pi (v_dup2 (v_ai (v_pi (v_iadd (v_wi ((vX12_shorten_226 rf r hr)))))))))))
theorem tX12_shorten_211 {X : pu_X} {r : pu_R} (hX : pu_H X mdX12_shorten) (hr : pu_P X.2.1 X.2.2.2.2.2.2.2.2.2.2.1 r) (hq : ∀ i pc, pu_lp i = some (250, pc) → pu_S X mdX12_shorten pc (r i)) : pu_S X mdX12_shorten 211 (kX12_shorten_211 r) := by
  unfold kX12_shorten_211
  exact z_ild_n hX dX12_shorten_211 rfl (z_ifne hX dX12_shorten_212 (by decide) (tX12_shorten_226 hX hr hq) (z_ald_n hX dX12_shorten_215 rfl (z_gr (c := 12) (j := 0) hX dX12_shorten_216 rfl inlX12 wm7_16 ⟨rfl, by decide, rfl⟩ (z_bipush hX dX12_shorten_219 (by decide) (z_dup2 hX dX12_shorten_221 (z_iald hX dX12_shorten_222 (z_iconst hX dX12_shorten_223 (by decide) (z_iadd hX dX12_shorten_224 (z_iast hX dX12_shorten_225 ((tX12_shorten_226 hX hr hq)))))))))))
def kX12_shorten_178 (r : pu_R) : pu_K := s_ild 3 (s_push (.int (24)) (s_icge (kX12_shorten_211 r) (s_ald 0 (s_gr 12 0 (s_push (.int (30152)) (s_push (.int (24)) (s_ild 1 (s_imul (s_iadd (s_ild 3 (s_iadd (s_ald 0 (s_gr 12 9 (s_ild 3 (s_ai 1 (s_wi 1 (s_inc 3 (1) ((r 449)))))))))))))))))))
theorem vX12_shorten_178 : pu_cok2 kX12_shorten_178 := fun rf r hr => by
  unfold kX12_shorten_178
  exact v_ild (v_pi (v_icge (vX12_shorten_211 rf r hr) (v_ald (v_gr (v_pi (v_pi (v_ild (v_imul (v_iadd (v_ild (v_iadd (v_ald (v_gr (v_ild (v_ai (v_wi (v_inc ((hr 449)))))))))))))))))))
theorem tX12_shorten_178 {X : pu_X} {r : pu_R} (hX : pu_H X mdX12_shorten) (hr : pu_P X.2.1 X.2.2.2.2.2.2.2.2.2.2.1 r) (hq : ∀ i pc, pu_lp i = some (250, pc) → pu_S X mdX12_shorten pc (r i)) : pu_S X mdX12_shorten 178 (kX12_shorten_178 r) := by
  unfold kX12_shorten_178
  exact z_ild_n hX dX12_shorten_178 rfl (z_bipush hX dX12_shorten_179 (by decide) (z_icge hX dX12_shorten_181 (by decide) (tX12_shorten_211 hX hr hq) (z_ald_n hX dX12_shorten_184 rfl (z_gr (c := 12) (j := 0) hX dX12_shorten_185 rfl inlX12 wm7_16 ⟨rfl, by decide, rfl⟩ (z_sipush hX dX12_shorten_188 (by decide) (z_bipush hX dX12_shorten_191 (by decide) (z_ild_n hX dX12_shorten_193 rfl (z_imul hX dX12_shorten_194 (z_iadd hX dX12_shorten_195 (z_ild_n hX dX12_shorten_196 rfl (z_iadd hX dX12_shorten_197 (z_ald_n hX dX12_shorten_198 rfl (z_gr (c := 12) (j := 9) hX dX12_shorten_199 rfl inlX12 wm8_4 ⟨rfl, by decide, rfl⟩ (z_ild_n hX dX12_shorten_202 rfl (z_iald hX dX12_shorten_203 (z_iast hX dX12_shorten_204 (z_inc hX dX12_shorten_205 (by decide) ((z_goto hX dX12_shorten_208 (by decide) (hq 449 178 hl449))))))))))))))))))))
def kX12_shorten_176 (r : pu_R) : pu_K := s_push (.int (0)) (s_ist 3 ((r 449)))
theorem vX12_shorten_176 : pu_cok2 kX12_shorten_176 := fun rf r hr => by
  unfold kX12_shorten_176
  exact v_pi (v_ist ((hr 449)))
theorem tX12_shorten_176 {X : pu_X} {r : pu_R} (hX : pu_H X mdX12_shorten) (hr : pu_P X.2.1 X.2.2.2.2.2.2.2.2.2.2.1 r) (hq : ∀ i pc, pu_lp i = some (250, pc) → pu_S X mdX12_shorten pc (r i)) : pu_S X mdX12_shorten 176 (kX12_shorten_176 r) := by
  unfold kX12_shorten_176
  exact z_iconst hX dX12_shorten_176 (by decide) (z_ist_n hX dX12_shorten_177 rfl ((hq 449 178 hl449)))
def kX12_shorten_167 (r : pu_R) : pu_K := s_ild 1 (s_push (.int (20)) (s_icne (kX12_shorten_176 r) (s_push (.int (-6)) (s_iret))))
theorem vX12_shorten_167 : pu_cok2 kX12_shorten_167 := fun rf r hr => by
  unfold kX12_shorten_167
  exact v_ild (v_pi (v_icne (vX12_shorten_176 rf r hr) (v_pi (v_iret))))
theorem tX12_shorten_167 {X : pu_X} {r : pu_R} (hX : pu_H X mdX12_shorten) (hr : pu_P X.2.1 X.2.2.2.2.2.2.2.2.2.2.1 r) (hq : ∀ i pc, pu_lp i = some (250, pc) → pu_S X mdX12_shorten pc (r i)) : pu_S X mdX12_shorten 167 (kX12_shorten_167 r) := by
  unfold kX12_shorten_167
  exact z_ild_n hX dX12_shorten_167 rfl (z_bipush hX dX12_shorten_168 (by decide) (z_icne hX dX12_shorten_170 (by decide) (tX12_shorten_176 hX hr hq) (z_bipush hX dX12_shorten_173 (by decide) (z_iret hX dX12_shorten_175 rfl))))
def kX12_shorten_157 (r : pu_R) : pu_K := s_ild 2 (s_ifne (r 447) (s_inc 1 (1) ((r 447))))
theorem vX12_shorten_157 : pu_cok2 kX12_shorten_157 := fun rf r hr => by
  unfold kX12_shorten_157
  exact v_ild (v_ifne (hr 447) (v_inc ((hr 447))))
theorem tX12_shorten_157 {X : pu_X} {r : pu_R} (hX : pu_H X mdX12_shorten) (hr : pu_P X.2.1 X.2.2.2.2.2.2.2.2.2.2.1 r) (hq : ∀ i pc, pu_lp i = some (250, pc) → pu_S X mdX12_shorten pc (r i)) : pu_S X mdX12_shorten 157 (kX12_shorten_157 r) := by
  unfold kX12_shorten_157
  exact z_ild_n hX dX12_shorten_157 rfl (z_ifne hX dX12_shorten_158 (by decide) (hq 447 92 hl447) (z_inc hX dX12_shorten_161 (by decide) ((z_goto hX dX12_shorten_164 (by decide) (hq 447 92 hl447)))))
def kX12_shorten_150 (r : pu_R) : pu_K := s_ist 2 (s_inc 3 (1) ((r 448)))
theorem vX12_shorten_150 : pu_cok2 kX12_shorten_150 := fun rf r hr => by
  unfold kX12_shorten_150
  exact v_ist (v_inc ((hr 448)))
theorem tX12_shorten_150 {X : pu_X} {r : pu_R} (hX : pu_H X mdX12_shorten) (hr : pu_P X.2.1 X.2.2.2.2.2.2.2.2.2.2.1 r) (hq : ∀ i pc, pu_lp i = some (250, pc) → pu_S X mdX12_shorten pc (r i)) : pu_S X mdX12_shorten 150 (kX12_shorten_150 r) := by
  unfold kX12_shorten_150
  exact z_ist_n hX dX12_shorten_150 rfl (z_inc hX dX12_shorten_151 (by decide) ((z_goto hX dX12_shorten_154 (by decide) (hq 448 111 hl448))))
def kX12_shorten_149 (r : pu_R) : pu_K := s_push (.int (0)) ((kX12_shorten_150 r))
theorem vX12_shorten_149 : pu_cok2 kX12_shorten_149 := fun rf r hr => by
  unfold kX12_shorten_149
  exact v_pi ((vX12_shorten_150 rf r hr))
theorem tX12_shorten_149 {X : pu_X} {r : pu_R} (hX : pu_H X mdX12_shorten) (hr : pu_P X.2.1 X.2.2.2.2.2.2.2.2.2.2.1 r) (hq : ∀ i pc, pu_lp i = some (250, pc) → pu_S X mdX12_shorten pc (r i)) : pu_S X mdX12_shorten 149 (kX12_shorten_149 r) := by
  unfold kX12_shorten_149
  exact z_iconst hX dX12_shorten_149 (by decide) ((tX12_shorten_150 hX hr hq))
def kX12_shorten_111 (r : pu_R) : pu_K := s_ild 3 (s_push (.int (12)) (s_icge (kX12_shorten_157 r) (s_ild 2 (s_ifeq (kX12_shorten_157 r) (s_ald 0 (s_gr 12 9 (s_ild 3 (s_ai 1 (s_ald 0 (s_gr 12 0 (s_push (.int (30152)) (s_push (.int (24)) (s_ild 1 (s_imul (s_iadd (s_ild 3 (s_iadd (s_ai 1 (s_icne (kX12_shorten_149 r) (s_push (.int (1)) ((kX12_shorten_150 r))))))))))))))))))))))
theorem vX12_shorten_111 : pu_cok2 kX12_shorten_111 := fun rf r hr => by
  unfold kX12_shorten_111
  exact v_ild (v_pi (v_icge (vX12_shorten_157 rf r hr) (v_ild (v_ifeq (vX12_shorten_157 rf r hr) (v_ald (v_gr (v_ild (v_ai (v_ald (v_gr (v_pi (v_pi (v_ild (v_imul (v_iadd (v_ild (v_iadd (v_ai (v_icne (vX12_shorten_149 rf r hr) (v_pi ((vX12_shorten_150 rf r hr))))))))))))))))))))))
theorem tX12_shorten_111 {X : pu_X} {r : pu_R} (hX : pu_H X mdX12_shorten) (hr : pu_P X.2.1 X.2.2.2.2.2.2.2.2.2.2.1 r) (hq : ∀ i pc, pu_lp i = some (250, pc) → pu_S X mdX12_shorten pc (r i)) : pu_S X mdX12_shorten 111 (kX12_shorten_111 r) := by
  unfold kX12_shorten_111
  exact z_ild_n hX dX12_shorten_111 rfl (z_bipush hX dX12_shorten_112 (by decide) (z_icge hX dX12_shorten_114 (by decide) (tX12_shorten_157 hX hr hq) (z_ild_n hX dX12_shorten_117 rfl (z_ifeq hX dX12_shorten_118 (by decide) (tX12_shorten_157 hX hr hq) (z_ald_n hX dX12_shorten_121 rfl (z_gr (c := 12) (j := 9) hX dX12_shorten_122 rfl inlX12 wm8_4 ⟨rfl, by decide, rfl⟩ (z_ild_n hX dX12_shorten_125 rfl (z_iald hX dX12_shorten_126 (z_ald_n hX dX12_shorten_127 rfl (z_gr (c := 12) (j := 0) hX dX12_shorten_128 rfl inlX12 wm7_16 ⟨rfl, by decide, rfl⟩ (z_sipush hX dX12_shorten_131 (by decide) (z_bipush hX dX12_shorten_134 (by decide) (z_ild_n hX dX12_shorten_136 rfl (z_imul hX dX12_shorten_137 (z_iadd hX dX12_shorten_138 (z_ild_n hX dX12_shorten_139 rfl (z_iadd hX dX12_shorten_140 (z_iald hX dX12_shorten_141 (z_icne hX dX12_shorten_142 (by decide) (tX12_shorten_149 hX hr hq) (z_iconst hX dX12_shorten_145 (by decide) ((z_goto hX dX12_shorten_146 (by decide) (tX12_shorten_150 hX hr hq)))))))))))))))))))))))
def kX12_shorten_92 (r : pu_R) : pu_K := s_ild 1 (s_ald 0 (s_gr 12 0 (s_push (.int (8)) (s_ai 1 (s_icge (kX12_shorten_167 r) (s_ild 2 (s_ifne (kX12_shorten_167 r) (s_push (.int (1)) (s_ist 2 (s_push (.int (0)) (s_ist 3 ((r 448)))))))))))))
theorem vX12_shorten_92 : pu_cok2 kX12_shorten_92 := fun rf r hr => by
  unfold kX12_shorten_92
  exact v_ild (v_ald (v_gr (v_pi (v_ai (v_icge (vX12_shorten_167 rf r hr) (v_ild (v_ifne (vX12_shorten_167 rf r hr) (v_pi (v_ist (v_pi (v_ist ((hr 448)))))))))))))
theorem tX12_shorten_92 {X : pu_X} {r : pu_R} (hX : pu_H X mdX12_shorten) (hr : pu_P X.2.1 X.2.2.2.2.2.2.2.2.2.2.1 r) (hq : ∀ i pc, pu_lp i = some (250, pc) → pu_S X mdX12_shorten pc (r i)) : pu_S X mdX12_shorten 92 (kX12_shorten_92 r) := by
  unfold kX12_shorten_92
  exact z_ild_n hX dX12_shorten_92 rfl (z_ald_n hX dX12_shorten_93 rfl (z_gr (c := 12) (j := 0) hX dX12_shorten_94 rfl inlX12 wm7_16 ⟨rfl, by decide, rfl⟩ (z_bipush hX dX12_shorten_97 (by decide) (z_iald hX dX12_shorten_99 (z_icge hX dX12_shorten_100 (by decide) (tX12_shorten_167 hX hr hq) (z_ild_n hX dX12_shorten_103 rfl (z_ifne hX dX12_shorten_104 (by decide) (tX12_shorten_167 hX hr hq) (z_iconst hX dX12_shorten_107 (by decide) (z_ist_n hX dX12_shorten_108 rfl (z_iconst hX dX12_shorten_109 (by decide) (z_ist_n hX dX12_shorten_110 rfl ((hq 448 111 hl448)))))))))))))
def kX12_shorten_88 (r : pu_R) : pu_K := s_push (.int (0)) (s_ist 1 (s_push (.int (0)) (s_ist 2 ((r 447)))))
theorem vX12_shorten_88 : pu_cok2 kX12_shorten_88 := fun rf r hr => by
  unfold kX12_shorten_88
  exact v_pi (v_ist (v_pi (v_ist ((hr 447)))))
theorem tX12_shorten_88 {X : pu_X} {r : pu_R} (hX : pu_H X mdX12_shorten) (hr : pu_P X.2.1 X.2.2.2.2.2.2.2.2.2.2.1 r) (hq : ∀ i pc, pu_lp i = some (250, pc) → pu_S X mdX12_shorten pc (r i)) : pu_S X mdX12_shorten 88 (kX12_shorten_88 r) := by
  unfold kX12_shorten_88
  exact z_iconst hX dX12_shorten_88 (by decide) (z_ist_n hX dX12_shorten_89 rfl (z_iconst hX dX12_shorten_90 (by decide) (z_ist_n hX dX12_shorten_91 rfl ((hq 447 92 hl447)))))
def kX12_shorten_82 (r : pu_R) : pu_K := s_inc 1 (1) ((r 446))
theorem vX12_shorten_82 : pu_cok2 kX12_shorten_82 := fun rf r hr => by
  unfold kX12_shorten_82
  exact v_inc ((hr 446))
theorem tX12_shorten_82 {X : pu_X} {r : pu_R} (hX : pu_H X mdX12_shorten) (hr : pu_P X.2.1 X.2.2.2.2.2.2.2.2.2.2.1 r) (hq : ∀ i pc, pu_lp i = some (250, pc) → pu_S X mdX12_shorten pc (r i)) : pu_S X mdX12_shorten 82 (kX12_shorten_82 r) := by
  unfold kX12_shorten_82
  exact z_inc hX dX12_shorten_82 (by decide) ((z_goto hX dX12_shorten_85 (by decide) (hq 446 47 hl446)))
def kX12_shorten_47 (r : pu_R) : pu_K := s_ild 1 (s_ald 0 (s_gr 12 0 (s_push (.int (7)) (s_ai 1 (s_icge (kX12_shorten_88 r) (s_ald 0 (s_ald 0 (s_gr 12 0 (s_push (.int (7552)) (s_push (.int (5)) (s_ild 1 (s_imul (s_iadd (s_push (.int (2)) (s_iadd (s_ai 1 (s_cv r 249 1 12 (s_ifeq (kX12_shorten_82 r) (s_push (.int (-5)) (s_iret))))))))))))))))))))
theorem vX12_shorten_47 : pu_cok2 kX12_shorten_47 := fun rf r hr => by
  unfold kX12_shorten_47
  exact v_ild (v_ald (v_gr (v_pi (v_ai (v_icge (vX12_shorten_88 rf r hr) (v_ald (v_ald (v_gr (v_pi (v_pi (v_ild (v_imul (v_iadd (v_pi (v_iadd (v_ai (v_cv hr (v_ifeq (vX12_shorten_82 rf r hr) (v_pi (v_iret))))))))))))))))))))
theorem tX12_shorten_47 {X : pu_X} {r : pu_R} (hX : pu_H X mdX12_shorten) (hr : pu_P X.2.1 X.2.2.2.2.2.2.2.2.2.2.1 r) (hq : ∀ i pc, pu_lp i = some (250, pc) → pu_S X mdX12_shorten pc (r i)) : pu_S X mdX12_shorten 47 (kX12_shorten_47 r) := by
  unfold kX12_shorten_47
  exact z_ild_n hX dX12_shorten_47 rfl (z_ald_n hX dX12_shorten_48 rfl (z_gr (c := 12) (j := 0) hX dX12_shorten_49 rfl inlX12 wm7_16 ⟨rfl, by decide, rfl⟩ (z_bipush hX dX12_shorten_52 (by decide) (z_iald hX dX12_shorten_54 (z_icge hX dX12_shorten_55 (by decide) (tX12_shorten_88 hX hr hq) (z_ald_n hX dX12_shorten_58 rfl (z_ald_n hX dX12_shorten_59 rfl (z_gr (c := 12) (j := 0) hX dX12_shorten_60 rfl inlX12 wm7_16 ⟨rfl, by decide, rfl⟩ (z_sipush hX dX12_shorten_63 (by decide) (z_iconst hX dX12_shorten_66 (by decide) (z_ild_n hX dX12_shorten_67 rfl (z_imul hX dX12_shorten_68 (z_iadd hX dX12_shorten_69 (z_iconst hX dX12_shorten_70 (by decide) (z_iadd hX dX12_shorten_71 (z_iald hX dX12_shorten_72 (z_cv (c := 12) hX hr dX12_shorten_73 hjX12_isWordOf mwX12_isWordOf rfl wm17_6 ⟨wm17_7, wm17_8⟩ ⟨Nat.le_of_ble_eq_true rfl, Nat.le_of_ble_eq_true rfl⟩ (z_ifeq hX dX12_shorten_76 (by decide) (tX12_shorten_82 hX hr hq) (z_bipush hX dX12_shorten_79 (by decide) (z_iret hX dX12_shorten_81 rfl))))))))))))))))))))
def kX12_shorten_45 (r : pu_R) : pu_K := s_push (.int (0)) (s_ist 1 ((r 446)))
theorem vX12_shorten_45 : pu_cok2 kX12_shorten_45 := fun rf r hr => by
  unfold kX12_shorten_45
  exact v_pi (v_ist ((hr 446)))
theorem tX12_shorten_45 {X : pu_X} {r : pu_R} (hX : pu_H X mdX12_shorten) (hr : pu_P X.2.1 X.2.2.2.2.2.2.2.2.2.2.1 r) (hq : ∀ i pc, pu_lp i = some (250, pc) → pu_S X mdX12_shorten pc (r i)) : pu_S X mdX12_shorten 45 (kX12_shorten_45 r) := by
  unfold kX12_shorten_45
  exact z_iconst hX dX12_shorten_45 (by decide) (z_ist_n hX dX12_shorten_46 rfl ((hq 446 47 hl446)))
def kX12_shorten_39 (r : pu_R) : pu_K := s_inc 1 (1) ((r 445))
theorem vX12_shorten_39 : pu_cok2 kX12_shorten_39 := fun rf r hr => by
  unfold kX12_shorten_39
  exact v_inc ((hr 445))
theorem tX12_shorten_39 {X : pu_X} {r : pu_R} (hX : pu_H X mdX12_shorten) (hr : pu_P X.2.1 X.2.2.2.2.2.2.2.2.2.2.1 r) (hq : ∀ i pc, pu_lp i = some (250, pc) → pu_S X mdX12_shorten pc (r i)) : pu_S X mdX12_shorten 39 (kX12_shorten_39 r) := by
  unfold kX12_shorten_39
  exact z_inc hX dX12_shorten_39 (by decide) ((z_goto hX dX12_shorten_42 (by decide) (hq 445 18 hl445)))
def kX12_shorten_18 (r : pu_R) : pu_K := s_ild 1 (s_ald 0 (s_gr 12 0 (s_push (.int (2)) (s_ai 1 (s_icge (kX12_shorten_45 r) (s_ald 0 (s_ild 1 (s_cv r 249 1 12 (s_ifeq (kX12_shorten_39 r) (s_push (.int (-5)) (s_iret)))))))))))
theorem vX12_shorten_18 : pu_cok2 kX12_shorten_18 := fun rf r hr => by
  unfold kX12_shorten_18
  exact v_ild (v_ald (v_gr (v_pi (v_ai (v_icge (vX12_shorten_45 rf r hr) (v_ald (v_ild (v_cv hr (v_ifeq (vX12_shorten_39 rf r hr) (v_pi (v_iret)))))))))))
theorem tX12_shorten_18 {X : pu_X} {r : pu_R} (hX : pu_H X mdX12_shorten) (hr : pu_P X.2.1 X.2.2.2.2.2.2.2.2.2.2.1 r) (hq : ∀ i pc, pu_lp i = some (250, pc) → pu_S X mdX12_shorten pc (r i)) : pu_S X mdX12_shorten 18 (kX12_shorten_18 r) := by
  unfold kX12_shorten_18
  exact z_ild_n hX dX12_shorten_18 rfl (z_ald_n hX dX12_shorten_19 rfl (z_gr (c := 12) (j := 0) hX dX12_shorten_20 rfl inlX12 wm7_16 ⟨rfl, by decide, rfl⟩ (z_iconst hX dX12_shorten_23 (by decide) (z_iald hX dX12_shorten_24 (z_icge hX dX12_shorten_25 (by decide) (tX12_shorten_45 hX hr hq) (z_ald_n hX dX12_shorten_28 rfl (z_ild_n hX dX12_shorten_29 rfl (z_cv (c := 12) hX hr dX12_shorten_30 hjX12_isWordOf mwX12_isWordOf rfl wm17_6 ⟨wm17_7, wm17_8⟩ ⟨Nat.le_of_ble_eq_true rfl, Nat.le_of_ble_eq_true rfl⟩ (z_ifeq hX dX12_shorten_33 (by decide) (tX12_shorten_39 hX hr hq) (z_bipush hX dX12_shorten_36 (by decide) (z_iret hX dX12_shorten_38 rfl)))))))))))
def kX12_shorten_16 (r : pu_R) : pu_K := s_push (.int (0)) (s_ist 1 ((r 445)))
theorem vX12_shorten_16 : pu_cok2 kX12_shorten_16 := fun rf r hr => by
  unfold kX12_shorten_16
  exact v_pi (v_ist ((hr 445)))
theorem tX12_shorten_16 {X : pu_X} {r : pu_R} (hX : pu_H X mdX12_shorten) (hr : pu_P X.2.1 X.2.2.2.2.2.2.2.2.2.2.1 r) (hq : ∀ i pc, pu_lp i = some (250, pc) → pu_S X mdX12_shorten pc (r i)) : pu_S X mdX12_shorten 16 (kX12_shorten_16 r) := by
  unfold kX12_shorten_16
  exact z_iconst hX dX12_shorten_16 (by decide) (z_ist_n hX dX12_shorten_17 rfl ((hq 445 18 hl445)))
def kX12_shorten_0 (r : pu_R) : pu_K := s_ald 0 (s_cv r 233 0 12 (s_ald 0 (s_push (.int (2)) (s_push (.int (2)) (s_cv r 243 2 12 (s_ifne (kX12_shorten_16 r) (s_push (.int (-2)) (s_iret))))))))
theorem vX12_shorten_0 : pu_cok2 kX12_shorten_0 := fun rf r hr => by
  unfold kX12_shorten_0
  exact v_ald (v_cv hr (v_ald (v_pi (v_pi (v_cv hr (v_ifne (vX12_shorten_16 rf r hr) (v_pi (v_iret))))))))
theorem tX12_shorten_0 {X : pu_X} {r : pu_R} (hX : pu_H X mdX12_shorten) (hr : pu_P X.2.1 X.2.2.2.2.2.2.2.2.2.2.1 r) (hq : ∀ i pc, pu_lp i = some (250, pc) → pu_S X mdX12_shorten pc (r i)) : pu_S X mdX12_shorten 0 (kX12_shorten_0 r) := by
  unfold kX12_shorten_0
  exact z_ald_n hX dX12_shorten_0 rfl (z_cv (c := 12) hX hr dX12_shorten_1 hjX12_takes mwX12_takes rfl wm15_0 ⟨wm15_1, wm15_2⟩ ⟨Nat.le_of_ble_eq_true rfl, Nat.le_of_ble_eq_true rfl⟩ (z_ald_n hX dX12_shorten_4 rfl (z_iconst hX dX12_shorten_5 (by decide) (z_iconst hX dX12_shorten_6 (by decide) (z_cv (c := 12) hX hr dX12_shorten_7 hjX12_reads mwX12_reads rfl wm15_4 ⟨wm15_5, wm15_6⟩ ⟨Nat.le_of_ble_eq_true rfl, Nat.le_of_ble_eq_true rfl⟩ (z_ifne hX dX12_shorten_10 (by decide) (tX12_shorten_16 hX hr hq) (z_bipush hX dX12_shorten_13 (by decide) (z_iret hX dX12_shorten_15 rfl))))))))
def kX12_isStreet_19 (r : pu_R) : pu_K := s_zret
theorem vX12_isStreet_19 : pu_cok2 kX12_isStreet_19 := fun rf r hr => by
  unfold kX12_isStreet_19
  exact v_zret
theorem tX12_isStreet_19 {X : pu_X} {r : pu_R} (hX : pu_H X mdX12_isStreet) (hr : pu_P X.2.1 X.2.2.2.2.2.2.2.2.2.2.1 r) (hq : ∀ i pc, pu_lp i = some (251, pc) → pu_S X mdX12_isStreet pc (r i)) : pu_S X mdX12_isStreet 19 (kX12_isStreet_19 r) := by
  unfold kX12_isStreet_19
  exact z_zret hX dX12_isStreet_19 rfl
def kX12_isStreet_18 (r : pu_R) : pu_K := s_push (.int (0)) ((kX12_isStreet_19 r))
theorem vX12_isStreet_18 : pu_cok2 kX12_isStreet_18 := fun rf r hr => by
  unfold kX12_isStreet_18
  exact v_pi ((vX12_isStreet_19 rf r hr))
theorem tX12_isStreet_18 {X : pu_X} {r : pu_R} (hX : pu_H X mdX12_isStreet) (hr : pu_P X.2.1 X.2.2.2.2.2.2.2.2.2.2.1 r) (hq : ∀ i pc, pu_lp i = some (251, pc) → pu_S X mdX12_isStreet pc (r i)) : pu_S X mdX12_isStreet 18 (kX12_isStreet_18 r) := by
  unfold kX12_isStreet_18
  exact z_iconst hX dX12_isStreet_18 (by decide) ((tX12_isStreet_19 hX hr hq))
def kX12_isStreet_0 (r : pu_R) : pu_K := s_ild 1 (s_iflt (kX12_isStreet_18 r) (s_ild 1 (s_ald 0 (s_gr 12 0 (s_push (.int (3)) (s_ai 1 (s_icge (kX12_isStreet_18 r) (s_push (.int (1)) ((kX12_isStreet_19 r))))))))))
theorem vX12_isStreet_0 : pu_cok2 kX12_isStreet_0 := fun rf r hr => by
  unfold kX12_isStreet_0
  exact v_ild (v_iflt (vX12_isStreet_18 rf r hr) (v_ild (v_ald (v_gr (v_pi (v_ai (v_icge (vX12_isStreet_18 rf r hr) (v_pi ((vX12_isStreet_19 rf r hr))))))))))
theorem tX12_isStreet_0 {X : pu_X} {r : pu_R} (hX : pu_H X mdX12_isStreet) (hr : pu_P X.2.1 X.2.2.2.2.2.2.2.2.2.2.1 r) (hq : ∀ i pc, pu_lp i = some (251, pc) → pu_S X mdX12_isStreet pc (r i)) : pu_S X mdX12_isStreet 0 (kX12_isStreet_0 r) := by
  unfold kX12_isStreet_0
  exact z_ild_n hX dX12_isStreet_0 rfl (z_iflt hX dX12_isStreet_1 (by decide) (tX12_isStreet_18 hX hr hq) (z_ild_n hX dX12_isStreet_4 rfl (z_ald_n hX dX12_isStreet_5 rfl (z_gr (c := 12) (j := 0) hX dX12_isStreet_6 rfl inlX12 wm7_16 ⟨rfl, by decide, rfl⟩ (z_iconst hX dX12_isStreet_9 (by decide) (z_iald hX dX12_isStreet_10 (z_icge hX dX12_isStreet_11 (by decide) (tX12_isStreet_18 hX hr hq) (z_iconst hX dX12_isStreet_14 (by decide) ((z_goto hX dX12_isStreet_15 (by decide) (tX12_isStreet_19 hX hr hq)))))))))))
def kX12_isTown_19 (r : pu_R) : pu_K := s_zret
theorem vX12_isTown_19 : pu_cok2 kX12_isTown_19 := fun rf r hr => by
  unfold kX12_isTown_19
  exact v_zret
theorem tX12_isTown_19 {X : pu_X} {r : pu_R} (hX : pu_H X mdX12_isTown) (hr : pu_P X.2.1 X.2.2.2.2.2.2.2.2.2.2.1 r) (hq : ∀ i pc, pu_lp i = some (252, pc) → pu_S X mdX12_isTown pc (r i)) : pu_S X mdX12_isTown 19 (kX12_isTown_19 r) := by
  unfold kX12_isTown_19
  exact z_zret hX dX12_isTown_19 rfl
def kX12_isTown_18 (r : pu_R) : pu_K := s_push (.int (0)) ((kX12_isTown_19 r))
theorem vX12_isTown_18 : pu_cok2 kX12_isTown_18 := fun rf r hr => by
  unfold kX12_isTown_18
  exact v_pi ((vX12_isTown_19 rf r hr))
theorem tX12_isTown_18 {X : pu_X} {r : pu_R} (hX : pu_H X mdX12_isTown) (hr : pu_P X.2.1 X.2.2.2.2.2.2.2.2.2.2.1 r) (hq : ∀ i pc, pu_lp i = some (252, pc) → pu_S X mdX12_isTown pc (r i)) : pu_S X mdX12_isTown 18 (kX12_isTown_18 r) := by
  unfold kX12_isTown_18
  exact z_iconst hX dX12_isTown_18 (by decide) ((tX12_isTown_19 hX hr hq))
def kX12_isTown_0 (r : pu_R) : pu_K := s_ild 1 (s_iflt (kX12_isTown_18 r) (s_ild 1 (s_ald 0 (s_gr 12 0 (s_push (.int (2)) (s_ai 1 (s_icge (kX12_isTown_18 r) (s_push (.int (1)) ((kX12_isTown_19 r))))))))))
theorem vX12_isTown_0 : pu_cok2 kX12_isTown_0 := fun rf r hr => by
  unfold kX12_isTown_0
  exact v_ild (v_iflt (vX12_isTown_18 rf r hr) (v_ild (v_ald (v_gr (v_pi (v_ai (v_icge (vX12_isTown_18 rf r hr) (v_pi ((vX12_isTown_19 rf r hr))))))))))
theorem tX12_isTown_0 {X : pu_X} {r : pu_R} (hX : pu_H X mdX12_isTown) (hr : pu_P X.2.1 X.2.2.2.2.2.2.2.2.2.2.1 r) (hq : ∀ i pc, pu_lp i = some (252, pc) → pu_S X mdX12_isTown pc (r i)) : pu_S X mdX12_isTown 0 (kX12_isTown_0 r) := by
  unfold kX12_isTown_0
  exact z_ild_n hX dX12_isTown_0 rfl (z_iflt hX dX12_isTown_1 (by decide) (tX12_isTown_18 hX hr hq) (z_ild_n hX dX12_isTown_4 rfl (z_ald_n hX dX12_isTown_5 rfl (z_gr (c := 12) (j := 0) hX dX12_isTown_6 rfl inlX12 wm7_16 ⟨rfl, by decide, rfl⟩ (z_iconst hX dX12_isTown_9 (by decide) (z_iald hX dX12_isTown_10 (z_icge hX dX12_isTown_11 (by decide) (tX12_isTown_18 hX hr hq) (z_iconst hX dX12_isTown_14 (by decide) ((z_goto hX dX12_isTown_15 (by decide) (tX12_isTown_19 hX hr hq)))))))))))
def kX12_openName_57 (r : pu_R) : pu_K := s_ild 2 (s_iret)
theorem vX12_openName_57 : pu_cok2 kX12_openName_57 := fun rf r hr => by
  unfold kX12_openName_57
  exact v_ild (v_iret)
theorem tX12_openName_57 {X : pu_X} {r : pu_R} (hX : pu_H X mdX12_openName) (hr : pu_P X.2.1 X.2.2.2.2.2.2.2.2.2.2.1 r) (hq : ∀ i pc, pu_lp i = some (253, pc) → pu_S X mdX12_openName pc (r i)) : pu_S X mdX12_openName 57 (kX12_openName_57 r) := by
  unfold kX12_openName_57
  exact z_ild_n hX dX12_openName_57 rfl (z_iret hX dX12_openName_58 rfl)
def kX12_openName_51 (r : pu_R) : pu_K := s_inc 3 (1) ((r 450))
theorem vX12_openName_51 : pu_cok2 kX12_openName_51 := fun rf r hr => by
  unfold kX12_openName_51
  exact v_inc ((hr 450))
theorem tX12_openName_51 {X : pu_X} {r : pu_R} (hX : pu_H X mdX12_openName) (hr : pu_P X.2.1 X.2.2.2.2.2.2.2.2.2.2.1 r) (hq : ∀ i pc, pu_lp i = some (253, pc) → pu_S X mdX12_openName pc (r i)) : pu_S X mdX12_openName 51 (kX12_openName_51 r) := by
  unfold kX12_openName_51
  exact z_inc hX dX12_openName_51 (by decide) ((z_goto hX dX12_openName_54 (by decide) (hq 450 4 hl450)))
def kX12_openName_43 (r : pu_R) : pu_K := s_iadd (s_ai 1 (s_push (.int (-1)) (s_icne (kX12_openName_51 r) (s_ild 3 (s_ist 2 ((kX12_openName_51 r)))))))
theorem vX12_openName_43 : pu_cok2 kX12_openName_43 := fun rf r hr => by
  unfold kX12_openName_43
  exact v_iadd (v_ai (v_pi (v_icne (vX12_openName_51 rf r hr) (v_ild (v_ist ((vX12_openName_51 rf r hr)))))))
theorem tX12_openName_43 {X : pu_X} {r : pu_R} (hX : pu_H X mdX12_openName) (hr : pu_P X.2.1 X.2.2.2.2.2.2.2.2.2.2.1 r) (hq : ∀ i pc, pu_lp i = some (253, pc) → pu_S X mdX12_openName pc (r i)) : pu_S X mdX12_openName 43 (kX12_openName_43 r) := by
  unfold kX12_openName_43
  exact z_iadd hX dX12_openName_43 (z_iald hX dX12_openName_44 (z_iconst hX dX12_openName_45 (by decide) (z_icne hX dX12_openName_46 (by decide) (tX12_openName_51 hX hr hq) (z_ild_n hX dX12_openName_49 rfl (z_ist_n hX dX12_openName_50 rfl ((tX12_openName_51 hX hr hq)))))))
def kX12_openName_4 (r : pu_R) : pu_K := s_ild 3 (s_ald 0 (s_gr 12 0 (s_push (.int (7)) (s_ai 1 (s_icge (kX12_openName_57 r) (s_ald 0 (s_gr 12 0 (s_push (.int (7552)) (s_push (.int (5)) (s_ild 3 (s_imul (s_iadd (s_ai 1 (s_ild 1 (s_icne (kX12_openName_51 r) (s_ald 0 (s_gr 12 0 (s_push (.int (7552)) (s_push (.int (5)) (s_ild 3 (s_imul (s_iadd (s_push (.int (4)) ((kX12_openName_43 r)))))))))))))))))))))))))
theorem vX12_openName_4 : pu_cok2 kX12_openName_4 := fun rf r hr => by
  unfold kX12_openName_4
  exact v_ild (v_ald (v_gr (v_pi (v_ai (v_icge (vX12_openName_57 rf r hr) (v_ald (v_gr (v_pi (v_pi (v_ild (v_imul (v_iadd (v_ai (v_ild (v_icne (vX12_openName_51 rf r hr) (v_ald (v_gr (v_pi (v_pi (v_ild (v_imul (v_iadd (v_pi ((vX12_openName_43 rf r hr)))))))))))))))))))))))))
theorem tX12_openName_4 {X : pu_X} {r : pu_R} (hX : pu_H X mdX12_openName) (hr : pu_P X.2.1 X.2.2.2.2.2.2.2.2.2.2.1 r) (hq : ∀ i pc, pu_lp i = some (253, pc) → pu_S X mdX12_openName pc (r i)) : pu_S X mdX12_openName 4 (kX12_openName_4 r) := by
  unfold kX12_openName_4
  exact z_ild_n hX dX12_openName_4 rfl (z_ald_n hX dX12_openName_5 rfl (z_gr (c := 12) (j := 0) hX dX12_openName_6 rfl inlX12 wm7_16 ⟨rfl, by decide, rfl⟩ (z_bipush hX dX12_openName_9 (by decide) (z_iald hX dX12_openName_11 (z_icge hX dX12_openName_12 (by decide) (tX12_openName_57 hX hr hq) (z_ald_n hX dX12_openName_15 rfl (z_gr (c := 12) (j := 0) hX dX12_openName_16 rfl inlX12 wm7_16 ⟨rfl, by decide, rfl⟩ (z_sipush hX dX12_openName_19 (by decide) (z_iconst hX dX12_openName_22 (by decide) (z_ild_n hX dX12_openName_23 rfl (z_imul hX dX12_openName_24 (z_iadd hX dX12_openName_25 (z_iald hX dX12_openName_26 (z_ild_n hX dX12_openName_27 rfl (z_icne hX dX12_openName_28 (by decide) (tX12_openName_51 hX hr hq) (z_ald_n hX dX12_openName_31 rfl (z_gr (c := 12) (j := 0) hX dX12_openName_32 rfl inlX12 wm7_16 ⟨rfl, by decide, rfl⟩ (z_sipush hX dX12_openName_35 (by decide) (z_iconst hX dX12_openName_38 (by decide) (z_ild_n hX dX12_openName_39 rfl (z_imul hX dX12_openName_40 (z_iadd hX dX12_openName_41 (z_iconst hX dX12_openName_42 (by decide) ((tX12_openName_43 hX hr hq)))))))))))))))))))))))))
def kX12_openName_0 (r : pu_R) : pu_K := s_push (.int (-1)) (s_ist 2 (s_push (.int (0)) (s_ist 3 ((r 450)))))
theorem vX12_openName_0 : pu_cok2 kX12_openName_0 := fun rf r hr => by
  unfold kX12_openName_0
  exact v_pi (v_ist (v_pi (v_ist ((hr 450)))))
theorem tX12_openName_0 {X : pu_X} {r : pu_R} (hX : pu_H X mdX12_openName) (hr : pu_P X.2.1 X.2.2.2.2.2.2.2.2.2.2.1 r) (hq : ∀ i pc, pu_lp i = some (253, pc) → pu_S X mdX12_openName pc (r i)) : pu_S X mdX12_openName 0 (kX12_openName_0 r) := by
  unfold kX12_openName_0
  exact z_iconst hX dX12_openName_0 (by decide) (z_ist_n hX dX12_openName_1 rfl (z_iconst hX dX12_openName_2 (by decide) (z_ist_n hX dX12_openName_3 rfl ((hq 450 4 hl450)))))
def kX12_townOf_0 (r : pu_R) : pu_K := s_ald 0 (s_gr 12 0 (s_push (.int (7552)) (s_push (.int (5)) (s_ald 0 (s_ild 1 (s_cv r 253 1 12 (s_imul (s_iadd (s_push (.int (1)) (s_iadd (s_ai 1 (s_iret))))))))))))
theorem vX12_townOf_0 : pu_cok2 kX12_townOf_0 := fun rf r hr => by
  unfold kX12_townOf_0
  exact v_ald (v_gr (v_pi (v_pi (v_ald (v_ild (v_cv hr (v_imul (v_iadd (v_pi (v_iadd (v_ai (v_iret))))))))))))
theorem tX12_townOf_0 {X : pu_X} {r : pu_R} (hX : pu_H X mdX12_townOf) (hr : pu_P X.2.1 X.2.2.2.2.2.2.2.2.2.2.1 r) (hq : ∀ i pc, pu_lp i = some (254, pc) → pu_S X mdX12_townOf pc (r i)) : pu_S X mdX12_townOf 0 (kX12_townOf_0 r) := by
  unfold kX12_townOf_0
  exact z_ald_n hX dX12_townOf_0 rfl (z_gr (c := 12) (j := 0) hX dX12_townOf_1 rfl inlX12 wm7_16 ⟨rfl, by decide, rfl⟩ (z_sipush hX dX12_townOf_4 (by decide) (z_iconst hX dX12_townOf_7 (by decide) (z_ald_n hX dX12_townOf_8 rfl (z_ild_n hX dX12_townOf_9 rfl (z_cv (c := 12) hX hr dX12_townOf_10 hjX12_openName mwX12_openName rfl wm29_1 ⟨wm29_2, wm29_3⟩ ⟨Nat.le_of_ble_eq_true rfl, Nat.le_of_ble_eq_true rfl⟩ (z_imul hX dX12_townOf_13 (z_iadd hX dX12_townOf_14 (z_iconst hX dX12_townOf_15 (by decide) (z_iadd hX dX12_townOf_16 (z_iald hX dX12_townOf_17 (z_iret hX dX12_townOf_18 rfl))))))))))))
