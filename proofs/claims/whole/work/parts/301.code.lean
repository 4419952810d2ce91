def kX3_isWordOfName_31 (r : pu_R) : pu_K := s_push (.int (0)) (s_zret)
theorem vX3_isWordOfName_31 : pu_cok2 kX3_isWordOfName_31 := fun rf r hr => by
  unfold kX3_isWordOfName_31
  exact v_pi (v_zret)
theorem tX3_isWordOfName_31 {X : pu_X} {r : pu_R} (hX : pu_H X mdX3_isWordOfName) (hr : pu_P X.2.1 X.2.2.2.2.2.2.2.2.2.2.1 r) (hq : ∀ i pc, pu_lp i = some (38, pc) → pu_S X mdX3_isWordOfName pc (r i)) : pu_S X mdX3_isWordOfName 31 (kX3_isWordOfName_31 r) := by
  unfold kX3_isWordOfName_31
  exact z_iconst hX dX3_isWordOfName_31 (by decide) (z_zret hX dX3_isWordOfName_32 rfl)
def kX3_isWordOfName_25 (r : pu_R) : pu_K := s_inc 3 (1) ((r 365))
theorem vX3_isWordOfName_25 : pu_cok2 kX3_isWordOfName_25 := fun rf r hr => by
  unfold kX3_isWordOfName_25
  exact v_inc ((hr 365))
theorem tX3_isWordOfName_25 {X : pu_X} {r : pu_R} (hX : pu_H X mdX3_isWordOfName) (hr : pu_P X.2.1 X.2.2.2.2.2.2.2.2.2.2.1 r) (hq : ∀ i pc, pu_lp i = some (38, pc) → pu_S X mdX3_isWordOfName pc (r i)) : pu_S X mdX3_isWordOfName 25 (kX3_isWordOfName_25 r) := by
  unfold kX3_isWordOfName_25
  exact z_inc hX dX3_isWordOfName_25 (by decide) ((z_goto hX dX3_isWordOfName_28 (by decide) (hq 365 2 hl365)))
def kX3_isWordOfName_2 (r : pu_R) : pu_K := s_ild 3 (s_push (.int (3)) (s_ald 0 (s_gi 3 0 (s_imul (s_icge (kX3_isWordOfName_31 r) (s_ald 0 (s_gr 3 5 (s_ild 3 (s_al (s_lld 1 (s_lcmp (s_ifne (kX3_isWordOfName_25 r) (s_push (.int (1)) (s_zret))))))))))))))
theorem vX3_isWordOfName_2 : pu_cok2 kX3_isWordOfName_2 := fun rf r hr => by
  unfold kX3_isWordOfName_2
  exact v_ild (v_pi (v_ald (v_gi (v_imul (v_icge (vX3_isWordOfName_31 rf r hr) (v_ald (v_gr (v_ild (v_al (v_lld (v_lcmp (v_ifne (vX3_isWordOfName_25 rf r hr) (v_pi (v_zret))))))))))))))
theorem tX3_isWordOfName_2 {X : pu_X} {r : pu_R} (hX : pu_H X mdX3_isWordOfName) (hr : pu_P X.2.1 X.2.2.2.2.2.2.2.2.2.2.1 r) (hq : ∀ i pc, pu_lp i = some (38, pc) → pu_S X mdX3_isWordOfName pc (r i)) : pu_S X mdX3_isWordOfName 2 (kX3_isWordOfName_2 r) := by
  unfold kX3_isWordOfName_2
  exact z_ild_n hX dX3_isWordOfName_2 rfl (z_iconst hX dX3_isWordOfName_3 (by decide) (z_ald_n hX dX3_isWordOfName_4 rfl (z_gi (c := 3) (j := 0) hX dX3_isWordOfName_5 rfl inlX3 wm16_21 ⟨rfl, by decide, rfl⟩ (z_imul hX dX3_isWordOfName_8 (z_icge hX dX3_isWordOfName_9 (by decide) (tX3_isWordOfName_31 hX hr hq) (z_ald_n hX dX3_isWordOfName_12 rfl (z_gr (c := 3) (j := 5) hX dX3_isWordOfName_13 rfl inlX3 wm5_0 ⟨rfl, by decide, rfl⟩ (z_ild_n hX dX3_isWordOfName_16 rfl (z_lald hX dX3_isWordOfName_17 (z_lld_n hX dX3_isWordOfName_18 rfl (z_lcmp hX dX3_isWordOfName_19 (z_ifne hX dX3_isWordOfName_20 (by decide) (tX3_isWordOfName_25 hX hr hq) (z_iconst hX dX3_isWordOfName_23 (by decide) (z_zret hX dX3_isWordOfName_24 rfl))))))))))))))
def kX3_isWordOfName_0 (r : pu_R) : pu_K := s_push (.int (0)) (s_ist 3 ((r 365)))
theorem vX3_isWordOfName_0 : pu_cok2 kX3_isWordOfName_0 := fun rf r hr => by
  unfold kX3_isWordOfName_0
  exact v_pi (v_ist ((hr 365)))
theorem tX3_isWordOfName_0 {X : pu_X} {r : pu_R} (hX : pu_H X mdX3_isWordOfName) (hr : pu_P X.2.1 X.2.2.2.2.2.2.2.2.2.2.1 r) (hq : ∀ i pc, pu_lp i = some (38, pc) → pu_S X mdX3_isWordOfName pc (r i)) : pu_S X mdX3_isWordOfName 0 (kX3_isWordOfName_0 r) := by
  unfold kX3_isWordOfName_0
  exact z_iconst hX dX3_isWordOfName_0 (by decide) (z_ist_n hX dX3_isWordOfName_1 rfl ((hq 365 2 hl365)))
def kX8_keep_40 (r : pu_R) : pu_K := s_ald 0 (s_gr 8 1 (s_ild 5 (s_lld 1 (s_wl (s_ald 0 (s_gr 8 2 (s_ild 5 (s_lld 3 (s_wl (s_push (.int (1)) (s_zret)))))))))))
theorem vX8_keep_40 : pu_cok2 kX8_keep_40 := fun rf r hr => by
  unfold kX8_keep_40
  exact v_ald (v_gr (v_ild (v_lld (v_wl (v_ald (v_gr (v_ild (v_lld (v_wl (v_pi (v_zret)))))))))))
theorem tX8_keep_40 {X : pu_X} {r : pu_R} (hX : pu_H X mdX8_keep) (hr : pu_P X.2.1 X.2.2.2.2.2.2.2.2.2.2.1 r) (hq : ∀ i pc, pu_lp i = some (39, pc) → pu_S X mdX8_keep pc (r i)) : pu_S X mdX8_keep 40 (kX8_keep_40 r) := by
  unfold kX8_keep_40
  exact z_ald_n hX dX8_keep_40 rfl (z_gr (c := 8) (j := 1) hX dX8_keep_41 rfl inlX8 wm6_1 ⟨rfl, by decide, rfl⟩ (z_ild hX dX8_keep_44 (z_lld_n hX dX8_keep_46 rfl (z_last hX dX8_keep_47 (z_ald_n hX dX8_keep_48 rfl (z_gr (c := 8) (j := 2) hX dX8_keep_49 rfl inlX8 wm6_2 ⟨rfl, by decide, rfl⟩ (z_ild hX dX8_keep_52 (z_lld_n hX dX8_keep_54 rfl (z_last hX dX8_keep_55 (z_iconst hX dX8_keep_56 (by decide) (z_zret hX dX8_keep_57 rfl)))))))))))
def kX8_keep_24 (r : pu_R) : pu_K := s_ald 0 (s_gi 8 0 (s_ist 5 (s_ald 0 (s_dup (s_gi 8 0 (s_push (.int (1)) (s_iadd (s_pi 8 0 ((kX8_keep_40 r))))))))))
theorem vX8_keep_24 : pu_cok2 kX8_keep_24 := fun rf r hr => by
  unfold kX8_keep_24
  exact v_ald (v_gi (v_ist (v_ald (v_dup (v_gi (v_pi (v_iadd (v_puti ((vX8_keep_40 rf r hr))))))))))
theorem tX8_keep_24 {X : pu_X} {r : pu_R} (hX : pu_H X mdX8_keep) (hr : pu_P X.2.1 X.2.2.2.2.2.2.2.2.2.2.1 r) (hq : ∀ i pc, pu_lp i = some (39, pc) → pu_S X mdX8_keep pc (r i)) : pu_S X mdX8_keep 24 (kX8_keep_24 r) := by
  unfold kX8_keep_24
  exact z_ald_n hX dX8_keep_24 rfl (z_gi (c := 8) (j := 0) hX dX8_keep_25 rfl inlX8 wm14_2 ⟨rfl, by decide, rfl⟩ (z_ist hX dX8_keep_28 (z_ald_n hX dX8_keep_30 rfl (z_dup hX dX8_keep_31 (z_gi (c := 8) (j := 0) hX dX8_keep_32 rfl inlX8 wm14_2 ⟨rfl, by decide, rfl⟩ (z_iconst hX dX8_keep_35 (by decide) (z_iadd hX dX8_keep_36 (z_pi (c := 8) (j := 0) tyX8 tyX8_ok nmX8 hX dX8_keep_37 rfl inlX8 wm14_2 ⟨rfl, by decide⟩ ⟨rfl, rfl⟩ rfl ((tX8_keep_40 hX hr hq))))))))))
def kX8_keep_0 (r : pu_R) : pu_K := s_ald 0 (s_lld 1 (s_cv r 27 1 8 (s_ist 5 (s_ild 5 (s_push (.int (-1)) (s_icne (kX8_keep_40 r) (s_ald 0 (s_gi 8 0 (s_push (.int (20)) (s_iclt (kX8_keep_24 r) (s_push (.int (0)) (s_zret))))))))))))
theorem vX8_keep_0 : pu_cok2 kX8_keep_0 := fun rf r hr => by
  unfold kX8_keep_0
  exact v_ald (v_lld (v_cv hr (v_ist (v_ild (v_pi (v_icne (vX8_keep_40 rf r hr) (v_ald (v_gi (v_pi (v_iclt (vX8_keep_24 rf r hr) (v_pi (v_zret))))))))))))
theorem tX8_keep_0 {X : pu_X} {r : pu_R} (hX : pu_H X mdX8_keep) (hr : pu_P X.2.1 X.2.2.2.2.2.2.2.2.2.2.1 r) (hq : ∀ i pc, pu_lp i = some (39, pc) → pu_S X mdX8_keep pc (r i)) : pu_S X mdX8_keep 0 (kX8_keep_0 r) := by
  unfold kX8_keep_0
  exact z_ald_n hX dX8_keep_0 rfl (z_lld_n hX dX8_keep_1 rfl (z_cv (c := 8) hX hr dX8_keep_2 hjX8_indexOf mwX8_indexOf rfl wm13_22 ⟨wm13_23, wm14_0⟩ ⟨Nat.le_of_ble_eq_true rfl, Nat.le_of_ble_eq_true rfl⟩ (z_ist hX dX8_keep_5 (z_ild hX dX8_keep_7 (z_iconst hX dX8_keep_9 (by decide) (z_icne hX dX8_keep_10 (by decide) (tX8_keep_40 hX hr hq) (z_ald_n hX dX8_keep_13 rfl (z_gi (c := 8) (j := 0) hX dX8_keep_14 rfl inlX8 wm14_2 ⟨rfl, by decide, rfl⟩ (z_bipush hX dX8_keep_17 (by decide) (z_iclt hX dX8_keep_19 (by decide) (tX8_keep_24 hX hr hq) (z_iconst hX dX8_keep_22 (by decide) (z_zret hX dX8_keep_23 rfl))))))))))))
def kX11_shorten_94 (r : pu_R) : pu_K := s_ald 0 (s_gr 11 2 (s_gr 5 5 (s_gi 8 0 (s_iret))))
theorem vX11_shorten_94 : pu_cok2 kX11_shorten_94 := fun rf r hr => by
  unfold kX11_shorten_94
  exact v_ald (v_gr (v_gr (v_gi (v_iret))))
theorem tX11_shorten_94 {X : pu_X} {r : pu_R} (hX : pu_H X mdX11_shorten) (hr : pu_P X.2.1 X.2.2.2.2.2.2.2.2.2.2.1 r) (hq : ∀ i pc, pu_lp i = some (40, pc) → pu_S X mdX11_shorten pc (r i)) : pu_S X mdX11_shorten 94 (kX11_shorten_94 r) := by
  unfold kX11_shorten_94
  exact z_ald_n hX dX11_shorten_94 rfl (z_gr (c := 11) (j := 2) hX dX11_shorten_95 rfl inlX11 wm1_20 ⟨rfl, by decide, rfl⟩ (z_gr (c := 5) (j := 5) hX dX11_shorten_98 rfl inlX5 wm12_5 ⟨rfl, by decide, rfl⟩ (z_gi (c := 8) (j := 0) hX dX11_shorten_101 rfl inlX8 wm16_8 ⟨rfl, by decide, rfl⟩ (z_iret hX dX11_shorten_104 rfl))))
def kX11_shorten_68 (r : pu_R) : pu_K := s_ald 0 (s_gr 11 2 (s_gr 5 5 (s_lld 2 (s_ald 0 (s_gr 11 4 (s_gr 7 0 (s_push (.int (1)) (s_al (s_cv r 39 2 8 (s_ifne (kX11_shorten_94 r) (s_push (.int (-6)) (s_iret))))))))))))
theorem vX11_shorten_68 : pu_cok2 kX11_shorten_68 := fun rf r hr => by
  unfold kX11_shorten_68
  exact v_ald (v_gr (v_gr (v_lld (v_ald (v_gr (v_gr (v_pi (v_al (v_cv hr (v_ifne (vX11_shorten_94 rf r hr) (v_pi (v_iret))))))))))))
theorem tX11_shorten_68 {X : pu_X} {r : pu_R} (hX : pu_H X mdX11_shorten) (hr : pu_P X.2.1 X.2.2.2.2.2.2.2.2.2.2.1 r) (hq : ∀ i pc, pu_lp i = some (40, pc) → pu_S X mdX11_shorten pc (r i)) : pu_S X mdX11_shorten 68 (kX11_shorten_68 r) := by
  unfold kX11_shorten_68
  exact z_ald_n hX dX11_shorten_68 rfl (z_gr (c := 11) (j := 2) hX dX11_shorten_69 rfl inlX11 wm1_20 ⟨rfl, by decide, rfl⟩ (z_gr (c := 5) (j := 5) hX dX11_shorten_72 rfl inlX5 wm12_5 ⟨rfl, by decide, rfl⟩ (z_lld_n hX dX11_shorten_75 rfl (z_ald_n hX dX11_shorten_76 rfl (z_gr (c := 11) (j := 4) hX dX11_shorten_77 rfl inlX11 wm2_1 ⟨rfl, by decide, rfl⟩ (z_gr (c := 7) (j := 0) hX dX11_shorten_80 rfl inlX7 wm11_23 ⟨rfl, by decide, rfl⟩ (z_iconst hX dX11_shorten_83 (by decide) (z_lald hX dX11_shorten_84 (z_cv (c := 8) hX hr dX11_shorten_85 hjX8_keep mwX8_keep rfl wm16_22 ⟨wm16_23, wm17_0⟩ ⟨Nat.le_of_ble_eq_true rfl, Nat.le_of_ble_eq_true rfl⟩ (z_ifne hX dX11_shorten_88 (by decide) (tX11_shorten_94 hX hr hq) (z_bipush hX dX11_shorten_91 (by decide) (z_iret hX dX11_shorten_93 rfl))))))))))))
def kX11_shorten_65 (r : pu_R) : pu_K := s_push (.int (-5)) (s_iret)
theorem vX11_shorten_65 : pu_cok2 kX11_shorten_65 := fun rf r hr => by
  unfold kX11_shorten_65
  exact v_pi (v_iret)
theorem tX11_shorten_65 {X : pu_X} {r : pu_R} (hX : pu_H X mdX11_shorten) (hr : pu_P X.2.1 X.2.2.2.2.2.2.2.2.2.2.1 r) (hq : ∀ i pc, pu_lp i = some (40, pc) → pu_S X mdX11_shorten pc (r i)) : pu_S X mdX11_shorten 65 (kX11_shorten_65 r) := by
  unfold kX11_shorten_65
  exact z_bipush hX dX11_shorten_65 (by decide) (z_iret hX dX11_shorten_67 rfl)
def kX11_shorten_27 (r : pu_R) : pu_K := s_ald 0 (s_gr 11 4 (s_gr 7 0 (s_push (.int (0)) (s_al (s_lst 2 (s_ald 0 (s_gr 11 2 (s_gr 5 3 (s_lld 2 (s_cv r 37 1 10 (s_ifne (kX11_shorten_65 r) (s_ald 0 (s_gr 11 2 (s_gr 5 2 (s_lld 2 (s_cv r 38 1 3 (s_ifeq (kX11_shorten_68 r) ((kX11_shorten_65 r)))))))))))))))))))
theorem vX11_shorten_27 : pu_cok2 kX11_shorten_27 := fun rf r hr => by
  unfold kX11_shorten_27
  exact v_ald (v_gr (v_gr (v_pi (v_al (v_lst (v_ald (v_gr (v_gr (v_lld (v_cv hr (v_ifne (vX11_shorten_65 rf r hr) (v_ald (v_gr (v_gr (v_lld (v_cv hr (v_ifeq (vX11_shorten_68 rf r hr) ((vX11_shorten_65 rf r hr)))))))))))))))))))
theorem tX11_shorten_27 {X : pu_X} {r : pu_R} (hX : pu_H X mdX11_shorten) (hr : pu_P X.2.1 X.2.2.2.2.2.2.2.2.2.2.1 r) (hq : ∀ i pc, pu_lp i = some (40, pc) → pu_S X mdX11_shorten pc (r i)) : pu_S X mdX11_shorten 27 (kX11_shorten_27 r) := by
  unfold kX11_shorten_27
  exact z_ald_n hX dX11_shorten_27 rfl (z_gr (c := 11) (j := 4) hX dX11_shorten_28 rfl inlX11 wm2_1 ⟨rfl, by decide, rfl⟩ (z_gr (c := 7) (j := 0) hX dX11_shorten_31 rfl inlX7 wm11_23 ⟨rfl, by decide, rfl⟩ (z_iconst hX dX11_shorten_34 (by decide) (z_lald hX dX11_shorten_35 (z_lst_n hX dX11_shorten_36 rfl (z_ald_n hX dX11_shorten_37 rfl (z_gr (c := 11) (j := 2) hX dX11_shorten_38 rfl inlX11 wm1_20 ⟨rfl, by decide, rfl⟩ (z_gr (c := 5) (j := 3) hX dX11_shorten_41 rfl inlX5 wm11_22 ⟨rfl, by decide, rfl⟩ (z_lld_n hX dX11_shorten_44 rfl (z_cv (c := 10) hX hr dX11_shorten_45 hjX10_isWordOfTown mwX10_isWordOfTown rfl wm16_13 ⟨wm16_14, wm16_15⟩ ⟨Nat.le_of_ble_eq_true rfl, Nat.le_of_ble_eq_true rfl⟩ (z_ifne hX dX11_shorten_48 (by decide) (tX11_shorten_65 hX hr hq) (z_ald_n hX dX11_shorten_51 rfl (z_gr (c := 11) (j := 2) hX dX11_shorten_52 rfl inlX11 wm1_20 ⟨rfl, by decide, rfl⟩ (z_gr (c := 5) (j := 2) hX dX11_shorten_55 rfl inlX5 wm16_7 ⟨rfl, by decide, rfl⟩ (z_lld_n hX dX11_shorten_58 rfl (z_cv (c := 3) hX hr dX11_shorten_59 hjX3_isWordOfName mwX3_isWordOfName rfl wm16_17 ⟨wm16_18, wm16_19⟩ ⟨Nat.le_of_ble_eq_true rfl, Nat.le_of_ble_eq_true rfl⟩ (z_ifeq hX dX11_shorten_62 (by decide) (tX11_shorten_68 hX hr hq) ((tX11_shorten_65 hX hr hq)))))))))))))))))))
def kX11_shorten_0 (r : pu_R) : pu_K := s_ald 0 (s_gr 11 4 (s_ald 0 (s_gr 11 0 (s_cv r 36 1 7 (s_ist 1 (s_ald 0 (s_gr 11 0 (s_push (.int (0)) (s_pi 0 0 (s_ild 1 (s_ifne (kX11_shorten_27 r) (s_push (.int (-2)) (s_iret)))))))))))))
theorem vX11_shorten_0 : pu_cok2 kX11_shorten_0 := fun rf r hr => by
  unfold kX11_shorten_0
  exact v_ald (v_gr (v_ald (v_gr (v_cv hr (v_ist (v_ald (v_gr (v_pi (v_puti (v_ild (v_ifne (vX11_shorten_27 rf r hr) (v_pi (v_iret)))))))))))))
theorem tX11_shorten_0 {X : pu_X} {r : pu_R} (hX : pu_H X mdX11_shorten) (hr : pu_P X.2.1 X.2.2.2.2.2.2.2.2.2.2.1 r) (hq : ∀ i pc, pu_lp i = some (40, pc) → pu_S X mdX11_shorten pc (r i)) : pu_S X mdX11_shorten 0 (kX11_shorten_0 r) := by
  unfold kX11_shorten_0
  exact z_ald_n hX dX11_shorten_0 rfl (z_gr (c := 11) (j := 4) hX dX11_shorten_1 rfl inlX11 wm2_1 ⟨rfl, by decide, rfl⟩ (z_ald_n hX dX11_shorten_4 rfl (z_gr (c := 11) (j := 0) hX dX11_shorten_5 rfl inlX11 wm1_15 ⟨rfl, by decide, rfl⟩ (z_cv (c := 7) hX hr dX11_shorten_8 hjX7_readPair mwX7_readPair rfl wm16_9 ⟨wm16_10, wm16_11⟩ ⟨Nat.le_of_ble_eq_true rfl, Nat.le_of_ble_eq_true rfl⟩ (z_ist_n hX dX11_shorten_11 rfl (z_ald_n hX dX11_shorten_12 rfl (z_gr (c := 11) (j := 0) hX dX11_shorten_13 rfl inlX11 wm1_15 ⟨rfl, by decide, rfl⟩ (z_iconst hX dX11_shorten_16 (by decide) (z_pi (c := 0) (j := 0) tyX0 tyX0_ok nmX0 hX dX11_shorten_17 rfl inlX0 wm9_1 ⟨rfl, by decide⟩ ⟨rfl, rfl⟩ rfl (z_ild_n hX dX11_shorten_20 rfl (z_ifne hX dX11_shorten_21 (by decide) (tX11_shorten_27 hX hr hq) (z_bipush hX dX11_shorten_24 (by decide) (z_iret hX dX11_shorten_26 rfl)))))))))))))
def kX10_isTown_17 (r : pu_R) : pu_K := s_zret
theorem vX10_isTown_17 : pu_cok2 kX10_isTown_17 := fun rf r hr => by
  unfold kX10_isTown_17
  exact v_zret
theorem tX10_isTown_17 {X : pu_X} {r : pu_R} (hX : pu_H X mdX10_isTown) (hr : pu_P X.2.1 X.2.2.2.2.2.2.2.2.2.2.1 r) (hq : ∀ i pc, pu_lp i = some (41, pc) → pu_S X mdX10_isTown pc (r i)) : pu_S X mdX10_isTown 17 (kX10_isTown_17 r) := by
  unfold kX10_isTown_17
  exact z_zret hX dX10_isTown_17 rfl
def kX10_isTown_16 (r : pu_R) : pu_K := s_push (.int (0)) ((kX10_isTown_17 r))
theorem vX10_isTown_16 : pu_cok2 kX10_isTown_16 := fun rf r hr => by
  unfold kX10_isTown_16
  exact v_pi ((vX10_isTown_17 rf r hr))
theorem tX10_isTown_16 {X : pu_X} {r : pu_R} (hX : pu_H X mdX10_isTown) (hr : pu_P X.2.1 X.2.2.2.2.2.2.2.2.2.2.1 r) (hq : ∀ i pc, pu_lp i = some (41, pc) → pu_S X mdX10_isTown pc (r i)) : pu_S X mdX10_isTown 16 (kX10_isTown_16 r) := by
  unfold kX10_isTown_16
  exact z_iconst hX dX10_isTown_16 (by decide) ((tX10_isTown_17 hX hr hq))
def kX10_isTown_0 (r : pu_R) : pu_K := s_ild 1 (s_iflt (kX10_isTown_16 r) (s_ild 1 (s_ald 0 (s_gi 10 0 (s_icge (kX10_isTown_16 r) (s_push (.int (1)) ((kX10_isTown_17 r))))))))
theorem vX10_isTown_0 : pu_cok2 kX10_isTown_0 := fun rf r hr => by
  unfold kX10_isTown_0
  exact v_ild (v_iflt (vX10_isTown_16 rf r hr) (v_ild (v_ald (v_gi (v_icge (vX10_isTown_16 rf r hr) (v_pi ((vX10_isTown_17 rf r hr))))))))
theorem tX10_isTown_0 {X : pu_X} {r : pu_R} (hX : pu_H X mdX10_isTown) (hr : pu_P X.2.1 X.2.2.2.2.2.2.2.2.2.2.1 r) (hq : ∀ i pc, pu_lp i = some (41, pc) → pu_S X mdX10_isTown pc (r i)) : pu_S X mdX10_isTown 0 (kX10_isTown_0 r) := by
  unfold kX10_isTown_0
  exact z_ild_n hX dX10_isTown_0 rfl (z_iflt hX dX10_isTown_1 (by decide) (tX10_isTown_16 hX hr hq) (z_ild_n hX dX10_isTown_4 rfl (z_ald_n hX dX10_isTown_5 rfl (z_gi (c := 10) (j := 0) hX dX10_isTown_6 rfl inlX10 wm14_7 ⟨rfl, by decide, rfl⟩ (z_icge hX dX10_isTown_9 (by decide) (tX10_isTown_16 hX hr hq) (z_iconst hX dX10_isTown_12 (by decide) ((z_goto hX dX10_isTown_13 (by decide) (tX10_isTown_17 hX hr hq)))))))))
def kX6_wasJoined_28 (r : pu_R) : pu_K := s_push (.int (0)) (s_zret)
theorem vX6_wasJoined_28 : pu_cok2 kX6_wasJoined_28 := fun rf r hr => by
  unfold kX6_wasJoined_28
  exact v_pi (v_zret)
theorem tX6_wasJoined_28 {X : pu_X} {r : pu_R} (hX : pu_H X mdX6_wasJoined) (hr : pu_P X.2.1 X.2.2.2.2.2.2.2.2.2.2.1 r) (hq : ∀ i pc, pu_lp i = some (42, pc) → pu_S X mdX6_wasJoined pc (r i)) : pu_S X mdX6_wasJoined 28 (kX6_wasJoined_28 r) := by
  unfold kX6_wasJoined_28
  exact z_iconst hX dX6_wasJoined_28 (by decide) (z_zret hX dX6_wasJoined_29 rfl)
def kX6_wasJoined_22 (r : pu_R) : pu_K := s_inc 2 (1) ((r 366))
theorem vX6_wasJoined_22 : pu_cok2 kX6_wasJoined_22 := fun rf r hr => by
  unfold kX6_wasJoined_22
  exact v_inc ((hr 366))
theorem tX6_wasJoined_22 {X : pu_X} {r : pu_R} (hX : pu_H X mdX6_wasJoined) (hr : pu_P X.2.1 X.2.2.2.2.2.2.2.2.2.2.1 r) (hq : ∀ i pc, pu_lp i = some (42, pc) → pu_S X mdX6_wasJoined pc (r i)) : pu_S X mdX6_wasJoined 22 (kX6_wasJoined_22 r) := by
  unfold kX6_wasJoined_22
  exact z_inc hX dX6_wasJoined_22 (by decide) ((z_goto hX dX6_wasJoined_25 (by decide) (hq 366 2 hl366)))
def kX6_wasJoined_2 (r : pu_R) : pu_K := s_ild 2 (s_ald 0 (s_gi 6 2 (s_icge (kX6_wasJoined_28 r) (s_ald 0 (s_gr 6 8 (s_ild 2 (s_ai 1 (s_ild 1 (s_icne (kX6_wasJoined_22 r) (s_push (.int (1)) (s_zret)))))))))))
theorem vX6_wasJoined_2 : pu_cok2 kX6_wasJoined_2 := fun rf r hr => by
  unfold kX6_wasJoined_2
  exact v_ild (v_ald (v_gi (v_icge (vX6_wasJoined_28 rf r hr) (v_ald (v_gr (v_ild (v_ai (v_ild (v_icne (vX6_wasJoined_22 rf r hr) (v_pi (v_zret)))))))))))
theorem tX6_wasJoined_2 {X : pu_X} {r : pu_R} (hX : pu_H X mdX6_wasJoined) (hr : pu_P X.2.1 X.2.2.2.2.2.2.2.2.2.2.1 r) (hq : ∀ i pc, pu_lp i = some (42, pc) → pu_S X mdX6_wasJoined pc (r i)) : pu_S X mdX6_wasJoined 2 (kX6_wasJoined_2 r) := by
  unfold kX6_wasJoined_2
  exact z_ild_n hX dX6_wasJoined_2 rfl (z_ald_n hX dX6_wasJoined_3 rfl (z_gi (c := 6) (j := 2) hX dX6_wasJoined_4 rfl inlX6 wm18_3 ⟨rfl, by decide, rfl⟩ (z_icge hX dX6_wasJoined_7 (by decide) (tX6_wasJoined_28 hX hr hq) (z_ald_n hX dX6_wasJoined_10 rfl (z_gr (c := 6) (j := 8) hX dX6_wasJoined_11 rfl inlX6 wm4_7 ⟨rfl, by decide, rfl⟩ (z_ild_n hX dX6_wasJoined_14 rfl (z_iald hX dX6_wasJoined_15 (z_ild_n hX dX6_wasJoined_16 rfl (z_icne hX dX6_wasJoined_17 (by decide) (tX6_wasJoined_22 hX hr hq) (z_iconst hX dX6_wasJoined_20 (by decide) (z_zret hX dX6_wasJoined_21 rfl)))))))))))
def kX6_wasJoined_0 (r : pu_R) : pu_K := s_push (.int (0)) (s_ist 2 ((r 366)))
theorem vX6_wasJoined_0 : pu_cok2 kX6_wasJoined_0 := fun rf r hr => by
  unfold kX6_wasJoined_0
  exact v_pi (v_ist ((hr 366)))
theorem tX6_wasJoined_0 {X : pu_X} {r : pu_R} (hX : pu_H X mdX6_wasJoined) (hr : pu_P X.2.1 X.2.2.2.2.2.2.2.2.2.2.1 r) (hq : ∀ i pc, pu_lp i = some (42, pc) → pu_S X mdX6_wasJoined pc (r i)) : pu_S X mdX6_wasJoined 0 (kX6_wasJoined_0 r) := by
  unfold kX6_wasJoined_0
  exact z_iconst hX dX6_wasJoined_0 (by decide) (z_ist_n hX dX6_wasJoined_1 rfl ((hq 366 2 hl366)))
def kX11_isTownOfItsOwn_33 (r : pu_R) : pu_K := s_zret
theorem vX11_isTownOfItsOwn_33 : pu_cok2 kX11_isTownOfItsOwn_33 := fun rf r hr => by
  unfold kX11_isTownOfItsOwn_33
  exact v_zret
theorem tX11_isTownOfItsOwn_33 {X : pu_X} {r : pu_R} (hX : pu_H X mdX11_isTownOfItsOwn) (hr : pu_P X.2.1 X.2.2.2.2.2.2.2.2.2.2.1 r) (hq : ∀ i pc, pu_lp i = some (43, pc) → pu_S X mdX11_isTownOfItsOwn pc (r i)) : pu_S X mdX11_isTownOfItsOwn 33 (kX11_isTownOfItsOwn_33 r) := by
  unfold kX11_isTownOfItsOwn_33
  exact z_zret hX dX11_isTownOfItsOwn_33 rfl
def kX11_isTownOfItsOwn_32 (r : pu_R) : pu_K := s_push (.int (0)) ((kX11_isTownOfItsOwn_33 r))
theorem vX11_isTownOfItsOwn_32 : pu_cok2 kX11_isTownOfItsOwn_32 := fun rf r hr => by
  unfold kX11_isTownOfItsOwn_32
  exact v_pi ((vX11_isTownOfItsOwn_33 rf r hr))
theorem tX11_isTownOfItsOwn_32 {X : pu_X} {r : pu_R} (hX : pu_H X mdX11_isTownOfItsOwn) (hr : pu_P X.2.1 X.2.2.2.2.2.2.2.2.2.2.1 r) (hq : ∀ i pc, pu_lp i = some (43, pc) → pu_S X mdX11_isTownOfItsOwn pc (r i)) : pu_S X mdX11_isTownOfItsOwn 32 (kX11_isTownOfItsOwn_32 r) := by
  unfold kX11_isTownOfItsOwn_32
  exact z_iconst hX dX11_isTownOfItsOwn_32 (by decide) ((tX11_isTownOfItsOwn_33 hX hr hq))
def kX11_isTownOfItsOwn_0 (r : pu_R) : pu_K := s_ald 0 (s_gr 11 2 (s_gr 5 3 (s_ild 1 (s_cv r 41 1 10 (s_ifeq (kX11_isTownOfItsOwn_32 r) (s_ald 0 (s_gr 11 2 (s_gr 5 0 (s_ild 1 (s_cv r 42 1 6 (s_ifne (kX11_isTownOfItsOwn_32 r) (s_push (.int (1)) ((kX11_isTownOfItsOwn_33 r))))))))))))))
theorem vX11_isTownOfItsOwn_0 : pu_cok2 kX11_isTownOfItsOwn_0 := fun rf r hr => by
  unfold kX11_isTownOfItsOwn_0
  exact v_ald (v_gr (v_gr (v_ild (v_cv hr (v_ifeq (vX11_isTownOfItsOwn_32 rf r hr) (v_ald (v_gr (v_gr (v_ild (v_cv hr (v_ifne (vX11_isTownOfItsOwn_32 rf r hr) (v_pi ((vX11_isTownOfItsOwn_33 rf r hr))))))))))))))
theorem tX11_isTownOfItsOwn_0 {X : pu_X} {r : pu_R} (hX : pu_H X mdX11_isTownOfItsOwn) (hr : pu_P X.2.1 X.2.2.2.2.2.2.2.2.2.2.1 r) (hq : ∀ i pc, pu_lp i = some (43, pc) → pu_S X mdX11_isTownOfItsOwn pc (r i)) : pu_S X mdX11_isTownOfItsOwn 0 (kX11_isTownOfItsOwn_0 r) := by
  unfold kX11_isTownOfItsOwn_0
  exact z_ald_n hX dX11_isTownOfItsOwn_0 rfl (z_gr (c := 11) (j := 2) hX dX11_isTownOfItsOwn_1 rfl inlX11 wm1_20 ⟨rfl, by decide, rfl⟩ (z_gr (c := 5) (j := 3) hX dX11_isTownOfItsOwn_4 rfl inlX5 wm11_22 ⟨rfl, by decide, rfl⟩ (z_ild_n hX dX11_isTownOfItsOwn_7 rfl (z_cv (c := 10) hX hr dX11_isTownOfItsOwn_8 hjX10_isTown mwX10_isTown rfl wm17_19 ⟨wm17_20, wm17_21⟩ ⟨Nat.le_of_ble_eq_true rfl, Nat.le_of_ble_eq_true rfl⟩ (z_ifeq hX dX11_isTownOfItsOwn_11 (by decide) (tX11_isTownOfItsOwn_32 hX hr hq) (z_ald_n hX dX11_isTownOfItsOwn_14 rfl (z_gr (c := 11) (j := 2) hX dX11_isTownOfItsOwn_15 rfl inlX11 wm1_20 ⟨rfl, by decide, rfl⟩ (z_gr (c := 5) (j := 0) hX dX11_isTownOfItsOwn_18 rfl inlX5 wm10_19 ⟨rfl, by decide, rfl⟩ (z_ild_n hX dX11_isTownOfItsOwn_21 rfl (z_cv (c := 6) hX hr dX11_isTownOfItsOwn_22 hjX6_wasJoined mwX6_wasJoined rfl wm17_23 ⟨wm18_0, wm18_1⟩ ⟨Nat.le_of_ble_eq_true rfl, Nat.le_of_ble_eq_true rfl⟩ (z_ifne hX dX11_isTownOfItsOwn_25 (by decide) (tX11_isTownOfItsOwn_32 hX hr hq) (z_iconst hX dX11_isTownOfItsOwn_28 (by decide) ((z_goto hX dX11_isTownOfItsOwn_29 (by decide) (tX11_isTownOfItsOwn_33 hX hr hq)))))))))))))))
def kX11_isRule_14 (r : pu_R) : pu_K := s_zret
theorem vX11_isRule_14 : pu_cok2 kX11_isRule_14 := fun rf r hr => by
  unfold kX11_isRule_14
  exact v_zret
theorem tX11_isRule_14 {X : pu_X} {r : pu_R} (hX : pu_H X mdX11_isRule) (hr : pu_P X.2.1 X.2.2.2.2.2.2.2.2.2.2.1 r) (hq : ∀ i pc, pu_lp i = some (44, pc) → pu_S X mdX11_isRule pc (r i)) : pu_S X mdX11_isRule 14 (kX11_isRule_14 r) := by
  unfold kX11_isRule_14
  exact z_zret hX dX11_isRule_14 rfl
def kX11_isRule_13 (r : pu_R) : pu_K := s_push (.int (0)) ((kX11_isRule_14 r))
theorem vX11_isRule_13 : pu_cok2 kX11_isRule_13 := fun rf r hr => by
  unfold kX11_isRule_13
  exact v_pi ((vX11_isRule_14 rf r hr))
theorem tX11_isRule_13 {X : pu_X} {r : pu_R} (hX : pu_H X mdX11_isRule) (hr : pu_P X.2.1 X.2.2.2.2.2.2.2.2.2.2.1 r) (hq : ∀ i pc, pu_lp i = some (44, pc) → pu_S X mdX11_isRule pc (r i)) : pu_S X mdX11_isRule 13 (kX11_isRule_13 r) := by
  unfold kX11_isRule_13
  exact z_iconst hX dX11_isRule_13 (by decide) ((tX11_isRule_14 hX hr hq))
def kX11_isRule_0 (r : pu_R) : pu_K := s_ild 0 (s_iflt (kX11_isRule_13 r) (s_ild 0 (s_push (.int (3)) (s_icgt (kX11_isRule_13 r) (s_push (.int (1)) ((kX11_isRule_14 r)))))))
theorem vX11_isRule_0 : pu_cok2 kX11_isRule_0 := fun rf r hr => by
  unfold kX11_isRule_0
  exact v_ild (v_iflt (vX11_isRule_13 rf r hr) (v_ild (v_pi (v_icgt (vX11_isRule_13 rf r hr) (v_pi ((vX11_isRule_14 rf r hr)))))))
theorem tX11_isRule_0 {X : pu_X} {r : pu_R} (hX : pu_H X mdX11_isRule) (hr : pu_P X.2.1 X.2.2.2.2.2.2.2.2.2.2.1 r) (hq : ∀ i pc, pu_lp i = some (44, pc) → pu_S X mdX11_isRule pc (r i)) : pu_S X mdX11_isRule 0 (kX11_isRule_0 r) := by
  unfold kX11_isRule_0
  exact z_ild_n hX dX11_isRule_0 rfl (z_iflt hX dX11_isRule_1 (by decide) (tX11_isRule_13 hX hr hq) (z_ild_n hX dX11_isRule_4 rfl (z_iconst hX dX11_isRule_5 (by decide) (z_icgt hX dX11_isRule_6 (by decide) (tX11_isRule_13 hX hr hq) (z_iconst hX dX11_isRule_9 (by decide) ((z_goto hX dX11_isRule_10 (by decide) (tX11_isRule_14 hX hr hq))))))))
def kX6_latestOn_110 (r : pu_R) : pu_K := s_ild 3 (s_iret)
theorem vX6_latestOn_110 : pu_cok2 kX6_latestOn_110 := fun rf r hr => by
  unfold kX6_latestOn_110
  exact v_ild (v_iret)
theorem tX6_latestOn_110 {X : pu_X} {r : pu_R} (hX : pu_H X mdX6_latestOn) (hr : pu_P X.2.1 X.2.2.2.2.2.2.2.2.2.2.1 r) (hq : ∀ i pc, pu_lp i = some (45, pc) → pu_S X mdX6_latestOn pc (r i)) : pu_S X mdX6_latestOn 110 (kX6_latestOn_110 r) := by
  unfold kX6_latestOn_110
  exact z_ild_n hX dX6_latestOn_110 rfl (z_iret hX dX6_latestOn_111 rfl)
def kX6_latestOn_104 (r : pu_R) : pu_K := s_inc 4 (1) ((r 367))
theorem vX6_latestOn_104 : pu_cok2 kX6_latestOn_104 := fun rf r hr => by
  unfold kX6_latestOn_104
  exact v_inc ((hr 367))
theorem tX6_latestOn_104 {X : pu_X} {r : pu_R} (hX : pu_H X mdX6_latestOn) (hr : pu_P X.2.1 X.2.2.2.2.2.2.2.2.2.2.1 r) (hq : ∀ i pc, pu_lp i = some (45, pc) → pu_S X mdX6_latestOn pc (r i)) : pu_S X mdX6_latestOn 104 (kX6_latestOn_104 r) := by
  unfold kX6_latestOn_104
  exact z_inc hX dX6_latestOn_104 (by decide) ((z_goto hX dX6_latestOn_107 (by decide) (hq 367 5 hl367)))
def kX6_latestOn_92 (r : pu_R) : pu_K := s_ild 3 (s_ald 0 (s_gr 6 3 (s_ild 4 (s_ai 1 (s_max (s_ist 3 ((kX6_latestOn_104 r))))))))
theorem vX6_latestOn_92 : pu_cok2 kX6_latestOn_92 := fun rf r hr => by
  unfold kX6_latestOn_92
  exact v_ild (v_ald (v_gr (v_ild (v_ai (v_max (v_ist ((vX6_latestOn_104 rf r hr))))))))
theorem tX6_latestOn_92 {X : pu_X} {r : pu_R} (hX : pu_H X mdX6_latestOn) (hr : pu_P X.2.1 X.2.2.2.2.2.2.2.2.2.2.1 r) (hq : ∀ i pc, pu_lp i = some (45, pc) → pu_S X mdX6_latestOn pc (r i)) : pu_S X mdX6_latestOn 92 (kX6_latestOn_92 r) := by
  unfold kX6_latestOn_92
  exact z_ild_n hX dX6_latestOn_92 rfl (z_ald_n hX dX6_latestOn_93 rfl (z_gr (c := 6) (j := 3) hX dX6_latestOn_94 rfl inlX6 wm4_2 ⟨rfl, by decide, rfl⟩ (z_ild hX dX6_latestOn_97 (z_iald hX dX6_latestOn_99 (z_max hX dX6_latestOn_100 ⟨wm18_11, wm18_12, wm18_13, wm18_14⟩ ⟨Nat.le_of_ble_eq_true rfl, Nat.le_of_ble_eq_true rfl⟩ (z_ist_n hX dX6_latestOn_103 rfl ((tX6_latestOn_104 hX hr hq))))))))
def kX6_latestOn_80 (r : pu_R) : pu_K := s_ist 6 (s_ild 5 (s_ifne (kX6_latestOn_92 r) (s_ild 6 (s_ifeq (kX6_latestOn_104 r) ((kX6_latestOn_92 r))))))
theorem vX6_latestOn_80 : pu_cok2 kX6_latestOn_80 := fun rf r hr => by
  unfold kX6_latestOn_80
  exact v_ist (v_ild (v_ifne (vX6_latestOn_92 rf r hr) (v_ild (v_ifeq (vX6_latestOn_104 rf r hr) ((vX6_latestOn_92 rf r hr))))))
theorem tX6_latestOn_80 {X : pu_X} {r : pu_R} (hX : pu_H X mdX6_latestOn) (hr : pu_P X.2.1 X.2.2.2.2.2.2.2.2.2.2.1 r) (hq : ∀ i pc, pu_lp i = some (45, pc) → pu_S X mdX6_latestOn pc (r i)) : pu_S X mdX6_latestOn 80 (kX6_latestOn_80 r) := by
  unfold kX6_latestOn_80
  exact z_ist hX dX6_latestOn_80 (z_ild hX dX6_latestOn_82 (z_ifne hX dX6_latestOn_84 (by decide) (tX6_latestOn_92 hX hr hq) (z_ild hX dX6_latestOn_87 (z_ifeq hX dX6_latestOn_89 (by decide) (tX6_latestOn_104 hX hr hq) ((tX6_latestOn_92 hX hr hq))))))
def kX6_latestOn_79 (r : pu_R) : pu_K := s_push (.int (0)) ((kX6_latestOn_80 r))
theorem vX6_latestOn_79 : pu_cok2 kX6_latestOn_79 := fun rf r hr => by
  unfold kX6_latestOn_79
  exact v_pi ((vX6_latestOn_80 rf r hr))
theorem tX6_latestOn_79 {X : pu_X} {r : pu_R} (hX : pu_H X mdX6_latestOn) (hr : pu_P X.2.1 X.2.2.2.2.2.2.2.2.2.2.1 r) (hq : ∀ i pc, pu_lp i = some (45, pc) → pu_S X mdX6_latestOn pc (r i)) : pu_S X mdX6_latestOn 79 (kX6_latestOn_79 r) := by
  unfold kX6_latestOn_79
  exact z_iconst hX dX6_latestOn_79 (by decide) ((tX6_latestOn_80 hX hr hq))
def kX6_latestOn_75 (r : pu_R) : pu_K := s_push (.int (1)) ((kX6_latestOn_80 r))
theorem vX6_latestOn_75 : pu_cok2 kX6_latestOn_75 := fun rf r hr => by
  unfold kX6_latestOn_75
  exact v_pi ((vX6_latestOn_80 rf r hr))
theorem tX6_latestOn_75 {X : pu_X} {r : pu_R} (hX : pu_H X mdX6_latestOn) (hr : pu_P X.2.1 X.2.2.2.2.2.2.2.2.2.2.1 r) (hq : ∀ i pc, pu_lp i = some (45, pc) → pu_S X mdX6_latestOn pc (r i)) : pu_S X mdX6_latestOn 75 (kX6_latestOn_75 r) := by
  unfold kX6_latestOn_75
  exact z_iconst hX dX6_latestOn_75 (by decide) ((z_goto hX dX6_latestOn_76 (by decide) (tX6_latestOn_80 hX hr hq)))
def kX6_latestOn_46 (r : pu_R) : pu_K := s_ist 5 (s_ild 2 (s_push (.int (-1)) (s_iceq (kX6_latestOn_79 r) (s_ald 0 (s_gr 6 7 (s_ild 4 (s_ai 1 (s_ild 2 (s_iceq (kX6_latestOn_75 r) (s_ald 0 (s_gr 6 8 (s_ild 4 (s_ai 1 (s_ild 2 (s_icne (kX6_latestOn_79 r) ((kX6_latestOn_75 r)))))))))))))))))
theorem vX6_latestOn_46 : pu_cok2 kX6_latestOn_46 := fun rf r hr => by
  unfold kX6_latestOn_46
  exact v_ist (v_ild (v_pi (v_iceq (vX6_latestOn_79 rf r hr) (v_ald (v_gr (v_ild (v_ai (v_ild (v_iceq (vX6_latestOn_75 rf r hr) (v_ald (v_gr (v_ild (v_ai (v_ild (v_icne (vX6_latestOn_79 rf r hr) ((vX6_latestOn_75 rf r hr)))))))))))))))))
theorem tX6_latestOn_46 {X : pu_X} {r : pu_R} (hX : pu_H X mdX6_latestOn) (hr : pu_P X.2.1 X.2.2.2.2.2.2.2.2.2.2.1 r) (hq : ∀ i pc, pu_lp i = some (45, pc) → pu_S X mdX6_latestOn pc (r i)) : pu_S X mdX6_latestOn 46 (kX6_latestOn_46 r) := by
  unfold kX6_latestOn_46
  exact z_ist hX dX6_latestOn_46 (z_ild_n hX dX6_latestOn_48 rfl (z_iconst hX dX6_latestOn_49 (by decide) (z_iceq hX dX6_latestOn_50 (by decide) (tX6_latestOn_79 hX hr hq) (z_ald_n hX dX6_latestOn_53 rfl (z_gr (c := 6) (j := 7) hX dX6_latestOn_54 rfl inlX6 wm4_6 ⟨rfl, by decide, rfl⟩ (z_ild hX dX6_latestOn_57 (z_iald hX dX6_latestOn_59 (z_ild_n hX dX6_latestOn_60 rfl (z_iceq hX dX6_latestOn_61 (by decide) (tX6_latestOn_75 hX hr hq) (z_ald_n hX dX6_latestOn_64 rfl (z_gr (c := 6) (j := 8) hX dX6_latestOn_65 rfl inlX6 wm4_7 ⟨rfl, by decide, rfl⟩ (z_ild hX dX6_latestOn_68 (z_iald hX dX6_latestOn_70 (z_ild_n hX dX6_latestOn_71 rfl (z_icne hX dX6_latestOn_72 (by decide) (tX6_latestOn_79 hX hr hq) ((tX6_latestOn_75 hX hr hq)))))))))))))))))
def kX6_latestOn_45 (r : pu_R) : pu_K := s_push (.int (0)) ((kX6_latestOn_46 r))
theorem vX6_latestOn_45 : pu_cok2 kX6_latestOn_45 := fun rf r hr => by
  unfold kX6_latestOn_45
  exact v_pi ((vX6_latestOn_46 rf r hr))
theorem tX6_latestOn_45 {X : pu_X} {r : pu_R} (hX : pu_H X mdX6_latestOn) (hr : pu_P X.2.1 X.2.2.2.2.2.2.2.2.2.2.1 r) (hq : ∀ i pc, pu_lp i = some (45, pc) → pu_S X mdX6_latestOn pc (r i)) : pu_S X mdX6_latestOn 45 (kX6_latestOn_45 r) := by
  unfold kX6_latestOn_45
  exact z_iconst hX dX6_latestOn_45 (by decide) ((tX6_latestOn_46 hX hr hq))
def kX6_latestOn_41 (r : pu_R) : pu_K := s_push (.int (1)) ((kX6_latestOn_46 r))
theorem vX6_latestOn_41 : pu_cok2 kX6_latestOn_41 := fun rf r hr => by
  unfold kX6_latestOn_41
  exact v_pi ((vX6_latestOn_46 rf r hr))
theorem tX6_latestOn_41 {X : pu_X} {r : pu_R} (hX : pu_H X mdX6_latestOn) (hr : pu_P X.2.1 X.2.2.2.2.2.2.2.2.2.2.1 r) (hq : ∀ i pc, pu_lp i = some (45, pc) → pu_S X mdX6_latestOn pc (r i)) : pu_S X mdX6_latestOn 41 (kX6_latestOn_41 r) := by
  unfold kX6_latestOn_41
  exact z_iconst hX dX6_latestOn_41 (by decide) ((z_goto hX dX6_latestOn_42 (by decide) (tX6_latestOn_46 hX hr hq)))
def kX6_latestOn_5 (r : pu_R) : pu_K := s_ild 4 (s_ald 0 (s_gi 6 2 (s_icge (kX6_latestOn_110 r) (s_ild 1 (s_push (.int (-1)) (s_iceq (kX6_latestOn_45 r) (s_ald 0 (s_gr 6 5 (s_ild 4 (s_ai 1 (s_ild 1 (s_iceq (kX6_latestOn_41 r) (s_ald 0 (s_gr 6 6 (s_ild 4 (s_ai 1 (s_ild 1 (s_icne (kX6_latestOn_45 r) ((kX6_latestOn_41 r))))))))))))))))))))
theorem vX6_latestOn_5 : pu_cok2 kX6_latestOn_5 := fun rf r hr => by
  unfold kX6_latestOn_5
  exact v_ild (v_ald (v_gi (v_icge (vX6_latestOn_110 rf r hr) (v_ild (v_pi (v_iceq (vX6_latestOn_45 rf r hr) (v_ald (v_gr (v_ild (v_ai (v_ild (v_iceq (vX6_latestOn_41 rf r hr) (v_ald (v_gr (v_ild (v_ai (v_ild (v_icne (vX6_latestOn_45 rf r hr) ((vX6_latestOn_41 rf r hr))))))))))))))))))))
theorem tX6_latestOn_5 {X : pu_X} {r : pu_R} (hX : pu_H X mdX6_latestOn) (hr : pu_P X.2.1 X.2.2.2.2.2.2.2.2.2.2.1 r) (hq : ∀ i pc, pu_lp i = some (45, pc) → pu_S X mdX6_latestOn pc (r i)) : pu_S X mdX6_latestOn 5 (kX6_latestOn_5 r) := by
  unfold kX6_latestOn_5
  exact z_ild hX dX6_latestOn_5 (z_ald_n hX dX6_latestOn_7 rfl (z_gi (c := 6) (j := 2) hX dX6_latestOn_8 rfl inlX6 wm18_3 ⟨rfl, by decide, rfl⟩ (z_icge hX dX6_latestOn_11 (by decide) (tX6_latestOn_110 hX hr hq) (z_ild_n hX dX6_latestOn_14 rfl (z_iconst hX dX6_latestOn_15 (by decide) (z_iceq hX dX6_latestOn_16 (by decide) (tX6_latestOn_45 hX hr hq) (z_ald_n hX dX6_latestOn_19 rfl (z_gr (c := 6) (j := 5) hX dX6_latestOn_20 rfl inlX6 wm4_4 ⟨rfl, by decide, rfl⟩ (z_ild hX dX6_latestOn_23 (z_iald hX dX6_latestOn_25 (z_ild_n hX dX6_latestOn_26 rfl (z_iceq hX dX6_latestOn_27 (by decide) (tX6_latestOn_41 hX hr hq) (z_ald_n hX dX6_latestOn_30 rfl (z_gr (c := 6) (j := 6) hX dX6_latestOn_31 rfl inlX6 wm4_5 ⟨rfl, by decide, rfl⟩ (z_ild hX dX6_latestOn_34 (z_iald hX dX6_latestOn_36 (z_ild_n hX dX6_latestOn_37 rfl (z_icne hX dX6_latestOn_38 (by decide) (tX6_latestOn_45 hX hr hq) ((tX6_latestOn_41 hX hr hq))))))))))))))))))))
def kX6_latestOn_0 (r : pu_R) : pu_K := s_push (.int (0)) (s_ist 3 (s_push (.int (0)) (s_ist 4 ((r 367)))))
theorem vX6_latestOn_0 : pu_cok2 kX6_latestOn_0 := fun rf r hr => by
  unfold kX6_latestOn_0
  exact v_pi (v_ist (v_pi (v_ist ((hr 367)))))
theorem tX6_latestOn_0 {X : pu_X} {r : pu_R} (hX : pu_H X mdX6_latestOn) (hr : pu_P X.2.1 X.2.2.2.2.2.2.2.2.2.2.1 r) (hq : ∀ i pc, pu_lp i = some (45, pc) → pu_S X mdX6_latestOn pc (r i)) : pu_S X mdX6_latestOn 0 (kX6_latestOn_0 r) := by
  unfold kX6_latestOn_0
  exact z_iconst hX dX6_latestOn_0 (by decide) (z_ist_n hX dX6_latestOn_1 rfl (z_iconst hX dX6_latestOn_2 (by decide) (z_ist hX dX6_latestOn_3 ((hq 367 5 hl367)))))
def kX6_isPaper_17 (r : pu_R) : pu_K := s_zret
theorem vX6_isPaper_17 : pu_cok2 kX6_isPaper_17 := fun rf r hr => by
  unfold kX6_isPaper_17
  exact v_zret
theorem tX6_isPaper_17 {X : pu_X} {r : pu_R} (hX : pu_H X mdX6_isPaper) (hr : pu_P X.2.1 X.2.2.2.2.2.2.2.2.2.2.1 r) (hq : ∀ i pc, pu_lp i = some (46, pc) → pu_S X mdX6_isPaper pc (r i)) : pu_S X mdX6_isPaper 17 (kX6_isPaper_17 r) := by
  unfold kX6_isPaper_17
  exact z_zret hX dX6_isPaper_17 rfl
def kX6_isPaper_16 (r : pu_R) : pu_K := s_push (.int (0)) ((kX6_isPaper_17 r))
theorem vX6_isPaper_16 : pu_cok2 kX6_isPaper_16 := fun rf r hr => by
  unfold kX6_isPaper_16
  exact v_pi ((vX6_isPaper_17 rf r hr))
theorem tX6_isPaper_16 {X : pu_X} {r : pu_R} (hX : pu_H X mdX6_isPaper) (hr : pu_P X.2.1 X.2.2.2.2.2.2.2.2.2.2.1 r) (hq : ∀ i pc, pu_lp i = some (46, pc) → pu_S X mdX6_isPaper pc (r i)) : pu_S X mdX6_isPaper 16 (kX6_isPaper_16 r) := by
  unfold kX6_isPaper_16
  exact z_iconst hX dX6_isPaper_16 (by decide) ((tX6_isPaper_17 hX hr hq))
def kX6_isPaper_0 (r : pu_R) : pu_K := s_ild 1 (s_iflt (kX6_isPaper_16 r) (s_ild 1 (s_ald 0 (s_gi 6 2 (s_icge (kX6_isPaper_16 r) (s_push (.int (1)) ((kX6_isPaper_17 r))))))))
theorem vX6_isPaper_0 : pu_cok2 kX6_isPaper_0 := fun rf r hr => by
  unfold kX6_isPaper_0
  exact v_ild (v_iflt (vX6_isPaper_16 rf r hr) (v_ild (v_ald (v_gi (v_icge (vX6_isPaper_16 rf r hr) (v_pi ((vX6_isPaper_17 rf r hr))))))))
theorem tX6_isPaper_0 {X : pu_X} {r : pu_R} (hX : pu_H X mdX6_isPaper) (hr : pu_P X.2.1 X.2.2.2.2.2.2.2.2.2.2.1 r) (hq : ∀ i pc, pu_lp i = some (46, pc) → pu_S X mdX6_isPaper pc (r i)) : pu_S X mdX6_isPaper 0 (kX6_isPaper_0 r) := by
  unfold kX6_isPaper_0
  exact z_ild_n hX dX6_isPaper_0 rfl (z_iflt hX dX6_isPaper_1 (by decide) (tX6_isPaper_16 hX hr hq) (z_ild_n hX dX6_isPaper_4 rfl (z_ald_n hX dX6_isPaper_5 rfl (z_gi (c := 6) (j := 2) hX dX6_isPaper_6 rfl inlX6 wm18_3 ⟨rfl, by decide, rfl⟩ (z_icge hX dX6_isPaper_9 (by decide) (tX6_isPaper_16 hX hr hq) (z_iconst hX dX6_isPaper_12 (by decide) ((z_goto hX dX6_isPaper_13 (by decide) (tX6_isPaper_17 hX hr hq)))))))))
def kX6_startOf_19 (r : pu_R) : pu_K := s_iret
theorem vX6_startOf_19 : pu_cok2 kX6_startOf_19 := fun rf r hr => by
  unfold kX6_startOf_19
  exact v_iret
theorem tX6_startOf_19 {X : pu_X} {r : pu_R} (hX : pu_H X mdX6_startOf) (hr : pu_P X.2.1 X.2.2.2.2.2.2.2.2.2.2.1 r) (hq : ∀ i pc, pu_lp i = some (47, pc) → pu_S X mdX6_startOf pc (r i)) : pu_S X mdX6_startOf 19 (kX6_startOf_19 r) := by
  unfold kX6_startOf_19
  exact z_iret hX dX6_startOf_19 rfl
def kX6_startOf_17 (r : pu_R) : pu_K := s_push (.int (109575)) ((kX6_startOf_19 r))
theorem vX6_startOf_17 : pu_cok2 kX6_startOf_17 := fun rf r hr => by
  unfold kX6_startOf_17
  exact v_pi ((vX6_startOf_19 rf r hr))
theorem tX6_startOf_17 {X : pu_X} {r : pu_R} (hX : pu_H X mdX6_startOf) (hr : pu_P X.2.1 X.2.2.2.2.2.2.2.2.2.2.1 r) (hq : ∀ i pc, pu_lp i = some (47, pc) → pu_S X mdX6_startOf pc (r i)) : pu_S X mdX6_startOf 17 (kX6_startOf_17 r) := by
  unfold kX6_startOf_17
  exact z_ldc hX dX6_startOf_17 wm19_0 ((tX6_startOf_19 hX hr hq))
def kX6_startOf_0 (r : pu_R) : pu_K := s_ald 0 (s_ild 1 (s_cv r 46 1 6 (s_ifeq (kX6_startOf_17 r) (s_ald 0 (s_gr 6 3 (s_ild 1 (s_ai 1 ((kX6_startOf_19 r)))))))))
theorem vX6_startOf_0 : pu_cok2 kX6_startOf_0 := fun rf r hr => by
  unfold kX6_startOf_0
  exact v_ald (v_ild (v_cv hr (v_ifeq (vX6_startOf_17 rf r hr) (v_ald (v_gr (v_ild (v_ai ((vX6_startOf_19 rf r hr)))))))))
theorem tX6_startOf_0 {X : pu_X} {r : pu_R} (hX : pu_H X mdX6_startOf) (hr : pu_P X.2.1 X.2.2.2.2.2.2.2.2.2.2.1 r) (hq : ∀ i pc, pu_lp i = some (47, pc) → pu_S X mdX6_startOf pc (r i)) : pu_S X mdX6_startOf 0 (kX6_startOf_0 r) := by
  unfold kX6_startOf_0
  exact z_ald_n hX dX6_startOf_0 rfl (z_ild_n hX dX6_startOf_1 rfl (z_cv (c := 6) hX hr dX6_startOf_2 hjX6_isPaper mwX6_isPaper rfl wm19_1 ⟨wm19_2, wm19_3⟩ ⟨Nat.le_of_ble_eq_true rfl, Nat.le_of_ble_eq_true rfl⟩ (z_ifeq hX dX6_startOf_5 (by decide) (tX6_startOf_17 hX hr hq) (z_ald_n hX dX6_startOf_8 rfl (z_gr (c := 6) (j := 3) hX dX6_startOf_9 rfl inlX6 wm4_2 ⟨rfl, by decide, rfl⟩ (z_ild_n hX dX6_startOf_12 rfl (z_iald hX dX6_startOf_13 ((z_goto hX dX6_startOf_14 (by decide) (tX6_startOf_19 hX hr hq))))))))))
def kX3_isNamed_30 (r : pu_R) : pu_K := s_zret
theorem vX3_isNamed_30 : pu_cok2 kX3_isNamed_30 := fun rf r hr => by
  unfold kX3_isNamed_30
  exact v_zret
theorem tX3_isNamed_30 {X : pu_X} {r : pu_R} (hX : pu_H X mdX3_isNamed) (hr : pu_P X.2.1 X.2.2.2.2.2.2.2.2.2.2.1 r) (hq : ∀ i pc, pu_lp i = some (48, pc) → pu_S X mdX3_isNamed pc (r i)) : pu_S X mdX3_isNamed 30 (kX3_isNamed_30 r) := by
  unfold kX3_isNamed_30
  exact z_zret hX dX3_isNamed_30 rfl
def kX3_isNamed_29 (r : pu_R) : pu_K := s_push (.int (0)) ((kX3_isNamed_30 r))
theorem vX3_isNamed_29 : pu_cok2 kX3_isNamed_29 := fun rf r hr => by
  unfold kX3_isNamed_29
  exact v_pi ((vX3_isNamed_30 rf r hr))
theorem tX3_isNamed_29 {X : pu_X} {r : pu_R} (hX : pu_H X mdX3_isNamed) (hr : pu_P X.2.1 X.2.2.2.2.2.2.2.2.2.2.1 r) (hq : ∀ i pc, pu_lp i = some (48, pc) → pu_S X mdX3_isNamed pc (r i)) : pu_S X mdX3_isNamed 29 (kX3_isNamed_29 r) := by
  unfold kX3_isNamed_29
  exact z_iconst hX dX3_isNamed_29 (by decide) ((tX3_isNamed_30 hX hr hq))
def kX3_isNamed_0 (r : pu_R) : pu_K := s_ald 0 (s_gr 3 2 (s_ild 1 (s_ai 1 (s_ild 3 (s_icne (kX3_isNamed_29 r) (s_ald 0 (s_gr 3 5 (s_push (.int (3)) (s_ild 1 (s_imul (s_ald 2 (s_push (.int (0)) (s_cs r 32 4 (s_ifeq (kX3_isNamed_29 r) (s_push (.int (1)) ((kX3_isNamed_30 r)))))))))))))))))
theorem vX3_isNamed_0 : pu_cok2 kX3_isNamed_0 := fun rf r hr => by
  unfold kX3_isNamed_0
  exact v_ald (v_gr (v_ild (v_ai (v_ild (v_icne (vX3_isNamed_29 rf r hr) (v_ald (v_gr (v_pi (v_ild (v_imul (v_ald (v_pi (v_cs hr (v_ifeq (vX3_isNamed_29 rf r hr) (v_pi ((vX3_isNamed_30 rf r hr)))))))))))))))))
theorem tX3_isNamed_0 {X : pu_X} {r : pu_R} (hX : pu_H X mdX3_isNamed) (hr : pu_P X.2.1 X.2.2.2.2.2.2.2.2.2.2.1 r) (hq : ∀ i pc, pu_lp i = some (48, pc) → pu_S X mdX3_isNamed pc (r i)) : pu_S X mdX3_isNamed 0 (kX3_isNamed_0 r) := by
  unfold kX3_isNamed_0
  exact z_ald_n hX dX3_isNamed_0 rfl (z_gr (c := 3) (j := 2) hX dX3_isNamed_1 rfl inlX3 wm4_20 ⟨rfl, by decide, rfl⟩ (z_ild_n hX dX3_isNamed_4 rfl (z_iald hX dX3_isNamed_5 (z_ild_n hX dX3_isNamed_6 rfl (z_icne hX dX3_isNamed_7 (by decide) (tX3_isNamed_29 hX hr hq) (z_ald_n hX dX3_isNamed_10 rfl (z_gr (c := 3) (j := 5) hX dX3_isNamed_11 rfl inlX3 wm5_0 ⟨rfl, by decide, rfl⟩ (z_iconst hX dX3_isNamed_14 (by decide) (z_ild_n hX dX3_isNamed_15 rfl (z_imul hX dX3_isNamed_16 (z_ald_n hX dX3_isNamed_17 rfl (z_iconst hX dX3_isNamed_18 (by decide) (z_cs hX hr dX3_isNamed_19 hjX3_areLike mwX3_areLike wm19_9 wm14_9 ⟨Nat.le_of_ble_eq_true rfl, Nat.le_of_ble_eq_true rfl⟩ (z_ifeq hX dX3_isNamed_22 (by decide) (tX3_isNamed_29 hX hr hq) (z_iconst hX dX3_isNamed_25 (by decide) ((z_goto hX dX3_isNamed_26 (by decide) (tX3_isNamed_30 hX hr hq))))))))))))))))))
def kX6_lastEndOf_19 (r : pu_R) : pu_K := s_iret
theorem vX6_lastEndOf_19 : pu_cok2 kX6_lastEndOf_19 := fun rf r hr => by
  unfold kX6_lastEndOf_19
  exact v_iret
theorem tX6_lastEndOf_19 {X : pu_X} {r : pu_R} (hX : pu_H X mdX6_lastEndOf) (hr : pu_P X.2.1 X.2.2.2.2.2.2.2.2.2.2.1 r) (hq : ∀ i pc, pu_lp i = some (49, pc) → pu_S X mdX6_lastEndOf pc (r i)) : pu_S X mdX6_lastEndOf 19 (kX6_lastEndOf_19 r) := by
  unfold kX6_lastEndOf_19
  exact z_iret hX dX6_lastEndOf_19 rfl
def kX6_lastEndOf_17 (r : pu_R) : pu_K := s_push (.int (109575)) ((kX6_lastEndOf_19 r))
theorem vX6_lastEndOf_17 : pu_cok2 kX6_lastEndOf_17 := fun rf r hr => by
  unfold kX6_lastEndOf_17
  exact v_pi ((vX6_lastEndOf_19 rf r hr))
theorem tX6_lastEndOf_17 {X : pu_X} {r : pu_R} (hX : pu_H X mdX6_lastEndOf) (hr : pu_P X.2.1 X.2.2.2.2.2.2.2.2.2.2.1 r) (hq : ∀ i pc, pu_lp i = some (49, pc) → pu_S X mdX6_lastEndOf pc (r i)) : pu_S X mdX6_lastEndOf 17 (kX6_lastEndOf_17 r) := by
  unfold kX6_lastEndOf_17
  exact z_ldc hX dX6_lastEndOf_17 wm19_0 ((tX6_lastEndOf_19 hX hr hq))
def kX6_lastEndOf_0 (r : pu_R) : pu_K := s_ald 0 (s_ild 1 (s_cv r 46 1 6 (s_ifeq (kX6_lastEndOf_17 r) (s_ald 0 (s_gr 6 3 (s_ild 1 (s_ai 1 ((kX6_lastEndOf_19 r)))))))))
theorem vX6_lastEndOf_0 : pu_cok2 kX6_lastEndOf_0 := fun rf r hr => by
  unfold kX6_lastEndOf_0
  exact v_ald (v_ild (v_cv hr (v_ifeq (vX6_lastEndOf_17 rf r hr) (v_ald (v_gr (v_ild (v_ai ((vX6_lastEndOf_19 rf r hr)))))))))
theorem tX6_lastEndOf_0 {X : pu_X} {r : pu_R} (hX : pu_H X mdX6_lastEndOf) (hr : pu_P X.2.1 X.2.2.2.2.2.2.2.2.2.2.1 r) (hq : ∀ i pc, pu_lp i = some (49, pc) → pu_S X mdX6_lastEndOf pc (r i)) : pu_S X mdX6_lastEndOf 0 (kX6_lastEndOf_0 r) := by
  unfold kX6_lastEndOf_0
  exact z_ald_n hX dX6_lastEndOf_0 rfl (z_ild_n hX dX6_lastEndOf_1 rfl (z_cv (c := 6) hX hr dX6_lastEndOf_2 hjX6_isPaper mwX6_isPaper rfl wm19_1 ⟨wm19_2, wm19_3⟩ ⟨Nat.le_of_ble_eq_true rfl, Nat.le_of_ble_eq_true rfl⟩ (z_ifeq hX dX6_lastEndOf_5 (by decide) (tX6_lastEndOf_17 hX hr hq) (z_ald_n hX dX6_lastEndOf_8 rfl (z_gr (c := 6) (j := 3) hX dX6_lastEndOf_9 rfl inlX6 wm4_2 ⟨rfl, by decide, rfl⟩ (z_ild_n hX dX6_lastEndOf_12 rfl (z_iald hX dX6_lastEndOf_13 ((z_goto hX dX6_lastEndOf_14 (by decide) (tX6_lastEndOf_19 hX hr hq))))))))))
def kX3_isHeldFrom_66 (r : pu_R) : pu_K := s_push (.int (0)) (s_zret)
theorem vX3_isHeldFrom_66 : pu_cok2 kX3_isHeldFrom_66 := fun rf r hr => by
  unfold kX3_isHeldFrom_66
  exact v_pi (v_zret)
theorem tX3_isHeldFrom_66 {X : pu_X} {r : pu_R} (hX : pu_H X mdX3_isHeldFrom) (hr : pu_P X.2.1 X.2.2.2.2.2.2.2.2.2.2.1 r) (hq : ∀ i pc, pu_lp i = some (50, pc) → pu_S X mdX3_isHeldFrom pc (r i)) : pu_S X mdX3_isHeldFrom 66 (kX3_isHeldFrom_66 r) := by
  unfold kX3_isHeldFrom_66
  exact z_iconst hX dX3_isHeldFrom_66 (by decide) (z_zret hX dX3_isHeldFrom_67 rfl)
def kX3_isHeldFrom_60 (r : pu_R) : pu_K := s_inc 5 (1) ((r 368))
theorem vX3_isHeldFrom_60 : pu_cok2 kX3_isHeldFrom_60 := fun rf r hr => by
  unfold kX3_isHeldFrom_60
  exact v_inc ((hr 368))
theorem tX3_isHeldFrom_60 {X : pu_X} {r : pu_R} (hX : pu_H X mdX3_isHeldFrom) (hr : pu_P X.2.1 X.2.2.2.2.2.2.2.2.2.2.1 r) (hq : ∀ i pc, pu_lp i = some (50, pc) → pu_S X mdX3_isHeldFrom pc (r i)) : pu_S X mdX3_isHeldFrom 60 (kX3_isHeldFrom_60 r) := by
  unfold kX3_isHeldFrom_60
  exact z_inc hX dX3_isHeldFrom_60 (by decide) ((z_goto hX dX3_isHeldFrom_63 (by decide) (hq 368 3 hl368)))
def kX3_isHeldFrom_51 (r : pu_R) : pu_K := s_ai 1 (s_cv r 49 1 6 (s_icge (kX3_isHeldFrom_60 r) (s_push (.int (1)) (s_zret))))
theorem vX3_isHeldFrom_51 : pu_cok2 kX3_isHeldFrom_51 := fun rf r hr => by
  unfold kX3_isHeldFrom_51
  exact v_ai (v_cv hr (v_icge (vX3_isHeldFrom_60 rf r hr) (v_pi (v_zret))))
theorem tX3_isHeldFrom_51 {X : pu_X} {r : pu_R} (hX : pu_H X mdX3_isHeldFrom) (hr : pu_P X.2.1 X.2.2.2.2.2.2.2.2.2.2.1 r) (hq : ∀ i pc, pu_lp i = some (50, pc) → pu_S X mdX3_isHeldFrom pc (r i)) : pu_S X mdX3_isHeldFrom 51 (kX3_isHeldFrom_51 r) := by
  unfold kX3_isHeldFrom_51
  exact z_iald hX dX3_isHeldFrom_51 (z_cv (c := 6) hX hr dX3_isHeldFrom_52 hjX6_lastEndOf mwX6_lastEndOf rfl wm19_10 ⟨wm19_11, wm19_12⟩ ⟨Nat.le_of_ble_eq_true rfl, Nat.le_of_ble_eq_true rfl⟩ (z_icge hX dX3_isHeldFrom_55 (by decide) (tX3_isHeldFrom_60 hX hr hq) (z_iconst hX dX3_isHeldFrom_58 (by decide) (z_zret hX dX3_isHeldFrom_59 rfl))))
def kX3_isHeldFrom_3 (r : pu_R) : pu_K := s_ild 5 (s_ald 0 (s_gi 3 0 (s_icge (kX3_isHeldFrom_66 r) (s_ild 3 (s_ald 4 (s_ald 0 (s_gr 3 3 (s_ild 5 (s_ai 1 (s_cv r 47 1 6 (s_max (s_ist 6 (s_ald 0 (s_ild 5 (s_ald 1 (s_ild 2 (s_cv r 48 3 3 (s_ifeq (kX3_isHeldFrom_60 r) (s_ild 6 (s_ald 4 (s_ald 0 (s_gr 3 4 (s_ild 5 ((kX3_isHeldFrom_51 r)))))))))))))))))))))))))
theorem vX3_isHeldFrom_3 : pu_cok2 kX3_isHeldFrom_3 := fun rf r hr => by
  unfold kX3_isHeldFrom_3
  exact v_ild (v_ald (v_gi (v_icge (vX3_isHeldFrom_66 rf r hr) (v_ild (v_ald (v_ald (v_gr (v_ild (v_ai (v_cv hr (v_max (v_ist (v_ald (v_ild (v_ald (v_ild (v_cv hr (v_ifeq (vX3_isHeldFrom_60 rf r hr) (v_ild (v_ald (v_ald (v_gr (v_ild ((vX3_isHeldFrom_51 rf r hr)))))))))))))))))))))))))
theorem tX3_isHeldFrom_3 {X : pu_X} {r : pu_R} (hX : pu_H X mdX3_isHeldFrom) (hr : pu_P X.2.1 X.2.2.2.2.2.2.2.2.2.2.1 r) (hq : ∀ i pc, pu_lp i = some (50, pc) → pu_S X mdX3_isHeldFrom pc (r i)) : pu_S X mdX3_isHeldFrom 3 (kX3_isHeldFrom_3 r) := by
  unfold kX3_isHeldFrom_3
  exact z_ild hX dX3_isHeldFrom_3 (z_ald_n hX dX3_isHeldFrom_5 rfl (z_gi (c := 3) (j := 0) hX dX3_isHeldFrom_6 rfl inlX3 wm16_21 ⟨rfl, by decide, rfl⟩ (z_icge hX dX3_isHeldFrom_9 (by decide) (tX3_isHeldFrom_66 hX hr hq) (z_ild_n hX dX3_isHeldFrom_12 rfl (z_ald hX dX3_isHeldFrom_13 (z_ald_n hX dX3_isHeldFrom_15 rfl (z_gr (c := 3) (j := 3) hX dX3_isHeldFrom_16 rfl inlX3 wm4_21 ⟨rfl, by decide, rfl⟩ (z_ild hX dX3_isHeldFrom_19 (z_iald hX dX3_isHeldFrom_21 (z_cv (c := 6) hX hr dX3_isHeldFrom_22 hjX6_startOf mwX6_startOf rfl wm18_20 ⟨wm18_21, wm18_22⟩ ⟨Nat.le_of_ble_eq_true rfl, Nat.le_of_ble_eq_true rfl⟩ (z_max hX dX3_isHeldFrom_25 ⟨wm18_19, wm18_12, wm18_13, wm18_14⟩ ⟨Nat.le_of_ble_eq_true rfl, Nat.le_of_ble_eq_true rfl⟩ (z_ist hX dX3_isHeldFrom_28 (z_ald_n hX dX3_isHeldFrom_30 rfl (z_ild hX dX3_isHeldFrom_31 (z_ald_n hX dX3_isHeldFrom_33 rfl (z_ild_n hX dX3_isHeldFrom_34 rfl (z_cv (c := 3) hX hr dX3_isHeldFrom_35 hjX3_isNamed mwX3_isNamed rfl wm19_5 ⟨wm19_6, wm19_7⟩ ⟨Nat.le_of_ble_eq_true rfl, Nat.le_of_ble_eq_true rfl⟩ (z_ifeq hX dX3_isHeldFrom_38 (by decide) (tX3_isHeldFrom_60 hX hr hq) (z_ild hX dX3_isHeldFrom_41 (z_ald hX dX3_isHeldFrom_43 (z_ald_n hX dX3_isHeldFrom_45 rfl (z_gr (c := 3) (j := 4) hX dX3_isHeldFrom_46 rfl inlX3 wm4_22 ⟨rfl, by decide, rfl⟩ (z_ild hX dX3_isHeldFrom_49 ((tX3_isHeldFrom_51 hX hr hq)))))))))))))))))))))))))
def kX3_isHeldFrom_0 (r : pu_R) : pu_K := s_push (.int (0)) (s_ist 5 ((r 368)))
theorem vX3_isHeldFrom_0 : pu_cok2 kX3_isHeldFrom_0 := fun rf r hr => by
  unfold kX3_isHeldFrom_0
  exact v_pi (v_ist ((hr 368)))
theorem tX3_isHeldFrom_0 {X : pu_X} {r : pu_R} (hX : pu_H X mdX3_isHeldFrom) (hr : pu_P X.2.1 X.2.2.2.2.2.2.2.2.2.2.1 r) (hq : ∀ i pc, pu_lp i = some (50, pc) → pu_S X mdX3_isHeldFrom pc (r i)) : pu_S X mdX3_isHeldFrom 0 (kX3_isHeldFrom_0 r) := by
  unfold kX3_isHeldFrom_0
  exact z_iconst hX dX3_isHeldFrom_0 (by decide) (z_ist hX dX3_isHeldFrom_1 ((hq 368 3 hl368)))
def kX6_hasRoom_15 (r : pu_R) : pu_K := s_zret
theorem vX6_hasRoom_15 : pu_cok2 kX6_hasRoom_15 := fun rf r hr => by
  unfold kX6_hasRoom_15
  exact v_zret
theorem tX6_hasRoom_15 {X : pu_X} {r : pu_R} (hX : pu_H X mdX6_hasRoom) (hr : pu_P X.2.1 X.2.2.2.2.2.2.2.2.2.2.1 r) (hq : ∀ i pc, pu_lp i = some (51, pc) → pu_S X mdX6_hasRoom pc (r i)) : pu_S X mdX6_hasRoom 15 (kX6_hasRoom_15 r) := by
  unfold kX6_hasRoom_15
  exact z_zret hX dX6_hasRoom_15 rfl
def kX6_hasRoom_14 (r : pu_R) : pu_K := s_push (.int (0)) ((kX6_hasRoom_15 r))
theorem vX6_hasRoom_14 : pu_cok2 kX6_hasRoom_14 := fun rf r hr => by
  unfold kX6_hasRoom_14
  exact v_pi ((vX6_hasRoom_15 rf r hr))
theorem tX6_hasRoom_14 {X : pu_X} {r : pu_R} (hX : pu_H X mdX6_hasRoom) (hr : pu_P X.2.1 X.2.2.2.2.2.2.2.2.2.2.1 r) (hq : ∀ i pc, pu_lp i = some (51, pc) → pu_S X mdX6_hasRoom pc (r i)) : pu_S X mdX6_hasRoom 14 (kX6_hasRoom_14 r) := by
  unfold kX6_hasRoom_14
  exact z_iconst hX dX6_hasRoom_14 (by decide) ((tX6_hasRoom_15 hX hr hq))
def kX6_hasRoom_0 (r : pu_R) : pu_K := s_ald 0 (s_gi 6 2 (s_push (.int (200)) (s_icge (kX6_hasRoom_14 r) (s_push (.int (1)) ((kX6_hasRoom_15 r))))))
theorem vX6_hasRoom_0 : pu_cok2 kX6_hasRoom_0 := fun rf r hr => by
  unfold kX6_hasRoom_0
  exact v_ald (v_gi (v_pi (v_icge (vX6_hasRoom_14 rf r hr) (v_pi ((vX6_hasRoom_15 rf r hr))))))
theorem tX6_hasRoom_0 {X : pu_X} {r : pu_R} (hX : pu_H X mdX6_hasRoom) (hr : pu_P X.2.1 X.2.2.2.2.2.2.2.2.2.2.1 r) (hq : ∀ i pc, pu_lp i = some (51, pc) → pu_S X mdX6_hasRoom pc (r i)) : pu_S X mdX6_hasRoom 0 (kX6_hasRoom_0 r) := by
  unfold kX6_hasRoom_0
  exact z_ald_n hX dX6_hasRoom_0 rfl (z_gi (c := 6) (j := 2) hX dX6_hasRoom_1 rfl inlX6 wm18_3 ⟨rfl, by decide, rfl⟩ (z_sipush hX dX6_hasRoom_4 (by decide) (z_icge hX dX6_hasRoom_7 (by decide) (tX6_hasRoom_14 hX hr hq) (z_iconst hX dX6_hasRoom_10 (by decide) ((z_goto hX dX6_hasRoom_11 (by decide) (tX6_hasRoom_15 hX hr hq)))))))
def kX6_lay_45 (r : pu_R) : pu_K := s_ild 3 (s_wi 1 (s_ald 0 (s_gr 6 7 (s_ild 4 (s_push (.int (-1)) (s_wi 1 (s_ald 0 (s_gr 6 8 (s_ild 4 (s_push (.int (-1)) (s_wi 1 (s_ald 0 (s_gr 6 9 (s_ild 4 (s_push (.int (-1)) (s_wi 1 (s_ald 0 (s_ild 4 (s_push (.int (1)) (s_iadd (s_pi 6 2 (s_ild 4 (s_iret)))))))))))))))))))))))
theorem vX6_lay_45 : pu_cok2 kX6_lay_45 := fun rf r hr => by
  unfold kX6_lay_45
  exact v_ild (v_wi (v_ald (v_gr (v_ild (v_pi (v_wi (v_ald (v_gr (v_ild (v_pi (v_wi (v_ald (v_gr (v_ild (v_pi (v_wi (v_ald (v_ild (v_pi (v_iadd (v_puti (v_ild (v_iret)))))))))))))))))))))))
theorem tX6_lay_45 {X : pu_X} {r : pu_R} (hX : pu_H X mdX6_lay) (hr : pu_P X.2.1 X.2.2.2.2.2.2.2.2.2.2.1 r) (hq : ∀ i pc, pu_lp i = some (52, pc) → pu_S X mdX6_lay pc (r i)) : pu_S X mdX6_lay 45 (kX6_lay_45 r) := by
  unfold kX6_lay_45
  exact z_ild_n hX dX6_lay_45 rfl (z_iast hX dX6_lay_46 (z_ald_n hX dX6_lay_47 rfl (z_gr (c := 6) (j := 7) hX dX6_lay_48 rfl inlX6 wm4_6 ⟨rfl, by decide, rfl⟩ (z_ild hX dX6_lay_51 (z_iconst hX dX6_lay_53 (by decide) (z_iast hX dX6_lay_54 (z_ald_n hX dX6_lay_55 rfl (z_gr (c := 6) (j := 8) hX dX6_lay_56 rfl inlX6 wm4_7 ⟨rfl, by decide, rfl⟩ (z_ild hX dX6_lay_59 (z_iconst hX dX6_lay_61 (by decide) (z_iast hX dX6_lay_62 (z_ald_n hX dX6_lay_63 rfl (z_gr (c := 6) (j := 9) hX dX6_lay_64 rfl inlX6 wm4_8 ⟨rfl, by decide, rfl⟩ (z_ild hX dX6_lay_67 (z_iconst hX dX6_lay_69 (by decide) (z_iast hX dX6_lay_70 (z_ald_n hX dX6_lay_71 rfl (z_ild hX dX6_lay_72 (z_iconst hX dX6_lay_74 (by decide) (z_iadd hX dX6_lay_75 (z_pi (c := 6) (j := 2) tyX6 tyX6_ok nmX6 hX dX6_lay_76 rfl inlX6 wm18_3 ⟨rfl, by decide⟩ ⟨rfl, rfl⟩ rfl (z_ild hX dX6_lay_79 (z_iret hX dX6_lay_81 rfl)))))))))))))))))))))))
def kX6_lay_0 (r : pu_R) : pu_K := s_ald 0 (s_gi 6 2 (s_push (.int (199)) (s_min (s_ist 4 (s_ald 0 (s_gr 6 3 (s_ild 4 (s_ild 1 (s_wi 1 (s_ald 0 (s_gr 6 4 (s_ild 4 (s_ald 0 (s_gi 6 0 (s_wi 1 (s_ald 0 (s_gr 6 5 (s_ild 4 (s_ild 2 (s_wi 1 (s_ald 0 (s_gr 6 6 (s_ild 4 ((kX6_lay_45 r)))))))))))))))))))))))))
theorem vX6_lay_0 : pu_cok2 kX6_lay_0 := fun rf r hr => by
  unfold kX6_lay_0
  exact v_ald (v_gi (v_pi (v_min (v_ist (v_ald (v_gr (v_ild (v_ild (v_wi (v_ald (v_gr (v_ild (v_ald (v_gi (v_wi (v_ald (v_gr (v_ild (v_ild (v_wi (v_ald (v_gr (v_ild ((vX6_lay_45 rf r hr)))))))))))))))))))))))))
theorem tX6_lay_0 {X : pu_X} {r : pu_R} (hX : pu_H X mdX6_lay) (hr : pu_P X.2.1 X.2.2.2.2.2.2.2.2.2.2.1 r) (hq : ∀ i pc, pu_lp i = some (52, pc) → pu_S X mdX6_lay pc (r i)) : pu_S X mdX6_lay 0 (kX6_lay_0 r) := by
  unfold kX6_lay_0
  exact z_ald_n hX dX6_lay_0 rfl (z_gi (c := 6) (j := 2) hX dX6_lay_1 rfl inlX6 wm18_3 ⟨rfl, by decide, rfl⟩ (z_sipush hX dX6_lay_4 (by decide) (z_min hX dX6_lay_7 ⟨wm19_22, wm19_23, wm18_13, wm20_0⟩ ⟨Nat.le_of_ble_eq_true rfl, Nat.le_of_ble_eq_true rfl⟩ (z_ist hX dX6_lay_10 (z_ald_n hX dX6_lay_12 rfl (z_gr (c := 6) (j := 3) hX dX6_lay_13 rfl inlX6 wm4_2 ⟨rfl, by decide, rfl⟩ (z_ild hX dX6_lay_16 (z_ild_n hX dX6_lay_18 rfl (z_iast hX dX6_lay_19 (z_ald_n hX dX6_lay_20 rfl (z_gr (c := 6) (j := 4) hX dX6_lay_21 rfl inlX6 wm4_3 ⟨rfl, by decide, rfl⟩ (z_ild hX dX6_lay_24 (z_ald_n hX dX6_lay_26 rfl (z_gi (c := 6) (j := 0) hX dX6_lay_27 rfl inlX6 wm20_1 ⟨rfl, by decide, rfl⟩ (z_iast hX dX6_lay_30 (z_ald_n hX dX6_lay_31 rfl (z_gr (c := 6) (j := 5) hX dX6_lay_32 rfl inlX6 wm4_4 ⟨rfl, by decide, rfl⟩ (z_ild hX dX6_lay_35 (z_ild_n hX dX6_lay_37 rfl (z_iast hX dX6_lay_38 (z_ald_n hX dX6_lay_39 rfl (z_gr (c := 6) (j := 6) hX dX6_lay_40 rfl inlX6 wm4_5 ⟨rfl, by decide, rfl⟩ (z_ild hX dX6_lay_43 ((tX6_lay_45 hX hr hq)))))))))))))))))))))))))
def kX10_addStreet_65 (r : pu_R) : pu_K := s_vret
theorem vX10_addStreet_65 : pu_cok2 kX10_addStreet_65 := fun rf r hr => by
  unfold kX10_addStreet_65
  exact v_vret
theorem tX10_addStreet_65 {X : pu_X} {r : pu_R} (hX : pu_H X mdX10_addStreet) (hr : pu_P X.2.1 X.2.2.2.2.2.2.2.2.2.2.1 r) (hq : ∀ i pc, pu_lp i = some (53, pc) → pu_S X mdX10_addStreet pc (r i)) : pu_S X mdX10_addStreet 65 (kX10_addStreet_65 r) := by
  unfold kX10_addStreet_65
  exact z_vret hX dX10_addStreet_65 rfl
def kX10_addStreet_41 (r : pu_R) : pu_K := s_ald 0 (s_gr 10 5 (s_push (.int (2)) (s_ald 0 (s_gi 10 1 (s_imul (s_push (.int (1)) (s_iadd (s_push (.int (-1)) (s_wi 1 (s_ald 0 (s_dup (s_gi 10 1 (s_push (.int (1)) (s_iadd (s_pi 10 1 ((kX10_addStreet_65 r)))))))))))))))))
theorem vX10_addStreet_41 : pu_cok2 kX10_addStreet_41 := fun rf r hr => by
  unfold kX10_addStreet_41
  exact v_ald (v_gr (v_pi (v_ald (v_gi (v_imul (v_pi (v_iadd (v_pi (v_wi (v_ald (v_dup (v_gi (v_pi (v_iadd (v_puti ((vX10_addStreet_65 rf r hr)))))))))))))))))
theorem tX10_addStreet_41 {X : pu_X} {r : pu_R} (hX : pu_H X mdX10_addStreet) (hr : pu_P X.2.1 X.2.2.2.2.2.2.2.2.2.2.1 r) (hq : ∀ i pc, pu_lp i = some (53, pc) → pu_S X mdX10_addStreet pc (r i)) : pu_S X mdX10_addStreet 41 (kX10_addStreet_41 r) := by
  unfold kX10_addStreet_41
  exact z_ald_n hX dX10_addStreet_41 rfl (z_gr (c := 10) (j := 5) hX dX10_addStreet_42 rfl inlX10 wm5_7 ⟨rfl, by decide, rfl⟩ (z_iconst hX dX10_addStreet_45 (by decide) (z_ald_n hX dX10_addStreet_46 rfl (z_gi (c := 10) (j := 1) hX dX10_addStreet_47 rfl inlX10 wm20_6 ⟨rfl, by decide, rfl⟩ (z_imul hX dX10_addStreet_50 (z_iconst hX dX10_addStreet_51 (by decide) (z_iadd hX dX10_addStreet_52 (z_iconst hX dX10_addStreet_53 (by decide) (z_iast hX dX10_addStreet_54 (z_ald_n hX dX10_addStreet_55 rfl (z_dup hX dX10_addStreet_56 (z_gi (c := 10) (j := 1) hX dX10_addStreet_57 rfl inlX10 wm20_6 ⟨rfl, by decide, rfl⟩ (z_iconst hX dX10_addStreet_60 (by decide) (z_iadd hX dX10_addStreet_61 (z_pi (c := 10) (j := 1) tyX10 tyX10_ok nmX10 hX dX10_addStreet_62 rfl inlX10 wm20_6 ⟨rfl, by decide⟩ ⟨rfl, rfl⟩ rfl ((tX10_addStreet_65 hX hr hq)))))))))))))))))
def kX10_addStreet_0 (r : pu_R) : pu_K := s_ald 0 (s_gi 10 1 (s_push (.int (24)) (s_icge (kX10_addStreet_65 r) (s_ald 0 (s_gr 10 3 (s_ald 0 (s_gi 10 1 (s_ild 1 (s_wi 1 (s_ald 0 (s_gr 10 4 (s_ald 0 (s_gi 10 1 (s_ild 2 (s_wi 1 (s_ald 0 (s_gr 10 5 (s_push (.int (2)) (s_ald 0 (s_gi 10 1 (s_imul (s_push (.int (-1)) (s_wi 1 ((kX10_addStreet_41 r)))))))))))))))))))))))))
theorem vX10_addStreet_0 : pu_cok2 kX10_addStreet_0 := fun rf r hr => by
  unfold kX10_addStreet_0
  exact v_ald (v_gi (v_pi (v_icge (vX10_addStreet_65 rf r hr) (v_ald (v_gr (v_ald (v_gi (v_ild (v_wi (v_ald (v_gr (v_ald (v_gi (v_ild (v_wi (v_ald (v_gr (v_pi (v_ald (v_gi (v_imul (v_pi (v_wi ((vX10_addStreet_41 rf r hr)))))))))))))))))))))))))
theorem tX10_addStreet_0 {X : pu_X} {r : pu_R} (hX : pu_H X mdX10_addStreet) (hr : pu_P X.2.1 X.2.2.2.2.2.2.2.2.2.2.1 r) (hq : ∀ i pc, pu_lp i = some (53, pc) → pu_S X mdX10_addStreet pc (r i)) : pu_S X mdX10_addStreet 0 (kX10_addStreet_0 r) := by
  unfold kX10_addStreet_0
  exact z_ald_n hX dX10_addStreet_0 rfl (z_gi (c := 10) (j := 1) hX dX10_addStreet_1 rfl inlX10 wm20_6 ⟨rfl, by decide, rfl⟩ (z_bipush hX dX10_addStreet_4 (by decide) (z_icge hX dX10_addStreet_6 (by decide) (tX10_addStreet_65 hX hr hq) (z_ald_n hX dX10_addStreet_9 rfl (z_gr (c := 10) (j := 3) hX dX10_addStreet_10 rfl inlX10 wm5_5 ⟨rfl, by decide, rfl⟩ (z_ald_n hX dX10_addStreet_13 rfl (z_gi (c := 10) (j := 1) hX dX10_addStreet_14 rfl inlX10 wm20_6 ⟨rfl, by decide, rfl⟩ (z_ild_n hX dX10_addStreet_17 rfl (z_iast hX dX10_addStreet_18 (z_ald_n hX dX10_addStreet_19 rfl (z_gr (c := 10) (j := 4) hX dX10_addStreet_20 rfl inlX10 wm5_6 ⟨rfl, by decide, rfl⟩ (z_ald_n hX dX10_addStreet_23 rfl (z_gi (c := 10) (j := 1) hX dX10_addStreet_24 rfl inlX10 wm20_6 ⟨rfl, by decide, rfl⟩ (z_ild_n hX dX10_addStreet_27 rfl (z_iast hX dX10_addStreet_28 (z_ald_n hX dX10_addStreet_29 rfl (z_gr (c := 10) (j := 5) hX dX10_addStreet_30 rfl inlX10 wm5_7 ⟨rfl, by decide, rfl⟩ (z_iconst hX dX10_addStreet_33 (by decide) (z_ald_n hX dX10_addStreet_34 rfl (z_gi (c := 10) (j := 1) hX dX10_addStreet_35 rfl inlX10 wm20_6 ⟨rfl, by decide, rfl⟩ (z_imul hX dX10_addStreet_38 (z_iconst hX dX10_addStreet_39 (by decide) (z_iast hX dX10_addStreet_40 ((tX10_addStreet_41 hX hr hq)))))))))))))))))))))))))
def kX3_open_92 (r : pu_R) : pu_K := s_vret
theorem vX3_open_92 : pu_cok2 kX3_open_92 := fun rf r hr => by
  unfold kX3_open_92
  exact v_vret
theorem tX3_open_92 {X : pu_X} {r : pu_R} (hX : pu_H X mdX3_open) (hr : pu_P X.2.1 X.2.2.2.2.2.2.2.2.2.2.1 r) (hq : ∀ i pc, pu_lp i = some (54, pc) → pu_S X mdX3_open pc (r i)) : pu_S X mdX3_open 92 (kX3_open_92 r) := by
  unfold kX3_open_92
  exact z_vret hX dX3_open_92 rfl
def kX3_open_84 (r : pu_R) : pu_K := s_gi 3 0 (s_push (.int (1)) (s_iadd (s_pi 3 0 ((kX3_open_92 r)))))
theorem vX3_open_84 : pu_cok2 kX3_open_84 := fun rf r hr => by
  unfold kX3_open_84
  exact v_gi (v_pi (v_iadd (v_puti ((vX3_open_92 rf r hr)))))
theorem tX3_open_84 {X : pu_X} {r : pu_R} (hX : pu_H X mdX3_open) (hr : pu_P X.2.1 X.2.2.2.2.2.2.2.2.2.2.1 r) (hq : ∀ i pc, pu_lp i = some (54, pc) → pu_S X mdX3_open pc (r i)) : pu_S X mdX3_open 84 (kX3_open_84 r) := by
  unfold kX3_open_84
  exact z_gi (c := 3) (j := 0) hX dX3_open_84 rfl inlX3 wm16_21 ⟨rfl, by decide, rfl⟩ (z_iconst hX dX3_open_87 (by decide) (z_iadd hX dX3_open_88 (z_pi (c := 3) (j := 0) tyX3 tyX3_ok nmX3 hX dX3_open_89 rfl inlX3 wm16_21 ⟨rfl, by decide⟩ ⟨rfl, rfl⟩ rfl ((tX3_open_92 hX hr hq)))))
def kX3_open_44 (r : pu_R) : pu_K := s_ald 0 (s_gr 3 3 (s_ald 0 (s_gi 3 0 (s_ild 5 (s_wi 1 (s_ald 0 (s_gr 3 4 (s_ald 0 (s_gi 3 0 (s_push (.int (-1)) (s_wi 1 (s_ald 3 (s_ild 4 (s_ald 0 (s_gr 3 5 (s_push (.int (3)) (s_ald 0 (s_gi 3 0 (s_imul (s_push (.int (3)) (s_cp3 (s_ald 0 (s_dup ((kX3_open_84 r)))))))))))))))))))))))))
theorem vX3_open_44 : pu_cok2 kX3_open_44 := fun rf r hr => by
  unfold kX3_open_44
  exact v_ald (v_gr (v_ald (v_gi (v_ild (v_wi (v_ald (v_gr (v_ald (v_gi (v_pi (v_wi (v_ald (v_ild (v_ald (v_gr (v_pi (v_ald (v_gi (v_imul (v_pi (v_cp3 (v_ald (v_dup ((vX3_open_84 rf r hr)))))))))))))))))))))))))
theorem tX3_open_44 {X : pu_X} {r : pu_R} (hX : pu_H X mdX3_open) (hr : pu_P X.2.1 X.2.2.2.2.2.2.2.2.2.2.1 r) (hq : ∀ i pc, pu_lp i = some (54, pc) → pu_S X mdX3_open pc (r i)) : pu_S X mdX3_open 44 (kX3_open_44 r) := by
  unfold kX3_open_44
  exact z_ald_n hX dX3_open_44 rfl (z_gr (c := 3) (j := 3) hX dX3_open_45 rfl inlX3 wm4_21 ⟨rfl, by decide, rfl⟩ (z_ald_n hX dX3_open_48 rfl (z_gi (c := 3) (j := 0) hX dX3_open_49 rfl inlX3 wm16_21 ⟨rfl, by decide, rfl⟩ (z_ild hX dX3_open_52 (z_iast hX dX3_open_54 (z_ald_n hX dX3_open_55 rfl (z_gr (c := 3) (j := 4) hX dX3_open_56 rfl inlX3 wm4_22 ⟨rfl, by decide, rfl⟩ (z_ald_n hX dX3_open_59 rfl (z_gi (c := 3) (j := 0) hX dX3_open_60 rfl inlX3 wm16_21 ⟨rfl, by decide, rfl⟩ (z_iconst hX dX3_open_63 (by decide) (z_iast hX dX3_open_64 (z_ald_n hX dX3_open_65 rfl (z_ild hX dX3_open_66 (z_ald_n hX dX3_open_68 rfl (z_gr (c := 3) (j := 5) hX dX3_open_69 rfl inlX3 wm5_0 ⟨rfl, by decide, rfl⟩ (z_iconst hX dX3_open_72 (by decide) (z_ald_n hX dX3_open_73 rfl (z_gi (c := 3) (j := 0) hX dX3_open_74 rfl inlX3 wm16_21 ⟨rfl, by decide, rfl⟩ (z_imul hX dX3_open_77 (z_iconst hX dX3_open_78 (by decide) (z_cp3 hX dX3_open_79 ⟨wm20_11, wm10_8, wm10_9, wm10_10⟩ ⟨Nat.le_of_ble_eq_true rfl, Nat.le_of_ble_eq_true rfl⟩ (z_ald_n hX dX3_open_82 rfl (z_dup hX dX3_open_83 ((tX3_open_84 hX hr hq)))))))))))))))))))))))))
def kX3_open_0 (r : pu_R) : pu_K := s_ald 0 (s_gi 3 0 (s_push (.int (416)) (s_icge (kX3_open_92 r) (s_ild 4 (s_iflt (kX3_open_92 r) (s_ild 4 (s_push (.int (3)) (s_iadd (s_ald 3 (s_len (s_icgt (kX3_open_92 r) (s_ald 0 (s_gr 3 1 (s_ald 0 (s_gi 3 0 (s_ild 1 (s_wi 1 (s_ald 0 (s_gr 3 2 (s_ald 0 (s_gi 3 0 (s_ild 2 (s_wi 1 ((kX3_open_44 r)))))))))))))))))))))))))
theorem vX3_open_0 : pu_cok2 kX3_open_0 := fun rf r hr => by
  unfold kX3_open_0
  exact v_ald (v_gi (v_pi (v_icge (vX3_open_92 rf r hr) (v_ild (v_iflt (vX3_open_92 rf r hr) (v_ild (v_pi (v_iadd (v_ald (v_len (v_icgt (vX3_open_92 rf r hr) (v_ald (v_gr (v_ald (v_gi (v_ild (v_wi (v_ald (v_gr (v_ald (v_gi (v_ild (v_wi ((vX3_open_44 rf r hr)))))))))))))))))))))))))
theorem tX3_open_0 {X : pu_X} {r : pu_R} (hX : pu_H X mdX3_open) (hr : pu_P X.2.1 X.2.2.2.2.2.2.2.2.2.2.1 r) (hq : ∀ i pc, pu_lp i = some (54, pc) → pu_S X mdX3_open pc (r i)) : pu_S X mdX3_open 0 (kX3_open_0 r) := by
  unfold kX3_open_0
  exact z_ald_n hX dX3_open_0 rfl (z_gi (c := 3) (j := 0) hX dX3_open_1 rfl inlX3 wm16_21 ⟨rfl, by decide, rfl⟩ (z_sipush hX dX3_open_4 (by decide) (z_icge hX dX3_open_7 (by decide) (tX3_open_92 hX hr hq) (z_ild hX dX3_open_10 (z_iflt hX dX3_open_12 (by decide) (tX3_open_92 hX hr hq) (z_ild hX dX3_open_15 (z_iconst hX dX3_open_17 (by decide) (z_iadd hX dX3_open_18 (z_ald_n hX dX3_open_19 rfl (z_len hX dX3_open_20 (z_icgt hX dX3_open_21 (by decide) (tX3_open_92 hX hr hq) (z_ald_n hX dX3_open_24 rfl (z_gr (c := 3) (j := 1) hX dX3_open_25 rfl inlX3 wm4_19 ⟨rfl, by decide, rfl⟩ (z_ald_n hX dX3_open_28 rfl (z_gi (c := 3) (j := 0) hX dX3_open_29 rfl inlX3 wm16_21 ⟨rfl, by decide, rfl⟩ (z_ild_n hX dX3_open_32 rfl (z_iast hX dX3_open_33 (z_ald_n hX dX3_open_34 rfl (z_gr (c := 3) (j := 2) hX dX3_open_35 rfl inlX3 wm4_20 ⟨rfl, by decide, rfl⟩ (z_ald_n hX dX3_open_38 rfl (z_gi (c := 3) (j := 0) hX dX3_open_39 rfl inlX3 wm16_21 ⟨rfl, by decide, rfl⟩ (z_ild_n hX dX3_open_42 rfl (z_iast hX dX3_open_43 ((tX3_open_44 hX hr hq)))))))))))))))))))))))))
def kX11_street_173 (r : pu_R) : pu_K := s_cv r 54 5 3 (s_ild 5 (s_iret))
theorem vX11_street_173 : pu_cok2 kX11_street_173 := fun rf r hr => by
  unfold kX11_street_173
  exact v_cv hr (v_ild (v_iret))
theorem tX11_street_173 {X : pu_X} {r : pu_R} (hX : pu_H X mdX11_street) (hr : pu_P X.2.1 X.2.2.2.2.2.2.2.2.2.2.1 r) (hq : ∀ i pc, pu_lp i = some (55, pc) → pu_S X mdX11_street pc (r i)) : pu_S X mdX11_street 173 (kX11_street_173 r) := by
  unfold kX11_street_173
  exact z_cv (c := 3) hX hr dX11_street_173 hjX3_open mwX3_open rfl wm20_7 ⟨wm20_8, wm20_9⟩ ⟨Nat.le_of_ble_eq_true rfl, Nat.le_of_ble_eq_true rfl⟩ (z_ild hX dX11_street_176 (z_iret hX dX11_street_178 rfl))
def kX11_street_124 (r : pu_R) : pu_K := s_ald 0 (s_gr 11 2 (s_gr 5 0 (s_ild 3 (s_ild 5 (s_push (.int (-1)) (s_cv r 52 3 6 (s_ist 6 (s_ald 0 (s_gr 11 2 (s_gr 5 3 (s_ild 2 (s_ild 6 (s_cv r 53 2 10 (s_ald 0 (s_gr 11 2 (s_gr 5 2 (s_ild 5 (s_ild 1 (s_ald 0 (s_gr 11 4 (s_gr 7 0 (s_push (.int (0)) (s_ild 6 ((kX11_street_173 r)))))))))))))))))))))))))
theorem vX11_street_124 : pu_cok2 kX11_street_124 := fun rf r hr => by
  unfold kX11_street_124
  exact v_ald (v_gr (v_gr (v_ild (v_ild (v_pi (v_cv hr (v_ist (v_ald (v_gr (v_gr (v_ild (v_ild (v_cv hr (v_ald (v_gr (v_gr (v_ild (v_ild (v_ald (v_gr (v_gr (v_pi (v_ild ((vX11_street_173 rf r hr)))))))))))))))))))))))))
theorem tX11_street_124 {X : pu_X} {r : pu_R} (hX : pu_H X mdX11_street) (hr : pu_P X.2.1 X.2.2.2.2.2.2.2.2.2.2.1 r) (hq : ∀ i pc, pu_lp i = some (55, pc) → pu_S X mdX11_street pc (r i)) : pu_S X mdX11_street 124 (kX11_street_124 r) := by
  unfold kX11_street_124
  exact z_ald_n hX dX11_street_124 rfl (z_gr (c := 11) (j := 2) hX dX11_street_125 rfl inlX11 wm1_20 ⟨rfl, by decide, rfl⟩ (z_gr (c := 5) (j := 0) hX dX11_street_128 rfl inlX5 wm10_19 ⟨rfl, by decide, rfl⟩ (z_ild_n hX dX11_street_131 rfl (z_ild hX dX11_street_132 (z_iconst hX dX11_street_134 (by decide) (z_cv (c := 6) hX hr dX11_street_135 hjX6_lay mwX6_lay rfl wm19_18 ⟨wm19_19, wm19_20⟩ ⟨Nat.le_of_ble_eq_true rfl, Nat.le_of_ble_eq_true rfl⟩ (z_ist hX dX11_street_138 (z_ald_n hX dX11_street_140 rfl (z_gr (c := 11) (j := 2) hX dX11_street_141 rfl inlX11 wm1_20 ⟨rfl, by decide, rfl⟩ (z_gr (c := 5) (j := 3) hX dX11_street_144 rfl inlX5 wm11_22 ⟨rfl, by decide, rfl⟩ (z_ild_n hX dX11_street_147 rfl (z_ild hX dX11_street_148 (z_cv (c := 10) hX hr dX11_street_150 hjX10_addStreet mwX10_addStreet rfl wm20_2 ⟨wm20_3, wm20_4⟩ ⟨Nat.le_of_ble_eq_true rfl, Nat.le_of_ble_eq_true rfl⟩ (z_ald_n hX dX11_street_153 rfl (z_gr (c := 11) (j := 2) hX dX11_street_154 rfl inlX11 wm1_20 ⟨rfl, by decide, rfl⟩ (z_gr (c := 5) (j := 2) hX dX11_street_157 rfl inlX5 wm16_7 ⟨rfl, by decide, rfl⟩ (z_ild hX dX11_street_160 (z_ild_n hX dX11_street_162 rfl (z_ald_n hX dX11_street_163 rfl (z_gr (c := 11) (j := 4) hX dX11_street_164 rfl inlX11 wm2_1 ⟨rfl, by decide, rfl⟩ (z_gr (c := 7) (j := 0) hX dX11_street_167 rfl inlX7 wm11_23 ⟨rfl, by decide, rfl⟩ (z_iconst hX dX11_street_170 (by decide) (z_ild hX dX11_street_171 ((tX11_street_173 hX hr hq)))))))))))))))))))))))))
def kX11_street_121 (r : pu_R) : pu_K := s_push (.int (-6)) (s_iret)
theorem vX11_street_121 : pu_cok2 kX11_street_121 := fun rf r hr => by
  unfold kX11_street_121
  exact v_pi (v_iret)
theorem tX11_street_121 {X : pu_X} {r : pu_R} (hX : pu_H X mdX11_street) (hr : pu_P X.2.1 X.2.2.2.2.2.2.2.2.2.2.1 r) (hq : ∀ i pc, pu_lp i = some (55, pc) → pu_S X mdX11_street pc (r i)) : pu_S X mdX11_street 121 (kX11_street_121 r) := by
  unfold kX11_street_121
  exact z_bipush hX dX11_street_121 (by decide) (z_iret hX dX11_street_123 rfl)
def kX11_street_89 (r : pu_R) : pu_K := s_ald 0 (s_gr 11 2 (s_gr 5 3 (s_gi 10 1 (s_ist 5 (s_ild 5 (s_push (.int (24)) (s_icge (kX11_street_121 r) (s_ald 0 (s_gr 11 2 (s_gr 5 0 (s_cv r 51 0 6 (s_ifne (kX11_street_124 r) ((kX11_street_121 r))))))))))))))
theorem vX11_street_89 : pu_cok2 kX11_street_89 := fun rf r hr => by
  unfold kX11_street_89
  exact v_ald (v_gr (v_gr (v_gi (v_ist (v_ild (v_pi (v_icge (vX11_street_121 rf r hr) (v_ald (v_gr (v_gr (v_cv hr (v_ifne (vX11_street_124 rf r hr) ((vX11_street_121 rf r hr))))))))))))))
theorem tX11_street_89 {X : pu_X} {r : pu_R} (hX : pu_H X mdX11_street) (hr : pu_P X.2.1 X.2.2.2.2.2.2.2.2.2.2.1 r) (hq : ∀ i pc, pu_lp i = some (55, pc) → pu_S X mdX11_street pc (r i)) : pu_S X mdX11_street 89 (kX11_street_89 r) := by
  unfold kX11_street_89
  exact z_ald_n hX dX11_street_89 rfl (z_gr (c := 11) (j := 2) hX dX11_street_90 rfl inlX11 wm1_20 ⟨rfl, by decide, rfl⟩ (z_gr (c := 5) (j := 3) hX dX11_street_93 rfl inlX5 wm11_22 ⟨rfl, by decide, rfl⟩ (z_gi (c := 10) (j := 1) hX dX11_street_96 rfl inlX10 wm17_14 ⟨rfl, by decide, rfl⟩ (z_ist hX dX11_street_99 (z_ild hX dX11_street_101 (z_bipush hX dX11_street_103 (by decide) (z_icge hX dX11_street_105 (by decide) (tX11_street_121 hX hr hq) (z_ald_n hX dX11_street_108 rfl (z_gr (c := 11) (j := 2) hX dX11_street_109 rfl inlX11 wm1_20 ⟨rfl, by decide, rfl⟩ (z_gr (c := 5) (j := 0) hX dX11_street_112 rfl inlX5 wm10_19 ⟨rfl, by decide, rfl⟩ (z_cv (c := 6) hX hr dX11_street_115 hjX6_hasRoom mwX6_hasRoom rfl wm19_14 ⟨wm19_15, wm19_16⟩ ⟨Nat.le_of_ble_eq_true rfl, Nat.le_of_ble_eq_true rfl⟩ (z_ifne hX dX11_street_118 (by decide) (tX11_street_124 hX hr hq) ((tX11_street_121 hX hr hq))))))))))))))
def kX11_street_57 (r : pu_R) : pu_K := s_ald 0 (s_gr 11 2 (s_gr 5 2 (s_ald 0 (s_gr 11 4 (s_gr 7 0 (s_ild 1 (s_ild 3 (s_ald 0 (s_gr 11 2 (s_gr 5 0 (s_cv r 50 4 3 (s_ifeq (kX11_street_89 r) (s_push (.int (-5)) (s_iret))))))))))))))
theorem vX11_street_57 : pu_cok2 kX11_street_57 := fun rf r hr => by
  unfold kX11_street_57
  exact v_ald (v_gr (v_gr (v_ald (v_gr (v_gr (v_ild (v_ild (v_ald (v_gr (v_gr (v_cv hr (v_ifeq (vX11_street_89 rf r hr) (v_pi (v_iret))))))))))))))
theorem tX11_street_57 {X : pu_X} {r : pu_R} (hX : pu_H X mdX11_street) (hr : pu_P X.2.1 X.2.2.2.2.2.2.2.2.2.2.1 r) (hq : ∀ i pc, pu_lp i = some (55, pc) → pu_S X mdX11_street pc (r i)) : pu_S X mdX11_street 57 (kX11_street_57 r) := by
  unfold kX11_street_57
  exact z_ald_n hX dX11_street_57 rfl (z_gr (c := 11) (j := 2) hX dX11_street_58 rfl inlX11 wm1_20 ⟨rfl, by decide, rfl⟩ (z_gr (c := 5) (j := 2) hX dX11_street_61 rfl inlX5 wm16_7 ⟨rfl, by decide, rfl⟩ (z_ald_n hX dX11_street_64 rfl (z_gr (c := 11) (j := 4) hX dX11_street_65 rfl inlX11 wm2_1 ⟨rfl, by decide, rfl⟩ (z_gr (c := 7) (j := 0) hX dX11_street_68 rfl inlX7 wm11_23 ⟨rfl, by decide, rfl⟩ (z_ild_n hX dX11_street_71 rfl (z_ild_n hX dX11_street_72 rfl (z_ald_n hX dX11_street_73 rfl (z_gr (c := 11) (j := 2) hX dX11_street_74 rfl inlX11 wm1_20 ⟨rfl, by decide, rfl⟩ (z_gr (c := 5) (j := 0) hX dX11_street_77 rfl inlX5 wm10_19 ⟨rfl, by decide, rfl⟩ (z_cv (c := 3) hX hr dX11_street_80 hjX3_isHeldFrom mwX3_isHeldFrom rfl wm18_15 ⟨wm18_16, wm18_17⟩ ⟨Nat.le_of_ble_eq_true rfl, Nat.le_of_ble_eq_true rfl⟩ (z_ifeq hX dX11_street_83 (by decide) (tX11_street_89 hX hr hq) (z_bipush hX dX11_street_86 (by decide) (z_iret hX dX11_street_88 rfl))))))))))))))
def kX11_street_38 (r : pu_R) : pu_K := s_ild 3 (s_ald 0 (s_gr 11 2 (s_gr 5 0 (s_push (.int (-1)) (s_ild 1 (s_cv r 45 2 6 (s_icge (kX11_street_57 r) (s_push (.int (-3)) (s_iret)))))))))
theorem vX11_street_38 : pu_cok2 kX11_street_38 := fun rf r hr => by
  unfold kX11_street_38
  exact v_ild (v_ald (v_gr (v_gr (v_pi (v_ild (v_cv hr (v_icge (vX11_street_57 rf r hr) (v_pi (v_iret)))))))))
theorem tX11_street_38 {X : pu_X} {r : pu_R} (hX : pu_H X mdX11_street) (hr : pu_P X.2.1 X.2.2.2.2.2.2.2.2.2.2.1 r) (hq : ∀ i pc, pu_lp i = some (55, pc) → pu_S X mdX11_street pc (r i)) : pu_S X mdX11_street 38 (kX11_street_38 r) := by
  unfold kX11_street_38
  exact z_ild_n hX dX11_street_38 rfl (z_ald_n hX dX11_street_39 rfl (z_gr (c := 11) (j := 2) hX dX11_street_40 rfl inlX11 wm1_20 ⟨rfl, by decide, rfl⟩ (z_gr (c := 5) (j := 0) hX dX11_street_43 rfl inlX5 wm10_19 ⟨rfl, by decide, rfl⟩ (z_iconst hX dX11_street_46 (by decide) (z_ild_n hX dX11_street_47 rfl (z_cv (c := 6) hX hr dX11_street_48 hjX6_latestOn mwX6_latestOn rfl wm18_7 ⟨wm18_8, wm18_9⟩ ⟨Nat.le_of_ble_eq_true rfl, Nat.le_of_ble_eq_true rfl⟩ (z_icge hX dX11_street_51 (by decide) (tX11_street_57 hX hr hq) (z_bipush hX dX11_street_54 (by decide) (z_iret hX dX11_street_56 rfl)))))))))
def kX11_street_35 (r : pu_R) : pu_K := s_push (.int (-2)) (s_iret)
theorem vX11_street_35 : pu_cok2 kX11_street_35 := fun rf r hr => by
  unfold kX11_street_35
  exact v_pi (v_iret)
theorem tX11_street_35 {X : pu_X} {r : pu_R} (hX : pu_H X mdX11_street) (hr : pu_P X.2.1 X.2.2.2.2.2.2.2.2.2.2.1 r) (hq : ∀ i pc, pu_lp i = some (55, pc) → pu_S X mdX11_street pc (r i)) : pu_S X mdX11_street 35 (kX11_street_35 r) := by
  unfold kX11_street_35
  exact z_bipush hX dX11_street_35 (by decide) (z_iret hX dX11_street_37 rfl)
def kX11_street_16 (r : pu_R) : pu_K := s_ild 4 (s_ifeq (kX11_street_35 r) (s_ild 2 (s_cs r 44 1 (s_ifeq (kX11_street_35 r) (s_ild 3 (s_cs r 18 1 (s_ifne (kX11_street_38 r) ((kX11_street_35 r)))))))))
theorem vX11_street_16 : pu_cok2 kX11_street_16 := fun rf r hr => by
  unfold kX11_street_16
  exact v_ild (v_ifeq (vX11_street_35 rf r hr) (v_ild (v_cs hr (v_ifeq (vX11_street_35 rf r hr) (v_ild (v_cs hr (v_ifne (vX11_street_38 rf r hr) ((vX11_street_35 rf r hr)))))))))
theorem tX11_street_16 {X : pu_X} {r : pu_R} (hX : pu_H X mdX11_street) (hr : pu_P X.2.1 X.2.2.2.2.2.2.2.2.2.2.1 r) (hq : ∀ i pc, pu_lp i = some (55, pc) → pu_S X mdX11_street pc (r i)) : pu_S X mdX11_street 16 (kX11_street_16 r) := by
  unfold kX11_street_16
  exact z_ild hX dX11_street_16 (z_ifeq hX dX11_street_18 (by decide) (tX11_street_35 hX hr hq) (z_ild_n hX dX11_street_21 rfl (z_cs hX hr dX11_street_22 hjX11_isRule mwX11_isRule wm18_4 wm18_5 ⟨Nat.le_of_ble_eq_true rfl, Nat.le_of_ble_eq_true rfl⟩ (z_ifeq hX dX11_street_25 (by decide) (tX11_street_35 hX hr hq) (z_ild_n hX dX11_street_28 rfl (z_cs hX hr dX11_street_29 hjX11_isDay mwX11_isDay wm10_21 wm10_22 ⟨Nat.le_of_ble_eq_true rfl, Nat.le_of_ble_eq_true rfl⟩ (z_ifne hX dX11_street_32 (by decide) (tX11_street_38 hX hr hq) ((tX11_street_35 hX hr hq)))))))))
def kX11_street_0 (r : pu_R) : pu_K := s_ald 0 (s_cv r 31 0 11 (s_ist 4 (s_ald 0 (s_ild 1 (s_cv r 43 1 11 (s_ifne (kX11_street_16 r) (s_push (.int (-1)) (s_iret))))))))
theorem vX11_street_0 : pu_cok2 kX11_street_0 := fun rf r hr => by
  unfold kX11_street_0
  exact v_ald (v_cv hr (v_ist (v_ald (v_ild (v_cv hr (v_ifne (vX11_street_16 rf r hr) (v_pi (v_iret))))))))
theorem tX11_street_0 {X : pu_X} {r : pu_R} (hX : pu_H X mdX11_street) (hr : pu_P X.2.1 X.2.2.2.2.2.2.2.2.2.2.1 r) (hq : ∀ i pc, pu_lp i = some (55, pc) → pu_S X mdX11_street pc (r i)) : pu_S X mdX11_street 0 (kX11_street_0 r) := by
  unfold kX11_street_0
  exact z_ald_n hX dX11_street_0 rfl (z_cv (c := 11) hX hr dX11_street_1 hjX11_readName mwX11_readName rfl wm12_1 ⟨wm12_2, wm12_3⟩ ⟨Nat.le_of_ble_eq_true rfl, Nat.le_of_ble_eq_true rfl⟩ (z_ist hX dX11_street_4 (z_ald_n hX dX11_street_6 rfl (z_ild_n hX dX11_street_7 rfl (z_cv (c := 11) hX hr dX11_street_8 hjX11_isTownOfItsOwn mwX11_isTownOfItsOwn rfl wm17_15 ⟨wm17_16, wm17_17⟩ ⟨Nat.le_of_ble_eq_true rfl, Nat.le_of_ble_eq_true rfl⟩ (z_ifne hX dX11_street_11 (by decide) (tX11_street_16 hX hr hq) (z_iconst hX dX11_street_14 (by decide) (z_iret hX dX11_street_15 rfl))))))))
def kX10_isStreet_17 (r : pu_R) : pu_K := s_zret
theorem vX10_isStreet_17 : pu_cok2 kX10_isStreet_17 := fun rf r hr => by
  unfold kX10_isStreet_17
  exact v_zret
theorem tX10_isStreet_17 {X : pu_X} {r : pu_R} (hX : pu_H X mdX10_isStreet) (hr : pu_P X.2.1 X.2.2.2.2.2.2.2.2.2.2.1 r) (hq : ∀ i pc, pu_lp i = some (56, pc) → pu_S X mdX10_isStreet pc (r i)) : pu_S X mdX10_isStreet 17 (kX10_isStreet_17 r) := by
  unfold kX10_isStreet_17
  exact z_zret hX dX10_isStreet_17 rfl
def kX10_isStreet_16 (r : pu_R) : pu_K := s_push (.int (0)) ((kX10_isStreet_17 r))
theorem vX10_isStreet_16 : pu_cok2 kX10_isStreet_16 := fun rf r hr => by
  unfold kX10_isStreet_16
  exact v_pi ((vX10_isStreet_17 rf r hr))
theorem tX10_isStreet_16 {X : pu_X} {r : pu_R} (hX : pu_H X mdX10_isStreet) (hr : pu_P X.2.1 X.2.2.2.2.2.2.2.2.2.2.1 r) (hq : ∀ i pc, pu_lp i = some (56, pc) → pu_S X mdX10_isStreet pc (r i)) : pu_S X mdX10_isStreet 16 (kX10_isStreet_16 r) := by
  unfold kX10_isStreet_16
  exact z_iconst hX dX10_isStreet_16 (by decide) ((tX10_isStreet_17 hX hr hq))
def kX10_isStreet_0 (r : pu_R) : pu_K := s_ild 1 (s_iflt (kX10_isStreet_16 r) (s_ild 1 (s_ald 0 (s_gi 10 1 (s_icge (kX10_isStreet_16 r) (s_push (.int (1)) ((kX10_isStreet_17 r))))))))
theorem vX10_isStreet_0 : pu_cok2 kX10_isStreet_0 := fun rf r hr => by
  unfold kX10_isStreet_0
  exact v_ild (v_iflt (vX10_isStreet_16 rf r hr) (v_ild (v_ald (v_gi (v_icge (vX10_isStreet_16 rf r hr) (v_pi ((vX10_isStreet_17 rf r hr))))))))
theorem tX10_isStreet_0 {X : pu_X} {r : pu_R} (hX : pu_H X mdX10_isStreet) (hr : pu_P X.2.1 X.2.2.2.2.2.2.2.2.2.2.1 r) (hq : ∀ i pc, pu_lp i = some (56, pc) → pu_S X mdX10_isStreet pc (r i)) : pu_S X mdX10_isStreet 0 (kX10_isStreet_0 r) := by
  unfold kX10_isStreet_0
  exact z_ild_n hX dX10_isStreet_0 rfl (z_iflt hX dX10_isStreet_1 (by decide) (tX10_isStreet_16 hX hr hq) (z_ild_n hX dX10_isStreet_4 rfl (z_ald_n hX dX10_isStreet_5 rfl (z_gi (c := 10) (j := 1) hX dX10_isStreet_6 rfl inlX10 wm20_6 ⟨rfl, by decide, rfl⟩ (z_icge hX dX10_isStreet_9 (by decide) (tX10_isStreet_16 hX hr hq) (z_iconst hX dX10_isStreet_12 (by decide) ((z_goto hX dX10_isStreet_13 (by decide) (tX10_isStreet_17 hX hr hq)))))))))
def kX11_isSide_14 (r : pu_R) : pu_K := s_zret
theorem vX11_isSide_14 : pu_cok2 kX11_isSide_14 := fun rf r hr => by
  unfold kX11_isSide_14
  exact v_zret
theorem tX11_isSide_14 {X : pu_X} {r : pu_R} (hX : pu_H X mdX11_isSide) (hr : pu_P X.2.1 X.2.2.2.2.2.2.2.2.2.2.1 r) (hq : ∀ i pc, pu_lp i = some (57, pc) → pu_S X mdX11_isSide pc (r i)) : pu_S X mdX11_isSide 14 (kX11_isSide_14 r) := by
  unfold kX11_isSide_14
  exact z_zret hX dX11_isSide_14 rfl
def kX11_isSide_13 (r : pu_R) : pu_K := s_push (.int (0)) ((kX11_isSide_14 r))
theorem vX11_isSide_13 : pu_cok2 kX11_isSide_13 := fun rf r hr => by
  unfold kX11_isSide_13
  exact v_pi ((vX11_isSide_14 rf r hr))
theorem tX11_isSide_13 {X : pu_X} {r : pu_R} (hX : pu_H X mdX11_isSide) (hr : pu_P X.2.1 X.2.2.2.2.2.2.2.2.2.2.1 r) (hq : ∀ i pc, pu_lp i = some (57, pc) → pu_S X mdX11_isSide pc (r i)) : pu_S X mdX11_isSide 13 (kX11_isSide_13 r) := by
  unfold kX11_isSide_13
  exact z_iconst hX dX11_isSide_13 (by decide) ((tX11_isSide_14 hX hr hq))
def kX11_isSide_9 (r : pu_R) : pu_K := s_push (.int (1)) ((kX11_isSide_14 r))
theorem vX11_isSide_9 : pu_cok2 kX11_isSide_9 := fun rf r hr => by
  unfold kX11_isSide_9
  exact v_pi ((vX11_isSide_14 rf r hr))
theorem tX11_isSide_9 {X : pu_X} {r : pu_R} (hX : pu_H X mdX11_isSide) (hr : pu_P X.2.1 X.2.2.2.2.2.2.2.2.2.2.1 r) (hq : ∀ i pc, pu_lp i = some (57, pc) → pu_S X mdX11_isSide pc (r i)) : pu_S X mdX11_isSide 9 (kX11_isSide_9 r) := by
  unfold kX11_isSide_9
  exact z_iconst hX dX11_isSide_9 (by decide) ((z_goto hX dX11_isSide_10 (by decide) (tX11_isSide_14 hX hr hq)))
def kX11_isSide_0 (r : pu_R) : pu_K := s_ild 0 (s_ifeq (kX11_isSide_9 r) (s_ild 0 (s_push (.int (1)) (s_icne (kX11_isSide_13 r) ((kX11_isSide_9 r))))))
theorem vX11_isSide_0 : pu_cok2 kX11_isSide_0 := fun rf r hr => by
  unfold kX11_isSide_0
  exact v_ild (v_ifeq (vX11_isSide_9 rf r hr) (v_ild (v_pi (v_icne (vX11_isSide_13 rf r hr) ((vX11_isSide_9 rf r hr))))))
theorem tX11_isSide_0 {X : pu_X} {r : pu_R} (hX : pu_H X mdX11_isSide) (hr : pu_P X.2.1 X.2.2.2.2.2.2.2.2.2.2.1 r) (hq : ∀ i pc, pu_lp i = some (57, pc) → pu_S X mdX11_isSide pc (r i)) : pu_S X mdX11_isSide 0 (kX11_isSide_0 r) := by
  unfold kX11_isSide_0
  exact z_ild_n hX dX11_isSide_0 rfl (z_ifeq hX dX11_isSide_1 (by decide) (tX11_isSide_9 hX hr hq) (z_ild_n hX dX11_isSide_4 rfl (z_iconst hX dX11_isSide_5 (by decide) (z_icne hX dX11_isSide_6 (by decide) (tX11_isSide_13 hX hr hq) ((tX11_isSide_9 hX hr hq))))))
def kX11_isPlace_23 (r : pu_R) : pu_K := s_zret
theorem vX11_isPlace_23 : pu_cok2 kX11_isPlace_23 := fun rf r hr => by
  unfold kX11_isPlace_23
  exact v_zret
theorem tX11_isPlace_23 {X : pu_X} {r : pu_R} (hX : pu_H X mdX11_isPlace) (hr : pu_P X.2.1 X.2.2.2.2.2.2.2.2.2.2.1 r) (hq : ∀ i pc, pu_lp i = some (58, pc) → pu_S X mdX11_isPlace pc (r i)) : pu_S X mdX11_isPlace 23 (kX11_isPlace_23 r) := by
  unfold kX11_isPlace_23
  exact z_zret hX dX11_isPlace_23 rfl
def kX11_isPlace_22 (r : pu_R) : pu_K := s_push (.int (0)) ((kX11_isPlace_23 r))
theorem vX11_isPlace_22 : pu_cok2 kX11_isPlace_22 := fun rf r hr => by
  unfold kX11_isPlace_22
  exact v_pi ((vX11_isPlace_23 rf r hr))
theorem tX11_isPlace_22 {X : pu_X} {r : pu_R} (hX : pu_H X mdX11_isPlace) (hr : pu_P X.2.1 X.2.2.2.2.2.2.2.2.2.2.1 r) (hq : ∀ i pc, pu_lp i = some (58, pc) → pu_S X mdX11_isPlace pc (r i)) : pu_S X mdX11_isPlace 22 (kX11_isPlace_22 r) := by
  unfold kX11_isPlace_22
  exact z_iconst hX dX11_isPlace_22 (by decide) ((tX11_isPlace_23 hX hr hq))
def kX11_isPlace_0 (r : pu_R) : pu_K := s_ild 0 (s_cs r 57 1 (s_ifeq (kX11_isPlace_22 r) (s_ild 1 (s_iflt (kX11_isPlace_22 r) (s_ild 1 (s_push (.int (9999)) (s_icgt (kX11_isPlace_22 r) (s_push (.int (1)) ((kX11_isPlace_23 r))))))))))
theorem vX11_isPlace_0 : pu_cok2 kX11_isPlace_0 := fun rf r hr => by
  unfold kX11_isPlace_0
  exact v_ild (v_cs hr (v_ifeq (vX11_isPlace_22 rf r hr) (v_ild (v_iflt (vX11_isPlace_22 rf r hr) (v_ild (v_pi (v_icgt (vX11_isPlace_22 rf r hr) (v_pi ((vX11_isPlace_23 rf r hr))))))))))
theorem tX11_isPlace_0 {X : pu_X} {r : pu_R} (hX : pu_H X mdX11_isPlace) (hr : pu_P X.2.1 X.2.2.2.2.2.2.2.2.2.2.1 r) (hq : ∀ i pc, pu_lp i = some (58, pc) → pu_S X mdX11_isPlace pc (r i)) : pu_S X mdX11_isPlace 0 (kX11_isPlace_0 r) := by
  unfold kX11_isPlace_0
  exact z_ild_n hX dX11_isPlace_0 rfl (z_cs hX hr dX11_isPlace_1 hjX11_isSide mwX11_isSide wm22_6 wm22_7 ⟨Nat.le_of_ble_eq_true rfl, Nat.le_of_ble_eq_true rfl⟩ (z_ifeq hX dX11_isPlace_4 (by decide) (tX11_isPlace_22 hX hr hq) (z_ild_n hX dX11_isPlace_7 rfl (z_iflt hX dX11_isPlace_8 (by decide) (tX11_isPlace_22 hX hr hq) (z_ild_n hX dX11_isPlace_11 rfl (z_sipush hX dX11_isPlace_12 (by decide) (z_icgt hX dX11_isPlace_15 (by decide) (tX11_isPlace_22 hX hr hq) (z_iconst hX dX11_isPlace_18 (by decide) ((z_goto hX dX11_isPlace_19 (by decide) (tX11_isPlace_23 hX hr hq)))))))))))
def kX11_isWhole_30 (r : pu_R) : pu_K := s_zret
theorem vX11_isWhole_30 : pu_cok2 kX11_isWhole_30 := fun rf r hr => by
  unfold kX11_isWhole_30
  exact v_zret
theorem tX11_isWhole_30 {X : pu_X} {r : pu_R} (hX : pu_H X mdX11_isWhole) (hr : pu_P X.2.1 X.2.2.2.2.2.2.2.2.2.2.1 r) (hq : ∀ i pc, pu_lp i = some (59, pc) → pu_S X mdX11_isWhole pc (r i)) : pu_S X mdX11_isWhole 30 (kX11_isWhole_30 r) := by
  unfold kX11_isWhole_30
  exact z_zret hX dX11_isWhole_30 rfl
def kX11_isWhole_29 (r : pu_R) : pu_K := s_push (.int (0)) ((kX11_isWhole_30 r))
theorem vX11_isWhole_29 : pu_cok2 kX11_isWhole_29 := fun rf r hr => by
  unfold kX11_isWhole_29
  exact v_pi ((vX11_isWhole_30 rf r hr))
theorem tX11_isWhole_29 {X : pu_X} {r : pu_R} (hX : pu_H X mdX11_isWhole) (hr : pu_P X.2.1 X.2.2.2.2.2.2.2.2.2.2.1 r) (hq : ∀ i pc, pu_lp i = some (59, pc) → pu_S X mdX11_isWhole pc (r i)) : pu_S X mdX11_isWhole 29 (kX11_isWhole_29 r) := by
  unfold kX11_isWhole_29
  exact z_iconst hX dX11_isWhole_29 (by decide) ((tX11_isWhole_30 hX hr hq))
def kX11_isWhole_0 (r : pu_R) : pu_K := s_ild 0 (s_push (.int (16)) (s_iclt (kX11_isWhole_29 r) (s_ild 0 (s_push (.int (16)) (s_idiv (s_push (.int (9999)) (s_icgt (kX11_isWhole_29 r) (s_ild 0 (s_push (.int (16)) (s_irem (s_push (.int (9)) (s_icgt (kX11_isWhole_29 r) (s_push (.int (1)) ((kX11_isWhole_30 r)))))))))))))))
theorem vX11_isWhole_0 : pu_cok2 kX11_isWhole_0 := fun rf r hr => by
  unfold kX11_isWhole_0
  exact v_ild (v_pi (v_iclt (vX11_isWhole_29 rf r hr) (v_ild (v_pi (v_idiv (v_pi (v_icgt (vX11_isWhole_29 rf r hr) (v_ild (v_pi (v_irem (v_pi (v_icgt (vX11_isWhole_29 rf r hr) (v_pi ((vX11_isWhole_30 rf r hr)))))))))))))))
theorem tX11_isWhole_0 {X : pu_X} {r : pu_R} (hX : pu_H X mdX11_isWhole) (hr : pu_P X.2.1 X.2.2.2.2.2.2.2.2.2.2.1 r) (hq : ∀ i pc, pu_lp i = some (59, pc) → pu_S X mdX11_isWhole pc (r i)) : pu_S X mdX11_isWhole 0 (kX11_isWhole_0 r) := by
  unfold kX11_isWhole_0
  exact z_ild_n hX dX11_isWhole_0 rfl (z_bipush hX dX11_isWhole_1 (by decide) (z_iclt hX dX11_isWhole_3 (by decide) (tX11_isWhole_29 hX hr hq) (z_ild_n hX dX11_isWhole_6 rfl (z_bipush hX dX11_isWhole_7 (by decide) (z_idiv hX dX11_isWhole_9 (z_sipush hX dX11_isWhole_10 (by decide) (z_icgt hX dX11_isWhole_13 (by decide) (tX11_isWhole_29 hX hr hq) (z_ild_n hX dX11_isWhole_16 rfl (z_bipush hX dX11_isWhole_17 (by decide) (z_irem hX dX11_isWhole_19 (z_bipush hX dX11_isWhole_20 (by decide) (z_icgt hX dX11_isWhole_22 (by decide) (tX11_isWhole_29 hX hr hq) (z_iconst hX dX11_isWhole_25 (by decide) ((z_goto hX dX11_isWhole_26 (by decide) (tX11_isWhole_30 hX hr hq))))))))))))))))
def kX11_isWholeOrLeast_16 (r : pu_R) : pu_K := s_zret
theorem vX11_isWholeOrLeast_16 : pu_cok2 kX11_isWholeOrLeast_16 := fun rf r hr => by
  unfold kX11_isWholeOrLeast_16
  exact v_zret
theorem tX11_isWholeOrLeast_16 {X : pu_X} {r : pu_R} (hX : pu_H X mdX11_isWholeOrLeast) (hr : pu_P X.2.1 X.2.2.2.2.2.2.2.2.2.2.1 r) (hq : ∀ i pc, pu_lp i = some (60, pc) → pu_S X mdX11_isWholeOrLeast pc (r i)) : pu_S X mdX11_isWholeOrLeast 16 (kX11_isWholeOrLeast_16 r) := by
  unfold kX11_isWholeOrLeast_16
  exact z_zret hX dX11_isWholeOrLeast_16 rfl
def kX11_isWholeOrLeast_15 (r : pu_R) : pu_K := s_push (.int (0)) ((kX11_isWholeOrLeast_16 r))
theorem vX11_isWholeOrLeast_15 : pu_cok2 kX11_isWholeOrLeast_15 := fun rf r hr => by
  unfold kX11_isWholeOrLeast_15
  exact v_pi ((vX11_isWholeOrLeast_16 rf r hr))
theorem tX11_isWholeOrLeast_15 {X : pu_X} {r : pu_R} (hX : pu_H X mdX11_isWholeOrLeast) (hr : pu_P X.2.1 X.2.2.2.2.2.2.2.2.2.2.1 r) (hq : ∀ i pc, pu_lp i = some (60, pc) → pu_S X mdX11_isWholeOrLeast pc (r i)) : pu_S X mdX11_isWholeOrLeast 15 (kX11_isWholeOrLeast_15 r) := by
  unfold kX11_isWholeOrLeast_15
  exact z_iconst hX dX11_isWholeOrLeast_15 (by decide) ((tX11_isWholeOrLeast_16 hX hr hq))
def kX11_isWholeOrLeast_11 (r : pu_R) : pu_K := s_push (.int (1)) ((kX11_isWholeOrLeast_16 r))
theorem vX11_isWholeOrLeast_11 : pu_cok2 kX11_isWholeOrLeast_11 := fun rf r hr => by
  unfold kX11_isWholeOrLeast_11
  exact v_pi ((vX11_isWholeOrLeast_16 rf r hr))
theorem tX11_isWholeOrLeast_11 {X : pu_X} {r : pu_R} (hX : pu_H X mdX11_isWholeOrLeast) (hr : pu_P X.2.1 X.2.2.2.2.2.2.2.2.2.2.1 r) (hq : ∀ i pc, pu_lp i = some (60, pc) → pu_S X mdX11_isWholeOrLeast pc (r i)) : pu_S X mdX11_isWholeOrLeast 11 (kX11_isWholeOrLeast_11 r) := by
  unfold kX11_isWholeOrLeast_11
  exact z_iconst hX dX11_isWholeOrLeast_11 (by decide) ((z_goto hX dX11_isWholeOrLeast_12 (by decide) (tX11_isWholeOrLeast_16 hX hr hq)))
def kX11_isWholeOrLeast_0 (r : pu_R) : pu_K := s_ild 0 (s_ifeq (kX11_isWholeOrLeast_11 r) (s_ild 0 (s_cs r 59 1 (s_ifeq (kX11_isWholeOrLeast_15 r) ((kX11_isWholeOrLeast_11 r))))))
theorem vX11_isWholeOrLeast_0 : pu_cok2 kX11_isWholeOrLeast_0 := fun rf r hr => by
  unfold kX11_isWholeOrLeast_0
  exact v_ild (v_ifeq (vX11_isWholeOrLeast_11 rf r hr) (v_ild (v_cs hr (v_ifeq (vX11_isWholeOrLeast_15 rf r hr) ((vX11_isWholeOrLeast_11 rf r hr))))))
theorem tX11_isWholeOrLeast_0 {X : pu_X} {r : pu_R} (hX : pu_H X mdX11_isWholeOrLeast) (hr : pu_P X.2.1 X.2.2.2.2.2.2.2.2.2.2.1 r) (hq : ∀ i pc, pu_lp i = some (60, pc) → pu_S X mdX11_isWholeOrLeast pc (r i)) : pu_S X mdX11_isWholeOrLeast 0 (kX11_isWholeOrLeast_0 r) := by
  unfold kX11_isWholeOrLeast_0
  exact z_ild_n hX dX11_isWholeOrLeast_0 rfl (z_ifeq hX dX11_isWholeOrLeast_1 (by decide) (tX11_isWholeOrLeast_11 hX hr hq) (z_ild_n hX dX11_isWholeOrLeast_4 rfl (z_cs hX hr dX11_isWholeOrLeast_5 hjX11_isWhole mwX11_isWhole wm22_12 wm22_13 ⟨Nat.le_of_ble_eq_true rfl, Nat.le_of_ble_eq_true rfl⟩ (z_ifeq hX dX11_isWholeOrLeast_8 (by decide) (tX11_isWholeOrLeast_15 hX hr hq) ((tX11_isWholeOrLeast_11 hX hr hq))))))
def kX3_openOf_38 (r : pu_R) : pu_K := s_push (.int (-1)) (s_iret)
theorem vX3_openOf_38 : pu_cok2 kX3_openOf_38 := fun rf r hr => by
  unfold kX3_openOf_38
  exact v_pi (v_iret)
theorem tX3_openOf_38 {X : pu_X} {r : pu_R} (hX : pu_H X mdX3_openOf) (hr : pu_P X.2.1 X.2.2.2.2.2.2.2.2.2.2.1 r) (hq : ∀ i pc, pu_lp i = some (61, pc) → pu_S X mdX3_openOf pc (r i)) : pu_S X mdX3_openOf 38 (kX3_openOf_38 r) := by
  unfold kX3_openOf_38
  exact z_iconst hX dX3_openOf_38 (by decide) (z_iret hX dX3_openOf_39 rfl)
def kX3_openOf_32 (r : pu_R) : pu_K := s_inc 2 (1) ((r 369))
theorem vX3_openOf_32 : pu_cok2 kX3_openOf_32 := fun rf r hr => by
  unfold kX3_openOf_32
  exact v_inc ((hr 369))
theorem tX3_openOf_32 {X : pu_X} {r : pu_R} (hX : pu_H X mdX3_openOf) (hr : pu_P X.2.1 X.2.2.2.2.2.2.2.2.2.2.1 r) (hq : ∀ i pc, pu_lp i = some (61, pc) → pu_S X mdX3_openOf pc (r i)) : pu_S X mdX3_openOf 32 (kX3_openOf_32 r) := by
  unfold kX3_openOf_32
  exact z_inc hX dX3_openOf_32 (by decide) ((z_goto hX dX3_openOf_35 (by decide) (hq 369 2 hl369)))
def kX3_openOf_2 (r : pu_R) : pu_K := s_ild 2 (s_ald 0 (s_gi 3 0 (s_icge (kX3_openOf_38 r) (s_ald 0 (s_gr 3 1 (s_ild 2 (s_ai 1 (s_ild 1 (s_icne (kX3_openOf_32 r) (s_ald 0 (s_gr 3 4 (s_ild 2 (s_ai 1 (s_push (.int (-1)) (s_icne (kX3_openOf_32 r) (s_ild 2 (s_iret)))))))))))))))))
theorem vX3_openOf_2 : pu_cok2 kX3_openOf_2 := fun rf r hr => by
  unfold kX3_openOf_2
  exact v_ild (v_ald (v_gi (v_icge (vX3_openOf_38 rf r hr) (v_ald (v_gr (v_ild (v_ai (v_ild (v_icne (vX3_openOf_32 rf r hr) (v_ald (v_gr (v_ild (v_ai (v_pi (v_icne (vX3_openOf_32 rf r hr) (v_ild (v_iret)))))))))))))))))
theorem tX3_openOf_2 {X : pu_X} {r : pu_R} (hX : pu_H X mdX3_openOf) (hr : pu_P X.2.1 X.2.2.2.2.2.2.2.2.2.2.1 r) (hq : ∀ i pc, pu_lp i = some (61, pc) → pu_S X mdX3_openOf pc (r i)) : pu_S X mdX3_openOf 2 (kX3_openOf_2 r) := by
  unfold kX3_openOf_2
  exact z_ild_n hX dX3_openOf_2 rfl (z_ald_n hX dX3_openOf_3 rfl (z_gi (c := 3) (j := 0) hX dX3_openOf_4 rfl inlX3 wm16_21 ⟨rfl, by decide, rfl⟩ (z_icge hX dX3_openOf_7 (by decide) (tX3_openOf_38 hX hr hq) (z_ald_n hX dX3_openOf_10 rfl (z_gr (c := 3) (j := 1) hX dX3_openOf_11 rfl inlX3 wm4_19 ⟨rfl, by decide, rfl⟩ (z_ild_n hX dX3_openOf_14 rfl (z_iald hX dX3_openOf_15 (z_ild_n hX dX3_openOf_16 rfl (z_icne hX dX3_openOf_17 (by decide) (tX3_openOf_32 hX hr hq) (z_ald_n hX dX3_openOf_20 rfl (z_gr (c := 3) (j := 4) hX dX3_openOf_21 rfl inlX3 wm4_22 ⟨rfl, by decide, rfl⟩ (z_ild_n hX dX3_openOf_24 rfl (z_iald hX dX3_openOf_25 (z_iconst hX dX3_openOf_26 (by decide) (z_icne hX dX3_openOf_27 (by decide) (tX3_openOf_32 hX hr hq) (z_ild_n hX dX3_openOf_30 rfl (z_iret hX dX3_openOf_31 rfl)))))))))))))))))
def kX3_openOf_0 (r : pu_R) : pu_K := s_push (.int (0)) (s_ist 2 ((r 369)))
theorem vX3_openOf_0 : pu_cok2 kX3_openOf_0 := fun rf r hr => by
  unfold kX3_openOf_0
  exact v_pi (v_ist ((hr 369)))
theorem tX3_openOf_0 {X : pu_X} {r : pu_R} (hX : pu_H X mdX3_openOf) (hr : pu_P X.2.1 X.2.2.2.2.2.2.2.2.2.2.1 r) (hq : ∀ i pc, pu_lp i = some (61, pc) → pu_S X mdX3_openOf pc (r i)) : pu_S X mdX3_openOf 0 (kX3_openOf_0 r) := by
  unfold kX3_openOf_0
  exact z_iconst hX dX3_openOf_0 (by decide) (z_ist_n hX dX3_openOf_1 rfl ((hq 369 2 hl369)))
def kX3_townOf_21 (r : pu_R) : pu_K := s_iret
theorem vX3_townOf_21 : pu_cok2 kX3_townOf_21 := fun rf r hr => by
  unfold kX3_townOf_21
  exact v_iret
theorem tX3_townOf_21 {X : pu_X} {r : pu_R} (hX : pu_H X mdX3_townOf) (hr : pu_P X.2.1 X.2.2.2.2.2.2.2.2.2.2.1 r) (hq : ∀ i pc, pu_lp i = some (62, pc) → pu_S X mdX3_townOf pc (r i)) : pu_S X mdX3_townOf 21 (kX3_townOf_21 r) := by
  unfold kX3_townOf_21
  exact z_iret hX dX3_townOf_21 rfl
def kX3_townOf_15 (r : pu_R) : pu_K := s_ald 0 (s_gr 3 2 (s_ild 2 (s_ai 1 ((kX3_townOf_21 r)))))
theorem vX3_townOf_15 : pu_cok2 kX3_townOf_15 := fun rf r hr => by
  unfold kX3_townOf_15
  exact v_ald (v_gr (v_ild (v_ai ((vX3_townOf_21 rf r hr)))))
theorem tX3_townOf_15 {X : pu_X} {r : pu_R} (hX : pu_H X mdX3_townOf) (hr : pu_P X.2.1 X.2.2.2.2.2.2.2.2.2.2.1 r) (hq : ∀ i pc, pu_lp i = some (62, pc) → pu_S X mdX3_townOf pc (r i)) : pu_S X mdX3_townOf 15 (kX3_townOf_15 r) := by
  unfold kX3_townOf_15
  exact z_ald_n hX dX3_townOf_15 rfl (z_gr (c := 3) (j := 2) hX dX3_townOf_16 rfl inlX3 wm4_20 ⟨rfl, by decide, rfl⟩ (z_ild_n hX dX3_townOf_19 rfl (z_iald hX dX3_townOf_20 ((tX3_townOf_21 hX hr hq)))))
def kX3_townOf_0 (r : pu_R) : pu_K := s_ald 0 (s_ild 1 (s_cv r 61 1 3 (s_ist 2 (s_ild 2 (s_push (.int (-1)) (s_icne (kX3_townOf_15 r) (s_push (.int (-1)) ((kX3_townOf_21 r)))))))))
theorem vX3_townOf_0 : pu_cok2 kX3_townOf_0 := fun rf r hr => by
  unfold kX3_townOf_0
  exact v_ald (v_ild (v_cv hr (v_ist (v_ild (v_pi (v_icne (vX3_townOf_15 rf r hr) (v_pi ((vX3_townOf_21 rf r hr)))))))))
theorem tX3_townOf_0 {X : pu_X} {r : pu_R} (hX : pu_H X mdX3_townOf) (hr : pu_P X.2.1 X.2.2.2.2.2.2.2.2.2.2.1 r) (hq : ∀ i pc, pu_lp i = some (62, pc) → pu_S X mdX3_townOf pc (r i)) : pu_S X mdX3_townOf 0 (kX3_townOf_0 r) := by
  unfold kX3_townOf_0
  exact z_ald_n hX dX3_townOf_0 rfl (z_ild_n hX dX3_townOf_1 rfl (z_cv (c := 3) hX hr dX3_townOf_2 hjX3_openOf mwX3_openOf rfl wm22_23 ⟨wm23_0, wm23_1⟩ ⟨Nat.le_of_ble_eq_true rfl, Nat.le_of_ble_eq_true rfl⟩ (z_ist_n hX dX3_townOf_5 rfl (z_ild_n hX dX3_townOf_6 rfl (z_iconst hX dX3_townOf_7 (by decide) (z_icne hX dX3_townOf_8 (by decide) (tX3_townOf_15 hX hr hq) (z_iconst hX dX3_townOf_11 (by decide) ((z_goto hX dX3_townOf_12 (by decide) (tX3_townOf_21 hX hr hq))))))))))
def kX5_earliestOn_0 (r : pu_R) : pu_K := s_ald 0 (s_gr 5 0 (s_ild 1 (s_ald 0 (s_gr 5 2 (s_ild 1 (s_cv r 62 1 3 (s_cv r 45 2 6 (s_iret))))))))
theorem vX5_earliestOn_0 : pu_cok2 kX5_earliestOn_0 := fun rf r hr => by
  unfold kX5_earliestOn_0
  exact v_ald (v_gr (v_ild (v_ald (v_gr (v_ild (v_cv hr (v_cv hr (v_iret))))))))
theorem tX5_earliestOn_0 {X : pu_X} {r : pu_R} (hX : pu_H X mdX5_earliestOn) (hr : pu_P X.2.1 X.2.2.2.2.2.2.2.2.2.2.1 r) (hq : ∀ i pc, pu_lp i = some (63, pc) → pu_S X mdX5_earliestOn pc (r i)) : pu_S X mdX5_earliestOn 0 (kX5_earliestOn_0 r) := by
  unfold kX5_earliestOn_0
  exact z_ald_n hX dX5_earliestOn_0 rfl (z_gr (c := 5) (j := 0) hX dX5_earliestOn_1 rfl inlX5 wm2_21 ⟨rfl, by decide, rfl⟩ (z_ild_n hX dX5_earliestOn_4 rfl (z_ald_n hX dX5_earliestOn_5 rfl (z_gr (c := 5) (j := 2) hX dX5_earliestOn_6 rfl inlX5 wm3_5 ⟨rfl, by decide, rfl⟩ (z_ild_n hX dX5_earliestOn_9 rfl (z_cv (c := 3) hX hr dX5_earliestOn_10 hjX3_townOf mwX3_townOf rfl wm22_19 ⟨wm22_20, wm22_21⟩ ⟨Nat.le_of_ble_eq_true rfl, Nat.le_of_ble_eq_true rfl⟩ (z_cv (c := 6) hX hr dX5_earliestOn_13 hjX6_latestOn mwX6_latestOn rfl wm23_3 ⟨wm18_8, wm18_9⟩ ⟨Nat.le_of_ble_eq_true rfl, Nat.le_of_ble_eq_true rfl⟩ (z_iret hX dX5_earliestOn_16 rfl))))))))
def kX10_ruleOf_18 (r : pu_R) : pu_K := s_iret
theorem vX10_ruleOf_18 : pu_cok2 kX10_ruleOf_18 := fun rf r hr => by
  unfold kX10_ruleOf_18
  exact v_iret
theorem tX10_ruleOf_18 {X : pu_X} {r : pu_R} (hX : pu_H X mdX10_ruleOf) (hr : pu_P X.2.1 X.2.2.2.2.2.2.2.2.2.2.1 r) (hq : ∀ i pc, pu_lp i = some (64, pc) → pu_S X mdX10_ruleOf pc (r i)) : pu_S X mdX10_ruleOf 18 (kX10_ruleOf_18 r) := by
  unfold kX10_ruleOf_18
  exact z_iret hX dX10_ruleOf_18 rfl
def kX10_ruleOf_17 (r : pu_R) : pu_K := s_push (.int (-1)) ((kX10_ruleOf_18 r))
theorem vX10_ruleOf_17 : pu_cok2 kX10_ruleOf_17 := fun rf r hr => by
  unfold kX10_ruleOf_17
  exact v_pi ((vX10_ruleOf_18 rf r hr))
theorem tX10_ruleOf_17 {X : pu_X} {r : pu_R} (hX : pu_H X mdX10_ruleOf) (hr : pu_P X.2.1 X.2.2.2.2.2.2.2.2.2.2.1 r) (hq : ∀ i pc, pu_lp i = some (64, pc) → pu_S X mdX10_ruleOf pc (r i)) : pu_S X mdX10_ruleOf 17 (kX10_ruleOf_17 r) := by
  unfold kX10_ruleOf_17
  exact z_iconst hX dX10_ruleOf_17 (by decide) ((tX10_ruleOf_18 hX hr hq))
def kX10_ruleOf_0 (r : pu_R) : pu_K := s_ald 0 (s_ild 1 (s_cv r 56 1 10 (s_ifeq (kX10_ruleOf_17 r) (s_ald 0 (s_gr 10 3 (s_ild 1 (s_ai 1 ((kX10_ruleOf_18 r)))))))))
theorem vX10_ruleOf_0 : pu_cok2 kX10_ruleOf_0 := fun rf r hr => by
  unfold kX10_ruleOf_0
  exact v_ald (v_ild (v_cv hr (v_ifeq (vX10_ruleOf_17 rf r hr) (v_ald (v_gr (v_ild (v_ai ((vX10_ruleOf_18 rf r hr)))))))))
theorem tX10_ruleOf_0 {X : pu_X} {r : pu_R} (hX : pu_H X mdX10_ruleOf) (hr : pu_P X.2.1 X.2.2.2.2.2.2.2.2.2.2.1 r) (hq : ∀ i pc, pu_lp i = some (64, pc) → pu_S X mdX10_ruleOf pc (r i)) : pu_S X mdX10_ruleOf 0 (kX10_ruleOf_0 r) := by
  unfold kX10_ruleOf_0
  exact z_ald_n hX dX10_ruleOf_0 rfl (z_ild_n hX dX10_ruleOf_1 rfl (z_cv (c := 10) hX hr dX10_ruleOf_2 hjX10_isStreet mwX10_isStreet rfl wm23_12 ⟨wm22_0, wm22_1⟩ ⟨Nat.le_of_ble_eq_true rfl, Nat.le_of_ble_eq_true rfl⟩ (z_ifeq hX dX10_ruleOf_5 (by decide) (tX10_ruleOf_17 hX hr hq) (z_ald_n hX dX10_ruleOf_8 rfl (z_gr (c := 10) (j := 3) hX dX10_ruleOf_9 rfl inlX10 wm5_5 ⟨rfl, by decide, rfl⟩ (z_ild_n hX dX10_ruleOf_12 rfl (z_iald hX dX10_ruleOf_13 ((z_goto hX dX10_ruleOf_14 (by decide) (tX10_ruleOf_18 hX hr hq))))))))))
def kX11_orderOf_10 (r : pu_R) : pu_K := s_iret
theorem vX11_orderOf_10 : pu_cok2 kX11_orderOf_10 := fun rf r hr => by
  unfold kX11_orderOf_10
  exact v_iret
theorem tX11_orderOf_10 {X : pu_X} {r : pu_R} (hX : pu_H X mdX11_orderOf) (hr : pu_P X.2.1 X.2.2.2.2.2.2.2.2.2.2.1 r) (hq : ∀ i pc, pu_lp i = some (65, pc) → pu_S X mdX11_orderOf pc (r i)) : pu_S X mdX11_orderOf 10 (kX11_orderOf_10 r) := by
  unfold kX11_orderOf_10
  exact z_iret hX dX11_orderOf_10 rfl
def kX11_orderOf_9 (r : pu_R) : pu_K := s_push (.int (3)) ((kX11_orderOf_10 r))
theorem vX11_orderOf_9 : pu_cok2 kX11_orderOf_9 := fun rf r hr => by
  unfold kX11_orderOf_9
  exact v_pi ((vX11_orderOf_10 rf r hr))
theorem tX11_orderOf_9 {X : pu_X} {r : pu_R} (hX : pu_H X mdX11_orderOf) (hr : pu_P X.2.1 X.2.2.2.2.2.2.2.2.2.2.1 r) (hq : ∀ i pc, pu_lp i = some (65, pc) → pu_S X mdX11_orderOf pc (r i)) : pu_S X mdX11_orderOf 9 (kX11_orderOf_9 r) := by
  unfold kX11_orderOf_9
  exact z_iconst hX dX11_orderOf_9 (by decide) ((tX11_orderOf_10 hX hr hq))
def kX11_orderOf_0 (r : pu_R) : pu_K := s_ild 0 (s_push (.int (1)) (s_icne (kX11_orderOf_9 r) (s_push (.int (0)) ((kX11_orderOf_10 r)))))
theorem vX11_orderOf_0 : pu_cok2 kX11_orderOf_0 := fun rf r hr => by
  unfold kX11_orderOf_0
  exact v_ild (v_pi (v_icne (vX11_orderOf_9 rf r hr) (v_pi ((vX11_orderOf_10 rf r hr)))))
theorem tX11_orderOf_0 {X : pu_X} {r : pu_R} (hX : pu_H X mdX11_orderOf) (hr : pu_P X.2.1 X.2.2.2.2.2.2.2.2.2.2.1 r) (hq : ∀ i pc, pu_lp i = some (65, pc) → pu_S X mdX11_orderOf pc (r i)) : pu_S X mdX11_orderOf 0 (kX11_orderOf_0 r) := by
  unfold kX11_orderOf_0
  exact z_ild_n hX dX11_orderOf_0 rfl (z_iconst hX dX11_orderOf_1 (by decide) (z_icne hX dX11_orderOf_2 (by decide) (tX11_orderOf_9 hX hr hq) (z_iconst hX dX11_orderOf_5 (by decide) ((z_goto hX dX11_orderOf_6 (by decide) (tX11_orderOf_10 hX hr hq))))))
def kX2_streetOf_24 (r : pu_R) : pu_K := s_iret
theorem vX2_streetOf_24 : pu_cok2 kX2_streetOf_24 := fun rf r hr => by
  unfold kX2_streetOf_24
  exact v_iret
theorem tX2_streetOf_24 {X : pu_X} {r : pu_R} (hX : pu_H X mdX2_streetOf) (hr : pu_P X.2.1 X.2.2.2.2.2.2.2.2.2.2.1 r) (hq : ∀ i pc, pu_lp i = some (66, pc) → pu_S X mdX2_streetOf pc (r i)) : pu_S X mdX2_streetOf 24 (kX2_streetOf_24 r) := by
  unfold kX2_streetOf_24
  exact z_iret hX dX2_streetOf_24 rfl
def kX2_streetOf_23 (r : pu_R) : pu_K := s_push (.int (-1)) ((kX2_streetOf_24 r))
theorem vX2_streetOf_23 : pu_cok2 kX2_streetOf_23 := fun rf r hr => by
  unfold kX2_streetOf_23
  exact v_pi ((vX2_streetOf_24 rf r hr))
theorem tX2_streetOf_23 {X : pu_X} {r : pu_R} (hX : pu_H X mdX2_streetOf) (hr : pu_P X.2.1 X.2.2.2.2.2.2.2.2.2.2.1 r) (hq : ∀ i pc, pu_lp i = some (66, pc) → pu_S X mdX2_streetOf pc (r i)) : pu_S X mdX2_streetOf 23 (kX2_streetOf_23 r) := by
  unfold kX2_streetOf_23
  exact z_iconst hX dX2_streetOf_23 (by decide) ((tX2_streetOf_24 hX hr hq))
def kX2_streetOf_0 (r : pu_R) : pu_K := s_ild 1 (s_iflt (kX2_streetOf_23 r) (s_ild 1 (s_push (.int (2)) (s_ald 0 (s_gi 2 0 (s_imul (s_icge (kX2_streetOf_23 r) (s_ald 0 (s_gr 2 8 (s_ild 1 (s_ai 1 ((kX2_streetOf_24 r)))))))))))))
theorem vX2_streetOf_0 : pu_cok2 kX2_streetOf_0 := fun rf r hr => by
  unfold kX2_streetOf_0
  exact v_ild (v_iflt (vX2_streetOf_23 rf r hr) (v_ild (v_pi (v_ald (v_gi (v_imul (v_icge (vX2_streetOf_23 rf r hr) (v_ald (v_gr (v_ild (v_ai ((vX2_streetOf_24 rf r hr)))))))))))))
theorem tX2_streetOf_0 {X : pu_X} {r : pu_R} (hX : pu_H X mdX2_streetOf) (hr : pu_P X.2.1 X.2.2.2.2.2.2.2.2.2.2.1 r) (hq : ∀ i pc, pu_lp i = some (66, pc) → pu_S X mdX2_streetOf pc (r i)) : pu_S X mdX2_streetOf 0 (kX2_streetOf_0 r) := by
  unfold kX2_streetOf_0
  exact z_ild_n hX dX2_streetOf_0 rfl (z_iflt hX dX2_streetOf_1 (by decide) (tX2_streetOf_23 hX hr hq) (z_ild_n hX dX2_streetOf_4 rfl (z_iconst hX dX2_streetOf_5 (by decide) (z_ald_n hX dX2_streetOf_6 rfl (z_gi (c := 2) (j := 0) hX dX2_streetOf_7 rfl inlX2 wm24_10 ⟨rfl, by decide, rfl⟩ (z_imul hX dX2_streetOf_10 (z_icge hX dX2_streetOf_11 (by decide) (tX2_streetOf_23 hX hr hq) (z_ald_n hX dX2_streetOf_14 rfl (z_gr (c := 2) (j := 8) hX dX2_streetOf_15 rfl inlX2 wm5_19 ⟨rfl, by decide, rfl⟩ (z_ild_n hX dX2_streetOf_18 rfl (z_iald hX dX2_streetOf_19 ((z_goto hX dX2_streetOf_20 (by decide) (tX2_streetOf_24 hX hr hq))))))))))))))
def kX6_isThere_38 (r : pu_R) : pu_K := s_zret
theorem vX6_isThere_38 : pu_cok2 kX6_isThere_38 := fun rf r hr => by
  unfold kX6_isThere_38
  exact v_zret
theorem tX6_isThere_38 {X : pu_X} {r : pu_R} (hX : pu_H X mdX6_isThere) (hr : pu_P X.2.1 X.2.2.2.2.2.2.2.2.2.2.1 r) (hq : ∀ i pc, pu_lp i = some (67, pc) → pu_S X mdX6_isThere pc (r i)) : pu_S X mdX6_isThere 38 (kX6_isThere_38 r) := by
  unfold kX6_isThere_38
  exact z_zret hX dX6_isThere_38 rfl
def kX6_isThere_37 (r : pu_R) : pu_K := s_push (.int (0)) ((kX6_isThere_38 r))
theorem vX6_isThere_37 : pu_cok2 kX6_isThere_37 := fun rf r hr => by
  unfold kX6_isThere_37
  exact v_pi ((vX6_isThere_38 rf r hr))
theorem tX6_isThere_37 {X : pu_X} {r : pu_R} (hX : pu_H X mdX6_isThere) (hr : pu_P X.2.1 X.2.2.2.2.2.2.2.2.2.2.1 r) (hq : ∀ i pc, pu_lp i = some (67, pc) → pu_S X mdX6_isThere pc (r i)) : pu_S X mdX6_isThere 37 (kX6_isThere_37 r) := by
  unfold kX6_isThere_37
  exact z_iconst hX dX6_isThere_37 (by decide) ((tX6_isThere_38 hX hr hq))
def kX6_isThere_33 (r : pu_R) : pu_K := s_push (.int (1)) ((kX6_isThere_38 r))
theorem vX6_isThere_33 : pu_cok2 kX6_isThere_33 := fun rf r hr => by
  unfold kX6_isThere_33
  exact v_pi ((vX6_isThere_38 rf r hr))
theorem tX6_isThere_33 {X : pu_X} {r : pu_R} (hX : pu_H X mdX6_isThere) (hr : pu_P X.2.1 X.2.2.2.2.2.2.2.2.2.2.1 r) (hq : ∀ i pc, pu_lp i = some (67, pc) → pu_S X mdX6_isThere pc (r i)) : pu_S X mdX6_isThere 33 (kX6_isThere_33 r) := by
  unfold kX6_isThere_33
  exact z_iconst hX dX6_isThere_33 (by decide) ((z_goto hX dX6_isThere_34 (by decide) (tX6_isThere_38 hX hr hq)))
def kX6_isThere_0 (r : pu_R) : pu_K := s_ild 1 (s_iflt (kX6_isThere_37 r) (s_ild 1 (s_ald 0 (s_gi 6 2 (s_icge (kX6_isThere_37 r) (s_ald 0 (s_gi 6 1 (s_push (.int (-1)) (s_iceq (kX6_isThere_33 r) (s_ald 0 (s_gr 6 4 (s_ild 1 (s_ai 1 (s_ald 0 (s_gi 6 1 (s_icgt (kX6_isThere_37 r) ((kX6_isThere_33 r))))))))))))))))))
theorem vX6_isThere_0 : pu_cok2 kX6_isThere_0 := fun rf r hr => by
  unfold kX6_isThere_0
  exact v_ild (v_iflt (vX6_isThere_37 rf r hr) (v_ild (v_ald (v_gi (v_icge (vX6_isThere_37 rf r hr) (v_ald (v_gi (v_pi (v_iceq (vX6_isThere_33 rf r hr) (v_ald (v_gr (v_ild (v_ai (v_ald (v_gi (v_icgt (vX6_isThere_37 rf r hr) ((vX6_isThere_33 rf r hr))))))))))))))))))
theorem tX6_isThere_0 {X : pu_X} {r : pu_R} (hX : pu_H X mdX6_isThere) (hr : pu_P X.2.1 X.2.2.2.2.2.2.2.2.2.2.1 r) (hq : ∀ i pc, pu_lp i = some (67, pc) → pu_S X mdX6_isThere pc (r i)) : pu_S X mdX6_isThere 0 (kX6_isThere_0 r) := by
  unfold kX6_isThere_0
  exact z_ild_n hX dX6_isThere_0 rfl (z_iflt hX dX6_isThere_1 (by decide) (tX6_isThere_37 hX hr hq) (z_ild_n hX dX6_isThere_4 rfl (z_ald_n hX dX6_isThere_5 rfl (z_gi (c := 6) (j := 2) hX dX6_isThere_6 rfl inlX6 wm18_3 ⟨rfl, by decide, rfl⟩ (z_icge hX dX6_isThere_9 (by decide) (tX6_isThere_37 hX hr hq) (z_ald_n hX dX6_isThere_12 rfl (z_gi (c := 6) (j := 1) hX dX6_isThere_13 rfl inlX6 wm4_1 ⟨rfl, by decide, rfl⟩ (z_iconst hX dX6_isThere_16 (by decide) (z_iceq hX dX6_isThere_17 (by decide) (tX6_isThere_33 hX hr hq) (z_ald_n hX dX6_isThere_20 rfl (z_gr (c := 6) (j := 4) hX dX6_isThere_21 rfl inlX6 wm4_3 ⟨rfl, by decide, rfl⟩ (z_ild_n hX dX6_isThere_24 rfl (z_iald hX dX6_isThere_25 (z_ald_n hX dX6_isThere_26 rfl (z_gi (c := 6) (j := 1) hX dX6_isThere_27 rfl inlX6 wm4_1 ⟨rfl, by decide, rfl⟩ (z_icgt hX dX6_isThere_30 (by decide) (tX6_isThere_37 hX hr hq) ((tX6_isThere_33 hX hr hq))))))))))))))))))
def kX6_holds_41 (r : pu_R) : pu_K := s_zret
theorem vX6_holds_41 : pu_cok2 kX6_holds_41 := fun rf r hr => by
  unfold kX6_holds_41
  exact v_zret
theorem tX6_holds_41 {X : pu_X} {r : pu_R} (hX : pu_H X mdX6_holds) (hr : pu_P X.2.1 X.2.2.2.2.2.2.2.2.2.2.1 r) (hq : ∀ i pc, pu_lp i = some (68, pc) → pu_S X mdX6_holds pc (r i)) : pu_S X mdX6_holds 41 (kX6_holds_41 r) := by
  unfold kX6_holds_41
  exact z_zret hX dX6_holds_41 rfl
def kX6_holds_40 (r : pu_R) : pu_K := s_push (.int (0)) ((kX6_holds_41 r))
theorem vX6_holds_40 : pu_cok2 kX6_holds_40 := fun rf r hr => by
  unfold kX6_holds_40
  exact v_pi ((vX6_holds_41 rf r hr))
theorem tX6_holds_40 {X : pu_X} {r : pu_R} (hX : pu_H X mdX6_holds) (hr : pu_P X.2.1 X.2.2.2.2.2.2.2.2.2.2.1 r) (hq : ∀ i pc, pu_lp i = some (68, pc) → pu_S X mdX6_holds pc (r i)) : pu_S X mdX6_holds 40 (kX6_holds_40 r) := by
  unfold kX6_holds_40
  exact z_iconst hX dX6_holds_40 (by decide) ((tX6_holds_41 hX hr hq))
def kX6_holds_36 (r : pu_R) : pu_K := s_push (.int (1)) ((kX6_holds_41 r))
theorem vX6_holds_36 : pu_cok2 kX6_holds_36 := fun rf r hr => by
  unfold kX6_holds_36
  exact v_pi ((vX6_holds_41 rf r hr))
theorem tX6_holds_36 {X : pu_X} {r : pu_R} (hX : pu_H X mdX6_holds) (hr : pu_P X.2.1 X.2.2.2.2.2.2.2.2.2.2.1 r) (hq : ∀ i pc, pu_lp i = some (68, pc) → pu_S X mdX6_holds pc (r i)) : pu_S X mdX6_holds 36 (kX6_holds_36 r) := by
  unfold kX6_holds_36
  exact z_iconst hX dX6_holds_36 (by decide) ((z_goto hX dX6_holds_37 (by decide) (tX6_holds_41 hX hr hq)))
def kX6_holds_0 (r : pu_R) : pu_K := s_ald 0 (s_ild 1 (s_cv r 67 1 6 (s_ifeq (kX6_holds_40 r) (s_ald 0 (s_gr 6 3 (s_ild 1 (s_ai 1 (s_ild 3 (s_icgt (kX6_holds_40 r) (s_ald 0 (s_ild 2 (s_cv r 67 1 6 (s_ifeq (kX6_holds_36 r) (s_ild 3 (s_ald 0 (s_gr 6 3 (s_ild 2 (s_ai 1 (s_icge (kX6_holds_40 r) ((kX6_holds_36 r)))))))))))))))))))))
theorem vX6_holds_0 : pu_cok2 kX6_holds_0 := fun rf r hr => by
  unfold kX6_holds_0
  exact v_ald (v_ild (v_cv hr (v_ifeq (vX6_holds_40 rf r hr) (v_ald (v_gr (v_ild (v_ai (v_ild (v_icgt (vX6_holds_40 rf r hr) (v_ald (v_ild (v_cv hr (v_ifeq (vX6_holds_36 rf r hr) (v_ild (v_ald (v_gr (v_ild (v_ai (v_icge (vX6_holds_40 rf r hr) ((vX6_holds_36 rf r hr)))))))))))))))))))))
theorem tX6_holds_0 {X : pu_X} {r : pu_R} (hX : pu_H X mdX6_holds) (hr : pu_P X.2.1 X.2.2.2.2.2.2.2.2.2.2.1 r) (hq : ∀ i pc, pu_lp i = some (68, pc) → pu_S X mdX6_holds pc (r i)) : pu_S X mdX6_holds 0 (kX6_holds_0 r) := by
  unfold kX6_holds_0
  exact z_ald_n hX dX6_holds_0 rfl (z_ild_n hX dX6_holds_1 rfl (z_cv (c := 6) hX hr dX6_holds_2 hjX6_isThere mwX6_isThere rfl wm24_21 ⟨wm24_22, wm24_23⟩ ⟨Nat.le_of_ble_eq_true rfl, Nat.le_of_ble_eq_true rfl⟩ (z_ifeq hX dX6_holds_5 (by decide) (tX6_holds_40 hX hr hq) (z_ald_n hX dX6_holds_8 rfl (z_gr (c := 6) (j := 3) hX dX6_holds_9 rfl inlX6 wm4_2 ⟨rfl, by decide, rfl⟩ (z_ild_n hX dX6_holds_12 rfl (z_iald hX dX6_holds_13 (z_ild_n hX dX6_holds_14 rfl (z_icgt hX dX6_holds_15 (by decide) (tX6_holds_40 hX hr hq) (z_ald_n hX dX6_holds_18 rfl (z_ild_n hX dX6_holds_19 rfl (z_cv (c := 6) hX hr dX6_holds_20 hjX6_isThere mwX6_isThere rfl wm24_21 ⟨wm24_22, wm24_23⟩ ⟨Nat.le_of_ble_eq_true rfl, Nat.le_of_ble_eq_true rfl⟩ (z_ifeq hX dX6_holds_23 (by decide) (tX6_holds_36 hX hr hq) (z_ild_n hX dX6_holds_26 rfl (z_ald_n hX dX6_holds_27 rfl (z_gr (c := 6) (j := 3) hX dX6_holds_28 rfl inlX6 wm4_2 ⟨rfl, by decide, rfl⟩ (z_ild_n hX dX6_holds_31 rfl (z_iald hX dX6_holds_32 (z_icge hX dX6_holds_33 (by decide) (tX6_holds_40 hX hr hq) ((tX6_holds_36 hX hr hq)))))))))))))))))))))
def kX9_isThen_46 (r : pu_R) : pu_K := s_zret
theorem vX9_isThen_46 : pu_cok2 kX9_isThen_46 := fun rf r hr => by
  unfold kX9_isThen_46
  exact v_zret
theorem tX9_isThen_46 {X : pu_X} {r : pu_R} (hX : pu_H X mdX9_isThen) (hr : pu_P X.2.1 X.2.2.2.2.2.2.2.2.2.2.1 r) (hq : ∀ i pc, pu_lp i = some (69, pc) → pu_S X mdX9_isThen pc (r i)) : pu_S X mdX9_isThen 46 (kX9_isThen_46 r) := by
  unfold kX9_isThen_46
  exact z_zret hX dX9_isThen_46 rfl
def kX9_isThen_28 (r : pu_R) : pu_K := s_ald 0 (s_gr 5 0 (s_ald 0 (s_gr 5 1 (s_gr 4 3 (s_ild 1 (s_ai 1 (s_ild 3 (s_ild 2 (s_cv r 68 3 6 ((kX9_isThen_46 r)))))))))))
theorem vX9_isThen_28 : pu_cok2 kX9_isThen_28 := fun rf r hr => by
  unfold kX9_isThen_28
  exact v_ald (v_gr (v_ald (v_gr (v_gr (v_ild (v_ai (v_ild (v_ild (v_cv hr ((vX9_isThen_46 rf r hr)))))))))))
theorem tX9_isThen_28 {X : pu_X} {r : pu_R} (hX : pu_H X mdX9_isThen) (hr : pu_P X.2.1 X.2.2.2.2.2.2.2.2.2.2.1 r) (hq : ∀ i pc, pu_lp i = some (69, pc) → pu_S X mdX9_isThen pc (r i)) : pu_S X mdX9_isThen 28 (kX9_isThen_28 r) := by
  unfold kX9_isThen_28
  exact z_ald_n hX dX9_isThen_28 rfl (z_gr (c := 5) (j := 0) hX dX9_isThen_29 rfl inlX5 wm24_15 ⟨rfl, by decide, rfl⟩ (z_ald_n hX dX9_isThen_32 rfl (z_gr (c := 5) (j := 1) hX dX9_isThen_33 rfl inlX5 wm24_0 ⟨rfl, by decide, rfl⟩ (z_gr (c := 4) (j := 3) hX dX9_isThen_36 rfl inlX4 wm24_16 ⟨rfl, by decide, rfl⟩ (z_ild_n hX dX9_isThen_39 rfl (z_iald hX dX9_isThen_40 (z_ild_n hX dX9_isThen_41 rfl (z_ild_n hX dX9_isThen_42 rfl (z_cv (c := 6) hX hr dX9_isThen_43 hjX6_holds mwX6_holds rfl wm24_17 ⟨wm24_18, wm24_19⟩ ⟨Nat.le_of_ble_eq_true rfl, Nat.le_of_ble_eq_true rfl⟩ ((tX9_isThen_46 hX hr hq)))))))))))
def kX9_isThen_24 (r : pu_R) : pu_K := s_push (.int (0)) ((kX9_isThen_46 r))
theorem vX9_isThen_24 : pu_cok2 kX9_isThen_24 := fun rf r hr => by
  unfold kX9_isThen_24
  exact v_pi ((vX9_isThen_46 rf r hr))
theorem tX9_isThen_24 {X : pu_X} {r : pu_R} (hX : pu_H X mdX9_isThen) (hr : pu_P X.2.1 X.2.2.2.2.2.2.2.2.2.2.1 r) (hq : ∀ i pc, pu_lp i = some (69, pc) → pu_S X mdX9_isThen pc (r i)) : pu_S X mdX9_isThen 24 (kX9_isThen_24 r) := by
  unfold kX9_isThen_24
  exact z_iconst hX dX9_isThen_24 (by decide) ((z_goto hX dX9_isThen_25 (by decide) (tX9_isThen_46 hX hr hq)))
def kX9_isThen_0 (r : pu_R) : pu_K := s_ald 0 (s_gr 5 1 (s_gr 4 4 (s_ild 1 (s_ai 1 (s_ist 3 (s_ild 2 (s_push (.int (-1)) (s_icne (kX9_isThen_28 r) (s_ild 3 (s_push (.int (-1)) (s_icne (kX9_isThen_24 r) (s_push (.int (1)) ((kX9_isThen_46 r))))))))))))))
theorem vX9_isThen_0 : pu_cok2 kX9_isThen_0 := fun rf r hr => by
  unfold kX9_isThen_0
  exact v_ald (v_gr (v_gr (v_ild (v_ai (v_ist (v_ild (v_pi (v_icne (vX9_isThen_28 rf r hr) (v_ild (v_pi (v_icne (vX9_isThen_24 rf r hr) (v_pi ((vX9_isThen_46 rf r hr))))))))))))))
theorem tX9_isThen_0 {X : pu_X} {r : pu_R} (hX : pu_H X mdX9_isThen) (hr : pu_P X.2.1 X.2.2.2.2.2.2.2.2.2.2.1 r) (hq : ∀ i pc, pu_lp i = some (69, pc) → pu_S X mdX9_isThen pc (r i)) : pu_S X mdX9_isThen 0 (kX9_isThen_0 r) := by
  unfold kX9_isThen_0
  exact z_ald_n hX dX9_isThen_0 rfl (z_gr (c := 5) (j := 1) hX dX9_isThen_1 rfl inlX5 wm24_0 ⟨rfl, by decide, rfl⟩ (z_gr (c := 4) (j := 4) hX dX9_isThen_4 rfl inlX4 wm24_14 ⟨rfl, by decide, rfl⟩ (z_ild_n hX dX9_isThen_7 rfl (z_iald hX dX9_isThen_8 (z_ist_n hX dX9_isThen_9 rfl (z_ild_n hX dX9_isThen_10 rfl (z_iconst hX dX9_isThen_11 (by decide) (z_icne hX dX9_isThen_12 (by decide) (tX9_isThen_28 hX hr hq) (z_ild_n hX dX9_isThen_15 rfl (z_iconst hX dX9_isThen_16 (by decide) (z_icne hX dX9_isThen_17 (by decide) (tX9_isThen_24 hX hr hq) (z_iconst hX dX9_isThen_20 (by decide) ((z_goto hX dX9_isThen_21 (by decide) (tX9_isThen_46 hX hr hq)))))))))))))))
def kX9_rankOf_59 (r : pu_R) : pu_K := s_ild 1 (s_push (.int (20000)) (s_imul (s_ild 2 (s_iadd (s_iret)))))
theorem vX9_rankOf_59 : pu_cok2 kX9_rankOf_59 := fun rf r hr => by
  unfold kX9_rankOf_59
  exact v_ild (v_pi (v_imul (v_ild (v_iadd (v_iret)))))
theorem tX9_rankOf_59 {X : pu_X} {r : pu_R} (hX : pu_H X mdX9_rankOf) (hr : pu_P X.2.1 X.2.2.2.2.2.2.2.2.2.2.1 r) (hq : ∀ i pc, pu_lp i = some (70, pc) → pu_S X mdX9_rankOf pc (r i)) : pu_S X mdX9_rankOf 59 (kX9_rankOf_59 r) := by
  unfold kX9_rankOf_59
  exact z_ild_n hX dX9_rankOf_59 rfl (z_sipush hX dX9_rankOf_60 (by decide) (z_imul hX dX9_rankOf_63 (z_ild_n hX dX9_rankOf_64 rfl (z_iadd hX dX9_rankOf_65 (z_iret hX dX9_rankOf_66 rfl)))))
def kX9_rankOf_52 (r : pu_R) : pu_K := s_push (.int (-2)) (s_ild 2 (s_imul (s_ild 1 (s_isub (s_iret)))))
theorem vX9_rankOf_52 : pu_cok2 kX9_rankOf_52 := fun rf r hr => by
  unfold kX9_rankOf_52
  exact v_pi (v_ild (v_imul (v_ild (v_isub (v_iret)))))
theorem tX9_rankOf_52 {X : pu_X} {r : pu_R} (hX : pu_H X mdX9_rankOf) (hr : pu_P X.2.1 X.2.2.2.2.2.2.2.2.2.2.1 r) (hq : ∀ i pc, pu_lp i = some (70, pc) → pu_S X mdX9_rankOf pc (r i)) : pu_S X mdX9_rankOf 52 (kX9_rankOf_52 r) := by
  unfold kX9_rankOf_52
  exact z_bipush hX dX9_rankOf_52 (by decide) (z_ild_n hX dX9_rankOf_54 rfl (z_imul hX dX9_rankOf_55 (z_ild_n hX dX9_rankOf_56 rfl (z_isub hX dX9_rankOf_57 (z_iret hX dX9_rankOf_58 rfl)))))
def kX9_rankOf_46 (r : pu_R) : pu_K := s_push (.int (2)) (s_ild 2 (s_imul (s_ild 1 (s_iadd (s_iret)))))
theorem vX9_rankOf_46 : pu_cok2 kX9_rankOf_46 := fun rf r hr => by
  unfold kX9_rankOf_46
  exact v_pi (v_ild (v_imul (v_ild (v_iadd (v_iret)))))
theorem tX9_rankOf_46 {X : pu_X} {r : pu_R} (hX : pu_H X mdX9_rankOf) (hr : pu_P X.2.1 X.2.2.2.2.2.2.2.2.2.2.1 r) (hq : ∀ i pc, pu_lp i = some (70, pc) → pu_S X mdX9_rankOf pc (r i)) : pu_S X mdX9_rankOf 46 (kX9_rankOf_46 r) := by
  unfold kX9_rankOf_46
  exact z_iconst hX dX9_rankOf_46 (by decide) (z_ild_n hX dX9_rankOf_47 rfl (z_imul hX dX9_rankOf_48 (z_ild_n hX dX9_rankOf_49 rfl (z_iadd hX dX9_rankOf_50 (z_iret hX dX9_rankOf_51 rfl)))))
def kX9_rankOf_45 (r : pu_R) : pu_K := s_iret
theorem vX9_rankOf_45 : pu_cok2 kX9_rankOf_45 := fun rf r hr => by
  unfold kX9_rankOf_45
  exact v_iret
theorem tX9_rankOf_45 {X : pu_X} {r : pu_R} (hX : pu_H X mdX9_rankOf) (hr : pu_P X.2.1 X.2.2.2.2.2.2.2.2.2.2.1 r) (hq : ∀ i pc, pu_lp i = some (70, pc) → pu_S X mdX9_rankOf pc (r i)) : pu_S X mdX9_rankOf 45 (kX9_rankOf_45 r) := by
  unfold kX9_rankOf_45
  exact z_iret hX dX9_rankOf_45 rfl
def kX9_rankOf_40 (r : pu_R) : pu_K := s_push (.int (20000)) (s_ild 2 (s_isub ((kX9_rankOf_45 r))))
theorem vX9_rankOf_40 : pu_cok2 kX9_rankOf_40 := fun rf r hr => by
  unfold kX9_rankOf_40
  exact v_pi (v_ild (v_isub ((vX9_rankOf_45 rf r hr))))
theorem tX9_rankOf_40 {X : pu_X} {r : pu_R} (hX : pu_H X mdX9_rankOf) (hr : pu_P X.2.1 X.2.2.2.2.2.2.2.2.2.2.1 r) (hq : ∀ i pc, pu_lp i = some (70, pc) → pu_S X mdX9_rankOf pc (r i)) : pu_S X mdX9_rankOf 40 (kX9_rankOf_40 r) := by
  unfold kX9_rankOf_40
  exact z_sipush hX dX9_rankOf_40 (by decide) (z_ild_n hX dX9_rankOf_43 rfl (z_isub hX dX9_rankOf_44 ((tX9_rankOf_45 hX hr hq))))
def kX9_rankOf_32 (r : pu_R) : pu_K := s_ild 1 (s_ifne (kX9_rankOf_40 r) (s_ild 2 ((kX9_rankOf_45 r))))
theorem vX9_rankOf_32 : pu_cok2 kX9_rankOf_32 := fun rf r hr => by
  unfold kX9_rankOf_32
  exact v_ild (v_ifne (vX9_rankOf_40 rf r hr) (v_ild ((vX9_rankOf_45 rf r hr))))
theorem tX9_rankOf_32 {X : pu_X} {r : pu_R} (hX : pu_H X mdX9_rankOf) (hr : pu_P X.2.1 X.2.2.2.2.2.2.2.2.2.2.1 r) (hq : ∀ i pc, pu_lp i = some (70, pc) → pu_S X mdX9_rankOf pc (r i)) : pu_S X mdX9_rankOf 32 (kX9_rankOf_32 r) := by
  unfold kX9_rankOf_32
  exact z_ild_n hX dX9_rankOf_32 rfl (z_ifne hX dX9_rankOf_33 (by decide) (tX9_rankOf_40 hX hr hq) (z_ild_n hX dX9_rankOf_36 rfl ((z_goto hX dX9_rankOf_37 (by decide) (tX9_rankOf_45 hX hr hq)))))
def kX9_rankOf_0 (r : pu_R) : pu_K := s_ald 0 (s_gi 9 2 (s_sw (0) [(kX9_rankOf_32 r), (kX9_rankOf_46 r), (kX9_rankOf_52 r)] (kX9_rankOf_59 r)))
theorem vX9_rankOf_0 : pu_cok2 kX9_rankOf_0 := fun rf r hr => by
  unfold kX9_rankOf_0
  exact v_ald (v_gi (v_sw (kfs := fun f => [(kX9_rankOf_32 (rf f)), (kX9_rankOf_46 (rf f)), (kX9_rankOf_52 (rf f))]) (fun i k hk => match i, hk with
    | 0, hk => by cases hk; exact ⟨_, fun _ => rfl, (vX9_rankOf_32 rf r hr)⟩
    | 1, hk => by cases hk; exact ⟨_, fun _ => rfl, (vX9_rankOf_46 rf r hr)⟩
    | 2, hk => by cases hk; exact ⟨_, fun _ => rfl, (vX9_rankOf_52 rf r hr)⟩
    | q + 3, hk => by cases hk) (fun _ => rfl) (vX9_rankOf_59 rf r hr)))
theorem tX9_rankOf_0 {X : pu_X} {r : pu_R} (hX : pu_H X mdX9_rankOf) (hr : pu_P X.2.1 X.2.2.2.2.2.2.2.2.2.2.1 r) (hq : ∀ i pc, pu_lp i = some (70, pc) → pu_S X mdX9_rankOf pc (r i)) : pu_S X mdX9_rankOf 0 (kX9_rankOf_0 r) := by
  unfold kX9_rankOf_0
  exact z_ald_n hX dX9_rankOf_0 rfl (z_gi (c := 9) (j := 2) hX dX9_rankOf_1 rfl inlX9 wm23_23 ⟨rfl, by decide, rfl⟩ (z_sw hX dX9_rankOf_4 (by rfl) (by decide) (tX9_rankOf_59 hX hr hq) (fun i k hk => match i, hk with
    | 0, hk => by cases hk; exact ⟨28, 32, rfl, by decide, (tX9_rankOf_32 hX hr hq)⟩
    | 1, hk => by cases hk; exact ⟨42, 46, rfl, by decide, (tX9_rankOf_46 hX hr hq)⟩
    | 2, hk => by cases hk; exact ⟨48, 52, rfl, by decide, (tX9_rankOf_52 hX hr hq)⟩
    | q + 3, hk => by cases hk)))
def kX9_moveUp_68 (r : pu_R) : pu_K := s_ai 1 (s_wi 1 (s_ald 0 (s_gr 9 8 (s_ild 1 (s_ald 0 (s_gr 9 8 (s_ild 1 (s_push (.int (1)) (s_isub (s_ai 1 (s_wi 1 (s_vret))))))))))))
theorem vX9_moveUp_68 : pu_cok2 kX9_moveUp_68 := fun rf r hr => by
  unfold kX9_moveUp_68
  exact v_ai (v_wi (v_ald (v_gr (v_ild (v_ald (v_gr (v_ild (v_pi (v_isub (v_ai (v_wi (v_vret))))))))))))
theorem tX9_moveUp_68 {X : pu_X} {r : pu_R} (hX : pu_H X mdX9_moveUp) (hr : pu_P X.2.1 X.2.2.2.2.2.2.2.2.2.2.1 r) (hq : ∀ i pc, pu_lp i = some (71, pc) → pu_S X mdX9_moveUp pc (r i)) : pu_S X mdX9_moveUp 68 (kX9_moveUp_68 r) := by
  unfold kX9_moveUp_68
  exact z_iald hX dX9_moveUp_68 (z_iast hX dX9_moveUp_69 (z_ald_n hX dX9_moveUp_70 rfl (z_gr (c := 9) (j := 8) hX dX9_moveUp_71 rfl inlX9 wm7_10 ⟨rfl, by decide, rfl⟩ (z_ild_n hX dX9_moveUp_74 rfl (z_ald_n hX dX9_moveUp_75 rfl (z_gr (c := 9) (j := 8) hX dX9_moveUp_76 rfl inlX9 wm7_10 ⟨rfl, by decide, rfl⟩ (z_ild_n hX dX9_moveUp_79 rfl (z_iconst hX dX9_moveUp_80 (by decide) (z_isub hX dX9_moveUp_81 (z_iald hX dX9_moveUp_82 (z_iast hX dX9_moveUp_83 (z_vret hX dX9_moveUp_84 rfl))))))))))))
def kX9_moveUp_34 (r : pu_R) : pu_K := s_gr 9 5 (s_ild 1 (s_push (.int (1)) (s_isub (s_ai 1 (s_wi 1 (s_ald 0 (s_gr 9 6 (s_ild 1 (s_ald 0 (s_gr 9 6 (s_ild 1 (s_push (.int (1)) (s_isub (s_ai 1 (s_wi 1 (s_ald 0 (s_gr 9 7 (s_ild 1 (s_ald 0 (s_gr 9 7 (s_ild 1 (s_push (.int (1)) (s_isub ((kX9_moveUp_68 r)))))))))))))))))))))))))
theorem vX9_moveUp_34 : pu_cok2 kX9_moveUp_34 := fun rf r hr => by
  unfold kX9_moveUp_34
  exact v_gr (v_ild (v_pi (v_isub (v_ai (v_wi (v_ald (v_gr (v_ild (v_ald (v_gr (v_ild (v_pi (v_isub (v_ai (v_wi (v_ald (v_gr (v_ild (v_ald (v_gr (v_ild (v_pi (v_isub ((vX9_moveUp_68 rf r hr)))))))))))))))))))))))))
theorem tX9_moveUp_34 {X : pu_X} {r : pu_R} (hX : pu_H X mdX9_moveUp) (hr : pu_P X.2.1 X.2.2.2.2.2.2.2.2.2.2.1 r) (hq : ∀ i pc, pu_lp i = some (71, pc) → pu_S X mdX9_moveUp pc (r i)) : pu_S X mdX9_moveUp 34 (kX9_moveUp_34 r) := by
  unfold kX9_moveUp_34
  exact z_gr (c := 9) (j := 5) hX dX9_moveUp_34 rfl inlX9 wm7_7 ⟨rfl, by decide, rfl⟩ (z_ild_n hX dX9_moveUp_37 rfl (z_iconst hX dX9_moveUp_38 (by decide) (z_isub hX dX9_moveUp_39 (z_iald hX dX9_moveUp_40 (z_iast hX dX9_moveUp_41 (z_ald_n hX dX9_moveUp_42 rfl (z_gr (c := 9) (j := 6) hX dX9_moveUp_43 rfl inlX9 wm7_8 ⟨rfl, by decide, rfl⟩ (z_ild_n hX dX9_moveUp_46 rfl (z_ald_n hX dX9_moveUp_47 rfl (z_gr (c := 9) (j := 6) hX dX9_moveUp_48 rfl inlX9 wm7_8 ⟨rfl, by decide, rfl⟩ (z_ild_n hX dX9_moveUp_51 rfl (z_iconst hX dX9_moveUp_52 (by decide) (z_isub hX dX9_moveUp_53 (z_iald hX dX9_moveUp_54 (z_iast hX dX9_moveUp_55 (z_ald_n hX dX9_moveUp_56 rfl (z_gr (c := 9) (j := 7) hX dX9_moveUp_57 rfl inlX9 wm7_9 ⟨rfl, by decide, rfl⟩ (z_ild_n hX dX9_moveUp_60 rfl (z_ald_n hX dX9_moveUp_61 rfl (z_gr (c := 9) (j := 7) hX dX9_moveUp_62 rfl inlX9 wm7_9 ⟨rfl, by decide, rfl⟩ (z_ild_n hX dX9_moveUp_65 rfl (z_iconst hX dX9_moveUp_66 (by decide) (z_isub hX dX9_moveUp_67 ((tX9_moveUp_68 hX hr hq)))))))))))))))))))))))))
def kX9_moveUp_0 (r : pu_R) : pu_K := s_ald 0 (s_gr 9 3 (s_ild 1 (s_ald 0 (s_gr 9 3 (s_ild 1 (s_push (.int (1)) (s_isub (s_ai 1 (s_wi 1 (s_ald 0 (s_gr 9 4 (s_ild 1 (s_ald 0 (s_gr 9 4 (s_ild 1 (s_push (.int (1)) (s_isub (s_ai 1 (s_wi 1 (s_ald 0 (s_gr 9 5 (s_ild 1 (s_ald 0 ((kX9_moveUp_34 r)))))))))))))))))))))))))
theorem vX9_moveUp_0 : pu_cok2 kX9_moveUp_0 := fun rf r hr => by
  unfold kX9_moveUp_0
  exact v_ald (v_gr (v_ild (v_ald (v_gr (v_ild (v_pi (v_isub (v_ai (v_wi (v_ald (v_gr (v_ild (v_ald (v_gr (v_ild (v_pi (v_isub (v_ai (v_wi (v_ald (v_gr (v_ild (v_ald ((vX9_moveUp_34 rf r hr)))))))))))))))))))))))))
theorem tX9_moveUp_0 {X : pu_X} {r : pu_R} (hX : pu_H X mdX9_moveUp) (hr : pu_P X.2.1 X.2.2.2.2.2.2.2.2.2.2.1 r) (hq : ∀ i pc, pu_lp i = some (71, pc) → pu_S X mdX9_moveUp pc (r i)) : pu_S X mdX9_moveUp 0 (kX9_moveUp_0 r) := by
  unfold kX9_moveUp_0
  exact z_ald_n hX dX9_moveUp_0 rfl (z_gr (c := 9) (j := 3) hX dX9_moveUp_1 rfl inlX9 wm7_5 ⟨rfl, by decide, rfl⟩ (z_ild_n hX dX9_moveUp_4 rfl (z_ald_n hX dX9_moveUp_5 rfl (z_gr (c := 9) (j := 3) hX dX9_moveUp_6 rfl inlX9 wm7_5 ⟨rfl, by decide, rfl⟩ (z_ild_n hX dX9_moveUp_9 rfl (z_iconst hX dX9_moveUp_10 (by decide) (z_isub hX dX9_moveUp_11 (z_iald hX dX9_moveUp_12 (z_iast hX dX9_moveUp_13 (z_ald_n hX dX9_moveUp_14 rfl (z_gr (c := 9) (j := 4) hX dX9_moveUp_15 rfl inlX9 wm7_6 ⟨rfl, by decide, rfl⟩ (z_ild_n hX dX9_moveUp_18 rfl (z_ald_n hX dX9_moveUp_19 rfl (z_gr (c := 9) (j := 4) hX dX9_moveUp_20 rfl inlX9 wm7_6 ⟨rfl, by decide, rfl⟩ (z_ild_n hX dX9_moveUp_23 rfl (z_iconst hX dX9_moveUp_24 (by decide) (z_isub hX dX9_moveUp_25 (z_iald hX dX9_moveUp_26 (z_iast hX dX9_moveUp_27 (z_ald_n hX dX9_moveUp_28 rfl (z_gr (c := 9) (j := 5) hX dX9_moveUp_29 rfl inlX9 wm7_7 ⟨rfl, by decide, rfl⟩ (z_ild_n hX dX9_moveUp_32 rfl (z_ald_n hX dX9_moveUp_33 rfl ((tX9_moveUp_34 hX hr hq)))))))))))))))))))))))))
