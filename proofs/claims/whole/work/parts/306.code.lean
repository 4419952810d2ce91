def kX7_readDigits_66 (r : pu_R) : pu_K := s_ild 2 (s_iret)
theorem vX7_readDigits_66 : pu_cok2 kX7_readDigits_66 := fun rf r hr => by
  unfold kX7_readDigits_66
  exact v_ild (v_iret)
theorem tX7_readDigits_66 {X : pu_X} {r : pu_R} (hX : pu_H X mdX7_readDigits) (hr : pu_P X.2.1 X.2.2.2.2.2.2.2.2.2.2.1 r) (hq : ∀ i pc, pu_lp i = some (166, pc) → pu_S X mdX7_readDigits pc (r i)) : pu_S X mdX7_readDigits 66 (kX7_readDigits_66 r) := by
  unfold kX7_readDigits_66
  exact z_ild_n hX dX7_readDigits_66 rfl (z_iret hX dX7_readDigits_67 rfl)
def kX7_readDigits_21 (r : pu_R) : pu_K := s_push (.int (57)) (s_cv r 23 2 7 (s_ifeq (kX7_readDigits_66 r) (s_ild 2 (s_push (.int (10)) (s_imul (s_ald 0 (s_gr 7 6 (s_gr 0 1 (s_ald 0 (s_gi 7 7 (s_ai 1 (s_iadd (s_push (.int (48)) (s_isub (s_ist 2 (s_ald 0 (s_dup (s_gi 7 7 (s_push (.int (1)) (s_iadd (s_pi 7 7 (s_inc 3 (1) ((r 400))))))))))))))))))))))))
theorem vX7_readDigits_21 : pu_cok2 kX7_readDigits_21 := fun rf r hr => by
  unfold kX7_readDigits_21
  exact v_pi (v_cv hr (v_ifeq (vX7_readDigits_66 rf r hr) (v_ild (v_pi (v_imul (v_ald (v_gr (v_gr (v_ald (v_gi (v_ai (v_iadd (v_pi (v_isub (v_ist (v_ald (v_dup (v_gi (v_pi (v_iadd (v_puti (v_inc ((hr 400))))))))))))))))))))))))
theorem tX7_readDigits_21 {X : pu_X} {r : pu_R} (hX : pu_H X mdX7_readDigits) (hr : pu_P X.2.1 X.2.2.2.2.2.2.2.2.2.2.1 r) (hq : ∀ i pc, pu_lp i = some (166, pc) → pu_S X mdX7_readDigits pc (r i)) : pu_S X mdX7_readDigits 21 (kX7_readDigits_21 r) := by
  unfold kX7_readDigits_21
  exact z_bipush hX dX7_readDigits_21 (by decide) (z_cv (c := 7) hX hr dX7_readDigits_23 hjX7_isNext mwX7_isNext rfl wm13_7 ⟨wm13_8, wm13_9⟩ ⟨Nat.le_of_ble_eq_true rfl, Nat.le_of_ble_eq_true rfl⟩ (z_ifeq hX dX7_readDigits_26 (by decide) (tX7_readDigits_66 hX hr hq) (z_ild_n hX dX7_readDigits_29 rfl (z_bipush hX dX7_readDigits_30 (by decide) (z_imul hX dX7_readDigits_32 (z_ald_n hX dX7_readDigits_33 rfl (z_gr (c := 7) (j := 6) hX dX7_readDigits_34 rfl inlX7 wm12_14 ⟨rfl, by decide, rfl⟩ (z_gr (c := 0) (j := 1) hX dX7_readDigits_37 rfl inlX0 wm13_6 ⟨rfl, by decide, rfl⟩ (z_ald_n hX dX7_readDigits_40 rfl (z_gi (c := 7) (j := 7) hX dX7_readDigits_41 rfl inlX7 wm12_15 ⟨rfl, by decide, rfl⟩ (z_iald hX dX7_readDigits_44 (z_iadd hX dX7_readDigits_45 (z_bipush hX dX7_readDigits_46 (by decide) (z_isub hX dX7_readDigits_48 (z_ist_n hX dX7_readDigits_49 rfl (z_ald_n hX dX7_readDigits_50 rfl (z_dup hX dX7_readDigits_51 (z_gi (c := 7) (j := 7) hX dX7_readDigits_52 rfl inlX7 wm12_15 ⟨rfl, by decide, rfl⟩ (z_iconst hX dX7_readDigits_55 (by decide) (z_iadd hX dX7_readDigits_56 (z_pi (c := 7) (j := 7) tyX7 tyX7_ok nmX7 hX dX7_readDigits_57 rfl inlX7 wm12_15 ⟨rfl, by decide⟩ ⟨rfl, rfl⟩ rfl (z_inc hX dX7_readDigits_60 (by decide) ((z_goto hX dX7_readDigits_63 (by decide) (hq 400 4 hl400)))))))))))))))))))))))))
def kX7_readDigits_19 (r : pu_R) : pu_K := s_push (.int (48)) ((kX7_readDigits_21 r))
theorem vX7_readDigits_19 : pu_cok2 kX7_readDigits_19 := fun rf r hr => by
  unfold kX7_readDigits_19
  exact v_pi ((vX7_readDigits_21 rf r hr))
theorem tX7_readDigits_19 {X : pu_X} {r : pu_R} (hX : pu_H X mdX7_readDigits) (hr : pu_P X.2.1 X.2.2.2.2.2.2.2.2.2.2.1 r) (hq : ∀ i pc, pu_lp i = some (166, pc) → pu_S X mdX7_readDigits pc (r i)) : pu_S X mdX7_readDigits 19 (kX7_readDigits_19 r) := by
  unfold kX7_readDigits_19
  exact z_bipush hX dX7_readDigits_19 (by decide) ((tX7_readDigits_21 hX hr hq))
def kX7_readDigits_4 (r : pu_R) : pu_K := s_ild 3 (s_ild 1 (s_icge (kX7_readDigits_66 r) (s_ald 0 (s_ild 3 (s_ifne (kX7_readDigits_19 r) (s_push (.int (49)) ((kX7_readDigits_21 r))))))))
theorem vX7_readDigits_4 : pu_cok2 kX7_readDigits_4 := fun rf r hr => by
  unfold kX7_readDigits_4
  exact v_ild (v_ild (v_icge (vX7_readDigits_66 rf r hr) (v_ald (v_ild (v_ifne (vX7_readDigits_19 rf r hr) (v_pi ((vX7_readDigits_21 rf r hr))))))))
theorem tX7_readDigits_4 {X : pu_X} {r : pu_R} (hX : pu_H X mdX7_readDigits) (hr : pu_P X.2.1 X.2.2.2.2.2.2.2.2.2.2.1 r) (hq : ∀ i pc, pu_lp i = some (166, pc) → pu_S X mdX7_readDigits pc (r i)) : pu_S X mdX7_readDigits 4 (kX7_readDigits_4 r) := by
  unfold kX7_readDigits_4
  exact z_ild_n hX dX7_readDigits_4 rfl (z_ild_n hX dX7_readDigits_5 rfl (z_icge hX dX7_readDigits_6 (by decide) (tX7_readDigits_66 hX hr hq) (z_ald_n hX dX7_readDigits_9 rfl (z_ild_n hX dX7_readDigits_10 rfl (z_ifne hX dX7_readDigits_11 (by decide) (tX7_readDigits_19 hX hr hq) (z_bipush hX dX7_readDigits_14 (by decide) ((z_goto hX dX7_readDigits_16 (by decide) (tX7_readDigits_21 hX hr hq)))))))))
def kX7_readDigits_0 (r : pu_R) : pu_K := s_push (.int (0)) (s_ist 2 (s_push (.int (0)) (s_ist 3 ((r 400)))))
theorem vX7_readDigits_0 : pu_cok2 kX7_readDigits_0 := fun rf r hr => by
  unfold kX7_readDigits_0
  exact v_pi (v_ist (v_pi (v_ist ((hr 400)))))
theorem tX7_readDigits_0 {X : pu_X} {r : pu_R} (hX : pu_H X mdX7_readDigits) (hr : pu_P X.2.1 X.2.2.2.2.2.2.2.2.2.2.1 r) (hq : ∀ i pc, pu_lp i = some (166, pc) → pu_S X mdX7_readDigits pc (r i)) : pu_S X mdX7_readDigits 0 (kX7_readDigits_0 r) := by
  unfold kX7_readDigits_0
  exact z_iconst hX dX7_readDigits_0 (by decide) (z_ist_n hX dX7_readDigits_1 rfl (z_iconst hX dX7_readDigits_2 (by decide) (z_ist_n hX dX7_readDigits_3 rfl ((hq 400 4 hl400)))))
def kX7_readNumber_90 (r : pu_R) : pu_K := s_push (.int (1)) (s_zret)
theorem vX7_readNumber_90 : pu_cok2 kX7_readNumber_90 := fun rf r hr => by
  unfold kX7_readNumber_90
  exact v_pi (v_zret)
theorem tX7_readNumber_90 {X : pu_X} {r : pu_R} (hX : pu_H X mdX7_readNumber) (hr : pu_P X.2.1 X.2.2.2.2.2.2.2.2.2.2.1 r) (hq : ∀ i pc, pu_lp i = some (167, pc) → pu_S X mdX7_readNumber pc (r i)) : pu_S X mdX7_readNumber 90 (kX7_readNumber_90 r) := by
  unfold kX7_readNumber_90
  exact z_iconst hX dX7_readNumber_90 (by decide) (z_zret hX dX7_readNumber_91 rfl)
def kX7_readNumber_70 (r : pu_R) : pu_K := s_ald 0 (s_push (.int (43)) (s_cv r 25 1 7 (s_ifeq (kX7_readNumber_90 r) (s_ald 0 (s_dup (s_gi 7 2 (s_push (.int (9)) (s_iadd (s_pi 7 2 ((kX7_readNumber_90 r)))))))))))
theorem vX7_readNumber_70 : pu_cok2 kX7_readNumber_70 := fun rf r hr => by
  unfold kX7_readNumber_70
  exact v_ald (v_pi (v_cv hr (v_ifeq (vX7_readNumber_90 rf r hr) (v_ald (v_dup (v_gi (v_pi (v_iadd (v_puti ((vX7_readNumber_90 rf r hr)))))))))))
theorem tX7_readNumber_70 {X : pu_X} {r : pu_R} (hX : pu_H X mdX7_readNumber) (hr : pu_P X.2.1 X.2.2.2.2.2.2.2.2.2.2.1 r) (hq : ∀ i pc, pu_lp i = some (167, pc) → pu_S X mdX7_readNumber pc (r i)) : pu_S X mdX7_readNumber 70 (kX7_readNumber_70 r) := by
  unfold kX7_readNumber_70
  exact z_ald_n hX dX7_readNumber_70 rfl (z_bipush hX dX7_readNumber_71 (by decide) (z_cv (c := 7) hX hr dX7_readNumber_73 hjX7_readByte mwX7_readByte rfl wm13_11 ⟨wm13_12, wm13_13⟩ ⟨Nat.le_of_ble_eq_true rfl, Nat.le_of_ble_eq_true rfl⟩ (z_ifeq hX dX7_readNumber_76 (by decide) (tX7_readNumber_90 hX hr hq) (z_ald_n hX dX7_readNumber_79 rfl (z_dup hX dX7_readNumber_80 (z_gi (c := 7) (j := 2) hX dX7_readNumber_81 rfl inlX7 wm54_21 ⟨rfl, by decide, rfl⟩ (z_bipush hX dX7_readNumber_84 (by decide) (z_iadd hX dX7_readNumber_86 (z_pi (c := 7) (j := 2) tyX7 tyX7_ok nmX7 hX dX7_readNumber_87 rfl inlX7 wm54_21 ⟨rfl, by decide⟩ ⟨rfl, rfl⟩ rfl ((tX7_readNumber_90 hX hr hq)))))))))))
def kX7_readNumber_54 (r : pu_R) : pu_K := s_pi 7 2 (s_ald 0 (s_dup (s_gi 7 7 (s_push (.int (1)) (s_iadd (s_pi 7 7 ((kX7_readNumber_90 r))))))))
theorem vX7_readNumber_54 : pu_cok2 kX7_readNumber_54 := fun rf r hr => by
  unfold kX7_readNumber_54
  exact v_puti (v_ald (v_dup (v_gi (v_pi (v_iadd (v_puti ((vX7_readNumber_90 rf r hr))))))))
theorem tX7_readNumber_54 {X : pu_X} {r : pu_R} (hX : pu_H X mdX7_readNumber) (hr : pu_P X.2.1 X.2.2.2.2.2.2.2.2.2.2.1 r) (hq : ∀ i pc, pu_lp i = some (167, pc) → pu_S X mdX7_readNumber pc (r i)) : pu_S X mdX7_readNumber 54 (kX7_readNumber_54 r) := by
  unfold kX7_readNumber_54
  exact z_pi (c := 7) (j := 2) tyX7 tyX7_ok nmX7 hX dX7_readNumber_54 rfl inlX7 wm54_21 ⟨rfl, by decide⟩ ⟨rfl, rfl⟩ rfl (z_ald_n hX dX7_readNumber_57 rfl (z_dup hX dX7_readNumber_58 (z_gi (c := 7) (j := 7) hX dX7_readNumber_59 rfl inlX7 wm12_15 ⟨rfl, by decide, rfl⟩ (z_iconst hX dX7_readNumber_62 (by decide) (z_iadd hX dX7_readNumber_63 (z_pi (c := 7) (j := 7) tyX7 tyX7_ok nmX7 hX dX7_readNumber_64 rfl inlX7 wm12_15 ⟨rfl, by decide⟩ ⟨rfl, rfl⟩ rfl ((z_goto hX dX7_readNumber_67 (by decide) (tX7_readNumber_90 hX hr hq)))))))))
def kX7_readNumber_12 (r : pu_R) : pu_K := s_ald 0 (s_push (.int (16)) (s_ild 1 (s_imul (s_pi 7 2 (s_ald 0 (s_push (.int (97)) (s_push (.int (104)) (s_cv r 23 2 7 (s_ifeq (kX7_readNumber_70 r) (s_ald 0 (s_dup (s_gi 7 2 (s_ald 0 (s_gr 7 6 (s_gr 0 1 (s_ald 0 (s_gi 7 7 (s_ai 1 (s_push (.int (97)) (s_isub (s_push (.int (1)) (s_iadd (s_iadd ((kX7_readNumber_54 r)))))))))))))))))))))))))
theorem vX7_readNumber_12 : pu_cok2 kX7_readNumber_12 := fun rf r hr => by
  unfold kX7_readNumber_12
  exact v_ald (v_pi (v_ild (v_imul (v_puti (v_ald (v_pi (v_pi (v_cv hr (v_ifeq (vX7_readNumber_70 rf r hr) (v_ald (v_dup (v_gi (v_ald (v_gr (v_gr (v_ald (v_gi (v_ai (v_pi (v_isub (v_pi (v_iadd (v_iadd ((vX7_readNumber_54 rf r hr)))))))))))))))))))))))))
theorem tX7_readNumber_12 {X : pu_X} {r : pu_R} (hX : pu_H X mdX7_readNumber) (hr : pu_P X.2.1 X.2.2.2.2.2.2.2.2.2.2.1 r) (hq : ∀ i pc, pu_lp i = some (167, pc) → pu_S X mdX7_readNumber pc (r i)) : pu_S X mdX7_readNumber 12 (kX7_readNumber_12 r) := by
  unfold kX7_readNumber_12
  exact z_ald_n hX dX7_readNumber_12 rfl (z_bipush hX dX7_readNumber_13 (by decide) (z_ild_n hX dX7_readNumber_15 rfl (z_imul hX dX7_readNumber_16 (z_pi (c := 7) (j := 2) tyX7 tyX7_ok nmX7 hX dX7_readNumber_17 rfl inlX7 wm54_21 ⟨rfl, by decide⟩ ⟨rfl, rfl⟩ rfl (z_ald_n hX dX7_readNumber_20 rfl (z_bipush hX dX7_readNumber_21 (by decide) (z_bipush hX dX7_readNumber_23 (by decide) (z_cv (c := 7) hX hr dX7_readNumber_25 hjX7_isNext mwX7_isNext rfl wm13_7 ⟨wm13_8, wm13_9⟩ ⟨Nat.le_of_ble_eq_true rfl, Nat.le_of_ble_eq_true rfl⟩ (z_ifeq hX dX7_readNumber_28 (by decide) (tX7_readNumber_70 hX hr hq) (z_ald_n hX dX7_readNumber_31 rfl (z_dup hX dX7_readNumber_32 (z_gi (c := 7) (j := 2) hX dX7_readNumber_33 rfl inlX7 wm54_21 ⟨rfl, by decide, rfl⟩ (z_ald_n hX dX7_readNumber_36 rfl (z_gr (c := 7) (j := 6) hX dX7_readNumber_37 rfl inlX7 wm12_14 ⟨rfl, by decide, rfl⟩ (z_gr (c := 0) (j := 1) hX dX7_readNumber_40 rfl inlX0 wm13_6 ⟨rfl, by decide, rfl⟩ (z_ald_n hX dX7_readNumber_43 rfl (z_gi (c := 7) (j := 7) hX dX7_readNumber_44 rfl inlX7 wm12_15 ⟨rfl, by decide, rfl⟩ (z_iald hX dX7_readNumber_47 (z_bipush hX dX7_readNumber_48 (by decide) (z_isub hX dX7_readNumber_50 (z_iconst hX dX7_readNumber_51 (by decide) (z_iadd hX dX7_readNumber_52 (z_iadd hX dX7_readNumber_53 ((tX7_readNumber_54 hX hr hq)))))))))))))))))))))))))
def kX7_readNumber_0 (r : pu_R) : pu_K := s_ald 0 (s_push (.int (4)) (s_cv r 166 1 7 (s_ist 1 (s_ild 1 (s_ifne (kX7_readNumber_12 r) (s_push (.int (0)) (s_zret)))))))
theorem vX7_readNumber_0 : pu_cok2 kX7_readNumber_0 := fun rf r hr => by
  unfold kX7_readNumber_0
  exact v_ald (v_pi (v_cv hr (v_ist (v_ild (v_ifne (vX7_readNumber_12 rf r hr) (v_pi (v_zret)))))))
theorem tX7_readNumber_0 {X : pu_X} {r : pu_R} (hX : pu_H X mdX7_readNumber) (hr : pu_P X.2.1 X.2.2.2.2.2.2.2.2.2.2.1 r) (hq : ∀ i pc, pu_lp i = some (167, pc) → pu_S X mdX7_readNumber pc (r i)) : pu_S X mdX7_readNumber 0 (kX7_readNumber_0 r) := by
  unfold kX7_readNumber_0
  exact z_ald_n hX dX7_readNumber_0 rfl (z_iconst hX dX7_readNumber_1 (by decide) (z_cv (c := 7) hX hr dX7_readNumber_2 hjX7_readDigits mwX7_readDigits rfl wm54_22 ⟨wm54_23, wm55_0⟩ ⟨Nat.le_of_ble_eq_true rfl, Nat.le_of_ble_eq_true rfl⟩ (z_ist_n hX dX7_readNumber_5 rfl (z_ild_n hX dX7_readNumber_6 rfl (z_ifne hX dX7_readNumber_7 (by decide) (tX7_readNumber_12 hX hr hq) (z_iconst hX dX7_readNumber_10 (by decide) (z_zret hX dX7_readNumber_11 rfl)))))))
def kX7_readText_30 (r : pu_R) : pu_K := s_push (.int (1)) (s_zret)
theorem vX7_readText_30 : pu_cok2 kX7_readText_30 := fun rf r hr => by
  unfold kX7_readText_30
  exact v_pi (v_zret)
theorem tX7_readText_30 {X : pu_X} {r : pu_R} (hX : pu_H X mdX7_readText) (hr : pu_P X.2.1 X.2.2.2.2.2.2.2.2.2.2.1 r) (hq : ∀ i pc, pu_lp i = some (168, pc) → pu_S X mdX7_readText pc (r i)) : pu_S X mdX7_readText 30 (kX7_readText_30 r) := by
  unfold kX7_readText_30
  exact z_iconst hX dX7_readText_30 (by decide) (z_zret hX dX7_readText_31 rfl)
def kX7_readText_24 (r : pu_R) : pu_K := s_inc 2 (1) ((r 401))
theorem vX7_readText_24 : pu_cok2 kX7_readText_24 := fun rf r hr => by
  unfold kX7_readText_24
  exact v_inc ((hr 401))
theorem tX7_readText_24 {X : pu_X} {r : pu_R} (hX : pu_H X mdX7_readText) (hr : pu_P X.2.1 X.2.2.2.2.2.2.2.2.2.2.1 r) (hq : ∀ i pc, pu_lp i = some (168, pc) → pu_S X mdX7_readText pc (r i)) : pu_S X mdX7_readText 24 (kX7_readText_24 r) := by
  unfold kX7_readText_24
  exact z_inc hX dX7_readText_24 (by decide) ((z_goto hX dX7_readText_27 (by decide) (hq 401 2 hl401)))
def kX7_readText_2 (r : pu_R) : pu_K := s_ild 2 (s_ald 1 (s_ct r 156 0 (s_icge (kX7_readText_30 r) (s_ald 0 (s_ald 1 (s_ild 2 (s_ct r 161 1 (s_cv r 25 1 7 (s_ifne (kX7_readText_24 r) (s_push (.int (0)) (s_zret)))))))))))
theorem vX7_readText_2 : pu_cok2 kX7_readText_2 := fun rf r hr => by
  unfold kX7_readText_2
  exact v_ild (v_ald (v_ct hr (v_icge (vX7_readText_30 rf r hr) (v_ald (v_ald (v_ild (v_ct hr (v_cv hr (v_ifne (vX7_readText_24 rf r hr) (v_pi (v_zret)))))))))))
theorem tX7_readText_2 {X : pu_X} {r : pu_R} (hX : pu_H X mdX7_readText) (hr : pu_P X.2.1 X.2.2.2.2.2.2.2.2.2.2.1 r) (hq : ∀ i pc, pu_lp i = some (168, pc) → pu_S X mdX7_readText pc (r i)) : pu_S X mdX7_readText 2 (kX7_readText_2 r) := by
  unfold kX7_readText_2
  exact z_ild_n hX dX7_readText_2 rfl (z_ald_n hX dX7_readText_3 rfl (z_ct hX hr dX7_readText_4 hjJ0_length_8abf5 mwJ0_length_8abf5 rfl wm55_12 ⟨wm50_23, wm51_0⟩ ⟨Nat.le_of_ble_eq_true rfl, Nat.le_of_ble_eq_true rfl⟩ (z_icge hX dX7_readText_7 (by decide) (tX7_readText_30 hX hr hq) (z_ald_n hX dX7_readText_10 rfl (z_ald_n hX dX7_readText_11 rfl (z_ild_n hX dX7_readText_12 rfl (z_ct hX hr dX7_readText_13 hjJ0_charAt_5068e mwJ0_charAt_5068e rfl wm55_13 ⟨wm51_11, wm51_12⟩ ⟨Nat.le_of_ble_eq_true rfl, Nat.le_of_ble_eq_true rfl⟩ (z_cv (c := 7) hX hr dX7_readText_16 hjX7_readByte mwX7_readByte rfl wm13_11 ⟨wm13_12, wm13_13⟩ ⟨Nat.le_of_ble_eq_true rfl, Nat.le_of_ble_eq_true rfl⟩ (z_ifne hX dX7_readText_19 (by decide) (tX7_readText_24 hX hr hq) (z_iconst hX dX7_readText_22 (by decide) (z_zret hX dX7_readText_23 rfl)))))))))))
def kX7_readText_0 (r : pu_R) : pu_K := s_push (.int (0)) (s_ist 2 ((r 401)))
theorem vX7_readText_0 : pu_cok2 kX7_readText_0 := fun rf r hr => by
  unfold kX7_readText_0
  exact v_pi (v_ist ((hr 401)))
theorem tX7_readText_0 {X : pu_X} {r : pu_R} (hX : pu_H X mdX7_readText) (hr : pu_P X.2.1 X.2.2.2.2.2.2.2.2.2.2.1 r) (hq : ∀ i pc, pu_lp i = some (168, pc) → pu_S X mdX7_readText pc (r i)) : pu_S X mdX7_readText 0 (kX7_readText_0 r) := by
  unfold kX7_readText_0
  exact z_iconst hX dX7_readText_0 (by decide) (z_ist_n hX dX7_readText_1 rfl ((hq 401 2 hl401)))
def kX7_readExtra_107 (r : pu_R) : pu_K := s_zret
theorem vX7_readExtra_107 : pu_cok2 kX7_readExtra_107 := fun rf r hr => by
  unfold kX7_readExtra_107
  exact v_zret
theorem tX7_readExtra_107 {X : pu_X} {r : pu_R} (hX : pu_H X mdX7_readExtra) (hr : pu_P X.2.1 X.2.2.2.2.2.2.2.2.2.2.1 r) (hq : ∀ i pc, pu_lp i = some (169, pc) → pu_S X mdX7_readExtra pc (r i)) : pu_S X mdX7_readExtra 107 (kX7_readExtra_107 r) := by
  unfold kX7_readExtra_107
  exact z_zret hX dX7_readExtra_107 rfl
def kX7_readExtra_106 (r : pu_R) : pu_K := s_push (.int (0)) ((kX7_readExtra_107 r))
theorem vX7_readExtra_106 : pu_cok2 kX7_readExtra_106 := fun rf r hr => by
  unfold kX7_readExtra_106
  exact v_pi ((vX7_readExtra_107 rf r hr))
theorem tX7_readExtra_106 {X : pu_X} {r : pu_R} (hX : pu_H X mdX7_readExtra) (hr : pu_P X.2.1 X.2.2.2.2.2.2.2.2.2.2.1 r) (hq : ∀ i pc, pu_lp i = some (169, pc) → pu_S X mdX7_readExtra pc (r i)) : pu_S X mdX7_readExtra 106 (kX7_readExtra_106 r) := by
  unfold kX7_readExtra_106
  exact z_iconst hX dX7_readExtra_106 (by decide) ((tX7_readExtra_107 hX hr hq))
def kX7_readExtra_86 (r : pu_R) : pu_K := s_ald 0 (s_ald 0 (s_push (.int (2)) (s_cv r 166 1 7 (s_pi 7 4 (s_ald 0 (s_gi 7 4 (s_ifle (kX7_readExtra_106 r) (s_push (.int (1)) ((kX7_readExtra_107 r))))))))))
theorem vX7_readExtra_86 : pu_cok2 kX7_readExtra_86 := fun rf r hr => by
  unfold kX7_readExtra_86
  exact v_ald (v_ald (v_pi (v_cv hr (v_puti (v_ald (v_gi (v_ifle (vX7_readExtra_106 rf r hr) (v_pi ((vX7_readExtra_107 rf r hr))))))))))
theorem tX7_readExtra_86 {X : pu_X} {r : pu_R} (hX : pu_H X mdX7_readExtra) (hr : pu_P X.2.1 X.2.2.2.2.2.2.2.2.2.2.1 r) (hq : ∀ i pc, pu_lp i = some (169, pc) → pu_S X mdX7_readExtra pc (r i)) : pu_S X mdX7_readExtra 86 (kX7_readExtra_86 r) := by
  unfold kX7_readExtra_86
  exact z_ald_n hX dX7_readExtra_86 rfl (z_ald_n hX dX7_readExtra_87 rfl (z_iconst hX dX7_readExtra_88 (by decide) (z_cv (c := 7) hX hr dX7_readExtra_89 hjX7_readDigits mwX7_readDigits rfl wm54_22 ⟨wm54_23, wm55_0⟩ ⟨Nat.le_of_ble_eq_true rfl, Nat.le_of_ble_eq_true rfl⟩ (z_pi (c := 7) (j := 4) tyX7 tyX7_ok nmX7 hX dX7_readExtra_92 rfl inlX7 wm55_7 ⟨rfl, by decide⟩ ⟨rfl, rfl⟩ rfl (z_ald_n hX dX7_readExtra_95 rfl (z_gi (c := 7) (j := 4) hX dX7_readExtra_96 rfl inlX7 wm55_7 ⟨rfl, by decide, rfl⟩ (z_ifle hX dX7_readExtra_99 (by decide) (tX7_readExtra_106 hX hr hq) (z_iconst hX dX7_readExtra_102 (by decide) ((z_goto hX dX7_readExtra_103 (by decide) (tX7_readExtra_107 hX hr hq)))))))))))
def kX7_readExtra_78 (r : pu_R) : pu_K := s_cv r 168 1 7 (s_ifne (kX7_readExtra_86 r) (s_push (.int (0)) (s_zret)))
theorem vX7_readExtra_78 : pu_cok2 kX7_readExtra_78 := fun rf r hr => by
  unfold kX7_readExtra_78
  exact v_cv hr (v_ifne (vX7_readExtra_86 rf r hr) (v_pi (v_zret)))
theorem tX7_readExtra_78 {X : pu_X} {r : pu_R} (hX : pu_H X mdX7_readExtra) (hr : pu_P X.2.1 X.2.2.2.2.2.2.2.2.2.2.1 r) (hq : ∀ i pc, pu_lp i = some (169, pc) → pu_S X mdX7_readExtra pc (r i)) : pu_S X mdX7_readExtra 78 (kX7_readExtra_78 r) := by
  unfold kX7_readExtra_78
  exact z_cv (c := 7) hX hr dX7_readExtra_78 hjX7_readText mwX7_readText rfl wm55_8 ⟨wm55_9, wm55_10⟩ ⟨Nat.le_of_ble_eq_true rfl, Nat.le_of_ble_eq_true rfl⟩ (z_ifne hX dX7_readExtra_81 (by decide) (tX7_readExtra_86 hX hr hq) (z_iconst hX dX7_readExtra_84 (by decide) (z_zret hX dX7_readExtra_85 rfl)))
def kX7_readExtra_76 (r : pu_R) : pu_K := s_push (.float 6) ((kX7_readExtra_78 r))
theorem vX7_readExtra_76 : pu_cok2 kX7_readExtra_76 := fun rf r hr => by
  unfold kX7_readExtra_76
  exact v_pf ((vX7_readExtra_78 rf r hr))
theorem tX7_readExtra_76 {X : pu_X} {r : pu_R} (hX : pu_H X mdX7_readExtra) (hr : pu_P X.2.1 X.2.2.2.2.2.2.2.2.2.2.1 r) (hq : ∀ i pc, pu_lp i = some (169, pc) → pu_S X mdX7_readExtra pc (r i)) : pu_S X mdX7_readExtra 76 (kX7_readExtra_76 r) := by
  unfold kX7_readExtra_76
  exact z_ldcS (i := 5) hX dX7_readExtra_76 ⟨by decide, rfl, rfl, rfl⟩ ((tX7_readExtra_78 hX hr hq))
def kX7_readExtra_63 (r : pu_R) : pu_K := s_pi 7 3 (s_ald 0 (s_ild 1 (s_ifeq (kX7_readExtra_76 r) (s_push (.float 5) ((kX7_readExtra_78 r))))))
theorem vX7_readExtra_63 : pu_cok2 kX7_readExtra_63 := fun rf r hr => by
  unfold kX7_readExtra_63
  exact v_puti (v_ald (v_ild (v_ifeq (vX7_readExtra_76 rf r hr) (v_pf ((vX7_readExtra_78 rf r hr))))))
theorem tX7_readExtra_63 {X : pu_X} {r : pu_R} (hX : pu_H X mdX7_readExtra) (hr : pu_P X.2.1 X.2.2.2.2.2.2.2.2.2.2.1 r) (hq : ∀ i pc, pu_lp i = some (169, pc) → pu_S X mdX7_readExtra pc (r i)) : pu_S X mdX7_readExtra 63 (kX7_readExtra_63 r) := by
  unfold kX7_readExtra_63
  exact z_pi (c := 7) (j := 3) tyX7 tyX7_ok nmX7 hX dX7_readExtra_63 rfl inlX7 wm55_6 ⟨rfl, by decide⟩ ⟨rfl, rfl⟩ rfl (z_ald_n hX dX7_readExtra_66 rfl (z_ild_n hX dX7_readExtra_67 rfl (z_ifeq hX dX7_readExtra_68 (by decide) (tX7_readExtra_76 hX hr hq) (z_ldcS (i := 4) hX dX7_readExtra_71 ⟨by decide, rfl, rfl, rfl⟩ ((z_goto hX dX7_readExtra_73 (by decide) (tX7_readExtra_78 hX hr hq)))))))
def kX7_readExtra_62 (r : pu_R) : pu_K := s_push (.int (4)) ((kX7_readExtra_63 r))
theorem vX7_readExtra_62 : pu_cok2 kX7_readExtra_62 := fun rf r hr => by
  unfold kX7_readExtra_62
  exact v_pi ((vX7_readExtra_63 rf r hr))
theorem tX7_readExtra_62 {X : pu_X} {r : pu_R} (hX : pu_H X mdX7_readExtra) (hr : pu_P X.2.1 X.2.2.2.2.2.2.2.2.2.2.1 r) (hq : ∀ i pc, pu_lp i = some (169, pc) → pu_S X mdX7_readExtra pc (r i)) : pu_S X mdX7_readExtra 62 (kX7_readExtra_62 r) := by
  unfold kX7_readExtra_62
  exact z_iconst hX dX7_readExtra_62 (by decide) ((tX7_readExtra_63 hX hr hq))
def kX7_readExtra_44 (r : pu_R) : pu_K := s_ald 0 (s_push (.int (99)) (s_push (.int (99)) (s_cv r 23 2 7 (s_ist 1 (s_ald 0 (s_ild 1 (s_ifeq (kX7_readExtra_62 r) (s_push (.int (3)) ((kX7_readExtra_63 r))))))))))
theorem vX7_readExtra_44 : pu_cok2 kX7_readExtra_44 := fun rf r hr => by
  unfold kX7_readExtra_44
  exact v_ald (v_pi (v_pi (v_cv hr (v_ist (v_ald (v_ild (v_ifeq (vX7_readExtra_62 rf r hr) (v_pi ((vX7_readExtra_63 rf r hr))))))))))
theorem tX7_readExtra_44 {X : pu_X} {r : pu_R} (hX : pu_H X mdX7_readExtra) (hr : pu_P X.2.1 X.2.2.2.2.2.2.2.2.2.2.1 r) (hq : ∀ i pc, pu_lp i = some (169, pc) → pu_S X mdX7_readExtra pc (r i)) : pu_S X mdX7_readExtra 44 (kX7_readExtra_44 r) := by
  unfold kX7_readExtra_44
  exact z_ald_n hX dX7_readExtra_44 rfl (z_bipush hX dX7_readExtra_45 (by decide) (z_bipush hX dX7_readExtra_47 (by decide) (z_cv (c := 7) hX hr dX7_readExtra_49 hjX7_isNext mwX7_isNext rfl wm13_7 ⟨wm13_8, wm13_9⟩ ⟨Nat.le_of_ble_eq_true rfl, Nat.le_of_ble_eq_true rfl⟩ (z_ist_n hX dX7_readExtra_52 rfl (z_ald_n hX dX7_readExtra_53 rfl (z_ild_n hX dX7_readExtra_54 rfl (z_ifeq hX dX7_readExtra_55 (by decide) (tX7_readExtra_62 hX hr hq) (z_iconst hX dX7_readExtra_58 (by decide) ((z_goto hX dX7_readExtra_59 (by decide) (tX7_readExtra_63 hX hr hq)))))))))))
def kX7_readExtra_21 (r : pu_R) : pu_K := s_ald 0 (s_push (.int (98)) (s_push (.int (98)) (s_cv r 23 2 7 (s_ifeq (kX7_readExtra_44 r) (s_ald 0 (s_push (.int (2)) (s_pi 7 3 (s_ald 0 (s_push (.float 4) (s_cv r 168 1 7 (s_zret)))))))))))
theorem vX7_readExtra_21 : pu_cok2 kX7_readExtra_21 := fun rf r hr => by
  unfold kX7_readExtra_21
  exact v_ald (v_pi (v_pi (v_cv hr (v_ifeq (vX7_readExtra_44 rf r hr) (v_ald (v_pi (v_puti (v_ald (v_pf (v_cv hr (v_zret)))))))))))
theorem tX7_readExtra_21 {X : pu_X} {r : pu_R} (hX : pu_H X mdX7_readExtra) (hr : pu_P X.2.1 X.2.2.2.2.2.2.2.2.2.2.1 r) (hq : ∀ i pc, pu_lp i = some (169, pc) → pu_S X mdX7_readExtra pc (r i)) : pu_S X mdX7_readExtra 21 (kX7_readExtra_21 r) := by
  unfold kX7_readExtra_21
  exact z_ald_n hX dX7_readExtra_21 rfl (z_bipush hX dX7_readExtra_22 (by decide) (z_bipush hX dX7_readExtra_24 (by decide) (z_cv (c := 7) hX hr dX7_readExtra_26 hjX7_isNext mwX7_isNext rfl wm13_7 ⟨wm13_8, wm13_9⟩ ⟨Nat.le_of_ble_eq_true rfl, Nat.le_of_ble_eq_true rfl⟩ (z_ifeq hX dX7_readExtra_29 (by decide) (tX7_readExtra_44 hX hr hq) (z_ald_n hX dX7_readExtra_32 rfl (z_iconst hX dX7_readExtra_33 (by decide) (z_pi (c := 7) (j := 3) tyX7 tyX7_ok nmX7 hX dX7_readExtra_34 rfl inlX7 wm55_6 ⟨rfl, by decide⟩ ⟨rfl, rfl⟩ rfl (z_ald_n hX dX7_readExtra_37 rfl (z_ldcS (i := 3) hX dX7_readExtra_38 ⟨by decide, rfl, rfl, rfl⟩ (z_cv (c := 7) hX hr dX7_readExtra_40 hjX7_readText mwX7_readText rfl wm55_8 ⟨wm55_9, wm55_10⟩ ⟨Nat.le_of_ble_eq_true rfl, Nat.le_of_ble_eq_true rfl⟩ (z_zret hX dX7_readExtra_43 rfl)))))))))))
def kX7_readExtra_0 (r : pu_R) : pu_K := s_ald 0 (s_push (.int (-1)) (s_pi 7 3 (s_ald 0 (s_push (.int (0)) (s_pi 7 4 (s_ald 0 (s_push (.int (32)) (s_cv r 25 1 7 (s_ifne (kX7_readExtra_21 r) (s_push (.int (1)) (s_zret)))))))))))
theorem vX7_readExtra_0 : pu_cok2 kX7_readExtra_0 := fun rf r hr => by
  unfold kX7_readExtra_0
  exact v_ald (v_pi (v_puti (v_ald (v_pi (v_puti (v_ald (v_pi (v_cv hr (v_ifne (vX7_readExtra_21 rf r hr) (v_pi (v_zret)))))))))))
theorem tX7_readExtra_0 {X : pu_X} {r : pu_R} (hX : pu_H X mdX7_readExtra) (hr : pu_P X.2.1 X.2.2.2.2.2.2.2.2.2.2.1 r) (hq : ∀ i pc, pu_lp i = some (169, pc) → pu_S X mdX7_readExtra pc (r i)) : pu_S X mdX7_readExtra 0 (kX7_readExtra_0 r) := by
  unfold kX7_readExtra_0
  exact z_ald_n hX dX7_readExtra_0 rfl (z_iconst hX dX7_readExtra_1 (by decide) (z_pi (c := 7) (j := 3) tyX7 tyX7_ok nmX7 hX dX7_readExtra_2 rfl inlX7 wm55_6 ⟨rfl, by decide⟩ ⟨rfl, rfl⟩ rfl (z_ald_n hX dX7_readExtra_5 rfl (z_iconst hX dX7_readExtra_6 (by decide) (z_pi (c := 7) (j := 4) tyX7 tyX7_ok nmX7 hX dX7_readExtra_7 rfl inlX7 wm55_7 ⟨rfl, by decide⟩ ⟨rfl, rfl⟩ rfl (z_ald_n hX dX7_readExtra_10 rfl (z_bipush hX dX7_readExtra_11 (by decide) (z_cv (c := 7) hX hr dX7_readExtra_13 hjX7_readByte mwX7_readByte rfl wm13_11 ⟨wm13_12, wm13_13⟩ ⟨Nat.le_of_ble_eq_true rfl, Nat.le_of_ble_eq_true rfl⟩ (z_ifne hX dX7_readExtra_16 (by decide) (tX7_readExtra_21 hX hr hq) (z_iconst hX dX7_readExtra_19 (by decide) (z_zret hX dX7_readExtra_20 rfl)))))))))))
def kX7_readAddress_74 (r : pu_R) : pu_K := s_pi 7 5 (s_ald 0 (s_gr 7 0 (s_ald 2 (s_cs r 29 2 (s_ald 0 (s_gr 7 1 (s_ald 2 (s_cs r 29 2 (s_ild 3 (s_zret))))))))))
theorem vX7_readAddress_74 : pu_cok2 kX7_readAddress_74 := fun rf r hr => by
  unfold kX7_readAddress_74
  exact v_puti (v_ald (v_gr (v_ald (v_cs hr (v_ald (v_gr (v_ald (v_cs hr (v_ild (v_zret))))))))))
theorem tX7_readAddress_74 {X : pu_X} {r : pu_R} (hX : pu_H X mdX7_readAddress) (hr : pu_P X.2.1 X.2.2.2.2.2.2.2.2.2.2.1 r) (hq : ∀ i pc, pu_lp i = some (170, pc) → pu_S X mdX7_readAddress pc (r i)) : pu_S X mdX7_readAddress 74 (kX7_readAddress_74 r) := by
  unfold kX7_readAddress_74
  exact z_pi (c := 7) (j := 5) tyX7 tyX7_ok nmX7 hX dX7_readAddress_74 rfl inlX7 wm7_1 ⟨rfl, by decide⟩ ⟨rfl, rfl⟩ rfl (z_ald_n hX dX7_readAddress_77 rfl (z_gr (c := 7) (j := 0) hX dX7_readAddress_78 rfl inlX7 wm6_23 ⟨rfl, by decide, rfl⟩ (z_ald_n hX dX7_readAddress_81 rfl (z_cs hX hr dX7_readAddress_82 hjX7_lengthen mwX7_lengthen wm13_15 wm13_16 ⟨Nat.le_of_ble_eq_true rfl, Nat.le_of_ble_eq_true rfl⟩ (z_ald_n hX dX7_readAddress_85 rfl (z_gr (c := 7) (j := 1) hX dX7_readAddress_86 rfl inlX7 wm7_0 ⟨rfl, by decide, rfl⟩ (z_ald_n hX dX7_readAddress_89 rfl (z_cs hX hr dX7_readAddress_90 hjX7_lengthen mwX7_lengthen wm13_15 wm13_16 ⟨Nat.le_of_ble_eq_true rfl, Nat.le_of_ble_eq_true rfl⟩ (z_ild_n hX dX7_readAddress_93 rfl (z_zret hX dX7_readAddress_94 rfl))))))))))
def kX7_readAddress_70 (r : pu_R) : pu_K := s_ald 0 (s_gi 7 7 ((kX7_readAddress_74 r)))
theorem vX7_readAddress_70 : pu_cok2 kX7_readAddress_70 := fun rf r hr => by
  unfold kX7_readAddress_70
  exact v_ald (v_gi ((vX7_readAddress_74 rf r hr)))
theorem tX7_readAddress_70 {X : pu_X} {r : pu_R} (hX : pu_H X mdX7_readAddress) (hr : pu_P X.2.1 X.2.2.2.2.2.2.2.2.2.2.1 r) (hq : ∀ i pc, pu_lp i = some (170, pc) → pu_S X mdX7_readAddress pc (r i)) : pu_S X mdX7_readAddress 70 (kX7_readAddress_70 r) := by
  unfold kX7_readAddress_70
  exact z_ald_n hX dX7_readAddress_70 rfl (z_gi (c := 7) (j := 7) hX dX7_readAddress_71 rfl inlX7 wm12_15 ⟨rfl, by decide, rfl⟩ ((tX7_readAddress_74 hX hr hq)))
def kX7_readAddress_60 (r : pu_R) : pu_K := s_ist 3 (s_ald 0 (s_ild 3 (s_ifeq (kX7_readAddress_70 r) (s_push (.int (-1)) ((kX7_readAddress_74 r))))))
theorem vX7_readAddress_60 : pu_cok2 kX7_readAddress_60 := fun rf r hr => by
  unfold kX7_readAddress_60
  exact v_ist (v_ald (v_ild (v_ifeq (vX7_readAddress_70 rf r hr) (v_pi ((vX7_readAddress_74 rf r hr))))))
theorem tX7_readAddress_60 {X : pu_X} {r : pu_R} (hX : pu_H X mdX7_readAddress) (hr : pu_P X.2.1 X.2.2.2.2.2.2.2.2.2.2.1 r) (hq : ∀ i pc, pu_lp i = some (170, pc) → pu_S X mdX7_readAddress pc (r i)) : pu_S X mdX7_readAddress 60 (kX7_readAddress_60 r) := by
  unfold kX7_readAddress_60
  exact z_ist_n hX dX7_readAddress_60 rfl (z_ald_n hX dX7_readAddress_61 rfl (z_ild_n hX dX7_readAddress_62 rfl (z_ifeq hX dX7_readAddress_63 (by decide) (tX7_readAddress_70 hX hr hq) (z_iconst hX dX7_readAddress_66 (by decide) ((z_goto hX dX7_readAddress_67 (by decide) (tX7_readAddress_74 hX hr hq)))))))
def kX7_readAddress_59 (r : pu_R) : pu_K := s_push (.int (0)) ((kX7_readAddress_60 r))
theorem vX7_readAddress_59 : pu_cok2 kX7_readAddress_59 := fun rf r hr => by
  unfold kX7_readAddress_59
  exact v_pi ((vX7_readAddress_60 rf r hr))
theorem tX7_readAddress_59 {X : pu_X} {r : pu_R} (hX : pu_H X mdX7_readAddress) (hr : pu_P X.2.1 X.2.2.2.2.2.2.2.2.2.2.1 r) (hq : ∀ i pc, pu_lp i = some (170, pc) → pu_S X mdX7_readAddress pc (r i)) : pu_S X mdX7_readAddress 59 (kX7_readAddress_59 r) := by
  unfold kX7_readAddress_59
  exact z_iconst hX dX7_readAddress_59 (by decide) ((tX7_readAddress_60 hX hr hq))
def kX7_readAddress_52 (r : pu_R) : pu_K := s_ifeq (kX7_readAddress_59 r) (s_push (.int (1)) ((kX7_readAddress_60 r)))
theorem vX7_readAddress_52 : pu_cok2 kX7_readAddress_52 := fun rf r hr => by
  unfold kX7_readAddress_52
  exact v_ifeq (vX7_readAddress_59 rf r hr) (v_pi ((vX7_readAddress_60 rf r hr)))
theorem tX7_readAddress_52 {X : pu_X} {r : pu_R} (hX : pu_H X mdX7_readAddress) (hr : pu_P X.2.1 X.2.2.2.2.2.2.2.2.2.2.1 r) (hq : ∀ i pc, pu_lp i = some (170, pc) → pu_S X mdX7_readAddress pc (r i)) : pu_S X mdX7_readAddress 52 (kX7_readAddress_52 r) := by
  unfold kX7_readAddress_52
  exact z_ifeq hX dX7_readAddress_52 (by decide) (tX7_readAddress_59 hX hr hq) (z_iconst hX dX7_readAddress_55 (by decide) ((z_goto hX dX7_readAddress_56 (by decide) (tX7_readAddress_60 hX hr hq))))
def kX7_readAddress_0 (r : pu_R) : pu_K := s_ald 0 (s_ald 1 (s_cv r 21 1 7 (s_ald 0 (s_cv r 165 0 7 (s_ifeq (kX7_readAddress_59 r) (s_ald 0 (s_cv r 167 0 7 (s_ifeq (kX7_readAddress_59 r) (s_ald 0 (s_cv r 169 0 7 (s_ifeq (kX7_readAddress_59 r) (s_ald 0 (s_push (.int (44)) (s_cv r 25 1 7 (s_ifeq (kX7_readAddress_59 r) (s_ald 0 (s_push (.int (32)) (s_cv r 25 1 7 (s_ifeq (kX7_readAddress_59 r) (s_ald 0 (s_ald 0 (s_gr 7 1 (s_cv r 26 1 7 ((kX7_readAddress_52 r)))))))))))))))))))))))))
theorem vX7_readAddress_0 : pu_cok2 kX7_readAddress_0 := fun rf r hr => by
  unfold kX7_readAddress_0
  exact v_ald (v_ald (v_cv hr (v_ald (v_cv hr (v_ifeq (vX7_readAddress_59 rf r hr) (v_ald (v_cv hr (v_ifeq (vX7_readAddress_59 rf r hr) (v_ald (v_cv hr (v_ifeq (vX7_readAddress_59 rf r hr) (v_ald (v_pi (v_cv hr (v_ifeq (vX7_readAddress_59 rf r hr) (v_ald (v_pi (v_cv hr (v_ifeq (vX7_readAddress_59 rf r hr) (v_ald (v_ald (v_gr (v_cv hr ((vX7_readAddress_52 rf r hr)))))))))))))))))))))))))
theorem tX7_readAddress_0 {X : pu_X} {r : pu_R} (hX : pu_H X mdX7_readAddress) (hr : pu_P X.2.1 X.2.2.2.2.2.2.2.2.2.2.1 r) (hq : ∀ i pc, pu_lp i = some (170, pc) → pu_S X mdX7_readAddress pc (r i)) : pu_S X mdX7_readAddress 0 (kX7_readAddress_0 r) := by
  unfold kX7_readAddress_0
  exact z_ald_n hX dX7_readAddress_0 rfl (z_ald_n hX dX7_readAddress_1 rfl (z_cv (c := 7) hX hr dX7_readAddress_2 hjX7_begin mwX7_begin rfl wm12_10 ⟨wm12_11, wm12_12⟩ ⟨Nat.le_of_ble_eq_true rfl, Nat.le_of_ble_eq_true rfl⟩ (z_ald_n hX dX7_readAddress_5 rfl (z_cv (c := 7) hX hr dX7_readAddress_6 hjX7_readStreet mwX7_readStreet rfl wm54_13 ⟨wm54_14, wm54_15⟩ ⟨Nat.le_of_ble_eq_true rfl, Nat.le_of_ble_eq_true rfl⟩ (z_ifeq hX dX7_readAddress_9 (by decide) (tX7_readAddress_59 hX hr hq) (z_ald_n hX dX7_readAddress_12 rfl (z_cv (c := 7) hX hr dX7_readAddress_13 hjX7_readNumber mwX7_readNumber rfl wm54_17 ⟨wm54_18, wm54_19⟩ ⟨Nat.le_of_ble_eq_true rfl, Nat.le_of_ble_eq_true rfl⟩ (z_ifeq hX dX7_readAddress_16 (by decide) (tX7_readAddress_59 hX hr hq) (z_ald_n hX dX7_readAddress_19 rfl (z_cv (c := 7) hX hr dX7_readAddress_20 hjX7_readExtra mwX7_readExtra rfl wm55_2 ⟨wm55_3, wm55_4⟩ ⟨Nat.le_of_ble_eq_true rfl, Nat.le_of_ble_eq_true rfl⟩ (z_ifeq hX dX7_readAddress_23 (by decide) (tX7_readAddress_59 hX hr hq) (z_ald_n hX dX7_readAddress_26 rfl (z_bipush hX dX7_readAddress_27 (by decide) (z_cv (c := 7) hX hr dX7_readAddress_29 hjX7_readByte mwX7_readByte rfl wm13_11 ⟨wm13_12, wm13_13⟩ ⟨Nat.le_of_ble_eq_true rfl, Nat.le_of_ble_eq_true rfl⟩ (z_ifeq hX dX7_readAddress_32 (by decide) (tX7_readAddress_59 hX hr hq) (z_ald_n hX dX7_readAddress_35 rfl (z_bipush hX dX7_readAddress_36 (by decide) (z_cv (c := 7) hX hr dX7_readAddress_38 hjX7_readByte mwX7_readByte rfl wm13_11 ⟨wm13_12, wm13_13⟩ ⟨Nat.le_of_ble_eq_true rfl, Nat.le_of_ble_eq_true rfl⟩ (z_ifeq hX dX7_readAddress_41 (by decide) (tX7_readAddress_59 hX hr hq) (z_ald_n hX dX7_readAddress_44 rfl (z_ald_n hX dX7_readAddress_45 rfl (z_gr (c := 7) (j := 1) hX dX7_readAddress_46 rfl inlX7 wm7_0 ⟨rfl, by decide, rfl⟩ (z_cv (c := 7) hX hr dX7_readAddress_49 hjX7_readToEnd mwX7_readToEnd rfl wm12_16 ⟨wm12_17, wm12_18⟩ ⟨Nat.le_of_ble_eq_true rfl, Nat.le_of_ble_eq_true rfl⟩ ((tX7_readAddress_52 hX hr hq)))))))))))))))))))))))))
def kX11_readAddress_0 (r : pu_R) : pu_K := s_ald 0 (s_gr 11 4 (s_ald 0 (s_gr 11 0 (s_ald 0 (s_gr 11 2 (s_gr 5 5 (s_cv r 170 2 7 (s_ist 1 (s_ald 0 (s_gr 11 0 (s_push (.int (0)) (s_pi 0 0 (s_ald 0 (s_gr 11 2 (s_gr 5 6 (s_ald 0 (s_gr 11 4 (s_gi 7 5 (s_pi 1 0 (s_ild 1 (s_zret)))))))))))))))))))))
theorem vX11_readAddress_0 : pu_cok2 kX11_readAddress_0 := fun rf r hr => by
  unfold kX11_readAddress_0
  exact v_ald (v_gr (v_ald (v_gr (v_ald (v_gr (v_gr (v_cv hr (v_ist (v_ald (v_gr (v_pi (v_puti (v_ald (v_gr (v_gr (v_ald (v_gr (v_gi (v_puti (v_ild (v_zret)))))))))))))))))))))
theorem tX11_readAddress_0 {X : pu_X} {r : pu_R} (hX : pu_H X mdX11_readAddress) (hr : pu_P X.2.1 X.2.2.2.2.2.2.2.2.2.2.1 r) (hq : ∀ i pc, pu_lp i = some (171, pc) → pu_S X mdX11_readAddress pc (r i)) : pu_S X mdX11_readAddress 0 (kX11_readAddress_0 r) := by
  unfold kX11_readAddress_0
  exact z_ald_n hX dX11_readAddress_0 rfl (z_gr (c := 11) (j := 4) hX dX11_readAddress_1 rfl inlX11 wm2_1 ⟨rfl, by decide, rfl⟩ (z_ald_n hX dX11_readAddress_4 rfl (z_gr (c := 11) (j := 0) hX dX11_readAddress_5 rfl inlX11 wm1_15 ⟨rfl, by decide, rfl⟩ (z_ald_n hX dX11_readAddress_8 rfl (z_gr (c := 11) (j := 2) hX dX11_readAddress_9 rfl inlX11 wm1_20 ⟨rfl, by decide, rfl⟩ (z_gr (c := 5) (j := 5) hX dX11_readAddress_12 rfl inlX5 wm12_5 ⟨rfl, by decide, rfl⟩ (z_cv (c := 7) hX hr dX11_readAddress_15 hjX7_readAddress mwX7_readAddress rfl wm54_9 ⟨wm54_10, wm54_11⟩ ⟨Nat.le_of_ble_eq_true rfl, Nat.le_of_ble_eq_true rfl⟩ (z_ist_n hX dX11_readAddress_18 rfl (z_ald_n hX dX11_readAddress_19 rfl (z_gr (c := 11) (j := 0) hX dX11_readAddress_20 rfl inlX11 wm1_15 ⟨rfl, by decide, rfl⟩ (z_iconst hX dX11_readAddress_23 (by decide) (z_pi (c := 0) (j := 0) tyX0 tyX0_ok nmX0 hX dX11_readAddress_24 rfl inlX0 wm9_1 ⟨rfl, by decide⟩ ⟨rfl, rfl⟩ rfl (z_ald_n hX dX11_readAddress_27 rfl (z_gr (c := 11) (j := 2) hX dX11_readAddress_28 rfl inlX11 wm1_20 ⟨rfl, by decide, rfl⟩ (z_gr (c := 5) (j := 6) hX dX11_readAddress_31 rfl inlX5 wm54_0 ⟨rfl, by decide, rfl⟩ (z_ald_n hX dX11_readAddress_34 rfl (z_gr (c := 11) (j := 4) hX dX11_readAddress_35 rfl inlX11 wm2_1 ⟨rfl, by decide, rfl⟩ (z_gi (c := 7) (j := 5) hX dX11_readAddress_38 rfl inlX7 wm54_7 ⟨rfl, by decide, rfl⟩ (z_pi (c := 1) (j := 0) tyX1 tyX1_ok nmX1 hX dX11_readAddress_41 rfl inlX1 wm54_8 ⟨rfl, by decide⟩ ⟨rfl, rfl⟩ rfl (z_ild_n hX dX11_readAddress_44 rfl (z_zret hX dX11_readAddress_45 rfl)))))))))))))))))))))
def kX3_streetOn_60 (r : pu_R) : pu_K := s_push (.int (-1)) (s_iret)
theorem vX3_streetOn_60 : pu_cok2 kX3_streetOn_60 := fun rf r hr => by
  unfold kX3_streetOn_60
  exact v_pi (v_iret)
theorem tX3_streetOn_60 {X : pu_X} {r : pu_R} (hX : pu_H X mdX3_streetOn) (hr : pu_P X.2.1 X.2.2.2.2.2.2.2.2.2.2.1 r) (hq : ∀ i pc, pu_lp i = some (172, pc) → pu_S X mdX3_streetOn pc (r i)) : pu_S X mdX3_streetOn 60 (kX3_streetOn_60 r) := by
  unfold kX3_streetOn_60
  exact z_iconst hX dX3_streetOn_60 (by decide) (z_iret hX dX3_streetOn_61 rfl)
def kX3_streetOn_54 (r : pu_R) : pu_K := s_inc 5 (1) ((r 402))
theorem vX3_streetOn_54 : pu_cok2 kX3_streetOn_54 := fun rf r hr => by
  unfold kX3_streetOn_54
  exact v_inc ((hr 402))
theorem tX3_streetOn_54 {X : pu_X} {r : pu_R} (hX : pu_H X mdX3_streetOn) (hr : pu_P X.2.1 X.2.2.2.2.2.2.2.2.2.2.1 r) (hq : ∀ i pc, pu_lp i = some (172, pc) → pu_S X mdX3_streetOn pc (r i)) : pu_S X mdX3_streetOn 54 (kX3_streetOn_54 r) := by
  unfold kX3_streetOn_54
  exact z_inc hX dX3_streetOn_54 (by decide) ((z_goto hX dX3_streetOn_57 (by decide) (hq 402 3 hl402)))
def kX3_streetOn_50 (r : pu_R) : pu_K := s_ild 5 (s_ai 1 (s_iret))
theorem vX3_streetOn_50 : pu_cok2 kX3_streetOn_50 := fun rf r hr => by
  unfold kX3_streetOn_50
  exact v_ild (v_ai (v_iret))
theorem tX3_streetOn_50 {X : pu_X} {r : pu_R} (hX : pu_H X mdX3_streetOn) (hr : pu_P X.2.1 X.2.2.2.2.2.2.2.2.2.2.1 r) (hq : ∀ i pc, pu_lp i = some (172, pc) → pu_S X mdX3_streetOn pc (r i)) : pu_S X mdX3_streetOn 50 (kX3_streetOn_50 r) := by
  unfold kX3_streetOn_50
  exact z_ild hX dX3_streetOn_50 (z_iald hX dX3_streetOn_52 (z_iret hX dX3_streetOn_53 rfl))
def kX3_streetOn_3 (r : pu_R) : pu_K := s_ild 5 (s_ald 0 (s_gi 3 0 (s_icge (kX3_streetOn_60 r) (s_ald 0 (s_ild 5 (s_ald 1 (s_ild 2 (s_cv r 48 3 3 (s_ifeq (kX3_streetOn_54 r) (s_ald 4 (s_ald 0 (s_gr 3 3 (s_ild 5 (s_ai 1 (s_ald 0 (s_gr 3 4 (s_ild 5 (s_ai 1 (s_ild 3 (s_cv r 68 3 6 (s_ifeq (kX3_streetOn_54 r) (s_ald 0 (s_gr 3 1 ((kX3_streetOn_50 r)))))))))))))))))))))))))
theorem vX3_streetOn_3 : pu_cok2 kX3_streetOn_3 := fun rf r hr => by
  unfold kX3_streetOn_3
  exact v_ild (v_ald (v_gi (v_icge (vX3_streetOn_60 rf r hr) (v_ald (v_ild (v_ald (v_ild (v_cv hr (v_ifeq (vX3_streetOn_54 rf r hr) (v_ald (v_ald (v_gr (v_ild (v_ai (v_ald (v_gr (v_ild (v_ai (v_ild (v_cv hr (v_ifeq (vX3_streetOn_54 rf r hr) (v_ald (v_gr ((vX3_streetOn_50 rf r hr)))))))))))))))))))))))))
theorem tX3_streetOn_3 {X : pu_X} {r : pu_R} (hX : pu_H X mdX3_streetOn) (hr : pu_P X.2.1 X.2.2.2.2.2.2.2.2.2.2.1 r) (hq : ∀ i pc, pu_lp i = some (172, pc) → pu_S X mdX3_streetOn pc (r i)) : pu_S X mdX3_streetOn 3 (kX3_streetOn_3 r) := by
  unfold kX3_streetOn_3
  exact z_ild hX dX3_streetOn_3 (z_ald_n hX dX3_streetOn_5 rfl (z_gi (c := 3) (j := 0) hX dX3_streetOn_6 rfl inlX3 wm16_21 ⟨rfl, by decide, rfl⟩ (z_icge hX dX3_streetOn_9 (by decide) (tX3_streetOn_60 hX hr hq) (z_ald_n hX dX3_streetOn_12 rfl (z_ild hX dX3_streetOn_13 (z_ald_n hX dX3_streetOn_15 rfl (z_ild_n hX dX3_streetOn_16 rfl (z_cv (c := 3) hX hr dX3_streetOn_17 hjX3_isNamed mwX3_isNamed rfl wm19_5 ⟨wm19_6, wm19_7⟩ ⟨Nat.le_of_ble_eq_true rfl, Nat.le_of_ble_eq_true rfl⟩ (z_ifeq hX dX3_streetOn_20 (by decide) (tX3_streetOn_54 hX hr hq) (z_ald hX dX3_streetOn_23 (z_ald_n hX dX3_streetOn_25 rfl (z_gr (c := 3) (j := 3) hX dX3_streetOn_26 rfl inlX3 wm4_21 ⟨rfl, by decide, rfl⟩ (z_ild hX dX3_streetOn_29 (z_iald hX dX3_streetOn_31 (z_ald_n hX dX3_streetOn_32 rfl (z_gr (c := 3) (j := 4) hX dX3_streetOn_33 rfl inlX3 wm4_22 ⟨rfl, by decide, rfl⟩ (z_ild hX dX3_streetOn_36 (z_iald hX dX3_streetOn_38 (z_ild_n hX dX3_streetOn_39 rfl (z_cv (c := 6) hX hr dX3_streetOn_40 hjX6_holds mwX6_holds rfl wm49_18 ⟨wm24_18, wm24_19⟩ ⟨Nat.le_of_ble_eq_true rfl, Nat.le_of_ble_eq_true rfl⟩ (z_ifeq hX dX3_streetOn_43 (by decide) (tX3_streetOn_54 hX hr hq) (z_ald_n hX dX3_streetOn_46 rfl (z_gr (c := 3) (j := 1) hX dX3_streetOn_47 rfl inlX3 wm4_19 ⟨rfl, by decide, rfl⟩ ((tX3_streetOn_50 hX hr hq)))))))))))))))))))))))))
def kX3_streetOn_0 (r : pu_R) : pu_K := s_push (.int (0)) (s_ist 5 ((r 402)))
theorem vX3_streetOn_0 : pu_cok2 kX3_streetOn_0 := fun rf r hr => by
  unfold kX3_streetOn_0
  exact v_pi (v_ist ((hr 402)))
theorem tX3_streetOn_0 {X : pu_X} {r : pu_R} (hX : pu_H X mdX3_streetOn) (hr : pu_P X.2.1 X.2.2.2.2.2.2.2.2.2.2.1 r) (hq : ∀ i pc, pu_lp i = some (172, pc) → pu_S X mdX3_streetOn pc (r i)) : pu_S X mdX3_streetOn 0 (kX3_streetOn_0 r) := by
  unfold kX3_streetOn_0
  exact z_iconst hX dX3_streetOn_0 (by decide) (z_ist hX dX3_streetOn_1 ((hq 402 3 hl402)))
def kX11_viewStreetOfAddress_52 (r : pu_R) : pu_K := s_ald 0 (s_gr 11 5 (s_ald 0 (s_gr 11 2 (s_ild 3 (s_ild 1 (s_ald 0 (s_gr 11 2 (s_gr 5 3 (s_ild 3 (s_cv r 64 1 10 (s_cs r 65 1 (s_cv r 73 4 9 (s_push (.int (1)) (s_zret))))))))))))))
theorem vX11_viewStreetOfAddress_52 : pu_cok2 kX11_viewStreetOfAddress_52 := fun rf r hr => by
  unfold kX11_viewStreetOfAddress_52
  exact v_ald (v_gr (v_ald (v_gr (v_ild (v_ild (v_ald (v_gr (v_gr (v_ild (v_cv hr (v_cs hr (v_cv hr (v_pi (v_zret))))))))))))))
theorem tX11_viewStreetOfAddress_52 {X : pu_X} {r : pu_R} (hX : pu_H X mdX11_viewStreetOfAddress) (hr : pu_P X.2.1 X.2.2.2.2.2.2.2.2.2.2.1 r) (hq : ∀ i pc, pu_lp i = some (173, pc) → pu_S X mdX11_viewStreetOfAddress pc (r i)) : pu_S X mdX11_viewStreetOfAddress 52 (kX11_viewStreetOfAddress_52 r) := by
  unfold kX11_viewStreetOfAddress_52
  exact z_ald_n hX dX11_viewStreetOfAddress_52 rfl (z_gr (c := 11) (j := 5) hX dX11_viewStreetOfAddress_53 rfl inlX11 wm2_5 ⟨rfl, by decide, rfl⟩ (z_ald_n hX dX11_viewStreetOfAddress_56 rfl (z_gr (c := 11) (j := 2) hX dX11_viewStreetOfAddress_57 rfl inlX11 wm1_20 ⟨rfl, by decide, rfl⟩ (z_ild_n hX dX11_viewStreetOfAddress_60 rfl (z_ild_n hX dX11_viewStreetOfAddress_61 rfl (z_ald_n hX dX11_viewStreetOfAddress_62 rfl (z_gr (c := 11) (j := 2) hX dX11_viewStreetOfAddress_63 rfl inlX11 wm1_20 ⟨rfl, by decide, rfl⟩ (z_gr (c := 5) (j := 3) hX dX11_viewStreetOfAddress_66 rfl inlX5 wm11_22 ⟨rfl, by decide, rfl⟩ (z_ild_n hX dX11_viewStreetOfAddress_69 rfl (z_cv (c := 10) hX hr dX11_viewStreetOfAddress_70 hjX10_ruleOf mwX10_ruleOf rfl wm23_8 ⟨wm23_9, wm23_10⟩ ⟨Nat.le_of_ble_eq_true rfl, Nat.le_of_ble_eq_true rfl⟩ (z_cs hX hr dX11_viewStreetOfAddress_73 hjX11_orderOf mwX11_orderOf wm23_13 wm23_14 ⟨Nat.le_of_ble_eq_true rfl, Nat.le_of_ble_eq_true rfl⟩ (z_cv (c := 9) hX hr dX11_viewStreetOfAddress_76 hjX9_fill mwX9_fill rfl wm23_16 ⟨wm23_17, wm23_18⟩ ⟨Nat.le_of_ble_eq_true rfl, Nat.le_of_ble_eq_true rfl⟩ (z_iconst hX dX11_viewStreetOfAddress_79 (by decide) (z_zret hX dX11_viewStreetOfAddress_80 rfl))))))))))))))
def kX11_viewStreetOfAddress_50 (r : pu_R) : pu_K := s_push (.int (0)) (s_zret)
theorem vX11_viewStreetOfAddress_50 : pu_cok2 kX11_viewStreetOfAddress_50 := fun rf r hr => by
  unfold kX11_viewStreetOfAddress_50
  exact v_pi (v_zret)
theorem tX11_viewStreetOfAddress_50 {X : pu_X} {r : pu_R} (hX : pu_H X mdX11_viewStreetOfAddress) (hr : pu_P X.2.1 X.2.2.2.2.2.2.2.2.2.2.1 r) (hq : ∀ i pc, pu_lp i = some (173, pc) → pu_S X mdX11_viewStreetOfAddress pc (r i)) : pu_S X mdX11_viewStreetOfAddress 50 (kX11_viewStreetOfAddress_50 r) := by
  unfold kX11_viewStreetOfAddress_50
  exact z_iconst hX dX11_viewStreetOfAddress_50 (by decide) (z_zret hX dX11_viewStreetOfAddress_51 rfl)
def kX11_viewStreetOfAddress_0 (r : pu_R) : pu_K := s_ald 0 (s_gr 11 2 (s_gr 5 3 (s_ald 0 (s_gr 11 4 (s_gr 7 1 (s_cv r 33 1 10 (s_ist 2 (s_ald 0 (s_gr 11 2 (s_gr 5 2 (s_ald 0 (s_gr 11 4 (s_gr 7 0 (s_ild 2 (s_ild 1 (s_ald 0 (s_gr 11 2 (s_gr 5 0 (s_cv r 172 4 3 (s_ist 3 (s_ild 3 (s_push (.int (-1)) (s_icne (kX11_viewStreetOfAddress_52 r) ((kX11_viewStreetOfAddress_50 r)))))))))))))))))))))))))
theorem vX11_viewStreetOfAddress_0 : pu_cok2 kX11_viewStreetOfAddress_0 := fun rf r hr => by
  unfold kX11_viewStreetOfAddress_0
  exact v_ald (v_gr (v_gr (v_ald (v_gr (v_gr (v_cv hr (v_ist (v_ald (v_gr (v_gr (v_ald (v_gr (v_gr (v_ild (v_ild (v_ald (v_gr (v_gr (v_cv hr (v_ist (v_ild (v_pi (v_icne (vX11_viewStreetOfAddress_52 rf r hr) ((vX11_viewStreetOfAddress_50 rf r hr)))))))))))))))))))))))))
theorem tX11_viewStreetOfAddress_0 {X : pu_X} {r : pu_R} (hX : pu_H X mdX11_viewStreetOfAddress) (hr : pu_P X.2.1 X.2.2.2.2.2.2.2.2.2.2.1 r) (hq : ∀ i pc, pu_lp i = some (173, pc) → pu_S X mdX11_viewStreetOfAddress pc (r i)) : pu_S X mdX11_viewStreetOfAddress 0 (kX11_viewStreetOfAddress_0 r) := by
  unfold kX11_viewStreetOfAddress_0
  exact z_ald_n hX dX11_viewStreetOfAddress_0 rfl (z_gr (c := 11) (j := 2) hX dX11_viewStreetOfAddress_1 rfl inlX11 wm1_20 ⟨rfl, by decide, rfl⟩ (z_gr (c := 5) (j := 3) hX dX11_viewStreetOfAddress_4 rfl inlX5 wm11_22 ⟨rfl, by decide, rfl⟩ (z_ald_n hX dX11_viewStreetOfAddress_7 rfl (z_gr (c := 11) (j := 4) hX dX11_viewStreetOfAddress_8 rfl inlX11 wm2_1 ⟨rfl, by decide, rfl⟩ (z_gr (c := 7) (j := 1) hX dX11_viewStreetOfAddress_11 rfl inlX7 wm55_18 ⟨rfl, by decide, rfl⟩ (z_cv (c := 10) hX hr dX11_viewStreetOfAddress_14 hjX10_townNamed mwX10_townNamed rfl wm14_3 ⟨wm14_4, wm14_5⟩ ⟨Nat.le_of_ble_eq_true rfl, Nat.le_of_ble_eq_true rfl⟩ (z_ist_n hX dX11_viewStreetOfAddress_17 rfl (z_ald_n hX dX11_viewStreetOfAddress_18 rfl (z_gr (c := 11) (j := 2) hX dX11_viewStreetOfAddress_19 rfl inlX11 wm1_20 ⟨rfl, by decide, rfl⟩ (z_gr (c := 5) (j := 2) hX dX11_viewStreetOfAddress_22 rfl inlX5 wm16_7 ⟨rfl, by decide, rfl⟩ (z_ald_n hX dX11_viewStreetOfAddress_25 rfl (z_gr (c := 11) (j := 4) hX dX11_viewStreetOfAddress_26 rfl inlX11 wm2_1 ⟨rfl, by decide, rfl⟩ (z_gr (c := 7) (j := 0) hX dX11_viewStreetOfAddress_29 rfl inlX7 wm11_23 ⟨rfl, by decide, rfl⟩ (z_ild_n hX dX11_viewStreetOfAddress_32 rfl (z_ild_n hX dX11_viewStreetOfAddress_33 rfl (z_ald_n hX dX11_viewStreetOfAddress_34 rfl (z_gr (c := 11) (j := 2) hX dX11_viewStreetOfAddress_35 rfl inlX11 wm1_20 ⟨rfl, by decide, rfl⟩ (z_gr (c := 5) (j := 0) hX dX11_viewStreetOfAddress_38 rfl inlX5 wm10_19 ⟨rfl, by decide, rfl⟩ (z_cv (c := 3) hX hr dX11_viewStreetOfAddress_41 hjX3_streetOn mwX3_streetOn rfl wm55_19 ⟨wm55_20, wm55_21⟩ ⟨Nat.le_of_ble_eq_true rfl, Nat.le_of_ble_eq_true rfl⟩ (z_ist_n hX dX11_viewStreetOfAddress_44 rfl (z_ild_n hX dX11_viewStreetOfAddress_45 rfl (z_iconst hX dX11_viewStreetOfAddress_46 (by decide) (z_icne hX dX11_viewStreetOfAddress_47 (by decide) (tX11_viewStreetOfAddress_52 hX hr hq) ((tX11_viewStreetOfAddress_50 hX hr hq)))))))))))))))))))))))))
def kX9_couldHave_79 (r : pu_R) : pu_K := s_zret
theorem vX9_couldHave_79 : pu_cok2 kX9_couldHave_79 := fun rf r hr => by
  unfold kX9_couldHave_79
  exact v_zret
theorem tX9_couldHave_79 {X : pu_X} {r : pu_R} (hX : pu_H X mdX9_couldHave) (hr : pu_P X.2.1 X.2.2.2.2.2.2.2.2.2.2.1 r) (hq : ∀ i pc, pu_lp i = some (174, pc) → pu_S X mdX9_couldHave pc (r i)) : pu_S X mdX9_couldHave 79 (kX9_couldHave_79 r) := by
  unfold kX9_couldHave_79
  exact z_zret hX dX9_couldHave_79 rfl
def kX9_couldHave_78 (r : pu_R) : pu_K := s_push (.int (0)) ((kX9_couldHave_79 r))
theorem vX9_couldHave_78 : pu_cok2 kX9_couldHave_78 := fun rf r hr => by
  unfold kX9_couldHave_78
  exact v_pi ((vX9_couldHave_79 rf r hr))
theorem tX9_couldHave_78 {X : pu_X} {r : pu_R} (hX : pu_H X mdX9_couldHave) (hr : pu_P X.2.1 X.2.2.2.2.2.2.2.2.2.2.1 r) (hq : ∀ i pc, pu_lp i = some (174, pc) → pu_S X mdX9_couldHave pc (r i)) : pu_S X mdX9_couldHave 78 (kX9_couldHave_78 r) := by
  unfold kX9_couldHave_78
  exact z_iconst hX dX9_couldHave_78 (by decide) ((tX9_couldHave_79 hX hr hq))
def kX9_couldHave_74 (r : pu_R) : pu_K := s_push (.int (1)) ((kX9_couldHave_79 r))
theorem vX9_couldHave_74 : pu_cok2 kX9_couldHave_74 := fun rf r hr => by
  unfold kX9_couldHave_74
  exact v_pi ((vX9_couldHave_79 rf r hr))
theorem tX9_couldHave_74 {X : pu_X} {r : pu_R} (hX : pu_H X mdX9_couldHave) (hr : pu_P X.2.1 X.2.2.2.2.2.2.2.2.2.2.1 r) (hq : ∀ i pc, pu_lp i = some (174, pc) → pu_S X mdX9_couldHave pc (r i)) : pu_S X mdX9_couldHave 74 (kX9_couldHave_74 r) := by
  unfold kX9_couldHave_74
  exact z_iconst hX dX9_couldHave_74 (by decide) ((z_goto hX dX9_couldHave_75 (by decide) (tX9_couldHave_79 hX hr hq)))
def kX9_couldHave_34 (r : pu_R) : pu_K := s_ild 2 (s_ald 0 (s_ald 0 (s_gr 9 6 (s_ild 1 (s_ai 1 (s_ald 0 (s_gr 9 8 (s_ild 1 (s_ai 1 (s_cv r 75 2 9 (s_icle (kX9_couldHave_78 r) (s_ild 2 (s_ald 0 (s_ald 0 (s_gr 9 6 (s_ild 1 (s_ai 1 (s_ald 0 (s_gr 9 8 (s_ild 1 (s_ai 1 (s_cv r 76 2 9 (s_icge (kX9_couldHave_78 r) ((kX9_couldHave_74 r)))))))))))))))))))))))))
theorem vX9_couldHave_34 : pu_cok2 kX9_couldHave_34 := fun rf r hr => by
  unfold kX9_couldHave_34
  exact v_ild (v_ald (v_ald (v_gr (v_ild (v_ai (v_ald (v_gr (v_ild (v_ai (v_cv hr (v_icle (vX9_couldHave_78 rf r hr) (v_ild (v_ald (v_ald (v_gr (v_ild (v_ai (v_ald (v_gr (v_ild (v_ai (v_cv hr (v_icge (vX9_couldHave_78 rf r hr) ((vX9_couldHave_74 rf r hr)))))))))))))))))))))))))
theorem tX9_couldHave_34 {X : pu_X} {r : pu_R} (hX : pu_H X mdX9_couldHave) (hr : pu_P X.2.1 X.2.2.2.2.2.2.2.2.2.2.1 r) (hq : ∀ i pc, pu_lp i = some (174, pc) → pu_S X mdX9_couldHave pc (r i)) : pu_S X mdX9_couldHave 34 (kX9_couldHave_34 r) := by
  unfold kX9_couldHave_34
  exact z_ild_n hX dX9_couldHave_34 rfl (z_ald_n hX dX9_couldHave_35 rfl (z_ald_n hX dX9_couldHave_36 rfl (z_gr (c := 9) (j := 6) hX dX9_couldHave_37 rfl inlX9 wm7_8 ⟨rfl, by decide, rfl⟩ (z_ild_n hX dX9_couldHave_40 rfl (z_iald hX dX9_couldHave_41 (z_ald_n hX dX9_couldHave_42 rfl (z_gr (c := 9) (j := 8) hX dX9_couldHave_43 rfl inlX9 wm7_10 ⟨rfl, by decide, rfl⟩ (z_ild_n hX dX9_couldHave_46 rfl (z_iald hX dX9_couldHave_47 (z_cv (c := 9) hX hr dX9_couldHave_48 hjX9_lowAt mwX9_lowAt rfl wm25_21 ⟨wm25_22, wm25_23⟩ ⟨Nat.le_of_ble_eq_true rfl, Nat.le_of_ble_eq_true rfl⟩ (z_icle hX dX9_couldHave_51 (by decide) (tX9_couldHave_78 hX hr hq) (z_ild_n hX dX9_couldHave_54 rfl (z_ald_n hX dX9_couldHave_55 rfl (z_ald_n hX dX9_couldHave_56 rfl (z_gr (c := 9) (j := 6) hX dX9_couldHave_57 rfl inlX9 wm7_8 ⟨rfl, by decide, rfl⟩ (z_ild_n hX dX9_couldHave_60 rfl (z_iald hX dX9_couldHave_61 (z_ald_n hX dX9_couldHave_62 rfl (z_gr (c := 9) (j := 8) hX dX9_couldHave_63 rfl inlX9 wm7_10 ⟨rfl, by decide, rfl⟩ (z_ild_n hX dX9_couldHave_66 rfl (z_iald hX dX9_couldHave_67 (z_cv (c := 9) hX hr dX9_couldHave_68 hjX9_highAt mwX9_highAt rfl wm26_5 ⟨wm26_6, wm26_7⟩ ⟨Nat.le_of_ble_eq_true rfl, Nat.le_of_ble_eq_true rfl⟩ (z_icge hX dX9_couldHave_71 (by decide) (tX9_couldHave_78 hX hr hq) ((tX9_couldHave_74 hX hr hq)))))))))))))))))))))))))
def kX9_couldHave_32 (r : pu_R) : pu_K := s_push (.int (0)) (s_zret)
theorem vX9_couldHave_32 : pu_cok2 kX9_couldHave_32 := fun rf r hr => by
  unfold kX9_couldHave_32
  exact v_pi (v_zret)
theorem tX9_couldHave_32 {X : pu_X} {r : pu_R} (hX : pu_H X mdX9_couldHave) (hr : pu_P X.2.1 X.2.2.2.2.2.2.2.2.2.2.1 r) (hq : ∀ i pc, pu_lp i = some (174, pc) → pu_S X mdX9_couldHave pc (r i)) : pu_S X mdX9_couldHave 32 (kX9_couldHave_32 r) := by
  unfold kX9_couldHave_32
  exact z_iconst hX dX9_couldHave_32 (by decide) (z_zret hX dX9_couldHave_33 rfl)
def kX9_couldHave_0 (r : pu_R) : pu_K := s_ald 0 (s_gr 9 5 (s_ild 1 (s_ai 1 (s_ifne (kX9_couldHave_32 r) (s_ald 0 (s_gi 9 1 (s_ifne (kX9_couldHave_34 r) (s_ild 2 (s_push (.int (16)) (s_idiv (s_ald 0 (s_gr 9 6 (s_ild 1 (s_ai 1 (s_cs r 77 2 (s_ifne (kX9_couldHave_34 r) ((kX9_couldHave_32 r))))))))))))))))))
theorem vX9_couldHave_0 : pu_cok2 kX9_couldHave_0 := fun rf r hr => by
  unfold kX9_couldHave_0
  exact v_ald (v_gr (v_ild (v_ai (v_ifne (vX9_couldHave_32 rf r hr) (v_ald (v_gi (v_ifne (vX9_couldHave_34 rf r hr) (v_ild (v_pi (v_idiv (v_ald (v_gr (v_ild (v_ai (v_cs hr (v_ifne (vX9_couldHave_34 rf r hr) ((vX9_couldHave_32 rf r hr))))))))))))))))))
theorem tX9_couldHave_0 {X : pu_X} {r : pu_R} (hX : pu_H X mdX9_couldHave) (hr : pu_P X.2.1 X.2.2.2.2.2.2.2.2.2.2.1 r) (hq : ∀ i pc, pu_lp i = some (174, pc) → pu_S X mdX9_couldHave pc (r i)) : pu_S X mdX9_couldHave 0 (kX9_couldHave_0 r) := by
  unfold kX9_couldHave_0
  exact z_ald_n hX dX9_couldHave_0 rfl (z_gr (c := 9) (j := 5) hX dX9_couldHave_1 rfl inlX9 wm7_7 ⟨rfl, by decide, rfl⟩ (z_ild_n hX dX9_couldHave_4 rfl (z_iald hX dX9_couldHave_5 (z_ifne hX dX9_couldHave_6 (by decide) (tX9_couldHave_32 hX hr hq) (z_ald_n hX dX9_couldHave_9 rfl (z_gi (c := 9) (j := 1) hX dX9_couldHave_10 rfl inlX9 wm23_22 ⟨rfl, by decide, rfl⟩ (z_ifne hX dX9_couldHave_13 (by decide) (tX9_couldHave_34 hX hr hq) (z_ild_n hX dX9_couldHave_16 rfl (z_bipush hX dX9_couldHave_17 (by decide) (z_idiv hX dX9_couldHave_19 (z_ald_n hX dX9_couldHave_20 rfl (z_gr (c := 9) (j := 6) hX dX9_couldHave_21 rfl inlX9 wm7_8 ⟨rfl, by decide, rfl⟩ (z_ild_n hX dX9_couldHave_24 rfl (z_iald hX dX9_couldHave_25 (z_csN hX hr dX9_couldHave_26 hjX11_areDigitsOfSide mwX11_areDigitsOfSide ne12 wm26_14 ⟨Nat.le_of_ble_eq_true rfl, Nat.le_of_ble_eq_true rfl⟩ (z_ifne hX dX9_couldHave_29 (by decide) (tX9_couldHave_34 hX hr hq) ((tX9_couldHave_32 hX hr hq))))))))))))))))))
def kX9_isInGap_28 (r : pu_R) : pu_K := s_zret
theorem vX9_isInGap_28 : pu_cok2 kX9_isInGap_28 := fun rf r hr => by
  unfold kX9_isInGap_28
  exact v_zret
theorem tX9_isInGap_28 {X : pu_X} {r : pu_R} (hX : pu_H X mdX9_isInGap) (hr : pu_P X.2.1 X.2.2.2.2.2.2.2.2.2.2.1 r) (hq : ∀ i pc, pu_lp i = some (175, pc) → pu_S X mdX9_isInGap pc (r i)) : pu_S X mdX9_isInGap 28 (kX9_isInGap_28 r) := by
  unfold kX9_isInGap_28
  exact z_zret hX dX9_isInGap_28 rfl
def kX9_isInGap_27 (r : pu_R) : pu_K := s_push (.int (0)) ((kX9_isInGap_28 r))
theorem vX9_isInGap_27 : pu_cok2 kX9_isInGap_27 := fun rf r hr => by
  unfold kX9_isInGap_27
  exact v_pi ((vX9_isInGap_28 rf r hr))
theorem tX9_isInGap_27 {X : pu_X} {r : pu_R} (hX : pu_H X mdX9_isInGap) (hr : pu_P X.2.1 X.2.2.2.2.2.2.2.2.2.2.1 r) (hq : ∀ i pc, pu_lp i = some (175, pc) → pu_S X mdX9_isInGap pc (r i)) : pu_S X mdX9_isInGap 27 (kX9_isInGap_27 r) := by
  unfold kX9_isInGap_27
  exact z_iconst hX dX9_isInGap_27 (by decide) ((tX9_isInGap_28 hX hr hq))
def kX9_isInGap_0 (r : pu_R) : pu_K := s_ald 0 (s_gr 9 5 (s_ild 1 (s_ai 1 (s_ifne (kX9_isInGap_27 r) (s_ald 0 (s_ild 1 (s_ald 0 (s_gr 9 6 (s_ild 2 (s_ai 1 (s_cv r 74 2 9 (s_ifeq (kX9_isInGap_27 r) (s_push (.int (1)) ((kX9_isInGap_28 r)))))))))))))))
theorem vX9_isInGap_0 : pu_cok2 kX9_isInGap_0 := fun rf r hr => by
  unfold kX9_isInGap_0
  exact v_ald (v_gr (v_ild (v_ai (v_ifne (vX9_isInGap_27 rf r hr) (v_ald (v_ild (v_ald (v_gr (v_ild (v_ai (v_cv hr (v_ifeq (vX9_isInGap_27 rf r hr) (v_pi ((vX9_isInGap_28 rf r hr)))))))))))))))
theorem tX9_isInGap_0 {X : pu_X} {r : pu_R} (hX : pu_H X mdX9_isInGap) (hr : pu_P X.2.1 X.2.2.2.2.2.2.2.2.2.2.1 r) (hq : ∀ i pc, pu_lp i = some (175, pc) → pu_S X mdX9_isInGap pc (r i)) : pu_S X mdX9_isInGap 0 (kX9_isInGap_0 r) := by
  unfold kX9_isInGap_0
  exact z_ald_n hX dX9_isInGap_0 rfl (z_gr (c := 9) (j := 5) hX dX9_isInGap_1 rfl inlX9 wm7_7 ⟨rfl, by decide, rfl⟩ (z_ild_n hX dX9_isInGap_4 rfl (z_iald hX dX9_isInGap_5 (z_ifne hX dX9_isInGap_6 (by decide) (tX9_isInGap_27 hX hr hq) (z_ald_n hX dX9_isInGap_9 rfl (z_ild_n hX dX9_isInGap_10 rfl (z_ald_n hX dX9_isInGap_11 rfl (z_gr (c := 9) (j := 6) hX dX9_isInGap_12 rfl inlX9 wm7_8 ⟨rfl, by decide, rfl⟩ (z_ild_n hX dX9_isInGap_15 rfl (z_iald hX dX9_isInGap_16 (z_cv (c := 9) hX hr dX9_isInGap_17 hjX9_isInLine mwX9_isInLine rfl wm26_1 ⟨wm26_2, wm26_3⟩ ⟨Nat.le_of_ble_eq_true rfl, Nat.le_of_ble_eq_true rfl⟩ (z_ifeq hX dX9_isInGap_20 (by decide) (tX9_isInGap_27 hX hr hq) (z_iconst hX dX9_isInGap_23 (by decide) ((z_goto hX dX9_isInGap_24 (by decide) (tX9_isInGap_28 hX hr hq))))))))))))))))
def kX9_unknownInGapOf_58 (r : pu_R) : pu_K := s_ild 2 (s_iret)
theorem vX9_unknownInGapOf_58 : pu_cok2 kX9_unknownInGapOf_58 := fun rf r hr => by
  unfold kX9_unknownInGapOf_58
  exact v_ild (v_iret)
theorem tX9_unknownInGapOf_58 {X : pu_X} {r : pu_R} (hX : pu_H X mdX9_unknownInGapOf) (hr : pu_P X.2.1 X.2.2.2.2.2.2.2.2.2.2.1 r) (hq : ∀ i pc, pu_lp i = some (176, pc) → pu_S X mdX9_unknownInGapOf pc (r i)) : pu_S X mdX9_unknownInGapOf 58 (kX9_unknownInGapOf_58 r) := by
  unfold kX9_unknownInGapOf_58
  exact z_ild_n hX dX9_unknownInGapOf_58 rfl (z_iret hX dX9_unknownInGapOf_59 rfl)
def kX9_unknownInGapOf_32 (r : pu_R) : pu_K := s_ild 3 (s_ald 0 (s_gi 9 0 (s_icge (kX9_unknownInGapOf_58 r) (s_ald 0 (s_ild 3 (s_ild 1 (s_cv r 175 2 9 (s_ifeq (kX9_unknownInGapOf_58 r) (s_inc 2 (1) (s_inc 3 (1) ((r 404))))))))))))
theorem vX9_unknownInGapOf_32 : pu_cok2 kX9_unknownInGapOf_32 := fun rf r hr => by
  unfold kX9_unknownInGapOf_32
  exact v_ild (v_ald (v_gi (v_icge (vX9_unknownInGapOf_58 rf r hr) (v_ald (v_ild (v_ild (v_cv hr (v_ifeq (vX9_unknownInGapOf_58 rf r hr) (v_inc (v_inc ((hr 404))))))))))))
theorem tX9_unknownInGapOf_32 {X : pu_X} {r : pu_R} (hX : pu_H X mdX9_unknownInGapOf) (hr : pu_P X.2.1 X.2.2.2.2.2.2.2.2.2.2.1 r) (hq : ∀ i pc, pu_lp i = some (176, pc) → pu_S X mdX9_unknownInGapOf pc (r i)) : pu_S X mdX9_unknownInGapOf 32 (kX9_unknownInGapOf_32 r) := by
  unfold kX9_unknownInGapOf_32
  exact z_ild_n hX dX9_unknownInGapOf_32 rfl (z_ald_n hX dX9_unknownInGapOf_33 rfl (z_gi (c := 9) (j := 0) hX dX9_unknownInGapOf_34 rfl inlX9 wm23_20 ⟨rfl, by decide, rfl⟩ (z_icge hX dX9_unknownInGapOf_37 (by decide) (tX9_unknownInGapOf_58 hX hr hq) (z_ald_n hX dX9_unknownInGapOf_40 rfl (z_ild_n hX dX9_unknownInGapOf_41 rfl (z_ild_n hX dX9_unknownInGapOf_42 rfl (z_cv (c := 9) hX hr dX9_unknownInGapOf_43 hjX9_isInGap mwX9_isInGap rfl wm56_16 ⟨wm56_17, wm56_18⟩ ⟨Nat.le_of_ble_eq_true rfl, Nat.le_of_ble_eq_true rfl⟩ (z_ifeq hX dX9_unknownInGapOf_46 (by decide) (tX9_unknownInGapOf_58 hX hr hq) (z_inc hX dX9_unknownInGapOf_49 (by decide) (z_inc hX dX9_unknownInGapOf_52 (by decide) ((z_goto hX dX9_unknownInGapOf_55 (by decide) (hq 404 32 hl404)))))))))))))
def kX9_unknownInGapOf_28 (r : pu_R) : pu_K := s_ild 1 (s_push (.int (1)) (s_iadd (s_ist 3 ((r 404)))))
theorem vX9_unknownInGapOf_28 : pu_cok2 kX9_unknownInGapOf_28 := fun rf r hr => by
  unfold kX9_unknownInGapOf_28
  exact v_ild (v_pi (v_iadd (v_ist ((hr 404)))))
theorem tX9_unknownInGapOf_28 {X : pu_X} {r : pu_R} (hX : pu_H X mdX9_unknownInGapOf) (hr : pu_P X.2.1 X.2.2.2.2.2.2.2.2.2.2.1 r) (hq : ∀ i pc, pu_lp i = some (176, pc) → pu_S X mdX9_unknownInGapOf pc (r i)) : pu_S X mdX9_unknownInGapOf 28 (kX9_unknownInGapOf_28 r) := by
  unfold kX9_unknownInGapOf_28
  exact z_ild_n hX dX9_unknownInGapOf_28 rfl (z_iconst hX dX9_unknownInGapOf_29 (by decide) (z_iadd hX dX9_unknownInGapOf_30 (z_ist_n hX dX9_unknownInGapOf_31 rfl ((hq 404 32 hl404)))))
def kX9_unknownInGapOf_6 (r : pu_R) : pu_K := s_ild 3 (s_iflt (kX9_unknownInGapOf_28 r) (s_ald 0 (s_ild 3 (s_ild 1 (s_cv r 175 2 9 (s_ifeq (kX9_unknownInGapOf_28 r) (s_inc 2 (1) (s_inc 3 (-1) ((r 403))))))))))
theorem vX9_unknownInGapOf_6 : pu_cok2 kX9_unknownInGapOf_6 := fun rf r hr => by
  unfold kX9_unknownInGapOf_6
  exact v_ild (v_iflt (vX9_unknownInGapOf_28 rf r hr) (v_ald (v_ild (v_ild (v_cv hr (v_ifeq (vX9_unknownInGapOf_28 rf r hr) (v_inc (v_inc ((hr 403))))))))))
theorem tX9_unknownInGapOf_6 {X : pu_X} {r : pu_R} (hX : pu_H X mdX9_unknownInGapOf) (hr : pu_P X.2.1 X.2.2.2.2.2.2.2.2.2.2.1 r) (hq : ∀ i pc, pu_lp i = some (176, pc) → pu_S X mdX9_unknownInGapOf pc (r i)) : pu_S X mdX9_unknownInGapOf 6 (kX9_unknownInGapOf_6 r) := by
  unfold kX9_unknownInGapOf_6
  exact z_ild_n hX dX9_unknownInGapOf_6 rfl (z_iflt hX dX9_unknownInGapOf_7 (by decide) (tX9_unknownInGapOf_28 hX hr hq) (z_ald_n hX dX9_unknownInGapOf_10 rfl (z_ild_n hX dX9_unknownInGapOf_11 rfl (z_ild_n hX dX9_unknownInGapOf_12 rfl (z_cv (c := 9) hX hr dX9_unknownInGapOf_13 hjX9_isInGap mwX9_isInGap rfl wm56_16 ⟨wm56_17, wm56_18⟩ ⟨Nat.le_of_ble_eq_true rfl, Nat.le_of_ble_eq_true rfl⟩ (z_ifeq hX dX9_unknownInGapOf_16 (by decide) (tX9_unknownInGapOf_28 hX hr hq) (z_inc hX dX9_unknownInGapOf_19 (by decide) (z_inc hX dX9_unknownInGapOf_22 (by decide) ((z_goto hX dX9_unknownInGapOf_25 (by decide) (hq 403 6 hl403)))))))))))
def kX9_unknownInGapOf_0 (r : pu_R) : pu_K := s_push (.int (1)) (s_ist 2 (s_ild 1 (s_push (.int (1)) (s_isub (s_ist 3 ((r 403)))))))
theorem vX9_unknownInGapOf_0 : pu_cok2 kX9_unknownInGapOf_0 := fun rf r hr => by
  unfold kX9_unknownInGapOf_0
  exact v_pi (v_ist (v_ild (v_pi (v_isub (v_ist ((hr 403)))))))
theorem tX9_unknownInGapOf_0 {X : pu_X} {r : pu_R} (hX : pu_H X mdX9_unknownInGapOf) (hr : pu_P X.2.1 X.2.2.2.2.2.2.2.2.2.2.1 r) (hq : ∀ i pc, pu_lp i = some (176, pc) → pu_S X mdX9_unknownInGapOf pc (r i)) : pu_S X mdX9_unknownInGapOf 0 (kX9_unknownInGapOf_0 r) := by
  unfold kX9_unknownInGapOf_0
  exact z_iconst hX dX9_unknownInGapOf_0 (by decide) (z_ist_n hX dX9_unknownInGapOf_1 rfl (z_ild_n hX dX9_unknownInGapOf_2 rfl (z_iconst hX dX9_unknownInGapOf_3 (by decide) (z_isub hX dX9_unknownInGapOf_4 (z_ist_n hX dX9_unknownInGapOf_5 rfl ((hq 403 6 hl403)))))))
def kX9_likelyRankOf_0 (r : pu_R) : pu_K := s_push (.int (2)) (s_ald 0 (s_ild 1 (s_cv r 176 1 9 (s_imul (s_ald 0 (s_gr 9 6 (s_ild 1 (s_ai 1 (s_iadd (s_push (.int (20000)) (s_imul (s_ald 0 (s_gr 9 7 (s_ild 1 (s_ai 1 (s_iadd (s_iret)))))))))))))))))
theorem vX9_likelyRankOf_0 : pu_cok2 kX9_likelyRankOf_0 := fun rf r hr => by
  unfold kX9_likelyRankOf_0
  exact v_pi (v_ald (v_ild (v_cv hr (v_imul (v_ald (v_gr (v_ild (v_ai (v_iadd (v_pi (v_imul (v_ald (v_gr (v_ild (v_ai (v_iadd (v_iret)))))))))))))))))
theorem tX9_likelyRankOf_0 {X : pu_X} {r : pu_R} (hX : pu_H X mdX9_likelyRankOf) (hr : pu_P X.2.1 X.2.2.2.2.2.2.2.2.2.2.1 r) (hq : ∀ i pc, pu_lp i = some (177, pc) → pu_S X mdX9_likelyRankOf pc (r i)) : pu_S X mdX9_likelyRankOf 0 (kX9_likelyRankOf_0 r) := by
  unfold kX9_likelyRankOf_0
  exact z_iconst hX dX9_likelyRankOf_0 (by decide) (z_ald_n hX dX9_likelyRankOf_1 rfl (z_ild_n hX dX9_likelyRankOf_2 rfl (z_cv (c := 9) hX hr dX9_likelyRankOf_3 hjX9_unknownInGapOf mwX9_unknownInGapOf rfl wm56_12 ⟨wm56_13, wm56_14⟩ ⟨Nat.le_of_ble_eq_true rfl, Nat.le_of_ble_eq_true rfl⟩ (z_imul hX dX9_likelyRankOf_6 (z_ald_n hX dX9_likelyRankOf_7 rfl (z_gr (c := 9) (j := 6) hX dX9_likelyRankOf_8 rfl inlX9 wm7_8 ⟨rfl, by decide, rfl⟩ (z_ild_n hX dX9_likelyRankOf_11 rfl (z_iald hX dX9_likelyRankOf_12 (z_iadd hX dX9_likelyRankOf_13 (z_sipush hX dX9_likelyRankOf_14 (by decide) (z_imul hX dX9_likelyRankOf_17 (z_ald_n hX dX9_likelyRankOf_18 rfl (z_gr (c := 9) (j := 7) hX dX9_likelyRankOf_19 rfl inlX9 wm7_9 ⟨rfl, by decide, rfl⟩ (z_ild_n hX dX9_likelyRankOf_22 rfl (z_iald hX dX9_likelyRankOf_23 (z_iadd hX dX9_likelyRankOf_24 (z_iret hX dX9_likelyRankOf_25 rfl)))))))))))))))))
def kX11_isTold_86 (r : pu_R) : pu_K := s_zret
theorem vX11_isTold_86 : pu_cok2 kX11_isTold_86 := fun rf r hr => by
  unfold kX11_isTold_86
  exact v_zret
theorem tX11_isTold_86 {X : pu_X} {r : pu_R} (hX : pu_H X mdX11_isTold) (hr : pu_P X.2.1 X.2.2.2.2.2.2.2.2.2.2.1 r) (hq : ∀ i pc, pu_lp i = some (178, pc) → pu_S X mdX11_isTold pc (r i)) : pu_S X mdX11_isTold 86 (kX11_isTold_86 r) := by
  unfold kX11_isTold_86
  exact z_zret hX dX11_isTold_86 rfl
def kX11_isTold_85 (r : pu_R) : pu_K := s_push (.int (0)) ((kX11_isTold_86 r))
theorem vX11_isTold_85 : pu_cok2 kX11_isTold_85 := fun rf r hr => by
  unfold kX11_isTold_85
  exact v_pi ((vX11_isTold_86 rf r hr))
theorem tX11_isTold_85 {X : pu_X} {r : pu_R} (hX : pu_H X mdX11_isTold) (hr : pu_P X.2.1 X.2.2.2.2.2.2.2.2.2.2.1 r) (hq : ∀ i pc, pu_lp i = some (178, pc) → pu_S X mdX11_isTold pc (r i)) : pu_S X mdX11_isTold 85 (kX11_isTold_85 r) := by
  unfold kX11_isTold_85
  exact z_iconst hX dX11_isTold_85 (by decide) ((tX11_isTold_86 hX hr hq))
def kX11_isTold_72 (r : pu_R) : pu_K := s_gr 11 4 (s_gi 7 4 (s_icne (kX11_isTold_85 r) (s_push (.int (1)) ((kX11_isTold_86 r)))))
theorem vX11_isTold_72 : pu_cok2 kX11_isTold_72 := fun rf r hr => by
  unfold kX11_isTold_72
  exact v_gr (v_gi (v_icne (vX11_isTold_85 rf r hr) (v_pi ((vX11_isTold_86 rf r hr)))))
theorem tX11_isTold_72 {X : pu_X} {r : pu_R} (hX : pu_H X mdX11_isTold) (hr : pu_P X.2.1 X.2.2.2.2.2.2.2.2.2.2.1 r) (hq : ∀ i pc, pu_lp i = some (178, pc) → pu_S X mdX11_isTold pc (r i)) : pu_S X mdX11_isTold 72 (kX11_isTold_72 r) := by
  unfold kX11_isTold_72
  exact z_gr (c := 11) (j := 4) hX dX11_isTold_72 rfl inlX11 wm2_1 ⟨rfl, by decide, rfl⟩ (z_gi (c := 7) (j := 4) hX dX11_isTold_75 rfl inlX7 wm57_9 ⟨rfl, by decide, rfl⟩ (z_icne hX dX11_isTold_78 (by decide) (tX11_isTold_85 hX hr hq) (z_iconst hX dX11_isTold_81 (by decide) ((z_goto hX dX11_isTold_82 (by decide) (tX11_isTold_86 hX hr hq))))))
def kX11_isTold_22 (r : pu_R) : pu_K := s_ald 0 (s_gr 11 2 (s_gr 5 4 (s_gr 2 3 (s_ild 1 (s_ai 1 (s_ild 2 (s_icne (kX11_isTold_85 r) (s_ald 0 (s_gr 11 2 (s_gr 5 4 (s_ild 1 (s_cv r 91 1 2 (s_ald 0 (s_gr 11 4 (s_gi 7 3 (s_icne (kX11_isTold_85 r) (s_ald 0 (s_gr 11 2 (s_gr 5 4 (s_gr 2 4 (s_ild 1 (s_ai 1 (s_ald 0 ((kX11_isTold_72 r)))))))))))))))))))))))))
theorem vX11_isTold_22 : pu_cok2 kX11_isTold_22 := fun rf r hr => by
  unfold kX11_isTold_22
  exact v_ald (v_gr (v_gr (v_gr (v_ild (v_ai (v_ild (v_icne (vX11_isTold_85 rf r hr) (v_ald (v_gr (v_gr (v_ild (v_cv hr (v_ald (v_gr (v_gi (v_icne (vX11_isTold_85 rf r hr) (v_ald (v_gr (v_gr (v_gr (v_ild (v_ai (v_ald ((vX11_isTold_72 rf r hr)))))))))))))))))))))))))
theorem tX11_isTold_22 {X : pu_X} {r : pu_R} (hX : pu_H X mdX11_isTold) (hr : pu_P X.2.1 X.2.2.2.2.2.2.2.2.2.2.1 r) (hq : ∀ i pc, pu_lp i = some (178, pc) → pu_S X mdX11_isTold pc (r i)) : pu_S X mdX11_isTold 22 (kX11_isTold_22 r) := by
  unfold kX11_isTold_22
  exact z_ald_n hX dX11_isTold_22 rfl (z_gr (c := 11) (j := 2) hX dX11_isTold_23 rfl inlX11 wm1_20 ⟨rfl, by decide, rfl⟩ (z_gr (c := 5) (j := 4) hX dX11_isTold_26 rfl inlX5 wm21_20 ⟨rfl, by decide, rfl⟩ (z_gr (c := 2) (j := 3) hX dX11_isTold_29 rfl inlX2 wm46_18 ⟨rfl, by decide, rfl⟩ (z_ild_n hX dX11_isTold_32 rfl (z_iald hX dX11_isTold_33 (z_ild_n hX dX11_isTold_34 rfl (z_icne hX dX11_isTold_35 (by decide) (tX11_isTold_85 hX hr hq) (z_ald_n hX dX11_isTold_38 rfl (z_gr (c := 11) (j := 2) hX dX11_isTold_39 rfl inlX11 wm1_20 ⟨rfl, by decide, rfl⟩ (z_gr (c := 5) (j := 4) hX dX11_isTold_42 rfl inlX5 wm21_20 ⟨rfl, by decide, rfl⟩ (z_ild_n hX dX11_isTold_45 rfl (z_cv (c := 2) hX hr dX11_isTold_46 hjX2_sortOf mwX2_sortOf rfl wm32_18 ⟨wm32_19, wm32_20⟩ ⟨Nat.le_of_ble_eq_true rfl, Nat.le_of_ble_eq_true rfl⟩ (z_ald_n hX dX11_isTold_49 rfl (z_gr (c := 11) (j := 4) hX dX11_isTold_50 rfl inlX11 wm2_1 ⟨rfl, by decide, rfl⟩ (z_gi (c := 7) (j := 3) hX dX11_isTold_53 rfl inlX7 wm57_8 ⟨rfl, by decide, rfl⟩ (z_icne hX dX11_isTold_56 (by decide) (tX11_isTold_85 hX hr hq) (z_ald_n hX dX11_isTold_59 rfl (z_gr (c := 11) (j := 2) hX dX11_isTold_60 rfl inlX11 wm1_20 ⟨rfl, by decide, rfl⟩ (z_gr (c := 5) (j := 4) hX dX11_isTold_63 rfl inlX5 wm21_20 ⟨rfl, by decide, rfl⟩ (z_gr (c := 2) (j := 4) hX dX11_isTold_66 rfl inlX2 wm46_22 ⟨rfl, by decide, rfl⟩ (z_ild_n hX dX11_isTold_69 rfl (z_iald hX dX11_isTold_70 (z_ald_n hX dX11_isTold_71 rfl ((tX11_isTold_72 hX hr hq)))))))))))))))))))))))))
def kX11_isTold_21 (r : pu_R) : pu_K := s_zret
theorem vX11_isTold_21 : pu_cok2 kX11_isTold_21 := fun rf r hr => by
  unfold kX11_isTold_21
  exact v_zret
theorem tX11_isTold_21 {X : pu_X} {r : pu_R} (hX : pu_H X mdX11_isTold) (hr : pu_P X.2.1 X.2.2.2.2.2.2.2.2.2.2.1 r) (hq : ∀ i pc, pu_lp i = some (178, pc) → pu_S X mdX11_isTold pc (r i)) : pu_S X mdX11_isTold 21 (kX11_isTold_21 r) := by
  unfold kX11_isTold_21
  exact z_zret hX dX11_isTold_21 rfl
def kX11_isTold_20 (r : pu_R) : pu_K := s_push (.int (0)) ((kX11_isTold_21 r))
theorem vX11_isTold_20 : pu_cok2 kX11_isTold_20 := fun rf r hr => by
  unfold kX11_isTold_20
  exact v_pi ((vX11_isTold_21 rf r hr))
theorem tX11_isTold_20 {X : pu_X} {r : pu_R} (hX : pu_H X mdX11_isTold) (hr : pu_P X.2.1 X.2.2.2.2.2.2.2.2.2.2.1 r) (hq : ∀ i pc, pu_lp i = some (178, pc) → pu_S X mdX11_isTold pc (r i)) : pu_S X mdX11_isTold 20 (kX11_isTold_20 r) := by
  unfold kX11_isTold_20
  exact z_iconst hX dX11_isTold_20 (by decide) ((tX11_isTold_21 hX hr hq))
def kX11_isTold_0 (r : pu_R) : pu_K := s_ald 0 (s_gr 11 4 (s_gi 7 3 (s_push (.int (-1)) (s_icne (kX11_isTold_22 r) (s_ild 1 (s_ild 2 (s_icne (kX11_isTold_20 r) (s_push (.int (1)) ((kX11_isTold_21 r))))))))))
theorem vX11_isTold_0 : pu_cok2 kX11_isTold_0 := fun rf r hr => by
  unfold kX11_isTold_0
  exact v_ald (v_gr (v_gi (v_pi (v_icne (vX11_isTold_22 rf r hr) (v_ild (v_ild (v_icne (vX11_isTold_20 rf r hr) (v_pi ((vX11_isTold_21 rf r hr))))))))))
theorem tX11_isTold_0 {X : pu_X} {r : pu_R} (hX : pu_H X mdX11_isTold) (hr : pu_P X.2.1 X.2.2.2.2.2.2.2.2.2.2.1 r) (hq : ∀ i pc, pu_lp i = some (178, pc) → pu_S X mdX11_isTold pc (r i)) : pu_S X mdX11_isTold 0 (kX11_isTold_0 r) := by
  unfold kX11_isTold_0
  exact z_ald_n hX dX11_isTold_0 rfl (z_gr (c := 11) (j := 4) hX dX11_isTold_1 rfl inlX11 wm2_1 ⟨rfl, by decide, rfl⟩ (z_gi (c := 7) (j := 3) hX dX11_isTold_4 rfl inlX7 wm57_8 ⟨rfl, by decide, rfl⟩ (z_iconst hX dX11_isTold_7 (by decide) (z_icne hX dX11_isTold_8 (by decide) (tX11_isTold_22 hX hr hq) (z_ild_n hX dX11_isTold_11 rfl (z_ild_n hX dX11_isTold_12 rfl (z_icne hX dX11_isTold_13 (by decide) (tX11_isTold_20 hX hr hq) (z_iconst hX dX11_isTold_16 (by decide) ((z_goto hX dX11_isTold_17 (by decide) (tX11_isTold_21 hX hr hq)))))))))))
def kX11_toldOf_55 (r : pu_R) : pu_K := s_push (.int (-1)) (s_iret)
theorem vX11_toldOf_55 : pu_cok2 kX11_toldOf_55 := fun rf r hr => by
  unfold kX11_toldOf_55
  exact v_pi (v_iret)
theorem tX11_toldOf_55 {X : pu_X} {r : pu_R} (hX : pu_H X mdX11_toldOf) (hr : pu_P X.2.1 X.2.2.2.2.2.2.2.2.2.2.1 r) (hq : ∀ i pc, pu_lp i = some (179, pc) → pu_S X mdX11_toldOf pc (r i)) : pu_S X mdX11_toldOf 55 (kX11_toldOf_55 r) := by
  unfold kX11_toldOf_55
  exact z_iconst hX dX11_toldOf_55 (by decide) (z_iret hX dX11_toldOf_56 rfl)
def kX11_toldOf_49 (r : pu_R) : pu_K := s_inc 3 (1) ((r 405))
theorem vX11_toldOf_49 : pu_cok2 kX11_toldOf_49 := fun rf r hr => by
  unfold kX11_toldOf_49
  exact v_inc ((hr 405))
theorem tX11_toldOf_49 {X : pu_X} {r : pu_R} (hX : pu_H X mdX11_toldOf) (hr : pu_P X.2.1 X.2.2.2.2.2.2.2.2.2.2.1 r) (hq : ∀ i pc, pu_lp i = some (179, pc) → pu_S X mdX11_toldOf pc (r i)) : pu_S X mdX11_toldOf 49 (kX11_toldOf_49 r) := by
  unfold kX11_toldOf_49
  exact z_inc hX dX11_toldOf_49 (by decide) ((z_goto hX dX11_toldOf_52 (by decide) (hq 405 2 hl405)))
def kX11_toldOf_2 (r : pu_R) : pu_K := s_ild 3 (s_ald 0 (s_gr 11 2 (s_gr 5 4 (s_gi 2 0 (s_icge (kX11_toldOf_55 r) (s_ald 0 (s_ild 3 (s_ild 1 (s_cv r 178 2 11 (s_ifeq (kX11_toldOf_49 r) (s_ald 0 (s_gr 11 2 (s_gr 5 4 (s_ild 3 (s_ild 2 (s_ald 0 (s_gr 11 2 (s_gr 5 0 (s_cv r 145 3 2 (s_ifeq (kX11_toldOf_49 r) (s_ild 3 (s_iret))))))))))))))))))))))
theorem vX11_toldOf_2 : pu_cok2 kX11_toldOf_2 := fun rf r hr => by
  unfold kX11_toldOf_2
  exact v_ild (v_ald (v_gr (v_gr (v_gi (v_icge (vX11_toldOf_55 rf r hr) (v_ald (v_ild (v_ild (v_cv hr (v_ifeq (vX11_toldOf_49 rf r hr) (v_ald (v_gr (v_gr (v_ild (v_ild (v_ald (v_gr (v_gr (v_cv hr (v_ifeq (vX11_toldOf_49 rf r hr) (v_ild (v_iret))))))))))))))))))))))
theorem tX11_toldOf_2 {X : pu_X} {r : pu_R} (hX : pu_H X mdX11_toldOf) (hr : pu_P X.2.1 X.2.2.2.2.2.2.2.2.2.2.1 r) (hq : ∀ i pc, pu_lp i = some (179, pc) → pu_S X mdX11_toldOf pc (r i)) : pu_S X mdX11_toldOf 2 (kX11_toldOf_2 r) := by
  unfold kX11_toldOf_2
  exact z_ild_n hX dX11_toldOf_2 rfl (z_ald_n hX dX11_toldOf_3 rfl (z_gr (c := 11) (j := 2) hX dX11_toldOf_4 rfl inlX11 wm1_20 ⟨rfl, by decide, rfl⟩ (z_gr (c := 5) (j := 4) hX dX11_toldOf_7 rfl inlX5 wm21_20 ⟨rfl, by decide, rfl⟩ (z_gi (c := 2) (j := 0) hX dX11_toldOf_10 rfl inlX2 wm21_21 ⟨rfl, by decide, rfl⟩ (z_icge hX dX11_toldOf_13 (by decide) (tX11_toldOf_55 hX hr hq) (z_ald_n hX dX11_toldOf_16 rfl (z_ild_n hX dX11_toldOf_17 rfl (z_ild_n hX dX11_toldOf_18 rfl (z_cv (c := 11) hX hr dX11_toldOf_19 hjX11_isTold mwX11_isTold rfl wm57_4 ⟨wm57_5, wm57_6⟩ ⟨Nat.le_of_ble_eq_true rfl, Nat.le_of_ble_eq_true rfl⟩ (z_ifeq hX dX11_toldOf_22 (by decide) (tX11_toldOf_49 hX hr hq) (z_ald_n hX dX11_toldOf_25 rfl (z_gr (c := 11) (j := 2) hX dX11_toldOf_26 rfl inlX11 wm1_20 ⟨rfl, by decide, rfl⟩ (z_gr (c := 5) (j := 4) hX dX11_toldOf_29 rfl inlX5 wm21_20 ⟨rfl, by decide, rfl⟩ (z_ild_n hX dX11_toldOf_32 rfl (z_ild_n hX dX11_toldOf_33 rfl (z_ald_n hX dX11_toldOf_34 rfl (z_gr (c := 11) (j := 2) hX dX11_toldOf_35 rfl inlX11 wm1_20 ⟨rfl, by decide, rfl⟩ (z_gr (c := 5) (j := 0) hX dX11_toldOf_38 rfl inlX5 wm10_19 ⟨rfl, by decide, rfl⟩ (z_cv (c := 2) hX hr dX11_toldOf_41 hjX2_isThereOn mwX2_isThereOn rfl wm47_9 ⟨wm47_10, wm47_11⟩ ⟨Nat.le_of_ble_eq_true rfl, Nat.le_of_ble_eq_true rfl⟩ (z_ifeq hX dX11_toldOf_44 (by decide) (tX11_toldOf_49 hX hr hq) (z_ild_n hX dX11_toldOf_47 rfl (z_iret hX dX11_toldOf_48 rfl))))))))))))))))))))))
def kX11_toldOf_0 (r : pu_R) : pu_K := s_push (.int (0)) (s_ist 3 ((r 405)))
theorem vX11_toldOf_0 : pu_cok2 kX11_toldOf_0 := fun rf r hr => by
  unfold kX11_toldOf_0
  exact v_pi (v_ist ((hr 405)))
theorem tX11_toldOf_0 {X : pu_X} {r : pu_R} (hX : pu_H X mdX11_toldOf) (hr : pu_P X.2.1 X.2.2.2.2.2.2.2.2.2.2.1 r) (hq : ∀ i pc, pu_lp i = some (179, pc) → pu_S X mdX11_toldOf pc (r i)) : pu_S X mdX11_toldOf 0 (kX11_toldOf_0 r) := by
  unfold kX11_toldOf_0
  exact z_iconst hX dX11_toldOf_0 (by decide) (z_ist_n hX dX11_toldOf_1 rfl ((hq 405 2 hl405)))
def kX1_addFound_88 (r : pu_R) : pu_K := s_ald 0 (s_gr 1 8 (s_ild 4 (s_ild 1 (s_wi 1 (s_ald 0 (s_gr 1 9 (s_ild 4 (s_ild 2 (s_wi 1 (s_ald 0 (s_gr 1 10 (s_ild 4 (s_ild 3 (s_wi 1 (s_ald 0 (s_dup (s_gi 1 2 (s_push (.int (1)) (s_iadd (s_pi 1 2 (s_vret)))))))))))))))))))))
theorem vX1_addFound_88 : pu_cok2 kX1_addFound_88 := fun rf r hr => by
  unfold kX1_addFound_88
  exact v_ald (v_gr (v_ild (v_ild (v_wi (v_ald (v_gr (v_ild (v_ild (v_wi (v_ald (v_gr (v_ild (v_ild (v_wi (v_ald (v_dup (v_gi (v_pi (v_iadd (v_puti (v_vret)))))))))))))))))))))
theorem tX1_addFound_88 {X : pu_X} {r : pu_R} (hX : pu_H X mdX1_addFound) (hr : pu_P X.2.1 X.2.2.2.2.2.2.2.2.2.2.1 r) (hq : ∀ i pc, pu_lp i = some (180, pc) → pu_S X mdX1_addFound pc (r i)) : pu_S X mdX1_addFound 88 (kX1_addFound_88 r) := by
  unfold kX1_addFound_88
  exact z_ald_n hX dX1_addFound_88 rfl (z_gr (c := 1) (j := 8) hX dX1_addFound_89 rfl inlX1 wm6_8 ⟨rfl, by decide, rfl⟩ (z_ild hX dX1_addFound_92 (z_ild_n hX dX1_addFound_94 rfl (z_iast hX dX1_addFound_95 (z_ald_n hX dX1_addFound_96 rfl (z_gr (c := 1) (j := 9) hX dX1_addFound_97 rfl inlX1 wm6_9 ⟨rfl, by decide, rfl⟩ (z_ild hX dX1_addFound_100 (z_ild_n hX dX1_addFound_102 rfl (z_iast hX dX1_addFound_103 (z_ald_n hX dX1_addFound_104 rfl (z_gr (c := 1) (j := 10) hX dX1_addFound_105 rfl inlX1 wm6_10 ⟨rfl, by decide, rfl⟩ (z_ild hX dX1_addFound_108 (z_ild_n hX dX1_addFound_110 rfl (z_iast hX dX1_addFound_111 (z_ald_n hX dX1_addFound_112 rfl (z_dup hX dX1_addFound_113 (z_gi (c := 1) (j := 2) hX dX1_addFound_114 rfl inlX1 wm45_19 ⟨rfl, by decide, rfl⟩ (z_iconst hX dX1_addFound_117 (by decide) (z_iadd hX dX1_addFound_118 (z_pi (c := 1) (j := 2) tyX1 tyX1_ok nmX1 hX dX1_addFound_119 rfl inlX1 wm45_19 ⟨rfl, by decide⟩ ⟨rfl, rfl⟩ rfl (z_vret hX dX1_addFound_122 rfl)))))))))))))))))))))
def kX1_addFound_57 (r : pu_R) : pu_K := s_gr 1 9 (s_ild 4 (s_push (.int (1)) (s_isub (s_ai 1 (s_wi 1 (s_ald 0 (s_gr 1 10 (s_ild 4 (s_ald 0 (s_gr 1 10 (s_ild 4 (s_push (.int (1)) (s_isub (s_ai 1 (s_wi 1 (s_inc 4 (-1) ((r 406))))))))))))))))))
theorem vX1_addFound_57 : pu_cok2 kX1_addFound_57 := fun rf r hr => by
  unfold kX1_addFound_57
  exact v_gr (v_ild (v_pi (v_isub (v_ai (v_wi (v_ald (v_gr (v_ild (v_ald (v_gr (v_ild (v_pi (v_isub (v_ai (v_wi (v_inc ((hr 406))))))))))))))))))
theorem tX1_addFound_57 {X : pu_X} {r : pu_R} (hX : pu_H X mdX1_addFound) (hr : pu_P X.2.1 X.2.2.2.2.2.2.2.2.2.2.1 r) (hq : ∀ i pc, pu_lp i = some (180, pc) → pu_S X mdX1_addFound pc (r i)) : pu_S X mdX1_addFound 57 (kX1_addFound_57 r) := by
  unfold kX1_addFound_57
  exact z_gr (c := 1) (j := 9) hX dX1_addFound_57 rfl inlX1 wm6_9 ⟨rfl, by decide, rfl⟩ (z_ild hX dX1_addFound_60 (z_iconst hX dX1_addFound_62 (by decide) (z_isub hX dX1_addFound_63 (z_iald hX dX1_addFound_64 (z_iast hX dX1_addFound_65 (z_ald_n hX dX1_addFound_66 rfl (z_gr (c := 1) (j := 10) hX dX1_addFound_67 rfl inlX1 wm6_10 ⟨rfl, by decide, rfl⟩ (z_ild hX dX1_addFound_70 (z_ald_n hX dX1_addFound_72 rfl (z_gr (c := 1) (j := 10) hX dX1_addFound_73 rfl inlX1 wm6_10 ⟨rfl, by decide, rfl⟩ (z_ild hX dX1_addFound_76 (z_iconst hX dX1_addFound_78 (by decide) (z_isub hX dX1_addFound_79 (z_iald hX dX1_addFound_80 (z_iast hX dX1_addFound_81 (z_inc hX dX1_addFound_82 (by decide) ((z_goto hX dX1_addFound_85 (by decide) (hq 406 16 hl406)))))))))))))))))))
def kX1_addFound_16 (r : pu_R) : pu_K := s_ild 4 (s_ifle (kX1_addFound_88 r) (s_ald 0 (s_gr 1 10 (s_ild 4 (s_push (.int (1)) (s_isub (s_ai 1 (s_ild 3 (s_icle (kX1_addFound_88 r) (s_ald 0 (s_gr 1 8 (s_ild 4 (s_ald 0 (s_gr 1 8 (s_ild 4 (s_push (.int (1)) (s_isub (s_ai 1 (s_wi 1 (s_ald 0 (s_gr 1 9 (s_ild 4 (s_ald 0 ((kX1_addFound_57 r)))))))))))))))))))))))))
theorem vX1_addFound_16 : pu_cok2 kX1_addFound_16 := fun rf r hr => by
  unfold kX1_addFound_16
  exact v_ild (v_ifle (vX1_addFound_88 rf r hr) (v_ald (v_gr (v_ild (v_pi (v_isub (v_ai (v_ild (v_icle (vX1_addFound_88 rf r hr) (v_ald (v_gr (v_ild (v_ald (v_gr (v_ild (v_pi (v_isub (v_ai (v_wi (v_ald (v_gr (v_ild (v_ald ((vX1_addFound_57 rf r hr)))))))))))))))))))))))))
theorem tX1_addFound_16 {X : pu_X} {r : pu_R} (hX : pu_H X mdX1_addFound) (hr : pu_P X.2.1 X.2.2.2.2.2.2.2.2.2.2.1 r) (hq : ∀ i pc, pu_lp i = some (180, pc) → pu_S X mdX1_addFound pc (r i)) : pu_S X mdX1_addFound 16 (kX1_addFound_16 r) := by
  unfold kX1_addFound_16
  exact z_ild hX dX1_addFound_16 (z_ifle hX dX1_addFound_18 (by decide) (tX1_addFound_88 hX hr hq) (z_ald_n hX dX1_addFound_21 rfl (z_gr (c := 1) (j := 10) hX dX1_addFound_22 rfl inlX1 wm6_10 ⟨rfl, by decide, rfl⟩ (z_ild hX dX1_addFound_25 (z_iconst hX dX1_addFound_27 (by decide) (z_isub hX dX1_addFound_28 (z_iald hX dX1_addFound_29 (z_ild_n hX dX1_addFound_30 rfl (z_icle hX dX1_addFound_31 (by decide) (tX1_addFound_88 hX hr hq) (z_ald_n hX dX1_addFound_34 rfl (z_gr (c := 1) (j := 8) hX dX1_addFound_35 rfl inlX1 wm6_8 ⟨rfl, by decide, rfl⟩ (z_ild hX dX1_addFound_38 (z_ald_n hX dX1_addFound_40 rfl (z_gr (c := 1) (j := 8) hX dX1_addFound_41 rfl inlX1 wm6_8 ⟨rfl, by decide, rfl⟩ (z_ild hX dX1_addFound_44 (z_iconst hX dX1_addFound_46 (by decide) (z_isub hX dX1_addFound_47 (z_iald hX dX1_addFound_48 (z_iast hX dX1_addFound_49 (z_ald_n hX dX1_addFound_50 rfl (z_gr (c := 1) (j := 9) hX dX1_addFound_51 rfl inlX1 wm6_9 ⟨rfl, by decide, rfl⟩ (z_ild hX dX1_addFound_54 (z_ald_n hX dX1_addFound_56 rfl ((tX1_addFound_57 hX hr hq)))))))))))))))))))))))))
def kX1_addFound_10 (r : pu_R) : pu_K := s_ald 0 (s_gi 1 2 (s_ist 4 ((r 406))))
theorem vX1_addFound_10 : pu_cok2 kX1_addFound_10 := fun rf r hr => by
  unfold kX1_addFound_10
  exact v_ald (v_gi (v_ist ((hr 406))))
theorem tX1_addFound_10 {X : pu_X} {r : pu_R} (hX : pu_H X mdX1_addFound) (hr : pu_P X.2.1 X.2.2.2.2.2.2.2.2.2.2.1 r) (hq : ∀ i pc, pu_lp i = some (180, pc) → pu_S X mdX1_addFound pc (r i)) : pu_S X mdX1_addFound 10 (kX1_addFound_10 r) := by
  unfold kX1_addFound_10
  exact z_ald_n hX dX1_addFound_10 rfl (z_gi (c := 1) (j := 2) hX dX1_addFound_11 rfl inlX1 wm45_19 ⟨rfl, by decide, rfl⟩ (z_ist hX dX1_addFound_14 ((hq 406 16 hl406))))
def kX1_addFound_0 (r : pu_R) : pu_K := s_ald 0 (s_gi 1 2 (s_push (.int (100)) (s_iclt (kX1_addFound_10 r) (s_vret))))
theorem vX1_addFound_0 : pu_cok2 kX1_addFound_0 := fun rf r hr => by
  unfold kX1_addFound_0
  exact v_ald (v_gi (v_pi (v_iclt (vX1_addFound_10 rf r hr) (v_vret))))
theorem tX1_addFound_0 {X : pu_X} {r : pu_R} (hX : pu_H X mdX1_addFound) (hr : pu_P X.2.1 X.2.2.2.2.2.2.2.2.2.2.1 r) (hq : ∀ i pc, pu_lp i = some (180, pc) → pu_S X mdX1_addFound pc (r i)) : pu_S X mdX1_addFound 0 (kX1_addFound_0 r) := by
  unfold kX1_addFound_0
  exact z_ald_n hX dX1_addFound_0 rfl (z_gi (c := 1) (j := 2) hX dX1_addFound_1 rfl inlX1 wm45_19 ⟨rfl, by decide, rfl⟩ (z_bipush hX dX1_addFound_4 (by decide) (z_iclt hX dX1_addFound_6 (by decide) (tX1_addFound_10 hX hr hq) (z_vret hX dX1_addFound_9 rfl))))
def kX11_findOne_29 (r : pu_R) : pu_K := s_vret
theorem vX11_findOne_29 : pu_cok2 kX11_findOne_29 := fun rf r hr => by
  unfold kX11_findOne_29
  exact v_vret
theorem tX11_findOne_29 {X : pu_X} {r : pu_R} (hX : pu_H X mdX11_findOne) (hr : pu_P X.2.1 X.2.2.2.2.2.2.2.2.2.2.1 r) (hq : ∀ i pc, pu_lp i = some (181, pc) → pu_S X mdX11_findOne pc (r i)) : pu_S X mdX11_findOne 29 (kX11_findOne_29 r) := by
  unfold kX11_findOne_29
  exact z_vret hX dX11_findOne_29 rfl
def kX11_findOne_0 (r : pu_R) : pu_K := s_ald 0 (s_ild 1 (s_ild 2 (s_cv r 179 2 11 (s_ist 5 (s_ild 5 (s_push (.int (-1)) (s_iceq (kX11_findOne_29 r) (s_ald 0 (s_gr 11 2 (s_gr 5 6 (s_ild 5 (s_ild 3 (s_ild 4 (s_cv r 180 3 1 ((kX11_findOne_29 r))))))))))))))))
theorem vX11_findOne_0 : pu_cok2 kX11_findOne_0 := fun rf r hr => by
  unfold kX11_findOne_0
  exact v_ald (v_ild (v_ild (v_cv hr (v_ist (v_ild (v_pi (v_iceq (vX11_findOne_29 rf r hr) (v_ald (v_gr (v_gr (v_ild (v_ild (v_ild (v_cv hr ((vX11_findOne_29 rf r hr))))))))))))))))
theorem tX11_findOne_0 {X : pu_X} {r : pu_R} (hX : pu_H X mdX11_findOne) (hr : pu_P X.2.1 X.2.2.2.2.2.2.2.2.2.2.1 r) (hq : ∀ i pc, pu_lp i = some (181, pc) → pu_S X mdX11_findOne pc (r i)) : pu_S X mdX11_findOne 0 (kX11_findOne_0 r) := by
  unfold kX11_findOne_0
  exact z_ald_n hX dX11_findOne_0 rfl (z_ild_n hX dX11_findOne_1 rfl (z_ild_n hX dX11_findOne_2 rfl (z_cv (c := 11) hX hr dX11_findOne_3 hjX11_toldOf mwX11_toldOf rfl wm57_0 ⟨wm57_1, wm57_2⟩ ⟨Nat.le_of_ble_eq_true rfl, Nat.le_of_ble_eq_true rfl⟩ (z_ist hX dX11_findOne_6 (z_ild hX dX11_findOne_8 (z_iconst hX dX11_findOne_10 (by decide) (z_iceq hX dX11_findOne_11 (by decide) (tX11_findOne_29 hX hr hq) (z_ald_n hX dX11_findOne_14 rfl (z_gr (c := 11) (j := 2) hX dX11_findOne_15 rfl inlX11 wm1_20 ⟨rfl, by decide, rfl⟩ (z_gr (c := 5) (j := 6) hX dX11_findOne_18 rfl inlX5 wm54_0 ⟨rfl, by decide, rfl⟩ (z_ild hX dX11_findOne_21 (z_ild_n hX dX11_findOne_23 rfl (z_ild hX dX11_findOne_24 (z_cv (c := 1) hX hr dX11_findOne_26 hjX1_addFound mwX1_addFound rfl wm57_10 ⟨wm57_11, wm57_12⟩ ⟨Nat.le_of_ble_eq_true rfl, Nat.le_of_ble_eq_true rfl⟩ ((tX11_findOne_29 hX hr hq))))))))))))))))
def kX11_findLikely_62 (r : pu_R) : pu_K := s_vret
theorem vX11_findLikely_62 : pu_cok2 kX11_findLikely_62 := fun rf r hr => by
  unfold kX11_findLikely_62
  exact v_vret
theorem tX11_findLikely_62 {X : pu_X} {r : pu_R} (hX : pu_H X mdX11_findLikely) (hr : pu_P X.2.1 X.2.2.2.2.2.2.2.2.2.2.1 r) (hq : ∀ i pc, pu_lp i = some (182, pc) → pu_S X mdX11_findLikely pc (r i)) : pu_S X mdX11_findLikely 62 (kX11_findLikely_62 r) := by
  unfold kX11_findLikely_62
  exact z_vret hX dX11_findLikely_62 rfl
def kX11_findLikely_56 (r : pu_R) : pu_K := s_inc 2 (1) ((r 407))
theorem vX11_findLikely_56 : pu_cok2 kX11_findLikely_56 := fun rf r hr => by
  unfold kX11_findLikely_56
  exact v_inc ((hr 407))
theorem tX11_findLikely_56 {X : pu_X} {r : pu_R} (hX : pu_H X mdX11_findLikely) (hr : pu_P X.2.1 X.2.2.2.2.2.2.2.2.2.2.1 r) (hq : ∀ i pc, pu_lp i = some (182, pc) → pu_S X mdX11_findLikely pc (r i)) : pu_S X mdX11_findLikely 56 (kX11_findLikely_56 r) := by
  unfold kX11_findLikely_56
  exact z_inc hX dX11_findLikely_56 (by decide) ((z_goto hX dX11_findLikely_59 (by decide) (hq 407 2 hl407)))
def kX11_findLikely_46 (r : pu_R) : pu_K := s_gr 11 5 (s_ild 2 (s_cv r 177 1 9 (s_cv r 181 4 11 ((kX11_findLikely_56 r)))))
theorem vX11_findLikely_46 : pu_cok2 kX11_findLikely_46 := fun rf r hr => by
  unfold kX11_findLikely_46
  exact v_gr (v_ild (v_cv hr (v_cv hr ((vX11_findLikely_56 rf r hr)))))
theorem tX11_findLikely_46 {X : pu_X} {r : pu_R} (hX : pu_H X mdX11_findLikely) (hr : pu_P X.2.1 X.2.2.2.2.2.2.2.2.2.2.1 r) (hq : ∀ i pc, pu_lp i = some (182, pc) → pu_S X mdX11_findLikely pc (r i)) : pu_S X mdX11_findLikely 46 (kX11_findLikely_46 r) := by
  unfold kX11_findLikely_46
  exact z_gr (c := 11) (j := 5) hX dX11_findLikely_46 rfl inlX11 wm2_5 ⟨rfl, by decide, rfl⟩ (z_ild_n hX dX11_findLikely_49 rfl (z_cv (c := 9) hX hr dX11_findLikely_50 hjX9_likelyRankOf mwX9_likelyRankOf rfl wm56_8 ⟨wm56_9, wm56_10⟩ ⟨Nat.le_of_ble_eq_true rfl, Nat.le_of_ble_eq_true rfl⟩ (z_cv (c := 11) hX hr dX11_findLikely_53 hjX11_findOne mwX11_findOne rfl wm56_20 ⟨wm56_21, wm56_22⟩ ⟨Nat.le_of_ble_eq_true rfl, Nat.le_of_ble_eq_true rfl⟩ ((tX11_findLikely_56 hX hr hq)))))
def kX11_findLikely_2 (r : pu_R) : pu_K := s_ild 2 (s_ald 0 (s_gr 11 5 (s_gi 9 0 (s_icge (kX11_findLikely_62 r) (s_ald 0 (s_gr 11 5 (s_ild 2 (s_ald 0 (s_gr 11 4 (s_gi 7 2 (s_cv r 174 2 9 (s_ifeq (kX11_findLikely_56 r) (s_ald 0 (s_ald 0 (s_gr 11 5 (s_gr 9 4 (s_ild 2 (s_ai 1 (s_push (.int (2)) (s_idiv (s_ild 1 (s_push (.int (0)) (s_ald 0 ((kX11_findLikely_46 r)))))))))))))))))))))))))
theorem vX11_findLikely_2 : pu_cok2 kX11_findLikely_2 := fun rf r hr => by
  unfold kX11_findLikely_2
  exact v_ild (v_ald (v_gr (v_gi (v_icge (vX11_findLikely_62 rf r hr) (v_ald (v_gr (v_ild (v_ald (v_gr (v_gi (v_cv hr (v_ifeq (vX11_findLikely_56 rf r hr) (v_ald (v_ald (v_gr (v_gr (v_ild (v_ai (v_pi (v_idiv (v_ild (v_pi (v_ald ((vX11_findLikely_46 rf r hr)))))))))))))))))))))))))
theorem tX11_findLikely_2 {X : pu_X} {r : pu_R} (hX : pu_H X mdX11_findLikely) (hr : pu_P X.2.1 X.2.2.2.2.2.2.2.2.2.2.1 r) (hq : ∀ i pc, pu_lp i = some (182, pc) → pu_S X mdX11_findLikely pc (r i)) : pu_S X mdX11_findLikely 2 (kX11_findLikely_2 r) := by
  unfold kX11_findLikely_2
  exact z_ild_n hX dX11_findLikely_2 rfl (z_ald_n hX dX11_findLikely_3 rfl (z_gr (c := 11) (j := 5) hX dX11_findLikely_4 rfl inlX11 wm2_5 ⟨rfl, by decide, rfl⟩ (z_gi (c := 9) (j := 0) hX dX11_findLikely_7 rfl inlX9 wm36_21 ⟨rfl, by decide, rfl⟩ (z_icge hX dX11_findLikely_10 (by decide) (tX11_findLikely_62 hX hr hq) (z_ald_n hX dX11_findLikely_13 rfl (z_gr (c := 11) (j := 5) hX dX11_findLikely_14 rfl inlX11 wm2_5 ⟨rfl, by decide, rfl⟩ (z_ild_n hX dX11_findLikely_17 rfl (z_ald_n hX dX11_findLikely_18 rfl (z_gr (c := 11) (j := 4) hX dX11_findLikely_19 rfl inlX11 wm2_1 ⟨rfl, by decide, rfl⟩ (z_gi (c := 7) (j := 2) hX dX11_findLikely_22 rfl inlX7 wm54_2 ⟨rfl, by decide, rfl⟩ (z_cv (c := 9) hX hr dX11_findLikely_25 hjX9_couldHave mwX9_couldHave rfl wm56_4 ⟨wm56_5, wm56_6⟩ ⟨Nat.le_of_ble_eq_true rfl, Nat.le_of_ble_eq_true rfl⟩ (z_ifeq hX dX11_findLikely_28 (by decide) (tX11_findLikely_56 hX hr hq) (z_ald_n hX dX11_findLikely_31 rfl (z_ald_n hX dX11_findLikely_32 rfl (z_gr (c := 11) (j := 5) hX dX11_findLikely_33 rfl inlX11 wm2_5 ⟨rfl, by decide, rfl⟩ (z_gr (c := 9) (j := 4) hX dX11_findLikely_36 rfl inlX9 wm38_12 ⟨rfl, by decide, rfl⟩ (z_ild_n hX dX11_findLikely_39 rfl (z_iald hX dX11_findLikely_40 (z_iconst hX dX11_findLikely_41 (by decide) (z_idiv hX dX11_findLikely_42 (z_ild_n hX dX11_findLikely_43 rfl (z_iconst hX dX11_findLikely_44 (by decide) (z_ald_n hX dX11_findLikely_45 rfl ((tX11_findLikely_46 hX hr hq)))))))))))))))))))))))))
def kX11_findLikely_0 (r : pu_R) : pu_K := s_push (.int (0)) (s_ist 2 ((r 407)))
theorem vX11_findLikely_0 : pu_cok2 kX11_findLikely_0 := fun rf r hr => by
  unfold kX11_findLikely_0
  exact v_pi (v_ist ((hr 407)))
theorem tX11_findLikely_0 {X : pu_X} {r : pu_R} (hX : pu_H X mdX11_findLikely) (hr : pu_P X.2.1 X.2.2.2.2.2.2.2.2.2.2.1 r) (hq : ∀ i pc, pu_lp i = some (182, pc) → pu_S X mdX11_findLikely pc (r i)) : pu_S X mdX11_findLikely 0 (kX11_findLikely_0 r) := by
  unfold kX11_findLikely_0
  exact z_iconst hX dX11_findLikely_0 (by decide) (z_ist_n hX dX11_findLikely_1 rfl ((hq 407 2 hl407)))
def kX11_means_84 (r : pu_R) : pu_K := s_ald 0 (s_gr 11 2 (s_gr 5 6 (s_gi 1 2 (s_iret))))
theorem vX11_means_84 : pu_cok2 kX11_means_84 := fun rf r hr => by
  unfold kX11_means_84
  exact v_ald (v_gr (v_gr (v_gi (v_iret))))
theorem tX11_means_84 {X : pu_X} {r : pu_R} (hX : pu_H X mdX11_means) (hr : pu_P X.2.1 X.2.2.2.2.2.2.2.2.2.2.1 r) (hq : ∀ i pc, pu_lp i = some (183, pc) → pu_S X mdX11_means pc (r i)) : pu_S X mdX11_means 84 (kX11_means_84 r) := by
  unfold kX11_means_84
  exact z_ald_n hX dX11_means_84 rfl (z_gr (c := 11) (j := 2) hX dX11_means_85 rfl inlX11 wm1_20 ⟨rfl, by decide, rfl⟩ (z_gr (c := 5) (j := 6) hX dX11_means_88 rfl inlX5 wm54_0 ⟨rfl, by decide, rfl⟩ (z_gi (c := 1) (j := 2) hX dX11_means_91 rfl inlX1 wm54_1 ⟨rfl, by decide, rfl⟩ (z_iret hX dX11_means_94 rfl))))
def kX11_means_66 (r : pu_R) : pu_K := s_ald 0 (s_ald 0 (s_gr 11 5 (s_gr 9 4 (s_ild 2 (s_ai 1 (s_push (.int (2)) (s_idiv (s_ild 1 (s_push (.int (1)) (s_push (.int (0)) (s_cv r 181 4 11 ((kX11_means_84 r)))))))))))))
theorem vX11_means_66 : pu_cok2 kX11_means_66 := fun rf r hr => by
  unfold kX11_means_66
  exact v_ald (v_ald (v_gr (v_gr (v_ild (v_ai (v_pi (v_idiv (v_ild (v_pi (v_pi (v_cv hr ((vX11_means_84 rf r hr)))))))))))))
theorem tX11_means_66 {X : pu_X} {r : pu_R} (hX : pu_H X mdX11_means) (hr : pu_P X.2.1 X.2.2.2.2.2.2.2.2.2.2.1 r) (hq : ∀ i pc, pu_lp i = some (183, pc) → pu_S X mdX11_means pc (r i)) : pu_S X mdX11_means 66 (kX11_means_66 r) := by
  unfold kX11_means_66
  exact z_ald_n hX dX11_means_66 rfl (z_ald_n hX dX11_means_67 rfl (z_gr (c := 11) (j := 5) hX dX11_means_68 rfl inlX11 wm2_5 ⟨rfl, by decide, rfl⟩ (z_gr (c := 9) (j := 4) hX dX11_means_71 rfl inlX9 wm38_12 ⟨rfl, by decide, rfl⟩ (z_ild_n hX dX11_means_74 rfl (z_iald hX dX11_means_75 (z_iconst hX dX11_means_76 (by decide) (z_idiv hX dX11_means_77 (z_ild_n hX dX11_means_78 rfl (z_iconst hX dX11_means_79 (by decide) (z_iconst hX dX11_means_80 (by decide) (z_cv (c := 11) hX hr dX11_means_81 hjX11_findOne mwX11_findOne rfl wm56_20 ⟨wm56_21, wm56_22⟩ ⟨Nat.le_of_ble_eq_true rfl, Nat.le_of_ble_eq_true rfl⟩ ((tX11_means_84 hX hr hq)))))))))))))
def kX11_means_38 (r : pu_R) : pu_K := s_ald 0 (s_gr 11 5 (s_ald 0 (s_gr 11 4 (s_gi 7 2 (s_cv r 79 1 9 (s_ist 2 (s_ild 2 (s_push (.int (-1)) (s_icne (kX11_means_66 r) (s_ald 0 (s_ild 1 (s_cv r 182 1 11 ((kX11_means_84 r))))))))))))))
theorem vX11_means_38 : pu_cok2 kX11_means_38 := fun rf r hr => by
  unfold kX11_means_38
  exact v_ald (v_gr (v_ald (v_gr (v_gi (v_cv hr (v_ist (v_ild (v_pi (v_icne (vX11_means_66 rf r hr) (v_ald (v_ild (v_cv hr ((vX11_means_84 rf r hr))))))))))))))
theorem tX11_means_38 {X : pu_X} {r : pu_R} (hX : pu_H X mdX11_means) (hr : pu_P X.2.1 X.2.2.2.2.2.2.2.2.2.2.1 r) (hq : ∀ i pc, pu_lp i = some (183, pc) → pu_S X mdX11_means pc (r i)) : pu_S X mdX11_means 38 (kX11_means_38 r) := by
  unfold kX11_means_38
  exact z_ald_n hX dX11_means_38 rfl (z_gr (c := 11) (j := 5) hX dX11_means_39 rfl inlX11 wm2_5 ⟨rfl, by decide, rfl⟩ (z_ald_n hX dX11_means_42 rfl (z_gr (c := 11) (j := 4) hX dX11_means_43 rfl inlX11 wm2_1 ⟨rfl, by decide, rfl⟩ (z_gi (c := 7) (j := 2) hX dX11_means_46 rfl inlX7 wm54_2 ⟨rfl, by decide, rfl⟩ (z_cv (c := 9) hX hr dX11_means_49 hjX9_indexOf mwX9_indexOf rfl wm55_23 ⟨wm26_19, wm26_20⟩ ⟨Nat.le_of_ble_eq_true rfl, Nat.le_of_ble_eq_true rfl⟩ (z_ist_n hX dX11_means_52 rfl (z_ild_n hX dX11_means_53 rfl (z_iconst hX dX11_means_54 (by decide) (z_icne hX dX11_means_55 (by decide) (tX11_means_66 hX hr hq) (z_ald_n hX dX11_means_58 rfl (z_ild_n hX dX11_means_59 rfl (z_cv (c := 11) hX hr dX11_means_60 hjX11_findLikely mwX11_findLikely rfl wm56_0 ⟨wm56_1, wm56_2⟩ ⟨Nat.le_of_ble_eq_true rfl, Nat.le_of_ble_eq_true rfl⟩ ((z_goto hX dX11_means_63 (by decide) (tX11_means_84 hX hr hq)))))))))))))))
def kX11_means_17 (r : pu_R) : pu_K := s_ald 0 (s_gr 11 2 (s_gr 5 6 (s_push (.int (0)) (s_pi 1 2 (s_ald 0 (s_ild 1 (s_cv r 173 1 11 (s_ifne (kX11_means_38 r) (s_push (.int (0)) (s_iret))))))))))
theorem vX11_means_17 : pu_cok2 kX11_means_17 := fun rf r hr => by
  unfold kX11_means_17
  exact v_ald (v_gr (v_gr (v_pi (v_puti (v_ald (v_ild (v_cv hr (v_ifne (vX11_means_38 rf r hr) (v_pi (v_iret))))))))))
theorem tX11_means_17 {X : pu_X} {r : pu_R} (hX : pu_H X mdX11_means) (hr : pu_P X.2.1 X.2.2.2.2.2.2.2.2.2.2.1 r) (hq : ∀ i pc, pu_lp i = some (183, pc) → pu_S X mdX11_means pc (r i)) : pu_S X mdX11_means 17 (kX11_means_17 r) := by
  unfold kX11_means_17
  exact z_ald_n hX dX11_means_17 rfl (z_gr (c := 11) (j := 2) hX dX11_means_18 rfl inlX11 wm1_20 ⟨rfl, by decide, rfl⟩ (z_gr (c := 5) (j := 6) hX dX11_means_21 rfl inlX5 wm54_0 ⟨rfl, by decide, rfl⟩ (z_iconst hX dX11_means_24 (by decide) (z_pi (c := 1) (j := 2) tyX1 tyX1_ok nmX1 hX dX11_means_25 rfl inlX1 wm54_1 ⟨rfl, by decide⟩ ⟨rfl, rfl⟩ rfl (z_ald_n hX dX11_means_28 rfl (z_ild_n hX dX11_means_29 rfl (z_cv (c := 11) hX hr dX11_means_30 hjX11_viewStreetOfAddress mwX11_viewStreetOfAddress rfl wm55_14 ⟨wm55_15, wm55_16⟩ ⟨Nat.le_of_ble_eq_true rfl, Nat.le_of_ble_eq_true rfl⟩ (z_ifne hX dX11_means_33 (by decide) (tX11_means_38 hX hr hq) (z_iconst hX dX11_means_36 (by decide) (z_iret hX dX11_means_37 rfl))))))))))
def kX11_means_14 (r : pu_R) : pu_K := s_push (.int (-2)) (s_iret)
theorem vX11_means_14 : pu_cok2 kX11_means_14 := fun rf r hr => by
  unfold kX11_means_14
  exact v_pi (v_iret)
theorem tX11_means_14 {X : pu_X} {r : pu_R} (hX : pu_H X mdX11_means) (hr : pu_P X.2.1 X.2.2.2.2.2.2.2.2.2.2.1 r) (hq : ∀ i pc, pu_lp i = some (183, pc) → pu_S X mdX11_means pc (r i)) : pu_S X mdX11_means 14 (kX11_means_14 r) := by
  unfold kX11_means_14
  exact z_bipush hX dX11_means_14 (by decide) (z_iret hX dX11_means_16 rfl)
def kX11_means_0 (r : pu_R) : pu_K := s_ald 0 (s_cv r 171 0 11 (s_ifeq (kX11_means_14 r) (s_ild 1 (s_cs r 18 1 (s_ifne (kX11_means_17 r) ((kX11_means_14 r)))))))
theorem vX11_means_0 : pu_cok2 kX11_means_0 := fun rf r hr => by
  unfold kX11_means_0
  exact v_ald (v_cv hr (v_ifeq (vX11_means_14 rf r hr) (v_ild (v_cs hr (v_ifne (vX11_means_17 rf r hr) ((vX11_means_14 rf r hr)))))))
theorem tX11_means_0 {X : pu_X} {r : pu_R} (hX : pu_H X mdX11_means) (hr : pu_P X.2.1 X.2.2.2.2.2.2.2.2.2.2.1 r) (hq : ∀ i pc, pu_lp i = some (183, pc) → pu_S X mdX11_means pc (r i)) : pu_S X mdX11_means 0 (kX11_means_0 r) := by
  unfold kX11_means_0
  exact z_ald_n hX dX11_means_0 rfl (z_cv (c := 11) hX hr dX11_means_1 hjX11_readAddress mwX11_readAddress rfl wm54_3 ⟨wm54_4, wm54_5⟩ ⟨Nat.le_of_ble_eq_true rfl, Nat.le_of_ble_eq_true rfl⟩ (z_ifeq hX dX11_means_4 (by decide) (tX11_means_14 hX hr hq) (z_ild_n hX dX11_means_7 rfl (z_cs hX hr dX11_means_8 hjX11_isDay mwX11_isDay wm10_21 wm10_22 ⟨Nat.le_of_ble_eq_true rfl, Nat.le_of_ble_eq_true rfl⟩ (z_ifne hX dX11_means_11 (by decide) (tX11_means_17 hX hr hq) ((tX11_means_14 hX hr hq)))))))
def kX11_fault_0 (r : pu_R) : pu_K := s_ald 0 (s_gr 11 2 (s_gr 5 6 (s_gi 1 0 (s_iret))))
theorem vX11_fault_0 : pu_cok2 kX11_fault_0 := fun rf r hr => by
  unfold kX11_fault_0
  exact v_ald (v_gr (v_gr (v_gi (v_iret))))
theorem tX11_fault_0 {X : pu_X} {r : pu_R} (hX : pu_H X mdX11_fault) (hr : pu_P X.2.1 X.2.2.2.2.2.2.2.2.2.2.1 r) (hq : ∀ i pc, pu_lp i = some (184, pc) → pu_S X mdX11_fault pc (r i)) : pu_S X mdX11_fault 0 (kX11_fault_0 r) := by
  unfold kX11_fault_0
  exact z_ald_n hX dX11_fault_0 rfl (z_gr (c := 11) (j := 2) hX dX11_fault_1 rfl inlX11 wm1_20 ⟨rfl, by decide, rfl⟩ (z_gr (c := 5) (j := 6) hX dX11_fault_4 rfl inlX5 wm54_0 ⟨rfl, by decide, rfl⟩ (z_gi (c := 1) (j := 0) hX dX11_fault_7 rfl inlX1 wm54_8 ⟨rfl, by decide, rfl⟩ (z_iret hX dX11_fault_10 rfl))))
def kX11_found_58 (r : pu_R) : pu_K := s_iret
theorem vX11_found_58 : pu_cok2 kX11_found_58 := fun rf r hr => by
  unfold kX11_found_58
  exact v_iret
theorem tX11_found_58 {X : pu_X} {r : pu_R} (hX : pu_H X mdX11_found) (hr : pu_P X.2.1 X.2.2.2.2.2.2.2.2.2.2.1 r) (hq : ∀ i pc, pu_lp i = some (185, pc) → pu_S X mdX11_found pc (r i)) : pu_S X mdX11_found 58 (kX11_found_58 r) := by
  unfold kX11_found_58
  exact z_iret hX dX11_found_58 rfl
def kX11_found_57 (r : pu_R) : pu_K := s_push (.int (-1)) ((kX11_found_58 r))
theorem vX11_found_57 : pu_cok2 kX11_found_57 := fun rf r hr => by
  unfold kX11_found_57
  exact v_pi ((vX11_found_58 rf r hr))
theorem tX11_found_57 {X : pu_X} {r : pu_R} (hX : pu_H X mdX11_found) (hr : pu_P X.2.1 X.2.2.2.2.2.2.2.2.2.2.1 r) (hq : ∀ i pc, pu_lp i = some (185, pc) → pu_S X mdX11_found pc (r i)) : pu_S X mdX11_found 57 (kX11_found_57 r) := by
  unfold kX11_found_57
  exact z_iconst hX dX11_found_57 (by decide) ((tX11_found_58 hX hr hq))
def kX11_found_37 (r : pu_R) : pu_K := s_ild 2 (s_push (.int (1)) (s_icne (kX11_found_57 r) (s_ald 0 (s_gr 11 2 (s_gr 5 6 (s_gr 1 9 (s_ild 1 (s_ai 1 ((kX11_found_58 r))))))))))
theorem vX11_found_37 : pu_cok2 kX11_found_37 := fun rf r hr => by
  unfold kX11_found_37
  exact v_ild (v_pi (v_icne (vX11_found_57 rf r hr) (v_ald (v_gr (v_gr (v_gr (v_ild (v_ai ((vX11_found_58 rf r hr))))))))))
theorem tX11_found_37 {X : pu_X} {r : pu_R} (hX : pu_H X mdX11_found) (hr : pu_P X.2.1 X.2.2.2.2.2.2.2.2.2.2.1 r) (hq : ∀ i pc, pu_lp i = some (185, pc) → pu_S X mdX11_found pc (r i)) : pu_S X mdX11_found 37 (kX11_found_37 r) := by
  unfold kX11_found_37
  exact z_ild_n hX dX11_found_37 rfl (z_iconst hX dX11_found_38 (by decide) (z_icne hX dX11_found_39 (by decide) (tX11_found_57 hX hr hq) (z_ald_n hX dX11_found_42 rfl (z_gr (c := 11) (j := 2) hX dX11_found_43 rfl inlX11 wm1_20 ⟨rfl, by decide, rfl⟩ (z_gr (c := 5) (j := 6) hX dX11_found_46 rfl inlX5 wm54_0 ⟨rfl, by decide, rfl⟩ (z_gr (c := 1) (j := 9) hX dX11_found_49 rfl inlX1 wm61_12 ⟨rfl, by decide, rfl⟩ (z_ild_n hX dX11_found_52 rfl (z_iald hX dX11_found_53 ((z_goto hX dX11_found_54 (by decide) (tX11_found_58 hX hr hq)))))))))))
def kX11_found_20 (r : pu_R) : pu_K := s_ild 2 (s_ifne (kX11_found_37 r) (s_ald 0 (s_gr 11 2 (s_gr 5 6 (s_gr 1 8 (s_ild 1 (s_ai 1 (s_iret))))))))
theorem vX11_found_20 : pu_cok2 kX11_found_20 := fun rf r hr => by
  unfold kX11_found_20
  exact v_ild (v_ifne (vX11_found_37 rf r hr) (v_ald (v_gr (v_gr (v_gr (v_ild (v_ai (v_iret))))))))
theorem tX11_found_20 {X : pu_X} {r : pu_R} (hX : pu_H X mdX11_found) (hr : pu_P X.2.1 X.2.2.2.2.2.2.2.2.2.2.1 r) (hq : ∀ i pc, pu_lp i = some (185, pc) → pu_S X mdX11_found pc (r i)) : pu_S X mdX11_found 20 (kX11_found_20 r) := by
  unfold kX11_found_20
  exact z_ild_n hX dX11_found_20 rfl (z_ifne hX dX11_found_21 (by decide) (tX11_found_37 hX hr hq) (z_ald_n hX dX11_found_24 rfl (z_gr (c := 11) (j := 2) hX dX11_found_25 rfl inlX11 wm1_20 ⟨rfl, by decide, rfl⟩ (z_gr (c := 5) (j := 6) hX dX11_found_28 rfl inlX5 wm54_0 ⟨rfl, by decide, rfl⟩ (z_gr (c := 1) (j := 8) hX dX11_found_31 rfl inlX1 wm61_11 ⟨rfl, by decide, rfl⟩ (z_ild_n hX dX11_found_34 rfl (z_iald hX dX11_found_35 (z_iret hX dX11_found_36 rfl))))))))
def kX11_found_18 (r : pu_R) : pu_K := s_push (.int (-1)) (s_iret)
theorem vX11_found_18 : pu_cok2 kX11_found_18 := fun rf r hr => by
  unfold kX11_found_18
  exact v_pi (v_iret)
theorem tX11_found_18 {X : pu_X} {r : pu_R} (hX : pu_H X mdX11_found) (hr : pu_P X.2.1 X.2.2.2.2.2.2.2.2.2.2.1 r) (hq : ∀ i pc, pu_lp i = some (185, pc) → pu_S X mdX11_found pc (r i)) : pu_S X mdX11_found 18 (kX11_found_18 r) := by
  unfold kX11_found_18
  exact z_iconst hX dX11_found_18 (by decide) (z_iret hX dX11_found_19 rfl)
def kX11_found_0 (r : pu_R) : pu_K := s_ild 1 (s_iflt (kX11_found_18 r) (s_ild 1 (s_ald 0 (s_gr 11 2 (s_gr 5 6 (s_gi 1 2 (s_iclt (kX11_found_20 r) ((kX11_found_18 r)))))))))
theorem vX11_found_0 : pu_cok2 kX11_found_0 := fun rf r hr => by
  unfold kX11_found_0
  exact v_ild (v_iflt (vX11_found_18 rf r hr) (v_ild (v_ald (v_gr (v_gr (v_gi (v_iclt (vX11_found_20 rf r hr) ((vX11_found_18 rf r hr)))))))))
theorem tX11_found_0 {X : pu_X} {r : pu_R} (hX : pu_H X mdX11_found) (hr : pu_P X.2.1 X.2.2.2.2.2.2.2.2.2.2.1 r) (hq : ∀ i pc, pu_lp i = some (185, pc) → pu_S X mdX11_found pc (r i)) : pu_S X mdX11_found 0 (kX11_found_0 r) := by
  unfold kX11_found_0
  exact z_ild_n hX dX11_found_0 rfl (z_iflt hX dX11_found_1 (by decide) (tX11_found_18 hX hr hq) (z_ild_n hX dX11_found_4 rfl (z_ald_n hX dX11_found_5 rfl (z_gr (c := 11) (j := 2) hX dX11_found_6 rfl inlX11 wm1_20 ⟨rfl, by decide, rfl⟩ (z_gr (c := 5) (j := 6) hX dX11_found_9 rfl inlX5 wm54_0 ⟨rfl, by decide, rfl⟩ (z_gi (c := 1) (j := 2) hX dX11_found_12 rfl inlX1 wm54_1 ⟨rfl, by decide, rfl⟩ (z_iclt hX dX11_found_15 (by decide) (tX11_found_20 hX hr hq) ((tX11_found_18 hX hr hq)))))))))
def kX11_sureDoor_50 (r : pu_R) : pu_K := s_iret
theorem vX11_sureDoor_50 : pu_cok2 kX11_sureDoor_50 := fun rf r hr => by
  unfold kX11_sureDoor_50
  exact v_iret
theorem tX11_sureDoor_50 {X : pu_X} {r : pu_R} (hX : pu_H X mdX11_sureDoor) (hr : pu_P X.2.1 X.2.2.2.2.2.2.2.2.2.2.1 r) (hq : ∀ i pc, pu_lp i = some (186, pc) → pu_S X mdX11_sureDoor pc (r i)) : pu_S X mdX11_sureDoor 50 (kX11_sureDoor_50 r) := by
  unfold kX11_sureDoor_50
  exact z_iret hX dX11_sureDoor_50 rfl
def kX11_sureDoor_34 (r : pu_R) : pu_K := s_ald 0 (s_ald 0 (s_gr 11 5 (s_gr 9 4 (s_ild 2 (s_ai 1 (s_push (.int (2)) (s_idiv (s_ild 1 (s_cv r 179 2 11 ((kX11_sureDoor_50 r)))))))))))
theorem vX11_sureDoor_34 : pu_cok2 kX11_sureDoor_34 := fun rf r hr => by
  unfold kX11_sureDoor_34
  exact v_ald (v_ald (v_gr (v_gr (v_ild (v_ai (v_pi (v_idiv (v_ild (v_cv hr ((vX11_sureDoor_50 rf r hr)))))))))))
theorem tX11_sureDoor_34 {X : pu_X} {r : pu_R} (hX : pu_H X mdX11_sureDoor) (hr : pu_P X.2.1 X.2.2.2.2.2.2.2.2.2.2.1 r) (hq : ∀ i pc, pu_lp i = some (186, pc) → pu_S X mdX11_sureDoor pc (r i)) : pu_S X mdX11_sureDoor 34 (kX11_sureDoor_34 r) := by
  unfold kX11_sureDoor_34
  exact z_ald_n hX dX11_sureDoor_34 rfl (z_ald_n hX dX11_sureDoor_35 rfl (z_gr (c := 11) (j := 5) hX dX11_sureDoor_36 rfl inlX11 wm2_5 ⟨rfl, by decide, rfl⟩ (z_gr (c := 9) (j := 4) hX dX11_sureDoor_39 rfl inlX9 wm38_12 ⟨rfl, by decide, rfl⟩ (z_ild_n hX dX11_sureDoor_42 rfl (z_iald hX dX11_sureDoor_43 (z_iconst hX dX11_sureDoor_44 (by decide) (z_idiv hX dX11_sureDoor_45 (z_ild_n hX dX11_sureDoor_46 rfl (z_cv (c := 11) hX hr dX11_sureDoor_47 hjX11_toldOf mwX11_toldOf rfl wm57_0 ⟨wm57_1, wm57_2⟩ ⟨Nat.le_of_ble_eq_true rfl, Nat.le_of_ble_eq_true rfl⟩ ((tX11_sureDoor_50 hX hr hq)))))))))))
def kX11_sureDoor_10 (r : pu_R) : pu_K := s_ald 0 (s_gr 11 5 (s_ald 0 (s_gr 11 4 (s_gi 7 2 (s_cv r 79 1 9 (s_ist 2 (s_ild 2 (s_push (.int (-1)) (s_icne (kX11_sureDoor_34 r) (s_push (.int (-1)) ((kX11_sureDoor_50 r))))))))))))
theorem vX11_sureDoor_10 : pu_cok2 kX11_sureDoor_10 := fun rf r hr => by
  unfold kX11_sureDoor_10
  exact v_ald (v_gr (v_ald (v_gr (v_gi (v_cv hr (v_ist (v_ild (v_pi (v_icne (vX11_sureDoor_34 rf r hr) (v_pi ((vX11_sureDoor_50 rf r hr))))))))))))
theorem tX11_sureDoor_10 {X : pu_X} {r : pu_R} (hX : pu_H X mdX11_sureDoor) (hr : pu_P X.2.1 X.2.2.2.2.2.2.2.2.2.2.1 r) (hq : ∀ i pc, pu_lp i = some (186, pc) → pu_S X mdX11_sureDoor pc (r i)) : pu_S X mdX11_sureDoor 10 (kX11_sureDoor_10 r) := by
  unfold kX11_sureDoor_10
  exact z_ald_n hX dX11_sureDoor_10 rfl (z_gr (c := 11) (j := 5) hX dX11_sureDoor_11 rfl inlX11 wm2_5 ⟨rfl, by decide, rfl⟩ (z_ald_n hX dX11_sureDoor_14 rfl (z_gr (c := 11) (j := 4) hX dX11_sureDoor_15 rfl inlX11 wm2_1 ⟨rfl, by decide, rfl⟩ (z_gi (c := 7) (j := 2) hX dX11_sureDoor_18 rfl inlX7 wm54_2 ⟨rfl, by decide, rfl⟩ (z_cv (c := 9) hX hr dX11_sureDoor_21 hjX9_indexOf mwX9_indexOf rfl wm55_23 ⟨wm26_19, wm26_20⟩ ⟨Nat.le_of_ble_eq_true rfl, Nat.le_of_ble_eq_true rfl⟩ (z_ist_n hX dX11_sureDoor_24 rfl (z_ild_n hX dX11_sureDoor_25 rfl (z_iconst hX dX11_sureDoor_26 (by decide) (z_icne hX dX11_sureDoor_27 (by decide) (tX11_sureDoor_34 hX hr hq) (z_iconst hX dX11_sureDoor_30 (by decide) ((z_goto hX dX11_sureDoor_31 (by decide) (tX11_sureDoor_50 hX hr hq)))))))))))))
def kX11_sureDoor_0 (r : pu_R) : pu_K := s_ald 0 (s_ild 1 (s_cv r 173 1 11 (s_ifne (kX11_sureDoor_10 r) (s_push (.int (-1)) (s_iret)))))
theorem vX11_sureDoor_0 : pu_cok2 kX11_sureDoor_0 := fun rf r hr => by
  unfold kX11_sureDoor_0
  exact v_ald (v_ild (v_cv hr (v_ifne (vX11_sureDoor_10 rf r hr) (v_pi (v_iret)))))
theorem tX11_sureDoor_0 {X : pu_X} {r : pu_R} (hX : pu_H X mdX11_sureDoor) (hr : pu_P X.2.1 X.2.2.2.2.2.2.2.2.2.2.1 r) (hq : ∀ i pc, pu_lp i = some (186, pc) → pu_S X mdX11_sureDoor pc (r i)) : pu_S X mdX11_sureDoor 0 (kX11_sureDoor_0 r) := by
  unfold kX11_sureDoor_0
  exact z_ald_n hX dX11_sureDoor_0 rfl (z_ild_n hX dX11_sureDoor_1 rfl (z_cv (c := 11) hX hr dX11_sureDoor_2 hjX11_viewStreetOfAddress mwX11_viewStreetOfAddress rfl wm55_14 ⟨wm55_15, wm55_16⟩ ⟨Nat.le_of_ble_eq_true rfl, Nat.le_of_ble_eq_true rfl⟩ (z_ifne hX dX11_sureDoor_5 (by decide) (tX11_sureDoor_10 hX hr hq) (z_iconst hX dX11_sureDoor_8 (by decide) (z_iret hX dX11_sureDoor_9 rfl)))))
def kX11_seekOldAt_148 (r : pu_R) : pu_K := s_vret
theorem vX11_seekOldAt_148 : pu_cok2 kX11_seekOldAt_148 := fun rf r hr => by
  unfold kX11_seekOldAt_148
  exact v_vret
theorem tX11_seekOldAt_148 {X : pu_X} {r : pu_R} (hX : pu_H X mdX11_seekOldAt) (hr : pu_P X.2.1 X.2.2.2.2.2.2.2.2.2.2.1 r) (hq : ∀ i pc, pu_lp i = some (187, pc) → pu_S X mdX11_seekOldAt pc (r i)) : pu_S X mdX11_seekOldAt 148 (kX11_seekOldAt_148 r) := by
  unfold kX11_seekOldAt_148
  exact z_vret hX dX11_seekOldAt_148 rfl
def kX11_seekOldAt_142 (r : pu_R) : pu_K := s_inc 4 (1) ((r 408))
theorem vX11_seekOldAt_142 : pu_cok2 kX11_seekOldAt_142 := fun rf r hr => by
  unfold kX11_seekOldAt_142
  exact v_inc ((hr 408))
theorem tX11_seekOldAt_142 {X : pu_X} {r : pu_R} (hX : pu_H X mdX11_seekOldAt) (hr : pu_P X.2.1 X.2.2.2.2.2.2.2.2.2.2.1 r) (hq : ∀ i pc, pu_lp i = some (187, pc) → pu_S X mdX11_seekOldAt pc (r i)) : pu_S X mdX11_seekOldAt 142 (kX11_seekOldAt_142 r) := by
  unfold kX11_seekOldAt_142
  exact z_inc hX dX11_seekOldAt_142 (by decide) ((z_goto hX dX11_seekOldAt_145 (by decide) (hq 408 3 hl408)))
def kX11_seekOldAt_111 (r : pu_R) : pu_K := s_isub (s_ist 6 (s_ild 6 (s_ild 5 (s_iclt (kX11_seekOldAt_142 r) (s_ild 6 (s_ald 0 (s_gi 11 8 (s_icle (kX11_seekOldAt_142 r) (s_ald 0 (s_ild 6 (s_pi 11 8 (s_ald 0 (s_ild 4 (s_pi 11 9 ((kX11_seekOldAt_142 r))))))))))))))))
theorem vX11_seekOldAt_111 : pu_cok2 kX11_seekOldAt_111 := fun rf r hr => by
  unfold kX11_seekOldAt_111
  exact v_isub (v_ist (v_ild (v_ild (v_iclt (vX11_seekOldAt_142 rf r hr) (v_ild (v_ald (v_gi (v_icle (vX11_seekOldAt_142 rf r hr) (v_ald (v_ild (v_puti (v_ald (v_ild (v_puti ((vX11_seekOldAt_142 rf r hr))))))))))))))))
theorem tX11_seekOldAt_111 {X : pu_X} {r : pu_R} (hX : pu_H X mdX11_seekOldAt) (hr : pu_P X.2.1 X.2.2.2.2.2.2.2.2.2.2.1 r) (hq : ∀ i pc, pu_lp i = some (187, pc) → pu_S X mdX11_seekOldAt pc (r i)) : pu_S X mdX11_seekOldAt 111 (kX11_seekOldAt_111 r) := by
  unfold kX11_seekOldAt_111
  exact z_isub hX dX11_seekOldAt_111 (z_ist hX dX11_seekOldAt_112 (z_ild hX dX11_seekOldAt_114 (z_ild hX dX11_seekOldAt_116 (z_iclt hX dX11_seekOldAt_118 (by decide) (tX11_seekOldAt_142 hX hr hq) (z_ild hX dX11_seekOldAt_121 (z_ald_n hX dX11_seekOldAt_123 rfl (z_gi (c := 11) (j := 8) hX dX11_seekOldAt_124 rfl inlX11 wm2_9 ⟨rfl, by decide, rfl⟩ (z_icle hX dX11_seekOldAt_127 (by decide) (tX11_seekOldAt_142 hX hr hq) (z_ald_n hX dX11_seekOldAt_130 rfl (z_ild hX dX11_seekOldAt_131 (z_pi (c := 11) (j := 8) tyX11 tyX11_ok nmX11 hX dX11_seekOldAt_133 rfl inlX11 wm2_9 ⟨rfl, by decide⟩ ⟨rfl, rfl⟩ rfl (z_ald_n hX dX11_seekOldAt_136 rfl (z_ild hX dX11_seekOldAt_137 (z_pi (c := 11) (j := 9) tyX11 tyX11_ok nmX11 hX dX11_seekOldAt_139 rfl inlX11 wm2_10 ⟨rfl, by decide⟩ ⟨rfl, rfl⟩ rfl ((tX11_seekOldAt_142 hX hr hq))))))))))))))))
def kX11_seekOldAt_56 (r : pu_R) : pu_K := s_gr 11 2 (s_gr 5 0 (s_ald 0 (s_gr 11 2 (s_gr 5 4 (s_gr 2 5 (s_ild 4 (s_ai 1 (s_cv r 47 1 6 (s_max (s_ist 5 (s_ild 3 (s_ald 0 (s_gr 11 2 (s_gr 5 0 (s_ald 0 (s_gr 11 2 (s_gr 5 4 (s_gr 2 6 (s_ild 4 (s_ai 1 (s_cv r 148 1 6 (s_min (s_push (.int (1)) ((kX11_seekOldAt_111 r)))))))))))))))))))))))))
theorem vX11_seekOldAt_56 : pu_cok2 kX11_seekOldAt_56 := fun rf r hr => by
  unfold kX11_seekOldAt_56
  exact v_gr (v_gr (v_ald (v_gr (v_gr (v_gr (v_ild (v_ai (v_cv hr (v_max (v_ist (v_ild (v_ald (v_gr (v_gr (v_ald (v_gr (v_gr (v_gr (v_ild (v_ai (v_cv hr (v_min (v_pi ((vX11_seekOldAt_111 rf r hr)))))))))))))))))))))))))
theorem tX11_seekOldAt_56 {X : pu_X} {r : pu_R} (hX : pu_H X mdX11_seekOldAt) (hr : pu_P X.2.1 X.2.2.2.2.2.2.2.2.2.2.1 r) (hq : ∀ i pc, pu_lp i = some (187, pc) → pu_S X mdX11_seekOldAt pc (r i)) : pu_S X mdX11_seekOldAt 56 (kX11_seekOldAt_56 r) := by
  unfold kX11_seekOldAt_56
  exact z_gr (c := 11) (j := 2) hX dX11_seekOldAt_56 rfl inlX11 wm1_20 ⟨rfl, by decide, rfl⟩ (z_gr (c := 5) (j := 0) hX dX11_seekOldAt_59 rfl inlX5 wm10_19 ⟨rfl, by decide, rfl⟩ (z_ald_n hX dX11_seekOldAt_62 rfl (z_gr (c := 11) (j := 2) hX dX11_seekOldAt_63 rfl inlX11 wm1_20 ⟨rfl, by decide, rfl⟩ (z_gr (c := 5) (j := 4) hX dX11_seekOldAt_66 rfl inlX5 wm21_20 ⟨rfl, by decide, rfl⟩ (z_gr (c := 2) (j := 5) hX dX11_seekOldAt_69 rfl inlX2 wm62_21 ⟨rfl, by decide, rfl⟩ (z_ild hX dX11_seekOldAt_72 (z_iald hX dX11_seekOldAt_74 (z_cv (c := 6) hX hr dX11_seekOldAt_75 hjX6_startOf mwX6_startOf rfl wm48_18 ⟨wm18_21, wm18_22⟩ ⟨Nat.le_of_ble_eq_true rfl, Nat.le_of_ble_eq_true rfl⟩ (z_max hX dX11_seekOldAt_78 ⟨wm32_13, wm18_12, wm18_13, wm18_14⟩ ⟨Nat.le_of_ble_eq_true rfl, Nat.le_of_ble_eq_true rfl⟩ (z_ist hX dX11_seekOldAt_81 (z_ild_n hX dX11_seekOldAt_83 rfl (z_ald_n hX dX11_seekOldAt_84 rfl (z_gr (c := 11) (j := 2) hX dX11_seekOldAt_85 rfl inlX11 wm1_20 ⟨rfl, by decide, rfl⟩ (z_gr (c := 5) (j := 0) hX dX11_seekOldAt_88 rfl inlX5 wm10_19 ⟨rfl, by decide, rfl⟩ (z_ald_n hX dX11_seekOldAt_91 rfl (z_gr (c := 11) (j := 2) hX dX11_seekOldAt_92 rfl inlX11 wm1_20 ⟨rfl, by decide, rfl⟩ (z_gr (c := 5) (j := 4) hX dX11_seekOldAt_95 rfl inlX5 wm21_20 ⟨rfl, by decide, rfl⟩ (z_gr (c := 2) (j := 6) hX dX11_seekOldAt_98 rfl inlX2 wm62_22 ⟨rfl, by decide, rfl⟩ (z_ild hX dX11_seekOldAt_101 (z_iald hX dX11_seekOldAt_103 (z_cv (c := 6) hX hr dX11_seekOldAt_104 hjX6_endOf mwX6_endOf rfl wm48_19 ⟨wm48_20, wm48_21⟩ ⟨Nat.le_of_ble_eq_true rfl, Nat.le_of_ble_eq_true rfl⟩ (z_min hX dX11_seekOldAt_107 ⟨wm42_1, wm19_23, wm18_13, wm20_0⟩ ⟨Nat.le_of_ble_eq_true rfl, Nat.le_of_ble_eq_true rfl⟩ (z_iconst hX dX11_seekOldAt_110 (by decide) ((tX11_seekOldAt_111 hX hr hq)))))))))))))))))))))))))
def kX11_seekOldAt_3 (r : pu_R) : pu_K := s_ild 4 (s_ald 0 (s_gr 11 2 (s_gr 5 4 (s_gi 2 0 (s_icge (kX11_seekOldAt_148 r) (s_ald 0 (s_ild 4 (s_ild 1 (s_cv r 178 2 11 (s_ifeq (kX11_seekOldAt_142 r) (s_ald 0 (s_gr 11 2 (s_gr 5 0 (s_ald 0 (s_gr 11 2 (s_gr 5 4 (s_gr 2 5 (s_ild 4 (s_ai 1 (s_cv r 67 1 6 (s_ifeq (kX11_seekOldAt_142 r) (s_ild 2 (s_ald 0 ((kX11_seekOldAt_56 r)))))))))))))))))))))))))
theorem vX11_seekOldAt_3 : pu_cok2 kX11_seekOldAt_3 := fun rf r hr => by
  unfold kX11_seekOldAt_3
  exact v_ild (v_ald (v_gr (v_gr (v_gi (v_icge (vX11_seekOldAt_148 rf r hr) (v_ald (v_ild (v_ild (v_cv hr (v_ifeq (vX11_seekOldAt_142 rf r hr) (v_ald (v_gr (v_gr (v_ald (v_gr (v_gr (v_gr (v_ild (v_ai (v_cv hr (v_ifeq (vX11_seekOldAt_142 rf r hr) (v_ild (v_ald ((vX11_seekOldAt_56 rf r hr)))))))))))))))))))))))))
theorem tX11_seekOldAt_3 {X : pu_X} {r : pu_R} (hX : pu_H X mdX11_seekOldAt) (hr : pu_P X.2.1 X.2.2.2.2.2.2.2.2.2.2.1 r) (hq : ∀ i pc, pu_lp i = some (187, pc) → pu_S X mdX11_seekOldAt pc (r i)) : pu_S X mdX11_seekOldAt 3 (kX11_seekOldAt_3 r) := by
  unfold kX11_seekOldAt_3
  exact z_ild hX dX11_seekOldAt_3 (z_ald_n hX dX11_seekOldAt_5 rfl (z_gr (c := 11) (j := 2) hX dX11_seekOldAt_6 rfl inlX11 wm1_20 ⟨rfl, by decide, rfl⟩ (z_gr (c := 5) (j := 4) hX dX11_seekOldAt_9 rfl inlX5 wm21_20 ⟨rfl, by decide, rfl⟩ (z_gi (c := 2) (j := 0) hX dX11_seekOldAt_12 rfl inlX2 wm21_21 ⟨rfl, by decide, rfl⟩ (z_icge hX dX11_seekOldAt_15 (by decide) (tX11_seekOldAt_148 hX hr hq) (z_ald_n hX dX11_seekOldAt_18 rfl (z_ild hX dX11_seekOldAt_19 (z_ild_n hX dX11_seekOldAt_21 rfl (z_cv (c := 11) hX hr dX11_seekOldAt_22 hjX11_isTold mwX11_isTold rfl wm57_4 ⟨wm57_5, wm57_6⟩ ⟨Nat.le_of_ble_eq_true rfl, Nat.le_of_ble_eq_true rfl⟩ (z_ifeq hX dX11_seekOldAt_25 (by decide) (tX11_seekOldAt_142 hX hr hq) (z_ald_n hX dX11_seekOldAt_28 rfl (z_gr (c := 11) (j := 2) hX dX11_seekOldAt_29 rfl inlX11 wm1_20 ⟨rfl, by decide, rfl⟩ (z_gr (c := 5) (j := 0) hX dX11_seekOldAt_32 rfl inlX5 wm10_19 ⟨rfl, by decide, rfl⟩ (z_ald_n hX dX11_seekOldAt_35 rfl (z_gr (c := 11) (j := 2) hX dX11_seekOldAt_36 rfl inlX11 wm1_20 ⟨rfl, by decide, rfl⟩ (z_gr (c := 5) (j := 4) hX dX11_seekOldAt_39 rfl inlX5 wm21_20 ⟨rfl, by decide, rfl⟩ (z_gr (c := 2) (j := 5) hX dX11_seekOldAt_42 rfl inlX2 wm62_21 ⟨rfl, by decide, rfl⟩ (z_ild hX dX11_seekOldAt_45 (z_iald hX dX11_seekOldAt_47 (z_cv (c := 6) hX hr dX11_seekOldAt_48 hjX6_isThere mwX6_isThere rfl wm62_9 ⟨wm24_22, wm24_23⟩ ⟨Nat.le_of_ble_eq_true rfl, Nat.le_of_ble_eq_true rfl⟩ (z_ifeq hX dX11_seekOldAt_51 (by decide) (tX11_seekOldAt_142 hX hr hq) (z_ild_n hX dX11_seekOldAt_54 rfl (z_ald_n hX dX11_seekOldAt_55 rfl ((tX11_seekOldAt_56 hX hr hq)))))))))))))))))))))))))
def kX11_seekOldAt_0 (r : pu_R) : pu_K := s_push (.int (0)) (s_ist 4 ((r 408)))
theorem vX11_seekOldAt_0 : pu_cok2 kX11_seekOldAt_0 := fun rf r hr => by
  unfold kX11_seekOldAt_0
  exact v_pi (v_ist ((hr 408)))
theorem tX11_seekOldAt_0 {X : pu_X} {r : pu_R} (hX : pu_H X mdX11_seekOldAt) (hr : pu_P X.2.1 X.2.2.2.2.2.2.2.2.2.2.1 r) (hq : ∀ i pc, pu_lp i = some (187, pc) → pu_S X mdX11_seekOldAt pc (r i)) : pu_S X mdX11_seekOldAt 0 (kX11_seekOldAt_0 r) := by
  unfold kX11_seekOldAt_0
  exact z_iconst hX dX11_seekOldAt_0 (by decide) (z_ist hX dX11_seekOldAt_1 ((hq 408 3 hl408)))
