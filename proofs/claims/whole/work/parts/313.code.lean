def kX12_tear_65 (r : pu_R) : pu_K := s_ild 5 (s_iret)
theorem vX12_tear_65 : pu_cok2 kX12_tear_65 := fun rf r hr => by
  unfold kX12_tear_65
  exact v_ild (v_iret)
theorem tX12_tear_65 {X : pu_X} {r : pu_R} (hX : pu_H X mdX12_tear) (hr : pu_P X.2.1 X.2.2.2.2.2.2.2.2.2.2.1 r) (hq : ∀ i pc, pu_lp i = some (299, pc) → pu_S X mdX12_tear pc (r i)) : pu_S X mdX12_tear 65 (kX12_tear_65 r) := by
  unfold kX12_tear_65
  exact z_ild hX dX12_tear_65 (z_iret hX dX12_tear_67 rfl)
def kX12_tear_27 (r : pu_R) : pu_K := s_push (.int (30632)) (s_push (.int (601)) (s_push (.int (2)) (s_ild 1 (s_imul (s_ild 2 (s_iadd (s_imul (s_iadd (s_ist 4 (s_ald 0 (s_gr 12 0 (s_ild 4 (s_ai 1 (s_ist 5 (s_ild 3 (s_ild 5 (s_icge (kX12_tear_65 r) (s_ald 0 (s_gr 12 0 (s_ild 4 (s_ild 3 (s_wi 1 ((kX12_tear_65 r))))))))))))))))))))))))
theorem vX12_tear_27 : pu_cok2 kX12_tear_27 := fun rf r hr => by
  unfold kX12_tear_27
  exact v_pi (v_pi (v_pi (v_ild (v_imul (v_ild (v_iadd (v_imul (v_iadd (v_ist (v_ald (v_gr (v_ild (v_ai (v_ist (v_ild (v_ild (v_icge (vX12_tear_65 rf r hr) (v_ald (v_gr (v_ild (v_ild (v_wi ((vX12_tear_65 rf r hr))))))))))))))))))))))))
theorem tX12_tear_27 {X : pu_X} {r : pu_R} (hX : pu_H X mdX12_tear) (hr : pu_P X.2.1 X.2.2.2.2.2.2.2.2.2.2.1 r) (hq : ∀ i pc, pu_lp i = some (299, pc) → pu_S X mdX12_tear pc (r i)) : pu_S X mdX12_tear 27 (kX12_tear_27 r) := by
  unfold kX12_tear_27
  exact z_sipush hX dX12_tear_27 (by decide) (z_sipush hX dX12_tear_30 (by decide) (z_iconst hX dX12_tear_33 (by decide) (z_ild_n hX dX12_tear_34 rfl (z_imul hX dX12_tear_35 (z_ild_n hX dX12_tear_36 rfl (z_iadd hX dX12_tear_37 (z_imul hX dX12_tear_38 (z_iadd hX dX12_tear_39 (z_ist hX dX12_tear_40 (z_ald_n hX dX12_tear_42 rfl (z_gr (c := 12) (j := 0) hX dX12_tear_43 rfl inlX12 wm7_16 ⟨rfl, by decide, rfl⟩ (z_ild hX dX12_tear_46 (z_iald hX dX12_tear_48 (z_ist hX dX12_tear_49 (z_ild_n hX dX12_tear_51 rfl (z_ild hX dX12_tear_52 (z_icge hX dX12_tear_54 (by decide) (tX12_tear_65 hX hr hq) (z_ald_n hX dX12_tear_57 rfl (z_gr (c := 12) (j := 0) hX dX12_tear_58 rfl inlX12 wm7_16 ⟨rfl, by decide, rfl⟩ (z_ild hX dX12_tear_61 (z_ild_n hX dX12_tear_63 rfl (z_iast hX dX12_tear_64 ((tX12_tear_65 hX hr hq))))))))))))))))))))))))
def kX12_tear_19 (r : pu_R) : pu_K := s_ild 3 (s_push (.int (-1)) (s_icge (kX12_tear_27 r) (s_push (.int (-2)) (s_iret))))
theorem vX12_tear_19 : pu_cok2 kX12_tear_19 := fun rf r hr => by
  unfold kX12_tear_19
  exact v_ild (v_pi (v_icge (vX12_tear_27 rf r hr) (v_pi (v_iret))))
theorem tX12_tear_19 {X : pu_X} {r : pu_R} (hX : pu_H X mdX12_tear) (hr : pu_P X.2.1 X.2.2.2.2.2.2.2.2.2.2.1 r) (hq : ∀ i pc, pu_lp i = some (299, pc) → pu_S X mdX12_tear pc (r i)) : pu_S X mdX12_tear 19 (kX12_tear_19 r) := by
  unfold kX12_tear_19
  exact z_ild_n hX dX12_tear_19 rfl (z_iconst hX dX12_tear_20 (by decide) (z_icge hX dX12_tear_21 (by decide) (tX12_tear_27 hX hr hq) (z_bipush hX dX12_tear_24 (by decide) (z_iret hX dX12_tear_26 rfl))))
def kX12_tear_17 (r : pu_R) : pu_K := s_push (.int (-1)) (s_iret)
theorem vX12_tear_17 : pu_cok2 kX12_tear_17 := fun rf r hr => by
  unfold kX12_tear_17
  exact v_pi (v_iret)
theorem tX12_tear_17 {X : pu_X} {r : pu_R} (hX : pu_H X mdX12_tear) (hr : pu_P X.2.1 X.2.2.2.2.2.2.2.2.2.2.1 r) (hq : ∀ i pc, pu_lp i = some (299, pc) → pu_S X mdX12_tear pc (r i)) : pu_S X mdX12_tear 17 (kX12_tear_17 r) := by
  unfold kX12_tear_17
  exact z_iconst hX dX12_tear_17 (by decide) (z_iret hX dX12_tear_18 rfl)
def kX12_tear_0 (r : pu_R) : pu_K := s_ald 0 (s_ild 1 (s_cv r 251 1 12 (s_ifeq (kX12_tear_17 r) (s_ild 2 (s_iflt (kX12_tear_17 r) (s_ild 2 (s_push (.int (1)) (s_icle (kX12_tear_19 r) ((kX12_tear_17 r))))))))))
theorem vX12_tear_0 : pu_cok2 kX12_tear_0 := fun rf r hr => by
  unfold kX12_tear_0
  exact v_ald (v_ild (v_cv hr (v_ifeq (vX12_tear_17 rf r hr) (v_ild (v_iflt (vX12_tear_17 rf r hr) (v_ild (v_pi (v_icle (vX12_tear_19 rf r hr) ((vX12_tear_17 rf r hr))))))))))
theorem tX12_tear_0 {X : pu_X} {r : pu_R} (hX : pu_H X mdX12_tear) (hr : pu_P X.2.1 X.2.2.2.2.2.2.2.2.2.2.1 r) (hq : ∀ i pc, pu_lp i = some (299, pc) → pu_S X mdX12_tear pc (r i)) : pu_S X mdX12_tear 0 (kX12_tear_0 r) := by
  unfold kX12_tear_0
  exact z_ald_n hX dX12_tear_0 rfl (z_ild_n hX dX12_tear_1 rfl (z_cv (c := 12) hX hr dX12_tear_2 hjX12_isStreet mwX12_isStreet rfl wm28_6 ⟨wm28_7, wm28_8⟩ ⟨Nat.le_of_ble_eq_true rfl, Nat.le_of_ble_eq_true rfl⟩ (z_ifeq hX dX12_tear_5 (by decide) (tX12_tear_17 hX hr hq) (z_ild_n hX dX12_tear_8 rfl (z_iflt hX dX12_tear_9 (by decide) (tX12_tear_17 hX hr hq) (z_ild_n hX dX12_tear_12 rfl (z_iconst hX dX12_tear_13 (by decide) (z_icle hX dX12_tear_14 (by decide) (tX12_tear_19 hX hr hq) ((tX12_tear_17 hX hr hq))))))))))
def kX12_unmade_89 (r : pu_R) : pu_K := s_vret
theorem vX12_unmade_89 : pu_cok2 kX12_unmade_89 := fun rf r hr => by
  unfold kX12_unmade_89
  exact v_vret
theorem tX12_unmade_89 {X : pu_X} {r : pu_R} (hX : pu_H X mdX12_unmade) (hr : pu_P X.2.1 X.2.2.2.2.2.2.2.2.2.2.1 r) (hq : ∀ i pc, pu_lp i = some (300, pc) → pu_S X mdX12_unmade pc (r i)) : pu_S X mdX12_unmade 89 (kX12_unmade_89 r) := by
  unfold kX12_unmade_89
  exact z_vret hX dX12_unmade_89 rfl
def kX12_unmade_66 (r : pu_R) : pu_K := s_ild 4 (s_push (.int (7)) (s_icge (kX12_unmade_89 r) (s_ald 0 (s_gr 12 0 (s_ild 3 (s_ild 4 (s_iadd (s_push (.int (-1)) (s_wi 1 (s_inc 4 (1) ((r 479))))))))))))
theorem vX12_unmade_66 : pu_cok2 kX12_unmade_66 := fun rf r hr => by
  unfold kX12_unmade_66
  exact v_ild (v_pi (v_icge (vX12_unmade_89 rf r hr) (v_ald (v_gr (v_ild (v_ild (v_iadd (v_pi (v_wi (v_inc ((hr 479))))))))))))
theorem tX12_unmade_66 {X : pu_X} {r : pu_R} (hX : pu_H X mdX12_unmade) (hr : pu_P X.2.1 X.2.2.2.2.2.2.2.2.2.2.1 r) (hq : ∀ i pc, pu_lp i = some (300, pc) → pu_S X mdX12_unmade pc (r i)) : pu_S X mdX12_unmade 66 (kX12_unmade_66 r) := by
  unfold kX12_unmade_66
  exact z_ild hX dX12_unmade_66 (z_bipush hX dX12_unmade_68 (by decide) (z_icge hX dX12_unmade_70 (by decide) (tX12_unmade_89 hX hr hq) (z_ald_n hX dX12_unmade_73 rfl (z_gr (c := 12) (j := 0) hX dX12_unmade_74 rfl inlX12 wm7_16 ⟨rfl, by decide, rfl⟩ (z_ild_n hX dX12_unmade_77 rfl (z_ild hX dX12_unmade_78 (z_iadd hX dX12_unmade_80 (z_iconst hX dX12_unmade_81 (by decide) (z_iast hX dX12_unmade_82 (z_inc hX dX12_unmade_83 (by decide) ((z_goto hX dX12_unmade_86 (by decide) (hq 479 66 hl479)))))))))))))
def kX12_unmade_46 (r : pu_R) : pu_K := s_ald 0 (s_gr 12 0 (s_ild 3 (s_push (.int (0)) (s_wi 1 (s_ald 0 (s_gr 12 0 (s_ild 3 (s_push (.int (11)) (s_iadd (s_push (.int (-1)) (s_wi 1 (s_push (.int (4)) (s_ist 4 ((r 479)))))))))))))))
theorem vX12_unmade_46 : pu_cok2 kX12_unmade_46 := fun rf r hr => by
  unfold kX12_unmade_46
  exact v_ald (v_gr (v_ild (v_pi (v_wi (v_ald (v_gr (v_ild (v_pi (v_iadd (v_pi (v_wi (v_pi (v_ist ((hr 479)))))))))))))))
theorem tX12_unmade_46 {X : pu_X} {r : pu_R} (hX : pu_H X mdX12_unmade) (hr : pu_P X.2.1 X.2.2.2.2.2.2.2.2.2.2.1 r) (hq : ∀ i pc, pu_lp i = some (300, pc) → pu_S X mdX12_unmade pc (r i)) : pu_S X mdX12_unmade 46 (kX12_unmade_46 r) := by
  unfold kX12_unmade_46
  exact z_ald_n hX dX12_unmade_46 rfl (z_gr (c := 12) (j := 0) hX dX12_unmade_47 rfl inlX12 wm7_16 ⟨rfl, by decide, rfl⟩ (z_ild_n hX dX12_unmade_50 rfl (z_iconst hX dX12_unmade_51 (by decide) (z_iast hX dX12_unmade_52 (z_ald_n hX dX12_unmade_53 rfl (z_gr (c := 12) (j := 0) hX dX12_unmade_54 rfl inlX12 wm7_16 ⟨rfl, by decide, rfl⟩ (z_ild_n hX dX12_unmade_57 rfl (z_bipush hX dX12_unmade_58 (by decide) (z_iadd hX dX12_unmade_60 (z_iconst hX dX12_unmade_61 (by decide) (z_iast hX dX12_unmade_62 (z_iconst hX dX12_unmade_63 (by decide) (z_ist hX dX12_unmade_64 ((hq 479 66 hl479)))))))))))))))
def kX12_unmade_32 (r : pu_R) : pu_K := s_ald 0 (s_gr 12 0 (s_ild 3 (s_push (.int (11)) (s_iadd (s_ai 1 (s_ild 2 (s_iceq (kX12_unmade_46 r) (s_vret))))))))
theorem vX12_unmade_32 : pu_cok2 kX12_unmade_32 := fun rf r hr => by
  unfold kX12_unmade_32
  exact v_ald (v_gr (v_ild (v_pi (v_iadd (v_ai (v_ild (v_iceq (vX12_unmade_46 rf r hr) (v_vret))))))))
theorem tX12_unmade_32 {X : pu_X} {r : pu_R} (hX : pu_H X mdX12_unmade) (hr : pu_P X.2.1 X.2.2.2.2.2.2.2.2.2.2.1 r) (hq : ∀ i pc, pu_lp i = some (300, pc) → pu_S X mdX12_unmade pc (r i)) : pu_S X mdX12_unmade 32 (kX12_unmade_32 r) := by
  unfold kX12_unmade_32
  exact z_ald_n hX dX12_unmade_32 rfl (z_gr (c := 12) (j := 0) hX dX12_unmade_33 rfl inlX12 wm7_16 ⟨rfl, by decide, rfl⟩ (z_ild_n hX dX12_unmade_36 rfl (z_bipush hX dX12_unmade_37 (by decide) (z_iadd hX dX12_unmade_39 (z_iald hX dX12_unmade_40 (z_ild_n hX dX12_unmade_41 rfl (z_iceq hX dX12_unmade_42 (by decide) (tX12_unmade_46 hX hr hq) (z_vret hX dX12_unmade_45 rfl))))))))
def kX12_unmade_0 (r : pu_R) : pu_K := s_push (.int (9552)) (s_push (.int (12)) (s_ild 1 (s_imul (s_iadd (s_ist 3 (s_ald 0 (s_gr 12 0 (s_ild 3 (s_push (.int (10)) (s_iadd (s_ai 1 (s_ild 2 (s_icne (kX12_unmade_32 r) (s_ald 0 (s_gr 12 0 (s_ild 3 (s_push (.int (10)) (s_iadd (s_push (.int (-1)) (s_wi 1 ((kX12_unmade_32 r))))))))))))))))))))))
theorem vX12_unmade_0 : pu_cok2 kX12_unmade_0 := fun rf r hr => by
  unfold kX12_unmade_0
  exact v_pi (v_pi (v_ild (v_imul (v_iadd (v_ist (v_ald (v_gr (v_ild (v_pi (v_iadd (v_ai (v_ild (v_icne (vX12_unmade_32 rf r hr) (v_ald (v_gr (v_ild (v_pi (v_iadd (v_pi (v_wi ((vX12_unmade_32 rf r hr))))))))))))))))))))))
theorem tX12_unmade_0 {X : pu_X} {r : pu_R} (hX : pu_H X mdX12_unmade) (hr : pu_P X.2.1 X.2.2.2.2.2.2.2.2.2.2.1 r) (hq : ∀ i pc, pu_lp i = some (300, pc) → pu_S X mdX12_unmade pc (r i)) : pu_S X mdX12_unmade 0 (kX12_unmade_0 r) := by
  unfold kX12_unmade_0
  exact z_sipush hX dX12_unmade_0 (by decide) (z_bipush hX dX12_unmade_3 (by decide) (z_ild_n hX dX12_unmade_5 rfl (z_imul hX dX12_unmade_6 (z_iadd hX dX12_unmade_7 (z_ist_n hX dX12_unmade_8 rfl (z_ald_n hX dX12_unmade_9 rfl (z_gr (c := 12) (j := 0) hX dX12_unmade_10 rfl inlX12 wm7_16 ⟨rfl, by decide, rfl⟩ (z_ild_n hX dX12_unmade_13 rfl (z_bipush hX dX12_unmade_14 (by decide) (z_iadd hX dX12_unmade_16 (z_iald hX dX12_unmade_17 (z_ild_n hX dX12_unmade_18 rfl (z_icne hX dX12_unmade_19 (by decide) (tX12_unmade_32 hX hr hq) (z_ald_n hX dX12_unmade_22 rfl (z_gr (c := 12) (j := 0) hX dX12_unmade_23 rfl inlX12 wm7_16 ⟨rfl, by decide, rfl⟩ (z_ild_n hX dX12_unmade_26 rfl (z_bipush hX dX12_unmade_27 (by decide) (z_iadd hX dX12_unmade_29 (z_iconst hX dX12_unmade_30 (by decide) (z_iast hX dX12_unmade_31 ((tX12_unmade_32 hX hr hq))))))))))))))))))))))
def kX12_undo_420 (r : pu_R) : pu_K := s_ald 0 (s_gr 12 0 (s_push (.int (5)) (s_dup2 (s_ai 1 (s_push (.int (1)) (s_isub (s_wi 1 (s_ald 0 (s_gr 12 0 (s_push (.int (5)) (s_ai 1 (s_iret))))))))))))
theorem vX12_undo_420 : pu_cok2 kX12_undo_420 := fun rf r hr => by
  unfold kX12_undo_420
  exact v_ald (v_gr (v_pi (v_dup2 (v_ai (v_pi (v_isub (v_wi (v_ald (v_gr (v_pi (v_ai (v_iret))))))))))))
theorem tX12_undo_420 {X : pu_X} {r : pu_R} (hX : pu_H X mdX12_undo) (hr : pu_P X.2.1 X.2.2.2.2.2.2.2.2.2.2.1 r) (hq : ∀ i pc, pu_lp i = some (301, pc) → pu_S X mdX12_undo pc (r i)) : pu_S X mdX12_undo 420 (kX12_undo_420 r) := by
  unfold kX12_undo_420
  exact z_ald_n hX dX12_undo_420 rfl (z_gr (c := 12) (j := 0) hX dX12_undo_421 rfl inlX12 wm7_16 ⟨rfl, by decide, rfl⟩ (z_iconst hX dX12_undo_424 (by decide) (z_dup2 hX dX12_undo_425 (z_iald hX dX12_undo_426 (z_iconst hX dX12_undo_427 (by decide) (z_isub hX dX12_undo_428 (z_iast hX dX12_undo_429 (z_ald_n hX dX12_undo_430 rfl (z_gr (c := 12) (j := 0) hX dX12_undo_431 rfl inlX12 wm7_16 ⟨rfl, by decide, rfl⟩ (z_iconst hX dX12_undo_434 (by decide) (z_iald hX dX12_undo_435 (z_iret hX dX12_undo_436 rfl))))))))))))
def kX12_undo_382 (r : pu_R) : pu_K := s_ald 0 (s_gr 12 0 (s_push (.int (3)) (s_ai 1 (s_ifle (kX12_undo_420 r) (s_ald 0 (s_ald 0 (s_gr 12 0 (s_push (.int (3)) (s_ai 1 (s_push (.int (1)) (s_isub (s_cv r 253 1 12 (s_push (.int (-1)) (s_icne (kX12_undo_420 r) (s_ald 0 (s_gr 12 0 (s_push (.int (3)) (s_dup2 (s_ai 1 (s_push (.int (1)) (s_isub (s_wi 1 ((r 487))))))))))))))))))))))))
theorem vX12_undo_382 : pu_cok2 kX12_undo_382 := fun rf r hr => by
  unfold kX12_undo_382
  exact v_ald (v_gr (v_pi (v_ai (v_ifle (vX12_undo_420 rf r hr) (v_ald (v_ald (v_gr (v_pi (v_ai (v_pi (v_isub (v_cv hr (v_pi (v_icne (vX12_undo_420 rf r hr) (v_ald (v_gr (v_pi (v_dup2 (v_ai (v_pi (v_isub (v_wi ((hr 487))))))))))))))))))))))))
theorem tX12_undo_382 {X : pu_X} {r : pu_R} (hX : pu_H X mdX12_undo) (hr : pu_P X.2.1 X.2.2.2.2.2.2.2.2.2.2.1 r) (hq : ∀ i pc, pu_lp i = some (301, pc) → pu_S X mdX12_undo pc (r i)) : pu_S X mdX12_undo 382 (kX12_undo_382 r) := by
  unfold kX12_undo_382
  exact z_ald_n hX dX12_undo_382 rfl (z_gr (c := 12) (j := 0) hX dX12_undo_383 rfl inlX12 wm7_16 ⟨rfl, by decide, rfl⟩ (z_iconst hX dX12_undo_386 (by decide) (z_iald hX dX12_undo_387 (z_ifle hX dX12_undo_388 (by decide) (tX12_undo_420 hX hr hq) (z_ald_n hX dX12_undo_391 rfl (z_ald_n hX dX12_undo_392 rfl (z_gr (c := 12) (j := 0) hX dX12_undo_393 rfl inlX12 wm7_16 ⟨rfl, by decide, rfl⟩ (z_iconst hX dX12_undo_396 (by decide) (z_iald hX dX12_undo_397 (z_iconst hX dX12_undo_398 (by decide) (z_isub hX dX12_undo_399 (z_cv (c := 12) hX hr dX12_undo_400 hjX12_openName mwX12_openName rfl wm29_1 ⟨wm29_2, wm29_3⟩ ⟨Nat.le_of_ble_eq_true rfl, Nat.le_of_ble_eq_true rfl⟩ (z_iconst hX dX12_undo_403 (by decide) (z_icne hX dX12_undo_404 (by decide) (tX12_undo_420 hX hr hq) (z_ald_n hX dX12_undo_407 rfl (z_gr (c := 12) (j := 0) hX dX12_undo_408 rfl inlX12 wm7_16 ⟨rfl, by decide, rfl⟩ (z_iconst hX dX12_undo_411 (by decide) (z_dup2 hX dX12_undo_412 (z_iald hX dX12_undo_413 (z_iconst hX dX12_undo_414 (by decide) (z_isub hX dX12_undo_415 (z_iast hX dX12_undo_416 ((z_goto hX dX12_undo_417 (by decide) (hq 487 382 hl487)))))))))))))))))))))))))
def kX12_undo_381 (r : pu_R) : pu_K := s_wi 1 ((r 487))
theorem vX12_undo_381 : pu_cok2 kX12_undo_381 := fun rf r hr => by
  unfold kX12_undo_381
  exact v_wi ((hr 487))
theorem tX12_undo_381 {X : pu_X} {r : pu_R} (hX : pu_H X mdX12_undo) (hr : pu_P X.2.1 X.2.2.2.2.2.2.2.2.2.2.1 r) (hq : ∀ i pc, pu_lp i = some (301, pc) → pu_S X mdX12_undo pc (r i)) : pu_S X mdX12_undo 381 (kX12_undo_381 r) := by
  unfold kX12_undo_381
  exact z_iast hX dX12_undo_381 ((hq 487 382 hl487))
def kX12_undo_343 (r : pu_R) : pu_K := s_ald 0 (s_gr 12 0 (s_ild 2 (s_push (.int (6)) (s_iadd (s_ai 1 (s_push (.int (-1)) (s_iceq (r 487) (s_ald 0 (s_gr 12 0 (s_push (.int (7528)) (s_ald 0 (s_gr 12 0 (s_ild 2 (s_push (.int (2)) (s_iadd (s_ai 1 (s_iadd (s_ald 0 (s_gr 12 0 (s_ild 2 (s_push (.int (6)) (s_iadd (s_ai 1 ((kX12_undo_381 r)))))))))))))))))))))))))
theorem vX12_undo_343 : pu_cok2 kX12_undo_343 := fun rf r hr => by
  unfold kX12_undo_343
  exact v_ald (v_gr (v_ild (v_pi (v_iadd (v_ai (v_pi (v_iceq (hr 487) (v_ald (v_gr (v_pi (v_ald (v_gr (v_ild (v_pi (v_iadd (v_ai (v_iadd (v_ald (v_gr (v_ild (v_pi (v_iadd (v_ai ((vX12_undo_381 rf r hr)))))))))))))))))))))))))
theorem tX12_undo_343 {X : pu_X} {r : pu_R} (hX : pu_H X mdX12_undo) (hr : pu_P X.2.1 X.2.2.2.2.2.2.2.2.2.2.1 r) (hq : ∀ i pc, pu_lp i = some (301, pc) → pu_S X mdX12_undo pc (r i)) : pu_S X mdX12_undo 343 (kX12_undo_343 r) := by
  unfold kX12_undo_343
  exact z_ald_n hX dX12_undo_343 rfl (z_gr (c := 12) (j := 0) hX dX12_undo_344 rfl inlX12 wm7_16 ⟨rfl, by decide, rfl⟩ (z_ild_n hX dX12_undo_347 rfl (z_bipush hX dX12_undo_348 (by decide) (z_iadd hX dX12_undo_350 (z_iald hX dX12_undo_351 (z_iconst hX dX12_undo_352 (by decide) (z_iceq hX dX12_undo_353 (by decide) (hq 487 382 hl487) (z_ald_n hX dX12_undo_356 rfl (z_gr (c := 12) (j := 0) hX dX12_undo_357 rfl inlX12 wm7_16 ⟨rfl, by decide, rfl⟩ (z_sipush hX dX12_undo_360 (by decide) (z_ald_n hX dX12_undo_363 rfl (z_gr (c := 12) (j := 0) hX dX12_undo_364 rfl inlX12 wm7_16 ⟨rfl, by decide, rfl⟩ (z_ild_n hX dX12_undo_367 rfl (z_iconst hX dX12_undo_368 (by decide) (z_iadd hX dX12_undo_369 (z_iald hX dX12_undo_370 (z_iadd hX dX12_undo_371 (z_ald_n hX dX12_undo_372 rfl (z_gr (c := 12) (j := 0) hX dX12_undo_373 rfl inlX12 wm7_16 ⟨rfl, by decide, rfl⟩ (z_ild_n hX dX12_undo_376 rfl (z_bipush hX dX12_undo_377 (by decide) (z_iadd hX dX12_undo_379 (z_iald hX dX12_undo_380 ((tX12_undo_381 hX hr hq)))))))))))))))))))))))))
def kX12_undo_337 (r : pu_R) : pu_K := s_inc 3 (1) ((r 486))
theorem vX12_undo_337 : pu_cok2 kX12_undo_337 := fun rf r hr => by
  unfold kX12_undo_337
  exact v_inc ((hr 486))
theorem tX12_undo_337 {X : pu_X} {r : pu_R} (hX : pu_H X mdX12_undo) (hr : pu_P X.2.1 X.2.2.2.2.2.2.2.2.2.2.1 r) (hq : ∀ i pc, pu_lp i = some (301, pc) → pu_S X mdX12_undo pc (r i)) : pu_S X mdX12_undo 337 (kX12_undo_337 r) := by
  unfold kX12_undo_337
  exact z_inc hX dX12_undo_337 (by decide) ((z_goto hX dX12_undo_340 (by decide) (hq 486 302 hl486)))
def kX12_undo_302 (r : pu_R) : pu_K := s_ild 3 (s_ald 0 (s_gr 12 0 (s_push (.int (2)) (s_ai 1 (s_icge (kX12_undo_343 r) (s_ald 0 (s_gr 12 0 (s_push (.int (7520)) (s_ild 3 (s_iadd (s_ai 1 (s_ild 1 (s_icne (kX12_undo_337 r) (s_ald 0 (s_gr 12 0 (s_push (.int (7520)) (s_ild 3 (s_iadd (s_push (.int (-1)) (s_wi 1 ((kX12_undo_337 r))))))))))))))))))))))
theorem vX12_undo_302 : pu_cok2 kX12_undo_302 := fun rf r hr => by
  unfold kX12_undo_302
  exact v_ild (v_ald (v_gr (v_pi (v_ai (v_icge (vX12_undo_343 rf r hr) (v_ald (v_gr (v_pi (v_ild (v_iadd (v_ai (v_ild (v_icne (vX12_undo_337 rf r hr) (v_ald (v_gr (v_pi (v_ild (v_iadd (v_pi (v_wi ((vX12_undo_337 rf r hr))))))))))))))))))))))
theorem tX12_undo_302 {X : pu_X} {r : pu_R} (hX : pu_H X mdX12_undo) (hr : pu_P X.2.1 X.2.2.2.2.2.2.2.2.2.2.1 r) (hq : ∀ i pc, pu_lp i = some (301, pc) → pu_S X mdX12_undo pc (r i)) : pu_S X mdX12_undo 302 (kX12_undo_302 r) := by
  unfold kX12_undo_302
  exact z_ild_n hX dX12_undo_302 rfl (z_ald_n hX dX12_undo_303 rfl (z_gr (c := 12) (j := 0) hX dX12_undo_304 rfl inlX12 wm7_16 ⟨rfl, by decide, rfl⟩ (z_iconst hX dX12_undo_307 (by decide) (z_iald hX dX12_undo_308 (z_icge hX dX12_undo_309 (by decide) (tX12_undo_343 hX hr hq) (z_ald_n hX dX12_undo_312 rfl (z_gr (c := 12) (j := 0) hX dX12_undo_313 rfl inlX12 wm7_16 ⟨rfl, by decide, rfl⟩ (z_sipush hX dX12_undo_316 (by decide) (z_ild_n hX dX12_undo_319 rfl (z_iadd hX dX12_undo_320 (z_iald hX dX12_undo_321 (z_ild_n hX dX12_undo_322 rfl (z_icne hX dX12_undo_323 (by decide) (tX12_undo_337 hX hr hq) (z_ald_n hX dX12_undo_326 rfl (z_gr (c := 12) (j := 0) hX dX12_undo_327 rfl inlX12 wm7_16 ⟨rfl, by decide, rfl⟩ (z_sipush hX dX12_undo_330 (by decide) (z_ild_n hX dX12_undo_333 rfl (z_iadd hX dX12_undo_334 (z_iconst hX dX12_undo_335 (by decide) (z_iast hX dX12_undo_336 ((tX12_undo_337 hX hr hq))))))))))))))))))))))
def kX12_undo_300 (r : pu_R) : pu_K := s_push (.int (0)) (s_ist 3 ((r 486)))
theorem vX12_undo_300 : pu_cok2 kX12_undo_300 := fun rf r hr => by
  unfold kX12_undo_300
  exact v_pi (v_ist ((hr 486)))
theorem tX12_undo_300 {X : pu_X} {r : pu_R} (hX : pu_H X mdX12_undo) (hr : pu_P X.2.1 X.2.2.2.2.2.2.2.2.2.2.1 r) (hq : ∀ i pc, pu_lp i = some (301, pc) → pu_S X mdX12_undo pc (r i)) : pu_S X mdX12_undo 300 (kX12_undo_300 r) := by
  unfold kX12_undo_300
  exact z_iconst hX dX12_undo_300 (by decide) (z_ist_n hX dX12_undo_301 rfl ((hq 486 302 hl486)))
def kX12_undo_278 (r : pu_R) : pu_K := s_ild 3 (s_ald 0 (s_gr 12 0 (s_push (.int (4)) (s_ai 1 (s_icge (kX12_undo_300 r) (s_ald 0 (s_ild 3 (s_ild 1 (s_cv r 300 2 12 (s_inc 3 (1) ((r 485))))))))))))
theorem vX12_undo_278 : pu_cok2 kX12_undo_278 := fun rf r hr => by
  unfold kX12_undo_278
  exact v_ild (v_ald (v_gr (v_pi (v_ai (v_icge (vX12_undo_300 rf r hr) (v_ald (v_ild (v_ild (v_cv hr (v_inc ((hr 485))))))))))))
theorem tX12_undo_278 {X : pu_X} {r : pu_R} (hX : pu_H X mdX12_undo) (hr : pu_P X.2.1 X.2.2.2.2.2.2.2.2.2.2.1 r) (hq : ∀ i pc, pu_lp i = some (301, pc) → pu_S X mdX12_undo pc (r i)) : pu_S X mdX12_undo 278 (kX12_undo_278 r) := by
  unfold kX12_undo_278
  exact z_ild_n hX dX12_undo_278 rfl (z_ald_n hX dX12_undo_279 rfl (z_gr (c := 12) (j := 0) hX dX12_undo_280 rfl inlX12 wm7_16 ⟨rfl, by decide, rfl⟩ (z_iconst hX dX12_undo_283 (by decide) (z_iald hX dX12_undo_284 (z_icge hX dX12_undo_285 (by decide) (tX12_undo_300 hX hr hq) (z_ald_n hX dX12_undo_288 rfl (z_ild_n hX dX12_undo_289 rfl (z_ild_n hX dX12_undo_290 rfl (z_cv (c := 12) hX hr dX12_undo_291 hjX12_unmade mwX12_unmade rfl wm43_23 ⟨wm44_0, wm44_1⟩ ⟨Nat.le_of_ble_eq_true rfl, Nat.le_of_ble_eq_true rfl⟩ (z_inc hX dX12_undo_294 (by decide) ((z_goto hX dX12_undo_297 (by decide) (hq 485 278 hl485)))))))))))))
def kX12_undo_276 (r : pu_R) : pu_K := s_push (.int (0)) (s_ist 3 ((r 485)))
theorem vX12_undo_276 : pu_cok2 kX12_undo_276 := fun rf r hr => by
  unfold kX12_undo_276
  exact v_pi (v_ist ((hr 485)))
theorem tX12_undo_276 {X : pu_X} {r : pu_R} (hX : pu_H X mdX12_undo) (hr : pu_P X.2.1 X.2.2.2.2.2.2.2.2.2.2.1 r) (hq : ∀ i pc, pu_lp i = some (301, pc) → pu_S X mdX12_undo pc (r i)) : pu_S X mdX12_undo 276 (kX12_undo_276 r) := by
  unfold kX12_undo_276
  exact z_iconst hX dX12_undo_276 (by decide) (z_ist_n hX dX12_undo_277 rfl ((hq 485 278 hl485)))
def kX12_undo_273 (r : pu_R) : pu_K := (r 484)
theorem vX12_undo_273 : pu_cok2 kX12_undo_273 := fun rf r hr => by
  unfold kX12_undo_273
  exact (hr 484)
theorem tX12_undo_273 {X : pu_X} {r : pu_R} (hX : pu_H X mdX12_undo) (hr : pu_P X.2.1 X.2.2.2.2.2.2.2.2.2.2.1 r) (hq : ∀ i pc, pu_lp i = some (301, pc) → pu_S X mdX12_undo pc (r i)) : pu_S X mdX12_undo 273 (kX12_undo_273 r) := by
  unfold kX12_undo_273
  exact (z_goto hX dX12_undo_273 (by decide) (hq 484 236 hl484))
def kX12_undo_236 (r : pu_R) : pu_K := s_ald 0 (s_gr 12 0 (s_push (.int (4)) (s_ai 1 (s_ifle (kX12_undo_276 r) (s_ald 0 (s_ald 0 (s_gr 12 0 (s_push (.int (4)) (s_ai 1 (s_push (.int (1)) (s_isub (s_push (.int (9)) (s_cv r 265 2 12 (s_ild 1 (s_icne (kX12_undo_276 r) (s_ald 0 (s_gr 12 0 (s_push (.int (4)) (s_dup2 (s_ai 1 (s_push (.int (1)) (s_isub (s_wi 1 ((kX12_undo_273 r)))))))))))))))))))))))))
theorem vX12_undo_236 : pu_cok2 kX12_undo_236 := fun rf r hr => by
  unfold kX12_undo_236
  exact v_ald (v_gr (v_pi (v_ai (v_ifle (vX12_undo_276 rf r hr) (v_ald (v_ald (v_gr (v_pi (v_ai (v_pi (v_isub (v_pi (v_cv hr (v_ild (v_icne (vX12_undo_276 rf r hr) (v_ald (v_gr (v_pi (v_dup2 (v_ai (v_pi (v_isub (v_wi ((vX12_undo_273 rf r hr)))))))))))))))))))))))))
theorem tX12_undo_236 {X : pu_X} {r : pu_R} (hX : pu_H X mdX12_undo) (hr : pu_P X.2.1 X.2.2.2.2.2.2.2.2.2.2.1 r) (hq : ∀ i pc, pu_lp i = some (301, pc) → pu_S X mdX12_undo pc (r i)) : pu_S X mdX12_undo 236 (kX12_undo_236 r) := by
  unfold kX12_undo_236
  exact z_ald_n hX dX12_undo_236 rfl (z_gr (c := 12) (j := 0) hX dX12_undo_237 rfl inlX12 wm7_16 ⟨rfl, by decide, rfl⟩ (z_iconst hX dX12_undo_240 (by decide) (z_iald hX dX12_undo_241 (z_ifle hX dX12_undo_242 (by decide) (tX12_undo_276 hX hr hq) (z_ald_n hX dX12_undo_245 rfl (z_ald_n hX dX12_undo_246 rfl (z_gr (c := 12) (j := 0) hX dX12_undo_247 rfl inlX12 wm7_16 ⟨rfl, by decide, rfl⟩ (z_iconst hX dX12_undo_250 (by decide) (z_iald hX dX12_undo_251 (z_iconst hX dX12_undo_252 (by decide) (z_isub hX dX12_undo_253 (z_bipush hX dX12_undo_254 (by decide) (z_cv (c := 12) hX hr dX12_undo_256 hjX12_of mwX12_of rfl wm30_3 ⟨wm30_4, wm30_5⟩ ⟨Nat.le_of_ble_eq_true rfl, Nat.le_of_ble_eq_true rfl⟩ (z_ild_n hX dX12_undo_259 rfl (z_icne hX dX12_undo_260 (by decide) (tX12_undo_276 hX hr hq) (z_ald_n hX dX12_undo_263 rfl (z_gr (c := 12) (j := 0) hX dX12_undo_264 rfl inlX12 wm7_16 ⟨rfl, by decide, rfl⟩ (z_iconst hX dX12_undo_267 (by decide) (z_dup2 hX dX12_undo_268 (z_iald hX dX12_undo_269 (z_iconst hX dX12_undo_270 (by decide) (z_isub hX dX12_undo_271 (z_iast hX dX12_undo_272 ((tX12_undo_273 hX hr hq)))))))))))))))))))))))))
def kX12_undo_230 (r : pu_R) : pu_K := s_inc 3 (1) ((r 483))
theorem vX12_undo_230 : pu_cok2 kX12_undo_230 := fun rf r hr => by
  unfold kX12_undo_230
  exact v_inc ((hr 483))
theorem tX12_undo_230 {X : pu_X} {r : pu_R} (hX : pu_H X mdX12_undo) (hr : pu_P X.2.1 X.2.2.2.2.2.2.2.2.2.2.1 r) (hq : ∀ i pc, pu_lp i = some (301, pc) → pu_S X mdX12_undo pc (r i)) : pu_S X mdX12_undo 230 (kX12_undo_230 r) := by
  unfold kX12_undo_230
  exact z_inc hX dX12_undo_230 (by decide) ((z_goto hX dX12_undo_233 (by decide) (hq 483 186 hl483)))
def kX12_undo_225 (r : pu_R) : pu_K := s_iadd (s_push (.int (4)) (s_iadd (s_push (.int (-1)) (s_wi 1 ((kX12_undo_230 r))))))
theorem vX12_undo_225 : pu_cok2 kX12_undo_225 := fun rf r hr => by
  unfold kX12_undo_225
  exact v_iadd (v_pi (v_iadd (v_pi (v_wi ((vX12_undo_230 rf r hr))))))
theorem tX12_undo_225 {X : pu_X} {r : pu_R} (hX : pu_H X mdX12_undo) (hr : pu_P X.2.1 X.2.2.2.2.2.2.2.2.2.2.1 r) (hq : ∀ i pc, pu_lp i = some (301, pc) → pu_S X mdX12_undo pc (r i)) : pu_S X mdX12_undo 225 (kX12_undo_225 r) := by
  unfold kX12_undo_225
  exact z_iadd hX dX12_undo_225 (z_iconst hX dX12_undo_226 (by decide) (z_iadd hX dX12_undo_227 (z_iconst hX dX12_undo_228 (by decide) (z_iast hX dX12_undo_229 ((tX12_undo_230 hX hr hq))))))
def kX12_undo_186 (r : pu_R) : pu_K := s_ild 3 (s_ald 0 (s_gr 12 0 (s_push (.int (7)) (s_ai 1 (s_icge (r 484) (s_ald 0 (s_gr 12 0 (s_push (.int (7552)) (s_push (.int (5)) (s_ild 3 (s_imul (s_iadd (s_push (.int (4)) (s_iadd (s_ai 1 (s_ild 1 (s_icne (kX12_undo_230 r) (s_ald 0 (s_gr 12 0 (s_push (.int (7552)) (s_push (.int (5)) (s_ild 3 (s_imul ((kX12_undo_225 r)))))))))))))))))))))))))
theorem vX12_undo_186 : pu_cok2 kX12_undo_186 := fun rf r hr => by
  unfold kX12_undo_186
  exact v_ild (v_ald (v_gr (v_pi (v_ai (v_icge (hr 484) (v_ald (v_gr (v_pi (v_pi (v_ild (v_imul (v_iadd (v_pi (v_iadd (v_ai (v_ild (v_icne (vX12_undo_230 rf r hr) (v_ald (v_gr (v_pi (v_pi (v_ild (v_imul ((vX12_undo_225 rf r hr)))))))))))))))))))))))))
theorem tX12_undo_186 {X : pu_X} {r : pu_R} (hX : pu_H X mdX12_undo) (hr : pu_P X.2.1 X.2.2.2.2.2.2.2.2.2.2.1 r) (hq : ∀ i pc, pu_lp i = some (301, pc) → pu_S X mdX12_undo pc (r i)) : pu_S X mdX12_undo 186 (kX12_undo_186 r) := by
  unfold kX12_undo_186
  exact z_ild_n hX dX12_undo_186 rfl (z_ald_n hX dX12_undo_187 rfl (z_gr (c := 12) (j := 0) hX dX12_undo_188 rfl inlX12 wm7_16 ⟨rfl, by decide, rfl⟩ (z_bipush hX dX12_undo_191 (by decide) (z_iald hX dX12_undo_193 (z_icge hX dX12_undo_194 (by decide) (hq 484 236 hl484) (z_ald_n hX dX12_undo_197 rfl (z_gr (c := 12) (j := 0) hX dX12_undo_198 rfl inlX12 wm7_16 ⟨rfl, by decide, rfl⟩ (z_sipush hX dX12_undo_201 (by decide) (z_iconst hX dX12_undo_204 (by decide) (z_ild_n hX dX12_undo_205 rfl (z_imul hX dX12_undo_206 (z_iadd hX dX12_undo_207 (z_iconst hX dX12_undo_208 (by decide) (z_iadd hX dX12_undo_209 (z_iald hX dX12_undo_210 (z_ild_n hX dX12_undo_211 rfl (z_icne hX dX12_undo_212 (by decide) (tX12_undo_230 hX hr hq) (z_ald_n hX dX12_undo_215 rfl (z_gr (c := 12) (j := 0) hX dX12_undo_216 rfl inlX12 wm7_16 ⟨rfl, by decide, rfl⟩ (z_sipush hX dX12_undo_219 (by decide) (z_iconst hX dX12_undo_222 (by decide) (z_ild_n hX dX12_undo_223 rfl (z_imul hX dX12_undo_224 ((tX12_undo_225 hX hr hq)))))))))))))))))))))))))
def kX12_undo_184 (r : pu_R) : pu_K := s_push (.int (0)) (s_ist 3 ((r 483)))
theorem vX12_undo_184 : pu_cok2 kX12_undo_184 := fun rf r hr => by
  unfold kX12_undo_184
  exact v_pi (v_ist ((hr 483)))
theorem tX12_undo_184 {X : pu_X} {r : pu_R} (hX : pu_H X mdX12_undo) (hr : pu_P X.2.1 X.2.2.2.2.2.2.2.2.2.2.1 r) (hq : ∀ i pc, pu_lp i = some (301, pc) → pu_S X mdX12_undo pc (r i)) : pu_S X mdX12_undo 184 (kX12_undo_184 r) := by
  unfold kX12_undo_184
  exact z_iconst hX dX12_undo_184 (by decide) (z_ist_n hX dX12_undo_185 rfl ((hq 483 186 hl483)))
def kX12_undo_174 (r : pu_R) : pu_K := s_push (.int (7)) (s_dup2 (s_ai 1 (s_push (.int (1)) (s_isub (s_wi 1 ((r 482)))))))
theorem vX12_undo_174 : pu_cok2 kX12_undo_174 := fun rf r hr => by
  unfold kX12_undo_174
  exact v_pi (v_dup2 (v_ai (v_pi (v_isub (v_wi ((hr 482)))))))
theorem tX12_undo_174 {X : pu_X} {r : pu_R} (hX : pu_H X mdX12_undo) (hr : pu_P X.2.1 X.2.2.2.2.2.2.2.2.2.2.1 r) (hq : ∀ i pc, pu_lp i = some (301, pc) → pu_S X mdX12_undo pc (r i)) : pu_S X mdX12_undo 174 (kX12_undo_174 r) := by
  unfold kX12_undo_174
  exact z_bipush hX dX12_undo_174 (by decide) (z_dup2 hX dX12_undo_176 (z_iald hX dX12_undo_177 (z_iconst hX dX12_undo_178 (by decide) (z_isub hX dX12_undo_179 (z_iast hX dX12_undo_180 ((z_goto hX dX12_undo_181 (by decide) (hq 482 134 hl482))))))))
def kX12_undo_134 (r : pu_R) : pu_K := s_ald 0 (s_gr 12 0 (s_push (.int (7)) (s_ai 1 (s_ifle (kX12_undo_184 r) (s_ald 0 (s_gr 12 0 (s_push (.int (7552)) (s_push (.int (5)) (s_ald 0 (s_gr 12 0 (s_push (.int (7)) (s_ai 1 (s_push (.int (1)) (s_isub (s_imul (s_iadd (s_push (.int (3)) (s_iadd (s_ai 1 (s_ild 1 (s_icne (kX12_undo_184 r) (s_ald 0 (s_gr 12 0 ((kX12_undo_174 r)))))))))))))))))))))))))
theorem vX12_undo_134 : pu_cok2 kX12_undo_134 := fun rf r hr => by
  unfold kX12_undo_134
  exact v_ald (v_gr (v_pi (v_ai (v_ifle (vX12_undo_184 rf r hr) (v_ald (v_gr (v_pi (v_pi (v_ald (v_gr (v_pi (v_ai (v_pi (v_isub (v_imul (v_iadd (v_pi (v_iadd (v_ai (v_ild (v_icne (vX12_undo_184 rf r hr) (v_ald (v_gr ((vX12_undo_174 rf r hr)))))))))))))))))))))))))
theorem tX12_undo_134 {X : pu_X} {r : pu_R} (hX : pu_H X mdX12_undo) (hr : pu_P X.2.1 X.2.2.2.2.2.2.2.2.2.2.1 r) (hq : ∀ i pc, pu_lp i = some (301, pc) → pu_S X mdX12_undo pc (r i)) : pu_S X mdX12_undo 134 (kX12_undo_134 r) := by
  unfold kX12_undo_134
  exact z_ald_n hX dX12_undo_134 rfl (z_gr (c := 12) (j := 0) hX dX12_undo_135 rfl inlX12 wm7_16 ⟨rfl, by decide, rfl⟩ (z_bipush hX dX12_undo_138 (by decide) (z_iald hX dX12_undo_140 (z_ifle hX dX12_undo_141 (by decide) (tX12_undo_184 hX hr hq) (z_ald_n hX dX12_undo_144 rfl (z_gr (c := 12) (j := 0) hX dX12_undo_145 rfl inlX12 wm7_16 ⟨rfl, by decide, rfl⟩ (z_sipush hX dX12_undo_148 (by decide) (z_iconst hX dX12_undo_151 (by decide) (z_ald_n hX dX12_undo_152 rfl (z_gr (c := 12) (j := 0) hX dX12_undo_153 rfl inlX12 wm7_16 ⟨rfl, by decide, rfl⟩ (z_bipush hX dX12_undo_156 (by decide) (z_iald hX dX12_undo_158 (z_iconst hX dX12_undo_159 (by decide) (z_isub hX dX12_undo_160 (z_imul hX dX12_undo_161 (z_iadd hX dX12_undo_162 (z_iconst hX dX12_undo_163 (by decide) (z_iadd hX dX12_undo_164 (z_iald hX dX12_undo_165 (z_ild_n hX dX12_undo_166 rfl (z_icne hX dX12_undo_167 (by decide) (tX12_undo_184 hX hr hq) (z_ald_n hX dX12_undo_170 rfl (z_gr (c := 12) (j := 0) hX dX12_undo_171 rfl inlX12 wm7_16 ⟨rfl, by decide, rfl⟩ ((tX12_undo_174 hX hr hq)))))))))))))))))))))))))
def kX12_undo_128 (r : pu_R) : pu_K := s_inc 3 (1) ((r 481))
theorem vX12_undo_128 : pu_cok2 kX12_undo_128 := fun rf r hr => by
  unfold kX12_undo_128
  exact v_inc ((hr 481))
theorem tX12_undo_128 {X : pu_X} {r : pu_R} (hX : pu_H X mdX12_undo) (hr : pu_P X.2.1 X.2.2.2.2.2.2.2.2.2.2.1 r) (hq : ∀ i pc, pu_lp i = some (301, pc) → pu_S X mdX12_undo pc (r i)) : pu_S X mdX12_undo 128 (kX12_undo_128 r) := by
  unfold kX12_undo_128
  exact z_inc hX dX12_undo_128 (by decide) ((z_goto hX dX12_undo_131 (by decide) (hq 481 82 hl481)))
def kX12_undo_123 (r : pu_R) : pu_K := s_iadd (s_push (.int (5)) (s_iadd (s_push (.int (-1)) (s_wi 1 ((kX12_undo_128 r))))))
theorem vX12_undo_123 : pu_cok2 kX12_undo_123 := fun rf r hr => by
  unfold kX12_undo_123
  exact v_iadd (v_pi (v_iadd (v_pi (v_wi ((vX12_undo_128 rf r hr))))))
theorem tX12_undo_123 {X : pu_X} {r : pu_R} (hX : pu_H X mdX12_undo) (hr : pu_P X.2.1 X.2.2.2.2.2.2.2.2.2.2.1 r) (hq : ∀ i pc, pu_lp i = some (301, pc) → pu_S X mdX12_undo pc (r i)) : pu_S X mdX12_undo 123 (kX12_undo_123 r) := by
  unfold kX12_undo_123
  exact z_iadd hX dX12_undo_123 (z_iconst hX dX12_undo_124 (by decide) (z_iadd hX dX12_undo_125 (z_iconst hX dX12_undo_126 (by decide) (z_iast hX dX12_undo_127 ((tX12_undo_128 hX hr hq))))))
def kX12_undo_82 (r : pu_R) : pu_K := s_ild 3 (s_ald 0 (s_gr 12 0 (s_push (.int (6)) (s_ai 1 (s_icge (r 482) (s_ald 0 (s_gr 12 0 (s_push (.int (10752)) (s_push (.int (6)) (s_ild 3 (s_imul (s_iadd (s_push (.int (5)) (s_iadd (s_ai 1 (s_ild 1 (s_icne (kX12_undo_128 r) (s_ald 0 (s_gr 12 0 (s_push (.int (10752)) (s_push (.int (6)) (s_ild 3 (s_imul ((kX12_undo_123 r)))))))))))))))))))))))))
theorem vX12_undo_82 : pu_cok2 kX12_undo_82 := fun rf r hr => by
  unfold kX12_undo_82
  exact v_ild (v_ald (v_gr (v_pi (v_ai (v_icge (hr 482) (v_ald (v_gr (v_pi (v_pi (v_ild (v_imul (v_iadd (v_pi (v_iadd (v_ai (v_ild (v_icne (vX12_undo_128 rf r hr) (v_ald (v_gr (v_pi (v_pi (v_ild (v_imul ((vX12_undo_123 rf r hr)))))))))))))))))))))))))
theorem tX12_undo_82 {X : pu_X} {r : pu_R} (hX : pu_H X mdX12_undo) (hr : pu_P X.2.1 X.2.2.2.2.2.2.2.2.2.2.1 r) (hq : ∀ i pc, pu_lp i = some (301, pc) → pu_S X mdX12_undo pc (r i)) : pu_S X mdX12_undo 82 (kX12_undo_82 r) := by
  unfold kX12_undo_82
  exact z_ild_n hX dX12_undo_82 rfl (z_ald_n hX dX12_undo_83 rfl (z_gr (c := 12) (j := 0) hX dX12_undo_84 rfl inlX12 wm7_16 ⟨rfl, by decide, rfl⟩ (z_bipush hX dX12_undo_87 (by decide) (z_iald hX dX12_undo_89 (z_icge hX dX12_undo_90 (by decide) (hq 482 134 hl482) (z_ald_n hX dX12_undo_93 rfl (z_gr (c := 12) (j := 0) hX dX12_undo_94 rfl inlX12 wm7_16 ⟨rfl, by decide, rfl⟩ (z_sipush hX dX12_undo_97 (by decide) (z_bipush hX dX12_undo_100 (by decide) (z_ild_n hX dX12_undo_102 rfl (z_imul hX dX12_undo_103 (z_iadd hX dX12_undo_104 (z_iconst hX dX12_undo_105 (by decide) (z_iadd hX dX12_undo_106 (z_iald hX dX12_undo_107 (z_ild_n hX dX12_undo_108 rfl (z_icne hX dX12_undo_109 (by decide) (tX12_undo_128 hX hr hq) (z_ald_n hX dX12_undo_112 rfl (z_gr (c := 12) (j := 0) hX dX12_undo_113 rfl inlX12 wm7_16 ⟨rfl, by decide, rfl⟩ (z_sipush hX dX12_undo_116 (by decide) (z_bipush hX dX12_undo_119 (by decide) (z_ild_n hX dX12_undo_121 rfl (z_imul hX dX12_undo_122 ((tX12_undo_123 hX hr hq)))))))))))))))))))))))))
def kX12_undo_80 (r : pu_R) : pu_K := s_push (.int (0)) (s_ist 3 ((r 481)))
theorem vX12_undo_80 : pu_cok2 kX12_undo_80 := fun rf r hr => by
  unfold kX12_undo_80
  exact v_pi (v_ist ((hr 481)))
theorem tX12_undo_80 {X : pu_X} {r : pu_R} (hX : pu_H X mdX12_undo) (hr : pu_P X.2.1 X.2.2.2.2.2.2.2.2.2.2.1 r) (hq : ∀ i pc, pu_lp i = some (301, pc) → pu_S X mdX12_undo pc (r i)) : pu_S X mdX12_undo 80 (kX12_undo_80 r) := by
  unfold kX12_undo_80
  exact z_iconst hX dX12_undo_80 (by decide) (z_ist_n hX dX12_undo_81 rfl ((hq 481 82 hl481)))
def kX12_undo_70 (r : pu_R) : pu_K := s_push (.int (6)) (s_dup2 (s_ai 1 (s_push (.int (1)) (s_isub (s_wi 1 ((r 480)))))))
theorem vX12_undo_70 : pu_cok2 kX12_undo_70 := fun rf r hr => by
  unfold kX12_undo_70
  exact v_pi (v_dup2 (v_ai (v_pi (v_isub (v_wi ((hr 480)))))))
theorem tX12_undo_70 {X : pu_X} {r : pu_R} (hX : pu_H X mdX12_undo) (hr : pu_P X.2.1 X.2.2.2.2.2.2.2.2.2.2.1 r) (hq : ∀ i pc, pu_lp i = some (301, pc) → pu_S X mdX12_undo pc (r i)) : pu_S X mdX12_undo 70 (kX12_undo_70 r) := by
  unfold kX12_undo_70
  exact z_bipush hX dX12_undo_70 (by decide) (z_dup2 hX dX12_undo_72 (z_iald hX dX12_undo_73 (z_iconst hX dX12_undo_74 (by decide) (z_isub hX dX12_undo_75 (z_iast hX dX12_undo_76 ((z_goto hX dX12_undo_77 (by decide) (hq 480 29 hl480))))))))
def kX12_undo_29 (r : pu_R) : pu_K := s_ald 0 (s_gr 12 0 (s_push (.int (6)) (s_ai 1 (s_ifle (kX12_undo_80 r) (s_ald 0 (s_gr 12 0 (s_push (.int (10752)) (s_push (.int (6)) (s_ald 0 (s_gr 12 0 (s_push (.int (6)) (s_ai 1 (s_push (.int (1)) (s_isub (s_imul (s_iadd (s_push (.int (4)) (s_iadd (s_ai 1 (s_ild 1 (s_icne (kX12_undo_80 r) (s_ald 0 (s_gr 12 0 ((kX12_undo_70 r)))))))))))))))))))))))))
theorem vX12_undo_29 : pu_cok2 kX12_undo_29 := fun rf r hr => by
  unfold kX12_undo_29
  exact v_ald (v_gr (v_pi (v_ai (v_ifle (vX12_undo_80 rf r hr) (v_ald (v_gr (v_pi (v_pi (v_ald (v_gr (v_pi (v_ai (v_pi (v_isub (v_imul (v_iadd (v_pi (v_iadd (v_ai (v_ild (v_icne (vX12_undo_80 rf r hr) (v_ald (v_gr ((vX12_undo_70 rf r hr)))))))))))))))))))))))))
theorem tX12_undo_29 {X : pu_X} {r : pu_R} (hX : pu_H X mdX12_undo) (hr : pu_P X.2.1 X.2.2.2.2.2.2.2.2.2.2.1 r) (hq : ∀ i pc, pu_lp i = some (301, pc) → pu_S X mdX12_undo pc (r i)) : pu_S X mdX12_undo 29 (kX12_undo_29 r) := by
  unfold kX12_undo_29
  exact z_ald_n hX dX12_undo_29 rfl (z_gr (c := 12) (j := 0) hX dX12_undo_30 rfl inlX12 wm7_16 ⟨rfl, by decide, rfl⟩ (z_bipush hX dX12_undo_33 (by decide) (z_iald hX dX12_undo_35 (z_ifle hX dX12_undo_36 (by decide) (tX12_undo_80 hX hr hq) (z_ald_n hX dX12_undo_39 rfl (z_gr (c := 12) (j := 0) hX dX12_undo_40 rfl inlX12 wm7_16 ⟨rfl, by decide, rfl⟩ (z_sipush hX dX12_undo_43 (by decide) (z_bipush hX dX12_undo_46 (by decide) (z_ald_n hX dX12_undo_48 rfl (z_gr (c := 12) (j := 0) hX dX12_undo_49 rfl inlX12 wm7_16 ⟨rfl, by decide, rfl⟩ (z_bipush hX dX12_undo_52 (by decide) (z_iald hX dX12_undo_54 (z_iconst hX dX12_undo_55 (by decide) (z_isub hX dX12_undo_56 (z_imul hX dX12_undo_57 (z_iadd hX dX12_undo_58 (z_iconst hX dX12_undo_59 (by decide) (z_iadd hX dX12_undo_60 (z_iald hX dX12_undo_61 (z_ild_n hX dX12_undo_62 rfl (z_icne hX dX12_undo_63 (by decide) (tX12_undo_80 hX hr hq) (z_ald_n hX dX12_undo_66 rfl (z_gr (c := 12) (j := 0) hX dX12_undo_67 rfl inlX12 wm7_16 ⟨rfl, by decide, rfl⟩ ((tX12_undo_70 hX hr hq)))))))))))))))))))))))))
def kX12_undo_11 (r : pu_R) : pu_K := s_ald 0 (s_gr 12 0 (s_push (.int (5)) (s_ai 1 (s_push (.int (1)) (s_isub (s_ist 1 (s_push (.int (28752)) (s_push (.int (7)) (s_ild 1 (s_imul (s_iadd (s_ist 2 ((r 480))))))))))))))
theorem vX12_undo_11 : pu_cok2 kX12_undo_11 := fun rf r hr => by
  unfold kX12_undo_11
  exact v_ald (v_gr (v_pi (v_ai (v_pi (v_isub (v_ist (v_pi (v_pi (v_ild (v_imul (v_iadd (v_ist ((hr 480))))))))))))))
theorem tX12_undo_11 {X : pu_X} {r : pu_R} (hX : pu_H X mdX12_undo) (hr : pu_P X.2.1 X.2.2.2.2.2.2.2.2.2.2.1 r) (hq : ∀ i pc, pu_lp i = some (301, pc) → pu_S X mdX12_undo pc (r i)) : pu_S X mdX12_undo 11 (kX12_undo_11 r) := by
  unfold kX12_undo_11
  exact z_ald_n hX dX12_undo_11 rfl (z_gr (c := 12) (j := 0) hX dX12_undo_12 rfl inlX12 wm7_16 ⟨rfl, by decide, rfl⟩ (z_iconst hX dX12_undo_15 (by decide) (z_iald hX dX12_undo_16 (z_iconst hX dX12_undo_17 (by decide) (z_isub hX dX12_undo_18 (z_ist_n hX dX12_undo_19 rfl (z_sipush hX dX12_undo_20 (by decide) (z_bipush hX dX12_undo_23 (by decide) (z_ild_n hX dX12_undo_25 rfl (z_imul hX dX12_undo_26 (z_iadd hX dX12_undo_27 (z_ist_n hX dX12_undo_28 rfl ((hq 480 29 hl480))))))))))))))
def kX12_undo_0 (r : pu_R) : pu_K := s_ald 0 (s_gr 12 0 (s_push (.int (5)) (s_ai 1 (s_ifne (kX12_undo_11 r) (s_push (.int (-1)) (s_iret))))))
theorem vX12_undo_0 : pu_cok2 kX12_undo_0 := fun rf r hr => by
  unfold kX12_undo_0
  exact v_ald (v_gr (v_pi (v_ai (v_ifne (vX12_undo_11 rf r hr) (v_pi (v_iret))))))
theorem tX12_undo_0 {X : pu_X} {r : pu_R} (hX : pu_H X mdX12_undo) (hr : pu_P X.2.1 X.2.2.2.2.2.2.2.2.2.2.1 r) (hq : ∀ i pc, pu_lp i = some (301, pc) → pu_S X mdX12_undo pc (r i)) : pu_S X mdX12_undo 0 (kX12_undo_0 r) := by
  unfold kX12_undo_0
  exact z_ald_n hX dX12_undo_0 rfl (z_gr (c := 12) (j := 0) hX dX12_undo_1 rfl inlX12 wm7_16 ⟨rfl, by decide, rfl⟩ (z_iconst hX dX12_undo_4 (by decide) (z_iald hX dX12_undo_5 (z_ifne hX dX12_undo_6 (by decide) (tX12_undo_11 hX hr hq) (z_iconst hX dX12_undo_9 (by decide) (z_iret hX dX12_undo_10 rfl))))))
def kX12_image_42 (r : pu_R) : pu_K := s_ald 0 (s_gr 12 2 (s_ild 1 (s_push (.int (1)) (s_wz (s_push (.int (1)) (s_zret))))))
theorem vX12_image_42 : pu_cok2 kX12_image_42 := fun rf r hr => by
  unfold kX12_image_42
  exact v_ald (v_gr (v_ild (v_pi (v_wz (v_pi (v_zret))))))
theorem tX12_image_42 {X : pu_X} {r : pu_R} (hX : pu_H X mdX12_image) (hr : pu_P X.2.1 X.2.2.2.2.2.2.2.2.2.2.1 r) (hq : ∀ i pc, pu_lp i = some (302, pc) → pu_S X mdX12_image pc (r i)) : pu_S X mdX12_image 42 (kX12_image_42 r) := by
  unfold kX12_image_42
  exact z_ald_n hX dX12_image_42 rfl (z_gr (c := 12) (j := 2) hX dX12_image_43 rfl inlX12 wm7_20 ⟨rfl, by decide, rfl⟩ (z_ild_n hX dX12_image_46 rfl (z_iconst hX dX12_image_47 (by decide) (z_zast hX dX12_image_48 (z_iconst hX dX12_image_49 (by decide) (z_zret hX dX12_image_50 rfl))))))
def kX12_image_13 (r : pu_R) : pu_K := s_ild 2 (s_push (.int (70000)) (s_icge (kX12_image_42 r) (s_ald 0 (s_gr 12 1 (s_push (.int (70000)) (s_ild 1 (s_imul (s_ild 2 (s_iadd (s_ald 0 (s_gr 12 0 (s_ild 2 (s_ai 1 (s_wi 1 (s_inc 2 (1) ((r 488)))))))))))))))))
theorem vX12_image_13 : pu_cok2 kX12_image_13 := fun rf r hr => by
  unfold kX12_image_13
  exact v_ild (v_pi (v_icge (vX12_image_42 rf r hr) (v_ald (v_gr (v_pi (v_ild (v_imul (v_ild (v_iadd (v_ald (v_gr (v_ild (v_ai (v_wi (v_inc ((hr 488)))))))))))))))))
theorem tX12_image_13 {X : pu_X} {r : pu_R} (hX : pu_H X mdX12_image) (hr : pu_P X.2.1 X.2.2.2.2.2.2.2.2.2.2.1 r) (hq : ∀ i pc, pu_lp i = some (302, pc) → pu_S X mdX12_image pc (r i)) : pu_S X mdX12_image 13 (kX12_image_13 r) := by
  unfold kX12_image_13
  exact z_ild_n hX dX12_image_13 rfl (z_ldc hX dX12_image_14 wm7_15 (z_icge hX dX12_image_16 (by decide) (tX12_image_42 hX hr hq) (z_ald_n hX dX12_image_19 rfl (z_gr (c := 12) (j := 1) hX dX12_image_20 rfl inlX12 wm7_18 ⟨rfl, by decide, rfl⟩ (z_ldc hX dX12_image_23 wm7_15 (z_ild_n hX dX12_image_25 rfl (z_imul hX dX12_image_26 (z_ild_n hX dX12_image_27 rfl (z_iadd hX dX12_image_28 (z_ald_n hX dX12_image_29 rfl (z_gr (c := 12) (j := 0) hX dX12_image_30 rfl inlX12 wm7_16 ⟨rfl, by decide, rfl⟩ (z_ild_n hX dX12_image_33 rfl (z_iald hX dX12_image_34 (z_iast hX dX12_image_35 (z_inc hX dX12_image_36 (by decide) ((z_goto hX dX12_image_39 (by decide) (hq 488 13 hl488))))))))))))))))))
def kX12_image_11 (r : pu_R) : pu_K := s_push (.int (0)) (s_ist 2 ((r 488)))
theorem vX12_image_11 : pu_cok2 kX12_image_11 := fun rf r hr => by
  unfold kX12_image_11
  exact v_pi (v_ist ((hr 488)))
theorem tX12_image_11 {X : pu_X} {r : pu_R} (hX : pu_H X mdX12_image) (hr : pu_P X.2.1 X.2.2.2.2.2.2.2.2.2.2.1 r) (hq : ∀ i pc, pu_lp i = some (302, pc) → pu_S X mdX12_image pc (r i)) : pu_S X mdX12_image 11 (kX12_image_11 r) := by
  unfold kX12_image_11
  exact z_iconst hX dX12_image_11 (by decide) (z_ist_n hX dX12_image_12 rfl ((hq 488 13 hl488)))
def kX12_image_9 (r : pu_R) : pu_K := s_push (.int (0)) (s_zret)
theorem vX12_image_9 : pu_cok2 kX12_image_9 := fun rf r hr => by
  unfold kX12_image_9
  exact v_pi (v_zret)
theorem tX12_image_9 {X : pu_X} {r : pu_R} (hX : pu_H X mdX12_image) (hr : pu_P X.2.1 X.2.2.2.2.2.2.2.2.2.2.1 r) (hq : ∀ i pc, pu_lp i = some (302, pc) → pu_S X mdX12_image pc (r i)) : pu_S X mdX12_image 9 (kX12_image_9 r) := by
  unfold kX12_image_9
  exact z_iconst hX dX12_image_9 (by decide) (z_zret hX dX12_image_10 rfl)
def kX12_image_0 (r : pu_R) : pu_K := s_ild 1 (s_iflt (kX12_image_9 r) (s_ild 1 (s_push (.int (2)) (s_icle (kX12_image_11 r) ((kX12_image_9 r))))))
theorem vX12_image_0 : pu_cok2 kX12_image_0 := fun rf r hr => by
  unfold kX12_image_0
  exact v_ild (v_iflt (vX12_image_9 rf r hr) (v_ild (v_pi (v_icle (vX12_image_11 rf r hr) ((vX12_image_9 rf r hr))))))
theorem tX12_image_0 {X : pu_X} {r : pu_R} (hX : pu_H X mdX12_image) (hr : pu_P X.2.1 X.2.2.2.2.2.2.2.2.2.2.1 r) (hq : ∀ i pc, pu_lp i = some (302, pc) → pu_S X mdX12_image pc (r i)) : pu_S X mdX12_image 0 (kX12_image_0 r) := by
  unfold kX12_image_0
  exact z_ild_n hX dX12_image_0 rfl (z_iflt hX dX12_image_1 (by decide) (tX12_image_9 hX hr hq) (z_ild_n hX dX12_image_4 rfl (z_iconst hX dX12_image_5 (by decide) (z_icle hX dX12_image_6 (by decide) (tX12_image_11 hX hr hq) ((tX12_image_9 hX hr hq))))))
def kX12_back_51 (r : pu_R) : pu_K := s_push (.int (1)) (s_zret)
theorem vX12_back_51 : pu_cok2 kX12_back_51 := fun rf r hr => by
  unfold kX12_back_51
  exact v_pi (v_zret)
theorem tX12_back_51 {X : pu_X} {r : pu_R} (hX : pu_H X mdX12_back) (hr : pu_P X.2.1 X.2.2.2.2.2.2.2.2.2.2.1 r) (hq : ∀ i pc, pu_lp i = some (303, pc) → pu_S X mdX12_back pc (r i)) : pu_S X mdX12_back 51 (kX12_back_51 r) := by
  unfold kX12_back_51
  exact z_iconst hX dX12_back_51 (by decide) (z_zret hX dX12_back_52 rfl)
def kX12_back_22 (r : pu_R) : pu_K := s_ild 2 (s_push (.int (70000)) (s_icge (kX12_back_51 r) (s_ald 0 (s_gr 12 0 (s_ild 2 (s_ald 0 (s_gr 12 1 (s_push (.int (70000)) (s_ild 1 (s_imul (s_ild 2 (s_iadd (s_ai 1 (s_wi 1 (s_inc 2 (1) ((r 489)))))))))))))))))
theorem vX12_back_22 : pu_cok2 kX12_back_22 := fun rf r hr => by
  unfold kX12_back_22
  exact v_ild (v_pi (v_icge (vX12_back_51 rf r hr) (v_ald (v_gr (v_ild (v_ald (v_gr (v_pi (v_ild (v_imul (v_ild (v_iadd (v_ai (v_wi (v_inc ((hr 489)))))))))))))))))
theorem tX12_back_22 {X : pu_X} {r : pu_R} (hX : pu_H X mdX12_back) (hr : pu_P X.2.1 X.2.2.2.2.2.2.2.2.2.2.1 r) (hq : ∀ i pc, pu_lp i = some (303, pc) → pu_S X mdX12_back pc (r i)) : pu_S X mdX12_back 22 (kX12_back_22 r) := by
  unfold kX12_back_22
  exact z_ild_n hX dX12_back_22 rfl (z_ldc hX dX12_back_23 wm7_15 (z_icge hX dX12_back_25 (by decide) (tX12_back_51 hX hr hq) (z_ald_n hX dX12_back_28 rfl (z_gr (c := 12) (j := 0) hX dX12_back_29 rfl inlX12 wm7_16 ⟨rfl, by decide, rfl⟩ (z_ild_n hX dX12_back_32 rfl (z_ald_n hX dX12_back_33 rfl (z_gr (c := 12) (j := 1) hX dX12_back_34 rfl inlX12 wm7_18 ⟨rfl, by decide, rfl⟩ (z_ldc hX dX12_back_37 wm7_15 (z_ild_n hX dX12_back_39 rfl (z_imul hX dX12_back_40 (z_ild_n hX dX12_back_41 rfl (z_iadd hX dX12_back_42 (z_iald hX dX12_back_43 (z_iast hX dX12_back_44 (z_inc hX dX12_back_45 (by decide) ((z_goto hX dX12_back_48 (by decide) (hq 489 22 hl489))))))))))))))))))
def kX12_back_20 (r : pu_R) : pu_K := s_push (.int (0)) (s_ist 2 ((r 489)))
theorem vX12_back_20 : pu_cok2 kX12_back_20 := fun rf r hr => by
  unfold kX12_back_20
  exact v_pi (v_ist ((hr 489)))
theorem tX12_back_20 {X : pu_X} {r : pu_R} (hX : pu_H X mdX12_back) (hr : pu_P X.2.1 X.2.2.2.2.2.2.2.2.2.2.1 r) (hq : ∀ i pc, pu_lp i = some (303, pc) → pu_S X mdX12_back pc (r i)) : pu_S X mdX12_back 20 (kX12_back_20 r) := by
  unfold kX12_back_20
  exact z_iconst hX dX12_back_20 (by decide) (z_ist_n hX dX12_back_21 rfl ((hq 489 22 hl489)))
def kX12_back_18 (r : pu_R) : pu_K := s_push (.int (0)) (s_zret)
theorem vX12_back_18 : pu_cok2 kX12_back_18 := fun rf r hr => by
  unfold kX12_back_18
  exact v_pi (v_zret)
theorem tX12_back_18 {X : pu_X} {r : pu_R} (hX : pu_H X mdX12_back) (hr : pu_P X.2.1 X.2.2.2.2.2.2.2.2.2.2.1 r) (hq : ∀ i pc, pu_lp i = some (303, pc) → pu_S X mdX12_back pc (r i)) : pu_S X mdX12_back 18 (kX12_back_18 r) := by
  unfold kX12_back_18
  exact z_iconst hX dX12_back_18 (by decide) (z_zret hX dX12_back_19 rfl)
def kX12_back_0 (r : pu_R) : pu_K := s_ild 1 (s_iflt (kX12_back_18 r) (s_ild 1 (s_push (.int (2)) (s_icgt (kX12_back_18 r) (s_ald 0 (s_gr 12 2 (s_ild 1 (s_ai 4 (s_ifne (kX12_back_20 r) ((kX12_back_18 r)))))))))))
theorem vX12_back_0 : pu_cok2 kX12_back_0 := fun rf r hr => by
  unfold kX12_back_0
  exact v_ild (v_iflt (vX12_back_18 rf r hr) (v_ild (v_pi (v_icgt (vX12_back_18 rf r hr) (v_ald (v_gr (v_ild (v_ai (v_ifne (vX12_back_20 rf r hr) ((vX12_back_18 rf r hr)))))))))))
theorem tX12_back_0 {X : pu_X} {r : pu_R} (hX : pu_H X mdX12_back) (hr : pu_P X.2.1 X.2.2.2.2.2.2.2.2.2.2.1 r) (hq : ∀ i pc, pu_lp i = some (303, pc) → pu_S X mdX12_back pc (r i)) : pu_S X mdX12_back 0 (kX12_back_0 r) := by
  unfold kX12_back_0
  exact z_ild_n hX dX12_back_0 rfl (z_iflt hX dX12_back_1 (by decide) (tX12_back_18 hX hr hq) (z_ild_n hX dX12_back_4 rfl (z_iconst hX dX12_back_5 (by decide) (z_icgt hX dX12_back_6 (by decide) (tX12_back_18 hX hr hq) (z_ald_n hX dX12_back_9 rfl (z_gr (c := 12) (j := 2) hX dX12_back_10 rfl inlX12 wm7_20 ⟨rfl, by decide, rfl⟩ (z_ild_n hX dX12_back_13 rfl (z_zald hX dX12_back_14 (z_ifne hX dX12_back_15 (by decide) (tX12_back_20 hX hr hq) ((tX12_back_18 hX hr hq)))))))))))
def kX12_faulty_0 (r : pu_R) : pu_K := s_ald 0 (s_gr 12 0 (s_push (.int (15)) (s_ild 1 (s_wi 1 (s_push (.int (0)) (s_zret))))))
theorem vX12_faulty_0 : pu_cok2 kX12_faulty_0 := fun rf r hr => by
  unfold kX12_faulty_0
  exact v_ald (v_gr (v_pi (v_ild (v_wi (v_pi (v_zret))))))
theorem tX12_faulty_0 {X : pu_X} {r : pu_R} (hX : pu_H X mdX12_faulty) (hr : pu_P X.2.1 X.2.2.2.2.2.2.2.2.2.2.1 r) (hq : ∀ i pc, pu_lp i = some (304, pc) → pu_S X mdX12_faulty pc (r i)) : pu_S X mdX12_faulty 0 (kX12_faulty_0 r) := by
  unfold kX12_faulty_0
  exact z_ald_n hX dX12_faulty_0 rfl (z_gr (c := 12) (j := 0) hX dX12_faulty_1 rfl inlX12 wm7_16 ⟨rfl, by decide, rfl⟩ (z_bipush hX dX12_faulty_4 (by decide) (z_ild_n hX dX12_faulty_6 rfl (z_iast hX dX12_faulty_7 (z_iconst hX dX12_faulty_8 (by decide) (z_zret hX dX12_faulty_9 rfl))))))
def kX12_word_83 (r : pu_R) : pu_K := s_zret
theorem vX12_word_83 : pu_cok2 kX12_word_83 := fun rf r hr => by
  unfold kX12_word_83
  exact v_zret
theorem tX12_word_83 {X : pu_X} {r : pu_R} (hX : pu_H X mdX12_word) (hr : pu_P X.2.1 X.2.2.2.2.2.2.2.2.2.2.1 r) (hq : ∀ i pc, pu_lp i = some (305, pc) → pu_S X mdX12_word pc (r i)) : pu_S X mdX12_word 83 (kX12_word_83 r) := by
  unfold kX12_word_83
  exact z_zret hX dX12_word_83 rfl
def kX12_word_82 (r : pu_R) : pu_K := s_push (.int (0)) ((kX12_word_83 r))
theorem vX12_word_82 : pu_cok2 kX12_word_82 := fun rf r hr => by
  unfold kX12_word_82
  exact v_pi ((vX12_word_83 rf r hr))
theorem tX12_word_82 {X : pu_X} {r : pu_R} (hX : pu_H X mdX12_word) (hr : pu_P X.2.1 X.2.2.2.2.2.2.2.2.2.2.1 r) (hq : ∀ i pc, pu_lp i = some (305, pc) → pu_S X mdX12_word pc (r i)) : pu_S X mdX12_word 82 (kX12_word_82 r) := by
  unfold kX12_word_82
  exact z_iconst hX dX12_word_82 (by decide) ((tX12_word_83 hX hr hq))
def kX12_word_78 (r : pu_R) : pu_K := s_push (.int (1)) ((kX12_word_83 r))
theorem vX12_word_78 : pu_cok2 kX12_word_78 := fun rf r hr => by
  unfold kX12_word_78
  exact v_pi ((vX12_word_83 rf r hr))
theorem tX12_word_78 {X : pu_X} {r : pu_R} (hX : pu_H X mdX12_word) (hr : pu_P X.2.1 X.2.2.2.2.2.2.2.2.2.2.1 r) (hq : ∀ i pc, pu_lp i = some (305, pc) → pu_S X mdX12_word pc (r i)) : pu_S X mdX12_word 78 (kX12_word_78 r) := by
  unfold kX12_word_78
  exact z_iconst hX dX12_word_78 (by decide) ((z_goto hX dX12_word_79 (by decide) (tX12_word_83 hX hr hq)))
def kX12_word_63 (r : pu_R) : pu_K := s_ild 3 (s_ifgt (kX12_word_78 r) (s_ald 0 (s_ald 0 (s_gi 12 20 (s_cv r 304 1 12 (s_ifeq (kX12_word_82 r) ((kX12_word_78 r))))))))
theorem vX12_word_63 : pu_cok2 kX12_word_63 := fun rf r hr => by
  unfold kX12_word_63
  exact v_ild (v_ifgt (vX12_word_78 rf r hr) (v_ald (v_ald (v_gi (v_cv hr (v_ifeq (vX12_word_82 rf r hr) ((vX12_word_78 rf r hr))))))))
theorem tX12_word_63 {X : pu_X} {r : pu_R} (hX : pu_H X mdX12_word) (hr : pu_P X.2.1 X.2.2.2.2.2.2.2.2.2.2.1 r) (hq : ∀ i pc, pu_lp i = some (305, pc) → pu_S X mdX12_word pc (r i)) : pu_S X mdX12_word 63 (kX12_word_63 r) := by
  unfold kX12_word_63
  exact z_ild_n hX dX12_word_63 rfl (z_ifgt hX dX12_word_64 (by decide) (tX12_word_78 hX hr hq) (z_ald_n hX dX12_word_67 rfl (z_ald_n hX dX12_word_68 rfl (z_gi (c := 12) (j := 20) hX dX12_word_69 rfl inlX12 wm8_15 ⟨rfl, by decide, rfl⟩ (z_cv (c := 12) hX hr dX12_word_72 hjX12_faulty mwX12_faulty rfl wm58_8 ⟨wm58_9, wm58_10⟩ ⟨Nat.le_of_ble_eq_true rfl, Nat.le_of_ble_eq_true rfl⟩ (z_ifeq hX dX12_word_75 (by decide) (tX12_word_82 hX hr hq) ((tX12_word_78 hX hr hq))))))))
def kX12_word_31 (r : pu_R) : pu_K := s_ald 1 (s_push (.int (12)) (s_ild 2 (s_imul (s_ild 3 (s_iadd (s_ald 0 (s_ald 0 (s_gi 12 20 (s_cv r 241 1 12 (s_wi 1 (s_inc 3 (1) (s_ald 0 (s_dup (s_gi 12 20 (s_push (.int (1)) (s_iadd (s_pi 12 20 ((r 490)))))))))))))))))))
theorem vX12_word_31 : pu_cok2 kX12_word_31 := fun rf r hr => by
  unfold kX12_word_31
  exact v_ald (v_pi (v_ild (v_imul (v_ild (v_iadd (v_ald (v_ald (v_gi (v_cv hr (v_wi (v_inc (v_ald (v_dup (v_gi (v_pi (v_iadd (v_puti ((hr 490)))))))))))))))))))
theorem tX12_word_31 {X : pu_X} {r : pu_R} (hX : pu_H X mdX12_word) (hr : pu_P X.2.1 X.2.2.2.2.2.2.2.2.2.2.1 r) (hq : ∀ i pc, pu_lp i = some (305, pc) → pu_S X mdX12_word pc (r i)) : pu_S X mdX12_word 31 (kX12_word_31 r) := by
  unfold kX12_word_31
  exact z_ald_n hX dX12_word_31 rfl (z_bipush hX dX12_word_32 (by decide) (z_ild_n hX dX12_word_34 rfl (z_imul hX dX12_word_35 (z_ild_n hX dX12_word_36 rfl (z_iadd hX dX12_word_37 (z_ald_n hX dX12_word_38 rfl (z_ald_n hX dX12_word_39 rfl (z_gi (c := 12) (j := 20) hX dX12_word_40 rfl inlX12 wm8_15 ⟨rfl, by decide, rfl⟩ (z_cv (c := 12) hX hr dX12_word_43 hjX12_here mwX12_here rfl wm15_8 ⟨wm15_9, wm15_10⟩ ⟨Nat.le_of_ble_eq_true rfl, Nat.le_of_ble_eq_true rfl⟩ (z_iast hX dX12_word_46 (z_inc hX dX12_word_47 (by decide) (z_ald_n hX dX12_word_50 rfl (z_dup hX dX12_word_51 (z_gi (c := 12) (j := 20) hX dX12_word_52 rfl inlX12 wm8_15 ⟨rfl, by decide, rfl⟩ (z_iconst hX dX12_word_55 (by decide) (z_iadd hX dX12_word_56 (z_pi (c := 12) (j := 20) tyX12 tyX12_ok nmX12 hX dX12_word_57 rfl inlX12 wm8_15 ⟨rfl, by decide⟩ ⟨rfl, rfl⟩ rfl ((z_goto hX dX12_word_60 (by decide) (hq 490 2 hl490))))))))))))))))))))
def kX12_word_2 (r : pu_R) : pu_K := s_ald 0 (s_ald 0 (s_gi 12 20 (s_cv r 241 1 12 (s_cs r 240 1 (s_ifeq (kX12_word_63 r) (s_ild 3 (s_push (.int (12)) (s_icne (kX12_word_31 r) (s_ald 0 (s_ald 0 (s_gi 12 20 (s_cv r 304 1 12 (s_zret)))))))))))))
theorem vX12_word_2 : pu_cok2 kX12_word_2 := fun rf r hr => by
  unfold kX12_word_2
  exact v_ald (v_ald (v_gi (v_cv hr (v_cs hr (v_ifeq (vX12_word_63 rf r hr) (v_ild (v_pi (v_icne (vX12_word_31 rf r hr) (v_ald (v_ald (v_gi (v_cv hr (v_zret)))))))))))))
theorem tX12_word_2 {X : pu_X} {r : pu_R} (hX : pu_H X mdX12_word) (hr : pu_P X.2.1 X.2.2.2.2.2.2.2.2.2.2.1 r) (hq : ∀ i pc, pu_lp i = some (305, pc) → pu_S X mdX12_word pc (r i)) : pu_S X mdX12_word 2 (kX12_word_2 r) := by
  unfold kX12_word_2
  exact z_ald_n hX dX12_word_2 rfl (z_ald_n hX dX12_word_3 rfl (z_gi (c := 12) (j := 20) hX dX12_word_4 rfl inlX12 wm8_15 ⟨rfl, by decide, rfl⟩ (z_cv (c := 12) hX hr dX12_word_7 hjX12_here mwX12_here rfl wm15_8 ⟨wm15_9, wm15_10⟩ ⟨Nat.le_of_ble_eq_true rfl, Nat.le_of_ble_eq_true rfl⟩ (z_cs hX hr dX12_word_10 hjX12_isLetter mwX12_isLetter wm15_12 wm15_13 ⟨Nat.le_of_ble_eq_true rfl, Nat.le_of_ble_eq_true rfl⟩ (z_ifeq hX dX12_word_13 (by decide) (tX12_word_63 hX hr hq) (z_ild_n hX dX12_word_16 rfl (z_bipush hX dX12_word_17 (by decide) (z_icne hX dX12_word_19 (by decide) (tX12_word_31 hX hr hq) (z_ald_n hX dX12_word_22 rfl (z_ald_n hX dX12_word_23 rfl (z_gi (c := 12) (j := 20) hX dX12_word_24 rfl inlX12 wm8_15 ⟨rfl, by decide, rfl⟩ (z_cv (c := 12) hX hr dX12_word_27 hjX12_faulty mwX12_faulty rfl wm58_8 ⟨wm58_9, wm58_10⟩ ⟨Nat.le_of_ble_eq_true rfl, Nat.le_of_ble_eq_true rfl⟩ (z_zret hX dX12_word_30 rfl)))))))))))))
def kX12_word_0 (r : pu_R) : pu_K := s_push (.int (0)) (s_ist 3 ((r 490)))
theorem vX12_word_0 : pu_cok2 kX12_word_0 := fun rf r hr => by
  unfold kX12_word_0
  exact v_pi (v_ist ((hr 490)))
theorem tX12_word_0 {X : pu_X} {r : pu_R} (hX : pu_H X mdX12_word) (hr : pu_P X.2.1 X.2.2.2.2.2.2.2.2.2.2.1 r) (hq : ∀ i pc, pu_lp i = some (305, pc) → pu_S X mdX12_word pc (r i)) : pu_S X mdX12_word 0 (kX12_word_0 r) := by
  unfold kX12_word_0
  exact z_iconst hX dX12_word_0 (by decide) (z_ist_n hX dX12_word_1 rfl ((hq 490 2 hl490)))
def kX12_must_21 (r : pu_R) : pu_K := s_ald 0 (s_dup (s_gi 12 20 (s_push (.int (1)) (s_iadd (s_pi 12 20 (s_push (.int (1)) (s_zret)))))))
theorem vX12_must_21 : pu_cok2 kX12_must_21 := fun rf r hr => by
  unfold kX12_must_21
  exact v_ald (v_dup (v_gi (v_pi (v_iadd (v_puti (v_pi (v_zret)))))))
theorem tX12_must_21 {X : pu_X} {r : pu_R} (hX : pu_H X mdX12_must) (hr : pu_P X.2.1 X.2.2.2.2.2.2.2.2.2.2.1 r) (hq : ∀ i pc, pu_lp i = some (306, pc) → pu_S X mdX12_must pc (r i)) : pu_S X mdX12_must 21 (kX12_must_21 r) := by
  unfold kX12_must_21
  exact z_ald_n hX dX12_must_21 rfl (z_dup hX dX12_must_22 (z_gi (c := 12) (j := 20) hX dX12_must_23 rfl inlX12 wm8_15 ⟨rfl, by decide, rfl⟩ (z_iconst hX dX12_must_26 (by decide) (z_iadd hX dX12_must_27 (z_pi (c := 12) (j := 20) tyX12 tyX12_ok nmX12 hX dX12_must_28 rfl inlX12 wm8_15 ⟨rfl, by decide⟩ ⟨rfl, rfl⟩ rfl (z_iconst hX dX12_must_31 (by decide) (z_zret hX dX12_must_32 rfl)))))))
def kX12_must_0 (r : pu_R) : pu_K := s_ald 0 (s_ald 0 (s_gi 12 20 (s_cv r 241 1 12 (s_ild 1 (s_iceq (kX12_must_21 r) (s_ald 0 (s_ald 0 (s_gi 12 20 (s_cv r 304 1 12 (s_zret))))))))))
theorem vX12_must_0 : pu_cok2 kX12_must_0 := fun rf r hr => by
  unfold kX12_must_0
  exact v_ald (v_ald (v_gi (v_cv hr (v_ild (v_iceq (vX12_must_21 rf r hr) (v_ald (v_ald (v_gi (v_cv hr (v_zret))))))))))
theorem tX12_must_0 {X : pu_X} {r : pu_R} (hX : pu_H X mdX12_must) (hr : pu_P X.2.1 X.2.2.2.2.2.2.2.2.2.2.1 r) (hq : ∀ i pc, pu_lp i = some (306, pc) → pu_S X mdX12_must pc (r i)) : pu_S X mdX12_must 0 (kX12_must_0 r) := by
  unfold kX12_must_0
  exact z_ald_n hX dX12_must_0 rfl (z_ald_n hX dX12_must_1 rfl (z_gi (c := 12) (j := 20) hX dX12_must_2 rfl inlX12 wm8_15 ⟨rfl, by decide, rfl⟩ (z_cv (c := 12) hX hr dX12_must_5 hjX12_here mwX12_here rfl wm15_8 ⟨wm15_9, wm15_10⟩ ⟨Nat.le_of_ble_eq_true rfl, Nat.le_of_ble_eq_true rfl⟩ (z_ild_n hX dX12_must_8 rfl (z_iceq hX dX12_must_9 (by decide) (tX12_must_21 hX hr hq) (z_ald_n hX dX12_must_12 rfl (z_ald_n hX dX12_must_13 rfl (z_gi (c := 12) (j := 20) hX dX12_must_14 rfl inlX12 wm8_15 ⟨rfl, by decide, rfl⟩ (z_cv (c := 12) hX hr dX12_must_17 hjX12_faulty mwX12_faulty rfl wm58_8 ⟨wm58_9, wm58_10⟩ ⟨Nat.le_of_ble_eq_true rfl, Nat.le_of_ble_eq_true rfl⟩ (z_zret hX dX12_must_20 rfl))))))))))
def kX12_isDigit_17 (r : pu_R) : pu_K := s_zret
theorem vX12_isDigit_17 : pu_cok2 kX12_isDigit_17 := fun rf r hr => by
  unfold kX12_isDigit_17
  exact v_zret
theorem tX12_isDigit_17 {X : pu_X} {r : pu_R} (hX : pu_H X mdX12_isDigit) (hr : pu_P X.2.1 X.2.2.2.2.2.2.2.2.2.2.1 r) (hq : ∀ i pc, pu_lp i = some (307, pc) → pu_S X mdX12_isDigit pc (r i)) : pu_S X mdX12_isDigit 17 (kX12_isDigit_17 r) := by
  unfold kX12_isDigit_17
  exact z_zret hX dX12_isDigit_17 rfl
def kX12_isDigit_16 (r : pu_R) : pu_K := s_push (.int (0)) ((kX12_isDigit_17 r))
theorem vX12_isDigit_16 : pu_cok2 kX12_isDigit_16 := fun rf r hr => by
  unfold kX12_isDigit_16
  exact v_pi ((vX12_isDigit_17 rf r hr))
theorem tX12_isDigit_16 {X : pu_X} {r : pu_R} (hX : pu_H X mdX12_isDigit) (hr : pu_P X.2.1 X.2.2.2.2.2.2.2.2.2.2.1 r) (hq : ∀ i pc, pu_lp i = some (307, pc) → pu_S X mdX12_isDigit pc (r i)) : pu_S X mdX12_isDigit 16 (kX12_isDigit_16 r) := by
  unfold kX12_isDigit_16
  exact z_iconst hX dX12_isDigit_16 (by decide) ((tX12_isDigit_17 hX hr hq))
def kX12_isDigit_0 (r : pu_R) : pu_K := s_ild 0 (s_push (.int (48)) (s_iclt (kX12_isDigit_16 r) (s_ild 0 (s_push (.int (57)) (s_icgt (kX12_isDigit_16 r) (s_push (.int (1)) ((kX12_isDigit_17 r))))))))
theorem vX12_isDigit_0 : pu_cok2 kX12_isDigit_0 := fun rf r hr => by
  unfold kX12_isDigit_0
  exact v_ild (v_pi (v_iclt (vX12_isDigit_16 rf r hr) (v_ild (v_pi (v_icgt (vX12_isDigit_16 rf r hr) (v_pi ((vX12_isDigit_17 rf r hr))))))))
theorem tX12_isDigit_0 {X : pu_X} {r : pu_R} (hX : pu_H X mdX12_isDigit) (hr : pu_P X.2.1 X.2.2.2.2.2.2.2.2.2.2.1 r) (hq : ∀ i pc, pu_lp i = some (307, pc) → pu_S X mdX12_isDigit pc (r i)) : pu_S X mdX12_isDigit 0 (kX12_isDigit_0 r) := by
  unfold kX12_isDigit_0
  exact z_ild_n hX dX12_isDigit_0 rfl (z_bipush hX dX12_isDigit_1 (by decide) (z_iclt hX dX12_isDigit_3 (by decide) (tX12_isDigit_16 hX hr hq) (z_ild_n hX dX12_isDigit_6 rfl (z_bipush hX dX12_isDigit_7 (by decide) (z_icgt hX dX12_isDigit_9 (by decide) (tX12_isDigit_16 hX hr hq) (z_iconst hX dX12_isDigit_12 (by decide) ((z_goto hX dX12_isDigit_13 (by decide) (tX12_isDigit_17 hX hr hq)))))))))
def kX12_streetPart_70 (r : pu_R) : pu_K := s_inc 1 (1) ((r 491))
theorem vX12_streetPart_70 : pu_cok2 kX12_streetPart_70 := fun rf r hr => by
  unfold kX12_streetPart_70
  exact v_inc ((hr 491))
theorem tX12_streetPart_70 {X : pu_X} {r : pu_R} (hX : pu_H X mdX12_streetPart) (hr : pu_P X.2.1 X.2.2.2.2.2.2.2.2.2.2.1 r) (hq : ∀ i pc, pu_lp i = some (308, pc) → pu_S X mdX12_streetPart pc (r i)) : pu_S X mdX12_streetPart 70 (kX12_streetPart_70 r) := by
  unfold kX12_streetPart_70
  exact z_inc hX dX12_streetPart_70 (by decide) ((z_goto hX dX12_streetPart_73 (by decide) (hq 491 2 hl491)))
def kX12_streetPart_61 (r : pu_R) : pu_K := s_ald 0 (s_ald 0 (s_gi 12 20 (s_cv r 304 1 12 (s_zret))))
theorem vX12_streetPart_61 : pu_cok2 kX12_streetPart_61 := fun rf r hr => by
  unfold kX12_streetPart_61
  exact v_ald (v_ald (v_gi (v_cv hr (v_zret))))
theorem tX12_streetPart_61 {X : pu_X} {r : pu_R} (hX : pu_H X mdX12_streetPart) (hr : pu_P X.2.1 X.2.2.2.2.2.2.2.2.2.2.1 r) (hq : ∀ i pc, pu_lp i = some (308, pc) → pu_S X mdX12_streetPart pc (r i)) : pu_S X mdX12_streetPart 61 (kX12_streetPart_61 r) := by
  unfold kX12_streetPart_61
  exact z_ald_n hX dX12_streetPart_61 rfl (z_ald_n hX dX12_streetPart_62 rfl (z_gi (c := 12) (j := 20) hX dX12_streetPart_63 rfl inlX12 wm8_15 ⟨rfl, by decide, rfl⟩ (z_cv (c := 12) hX hr dX12_streetPart_66 hjX12_faulty mwX12_faulty rfl wm58_8 ⟨wm58_9, wm58_10⟩ ⟨Nat.le_of_ble_eq_true rfl, Nat.le_of_ble_eq_true rfl⟩ (z_zret hX dX12_streetPart_69 rfl))))
def kX12_streetPart_49 (r : pu_R) : pu_K := s_ild 2 (s_cs r 240 1 (s_ifeq (kX12_streetPart_61 r) (s_ild 1 (s_push (.int (2)) (s_icne (kX12_streetPart_70 r) ((kX12_streetPart_61 r)))))))
theorem vX12_streetPart_49 : pu_cok2 kX12_streetPart_49 := fun rf r hr => by
  unfold kX12_streetPart_49
  exact v_ild (v_cs hr (v_ifeq (vX12_streetPart_61 rf r hr) (v_ild (v_pi (v_icne (vX12_streetPart_70 rf r hr) ((vX12_streetPart_61 rf r hr)))))))
theorem tX12_streetPart_49 {X : pu_X} {r : pu_R} (hX : pu_H X mdX12_streetPart) (hr : pu_P X.2.1 X.2.2.2.2.2.2.2.2.2.2.1 r) (hq : ∀ i pc, pu_lp i = some (308, pc) → pu_S X mdX12_streetPart pc (r i)) : pu_S X mdX12_streetPart 49 (kX12_streetPart_49 r) := by
  unfold kX12_streetPart_49
  exact z_ild_n hX dX12_streetPart_49 rfl (z_cs hX hr dX12_streetPart_50 hjX12_isLetter mwX12_isLetter wm15_12 wm15_13 ⟨Nat.le_of_ble_eq_true rfl, Nat.le_of_ble_eq_true rfl⟩ (z_ifeq hX dX12_streetPart_53 (by decide) (tX12_streetPart_61 hX hr hq) (z_ild_n hX dX12_streetPart_56 rfl (z_iconst hX dX12_streetPart_57 (by decide) (z_icne hX dX12_streetPart_58 (by decide) (tX12_streetPart_70 hX hr hq) ((tX12_streetPart_61 hX hr hq)))))))
def kX12_streetPart_25 (r : pu_R) : pu_K := s_ald 0 (s_ald 0 (s_gi 12 20 (s_cv r 241 1 12 (s_ist 2 (s_ild 2 (s_cs r 307 1 (s_ifeq (kX12_streetPart_49 r) (s_ild 2 (s_push (.int (48)) (s_iceq (kX12_streetPart_49 r) (s_push (.int (1)) (s_zret))))))))))))
theorem vX12_streetPart_25 : pu_cok2 kX12_streetPart_25 := fun rf r hr => by
  unfold kX12_streetPart_25
  exact v_ald (v_ald (v_gi (v_cv hr (v_ist (v_ild (v_cs hr (v_ifeq (vX12_streetPart_49 rf r hr) (v_ild (v_pi (v_iceq (vX12_streetPart_49 rf r hr) (v_pi (v_zret))))))))))))
theorem tX12_streetPart_25 {X : pu_X} {r : pu_R} (hX : pu_H X mdX12_streetPart) (hr : pu_P X.2.1 X.2.2.2.2.2.2.2.2.2.2.1 r) (hq : ∀ i pc, pu_lp i = some (308, pc) → pu_S X mdX12_streetPart pc (r i)) : pu_S X mdX12_streetPart 25 (kX12_streetPart_25 r) := by
  unfold kX12_streetPart_25
  exact z_ald_n hX dX12_streetPart_25 rfl (z_ald_n hX dX12_streetPart_26 rfl (z_gi (c := 12) (j := 20) hX dX12_streetPart_27 rfl inlX12 wm8_15 ⟨rfl, by decide, rfl⟩ (z_cv (c := 12) hX hr dX12_streetPart_30 hjX12_here mwX12_here rfl wm15_8 ⟨wm15_9, wm15_10⟩ ⟨Nat.le_of_ble_eq_true rfl, Nat.le_of_ble_eq_true rfl⟩ (z_ist_n hX dX12_streetPart_33 rfl (z_ild_n hX dX12_streetPart_34 rfl (z_cs hX hr dX12_streetPart_35 hjX12_isDigit mwX12_isDigit wm58_16 wm58_17 ⟨Nat.le_of_ble_eq_true rfl, Nat.le_of_ble_eq_true rfl⟩ (z_ifeq hX dX12_streetPart_38 (by decide) (tX12_streetPart_49 hX hr hq) (z_ild_n hX dX12_streetPart_41 rfl (z_bipush hX dX12_streetPart_42 (by decide) (z_iceq hX dX12_streetPart_44 (by decide) (tX12_streetPart_49 hX hr hq) (z_iconst hX dX12_streetPart_47 (by decide) (z_zret hX dX12_streetPart_48 rfl))))))))))))
def kX12_streetPart_23 (r : pu_R) : pu_K := s_push (.int (0)) (s_zret)
theorem vX12_streetPart_23 : pu_cok2 kX12_streetPart_23 := fun rf r hr => by
  unfold kX12_streetPart_23
  exact v_pi (v_zret)
theorem tX12_streetPart_23 {X : pu_X} {r : pu_R} (hX : pu_H X mdX12_streetPart) (hr : pu_P X.2.1 X.2.2.2.2.2.2.2.2.2.2.1 r) (hq : ∀ i pc, pu_lp i = some (308, pc) → pu_S X mdX12_streetPart pc (r i)) : pu_S X mdX12_streetPart 23 (kX12_streetPart_23 r) := by
  unfold kX12_streetPart_23
  exact z_iconst hX dX12_streetPart_23 (by decide) (z_zret hX dX12_streetPart_24 rfl)
def kX12_streetPart_2 (r : pu_R) : pu_K := s_ald 0 (s_ald 0 (s_gr 12 9 (s_ild 1 (s_cv r 305 2 12 (s_ifeq (kX12_streetPart_23 r) (s_ald 0 (s_push (.int (32)) (s_cv r 306 1 12 (s_ifne (kX12_streetPart_25 r) ((kX12_streetPart_23 r)))))))))))
theorem vX12_streetPart_2 : pu_cok2 kX12_streetPart_2 := fun rf r hr => by
  unfold kX12_streetPart_2
  exact v_ald (v_ald (v_gr (v_ild (v_cv hr (v_ifeq (vX12_streetPart_23 rf r hr) (v_ald (v_pi (v_cv hr (v_ifne (vX12_streetPart_25 rf r hr) ((vX12_streetPart_23 rf r hr)))))))))))
theorem tX12_streetPart_2 {X : pu_X} {r : pu_R} (hX : pu_H X mdX12_streetPart) (hr : pu_P X.2.1 X.2.2.2.2.2.2.2.2.2.2.1 r) (hq : ∀ i pc, pu_lp i = some (308, pc) → pu_S X mdX12_streetPart pc (r i)) : pu_S X mdX12_streetPart 2 (kX12_streetPart_2 r) := by
  unfold kX12_streetPart_2
  exact z_ald_n hX dX12_streetPart_2 rfl (z_ald_n hX dX12_streetPart_3 rfl (z_gr (c := 12) (j := 9) hX dX12_streetPart_4 rfl inlX12 wm8_4 ⟨rfl, by decide, rfl⟩ (z_ild_n hX dX12_streetPart_7 rfl (z_cv (c := 12) hX hr dX12_streetPart_8 hjX12_word mwX12_word rfl wm58_4 ⟨wm58_5, wm58_6⟩ ⟨Nat.le_of_ble_eq_true rfl, Nat.le_of_ble_eq_true rfl⟩ (z_ifeq hX dX12_streetPart_11 (by decide) (tX12_streetPart_23 hX hr hq) (z_ald_n hX dX12_streetPart_14 rfl (z_bipush hX dX12_streetPart_15 (by decide) (z_cv (c := 12) hX hr dX12_streetPart_17 hjX12_must mwX12_must rfl wm58_12 ⟨wm58_13, wm58_14⟩ ⟨Nat.le_of_ble_eq_true rfl, Nat.le_of_ble_eq_true rfl⟩ (z_ifne hX dX12_streetPart_20 (by decide) (tX12_streetPart_25 hX hr hq) ((tX12_streetPart_23 hX hr hq)))))))))))
def kX12_streetPart_0 (r : pu_R) : pu_K := s_push (.int (0)) (s_ist 1 ((r 491)))
theorem vX12_streetPart_0 : pu_cok2 kX12_streetPart_0 := fun rf r hr => by
  unfold kX12_streetPart_0
  exact v_pi (v_ist ((hr 491)))
theorem tX12_streetPart_0 {X : pu_X} {r : pu_R} (hX : pu_H X mdX12_streetPart) (hr : pu_P X.2.1 X.2.2.2.2.2.2.2.2.2.2.1 r) (hq : ∀ i pc, pu_lp i = some (308, pc) → pu_S X mdX12_streetPart pc (r i)) : pu_S X mdX12_streetPart 0 (kX12_streetPart_0 r) := by
  unfold kX12_streetPart_0
  exact z_iconst hX dX12_streetPart_0 (by decide) (z_ist_n hX dX12_streetPart_1 rfl ((hq 491 2 hl491)))
def kX12_numberPart_124 (r : pu_R) : pu_K := s_ald 0 (s_push (.int (16)) (s_ild 2 (s_imul (s_ild 4 (s_iadd (s_pi 12 17 (s_push (.int (1)) (s_zret))))))))
theorem vX12_numberPart_124 : pu_cok2 kX12_numberPart_124 := fun rf r hr => by
  unfold kX12_numberPart_124
  exact v_ald (v_pi (v_ild (v_imul (v_ild (v_iadd (v_puti (v_pi (v_zret))))))))
theorem tX12_numberPart_124 {X : pu_X} {r : pu_R} (hX : pu_H X mdX12_numberPart) (hr : pu_P X.2.1 X.2.2.2.2.2.2.2.2.2.2.1 r) (hq : ∀ i pc, pu_lp i = some (309, pc) → pu_S X mdX12_numberPart pc (r i)) : pu_S X mdX12_numberPart 124 (kX12_numberPart_124 r) := by
  unfold kX12_numberPart_124
  exact z_ald_n hX dX12_numberPart_124 rfl (z_bipush hX dX12_numberPart_125 (by decide) (z_ild_n hX dX12_numberPart_127 rfl (z_imul hX dX12_numberPart_128 (z_ild hX dX12_numberPart_129 (z_iadd hX dX12_numberPart_131 (z_pi (c := 12) (j := 17) tyX12 tyX12_ok nmX12 hX dX12_numberPart_132 rfl inlX12 wm8_12 ⟨rfl, by decide⟩ ⟨rfl, rfl⟩ rfl (z_iconst hX dX12_numberPart_135 (by decide) (z_zret hX dX12_numberPart_136 rfl))))))))
def kX12_numberPart_107 (r : pu_R) : pu_K := s_ist 4 (s_ild 4 (s_ifle (kX12_numberPart_124 r) (s_ald 0 (s_dup (s_gi 12 20 (s_push (.int (1)) (s_iadd (s_pi 12 20 ((kX12_numberPart_124 r))))))))))
theorem vX12_numberPart_107 : pu_cok2 kX12_numberPart_107 := fun rf r hr => by
  unfold kX12_numberPart_107
  exact v_ist (v_ild (v_ifle (vX12_numberPart_124 rf r hr) (v_ald (v_dup (v_gi (v_pi (v_iadd (v_puti ((vX12_numberPart_124 rf r hr))))))))))
theorem tX12_numberPart_107 {X : pu_X} {r : pu_R} (hX : pu_H X mdX12_numberPart) (hr : pu_P X.2.1 X.2.2.2.2.2.2.2.2.2.2.1 r) (hq : ∀ i pc, pu_lp i = some (309, pc) → pu_S X mdX12_numberPart pc (r i)) : pu_S X mdX12_numberPart 107 (kX12_numberPart_107 r) := by
  unfold kX12_numberPart_107
  exact z_ist hX dX12_numberPart_107 (z_ild hX dX12_numberPart_109 (z_ifle hX dX12_numberPart_111 (by decide) (tX12_numberPart_124 hX hr hq) (z_ald_n hX dX12_numberPart_114 rfl (z_dup hX dX12_numberPart_115 (z_gi (c := 12) (j := 20) hX dX12_numberPart_116 rfl inlX12 wm8_15 ⟨rfl, by decide, rfl⟩ (z_iconst hX dX12_numberPart_119 (by decide) (z_iadd hX dX12_numberPart_120 (z_pi (c := 12) (j := 20) tyX12 tyX12_ok nmX12 hX dX12_numberPart_121 rfl inlX12 wm8_15 ⟨rfl, by decide⟩ ⟨rfl, rfl⟩ rfl ((tX12_numberPart_124 hX hr hq))))))))))
def kX12_numberPart_106 (r : pu_R) : pu_K := s_push (.int (0)) ((kX12_numberPart_107 r))
theorem vX12_numberPart_106 : pu_cok2 kX12_numberPart_106 := fun rf r hr => by
  unfold kX12_numberPart_106
  exact v_pi ((vX12_numberPart_107 rf r hr))
theorem tX12_numberPart_106 {X : pu_X} {r : pu_R} (hX : pu_H X mdX12_numberPart) (hr : pu_P X.2.1 X.2.2.2.2.2.2.2.2.2.2.1 r) (hq : ∀ i pc, pu_lp i = some (309, pc) → pu_S X mdX12_numberPart pc (r i)) : pu_S X mdX12_numberPart 106 (kX12_numberPart_106 r) := by
  unfold kX12_numberPart_106
  exact z_iconst hX dX12_numberPart_106 (by decide) ((tX12_numberPart_107 hX hr hq))
def kX12_numberPart_95 (r : pu_R) : pu_K := s_ild 3 (s_push (.int (43)) (s_icne (kX12_numberPart_106 r) (s_push (.int (9)) ((kX12_numberPart_107 r)))))
theorem vX12_numberPart_95 : pu_cok2 kX12_numberPart_95 := fun rf r hr => by
  unfold kX12_numberPart_95
  exact v_ild (v_pi (v_icne (vX12_numberPart_106 rf r hr) (v_pi ((vX12_numberPart_107 rf r hr)))))
theorem tX12_numberPart_95 {X : pu_X} {r : pu_R} (hX : pu_H X mdX12_numberPart) (hr : pu_P X.2.1 X.2.2.2.2.2.2.2.2.2.2.1 r) (hq : ∀ i pc, pu_lp i = some (309, pc) → pu_S X mdX12_numberPart pc (r i)) : pu_S X mdX12_numberPart 95 (kX12_numberPart_95 r) := by
  unfold kX12_numberPart_95
  exact z_ild_n hX dX12_numberPart_95 rfl (z_bipush hX dX12_numberPart_96 (by decide) (z_icne hX dX12_numberPart_98 (by decide) (tX12_numberPart_106 hX hr hq) (z_bipush hX dX12_numberPart_101 (by decide) ((z_goto hX dX12_numberPart_103 (by decide) (tX12_numberPart_107 hX hr hq))))))
def kX12_numberPart_65 (r : pu_R) : pu_K := s_ald 0 (s_ald 0 (s_gi 12 20 (s_cv r 241 1 12 (s_ist 3 (s_ild 3 (s_push (.int (97)) (s_iclt (kX12_numberPart_95 r) (s_ild 3 (s_push (.int (104)) (s_icgt (kX12_numberPart_95 r) (s_ild 3 (s_push (.int (97)) (s_isub (s_push (.int (1)) (s_iadd ((kX12_numberPart_107 r)))))))))))))))))
theorem vX12_numberPart_65 : pu_cok2 kX12_numberPart_65 := fun rf r hr => by
  unfold kX12_numberPart_65
  exact v_ald (v_ald (v_gi (v_cv hr (v_ist (v_ild (v_pi (v_iclt (vX12_numberPart_95 rf r hr) (v_ild (v_pi (v_icgt (vX12_numberPart_95 rf r hr) (v_ild (v_pi (v_isub (v_pi (v_iadd ((vX12_numberPart_107 rf r hr)))))))))))))))))
theorem tX12_numberPart_65 {X : pu_X} {r : pu_R} (hX : pu_H X mdX12_numberPart) (hr : pu_P X.2.1 X.2.2.2.2.2.2.2.2.2.2.1 r) (hq : ∀ i pc, pu_lp i = some (309, pc) → pu_S X mdX12_numberPart pc (r i)) : pu_S X mdX12_numberPart 65 (kX12_numberPart_65 r) := by
  unfold kX12_numberPart_65
  exact z_ald_n hX dX12_numberPart_65 rfl (z_ald_n hX dX12_numberPart_66 rfl (z_gi (c := 12) (j := 20) hX dX12_numberPart_67 rfl inlX12 wm8_15 ⟨rfl, by decide, rfl⟩ (z_cv (c := 12) hX hr dX12_numberPart_70 hjX12_here mwX12_here rfl wm15_8 ⟨wm15_9, wm15_10⟩ ⟨Nat.le_of_ble_eq_true rfl, Nat.le_of_ble_eq_true rfl⟩ (z_ist_n hX dX12_numberPart_73 rfl (z_ild_n hX dX12_numberPart_74 rfl (z_bipush hX dX12_numberPart_75 (by decide) (z_iclt hX dX12_numberPart_77 (by decide) (tX12_numberPart_95 hX hr hq) (z_ild_n hX dX12_numberPart_80 rfl (z_bipush hX dX12_numberPart_81 (by decide) (z_icgt hX dX12_numberPart_83 (by decide) (tX12_numberPart_95 hX hr hq) (z_ild_n hX dX12_numberPart_86 rfl (z_bipush hX dX12_numberPart_87 (by decide) (z_isub hX dX12_numberPart_89 (z_iconst hX dX12_numberPart_90 (by decide) (z_iadd hX dX12_numberPart_91 ((z_goto hX dX12_numberPart_92 (by decide) (tX12_numberPart_107 hX hr hq))))))))))))))))))
def kX12_numberPart_32 (r : pu_R) : pu_K := s_push (.int (10)) (s_ild 2 (s_imul (s_ald 0 (s_ald 0 (s_gi 12 20 (s_cv r 241 1 12 (s_iadd (s_push (.int (48)) (s_isub (s_ist 2 (s_inc 1 (1) (s_ald 0 (s_dup (s_gi 12 20 (s_push (.int (1)) (s_iadd (s_pi 12 20 ((r 492)))))))))))))))))))
theorem vX12_numberPart_32 : pu_cok2 kX12_numberPart_32 := fun rf r hr => by
  unfold kX12_numberPart_32
  exact v_pi (v_ild (v_imul (v_ald (v_ald (v_gi (v_cv hr (v_iadd (v_pi (v_isub (v_ist (v_inc (v_ald (v_dup (v_gi (v_pi (v_iadd (v_puti ((hr 492)))))))))))))))))))
theorem tX12_numberPart_32 {X : pu_X} {r : pu_R} (hX : pu_H X mdX12_numberPart) (hr : pu_P X.2.1 X.2.2.2.2.2.2.2.2.2.2.1 r) (hq : ∀ i pc, pu_lp i = some (309, pc) → pu_S X mdX12_numberPart pc (r i)) : pu_S X mdX12_numberPart 32 (kX12_numberPart_32 r) := by
  unfold kX12_numberPart_32
  exact z_bipush hX dX12_numberPart_32 (by decide) (z_ild_n hX dX12_numberPart_34 rfl (z_imul hX dX12_numberPart_35 (z_ald_n hX dX12_numberPart_36 rfl (z_ald_n hX dX12_numberPart_37 rfl (z_gi (c := 12) (j := 20) hX dX12_numberPart_38 rfl inlX12 wm8_15 ⟨rfl, by decide, rfl⟩ (z_cv (c := 12) hX hr dX12_numberPart_41 hjX12_here mwX12_here rfl wm15_8 ⟨wm15_9, wm15_10⟩ ⟨Nat.le_of_ble_eq_true rfl, Nat.le_of_ble_eq_true rfl⟩ (z_iadd hX dX12_numberPart_44 (z_bipush hX dX12_numberPart_45 (by decide) (z_isub hX dX12_numberPart_47 (z_ist_n hX dX12_numberPart_48 rfl (z_inc hX dX12_numberPart_49 (by decide) (z_ald_n hX dX12_numberPart_52 rfl (z_dup hX dX12_numberPart_53 (z_gi (c := 12) (j := 20) hX dX12_numberPart_54 rfl inlX12 wm8_15 ⟨rfl, by decide, rfl⟩ (z_iconst hX dX12_numberPart_57 (by decide) (z_iadd hX dX12_numberPart_58 (z_pi (c := 12) (j := 20) tyX12 tyX12_ok nmX12 hX dX12_numberPart_59 rfl inlX12 wm8_15 ⟨rfl, by decide⟩ ⟨rfl, rfl⟩ rfl ((z_goto hX dX12_numberPart_62 (by decide) (hq 492 4 hl492))))))))))))))))))))
def kX12_numberPart_4 (r : pu_R) : pu_K := s_ald 0 (s_ald 0 (s_gi 12 20 (s_cv r 241 1 12 (s_cs r 307 1 (s_ifeq (kX12_numberPart_65 r) (s_ild 1 (s_push (.int (4)) (s_icne (kX12_numberPart_32 r) (s_ald 0 (s_ald 0 (s_gi 12 20 (s_cv r 304 1 12 (s_zret)))))))))))))
theorem vX12_numberPart_4 : pu_cok2 kX12_numberPart_4 := fun rf r hr => by
  unfold kX12_numberPart_4
  exact v_ald (v_ald (v_gi (v_cv hr (v_cs hr (v_ifeq (vX12_numberPart_65 rf r hr) (v_ild (v_pi (v_icne (vX12_numberPart_32 rf r hr) (v_ald (v_ald (v_gi (v_cv hr (v_zret)))))))))))))
theorem tX12_numberPart_4 {X : pu_X} {r : pu_R} (hX : pu_H X mdX12_numberPart) (hr : pu_P X.2.1 X.2.2.2.2.2.2.2.2.2.2.1 r) (hq : ∀ i pc, pu_lp i = some (309, pc) → pu_S X mdX12_numberPart pc (r i)) : pu_S X mdX12_numberPart 4 (kX12_numberPart_4 r) := by
  unfold kX12_numberPart_4
  exact z_ald_n hX dX12_numberPart_4 rfl (z_ald_n hX dX12_numberPart_5 rfl (z_gi (c := 12) (j := 20) hX dX12_numberPart_6 rfl inlX12 wm8_15 ⟨rfl, by decide, rfl⟩ (z_cv (c := 12) hX hr dX12_numberPart_9 hjX12_here mwX12_here rfl wm15_8 ⟨wm15_9, wm15_10⟩ ⟨Nat.le_of_ble_eq_true rfl, Nat.le_of_ble_eq_true rfl⟩ (z_cs hX hr dX12_numberPart_12 hjX12_isDigit mwX12_isDigit wm58_16 wm58_17 ⟨Nat.le_of_ble_eq_true rfl, Nat.le_of_ble_eq_true rfl⟩ (z_ifeq hX dX12_numberPart_15 (by decide) (tX12_numberPart_65 hX hr hq) (z_ild_n hX dX12_numberPart_18 rfl (z_iconst hX dX12_numberPart_19 (by decide) (z_icne hX dX12_numberPart_20 (by decide) (tX12_numberPart_32 hX hr hq) (z_ald_n hX dX12_numberPart_23 rfl (z_ald_n hX dX12_numberPart_24 rfl (z_gi (c := 12) (j := 20) hX dX12_numberPart_25 rfl inlX12 wm8_15 ⟨rfl, by decide, rfl⟩ (z_cv (c := 12) hX hr dX12_numberPart_28 hjX12_faulty mwX12_faulty rfl wm58_8 ⟨wm58_9, wm58_10⟩ ⟨Nat.le_of_ble_eq_true rfl, Nat.le_of_ble_eq_true rfl⟩ (z_zret hX dX12_numberPart_31 rfl)))))))))))))
def kX12_numberPart_0 (r : pu_R) : pu_K := s_push (.int (0)) (s_ist 1 (s_push (.int (0)) (s_ist 2 ((r 492)))))
theorem vX12_numberPart_0 : pu_cok2 kX12_numberPart_0 := fun rf r hr => by
  unfold kX12_numberPart_0
  exact v_pi (v_ist (v_pi (v_ist ((hr 492)))))
theorem tX12_numberPart_0 {X : pu_X} {r : pu_R} (hX : pu_H X mdX12_numberPart) (hr : pu_P X.2.1 X.2.2.2.2.2.2.2.2.2.2.1 r) (hq : ∀ i pc, pu_lp i = some (309, pc) → pu_S X mdX12_numberPart pc (r i)) : pu_S X mdX12_numberPart 0 (kX12_numberPart_0 r) := by
  unfold kX12_numberPart_0
  exact z_iconst hX dX12_numberPart_0 (by decide) (z_ist_n hX dX12_numberPart_1 rfl (z_iconst hX dX12_numberPart_2 (by decide) (z_ist_n hX dX12_numberPart_3 rfl ((hq 492 4 hl492)))))
def kX12_court_59 (r : pu_R) : pu_K := s_zret
theorem vX12_court_59 : pu_cok2 kX12_court_59 := fun rf r hr => by
  unfold kX12_court_59
  exact v_zret
theorem tX12_court_59 {X : pu_X} {r : pu_R} (hX : pu_H X mdX12_court) (hr : pu_P X.2.1 X.2.2.2.2.2.2.2.2.2.2.1 r) (hq : ∀ i pc, pu_lp i = some (310, pc) → pu_S X mdX12_court pc (r i)) : pu_S X mdX12_court 59 (kX12_court_59 r) := by
  unfold kX12_court_59
  exact z_zret hX dX12_court_59 rfl
def kX12_court_58 (r : pu_R) : pu_K := s_push (.int (0)) ((kX12_court_59 r))
theorem vX12_court_58 : pu_cok2 kX12_court_58 := fun rf r hr => by
  unfold kX12_court_58
  exact v_pi ((vX12_court_59 rf r hr))
theorem tX12_court_58 {X : pu_X} {r : pu_R} (hX : pu_H X mdX12_court) (hr : pu_P X.2.1 X.2.2.2.2.2.2.2.2.2.2.1 r) (hq : ∀ i pc, pu_lp i = some (310, pc) → pu_S X mdX12_court pc (r i)) : pu_S X mdX12_court 58 (kX12_court_58 r) := by
  unfold kX12_court_58
  exact z_iconst hX dX12_court_58 (by decide) ((tX12_court_59 hX hr hq))
def kX12_court_54 (r : pu_R) : pu_K := s_push (.int (1)) ((kX12_court_59 r))
theorem vX12_court_54 : pu_cok2 kX12_court_54 := fun rf r hr => by
  unfold kX12_court_54
  exact v_pi ((vX12_court_59 rf r hr))
theorem tX12_court_54 {X : pu_X} {r : pu_R} (hX : pu_H X mdX12_court) (hr : pu_P X.2.1 X.2.2.2.2.2.2.2.2.2.2.1 r) (hq : ∀ i pc, pu_lp i = some (310, pc) → pu_S X mdX12_court pc (r i)) : pu_S X mdX12_court 54 (kX12_court_54 r) := by
  unfold kX12_court_54
  exact z_iconst hX dX12_court_54 (by decide) ((z_goto hX dX12_court_55 (by decide) (tX12_court_59 hX hr hq)))
def kX12_court_0 (r : pu_R) : pu_K := s_ald 0 (s_push (.int (99)) (s_cv r 306 1 12 (s_ifeq (kX12_court_58 r) (s_ald 0 (s_push (.int (111)) (s_cv r 306 1 12 (s_ifeq (kX12_court_58 r) (s_ald 0 (s_push (.int (117)) (s_cv r 306 1 12 (s_ifeq (kX12_court_58 r) (s_ald 0 (s_push (.int (114)) (s_cv r 306 1 12 (s_ifeq (kX12_court_58 r) (s_ald 0 (s_push (.int (116)) (s_cv r 306 1 12 (s_ifeq (kX12_court_58 r) (s_ald 0 (s_push (.int (32)) (s_cv r 306 1 12 (s_ifeq (kX12_court_58 r) ((kX12_court_54 r)))))))))))))))))))))))))
theorem vX12_court_0 : pu_cok2 kX12_court_0 := fun rf r hr => by
  unfold kX12_court_0
  exact v_ald (v_pi (v_cv hr (v_ifeq (vX12_court_58 rf r hr) (v_ald (v_pi (v_cv hr (v_ifeq (vX12_court_58 rf r hr) (v_ald (v_pi (v_cv hr (v_ifeq (vX12_court_58 rf r hr) (v_ald (v_pi (v_cv hr (v_ifeq (vX12_court_58 rf r hr) (v_ald (v_pi (v_cv hr (v_ifeq (vX12_court_58 rf r hr) (v_ald (v_pi (v_cv hr (v_ifeq (vX12_court_58 rf r hr) ((vX12_court_54 rf r hr)))))))))))))))))))))))))
theorem tX12_court_0 {X : pu_X} {r : pu_R} (hX : pu_H X mdX12_court) (hr : pu_P X.2.1 X.2.2.2.2.2.2.2.2.2.2.1 r) (hq : ∀ i pc, pu_lp i = some (310, pc) → pu_S X mdX12_court pc (r i)) : pu_S X mdX12_court 0 (kX12_court_0 r) := by
  unfold kX12_court_0
  exact z_ald_n hX dX12_court_0 rfl (z_bipush hX dX12_court_1 (by decide) (z_cv (c := 12) hX hr dX12_court_3 hjX12_must mwX12_must rfl wm58_12 ⟨wm58_13, wm58_14⟩ ⟨Nat.le_of_ble_eq_true rfl, Nat.le_of_ble_eq_true rfl⟩ (z_ifeq hX dX12_court_6 (by decide) (tX12_court_58 hX hr hq) (z_ald_n hX dX12_court_9 rfl (z_bipush hX dX12_court_10 (by decide) (z_cv (c := 12) hX hr dX12_court_12 hjX12_must mwX12_must rfl wm58_12 ⟨wm58_13, wm58_14⟩ ⟨Nat.le_of_ble_eq_true rfl, Nat.le_of_ble_eq_true rfl⟩ (z_ifeq hX dX12_court_15 (by decide) (tX12_court_58 hX hr hq) (z_ald_n hX dX12_court_18 rfl (z_bipush hX dX12_court_19 (by decide) (z_cv (c := 12) hX hr dX12_court_21 hjX12_must mwX12_must rfl wm58_12 ⟨wm58_13, wm58_14⟩ ⟨Nat.le_of_ble_eq_true rfl, Nat.le_of_ble_eq_true rfl⟩ (z_ifeq hX dX12_court_24 (by decide) (tX12_court_58 hX hr hq) (z_ald_n hX dX12_court_27 rfl (z_bipush hX dX12_court_28 (by decide) (z_cv (c := 12) hX hr dX12_court_30 hjX12_must mwX12_must rfl wm58_12 ⟨wm58_13, wm58_14⟩ ⟨Nat.le_of_ble_eq_true rfl, Nat.le_of_ble_eq_true rfl⟩ (z_ifeq hX dX12_court_33 (by decide) (tX12_court_58 hX hr hq) (z_ald_n hX dX12_court_36 rfl (z_bipush hX dX12_court_37 (by decide) (z_cv (c := 12) hX hr dX12_court_39 hjX12_must mwX12_must rfl wm58_12 ⟨wm58_13, wm58_14⟩ ⟨Nat.le_of_ble_eq_true rfl, Nat.le_of_ble_eq_true rfl⟩ (z_ifeq hX dX12_court_42 (by decide) (tX12_court_58 hX hr hq) (z_ald_n hX dX12_court_45 rfl (z_bipush hX dX12_court_46 (by decide) (z_cv (c := 12) hX hr dX12_court_48 hjX12_must mwX12_must rfl wm58_12 ⟨wm58_13, wm58_14⟩ ⟨Nat.le_of_ble_eq_true rfl, Nat.le_of_ble_eq_true rfl⟩ (z_ifeq hX dX12_court_51 (by decide) (tX12_court_58 hX hr hq) ((tX12_court_54 hX hr hq)))))))))))))))))))))))))
def kX12_floor_59 (r : pu_R) : pu_K := s_zret
theorem vX12_floor_59 : pu_cok2 kX12_floor_59 := fun rf r hr => by
  unfold kX12_floor_59
  exact v_zret
theorem tX12_floor_59 {X : pu_X} {r : pu_R} (hX : pu_H X mdX12_floor) (hr : pu_P X.2.1 X.2.2.2.2.2.2.2.2.2.2.1 r) (hq : ∀ i pc, pu_lp i = some (311, pc) → pu_S X mdX12_floor pc (r i)) : pu_S X mdX12_floor 59 (kX12_floor_59 r) := by
  unfold kX12_floor_59
  exact z_zret hX dX12_floor_59 rfl
def kX12_floor_58 (r : pu_R) : pu_K := s_push (.int (0)) ((kX12_floor_59 r))
theorem vX12_floor_58 : pu_cok2 kX12_floor_58 := fun rf r hr => by
  unfold kX12_floor_58
  exact v_pi ((vX12_floor_59 rf r hr))
theorem tX12_floor_58 {X : pu_X} {r : pu_R} (hX : pu_H X mdX12_floor) (hr : pu_P X.2.1 X.2.2.2.2.2.2.2.2.2.2.1 r) (hq : ∀ i pc, pu_lp i = some (311, pc) → pu_S X mdX12_floor pc (r i)) : pu_S X mdX12_floor 58 (kX12_floor_58 r) := by
  unfold kX12_floor_58
  exact z_iconst hX dX12_floor_58 (by decide) ((tX12_floor_59 hX hr hq))
def kX12_floor_54 (r : pu_R) : pu_K := s_push (.int (1)) ((kX12_floor_59 r))
theorem vX12_floor_54 : pu_cok2 kX12_floor_54 := fun rf r hr => by
  unfold kX12_floor_54
  exact v_pi ((vX12_floor_59 rf r hr))
theorem tX12_floor_54 {X : pu_X} {r : pu_R} (hX : pu_H X mdX12_floor) (hr : pu_P X.2.1 X.2.2.2.2.2.2.2.2.2.2.1 r) (hq : ∀ i pc, pu_lp i = some (311, pc) → pu_S X mdX12_floor pc (r i)) : pu_S X mdX12_floor 54 (kX12_floor_54 r) := by
  unfold kX12_floor_54
  exact z_iconst hX dX12_floor_54 (by decide) ((z_goto hX dX12_floor_55 (by decide) (tX12_floor_59 hX hr hq)))
def kX12_floor_0 (r : pu_R) : pu_K := s_ald 0 (s_push (.int (102)) (s_cv r 306 1 12 (s_ifeq (kX12_floor_58 r) (s_ald 0 (s_push (.int (108)) (s_cv r 306 1 12 (s_ifeq (kX12_floor_58 r) (s_ald 0 (s_push (.int (111)) (s_cv r 306 1 12 (s_ifeq (kX12_floor_58 r) (s_ald 0 (s_push (.int (111)) (s_cv r 306 1 12 (s_ifeq (kX12_floor_58 r) (s_ald 0 (s_push (.int (114)) (s_cv r 306 1 12 (s_ifeq (kX12_floor_58 r) (s_ald 0 (s_push (.int (32)) (s_cv r 306 1 12 (s_ifeq (kX12_floor_58 r) ((kX12_floor_54 r)))))))))))))))))))))))))
theorem vX12_floor_0 : pu_cok2 kX12_floor_0 := fun rf r hr => by
  unfold kX12_floor_0
  exact v_ald (v_pi (v_cv hr (v_ifeq (vX12_floor_58 rf r hr) (v_ald (v_pi (v_cv hr (v_ifeq (vX12_floor_58 rf r hr) (v_ald (v_pi (v_cv hr (v_ifeq (vX12_floor_58 rf r hr) (v_ald (v_pi (v_cv hr (v_ifeq (vX12_floor_58 rf r hr) (v_ald (v_pi (v_cv hr (v_ifeq (vX12_floor_58 rf r hr) (v_ald (v_pi (v_cv hr (v_ifeq (vX12_floor_58 rf r hr) ((vX12_floor_54 rf r hr)))))))))))))))))))))))))
theorem tX12_floor_0 {X : pu_X} {r : pu_R} (hX : pu_H X mdX12_floor) (hr : pu_P X.2.1 X.2.2.2.2.2.2.2.2.2.2.1 r) (hq : ∀ i pc, pu_lp i = some (311, pc) → pu_S X mdX12_floor pc (r i)) : pu_S X mdX12_floor 0 (kX12_floor_0 r) := by
  unfold kX12_floor_0
  exact z_ald_n hX dX12_floor_0 rfl (z_bipush hX dX12_floor_1 (by decide) (z_cv (c := 12) hX hr dX12_floor_3 hjX12_must mwX12_must rfl wm58_12 ⟨wm58_13, wm58_14⟩ ⟨Nat.le_of_ble_eq_true rfl, Nat.le_of_ble_eq_true rfl⟩ (z_ifeq hX dX12_floor_6 (by decide) (tX12_floor_58 hX hr hq) (z_ald_n hX dX12_floor_9 rfl (z_bipush hX dX12_floor_10 (by decide) (z_cv (c := 12) hX hr dX12_floor_12 hjX12_must mwX12_must rfl wm58_12 ⟨wm58_13, wm58_14⟩ ⟨Nat.le_of_ble_eq_true rfl, Nat.le_of_ble_eq_true rfl⟩ (z_ifeq hX dX12_floor_15 (by decide) (tX12_floor_58 hX hr hq) (z_ald_n hX dX12_floor_18 rfl (z_bipush hX dX12_floor_19 (by decide) (z_cv (c := 12) hX hr dX12_floor_21 hjX12_must mwX12_must rfl wm58_12 ⟨wm58_13, wm58_14⟩ ⟨Nat.le_of_ble_eq_true rfl, Nat.le_of_ble_eq_true rfl⟩ (z_ifeq hX dX12_floor_24 (by decide) (tX12_floor_58 hX hr hq) (z_ald_n hX dX12_floor_27 rfl (z_bipush hX dX12_floor_28 (by decide) (z_cv (c := 12) hX hr dX12_floor_30 hjX12_must mwX12_must rfl wm58_12 ⟨wm58_13, wm58_14⟩ ⟨Nat.le_of_ble_eq_true rfl, Nat.le_of_ble_eq_true rfl⟩ (z_ifeq hX dX12_floor_33 (by decide) (tX12_floor_58 hX hr hq) (z_ald_n hX dX12_floor_36 rfl (z_bipush hX dX12_floor_37 (by decide) (z_cv (c := 12) hX hr dX12_floor_39 hjX12_must mwX12_must rfl wm58_12 ⟨wm58_13, wm58_14⟩ ⟨Nat.le_of_ble_eq_true rfl, Nat.le_of_ble_eq_true rfl⟩ (z_ifeq hX dX12_floor_42 (by decide) (tX12_floor_58 hX hr hq) (z_ald_n hX dX12_floor_45 rfl (z_bipush hX dX12_floor_46 (by decide) (z_cv (c := 12) hX hr dX12_floor_48 hjX12_must mwX12_must rfl wm58_12 ⟨wm58_13, wm58_14⟩ ⟨Nat.le_of_ble_eq_true rfl, Nat.le_of_ble_eq_true rfl⟩ (z_ifeq hX dX12_floor_51 (by decide) (tX12_floor_58 hX hr hq) ((tX12_floor_54 hX hr hq)))))))))))))))))))))))))
def kX12_extraPart_266 (r : pu_R) : pu_K := s_push (.int (1)) (s_zret)
theorem vX12_extraPart_266 : pu_cok2 kX12_extraPart_266 := fun rf r hr => by
  unfold kX12_extraPart_266
  exact v_pi (v_zret)
theorem tX12_extraPart_266 {X : pu_X} {r : pu_R} (hX : pu_H X mdX12_extraPart) (hr : pu_P X.2.1 X.2.2.2.2.2.2.2.2.2.2.1 r) (hq : ∀ i pc, pu_lp i = some (312, pc) → pu_S X mdX12_extraPart pc (r i)) : pu_S X mdX12_extraPart 266 (kX12_extraPart_266 r) := by
  unfold kX12_extraPart_266
  exact z_iconst hX dX12_extraPart_266 (by decide) (z_zret hX dX12_extraPart_267 rfl)
def kX12_extraPart_240 (r : pu_R) : pu_K := s_imul (s_ald 0 (s_ald 0 (s_gi 12 20 (s_cv r 241 1 12 (s_iadd (s_push (.int (48)) (s_isub (s_pi 12 19 (s_ald 0 (s_dup (s_gi 12 20 (s_push (.int (1)) (s_iadd (s_pi 12 20 ((kX12_extraPart_266 r))))))))))))))))
theorem vX12_extraPart_240 : pu_cok2 kX12_extraPart_240 := fun rf r hr => by
  unfold kX12_extraPart_240
  exact v_imul (v_ald (v_ald (v_gi (v_cv hr (v_iadd (v_pi (v_isub (v_puti (v_ald (v_dup (v_gi (v_pi (v_iadd (v_puti ((vX12_extraPart_266 rf r hr))))))))))))))))
theorem tX12_extraPart_240 {X : pu_X} {r : pu_R} (hX : pu_H X mdX12_extraPart) (hr : pu_P X.2.1 X.2.2.2.2.2.2.2.2.2.2.1 r) (hq : ∀ i pc, pu_lp i = some (312, pc) → pu_S X mdX12_extraPart pc (r i)) : pu_S X mdX12_extraPart 240 (kX12_extraPart_240 r) := by
  unfold kX12_extraPart_240
  exact z_imul hX dX12_extraPart_240 (z_ald_n hX dX12_extraPart_241 rfl (z_ald_n hX dX12_extraPart_242 rfl (z_gi (c := 12) (j := 20) hX dX12_extraPart_243 rfl inlX12 wm8_15 ⟨rfl, by decide, rfl⟩ (z_cv (c := 12) hX hr dX12_extraPart_246 hjX12_here mwX12_here rfl wm15_8 ⟨wm15_9, wm15_10⟩ ⟨Nat.le_of_ble_eq_true rfl, Nat.le_of_ble_eq_true rfl⟩ (z_iadd hX dX12_extraPart_249 (z_bipush hX dX12_extraPart_250 (by decide) (z_isub hX dX12_extraPart_252 (z_pi (c := 12) (j := 19) tyX12 tyX12_ok nmX12 hX dX12_extraPart_253 rfl inlX12 wm8_14 ⟨rfl, by decide⟩ ⟨rfl, rfl⟩ rfl (z_ald_n hX dX12_extraPart_256 rfl (z_dup hX dX12_extraPart_257 (z_gi (c := 12) (j := 20) hX dX12_extraPart_258 rfl inlX12 wm8_15 ⟨rfl, by decide, rfl⟩ (z_iconst hX dX12_extraPart_261 (by decide) (z_iadd hX dX12_extraPart_262 (z_pi (c := 12) (j := 20) tyX12 tyX12_ok nmX12 hX dX12_extraPart_263 rfl inlX12 wm8_15 ⟨rfl, by decide⟩ ⟨rfl, rfl⟩ rfl ((tX12_extraPart_266 hX hr hq))))))))))))))))
def kX12_extraPart_194 (r : pu_R) : pu_K := s_ald 0 (s_ald 0 (s_ald 0 (s_gi 12 20 (s_cv r 241 1 12 (s_push (.int (48)) (s_isub (s_pi 12 19 (s_ald 0 (s_dup (s_gi 12 20 (s_push (.int (1)) (s_iadd (s_pi 12 20 (s_ald 0 (s_ald 0 (s_gi 12 20 (s_cv r 241 1 12 (s_cs r 307 1 (s_ifeq (kX12_extraPart_266 r) (s_ald 0 (s_push (.int (10)) (s_ald 0 (s_gi 12 19 ((kX12_extraPart_240 r)))))))))))))))))))))))))
theorem vX12_extraPart_194 : pu_cok2 kX12_extraPart_194 := fun rf r hr => by
  unfold kX12_extraPart_194
  exact v_ald (v_ald (v_ald (v_gi (v_cv hr (v_pi (v_isub (v_puti (v_ald (v_dup (v_gi (v_pi (v_iadd (v_puti (v_ald (v_ald (v_gi (v_cv hr (v_cs hr (v_ifeq (vX12_extraPart_266 rf r hr) (v_ald (v_pi (v_ald (v_gi ((vX12_extraPart_240 rf r hr)))))))))))))))))))))))))
theorem tX12_extraPart_194 {X : pu_X} {r : pu_R} (hX : pu_H X mdX12_extraPart) (hr : pu_P X.2.1 X.2.2.2.2.2.2.2.2.2.2.1 r) (hq : ∀ i pc, pu_lp i = some (312, pc) → pu_S X mdX12_extraPart pc (r i)) : pu_S X mdX12_extraPart 194 (kX12_extraPart_194 r) := by
  unfold kX12_extraPart_194
  exact z_ald_n hX dX12_extraPart_194 rfl (z_ald_n hX dX12_extraPart_195 rfl (z_ald_n hX dX12_extraPart_196 rfl (z_gi (c := 12) (j := 20) hX dX12_extraPart_197 rfl inlX12 wm8_15 ⟨rfl, by decide, rfl⟩ (z_cv (c := 12) hX hr dX12_extraPart_200 hjX12_here mwX12_here rfl wm15_8 ⟨wm15_9, wm15_10⟩ ⟨Nat.le_of_ble_eq_true rfl, Nat.le_of_ble_eq_true rfl⟩ (z_bipush hX dX12_extraPart_203 (by decide) (z_isub hX dX12_extraPart_205 (z_pi (c := 12) (j := 19) tyX12 tyX12_ok nmX12 hX dX12_extraPart_206 rfl inlX12 wm8_14 ⟨rfl, by decide⟩ ⟨rfl, rfl⟩ rfl (z_ald_n hX dX12_extraPart_209 rfl (z_dup hX dX12_extraPart_210 (z_gi (c := 12) (j := 20) hX dX12_extraPart_211 rfl inlX12 wm8_15 ⟨rfl, by decide, rfl⟩ (z_iconst hX dX12_extraPart_214 (by decide) (z_iadd hX dX12_extraPart_215 (z_pi (c := 12) (j := 20) tyX12 tyX12_ok nmX12 hX dX12_extraPart_216 rfl inlX12 wm8_15 ⟨rfl, by decide⟩ ⟨rfl, rfl⟩ rfl (z_ald_n hX dX12_extraPart_219 rfl (z_ald_n hX dX12_extraPart_220 rfl (z_gi (c := 12) (j := 20) hX dX12_extraPart_221 rfl inlX12 wm8_15 ⟨rfl, by decide, rfl⟩ (z_cv (c := 12) hX hr dX12_extraPart_224 hjX12_here mwX12_here rfl wm15_8 ⟨wm15_9, wm15_10⟩ ⟨Nat.le_of_ble_eq_true rfl, Nat.le_of_ble_eq_true rfl⟩ (z_cs hX hr dX12_extraPart_227 hjX12_isDigit mwX12_isDigit wm58_16 wm58_17 ⟨Nat.le_of_ble_eq_true rfl, Nat.le_of_ble_eq_true rfl⟩ (z_ifeq hX dX12_extraPart_230 (by decide) (tX12_extraPart_266 hX hr hq) (z_ald_n hX dX12_extraPart_233 rfl (z_bipush hX dX12_extraPart_234 (by decide) (z_ald_n hX dX12_extraPart_236 rfl (z_gi (c := 12) (j := 19) hX dX12_extraPart_237 rfl inlX12 wm8_14 ⟨rfl, by decide, rfl⟩ ((tX12_extraPart_240 hX hr hq)))))))))))))))))))))))))
def kX12_extraPart_185 (r : pu_R) : pu_K := s_ald 0 (s_ald 0 (s_gi 12 20 (s_cv r 304 1 12 (s_zret))))
theorem vX12_extraPart_185 : pu_cok2 kX12_extraPart_185 := fun rf r hr => by
  unfold kX12_extraPart_185
  exact v_ald (v_ald (v_gi (v_cv hr (v_zret))))
theorem tX12_extraPart_185 {X : pu_X} {r : pu_R} (hX : pu_H X mdX12_extraPart) (hr : pu_P X.2.1 X.2.2.2.2.2.2.2.2.2.2.1 r) (hq : ∀ i pc, pu_lp i = some (312, pc) → pu_S X mdX12_extraPart pc (r i)) : pu_S X mdX12_extraPart 185 (kX12_extraPart_185 r) := by
  unfold kX12_extraPart_185
  exact z_ald_n hX dX12_extraPart_185 rfl (z_ald_n hX dX12_extraPart_186 rfl (z_gi (c := 12) (j := 20) hX dX12_extraPart_187 rfl inlX12 wm8_15 ⟨rfl, by decide, rfl⟩ (z_cv (c := 12) hX hr dX12_extraPart_190 hjX12_faulty mwX12_faulty rfl wm58_8 ⟨wm58_9, wm58_10⟩ ⟨Nat.le_of_ble_eq_true rfl, Nat.le_of_ble_eq_true rfl⟩ (z_zret hX dX12_extraPart_193 rfl))))
def kX12_extraPart_158 (r : pu_R) : pu_K := s_ald 0 (s_ald 0 (s_gi 12 20 (s_cv r 241 1 12 (s_cs r 307 1 (s_ifeq (kX12_extraPart_185 r) (s_ald 0 (s_ald 0 (s_gi 12 20 (s_cv r 241 1 12 (s_push (.int (48)) (s_icne (kX12_extraPart_194 r) ((kX12_extraPart_185 r)))))))))))))
theorem vX12_extraPart_158 : pu_cok2 kX12_extraPart_158 := fun rf r hr => by
  unfold kX12_extraPart_158
  exact v_ald (v_ald (v_gi (v_cv hr (v_cs hr (v_ifeq (vX12_extraPart_185 rf r hr) (v_ald (v_ald (v_gi (v_cv hr (v_pi (v_icne (vX12_extraPart_194 rf r hr) ((vX12_extraPart_185 rf r hr)))))))))))))
theorem tX12_extraPart_158 {X : pu_X} {r : pu_R} (hX : pu_H X mdX12_extraPart) (hr : pu_P X.2.1 X.2.2.2.2.2.2.2.2.2.2.1 r) (hq : ∀ i pc, pu_lp i = some (312, pc) → pu_S X mdX12_extraPart pc (r i)) : pu_S X mdX12_extraPart 158 (kX12_extraPart_158 r) := by
  unfold kX12_extraPart_158
  exact z_ald_n hX dX12_extraPart_158 rfl (z_ald_n hX dX12_extraPart_159 rfl (z_gi (c := 12) (j := 20) hX dX12_extraPart_160 rfl inlX12 wm8_15 ⟨rfl, by decide, rfl⟩ (z_cv (c := 12) hX hr dX12_extraPart_163 hjX12_here mwX12_here rfl wm15_8 ⟨wm15_9, wm15_10⟩ ⟨Nat.le_of_ble_eq_true rfl, Nat.le_of_ble_eq_true rfl⟩ (z_cs hX hr dX12_extraPart_166 hjX12_isDigit mwX12_isDigit wm58_16 wm58_17 ⟨Nat.le_of_ble_eq_true rfl, Nat.le_of_ble_eq_true rfl⟩ (z_ifeq hX dX12_extraPart_169 (by decide) (tX12_extraPart_185 hX hr hq) (z_ald_n hX dX12_extraPart_172 rfl (z_ald_n hX dX12_extraPart_173 rfl (z_gi (c := 12) (j := 20) hX dX12_extraPart_174 rfl inlX12 wm8_15 ⟨rfl, by decide, rfl⟩ (z_cv (c := 12) hX hr dX12_extraPart_177 hjX12_here mwX12_here rfl wm15_8 ⟨wm15_9, wm15_10⟩ ⟨Nat.le_of_ble_eq_true rfl, Nat.le_of_ble_eq_true rfl⟩ (z_bipush hX dX12_extraPart_180 (by decide) (z_icne hX dX12_extraPart_182 (by decide) (tX12_extraPart_194 hX hr hq) ((tX12_extraPart_185 hX hr hq)))))))))))))
def kX12_extraPart_156 (r : pu_R) : pu_K := s_push (.int (0)) (s_zret)
theorem vX12_extraPart_156 : pu_cok2 kX12_extraPart_156 := fun rf r hr => by
  unfold kX12_extraPart_156
  exact v_pi (v_zret)
theorem tX12_extraPart_156 {X : pu_X} {r : pu_R} (hX : pu_H X mdX12_extraPart) (hr : pu_P X.2.1 X.2.2.2.2.2.2.2.2.2.2.1 r) (hq : ∀ i pc, pu_lp i = some (312, pc) → pu_S X mdX12_extraPart pc (r i)) : pu_S X mdX12_extraPart 156 (kX12_extraPart_156 r) := by
  unfold kX12_extraPart_156
  exact z_iconst hX dX12_extraPart_156 (by decide) (z_zret hX dX12_extraPart_157 rfl)
def kX12_extraPart_149 (r : pu_R) : pu_K := s_ald 0 (s_cv r 311 0 12 (s_ifne (kX12_extraPart_158 r) ((kX12_extraPart_156 r))))
theorem vX12_extraPart_149 : pu_cok2 kX12_extraPart_149 := fun rf r hr => by
  unfold kX12_extraPart_149
  exact v_ald (v_cv hr (v_ifne (vX12_extraPart_158 rf r hr) ((vX12_extraPart_156 rf r hr))))
theorem tX12_extraPart_149 {X : pu_X} {r : pu_R} (hX : pu_H X mdX12_extraPart) (hr : pu_P X.2.1 X.2.2.2.2.2.2.2.2.2.2.1 r) (hq : ∀ i pc, pu_lp i = some (312, pc) → pu_S X mdX12_extraPart pc (r i)) : pu_S X mdX12_extraPart 149 (kX12_extraPart_149 r) := by
  unfold kX12_extraPart_149
  exact z_ald_n hX dX12_extraPart_149 rfl (z_cv (c := 12) hX hr dX12_extraPart_150 hjX12_floor mwX12_floor rfl wm59_7 ⟨wm59_8, wm59_9⟩ ⟨Nat.le_of_ble_eq_true rfl, Nat.le_of_ble_eq_true rfl⟩ (z_ifne hX dX12_extraPart_153 (by decide) (tX12_extraPart_158 hX hr hq) ((tX12_extraPart_156 hX hr hq))))
def kX12_extraPart_130 (r : pu_R) : pu_K := s_pi 12 18 (s_ild 1 (s_push (.int (99)) (s_icne (kX12_extraPart_149 r) (s_ald 0 (s_cv r 310 0 12 (s_ifeq (kX12_extraPart_156 r) ((kX12_extraPart_158 r))))))))
theorem vX12_extraPart_130 : pu_cok2 kX12_extraPart_130 := fun rf r hr => by
  unfold kX12_extraPart_130
  exact v_puti (v_ild (v_pi (v_icne (vX12_extraPart_149 rf r hr) (v_ald (v_cv hr (v_ifeq (vX12_extraPart_156 rf r hr) ((vX12_extraPart_158 rf r hr))))))))
theorem tX12_extraPart_130 {X : pu_X} {r : pu_R} (hX : pu_H X mdX12_extraPart) (hr : pu_P X.2.1 X.2.2.2.2.2.2.2.2.2.2.1 r) (hq : ∀ i pc, pu_lp i = some (312, pc) → pu_S X mdX12_extraPart pc (r i)) : pu_S X mdX12_extraPart 130 (kX12_extraPart_130 r) := by
  unfold kX12_extraPart_130
  exact z_pi (c := 12) (j := 18) tyX12 tyX12_ok nmX12 hX dX12_extraPart_130 rfl inlX12 wm8_13 ⟨rfl, by decide⟩ ⟨rfl, rfl⟩ rfl (z_ild_n hX dX12_extraPart_133 rfl (z_bipush hX dX12_extraPart_134 (by decide) (z_icne hX dX12_extraPart_136 (by decide) (tX12_extraPart_149 hX hr hq) (z_ald_n hX dX12_extraPart_139 rfl (z_cv (c := 12) hX hr dX12_extraPart_140 hjX12_court mwX12_court rfl wm59_3 ⟨wm59_4, wm59_5⟩ ⟨Nat.le_of_ble_eq_true rfl, Nat.le_of_ble_eq_true rfl⟩ (z_ifeq hX dX12_extraPart_143 (by decide) (tX12_extraPart_156 hX hr hq) ((z_goto hX dX12_extraPart_146 (by decide) (tX12_extraPart_158 hX hr hq)))))))))
def kX12_extraPart_129 (r : pu_R) : pu_K := s_push (.int (4)) ((kX12_extraPart_130 r))
theorem vX12_extraPart_129 : pu_cok2 kX12_extraPart_129 := fun rf r hr => by
  unfold kX12_extraPart_129
  exact v_pi ((vX12_extraPart_130 rf r hr))
theorem tX12_extraPart_129 {X : pu_X} {r : pu_R} (hX : pu_H X mdX12_extraPart) (hr : pu_P X.2.1 X.2.2.2.2.2.2.2.2.2.2.1 r) (hq : ∀ i pc, pu_lp i = some (312, pc) → pu_S X mdX12_extraPart pc (r i)) : pu_S X mdX12_extraPart 129 (kX12_extraPart_129 r) := by
  unfold kX12_extraPart_129
  exact z_iconst hX dX12_extraPart_129 (by decide) ((tX12_extraPart_130 hX hr hq))
def kX12_extraPart_118 (r : pu_R) : pu_K := s_ald 0 (s_ild 1 (s_push (.int (99)) (s_icne (kX12_extraPart_129 r) (s_push (.int (3)) ((kX12_extraPart_130 r))))))
theorem vX12_extraPart_118 : pu_cok2 kX12_extraPart_118 := fun rf r hr => by
  unfold kX12_extraPart_118
  exact v_ald (v_ild (v_pi (v_icne (vX12_extraPart_129 rf r hr) (v_pi ((vX12_extraPart_130 rf r hr))))))
theorem tX12_extraPart_118 {X : pu_X} {r : pu_R} (hX : pu_H X mdX12_extraPart) (hr : pu_P X.2.1 X.2.2.2.2.2.2.2.2.2.2.1 r) (hq : ∀ i pc, pu_lp i = some (312, pc) → pu_S X mdX12_extraPart pc (r i)) : pu_S X mdX12_extraPart 118 (kX12_extraPart_118 r) := by
  unfold kX12_extraPart_118
  exact z_ald_n hX dX12_extraPart_118 rfl (z_ild_n hX dX12_extraPart_119 rfl (z_bipush hX dX12_extraPart_120 (by decide) (z_icne hX dX12_extraPart_122 (by decide) (tX12_extraPart_129 hX hr hq) (z_iconst hX dX12_extraPart_125 (by decide) ((z_goto hX dX12_extraPart_126 (by decide) (tX12_extraPart_130 hX hr hq)))))))
def kX12_extraPart_97 (r : pu_R) : pu_K := s_ild 1 (s_push (.int (99)) (s_iceq (kX12_extraPart_118 r) (s_ild 1 (s_push (.int (102)) (s_iceq (kX12_extraPart_118 r) (s_ald 0 (s_ald 0 (s_gi 12 20 (s_cv r 304 1 12 (s_zret))))))))))
theorem vX12_extraPart_97 : pu_cok2 kX12_extraPart_97 := fun rf r hr => by
  unfold kX12_extraPart_97
  exact v_ild (v_pi (v_iceq (vX12_extraPart_118 rf r hr) (v_ild (v_pi (v_iceq (vX12_extraPart_118 rf r hr) (v_ald (v_ald (v_gi (v_cv hr (v_zret))))))))))
theorem tX12_extraPart_97 {X : pu_X} {r : pu_R} (hX : pu_H X mdX12_extraPart) (hr : pu_P X.2.1 X.2.2.2.2.2.2.2.2.2.2.1 r) (hq : ∀ i pc, pu_lp i = some (312, pc) → pu_S X mdX12_extraPart pc (r i)) : pu_S X mdX12_extraPart 97 (kX12_extraPart_97 r) := by
  unfold kX12_extraPart_97
  exact z_ild_n hX dX12_extraPart_97 rfl (z_bipush hX dX12_extraPart_98 (by decide) (z_iceq hX dX12_extraPart_100 (by decide) (tX12_extraPart_118 hX hr hq) (z_ild_n hX dX12_extraPart_103 rfl (z_bipush hX dX12_extraPart_104 (by decide) (z_iceq hX dX12_extraPart_106 (by decide) (tX12_extraPart_118 hX hr hq) (z_ald_n hX dX12_extraPart_109 rfl (z_ald_n hX dX12_extraPart_110 rfl (z_gi (c := 12) (j := 20) hX dX12_extraPart_111 rfl inlX12 wm8_15 ⟨rfl, by decide, rfl⟩ (z_cv (c := 12) hX hr dX12_extraPart_114 hjX12_faulty mwX12_faulty rfl wm58_8 ⟨wm58_9, wm58_10⟩ ⟨Nat.le_of_ble_eq_true rfl, Nat.le_of_ble_eq_true rfl⟩ (z_zret hX dX12_extraPart_117 rfl))))))))))
def kX12_extraPart_96 (r : pu_R) : pu_K := s_zret
theorem vX12_extraPart_96 : pu_cok2 kX12_extraPart_96 := fun rf r hr => by
  unfold kX12_extraPart_96
  exact v_zret
theorem tX12_extraPart_96 {X : pu_X} {r : pu_R} (hX : pu_H X mdX12_extraPart) (hr : pu_P X.2.1 X.2.2.2.2.2.2.2.2.2.2.1 r) (hq : ∀ i pc, pu_lp i = some (312, pc) → pu_S X mdX12_extraPart pc (r i)) : pu_S X mdX12_extraPart 96 (kX12_extraPart_96 r) := by
  unfold kX12_extraPart_96
  exact z_zret hX dX12_extraPart_96 rfl
def kX12_extraPart_95 (r : pu_R) : pu_K := s_push (.int (0)) ((kX12_extraPart_96 r))
theorem vX12_extraPart_95 : pu_cok2 kX12_extraPart_95 := fun rf r hr => by
  unfold kX12_extraPart_95
  exact v_pi ((vX12_extraPart_96 rf r hr))
theorem tX12_extraPart_95 {X : pu_X} {r : pu_R} (hX : pu_H X mdX12_extraPart) (hr : pu_P X.2.1 X.2.2.2.2.2.2.2.2.2.2.1 r) (hq : ∀ i pc, pu_lp i = some (312, pc) → pu_S X mdX12_extraPart pc (r i)) : pu_S X mdX12_extraPart 95 (kX12_extraPart_95 r) := by
  unfold kX12_extraPart_95
  exact z_iconst hX dX12_extraPart_95 (by decide) ((tX12_extraPart_96 hX hr hq))
def kX12_extraPart_70 (r : pu_R) : pu_K := s_ifeq (kX12_extraPart_95 r) (s_ald 0 (s_push (.int (99)) (s_cv r 306 1 12 (s_ifeq (kX12_extraPart_95 r) (s_ald 0 (s_push (.int (107)) (s_cv r 306 1 12 (s_ifeq (kX12_extraPart_95 r) (s_push (.int (1)) ((kX12_extraPart_96 r)))))))))))
theorem vX12_extraPart_70 : pu_cok2 kX12_extraPart_70 := fun rf r hr => by
  unfold kX12_extraPart_70
  exact v_ifeq (vX12_extraPart_95 rf r hr) (v_ald (v_pi (v_cv hr (v_ifeq (vX12_extraPart_95 rf r hr) (v_ald (v_pi (v_cv hr (v_ifeq (vX12_extraPart_95 rf r hr) (v_pi ((vX12_extraPart_96 rf r hr)))))))))))
theorem tX12_extraPart_70 {X : pu_X} {r : pu_R} (hX : pu_H X mdX12_extraPart) (hr : pu_P X.2.1 X.2.2.2.2.2.2.2.2.2.2.1 r) (hq : ∀ i pc, pu_lp i = some (312, pc) → pu_S X mdX12_extraPart pc (r i)) : pu_S X mdX12_extraPart 70 (kX12_extraPart_70 r) := by
  unfold kX12_extraPart_70
  exact z_ifeq hX dX12_extraPart_70 (by decide) (tX12_extraPart_95 hX hr hq) (z_ald_n hX dX12_extraPart_73 rfl (z_bipush hX dX12_extraPart_74 (by decide) (z_cv (c := 12) hX hr dX12_extraPart_76 hjX12_must mwX12_must rfl wm58_12 ⟨wm58_13, wm58_14⟩ ⟨Nat.le_of_ble_eq_true rfl, Nat.le_of_ble_eq_true rfl⟩ (z_ifeq hX dX12_extraPart_79 (by decide) (tX12_extraPart_95 hX hr hq) (z_ald_n hX dX12_extraPart_82 rfl (z_bipush hX dX12_extraPart_83 (by decide) (z_cv (c := 12) hX hr dX12_extraPart_85 hjX12_must mwX12_must rfl wm58_12 ⟨wm58_13, wm58_14⟩ ⟨Nat.le_of_ble_eq_true rfl, Nat.le_of_ble_eq_true rfl⟩ (z_ifeq hX dX12_extraPart_88 (by decide) (tX12_extraPart_95 hX hr hq) (z_iconst hX dX12_extraPart_91 (by decide) ((z_goto hX dX12_extraPart_92 (by decide) (tX12_extraPart_96 hX hr hq))))))))))))
def kX12_extraPart_25 (r : pu_R) : pu_K := s_ald 0 (s_dup (s_gi 12 20 (s_push (.int (1)) (s_iadd (s_pi 12 20 (s_ald 0 (s_ald 0 (s_gi 12 20 (s_cv r 241 1 12 (s_ist 1 (s_ild 1 (s_push (.int (98)) (s_icne (kX12_extraPart_97 r) (s_ald 0 (s_push (.int (2)) (s_pi 12 18 (s_ald 0 (s_push (.int (98)) (s_cv r 306 1 12 (s_ifeq (kX12_extraPart_95 r) (s_ald 0 (s_push (.int (97)) (s_cv r 306 1 12 ((kX12_extraPart_70 r)))))))))))))))))))))))))
theorem vX12_extraPart_25 : pu_cok2 kX12_extraPart_25 := fun rf r hr => by
  unfold kX12_extraPart_25
  exact v_ald (v_dup (v_gi (v_pi (v_iadd (v_puti (v_ald (v_ald (v_gi (v_cv hr (v_ist (v_ild (v_pi (v_icne (vX12_extraPart_97 rf r hr) (v_ald (v_pi (v_puti (v_ald (v_pi (v_cv hr (v_ifeq (vX12_extraPart_95 rf r hr) (v_ald (v_pi (v_cv hr ((vX12_extraPart_70 rf r hr)))))))))))))))))))))))))
theorem tX12_extraPart_25 {X : pu_X} {r : pu_R} (hX : pu_H X mdX12_extraPart) (hr : pu_P X.2.1 X.2.2.2.2.2.2.2.2.2.2.1 r) (hq : ∀ i pc, pu_lp i = some (312, pc) → pu_S X mdX12_extraPart pc (r i)) : pu_S X mdX12_extraPart 25 (kX12_extraPart_25 r) := by
  unfold kX12_extraPart_25
  exact z_ald_n hX dX12_extraPart_25 rfl (z_dup hX dX12_extraPart_26 (z_gi (c := 12) (j := 20) hX dX12_extraPart_27 rfl inlX12 wm8_15 ⟨rfl, by decide, rfl⟩ (z_iconst hX dX12_extraPart_30 (by decide) (z_iadd hX dX12_extraPart_31 (z_pi (c := 12) (j := 20) tyX12 tyX12_ok nmX12 hX dX12_extraPart_32 rfl inlX12 wm8_15 ⟨rfl, by decide⟩ ⟨rfl, rfl⟩ rfl (z_ald_n hX dX12_extraPart_35 rfl (z_ald_n hX dX12_extraPart_36 rfl (z_gi (c := 12) (j := 20) hX dX12_extraPart_37 rfl inlX12 wm8_15 ⟨rfl, by decide, rfl⟩ (z_cv (c := 12) hX hr dX12_extraPart_40 hjX12_here mwX12_here rfl wm15_8 ⟨wm15_9, wm15_10⟩ ⟨Nat.le_of_ble_eq_true rfl, Nat.le_of_ble_eq_true rfl⟩ (z_ist_n hX dX12_extraPart_43 rfl (z_ild_n hX dX12_extraPart_44 rfl (z_bipush hX dX12_extraPart_45 (by decide) (z_icne hX dX12_extraPart_47 (by decide) (tX12_extraPart_97 hX hr hq) (z_ald_n hX dX12_extraPart_50 rfl (z_iconst hX dX12_extraPart_51 (by decide) (z_pi (c := 12) (j := 18) tyX12 tyX12_ok nmX12 hX dX12_extraPart_52 rfl inlX12 wm8_13 ⟨rfl, by decide⟩ ⟨rfl, rfl⟩ rfl (z_ald_n hX dX12_extraPart_55 rfl (z_bipush hX dX12_extraPart_56 (by decide) (z_cv (c := 12) hX hr dX12_extraPart_58 hjX12_must mwX12_must rfl wm58_12 ⟨wm58_13, wm58_14⟩ ⟨Nat.le_of_ble_eq_true rfl, Nat.le_of_ble_eq_true rfl⟩ (z_ifeq hX dX12_extraPart_61 (by decide) (tX12_extraPart_95 hX hr hq) (z_ald_n hX dX12_extraPart_64 rfl (z_bipush hX dX12_extraPart_65 (by decide) (z_cv (c := 12) hX hr dX12_extraPart_67 hjX12_must mwX12_must rfl wm58_12 ⟨wm58_13, wm58_14⟩ ⟨Nat.le_of_ble_eq_true rfl, Nat.le_of_ble_eq_true rfl⟩ ((tX12_extraPart_70 hX hr hq)))))))))))))))))))))))))
def kX12_extraPart_0 (r : pu_R) : pu_K := s_ald 0 (s_push (.int (0)) (s_pi 12 18 (s_ald 0 (s_push (.int (0)) (s_pi 12 19 (s_ald 0 (s_ald 0 (s_gi 12 20 (s_cv r 241 1 12 (s_push (.int (32)) (s_iceq (kX12_extraPart_25 r) (s_push (.int (1)) (s_zret)))))))))))))
theorem vX12_extraPart_0 : pu_cok2 kX12_extraPart_0 := fun rf r hr => by
  unfold kX12_extraPart_0
  exact v_ald (v_pi (v_puti (v_ald (v_pi (v_puti (v_ald (v_ald (v_gi (v_cv hr (v_pi (v_iceq (vX12_extraPart_25 rf r hr) (v_pi (v_zret)))))))))))))
theorem tX12_extraPart_0 {X : pu_X} {r : pu_R} (hX : pu_H X mdX12_extraPart) (hr : pu_P X.2.1 X.2.2.2.2.2.2.2.2.2.2.1 r) (hq : ∀ i pc, pu_lp i = some (312, pc) → pu_S X mdX12_extraPart pc (r i)) : pu_S X mdX12_extraPart 0 (kX12_extraPart_0 r) := by
  unfold kX12_extraPart_0
  exact z_ald_n hX dX12_extraPart_0 rfl (z_iconst hX dX12_extraPart_1 (by decide) (z_pi (c := 12) (j := 18) tyX12 tyX12_ok nmX12 hX dX12_extraPart_2 rfl inlX12 wm8_13 ⟨rfl, by decide⟩ ⟨rfl, rfl⟩ rfl (z_ald_n hX dX12_extraPart_5 rfl (z_iconst hX dX12_extraPart_6 (by decide) (z_pi (c := 12) (j := 19) tyX12 tyX12_ok nmX12 hX dX12_extraPart_7 rfl inlX12 wm8_14 ⟨rfl, by decide⟩ ⟨rfl, rfl⟩ rfl (z_ald_n hX dX12_extraPart_10 rfl (z_ald_n hX dX12_extraPart_11 rfl (z_gi (c := 12) (j := 20) hX dX12_extraPart_12 rfl inlX12 wm8_15 ⟨rfl, by decide, rfl⟩ (z_cv (c := 12) hX hr dX12_extraPart_15 hjX12_here mwX12_here rfl wm15_8 ⟨wm15_9, wm15_10⟩ ⟨Nat.le_of_ble_eq_true rfl, Nat.le_of_ble_eq_true rfl⟩ (z_bipush hX dX12_extraPart_18 (by decide) (z_iceq hX dX12_extraPart_20 (by decide) (tX12_extraPart_25 hX hr hq) (z_iconst hX dX12_extraPart_23 (by decide) (z_zret hX dX12_extraPart_24 rfl)))))))))))))
def kX12_townPart_56 (r : pu_R) : pu_K := s_ald 0 (s_dup (s_gi 12 20 (s_push (.int (1)) (s_iadd (s_pi 12 20 (s_inc 1 (1) ((r 493))))))))
theorem vX12_townPart_56 : pu_cok2 kX12_townPart_56 := fun rf r hr => by
  unfold kX12_townPart_56
  exact v_ald (v_dup (v_gi (v_pi (v_iadd (v_puti (v_inc ((hr 493))))))))
theorem tX12_townPart_56 {X : pu_X} {r : pu_R} (hX : pu_H X mdX12_townPart) (hr : pu_P X.2.1 X.2.2.2.2.2.2.2.2.2.2.1 r) (hq : ∀ i pc, pu_lp i = some (313, pc) → pu_S X mdX12_townPart pc (r i)) : pu_S X mdX12_townPart 56 (kX12_townPart_56 r) := by
  unfold kX12_townPart_56
  exact z_ald_n hX dX12_townPart_56 rfl (z_dup hX dX12_townPart_57 (z_gi (c := 12) (j := 20) hX dX12_townPart_58 rfl inlX12 wm8_15 ⟨rfl, by decide, rfl⟩ (z_iconst hX dX12_townPart_61 (by decide) (z_iadd hX dX12_townPart_62 (z_pi (c := 12) (j := 20) tyX12 tyX12_ok nmX12 hX dX12_townPart_63 rfl inlX12 wm8_15 ⟨rfl, by decide⟩ ⟨rfl, rfl⟩ rfl (z_inc hX dX12_townPart_66 (by decide) ((z_goto hX dX12_townPart_69 (by decide) (hq 493 2 hl493)))))))))
def kX12_townPart_47 (r : pu_R) : pu_K := s_ald 0 (s_ald 0 (s_gi 12 20 (s_cv r 304 1 12 (s_zret))))
theorem vX12_townPart_47 : pu_cok2 kX12_townPart_47 := fun rf r hr => by
  unfold kX12_townPart_47
  exact v_ald (v_ald (v_gi (v_cv hr (v_zret))))
theorem tX12_townPart_47 {X : pu_X} {r : pu_R} (hX : pu_H X mdX12_townPart) (hr : pu_P X.2.1 X.2.2.2.2.2.2.2.2.2.2.1 r) (hq : ∀ i pc, pu_lp i = some (313, pc) → pu_S X mdX12_townPart pc (r i)) : pu_S X mdX12_townPart 47 (kX12_townPart_47 r) := by
  unfold kX12_townPart_47
  exact z_ald_n hX dX12_townPart_47 rfl (z_ald_n hX dX12_townPart_48 rfl (z_gi (c := 12) (j := 20) hX dX12_townPart_49 rfl inlX12 wm8_15 ⟨rfl, by decide, rfl⟩ (z_cv (c := 12) hX hr dX12_townPart_52 hjX12_faulty mwX12_faulty rfl wm58_8 ⟨wm58_9, wm58_10⟩ ⟨Nat.le_of_ble_eq_true rfl, Nat.le_of_ble_eq_true rfl⟩ (z_zret hX dX12_townPart_55 rfl))))
def kX12_townPart_29 (r : pu_R) : pu_K := s_ald 0 (s_ald 0 (s_gi 12 20 (s_cv r 241 1 12 (s_push (.int (32)) (s_icne (kX12_townPart_47 r) (s_ild 1 (s_push (.int (2)) (s_icne (kX12_townPart_56 r) ((kX12_townPart_47 r))))))))))
theorem vX12_townPart_29 : pu_cok2 kX12_townPart_29 := fun rf r hr => by
  unfold kX12_townPart_29
  exact v_ald (v_ald (v_gi (v_cv hr (v_pi (v_icne (vX12_townPart_47 rf r hr) (v_ild (v_pi (v_icne (vX12_townPart_56 rf r hr) ((vX12_townPart_47 rf r hr))))))))))
theorem tX12_townPart_29 {X : pu_X} {r : pu_R} (hX : pu_H X mdX12_townPart) (hr : pu_P X.2.1 X.2.2.2.2.2.2.2.2.2.2.1 r) (hq : ∀ i pc, pu_lp i = some (313, pc) → pu_S X mdX12_townPart pc (r i)) : pu_S X mdX12_townPart 29 (kX12_townPart_29 r) := by
  unfold kX12_townPart_29
  exact z_ald_n hX dX12_townPart_29 rfl (z_ald_n hX dX12_townPart_30 rfl (z_gi (c := 12) (j := 20) hX dX12_townPart_31 rfl inlX12 wm8_15 ⟨rfl, by decide, rfl⟩ (z_cv (c := 12) hX hr dX12_townPart_34 hjX12_here mwX12_here rfl wm15_8 ⟨wm15_9, wm15_10⟩ ⟨Nat.le_of_ble_eq_true rfl, Nat.le_of_ble_eq_true rfl⟩ (z_bipush hX dX12_townPart_37 (by decide) (z_icne hX dX12_townPart_39 (by decide) (tX12_townPart_47 hX hr hq) (z_ild_n hX dX12_townPart_42 rfl (z_iconst hX dX12_townPart_43 (by decide) (z_icne hX dX12_townPart_44 (by decide) (tX12_townPart_56 hX hr hq) ((tX12_townPart_47 hX hr hq))))))))))
def kX12_townPart_16 (r : pu_R) : pu_K := s_ald 0 (s_gi 12 20 (s_ald 0 (s_gi 12 6 (s_icne (kX12_townPart_29 r) (s_push (.int (1)) (s_zret))))))
theorem vX12_townPart_16 : pu_cok2 kX12_townPart_16 := fun rf r hr => by
  unfold kX12_townPart_16
  exact v_ald (v_gi (v_ald (v_gi (v_icne (vX12_townPart_29 rf r hr) (v_pi (v_zret))))))
theorem tX12_townPart_16 {X : pu_X} {r : pu_R} (hX : pu_H X mdX12_townPart) (hr : pu_P X.2.1 X.2.2.2.2.2.2.2.2.2.2.1 r) (hq : ∀ i pc, pu_lp i = some (313, pc) → pu_S X mdX12_townPart pc (r i)) : pu_S X mdX12_townPart 16 (kX12_townPart_16 r) := by
  unfold kX12_townPart_16
  exact z_ald_n hX dX12_townPart_16 rfl (z_gi (c := 12) (j := 20) hX dX12_townPart_17 rfl inlX12 wm8_15 ⟨rfl, by decide, rfl⟩ (z_ald_n hX dX12_townPart_20 rfl (z_gi (c := 12) (j := 6) hX dX12_townPart_21 rfl inlX12 wm8_1 ⟨rfl, by decide, rfl⟩ (z_icne hX dX12_townPart_24 (by decide) (tX12_townPart_29 hX hr hq) (z_iconst hX dX12_townPart_27 (by decide) (z_zret hX dX12_townPart_28 rfl))))))
def kX12_townPart_2 (r : pu_R) : pu_K := s_ald 0 (s_ald 0 (s_gr 12 16 (s_ild 1 (s_cv r 305 2 12 (s_ifne (kX12_townPart_16 r) (s_push (.int (0)) (s_zret)))))))
theorem vX12_townPart_2 : pu_cok2 kX12_townPart_2 := fun rf r hr => by
  unfold kX12_townPart_2
  exact v_ald (v_ald (v_gr (v_ild (v_cv hr (v_ifne (vX12_townPart_16 rf r hr) (v_pi (v_zret)))))))
theorem tX12_townPart_2 {X : pu_X} {r : pu_R} (hX : pu_H X mdX12_townPart) (hr : pu_P X.2.1 X.2.2.2.2.2.2.2.2.2.2.1 r) (hq : ∀ i pc, pu_lp i = some (313, pc) → pu_S X mdX12_townPart pc (r i)) : pu_S X mdX12_townPart 2 (kX12_townPart_2 r) := by
  unfold kX12_townPart_2
  exact z_ald_n hX dX12_townPart_2 rfl (z_ald_n hX dX12_townPart_3 rfl (z_gr (c := 12) (j := 16) hX dX12_townPart_4 rfl inlX12 wm8_11 ⟨rfl, by decide, rfl⟩ (z_ild_n hX dX12_townPart_7 rfl (z_cv (c := 12) hX hr dX12_townPart_8 hjX12_word mwX12_word rfl wm58_4 ⟨wm58_5, wm58_6⟩ ⟨Nat.le_of_ble_eq_true rfl, Nat.le_of_ble_eq_true rfl⟩ (z_ifne hX dX12_townPart_11 (by decide) (tX12_townPart_16 hX hr hq) (z_iconst hX dX12_townPart_14 (by decide) (z_zret hX dX12_townPart_15 rfl)))))))
def kX12_townPart_0 (r : pu_R) : pu_K := s_push (.int (0)) (s_ist 1 ((r 493)))
theorem vX12_townPart_0 : pu_cok2 kX12_townPart_0 := fun rf r hr => by
  unfold kX12_townPart_0
  exact v_pi (v_ist ((hr 493)))
theorem tX12_townPart_0 {X : pu_X} {r : pu_R} (hX : pu_H X mdX12_townPart) (hr : pu_P X.2.1 X.2.2.2.2.2.2.2.2.2.2.1 r) (hq : ∀ i pc, pu_lp i = some (313, pc) → pu_S X mdX12_townPart pc (r i)) : pu_S X mdX12_townPart 0 (kX12_townPart_0 r) := by
  unfold kX12_townPart_0
  exact z_iconst hX dX12_townPart_0 (by decide) (z_ist_n hX dX12_townPart_1 rfl ((hq 493 2 hl493)))
