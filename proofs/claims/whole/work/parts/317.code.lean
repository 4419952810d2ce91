def kX12_count_176 (r : pu_R) : pu_K := s_push (.int (-1)) (s_iret)
theorem vX12_count_176 : pu_cok2 kX12_count_176 := fun rf r hr => by
  unfold kX12_count_176
  exact v_pi (v_iret)
theorem tX12_count_176 {X : pu_X} {r : pu_R} (hX : pu_H X mdX12_count) (hr : pu_P X.2.1 X.2.2.2.2.2.2.2.2.2.2.1 r) (hq : ∀ i pc, pu_lp i = some (356, pc) → pu_S X mdX12_count pc (r i)) : pu_S X mdX12_count 176 (kX12_count_176 r) := by
  unfold kX12_count_176
  exact z_iconst hX dX12_count_176 (by decide) (z_iret hX dX12_count_177 rfl)
def kX12_count_171 (r : pu_R) : pu_K := s_ald 0 (s_gi 12 4 (s_iret))
theorem vX12_count_171 : pu_cok2 kX12_count_171 := fun rf r hr => by
  unfold kX12_count_171
  exact v_ald (v_gi (v_iret))
theorem tX12_count_171 {X : pu_X} {r : pu_R} (hX : pu_H X mdX12_count) (hr : pu_P X.2.1 X.2.2.2.2.2.2.2.2.2.2.1 r) (hq : ∀ i pc, pu_lp i = some (356, pc) → pu_S X mdX12_count pc (r i)) : pu_S X mdX12_count 171 (kX12_count_171 r) := by
  unfold kX12_count_171
  exact z_ald_n hX dX12_count_171 rfl (z_gi (c := 12) (j := 4) hX dX12_count_172 rfl inlX12 wm7_23 ⟨rfl, by decide, rfl⟩ (z_iret hX dX12_count_175 rfl))
def kX12_count_163 (r : pu_R) : pu_K := s_ald 0 (s_gr 12 0 (s_push (.int (11)) (s_ai 1 (s_iret))))
theorem vX12_count_163 : pu_cok2 kX12_count_163 := fun rf r hr => by
  unfold kX12_count_163
  exact v_ald (v_gr (v_pi (v_ai (v_iret))))
theorem tX12_count_163 {X : pu_X} {r : pu_R} (hX : pu_H X mdX12_count) (hr : pu_P X.2.1 X.2.2.2.2.2.2.2.2.2.2.1 r) (hq : ∀ i pc, pu_lp i = some (356, pc) → pu_S X mdX12_count pc (r i)) : pu_S X mdX12_count 163 (kX12_count_163 r) := by
  unfold kX12_count_163
  exact z_ald_n hX dX12_count_163 rfl (z_gr (c := 12) (j := 0) hX dX12_count_164 rfl inlX12 wm7_16 ⟨rfl, by decide, rfl⟩ (z_bipush hX dX12_count_167 (by decide) (z_iald hX dX12_count_169 (z_iret hX dX12_count_170 rfl))))
def kX12_count_155 (r : pu_R) : pu_K := s_ald 0 (s_gr 12 0 (s_push (.int (10)) (s_ai 1 (s_iret))))
theorem vX12_count_155 : pu_cok2 kX12_count_155 := fun rf r hr => by
  unfold kX12_count_155
  exact v_ald (v_gr (v_pi (v_ai (v_iret))))
theorem tX12_count_155 {X : pu_X} {r : pu_R} (hX : pu_H X mdX12_count) (hr : pu_P X.2.1 X.2.2.2.2.2.2.2.2.2.2.1 r) (hq : ∀ i pc, pu_lp i = some (356, pc) → pu_S X mdX12_count pc (r i)) : pu_S X mdX12_count 155 (kX12_count_155 r) := by
  unfold kX12_count_155
  exact z_ald_n hX dX12_count_155 rfl (z_gr (c := 12) (j := 0) hX dX12_count_156 rfl inlX12 wm7_16 ⟨rfl, by decide, rfl⟩ (z_bipush hX dX12_count_159 (by decide) (z_iald hX dX12_count_161 (z_iret hX dX12_count_162 rfl))))
def kX12_count_147 (r : pu_R) : pu_K := s_ald 0 (s_gr 12 0 (s_push (.int (9)) (s_ai 1 (s_iret))))
theorem vX12_count_147 : pu_cok2 kX12_count_147 := fun rf r hr => by
  unfold kX12_count_147
  exact v_ald (v_gr (v_pi (v_ai (v_iret))))
theorem tX12_count_147 {X : pu_X} {r : pu_R} (hX : pu_H X mdX12_count) (hr : pu_P X.2.1 X.2.2.2.2.2.2.2.2.2.2.1 r) (hq : ∀ i pc, pu_lp i = some (356, pc) → pu_S X mdX12_count pc (r i)) : pu_S X mdX12_count 147 (kX12_count_147 r) := by
  unfold kX12_count_147
  exact z_ald_n hX dX12_count_147 rfl (z_gr (c := 12) (j := 0) hX dX12_count_148 rfl inlX12 wm7_16 ⟨rfl, by decide, rfl⟩ (z_bipush hX dX12_count_151 (by decide) (z_iald hX dX12_count_153 (z_iret hX dX12_count_154 rfl))))
def kX12_count_139 (r : pu_R) : pu_K := s_ald 0 (s_gr 12 0 (s_push (.int (8)) (s_ai 1 (s_iret))))
theorem vX12_count_139 : pu_cok2 kX12_count_139 := fun rf r hr => by
  unfold kX12_count_139
  exact v_ald (v_gr (v_pi (v_ai (v_iret))))
theorem tX12_count_139 {X : pu_X} {r : pu_R} (hX : pu_H X mdX12_count) (hr : pu_P X.2.1 X.2.2.2.2.2.2.2.2.2.2.1 r) (hq : ∀ i pc, pu_lp i = some (356, pc) → pu_S X mdX12_count pc (r i)) : pu_S X mdX12_count 139 (kX12_count_139 r) := by
  unfold kX12_count_139
  exact z_ald_n hX dX12_count_139 rfl (z_gr (c := 12) (j := 0) hX dX12_count_140 rfl inlX12 wm7_16 ⟨rfl, by decide, rfl⟩ (z_bipush hX dX12_count_143 (by decide) (z_iald hX dX12_count_145 (z_iret hX dX12_count_146 rfl))))
def kX12_count_132 (r : pu_R) : pu_K := s_ald 0 (s_gr 12 0 (s_push (.int (0)) (s_ai 1 (s_iret))))
theorem vX12_count_132 : pu_cok2 kX12_count_132 := fun rf r hr => by
  unfold kX12_count_132
  exact v_ald (v_gr (v_pi (v_ai (v_iret))))
theorem tX12_count_132 {X : pu_X} {r : pu_R} (hX : pu_H X mdX12_count) (hr : pu_P X.2.1 X.2.2.2.2.2.2.2.2.2.2.1 r) (hq : ∀ i pc, pu_lp i = some (356, pc) → pu_S X mdX12_count pc (r i)) : pu_S X mdX12_count 132 (kX12_count_132 r) := by
  unfold kX12_count_132
  exact z_ald_n hX dX12_count_132 rfl (z_gr (c := 12) (j := 0) hX dX12_count_133 rfl inlX12 wm7_16 ⟨rfl, by decide, rfl⟩ (z_iconst hX dX12_count_136 (by decide) (z_iald hX dX12_count_137 (z_iret hX dX12_count_138 rfl))))
def kX12_count_124 (r : pu_R) : pu_K := s_ald 0 (s_gr 12 0 (s_push (.int (6)) (s_ai 1 (s_iret))))
theorem vX12_count_124 : pu_cok2 kX12_count_124 := fun rf r hr => by
  unfold kX12_count_124
  exact v_ald (v_gr (v_pi (v_ai (v_iret))))
theorem tX12_count_124 {X : pu_X} {r : pu_R} (hX : pu_H X mdX12_count) (hr : pu_P X.2.1 X.2.2.2.2.2.2.2.2.2.2.1 r) (hq : ∀ i pc, pu_lp i = some (356, pc) → pu_S X mdX12_count pc (r i)) : pu_S X mdX12_count 124 (kX12_count_124 r) := by
  unfold kX12_count_124
  exact z_ald_n hX dX12_count_124 rfl (z_gr (c := 12) (j := 0) hX dX12_count_125 rfl inlX12 wm7_16 ⟨rfl, by decide, rfl⟩ (z_bipush hX dX12_count_128 (by decide) (z_iald hX dX12_count_130 (z_iret hX dX12_count_131 rfl))))
def kX12_count_117 (r : pu_R) : pu_K := s_ald 0 (s_gr 12 0 (s_push (.int (5)) (s_ai 1 (s_iret))))
theorem vX12_count_117 : pu_cok2 kX12_count_117 := fun rf r hr => by
  unfold kX12_count_117
  exact v_ald (v_gr (v_pi (v_ai (v_iret))))
theorem tX12_count_117 {X : pu_X} {r : pu_R} (hX : pu_H X mdX12_count) (hr : pu_P X.2.1 X.2.2.2.2.2.2.2.2.2.2.1 r) (hq : ∀ i pc, pu_lp i = some (356, pc) → pu_S X mdX12_count pc (r i)) : pu_S X mdX12_count 117 (kX12_count_117 r) := by
  unfold kX12_count_117
  exact z_ald_n hX dX12_count_117 rfl (z_gr (c := 12) (j := 0) hX dX12_count_118 rfl inlX12 wm7_16 ⟨rfl, by decide, rfl⟩ (z_iconst hX dX12_count_121 (by decide) (z_iald hX dX12_count_122 (z_iret hX dX12_count_123 rfl))))
def kX12_count_110 (r : pu_R) : pu_K := s_ald 0 (s_gr 12 0 (s_push (.int (4)) (s_ai 1 (s_iret))))
theorem vX12_count_110 : pu_cok2 kX12_count_110 := fun rf r hr => by
  unfold kX12_count_110
  exact v_ald (v_gr (v_pi (v_ai (v_iret))))
theorem tX12_count_110 {X : pu_X} {r : pu_R} (hX : pu_H X mdX12_count) (hr : pu_P X.2.1 X.2.2.2.2.2.2.2.2.2.2.1 r) (hq : ∀ i pc, pu_lp i = some (356, pc) → pu_S X mdX12_count pc (r i)) : pu_S X mdX12_count 110 (kX12_count_110 r) := by
  unfold kX12_count_110
  exact z_ald_n hX dX12_count_110 rfl (z_gr (c := 12) (j := 0) hX dX12_count_111 rfl inlX12 wm7_16 ⟨rfl, by decide, rfl⟩ (z_iconst hX dX12_count_114 (by decide) (z_iald hX dX12_count_115 (z_iret hX dX12_count_116 rfl))))
def kX12_count_103 (r : pu_R) : pu_K := s_ald 0 (s_gr 12 0 (s_push (.int (3)) (s_ai 1 (s_iret))))
theorem vX12_count_103 : pu_cok2 kX12_count_103 := fun rf r hr => by
  unfold kX12_count_103
  exact v_ald (v_gr (v_pi (v_ai (v_iret))))
theorem tX12_count_103 {X : pu_X} {r : pu_R} (hX : pu_H X mdX12_count) (hr : pu_P X.2.1 X.2.2.2.2.2.2.2.2.2.2.1 r) (hq : ∀ i pc, pu_lp i = some (356, pc) → pu_S X mdX12_count pc (r i)) : pu_S X mdX12_count 103 (kX12_count_103 r) := by
  unfold kX12_count_103
  exact z_ald_n hX dX12_count_103 rfl (z_gr (c := 12) (j := 0) hX dX12_count_104 rfl inlX12 wm7_16 ⟨rfl, by decide, rfl⟩ (z_iconst hX dX12_count_107 (by decide) (z_iald hX dX12_count_108 (z_iret hX dX12_count_109 rfl))))
def kX12_count_96 (r : pu_R) : pu_K := s_ald 0 (s_gr 12 0 (s_push (.int (2)) (s_ai 1 (s_iret))))
theorem vX12_count_96 : pu_cok2 kX12_count_96 := fun rf r hr => by
  unfold kX12_count_96
  exact v_ald (v_gr (v_pi (v_ai (v_iret))))
theorem tX12_count_96 {X : pu_X} {r : pu_R} (hX : pu_H X mdX12_count) (hr : pu_P X.2.1 X.2.2.2.2.2.2.2.2.2.2.1 r) (hq : ∀ i pc, pu_lp i = some (356, pc) → pu_S X mdX12_count pc (r i)) : pu_S X mdX12_count 96 (kX12_count_96 r) := by
  unfold kX12_count_96
  exact z_ald_n hX dX12_count_96 rfl (z_gr (c := 12) (j := 0) hX dX12_count_97 rfl inlX12 wm7_16 ⟨rfl, by decide, rfl⟩ (z_iconst hX dX12_count_100 (by decide) (z_iald hX dX12_count_101 (z_iret hX dX12_count_102 rfl))))
def kX12_count_35 (r : pu_R) : pu_K := s_ild 1 (s_sw (0) [(kX12_count_96 r), (kX12_count_103 r), (kX12_count_110 r), (kX12_count_117 r), (kX12_count_124 r), (kX12_count_132 r), (kX12_count_139 r), (kX12_count_147 r), (kX12_count_155 r), (kX12_count_163 r), (kX12_count_171 r)] (kX12_count_176 r))
theorem vX12_count_35 : pu_cok2 kX12_count_35 := fun rf r hr => by
  unfold kX12_count_35
  exact v_ild (v_sw (kfs := fun f => [(kX12_count_96 (rf f)), (kX12_count_103 (rf f)), (kX12_count_110 (rf f)), (kX12_count_117 (rf f)), (kX12_count_124 (rf f)), (kX12_count_132 (rf f)), (kX12_count_139 (rf f)), (kX12_count_147 (rf f)), (kX12_count_155 (rf f)), (kX12_count_163 (rf f)), (kX12_count_171 (rf f))]) (fun i k hk => match i, hk with
    | 0, hk => by cases hk; exact ⟨_, fun _ => rfl, (vX12_count_96 rf r hr)⟩
    | 1, hk => by cases hk; exact ⟨_, fun _ => rfl, (vX12_count_103 rf r hr)⟩
    | 2, hk => by cases hk; exact ⟨_, fun _ => rfl, (vX12_count_110 rf r hr)⟩
    | 3, hk => by cases hk; exact ⟨_, fun _ => rfl, (vX12_count_117 rf r hr)⟩
    | 4, hk => by cases hk; exact ⟨_, fun _ => rfl, (vX12_count_124 rf r hr)⟩
    | 5, hk => by cases hk; exact ⟨_, fun _ => rfl, (vX12_count_132 rf r hr)⟩
    | 6, hk => by cases hk; exact ⟨_, fun _ => rfl, (vX12_count_139 rf r hr)⟩
    | 7, hk => by cases hk; exact ⟨_, fun _ => rfl, (vX12_count_147 rf r hr)⟩
    | 8, hk => by cases hk; exact ⟨_, fun _ => rfl, (vX12_count_155 rf r hr)⟩
    | 9, hk => by cases hk; exact ⟨_, fun _ => rfl, (vX12_count_163 rf r hr)⟩
    | 10, hk => by cases hk; exact ⟨_, fun _ => rfl, (vX12_count_171 rf r hr)⟩
    | q + 11, hk => by cases hk) (fun _ => rfl) (vX12_count_176 rf r hr))
theorem tX12_count_35 {X : pu_X} {r : pu_R} (hX : pu_H X mdX12_count) (hr : pu_P X.2.1 X.2.2.2.2.2.2.2.2.2.2.1 r) (hq : ∀ i pc, pu_lp i = some (356, pc) → pu_S X mdX12_count pc (r i)) : pu_S X mdX12_count 35 (kX12_count_35 r) := by
  unfold kX12_count_35
  exact z_ild_n hX dX12_count_35 rfl (z_sw hX dX12_count_36 (by rfl) (by decide) (tX12_count_176 hX hr hq) (fun i k hk => match i, hk with
    | 0, hk => by cases hk; exact ⟨60, 96, rfl, by decide, (tX12_count_96 hX hr hq)⟩
    | 1, hk => by cases hk; exact ⟨67, 103, rfl, by decide, (tX12_count_103 hX hr hq)⟩
    | 2, hk => by cases hk; exact ⟨74, 110, rfl, by decide, (tX12_count_110 hX hr hq)⟩
    | 3, hk => by cases hk; exact ⟨81, 117, rfl, by decide, (tX12_count_117 hX hr hq)⟩
    | 4, hk => by cases hk; exact ⟨88, 124, rfl, by decide, (tX12_count_124 hX hr hq)⟩
    | 5, hk => by cases hk; exact ⟨96, 132, rfl, by decide, (tX12_count_132 hX hr hq)⟩
    | 6, hk => by cases hk; exact ⟨103, 139, rfl, by decide, (tX12_count_139 hX hr hq)⟩
    | 7, hk => by cases hk; exact ⟨111, 147, rfl, by decide, (tX12_count_147 hX hr hq)⟩
    | 8, hk => by cases hk; exact ⟨119, 155, rfl, by decide, (tX12_count_155 hX hr hq)⟩
    | 9, hk => by cases hk; exact ⟨127, 163, rfl, by decide, (tX12_count_163 hX hr hq)⟩
    | 10, hk => by cases hk; exact ⟨135, 171, rfl, by decide, (tX12_count_171 hX hr hq)⟩
    | q + 11, hk => by cases hk))
def kX12_count_34 (r : pu_R) : pu_K := s_iret
theorem vX12_count_34 : pu_cok2 kX12_count_34 := fun rf r hr => by
  unfold kX12_count_34
  exact v_iret
theorem tX12_count_34 {X : pu_X} {r : pu_R} (hX : pu_H X mdX12_count) (hr : pu_P X.2.1 X.2.2.2.2.2.2.2.2.2.2.1 r) (hq : ∀ i pc, pu_lp i = some (356, pc) → pu_S X mdX12_count pc (r i)) : pu_S X mdX12_count 34 (kX12_count_34 r) := by
  unfold kX12_count_34
  exact z_iret hX dX12_count_34 rfl
def kX12_count_33 (r : pu_R) : pu_K := s_push (.int (-1)) ((kX12_count_34 r))
theorem vX12_count_33 : pu_cok2 kX12_count_33 := fun rf r hr => by
  unfold kX12_count_33
  exact v_pi ((vX12_count_34 rf r hr))
theorem tX12_count_33 {X : pu_X} {r : pu_R} (hX : pu_H X mdX12_count) (hr : pu_P X.2.1 X.2.2.2.2.2.2.2.2.2.2.1 r) (hq : ∀ i pc, pu_lp i = some (356, pc) → pu_S X mdX12_count pc (r i)) : pu_S X mdX12_count 33 (kX12_count_33 r) := by
  unfold kX12_count_33
  exact z_iconst hX dX12_count_33 (by decide) ((tX12_count_34 hX hr hq))
def kX12_count_0 (r : pu_R) : pu_K := s_ild 1 (s_push (.int (100)) (s_iclt (kX12_count_35 r) (s_ald 0 (s_ild 1 (s_push (.int (100)) (s_isub (s_cv r 251 1 12 (s_ifeq (kX12_count_33 r) (s_ald 0 (s_gr 12 0 (s_push (.int (7528)) (s_ild 1 (s_iadd (s_push (.int (100)) (s_isub (s_ai 1 ((kX12_count_34 r))))))))))))))))))
theorem vX12_count_0 : pu_cok2 kX12_count_0 := fun rf r hr => by
  unfold kX12_count_0
  exact v_ild (v_pi (v_iclt (vX12_count_35 rf r hr) (v_ald (v_ild (v_pi (v_isub (v_cv hr (v_ifeq (vX12_count_33 rf r hr) (v_ald (v_gr (v_pi (v_ild (v_iadd (v_pi (v_isub (v_ai ((vX12_count_34 rf r hr))))))))))))))))))
theorem tX12_count_0 {X : pu_X} {r : pu_R} (hX : pu_H X mdX12_count) (hr : pu_P X.2.1 X.2.2.2.2.2.2.2.2.2.2.1 r) (hq : ∀ i pc, pu_lp i = some (356, pc) → pu_S X mdX12_count pc (r i)) : pu_S X mdX12_count 0 (kX12_count_0 r) := by
  unfold kX12_count_0
  exact z_ild_n hX dX12_count_0 rfl (z_bipush hX dX12_count_1 (by decide) (z_iclt hX dX12_count_3 (by decide) (tX12_count_35 hX hr hq) (z_ald_n hX dX12_count_6 rfl (z_ild_n hX dX12_count_7 rfl (z_bipush hX dX12_count_8 (by decide) (z_isub hX dX12_count_10 (z_cv (c := 12) hX hr dX12_count_11 hjX12_isStreet mwX12_isStreet rfl wm28_6 ⟨wm28_7, wm28_8⟩ ⟨Nat.le_of_ble_eq_true rfl, Nat.le_of_ble_eq_true rfl⟩ (z_ifeq hX dX12_count_14 (by decide) (tX12_count_33 hX hr hq) (z_ald_n hX dX12_count_17 rfl (z_gr (c := 12) (j := 0) hX dX12_count_18 rfl inlX12 wm7_16 ⟨rfl, by decide, rfl⟩ (z_sipush hX dX12_count_21 (by decide) (z_ild_n hX dX12_count_24 rfl (z_iadd hX dX12_count_25 (z_bipush hX dX12_count_26 (by decide) (z_isub hX dX12_count_28 (z_iald hX dX12_count_29 ((z_goto hX dX12_count_30 (by decide) (tX12_count_34 hX hr hq)))))))))))))))))))
