theorem pu_nw_3 (M : pu_M) (b j : Nat) : (pu_nw M).2.2.1 b j = if b = M.2.2.2 then none else M.2.2.1 b j := rfl
def pu_y0 : pu_M := pu_nw pu_x8
theorem pu_y0n : pu_y0.2.2.2 = 72 := by
  show pu_x7.2.2.2 + 1 = 72
  rw [pu_x7n]
def pu_y1 : pu_M := pu_wr (pu_nw pu_y0) 71 0 (some pu_y0.2.2.2)
theorem pu_y1n : pu_y1.2.2.2 = 73 := by
  unfold pu_y1
  rw [pu_wr_n, pu_nw_n, pu_y0n]
theorem pu_y1r : pu_y1.2.2.1 71 0 = some 72 := by
  unfold pu_y1
  rw [pu_wr_3, if_pos rfl, if_pos rfl, pu_y0n]
def pu_y2 : pu_M := pu_wr (pu_nw pu_y1) 71 1 (some pu_y1.2.2.2)
theorem pu_y2n : pu_y2.2.2.2 = 74 := by
  unfold pu_y2
  rw [pu_wr_n, pu_nw_n, pu_y1n]
theorem pu_y2r : pu_y2.2.2.1 71 0 = some 72 := by
  simp [pu_y2, pu_wr_3, pu_nw_3, pu_wi_2, pu_y1n, pu_y1r]
def pu_y3 : pu_M := pu_wr (pu_nw pu_y2) 71 2 (some pu_y2.2.2.2)
theorem pu_y3n : pu_y3.2.2.2 = 75 := by
  unfold pu_y3
  rw [pu_wr_n, pu_nw_n, pu_y2n]
theorem pu_y3r : pu_y3.2.2.1 71 0 = some 72 := by
  simp [pu_y3, pu_wr_3, pu_nw_3, pu_wi_2, pu_y2n, pu_y2r]
def pu_y4 : pu_M := pu_wr (pu_nw pu_y3) 71 3 (some pu_y3.2.2.2)
theorem pu_y4n : pu_y4.2.2.2 = 76 := by
  unfold pu_y4
  rw [pu_wr_n, pu_nw_n, pu_y3n]
theorem pu_y4r : pu_y4.2.2.1 71 0 = some 72 := by
  simp [pu_y4, pu_wr_3, pu_nw_3, pu_wi_2, pu_y3n, pu_y3r]
def pu_y5 : pu_M := pu_wi pu_y4 71 4 (0)
theorem pu_y5n : pu_y5.2.2.2 = 76 := pu_y4n
theorem pu_y5r : pu_y5.2.2.1 71 0 = some 72 := by
  simp [pu_y5, pu_wr_3, pu_nw_3, pu_wi_2, pu_y4n, pu_y4r]
def pu_y6 : pu_M := pu_wr (pu_nw pu_y5) 71 5 (some pu_y5.2.2.2)
theorem pu_y6n : pu_y6.2.2.2 = 77 := by
  unfold pu_y6
  rw [pu_wr_n, pu_nw_n, pu_y5n]
theorem pu_y6r : pu_y6.2.2.1 71 0 = some 72 := by
  simp [pu_y6, pu_wr_3, pu_nw_3, pu_wi_2, pu_y5n, pu_y5r]
def pu_y7 : pu_M := pu_wi pu_y6 71 6 (0)
theorem pu_y7n : pu_y7.2.2.2 = 77 := pu_y6n
theorem pu_y7r : pu_y7.2.2.1 71 0 = some 72 := by
  simp [pu_y7, pu_wr_3, pu_nw_3, pu_wi_2, pu_y6n, pu_y6r]
def pu_y8 : pu_M := pu_wr (pu_nw pu_y7) 71 7 (some pu_y7.2.2.2)
theorem pu_y8n : pu_y8.2.2.2 = 78 := by
  unfold pu_y8
  rw [pu_wr_n, pu_nw_n, pu_y7n]
theorem pu_y8r : pu_y8.2.2.1 71 0 = some 72 := by
  simp [pu_y8, pu_wr_3, pu_nw_3, pu_wi_2, pu_y7n, pu_y7r]
def pu_y9 : pu_M := pu_wi pu_y8 71 8 (0)
theorem pu_y9n : pu_y9.2.2.2 = 78 := pu_y8n
theorem pu_y9r : pu_y9.2.2.1 71 0 = some 72 := by
  simp [pu_y9, pu_wr_3, pu_nw_3, pu_wi_2, pu_y8n, pu_y8r]
def pu_y10 : pu_M := pu_wr (pu_nw pu_y9) 71 9 (some pu_y9.2.2.2)
theorem pu_y10n : pu_y10.2.2.2 = 79 := by
  unfold pu_y10
  rw [pu_wr_n, pu_nw_n, pu_y9n]
theorem pu_y10r : pu_y10.2.2.1 71 0 = some 72 := by
  simp [pu_y10, pu_wr_3, pu_nw_3, pu_wi_2, pu_y9n, pu_y9r]
def pu_y11 : pu_M := pu_wi pu_y10 71 10 (0)
theorem pu_y11n : pu_y11.2.2.2 = 79 := pu_y10n
theorem pu_y11r : pu_y11.2.2.1 71 0 = some 72 := by
  simp [pu_y11, pu_wr_3, pu_nw_3, pu_wi_2, pu_y10n, pu_y10r]
def pu_y12 : pu_M := pu_wi pu_y11 71 11 (0)
theorem pu_y12n : pu_y12.2.2.2 = 79 := pu_y11n
theorem pu_y12r : pu_y12.2.2.1 71 0 = some 72 := by
  simp [pu_y12, pu_wr_3, pu_nw_3, pu_wi_2, pu_y11n, pu_y11r]
def pu_y13 : pu_M := pu_wr (pu_nw pu_y12) 71 12 (some pu_y12.2.2.2)
theorem pu_y13n : pu_y13.2.2.2 = 80 := by
  unfold pu_y13
  rw [pu_wr_n, pu_nw_n, pu_y12n]
theorem pu_y13r : pu_y13.2.2.1 71 0 = some 72 := by
  simp [pu_y13, pu_wr_3, pu_nw_3, pu_wi_2, pu_y12n, pu_y12r]
def pu_y14 : pu_M := pu_wi pu_y13 71 13 (0)
theorem pu_y14n : pu_y14.2.2.2 = 80 := pu_y13n
theorem pu_y14r : pu_y14.2.2.1 71 0 = some 72 := by
  simp [pu_y14, pu_wr_3, pu_nw_3, pu_wi_2, pu_y13n, pu_y13r]
def pu_y15 : pu_M := pu_wr (pu_nw pu_y14) 71 14 (some pu_y14.2.2.2)
theorem pu_y15n : pu_y15.2.2.2 = 81 := by
  unfold pu_y15
  rw [pu_wr_n, pu_nw_n, pu_y14n]
theorem pu_y15r : pu_y15.2.2.1 71 0 = some 72 := by
  simp [pu_y15, pu_wr_3, pu_nw_3, pu_wi_2, pu_y14n, pu_y14r]
def pu_y16 : pu_M := pu_wr (pu_nw pu_y15) 71 15 (some pu_y15.2.2.2)
theorem pu_y16n : pu_y16.2.2.2 = 82 := by
  unfold pu_y16
  rw [pu_wr_n, pu_nw_n, pu_y15n]
theorem pu_y16r : pu_y16.2.2.1 71 0 = some 72 := by
  simp [pu_y16, pu_wr_3, pu_nw_3, pu_wi_2, pu_y15n, pu_y15r]
def pu_y17 : pu_M := pu_wr (pu_nw pu_y16) 71 16 (some pu_y16.2.2.2)
theorem pu_y17n : pu_y17.2.2.2 = 83 := by
  unfold pu_y17
  rw [pu_wr_n, pu_nw_n, pu_y16n]
theorem pu_y17r : pu_y17.2.2.1 71 0 = some 72 := by
  simp [pu_y17, pu_wr_3, pu_nw_3, pu_wi_2, pu_y16n, pu_y16r]
def pu_y18 : pu_M := pu_wi pu_y17 71 17 (0)
theorem pu_y18n : pu_y18.2.2.2 = 83 := pu_y17n
theorem pu_y18r : pu_y18.2.2.1 71 0 = some 72 := by
  simp [pu_y18, pu_wr_3, pu_nw_3, pu_wi_2, pu_y17n, pu_y17r]
def pu_y19 : pu_M := pu_wi pu_y18 71 18 (0)
theorem pu_y19n : pu_y19.2.2.2 = 83 := pu_y18n
theorem pu_y19r : pu_y19.2.2.1 71 0 = some 72 := by
  simp [pu_y19, pu_wr_3, pu_nw_3, pu_wi_2, pu_y18n, pu_y18r]
def pu_y20 : pu_M := pu_wi pu_y19 71 19 (0)
theorem pu_y20n : pu_y20.2.2.2 = 83 := pu_y19n
theorem pu_y20r : pu_y20.2.2.1 71 0 = some 72 := by
  simp [pu_y20, pu_wr_3, pu_nw_3, pu_wi_2, pu_y19n, pu_y19r]
def pu_y21 : pu_M := pu_wi pu_y20 71 20 (0)
theorem pu_y21n : pu_y21.2.2.2 = 83 := pu_y20n
theorem pu_y21r : pu_y21.2.2.1 71 0 = some 72 := by
  simp [pu_y21, pu_wr_3, pu_nw_3, pu_wi_2, pu_y20n, pu_y20r]
def pu_y22 : pu_M := pu_wi pu_y21 71 21 (0)
theorem pu_y22n : pu_y22.2.2.2 = 83 := pu_y21n
theorem pu_y22r : pu_y22.2.2.1 71 0 = some 72 := by
  simp [pu_y22, pu_wr_3, pu_nw_3, pu_wi_2, pu_y21n, pu_y21r]
def pu_y23 : pu_M := pu_wi pu_y22 71 22 (0)
theorem pu_y23n : pu_y23.2.2.2 = 83 := pu_y22n
theorem pu_y23r : pu_y23.2.2.1 71 0 = some 72 := by
  simp [pu_y23, pu_wr_3, pu_nw_3, pu_wi_2, pu_y22n, pu_y22r]
def pu_y24 : pu_M := pu_wr (pu_nw pu_y23) 71 23 (some pu_y23.2.2.2)
theorem pu_y24n : pu_y24.2.2.2 = 84 := by
  unfold pu_y24
  rw [pu_wr_n, pu_nw_n, pu_y23n]
theorem pu_y24r : pu_y24.2.2.1 71 0 = some 72 := by
  simp [pu_y24, pu_wr_3, pu_nw_3, pu_wi_2, pu_y23n, pu_y23r]
def pu_y25 : pu_M := pu_wr (pu_nw pu_y24) 71 24 (some pu_y24.2.2.2)
theorem pu_y25n : pu_y25.2.2.2 = 85 := by
  unfold pu_y25
  rw [pu_wr_n, pu_nw_n, pu_y24n]
theorem pu_y25r : pu_y25.2.2.1 71 0 = some 72 := by
  simp [pu_y25, pu_wr_3, pu_nw_3, pu_wi_2, pu_y24n, pu_y24r]
def pu_y26 : pu_M := pu_wr (pu_nw pu_y25) 71 25 (some pu_y25.2.2.2)
theorem pu_y26n : pu_y26.2.2.2 = 86 := by
  unfold pu_y26
  rw [pu_wr_n, pu_nw_n, pu_y25n]
theorem pu_y26r : pu_y26.2.2.1 71 0 = some 72 := by
  simp [pu_y26, pu_wr_3, pu_nw_3, pu_wi_2, pu_y25n, pu_y25r]
/-- the loop of the reference's constructor -/
def pu_g48 (M : pu_M) : Nat → pu_M
  | 0 => M
  | k + 1 => pu_wi (pu_g48 M k) 72 (30632 + 601 * k) (-1)
theorem pu_g48_2 (M : pu_M) : ∀ k, (pu_g48 M k).2 = M.2
  | 0 => rfl
  | k + 1 => pu_g48_2 M k
theorem e_X12_init_l {M : pu_M} (h0 : M.2.2.1 71 0 = some 72) : ∀ m k, k + m = 48 → pu_r 429 [some (.ref 71), some (.int (nI k))] [] (pu_g48 M k) = some (none, pu_g48 M 48)
  | 0, k, h => by
    have hk : k = 48 := by omega
    subst hk
    rw [qX12_init_207]
    simp [bX12_init_207, bX12_init_234, a_ald, a_gr, a_iadd, a_icge, a_ild, a_imul, a_inc, a_push, a_vret, a_wi, sh_71, sh_72, pu_rv, pu_as, Value.category, pu_bk, pu_kl, List.replicate, pu_wi_1, pu_wi_2, nl_add, nl_ladd, nl_aa, nl_mul, nl_rmul, nl_mm, pu_qe0, pu_qe1]
    all_goals try simp (maxSteps := 400000) (disch := omega) [nl_tle, nl_fle, nl_tlt, nl_flt, nl_teq, nl_feq, nl_sub, nl_ss, nl_lt, nl_llt, nl_ltt, nl_le, nl_lle, nl_lee, nl_eq, nl_leq, nl_ee, nl_div, nl_rem, nl_cl, nl_n1, nl_n2, nl_n3, nl_n4, nl_add, nl_ladd, nl_aa, nl_mul, nl_rmul, nl_mm, pu_wi_1, pu_wi_2]
  | m + 1, k, h => by
    have ih := e_X12_init_l h0 m (k + 1) (by omega)
    have hc : ¬ 48 ≤ nI k := nI_ge (b := 48) (by omega) (by omega)
    rw [qX12_init_207]
    simp [bX12_init_207, bX12_init_234, a_ald, a_gr, a_iadd, a_icge, a_ild, a_imul, a_inc, a_push, a_vret, a_wi, sh_71, sh_72, pu_rv, pu_as, Value.category, pu_bk, pu_kl, List.replicate, pu_wi_1, pu_wi_2, nl_add, nl_ladd, nl_aa, nl_mul, nl_rmul, nl_mm, pu_qe0, pu_qe1, pu_g48_2, h0, hc, sh_72]
    all_goals try simp (maxSteps := 400000) (disch := omega) [nl_tle, nl_fle, nl_tlt, nl_flt, nl_teq, nl_feq, nl_sub, nl_ss, nl_lt, nl_llt, nl_ltt, nl_le, nl_lle, nl_lee, nl_eq, nl_leq, nl_ee, nl_div, nl_rem, nl_cl, nl_n1, nl_n2, nl_n3, nl_n4, nl_add, nl_ladd, nl_aa, nl_mul, nl_rmul, nl_mm, pu_wi_1, pu_wi_2, pu_g48_2, h0, hc, sh_72]
    exact ih
def pu_y : pu_M := pu_g48 (pu_wi (pu_wi (pu_wi pu_y26 72 1 (-1)) 72 15 (-1)) 72 16 (-1)) 48
theorem e_X12_init : pu_r 228 [some (.ref 71)] [] pu_y0 = some (none, pu_y) := by
  rw [qX12_init]
  unfold s_ent
  rw [if_pos (by simp)]
  show kX12_init_0 pu_r [some (.ref 71), none] [] pu_y0 = _
  simp only [kX12_init_186, kX12_init_137, kX12_init_93, kX12_init_47, kX12_init_0]
  rw [pu_obj1]
  rw [pu_pa1 (v := 70000) (n := 70000) sh_71 (by rw [pu_y0n]; exact sh_72) rfl (by omega)]
  show s_ald 0 _ [some (.ref 71), none] [] pu_y1 = _
  rw [pu_pa1 (v := 210000) (n := 210000) sh_71 (by rw [pu_y1n]; exact sh_73) rfl (by omega)]
  show s_ald 0 _ [some (.ref 71), none] [] pu_y2 = _
  rw [pu_pa1 (v := 3) (n := 3) sh_71 (by rw [pu_y2n]; exact sh_74) rfl (by omega)]
  show s_ald 0 _ [some (.ref 71), none] [] pu_y3 = _
  rw [pu_pa1 (v := 1200) (n := 1200) sh_71 (by rw [pu_y3n]; exact sh_75) rfl (by omega)]
  show s_ald 0 _ [some (.ref 71), none] [] pu_y4 = _
  rw [pu_pf1 sh_71]
  show s_ald 0 _ [some (.ref 71), none] [] pu_y5 = _
  rw [pu_pa1 (v := 1200) (n := 1200) sh_71 (by rw [pu_y5n]; exact sh_76) rfl (by omega)]
  show s_ald 0 _ [some (.ref 71), none] [] pu_y6 = _
  rw [pu_pf1 sh_71]
  show s_ald 0 _ [some (.ref 71), none] [] pu_y7 = _
  rw [pu_pa1 (v := 1300) (n := 1300) sh_71 (by rw [pu_y7n]; exact sh_77) rfl (by omega)]
  show s_ald 0 _ [some (.ref 71), none] [] pu_y8 = _
  rw [pu_pf1 sh_71]
  show s_ald 0 _ [some (.ref 71), none] [] pu_y9 = _
  rw [pu_pa1 (v := 36) (n := 36) sh_71 (by rw [pu_y9n]; exact sh_78) rfl (by omega)]
  show s_ald 0 _ [some (.ref 71), none] [] pu_y10 = _
  rw [pu_pf1 sh_71]
  show s_ald 0 _ [some (.ref 71), none] [] pu_y11 = _
  rw [pu_pf1 sh_71]
  show s_ald 0 _ [some (.ref 71), none] [] pu_y12 = _
  rw [pu_pa1 (v := 200) (n := 200) sh_71 (by rw [pu_y12n]; exact sh_79) rfl (by omega)]
  show s_ald 0 _ [some (.ref 71), none] [] pu_y13 = _
  rw [pu_pf1 sh_71]
  show s_ald 0 _ [some (.ref 71), none] [] pu_y14 = _
  rw [pu_pa1 (v := 200) (n := 200) sh_71 (by rw [pu_y14n]; exact sh_80) rfl (by omega)]
  show s_ald 0 _ [some (.ref 71), none] [] pu_y15 = _
  rw [pu_pa1 (v := 2) (n := 2) sh_71 (by rw [pu_y15n]; exact sh_81) rfl (by omega)]
  show s_ald 0 _ [some (.ref 71), none] [] pu_y16 = _
  rw [pu_pa1 (v := 36) (n := 36) sh_71 (by rw [pu_y16n]; exact sh_82) rfl (by omega)]
  show s_ald 0 _ [some (.ref 71), none] [] pu_y17 = _
  rw [pu_pf1 sh_71]
  show s_ald 0 _ [some (.ref 71), none] [] pu_y18 = _
  rw [pu_pf1 sh_71]
  show s_ald 0 _ [some (.ref 71), none] [] pu_y19 = _
  rw [pu_pf1 sh_71]
  show s_ald 0 _ [some (.ref 71), none] [] pu_y20 = _
  rw [pu_pf1 sh_71]
  show s_ald 0 _ [some (.ref 71), none] [] pu_y21 = _
  rw [pu_pf2 sh_71]
  show s_ald 0 _ [some (.ref 71), none] [] pu_y22 = _
  rw [pu_pf1 sh_71]
  show s_ald 0 _ [some (.ref 71), none] [] pu_y23 = _
  rw [pu_pa1 (v := 200) (n := 200) sh_71 (by rw [pu_y23n]; exact sh_83) rfl (by omega)]
  show s_ald 0 _ [some (.ref 71), none] [] pu_y24 = _
  rw [pu_pa1 (v := 200) (n := 200) sh_71 (by rw [pu_y24n]; exact sh_84) rfl (by omega)]
  show s_ald 0 _ [some (.ref 71), none] [] pu_y25 = _
  rw [pu_pa1 (v := 200) (n := 200) sh_71 (by rw [pu_y25n]; exact sh_85) rfl (by omega)]
  show s_ald 0 _ [some (.ref 71), none] [] pu_y26 = _
  have r0 := pu_y26r
  have c1 : (1 : Int32).toNatClampNeg = 1 := by decide
  have c15 : (15 : Int32).toNatClampNeg = 15 := by decide
  have c16 : (16 : Int32).toNatClampNeg = 16 := by decide
  have g := e_X12_init_l (M := pu_wi (pu_wi (pu_wi pu_y26 72 1 (-1)) 72 15 (-1)) 72 16 (-1)) r0 48 0 rfl
  simp only [s_ald, s_gr, s_push, s_wi, s_ist]
  simp [sh_71, sh_72, r0, pu_rv, pu_wi_2, c1, c15, c16, pu_kl, Value.category]
  exact g
