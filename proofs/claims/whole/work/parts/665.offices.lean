/-! copies of the other parts: what they change -/
theorem pz_coX4 {M : pu_M} {u v n : Nat} (bn : n ≤ 3000) (hn : M.1 v 0 = nI n) (hd : u + 4 < v ∨ v + 4 < u) (su : pu_sh u = (0, 4)) (sv : pu_sh v = (0, 4)) (su1 : pu_sh (u + 1) = (1, 3000)) (sv1 : pu_sh (v + 1) = (1, 3000)) (ru1 : M.2.2.1 u 1 = some (u + 1)) (rv1 : M.2.2.1 v 1 = some (v + 1)) (su2 : pu_sh (u + 2) = (1, 3000)) (sv2 : pu_sh (v + 2) = (1, 3000)) (ru2 : M.2.2.1 u 2 = some (u + 2)) (rv2 : M.2.2.1 v 2 = some (v + 2)) (su3 : pu_sh (u + 3) = (1, 3000)) (sv3 : pu_sh (v + 3) = (1, 3000)) (ru3 : M.2.2.1 u 3 = some (u + 3)) (rv3 : M.2.2.1 v 3 = some (v + 3)) (su4 : pu_sh (u + 4) = (1, 3000)) (sv4 : pu_sh (v + 4) = (1, 3000)) (ru4 : M.2.2.1 u 4 = some (u + 4)) (rv4 : M.2.2.1 v 4 = some (v + 4)) : ∃ N, pz_fo M N u 4 ∧ (∀ j, j < 1 → N.1 u j = M.1 v j) ∧ (∀ j, j < n → N.1 (u + 1) j = M.1 (v + 1) j) ∧ (∀ j, j < n → N.1 (u + 2) j = M.1 (v + 2) j) ∧ (∀ j, j < n → N.1 (u + 3) j = M.1 (v + 3) j) ∧ (∀ j, j < n → N.1 (u + 4) j = M.1 (v + 4) j) ∧ pu_r 135 [some (.ref u), some (.ref v)] [] M = some (none, N) := by
  refine ⟨_, ?_, ?_, ?_, ?_, ?_, ?_, pz_cpX4 bn hn hd su sv su1 sv1 ru1 rv1 su2 sv2 ru2 rv2 su3 sv3 ru3 rv3 su4 sv4 ru4 rv4⟩
  · exact pz_fo_ci (pz_fo_ci (pz_fo_ci (pz_fo_ci (pz_fo_wi (pz_fo_r _ _ _) (by omega) (by omega)) (by omega) (by omega)) (by omega) (by omega)) (by omega) (by omega)) (by omega) (by omega)
  · intro j hj
    simp only [pu_ci_1, pu_cl_1, pu_wi_1]
    match j, hj with
    | 0, _ => simp (disch := omega) [nl_feq, hn]
    | j + 1, hj => omega
  · intro j hj
    simp only [pu_ci_1, pu_cl_1, pu_wi_1]
    simp (disch := omega) [nl_feq, hj]
  · intro j hj
    simp only [pu_ci_1, pu_cl_1, pu_wi_1]
    simp (disch := omega) [nl_feq, hj]
  · intro j hj
    simp only [pu_ci_1, pu_cl_1, pu_wi_1]
    simp (disch := omega) [nl_feq, hj]
  · intro j hj
    simp only [pu_ci_1, pu_cl_1, pu_wi_1]
    simp (disch := omega) [nl_feq, hj]
theorem pz_coX3 {M : pu_M} {u v n : Nat} (bn : n ≤ 400) (hn : M.1 v 0 = nI n) (hd : u + 5 < v ∨ v + 5 < u) (su : pu_sh u = (0, 3)) (sv : pu_sh v = (0, 3)) (su1 : pu_sh (u + 1) = (1, 416)) (sv1 : pu_sh (v + 1) = (1, 416)) (ru1 : M.2.2.1 u 1 = some (u + 1)) (rv1 : M.2.2.1 v 1 = some (v + 1)) (su2 : pu_sh (u + 2) = (1, 416)) (sv2 : pu_sh (v + 2) = (1, 416)) (ru2 : M.2.2.1 u 2 = some (u + 2)) (rv2 : M.2.2.1 v 2 = some (v + 2)) (su3 : pu_sh (u + 3) = (1, 416)) (sv3 : pu_sh (v + 3) = (1, 416)) (ru3 : M.2.2.1 u 3 = some (u + 3)) (rv3 : M.2.2.1 v 3 = some (v + 3)) (su4 : pu_sh (u + 4) = (1, 416)) (sv4 : pu_sh (v + 4) = (1, 416)) (ru4 : M.2.2.1 u 4 = some (u + 4)) (rv4 : M.2.2.1 v 4 = some (v + 4)) (su5 : pu_sh (u + 5) = (3, 1248)) (sv5 : pu_sh (v + 5) = (3, 1248)) (ru5 : M.2.2.1 u 5 = some (u + 5)) (rv5 : M.2.2.1 v 5 = some (v + 5)) : ∃ N, pz_fo M N u 5 ∧ (∀ j, j < 1 → N.1 u j = M.1 v j) ∧ (∀ j, j < n → N.1 (u + 1) j = M.1 (v + 1) j) ∧ (∀ j, j < n → N.1 (u + 2) j = M.1 (v + 2) j) ∧ (∀ j, j < n → N.1 (u + 3) j = M.1 (v + 3) j) ∧ (∀ j, j < n → N.1 (u + 4) j = M.1 (v + 4) j) ∧ (∀ j, j < 3 * n → N.2.1 (u + 5) j = M.2.1 (v + 5) j) ∧ pu_r 136 [some (.ref u), some (.ref v)] [] M = some (none, N) := by
  refine ⟨_, ?_, ?_, ?_, ?_, ?_, ?_, ?_, pz_cpX3 bn hn hd su sv su1 sv1 ru1 rv1 su2 sv2 ru2 rv2 su3 sv3 ru3 rv3 su4 sv4 ru4 rv4 su5 sv5 ru5 rv5⟩
  · exact pz_fo_cl (pz_fo_ci (pz_fo_ci (pz_fo_ci (pz_fo_ci (pz_fo_wi (pz_fo_r _ _ _) (by omega) (by omega)) (by omega) (by omega)) (by omega) (by omega)) (by omega) (by omega)) (by omega) (by omega)) (by omega) (by omega)
  · intro j hj
    simp only [pu_ci_1, pu_cl_1, pu_wi_1]
    match j, hj with
    | 0, _ => simp (disch := omega) [nl_feq, hn]
    | j + 1, hj => omega
  · intro j hj
    simp only [pu_ci_1, pu_cl_1, pu_wi_1]
    simp (disch := omega) [nl_feq, hj]
  · intro j hj
    simp only [pu_ci_1, pu_cl_1, pu_wi_1]
    simp (disch := omega) [nl_feq, hj]
  · intro j hj
    simp only [pu_ci_1, pu_cl_1, pu_wi_1]
    simp (disch := omega) [nl_feq, hj]
  · intro j hj
    simp only [pu_ci_1, pu_cl_1, pu_wi_1]
    simp (disch := omega) [nl_feq, hj]
  · intro j hj
    simp (disch := omega) [pu_ci_2, pu_cl_3, pu_wi_2, nl_feq, hj]
theorem pz_coX10 {M : pu_M} {u v t n : Nat} (bt : t ≤ 8) (ht : M.1 v 0 = nI t) (bn : n ≤ 24) (hn : M.1 v 1 = nI n) (hd : u + 5 < v ∨ v + 5 < u) (su : pu_sh u = (0, 10)) (sv : pu_sh v = (0, 10)) (su1 : pu_sh (u + 1) = (3, 24)) (sv1 : pu_sh (v + 1) = (3, 24)) (ru1 : M.2.2.1 u 2 = some (u + 1)) (rv1 : M.2.2.1 v 2 = some (v + 1)) (su2 : pu_sh (u + 2) = (1, 24)) (sv2 : pu_sh (v + 2) = (1, 24)) (ru2 : M.2.2.1 u 3 = some (u + 2)) (rv2 : M.2.2.1 v 3 = some (v + 2)) (su3 : pu_sh (u + 3) = (1, 24)) (sv3 : pu_sh (v + 3) = (1, 24)) (ru3 : M.2.2.1 u 4 = some (u + 3)) (rv3 : M.2.2.1 v 4 = some (v + 3)) (su4 : pu_sh (u + 4) = (1, 48)) (sv4 : pu_sh (v + 4) = (1, 48)) (ru4 : M.2.2.1 u 5 = some (u + 4)) (rv4 : M.2.2.1 v 5 = some (v + 4)) (su5 : pu_sh (u + 5) = (1, 4800)) (sv5 : pu_sh (v + 5) = (1, 4800)) (ru5 : M.2.2.1 u 6 = some (u + 5)) (rv5 : M.2.2.1 v 6 = some (v + 5)) : ∃ N, pz_fo M N u 5 ∧ (∀ j, j < 2 → N.1 u j = M.1 v j) ∧ (∀ j, j < 3 * t → N.2.1 (u + 1) j = M.2.1 (v + 1) j) ∧ (∀ j, j < n → N.1 (u + 2) j = M.1 (v + 2) j) ∧ (∀ j, j < n → N.1 (u + 3) j = M.1 (v + 3) j) ∧ (∀ j, j < 2 * n → N.1 (u + 4) j = M.1 (v + 4) j) ∧ (∀ j, j < 2 * n * 100 → N.1 (u + 5) j = M.1 (v + 5) j) ∧ pu_r 137 [some (.ref u), some (.ref v)] [] M = some (none, N) := by
  refine ⟨_, ?_, ?_, ?_, ?_, ?_, ?_, ?_, pz_cpX10 bt ht bn hn hd su sv su1 sv1 ru1 rv1 su2 sv2 ru2 rv2 su3 sv3 ru3 rv3 su4 sv4 ru4 rv4 su5 sv5 ru5 rv5⟩
  · exact pz_fo_ci (pz_fo_ci (pz_fo_ci (pz_fo_ci (pz_fo_cl (pz_fo_wi (pz_fo_wi (pz_fo_r _ _ _) (by omega) (by omega)) (by omega) (by omega)) (by omega) (by omega)) (by omega) (by omega)) (by omega) (by omega)) (by omega) (by omega)) (by omega) (by omega)
  · intro j hj
    simp only [pu_ci_1, pu_cl_1, pu_wi_1]
    match j, hj with
    | 0, _ => simp (disch := omega) [nl_feq, ht, hn]
    | 1, _ => simp (disch := omega) [nl_feq, ht, hn]
    | j + 2, hj => omega
  · intro j hj
    simp (disch := omega) [pu_ci_2, pu_cl_3, pu_wi_2, nl_feq, hj]
  · intro j hj
    simp only [pu_ci_1, pu_cl_1, pu_wi_1]
    simp (disch := omega) [nl_feq, hj]
  · intro j hj
    simp only [pu_ci_1, pu_cl_1, pu_wi_1]
    simp (disch := omega) [nl_feq, hj]
  · intro j hj
    simp only [pu_ci_1, pu_cl_1, pu_wi_1]
    simp (disch := omega) [nl_feq, hj]
  · intro j hj
    simp only [pu_ci_1, pu_cl_1, pu_wi_1]
    simp (disch := omega) [nl_feq, hj]
theorem pz_coX2 {M : pu_M} {u v n : Nat} (bn : n ≤ 100) (hn : M.1 v 0 = nI n) (hd : u + 10 < v ∨ v + 10 < u) (su : pu_sh u = (0, 2)) (sv : pu_sh v = (0, 2)) (su1 : pu_sh (u + 1) = (1, 100)) (sv1 : pu_sh (v + 1) = (1, 100)) (ru1 : M.2.2.1 u 1 = some (u + 1)) (rv1 : M.2.2.1 v 1 = some (v + 1)) (su2 : pu_sh (u + 2) = (1, 100)) (sv2 : pu_sh (v + 2) = (1, 100)) (ru2 : M.2.2.1 u 2 = some (u + 2)) (rv2 : M.2.2.1 v 2 = some (v + 2)) (su3 : pu_sh (u + 3) = (1, 100)) (sv3 : pu_sh (v + 3) = (1, 100)) (ru3 : M.2.2.1 u 3 = some (u + 3)) (rv3 : M.2.2.1 v 3 = some (v + 3)) (su4 : pu_sh (u + 4) = (1, 100)) (sv4 : pu_sh (v + 4) = (1, 100)) (ru4 : M.2.2.1 u 4 = some (u + 4)) (rv4 : M.2.2.1 v 4 = some (v + 4)) (su5 : pu_sh (u + 5) = (1, 100)) (sv5 : pu_sh (v + 5) = (1, 100)) (ru5 : M.2.2.1 u 5 = some (u + 5)) (rv5 : M.2.2.1 v 5 = some (v + 5)) (su6 : pu_sh (u + 6) = (1, 100)) (sv6 : pu_sh (v + 6) = (1, 100)) (ru6 : M.2.2.1 u 6 = some (u + 6)) (rv6 : M.2.2.1 v 6 = some (v + 6)) (su7 : pu_sh (u + 7) = (1, 100)) (sv7 : pu_sh (v + 7) = (1, 100)) (ru7 : M.2.2.1 u 7 = some (u + 7)) (rv7 : M.2.2.1 v 7 = some (v + 7)) (su8 : pu_sh (u + 8) = (1, 200)) (sv8 : pu_sh (v + 8) = (1, 200)) (ru8 : M.2.2.1 u 8 = some (u + 8)) (rv8 : M.2.2.1 v 8 = some (v + 8)) (su9 : pu_sh (u + 9) = (1, 200)) (sv9 : pu_sh (v + 9) = (1, 200)) (ru9 : M.2.2.1 u 9 = some (u + 9)) (rv9 : M.2.2.1 v 9 = some (v + 9)) (su10 : pu_sh (u + 10) = (1, 200)) (sv10 : pu_sh (v + 10) = (1, 200)) (ru10 : M.2.2.1 u 10 = some (u + 10)) (rv10 : M.2.2.1 v 10 = some (v + 10)) : ∃ N, pz_fo M N u 10 ∧ (∀ j, j < 1 → N.1 u j = M.1 v j) ∧ (∀ j, j < n → N.1 (u + 1) j = M.1 (v + 1) j) ∧ (∀ j, j < n → N.1 (u + 2) j = M.1 (v + 2) j) ∧ (∀ j, j < n → N.1 (u + 3) j = M.1 (v + 3) j) ∧ (∀ j, j < n → N.1 (u + 4) j = M.1 (v + 4) j) ∧ (∀ j, j < n → N.1 (u + 5) j = M.1 (v + 5) j) ∧ (∀ j, j < n → N.1 (u + 6) j = M.1 (v + 6) j) ∧ (∀ j, j < n → N.1 (u + 7) j = M.1 (v + 7) j) ∧ (∀ j, j < 2 * n → N.1 (u + 8) j = M.1 (v + 8) j) ∧ (∀ j, j < 2 * n → N.1 (u + 9) j = M.1 (v + 9) j) ∧ (∀ j, j < 2 * n → N.1 (u + 10) j = M.1 (v + 10) j) ∧ pu_r 138 [some (.ref u), some (.ref v)] [] M = some (none, N) := by
  refine ⟨_, ?_, ?_, ?_, ?_, ?_, ?_, ?_, ?_, ?_, ?_, ?_, ?_, pz_cpX2 bn hn hd su sv su1 sv1 ru1 rv1 su2 sv2 ru2 rv2 su3 sv3 ru3 rv3 su4 sv4 ru4 rv4 su5 sv5 ru5 rv5 su6 sv6 ru6 rv6 su7 sv7 ru7 rv7 su8 sv8 ru8 rv8 su9 sv9 ru9 rv9 su10 sv10 ru10 rv10⟩
  · exact pz_fo_ci (pz_fo_ci (pz_fo_ci (pz_fo_ci (pz_fo_ci (pz_fo_ci (pz_fo_ci (pz_fo_ci (pz_fo_ci (pz_fo_ci (pz_fo_wi (pz_fo_r _ _ _) (by omega) (by omega)) (by omega) (by omega)) (by omega) (by omega)) (by omega) (by omega)) (by omega) (by omega)) (by omega) (by omega)) (by omega) (by omega)) (by omega) (by omega)) (by omega) (by omega)) (by omega) (by omega)) (by omega) (by omega)
  · intro j hj
    simp only [pu_ci_1, pu_cl_1, pu_wi_1]
    match j, hj with
    | 0, _ => simp (disch := omega) [nl_feq, hn]
    | j + 1, hj => omega
  · intro j hj
    simp only [pu_ci_1, pu_cl_1, pu_wi_1]
    simp (disch := omega) [nl_feq, hj]
  · intro j hj
    simp only [pu_ci_1, pu_cl_1, pu_wi_1]
    simp (disch := omega) [nl_feq, hj]
  · intro j hj
    simp only [pu_ci_1, pu_cl_1, pu_wi_1]
    simp (disch := omega) [nl_feq, hj]
  · intro j hj
    simp only [pu_ci_1, pu_cl_1, pu_wi_1]
    simp (disch := omega) [nl_feq, hj]
  · intro j hj
    simp only [pu_ci_1, pu_cl_1, pu_wi_1]
    simp (disch := omega) [nl_feq, hj]
  · intro j hj
    simp only [pu_ci_1, pu_cl_1, pu_wi_1]
    simp (disch := omega) [nl_feq, hj]
  · intro j hj
    simp only [pu_ci_1, pu_cl_1, pu_wi_1]
    simp (disch := omega) [nl_feq, hj]
  · intro j hj
    simp only [pu_ci_1, pu_cl_1, pu_wi_1]
    simp (disch := omega) [nl_feq, hj]
  · intro j hj
    simp only [pu_ci_1, pu_cl_1, pu_wi_1]
    simp (disch := omega) [nl_feq, hj]
  · intro j hj
    simp only [pu_ci_1, pu_cl_1, pu_wi_1]
    simp (disch := omega) [nl_feq, hj]
theorem pz_coX8 {M : pu_M} {u v n : Nat} (bn : n ≤ 20) (hn : M.1 v 0 = nI n) (hd : u + 2 < v ∨ v + 2 < u) (su : pu_sh u = (0, 8)) (sv : pu_sh v = (0, 8)) (su1 : pu_sh (u + 1) = (3, 20)) (sv1 : pu_sh (v + 1) = (3, 20)) (ru1 : M.2.2.1 u 1 = some (u + 1)) (rv1 : M.2.2.1 v 1 = some (v + 1)) (su2 : pu_sh (u + 2) = (3, 20)) (sv2 : pu_sh (v + 2) = (3, 20)) (ru2 : M.2.2.1 u 2 = some (u + 2)) (rv2 : M.2.2.1 v 2 = some (v + 2)) : ∃ N, pz_fo M N u 2 ∧ (∀ j, j < 1 → N.1 u j = M.1 v j) ∧ (∀ j, j < n → N.2.1 (u + 1) j = M.2.1 (v + 1) j) ∧ (∀ j, j < n → N.2.1 (u + 2) j = M.2.1 (v + 2) j) ∧ pu_r 139 [some (.ref u), some (.ref v)] [] M = some (none, N) := by
  refine ⟨_, ?_, ?_, ?_, ?_, pz_cpX8 bn hn hd su sv su1 sv1 ru1 rv1 su2 sv2 ru2 rv2⟩
  · exact pz_fo_cl (pz_fo_cl (pz_fo_wi (pz_fo_r _ _ _) (by omega) (by omega)) (by omega) (by omega)) (by omega) (by omega)
  · intro j hj
    simp only [pu_ci_1, pu_cl_1, pu_wi_1]
    match j, hj with
    | 0, _ => simp (disch := omega) [nl_feq, hn]
    | j + 1, hj => omega
  · intro j hj
    simp (disch := omega) [pu_ci_2, pu_cl_3, pu_wi_2, nl_feq, hj]
  · intro j hj
    simp (disch := omega) [pu_ci_2, pu_cl_3, pu_wi_2, nl_feq, hj]
theorem pz_coX1 {M : pu_M} {u v f p s w l o : Nat} (bf : f ≤ 100) (hf : M.1 v 2 = nI f) (bp : p ≤ 200) (hp : M.1 v 3 = nI p) (bs : s ≤ 24) (hs : M.1 v 4 = nI s) (bw : w ≤ 100) (hw : M.1 v 5 = nI w) (bl : l ≤ 60) (hl : M.1 v 6 = nI l) (bo : o ≤ 60) (ho : M.1 v 7 = nI o) (hd : u + 12 < v ∨ v + 12 < u) (su : pu_sh u = (0, 1)) (sv : pu_sh v = (0, 1)) (su1 : pu_sh (u + 1) = (1, 100)) (sv1 : pu_sh (v + 1) = (1, 100)) (ru1 : M.2.2.1 u 8 = some (u + 1)) (rv1 : M.2.2.1 v 8 = some (v + 1)) (su2 : pu_sh (u + 2) = (1, 100)) (sv2 : pu_sh (v + 2) = (1, 100)) (ru2 : M.2.2.1 u 9 = some (u + 2)) (rv2 : M.2.2.1 v 9 = some (v + 2)) (su4 : pu_sh (u + 4) = (1, 200)) (sv4 : pu_sh (v + 4) = (1, 200)) (ru4 : M.2.2.1 u 11 = some (u + 4)) (rv4 : M.2.2.1 v 11 = some (v + 4)) (su5 : pu_sh (u + 5) = (1, 200)) (sv5 : pu_sh (v + 5) = (1, 200)) (ru5 : M.2.2.1 u 12 = some (u + 5)) (rv5 : M.2.2.1 v 12 = some (v + 5)) (su7 : pu_sh (u + 7) = (1, 24)) (sv7 : pu_sh (v + 7) = (1, 24)) (ru7 : M.2.2.1 u 14 = some (u + 7)) (rv7 : M.2.2.1 v 14 = some (v + 7)) (su8 : pu_sh (u + 8) = (1, 24)) (sv8 : pu_sh (v + 8) = (1, 24)) (ru8 : M.2.2.1 u 15 = some (u + 8)) (rv8 : M.2.2.1 v 15 = some (v + 8)) (su9 : pu_sh (u + 9) = (1, 100)) (sv9 : pu_sh (v + 9) = (1, 100)) (ru9 : M.2.2.1 u 16 = some (u + 9)) (rv9 : M.2.2.1 v 16 = some (v + 9)) (su10 : pu_sh (u + 10) = (1, 60)) (sv10 : pu_sh (v + 10) = (1, 60)) (ru10 : M.2.2.1 u 17 = some (u + 10)) (rv10 : M.2.2.1 v 17 = some (v + 10)) (su11 : pu_sh (u + 11) = (1, 60)) (sv11 : pu_sh (v + 11) = (1, 60)) (ru11 : M.2.2.1 u 18 = some (u + 11)) (rv11 : M.2.2.1 v 18 = some (v + 11)) (su12 : pu_sh (u + 12) = (1, 60)) (sv12 : pu_sh (v + 12) = (1, 60)) (ru12 : M.2.2.1 u 19 = some (u + 12)) (rv12 : M.2.2.1 v 19 = some (v + 12)) : ∃ N, pz_fo M N u 12 ∧ (∀ j, j < 8 → N.1 u j = M.1 v j) ∧ (∀ j, j < f → N.1 (u + 1) j = M.1 (v + 1) j) ∧ (∀ j, j < f → N.1 (u + 2) j = M.1 (v + 2) j) ∧ (∀ j, j < p → N.1 (u + 4) j = M.1 (v + 4) j) ∧ (∀ j, j < p → N.1 (u + 5) j = M.1 (v + 5) j) ∧ (∀ j, j < s → N.1 (u + 7) j = M.1 (v + 7) j) ∧ (∀ j, j < s → N.1 (u + 8) j = M.1 (v + 8) j) ∧ (∀ j, j < w → N.1 (u + 9) j = M.1 (v + 9) j) ∧ (∀ j, j < l → N.1 (u + 10) j = M.1 (v + 10) j) ∧ (∀ j, j < o → N.1 (u + 11) j = M.1 (v + 11) j) ∧ (∀ j, j < o → N.1 (u + 12) j = M.1 (v + 12) j) ∧ pu_r 140 [some (.ref u), some (.ref v)] [] M = some (none, N) := by
  refine ⟨_, ?_, ?_, ?_, ?_, ?_, ?_, ?_, ?_, ?_, ?_, ?_, ?_, pz_cpX1 bf hf bp hp bs hs bw hw bl hl bo ho hd su sv su1 sv1 ru1 rv1 su2 sv2 ru2 rv2 su4 sv4 ru4 rv4 su5 sv5 ru5 rv5 su7 sv7 ru7 rv7 su8 sv8 ru8 rv8 su9 sv9 ru9 rv9 su10 sv10 ru10 rv10 su11 sv11 ru11 rv11 su12 sv12 ru12 rv12⟩
  · exact pz_fo_ci (pz_fo_ci (pz_fo_ci (pz_fo_ci (pz_fo_ci (pz_fo_ci (pz_fo_ci (pz_fo_ci (pz_fo_ci (pz_fo_ci (pz_fo_wi (pz_fo_wi (pz_fo_wi (pz_fo_wi (pz_fo_wi (pz_fo_wi (pz_fo_wi (pz_fo_wi (pz_fo_r _ _ _) (by omega) (by omega)) (by omega) (by omega)) (by omega) (by omega)) (by omega) (by omega)) (by omega) (by omega)) (by omega) (by omega)) (by omega) (by omega)) (by omega) (by omega)) (by omega) (by omega)) (by omega) (by omega)) (by omega) (by omega)) (by omega) (by omega)) (by omega) (by omega)) (by omega) (by omega)) (by omega) (by omega)) (by omega) (by omega)) (by omega) (by omega)) (by omega) (by omega)
  · intro j hj
    simp only [pu_ci_1, pu_cl_1, pu_wi_1]
    match j, hj with
    | 0, _ => simp (disch := omega) [nl_feq, hf, hp, hs, hw, hl, ho]
    | 1, _ => simp (disch := omega) [nl_feq, hf, hp, hs, hw, hl, ho]
    | 2, _ => simp (disch := omega) [nl_feq, hf, hp, hs, hw, hl, ho]
    | 3, _ => simp (disch := omega) [nl_feq, hf, hp, hs, hw, hl, ho]
    | 4, _ => simp (disch := omega) [nl_feq, hf, hp, hs, hw, hl, ho]
    | 5, _ => simp (disch := omega) [nl_feq, hf, hp, hs, hw, hl, ho]
    | 6, _ => simp (disch := omega) [nl_feq, hf, hp, hs, hw, hl, ho]
    | 7, _ => simp (disch := omega) [nl_feq, hf, hp, hs, hw, hl, ho]
    | j + 8, hj => omega
  · intro j hj
    simp only [pu_ci_1, pu_cl_1, pu_wi_1]
    simp (disch := omega) [nl_feq, hj]
  · intro j hj
    simp only [pu_ci_1, pu_cl_1, pu_wi_1]
    simp (disch := omega) [nl_feq, hj]
  · intro j hj
    simp only [pu_ci_1, pu_cl_1, pu_wi_1]
    simp (disch := omega) [nl_feq, hj]
  · intro j hj
    simp only [pu_ci_1, pu_cl_1, pu_wi_1]
    simp (disch := omega) [nl_feq, hj]
  · intro j hj
    simp only [pu_ci_1, pu_cl_1, pu_wi_1]
    simp (disch := omega) [nl_feq, hj]
  · intro j hj
    simp only [pu_ci_1, pu_cl_1, pu_wi_1]
    simp (disch := omega) [nl_feq, hj]
  · intro j hj
    simp only [pu_ci_1, pu_cl_1, pu_wi_1]
    simp (disch := omega) [nl_feq, hj]
  · intro j hj
    simp only [pu_ci_1, pu_cl_1, pu_wi_1]
    simp (disch := omega) [nl_feq, hj]
  · intro j hj
    simp only [pu_ci_1, pu_cl_1, pu_wi_1]
    simp (disch := omega) [nl_feq, hj]
  · intro j hj
    simp only [pu_ci_1, pu_cl_1, pu_wi_1]
    simp (disch := omega) [nl_feq, hj]
