theorem pu_mf_2 (M : pu_M) (t k : Nat) (a b c d e : Int32) : (pu_mf M t k a b c d e).2 = M.2 := rfl
theorem pu_mf_o (M : pu_M) (t k : Nat) (a b c d e : Int32) (q j : Nat) (hq : q ≠ 75) : (pu_mf M t k a b c d e).1 q j = M.1 q j := by
  simp [pu_mf, pu_wi_1, hq]
theorem pu_mf_b (M : pu_M) (t k : Nat) (a b c d e : Int32) (j : Nat) : (pu_mf M t k a b c d e).1 75 j = if j = t + 16 + k then pu_by (pu_by (e >>> ((24 - 8 * nI k) &&& 31))) else if j = t + 12 + k then pu_by (pu_by (d >>> ((24 - 8 * nI k) &&& 31))) else if j = t + 8 + k then pu_by (pu_by (c >>> ((24 - 8 * nI k) &&& 31))) else if j = t + 4 + k then pu_by (pu_by (b >>> ((24 - 8 * nI k) &&& 31))) else if j = t + k then pu_by (pu_by (a >>> ((24 - 8 * nI k) &&& 31))) else M.1 75 j := by
  simp [pu_mf, pu_wi_1]
def pu_mfd (M : pu_M) (t : Nat) (a b c d e : Int32) : pu_M := pu_wi (pu_mf (pu_mf (pu_mf (pu_mf M t 0 a b c d e) t 1 a b c d e) t 2 a b c d e) t 3 a b c d e) 71 4 (nI (t + 20))
theorem e_mfeed0 (a b c d e : Int32) (M : pu_M) (t : Nat) (hn : M.1 71 4 = nI t) (hlt : 1200 < t + 20) (hb : t ≤ 1200) :
    pu_r 229 [some (.ref 71), some (.int a), some (.int b), some (.int c), some (.int d), some (.int e)] [] M = some (some (.int (-1)), M) := by
  have h1 : ¬ (nI t + 20 ≤ (1200 : Int32)) := by
    rw [show nI t + 20 = nI (t + 20) from nI_add t 20]
    exact nI_ge (a := 1200) (b := t + 20) hlt (by omega)
  rw [qX12_feed]
  simp only [s_ent, kX12_feed_0, kX12_feed_15, s_ald, s_gi, s_iadd, s_icle, s_iret, s_ist, s_push]
  simp [sh_71, hn, h1, List.replicate]
theorem e_mfeed1 (a b c d e : Int32) (M : pu_M) (t : Nat) (hr : M.2.2.1 71 3 = some 75) (hn : M.1 71 4 = nI t) (hlt : t + 20 ≤ 1200) :
    pu_r 229 [some (.ref 71), some (.int a), some (.int b), some (.int c), some (.int d), some (.int e)] [] M = some (some (.int (nI (t + 20))), pu_mfd M t a b c d e) := by
  have h1 : (nI t + 20 ≤ (1200 : Int32)) := by
    rw [show nI t + 20 = nI (t + 20) from nI_add t 20]
    exact nI_le (a := t + 20) (b := 1200) hlt (by omega)
  rw [qX12_feed]
  simp only [s_ent, kX12_feed_0, kX12_feed_15, s_ald, s_gi, s_iadd, s_icle, s_iret, s_ist, s_push]
  simp [sh_71, hn, h1, List.replicate, pu_kl, Value.category]
  have g0 := e_mf1 a b c d e M t 0 none (fun v h => by cases h) hr hn hlt (by omega)
  rw [nI_0] at g0
  rw [g0, e_mf1 a b c d e _ t 1 _ (fun v h => by cases h; rfl) (by simpa [pu_mf_2] using hr) (by simpa [pu_mf_o] using hn) hlt (by omega), e_mf1 a b c d e _ t 2 _ (fun v h => by cases h; rfl) (by simpa [pu_mf_2] using hr) (by simpa [pu_mf_o] using hn) hlt (by omega), e_mf1 a b c d e _ t 3 _ (fun v h => by cases h; rfl) (by simpa [pu_mf_2] using hr) (by simpa [pu_mf_o] using hn) hlt (by omega)]
  rw [qX12_feed_18]
  have h4 : (4 : Int32) ≤ nI (3 + 1) := by decide
  have e20 : nI t + 20 = nI (t + 20) := nI_add t 20
  simp only [kX12_feed_18, kX12_feed_138, s_ald, s_dup, s_gi, s_iadd, s_icge, s_ild, s_iret, s_pi, s_push]
  simp [h4, sh_71, Value.category, pu_mf_o, hn, e20, pu_wi_1, pu_mfd]
/-- the last eight bits of a byte are those of the int -/
theorem pu_by255 (x : Int32) : pu_by x &&& 255 = x &&& 255 := by
  unfold pu_by
  apply Int32.toBitVec_inj.mp
  simp only [Int32.toBitVec_and]
  apply BitVec.eq_of_getLsbD_eq
  intro i hi
  simp only [BitVec.getLsbD_and]
  by_cases h8 : i < 8
  · have e : (x.toInt8.toInt32).toBitVec.getLsbD i = x.toBitVec.getLsbD i := by
      have e2 : (x.toInt8.toInt32).toBitVec = (x.toBitVec.signExtend 8).signExtend 32 := rfl
      rw [e2, BitVec.getLsbD_signExtend, BitVec.getLsbD_signExtend]
      simp only [hi, h8, if_true, decide_true, Bool.true_and]
    rw [e]
  · have e : (255 : Int32).toBitVec.getLsbD i = false := by
      have : (255 : Int32).toBitVec = 255#32 := rfl
      rw [this]
      have h2 : (255#32).getLsbD i = (255 : Nat).testBit i := by simp [BitVec.getLsbD, hi]
      rw [h2]
      apply Nat.testBit_lt_two_pow
      calc 255 < 2 ^ 8 := by decide
        _ ≤ 2 ^ i := Nat.pow_le_pow_right (by decide) (by omega)
    rw [e, Bool.and_false, Bool.and_false]
