/-! the 43 calls together, and the claim of the pure run -/
theorem pw_ops : pu_ops pu_Inv := ⟨op_feed, op_end, op_take, op_day, op_as, op_town, op_shorten, op_street, op_door, op_corner, op_under, op_gone, op_renumber, op_rename, op_join, op_row, op_tear, op_undo, op_image, op_back, op_about, op_stands, op_number, op_write, op_means, op_fault, op_found, op_call, op_ended, op_twice, op_pair, op_free, op_near, op_stop, op_walk, op_walked, op_letter, op_sort, op_sorted, op_list, op_check, op_out, op_count⟩
theorem pw_h0 : ∃ M, pu_Inv M ∧ ∀ (L : Nat) (xs : Nat → Int32) (rl : pu_K), kL_law_0 L xs pu_r rl [some (.float 0), none, none, none] [] pu_M0 = rl [some (.float 0), some (.ref 0), some (.ref 71), some (.int (nI 0))] [] M := by
  obtain ⟨_, _, h⟩ := pz_start
  exact ⟨pu_y, pz_inv0, h⟩
theorem pw_claim : pu_claim := pu_claim_of pw_ops pz_count pw_h0
