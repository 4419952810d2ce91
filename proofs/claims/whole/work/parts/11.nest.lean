theorem z_ciN {X : pu_X} {d d' : pu_D} {pc j n index : Nat} {k : pu_K} {r : pu_R} (hX : pu_H X d) (hr : pu_P X.2.1 X.2.2.2.2.2.2.2.2.2.2.1 r) (hd : decode d.2.2.1 pc = .ok (.invokespecial index, 3)) (hj : pu_tab[j]? = some d') (hm : pu_mw d' n) (hnm : d'.2.1.name = "<init>" ∧ d'.2.2.2.2.1 = none) (hl : (d.1, index, d'.2.1) ∈ pu_nest) (hi : Cond.instanceMethod d'.2.1 ∈ wsL_law) (hR : d'.2.2.2.2.2.1 + 1 ≤ d.2.2.2.2.2.1 ∧ 8 + (d'.2.2.2.1 + 11) + d'.2.2.2.2.2.2 ≤ d.2.2.2.2.2.2) (h : pu_S X d (pc + 3) k) : pu_S X d pc (s_ci r j n k) := by
  obtain ⟨p, l, e, R, s, m, args, below, meth, c', g, Q, n0, out⟩ := X
  intro ls st M ho hS hn
  unfold s_ci at ho
  split at ho
  · rename_i a rest hdr
    split at ho
    · rename_i hs
      obtain ⟨hs2, hs3⟩ := hs
      have hst : st = st.take n ++ .ref a :: rest := by rw [← hdr, List.take_append_drop]
      refine pu_call (X := (p, l, e, R, s, m, args, below, meth, c', g, Q, n0, out)) hX hr hj hS hn (fun v hv => ?_) (fun v hv => by rw [hst]; simp [hv]) h ho fun o hC hmo hoo la H locs hlv hW hs => ?_
      · rw [hst]
        rcases List.mem_cons.mp hv with rfl | hv
        · simp
        · exact List.mem_append_left _ (List.mem_reverse.mp hv)
      · obtain ⟨hx, hb, hml, hown, hts, hK, hsp, hRR, hsz, hnm2, hE⟩ := hX
        dsimp only at *
        have hsl : pu_sl M.2.2.2 ≤ pu_sl o.2.2.2.2 := pu_sl_mono hmo
        have hsl1 : pu_sl o.2.2.2.2 ≤ pu_sl out.2.2.2.2 := pu_sl_mono hoo
        have hsl0 : pu_sl n0 ≤ pu_sl M.2.2.2 := pu_sl_mono hn
        have hm1 := hm.1
        have hgc := pu_gc hm.1
        unfold pu_C at hC
        rw [hnm.2] at hC hm1 hgc
        exact va_runIN (host := "DoorOffice") (Ts := wsL_law) (b := g.1 + a) (As := (st.take n).reverse.map (pu_t g)) (rest := rest.map (pu_t g)) (nL := d.2.2.2.1) ⟨hx, hb, hml, hown, hts⟩ hC ⟨va_cnB n hts hgc rfl rfl rfl (hsp.2.2.2.2.2.2 _ hl) (hts _ hm.2.1) hm.2.2 ⟨Nat.le_trans hR.1 hRR.2.2.1, Nat.le_trans hR.2 hRR.2.2.2⟩, hnm.1, hts _ hi⟩ ⟨pu_blind g M _, pu_pre (vs := .ref a :: (st.take n).reverse) hK hsp (by rw [hsz]; omega) hW hs⟩ rfl (by rw [List.length_map, List.length_reverse]; exact hs2) hlv.1.1 (by
          show st.map (pu_t g) = _
          rw [← List.map_reverse, List.reverse_reverse]
          conv => lhs; rw [hst]
          rw [List.map_append]; rfl) (lv_room (pu_cat8 hs3)) hd ⟨by have := hRR.1; omega, by have := hRR.2.1; omega⟩
    · cases ho
  · cases ho
theorem z_csN {X : pu_X} {d d' : pu_D} {pc j n index : Nat} {k : pu_K} {r : pu_R} (hX : pu_H X d) (hr : pu_P X.2.1 X.2.2.2.2.2.2.2.2.2.2.1 r) (hd : decode d.2.2.1 pc = .ok (.invokestatic index, 3)) (hj : pu_tab[j]? = some d') (hm : pu_mw d' n) (hl : (d.1, index, d'.2.1) ∈ pu_nest) (hi : Cond.static d'.2.1 ∈ wsL_law) (hR : d'.2.2.2.2.2.1 + 1 ≤ d.2.2.2.2.2.1 ∧ 8 + (d'.2.2.2.1 + 11) + d'.2.2.2.2.2.2 ≤ d.2.2.2.2.2.2) (h : pu_S X d (pc + 3) k) : pu_S X d pc (s_cs r j n k) := by
  obtain ⟨p, l, e, R, s, m, args, below, meth, c', g, Q, n0, out⟩ := X
  intro ls st M ho hS hn
  unfold s_cs at ho
  split at ho
  · rename_i hs
    obtain ⟨hs2, hs3⟩ := hs
    refine pu_call (X := (p, l, e, R, s, m, args, below, meth, c', g, Q, n0, out)) hX hr hj hS hn (fun v hv => List.mem_of_mem_take (List.mem_reverse.mp hv)) (fun v hv => List.mem_of_mem_drop hv) h ho fun o hC hmo hoo la H locs hlv hW hs => ?_
    obtain ⟨hx, hb, hml, hown, hts, hK, hsp, hRR, hsz, hnm2, hE⟩ := hX
    dsimp only at *
    have hsl : pu_sl M.2.2.2 ≤ pu_sl o.2.2.2.2 := pu_sl_mono hmo
    have hsl1 : pu_sl o.2.2.2.2 ≤ pu_sl out.2.2.2.2 := pu_sl_mono hoo
    have hsl0 : pu_sl n0 ≤ pu_sl M.2.2.2 := pu_sl_mono hn
    exact va_runSN (host := "DoorOffice") (Ts := wsL_law) (As := (st.take n).reverse.map (pu_t g)) (rest := (st.drop n).map (pu_t g)) (nL := d.2.2.2.1) ⟨hx, hb, hml, hown, hts⟩ hC ⟨va_cnB n hts (pu_gc hm.1) rfl rfl rfl (hsp.2.2.2.2.2.2 _ hl) (hts _ hm.2.1) hm.2.2 ⟨Nat.le_trans hR.1 hRR.2.2.1, Nat.le_trans hR.2 hRR.2.2.2⟩, hts _ hi, trivial⟩ ⟨pu_blind g M _, pu_pre (vs := (st.take n).reverse) hK hsp (by rw [hsz]; omega) hW hs⟩ rfl (by rw [List.length_map, List.length_reverse]; exact hs2) hlv.1.1 (by
      show st.map (pu_t g) = _
      rw [← List.map_reverse, List.reverse_reverse, ← List.map_append, List.take_append_drop]) (lv_room (pu_cat8 hs3)) hd ⟨by have := hRR.1; omega, by have := hRR.2.1; omega⟩
  · cases ho
