/-! ===== KettleChoir: then, quiet, the loudest minute ===== -/
section CAHEAD2
variable {d : Nat} {t : List px_E} {g : hG} {N S D L j q cn sn : Nat} {w v k : Rw} {s : Int32} {n : Int64} {x : Int32} {K : Kt}
set_option maxHeartbeats 2000000 in
theorem c_then_l (hK : KN (kC g) N S D L) (hO : KO (kC g) N S D L) (hj : j < 8) (hq : q ≤ 120) : ∀ m i : Nat, i + m = q + 1 → ∀ (w : Rw) (s : Int32) (n : Int64) (v k : Rw), Z54 w → ∃ (w' : Rw) (s' : Int32) (n' : Int64) (v' k' : Rw), Z54 w' ∧
    bc (d + 4) M_X9_then none 16 [some (.ref 0), some (.int (Int32.ofNat j)), some (.int (Int32.ofNat q)), some (.int (Int32.ofNat i))] [] (hp t (gP g 30 w s n v k)) cn sn = some (.inl (some (.int (iterR (minR (kC g) N D L) m w (40 + j)))), hp t (gP g 30 w' s' n' v' k'), cn, sn) := by
  intro m
  induction m with
  | zero =>
    intro i hi w s n v k hz
    refine ⟨w, s, n, v, k, hz, ?_⟩
    rw [st_X9_then_16]
    simp (disch := omega) only [st_X9_then_0, st_X9_then_1, st_X9_then_2 (p := 0) hq_0 ps_, bC_inl, Option.toList, List.cons_append, List.nil_append, Nat.add_zero, st_X9_then_5, st_X9_then_6, st_X9_then_7 (p := 0) hq_0 ps_, st_X9_then_10, st_X9_then_11 (p := 0) hq_0 ps_, st_X9_then_14, lc_i, lc_r, lc_n, lc_j, lc_f, st_X9_then_15, st_X9_then_17, st_X9_then_18, st_X9_then_21, bM_some, hg_0_1, st_X9_then_22, st_X9_then_25, hg_0_3, st_X9_then_26, st_X9_then_29 (p := 16) hq_16 ps_, st_X9_then_32, st_X9_then_35, st_X9_then_38, st_X9_then_39, st_X9_then_42, st_X9_then_44, st_X9_then_45, cond_false, ha_30, st_X9_then_46, st_X9_then_47, Nat.reduceAdd, gP_r h30, gP_s h30, gP_n h30, nn_1, nn_8, nn_16, nn_24, nn_32, nn_40, nn_48, nn_suc, nn_out, nn_clamp, Int32.zero_add, nn_lt, show q < i by omega, if_true, iterR]
  | succ m ih =>
    intro i hi w s n v k hz
    obtain ⟨v1, k1, e⟩ := c_min (d := d) (t := t) (cn := 0) (sn := 0) (w := w) (s := s) (n := n) (v := v) (k := k) h30 hK hO
    obtain ⟨w', s', n', v', k', hz', e'⟩ := ih (i + 1) (by omega) (minR (kC g) N D L w) (Int32.ofNat (cntN (bS (minR (kC g) N D L w)) N)) (notesN (minR (kC g) N D L w) N) v1 k1 (Z54_min hK hO hz)
    refine ⟨w', s', n', v', k', hz', ?_⟩
    rw [show iterR (minR (kC g) N D L) (m + 1) w = iterR (minR (kC g) N D L) m (minR (kC g) N D L w) from rfl, ← e', st_X9_then_16]
    simp (disch := omega) only [st_X9_then_0, st_X9_then_1, st_X9_then_2 (p := 0) hq_0 ps_, bC_inl, Option.toList, List.cons_append, List.nil_append, Nat.add_zero, st_X9_then_5, st_X9_then_6, st_X9_then_7 (p := 0) hq_0 ps_, st_X9_then_10, st_X9_then_11 (p := 0) hq_0 ps_, st_X9_then_14, lc_i, lc_r, lc_n, lc_j, lc_f, st_X9_then_15, st_X9_then_17, st_X9_then_18, st_X9_then_21, bM_some, hg_0_1, st_X9_then_22, st_X9_then_25, hg_0_3, st_X9_then_26, st_X9_then_29 (p := 16) hq_16 ps_, st_X9_then_32, st_X9_then_35, st_X9_then_38, st_X9_then_39, st_X9_then_42, st_X9_then_44, st_X9_then_45, cond_false, ha_30, st_X9_then_46, st_X9_then_47, Nat.reduceAdd, gP_r h30, gP_s h30, gP_n h30, nn_1, nn_8, nn_16, nn_24, nn_32, nn_40, nn_48, nn_suc, nn_out, nn_clamp, Int32.zero_add, nn_r1, nn_lt, show ¬ q < i by omega, if_false, e]
set_option maxHeartbeats 2000000 in
theorem c_then (hK : KN (kC g) N S D L) (hO : KO (kC g) N S D L) (hz : Z54 (g.1 29)) (hz' : Z54 (g.1 30)) (hj : j < N) (h1 : 1 ≤ q) (hq : q ≤ 120) : ∃ (w' : Rw) (s' : Int32) (n' : Int64) (v' k' : Rw), Z54 w' ∧
    bc (d + 4) M_X9_then none 0 [some (.ref 0), some (.int (Int32.ofNat j)), some (.int (Int32.ofNat q)), none] [] (hp t g) cn sn = some (.inl (some (.int (iterR (minR (kC g) N D L) q (g.1 29) (40 + j)))), hp t (gP g 30 w' s' n' v' k'), cn, sn) := by
  have h8 := hK.2.1
  obtain ⟨w', s', n', v', k', h2, e⟩ := c_then_l (d := d) (t := t) (cn := cn) (sn := sn) (j := j) hK hO (by omega) hq q 1 (by omega) (g.1 29) (g.1 16 14) (g.2.1 16 13) (g.1 28) (g.1 27) hz
  refine ⟨w', s', n', v', k', h2, ?_⟩
  rw [gP_tr] at e
  rw [← e]
  simp (disch := omega) only [st_X9_then_0, st_X9_then_1, st_X9_then_2 (p := 0) hq_0 ps_, bC_inl, Option.toList, List.cons_append, List.nil_append, Nat.add_zero, st_X9_then_5, st_X9_then_6, st_X9_then_7 (p := 0) hq_0 ps_, st_X9_then_10, st_X9_then_11 (p := 0) hq_0 ps_, st_X9_then_14, lc_i, lc_r, lc_n, lc_j, lc_f, st_X9_then_15, st_X9_then_17, st_X9_then_18, st_X9_then_21, bM_some, hg_0_1, st_X9_then_22, st_X9_then_25, hg_0_3, st_X9_then_26, st_X9_then_29 (p := 16) hq_16 ps_, st_X9_then_32, st_X9_then_35, st_X9_then_38, st_X9_then_39, st_X9_then_42, st_X9_then_44, st_X9_then_45, cond_false, ha_30, st_X9_then_46, st_X9_then_47, Nat.reduceAdd, nk_y hK hj, nf_y h1 hq, c_trial hz hz']
  rfl
def b01 (b : Bool) : Int32 := bif b then 1 else 0
set_option maxHeartbeats 2000000 in
theorem c_quiet_l (hK : KN (kC g) N S D L) (hO : KO (kC g) N S D L) : ∀ m i : Nat, i + m = 121 → ∀ (w : Rw) (s : Int32) (n : Int64) (v k : Rw), Z54 w → ∃ (w' : Rw) (s' : Int32) (n' : Int64) (v' k' : Rw), Z54 w' ∧
    bc (d + 4) M_X9_quiet none 19 [some (.ref 0), some (.int (b01 (sang N w))), some (.int (Int32.ofNat i))] [] (hp t (gP g 30 w s n v k)) cn sn = some (.inl (some (.int (seekR (minR (kC g) N D L) (fun w w' => sang N w && !sang N w') m i w))), hp t (gP g 30 w' s' n' v' k'), cn, sn) := by
  have h8 := hK.2.1
  intro m
  induction m with
  | zero =>
    intro i hi w s n v k hz
    refine ⟨w, s, n, v, k, hz, ?_⟩
    rw [st_X9_quiet_19]
    simp (disch := omega) only [st_X9_quiet_0, st_X9_quiet_1 (p := 0) hq_0 ps_, bC_inl, Option.toList, List.cons_append, List.nil_append, Nat.add_zero, st_X9_quiet_4, st_X9_quiet_7, st_X9_quiet_8, lc_i, lc_r, lc_n, lc_j, lc_f, st_X9_quiet_12, st_X9_quiet_13, st_X9_quiet_14 (p := 0) hq_0 ps_, st_X9_quiet_17, st_X9_quiet_18, st_X9_quiet_20, st_X9_quiet_22, st_X9_quiet_25, bM_some, hg_0_1, st_X9_quiet_26, st_X9_quiet_29, hg_0_3, st_X9_quiet_30, st_X9_quiet_33 (p := 16) hq_16 ps_, st_X9_quiet_36, st_X9_quiet_37, st_X9_quiet_40, st_X9_quiet_41, hg_16_14, st_X9_quiet_44, st_X9_quiet_47, st_X9_quiet_50, st_X9_quiet_51, st_X9_quiet_52, st_X9_quiet_53, st_X9_quiet_56, st_X9_quiet_59, st_X9_quiet_62, st_X9_quiet_63, st_X9_quiet_67, st_X9_quiet_68, st_X9_quiet_71, st_X9_quiet_66, st_X9_quiet_74, st_X9_quiet_75, st_X9_quiet_11, Nat.reduceAdd, nn_g120, show 120 < i by omega, if_true, seekR]
  | succ m ih =>
    intro i hi w s n v k hz
    obtain ⟨v1, k1, e⟩ := c_min (d := d) (t := t) (cn := 0) (sn := 0) (w := w) (s := s) (n := n) (v := v) (k := k) h30 hK hO
    have hc := cntN_le (bS (minR (kC g) N D L w)) N
    obtain ⟨w', s', n', v', k', hz', e'⟩ := ih (i + 1) (by omega) (minR (kC g) N D L w) (Int32.ofNat (cntN (bS (minR (kC g) N D L w)) N)) (notesN (minR (kC g) N D L w) N) v1 k1 (Z54_min hK hO hz)
    cases h1 : sang N (minR (kC g) N D L w) with
    | true =>
      have h0 : 0 < cntN (bS (minR (kC g) N D L w)) N := by
        unfold sang at h1
        rw [Bool.not_eq_true', decide_eq_false_iff_not] at h1
        omega
      refine ⟨w', s', n', v', k', hz', ?_⟩
      rw [seekR_f (by rw [h1, Bool.not_true, Bool.and_false]), ← e', h1, st_X9_quiet_19]
      cases h2 : sang N w <;>
      simp (disch := omega) only [st_X9_quiet_0, st_X9_quiet_1 (p := 0) hq_0 ps_, bC_inl, Option.toList, List.cons_append, List.nil_append, Nat.add_zero, st_X9_quiet_4, st_X9_quiet_7, st_X9_quiet_8, lc_i, lc_r, lc_n, lc_j, lc_f, st_X9_quiet_12, st_X9_quiet_13, st_X9_quiet_14 (p := 0) hq_0 ps_, st_X9_quiet_17, st_X9_quiet_18, st_X9_quiet_20, st_X9_quiet_22, st_X9_quiet_25, bM_some, hg_0_1, st_X9_quiet_26, st_X9_quiet_29, hg_0_3, st_X9_quiet_30, st_X9_quiet_33 (p := 16) hq_16 ps_, st_X9_quiet_36, st_X9_quiet_37, st_X9_quiet_40, st_X9_quiet_41, hg_16_14, st_X9_quiet_44, st_X9_quiet_47, st_X9_quiet_50, st_X9_quiet_51, st_X9_quiet_52, st_X9_quiet_53, st_X9_quiet_56, st_X9_quiet_59, st_X9_quiet_62, st_X9_quiet_63, st_X9_quiet_67, st_X9_quiet_68, st_X9_quiet_71, st_X9_quiet_66, st_X9_quiet_74, st_X9_quiet_75, st_X9_quiet_11, Nat.reduceAdd, gP_r h30, gP_s h30, gP_n h30, nn_1, nn_8, nn_16, nn_24, nn_32, nn_40, nn_48, nn_suc, nn_out, nn_clamp, Int32.zero_add, nn_r1, nn_e0, nn_g0, nn_g120, show ¬ 120 < i by omega, show ¬ cntN (bS (minR (kC g) N D L w)) N = 0 by omega, h0, b01, cond_true, cond_false, nn_one0, if_true, if_false, e]
    | false =>
      have h0 : cntN (bS (minR (kC g) N D L w)) N = 0 := by
        unfold sang at h1
        rw [Bool.not_eq_false', decide_eq_true_eq] at h1
        exact h1
      rw [h1, h0] at e'
      rw [h0] at e
      cases h2 : sang N w with
      | true =>
        refine ⟨minR (kC g) N D L w, Int32.ofNat 0, notesN (minR (kC g) N D L w) N, v1, k1, Z54_min hK hO hz, ?_⟩
        rw [seekR_t (by rw [h1, h2]; rfl), st_X9_quiet_19]
        simp (disch := omega) only [st_X9_quiet_0, st_X9_quiet_1 (p := 0) hq_0 ps_, bC_inl, Option.toList, List.cons_append, List.nil_append, Nat.add_zero, st_X9_quiet_4, st_X9_quiet_7, st_X9_quiet_8, lc_i, lc_r, lc_n, lc_j, lc_f, st_X9_quiet_12, st_X9_quiet_13, st_X9_quiet_14 (p := 0) hq_0 ps_, st_X9_quiet_17, st_X9_quiet_18, st_X9_quiet_20, st_X9_quiet_22, st_X9_quiet_25, bM_some, hg_0_1, st_X9_quiet_26, st_X9_quiet_29, hg_0_3, st_X9_quiet_30, st_X9_quiet_33 (p := 16) hq_16 ps_, st_X9_quiet_36, st_X9_quiet_37, st_X9_quiet_40, st_X9_quiet_41, hg_16_14, st_X9_quiet_44, st_X9_quiet_47, st_X9_quiet_50, st_X9_quiet_51, st_X9_quiet_52, st_X9_quiet_53, st_X9_quiet_56, st_X9_quiet_59, st_X9_quiet_62, st_X9_quiet_63, st_X9_quiet_67, st_X9_quiet_68, st_X9_quiet_71, st_X9_quiet_66, st_X9_quiet_74, st_X9_quiet_75, st_X9_quiet_11, Nat.reduceAdd, gP_r h30, gP_s h30, gP_n h30, nn_1, nn_8, nn_16, nn_24, nn_32, nn_40, nn_48, nn_suc, nn_out, nn_clamp, Int32.zero_add, nn_e0, nn_g0, nn_g120, show ¬ 120 < i by omega, b01, cond_true, nn_one0, if_true, if_false, e]
      | false =>
        refine ⟨w', s', n', v', k', hz', ?_⟩
        rw [seekR_f (by rw [h1, h2]; rfl), ← e', st_X9_quiet_19]
        simp (disch := omega) only [st_X9_quiet_0, st_X9_quiet_1 (p := 0) hq_0 ps_, bC_inl, Option.toList, List.cons_append, List.nil_append, Nat.add_zero, st_X9_quiet_4, st_X9_quiet_7, st_X9_quiet_8, lc_i, lc_r, lc_n, lc_j, lc_f, st_X9_quiet_12, st_X9_quiet_13, st_X9_quiet_14 (p := 0) hq_0 ps_, st_X9_quiet_17, st_X9_quiet_18, st_X9_quiet_20, st_X9_quiet_22, st_X9_quiet_25, bM_some, hg_0_1, st_X9_quiet_26, st_X9_quiet_29, hg_0_3, st_X9_quiet_30, st_X9_quiet_33 (p := 16) hq_16 ps_, st_X9_quiet_36, st_X9_quiet_37, st_X9_quiet_40, st_X9_quiet_41, hg_16_14, st_X9_quiet_44, st_X9_quiet_47, st_X9_quiet_50, st_X9_quiet_51, st_X9_quiet_52, st_X9_quiet_53, st_X9_quiet_56, st_X9_quiet_59, st_X9_quiet_62, st_X9_quiet_63, st_X9_quiet_67, st_X9_quiet_68, st_X9_quiet_71, st_X9_quiet_66, st_X9_quiet_74, st_X9_quiet_75, st_X9_quiet_11, Nat.reduceAdd, gP_r h30, gP_s h30, gP_n h30, nn_1, nn_8, nn_16, nn_24, nn_32, nn_40, nn_48, nn_suc, nn_out, nn_clamp, Int32.zero_add, nn_r1, nn_e0, nn_g0, nn_g120, show ¬ 120 < i by omega, b01, cond_false, Nat.lt_irrefl, if_true, if_false, e]
set_option maxHeartbeats 2000000 in
theorem c_quiet (hK : KN (kC g) N S D L) (hO : KO (kC g) N S D L) (hz : Z54 (g.1 29)) (hz' : Z54 (g.1 30)) : ∃ (w' : Rw) (s' : Int32) (n' : Int64) (v' k' : Rw), Z54 w' ∧
    bc (d + 4) M_X9_quiet none 0 [some (.ref 0), none, none] [] (hp t g) cn sn = some (.inl (some (.int (seekR (minR (kC g) N D L) (fun w w' => sang N w && !sang N w') 120 1 (g.1 29)))), hp t (gP g 30 w' s' n' v' k'), cn, sn) := by
  have h8 := hK.2.1
  have hs := setN_le (bS (g.1 29)) (n := 8) h8
  obtain ⟨w', s', n', v', k', h2, e⟩ := c_quiet_l (d := d) (t := t) (cn := cn) (sn := sn) hK hO 120 1 (by omega) (g.1 29) (g.1 16 14) (g.2.1 16 13) (g.1 28) (g.1 27) hz
  refine ⟨w', s', n', v', k', h2, ?_⟩
  rw [gP_tr] at e
  rw [← e]
  have hc := cnt_set (bS (g.1 29)) N
  by_cases h : setN (bS (g.1 29)) N = 0
  · rw [show sang N (g.1 29) = false by unfold sang; rw [decide_eq_true (hc.mpr h)]; rfl]
    simp (disch := omega) only [st_X9_quiet_0, st_X9_quiet_1 (p := 0) hq_0 ps_, bC_inl, Option.toList, List.cons_append, List.nil_append, Nat.add_zero, st_X9_quiet_4, st_X9_quiet_7, st_X9_quiet_8, lc_i, lc_r, lc_n, lc_j, lc_f, st_X9_quiet_12, st_X9_quiet_13, st_X9_quiet_14 (p := 0) hq_0 ps_, st_X9_quiet_17, st_X9_quiet_18, st_X9_quiet_20, st_X9_quiet_22, st_X9_quiet_25, bM_some, hg_0_1, st_X9_quiet_26, st_X9_quiet_29, hg_0_3, st_X9_quiet_30, st_X9_quiet_33 (p := 16) hq_16 ps_, st_X9_quiet_36, st_X9_quiet_37, st_X9_quiet_40, st_X9_quiet_41, hg_16_14, st_X9_quiet_44, st_X9_quiet_47, st_X9_quiet_50, st_X9_quiet_51, st_X9_quiet_52, st_X9_quiet_53, st_X9_quiet_56, st_X9_quiet_59, st_X9_quiet_62, st_X9_quiet_63, st_X9_quiet_67, st_X9_quiet_68, st_X9_quiet_71, st_X9_quiet_66, st_X9_quiet_74, st_X9_quiet_75, st_X9_quiet_11, Nat.reduceAdd, c_singing hK, nn_e0, h, c_trial hz hz', if_true, b01, cond_false]
    rfl
  · rw [show sang N (g.1 29) = true by unfold sang; rw [decide_eq_false (fun z => h (hc.mp z))]; rfl]
    simp (disch := omega) only [st_X9_quiet_0, st_X9_quiet_1 (p := 0) hq_0 ps_, bC_inl, Option.toList, List.cons_append, List.nil_append, Nat.add_zero, st_X9_quiet_4, st_X9_quiet_7, st_X9_quiet_8, lc_i, lc_r, lc_n, lc_j, lc_f, st_X9_quiet_12, st_X9_quiet_13, st_X9_quiet_14 (p := 0) hq_0 ps_, st_X9_quiet_17, st_X9_quiet_18, st_X9_quiet_20, st_X9_quiet_22, st_X9_quiet_25, bM_some, hg_0_1, st_X9_quiet_26, st_X9_quiet_29, hg_0_3, st_X9_quiet_30, st_X9_quiet_33 (p := 16) hq_16 ps_, st_X9_quiet_36, st_X9_quiet_37, st_X9_quiet_40, st_X9_quiet_41, hg_16_14, st_X9_quiet_44, st_X9_quiet_47, st_X9_quiet_50, st_X9_quiet_51, st_X9_quiet_52, st_X9_quiet_53, st_X9_quiet_56, st_X9_quiet_59, st_X9_quiet_62, st_X9_quiet_63, st_X9_quiet_67, st_X9_quiet_68, st_X9_quiet_71, st_X9_quiet_66, st_X9_quiet_74, st_X9_quiet_75, st_X9_quiet_11, Nat.reduceAdd, c_singing hK, nn_e0, h, c_trial hz hz', if_false, b01, cond_true]
    rfl
set_option maxHeartbeats 2000000 in
theorem c_loudest_l (hK : KN (kC g) N S D L) (hO : KO (kC g) N S D L) (hx : x = 0 ∨ x = 1) : ∀ m i : Nat, i + m = 61 → ∀ (w : Rw) (s : Int32) (n : Int64) (v k : Rw) (u : Int32 × Nat), Z54 w → u.2 ≤ 8 → ∃ (w' : Rw) (s' : Int32) (n' : Int64) (v' k' : Rw), Z54 w' ∧
    bc (d + 4) M_X9_loudest none 30 [some (.ref 0), some (.int x), some (.int u.1), some (.int (Int32.ofNat u.2)), some (.int (Int32.ofNat i))] [] (hp t (gP g 30 w s n v k)) cn sn = some (.inl (some (.int (if x = 0 then (loudR (minR (kC g) N D L) N m i w u).1 else Int32.ofNat (loudR (minR (kC g) N D L) N m i w u).2))), hp t (gP g 30 w' s' n' v' k'), cn, sn) := by
  have h8 := hK.2.1
  intro m
  induction m with
  | zero =>
    intro i hi w s n v k u hz hu
    refine ⟨w, s, n, v, k, hz, ?_⟩
    rw [st_X9_loudest_30]
    rcases hx with hx | hx <;> subst hx <;>
    simp (disch := omega) only [st_X9_loudest_0, st_X9_loudest_1, st_X9_loudest_4, st_X9_loudest_5, st_X9_loudest_6, st_X9_loudest_9, st_X9_loudest_19, lc_i, lc_r, lc_n, lc_j, lc_f, st_X9_loudest_20, st_X9_loudest_21, st_X9_loudest_22, st_X9_loudest_23, st_X9_loudest_24 (p := 0) hq_0 ps_, bC_inl, Option.toList, List.cons_append, List.nil_append, Nat.add_zero, st_X9_loudest_27, st_X9_loudest_28, st_X9_loudest_32, st_X9_loudest_34, st_X9_loudest_37, bM_some, hg_0_1, st_X9_loudest_38, st_X9_loudest_41, hg_0_3, st_X9_loudest_42, st_X9_loudest_45 (p := 16) hq_16 ps_, st_X9_loudest_48, st_X9_loudest_49, hg_16_14, st_X9_loudest_52, st_X9_loudest_55, st_X9_loudest_56, st_X9_loudest_59, st_X9_loudest_60, st_X9_loudest_63, st_X9_loudest_66, st_X9_loudest_67, st_X9_loudest_69, st_X9_loudest_70, st_X9_loudest_73, st_X9_loudest_76, st_X9_loudest_77, st_X9_loudest_80, st_X9_loudest_81, st_X9_loudest_85, st_X9_loudest_84, Nat.reduceAdd, nn_g60, show 60 < i by omega, if_true, if_false, nn_one0, loudR]
  | succ m ih =>
    intro i hi w s n v k u hz hu
    obtain ⟨v1, k1, e⟩ := c_min (d := d) (t := t) (cn := 0) (sn := 0) (w := w) (s := s) (n := n) (v := v) (k := k) h30 hK hO
    have hc := cntN_le (bS (minR (kC g) N D L w)) N
    by_cases h1 : u.2 < cntN (bS (minR (kC g) N D L w)) N
    · obtain ⟨w', s', n', v', k', hz', e'⟩ := ih (i + 1) (by omega) (minR (kC g) N D L w) (Int32.ofNat (cntN (bS (minR (kC g) N D L w)) N)) (notesN (minR (kC g) N D L w) N) v1 k1 (Int32.ofNat i, cntN (bS (minR (kC g) N D L w)) N) (Z54_min hK hO hz) (by show cntN (bS (minR (kC g) N D L w)) N ≤ 8; omega)
      refine ⟨w', s', n', v', k', hz', ?_⟩
      rw [show loudR (minR (kC g) N D L) N (m + 1) i w u = loudR (minR (kC g) N D L) N m (i + 1) (minR (kC g) N D L w) (Int32.ofNat i, cntN (bS (minR (kC g) N D L w)) N) by rw [loudR, if_pos h1]]
      rw [← e', st_X9_loudest_30]
      simp (disch := omega) only [st_X9_loudest_0, st_X9_loudest_1, st_X9_loudest_4, st_X9_loudest_5, st_X9_loudest_6, st_X9_loudest_9, st_X9_loudest_19, lc_i, lc_r, lc_n, lc_j, lc_f, st_X9_loudest_20, st_X9_loudest_21, st_X9_loudest_22, st_X9_loudest_23, st_X9_loudest_24 (p := 0) hq_0 ps_, bC_inl, Option.toList, List.cons_append, List.nil_append, Nat.add_zero, st_X9_loudest_27, st_X9_loudest_28, st_X9_loudest_32, st_X9_loudest_34, st_X9_loudest_37, bM_some, hg_0_1, st_X9_loudest_38, st_X9_loudest_41, hg_0_3, st_X9_loudest_42, st_X9_loudest_45 (p := 16) hq_16 ps_, st_X9_loudest_48, st_X9_loudest_49, hg_16_14, st_X9_loudest_52, st_X9_loudest_55, st_X9_loudest_56, st_X9_loudest_59, st_X9_loudest_60, st_X9_loudest_63, st_X9_loudest_66, st_X9_loudest_67, st_X9_loudest_69, st_X9_loudest_70, st_X9_loudest_73, st_X9_loudest_76, st_X9_loudest_77, st_X9_loudest_80, st_X9_loudest_81, st_X9_loudest_85, st_X9_loudest_84, Nat.reduceAdd, gP_r h30, gP_s h30, gP_n h30, nn_1, nn_8, nn_16, nn_24, nn_32, nn_40, nn_48, nn_suc, nn_out, nn_clamp, Int32.zero_add, nn_r1, nn_lt, nn_g60, show ¬ 60 < i by omega, h1, if_true, if_false, e]
    · obtain ⟨w', s', n', v', k', hz', e'⟩ := ih (i + 1) (by omega) (minR (kC g) N D L w) (Int32.ofNat (cntN (bS (minR (kC g) N D L w)) N)) (notesN (minR (kC g) N D L w) N) v1 k1 u (Z54_min hK hO hz) hu
      refine ⟨w', s', n', v', k', hz', ?_⟩
      rw [show loudR (minR (kC g) N D L) N (m + 1) i w u = loudR (minR (kC g) N D L) N m (i + 1) (minR (kC g) N D L w) u by rw [loudR, if_neg h1]]
      rw [← e', st_X9_loudest_30]
      simp (disch := omega) only [st_X9_loudest_0, st_X9_loudest_1, st_X9_loudest_4, st_X9_loudest_5, st_X9_loudest_6, st_X9_loudest_9, st_X9_loudest_19, lc_i, lc_r, lc_n, lc_j, lc_f, st_X9_loudest_20, st_X9_loudest_21, st_X9_loudest_22, st_X9_loudest_23, st_X9_loudest_24 (p := 0) hq_0 ps_, bC_inl, Option.toList, List.cons_append, List.nil_append, Nat.add_zero, st_X9_loudest_27, st_X9_loudest_28, st_X9_loudest_32, st_X9_loudest_34, st_X9_loudest_37, bM_some, hg_0_1, st_X9_loudest_38, st_X9_loudest_41, hg_0_3, st_X9_loudest_42, st_X9_loudest_45 (p := 16) hq_16 ps_, st_X9_loudest_48, st_X9_loudest_49, hg_16_14, st_X9_loudest_52, st_X9_loudest_55, st_X9_loudest_56, st_X9_loudest_59, st_X9_loudest_60, st_X9_loudest_63, st_X9_loudest_66, st_X9_loudest_67, st_X9_loudest_69, st_X9_loudest_70, st_X9_loudest_73, st_X9_loudest_76, st_X9_loudest_77, st_X9_loudest_80, st_X9_loudest_81, st_X9_loudest_85, st_X9_loudest_84, Nat.reduceAdd, gP_r h30, gP_s h30, gP_n h30, nn_1, nn_8, nn_16, nn_24, nn_32, nn_40, nn_48, nn_suc, nn_out, nn_clamp, Int32.zero_add, nn_r1, nn_lt, nn_g60, show ¬ 60 < i by omega, h1, if_false, e]
set_option maxHeartbeats 2000000 in
theorem c_loudest (hK : KN (kC g) N S D L) (hO : KO (kC g) N S D L) (hz : Z54 (g.1 29)) (hz' : Z54 (g.1 30)) (hx : x = 0 ∨ x = 1) : ∃ (w' : Rw) (s' : Int32) (n' : Int64) (v' k' : Rw), Z54 w' ∧
    bc (d + 4) M_X9_loudest none 0 [some (.ref 0), some (.int x), none, none, none] [] (hp t g) cn sn = some (.inl (some (.int (if x = 0 then (loudR (minR (kC g) N D L) N 60 1 (g.1 29) (-1, 0)).1 else Int32.ofNat (loudR (minR (kC g) N D L) N 60 1 (g.1 29) (-1, 0)).2))), hp t (gP g 30 w' s' n' v' k'), cn, sn) := by
  obtain ⟨w', s', n', v', k', h2, e⟩ := c_loudest_l (d := d) (t := t) (cn := cn) (sn := sn) hK hO hx 60 1 (by omega) (g.1 29) (g.1 16 14) (g.2.1 16 13) (g.1 28) (g.1 27) (-1, 0) hz (by decide)
  refine ⟨w', s', n', v', k', h2, ?_⟩
  rw [gP_tr] at e
  rw [← e]
  rcases hx with hx | hx <;> subst hx <;>
  simp (disch := omega) only [st_X9_loudest_0, st_X9_loudest_1, st_X9_loudest_4, st_X9_loudest_5, st_X9_loudest_6, st_X9_loudest_9, st_X9_loudest_19, lc_i, lc_r, lc_n, lc_j, lc_f, st_X9_loudest_20, st_X9_loudest_21, st_X9_loudest_22, st_X9_loudest_23, st_X9_loudest_24 (p := 0) hq_0 ps_, bC_inl, Option.toList, List.cons_append, List.nil_append, Nat.add_zero, st_X9_loudest_27, st_X9_loudest_28, st_X9_loudest_32, st_X9_loudest_34, st_X9_loudest_37, bM_some, hg_0_1, st_X9_loudest_38, st_X9_loudest_41, hg_0_3, st_X9_loudest_42, st_X9_loudest_45 (p := 16) hq_16 ps_, st_X9_loudest_48, st_X9_loudest_49, hg_16_14, st_X9_loudest_52, st_X9_loudest_55, st_X9_loudest_56, st_X9_loudest_59, st_X9_loudest_60, st_X9_loudest_63, st_X9_loudest_66, st_X9_loudest_67, st_X9_loudest_69, st_X9_loudest_70, st_X9_loudest_73, st_X9_loudest_76, st_X9_loudest_77, st_X9_loudest_80, st_X9_loudest_81, st_X9_loudest_85, st_X9_loudest_84, Nat.reduceAdd, c_trial hz hz', if_true, if_false, nn_one0] <;> rfl
theorem c_loudest_n (h0 : ¬ x = 0) (h1 : ¬ x = 1) : bc (d + 12) M_X9_loudest none 0 [some (.ref 0), some (.int x), none, none, none] [] (hp t g) cn sn = some (.inr 1, hp t g, cn + 1, sn + 6) := by
  simp (disch := omega) only [st_X9_loudest_0, st_X9_loudest_1, st_X9_loudest_4, st_X9_loudest_5, st_X9_loudest_6, st_X9_loudest_9, st_X9_loudest_19, lc_i, lc_r, lc_n, lc_j, lc_f, st_X9_loudest_20, st_X9_loudest_21, st_X9_loudest_22, st_X9_loudest_23, st_X9_loudest_24 (p := 0) hq_0 ps_, bC_inl, Option.toList, List.cons_append, List.nil_append, Nat.add_zero, st_X9_loudest_27, st_X9_loudest_28, st_X9_loudest_32, st_X9_loudest_34, st_X9_loudest_37, bM_some, hg_0_1, st_X9_loudest_38, st_X9_loudest_41, hg_0_3, st_X9_loudest_42, st_X9_loudest_45 (p := 16) hq_16 ps_, st_X9_loudest_48, st_X9_loudest_49, hg_16_14, st_X9_loudest_52, st_X9_loudest_55, st_X9_loudest_56, st_X9_loudest_59, st_X9_loudest_60, st_X9_loudest_63, st_X9_loudest_66, st_X9_loudest_67, st_X9_loudest_69, st_X9_loudest_70, st_X9_loudest_73, st_X9_loudest_76, st_X9_loudest_77, st_X9_loudest_80, st_X9_loudest_81, st_X9_loudest_85, st_X9_loudest_84, Nat.reduceAdd, h0, h1, if_false]
end CAHEAD2
