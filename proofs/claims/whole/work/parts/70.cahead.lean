/-! ===== KettleChoir: what only minutes bring ===== -/
theorem h29 : isRow 29 := Or.inl rfl
theorem h30 : isRow 30 := Or.inr (Or.inl rfl)
theorem h38 : isRow 38 := Or.inr (Or.inr (Or.inl rfl))
theorem h42 : isRow 42 := Or.inr (Or.inr (Or.inr rfl))
/-- the first of m minutes, counted from i, behind which P holds -/
def seekR (f : Rw → Rw) (P : Rw → Rw → Bool) : Nat → Nat → Rw → Int32
  | 0, _, _ => -1
  | m + 1, i, w => bif P w (f w) then Int32.ofNat i else seekR f P m (i + 1) (f w)
def iterR (f : Rw → Rw) : Nat → Rw → Rw
  | 0, w => w
  | m + 1, w => iterR f m (f w)
/-- the loudest minute: when, how many -/
def loudR (f : Rw → Rw) (N : Nat) : Nat → Nat → Rw → Int32 × Nat → Int32 × Nat
  | 0, _, _, q => q
  | m + 1, i, w, q => loudR f N m (i + 1) (f w) (if q.2 < cntN (bS (f w)) N then (Int32.ofNat i, cntN (bS (f w)) N) else q)
def sang (N : Nat) (w : Rw) : Bool := !decide (cntN (bS w) N = 0)
theorem cntN_le (b : Nat → Bool) : ∀ m : Nat, cntN b m ≤ m := by
  intro m
  induction m with
  | zero => exact Nat.le_refl 0
  | succ m ih => unfold cntN; cases b m <;> simp only [cond_true, cond_false] <;> omega
theorem cnt_set (b : Nat → Bool) : ∀ m : Nat, (cntN b m = 0 ↔ setN b m = 0) := by
  intro m
  induction m with
  | zero => exact ⟨fun _ => rfl, fun _ => rfl⟩
  | succ m ih =>
    unfold cntN setN
    have := Nat.two_pow_pos m
    cases b m <;> simp only [cond_true, cond_false] <;> omega
theorem seekR_t {f : Rw → Rw} {P : Rw → Rw → Bool} {m i : Nat} {w : Rw} (h : P w (f w) = true) : seekR f P (m + 1) i w = Int32.ofNat i := by unfold seekR; rw [h]; rfl
theorem seekR_f {f : Rw → Rw} {P : Rw → Rw → Bool} {m i : Nat} {w : Rw} (h : P w (f w) = false) : seekR f P (m + 1) i w = seekR f P m (i + 1) (f w) := by
  show (bif P w (f w) then Int32.ofNat i else seekR f P m (i + 1) (f w)) = _
  rw [h]; rfl
def bD (w : Rw) (j : Nat) : Bool := decide (w (16 + j) = 0)
section CAHEAD
variable {d : Nat} {t : List px_E} {g : hG} {N S D L j q cn sn : Nat} {w v k : Rw} {s : Int32} {n : Int64} {x : Int32} {K : Kt}
theorem gP_tr : gP g 30 w (g.1 16 14) (g.2.1 16 13) (g.1 28) (g.1 27) = hR g 30 w := by
  apply hG_ext
  · intro c j
    simp only [gP, hR_at, hI_at, hJ_at, hR_2, hI_2, hJ_1, hJ_22]
    (repeat' split) <;> first | rfl | simp_all
  · intro c j
    simp only [gP, hR_at, hI_at, hJ_at, hR_2, hI_2, hJ_1, hJ_22]
    (repeat' split) <;> first | rfl | simp_all
  · rfl
theorem minR_hi (hK : KN K N S D L) (hO : KO K N S D L) {i : Nat} (hi : 54 ≤ i) : minR K N D L w i = w i := by
  obtain ⟨u, e, q, -⟩ := minR_eq (w := w) hK hO
  have h8 := hK.2.1
  rw [e, upd_oth (by omega), q i (by omega), boilL_n h8 (by omega)]
  rw [loopR_lt (f := fun dd => readyM K N dd 61 0) (i := i) (B := 5) (fun j w hj => by
    unfold readyM
    repeat' split
    · rfl
    · exact upd_oth (by omega)
    · rfl) _ _ _ (by have := hK.2.2.2.2.2.1; omega)]
  exact (sgR_at h8).1 (by omega)
theorem Z54_min (hK : KN K N S D L) (hO : KO K N S D L) (h : Z54 w) : Z54 (minR K N D L w) := fun i hi => (minR_hi hK hO hi).trans (h i hi)

set_option maxHeartbeats 2000000 in
theorem c_sung_l (hK : KN (kC g) N S D L) (hO : KO (kC g) N S D L) (hj : j < 8) : ∀ m i : Nat, i + m = 121 → ∀ (w : Rw) (s : Int32) (n : Int64) (v k : Rw), Z54 w → ∃ (w' : Rw) (s' : Int32) (n' : Int64) (v' k' : Rw), Z54 w' ∧
    bc (d + 4) M_X9_sung none 11 [some (.ref 0), some (.int (Int32.ofNat j)), some (.int (Int32.ofNat i))] [] (hp t (gP g 30 w s n v k)) cn sn = some (.inl (some (.int (seekR (minR (kC g) N D L) (fun _ w' => bS w' j) m i w))), hp t (gP g 30 w' s' n' v' k'), cn, sn) := by
  intro m
  induction m with
  | zero =>
    intro i hi w s n v k hz
    refine ⟨w, s, n, v, k, hz, ?_⟩
    rw [st_X9_sung_11]
    simp (disch := omega) only [st_X9_sung_0, st_X9_sung_1, st_X9_sung_2 (p := 0) hq_0 ps_, bC_inl, Option.toList, List.cons_append, List.nil_append, Nat.add_zero, st_X9_sung_5, st_X9_sung_6 (p := 0) hq_0 ps_, st_X9_sung_9, lc_i, lc_r, lc_n, lc_j, lc_f, st_X9_sung_10, st_X9_sung_12, st_X9_sung_14, st_X9_sung_17, bM_some, hg_0_1, st_X9_sung_18, st_X9_sung_21, hg_0_3, st_X9_sung_22, st_X9_sung_25 (p := 16) hq_16 ps_, st_X9_sung_28, st_X9_sung_29, st_X9_sung_32, st_X9_sung_34, st_X9_sung_35, cond_false, ha_30, st_X9_sung_36, st_X9_sung_37, st_X9_sung_38, st_X9_sung_41, st_X9_sung_42, st_X9_sung_43, st_X9_sung_46, st_X9_sung_49, st_X9_sung_50, Nat.reduceAdd, nn_g120, show 120 < i by omega, if_true, seekR]
  | succ m ih =>
    intro i hi w s n v k hz
    obtain ⟨v1, k1, e⟩ := c_min (d := d) (t := t) (cn := 0) (sn := 0) (w := w) (s := s) (n := n) (v := v) (k := k) h30 hK hO
    by_cases h1 : (¬ minR (kC g) N D L w (40 + j) = -1)
    · refine ⟨minR (kC g) N D L w, Int32.ofNat (cntN (bS (minR (kC g) N D L w)) N), notesN (minR (kC g) N D L w) N, v1, k1, Z54_min hK hO hz, ?_⟩
      rw [seekR_t (by unfold bS; simp only [h1, decide_true, decide_false, Bool.not_false]), st_X9_sung_11]
      simp (disch := omega) only [st_X9_sung_0, st_X9_sung_1, st_X9_sung_2 (p := 0) hq_0 ps_, bC_inl, Option.toList, List.cons_append, List.nil_append, Nat.add_zero, st_X9_sung_5, st_X9_sung_6 (p := 0) hq_0 ps_, st_X9_sung_9, lc_i, lc_r, lc_n, lc_j, lc_f, st_X9_sung_10, st_X9_sung_12, st_X9_sung_14, st_X9_sung_17, bM_some, hg_0_1, st_X9_sung_18, st_X9_sung_21, hg_0_3, st_X9_sung_22, st_X9_sung_25 (p := 16) hq_16 ps_, st_X9_sung_28, st_X9_sung_29, st_X9_sung_32, st_X9_sung_34, st_X9_sung_35, cond_false, ha_30, st_X9_sung_36, st_X9_sung_37, st_X9_sung_38, st_X9_sung_41, st_X9_sung_42, st_X9_sung_43, st_X9_sung_46, st_X9_sung_49, st_X9_sung_50, Nat.reduceAdd, gP_r h30, gP_s h30, gP_n h30, nn_1, nn_8, nn_16, nn_24, nn_32, nn_40, nn_48, nn_suc, nn_out, nn_clamp, Int32.zero_add, nn_g120, show ¬ 120 < i by omega, if_true, if_false, e, h1]
    · try rw [Classical.not_not] at h1
      obtain ⟨w', s', n', v', k', hz', e'⟩ := ih (i + 1) (by omega) (minR (kC g) N D L w) (Int32.ofNat (cntN (bS (minR (kC g) N D L w)) N)) (notesN (minR (kC g) N D L w) N) v1 k1 (Z54_min hK hO hz)
      refine ⟨w', s', n', v', k', hz', ?_⟩
      rw [seekR_f (by unfold bS; simp only [h1, decide_true, decide_false, Bool.not_true]), ← e', st_X9_sung_11]
      simp (disch := omega) only [st_X9_sung_0, st_X9_sung_1, st_X9_sung_2 (p := 0) hq_0 ps_, bC_inl, Option.toList, List.cons_append, List.nil_append, Nat.add_zero, st_X9_sung_5, st_X9_sung_6 (p := 0) hq_0 ps_, st_X9_sung_9, lc_i, lc_r, lc_n, lc_j, lc_f, st_X9_sung_10, st_X9_sung_12, st_X9_sung_14, st_X9_sung_17, bM_some, hg_0_1, st_X9_sung_18, st_X9_sung_21, hg_0_3, st_X9_sung_22, st_X9_sung_25 (p := 16) hq_16 ps_, st_X9_sung_28, st_X9_sung_29, st_X9_sung_32, st_X9_sung_34, st_X9_sung_35, cond_false, ha_30, st_X9_sung_36, st_X9_sung_37, st_X9_sung_38, st_X9_sung_41, st_X9_sung_42, st_X9_sung_43, st_X9_sung_46, st_X9_sung_49, st_X9_sung_50, Nat.reduceAdd, gP_r h30, gP_s h30, gP_n h30, nn_1, nn_8, nn_16, nn_24, nn_32, nn_40, nn_48, nn_suc, nn_out, nn_clamp, Int32.zero_add, nn_r1, nn_g120, show ¬ 120 < i by omega, if_true, if_false, e, h1]

set_option maxHeartbeats 2000000 in
theorem c_done_l (hK : KN (kC g) N S D L) (hO : KO (kC g) N S D L) (hj : j < 5) : ∀ m i : Nat, i + m = 121 → ∀ (w : Rw) (s : Int32) (n : Int64) (v k : Rw), Z54 w → ∃ (w' : Rw) (s' : Int32) (n' : Int64) (v' k' : Rw), Z54 w' ∧
    bc (d + 4) M_X9_done none 26 [some (.ref 0), some (.int (Int32.ofNat j)), some (.int (Int32.ofNat i))] [] (hp t (gP g 30 w s n v k)) cn sn = some (.inl (some (.int (seekR (minR (kC g) N D L) (fun _ w' => bR w' j) m i w))), hp t (gP g 30 w' s' n' v' k'), cn, sn) := by
  intro m
  induction m with
  | zero =>
    intro i hi w s n v k hz
    refine ⟨w, s, n, v, k, hz, ?_⟩
    rw [st_X9_done_26]
    simp (disch := omega) only [st_X9_done_0, st_X9_done_1, st_X9_done_2 (p := 0) hq_0 ps_, bC_inl, Option.toList, List.cons_append, List.nil_append, Nat.add_zero, st_X9_done_5, st_X9_done_6 (p := 0) hq_0 ps_, st_X9_done_9, bM_some, hg_0_3, st_X9_done_10, st_X9_done_13, st_X9_done_15, st_X9_done_16, cond_false, ha_30, st_X9_done_17, st_X9_done_18, st_X9_done_19, st_X9_done_22, st_X9_done_23, st_X9_done_24, lc_i, lc_r, lc_n, lc_j, lc_f, st_X9_done_25, st_X9_done_27, st_X9_done_29, st_X9_done_32, hg_0_1, st_X9_done_33, st_X9_done_36, st_X9_done_37, st_X9_done_40 (p := 16) hq_16 ps_, st_X9_done_43, st_X9_done_44, st_X9_done_47, st_X9_done_49, st_X9_done_50, st_X9_done_51, st_X9_done_52, st_X9_done_53, st_X9_done_56, st_X9_done_57, st_X9_done_58, st_X9_done_61, st_X9_done_64, st_X9_done_65, Nat.reduceAdd, nn_g120, show 120 < i by omega, if_true, seekR]
  | succ m ih =>
    intro i hi w s n v k hz
    obtain ⟨v1, k1, e⟩ := c_min (d := d) (t := t) (cn := 0) (sn := 0) (w := w) (s := s) (n := n) (v := v) (k := k) h30 hK hO
    by_cases h1 : (¬ minR (kC g) N D L w (48 + j) = -1)
    · refine ⟨minR (kC g) N D L w, Int32.ofNat (cntN (bS (minR (kC g) N D L w)) N), notesN (minR (kC g) N D L w) N, v1, k1, Z54_min hK hO hz, ?_⟩
      rw [seekR_t (by unfold bR; simp only [h1, decide_true, decide_false, Bool.not_false]), st_X9_done_26]
      simp (disch := omega) only [st_X9_done_0, st_X9_done_1, st_X9_done_2 (p := 0) hq_0 ps_, bC_inl, Option.toList, List.cons_append, List.nil_append, Nat.add_zero, st_X9_done_5, st_X9_done_6 (p := 0) hq_0 ps_, st_X9_done_9, bM_some, hg_0_3, st_X9_done_10, st_X9_done_13, st_X9_done_15, st_X9_done_16, cond_false, ha_30, st_X9_done_17, st_X9_done_18, st_X9_done_19, st_X9_done_22, st_X9_done_23, st_X9_done_24, lc_i, lc_r, lc_n, lc_j, lc_f, st_X9_done_25, st_X9_done_27, st_X9_done_29, st_X9_done_32, hg_0_1, st_X9_done_33, st_X9_done_36, st_X9_done_37, st_X9_done_40 (p := 16) hq_16 ps_, st_X9_done_43, st_X9_done_44, st_X9_done_47, st_X9_done_49, st_X9_done_50, st_X9_done_51, st_X9_done_52, st_X9_done_53, st_X9_done_56, st_X9_done_57, st_X9_done_58, st_X9_done_61, st_X9_done_64, st_X9_done_65, Nat.reduceAdd, gP_r h30, gP_s h30, gP_n h30, nn_1, nn_8, nn_16, nn_24, nn_32, nn_40, nn_48, nn_suc, nn_out, nn_clamp, Int32.zero_add, nn_g120, show ¬ 120 < i by omega, if_true, if_false, e, h1]
    · try rw [Classical.not_not] at h1
      obtain ⟨w', s', n', v', k', hz', e'⟩ := ih (i + 1) (by omega) (minR (kC g) N D L w) (Int32.ofNat (cntN (bS (minR (kC g) N D L w)) N)) (notesN (minR (kC g) N D L w) N) v1 k1 (Z54_min hK hO hz)
      refine ⟨w', s', n', v', k', hz', ?_⟩
      rw [seekR_f (by unfold bR; simp only [h1, decide_true, decide_false, Bool.not_true]), ← e', st_X9_done_26]
      simp (disch := omega) only [st_X9_done_0, st_X9_done_1, st_X9_done_2 (p := 0) hq_0 ps_, bC_inl, Option.toList, List.cons_append, List.nil_append, Nat.add_zero, st_X9_done_5, st_X9_done_6 (p := 0) hq_0 ps_, st_X9_done_9, bM_some, hg_0_3, st_X9_done_10, st_X9_done_13, st_X9_done_15, st_X9_done_16, cond_false, ha_30, st_X9_done_17, st_X9_done_18, st_X9_done_19, st_X9_done_22, st_X9_done_23, st_X9_done_24, lc_i, lc_r, lc_n, lc_j, lc_f, st_X9_done_25, st_X9_done_27, st_X9_done_29, st_X9_done_32, hg_0_1, st_X9_done_33, st_X9_done_36, st_X9_done_37, st_X9_done_40 (p := 16) hq_16 ps_, st_X9_done_43, st_X9_done_44, st_X9_done_47, st_X9_done_49, st_X9_done_50, st_X9_done_51, st_X9_done_52, st_X9_done_53, st_X9_done_56, st_X9_done_57, st_X9_done_58, st_X9_done_61, st_X9_done_64, st_X9_done_65, Nat.reduceAdd, gP_r h30, gP_s h30, gP_n h30, nn_1, nn_8, nn_16, nn_24, nn_32, nn_40, nn_48, nn_suc, nn_out, nn_clamp, Int32.zero_add, nn_r1, nn_g120, show ¬ 120 < i by omega, if_true, if_false, e, h1]

set_option maxHeartbeats 2000000 in
theorem c_dry_l (hK : KN (kC g) N S D L) (hO : KO (kC g) N S D L) (hj : j < 8) : ∀ m i : Nat, i + m = 121 → ∀ (w : Rw) (s : Int32) (n : Int64) (v k : Rw), Z54 w → ∃ (w' : Rw) (s' : Int32) (n' : Int64) (v' k' : Rw), Z54 w' ∧
    bc (d + 4) M_X9_dry none 25 [some (.ref 0), some (.int (Int32.ofNat j)), some (.int (Int32.ofNat i))] [] (hp t (gP g 30 w s n v k)) cn sn = some (.inl (some (.int (seekR (minR (kC g) N D L) (fun _ w' => bD w' j) m i w))), hp t (gP g 30 w' s' n' v' k'), cn, sn) := by
  intro m
  induction m with
  | zero =>
    intro i hi w s n v k hz
    refine ⟨w, s, n, v, k, hz, ?_⟩
    rw [st_X9_dry_25]
    simp (disch := omega) only [st_X9_dry_0, st_X9_dry_1, st_X9_dry_2 (p := 0) hq_0 ps_, bC_inl, Option.toList, List.cons_append, List.nil_append, Nat.add_zero, st_X9_dry_5, st_X9_dry_6 (p := 0) hq_0 ps_, st_X9_dry_9, bM_some, hg_0_3, st_X9_dry_10, st_X9_dry_13, st_X9_dry_15, st_X9_dry_16, cond_false, ha_30, st_X9_dry_17, st_X9_dry_18, st_X9_dry_21, st_X9_dry_22, st_X9_dry_23, lc_i, lc_r, lc_n, lc_j, lc_f, st_X9_dry_24, st_X9_dry_26, st_X9_dry_28, st_X9_dry_31, hg_0_1, st_X9_dry_32, st_X9_dry_35, st_X9_dry_36, st_X9_dry_39 (p := 16) hq_16 ps_, st_X9_dry_42, st_X9_dry_43, st_X9_dry_46, st_X9_dry_48, st_X9_dry_49, st_X9_dry_50, st_X9_dry_51, st_X9_dry_54, st_X9_dry_55, st_X9_dry_56, st_X9_dry_59, st_X9_dry_62, st_X9_dry_63, Nat.reduceAdd, nn_g120, show 120 < i by omega, if_true, seekR]
  | succ m ih =>
    intro i hi w s n v k hz
    obtain ⟨v1, k1, e⟩ := c_min (d := d) (t := t) (cn := 0) (sn := 0) (w := w) (s := s) (n := n) (v := v) (k := k) h30 hK hO
    by_cases h1 : (minR (kC g) N D L w (16 + j) = 0)
    · refine ⟨minR (kC g) N D L w, Int32.ofNat (cntN (bS (minR (kC g) N D L w)) N), notesN (minR (kC g) N D L w) N, v1, k1, Z54_min hK hO hz, ?_⟩
      rw [seekR_t (by unfold bD; simp only [h1, decide_true, decide_false, Bool.not_false]), st_X9_dry_25]
      simp (disch := omega) only [st_X9_dry_0, st_X9_dry_1, st_X9_dry_2 (p := 0) hq_0 ps_, bC_inl, Option.toList, List.cons_append, List.nil_append, Nat.add_zero, st_X9_dry_5, st_X9_dry_6 (p := 0) hq_0 ps_, st_X9_dry_9, bM_some, hg_0_3, st_X9_dry_10, st_X9_dry_13, st_X9_dry_15, st_X9_dry_16, cond_false, ha_30, st_X9_dry_17, st_X9_dry_18, st_X9_dry_21, st_X9_dry_22, st_X9_dry_23, lc_i, lc_r, lc_n, lc_j, lc_f, st_X9_dry_24, st_X9_dry_26, st_X9_dry_28, st_X9_dry_31, hg_0_1, st_X9_dry_32, st_X9_dry_35, st_X9_dry_36, st_X9_dry_39 (p := 16) hq_16 ps_, st_X9_dry_42, st_X9_dry_43, st_X9_dry_46, st_X9_dry_48, st_X9_dry_49, st_X9_dry_50, st_X9_dry_51, st_X9_dry_54, st_X9_dry_55, st_X9_dry_56, st_X9_dry_59, st_X9_dry_62, st_X9_dry_63, Nat.reduceAdd, gP_r h30, gP_s h30, gP_n h30, nn_1, nn_8, nn_16, nn_24, nn_32, nn_40, nn_48, nn_suc, nn_out, nn_clamp, Int32.zero_add, nn_g120, show ¬ 120 < i by omega, if_true, if_false, e, h1]
    · try rw [Classical.not_not] at h1
      obtain ⟨w', s', n', v', k', hz', e'⟩ := ih (i + 1) (by omega) (minR (kC g) N D L w) (Int32.ofNat (cntN (bS (minR (kC g) N D L w)) N)) (notesN (minR (kC g) N D L w) N) v1 k1 (Z54_min hK hO hz)
      refine ⟨w', s', n', v', k', hz', ?_⟩
      rw [seekR_f (by unfold bD; simp only [h1, decide_true, decide_false, Bool.not_true]), ← e', st_X9_dry_25]
      simp (disch := omega) only [st_X9_dry_0, st_X9_dry_1, st_X9_dry_2 (p := 0) hq_0 ps_, bC_inl, Option.toList, List.cons_append, List.nil_append, Nat.add_zero, st_X9_dry_5, st_X9_dry_6 (p := 0) hq_0 ps_, st_X9_dry_9, bM_some, hg_0_3, st_X9_dry_10, st_X9_dry_13, st_X9_dry_15, st_X9_dry_16, cond_false, ha_30, st_X9_dry_17, st_X9_dry_18, st_X9_dry_21, st_X9_dry_22, st_X9_dry_23, lc_i, lc_r, lc_n, lc_j, lc_f, st_X9_dry_24, st_X9_dry_26, st_X9_dry_28, st_X9_dry_31, hg_0_1, st_X9_dry_32, st_X9_dry_35, st_X9_dry_36, st_X9_dry_39 (p := 16) hq_16 ps_, st_X9_dry_42, st_X9_dry_43, st_X9_dry_46, st_X9_dry_48, st_X9_dry_49, st_X9_dry_50, st_X9_dry_51, st_X9_dry_54, st_X9_dry_55, st_X9_dry_56, st_X9_dry_59, st_X9_dry_62, st_X9_dry_63, Nat.reduceAdd, gP_r h30, gP_s h30, gP_n h30, nn_1, nn_8, nn_16, nn_24, nn_32, nn_40, nn_48, nn_suc, nn_out, nn_clamp, Int32.zero_add, nn_r1, nn_g120, show ¬ 120 < i by omega, if_true, if_false, e, h1]

set_option maxHeartbeats 2000000 in
theorem c_sung (hK : KN (kC g) N S D L) (hO : KO (kC g) N S D L) (hz : Z54 (g.1 29)) (hz' : Z54 (g.1 30)) (hj : j < N) : ∃ (w' : Rw) (s' : Int32) (n' : Int64) (v' k' : Rw), Z54 w' ∧
    bc (d + 4) M_X9_sung none 0 [some (.ref 0), some (.int (Int32.ofNat j)), none] [] (hp t g) cn sn = some (.inl (some (.int (seekR (minR (kC g) N D L) (fun _ w' => bS w' j) 120 1 (g.1 29)))), hp t (gP g 30 w' s' n' v' k'), cn, sn) := by
  have h8 := hK.2.1
  obtain ⟨w', s', n', v', k', h1, e⟩ := c_sung_l (d := d) (t := t) (cn := cn) (sn := sn) (j := j) hK hO (by omega) 120 1 (by omega) (g.1 29) (g.1 16 14) (g.2.1 16 13) (g.1 28) (g.1 27) hz
  refine ⟨w', s', n', v', k', h1, ?_⟩
  rw [gP_tr] at e
  rw [← e]
  simp (disch := omega) only [st_X9_sung_0, st_X9_sung_1, st_X9_sung_2 (p := 0) hq_0 ps_, bC_inl, Option.toList, List.cons_append, List.nil_append, Nat.add_zero, st_X9_sung_5, st_X9_sung_6 (p := 0) hq_0 ps_, st_X9_sung_9, lc_i, lc_r, lc_n, lc_j, lc_f, st_X9_sung_10, st_X9_sung_12, st_X9_sung_14, st_X9_sung_17, bM_some, hg_0_1, st_X9_sung_18, st_X9_sung_21, hg_0_3, st_X9_sung_22, st_X9_sung_25 (p := 16) hq_16 ps_, st_X9_sung_28, st_X9_sung_29, st_X9_sung_32, st_X9_sung_34, st_X9_sung_35, cond_false, ha_30, st_X9_sung_36, st_X9_sung_37, st_X9_sung_38, st_X9_sung_41, st_X9_sung_42, st_X9_sung_43, st_X9_sung_46, st_X9_sung_49, st_X9_sung_50, Nat.reduceAdd, nk_y hK hj, c_trial hz hz']
  rfl
set_option maxHeartbeats 2000000 in
theorem c_done (hK : KN (kC g) N S D L) (hO : KO (kC g) N S D L) (hz : Z54 (g.1 29)) (hz' : Z54 (g.1 30)) (hj : j < D) : ∃ (w' : Rw) (s' : Int32) (n' : Int64) (v' k' : Rw), Z54 w' ∧
    bc (d + 4) M_X9_done none 0 [some (.ref 0), some (.int (Int32.ofNat j)), none] [] (hp t g) cn sn = some (.inl (some (.int (if g.1 29 (48 + j) = -1 then seekR (minR (kC g) N D L) (fun _ w' => bR w' j) 120 1 (g.1 29) else 0))), hp t (gP g 30 w' s' n' v' k'), cn, sn) := by
  have h5 := hK.2.2.2.2.2.1
  by_cases h : g.1 29 (48 + j) = -1
  · obtain ⟨w', s', n', v', k', h1, e⟩ := c_done_l (d := d) (t := t) (cn := cn) (sn := sn) (j := j) hK hO (by omega) 120 1 (by omega) (g.1 29) (g.1 16 14) (g.2.1 16 13) (g.1 28) (g.1 27) hz
    refine ⟨w', s', n', v', k', h1, ?_⟩
    rw [gP_tr] at e
    rw [if_pos h, ← e]
    simp (disch := omega) only [st_X9_done_0, st_X9_done_1, st_X9_done_2 (p := 0) hq_0 ps_, bC_inl, Option.toList, List.cons_append, List.nil_append, Nat.add_zero, st_X9_done_5, st_X9_done_6 (p := 0) hq_0 ps_, st_X9_done_9, bM_some, hg_0_3, st_X9_done_10, st_X9_done_13, st_X9_done_15, st_X9_done_16, cond_false, ha_30, st_X9_done_17, st_X9_done_18, st_X9_done_19, st_X9_done_22, st_X9_done_23, st_X9_done_24, lc_i, lc_r, lc_n, lc_j, lc_f, st_X9_done_25, st_X9_done_27, st_X9_done_29, st_X9_done_32, hg_0_1, st_X9_done_33, st_X9_done_36, st_X9_done_37, st_X9_done_40 (p := 16) hq_16 ps_, st_X9_done_43, st_X9_done_44, st_X9_done_47, st_X9_done_49, st_X9_done_50, st_X9_done_51, st_X9_done_52, st_X9_done_53, st_X9_done_56, st_X9_done_57, st_X9_done_58, st_X9_done_61, st_X9_done_64, st_X9_done_65, Nat.reduceAdd, nn_1, nn_8, nn_16, nn_24, nn_32, nn_40, nn_48, nn_suc, nn_out, nn_clamp, Int32.zero_add, nd_y hK hj, c_trial hz hz', hR_same, h, if_true]
    rfl
  · refine ⟨g.1 29, g.1 16 14, g.2.1 16 13, g.1 28, g.1 27, hz, ?_⟩
    rw [gP_tr, if_neg h]
    simp (disch := omega) only [st_X9_done_0, st_X9_done_1, st_X9_done_2 (p := 0) hq_0 ps_, bC_inl, Option.toList, List.cons_append, List.nil_append, Nat.add_zero, st_X9_done_5, st_X9_done_6 (p := 0) hq_0 ps_, st_X9_done_9, bM_some, hg_0_3, st_X9_done_10, st_X9_done_13, st_X9_done_15, st_X9_done_16, cond_false, ha_30, st_X9_done_17, st_X9_done_18, st_X9_done_19, st_X9_done_22, st_X9_done_23, st_X9_done_24, lc_i, lc_r, lc_n, lc_j, lc_f, st_X9_done_25, st_X9_done_27, st_X9_done_29, st_X9_done_32, hg_0_1, st_X9_done_33, st_X9_done_36, st_X9_done_37, st_X9_done_40 (p := 16) hq_16 ps_, st_X9_done_43, st_X9_done_44, st_X9_done_47, st_X9_done_49, st_X9_done_50, st_X9_done_51, st_X9_done_52, st_X9_done_53, st_X9_done_56, st_X9_done_57, st_X9_done_58, st_X9_done_61, st_X9_done_64, st_X9_done_65, Nat.reduceAdd, nn_1, nn_8, nn_16, nn_24, nn_32, nn_40, nn_48, nn_suc, nn_out, nn_clamp, Int32.zero_add, nd_y hK hj, c_trial hz hz', hR_same, h, if_false]
set_option maxHeartbeats 2000000 in
theorem c_dry (hK : KN (kC g) N S D L) (hO : KO (kC g) N S D L) (hz : Z54 (g.1 29)) (hz' : Z54 (g.1 30)) (hj : j < N) : ∃ (w' : Rw) (s' : Int32) (n' : Int64) (v' k' : Rw), Z54 w' ∧
    bc (d + 4) M_X9_dry none 0 [some (.ref 0), some (.int (Int32.ofNat j)), none] [] (hp t g) cn sn = some (.inl (some (.int (if g.1 29 (16 + j) = 0 then 0 else seekR (minR (kC g) N D L) (fun _ w' => bD w' j) 120 1 (g.1 29)))), hp t (gP g 30 w' s' n' v' k'), cn, sn) := by
  have h8 := hK.2.1
  by_cases h : g.1 29 (16 + j) = 0
  · refine ⟨g.1 29, g.1 16 14, g.2.1 16 13, g.1 28, g.1 27, hz, ?_⟩
    rw [gP_tr, if_pos h]
    simp (disch := omega) only [st_X9_dry_0, st_X9_dry_1, st_X9_dry_2 (p := 0) hq_0 ps_, bC_inl, Option.toList, List.cons_append, List.nil_append, Nat.add_zero, st_X9_dry_5, st_X9_dry_6 (p := 0) hq_0 ps_, st_X9_dry_9, bM_some, hg_0_3, st_X9_dry_10, st_X9_dry_13, st_X9_dry_15, st_X9_dry_16, cond_false, ha_30, st_X9_dry_17, st_X9_dry_18, st_X9_dry_21, st_X9_dry_22, st_X9_dry_23, lc_i, lc_r, lc_n, lc_j, lc_f, st_X9_dry_24, st_X9_dry_26, st_X9_dry_28, st_X9_dry_31, hg_0_1, st_X9_dry_32, st_X9_dry_35, st_X9_dry_36, st_X9_dry_39 (p := 16) hq_16 ps_, st_X9_dry_42, st_X9_dry_43, st_X9_dry_46, st_X9_dry_48, st_X9_dry_49, st_X9_dry_50, st_X9_dry_51, st_X9_dry_54, st_X9_dry_55, st_X9_dry_56, st_X9_dry_59, st_X9_dry_62, st_X9_dry_63, Nat.reduceAdd, nn_1, nn_8, nn_16, nn_24, nn_32, nn_40, nn_48, nn_suc, nn_out, nn_clamp, Int32.zero_add, nk_y hK hj, c_trial hz hz', hR_same, h, if_true]
  · obtain ⟨w', s', n', v', k', h1, e⟩ := c_dry_l (d := d) (t := t) (cn := cn) (sn := sn) (j := j) hK hO (by omega) 120 1 (by omega) (g.1 29) (g.1 16 14) (g.2.1 16 13) (g.1 28) (g.1 27) hz
    refine ⟨w', s', n', v', k', h1, ?_⟩
    rw [gP_tr] at e
    rw [if_neg h, ← e]
    simp (disch := omega) only [st_X9_dry_0, st_X9_dry_1, st_X9_dry_2 (p := 0) hq_0 ps_, bC_inl, Option.toList, List.cons_append, List.nil_append, Nat.add_zero, st_X9_dry_5, st_X9_dry_6 (p := 0) hq_0 ps_, st_X9_dry_9, bM_some, hg_0_3, st_X9_dry_10, st_X9_dry_13, st_X9_dry_15, st_X9_dry_16, cond_false, ha_30, st_X9_dry_17, st_X9_dry_18, st_X9_dry_21, st_X9_dry_22, st_X9_dry_23, lc_i, lc_r, lc_n, lc_j, lc_f, st_X9_dry_24, st_X9_dry_26, st_X9_dry_28, st_X9_dry_31, hg_0_1, st_X9_dry_32, st_X9_dry_35, st_X9_dry_36, st_X9_dry_39 (p := 16) hq_16 ps_, st_X9_dry_42, st_X9_dry_43, st_X9_dry_46, st_X9_dry_48, st_X9_dry_49, st_X9_dry_50, st_X9_dry_51, st_X9_dry_54, st_X9_dry_55, st_X9_dry_56, st_X9_dry_59, st_X9_dry_62, st_X9_dry_63, Nat.reduceAdd, nn_1, nn_8, nn_16, nn_24, nn_32, nn_40, nn_48, nn_suc, nn_out, nn_clamp, Int32.zero_add, nk_y hK hj, c_trial hz hz', hR_same, h, if_false]
    rfl
set_option maxHeartbeats 2000000 in
theorem c_fugue_l (hK : KN (kC g) N S D L) (hO : KO (kC g) N S D L) (hq : q ≤ 8) : ∀ m i : Nat, i + m = 121 → ∀ (w : Rw) (s : Int32) (n : Int64) (v k : Rw), Z54 w → ∃ (w' : Rw) (s' : Int32) (n' : Int64) (v' k' : Rw), Z54 w' ∧
    bc (d + 4) M_X9_fugue none 27 [some (.ref 0), some (.int (Int32.ofNat q)), some (.int (Int32.ofNat i))] [] (hp t (gP g 30 w s n v k)) cn sn = some (.inl (some (.int (seekR (minR (kC g) N D L) (fun _ w' => decide (q ≤ cntN (bS w') N)) m i w))), hp t (gP g 30 w' s' n' v' k'), cn, sn) := by
  have h8 := hK.2.1
  intro m
  induction m with
  | zero =>
    intro i hi w s n v k hz
    refine ⟨w, s, n, v, k, hz, ?_⟩
    rw [st_X9_fugue_27]
    simp (disch := omega) only [st_X9_fugue_0, st_X9_fugue_1, st_X9_fugue_2, st_X9_fugue_5, st_X9_fugue_6, st_X9_fugue_8, st_X9_fugue_11, st_X9_fugue_21, st_X9_fugue_22 (p := 0) hq_0 ps_, bC_inl, Option.toList, List.cons_append, List.nil_append, Nat.add_zero, st_X9_fugue_25, lc_i, lc_r, lc_n, lc_j, lc_f, st_X9_fugue_26, st_X9_fugue_28, st_X9_fugue_30, st_X9_fugue_33, bM_some, hg_0_1, st_X9_fugue_34, st_X9_fugue_37, hg_0_3, st_X9_fugue_38, st_X9_fugue_41 (p := 16) hq_16 ps_, st_X9_fugue_44, st_X9_fugue_45, hg_16_14, st_X9_fugue_48, st_X9_fugue_51, st_X9_fugue_52, st_X9_fugue_55, st_X9_fugue_56, st_X9_fugue_57, st_X9_fugue_60, st_X9_fugue_63, st_X9_fugue_64, Nat.reduceAdd, nn_g120, show 120 < i by omega, if_true, seekR]
  | succ m ih =>
    intro i hi w s n v k hz
    obtain ⟨v1, k1, e⟩ := c_min (d := d) (t := t) (cn := 0) (sn := 0) (w := w) (s := s) (n := n) (v := v) (k := k) h30 hK hO
    have hc := cntN_le (bS (minR (kC g) N D L w)) N
    by_cases h1 : cntN (bS (minR (kC g) N D L w)) N < q
    · obtain ⟨w', s', n', v', k', hz', e'⟩ := ih (i + 1) (by omega) (minR (kC g) N D L w) (Int32.ofNat (cntN (bS (minR (kC g) N D L w)) N)) (notesN (minR (kC g) N D L w) N) v1 k1 (Z54_min hK hO hz)
      refine ⟨w', s', n', v', k', hz', ?_⟩
      rw [seekR_f (decide_eq_false (by omega)), ← e', st_X9_fugue_27]
      simp (disch := omega) only [st_X9_fugue_0, st_X9_fugue_1, st_X9_fugue_2, st_X9_fugue_5, st_X9_fugue_6, st_X9_fugue_8, st_X9_fugue_11, st_X9_fugue_21, st_X9_fugue_22 (p := 0) hq_0 ps_, bC_inl, Option.toList, List.cons_append, List.nil_append, Nat.add_zero, st_X9_fugue_25, lc_i, lc_r, lc_n, lc_j, lc_f, st_X9_fugue_26, st_X9_fugue_28, st_X9_fugue_30, st_X9_fugue_33, bM_some, hg_0_1, st_X9_fugue_34, st_X9_fugue_37, hg_0_3, st_X9_fugue_38, st_X9_fugue_41 (p := 16) hq_16 ps_, st_X9_fugue_44, st_X9_fugue_45, hg_16_14, st_X9_fugue_48, st_X9_fugue_51, st_X9_fugue_52, st_X9_fugue_55, st_X9_fugue_56, st_X9_fugue_57, st_X9_fugue_60, st_X9_fugue_63, st_X9_fugue_64, Nat.reduceAdd, gP_r h30, gP_s h30, gP_n h30, nn_1, nn_8, nn_16, nn_24, nn_32, nn_40, nn_48, nn_suc, nn_out, nn_clamp, Int32.zero_add, nn_r1, nn_lt, nn_g120, show ¬ 120 < i by omega, if_true, if_false, e, h1]
    · refine ⟨minR (kC g) N D L w, Int32.ofNat (cntN (bS (minR (kC g) N D L w)) N), notesN (minR (kC g) N D L w) N, v1, k1, Z54_min hK hO hz, ?_⟩
      rw [seekR_t (decide_eq_true (by omega)), st_X9_fugue_27]
      simp (disch := omega) only [st_X9_fugue_0, st_X9_fugue_1, st_X9_fugue_2, st_X9_fugue_5, st_X9_fugue_6, st_X9_fugue_8, st_X9_fugue_11, st_X9_fugue_21, st_X9_fugue_22 (p := 0) hq_0 ps_, bC_inl, Option.toList, List.cons_append, List.nil_append, Nat.add_zero, st_X9_fugue_25, lc_i, lc_r, lc_n, lc_j, lc_f, st_X9_fugue_26, st_X9_fugue_28, st_X9_fugue_30, st_X9_fugue_33, bM_some, hg_0_1, st_X9_fugue_34, st_X9_fugue_37, hg_0_3, st_X9_fugue_38, st_X9_fugue_41 (p := 16) hq_16 ps_, st_X9_fugue_44, st_X9_fugue_45, hg_16_14, st_X9_fugue_48, st_X9_fugue_51, st_X9_fugue_52, st_X9_fugue_55, st_X9_fugue_56, st_X9_fugue_57, st_X9_fugue_60, st_X9_fugue_63, st_X9_fugue_64, Nat.reduceAdd, gP_r h30, gP_s h30, gP_n h30, nn_1, nn_8, nn_16, nn_24, nn_32, nn_40, nn_48, nn_suc, nn_out, nn_clamp, Int32.zero_add, nn_lt, nn_g120, show ¬ 120 < i by omega, if_false, e, h1]
set_option maxHeartbeats 2000000 in
theorem c_fugue (hK : KN (kC g) N S D L) (hO : KO (kC g) N S D L) (hz : Z54 (g.1 29)) (hz' : Z54 (g.1 30)) (h1 : 1 ≤ q) (hq : q ≤ 8) : ∃ (w' : Rw) (s' : Int32) (n' : Int64) (v' k' : Rw), Z54 w' ∧
    bc (d + 4) M_X9_fugue none 0 [some (.ref 0), some (.int (Int32.ofNat q)), none] [] (hp t g) cn sn = some (.inl (some (.int (seekR (minR (kC g) N D L) (fun _ w' => decide (q ≤ cntN (bS w') N)) 120 1 (g.1 29)))), hp t (gP g 30 w' s' n' v' k'), cn, sn) := by
  obtain ⟨w', s', n', v', k', h2, e⟩ := c_fugue_l (d := d) (t := t) (cn := cn) (sn := sn) hK hO hq 120 1 (by omega) (g.1 29) (g.1 16 14) (g.2.1 16 13) (g.1 28) (g.1 27) hz
  refine ⟨w', s', n', v', k', h2, ?_⟩
  rw [gP_tr] at e
  rw [← e]
  simp (disch := omega) only [st_X9_fugue_0, st_X9_fugue_1, st_X9_fugue_2, st_X9_fugue_5, st_X9_fugue_6, st_X9_fugue_8, st_X9_fugue_11, st_X9_fugue_21, st_X9_fugue_22 (p := 0) hq_0 ps_, bC_inl, Option.toList, List.cons_append, List.nil_append, Nat.add_zero, st_X9_fugue_25, lc_i, lc_r, lc_n, lc_j, lc_f, st_X9_fugue_26, st_X9_fugue_28, st_X9_fugue_30, st_X9_fugue_33, bM_some, hg_0_1, st_X9_fugue_34, st_X9_fugue_37, hg_0_3, st_X9_fugue_38, st_X9_fugue_41 (p := 16) hq_16 ps_, st_X9_fugue_44, st_X9_fugue_45, hg_16_14, st_X9_fugue_48, st_X9_fugue_51, st_X9_fugue_52, st_X9_fugue_55, st_X9_fugue_56, st_X9_fugue_57, st_X9_fugue_60, st_X9_fugue_63, st_X9_fugue_64, Nat.reduceAdd, nn_l1, nn_g8, show ¬ q < 1 by omega, show ¬ 8 < q by omega, if_false, c_trial hz hz']
  rfl
theorem c_fugue_n (hx : ¬ (1 ≤ x.toInt ∧ x.toInt ≤ 8)) : bc (d + 12) M_X9_fugue none 0 [some (.ref 0), some (.int x), none] [] (hp t g) cn sn = some (.inr 0, hp t g, cn + 1, sn + 6) := by
  by_cases h : x < 1
  · simp (disch := omega) only [st_X9_fugue_0, st_X9_fugue_1, st_X9_fugue_2, st_X9_fugue_5, st_X9_fugue_6, st_X9_fugue_8, st_X9_fugue_11, st_X9_fugue_21, st_X9_fugue_22 (p := 0) hq_0 ps_, bC_inl, Option.toList, List.cons_append, List.nil_append, Nat.add_zero, st_X9_fugue_25, lc_i, lc_r, lc_n, lc_j, lc_f, st_X9_fugue_26, st_X9_fugue_28, st_X9_fugue_30, st_X9_fugue_33, bM_some, hg_0_1, st_X9_fugue_34, st_X9_fugue_37, hg_0_3, st_X9_fugue_38, st_X9_fugue_41 (p := 16) hq_16 ps_, st_X9_fugue_44, st_X9_fugue_45, hg_16_14, st_X9_fugue_48, st_X9_fugue_51, st_X9_fugue_52, st_X9_fugue_55, st_X9_fugue_56, st_X9_fugue_57, st_X9_fugue_60, st_X9_fugue_63, st_X9_fugue_64, Nat.reduceAdd, h, if_true]
  · have h2 : 8 < x := by rw [ii_lt, ti_1] at h; rw [ii_lt, ti_8]; omega
    simp (disch := omega) only [st_X9_fugue_0, st_X9_fugue_1, st_X9_fugue_2, st_X9_fugue_5, st_X9_fugue_6, st_X9_fugue_8, st_X9_fugue_11, st_X9_fugue_21, st_X9_fugue_22 (p := 0) hq_0 ps_, bC_inl, Option.toList, List.cons_append, List.nil_append, Nat.add_zero, st_X9_fugue_25, lc_i, lc_r, lc_n, lc_j, lc_f, st_X9_fugue_26, st_X9_fugue_28, st_X9_fugue_30, st_X9_fugue_33, bM_some, hg_0_1, st_X9_fugue_34, st_X9_fugue_37, hg_0_3, st_X9_fugue_38, st_X9_fugue_41 (p := 16) hq_16 ps_, st_X9_fugue_44, st_X9_fugue_45, hg_16_14, st_X9_fugue_48, st_X9_fugue_51, st_X9_fugue_52, st_X9_fugue_55, st_X9_fugue_56, st_X9_fugue_57, st_X9_fugue_60, st_X9_fugue_63, st_X9_fugue_64, Nat.reduceAdd, h, h2, if_false, if_true]
end CAHEAD
