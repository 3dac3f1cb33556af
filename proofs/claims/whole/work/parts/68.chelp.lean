/-! ===== KettleChoir's helpers ===== -/
def Z54 (f : Rw) : Prop := ∀ i, 54 ≤ i → f i = 0
def bR (w : Rw) (j : Nat) : Bool := !decide (w (48 + j) = -1)
def bL (w : Rw) (j : Nat) : Bool := !decide (w (8 + j) < 95)
section CHELP
variable {d : Nat} {t : List px_E} {g : hG} {N S D L j j' cn sn : Nat} {x : Int32}
theorem nk_y (hK : KN (kC g) N S D L) (hj : j < N) : bc d M_X9_needKettle none 0 [some (.ref 0), some (.int (Int32.ofNat j))] [] (hp t g) cn sn = some (.inl none, hp t g, cn, sn) := by
  have hN : g.1 16 10 = Int32.ofNat N := hK.1
  have h8 := hK.2.1
  simp (disch := omega) only [st_X9_needKettle_0, st_X9_needKettle_1, st_X9_needKettle_4, st_X9_needKettle_5, bM_some, hg_0_1, st_X9_needKettle_6, hg_16_10, st_X9_needKettle_9, st_X9_needKettle_12, st_X9_needKettle_15, st_X9_needKettle_26, Nat.reduceAdd, hN, nn_l0, nn_lt, hj, Nat.not_lt_zero, if_true, if_false]
theorem nk_n (hK : KN (kC g) N S D L) (hx : ¬ (0 ≤ x.toInt ∧ x.toInt < N)) : bc (d + 12) M_X9_needKettle none 0 [some (.ref 0), some (.int x)] [] (hp t g) cn sn = some (.inr 1, hp t g, cn + 1, sn + 6) := by
  have hN : g.1 16 10 = Int32.ofNat N := hK.1
  have h8 := hK.2.1
  by_cases h : x < 0
  · simp (disch := omega) only [st_X9_needKettle_0, st_X9_needKettle_1, st_X9_needKettle_4, st_X9_needKettle_5, bM_some, hg_0_1, st_X9_needKettle_6, hg_16_10, st_X9_needKettle_9, st_X9_needKettle_12, st_X9_needKettle_15, st_X9_needKettle_26, Nat.reduceAdd, h, if_true]
  · have h2 : ¬ x < Int32.ofNat N := by rw [ii_lt, ti_0] at h; rw [ii_lt, ii_ofNat (by omega)]; omega
    simp (disch := omega) only [st_X9_needKettle_0, st_X9_needKettle_1, st_X9_needKettle_4, st_X9_needKettle_5, bM_some, hg_0_1, st_X9_needKettle_6, hg_16_10, st_X9_needKettle_9, st_X9_needKettle_12, st_X9_needKettle_15, st_X9_needKettle_26, Nat.reduceAdd, hN, h, h2, if_false]
theorem ns_y (hK : KN (kC g) N S D L) (hj : j < S) : bc d M_X9_needStove none 0 [some (.ref 0), some (.int (Int32.ofNat j))] [] (hp t g) cn sn = some (.inl none, hp t g, cn, sn) := by
  have hN : g.1 16 11 = Int32.ofNat S := hK.2.2.1
  have h8 := hK.2.2.2.1
  simp (disch := omega) only [st_X9_needStove_0, st_X9_needStove_1, st_X9_needStove_4, st_X9_needStove_5, bM_some, hg_0_1, st_X9_needStove_6, hg_16_11, st_X9_needStove_9, st_X9_needStove_12, st_X9_needStove_15, st_X9_needStove_26, Nat.reduceAdd, hN, nn_l0, nn_lt, hj, Nat.not_lt_zero, if_true, if_false]
theorem ns_n (hK : KN (kC g) N S D L) (hx : ¬ (0 ≤ x.toInt ∧ x.toInt < S)) : bc (d + 12) M_X9_needStove none 0 [some (.ref 0), some (.int x)] [] (hp t g) cn sn = some (.inr 1, hp t g, cn + 1, sn + 6) := by
  have hN : g.1 16 11 = Int32.ofNat S := hK.2.2.1
  have h8 := hK.2.2.2.1
  by_cases h : x < 0
  · simp (disch := omega) only [st_X9_needStove_0, st_X9_needStove_1, st_X9_needStove_4, st_X9_needStove_5, bM_some, hg_0_1, st_X9_needStove_6, hg_16_11, st_X9_needStove_9, st_X9_needStove_12, st_X9_needStove_15, st_X9_needStove_26, Nat.reduceAdd, h, if_true]
  · have h2 : ¬ x < Int32.ofNat S := by rw [ii_lt, ti_0] at h; rw [ii_lt, ii_ofNat (by omega)]; omega
    simp (disch := omega) only [st_X9_needStove_0, st_X9_needStove_1, st_X9_needStove_4, st_X9_needStove_5, bM_some, hg_0_1, st_X9_needStove_6, hg_16_11, st_X9_needStove_9, st_X9_needStove_12, st_X9_needStove_15, st_X9_needStove_26, Nat.reduceAdd, hN, h, h2, if_false]
theorem nd_y (hK : KN (kC g) N S D L) (hj : j < D) : bc d M_X9_needDish none 0 [some (.ref 0), some (.int (Int32.ofNat j))] [] (hp t g) cn sn = some (.inl none, hp t g, cn, sn) := by
  have hN : g.1 16 12 = Int32.ofNat D := hK.2.2.2.2.1
  have h8 := hK.2.2.2.2.2.1
  simp (disch := omega) only [st_X9_needDish_0, st_X9_needDish_1, st_X9_needDish_4, st_X9_needDish_5, bM_some, hg_0_1, st_X9_needDish_6, hg_16_12, st_X9_needDish_9, st_X9_needDish_12, st_X9_needDish_15, st_X9_needDish_26, Nat.reduceAdd, hN, nn_l0, nn_lt, hj, Nat.not_lt_zero, if_true, if_false]
theorem nd_n (hK : KN (kC g) N S D L) (hx : ¬ (0 ≤ x.toInt ∧ x.toInt < D)) : bc (d + 12) M_X9_needDish none 0 [some (.ref 0), some (.int x)] [] (hp t g) cn sn = some (.inr 1, hp t g, cn + 1, sn + 6) := by
  have hN : g.1 16 12 = Int32.ofNat D := hK.2.2.2.2.1
  have h8 := hK.2.2.2.2.2.1
  by_cases h : x < 0
  · simp (disch := omega) only [st_X9_needDish_0, st_X9_needDish_1, st_X9_needDish_4, st_X9_needDish_5, bM_some, hg_0_1, st_X9_needDish_6, hg_16_12, st_X9_needDish_9, st_X9_needDish_12, st_X9_needDish_15, st_X9_needDish_26, Nat.reduceAdd, h, if_true]
  · have h2 : ¬ x < Int32.ofNat D := by rw [ii_lt, ti_0] at h; rw [ii_lt, ii_ofNat (by omega)]; omega
    simp (disch := omega) only [st_X9_needDish_0, st_X9_needDish_1, st_X9_needDish_4, st_X9_needDish_5, bM_some, hg_0_1, st_X9_needDish_6, hg_16_12, st_X9_needDish_9, st_X9_needDish_12, st_X9_needDish_15, st_X9_needDish_26, Nat.reduceAdd, hN, h, h2, if_false]
theorem nf_y (h1 : 1 ≤ j) (h2 : j ≤ 120) : bc d M_X9_needFarMinutes none 0 [some (.ref 0), some (.int (Int32.ofNat j))] [] (hp t g) cn sn = some (.inl none, hp t g, cn, sn) := by
  simp (disch := omega) only [st_X9_needFarMinutes_0, st_X9_needFarMinutes_1, st_X9_needFarMinutes_2, st_X9_needFarMinutes_5, st_X9_needFarMinutes_6, st_X9_needFarMinutes_8, st_X9_needFarMinutes_11, st_X9_needFarMinutes_22, Nat.reduceAdd, nn_l1, nn_g120, show ¬ j < 1 by omega, show ¬ 120 < j by omega, if_false]
theorem nf_n (hx : ¬ (1 ≤ x.toInt ∧ x.toInt ≤ 120)) : bc (d + 12) M_X9_needFarMinutes none 0 [some (.ref 0), some (.int x)] [] (hp t g) cn sn = some (.inr 0, hp t g, cn + 1, sn + 6) := by
  by_cases h : x < 1
  · simp (disch := omega) only [st_X9_needFarMinutes_0, st_X9_needFarMinutes_1, st_X9_needFarMinutes_2, st_X9_needFarMinutes_5, st_X9_needFarMinutes_6, st_X9_needFarMinutes_8, st_X9_needFarMinutes_11, st_X9_needFarMinutes_22, Nat.reduceAdd, h, if_true]
  · have h2 : 120 < x := by rw [ii_lt, ti_1] at h; rw [ii_lt, ti_120]; omega
    simp (disch := omega) only [st_X9_needFarMinutes_0, st_X9_needFarMinutes_1, st_X9_needFarMinutes_2, st_X9_needFarMinutes_5, st_X9_needFarMinutes_6, st_X9_needFarMinutes_8, st_X9_needFarMinutes_11, st_X9_needFarMinutes_22, Nat.reduceAdd, h, h2, if_false, if_true]
theorem cp54 {f f' : Rw} (h : Z54 f) (h' : Z54 f') : va_cpy f f' (0 : Int32).toNatClampNeg (0 : Int32).toNatClampNeg (54 : Int32).toNatClampNeg = f := by
  funext i
  unfold va_cpy
  rw [show (0 : Int32).toNatClampNeg = 0 by decide, show (54 : Int32).toNatClampNeg = 54 by decide]
  split
  · congr 1; omega
  · rw [h i (by omega), h' i (by omega)]
theorem c_trial (h : Z54 (g.1 29)) (h' : Z54 (g.1 30)) : bc (d + 1) M_X9_beginTrial none 0 [some (.ref 0)] [] (hp t g) cn sn = some (.inl none, hp t (hR g 30 (g.1 29)), cn, sn) := by
  simp only [st_X9_beginTrial_0, bM_some, hg_0_2, st_X9_beginTrial_1, st_X9_beginTrial_4, st_X9_beginTrial_5, hg_0_3, st_X9_beginTrial_6, st_X9_beginTrial_9, st_X9_beginTrial_10, bP_some, hcp_29_30, cond_true, st_X9_beginTrial_12, st_X9_beginTrial_15, Nat.reduceAdd, show px_cpok 0 0 54 54 54 = true by decide]
  rw [cp54 h h']
theorem c_changed : bc d M_X9_changed none 0 [some (.ref 0)] [] (hp t g) cn sn = some (.inl none, hp t (hI (hI g 41 4 (-1)) 37 4 0), cn, sn) := by
  simp only [st_X9_changed_0, bM_some, hg_0_8, st_X9_changed_1, st_X9_changed_4, hs_41_4, st_X9_changed_5, st_X9_changed_8, hg_0_7, st_X9_changed_9, st_X9_changed_12, hs_37_4_0, hs_37_4_1, st_X9_changed_13, st_X9_changed_16, Nat.reduceAdd]

set_option maxHeartbeats 2000000 in
theorem c_singing_l (hK : KN (kC g) N S D L) : ∀ m j : Nat, j + m = N →
    bc d M_X9_singing none 4 [some (.ref 0), some (.int (Int32.ofNat (setN (bS (g.1 29)) j))), some (.int (Int32.ofNat j))] [] (hp t g) cn sn = some (.inl (some (.int (Int32.ofNat (setN (bS (g.1 29)) N)))), hp t g, cn, sn) := by
  have hN : g.1 16 10 = Int32.ofNat N := hK.1
  have h8 := hK.2.1
  intro m
  induction m with
  | zero =>
    intro j hj
    rw [st_X9_singing_4]
    obtain rfl : j = N := by omega
    simp (disch := omega) only [st_X9_singing_0, lc_i, lc_r, lc_n, lc_j, lc_f, st_X9_singing_1, st_X9_singing_2, st_X9_singing_3, st_X9_singing_5, bM_some, hg_0_1, st_X9_singing_6, hg_16_10, st_X9_singing_9, st_X9_singing_12, st_X9_singing_15, st_X9_singing_16, hg_0_2, st_X9_singing_17, st_X9_singing_20, st_X9_singing_22, st_X9_singing_23, cond_false, ha_29, st_X9_singing_24, st_X9_singing_25, st_X9_singing_26, st_X9_singing_29, st_X9_singing_30, st_X9_singing_31, st_X9_singing_32, st_X9_singing_36, st_X9_singing_37, st_X9_singing_38, st_X9_singing_41, st_X9_singing_35, st_X9_singing_44, st_X9_singing_45, Nat.reduceAdd, nn_1, nn_8, nn_16, nn_24, nn_32, nn_40, nn_48, nn_suc, nn_out, nn_clamp, Int32.zero_add, dv_5, dv_10, dv_3, dv_2, ne_eq, not_false_eq_true, if_false, in_m1, hN, nn_lt, show ¬ j < j by omega]
  | succ m ih =>
    intro j hj
    rw [st_X9_singing_4]
    have e := ih (j + 1) (by omega)
    rw [setN_suc] at e
    cases hb : bS (g.1 29) j with
    | false =>
      rw [hb, cond_false, Nat.add_zero] at e
      unfold bS at hb
      rw [Bool.not_eq_false', decide_eq_true_eq] at hb
      simp (disch := omega) only [st_X9_singing_0, lc_i, lc_r, lc_n, lc_j, lc_f, st_X9_singing_1, st_X9_singing_2, st_X9_singing_3, st_X9_singing_5, bM_some, hg_0_1, st_X9_singing_6, hg_16_10, st_X9_singing_9, st_X9_singing_12, st_X9_singing_15, st_X9_singing_16, hg_0_2, st_X9_singing_17, st_X9_singing_20, st_X9_singing_22, st_X9_singing_23, cond_false, ha_29, st_X9_singing_24, st_X9_singing_25, st_X9_singing_26, st_X9_singing_29, st_X9_singing_30, st_X9_singing_31, st_X9_singing_32, st_X9_singing_36, st_X9_singing_37, st_X9_singing_38, st_X9_singing_41, st_X9_singing_35, st_X9_singing_44, st_X9_singing_45, Nat.reduceAdd, nn_1, nn_8, nn_16, nn_24, nn_32, nn_40, nn_48, nn_suc, nn_out, nn_clamp, Int32.zero_add, dv_5, dv_10, dv_3, dv_2, ne_eq, not_false_eq_true, if_false, in_m1, hN, nn_lt, show j < N by omega, if_true, hb, bit_or0]
      exact e
    | true =>
      rw [hb, cond_true] at e
      unfold bS at hb
      rw [Bool.not_eq_true', decide_eq_false_iff_not] at hb
      simp (disch := omega) only [st_X9_singing_0, lc_i, lc_r, lc_n, lc_j, lc_f, st_X9_singing_1, st_X9_singing_2, st_X9_singing_3, st_X9_singing_5, bM_some, hg_0_1, st_X9_singing_6, hg_16_10, st_X9_singing_9, st_X9_singing_12, st_X9_singing_15, st_X9_singing_16, hg_0_2, st_X9_singing_17, st_X9_singing_20, st_X9_singing_22, st_X9_singing_23, cond_false, ha_29, st_X9_singing_24, st_X9_singing_25, st_X9_singing_26, st_X9_singing_29, st_X9_singing_30, st_X9_singing_31, st_X9_singing_32, st_X9_singing_36, st_X9_singing_37, st_X9_singing_38, st_X9_singing_41, st_X9_singing_35, st_X9_singing_44, st_X9_singing_45, Nat.reduceAdd, nn_1, nn_8, nn_16, nn_24, nn_32, nn_40, nn_48, nn_suc, nn_out, nn_clamp, Int32.zero_add, dv_5, dv_10, dv_3, dv_2, ne_eq, not_false_eq_true, if_false, in_m1, hN, nn_lt, show j < N by omega, if_true, hb, bit_add j (by omega) _ (setN_lt (bS (g.1 29)) j)]
      exact e
theorem c_singing (hK : KN (kC g) N S D L) : bc d M_X9_singing none 0 [some (.ref 0), none, none] [] (hp t g) cn sn = some (.inl (some (.int (Int32.ofNat (setN (bS (g.1 29)) N)))), hp t g, cn, sn) := by
  simp only [st_X9_singing_0, lc_i, lc_r, lc_n, lc_j, lc_f, st_X9_singing_1, st_X9_singing_2, st_X9_singing_3, st_X9_singing_5, bM_some, hg_0_1, st_X9_singing_6, hg_16_10, st_X9_singing_9, st_X9_singing_12, st_X9_singing_15, st_X9_singing_16, hg_0_2, st_X9_singing_17, st_X9_singing_20, st_X9_singing_22, st_X9_singing_23, cond_false, ha_29, st_X9_singing_24, st_X9_singing_25, st_X9_singing_26, st_X9_singing_29, st_X9_singing_30, st_X9_singing_31, st_X9_singing_32, st_X9_singing_36, st_X9_singing_37, st_X9_singing_38, st_X9_singing_41, st_X9_singing_35, st_X9_singing_44, st_X9_singing_45, Nat.reduceAdd]
  exact c_singing_l hK N 0 (by omega)
set_option maxHeartbeats 2000000 in
theorem c_lids_l (hK : KN (kC g) N S D L) : ∀ m j : Nat, j + m = N →
    bc d M_X9_lids none 4 [some (.ref 0), some (.int (Int32.ofNat (setN (bL (g.1 29)) j))), some (.int (Int32.ofNat j))] [] (hp t g) cn sn = some (.inl (some (.int (Int32.ofNat (setN (bL (g.1 29)) N)))), hp t g, cn, sn) := by
  have hN : g.1 16 10 = Int32.ofNat N := hK.1
  have h8 := hK.2.1
  intro m
  induction m with
  | zero =>
    intro j hj
    rw [st_X9_lids_4]
    obtain rfl : j = N := by omega
    simp (disch := omega) only [st_X9_lids_0, lc_i, lc_r, lc_n, lc_j, lc_f, st_X9_lids_1, st_X9_lids_2, st_X9_lids_3, st_X9_lids_5, bM_some, hg_0_1, st_X9_lids_6, hg_16_10, st_X9_lids_9, st_X9_lids_12, st_X9_lids_15, st_X9_lids_16, hg_0_2, st_X9_lids_17, st_X9_lids_20, st_X9_lids_22, st_X9_lids_23, cond_false, ha_29, st_X9_lids_24, st_X9_lids_25, st_X9_lids_27, st_X9_lids_30, st_X9_lids_31, st_X9_lids_32, st_X9_lids_33, st_X9_lids_37, st_X9_lids_38, st_X9_lids_39, st_X9_lids_42, st_X9_lids_36, st_X9_lids_45, st_X9_lids_46, Nat.reduceAdd, nn_1, nn_8, nn_16, nn_24, nn_32, nn_40, nn_48, nn_suc, nn_out, nn_clamp, Int32.zero_add, dv_5, dv_10, dv_3, dv_2, ne_eq, not_false_eq_true, if_false, in_m1, hN, nn_lt, show ¬ j < j by omega]
  | succ m ih =>
    intro j hj
    rw [st_X9_lids_4]
    have e := ih (j + 1) (by omega)
    rw [setN_suc] at e
    cases hb : bL (g.1 29) j with
    | false =>
      rw [hb, cond_false, Nat.add_zero] at e
      unfold bL at hb
      rw [Bool.not_eq_false', decide_eq_true_eq] at hb
      simp (disch := omega) only [st_X9_lids_0, lc_i, lc_r, lc_n, lc_j, lc_f, st_X9_lids_1, st_X9_lids_2, st_X9_lids_3, st_X9_lids_5, bM_some, hg_0_1, st_X9_lids_6, hg_16_10, st_X9_lids_9, st_X9_lids_12, st_X9_lids_15, st_X9_lids_16, hg_0_2, st_X9_lids_17, st_X9_lids_20, st_X9_lids_22, st_X9_lids_23, cond_false, ha_29, st_X9_lids_24, st_X9_lids_25, st_X9_lids_27, st_X9_lids_30, st_X9_lids_31, st_X9_lids_32, st_X9_lids_33, st_X9_lids_37, st_X9_lids_38, st_X9_lids_39, st_X9_lids_42, st_X9_lids_36, st_X9_lids_45, st_X9_lids_46, Nat.reduceAdd, nn_1, nn_8, nn_16, nn_24, nn_32, nn_40, nn_48, nn_suc, nn_out, nn_clamp, Int32.zero_add, dv_5, dv_10, dv_3, dv_2, ne_eq, not_false_eq_true, if_false, in_m1, hN, nn_lt, show j < N by omega, if_true, hb, bit_or0]
      exact e
    | true =>
      rw [hb, cond_true] at e
      unfold bL at hb
      rw [Bool.not_eq_true', decide_eq_false_iff_not] at hb
      simp (disch := omega) only [st_X9_lids_0, lc_i, lc_r, lc_n, lc_j, lc_f, st_X9_lids_1, st_X9_lids_2, st_X9_lids_3, st_X9_lids_5, bM_some, hg_0_1, st_X9_lids_6, hg_16_10, st_X9_lids_9, st_X9_lids_12, st_X9_lids_15, st_X9_lids_16, hg_0_2, st_X9_lids_17, st_X9_lids_20, st_X9_lids_22, st_X9_lids_23, cond_false, ha_29, st_X9_lids_24, st_X9_lids_25, st_X9_lids_27, st_X9_lids_30, st_X9_lids_31, st_X9_lids_32, st_X9_lids_33, st_X9_lids_37, st_X9_lids_38, st_X9_lids_39, st_X9_lids_42, st_X9_lids_36, st_X9_lids_45, st_X9_lids_46, Nat.reduceAdd, nn_1, nn_8, nn_16, nn_24, nn_32, nn_40, nn_48, nn_suc, nn_out, nn_clamp, Int32.zero_add, dv_5, dv_10, dv_3, dv_2, ne_eq, not_false_eq_true, if_false, in_m1, hN, nn_lt, show j < N by omega, if_true, hb, bit_add j (by omega) _ (setN_lt (bL (g.1 29)) j)]
      exact e
theorem c_lids (hK : KN (kC g) N S D L) : bc d M_X9_lids none 0 [some (.ref 0), none, none] [] (hp t g) cn sn = some (.inl (some (.int (Int32.ofNat (setN (bL (g.1 29)) N)))), hp t g, cn, sn) := by
  simp only [st_X9_lids_0, lc_i, lc_r, lc_n, lc_j, lc_f, st_X9_lids_1, st_X9_lids_2, st_X9_lids_3, st_X9_lids_5, bM_some, hg_0_1, st_X9_lids_6, hg_16_10, st_X9_lids_9, st_X9_lids_12, st_X9_lids_15, st_X9_lids_16, hg_0_2, st_X9_lids_17, st_X9_lids_20, st_X9_lids_22, st_X9_lids_23, cond_false, ha_29, st_X9_lids_24, st_X9_lids_25, st_X9_lids_27, st_X9_lids_30, st_X9_lids_31, st_X9_lids_32, st_X9_lids_33, st_X9_lids_37, st_X9_lids_38, st_X9_lids_39, st_X9_lids_42, st_X9_lids_36, st_X9_lids_45, st_X9_lids_46, Nat.reduceAdd]
  exact c_lids_l hK N 0 (by omega)

set_option maxHeartbeats 2000000 in
theorem c_ready29_l (hK : KN (kC g) N S D L) : ∀ m j : Nat, j + m = D →
    bc d M_X9_readyDishes none 4 [some (.ref 0), some (.ref 29), some (.int (Int32.ofNat (setN (bR (g.1 29)) j))), some (.int (Int32.ofNat j))] [] (hp t g) cn sn = some (.inl (some (.int (Int32.ofNat (setN (bR (g.1 29)) D)))), hp t g, cn, sn) := by
  have hN : g.1 16 12 = Int32.ofNat D := hK.2.2.2.2.1
  have h5 := hK.2.2.2.2.2.1
  intro m
  induction m with
  | zero =>
    intro j hj
    rw [st_X9_readyDishes_4]
    obtain rfl : j = D := by omega
    simp (disch := omega) only [st_X9_readyDishes_0, lc_i, lc_r, lc_n, lc_j, lc_f, st_X9_readyDishes_1, st_X9_readyDishes_2, st_X9_readyDishes_3, st_X9_readyDishes_5, bM_some, hg_0_1, st_X9_readyDishes_6, hg_16_12, st_X9_readyDishes_9, st_X9_readyDishes_12, st_X9_readyDishes_15, st_X9_readyDishes_16, st_X9_readyDishes_17, st_X9_readyDishes_19, st_X9_readyDishes_20, cond_false, ha_29, st_X9_readyDishes_21, st_X9_readyDishes_22, st_X9_readyDishes_23, st_X9_readyDishes_26, st_X9_readyDishes_27, st_X9_readyDishes_28, st_X9_readyDishes_29, st_X9_readyDishes_33, st_X9_readyDishes_34, st_X9_readyDishes_35, st_X9_readyDishes_38, st_X9_readyDishes_32, st_X9_readyDishes_41, st_X9_readyDishes_42, Nat.reduceAdd, nn_1, nn_8, nn_16, nn_24, nn_32, nn_40, nn_48, nn_suc, nn_out, nn_clamp, Int32.zero_add, dv_5, dv_10, dv_3, dv_2, ne_eq, not_false_eq_true, if_false, in_m1, hN, nn_lt, show ¬ j < j by omega]
  | succ m ih =>
    intro j hj
    rw [st_X9_readyDishes_4]
    have e := ih (j + 1) (by omega)
    rw [setN_suc] at e
    cases hb : bR (g.1 29) j with
    | false =>
      rw [hb, cond_false, Nat.add_zero] at e
      unfold bR at hb
      rw [Bool.not_eq_false', decide_eq_true_eq] at hb
      simp (disch := omega) only [st_X9_readyDishes_0, lc_i, lc_r, lc_n, lc_j, lc_f, st_X9_readyDishes_1, st_X9_readyDishes_2, st_X9_readyDishes_3, st_X9_readyDishes_5, bM_some, hg_0_1, st_X9_readyDishes_6, hg_16_12, st_X9_readyDishes_9, st_X9_readyDishes_12, st_X9_readyDishes_15, st_X9_readyDishes_16, st_X9_readyDishes_17, st_X9_readyDishes_19, st_X9_readyDishes_20, cond_false, ha_29, st_X9_readyDishes_21, st_X9_readyDishes_22, st_X9_readyDishes_23, st_X9_readyDishes_26, st_X9_readyDishes_27, st_X9_readyDishes_28, st_X9_readyDishes_29, st_X9_readyDishes_33, st_X9_readyDishes_34, st_X9_readyDishes_35, st_X9_readyDishes_38, st_X9_readyDishes_32, st_X9_readyDishes_41, st_X9_readyDishes_42, Nat.reduceAdd, nn_1, nn_8, nn_16, nn_24, nn_32, nn_40, nn_48, nn_suc, nn_out, nn_clamp, Int32.zero_add, dv_5, dv_10, dv_3, dv_2, ne_eq, not_false_eq_true, if_false, in_m1, hN, nn_lt, show j < D by omega, if_true, hb, bit_or0]
      exact e
    | true =>
      rw [hb, cond_true] at e
      unfold bR at hb
      rw [Bool.not_eq_true', decide_eq_false_iff_not] at hb
      simp (disch := omega) only [st_X9_readyDishes_0, lc_i, lc_r, lc_n, lc_j, lc_f, st_X9_readyDishes_1, st_X9_readyDishes_2, st_X9_readyDishes_3, st_X9_readyDishes_5, bM_some, hg_0_1, st_X9_readyDishes_6, hg_16_12, st_X9_readyDishes_9, st_X9_readyDishes_12, st_X9_readyDishes_15, st_X9_readyDishes_16, st_X9_readyDishes_17, st_X9_readyDishes_19, st_X9_readyDishes_20, cond_false, ha_29, st_X9_readyDishes_21, st_X9_readyDishes_22, st_X9_readyDishes_23, st_X9_readyDishes_26, st_X9_readyDishes_27, st_X9_readyDishes_28, st_X9_readyDishes_29, st_X9_readyDishes_33, st_X9_readyDishes_34, st_X9_readyDishes_35, st_X9_readyDishes_38, st_X9_readyDishes_32, st_X9_readyDishes_41, st_X9_readyDishes_42, Nat.reduceAdd, nn_1, nn_8, nn_16, nn_24, nn_32, nn_40, nn_48, nn_suc, nn_out, nn_clamp, Int32.zero_add, dv_5, dv_10, dv_3, dv_2, ne_eq, not_false_eq_true, if_false, in_m1, hN, nn_lt, show j < D by omega, if_true, hb, bit_add j (by omega) _ (setN_lt (bR (g.1 29)) j)]
      exact e
theorem c_ready29 (hK : KN (kC g) N S D L) : bc d M_X9_readyDishes none 0 [some (.ref 0), some (.ref 29), none, none] [] (hp t g) cn sn = some (.inl (some (.int (Int32.ofNat (setN (bR (g.1 29)) D)))), hp t g, cn, sn) := by
  simp only [st_X9_readyDishes_0, lc_i, lc_r, lc_n, lc_j, lc_f, st_X9_readyDishes_1, st_X9_readyDishes_2, st_X9_readyDishes_3, st_X9_readyDishes_5, bM_some, hg_0_1, st_X9_readyDishes_6, hg_16_12, st_X9_readyDishes_9, st_X9_readyDishes_12, st_X9_readyDishes_15, st_X9_readyDishes_16, st_X9_readyDishes_17, st_X9_readyDishes_19, st_X9_readyDishes_20, cond_false, ha_29, st_X9_readyDishes_21, st_X9_readyDishes_22, st_X9_readyDishes_23, st_X9_readyDishes_26, st_X9_readyDishes_27, st_X9_readyDishes_28, st_X9_readyDishes_29, st_X9_readyDishes_33, st_X9_readyDishes_34, st_X9_readyDishes_35, st_X9_readyDishes_38, st_X9_readyDishes_32, st_X9_readyDishes_41, st_X9_readyDishes_42, Nat.reduceAdd]
  exact c_ready29_l hK D 0 (by omega)
set_option maxHeartbeats 2000000 in
theorem c_ready30_l (hK : KN (kC g) N S D L) : ∀ m j : Nat, j + m = D →
    bc d M_X9_readyDishes none 4 [some (.ref 0), some (.ref 30), some (.int (Int32.ofNat (setN (bR (g.1 30)) j))), some (.int (Int32.ofNat j))] [] (hp t g) cn sn = some (.inl (some (.int (Int32.ofNat (setN (bR (g.1 30)) D)))), hp t g, cn, sn) := by
  have hN : g.1 16 12 = Int32.ofNat D := hK.2.2.2.2.1
  have h5 := hK.2.2.2.2.2.1
  intro m
  induction m with
  | zero =>
    intro j hj
    rw [st_X9_readyDishes_4]
    obtain rfl : j = D := by omega
    simp (disch := omega) only [st_X9_readyDishes_0, lc_i, lc_r, lc_n, lc_j, lc_f, st_X9_readyDishes_1, st_X9_readyDishes_2, st_X9_readyDishes_3, st_X9_readyDishes_5, bM_some, hg_0_1, st_X9_readyDishes_6, hg_16_12, st_X9_readyDishes_9, st_X9_readyDishes_12, st_X9_readyDishes_15, st_X9_readyDishes_16, st_X9_readyDishes_17, st_X9_readyDishes_19, st_X9_readyDishes_20, cond_false, ha_30, st_X9_readyDishes_21, st_X9_readyDishes_22, st_X9_readyDishes_23, st_X9_readyDishes_26, st_X9_readyDishes_27, st_X9_readyDishes_28, st_X9_readyDishes_29, st_X9_readyDishes_33, st_X9_readyDishes_34, st_X9_readyDishes_35, st_X9_readyDishes_38, st_X9_readyDishes_32, st_X9_readyDishes_41, st_X9_readyDishes_42, Nat.reduceAdd, nn_1, nn_8, nn_16, nn_24, nn_32, nn_40, nn_48, nn_suc, nn_out, nn_clamp, Int32.zero_add, dv_5, dv_10, dv_3, dv_2, ne_eq, not_false_eq_true, if_false, in_m1, hN, nn_lt, show ¬ j < j by omega]
  | succ m ih =>
    intro j hj
    rw [st_X9_readyDishes_4]
    have e := ih (j + 1) (by omega)
    rw [setN_suc] at e
    cases hb : bR (g.1 30) j with
    | false =>
      rw [hb, cond_false, Nat.add_zero] at e
      unfold bR at hb
      rw [Bool.not_eq_false', decide_eq_true_eq] at hb
      simp (disch := omega) only [st_X9_readyDishes_0, lc_i, lc_r, lc_n, lc_j, lc_f, st_X9_readyDishes_1, st_X9_readyDishes_2, st_X9_readyDishes_3, st_X9_readyDishes_5, bM_some, hg_0_1, st_X9_readyDishes_6, hg_16_12, st_X9_readyDishes_9, st_X9_readyDishes_12, st_X9_readyDishes_15, st_X9_readyDishes_16, st_X9_readyDishes_17, st_X9_readyDishes_19, st_X9_readyDishes_20, cond_false, ha_30, st_X9_readyDishes_21, st_X9_readyDishes_22, st_X9_readyDishes_23, st_X9_readyDishes_26, st_X9_readyDishes_27, st_X9_readyDishes_28, st_X9_readyDishes_29, st_X9_readyDishes_33, st_X9_readyDishes_34, st_X9_readyDishes_35, st_X9_readyDishes_38, st_X9_readyDishes_32, st_X9_readyDishes_41, st_X9_readyDishes_42, Nat.reduceAdd, nn_1, nn_8, nn_16, nn_24, nn_32, nn_40, nn_48, nn_suc, nn_out, nn_clamp, Int32.zero_add, dv_5, dv_10, dv_3, dv_2, ne_eq, not_false_eq_true, if_false, in_m1, hN, nn_lt, show j < D by omega, if_true, hb, bit_or0]
      exact e
    | true =>
      rw [hb, cond_true] at e
      unfold bR at hb
      rw [Bool.not_eq_true', decide_eq_false_iff_not] at hb
      simp (disch := omega) only [st_X9_readyDishes_0, lc_i, lc_r, lc_n, lc_j, lc_f, st_X9_readyDishes_1, st_X9_readyDishes_2, st_X9_readyDishes_3, st_X9_readyDishes_5, bM_some, hg_0_1, st_X9_readyDishes_6, hg_16_12, st_X9_readyDishes_9, st_X9_readyDishes_12, st_X9_readyDishes_15, st_X9_readyDishes_16, st_X9_readyDishes_17, st_X9_readyDishes_19, st_X9_readyDishes_20, cond_false, ha_30, st_X9_readyDishes_21, st_X9_readyDishes_22, st_X9_readyDishes_23, st_X9_readyDishes_26, st_X9_readyDishes_27, st_X9_readyDishes_28, st_X9_readyDishes_29, st_X9_readyDishes_33, st_X9_readyDishes_34, st_X9_readyDishes_35, st_X9_readyDishes_38, st_X9_readyDishes_32, st_X9_readyDishes_41, st_X9_readyDishes_42, Nat.reduceAdd, nn_1, nn_8, nn_16, nn_24, nn_32, nn_40, nn_48, nn_suc, nn_out, nn_clamp, Int32.zero_add, dv_5, dv_10, dv_3, dv_2, ne_eq, not_false_eq_true, if_false, in_m1, hN, nn_lt, show j < D by omega, if_true, hb, bit_add j (by omega) _ (setN_lt (bR (g.1 30)) j)]
      exact e
theorem c_ready30 (hK : KN (kC g) N S D L) : bc d M_X9_readyDishes none 0 [some (.ref 0), some (.ref 30), none, none] [] (hp t g) cn sn = some (.inl (some (.int (Int32.ofNat (setN (bR (g.1 30)) D)))), hp t g, cn, sn) := by
  simp only [st_X9_readyDishes_0, lc_i, lc_r, lc_n, lc_j, lc_f, st_X9_readyDishes_1, st_X9_readyDishes_2, st_X9_readyDishes_3, st_X9_readyDishes_5, bM_some, hg_0_1, st_X9_readyDishes_6, hg_16_12, st_X9_readyDishes_9, st_X9_readyDishes_12, st_X9_readyDishes_15, st_X9_readyDishes_16, st_X9_readyDishes_17, st_X9_readyDishes_19, st_X9_readyDishes_20, cond_false, ha_30, st_X9_readyDishes_21, st_X9_readyDishes_22, st_X9_readyDishes_23, st_X9_readyDishes_26, st_X9_readyDishes_27, st_X9_readyDishes_28, st_X9_readyDishes_29, st_X9_readyDishes_33, st_X9_readyDishes_34, st_X9_readyDishes_35, st_X9_readyDishes_38, st_X9_readyDishes_32, st_X9_readyDishes_41, st_X9_readyDishes_42, Nat.reduceAdd]
  exact c_ready30_l hK D 0 (by omega)
def apartR (w : Rw) (j j' : Nat) : Int32 := if w (40 + j) = -1 then -1 else if w (40 + j') = -1 then -1 else px_abs (w (40 + j) - w (40 + j'))
set_option maxHeartbeats 2000000 in
theorem c_apart (hj : j < 8) (hj' : j' < 8) : bc (d + 1) M_X9_apart none 0 [some (.ref 0), some (.int (Int32.ofNat j)), some (.int (Int32.ofNat j')), none, none] [] (hp t g) cn sn = some (.inl (some (.int (apartR (g.1 29) j j'))), hp t g, cn, sn) := by
  unfold apartR
  simp (disch := omega) only [st_X9_apart_0, bM_some, hg_0_2, st_X9_apart_1, st_X9_apart_4, st_X9_apart_6, st_X9_apart_7, cond_false, ha_29, st_X9_apart_8, lc_i, lc_r, lc_n, lc_j, lc_f, st_X9_apart_9, st_X9_apart_10, st_X9_apart_11, st_X9_apart_14, st_X9_apart_16, st_X9_apart_17, st_X9_apart_18, st_X9_apart_19, st_X9_apart_21, st_X9_apart_22, st_X9_apart_23, st_X9_apart_26, st_X9_apart_28, st_X9_apart_29, st_X9_apart_32, st_X9_apart_33, st_X9_apart_43, st_X9_apart_36, st_X9_apart_37, st_X9_apart_39, bP_some, m1_, st_X9_apart_40, Nat.reduceAdd, nn_1, nn_8, nn_16, nn_24, nn_32, nn_40, nn_48, nn_suc, nn_out, nn_clamp, Int32.zero_add, dv_5, dv_10, dv_3, dv_2, ne_eq, not_false_eq_true, if_false, in_m1, r_ite]
end CHELP
