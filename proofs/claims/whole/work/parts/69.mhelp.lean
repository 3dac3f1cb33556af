/-! ===== the reference's helpers ===== -/
theorem lcmp_lt {α : Type} {x y : Int64} {A B : α} : (if lg_cmp x y < 0 then A else B) = if x < y then A else B := by
  have h := lg_cmp_ge x y
  by_cases c : x < y
  · rw [if_pos c, if_pos]
    rw [← Int32.not_le]
    intro q
    exact absurd c (Int64.not_lt.mpr (h.mp q))
  · rw [if_neg c, if_neg]
    rw [Int32.not_lt]
    exact h.mpr (Int64.not_lt.mp c)
theorem lcmp_gt {α : Type} {x y : Int64} {A B : α} : (if 0 < lg_cmp x y then A else B) = if y < x then A else B := by
  have h := lg_cmp_le x y
  by_cases c : y < x
  · rw [if_pos c, if_pos]
    rw [← Int32.not_le]
    intro q
    exact absurd c (Int64.not_lt.mpr (h.mp q))
  · rw [if_neg c, if_neg]
    rw [Int32.not_lt]
    exact h.mpr (Int64.not_lt.mp c)
theorem jj_lt {x y : Int64} : (x < y) = (x.toInt < y.toInt) := propext Int64.lt_iff_toInt_lt
theorem jj_i {x : Int32} : x.toInt64.toInt = x.toInt := Int32.toInt_toInt64 x
theorem tj_0 : (0 : Int64).toInt = 0 := by decide
theorem tj_1 : (1 : Int64).toInt = 1 := by decide
theorem tj_2 : (2 : Int64).toInt = 2 := by decide
theorem tj_3 : (3 : Int64).toInt = 3 := by decide
theorem tj_4 : (4 : Int64).toInt = 4 := by decide
theorem tj_8 : (8 : Int64).toInt = 8 := by decide
theorem tj_24 : (24 : Int64).toInt = 24 := by decide
theorem tj_30 : (30 : Int64).toInt = 30 := by decide
theorem tj_40 : (40 : Int64).toInt = 40 := by decide
theorem tj_60 : (60 : Int64).toInt = 60 := by decide
theorem tj_90 : (90 : Int64).toInt = 90 := by decide
theorem tj_120 : (120 : Int64).toInt = 120 := by decide
theorem tj_m1 : (-1 : Int64).toInt = -1 := by decide
theorem tj_m2 : (-2 : Int64).toInt = -2 := by decide
section MHELP
variable {d : Nat} {t : List px_E} {g : hG} {h : px_H} {j N S D L cn sn : Nat} {w a k : Rw} {x y z : Int32} {u u1 u2 : Int64} {K : Kt}
theorem m_isIn_y (hh : u1.toInt ≤ u.toInt ∧ u.toInt ≤ u2.toInt) : bc d M_X10_isIn none 0 [some (.long u), none, some (.long u1), none, some (.long u2), none] [] h cn sn = some (.inl (some (.int 1)), h, cn, sn) := by
  have h1 : ¬ u < u1 := by rw [jj_lt]; omega
  have h2 : ¬ u2 < u := by rw [jj_lt]; omega
  simp only [st_X10_isIn_0, st_X10_isIn_1, st_X10_isIn_2, st_X10_isIn_3, st_X10_isIn_6, st_X10_isIn_7, st_X10_isIn_9, st_X10_isIn_10, st_X10_isIn_13, st_X10_isIn_14, st_X10_isIn_18, st_X10_isIn_18b, st_X10_isIn_17, Nat.reduceAdd, lcmp_lt, lcmp_gt, h1, h2, if_false]
theorem m_isIn_n (hh : ¬ (u1.toInt ≤ u.toInt ∧ u.toInt ≤ u2.toInt)) : bc d M_X10_isIn none 0 [some (.long u), none, some (.long u1), none, some (.long u2), none] [] h cn sn = some (.inl (some (.int 0)), h, cn, sn) := by
  by_cases h1 : u < u1
  · simp only [st_X10_isIn_0, st_X10_isIn_1, st_X10_isIn_2, st_X10_isIn_3, st_X10_isIn_6, st_X10_isIn_7, st_X10_isIn_9, st_X10_isIn_10, st_X10_isIn_13, st_X10_isIn_14, st_X10_isIn_18, st_X10_isIn_18b, st_X10_isIn_17, Nat.reduceAdd, lcmp_lt, lcmp_gt, h1, if_true]
  · have h2 : u2 < u := by rw [jj_lt] at h1 ⊢; omega
    simp only [st_X10_isIn_0, st_X10_isIn_1, st_X10_isIn_2, st_X10_isIn_3, st_X10_isIn_6, st_X10_isIn_7, st_X10_isIn_9, st_X10_isIn_10, st_X10_isIn_13, st_X10_isIn_14, st_X10_isIn_18, st_X10_isIn_18b, st_X10_isIn_17, Nat.reduceAdd, lcmp_lt, lcmp_gt, h1, h2, if_true, if_false]
theorem ofN1 (h : N < 1000) : (Int32.ofNat N - 1).toInt = (N : Int) - 1 := by
  have := ii_ofNat (a := N) (by omega)
  rw [ii_sub] <;> rw [ti_1] <;> omega

theorem m_isKettle_y (hM : MK K N S D L g) (hK : KN K N S D L) (hx : 0 ≤ x.toInt ∧ x.toInt < N) : bc (d + 1) M_X10_isKettle none 0 [some (.ref 49), some (.int x)] [] (hp t (gM g w a k)) cn sn = some (.inl (some (.int 1)), hp t (gM g w a k), cn, sn) := by
  have h8 := hK.2.1
  have h4 := hK.2.2.2.1
  have h5 := hK.2.2.2.2.2.1
  have hh := m_isIn_y (d := d) (h := hp t (gM g w a k)) (cn := 0) (sn := 0) (u := x.toInt64) (u1 := 0) (u2 := (Int32.ofNat N - 1).toInt64) (by rw [jj_i, jj_i, tj_0, ofN1 (by omega)]; omega)
  simp (disch := omega) only [st_X10_isKettle_0, st_X10_isKettle_1, st_X10_isKettle_2, st_X10_isKettle_3, bM_some, hg_49_3, st_X10_isKettle_4, st_X10_isKettle_7, cond_false, ha_52, st_X10_isKettle_8, st_X10_isKettle_9, st_X10_isKettle_10, st_X10_isKettle_11, st_X10_isKettle_12 ps_, bC_inl, Option.toList, List.cons_append, List.nil_append, Nat.add_zero, st_X10_isKettle_15, st_X10_isKettle_15b, Nat.reduceAdd, gM_64, gM_65, gM_66, gM_67, gM_68, gM_69, gM_70, gM_33, gM_72, gM_73, gM_o, gM_49, gMw_64, gMw_65, gMw_66, gMw_67, gMw_68, gMw_69, gMw_70, gMw_33, gMw_72, gMw_73, Nat.zero_add, nn_oc0, nn_c0, hM.n hK, hh]
theorem m_isKettle_n (hM : MK K N S D L g) (hK : KN K N S D L) (hx : ¬ (0 ≤ x.toInt ∧ x.toInt < N)) : bc (d + 1) M_X10_isKettle none 0 [some (.ref 49), some (.int x)] [] (hp t (gM g w a k)) cn sn = some (.inl (some (.int 0)), hp t (gM g w a k), cn, sn) := by
  have h8 := hK.2.1
  have h4 := hK.2.2.2.1
  have h5 := hK.2.2.2.2.2.1
  have hh := m_isIn_n (d := d) (h := hp t (gM g w a k)) (cn := 0) (sn := 0) (u := x.toInt64) (u1 := 0) (u2 := (Int32.ofNat N - 1).toInt64) (by rw [jj_i, jj_i, tj_0, ofN1 (by omega)]; omega)
  simp (disch := omega) only [st_X10_isKettle_0, st_X10_isKettle_1, st_X10_isKettle_2, st_X10_isKettle_3, bM_some, hg_49_3, st_X10_isKettle_4, st_X10_isKettle_7, cond_false, ha_52, st_X10_isKettle_8, st_X10_isKettle_9, st_X10_isKettle_10, st_X10_isKettle_11, st_X10_isKettle_12 ps_, bC_inl, Option.toList, List.cons_append, List.nil_append, Nat.add_zero, st_X10_isKettle_15, st_X10_isKettle_15b, Nat.reduceAdd, gM_64, gM_65, gM_66, gM_67, gM_68, gM_69, gM_70, gM_33, gM_72, gM_73, gM_o, gM_49, gMw_64, gMw_65, gMw_66, gMw_67, gMw_68, gMw_69, gMw_70, gMw_33, gMw_72, gMw_73, Nat.zero_add, nn_oc0, nn_c0, hM.n hK, hh]
theorem m_isStove_y (hM : MK K N S D L g) (hK : KN K N S D L) (hx : 0 ≤ x.toInt ∧ x.toInt < S) : bc (d + 1) M_X10_isStove none 0 [some (.ref 49), some (.int x)] [] (hp t (gM g w a k)) cn sn = some (.inl (some (.int 1)), hp t (gM g w a k), cn, sn) := by
  have h8 := hK.2.1
  have h4 := hK.2.2.2.1
  have h5 := hK.2.2.2.2.2.1
  have hh := m_isIn_y (d := d) (h := hp t (gM g w a k)) (cn := 0) (sn := 0) (u := x.toInt64) (u1 := 0) (u2 := (Int32.ofNat S - 1).toInt64) (by rw [jj_i, jj_i, tj_0, ofN1 (by omega)]; omega)
  simp (disch := omega) only [st_X10_isStove_0, st_X10_isStove_1, st_X10_isStove_2, st_X10_isStove_3, bM_some, hg_49_3, st_X10_isStove_4, st_X10_isStove_7, cond_false, ha_52, st_X10_isStove_8, st_X10_isStove_9, st_X10_isStove_10, st_X10_isStove_11, st_X10_isStove_12 ps_, bC_inl, Option.toList, List.cons_append, List.nil_append, Nat.add_zero, st_X10_isStove_15, st_X10_isStove_15b, Nat.reduceAdd, gM_64, gM_65, gM_66, gM_67, gM_68, gM_69, gM_70, gM_33, gM_72, gM_73, gM_o, gM_49, gMw_64, gMw_65, gMw_66, gMw_67, gMw_68, gMw_69, gMw_70, gMw_33, gMw_72, gMw_73, Nat.zero_add, nn_oc1, nn_c1, hM.s hK, hh]
theorem m_isStove_n (hM : MK K N S D L g) (hK : KN K N S D L) (hx : ¬ (0 ≤ x.toInt ∧ x.toInt < S)) : bc (d + 1) M_X10_isStove none 0 [some (.ref 49), some (.int x)] [] (hp t (gM g w a k)) cn sn = some (.inl (some (.int 0)), hp t (gM g w a k), cn, sn) := by
  have h8 := hK.2.1
  have h4 := hK.2.2.2.1
  have h5 := hK.2.2.2.2.2.1
  have hh := m_isIn_n (d := d) (h := hp t (gM g w a k)) (cn := 0) (sn := 0) (u := x.toInt64) (u1 := 0) (u2 := (Int32.ofNat S - 1).toInt64) (by rw [jj_i, jj_i, tj_0, ofN1 (by omega)]; omega)
  simp (disch := omega) only [st_X10_isStove_0, st_X10_isStove_1, st_X10_isStove_2, st_X10_isStove_3, bM_some, hg_49_3, st_X10_isStove_4, st_X10_isStove_7, cond_false, ha_52, st_X10_isStove_8, st_X10_isStove_9, st_X10_isStove_10, st_X10_isStove_11, st_X10_isStove_12 ps_, bC_inl, Option.toList, List.cons_append, List.nil_append, Nat.add_zero, st_X10_isStove_15, st_X10_isStove_15b, Nat.reduceAdd, gM_64, gM_65, gM_66, gM_67, gM_68, gM_69, gM_70, gM_33, gM_72, gM_73, gM_o, gM_49, gMw_64, gMw_65, gMw_66, gMw_67, gMw_68, gMw_69, gMw_70, gMw_33, gMw_72, gMw_73, Nat.zero_add, nn_oc1, nn_c1, hM.s hK, hh]
theorem m_isDish_y (hM : MK K N S D L g) (hK : KN K N S D L) (hx : 0 ≤ x.toInt ∧ x.toInt < D) : bc (d + 1) M_X10_isDish none 0 [some (.ref 49), some (.int x)] [] (hp t (gM g w a k)) cn sn = some (.inl (some (.int 1)), hp t (gM g w a k), cn, sn) := by
  have h8 := hK.2.1
  have h4 := hK.2.2.2.1
  have h5 := hK.2.2.2.2.2.1
  have hh := m_isIn_y (d := d) (h := hp t (gM g w a k)) (cn := 0) (sn := 0) (u := x.toInt64) (u1 := 0) (u2 := (Int32.ofNat D - 1).toInt64) (by rw [jj_i, jj_i, tj_0, ofN1 (by omega)]; omega)
  simp (disch := omega) only [st_X10_isDish_0, st_X10_isDish_1, st_X10_isDish_2, st_X10_isDish_3, bM_some, hg_49_3, st_X10_isDish_4, st_X10_isDish_7, cond_false, ha_52, st_X10_isDish_8, st_X10_isDish_9, st_X10_isDish_10, st_X10_isDish_11, st_X10_isDish_12 ps_, bC_inl, Option.toList, List.cons_append, List.nil_append, Nat.add_zero, st_X10_isDish_15, st_X10_isDish_15b, Nat.reduceAdd, gM_64, gM_65, gM_66, gM_67, gM_68, gM_69, gM_70, gM_33, gM_72, gM_73, gM_o, gM_49, gMw_64, gMw_65, gMw_66, gMw_67, gMw_68, gMw_69, gMw_70, gMw_33, gMw_72, gMw_73, Nat.zero_add, nn_oc2, nn_c2, hM.di hK, hh]
theorem m_isDish_n (hM : MK K N S D L g) (hK : KN K N S D L) (hx : ¬ (0 ≤ x.toInt ∧ x.toInt < D)) : bc (d + 1) M_X10_isDish none 0 [some (.ref 49), some (.int x)] [] (hp t (gM g w a k)) cn sn = some (.inl (some (.int 0)), hp t (gM g w a k), cn, sn) := by
  have h8 := hK.2.1
  have h4 := hK.2.2.2.1
  have h5 := hK.2.2.2.2.2.1
  have hh := m_isIn_n (d := d) (h := hp t (gM g w a k)) (cn := 0) (sn := 0) (u := x.toInt64) (u1 := 0) (u2 := (Int32.ofNat D - 1).toInt64) (by rw [jj_i, jj_i, tj_0, ofN1 (by omega)]; omega)
  simp (disch := omega) only [st_X10_isDish_0, st_X10_isDish_1, st_X10_isDish_2, st_X10_isDish_3, bM_some, hg_49_3, st_X10_isDish_4, st_X10_isDish_7, cond_false, ha_52, st_X10_isDish_8, st_X10_isDish_9, st_X10_isDish_10, st_X10_isDish_11, st_X10_isDish_12 ps_, bC_inl, Option.toList, List.cons_append, List.nil_append, Nat.add_zero, st_X10_isDish_15, st_X10_isDish_15b, Nat.reduceAdd, gM_64, gM_65, gM_66, gM_67, gM_68, gM_69, gM_70, gM_33, gM_72, gM_73, gM_o, gM_49, gMw_64, gMw_65, gMw_66, gMw_67, gMw_68, gMw_69, gMw_70, gMw_33, gMw_72, gMw_73, Nat.zero_add, nn_oc2, nn_c2, hM.di hK, hh]
theorem m_fail : bc d M_X10_fail none 0 [some (.ref 49), some (.int x)] [] (hp t g) cn sn = some (.inl (some (.int 0)), hp t (hI g 49 2 x), cn, sn) := by
  simp only [st_X10_fail_0, st_X10_fail_1, bM_some, hs_49_2, st_X10_fail_2, st_X10_fail_5, st_X10_fail_6, Nat.reduceAdd]
theorem m_failing : bc d M_X10_failing none 0 [some (.ref 49), some (.int x)] [] (hp t g) cn sn = some (.inl (some (.int 0)), hp t (hI g 49 2 x), cn, sn) := by
  simp only [st_X10_failing_0, st_X10_failing_1, bM_some, hs_49_2, st_X10_failing_2, st_X10_failing_5, st_X10_failing_6, st_X10_failing_6b, Nat.reduceAdd]
theorem m_thrown : bc d M_X10_thrown none 0 [some (.ref 49)] [] (hp t g) cn sn = some (.inl (some (.int (g.1 49 2))), hp t g, cn, sn) := by
  simp only [st_X10_thrown_0, bM_some, hg_49_2, st_X10_thrown_1, st_X10_thrown_4, Nat.reduceAdd]
theorem m_refuse (hj : j < 3) : bc d M_X10_refuse none 0 [some (.ref 49), some (.int (Int32.ofNat j))] [] (hp t g) cn sn = some (.inl (some (.int (-1))), hp t (hI g 62 j (g.1 62 j + 1)), cn, sn) := by
  simp (disch := omega) only [st_X10_refuse_0, bM_some, hg_49_13, st_X10_refuse_1, st_X10_refuse_4, st_X10_refuse_5, cond_false, ha_62, st_X10_refuse_6, st_X10_refuse_7, st_X10_refuse_8, hw_62, st_X10_refuse_9, st_X10_refuse_10, st_X10_refuse_11, Nat.reduceAdd, nn_1, nn_8, nn_16, nn_24, nn_32, nn_40, nn_48, nn_suc, nn_out, nn_clamp, Int32.zero_add]
set_option maxHeartbeats 2000000 in
theorem m_lids_l (hM : MK K N S D L g) (hK : KN K N S D L) : ∀ m j : Nat, j + m = N →
    bc d M_X10_lids none 4 [some (.ref 49), some (.int (Int32.ofNat (setN (bL w) j))), some (.int (Int32.ofNat j))] [] (hp t (gM g w a k)) cn sn = some (.inl (some (.int (Int32.ofNat (setN (bL w) N)))), hp t (gM g w a k), cn, sn) := by
  have h8 := hK.2.1
  intro m
  induction m with
  | zero =>
    intro j hj
    rw [st_X10_lids_4]
    obtain rfl : j = N := by omega
    simp (disch := omega) only [st_X10_lids_0, lc_i, lc_r, lc_n, lc_j, lc_f, st_X10_lids_1, st_X10_lids_2, st_X10_lids_3, st_X10_lids_5, bM_some, hg_49_3, st_X10_lids_6, st_X10_lids_9, cond_false, ha_52, st_X10_lids_10, st_X10_lids_11, st_X10_lids_14, st_X10_lids_15, hg_49_26, st_X10_lids_16, st_X10_lids_19, ha_65, st_X10_lids_20, st_X10_lids_21, st_X10_lids_23, st_X10_lids_26, st_X10_lids_27, st_X10_lids_28, st_X10_lids_29, st_X10_lids_33, st_X10_lids_34, st_X10_lids_35, st_X10_lids_38, st_X10_lids_32, st_X10_lids_41, st_X10_lids_42, Nat.reduceAdd, nn_1, nn_8, nn_16, nn_24, nn_32, nn_40, nn_48, nn_suc, nn_out, nn_clamp, Int32.zero_add, gM_64, gM_65, gM_66, gM_67, gM_68, gM_69, gM_70, gM_33, gM_72, gM_73, gM_o, gM_49, gMw_64, gMw_65, gMw_66, gMw_67, gMw_68, gMw_69, gMw_70, gMw_33, gMw_72, gMw_73, Nat.zero_add, dv_5, dv_10, dv_3, dv_2, ne_eq, not_false_eq_true, if_false, in_m1, nn_oc0, nn_c0, hM.n hK, nn_lt, show ¬ j < j by omega]
  | succ m ih =>
    intro j hj
    rw [st_X10_lids_4]
    have e := ih (j + 1) (by omega)
    rw [setN_suc] at e
    cases hb : bL w j with
    | false =>
      rw [hb, cond_false, Nat.add_zero] at e
      unfold bL at hb
      rw [Bool.not_eq_false', decide_eq_true_eq] at hb
      simp (disch := omega) only [st_X10_lids_0, lc_i, lc_r, lc_n, lc_j, lc_f, st_X10_lids_1, st_X10_lids_2, st_X10_lids_3, st_X10_lids_5, bM_some, hg_49_3, st_X10_lids_6, st_X10_lids_9, cond_false, ha_52, st_X10_lids_10, st_X10_lids_11, st_X10_lids_14, st_X10_lids_15, hg_49_26, st_X10_lids_16, st_X10_lids_19, ha_65, st_X10_lids_20, st_X10_lids_21, st_X10_lids_23, st_X10_lids_26, st_X10_lids_27, st_X10_lids_28, st_X10_lids_29, st_X10_lids_33, st_X10_lids_34, st_X10_lids_35, st_X10_lids_38, st_X10_lids_32, st_X10_lids_41, st_X10_lids_42, Nat.reduceAdd, nn_1, nn_8, nn_16, nn_24, nn_32, nn_40, nn_48, nn_suc, nn_out, nn_clamp, Int32.zero_add, gM_64, gM_65, gM_66, gM_67, gM_68, gM_69, gM_70, gM_33, gM_72, gM_73, gM_o, gM_49, gMw_64, gMw_65, gMw_66, gMw_67, gMw_68, gMw_69, gMw_70, gMw_33, gMw_72, gMw_73, Nat.zero_add, dv_5, dv_10, dv_3, dv_2, ne_eq, not_false_eq_true, if_false, in_m1, nn_oc0, nn_c0, hM.n hK, nn_lt, show j < N by omega, if_true, hb, bit_or0]
      exact e
    | true =>
      rw [hb, cond_true] at e
      unfold bL at hb
      rw [Bool.not_eq_true', decide_eq_false_iff_not] at hb
      simp (disch := omega) only [st_X10_lids_0, lc_i, lc_r, lc_n, lc_j, lc_f, st_X10_lids_1, st_X10_lids_2, st_X10_lids_3, st_X10_lids_5, bM_some, hg_49_3, st_X10_lids_6, st_X10_lids_9, cond_false, ha_52, st_X10_lids_10, st_X10_lids_11, st_X10_lids_14, st_X10_lids_15, hg_49_26, st_X10_lids_16, st_X10_lids_19, ha_65, st_X10_lids_20, st_X10_lids_21, st_X10_lids_23, st_X10_lids_26, st_X10_lids_27, st_X10_lids_28, st_X10_lids_29, st_X10_lids_33, st_X10_lids_34, st_X10_lids_35, st_X10_lids_38, st_X10_lids_32, st_X10_lids_41, st_X10_lids_42, Nat.reduceAdd, nn_1, nn_8, nn_16, nn_24, nn_32, nn_40, nn_48, nn_suc, nn_out, nn_clamp, Int32.zero_add, gM_64, gM_65, gM_66, gM_67, gM_68, gM_69, gM_70, gM_33, gM_72, gM_73, gM_o, gM_49, gMw_64, gMw_65, gMw_66, gMw_67, gMw_68, gMw_69, gMw_70, gMw_33, gMw_72, gMw_73, Nat.zero_add, dv_5, dv_10, dv_3, dv_2, ne_eq, not_false_eq_true, if_false, in_m1, nn_oc0, nn_c0, hM.n hK, nn_lt, show j < N by omega, if_true, hb, bit_add j (by omega) _ (setN_lt (bL w) j)]
      exact e
theorem m_lids (hM : MK K N S D L g) (hK : KN K N S D L) : bc d M_X10_lids none 0 [some (.ref 49), none, none] [] (hp t (gM g w a k)) cn sn = some (.inl (some (.int (Int32.ofNat (setN (bL w) N)))), hp t (gM g w a k), cn, sn) := by
  simp only [st_X10_lids_0, lc_i, lc_r, lc_n, lc_j, lc_f, st_X10_lids_1, st_X10_lids_2, st_X10_lids_3, st_X10_lids_5, bM_some, hg_49_3, st_X10_lids_6, st_X10_lids_9, cond_false, ha_52, st_X10_lids_10, st_X10_lids_11, st_X10_lids_14, st_X10_lids_15, hg_49_26, st_X10_lids_16, st_X10_lids_19, ha_65, st_X10_lids_20, st_X10_lids_21, st_X10_lids_23, st_X10_lids_26, st_X10_lids_27, st_X10_lids_28, st_X10_lids_29, st_X10_lids_33, st_X10_lids_34, st_X10_lids_35, st_X10_lids_38, st_X10_lids_32, st_X10_lids_41, st_X10_lids_42, Nat.reduceAdd]
  exact m_lids_l hM hK N 0 (by omega)
set_option maxHeartbeats 2000000 in
theorem m_readySet_l (hM : MK K N S D L g) (hK : KN K N S D L) : ∀ m j : Nat, j + m = D →
    bc d M_X10_readySet none 4 [some (.ref 49), some (.int (Int32.ofNat (setN (bR w) j))), some (.int (Int32.ofNat j))] [] (hp t (gM g w a k)) cn sn = some (.inl (some (.int (Int32.ofNat (setN (bR w) D)))), hp t (gM g w a k), cn, sn) := by
  have h5 := hK.2.2.2.2.2.1
  intro m
  induction m with
  | zero =>
    intro j hj
    rw [st_X10_readySet_4]
    obtain rfl : j = D := by omega
    simp (disch := omega) only [st_X10_readySet_0, lc_i, lc_r, lc_n, lc_j, lc_f, st_X10_readySet_1, st_X10_readySet_2, st_X10_readySet_3, st_X10_readySet_5, bM_some, hg_49_3, st_X10_readySet_6, st_X10_readySet_9, cond_false, ha_52, st_X10_readySet_10, st_X10_readySet_11, st_X10_readySet_14, st_X10_readySet_15, hg_49_31, st_X10_readySet_16, st_X10_readySet_19, ha_70, st_X10_readySet_20, st_X10_readySet_21, st_X10_readySet_22, st_X10_readySet_25, st_X10_readySet_26, st_X10_readySet_27, st_X10_readySet_28, st_X10_readySet_32, st_X10_readySet_33, st_X10_readySet_34, st_X10_readySet_37, st_X10_readySet_31, st_X10_readySet_40, st_X10_readySet_41, Nat.reduceAdd, nn_1, nn_8, nn_16, nn_24, nn_32, nn_40, nn_48, nn_suc, nn_out, nn_clamp, Int32.zero_add, gM_64, gM_65, gM_66, gM_67, gM_68, gM_69, gM_70, gM_33, gM_72, gM_73, gM_o, gM_49, gMw_64, gMw_65, gMw_66, gMw_67, gMw_68, gMw_69, gMw_70, gMw_33, gMw_72, gMw_73, Nat.zero_add, dv_5, dv_10, dv_3, dv_2, ne_eq, not_false_eq_true, if_false, in_m1, nn_oc2, nn_c2, hM.di hK, nn_lt, show ¬ j < j by omega]
  | succ m ih =>
    intro j hj
    rw [st_X10_readySet_4]
    have e := ih (j + 1) (by omega)
    rw [setN_suc] at e
    cases hb : bR w j with
    | false =>
      rw [hb, cond_false, Nat.add_zero] at e
      unfold bR at hb
      rw [Bool.not_eq_false', decide_eq_true_eq] at hb
      simp (disch := omega) only [st_X10_readySet_0, lc_i, lc_r, lc_n, lc_j, lc_f, st_X10_readySet_1, st_X10_readySet_2, st_X10_readySet_3, st_X10_readySet_5, bM_some, hg_49_3, st_X10_readySet_6, st_X10_readySet_9, cond_false, ha_52, st_X10_readySet_10, st_X10_readySet_11, st_X10_readySet_14, st_X10_readySet_15, hg_49_31, st_X10_readySet_16, st_X10_readySet_19, ha_70, st_X10_readySet_20, st_X10_readySet_21, st_X10_readySet_22, st_X10_readySet_25, st_X10_readySet_26, st_X10_readySet_27, st_X10_readySet_28, st_X10_readySet_32, st_X10_readySet_33, st_X10_readySet_34, st_X10_readySet_37, st_X10_readySet_31, st_X10_readySet_40, st_X10_readySet_41, Nat.reduceAdd, nn_1, nn_8, nn_16, nn_24, nn_32, nn_40, nn_48, nn_suc, nn_out, nn_clamp, Int32.zero_add, gM_64, gM_65, gM_66, gM_67, gM_68, gM_69, gM_70, gM_33, gM_72, gM_73, gM_o, gM_49, gMw_64, gMw_65, gMw_66, gMw_67, gMw_68, gMw_69, gMw_70, gMw_33, gMw_72, gMw_73, Nat.zero_add, dv_5, dv_10, dv_3, dv_2, ne_eq, not_false_eq_true, if_false, in_m1, nn_oc2, nn_c2, hM.di hK, nn_lt, show j < D by omega, if_true, hb, bit_or0]
      exact e
    | true =>
      rw [hb, cond_true] at e
      unfold bR at hb
      rw [Bool.not_eq_true', decide_eq_false_iff_not] at hb
      simp (disch := omega) only [st_X10_readySet_0, lc_i, lc_r, lc_n, lc_j, lc_f, st_X10_readySet_1, st_X10_readySet_2, st_X10_readySet_3, st_X10_readySet_5, bM_some, hg_49_3, st_X10_readySet_6, st_X10_readySet_9, cond_false, ha_52, st_X10_readySet_10, st_X10_readySet_11, st_X10_readySet_14, st_X10_readySet_15, hg_49_31, st_X10_readySet_16, st_X10_readySet_19, ha_70, st_X10_readySet_20, st_X10_readySet_21, st_X10_readySet_22, st_X10_readySet_25, st_X10_readySet_26, st_X10_readySet_27, st_X10_readySet_28, st_X10_readySet_32, st_X10_readySet_33, st_X10_readySet_34, st_X10_readySet_37, st_X10_readySet_31, st_X10_readySet_40, st_X10_readySet_41, Nat.reduceAdd, nn_1, nn_8, nn_16, nn_24, nn_32, nn_40, nn_48, nn_suc, nn_out, nn_clamp, Int32.zero_add, gM_64, gM_65, gM_66, gM_67, gM_68, gM_69, gM_70, gM_33, gM_72, gM_73, gM_o, gM_49, gMw_64, gMw_65, gMw_66, gMw_67, gMw_68, gMw_69, gMw_70, gMw_33, gMw_72, gMw_73, Nat.zero_add, dv_5, dv_10, dv_3, dv_2, ne_eq, not_false_eq_true, if_false, in_m1, nn_oc2, nn_c2, hM.di hK, nn_lt, show j < D by omega, if_true, hb, bit_add j (by omega) _ (setN_lt (bR w) j)]
      exact e
theorem m_readySet (hM : MK K N S D L g) (hK : KN K N S D L) : bc d M_X10_readySet none 0 [some (.ref 49), none, none] [] (hp t (gM g w a k)) cn sn = some (.inl (some (.int (Int32.ofNat (setN (bR w) D)))), hp t (gM g w a k), cn, sn) := by
  simp only [st_X10_readySet_0, lc_i, lc_r, lc_n, lc_j, lc_f, st_X10_readySet_1, st_X10_readySet_2, st_X10_readySet_3, st_X10_readySet_5, bM_some, hg_49_3, st_X10_readySet_6, st_X10_readySet_9, cond_false, ha_52, st_X10_readySet_10, st_X10_readySet_11, st_X10_readySet_14, st_X10_readySet_15, hg_49_31, st_X10_readySet_16, st_X10_readySet_19, ha_70, st_X10_readySet_20, st_X10_readySet_21, st_X10_readySet_22, st_X10_readySet_25, st_X10_readySet_26, st_X10_readySet_27, st_X10_readySet_28, st_X10_readySet_32, st_X10_readySet_33, st_X10_readySet_34, st_X10_readySet_37, st_X10_readySet_31, st_X10_readySet_40, st_X10_readySet_41, Nat.reduceAdd]
  exact m_readySet_l hM hK D 0 (by omega)
end MHELP
