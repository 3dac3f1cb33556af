/-! ===== the reference: what only minutes bring ===== -/
theorem MK_hR {K : Kt} {N S D L c : Nat} {g : hG} {f : Rw} (h : c < 52 ∨ 61 < c) (hM : MK K N S D L g) : MK K N S D L (hR g c f) := by
  unfold MK at hM ⊢
  rw [hR_oth (k := 52) (by omega), hR_oth (k := 53) (by omega), hR_oth (k := 54) (by omega), hR_oth (k := 55) (by omega), hR_oth (k := 58) (by omega), hR_oth (k := 59) (by omega), hR_oth (k := 60) (by omega), hR_oth (k := 61) (by omega)]
  exact hM
theorem MK_hI {K : Kt} {N S D L c i : Nat} {g : hG} {x : Int32} (h : c < 52 ∨ 61 < c) (hM : MK K N S D L g) : MK K N S D L (hI g c i x) := by
  rw [hI_R]; exact MK_hR h hM
section MAHEAD
variable {d : Nat} {t : List px_E} {g : hG} {j q N S D L cn sn : Nat} {w a k : Rw} {x y z : Int32} {K : Kt}

theorem m_sung_x {i : Nat} (hi : i < 1000) (hx : ¬ x = -1) : bc (d + 4) M_X10_sung none 32 [some (.ref 49), some (.int y), some (.int x), some (.int (Int32.ofNat i))] [] (hp t (gM g w a k)) cn sn = some (.inl (some (.int x)), hp t (gM g (unpR (g.1 74) 0) a k), cn, sn) := by
  have hu := m_unpack_74 (d := d + 3) (t := t) (g := g) (w := w) (a := a) (k := k) (cn := 0) (sn := 0) (b := 0) (by omega)
  rw [show Int32.ofNat 0 = (0 : Int32) from rfl] at hu
  rw [st_X10_sung_32]
  by_cases h : 120 < i
  · simp (disch := omega) only [st_X10_sung_0, st_X10_sung_1, bM_some, hs_49_2, st_X10_sung_2, st_X10_sung_5, st_X10_sung_6, st_X10_sung_7 (p := 49) hq_49 ps_, bC_inl, Option.toList, List.cons_append, List.nil_append, Nat.add_zero, st_X10_sung_10, st_X10_sung_13, st_X10_sung_14, st_X10_sung_15 (p := 49) hq_49 ps_, st_X10_sung_18, st_X10_sung_19, st_X10_sung_20, hg_49_38, st_X10_sung_21, st_X10_sung_24, st_X10_sung_25 (p := 49) hq_49 ps_, st_X10_sung_28, lc_i, lc_r, lc_n, lc_j, lc_f, st_X10_sung_29, st_X10_sung_30, st_X10_sung_31, st_X10_sung_33, st_X10_sung_35, st_X10_sung_38, st_X10_sung_39, st_X10_sung_40, st_X10_sung_43, st_X10_sung_44 (p := 49) hq_49 ps_, st_X10_sung_47, hg_49_30, st_X10_sung_48, st_X10_sung_51, cond_false, ha_69, st_X10_sung_52, st_X10_sung_53, st_X10_sung_54, st_X10_sung_57, st_X10_sung_58, st_X10_sung_59, st_X10_sung_62, st_X10_sung_65, st_X10_sung_66, st_X10_sung_67, st_X10_sung_70, st_X10_sung_71 (p := 49) hq_49 ps_, st_X10_sung_74, st_X10_sung_75, Nat.reduceAdd, nn_g120, h, if_true, hu]
  · simp (disch := omega) only [st_X10_sung_0, st_X10_sung_1, bM_some, hs_49_2, st_X10_sung_2, st_X10_sung_5, st_X10_sung_6, st_X10_sung_7 (p := 49) hq_49 ps_, bC_inl, Option.toList, List.cons_append, List.nil_append, Nat.add_zero, st_X10_sung_10, st_X10_sung_13, st_X10_sung_14, st_X10_sung_15 (p := 49) hq_49 ps_, st_X10_sung_18, st_X10_sung_19, st_X10_sung_20, hg_49_38, st_X10_sung_21, st_X10_sung_24, st_X10_sung_25 (p := 49) hq_49 ps_, st_X10_sung_28, lc_i, lc_r, lc_n, lc_j, lc_f, st_X10_sung_29, st_X10_sung_30, st_X10_sung_31, st_X10_sung_33, st_X10_sung_35, st_X10_sung_38, st_X10_sung_39, st_X10_sung_40, st_X10_sung_43, st_X10_sung_44 (p := 49) hq_49 ps_, st_X10_sung_47, hg_49_30, st_X10_sung_48, st_X10_sung_51, cond_false, ha_69, st_X10_sung_52, st_X10_sung_53, st_X10_sung_54, st_X10_sung_57, st_X10_sung_58, st_X10_sung_59, st_X10_sung_62, st_X10_sung_65, st_X10_sung_66, st_X10_sung_67, st_X10_sung_70, st_X10_sung_71 (p := 49) hq_49 ps_, st_X10_sung_74, st_X10_sung_75, Nat.reduceAdd, nn_g120, h, hx, if_false, hu]
set_option maxHeartbeats 2000000 in
theorem m_sung_l (hM : MK K N S D L g) (hK : KN K N S D L) (hO : KO K N S D L) (hj : j < 8) : ∀ m i : Nat, i + m = 121 → ∀ (w a k : Rw) (T : Nat), RI K N S T w → T + m < 30000 → ∃ a' k' : Rw,
    bc (d + 4) M_X10_sung none 32 [some (.ref 49), some (.int (Int32.ofNat j)), some (.int (-1)), some (.int (Int32.ofNat i))] [] (hp t (gM g w a k)) cn sn = some (.inl (some (.int (seekR (minR K N D L) (fun _ w' => bS w' j) m i w))), hp t (gM g (unpR (g.1 74) 0) a' k'), cn, sn) := by
  intro m
  induction m with
  | zero =>
    intro i hi w a k T hR hT
    refine ⟨a, k, ?_⟩
    have hu := m_unpack_74 (d := d + 3) (t := t) (g := g) (w := w) (a := a) (k := k) (cn := 0) (sn := 0) (b := 0) (by omega)
    rw [show Int32.ofNat 0 = (0 : Int32) from rfl] at hu
    rw [st_X10_sung_32]
    simp (disch := omega) only [st_X10_sung_0, st_X10_sung_1, bM_some, hs_49_2, st_X10_sung_2, st_X10_sung_5, st_X10_sung_6, st_X10_sung_7 (p := 49) hq_49 ps_, bC_inl, Option.toList, List.cons_append, List.nil_append, Nat.add_zero, st_X10_sung_10, st_X10_sung_13, st_X10_sung_14, st_X10_sung_15 (p := 49) hq_49 ps_, st_X10_sung_18, st_X10_sung_19, st_X10_sung_20, hg_49_38, st_X10_sung_21, st_X10_sung_24, st_X10_sung_25 (p := 49) hq_49 ps_, st_X10_sung_28, lc_i, lc_r, lc_n, lc_j, lc_f, st_X10_sung_29, st_X10_sung_30, st_X10_sung_31, st_X10_sung_33, st_X10_sung_35, st_X10_sung_38, st_X10_sung_39, st_X10_sung_40, st_X10_sung_43, st_X10_sung_44 (p := 49) hq_49 ps_, st_X10_sung_47, hg_49_30, st_X10_sung_48, st_X10_sung_51, cond_false, ha_69, st_X10_sung_52, st_X10_sung_53, st_X10_sung_54, st_X10_sung_57, st_X10_sung_58, st_X10_sung_59, st_X10_sung_62, st_X10_sung_65, st_X10_sung_66, st_X10_sung_67, st_X10_sung_70, st_X10_sung_71 (p := 49) hq_49 ps_, st_X10_sung_74, st_X10_sung_75, Nat.reduceAdd, nn_g120, show 120 < i by omega, if_true, hu, seekR]
  | succ m ih =>
    intro i hi w a k T hR hT
    obtain ⟨a1, k1, e⟩ := m_min (d := d) (t := t) (cn := 0) (sn := 0) (a := a) (k := k) hM hK hO hR
    by_cases h1 : (¬ minR K N D L w (40 + j) = -1)
    · refine ⟨a1, k1, ?_⟩
      have hx := m_sung_x (d := d) (t := t) (g := g) (w := minR K N D L w) (a := a1) (k := k1) (cn := cn) (sn := sn) (x := Int32.ofNat i) (y := Int32.ofNat j) (i := i + 1) (by omega) (by rw [nn_nneg (by omega)]; exact fun z => z)
      rw [seekR_t (by unfold bS; simp only [h1, decide_true, decide_false, Bool.not_false]), ← hx, st_X10_sung_32]
      simp (disch := omega) only [st_X10_sung_0, st_X10_sung_1, bM_some, hs_49_2, st_X10_sung_2, st_X10_sung_5, st_X10_sung_6, st_X10_sung_7 (p := 49) hq_49 ps_, bC_inl, Option.toList, List.cons_append, List.nil_append, Nat.add_zero, st_X10_sung_10, st_X10_sung_13, st_X10_sung_14, st_X10_sung_15 (p := 49) hq_49 ps_, st_X10_sung_18, st_X10_sung_19, st_X10_sung_20, hg_49_38, st_X10_sung_21, st_X10_sung_24, st_X10_sung_25 (p := 49) hq_49 ps_, st_X10_sung_28, lc_i, lc_r, lc_n, lc_j, lc_f, st_X10_sung_29, st_X10_sung_30, st_X10_sung_31, st_X10_sung_33, st_X10_sung_35, st_X10_sung_38, st_X10_sung_39, st_X10_sung_40, st_X10_sung_43, st_X10_sung_44 (p := 49) hq_49 ps_, st_X10_sung_47, hg_49_30, st_X10_sung_48, st_X10_sung_51, cond_false, ha_69, st_X10_sung_52, st_X10_sung_53, st_X10_sung_54, st_X10_sung_57, st_X10_sung_58, st_X10_sung_59, st_X10_sung_62, st_X10_sung_65, st_X10_sung_66, st_X10_sung_67, st_X10_sung_70, st_X10_sung_71 (p := 49) hq_49 ps_, st_X10_sung_74, st_X10_sung_75, Nat.reduceAdd, gM_64, gM_65, gM_66, gM_67, gM_68, gM_69, gM_70, gM_33, gM_72, gM_73, gM_o, gM_49, gMw_64, gMw_65, gMw_66, gMw_67, gMw_68, gMw_69, gMw_70, gMw_33, gMw_72, gMw_73, Nat.zero_add, nn_1, nn_8, nn_16, nn_24, nn_32, nn_40, nn_48, nn_suc, nn_out, nn_clamp, Int32.zero_add, nn_r1, nn_g120, show ¬ 120 < i by omega, if_true, if_false, e, h1]
    · try rw [Classical.not_not] at h1
      obtain ⟨a', k', e'⟩ := ih (i + 1) (by omega) (minR K N D L w) a1 k1 (T + 1) (RI_min hK hO hR (by omega)) (by omega)
      refine ⟨a', k', ?_⟩
      rw [seekR_f (by unfold bS; simp only [h1, decide_true, decide_false, Bool.not_true]), ← e', st_X10_sung_32]
      simp (disch := omega) only [st_X10_sung_0, st_X10_sung_1, bM_some, hs_49_2, st_X10_sung_2, st_X10_sung_5, st_X10_sung_6, st_X10_sung_7 (p := 49) hq_49 ps_, bC_inl, Option.toList, List.cons_append, List.nil_append, Nat.add_zero, st_X10_sung_10, st_X10_sung_13, st_X10_sung_14, st_X10_sung_15 (p := 49) hq_49 ps_, st_X10_sung_18, st_X10_sung_19, st_X10_sung_20, hg_49_38, st_X10_sung_21, st_X10_sung_24, st_X10_sung_25 (p := 49) hq_49 ps_, st_X10_sung_28, lc_i, lc_r, lc_n, lc_j, lc_f, st_X10_sung_29, st_X10_sung_30, st_X10_sung_31, st_X10_sung_33, st_X10_sung_35, st_X10_sung_38, st_X10_sung_39, st_X10_sung_40, st_X10_sung_43, st_X10_sung_44 (p := 49) hq_49 ps_, st_X10_sung_47, hg_49_30, st_X10_sung_48, st_X10_sung_51, cond_false, ha_69, st_X10_sung_52, st_X10_sung_53, st_X10_sung_54, st_X10_sung_57, st_X10_sung_58, st_X10_sung_59, st_X10_sung_62, st_X10_sung_65, st_X10_sung_66, st_X10_sung_67, st_X10_sung_70, st_X10_sung_71 (p := 49) hq_49 ps_, st_X10_sung_74, st_X10_sung_75, Nat.reduceAdd, gM_64, gM_65, gM_66, gM_67, gM_68, gM_69, gM_70, gM_33, gM_72, gM_73, gM_o, gM_49, gMw_64, gMw_65, gMw_66, gMw_67, gMw_68, gMw_69, gMw_70, gMw_33, gMw_72, gMw_73, Nat.zero_add, nn_1, nn_8, nn_16, nn_24, nn_32, nn_40, nn_48, nn_suc, nn_out, nn_clamp, Int32.zero_add, nn_r1, nn_g120, show ¬ 120 < i by omega, if_true, if_false, e, h1]

theorem m_dry_x {i : Nat} (hi : i < 1000) (hx : ¬ x = -1) : bc (d + 4) M_X10_dry none 45 [some (.ref 49), some (.int y), some (.int x), some (.int (Int32.ofNat i))] [] (hp t (gM g w a k)) cn sn = some (.inl (some (.int x)), hp t (gM g (unpR (g.1 74) 0) a k), cn, sn) := by
  have hu := m_unpack_74 (d := d + 3) (t := t) (g := g) (w := w) (a := a) (k := k) (cn := 0) (sn := 0) (b := 0) (by omega)
  rw [show Int32.ofNat 0 = (0 : Int32) from rfl] at hu
  rw [st_X10_dry_45]
  by_cases h : 120 < i
  · simp (disch := omega) only [st_X10_dry_0, st_X10_dry_1, bM_some, hs_49_2, st_X10_dry_2, st_X10_dry_5, st_X10_dry_6, st_X10_dry_7 (p := 49) hq_49 ps_, bC_inl, Option.toList, List.cons_append, List.nil_append, Nat.add_zero, st_X10_dry_10, st_X10_dry_13, st_X10_dry_14, st_X10_dry_15 (p := 49) hq_49 ps_, st_X10_dry_18, st_X10_dry_19, st_X10_dry_20, hg_49_38, st_X10_dry_21, st_X10_dry_24, st_X10_dry_25 (p := 49) hq_49 ps_, st_X10_dry_28, hg_49_27, st_X10_dry_29, st_X10_dry_32, cond_false, ha_66, st_X10_dry_33, st_X10_dry_34, st_X10_dry_37, st_X10_dry_38, lc_i, lc_r, lc_n, lc_j, lc_f, st_X10_dry_42, st_X10_dry_43, st_X10_dry_44, st_X10_dry_46, st_X10_dry_48, st_X10_dry_51, st_X10_dry_52, st_X10_dry_53, st_X10_dry_56, st_X10_dry_57 (p := 49) hq_49 ps_, st_X10_dry_60, st_X10_dry_61, st_X10_dry_64, st_X10_dry_65, st_X10_dry_66, st_X10_dry_69, st_X10_dry_70, st_X10_dry_71, st_X10_dry_74, st_X10_dry_77, st_X10_dry_78, st_X10_dry_79, st_X10_dry_82, st_X10_dry_83 (p := 49) hq_49 ps_, st_X10_dry_86, st_X10_dry_87, st_X10_dry_41, Nat.reduceAdd, nn_g120, h, if_true, hu]
  · simp (disch := omega) only [st_X10_dry_0, st_X10_dry_1, bM_some, hs_49_2, st_X10_dry_2, st_X10_dry_5, st_X10_dry_6, st_X10_dry_7 (p := 49) hq_49 ps_, bC_inl, Option.toList, List.cons_append, List.nil_append, Nat.add_zero, st_X10_dry_10, st_X10_dry_13, st_X10_dry_14, st_X10_dry_15 (p := 49) hq_49 ps_, st_X10_dry_18, st_X10_dry_19, st_X10_dry_20, hg_49_38, st_X10_dry_21, st_X10_dry_24, st_X10_dry_25 (p := 49) hq_49 ps_, st_X10_dry_28, hg_49_27, st_X10_dry_29, st_X10_dry_32, cond_false, ha_66, st_X10_dry_33, st_X10_dry_34, st_X10_dry_37, st_X10_dry_38, lc_i, lc_r, lc_n, lc_j, lc_f, st_X10_dry_42, st_X10_dry_43, st_X10_dry_44, st_X10_dry_46, st_X10_dry_48, st_X10_dry_51, st_X10_dry_52, st_X10_dry_53, st_X10_dry_56, st_X10_dry_57 (p := 49) hq_49 ps_, st_X10_dry_60, st_X10_dry_61, st_X10_dry_64, st_X10_dry_65, st_X10_dry_66, st_X10_dry_69, st_X10_dry_70, st_X10_dry_71, st_X10_dry_74, st_X10_dry_77, st_X10_dry_78, st_X10_dry_79, st_X10_dry_82, st_X10_dry_83 (p := 49) hq_49 ps_, st_X10_dry_86, st_X10_dry_87, st_X10_dry_41, Nat.reduceAdd, nn_g120, h, hx, if_false, hu]
set_option maxHeartbeats 2000000 in
theorem m_dry_l (hM : MK K N S D L g) (hK : KN K N S D L) (hO : KO K N S D L) (hj : j < 8) : ∀ m i : Nat, i + m = 121 → ∀ (w a k : Rw) (T : Nat), RI K N S T w → T + m < 30000 → ∃ a' k' : Rw,
    bc (d + 4) M_X10_dry none 45 [some (.ref 49), some (.int (Int32.ofNat j)), some (.int (-1)), some (.int (Int32.ofNat i))] [] (hp t (gM g w a k)) cn sn = some (.inl (some (.int (seekR (minR K N D L) (fun _ w' => bD w' j) m i w))), hp t (gM g (unpR (g.1 74) 0) a' k'), cn, sn) := by
  intro m
  induction m with
  | zero =>
    intro i hi w a k T hR hT
    refine ⟨a, k, ?_⟩
    have hu := m_unpack_74 (d := d + 3) (t := t) (g := g) (w := w) (a := a) (k := k) (cn := 0) (sn := 0) (b := 0) (by omega)
    rw [show Int32.ofNat 0 = (0 : Int32) from rfl] at hu
    rw [st_X10_dry_45]
    simp (disch := omega) only [st_X10_dry_0, st_X10_dry_1, bM_some, hs_49_2, st_X10_dry_2, st_X10_dry_5, st_X10_dry_6, st_X10_dry_7 (p := 49) hq_49 ps_, bC_inl, Option.toList, List.cons_append, List.nil_append, Nat.add_zero, st_X10_dry_10, st_X10_dry_13, st_X10_dry_14, st_X10_dry_15 (p := 49) hq_49 ps_, st_X10_dry_18, st_X10_dry_19, st_X10_dry_20, hg_49_38, st_X10_dry_21, st_X10_dry_24, st_X10_dry_25 (p := 49) hq_49 ps_, st_X10_dry_28, hg_49_27, st_X10_dry_29, st_X10_dry_32, cond_false, ha_66, st_X10_dry_33, st_X10_dry_34, st_X10_dry_37, st_X10_dry_38, lc_i, lc_r, lc_n, lc_j, lc_f, st_X10_dry_42, st_X10_dry_43, st_X10_dry_44, st_X10_dry_46, st_X10_dry_48, st_X10_dry_51, st_X10_dry_52, st_X10_dry_53, st_X10_dry_56, st_X10_dry_57 (p := 49) hq_49 ps_, st_X10_dry_60, st_X10_dry_61, st_X10_dry_64, st_X10_dry_65, st_X10_dry_66, st_X10_dry_69, st_X10_dry_70, st_X10_dry_71, st_X10_dry_74, st_X10_dry_77, st_X10_dry_78, st_X10_dry_79, st_X10_dry_82, st_X10_dry_83 (p := 49) hq_49 ps_, st_X10_dry_86, st_X10_dry_87, st_X10_dry_41, Nat.reduceAdd, nn_g120, show 120 < i by omega, if_true, hu, seekR]
  | succ m ih =>
    intro i hi w a k T hR hT
    obtain ⟨a1, k1, e⟩ := m_min (d := d) (t := t) (cn := 0) (sn := 0) (a := a) (k := k) hM hK hO hR
    by_cases h1 : (minR K N D L w (16 + j) = 0)
    · refine ⟨a1, k1, ?_⟩
      have hx := m_dry_x (d := d) (t := t) (g := g) (w := minR K N D L w) (a := a1) (k := k1) (cn := cn) (sn := sn) (x := Int32.ofNat i) (y := Int32.ofNat j) (i := i + 1) (by omega) (by rw [nn_nneg (by omega)]; exact fun z => z)
      rw [seekR_t (by unfold bD; simp only [h1, decide_true, decide_false, Bool.not_false]), ← hx, st_X10_dry_45]
      simp (disch := omega) only [st_X10_dry_0, st_X10_dry_1, bM_some, hs_49_2, st_X10_dry_2, st_X10_dry_5, st_X10_dry_6, st_X10_dry_7 (p := 49) hq_49 ps_, bC_inl, Option.toList, List.cons_append, List.nil_append, Nat.add_zero, st_X10_dry_10, st_X10_dry_13, st_X10_dry_14, st_X10_dry_15 (p := 49) hq_49 ps_, st_X10_dry_18, st_X10_dry_19, st_X10_dry_20, hg_49_38, st_X10_dry_21, st_X10_dry_24, st_X10_dry_25 (p := 49) hq_49 ps_, st_X10_dry_28, hg_49_27, st_X10_dry_29, st_X10_dry_32, cond_false, ha_66, st_X10_dry_33, st_X10_dry_34, st_X10_dry_37, st_X10_dry_38, lc_i, lc_r, lc_n, lc_j, lc_f, st_X10_dry_42, st_X10_dry_43, st_X10_dry_44, st_X10_dry_46, st_X10_dry_48, st_X10_dry_51, st_X10_dry_52, st_X10_dry_53, st_X10_dry_56, st_X10_dry_57 (p := 49) hq_49 ps_, st_X10_dry_60, st_X10_dry_61, st_X10_dry_64, st_X10_dry_65, st_X10_dry_66, st_X10_dry_69, st_X10_dry_70, st_X10_dry_71, st_X10_dry_74, st_X10_dry_77, st_X10_dry_78, st_X10_dry_79, st_X10_dry_82, st_X10_dry_83 (p := 49) hq_49 ps_, st_X10_dry_86, st_X10_dry_87, st_X10_dry_41, Nat.reduceAdd, gM_64, gM_65, gM_66, gM_67, gM_68, gM_69, gM_70, gM_33, gM_72, gM_73, gM_o, gM_49, gMw_64, gMw_65, gMw_66, gMw_67, gMw_68, gMw_69, gMw_70, gMw_33, gMw_72, gMw_73, Nat.zero_add, nn_1, nn_8, nn_16, nn_24, nn_32, nn_40, nn_48, nn_suc, nn_out, nn_clamp, Int32.zero_add, nn_r1, nn_g120, show ¬ 120 < i by omega, if_true, if_false, e, h1]
    · try rw [Classical.not_not] at h1
      obtain ⟨a', k', e'⟩ := ih (i + 1) (by omega) (minR K N D L w) a1 k1 (T + 1) (RI_min hK hO hR (by omega)) (by omega)
      refine ⟨a', k', ?_⟩
      rw [seekR_f (by unfold bD; simp only [h1, decide_true, decide_false, Bool.not_true]), ← e', st_X10_dry_45]
      simp (disch := omega) only [st_X10_dry_0, st_X10_dry_1, bM_some, hs_49_2, st_X10_dry_2, st_X10_dry_5, st_X10_dry_6, st_X10_dry_7 (p := 49) hq_49 ps_, bC_inl, Option.toList, List.cons_append, List.nil_append, Nat.add_zero, st_X10_dry_10, st_X10_dry_13, st_X10_dry_14, st_X10_dry_15 (p := 49) hq_49 ps_, st_X10_dry_18, st_X10_dry_19, st_X10_dry_20, hg_49_38, st_X10_dry_21, st_X10_dry_24, st_X10_dry_25 (p := 49) hq_49 ps_, st_X10_dry_28, hg_49_27, st_X10_dry_29, st_X10_dry_32, cond_false, ha_66, st_X10_dry_33, st_X10_dry_34, st_X10_dry_37, st_X10_dry_38, lc_i, lc_r, lc_n, lc_j, lc_f, st_X10_dry_42, st_X10_dry_43, st_X10_dry_44, st_X10_dry_46, st_X10_dry_48, st_X10_dry_51, st_X10_dry_52, st_X10_dry_53, st_X10_dry_56, st_X10_dry_57 (p := 49) hq_49 ps_, st_X10_dry_60, st_X10_dry_61, st_X10_dry_64, st_X10_dry_65, st_X10_dry_66, st_X10_dry_69, st_X10_dry_70, st_X10_dry_71, st_X10_dry_74, st_X10_dry_77, st_X10_dry_78, st_X10_dry_79, st_X10_dry_82, st_X10_dry_83 (p := 49) hq_49 ps_, st_X10_dry_86, st_X10_dry_87, st_X10_dry_41, Nat.reduceAdd, gM_64, gM_65, gM_66, gM_67, gM_68, gM_69, gM_70, gM_33, gM_72, gM_73, gM_o, gM_49, gMw_64, gMw_65, gMw_66, gMw_67, gMw_68, gMw_69, gMw_70, gMw_33, gMw_72, gMw_73, Nat.zero_add, nn_1, nn_8, nn_16, nn_24, nn_32, nn_40, nn_48, nn_suc, nn_out, nn_clamp, Int32.zero_add, nn_r1, nn_g120, show ¬ 120 < i by omega, if_true, if_false, e, h1]

/-- the base behind such a call: no code, the row kept in rowThen -/
def gB (g : hG) (w : Rw) : hG := hR (hI g 49 2 0) 74 (packR (g.1 74) 0 w)
theorem MK_gB (hM : MK K N S D L g) : MK K N S D L (gB g w) := MK_hR (by omega) (MK_hI (by omega) hM)
theorem gB_un (a k : Rw) : gM (gB g w) (unpR ((gB g w).1 74) 0) a k = gM (gB g w) w a k := by
  apply gM_ext
  intro i hi
  show unpR ((hR (hI g 49 2 0) 74 (packR (g.1 74) 0 w)).1 74) 0 i = w i
  rw [hR_same, unp_pack hi]
theorem m_pk0 : bc d M_X10_pack none 0 [some (.ref 49), some (.ref 74), some (.int 0), none] [] (hp t (gM (hI g 49 2 0) w a k)) cn sn = some (.inl none, hp t (gM (gB g w) w a k), cn, sn) := by
  have := m_pack_74 (d := d) (t := t) (g := hI g 49 2 0) (w := w) (a := a) (k := k) (cn := cn) (sn := sn) (b := 0) (by omega)
  exact this
set_option maxHeartbeats 2000000 in
theorem m_sung (hM : MK K N S D L g) (hK : KN K N S D L) (hO : KO K N S D L) (hR : RI K N S 9999 w) (hj : j < N) : ∃ a' k' : Rw,
    bc (d + 4) M_X10_sung none 0 [some (.ref 49), some (.int (Int32.ofNat j)), none, none] [] (hp t (gM g w a k)) cn sn = some (.inl (some (.int (seekR (minR K N D L) (fun _ w' => bS w' j) 120 1 w))), hp t (gM (gB g w) w a' k'), cn, sn) := by
  have h8 := hK.2.1
  obtain ⟨a', k', e⟩ := m_sung_l (d := d) (t := t) (cn := cn) (sn := sn) (j := j) (MK_gB (w := w) hM) hK hO (by omega) 120 1 (by omega) w a k 9999 hR (by omega)
  refine ⟨a', k', ?_⟩
  rw [gB_un] at e
  rw [← e]
  simp (disch := omega) only [st_X10_sung_0, st_X10_sung_1, bM_some, hs_49_2, st_X10_sung_2, st_X10_sung_5, st_X10_sung_6, st_X10_sung_7 (p := 49) hq_49 ps_, bC_inl, Option.toList, List.cons_append, List.nil_append, Nat.add_zero, st_X10_sung_10, st_X10_sung_13, st_X10_sung_14, st_X10_sung_15 (p := 49) hq_49 ps_, st_X10_sung_18, st_X10_sung_19, st_X10_sung_20, hg_49_38, st_X10_sung_21, st_X10_sung_24, st_X10_sung_25 (p := 49) hq_49 ps_, st_X10_sung_28, lc_i, lc_r, lc_n, lc_j, lc_f, st_X10_sung_29, st_X10_sung_30, st_X10_sung_31, st_X10_sung_33, st_X10_sung_35, st_X10_sung_38, st_X10_sung_39, st_X10_sung_40, st_X10_sung_43, st_X10_sung_44 (p := 49) hq_49 ps_, st_X10_sung_47, hg_49_30, st_X10_sung_48, st_X10_sung_51, cond_false, ha_69, st_X10_sung_52, st_X10_sung_53, st_X10_sung_54, st_X10_sung_57, st_X10_sung_58, st_X10_sung_59, st_X10_sung_62, st_X10_sung_65, st_X10_sung_66, st_X10_sung_67, st_X10_sung_70, st_X10_sung_71 (p := 49) hq_49 ps_, st_X10_sung_74, st_X10_sung_75, Nat.reduceAdd, gM_hI49, m_isKettle_y (MK_hI (c := 49) (i := 2) (x := 0) (by omega) hM) hK (x := Int32.ofNat j) (by rw [ii_ofNat (by omega)]; omega), nn_one0, if_false, m_pk0]
  rfl
theorem ofN_b {B : Nat} (hj : j < B) (hB : B < 1000) : 0 ≤ (Int32.ofNat j).toInt ∧ (Int32.ofNat j).toInt < (B : Int) := by
  rw [ii_ofNat (by omega)]; omega
set_option maxHeartbeats 2000000 in
theorem m_dry (hM : MK K N S D L g) (hK : KN K N S D L) (hO : KO K N S D L) (hR : RI K N S 9999 w) (hj : j < N) : ∃ a' k' : Rw,
    bc (d + 4) M_X10_dry none 0 [some (.ref 49), some (.int (Int32.ofNat j)), none, none] [] (hp t (gM g w a k)) cn sn = some (.inl (some (.int (if w (16 + j) = 0 then 0 else seekR (minR K N D L) (fun _ w' => bD w' j) 120 1 w))), hp t (gM (gB g w) w a' k'), cn, sn) := by
  have h8 := hK.2.1
  have hy := m_isKettle_y (d := d + 2) (t := t) (w := w) (a := a) (k := k) (cn := 0) (sn := 0) (MK_hI (c := 49) (i := 2) (x := 0) (by omega) hM) hK (x := Int32.ofNat j) (ofN_b hj (by omega))
  by_cases h : w (16 + j) = 0
  · refine ⟨a, k, ?_⟩
    have hx := m_dry_x (d := d) (t := t) (g := gB g w) (w := w) (a := a) (k := k) (cn := cn) (sn := sn) (x := 0) (y := Int32.ofNat j) (i := 1) (by omega) (by decide)
    rw [gB_un] at hx
    rw [if_pos h, ← hx]
    simp (disch := omega) only [st_X10_dry_0, st_X10_dry_1, bM_some, hs_49_2, st_X10_dry_2, st_X10_dry_5, st_X10_dry_6, st_X10_dry_7 (p := 49) hq_49 ps_, bC_inl, Option.toList, List.cons_append, List.nil_append, Nat.add_zero, st_X10_dry_10, st_X10_dry_13, st_X10_dry_14, st_X10_dry_15 (p := 49) hq_49 ps_, st_X10_dry_18, st_X10_dry_19, st_X10_dry_20, hg_49_38, st_X10_dry_21, st_X10_dry_24, st_X10_dry_25 (p := 49) hq_49 ps_, st_X10_dry_28, hg_49_27, st_X10_dry_29, st_X10_dry_32, cond_false, ha_66, st_X10_dry_33, st_X10_dry_34, st_X10_dry_37, st_X10_dry_38, lc_i, lc_r, lc_n, lc_j, lc_f, st_X10_dry_42, st_X10_dry_43, st_X10_dry_44, st_X10_dry_46, st_X10_dry_48, st_X10_dry_51, st_X10_dry_52, st_X10_dry_53, st_X10_dry_56, st_X10_dry_57 (p := 49) hq_49 ps_, st_X10_dry_60, st_X10_dry_61, st_X10_dry_64, st_X10_dry_65, st_X10_dry_66, st_X10_dry_69, st_X10_dry_70, st_X10_dry_71, st_X10_dry_74, st_X10_dry_77, st_X10_dry_78, st_X10_dry_79, st_X10_dry_82, st_X10_dry_83 (p := 49) hq_49 ps_, st_X10_dry_86, st_X10_dry_87, st_X10_dry_41, Nat.reduceAdd, gM_64, gM_65, gM_66, gM_67, gM_68, gM_69, gM_70, gM_33, gM_72, gM_73, gM_o, gM_49, gMw_64, gMw_65, gMw_66, gMw_67, gMw_68, gMw_69, gMw_70, gMw_33, gMw_72, gMw_73, Nat.zero_add, nn_1, nn_8, nn_16, nn_24, nn_32, nn_40, nn_48, nn_suc, nn_out, nn_clamp, Int32.zero_add, gM_hI49, hy, nn_one0, if_true, if_false, m_pk0, h]
    rfl
  · obtain ⟨a', k', e⟩ := m_dry_l (d := d) (t := t) (cn := cn) (sn := sn) (j := j) (MK_gB (w := w) hM) hK hO (by omega) 120 1 (by omega) w a k 9999 hR (by omega)
    refine ⟨a', k', ?_⟩
    rw [gB_un] at e
    rw [if_neg h, ← e]
    simp (disch := omega) only [st_X10_dry_0, st_X10_dry_1, bM_some, hs_49_2, st_X10_dry_2, st_X10_dry_5, st_X10_dry_6, st_X10_dry_7 (p := 49) hq_49 ps_, bC_inl, Option.toList, List.cons_append, List.nil_append, Nat.add_zero, st_X10_dry_10, st_X10_dry_13, st_X10_dry_14, st_X10_dry_15 (p := 49) hq_49 ps_, st_X10_dry_18, st_X10_dry_19, st_X10_dry_20, hg_49_38, st_X10_dry_21, st_X10_dry_24, st_X10_dry_25 (p := 49) hq_49 ps_, st_X10_dry_28, hg_49_27, st_X10_dry_29, st_X10_dry_32, cond_false, ha_66, st_X10_dry_33, st_X10_dry_34, st_X10_dry_37, st_X10_dry_38, lc_i, lc_r, lc_n, lc_j, lc_f, st_X10_dry_42, st_X10_dry_43, st_X10_dry_44, st_X10_dry_46, st_X10_dry_48, st_X10_dry_51, st_X10_dry_52, st_X10_dry_53, st_X10_dry_56, st_X10_dry_57 (p := 49) hq_49 ps_, st_X10_dry_60, st_X10_dry_61, st_X10_dry_64, st_X10_dry_65, st_X10_dry_66, st_X10_dry_69, st_X10_dry_70, st_X10_dry_71, st_X10_dry_74, st_X10_dry_77, st_X10_dry_78, st_X10_dry_79, st_X10_dry_82, st_X10_dry_83 (p := 49) hq_49 ps_, st_X10_dry_86, st_X10_dry_87, st_X10_dry_41, Nat.reduceAdd, gM_64, gM_65, gM_66, gM_67, gM_68, gM_69, gM_70, gM_33, gM_72, gM_73, gM_o, gM_49, gMw_64, gMw_65, gMw_66, gMw_67, gMw_68, gMw_69, gMw_70, gMw_33, gMw_72, gMw_73, Nat.zero_add, nn_1, nn_8, nn_16, nn_24, nn_32, nn_40, nn_48, nn_suc, nn_out, nn_clamp, Int32.zero_add, gM_hI49, hy, nn_one0, if_false, m_pk0, h]
    rfl
set_option maxHeartbeats 2000000 in
theorem m_doneIn_l (hM : MK K N S D L g) (hK : KN K N S D L) (hO : KO K N S D L) (hj : j < D) (hq : q < 1000) : ∀ m i : Nat, i + m = q + 1 → ∀ (w a k : Rw) (T : Nat), RI K N S T w → T + m < 30000 → ∃ w' a' k' : Rw,
    bc (d + 4) M_X10_doneIn none 2 [some (.ref 49), some (.int (Int32.ofNat j)), some (.int (Int32.ofNat q)), some (.int (Int32.ofNat i))] [] (hp t (gM g w a k)) cn sn = some (.inl (some (.int (seekR (minR K N D L) (fun _ w' => bR w' j) m i w))), hp t (gM g w' a' k'), cn, sn) := by
  have h5 := hK.2.2.2.2.2.1
  intro m
  induction m with
  | zero =>
    intro i hi w a k T hR hT
    refine ⟨w, a, k, ?_⟩
    rw [st_X10_doneIn_2]
    simp (disch := omega) only [st_X10_doneIn_0, lc_i, lc_r, lc_n, lc_j, lc_f, st_X10_doneIn_1, st_X10_doneIn_3, st_X10_doneIn_4, st_X10_doneIn_7, st_X10_doneIn_8 (p := 49) hq_49 ps_, bC_inl, Option.toList, List.cons_append, List.nil_append, Nat.add_zero, st_X10_doneIn_11, bM_some, hg_49_31, st_X10_doneIn_12, st_X10_doneIn_15, cond_false, ha_70, st_X10_doneIn_16, st_X10_doneIn_17, st_X10_doneIn_18, st_X10_doneIn_21, st_X10_doneIn_22, st_X10_doneIn_23, st_X10_doneIn_26, st_X10_doneIn_29, st_X10_doneIn_30, Nat.reduceAdd, nn_lt, show q < i by omega, if_true, seekR]
  | succ m ih =>
    intro i hi w a k T hR hT
    obtain ⟨a1, k1, e⟩ := m_min (d := d) (t := t) (cn := 0) (sn := 0) (a := a) (k := k) hM hK hO hR
    by_cases h1 : minR K N D L w (48 + j) = -1
    · obtain ⟨w', a', k', e'⟩ := ih (i + 1) (by omega) (minR K N D L w) a1 k1 (T + 1) (RI_min hK hO hR (by omega)) (by omega)
      refine ⟨w', a', k', ?_⟩
      rw [seekR_f (by unfold bR; simp only [h1, decide_true, Bool.not_true]), ← e', st_X10_doneIn_2]
      simp (disch := omega) only [st_X10_doneIn_0, lc_i, lc_r, lc_n, lc_j, lc_f, st_X10_doneIn_1, st_X10_doneIn_3, st_X10_doneIn_4, st_X10_doneIn_7, st_X10_doneIn_8 (p := 49) hq_49 ps_, bC_inl, Option.toList, List.cons_append, List.nil_append, Nat.add_zero, st_X10_doneIn_11, bM_some, hg_49_31, st_X10_doneIn_12, st_X10_doneIn_15, cond_false, ha_70, st_X10_doneIn_16, st_X10_doneIn_17, st_X10_doneIn_18, st_X10_doneIn_21, st_X10_doneIn_22, st_X10_doneIn_23, st_X10_doneIn_26, st_X10_doneIn_29, st_X10_doneIn_30, Nat.reduceAdd, gM_64, gM_65, gM_66, gM_67, gM_68, gM_69, gM_70, gM_33, gM_72, gM_73, gM_o, gM_49, gMw_64, gMw_65, gMw_66, gMw_67, gMw_68, gMw_69, gMw_70, gMw_33, gMw_72, gMw_73, Nat.zero_add, nn_1, nn_8, nn_16, nn_24, nn_32, nn_40, nn_48, nn_suc, nn_out, nn_clamp, Int32.zero_add, nn_r1, nn_lt, show ¬ q < i by omega, if_true, if_false, e, h1]
    · refine ⟨minR K N D L w, a1, k1, ?_⟩
      rw [seekR_t (by unfold bR; simp only [h1, decide_false, Bool.not_false]), st_X10_doneIn_2]
      simp (disch := omega) only [st_X10_doneIn_0, lc_i, lc_r, lc_n, lc_j, lc_f, st_X10_doneIn_1, st_X10_doneIn_3, st_X10_doneIn_4, st_X10_doneIn_7, st_X10_doneIn_8 (p := 49) hq_49 ps_, bC_inl, Option.toList, List.cons_append, List.nil_append, Nat.add_zero, st_X10_doneIn_11, bM_some, hg_49_31, st_X10_doneIn_12, st_X10_doneIn_15, cond_false, ha_70, st_X10_doneIn_16, st_X10_doneIn_17, st_X10_doneIn_18, st_X10_doneIn_21, st_X10_doneIn_22, st_X10_doneIn_23, st_X10_doneIn_26, st_X10_doneIn_29, st_X10_doneIn_30, Nat.reduceAdd, gM_64, gM_65, gM_66, gM_67, gM_68, gM_69, gM_70, gM_33, gM_72, gM_73, gM_o, gM_49, gMw_64, gMw_65, gMw_66, gMw_67, gMw_68, gMw_69, gMw_70, gMw_33, gMw_72, gMw_73, Nat.zero_add, nn_1, nn_8, nn_16, nn_24, nn_32, nn_40, nn_48, nn_suc, nn_out, nn_clamp, Int32.zero_add, nn_lt, show ¬ q < i by omega, if_false, e, h1]
theorem m_doneIn (hM : MK K N S D L g) (hK : KN K N S D L) (hO : KO K N S D L) (hj : j < D) (hq : q < 1000) (hR : RI K N S 9999 w) : ∃ w' a' k' : Rw,
    bc (d + 4) M_X10_doneIn none 0 [some (.ref 49), some (.int (Int32.ofNat j)), some (.int (Int32.ofNat q)), none] [] (hp t (gM g w a k)) cn sn = some (.inl (some (.int (seekR (minR K N D L) (fun _ w' => bR w' j) q 1 w))), hp t (gM g w' a' k'), cn, sn) := by
  obtain ⟨w', a', k', e⟩ := m_doneIn_l (d := d) (t := t) (cn := cn) (sn := sn) hM hK hO hj hq q 1 (by omega) w a k 9999 hR (by omega)
  refine ⟨w', a', k', ?_⟩
  rw [← e]
  simp only [st_X10_doneIn_0, lc_i, lc_r, lc_n, lc_j, lc_f, st_X10_doneIn_1, st_X10_doneIn_3, st_X10_doneIn_4, st_X10_doneIn_7, st_X10_doneIn_8 (p := 49) hq_49 ps_, bC_inl, Option.toList, List.cons_append, List.nil_append, Nat.add_zero, st_X10_doneIn_11, bM_some, hg_49_31, st_X10_doneIn_12, st_X10_doneIn_15, cond_false, ha_70, st_X10_doneIn_16, st_X10_doneIn_17, st_X10_doneIn_18, st_X10_doneIn_21, st_X10_doneIn_22, st_X10_doneIn_23, st_X10_doneIn_26, st_X10_doneIn_29, st_X10_doneIn_30, Nat.reduceAdd]
  rfl
set_option maxHeartbeats 2000000 in
theorem m_done (hM : MK K N S D L g) (hK : KN K N S D L) (hO : KO K N S D L) (hri : RI K N S 9999 w) (hj : j < D) : ∃ (f a' k' : Rw),
    bc (d + 5) M_X10_done none 0 [some (.ref 49), some (.int (Int32.ofNat j)), none] [] (hp t (gM g w a k)) cn sn = some (.inl (some (.int (if w (48 + j) = -1 then seekR (minR K N D L) (fun _ w' => bR w' j) 120 1 w else 0))), hp t (gM (hR (hI g 49 2 0) 74 f) w a' k'), cn, sn) := by
  have h5 := hK.2.2.2.2.2.1
  have hy := m_isDish_y (d := d + 3) (t := t) (w := w) (a := a) (k := k) (cn := 0) (sn := 0) (MK_hI (c := 49) (i := 2) (x := 0) (by omega) hM) hK (x := Int32.ofNat j) (ofN_b hj (by omega))
  by_cases h : w (48 + j) = -1
  · obtain ⟨w', a', k', e⟩ := m_doneIn (d := d) (t := t) (cn := 0) (sn := 0) (a := a) (k := k) (MK_gB (w := w) hM) hK hO hj (q := 120) (by omega) hri
    rw [show Int32.ofNat 120 = (120 : Int32) from rfl] at e
    refine ⟨packR (g.1 74) 0 w, a', k', ?_⟩
    have hu := m_unpack_74 (d := d + 4) (t := t) (g := gB g w) (w := w') (a := a') (k := k') (cn := 0) (sn := 0) (b := 0) (by omega)
    rw [show Int32.ofNat 0 = (0 : Int32) from rfl, gB_un] at hu
    rw [if_pos h]
    simp (disch := omega) only [st_X10_done_0, st_X10_done_1, bM_some, hs_49_2, st_X10_done_2, st_X10_done_5, st_X10_done_6, st_X10_done_7 (p := 49) hq_49 ps_, bC_inl, Option.toList, List.cons_append, List.nil_append, Nat.add_zero, st_X10_done_10, st_X10_done_13, st_X10_done_14, st_X10_done_15 (p := 49) hq_49 ps_, st_X10_done_18, st_X10_done_19, hg_49_31, st_X10_done_20, st_X10_done_23, cond_false, ha_70, st_X10_done_24, st_X10_done_25, st_X10_done_26, st_X10_done_29, st_X10_done_30, st_X10_done_31, st_X10_done_32, hg_49_38, st_X10_done_33, st_X10_done_36, st_X10_done_37 (p := 49) hq_49 ps_, st_X10_done_40, st_X10_done_41, st_X10_done_42, st_X10_done_44 (p := 49) hq_49 ps_, lc_i, lc_r, lc_n, lc_j, lc_f, st_X10_done_47, st_X10_done_48, st_X10_done_49, st_X10_done_50, st_X10_done_53, st_X10_done_54 (p := 49) hq_49 ps_, st_X10_done_57, st_X10_done_58, Nat.reduceAdd, gM_64, gM_65, gM_66, gM_67, gM_68, gM_69, gM_70, gM_33, gM_72, gM_73, gM_o, gM_49, gMw_64, gMw_65, gMw_66, gMw_67, gMw_68, gMw_69, gMw_70, gMw_33, gMw_72, gMw_73, Nat.zero_add, nn_1, nn_8, nn_16, nn_24, nn_32, nn_40, nn_48, nn_suc, nn_out, nn_clamp, Int32.zero_add, gM_hI49, hy, nn_one0, if_true, if_false, m_pk0, h, e, hu]
    rfl
  · refine ⟨g.1 74, a, k, ?_⟩
    rw [if_neg h, show hR (hI g 49 2 0) 74 (g.1 74) = hI g 49 2 0 from hR_self (g := hI g 49 2 0) (c := 74)]
    simp (disch := omega) only [st_X10_done_0, st_X10_done_1, bM_some, hs_49_2, st_X10_done_2, st_X10_done_5, st_X10_done_6, st_X10_done_7 (p := 49) hq_49 ps_, bC_inl, Option.toList, List.cons_append, List.nil_append, Nat.add_zero, st_X10_done_10, st_X10_done_13, st_X10_done_14, st_X10_done_15 (p := 49) hq_49 ps_, st_X10_done_18, st_X10_done_19, hg_49_31, st_X10_done_20, st_X10_done_23, cond_false, ha_70, st_X10_done_24, st_X10_done_25, st_X10_done_26, st_X10_done_29, st_X10_done_30, st_X10_done_31, st_X10_done_32, hg_49_38, st_X10_done_33, st_X10_done_36, st_X10_done_37 (p := 49) hq_49 ps_, st_X10_done_40, st_X10_done_41, st_X10_done_42, st_X10_done_44 (p := 49) hq_49 ps_, lc_i, lc_r, lc_n, lc_j, lc_f, st_X10_done_47, st_X10_done_48, st_X10_done_49, st_X10_done_50, st_X10_done_53, st_X10_done_54 (p := 49) hq_49 ps_, st_X10_done_57, st_X10_done_58, Nat.reduceAdd, gM_64, gM_65, gM_66, gM_67, gM_68, gM_69, gM_70, gM_33, gM_72, gM_73, gM_o, gM_49, gMw_64, gMw_65, gMw_66, gMw_67, gMw_68, gMw_69, gMw_70, gMw_33, gMw_72, gMw_73, Nat.zero_add, nn_1, nn_8, nn_16, nn_24, nn_32, nn_40, nn_48, nn_suc, nn_out, nn_clamp, Int32.zero_add, gM_hI49, hy, nn_one0, if_false, h]
end MAHEAD
