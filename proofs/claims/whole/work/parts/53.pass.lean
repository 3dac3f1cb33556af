/-! ===== the class's Kitchen: a minute ===== -/
section PASS
variable {d : Nat} {t : List px_E} {g : hG} {r j N S D L cn sn : Nat} {w v k : Rw} {s x y z : Int32} {n : Int64}
theorem p_out {o : Int32} (h0 : ¬ o < 0) (h1 : o < Int32.ofNat S) (hS : S ≤ 4) : px_out o 4 = false := by
  rw [ii_lt, ti_0] at h0
  rw [ii_lt, ii_ofNat (by omega)] at h1
  exact ii_out (by omega) (by omega)
set_option maxHeartbeats 4000000 in
theorem c_pass_w (hr : isRow r) (hK : KN (kC g) N S D L) : ∀ m j : Nat, j + m = N → ∀ (w : Rw) (a3 a4 : Option Value), ∃ b2 b3 b4 : Option Value,
    bc (d + 2) M_X4_pass none 2 [some (.ref 16), some (.ref r), some (.int (Int32.ofNat j)), a3, a4] [] (hp t (gP g r w s n v k)) cn sn =
    bc (d + 2) M_X4_pass none 62 [some (.ref 16), some (.ref r), b2, b3, b4] [] (hp t (gP g r (loopR (fun j w => warmR (kC g) (powerR (kC g) (w j)) j w) m j w) s n v k)) cn sn := by
  obtain ⟨hN, h8, hS, h4, -⟩ := hK
  intro m
  induction m with
  | zero =>
    intro j hj w a3 a4
    refine ⟨some (.int (Int32.ofNat j)), a3, a4, ?_⟩
    rw [st_X4_pass_2]
    simp (disch := omega) only [st_X4_pass_3, st_X4_pass_4, st_X4_pass_7, bM_some, pg_16_10 hr, nn_1, nn_8, nn_16, nn_24, nn_32, nn_40, nn_48, nn_suc, nn_out, nn_clamp, Int32.zero_add, dv_5, dv_10, dv_3, dv_2, ne_eq, not_false_eq_true, if_false, in_m1, hN, nn_lt, show ¬ j < N by omega, loopR, Nat.reduceAdd]
  | succ m ih =>
    intro j hj w a3 a4
    have hj8 : j < 8 := by omega
    obtain ⟨b2, b3, b4, e⟩ := ih (j + 1) (by omega) (warmR (kC g) (powerR (kC g) (w j)) j w) (some (.int (w j))) (some (.int (if w j < 0 then 0 else if w j < Int32.ofNat S then 1 else 0)))
    refine ⟨b2, b3, b4, ?_⟩
    unfold loopR
    rw [← e]
    rw [st_X4_pass_2]
    unfold powerR
    by_cases h1 : w j < 0
    · simp (disch := omega) only [st_X4_pass_3, st_X4_pass_4, st_X4_pass_7, st_X4_pass_10, st_X4_pass_11, st_X4_pass_12, st_X4_pass_13, st_X4_pass_14, st_X4_pass_15, st_X4_pass_16, st_X4_pass_17, st_X4_pass_20, st_X4_pass_21, st_X4_pass_22, st_X4_pass_25, st_X4_pass_28, st_X4_pass_29, st_X4_pass_32, st_X4_pass_33, st_X4_pass_35, st_X4_pass_36, st_X4_pass_37, st_X4_pass_38, st_X4_pass_40, st_X4_pass_43, st_X4_pass_44, st_X4_pass_47, st_X4_pass_48, st_X4_pass_49, st_X4_pass_52, st_X4_pass_56, st_X4_pass_59, st_X4_pass_53 (p := 16) hq_16 ps_, bM_some, lc_i, lc_r, pg_16_10 hr, pg_16_11 hr, hg_16_5, pa_22 hr, pa_row hr, cond_false, bC_inl, Option.toList, List.cons_append, List.nil_append, Nat.add_zero, Nat.reduceAdd, nn_1, nn_8, nn_16, nn_24, nn_32, nn_40, nn_48, nn_suc, nn_out, nn_clamp, Int32.zero_add, dv_5, dv_10, dv_3, dv_2, ne_eq, not_false_eq_true, if_false, in_m1, hN, hS, nn_lt, show j < N by omega, if_true, h1, c_warm hr hj8]
    · by_cases h2 : w j < Int32.ofNat S
      · simp (disch := omega) only [st_X4_pass_3, st_X4_pass_4, st_X4_pass_7, st_X4_pass_10, st_X4_pass_11, st_X4_pass_12, st_X4_pass_13, st_X4_pass_14, st_X4_pass_15, st_X4_pass_16, st_X4_pass_17, st_X4_pass_20, st_X4_pass_21, st_X4_pass_22, st_X4_pass_25, st_X4_pass_28, st_X4_pass_29, st_X4_pass_32, st_X4_pass_33, st_X4_pass_35, st_X4_pass_36, st_X4_pass_37, st_X4_pass_38, st_X4_pass_40, st_X4_pass_43, st_X4_pass_44, st_X4_pass_47, st_X4_pass_48, st_X4_pass_49, st_X4_pass_52, st_X4_pass_56, st_X4_pass_59, st_X4_pass_53 (p := 16) hq_16 ps_, bM_some, lc_i, lc_r, pg_16_10 hr, pg_16_11 hr, hg_16_5, pa_22 hr, pa_row hr, cond_false, bC_inl, Option.toList, List.cons_append, List.nil_append, Nat.add_zero, Nat.reduceAdd, nn_1, nn_8, nn_16, nn_24, nn_32, nn_40, nn_48, nn_suc, nn_out, nn_clamp, Int32.zero_add, dv_5, dv_10, dv_3, dv_2, ne_eq, not_false_eq_true, if_false, in_m1, hN, hS, nn_lt, show j < N by omega, if_true, h1, h2, nn_one0, p_out h1 h2 h4, c_warm hr hj8]
      · simp (disch := omega) only [st_X4_pass_3, st_X4_pass_4, st_X4_pass_7, st_X4_pass_10, st_X4_pass_11, st_X4_pass_12, st_X4_pass_13, st_X4_pass_14, st_X4_pass_15, st_X4_pass_16, st_X4_pass_17, st_X4_pass_20, st_X4_pass_21, st_X4_pass_22, st_X4_pass_25, st_X4_pass_28, st_X4_pass_29, st_X4_pass_32, st_X4_pass_33, st_X4_pass_35, st_X4_pass_36, st_X4_pass_37, st_X4_pass_38, st_X4_pass_40, st_X4_pass_43, st_X4_pass_44, st_X4_pass_47, st_X4_pass_48, st_X4_pass_49, st_X4_pass_52, st_X4_pass_56, st_X4_pass_59, st_X4_pass_53 (p := 16) hq_16 ps_, bM_some, lc_i, lc_r, pg_16_10 hr, pg_16_11 hr, hg_16_5, pa_22 hr, pa_row hr, cond_false, bC_inl, Option.toList, List.cons_append, List.nil_append, Nat.add_zero, Nat.reduceAdd, nn_1, nn_8, nn_16, nn_24, nn_32, nn_40, nn_48, nn_suc, nn_out, nn_clamp, Int32.zero_add, dv_5, dv_10, dv_3, dv_2, ne_eq, not_false_eq_true, if_false, in_m1, hN, hS, nn_lt, show j < N by omega, if_true, h1, h2, c_warm hr hj8]
set_option maxHeartbeats 4000000 in
theorem c_pass_b (hr : isRow r) (hK : KN (kC g) N S D L) : ∀ m j : Nat, j + m = N → ∀ (w : Rw) (a3 a4 : Option Value), ∃ b2 b3 b4 : Option Value,
    bc (d + 2) M_X4_pass none 83 [some (.ref 16), some (.ref r), some (.int (Int32.ofNat j)), a3, a4] [] (hp t (gP g r w s n v k)) cn sn =
    bc (d + 2) M_X4_pass none 103 [some (.ref 16), some (.ref r), b2, b3, b4] [] (hp t (gP g r (loopR boilR m j w) s n v k)) cn sn := by
  obtain ⟨hN, h8, -⟩ := hK
  intro m
  induction m with
  | zero =>
    intro j hj w a3 a4
    refine ⟨some (.int (Int32.ofNat j)), a3, a4, ?_⟩
    rw [st_X4_pass_83]
    simp (disch := omega) only [st_X4_pass_84, st_X4_pass_85, st_X4_pass_88, bM_some, pg_16_10 hr, nn_1, nn_8, nn_16, nn_24, nn_32, nn_40, nn_48, nn_suc, nn_out, nn_clamp, Int32.zero_add, dv_5, dv_10, dv_3, dv_2, ne_eq, not_false_eq_true, if_false, in_m1, hN, nn_lt, show ¬ j < N by omega, loopR, Nat.reduceAdd]
  | succ m ih =>
    intro j hj w a3 a4
    have hj8 : j < 8 := by omega
    obtain ⟨b2, b3, b4, e⟩ := ih (j + 1) (by omega) (boilR j w) a3 a4
    refine ⟨b2, b3, b4, ?_⟩
    unfold loopR
    rw [← e]
    rw [st_X4_pass_83]
    simp (disch := omega) only [st_X4_pass_84, st_X4_pass_85, st_X4_pass_88, st_X4_pass_91, st_X4_pass_92, st_X4_pass_93, st_X4_pass_97, st_X4_pass_100, st_X4_pass_94 (p := 16) hq_16 ps_, bM_some, lc_r, pg_16_10 hr, bC_inl, Option.toList, List.nil_append, Nat.add_zero, Nat.reduceAdd, nn_1, nn_8, nn_16, nn_24, nn_32, nn_40, nn_48, nn_suc, nn_out, nn_clamp, Int32.zero_add, dv_5, dv_10, dv_3, dv_2, ne_eq, not_false_eq_true, if_false, in_m1, hN, nn_lt, show j < N by omega, if_true, c_boil hr hj8]
set_option maxHeartbeats 4000000 in
theorem c_pass (hr : isRow r) (hK : KN (kC g) N S D L) :
    bc (d + 3) M_X4_pass none 0 [some (.ref 16), some (.ref r), none, none, none] [] (hp t (gP g r w s n v k)) cn sn =
    some (.inl none, hp t (gP g r (minC (kC g) N D L w v k).1 (minC (kC g) N D L w v k).2.1 (minC (kC g) N D L w v k).2.2.1 (minC (kC g) N D L w v k).2.2.2.1 (minC (kC g) N D L w v k).2.2.2.2), cn, sn) := by
  have hK' := hK
  obtain ⟨hN, h8, hS, h4, hD, h5, hL, h6, hM⟩ := hK'
  simp only [st_X4_pass_0, st_X4_pass_1, lc_r, Nat.reduceAdd]
  obtain ⟨b2, b3, b4, e⟩ := c_pass_w (d := d + 1) (t := t) (s := s) (n := n) (v := v) (k := k) (cn := cn) (sn := sn) hr hK N 0 (by omega) w none none
  rw [show Int32.ofNat 0 = (0 : Int32) from rfl] at e
  rw [e]
  simp only [st_X4_pass_62, st_X4_pass_63, st_X4_pass_67, st_X4_pass_68, st_X4_pass_72, st_X4_pass_64 (p := 16) hq_16 ps_, st_X4_pass_69 (p := 16) hq_16 ps_, bC_inl, Option.toList, List.nil_append, Nat.add_zero, Nat.reduceAdd, c_sing hr hN h8, c_serve hr hD h5 hM]
  unfold minC boilL
  by_cases h : (loopR (serveR (kC g) (singF (kC g) N 0 (warmL (kC g) N w, 0, 0)).2.2) D 0 (singF (kC g) N 0 (warmL (kC g) N w, 0, 0)).1) 53 - (loopR (serveR (kC g) (singF (kC g) N 0 (warmL (kC g) N w, 0, 0)).2.2) D 0 (singF (kC g) N 0 (warmL (kC g) N w, 0, 0)).1) 53 / 3 * 3 = 0
  · obtain ⟨c2, c3, c4, e2⟩ := c_pass_b (d := d + 1) (t := t) (s := (singF (kC g) N 0 (warmL (kC g) N w, 0, 0)).2.1) (n := (singF (kC g) N 0 (warmL (kC g) N w, 0, 0)).2.2) (v := v) (k := k) (cn := cn) (sn := sn) hr hK N 0 (by omega) (loopR (serveR (kC g) (singF (kC g) N 0 (warmL (kC g) N w, 0, 0)).2.2) D 0 (singF (kC g) N 0 (warmL (kC g) N w, 0, 0)).1) b3 b4
    simp (disch := omega) only [st_X4_pass_73, st_X4_pass_75, st_X4_pass_76, st_X4_pass_78, st_X4_pass_81, st_X4_pass_82, st_X4_pass_77v, bM_some, pa_row hr, nn_o53, nn_c53, cond_false, dv_3, if_false, if_true, lc_r, Nat.reduceAdd, show loopR (fun j w => warmR (kC g) (powerR (kC g) (w j)) j w) N 0 w = warmL (kC g) N w from rfl, h]
    rw [show Int32.ofNat 0 = (0 : Int32) from rfl] at e2
    rw [e2]
    simp (disch := omega) only [st_X4_pass_103, st_X4_pass_104, st_X4_pass_108, st_X4_pass_109, st_X4_pass_111, st_X4_pass_112, st_X4_pass_113, st_X4_pass_114, st_X4_pass_115, st_X4_pass_116, st_X4_pass_105 (p := 16) hq_16 ps_, bM_some, pa_row hr, pw_row hr, nn_o53, nn_c53, cond_false, bC_inl, Option.toList, List.nil_append, Nat.add_zero, Nat.reduceAdd, c_cook hr hL h6 hN h8]
  · simp (disch := omega) only [st_X4_pass_73, st_X4_pass_75, st_X4_pass_76, st_X4_pass_78, st_X4_pass_103, st_X4_pass_104, st_X4_pass_108, st_X4_pass_109, st_X4_pass_111, st_X4_pass_112, st_X4_pass_113, st_X4_pass_114, st_X4_pass_115, st_X4_pass_116, st_X4_pass_105 (p := 16) hq_16 ps_, st_X4_pass_77v, bM_some, pa_row hr, pw_row hr, nn_o53, nn_c53, cond_false, dv_3, if_false, Nat.reduceAdd, bC_inl, Option.toList, List.nil_append, Nat.add_zero, c_cook hr hL h6 hN h8, show loopR (fun j w => warmR (kC g) (powerR (kC g) (w j)) j w) N 0 w = warmL (kC g) N w from rfl, h]
end PASS
