/-! ===== the class's Kitchen: loops ===== -/
section KIT2
variable {d : Nat} {t : List px_E} {g : hG} {r j N cn sn : Nat} {w v k : Rw} {s x y z : Int32} {n : Int64}
set_option maxHeartbeats 2000000 in
theorem c_kettleOn_l (hr : isRow r) (hn : kC g 9 0 = Int32.ofNat N) (h8 : N ≤ 8) : ∀ m j : Nat, j + m = N →
    bc d M_X4_kettleOn none 2 [some (.ref 16), some (.ref r), some (.int x), some (.int (Int32.ofNat j))] [] (hp t (gP g r w s n v k)) cn sn = some (.inl (some (.int (findR w x m j))), hp t (gP g r w s n v k), cn, sn) := by
  intro m
  induction m with
  | zero =>
    intro j hj
    rw [st_X4_kettleOn_2]
    simp (disch := omega) only [st_X4_kettleOn_0, lc_i, lc_r, lc_n, lc_j, lc_f, st_X4_kettleOn_1, st_X4_kettleOn_3, bM_some, pg_16_10 hr, st_X4_kettleOn_4, st_X4_kettleOn_7, st_X4_kettleOn_10, st_X4_kettleOn_11, st_X4_kettleOn_12, st_X4_kettleOn_13, cond_false, pa_row hr, st_X4_kettleOn_14, st_X4_kettleOn_15, st_X4_kettleOn_16, st_X4_kettleOn_19, st_X4_kettleOn_20, st_X4_kettleOn_21, st_X4_kettleOn_24, st_X4_kettleOn_27, st_X4_kettleOn_28, Nat.reduceAdd, nn_1, nn_8, nn_16, nn_24, nn_32, nn_40, nn_48, nn_suc, nn_out, nn_clamp, Int32.zero_add, dv_5, dv_10, dv_3, dv_2, ne_eq, not_false_eq_true, if_false, in_m1, hn, nn_lt, show ¬ j < N by omega, findR]
  | succ m ih =>
    intro j hj
    rw [st_X4_kettleOn_2]
    simp (disch := omega) only [st_X4_kettleOn_0, lc_i, lc_r, lc_n, lc_j, lc_f, st_X4_kettleOn_1, st_X4_kettleOn_3, bM_some, pg_16_10 hr, st_X4_kettleOn_4, st_X4_kettleOn_7, st_X4_kettleOn_10, st_X4_kettleOn_11, st_X4_kettleOn_12, st_X4_kettleOn_13, cond_false, pa_row hr, st_X4_kettleOn_14, st_X4_kettleOn_15, st_X4_kettleOn_16, st_X4_kettleOn_19, st_X4_kettleOn_20, st_X4_kettleOn_21, st_X4_kettleOn_24, st_X4_kettleOn_27, st_X4_kettleOn_28, Nat.reduceAdd, nn_1, nn_8, nn_16, nn_24, nn_32, nn_40, nn_48, nn_suc, nn_out, nn_clamp, Int32.zero_add, dv_5, dv_10, dv_3, dv_2, ne_eq, not_false_eq_true, if_false, in_m1, hn, nn_lt, show j < N by omega, if_true, findR]
    rw [ih (j + 1) (by omega), r_ite]
theorem c_kettleOn (hr : isRow r) (hn : kC g 9 0 = Int32.ofNat N) (h8 : N ≤ 8) :
    bc d M_X4_kettleOn none 0 [some (.ref 16), some (.ref r), some (.int x), none] [] (hp t (gP g r w s n v k)) cn sn = some (.inl (some (.int (findR w x N 0))), hp t (gP g r w s n v k), cn, sn) := by
  simp only [st_X4_kettleOn_0, lc_i, lc_r, lc_n, lc_j, lc_f, st_X4_kettleOn_1, st_X4_kettleOn_3, bM_some, pg_16_10 hr, st_X4_kettleOn_4, st_X4_kettleOn_7, st_X4_kettleOn_10, st_X4_kettleOn_11, st_X4_kettleOn_12, st_X4_kettleOn_13, cond_false, pa_row hr, st_X4_kettleOn_14, st_X4_kettleOn_15, st_X4_kettleOn_16, st_X4_kettleOn_19, st_X4_kettleOn_20, st_X4_kettleOn_21, st_X4_kettleOn_24, st_X4_kettleOn_27, st_X4_kettleOn_28, Nat.reduceAdd]
  exact c_kettleOn_l hr hn h8 N 0 (by omega)
set_option maxHeartbeats 2000000 in
theorem c_sing_l (hr : isRow r) (hn : kC g 9 0 = Int32.ofNat N) (h8 : N ≤ 8) : ∀ m j : Nat, j + m = N → ∀ (w : Rw) (s : Int32) (n : Int64) (a3 : Option Value),
    bc (d + 2) M_X4_sing none 12 [some (.ref 16), some (.ref r), some (.int (Int32.ofNat j)), a3] [] (hp t (gP g r w s n v k)) cn sn = some (.inl none, hp t (gP g r (singF (kC g) m j (w, s, n)).1 (singF (kC g) m j (w, s, n)).2.1 (singF (kC g) m j (w, s, n)).2.2 v k), cn, sn) := by
  intro m
  induction m with
  | zero =>
    intro j hj w s n a3
    rw [st_X4_sing_12]
    simp (disch := omega) only [st_X4_sing_0, st_X4_sing_1, bM_some, ps_16_13 hr, st_X4_sing_2, st_X4_sing_5, st_X4_sing_6, ps_16_14 hr, st_X4_sing_7, st_X4_sing_10, lc_i, lc_r, lc_n, lc_j, lc_f, st_X4_sing_11, st_X4_sing_13, pg_16_10 hr, st_X4_sing_14, st_X4_sing_17, st_X4_sing_20, st_X4_sing_21, st_X4_sing_22, st_X4_sing_23 (p := 16) hq_16 ps_, bC_inl, Option.toList, List.cons_append, List.nil_append, Nat.add_zero, st_X4_sing_26, st_X4_sing_27, st_X4_sing_29, st_X4_sing_30, cond_false, pa_row hr, st_X4_sing_31, st_X4_sing_32, st_X4_sing_33, st_X4_sing_34, st_X4_sing_35, st_X4_sing_38, st_X4_sing_39, st_X4_sing_39r, pg_16_13 hr, st_X4_sing_40, st_X4_sing_43, st_X4_sing_44, st_X4_sing_45, st_X4_sing_46, st_X4_sing_47, st_X4_sing_50, st_X4_sing_51, st_X4_sing_51r, pg_16_14 hr, st_X4_sing_52, st_X4_sing_55, st_X4_sing_56, st_X4_sing_57, st_X4_sing_60, st_X4_sing_63, st_X4_sing_66, Nat.reduceAdd, nn_1, nn_8, nn_16, nn_24, nn_32, nn_40, nn_48, nn_suc, nn_out, nn_clamp, Int32.zero_add, dv_5, dv_10, dv_3, dv_2, ne_eq, not_false_eq_true, if_false, in_m1, hn, nn_lt, show ¬ j < N by omega, singF]
  | succ m ih =>
    intro j hj w s n a3
    rw [st_X4_sing_12]
    have hj8 : j < 8 := by omega
    unfold singF
    by_cases h : voiceR (kC g) j w (40 + j) = -1
    · simp (disch := omega) only [st_X4_sing_0, st_X4_sing_1, bM_some, ps_16_13 hr, st_X4_sing_2, st_X4_sing_5, st_X4_sing_6, ps_16_14 hr, st_X4_sing_7, st_X4_sing_10, lc_i, lc_r, lc_n, lc_j, lc_f, st_X4_sing_11, st_X4_sing_13, pg_16_10 hr, st_X4_sing_14, st_X4_sing_17, st_X4_sing_20, st_X4_sing_21, st_X4_sing_22, st_X4_sing_23 (p := 16) hq_16 ps_, bC_inl, Option.toList, List.cons_append, List.nil_append, Nat.add_zero, st_X4_sing_26, st_X4_sing_27, st_X4_sing_29, st_X4_sing_30, cond_false, pa_row hr, st_X4_sing_31, st_X4_sing_32, st_X4_sing_33, st_X4_sing_34, st_X4_sing_35, st_X4_sing_38, st_X4_sing_39, st_X4_sing_39r, pg_16_13 hr, st_X4_sing_40, st_X4_sing_43, st_X4_sing_44, st_X4_sing_45, st_X4_sing_46, st_X4_sing_47, st_X4_sing_50, st_X4_sing_51, st_X4_sing_51r, pg_16_14 hr, st_X4_sing_52, st_X4_sing_55, st_X4_sing_56, st_X4_sing_57, st_X4_sing_60, st_X4_sing_63, st_X4_sing_66, Nat.reduceAdd, nn_1, nn_8, nn_16, nn_24, nn_32, nn_40, nn_48, nn_suc, nn_out, nn_clamp, Int32.zero_add, dv_5, dv_10, dv_3, dv_2, ne_eq, not_false_eq_true, if_false, in_m1, hn, nn_lt, show j < N by omega, if_true, c_voice hr hj8, h]
      exact ih (j + 1) (by omega) _ _ _ _
    · simp (disch := omega) only [st_X4_sing_0, st_X4_sing_1, bM_some, ps_16_13 hr, st_X4_sing_2, st_X4_sing_5, st_X4_sing_6, ps_16_14 hr, st_X4_sing_7, st_X4_sing_10, lc_i, lc_r, lc_n, lc_j, lc_f, st_X4_sing_11, st_X4_sing_13, pg_16_10 hr, st_X4_sing_14, st_X4_sing_17, st_X4_sing_20, st_X4_sing_21, st_X4_sing_22, st_X4_sing_23 (p := 16) hq_16 ps_, bC_inl, Option.toList, List.cons_append, List.nil_append, Nat.add_zero, st_X4_sing_26, st_X4_sing_27, st_X4_sing_29, st_X4_sing_30, cond_false, pa_row hr, st_X4_sing_31, st_X4_sing_32, st_X4_sing_33, st_X4_sing_34, st_X4_sing_35, st_X4_sing_38, st_X4_sing_39, st_X4_sing_39r, pg_16_13 hr, st_X4_sing_40, st_X4_sing_43, st_X4_sing_44, st_X4_sing_45, st_X4_sing_46, st_X4_sing_47, st_X4_sing_50, st_X4_sing_51, st_X4_sing_51r, pg_16_14 hr, st_X4_sing_52, st_X4_sing_55, st_X4_sing_56, st_X4_sing_57, st_X4_sing_60, st_X4_sing_63, st_X4_sing_66, Nat.reduceAdd, nn_1, nn_8, nn_16, nn_24, nn_32, nn_40, nn_48, nn_suc, nn_out, nn_clamp, Int32.zero_add, dv_5, dv_10, dv_3, dv_2, ne_eq, not_false_eq_true, if_false, in_m1, hn, nn_lt, show j < N by omega, if_true, c_voice hr hj8, h]
      exact ih (j + 1) (by omega) _ _ _ _
theorem c_sing (hr : isRow r) (hn : kC g 9 0 = Int32.ofNat N) (h8 : N ≤ 8) :
    bc (d + 2) M_X4_sing none 0 [some (.ref 16), some (.ref r), none, none] [] (hp t (gP g r w s n v k)) cn sn = some (.inl none, hp t (gP g r (singF (kC g) N 0 (w, 0, 0)).1 (singF (kC g) N 0 (w, 0, 0)).2.1 (singF (kC g) N 0 (w, 0, 0)).2.2 v k), cn, sn) := by
  simp only [st_X4_sing_0, st_X4_sing_1, bM_some, ps_16_13 hr, st_X4_sing_2, st_X4_sing_5, st_X4_sing_6, ps_16_14 hr, st_X4_sing_7, st_X4_sing_10, lc_i, lc_r, lc_n, lc_j, lc_f, st_X4_sing_11, st_X4_sing_13, pg_16_10 hr, st_X4_sing_14, st_X4_sing_17, st_X4_sing_20, st_X4_sing_21, st_X4_sing_22, st_X4_sing_23 (p := 16) hq_16 ps_, bC_inl, Option.toList, List.cons_append, List.nil_append, Nat.add_zero, st_X4_sing_26, st_X4_sing_27, st_X4_sing_29, st_X4_sing_30, cond_false, pa_row hr, st_X4_sing_31, st_X4_sing_32, st_X4_sing_33, st_X4_sing_34, st_X4_sing_35, st_X4_sing_38, st_X4_sing_39, st_X4_sing_39r, pg_16_13 hr, st_X4_sing_40, st_X4_sing_43, st_X4_sing_44, st_X4_sing_45, st_X4_sing_46, st_X4_sing_47, st_X4_sing_50, st_X4_sing_51, st_X4_sing_51r, pg_16_14 hr, st_X4_sing_52, st_X4_sing_55, st_X4_sing_56, st_X4_sing_57, st_X4_sing_60, st_X4_sing_63, st_X4_sing_66, Nat.reduceAdd]
  exact c_sing_l hr hn h8 N 0 (by omega) _ _ _ _
set_option maxHeartbeats 2000000 in
theorem c_sounds_l (hr : isRow r) {dd M : Nat} (hd : dd < 5) (hM : kC g 6 dd = Int32.ofNat M) (h3 : M ≤ 3) : ∀ m i : Nat, i + m = M → ∀ (a : Int64) (a3 : Option Value),
    bc d M_X4_sounds none 8 [some (.ref 16), some (.int (Int32.ofNat dd)), some (.long a), a3, some (.int (Int32.ofNat i))] [] (hp t (gP g r w s n v k)) cn sn = some (.inl (some (.int (if rootsN (kC g) n dd m i a = 0 then 0 else 1))), hp t (gP g r w s n v k), cn, sn) := by
  intro m
  induction m with
  | zero =>
    intro i hi a a3
    rw [st_X4_sounds_8]
    simp (disch := omega) only [st_X4_sounds_0, bM_some, pg_16_13 hr, st_X4_sounds_1, lc_i, lc_r, lc_n, lc_j, lc_f, st_X4_sounds_4, st_X4_sounds_5, st_X4_sounds_6, st_X4_sounds_10, hg_16_6, st_X4_sounds_11, st_X4_sounds_14, cond_false, pa_23 hr, st_X4_sounds_15, st_X4_sounds_16, st_X4_sounds_19, st_X4_sounds_20, st_X4_sounds_21, st_X4_sounds_24, hg_16_7, st_X4_sounds_25, st_X4_sounds_28, st_X4_sounds_29, st_X4_sounds_30, st_X4_sounds_31, st_X4_sounds_33, pa_24 hr, st_X4_sounds_34, st_X4_sounds_35, st_X4_sounds_36, st_X4_sounds_37, st_X4_sounds_38, st_X4_sounds_41, st_X4_sounds_44, st_X4_sounds_45, st_X4_sounds_46, st_X4_sounds_47, st_X4_sounds_50, st_X4_sounds_51, st_X4_sounds_55, st_X4_sounds_55b, st_X4_sounds_54, Nat.reduceAdd, nn_1, nn_8, nn_16, nn_24, nn_32, nn_40, nn_48, nn_suc, nn_out, nn_clamp, Int32.zero_add, dv_5, dv_10, dv_3, dv_2, ne_eq, not_false_eq_true, if_false, in_m1, hM, nn_lt, show ¬ i < M by omega, lcmpi, rootsN, r_ite] <;> rfl
  | succ m ih =>
    intro i hi a a3
    rw [st_X4_sounds_8]
    simp (disch := omega) only [st_X4_sounds_0, bM_some, pg_16_13 hr, st_X4_sounds_1, lc_i, lc_r, lc_n, lc_j, lc_f, st_X4_sounds_4, st_X4_sounds_5, st_X4_sounds_6, st_X4_sounds_10, hg_16_6, st_X4_sounds_11, st_X4_sounds_14, cond_false, pa_23 hr, st_X4_sounds_15, st_X4_sounds_16, st_X4_sounds_19, st_X4_sounds_20, st_X4_sounds_21, st_X4_sounds_24, hg_16_7, st_X4_sounds_25, st_X4_sounds_28, st_X4_sounds_29, st_X4_sounds_30, st_X4_sounds_31, st_X4_sounds_33, pa_24 hr, st_X4_sounds_34, st_X4_sounds_35, st_X4_sounds_36, st_X4_sounds_37, st_X4_sounds_38, st_X4_sounds_41, st_X4_sounds_44, st_X4_sounds_45, st_X4_sounds_46, st_X4_sounds_47, st_X4_sounds_50, st_X4_sounds_51, st_X4_sounds_55, st_X4_sounds_55b, st_X4_sounds_54, Nat.reduceAdd, nn_1, nn_8, nn_16, nn_24, nn_32, nn_40, nn_48, nn_suc, nn_out, nn_clamp, Int32.zero_add, dv_5, dv_10, dv_3, dv_2, ne_eq, not_false_eq_true, if_false, in_m1, hM, nn_lt, show i < M by omega, if_true, nn_t3, nn_add, rootsN]
    exact ih (i + 1) (by omega) _ _
theorem c_sounds (hr : isRow r) {dd M : Nat} (hd : dd < 5) (hM : kC g 6 dd = Int32.ofNat M) (h3 : M ≤ 3) :
    bc d M_X4_sounds none 0 [some (.ref 16), some (.int (Int32.ofNat dd)), none, none, none] [] (hp t (gP g r w s n v k)) cn sn = some (.inl (some (.int (if rootsN (kC g) n dd M 0 n = 0 then 0 else 1))), hp t (gP g r w s n v k), cn, sn) := by
  simp only [st_X4_sounds_0, bM_some, pg_16_13 hr, st_X4_sounds_1, lc_i, lc_r, lc_n, lc_j, lc_f, st_X4_sounds_4, st_X4_sounds_5, st_X4_sounds_6, st_X4_sounds_10, hg_16_6, st_X4_sounds_11, st_X4_sounds_14, cond_false, pa_23 hr, st_X4_sounds_15, st_X4_sounds_16, st_X4_sounds_19, st_X4_sounds_20, st_X4_sounds_21, st_X4_sounds_24, hg_16_7, st_X4_sounds_25, st_X4_sounds_28, st_X4_sounds_29, st_X4_sounds_30, st_X4_sounds_31, st_X4_sounds_33, pa_24 hr, st_X4_sounds_34, st_X4_sounds_35, st_X4_sounds_36, st_X4_sounds_37, st_X4_sounds_38, st_X4_sounds_41, st_X4_sounds_44, st_X4_sounds_45, st_X4_sounds_46, st_X4_sounds_47, st_X4_sounds_50, st_X4_sounds_51, st_X4_sounds_55, st_X4_sounds_55b, st_X4_sounds_54, Nat.reduceAdd]
  exact c_sounds_l hr hd hM h3 M 0 (by omega) _ _
set_option maxHeartbeats 2000000 in
theorem c_serve_l (hr : isRow r) {D : Nat} (hn : kC g 9 2 = Int32.ofNat D) (h5 : D ≤ 5) (hS : ∀ i, i < D → ∃ M : Nat, kC g 6 i = Int32.ofNat M ∧ M ≤ 3) : ∀ m j : Nat, j + m = D → ∀ w : Rw,
    bc (d + 1) M_X4_serve none 2 [some (.ref 16), some (.ref r), some (.int (Int32.ofNat j))] [] (hp t (gP g r w s n v k)) cn sn = some (.inl none, hp t (gP g r (loopR (serveR (kC g) n) m j w) s n v k), cn, sn) := by
  intro m
  induction m with
  | zero =>
    intro j hj w
    rw [st_X4_serve_2]
    simp (disch := omega) only [st_X4_serve_0, lc_i, lc_r, lc_n, lc_j, lc_f, st_X4_serve_1, st_X4_serve_3, bM_some, pg_16_12 hr, st_X4_serve_4, st_X4_serve_7, st_X4_serve_10, st_X4_serve_11, st_X4_serve_13, st_X4_serve_14, cond_false, pa_row hr, st_X4_serve_15, st_X4_serve_16, st_X4_serve_17, st_X4_serve_20, st_X4_serve_21, st_X4_serve_22 (p := 16) hq_16 ps_, bC_inl, Option.toList, List.cons_append, List.nil_append, Nat.add_zero, st_X4_serve_25, st_X4_serve_28, st_X4_serve_29, st_X4_serve_31, st_X4_serve_32, st_X4_serve_33, st_X4_serve_34, st_X4_serve_36, pw_row hr, st_X4_serve_37, st_X4_serve_38, st_X4_serve_41, st_X4_serve_44, Nat.reduceAdd, nn_1, nn_8, nn_16, nn_24, nn_32, nn_40, nn_48, nn_suc, nn_out, nn_clamp, Int32.zero_add, dv_5, dv_10, dv_3, dv_2, ne_eq, not_false_eq_true, if_false, in_m1, hn, nn_lt, show ¬ j < D by omega, loopR]
  | succ m ih =>
    intro j hj w
    rw [st_X4_serve_2]
    obtain ⟨M, hM, h3⟩ := hS j (by omega)
    have hj5 : j < 5 := by omega
    unfold loopR
    rw [show serveR (kC g) n j w = if w (48 + j) = -1 then (if rootsN (kC g) n j M 0 n = 0 then w else upd w (48 + j) (w 53)) else w by unfold serveR; rw [hM, nn_clamp (by omega)]]
    by_cases h : w (48 + j) = -1
    · by_cases h' : rootsN (kC g) n j M 0 n = 0
      · simp (disch := omega) only [st_X4_serve_0, lc_i, lc_r, lc_n, lc_j, lc_f, st_X4_serve_1, st_X4_serve_3, bM_some, pg_16_12 hr, st_X4_serve_4, st_X4_serve_7, st_X4_serve_10, st_X4_serve_11, st_X4_serve_13, st_X4_serve_14, cond_false, pa_row hr, st_X4_serve_15, st_X4_serve_16, st_X4_serve_17, st_X4_serve_20, st_X4_serve_21, st_X4_serve_22 (p := 16) hq_16 ps_, bC_inl, Option.toList, List.cons_append, List.nil_append, Nat.add_zero, st_X4_serve_25, st_X4_serve_28, st_X4_serve_29, st_X4_serve_31, st_X4_serve_32, st_X4_serve_33, st_X4_serve_34, st_X4_serve_36, pw_row hr, st_X4_serve_37, st_X4_serve_38, st_X4_serve_41, st_X4_serve_44, Nat.reduceAdd, nn_1, nn_8, nn_16, nn_24, nn_32, nn_40, nn_48, nn_suc, nn_out, nn_clamp, Int32.zero_add, dv_5, dv_10, dv_3, dv_2, ne_eq, not_false_eq_true, if_false, in_m1, hn, nn_lt, show j < D by omega, if_true, c_sounds hr hj5 hM h3, h, h']
        exact ih (j + 1) (by omega) _
      · simp (disch := omega) only [st_X4_serve_0, lc_i, lc_r, lc_n, lc_j, lc_f, st_X4_serve_1, st_X4_serve_3, bM_some, pg_16_12 hr, st_X4_serve_4, st_X4_serve_7, st_X4_serve_10, st_X4_serve_11, st_X4_serve_13, st_X4_serve_14, cond_false, pa_row hr, st_X4_serve_15, st_X4_serve_16, st_X4_serve_17, st_X4_serve_20, st_X4_serve_21, st_X4_serve_22 (p := 16) hq_16 ps_, bC_inl, Option.toList, List.cons_append, List.nil_append, Nat.add_zero, st_X4_serve_25, st_X4_serve_28, st_X4_serve_29, st_X4_serve_31, st_X4_serve_32, st_X4_serve_33, st_X4_serve_34, st_X4_serve_36, pw_row hr, st_X4_serve_37, st_X4_serve_38, st_X4_serve_41, st_X4_serve_44, Nat.reduceAdd, nn_1, nn_8, nn_16, nn_24, nn_32, nn_40, nn_48, nn_suc, nn_out, nn_clamp, Int32.zero_add, dv_5, dv_10, dv_3, dv_2, ne_eq, not_false_eq_true, if_false, in_m1, hn, nn_lt, show j < D by omega, if_true, c_sounds hr hj5 hM h3, h, h', nn_one0, nn_c53, nn_o53]
        exact ih (j + 1) (by omega) _
    · simp (disch := omega) only [st_X4_serve_0, lc_i, lc_r, lc_n, lc_j, lc_f, st_X4_serve_1, st_X4_serve_3, bM_some, pg_16_12 hr, st_X4_serve_4, st_X4_serve_7, st_X4_serve_10, st_X4_serve_11, st_X4_serve_13, st_X4_serve_14, cond_false, pa_row hr, st_X4_serve_15, st_X4_serve_16, st_X4_serve_17, st_X4_serve_20, st_X4_serve_21, st_X4_serve_22 (p := 16) hq_16 ps_, bC_inl, Option.toList, List.cons_append, List.nil_append, Nat.add_zero, st_X4_serve_25, st_X4_serve_28, st_X4_serve_29, st_X4_serve_31, st_X4_serve_32, st_X4_serve_33, st_X4_serve_34, st_X4_serve_36, pw_row hr, st_X4_serve_37, st_X4_serve_38, st_X4_serve_41, st_X4_serve_44, Nat.reduceAdd, nn_1, nn_8, nn_16, nn_24, nn_32, nn_40, nn_48, nn_suc, nn_out, nn_clamp, Int32.zero_add, dv_5, dv_10, dv_3, dv_2, ne_eq, not_false_eq_true, if_false, in_m1, hn, nn_lt, show j < D by omega, if_true, h]
      exact ih (j + 1) (by omega) _
theorem c_serve (hr : isRow r) {D : Nat} (hn : kC g 9 2 = Int32.ofNat D) (h5 : D ≤ 5) (hS : ∀ i, i < D → ∃ M : Nat, kC g 6 i = Int32.ofNat M ∧ M ≤ 3) :
    bc (d + 1) M_X4_serve none 0 [some (.ref 16), some (.ref r), none] [] (hp t (gP g r w s n v k)) cn sn = some (.inl none, hp t (gP g r (loopR (serveR (kC g) n) D 0 w) s n v k), cn, sn) := by
  simp only [st_X4_serve_0, lc_i, lc_r, lc_n, lc_j, lc_f, st_X4_serve_1, st_X4_serve_3, bM_some, pg_16_12 hr, st_X4_serve_4, st_X4_serve_7, st_X4_serve_10, st_X4_serve_11, st_X4_serve_13, st_X4_serve_14, cond_false, pa_row hr, st_X4_serve_15, st_X4_serve_16, st_X4_serve_17, st_X4_serve_20, st_X4_serve_21, st_X4_serve_22 (p := 16) hq_16 ps_, bC_inl, Option.toList, List.cons_append, List.nil_append, Nat.add_zero, st_X4_serve_25, st_X4_serve_28, st_X4_serve_29, st_X4_serve_31, st_X4_serve_32, st_X4_serve_33, st_X4_serve_34, st_X4_serve_36, pw_row hr, st_X4_serve_37, st_X4_serve_38, st_X4_serve_41, st_X4_serve_44, Nat.reduceAdd]
  exact c_serve_l hr hn h5 hS D 0 (by omega) _
end KIT2
