/-! ===== a burner, of the reference ===== -/
section MBURN
variable {d : Nat} {t : List px_E} {g : hG} {j q N S D L T cn sn : Nat} {w a k : Rw} {x y v p : Int32} {K : Kt}
theorem upd_eta (h : w (8 + j) = x) : upd w (8 + j) x = w := by
  funext i; rw [upd_at]; split
  · next e => rw [e, h]
  · rfl
set_option maxHeartbeats 4000000 in
theorem m_burn_i (hM : MK K N S D L g) (hK : KN K N S D L) (hj : j < N) (hq : q ≤ 120) (hf : 0 ≤ (w (16 + j)).toInt ∧ (w (16 + j)).toInt ≤ 40) (p : Nat) (b : Int32) : ∀ m i : Nat, i + m = q → ∀ (h : Int32), ∃ b6 : Option Value,
    bc (d + 2) M_X10_burner none 81 [some (.ref 49), some (.int (Int32.ofNat j)), some (.int (Int32.ofNat q)), some (.int x), some (.int b), some (.int (Int32.ofNat p)), some (.int (Int32.ofNat i))] [] (hp t (gM g (upd w (8 + j) h) a k)) cn sn =
    bc (d + 2) M_X10_burner none 106 [some (.ref 49), some (.int (Int32.ofNat j)), some (.int (Int32.ofNat q)), some (.int x), some (.int b), some (.int (Int32.ofNat p)), b6] [] (hp t (gM g (upd w (8 + j) (heatI (massR K j w) (Int32.ofNat p) m h)) a k)) cn sn := by
  have h8 := hK.2.1
  intro m
  induction m with
  | zero =>
    intro i hi h
    refine ⟨some (.int (Int32.ofNat i)), ?_⟩
    rw [st_X10_burner_81]
    simp (disch := omega) only [st_X10_burner_83, st_X10_burner_84, nn_lt, show ¬ i < q by omega, if_false, heatI, Nat.reduceAdd]
  | succ m ih =>
    intro i hi h
    have em : massR K j (upd w (8 + j) h) = massR K j w := by unfold massR; rw [upd_oth (by omega)]
    have e1 := m_hotter (d := d) (t := t) (w := upd w (8 + j) h) (a := a) (k := k) (x := Int32.ofNat p) (cn := 0) (sn := 0) hM hK hj (by rw [em]; exact (massR_pos hf.1 hf.2).2)
    have e2 : hotR K j (Int32.ofNat p) (upd w (8 + j) h) = px_min 150 (h + px_max 1 (10 * Int32.ofNat p / massR K j w)) := by unfold hotR; rw [em, upd_same]
    rw [e2] at e1
    obtain ⟨b6, e⟩ := ih (i + 1) (by omega) (px_min 150 (h + px_max 1 (10 * Int32.ofNat p / massR K j w)))
    refine ⟨b6, ?_⟩
    rw [show heatI (massR K j w) (Int32.ofNat p) (m + 1) h = heatI (massR K j w) (Int32.ofNat p) m (px_min 150 (h + px_max 1 (10 * Int32.ofNat p / massR K j w))) from rfl, ← e, st_X10_burner_81]
    simp (disch := omega) only [st_X10_burner_83, st_X10_burner_84, st_X10_burner_87, st_X10_burner_88, st_X10_burner_91, st_X10_burner_92, st_X10_burner_93, st_X10_burner_94, st_X10_burner_99, st_X10_burner_100, st_X10_burner_103, st_X10_burner_96 (p := 49) hq_49 ps_ir, bM_some, hg_49_26, hw_65, cond_false, nn_1, nn_8, nn_16, nn_24, nn_32, nn_40, nn_48, nn_suc, nn_out, nn_clamp, Int32.zero_add, gM_64, gM_65, gM_66, gM_67, gM_68, gM_69, gM_70, gM_33, gM_72, gM_73, gM_o, gM_49, gMw_64, gMw_65, gMw_66, gMw_67, gMw_68, gMw_69, gMw_70, gMw_33, gMw_72, gMw_73, Nat.zero_add, nn_lt, show i < q by omega, if_true, e1, bC_inl, Option.toList, List.cons_append, List.nil_append, Nat.add_zero, lc_i, Nat.reduceAdd, upd_upd, nn_r1]
theorem m_burn_x (hj : j < 8) {i : Nat} {a6 : Option Value} (hi : i < 1000) (hv : ¬ v = -1) : bc (d + 2) M_X10_burner none 50 [some (.ref 49), some (.int (Int32.ofNat j)), some (.int y), some (.int x), some (.int v), some (.int (Int32.ofNat i)), a6] [] (hp t (gM g w a k)) cn sn = some (.inl (some (.int v)), hp t (gM g (upd w (8 + j) x) a k), cn, sn) := by
  rw [st_X10_burner_50]
  by_cases h : 40 < i
  · simp (disch := omega) only [st_X10_burner_52, st_X10_burner_54, st_X10_burner_57, st_X10_burner_59, st_X10_burner_60, st_X10_burner_127, st_X10_burner_128, st_X10_burner_131, st_X10_burner_132, st_X10_burner_133, st_X10_burner_134, st_X10_burner_136, bM_some, hg_49_26, hw_65, cond_false, nn_1, nn_8, nn_16, nn_24, nn_32, nn_40, nn_48, nn_suc, nn_out, nn_clamp, Int32.zero_add, gM_64, gM_65, gM_66, gM_67, gM_68, gM_69, gM_70, gM_33, gM_72, gM_73, gM_o, gM_49, gMw_64, gMw_65, gMw_66, gMw_67, gMw_68, gMw_69, gMw_70, gMw_33, gMw_72, gMw_73, Nat.zero_add, nn_g40, h, if_true, Nat.reduceAdd]
  · simp (disch := omega) only [st_X10_burner_52, st_X10_burner_54, st_X10_burner_57, st_X10_burner_59, st_X10_burner_60, st_X10_burner_127, st_X10_burner_128, st_X10_burner_131, st_X10_burner_132, st_X10_burner_133, st_X10_burner_134, st_X10_burner_136, bM_some, hg_49_26, hw_65, cond_false, nn_1, nn_8, nn_16, nn_24, nn_32, nn_40, nn_48, nn_suc, nn_out, nn_clamp, Int32.zero_add, gM_64, gM_65, gM_66, gM_67, gM_68, gM_69, gM_70, gM_33, gM_72, gM_73, gM_o, gM_49, gMw_64, gMw_65, gMw_66, gMw_67, gMw_68, gMw_69, gMw_70, gMw_33, gMw_72, gMw_73, Nat.zero_add, nn_g40, h, hv, if_false, Nat.reduceAdd]
set_option maxHeartbeats 4000000 in
theorem m_burn_o (hM : MK K N S D L g) (hK : KN K N S D L) (hj : j < N) (hq : q ≤ 120) (hf : 0 ≤ (w (16 + j)).toInt ∧ (w (16 + j)).toInt ≤ 40) (hc : ¬ couldR K j w = 0) : ∀ m p : Nat, p + m = 41 → ∀ (h : Int32) (a6 : Option Value),
    bc (d + 2) M_X10_burner none 50 [some (.ref 49), some (.int (Int32.ofNat j)), some (.int (Int32.ofNat q)), some (.int (w (8 + j))), some (.int (-1)), some (.int (Int32.ofNat p)), a6] [] (hp t (gM g (upd w (8 + j) h) a k)) cn sn = some (.inl (some (.int (burnO (burnB K w j q) m p))), hp t (gM g w a k), cn, sn) := by
  have h8 := hK.2.1
  intro m
  induction m with
  | zero =>
    intro p hp h a6
    rw [st_X10_burner_50]
    simp (disch := omega) only [st_X10_burner_52, st_X10_burner_54, st_X10_burner_127, st_X10_burner_128, st_X10_burner_131, st_X10_burner_132, st_X10_burner_133, st_X10_burner_134, st_X10_burner_136, bM_some, hg_49_26, hw_65, cond_false, nn_1, nn_8, nn_16, nn_24, nn_32, nn_40, nn_48, nn_suc, nn_out, nn_clamp, Int32.zero_add, gM_64, gM_65, gM_66, gM_67, gM_68, gM_69, gM_70, gM_33, gM_72, gM_73, gM_o, gM_49, gMw_64, gMw_65, gMw_66, gMw_67, gMw_68, gMw_69, gMw_70, gMw_33, gMw_72, gMw_73, Nat.zero_add, nn_g40, show 40 < p by omega, if_true, Nat.reduceAdd, burnO, upd_upd, upd_eta rfl]
  | succ m ih =>
    intro p hp h a6
    have ec : couldR K j (upd w (8 + j) h) = couldR K j w := by unfold couldR; rw [upd_oth (by omega), upd_oth (by omega)]
    obtain ⟨b6, e⟩ := m_burn_i (d := d) (t := t) (a := a) (k := k) (cn := cn) (sn := sn) (x := w (8 + j)) hM hK hj hq hf p (-1) q 0 (by omega) (w (8 + j))
    rw [show Int32.ofNat 0 = (0 : Int32) from rfl] at e
    rw [show burnO (burnB K w j q) (m + 1) p = bif burnB K w j q p then Int32.ofNat p else burnO (burnB K w j q) m (p + 1) from rfl]
    rw [st_X10_burner_50]
    simp (disch := omega) only [st_X10_burner_52, st_X10_burner_54, st_X10_burner_57, st_X10_burner_59, st_X10_burner_60, st_X10_burner_63, st_X10_burner_64, st_X10_burner_68, st_X10_burner_71, st_X10_burner_72, st_X10_burner_75, st_X10_burner_76, st_X10_burner_77, st_X10_burner_78, st_X10_burner_79, st_X10_burner_65 (p := 49) hq_49 ps_, bM_some, hg_49_26, hw_65, cond_false, nn_1, nn_8, nn_16, nn_24, nn_32, nn_40, nn_48, nn_suc, nn_out, nn_clamp, Int32.zero_add, gM_64, gM_65, gM_66, gM_67, gM_68, gM_69, gM_70, gM_33, gM_72, gM_73, gM_o, gM_49, gMw_64, gMw_65, gMw_66, gMw_67, gMw_68, gMw_69, gMw_70, gMw_33, gMw_72, gMw_73, Nat.zero_add, nn_g40, show ¬ 40 < p by omega, if_true, if_false, m_canSing hM hK hj, canR_eq, ec, hc, bC_inl, Option.toList, List.cons_append, List.nil_append, Nat.add_zero, lc_i, Nat.reduceAdd, upd_upd]
    rw [e]
    unfold burnB
    by_cases h1 : heatI (massR K j w) (Int32.ofNat p) q (w (8 + j)) < 100
    · rw [decide_eq_true h1, Bool.not_true, Bool.and_false, cond_false]
      simp (disch := omega) only [st_X10_burner_106, st_X10_burner_107, st_X10_burner_110, st_X10_burner_111, st_X10_burner_112, st_X10_burner_114, st_X10_burner_121, st_X10_burner_124, bM_some, hg_49_26, ha_65, cond_false, nn_1, nn_8, nn_16, nn_24, nn_32, nn_40, nn_48, nn_suc, nn_out, nn_clamp, Int32.zero_add, gM_64, gM_65, gM_66, gM_67, gM_68, gM_69, gM_70, gM_33, gM_72, gM_73, gM_o, gM_49, gMw_64, gMw_65, gMw_66, gMw_67, gMw_68, gMw_69, gMw_70, gMw_33, gMw_72, gMw_73, Nat.zero_add, upd_same, h1, if_true, lc_i, Nat.reduceAdd, nn_r1]
      exact ih (p + 1) (by omega) _ _
    · rw [decide_eq_false h1, decide_eq_false hc]
      have hx := m_burn_x (d := d) (t := t) (g := g) (w := upd w (8 + j) (heatI (massR K j w) (Int32.ofNat p) q (w (8 + j)))) (a := a) (k := k) (cn := cn) (sn := sn) (x := w (8 + j)) (y := Int32.ofNat q) (v := Int32.ofNat p) (j := j) (i := p + 1) (a6 := b6) (by omega) (by omega) (by rw [nn_nneg (by omega)]; exact fun z => z)
      rw [upd_upd, upd_eta rfl] at hx
      simp (disch := omega) only [st_X10_burner_106, st_X10_burner_107, st_X10_burner_110, st_X10_burner_111, st_X10_burner_112, st_X10_burner_114, st_X10_burner_117, st_X10_burner_119, st_X10_burner_121, st_X10_burner_124, bM_some, hg_49_26, ha_65, cond_false, nn_1, nn_8, nn_16, nn_24, nn_32, nn_40, nn_48, nn_suc, nn_out, nn_clamp, Int32.zero_add, gM_64, gM_65, gM_66, gM_67, gM_68, gM_69, gM_70, gM_33, gM_72, gM_73, gM_o, gM_49, gMw_64, gMw_65, gMw_66, gMw_67, gMw_68, gMw_69, gMw_70, gMw_33, gMw_72, gMw_73, Nat.zero_add, upd_same, h1, if_false, lc_i, Nat.reduceAdd, nn_r1]
      exact hx
theorem burnO_f {b : Nat → Bool} (h : ∀ p, b p = false) : ∀ m p : Nat, burnO b m p = -1 := by
  intro m
  induction m with
  | zero => intro p; rfl
  | succ m ih => intro p; unfold burnO; rw [h p, cond_false]; exact ih _
set_option maxHeartbeats 2000000 in
theorem m_burner (hM : MK K N S D L g) (hK : KN K N S D L) (hO : KO K N S D L) (hR' : RI K N S T w) (hj : j < N) (h1 : 1 ≤ q) (hq : q ≤ 120) :
    bc (d + 3) M_X10_burner none 0 [some (.ref 49), some (.int (Int32.ofNat j)), some (.int (Int32.ofNat q)), none, none, none, none] [] (hp t (gM g w a k)) cn sn = some (.inl (some (.int (burnO (burnB K w j q) 40 1))), hp t (gM (hI g 49 2 0) w a k), cn, sn) := by
  have h8 := hK.2.1
  obtain ⟨q1, q2, q3, q4, q5⟩ := hR'.1 j hj
  have qs := (hO.1 j hj).1
  have hi := m_isIn_y (d := d + 2) (h := hp t (gM (hI g 49 2 0) w a k)) (cn := 0) (sn := 0) (u := (Int32.ofNat q).toInt64) (u1 := 1) (u2 := 120) (by rw [jj_i, tj_1, tj_120, ii_ofNat (by omega)]; omega)
  have hy := m_isKettle_y (d := d + 1) (t := t) (w := w) (a := a) (k := k) (cn := 0) (sn := 0) (MK_49 (i := 2) (x := 0) hM) hK (ofN_b hj (by omega))
  by_cases hc : couldR K j w = 0
  · rw [burnO_f (fun p => by unfold burnB; rw [decide_eq_true hc]; rfl)]
    simp (disch := omega) only [st_X10_burner_0, st_X10_burner_1, st_X10_burner_2, st_X10_burner_5, st_X10_burner_6, st_X10_burner_10, st_X10_burner_19, st_X10_burner_20, st_X10_burner_21, st_X10_burner_22, st_X10_burner_28, st_X10_burner_37, st_X10_burner_38, st_X10_burner_41, st_X10_burner_42, st_X10_burner_43, st_X10_burner_44, st_X10_burner_45, st_X10_burner_47, st_X10_burner_48, st_X10_burner_7 (p := 49) hq_49 ps_, st_X10_burner_25 ps_, bM_some, hg_49_26, hs_49_2, ha_65, cond_false, gM_hI49, hy, hi, nn_one0, if_false, nn_1, nn_8, nn_16, nn_24, nn_32, nn_40, nn_48, nn_suc, nn_out, nn_clamp, Int32.zero_add, gM_64, gM_65, gM_66, gM_67, gM_68, gM_69, gM_70, gM_33, gM_72, gM_73, gM_o, gM_49, gMw_64, gMw_65, gMw_66, gMw_67, gMw_68, gMw_69, gMw_70, gMw_33, gMw_72, gMw_73, Nat.zero_add, bC_inl, Option.toList, List.cons_append, List.nil_append, Nat.add_zero, lc_i, Nat.reduceAdd]
    rw [st_X10_burner_50]
    simp (disch := omega) only [st_X10_burner_52, st_X10_burner_54, st_X10_burner_57, st_X10_burner_59, st_X10_burner_60, st_X10_burner_63, st_X10_burner_64, st_X10_burner_68, st_X10_burner_127, st_X10_burner_128, st_X10_burner_131, st_X10_burner_132, st_X10_burner_133, st_X10_burner_134, st_X10_burner_136, st_X10_burner_65 (p := 49) hq_49 ps_, bM_some, hg_49_26, hw_65, cond_false, nn_1, nn_8, nn_16, nn_24, nn_32, nn_40, nn_48, nn_suc, nn_out, nn_clamp, Int32.zero_add, gM_64, gM_65, gM_66, gM_67, gM_68, gM_69, gM_70, gM_33, gM_72, gM_73, gM_o, gM_49, gMw_64, gMw_65, gMw_66, gMw_67, gMw_68, gMw_69, gMw_70, gMw_33, gMw_72, gMw_73, Nat.zero_add, show ((40 : Int32) < 1) = False by decide, if_true, if_false, m_canSing (MK_49 hM) hK hj, canR_eq, hc, bC_inl, Option.toList, List.cons_append, List.nil_append, Nat.add_zero, lc_i, Nat.reduceAdd, upd_eta rfl]
  · have e := m_burn_o (d := d + 1) (t := t) (g := hI g 49 2 0) (a := a) (k := k) (cn := cn) (sn := sn) (MK_49 hM) hK hj hq ⟨q3.1, by omega⟩ hc 40 1 (by omega) (w (8 + j)) none
    rw [upd_eta rfl] at e
    rw [← e]
    simp (disch := omega) only [st_X10_burner_0, st_X10_burner_1, st_X10_burner_2, st_X10_burner_5, st_X10_burner_6, st_X10_burner_10, st_X10_burner_19, st_X10_burner_20, st_X10_burner_21, st_X10_burner_22, st_X10_burner_28, st_X10_burner_37, st_X10_burner_38, st_X10_burner_41, st_X10_burner_42, st_X10_burner_43, st_X10_burner_44, st_X10_burner_45, st_X10_burner_47, st_X10_burner_48, st_X10_burner_7 (p := 49) hq_49 ps_, st_X10_burner_25 ps_, bM_some, hg_49_26, hs_49_2, ha_65, cond_false, gM_hI49, hy, hi, nn_one0, if_false, nn_1, nn_8, nn_16, nn_24, nn_32, nn_40, nn_48, nn_suc, nn_out, nn_clamp, Int32.zero_add, gM_64, gM_65, gM_66, gM_67, gM_68, gM_69, gM_70, gM_33, gM_72, gM_73, gM_o, gM_49, gMw_64, gMw_65, gMw_66, gMw_67, gMw_68, gMw_69, gMw_70, gMw_33, gMw_72, gMw_73, Nat.zero_add, bC_inl, Option.toList, List.cons_append, List.nil_append, Nat.add_zero, lc_i, Nat.reduceAdd]
    rfl
theorem m_burner_n1 (hM : MK K N S D L g) (hK : KN K N S D L) (hx : ¬ (0 ≤ x.toInt ∧ x.toInt < N)) : bc (d + 3) M_X10_burner none 0 [some (.ref 49), some (.int x), some (.int y), none, none, none, none] [] (hp t (gM g w a k)) cn sn = some (.inl (some (.int 0)), hp t (gM (hI g 49 2 1) w a k), cn, sn) := by
  simp (disch := omega) only [st_X10_burner_0, st_X10_burner_1, st_X10_burner_2, st_X10_burner_5, st_X10_burner_6, st_X10_burner_10, st_X10_burner_13, st_X10_burner_14, st_X10_burner_18, st_X10_burner_7 (p := 49) hq_49 ps_, st_X10_burner_15 (p := 49) hq_49 ps_, bM_some, hs_49_2, gM_hI49, m_isKettle_n (MK_49 hM) hK hx, if_true, m_fail, hI_hI, bC_inl, Option.toList, List.cons_append, List.nil_append, Nat.add_zero, Nat.reduceAdd]
theorem m_burner_n2 (hM : MK K N S D L g) (hK : KN K N S D L) (hj : j < N) (hy' : ¬ (1 ≤ y.toInt ∧ y.toInt ≤ 120)) : bc (d + 3) M_X10_burner none 0 [some (.ref 49), some (.int (Int32.ofNat j)), some (.int y), none, none, none, none] [] (hp t (gM g w a k)) cn sn = some (.inl (some (.int 0)), hp t (gM (hI g 49 2 2) w a k), cn, sn) := by
  have h8 := hK.2.1
  have hi := m_isIn_n (d := d + 2) (h := hp t (gM (hI g 49 2 0) w a k)) (cn := 0) (sn := 0) (u := y.toInt64) (u1 := 1) (u2 := 120) (by rw [jj_i, tj_1, tj_120]; omega)
  simp (disch := omega) only [st_X10_burner_0, st_X10_burner_1, st_X10_burner_2, st_X10_burner_5, st_X10_burner_6, st_X10_burner_10, st_X10_burner_19, st_X10_burner_20, st_X10_burner_21, st_X10_burner_22, st_X10_burner_28, st_X10_burner_31, st_X10_burner_32, st_X10_burner_36, st_X10_burner_7 (p := 49) hq_49 ps_, st_X10_burner_25 ps_, st_X10_burner_33 (p := 49) hq_49 ps_, bM_some, hs_49_2, gM_hI49, m_isKettle_y (MK_49 hM) hK (ofN_b hj (by omega)), hi, nn_one0, if_true, if_false, m_fail, hI_hI, bC_inl, Option.toList, List.cons_append, List.nil_append, Nat.add_zero, Nat.reduceAdd]
end MBURN
