/-! ===== a game of the reference, put together ===== -/
section MGAME2
variable {d : Nat} {t : List px_E} {g : hG} {h : px_H} {i b ci cb j q N S D L T cn sn c : Nat} {w a k v : Rw} {x y p s : Int32} {K : Kt}
set_option maxHeartbeats 4000000 in
theorem m_game (hM : MK K N S D L g) (hK : KN K N S D L) (hnb : ∀ j, j < N → -1 ≤ (w (40 + j)).toInt ∧ (w (40 + j)).toInt ≤ 60) (hi : i < N) (hb : b < N) (hn : ¬ i = b) (hx : x = 0 ∨ x = 1) : bc (d + 3) M_X10_game none 0 [some (.ref 49), some (.int (Int32.ofNat i)), some (.int (Int32.ofNat b)), some (.int x), none, none, none, none, none] [] (hp t (gM g w a k)) cn sn = some (.inl (some (.int (gameA w N i b x))), hp t (gM (hI g 49 2 0) w a k), cn, sn) := by
  have h8 := hK.2.1
  have hM0 := MK_49 (i := 2) (x := 0) hM
  have x0 : ¬ x < 0 := by rcases hx with q | q <;> subst q <;> decide
  have x1 : ¬ 1 < x := by rcases hx with q | q <;> subst q <;> decide
  have y1 := m_isKettle_y (d := d + 1) (t := t) (w := w) (a := a) (k := k) (cn := 0) (sn := 0) hM0 hK (ofN_b hi (by omega))
  have y2 := m_isKettle_y (d := d + 1) (t := t) (w := w) (a := a) (k := k) (cn := 0) (sn := 0) hM0 hK (ofN_b hb (by omega))
  have hn' : ¬ Int32.ofNat i = Int32.ofNat b := by rw [nn_inj (by omega) (by omega)]; exact hn
  have start : ∀ z : Option (px_Res × px_H × Nat × Nat), bc (d + 3) M_X10_game none 62 [some (.ref 49), some (.int (Int32.ofNat i)), some (.int (Int32.ofNat b)), some (.int x), some (.int (Int32.ofNat (setN (bS w) N))), some (.int 0), some (.int (-1)), some (.int 0), none] [] (hp t (gM (hI g 49 2 0) w a k)) cn sn = z → bc (d + 3) M_X10_game none 0 [some (.ref 49), some (.int (Int32.ofNat i)), some (.int (Int32.ofNat b)), some (.int x), none, none, none, none, none] [] (hp t (gM g w a k)) cn sn = z := by
    intro z hz
    rw [← hz]
    simp (disch := omega) only [st_X10_game_0, st_X10_game_1, st_X10_game_2, st_X10_game_5, st_X10_game_6, st_X10_game_10, st_X10_game_13, st_X10_game_14, st_X10_game_18, st_X10_game_21, st_X10_game_22, st_X10_game_25, st_X10_game_26, st_X10_game_27, st_X10_game_36, st_X10_game_37, st_X10_game_38, st_X10_game_47, st_X10_game_51, st_X10_game_53, st_X10_game_54, st_X10_game_56, st_X10_game_57, st_X10_game_59, st_X10_game_60, st_X10_game_7 (p := 49) hq_49 ps_, st_X10_game_15 (p := 49) hq_49 ps_, st_X10_game_48 (p := 49) hq_49 ps_, bM_some, hs_49_2, gM_hI49, y1, y2, x0, x1, hn', nn_one0, if_false, m_singers hM0 hK, bC_inl, Option.toList, List.cons_append, List.nil_append, Nat.add_zero, lc_i, Nat.reduceAdd]
  apply start
  unfold gameA
  by_cases s1 : w (40 + i) = -1
  · rw [if_pos (Or.inl s1)]
    have bi : bS w i = false := by unfold bS; rw [decide_eq_true s1]; rfl
    have o1 := m_isOf_n (d := d + 2) (h := hp t (gM (hI g 49 2 0) w a k)) (cn := 0) (sn := 0) (q := i) (s := Int32.ofNat (setN (bS w) N)) (by omega) (by rw [tb32_set N h8 i (by omega), bi, Bool.and_false])
    rw [st_X10_game_62]
    rcases hx with hx | hx <;> subst hx <;>
    simp (disch := omega) only [st_X10_game_64, st_X10_game_65, st_X10_game_68, st_X10_game_70, st_X10_game_74, st_X10_game_203, st_X10_game_204, st_X10_game_207, st_X10_game_209, st_X10_game_212, st_X10_game_214, st_X10_game_71 ps_, o1, show ((0 : Int32) < 4) = True by decide, nn_one0, if_true, if_false, bC_inl, Option.toList, List.cons_append, List.nil_append, Nat.add_zero, Nat.reduceAdd]
  · have bi : bS w i = true := by unfold bS; rw [decide_eq_false s1]; rfl
    have o1 := m_isOf_y (d := d + 2) (h := hp t (gM (hI g 49 2 0) w a k)) (cn := 0) (sn := 0) (q := i) (s := Int32.ofNat (setN (bS w) N)) (by omega) (by rw [tb32_set N h8 i (by omega), decide_eq_true hi, bi]; rfl)
    by_cases s2 : w (40 + b) = -1
    · rw [if_pos (Or.inr s2)]
      have bb : bS w b = false := by unfold bS; rw [decide_eq_true s2]; rfl
      have o2 := m_isOf_n (d := d + 2) (h := hp t (gM (hI g 49 2 0) w a k)) (cn := 0) (sn := 0) (q := b) (s := Int32.ofNat (setN (bS w) N)) (by omega) (by rw [tb32_set N h8 b (by omega), bb, Bool.and_false])
      rw [st_X10_game_62]
      rcases hx with hx | hx <;> subst hx <;>
      simp (disch := omega) only [st_X10_game_64, st_X10_game_65, st_X10_game_68, st_X10_game_70, st_X10_game_74, st_X10_game_77, st_X10_game_79, st_X10_game_83, st_X10_game_203, st_X10_game_204, st_X10_game_207, st_X10_game_209, st_X10_game_212, st_X10_game_214, st_X10_game_71 ps_, st_X10_game_80 ps_, o1, o2, show ((0 : Int32) < 4) = True by decide, nn_one0, if_true, if_false, bC_inl, Option.toList, List.cons_append, List.nil_append, Nat.add_zero, Nat.reduceAdd]
    · rw [if_neg (fun z => by rcases z with z | z; exact s1 z; exact s2 z)]
      exact m_game_l (d := d + 1) hM0 hK hi hb hn hx s1 s2 hnb 4 0 (by omega) (0, -1) none (by omega) ⟨fun _ => rfl, fun _ => rfl⟩
theorem m_game_n1 (hM : MK K N S D L g) (hK : KN K N S D L) (hx : ¬ ((0 ≤ x.toInt ∧ x.toInt < N) ∧ (0 ≤ y.toInt ∧ y.toInt < N) ∧ (p = 0 ∨ p = 1))) : bc (d + 3) M_X10_game none 0 [some (.ref 49), some (.int x), some (.int y), some (.int p), none, none, none, none, none] [] (hp t (gM g w a k)) cn sn = some (.inl (some (.int 0)), hp t (gM (hI g 49 2 1) w a k), cn, sn) := by
  by_cases h1 : 0 ≤ x.toInt ∧ x.toInt < N
  · by_cases h2 : 0 ≤ y.toInt ∧ y.toInt < N
    · have p0 : ¬ p = 0 := fun z => hx ⟨h1, h2, Or.inl z⟩
      have p1 : ¬ p = 1 := fun z => hx ⟨h1, h2, Or.inr z⟩
      by_cases p2 : p < 0
      · simp (disch := omega) only [st_X10_game_0, st_X10_game_1, st_X10_game_2, st_X10_game_5, st_X10_game_6, st_X10_game_10, st_X10_game_13, st_X10_game_14, st_X10_game_18, st_X10_game_21, st_X10_game_22, st_X10_game_30, st_X10_game_31, st_X10_game_35, st_X10_game_7 (p := 49) hq_49 ps_, st_X10_game_15 (p := 49) hq_49 ps_, st_X10_game_32 (p := 49) hq_49 ps_, bM_some, hs_49_2, gM_hI49, m_isKettle_y (MK_49 hM) hK h1, m_isKettle_y (MK_49 hM) hK h2, nn_one0, p2, if_true, if_false, m_fail, hI_hI, bC_inl, Option.toList, List.cons_append, List.nil_append, Nat.add_zero, Nat.reduceAdd]
      · have p3 : 1 < p := by rw [ii_eq, ti_0] at p0; rw [ii_eq, ti_1] at p1; rw [ii_lt, ti_0] at p2; rw [ii_lt, ti_1]; omega
        simp (disch := omega) only [st_X10_game_0, st_X10_game_1, st_X10_game_2, st_X10_game_5, st_X10_game_6, st_X10_game_10, st_X10_game_13, st_X10_game_14, st_X10_game_18, st_X10_game_21, st_X10_game_22, st_X10_game_25, st_X10_game_26, st_X10_game_27, st_X10_game_30, st_X10_game_31, st_X10_game_35, st_X10_game_7 (p := 49) hq_49 ps_, st_X10_game_15 (p := 49) hq_49 ps_, st_X10_game_32 (p := 49) hq_49 ps_, bM_some, hs_49_2, gM_hI49, m_isKettle_y (MK_49 hM) hK h1, m_isKettle_y (MK_49 hM) hK h2, nn_one0, p2, p3, if_true, if_false, m_fail, hI_hI, bC_inl, Option.toList, List.cons_append, List.nil_append, Nat.add_zero, Nat.reduceAdd]
    · simp (disch := omega) only [st_X10_game_0, st_X10_game_1, st_X10_game_2, st_X10_game_5, st_X10_game_6, st_X10_game_10, st_X10_game_13, st_X10_game_14, st_X10_game_18, st_X10_game_30, st_X10_game_31, st_X10_game_35, st_X10_game_7 (p := 49) hq_49 ps_, st_X10_game_15 (p := 49) hq_49 ps_, st_X10_game_32 (p := 49) hq_49 ps_, bM_some, hs_49_2, gM_hI49, m_isKettle_y (MK_49 hM) hK h1, m_isKettle_n (MK_49 hM) hK h2, nn_one0, if_true, if_false, m_fail, hI_hI, bC_inl, Option.toList, List.cons_append, List.nil_append, Nat.add_zero, Nat.reduceAdd]
  · simp (disch := omega) only [st_X10_game_0, st_X10_game_1, st_X10_game_2, st_X10_game_5, st_X10_game_6, st_X10_game_10, st_X10_game_30, st_X10_game_31, st_X10_game_35, st_X10_game_7 (p := 49) hq_49 ps_, st_X10_game_32 (p := 49) hq_49 ps_, bM_some, hs_49_2, gM_hI49, m_isKettle_n (MK_49 hM) hK h1, if_true, m_fail, hI_hI, bC_inl, Option.toList, List.cons_append, List.nil_append, Nat.add_zero, Nat.reduceAdd]
theorem m_game_n2 (hM : MK K N S D L g) (hK : KN K N S D L) (hi : i < N) (hx : x = 0 ∨ x = 1) : bc (d + 3) M_X10_game none 0 [some (.ref 49), some (.int (Int32.ofNat i)), some (.int (Int32.ofNat i)), some (.int x), none, none, none, none, none] [] (hp t (gM g w a k)) cn sn = some (.inl (some (.int 0)), hp t (gM (hI g 49 2 2) w a k), cn, sn) := by
  have h8 := hK.2.1
  have x0 : ¬ x < 0 := by rcases hx with q | q <;> subst q <;> decide
  have x1 : ¬ 1 < x := by rcases hx with q | q <;> subst q <;> decide
  simp (disch := omega) only [st_X10_game_0, st_X10_game_1, st_X10_game_2, st_X10_game_5, st_X10_game_6, st_X10_game_10, st_X10_game_13, st_X10_game_14, st_X10_game_18, st_X10_game_21, st_X10_game_22, st_X10_game_25, st_X10_game_26, st_X10_game_27, st_X10_game_36, st_X10_game_37, st_X10_game_38, st_X10_game_41, st_X10_game_42, st_X10_game_46, st_X10_game_7 (p := 49) hq_49 ps_, st_X10_game_15 (p := 49) hq_49 ps_, st_X10_game_43 (p := 49) hq_49 ps_, bM_some, hs_49_2, gM_hI49, m_isKettle_y (MK_49 hM) hK (ofN_b hi (by omega)), x0, x1, nn_one0, if_true, if_false, m_fail, hI_hI, bC_inl, Option.toList, List.cons_append, List.nil_append, Nat.add_zero, Nat.reduceAdd]
end MGAME2
