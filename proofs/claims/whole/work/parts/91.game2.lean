/-! ===== a game, put together ===== -/
section GAME2
variable {d : Nat} {t : List px_E} {g : hG} {h : px_H} {i b ci cb j q N S D L T cn sn c : Nat} {w a k v : Rw} {x y p s : Int32} {K : Kt}
theorem nn_1m (hc : c < 2) : (1 : Int32) - Int32.ofNat c = Int32.ofNat (1 - c) := nn_sub (a := 1) (by omega)
theorem nn_div2 (hc : c < 1000) : Int32.ofNat c / 2 = Int32.ofNat (c / 2) := nn_div (b := 2) (by omega) (by decide) (by decide)
theorem nn_rem2 (hc : c < 1000) : Int32.ofNat c - Int32.ofNat c / 2 * 2 = Int32.ofNat (c % 2) := nn_rem (b := 2) (by omega) (by decide) (by decide)
theorem nn_rem2' (hc : c < 1000) : Int32.ofNat c - Int32.ofNat (c / 2) * 2 = Int32.ofNat (c % 2) := by rw [← nn_div2 hc]; exact nn_rem2 hc
theorem c_isBest (hK : KN (kC g) N S D L) (hi : i < N) (hb : b < N) (hci : ci < 2) (hc : cb < 2) : bc (d + 3) M_X9_isBest none 0 [some (.ref 0), some (.int (Int32.ofNat i)), some (.int (Int32.ofNat ci)), some (.int (Int32.ofNat b)), some (.int (Int32.ofNat cb))] [] (hp t g) cn sn = some (.inl (some (.int (if gainV (g.1 29) N i ci b cb < gainV (g.1 29) N i (1 - ci) b cb then 0 else 1))), hp t g, cn, sn) := by
  simp (disch := omega) only [st_X9_isBest_0, st_X9_isBest_1, st_X9_isBest_2, st_X9_isBest_3, st_X9_isBest_4, st_X9_isBest_6 (p := 0) hq_0 ps_, bC_inl, Option.toList, List.cons_append, List.nil_append, Nat.add_zero, st_X9_isBest_9, st_X9_isBest_10, st_X9_isBest_11, st_X9_isBest_12, st_X9_isBest_13, st_X9_isBest_14, st_X9_isBest_15, st_X9_isBest_17 (p := 0) hq_0 ps_i, st_X9_isBest_20, st_X9_isBest_23, st_X9_isBest_24, st_X9_isBest_28, st_X9_isBest_28b, st_X9_isBest_27, Nat.reduceAdd, nn_1m hci, c_gain hK hi hb hci hc, c_gain hK hi hb (show 1 - ci < 2 by omega) hc, r_ite]
set_option maxHeartbeats 4000000 in
theorem c_game_l (hK : KN (kC g) N S D L) (hi : i < N) (hb : b < N) (hx : x = 0 ∨ x = 1) : ∀ m c : Nat, c + m = 4 → ∀ (q : Nat × Int32) (a8 a9 : Option Value), q.1 ≤ c →
    bc (d + 4) M_X9_game none 88 [some (.ref 0), some (.int (Int32.ofNat i)), some (.int (Int32.ofNat b)), some (.int x), some (.int (Int32.ofNat q.1)), some (.int q.2), some (.int 1), some (.int (Int32.ofNat c)), a8, a9] [] (hp t g) cn sn = some (.inl (some (.int (if x = 0 then Int32.ofNat (gameR (g.1 29) N i b m c q).1 else (gameR (g.1 29) N i b m c q).2))), hp t g, cn, sn) := by
  intro m
  induction m with
  | zero =>
    intro c hc q a8 a9 hq
    rw [st_X9_game_88]
    rcases hx with hx | hx <;> subst hx <;>
    simp (disch := omega) only [st_X9_game_90, st_X9_game_93, st_X9_game_95, st_X9_game_96, st_X9_game_166, st_X9_game_167, st_X9_game_170, st_X9_game_172, st_X9_game_175, st_X9_game_177, nn_one0, if_true, if_false, nn_l4, show ¬ c < 4 by omega, gameR, Nat.reduceAdd]
  | succ m ih =>
    intro c hc q a8 a9 hq
    have e1 := c_isBest (d := d) (t := t) (cn := 0) (sn := 0) hK hi hb (show c / 2 < 2 by omega) (show c % 2 < 2 by omega)
    have e2 := c_isBest (d := d) (t := t) (cn := 0) (sn := 0) hK hb hi (show c % 2 < 2 by omega) (show c / 2 < 2 by omega)
    rw [show gameR (g.1 29) N i b (m + 1) c q = gameR (g.1 29) N i b m (c + 1) (if restB (g.1 29) N i b c then (q.1 + 1, if q.1 = 0 then Int32.ofNat (10 * (c / 2) + c % 2) else q.2) else q) from rfl]
    rw [st_X9_game_88]
    by_cases q1 : gainV (g.1 29) N i (c / 2) b (c % 2) < gainV (g.1 29) N i (1 - c / 2) b (c % 2)
    · rw [show restB (g.1 29) N i b c = false by unfold restB; rw [decide_eq_true q1]; rfl]
      rw [if_pos q1] at e1
      simp (disch := omega) only [st_X9_game_90, st_X9_game_93, st_X9_game_95, st_X9_game_96, st_X9_game_99, st_X9_game_101, st_X9_game_102, st_X9_game_103, st_X9_game_105, st_X9_game_107, st_X9_game_109, st_X9_game_111, st_X9_game_112, st_X9_game_113, st_X9_game_115, st_X9_game_116, st_X9_game_121, st_X9_game_160, st_X9_game_163, st_X9_game_102v, st_X9_game_108v, st_X9_game_118 (p := 0) hq_0 ps_, nn_one0, dv_2, if_true, if_false, nn_l4, show c < 4 by omega, nn_div2, nn_rem2', e1, bC_inl, Option.toList, List.cons_append, List.nil_append, Nat.add_zero, lc_i, Nat.reduceAdd, nn_r1]
      exact ih (c + 1) (by omega) q _ _ (by omega)
    · rw [if_neg q1] at e1
      by_cases q2 : gainV (g.1 29) N b (c % 2) i (c / 2) < gainV (g.1 29) N b (1 - c % 2) i (c / 2)
      · rw [show restB (g.1 29) N i b c = false by unfold restB; rw [decide_eq_true q2, decide_eq_false q1]; rfl]
        rw [if_pos q2] at e2
        simp (disch := omega) only [st_X9_game_90, st_X9_game_93, st_X9_game_95, st_X9_game_96, st_X9_game_99, st_X9_game_101, st_X9_game_102, st_X9_game_103, st_X9_game_105, st_X9_game_107, st_X9_game_109, st_X9_game_111, st_X9_game_112, st_X9_game_113, st_X9_game_115, st_X9_game_116, st_X9_game_121, st_X9_game_124, st_X9_game_125, st_X9_game_126, st_X9_game_128, st_X9_game_129, st_X9_game_134, st_X9_game_160, st_X9_game_163, st_X9_game_102v, st_X9_game_108v, st_X9_game_118 (p := 0) hq_0 ps_, st_X9_game_131 (p := 0) hq_0 ps_, nn_one0, dv_2, if_true, if_false, nn_l4, show c < 4 by omega, nn_div2, nn_rem2', e1, e2, bC_inl, Option.toList, List.cons_append, List.nil_append, Nat.add_zero, lc_i, Nat.reduceAdd, nn_r1]
        exact ih (c + 1) (by omega) q _ _ (by omega)
      · rw [show restB (g.1 29) N i b c = true by unfold restB; rw [decide_eq_false q2, decide_eq_false q1]; rfl]
        rw [if_neg q2] at e2
        have ih' := ih (c + 1) (by omega) (q.1 + 1, if q.1 = 0 then Int32.ofNat (10 * (c / 2) + c % 2) else q.2) (some (.int (Int32.ofNat (c / 2)))) (some (.int (Int32.ofNat (c % 2)))) (by show q.1 + 1 ≤ c + 1; omega)
        by_cases q3 : q.1 = 0
        · rw [if_pos q3] at ih'
          rw [if_pos q3, if_pos rfl]
          simp (disch := omega) only [st_X9_game_90, st_X9_game_93, st_X9_game_95, st_X9_game_96, st_X9_game_99, st_X9_game_101, st_X9_game_103, st_X9_game_105, st_X9_game_107, st_X9_game_109, st_X9_game_111, st_X9_game_112, st_X9_game_113, st_X9_game_115, st_X9_game_116, st_X9_game_121, st_X9_game_124, st_X9_game_125, st_X9_game_126, st_X9_game_128, st_X9_game_129, st_X9_game_134, st_X9_game_137, st_X9_game_139, st_X9_game_142, st_X9_game_144, st_X9_game_146, st_X9_game_147, st_X9_game_149, st_X9_game_150, st_X9_game_155, st_X9_game_157, st_X9_game_160, st_X9_game_163, st_X9_game_102v, st_X9_game_108v, st_X9_game_118 (p := 0) hq_0 ps_, st_X9_game_131 (p := 0) hq_0 ps_, nn_one0, dv_2, if_true, if_false, nn_l4, show c < 4 by omega, nn_div2, nn_rem2', e1, e2, nn_e0, q3, nn_m10, nn_add, bC_inl, Option.toList, List.cons_append, List.nil_append, Nat.add_zero, lc_i, Nat.reduceAdd, nn_r1]
          rw [q3] at ih'
          exact ih'
        · rw [if_neg q3] at ih'
          rw [if_neg q3, if_pos rfl]
          simp (disch := omega) only [st_X9_game_90, st_X9_game_93, st_X9_game_95, st_X9_game_96, st_X9_game_99, st_X9_game_101, st_X9_game_103, st_X9_game_105, st_X9_game_107, st_X9_game_109, st_X9_game_111, st_X9_game_112, st_X9_game_113, st_X9_game_115, st_X9_game_116, st_X9_game_121, st_X9_game_124, st_X9_game_125, st_X9_game_126, st_X9_game_128, st_X9_game_129, st_X9_game_134, st_X9_game_137, st_X9_game_139, st_X9_game_153, st_X9_game_155, st_X9_game_157, st_X9_game_160, st_X9_game_163, st_X9_game_102v, st_X9_game_108v, st_X9_game_118 (p := 0) hq_0 ps_, st_X9_game_131 (p := 0) hq_0 ps_, nn_one0, dv_2, if_true, if_false, nn_l4, show c < 4 by omega, nn_div2, nn_rem2', e1, e2, nn_e0, q3, bC_inl, Option.toList, List.cons_append, List.nil_append, Nat.add_zero, lc_i, Nat.reduceAdd, nn_r1]
          exact ih'
set_option maxHeartbeats 4000000 in
theorem c_game (hK : KN (kC g) N S D L) (hi : i < N) (hb : b < N) (hn : ¬ i = b) (hx : x = 0 ∨ x = 1) : bc (d + 4) M_X9_game none 0 [some (.ref 0), some (.int (Int32.ofNat i)), some (.int (Int32.ofNat b)), some (.int x), none, none, none, none, none, none] [] (hp t g) cn sn = some (.inl (some (.int (gameA (g.1 29) N i b x))), hp t g, cn, sn) := by
  have h8 := hK.2.1
  have x1 : ¬ x = 0 → x = 1 := fun z => by rcases hx with q | q; exact absurd q z; exact q
  have e := c_game_l (d := d) (t := t) (cn := cn) (sn := sn) hK hi hb hx 4 0 (by omega) (0, -1) none none (by omega)
  unfold gameA
  by_cases s1 : g.1 29 (40 + i) = -1
  · rw [if_pos (Or.inl s1)]
    rcases hx with hx | hx <;> subst hx <;>
    simp (disch := omega) only [st_X9_game_0, st_X9_game_1, st_X9_game_5, st_X9_game_6, st_X9_game_10, st_X9_game_11, st_X9_game_14, st_X9_game_15, st_X9_game_16, st_X9_game_30, st_X9_game_31, st_X9_game_32, st_X9_game_46, st_X9_game_47, st_X9_game_49, st_X9_game_50, st_X9_game_52, st_X9_game_53, st_X9_game_56, st_X9_game_58, st_X9_game_59, st_X9_game_60, st_X9_game_61, st_X9_game_62, st_X9_game_82, st_X9_game_83, st_X9_game_85, st_X9_game_86, st_X9_game_88, st_X9_game_90, st_X9_game_166, st_X9_game_167, st_X9_game_170, st_X9_game_172, st_X9_game_175, st_X9_game_177, st_X9_game_2 (p := 0) hq_0 ps_, st_X9_game_7 (p := 0) hq_0 ps_, nk_y hK hi, nk_y hK hb, bM_some, hg_0_2, ha_29, cond_false, nn_1, nn_8, nn_16, nn_24, nn_32, nn_40, nn_48, nn_suc, nn_out, nn_clamp, Int32.zero_add, nn_inj, hn, s1, nn_one0, if_true, if_false, bC_inl, Option.toList, List.cons_append, List.nil_append, Nat.add_zero, lc_i, Nat.reduceAdd]
  · by_cases s2 : g.1 29 (40 + b) = -1
    · rw [if_pos (Or.inr s2)]
      rcases hx with hx | hx <;> subst hx <;>
      simp (disch := omega) only [st_X9_game_0, st_X9_game_1, st_X9_game_5, st_X9_game_6, st_X9_game_10, st_X9_game_11, st_X9_game_14, st_X9_game_15, st_X9_game_16, st_X9_game_30, st_X9_game_31, st_X9_game_32, st_X9_game_46, st_X9_game_47, st_X9_game_49, st_X9_game_50, st_X9_game_52, st_X9_game_53, st_X9_game_56, st_X9_game_58, st_X9_game_59, st_X9_game_60, st_X9_game_61, st_X9_game_62, st_X9_game_65, st_X9_game_66, st_X9_game_69, st_X9_game_71, st_X9_game_72, st_X9_game_73, st_X9_game_74, st_X9_game_75, st_X9_game_82, st_X9_game_83, st_X9_game_85, st_X9_game_86, st_X9_game_88, st_X9_game_90, st_X9_game_166, st_X9_game_167, st_X9_game_170, st_X9_game_172, st_X9_game_175, st_X9_game_177, st_X9_game_2 (p := 0) hq_0 ps_, st_X9_game_7 (p := 0) hq_0 ps_, nk_y hK hi, nk_y hK hb, bM_some, hg_0_2, ha_29, cond_false, nn_1, nn_8, nn_16, nn_24, nn_32, nn_40, nn_48, nn_suc, nn_out, nn_clamp, Int32.zero_add, nn_inj, hn, s1, s2, nn_one0, if_true, if_false, bC_inl, Option.toList, List.cons_append, List.nil_append, Nat.add_zero, lc_i, Nat.reduceAdd]
    · rw [if_neg (fun z => by rcases z with z | z; exact s1 z; exact s2 z), ← e]
      rcases hx with hx | hx <;> subst hx <;>
      simp (disch := omega) only [st_X9_game_0, st_X9_game_1, st_X9_game_5, st_X9_game_6, st_X9_game_10, st_X9_game_11, st_X9_game_14, st_X9_game_15, st_X9_game_16, st_X9_game_30, st_X9_game_31, st_X9_game_32, st_X9_game_46, st_X9_game_47, st_X9_game_49, st_X9_game_50, st_X9_game_52, st_X9_game_53, st_X9_game_56, st_X9_game_58, st_X9_game_59, st_X9_game_60, st_X9_game_61, st_X9_game_62, st_X9_game_65, st_X9_game_66, st_X9_game_69, st_X9_game_71, st_X9_game_72, st_X9_game_73, st_X9_game_74, st_X9_game_75, st_X9_game_78, st_X9_game_79, st_X9_game_83, st_X9_game_85, st_X9_game_86, st_X9_game_2 (p := 0) hq_0 ps_, st_X9_game_7 (p := 0) hq_0 ps_, nk_y hK hi, nk_y hK hb, bM_some, hg_0_2, ha_29, cond_false, nn_1, nn_8, nn_16, nn_24, nn_32, nn_40, nn_48, nn_suc, nn_out, nn_clamp, Int32.zero_add, nn_inj, hn, s1, s2, nn_one0, if_true, if_false, bC_inl, Option.toList, List.cons_append, List.nil_append, Nat.add_zero, lc_i, Nat.reduceAdd] <;> rfl
theorem c_game_n1 (hK : KN (kC g) N S D L) (hx : ¬ ((0 ≤ x.toInt ∧ x.toInt < N) ∧ (0 ≤ y.toInt ∧ y.toInt < N) ∧ (p = 0 ∨ p = 1))) : bc (d + 13) M_X9_game none 0 [some (.ref 0), some (.int x), some (.int y), some (.int p), none, none, none, none, none, none] [] (hp t g) cn sn = some (.inr 1, hp t g, cn + 1, sn + 6) := by
  by_cases h1 : 0 ≤ x.toInt ∧ x.toInt < N
  · have hc1 := ii_clamp (a := x)
    have hx1 : x = Int32.ofNat x.toNatClampNeg := (ii_nat (by omega)).symm
    have hy1 := nk_y (d := d + 12) (t := t) (cn := 0) (sn := 0) (j := x.toNatClampNeg) hK (by omega)
    rw [← hx1] at hy1
    by_cases h2 : 0 ≤ y.toInt ∧ y.toInt < N
    · have hc2 := ii_clamp (a := y)
      have hx2 : y = Int32.ofNat y.toNatClampNeg := (ii_nat (by omega)).symm
      have hy2 := nk_y (d := d + 12) (t := t) (cn := 0) (sn := 0) (j := y.toNatClampNeg) hK (by omega)
      rw [← hx2] at hy2
      have p0 : ¬ p = 0 := fun z => hx ⟨h1, h2, Or.inl z⟩
      have p1 : ¬ p = 1 := fun z => hx ⟨h1, h2, Or.inr z⟩
      simp only [st_X9_game_0, st_X9_game_1, st_X9_game_5, st_X9_game_6, st_X9_game_10, st_X9_game_11, st_X9_game_14, st_X9_game_15, st_X9_game_16, st_X9_game_19, st_X9_game_2 (p := 0) hq_0 ps_, st_X9_game_7 (p := 0) hq_0 ps_, hy1, hy2, p0, p1, if_false, bC_inl, Option.toList, List.nil_append, Nat.add_zero, Nat.reduceAdd]
    · simp only [st_X9_game_0, st_X9_game_1, st_X9_game_5, st_X9_game_6, st_X9_game_2 (p := 0) hq_0 ps_, st_X9_game_7 (p := 0) hq_0 ps_, hy1, nk_n hK h2, bC_inl, bC_inr, Option.toList, List.nil_append, Nat.zero_add, Nat.add_zero, Nat.reduceAdd]
  · simp only [st_X9_game_0, st_X9_game_1, st_X9_game_2 (p := 0) hq_0 ps_, nk_n hK h1, bC_inr, Nat.zero_add, Nat.reduceAdd]
theorem c_game_n2 (hK : KN (kC g) N S D L) (hi : i < N) (hx : x = 0 ∨ x = 1) : bc (d + 13) M_X9_game none 0 [some (.ref 0), some (.int (Int32.ofNat i)), some (.int (Int32.ofNat i)), some (.int x), none, none, none, none, none, none] [] (hp t g) cn sn = some (.inr 0, hp t g, cn + 1, sn + 6) := by
  rcases hx with hx | hx <;> subst hx <;>
  simp only [st_X9_game_0, st_X9_game_1, st_X9_game_5, st_X9_game_6, st_X9_game_10, st_X9_game_11, st_X9_game_14, st_X9_game_15, st_X9_game_16, st_X9_game_30, st_X9_game_31, st_X9_game_32, st_X9_game_35, st_X9_game_2 (p := 0) hq_0 ps_, st_X9_game_7 (p := 0) hq_0 ps_, nk_y hK hi, if_true, if_false, nn_one0, bC_inl, Option.toList, List.nil_append, Nat.add_zero, Nat.reduceAdd]
end GAME2
