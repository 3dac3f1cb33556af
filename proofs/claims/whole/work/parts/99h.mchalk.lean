/-! ===== the reference: chalk ===== -/
section MCHALK
variable {d : Nat} {t : List px_E} {g : hG} {j q N S D L T cn sn n c : Nat} {w a k f r : Rw} {x : Int32} {K : Kt}
theorem gT_0 : hI g 49 47 0 = gT g 0 (g.1 81) (g.1 80) := by
  apply hG_ext
  · intro c i
    unfold gT hR hI
    dsimp only
    by_cases h80 : c = 80
    · subst h80; rfl
    · by_cases h81 : c = 81
      · subst h81; rfl
      · rw [show c.beq 80 = false from (Bool.eq_false_iff.mpr (fun h => h80 (Nat.eq_of_beq_eq_true h))), show c.beq 81 = false from (Bool.eq_false_iff.mpr (fun h => h81 (Nat.eq_of_beq_eq_true h)))]
        rfl
  · intro c j; rfl
  · rfl
/-- what fits: kettle and chalk, in their order -/
def okF (K : Kt) (N D L q : Nat) (w hm hn : Rw) : Nat → Nat → Bool := fun y z => fitL (minR K N D L) N (upd w (24 + y) (Int32.ofNat z)) hm hn q 0
set_option maxHeartbeats 4000000 in
theorem m_tellFits (hM : MK K N S D L g) (hK : KN K N S D L) (hO : KO K N S D L) (hq : q ≤ 8) (hH : g.1 49 35 = Int32.ofNat q) (hb : ∀ i, i < q → 1 ≤ (g.1 78 i).toInt ∧ (g.1 78 i).toInt ≤ 60) (hRI : RI K N S T w) (hT : T < 29900) : ∃ (r' a' k' : Rw),
    bc (d + 5) M_X10_tellFits none 0 [some (.ref 49), none, none, none] [] (hp t (gM g w a k)) cn sn =
    some (.inl none, hp t (gM (gT g (foL (okF K N D L q w (g.1 78) (g.1 79)) w N 0 0 (g.1 81)).1 (foL (okF K N D L q w (g.1 78) (g.1 79)) w N 0 0 (g.1 81)).2 r') w a' k'), cn, sn) := by
  have h8 := hK.2.1
  obtain ⟨r', a', k', e⟩ := m_tf_2 (d := d) (t := t) (cn := cn) (sn := sn) hM hK hO hq hH hb hRI hT N 0 (by omega) 0 (g.1 81) (g.1 80) a k none none (by omega)
  rw [show Int32.ofNat 0 = (0 : Int32) from rfl] at e
  refine ⟨r', a', k', ?_⟩
  refine Eq.trans ?_ e
  simp (disch := omega) only [st_X10_tellFits_0, st_X10_tellFits_1, st_X10_tellFits_2, st_X10_tellFits_5, st_X10_tellFits_6, bM_some, hs_49_47, gM_hI49, lc_r, lc_i, Nat.reduceAdd]
  rw [gT_0]
theorem m_chalk_n (hx : ¬ (0 ≤ x.toInt ∧ x.toInt ≤ 2)) : bc (d + 1) M_X10_chalk none 0 [some (.ref 49), some (.int x)] [] (hp t (gM g w a k)) cn sn = some (.inl (some (.int 0)), hp t (gM (hI g 49 2 1) w a k), cn, sn) := by
  have e1 : bc d M_X10_isIn none 0 [some (.long x.toInt64), none, some (.long 0), none, some (.long (2 : Int64)), none] [] (hp t (gM (hI g 49 2 0) w a k)) 0 0 = some (.inl (some (.int 0)), hp t (gM (hI g 49 2 0) w a k), 0, 0) := m_isIn_n (by rw [Int32.toInt_toInt64]; exact hx)
  simp (disch := omega) only [st_X10_chalk_0, st_X10_chalk_1, st_X10_chalk_2, st_X10_chalk_5, st_X10_chalk_6, st_X10_chalk_7, st_X10_chalk_8, st_X10_chalk_14, st_X10_chalk_17, st_X10_chalk_18, st_X10_chalk_22, bM_some, hs_49_2, gM_hI49, st_X10_chalk_11 ps_, st_X10_chalk_19 (p := 49) hq_49 ps_, e1, m_fail, hI_hI, if_true, bC_inl, Option.toList, List.cons_append, List.nil_append, Nat.add_zero, Nat.reduceAdd]
set_option maxHeartbeats 4000000 in
theorem m_chalk_2 (hM : MK K N S D L g) (hK : KN K N S D L) (hO : KO K N S D L) (hq : q ≤ 8) (hH : g.1 49 35 = Int32.ofNat q) (hb : ∀ i, i < q → 1 ≤ (g.1 78 i).toInt ∧ (g.1 78 i).toInt ≤ 60) (hRI : RI K N S T w) (hT : T < 29900) : ∃ a' k' : Rw,
    bc (d + 5) M_X10_chalk none 0 [some (.ref 49), some (.int 2)] [] (hp t (gM g w a k)) cn sn = some (.inl (some (.int (b01 (fitL (minR K N D L) N w (g.1 78) (g.1 79) q 0)))), hp t (gM (gE (hI g 49 2 0) w) w a' k'), cn, sn) := by
  obtain ⟨a', k', e⟩ := m_isAsHeard (d := d) (t := t) (g := hI g 49 2 0) (w := w) (a := a) (k := k) (cn := 0) (sn := 0) (MK_hI (by omega) hM) hK hO hq hH hb hRI hT
  rw [show (hI g 49 2 0).1 78 = g.1 78 from rfl, show (hI g 49 2 0).1 79 = g.1 79 from rfl] at e
  refine ⟨a', k', ?_⟩
  have e1 : bc (d + 4) M_X10_isIn none 0 [some (.long ((2 : Int32).toInt64)), none, some (.long 0), none, some (.long (2 : Int64)), none] [] (hp t (gM (hI g 49 2 0) w a k)) 0 0 = some (.inl (some (.int 1)), hp t (gM (hI g 49 2 0) w a k), 0, 0) := m_isIn_y (by decide)
  cases h2 : fitL (minR K N D L) N w (g.1 78) (g.1 79) q 0 <;> rw [h2] at e <;>
  simp (disch := omega) only [st_X10_chalk_0, st_X10_chalk_1, st_X10_chalk_2, st_X10_chalk_5, bM_some, hs_49_2, gM_hI49, Nat.reduceAdd] <;>
  rw [st_X10_chalk_6, st_X10_chalk_7, st_X10_chalk_8, st_X10_chalk_11 ps_, e1] <;>
  simp (disch := omega) only [st_X10_chalk_14, st_X10_chalk_23, st_X10_chalk_24, st_X10_chalk_25, st_X10_chalk_28, st_X10_chalk_32, st_X10_chalk_35, st_X10_chalk_36, st_X10_chalk_39, st_X10_chalk_40, st_X10_chalk_29 (p := 49) hq_49 ps_, e, nn_one0, b01, cond_true, cond_false, if_true, if_false, bC_inl, Option.toList, List.cons_append, List.nil_append, Nat.add_zero, Nat.reduceAdd]
set_option maxHeartbeats 4000000 in
theorem m_chalk_01 (hM : MK K N S D L g) (hK : KN K N S D L) (hO : KO K N S D L) (hq : q ≤ 8) (hH : g.1 49 35 = Int32.ofNat q) (hb : ∀ i, i < q → 1 ≤ (g.1 78 i).toInt ∧ (g.1 78 i).toInt ≤ 60) (hRI : RI K N S T w) (hT : T < 29900) (hx : x = 0 ∨ x = 1) : ∃ r' a' k' : Rw,
    bc (d + 6) M_X10_chalk none 0 [some (.ref 49), some (.int x)] [] (hp t (gM g w a k)) cn sn = some (.inl (some (.int (if x = 0 then Int32.ofNat (foL (okF K N D L q w (g.1 78) (g.1 79)) w N 0 0 (g.1 81)).1 else if (foL (okF K N D L q w (g.1 78) (g.1 79)) w N 0 0 (g.1 81)).1 = 0 then -1 else (foL (okF K N D L q w (g.1 78) (g.1 79)) w N 0 0 (g.1 81)).2 0))), hp t (gM (gT (hI g 49 2 0) (foL (okF K N D L q w (g.1 78) (g.1 79)) w N 0 0 (g.1 81)).1 (foL (okF K N D L q w (g.1 78) (g.1 79)) w N 0 0 (g.1 81)).2 r') w a' k'), cn, sn) := by
  have h8 := hK.2.1
  obtain ⟨r', a', k', e⟩ := m_tellFits (d := d) (t := t) (g := hI g 49 2 0) (w := w) (a := a) (k := k) (cn := 0) (sn := 0) (MK_hI (by omega) hM) hK hO hq hH hb hRI hT
  rw [show (hI g 49 2 0).1 78 = g.1 78 from rfl, show (hI g 49 2 0).1 79 = g.1 79 from rfl, show (hI g 49 2 0).1 81 = g.1 81 from rfl] at e
  have hle := foL_le (w := w) (ok := okF K N D L q w (g.1 78) (g.1 79)) N 0 0 (g.1 81)
  generalize foL (okF K N D L q w (g.1 78) (g.1 79)) w N 0 0 (g.1 81) = F at e hle
  refine ⟨r', a', k', ?_⟩
  have e1 : bc (d + 5) M_X10_isIn none 0 [some (.long x.toInt64), none, some (.long 0), none, some (.long (2 : Int64)), none] [] (hp t (gM (hI g 49 2 0) w a k)) 0 0 = some (.inl (some (.int 1)), hp t (gM (hI g 49 2 0) w a k), 0, 0) := m_isIn_y (by rcases hx with h | h <;> subst h <;> decide)
  have hx2 : ¬ x = 2 := by rcases hx with h | h <;> subst h <;> decide
  have f81 : (gT (hI g 49 2 0) F.1 F.2 r').1 81 = F.2 := rfl
  have e0 : (Int32.ofNat F.1 = 0) = (F.1 = 0) := nn_e0 (by omega)
  by_cases h0 : x = 0
  · simp (disch := omega) only [st_X10_chalk_0, st_X10_chalk_1, st_X10_chalk_2, st_X10_chalk_5, st_X10_chalk_6, st_X10_chalk_7, st_X10_chalk_8, st_X10_chalk_14, st_X10_chalk_23, st_X10_chalk_24, st_X10_chalk_25, st_X10_chalk_41, st_X10_chalk_45, st_X10_chalk_46, st_X10_chalk_49, st_X10_chalk_50, st_X10_chalk_53, st_X10_chalk_73, st_X10_chalk_11 ps_, st_X10_chalk_42 (p := 49) hq_49 ps_, bM_some, hs_49_2, hg_49_47, gM_hI49, gM_49, gT_47, e1, e, hx2, eq_true h0, nn_one0, if_true, if_false, bC_inl, Option.toList, List.cons_append, List.nil_append, Nat.add_zero, Nat.reduceAdd]
  · by_cases h1 : F.1 = 0
    · simp (disch := omega) only [st_X10_chalk_0, st_X10_chalk_1, st_X10_chalk_2, st_X10_chalk_5, st_X10_chalk_6, st_X10_chalk_7, st_X10_chalk_8, st_X10_chalk_14, st_X10_chalk_23, st_X10_chalk_24, st_X10_chalk_25, st_X10_chalk_41, st_X10_chalk_45, st_X10_chalk_46, st_X10_chalk_56, st_X10_chalk_57, st_X10_chalk_60, st_X10_chalk_63, st_X10_chalk_64, st_X10_chalk_73, st_X10_chalk_11 ps_, st_X10_chalk_42 (p := 49) hq_49 ps_, bM_some, hs_49_2, hg_49_47, gM_hI49, gM_49, gT_47, e1, e, e0, hx2, h0, eq_true h1, nn_one0, if_true, if_false, bC_inl, Option.toList, List.cons_append, List.nil_append, Nat.add_zero, Nat.reduceAdd]
    · simp (disch := omega) only [st_X10_chalk_0, st_X10_chalk_1, st_X10_chalk_2, st_X10_chalk_5, st_X10_chalk_6, st_X10_chalk_7, st_X10_chalk_8, st_X10_chalk_14, st_X10_chalk_23, st_X10_chalk_24, st_X10_chalk_25, st_X10_chalk_41, st_X10_chalk_45, st_X10_chalk_46, st_X10_chalk_56, st_X10_chalk_57, st_X10_chalk_60, st_X10_chalk_67, st_X10_chalk_68, st_X10_chalk_71, st_X10_chalk_72, st_X10_chalk_73, st_X10_chalk_11 ps_, st_X10_chalk_42 (p := 49) hq_49 ps_, bM_some, hs_49_2, hg_49_46, hg_49_47, ha_81, gM_hI49, gM_49, gM_o, gT_47, f81, nn_oc0, nn_c0, cond_false, e1, e, e0, hx2, h0, h1, nn_one0, if_true, if_false, bC_inl, Option.toList, List.cons_append, List.nil_append, Nat.add_zero, Nat.reduceAdd]
end MCHALK
