/-! ===== the reference: the kitchen taken over, the evening opened ===== -/
/-- the row of an evening that begins -/
def opnR (P Q : Rw) (N : Nat) : Rw := fun i => if i < 8 then -1 else if i < 16 then 0 else if i < 24 then (if i - 16 < N then P (i - 16) else 0) else if i < 32 then (if i - 24 < N then Q (i - 24) else 0) else if i < 40 then 0 else if i < 53 then -1 else 0
section MTAKE
variable {d D : Nat} {t : List px_E} {g : hG} {n cn sn dep : Nat} {b r q : Rw} {x y : Int32} {σ σ' σ'' : Sg} {c N M k m T : Nat} {a1 : Option Value} {K : Kt}
set_option maxHeartbeats 4000000 in
theorem mo_1 (hN : N ≤ 8) : ∀ m i : Nat, i + m = 8 → ∀ g : hG, g.1 52 0 = Int32.ofNat N → ∃ g' : hG, g'.2 = g.2 ∧ (∀ c j, ¬ (64 ≤ c ∧ c ≤ 69 ∧ i ≤ j ∧ j < 8) → g'.1 c j = g.1 c j) ∧
    (∀ j, i ≤ j → j < 8 → g'.1 64 j = -1 ∧ g'.1 65 j = 0 ∧ g'.1 66 j = (if j < N then g.1 56 j else 0) ∧ g'.1 67 j = (if j < N then g.1 57 j else 0) ∧ g'.1 68 j = 0 ∧ g'.1 69 j = -1) ∧
    bc d M_X10_takeOver none 77 [some (.ref 49), some (.int (Int32.ofNat i))] [] (hp t g) cn sn = bc d M_X10_takeOver none 169 [some (.ref 49), some (.int (Int32.ofNat 8))] [] (hp t g') cn sn := by
  intro m
  induction m with
  | zero =>
    intro i hi g h52
    obtain rfl : i = 8 := by omega
    refine ⟨g, rfl, fun _ _ _ => rfl, fun j h1 h2 => by omega, ?_⟩
    rw [st_X10_takeOver_77]
    simp (disch := omega) only [st_X10_takeOver_78, st_X10_takeOver_80, nn_l8, Nat.lt_irrefl, if_false]
  | succ m ih =>
    intro i hi g h52
    have v0 : (0 : Int32).toNatClampNeg = 0 := by decide
    have o0 : px_out 0 8 = false := by decide
    obtain ⟨u, hu⟩ : ∃ u, u = if i < N then g.1 56 i else 0 := ⟨_, rfl⟩
    obtain ⟨v, hv⟩ : ∃ v, v = if i < N then g.1 57 i else 0 := ⟨_, rfl⟩
    obtain ⟨g1, hg1⟩ : ∃ g1 : hG, g1 = hI (hI (hI (hI (hI (hI g 64 i (-1)) 65 i 0) 66 i u) 67 i v) 68 i 0) 69 i (-1) := ⟨_, rfl⟩
    have fr : ∀ c j, ¬ (64 ≤ c ∧ c ≤ 69 ∧ j = i) → g1.1 c j = g.1 c j := fun c j hc => by
      rw [hg1, hI_ne (by omega), hI_ne (by omega), hI_ne (by omega), hI_ne (by omega), hI_ne (by omega), hI_ne (by omega)]
    have s64 : g1.1 64 i = -1 := by rw [hg1, hI_ne (by omega), hI_ne (by omega), hI_ne (by omega), hI_ne (by omega), hI_ne (by omega), hI_eq]
    have s65 : g1.1 65 i = 0 := by rw [hg1, hI_ne (by omega), hI_ne (by omega), hI_ne (by omega), hI_ne (by omega), hI_eq]
    have s66 : g1.1 66 i = u := by rw [hg1, hI_ne (by omega), hI_ne (by omega), hI_ne (by omega), hI_eq]
    have s67 : g1.1 67 i = v := by rw [hg1, hI_ne (by omega), hI_ne (by omega), hI_eq]
    have s68 : g1.1 68 i = 0 := by rw [hg1, hI_ne (by omega), hI_eq]
    have s69 : g1.1 69 i = -1 := by rw [hg1, hI_eq]
    obtain ⟨g', e2, fr', hh, e⟩ := ih (i + 1) (by omega) g1 (by rw [fr 52 0 (by omega)]; exact h52)
    refine ⟨g', by rw [e2, hg1]; rfl, fun c j hc => ?_, fun j h1 h2 => ?_, Eq.trans ?_ e⟩
    · rw [fr' c j (by omega), fr c j (by omega)]
    · by_cases hj : j = i
      · subst hj
        rw [fr' 64 j (by omega), fr' 65 j (by omega), fr' 66 j (by omega), fr' 67 j (by omega), fr' 68 j (by omega), fr' 69 j (by omega), s64, s65, s66, s67, s68, s69, hu, hv]
        exact ⟨rfl, rfl, rfl, rfl, rfl, rfl⟩
      · have := hh j (by omega) h2
        rw [fr 56 j (by omega), fr 57 j (by omega)] at this
        exact this
    · have q1 : (hI (hI g 64 i (-1)) 65 i 0).1 52 0 = Int32.ofNat N := h52
      have q2 : (hI (hI (hI g 64 i (-1)) 65 i 0) 66 i u).1 52 0 = Int32.ofNat N := h52
      have q3 : (hI (hI g 64 i (-1)) 65 i 0).1 56 i = g.1 56 i := rfl
      have q4 : (hI (hI (hI g 64 i (-1)) 65 i 0) 66 i u).1 57 i = g.1 57 i := rfl
      rw [hg1, st_X10_takeOver_77]
      by_cases hl : i < N
      · rw [if_pos hl] at hu hv
        rw [← hu] at q3
        rw [← hv] at q4
        simp (disch := omega) only [st_X10_takeOver_78, st_X10_takeOver_80, st_X10_takeOver_83, st_X10_takeOver_84, st_X10_takeOver_87, st_X10_takeOver_88, st_X10_takeOver_89, st_X10_takeOver_90, st_X10_takeOver_91, st_X10_takeOver_94, st_X10_takeOver_95, st_X10_takeOver_96, st_X10_takeOver_97, st_X10_takeOver_98, st_X10_takeOver_101, st_X10_takeOver_102, st_X10_takeOver_103, st_X10_takeOver_104, st_X10_takeOver_107, st_X10_takeOver_108, st_X10_takeOver_109, st_X10_takeOver_112, st_X10_takeOver_113, st_X10_takeOver_116, st_X10_takeOver_117, st_X10_takeOver_118, st_X10_takeOver_122, st_X10_takeOver_123, st_X10_takeOver_124, st_X10_takeOver_127, st_X10_takeOver_128, st_X10_takeOver_129, st_X10_takeOver_130, st_X10_takeOver_133, st_X10_takeOver_134, st_X10_takeOver_135, st_X10_takeOver_138, st_X10_takeOver_139, st_X10_takeOver_142, st_X10_takeOver_143, st_X10_takeOver_144, st_X10_takeOver_148, st_X10_takeOver_149, st_X10_takeOver_150, st_X10_takeOver_153, st_X10_takeOver_154, st_X10_takeOver_155, st_X10_takeOver_156, st_X10_takeOver_157, st_X10_takeOver_160, st_X10_takeOver_161, st_X10_takeOver_162, st_X10_takeOver_163, st_X10_takeOver_166, bM_some, hg_49_25, hg_49_26, hg_49_27, hg_49_28, hg_49_29, hg_49_30, hg_49_3, hg_49_7, hg_49_8, ha_52, ha_56, ha_57, hw_64, hw_65, hw_66, hw_67, hw_68, hw_69, nn_l8, show i < 8 by omega, if_true, v0, o0, q1, q2, q3, q4, nn_lt, hl, nn_out, nn_clamp, cond_false, lc_r, lc_i, nn_r1, Nat.reduceAdd]
      · rw [if_neg hl] at hu hv
        rw [hu] at q2 q4 ⊢
        rw [hv]
        simp (disch := omega) only [st_X10_takeOver_78, st_X10_takeOver_80, st_X10_takeOver_83, st_X10_takeOver_84, st_X10_takeOver_87, st_X10_takeOver_88, st_X10_takeOver_89, st_X10_takeOver_90, st_X10_takeOver_91, st_X10_takeOver_94, st_X10_takeOver_95, st_X10_takeOver_96, st_X10_takeOver_97, st_X10_takeOver_98, st_X10_takeOver_101, st_X10_takeOver_102, st_X10_takeOver_103, st_X10_takeOver_104, st_X10_takeOver_107, st_X10_takeOver_108, st_X10_takeOver_109, st_X10_takeOver_121, st_X10_takeOver_122, st_X10_takeOver_123, st_X10_takeOver_124, st_X10_takeOver_127, st_X10_takeOver_128, st_X10_takeOver_129, st_X10_takeOver_130, st_X10_takeOver_133, st_X10_takeOver_134, st_X10_takeOver_135, st_X10_takeOver_147, st_X10_takeOver_148, st_X10_takeOver_149, st_X10_takeOver_150, st_X10_takeOver_153, st_X10_takeOver_154, st_X10_takeOver_155, st_X10_takeOver_156, st_X10_takeOver_157, st_X10_takeOver_160, st_X10_takeOver_161, st_X10_takeOver_162, st_X10_takeOver_163, st_X10_takeOver_166, bM_some, hg_49_25, hg_49_26, hg_49_27, hg_49_28, hg_49_29, hg_49_30, hg_49_3, ha_52, hw_64, hw_65, hw_66, hw_67, hw_68, hw_69, nn_l8, show i < 8 by omega, if_true, if_false, v0, o0, q1, q2, nn_lt, hl, nn_out, nn_clamp, cond_false, lc_r, lc_i, nn_r1, Nat.reduceAdd]
set_option maxHeartbeats 4000000 in
theorem mo_2 : ∀ m i : Nat, i + m = 5 → ∀ g : hG, ∃ g' : hG, g'.2 = g.2 ∧ (∀ c j, ¬ (c = 70 ∧ i ≤ j ∧ j < 5) → g'.1 c j = g.1 c j) ∧ (∀ j, i ≤ j → j < 5 → g'.1 70 j = -1) ∧
    bc d M_X10_takeOver none 171 [some (.ref 49), some (.int (Int32.ofNat i))] [] (hp t g) cn sn = bc d M_X10_takeOver none 189 [some (.ref 49), some (.int (Int32.ofNat 5))] [] (hp t g') cn sn := by
  intro m
  induction m with
  | zero =>
    intro i hi g
    obtain rfl : i = 5 := by omega
    refine ⟨g, rfl, fun _ _ _ => rfl, fun j h1 h2 => by omega, ?_⟩
    rw [st_X10_takeOver_171]
    simp (disch := omega) only [st_X10_takeOver_172, st_X10_takeOver_173, nn_l5, Nat.lt_irrefl, if_false]
  | succ m ih =>
    intro i hi g
    obtain ⟨g', e2, fr', hh, e⟩ := ih (i + 1) (by omega) (hI g 70 i (-1))
    refine ⟨g', by rw [e2]; rfl, fun c j hc => ?_, fun j h1 h2 => ?_, Eq.trans ?_ e⟩
    · rw [fr' c j (by omega), hI_ne (by omega)]
    · by_cases hj : j = i
      · subst hj; rw [fr' 70 j (by omega), hI_eq]
      · exact hh j (by omega) h2
    · rw [st_X10_takeOver_171]
      simp (disch := omega) only [st_X10_takeOver_172, st_X10_takeOver_173, st_X10_takeOver_176, st_X10_takeOver_177, st_X10_takeOver_180, st_X10_takeOver_181, st_X10_takeOver_182, st_X10_takeOver_183, st_X10_takeOver_186, bM_some, hg_49_31, hw_70, nn_l5, show i < 5 by omega, if_true, nn_out, nn_clamp, cond_false, lc_r, lc_i, nn_r1, Nat.reduceAdd]
set_option maxHeartbeats 8000000 in
theorem m_take (hN : N ≤ 8) (h52 : g.1 52 4 = Int32.ofNat N) : ∃ g' : hG, g'.2 = g.2 ∧ (∀ c, ¬ c = 49 → ¬ (52 ≤ c ∧ c ≤ 61) → ¬ (64 ≤ c ∧ c ≤ 70) → g'.1 c = g.1 c) ∧
    (∀ j, ¬ (j = 33 ∨ j = 34 ∨ j = 35 ∨ j = 50) → g'.1 49 j = g.1 49 j) ∧ g'.1 49 33 = 0 ∧ g'.1 49 34 = 0 ∧ g'.1 49 35 = 0 ∧ g'.1 49 50 = 0 ∧
    g'.1 52 = thR 4 4 (g.1 52) ∧ g'.1 53 = thR 8 8 (g.1 53) ∧ g'.1 54 = thR 8 8 (g.1 54) ∧ g'.1 55 = thR 8 8 (g.1 55) ∧ g'.1 56 = thR 8 8 (g.1 56) ∧ g'.1 57 = thR 8 8 (g.1 57) ∧ g'.1 58 = thR 4 4 (g.1 58) ∧ g'.1 59 = thR 5 5 (g.1 59) ∧ g'.1 60 = thR 15 15 (g.1 60) ∧ g'.1 61 = thR 600 600 (g.1 61) ∧
    mrow g' = opnR (fun j => g.1 56 (8 + j)) (fun j => g.1 57 (8 + j)) N ∧
    bc (d + 1) M_X10_takeOver none 0 [some (.ref 49), none] [] (hp t g) cn sn = some (.inl none, hp t g', cn, sn) := by
  obtain ⟨g1, hg1⟩ : ∃ g1 : hG, g1 = hR (hR (hR (hR (hR (hR (hR (hR (hR (hR g 52 (thR 4 4 (g.1 52))) 53 (thR 8 8 (g.1 53))) 54 (thR 8 8 (g.1 54))) 55 (thR 8 8 (g.1 55))) 56 (thR 8 8 (g.1 56))) 57 (thR 8 8 (g.1 57))) 58 (thR 4 4 (g.1 58))) 59 (thR 5 5 (g.1 59))) 60 (thR 15 15 (g.1 60))) 61 (thR 600 600 (g.1 61)) := ⟨_, rfl⟩
  obtain ⟨g2, hg2⟩ : ∃ g2 : hG, g2 = hI g1 49 33 0 := ⟨_, rfl⟩
  have k52 : g2.1 52 0 = Int32.ofNat N := by rw [hg2, hg1]; exact h52
  obtain ⟨g3, z3, fr3, hh3, e3⟩ := mo_1 (d := d + 1) (t := t) (cn := cn) (sn := sn) hN 8 0 (by omega) g2 k52
  obtain ⟨g4, z4, fr4, hh4, e4⟩ := mo_2 (d := d + 1) (t := t) (cn := cn) (sn := sn) 5 0 (by omega) g3
  have fr : ∀ c, ¬ (64 ≤ c ∧ c ≤ 70) → g4.1 c = g2.1 c := fun c hc => funext fun j => by rw [fr4 c j (by omega), fr3 c j (by omega)]
  refine ⟨hI (hI (hI g4 49 34 0) 49 35 0) 49 50 0, ?_, fun c h1 h2 h3 => ?_, fun j hj => ?_, ?_, ?_, ?_, ?_, ?_, ?_, ?_, ?_, ?_, ?_, ?_, ?_, ?_, ?_, ?_, ?_⟩
  · show g4.2 = g.2
    rw [z4, z3, hg2, hg1]; rfl
  · funext j
    rw [hI_ne (by omega), hI_ne (by omega), hI_ne (by omega), fr c (by omega), hg2, hI_ne (by omega), hg1, hR_oth (by omega), hR_oth (by omega), hR_oth (by omega), hR_oth (by omega), hR_oth (by omega), hR_oth (by omega), hR_oth (by omega), hR_oth (by omega), hR_oth (by omega), hR_oth (by omega)]
  · rw [hI_ne (by omega), hI_ne (by omega), hI_ne (by omega), fr 49 (by omega), hg2, hI_ne (by omega), hg1]; rfl
  · rw [hI_ne (by omega), hI_ne (by omega), hI_ne (by omega), fr 49 (by omega), hg2, hI_eq]
  · rw [hI_ne (by omega), hI_ne (by omega), hI_eq]
  · rw [hI_ne (by omega), hI_eq]
  · rw [hI_eq]
  · show g4.1 52 = _
    rw [fr 52 (by omega), hg2, hg1]; rfl
  · show g4.1 53 = _
    rw [fr 53 (by omega), hg2, hg1]; rfl
  · show g4.1 54 = _
    rw [fr 54 (by omega), hg2, hg1]; rfl
  · show g4.1 55 = _
    rw [fr 55 (by omega), hg2, hg1]; rfl
  · show g4.1 56 = _
    rw [fr 56 (by omega), hg2, hg1]; rfl
  · show g4.1 57 = _
    rw [fr 57 (by omega), hg2, hg1]; rfl
  · show g4.1 58 = _
    rw [fr 58 (by omega), hg2, hg1]; rfl
  · show g4.1 59 = _
    rw [fr 59 (by omega), hg2, hg1]; rfl
  · show g4.1 60 = _
    rw [fr 60 (by omega), hg2, hg1]; rfl
  · show g4.1 61 = _
    rw [fr 61 (by omega), hg2, hg1]; rfl
  · have p56 : ∀ j, j < 8 → g2.1 56 j = g.1 56 (8 + j) := fun j hj => by rw [hg2, hg1]; exact if_pos hj
    have p57 : ∀ j, j < 8 → g2.1 57 j = g.1 57 (8 + j) := fun j hj => by rw [hg2, hg1]; exact if_pos hj
    have c33 : g4.1 49 33 = 0 := by rw [fr 49 (by omega), hg2, hI_eq]
    funext i
    unfold mrow
    unfold opnR
    by_cases h48 : i < 48
    · rw [if_pos h48]
      obtain ⟨q1, q2, q3, q4, q5, q6⟩ := hh3 (i % 8) (by omega) (by omega)
      rw [hI_ne (by omega), hI_ne (by omega), hI_ne (by omega), fr4 _ _ (by omega)]
      by_cases h8 : i < 8
      · rw [if_pos h8, show 64 + i / 8 = 64 by omega]; exact q1
      · rw [if_neg h8]
        by_cases h16 : i < 16
        · rw [if_pos h16, show 64 + i / 8 = 65 by omega]; exact q2
        · rw [if_neg h16]
          by_cases h24 : i < 24
          · rw [if_pos h24, show 64 + i / 8 = 66 by omega, q3, p56 _ (by omega), show i % 8 = i - 16 by omega]
          · rw [if_neg h24]
            by_cases h32 : i < 32
            · rw [if_pos h32, show 64 + i / 8 = 67 by omega, q4, p57 _ (by omega), show i % 8 = i - 24 by omega]
            · rw [if_neg h32]
              by_cases h40 : i < 40
              · rw [if_pos h40, show 64 + i / 8 = 68 by omega]; exact q5
              · rw [if_neg h40, if_pos (by omega), show 64 + i / 8 = 69 by omega]; exact q6
    · rw [if_neg h48, if_neg (show ¬ i < 8 by omega), if_neg (show ¬ i < 16 by omega), if_neg (show ¬ i < 24 by omega), if_neg (show ¬ i < 32 by omega), if_neg (show ¬ i < 40 by omega)]
      by_cases h53 : i < 53
      · rw [if_pos h53, if_pos h53, hI_ne (by omega), hI_ne (by omega), hI_ne (by omega)]; exact hh4 _ (by omega) (by omega)
      · rw [if_neg h53, if_neg h53]
        by_cases e53 : i = 53
        · rw [if_pos e53, hI_ne (by omega), hI_ne (by omega), hI_ne (by omega)]; exact c33
        · rw [if_neg e53]
  · have f1 : bc (d + 1) M_X10_takeOver none 0 [some (.ref 49), none] [] (hp t g) cn sn = bc (d + 1) M_X10_takeOver none 77 [some (.ref 49), some (.int (Int32.ofNat 0))] [] (hp t g2) cn sn := by
      rw [hg2, hg1]
      simp (disch := omega) only [st_X10_takeOver_0, st_X10_takeOver_1, st_X10_takeOver_7, st_X10_takeOver_8, st_X10_takeOver_14, st_X10_takeOver_15, st_X10_takeOver_21, st_X10_takeOver_22, st_X10_takeOver_28, st_X10_takeOver_29, st_X10_takeOver_35, st_X10_takeOver_36, st_X10_takeOver_42, st_X10_takeOver_43, st_X10_takeOver_49, st_X10_takeOver_50, st_X10_takeOver_56, st_X10_takeOver_57, st_X10_takeOver_63, st_X10_takeOver_64, st_X10_takeOver_70, st_X10_takeOver_71, st_X10_takeOver_72, st_X10_takeOver_75, st_X10_takeOver_76, st_X10_takeOver_4 ps_, st_X10_takeOver_11 ps_, st_X10_takeOver_18 ps_, st_X10_takeOver_25 ps_, st_X10_takeOver_32 ps_, st_X10_takeOver_39 ps_, st_X10_takeOver_46 ps_, st_X10_takeOver_53 ps_, st_X10_takeOver_60 ps_, st_X10_takeOver_67 ps_, bM_some, hg_49_3, hg_49_4, hg_49_5, hg_49_6, hg_49_7, hg_49_8, hg_49_9, hg_49_10, hg_49_11, hg_49_12, hs_49_33, th_52, th_53, th_54, th_55, th_56, th_57, th_58, th_59, th_60, th_61, bC_inl, Option.toList, List.nil_append, Nat.add_zero, lc_r, lc_i, lc_n, Nat.reduceAdd]
      rfl
    refine f1.trans (e3.trans ?_)
    have f2 : bc (d + 1) M_X10_takeOver none 169 [some (.ref 49), some (.int (Int32.ofNat 8))] [] (hp t g3) cn sn = bc (d + 1) M_X10_takeOver none 171 [some (.ref 49), some (.int (Int32.ofNat 0))] [] (hp t g3) cn sn := by
      simp (disch := omega) only [st_X10_takeOver_169, st_X10_takeOver_170, lc_r]
      rfl
    refine f2.trans (e4.trans ?_)
    simp (disch := omega) only [st_X10_takeOver_189, st_X10_takeOver_190, st_X10_takeOver_191, st_X10_takeOver_194, st_X10_takeOver_195, st_X10_takeOver_196, st_X10_takeOver_199, st_X10_takeOver_200, st_X10_takeOver_201, st_X10_takeOver_204, bM_some, hs_49_34, hs_49_35, hs_49_50_0, Nat.reduceAdd]
end MTAKE
