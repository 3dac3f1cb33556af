/-! ===== the reference: is it as heard ===== -/
def lastN (hm : Rw) : Nat → Nat
  | 0 => 0
  | m + 1 => max (lastN hm m) (hm m).toNatClampNeg
def inL (N : Nat) (row hm hn : Rw) (i : Nat) : Nat → Nat → Bool → Bool
  | 0, _, b => b
  | m + 1, c, b => inL N row hm hn i m (c + 1) (b && (!decide (hm c = Int32.ofNat i) || hAt N row (hn c)))
def outL (f : Rw → Rw) (N : Nat) (hm hn : Rw) (q : Nat) : Nat → Nat → Rw → Bool → Bool
  | 0, _, _, b => b
  | m + 1, i, w, b => if b then outL f N hm hn q m (i + 1) (f w) (inL N (f w) hm hn i q 0 true) else false
section MEAR
variable {d : Nat} {t : List px_E} {g : hG} {j q N S D L T cn sn : Nat} {w a k hm hn : Rw} {x y : Int32} {K : Kt}
theorem max_nat {a : Nat} (ha : a < 1000) (hx : 0 ≤ x.toInt) (hx2 : x.toInt ≤ 60) : px_max (Int32.ofNat a) x = Int32.ofNat (max a x.toNatClampNeg) := by
  have e := ii_clamp (a := x)
  rw [ii_eq, px_max_i, ii_ofNat (by omega), ii_ofNat (by omega)]
  omega
theorem lastN_le (hb : ∀ i, i < q → 1 ≤ (hm i).toInt ∧ (hm i).toInt ≤ 60) : ∀ m : Nat, m ≤ q → lastN hm m ≤ 60 ∧ ∀ i, i < m → (hm i).toNatClampNeg ≤ lastN hm m := by
  intro m
  induction m with
  | zero => intro _; exact ⟨Nat.zero_le _, fun i hi => absurd hi (Nat.not_lt_zero _)⟩
  | succ m ih =>
    intro h
    obtain ⟨i1, i2⟩ := ih (by omega)
    have hbm := hb m (by omega)
    have e := ii_clamp (a := hm m)
    unfold lastN
    refine ⟨by omega, fun i hi => ?_⟩
    by_cases c : i = m
    · rw [c]; omega
    · have := i2 i (by omega); omega
set_option maxHeartbeats 2000000 in
theorem m_ash_1 (hq : q ≤ 8) (hH : g.1 49 35 = Int32.ofNat q) (hb : ∀ i, i < q → 1 ≤ (g.1 78 i).toInt ∧ (g.1 78 i).toInt ≤ 60) : ∀ m i : Nat, i + m = q → ∃ b2 : Option Value,
    bc (d + 1) M_X10_isAsHeard none 13 [some (.ref 49), some (.int (Int32.ofNat (lastN (g.1 78) i))), some (.int (Int32.ofNat i)), none, none] [] (hp t (gM g w a k)) cn sn =
    bc (d + 1) M_X10_isAsHeard none 38 [some (.ref 49), some (.int (Int32.ofNat (lastN (g.1 78) q))), b2, none, none] [] (hp t (gM g w a k)) cn sn := by
  intro m
  induction m with
  | zero =>
    intro i hi
    obtain rfl : i = q := by omega
    refine ⟨some (.int (Int32.ofNat i)), ?_⟩
    rw [st_X10_isAsHeard_13]
    simp (disch := omega) only [st_X10_isAsHeard_14, st_X10_isAsHeard_15, st_X10_isAsHeard_18, bM_some, hg_49_35, gM_49, hH, nn_lt, Nat.lt_irrefl, if_false, Nat.reduceAdd]
  | succ m ih =>
    intro i hi
    obtain ⟨b2, e⟩ := ih (i + 1) (by omega)
    refine ⟨b2, ?_⟩
    have hbi := hb i (by omega)
    have hl := (lastN_le hb i (by omega)).1
    rw [← e, show lastN (g.1 78) (i + 1) = max (lastN (g.1 78) i) (g.1 78 i).toNatClampNeg from rfl, st_X10_isAsHeard_13]
    simp (disch := omega) only [st_X10_isAsHeard_14, st_X10_isAsHeard_15, st_X10_isAsHeard_18, st_X10_isAsHeard_21, st_X10_isAsHeard_22, st_X10_isAsHeard_23, st_X10_isAsHeard_26, st_X10_isAsHeard_27, st_X10_isAsHeard_28, st_X10_isAsHeard_31, st_X10_isAsHeard_32, st_X10_isAsHeard_35, bM_some, bP_some, m2_, hg_49_35, hg_49_43, ha_78, cond_false, gM_49, gM_o, hH, nn_lt, show i < q by omega, if_true, nn_out, nn_clamp, max_nat (a := lastN (g.1 78) i) (by omega) (by omega) hbi.2, lc_r, lc_i, Nat.reduceAdd, nn_r1]
set_option maxHeartbeats 4000000 in
theorem m_ash_3 (hM : MK K N S D L g) (hK : KN K N S D L) (hq : q ≤ 8) (hH : g.1 49 35 = Int32.ofNat q) {i l : Nat} (hi : i < 1000) : ∀ m c : Nat, c + m = q → ∀ b : Bool, ∃ b4 : Option Value,
    bc (d + 1) M_X10_isAsHeard none 58 [some (.ref 49), some (.int (Int32.ofNat l)), some (.int (b01 b)), some (.int (Int32.ofNat i)), some (.int (Int32.ofNat c))] [] (hp t (gM g w a k)) cn sn =
    bc (d + 1) M_X10_isAsHeard none 129 [some (.ref 49), some (.int (Int32.ofNat l)), some (.int (b01 (inL N w (g.1 78) (g.1 79) i m c b))), some (.int (Int32.ofNat i)), b4] [] (hp t (gM g w a k)) cn sn := by
  have h8 := hK.2.1
  intro m
  induction m with
  | zero =>
    intro c hc b
    refine ⟨some (.int (Int32.ofNat c)), ?_⟩
    rw [st_X10_isAsHeard_58]
    simp (disch := omega) only [st_X10_isAsHeard_60, st_X10_isAsHeard_61, st_X10_isAsHeard_64, bM_some, hg_49_35, gM_49, hH, nn_lt, show ¬ c < q by omega, if_false, inL, Nat.reduceAdd]
  | succ m ih =>
    intro c hc b
    obtain ⟨b4, e⟩ := ih (c + 1) (by omega) (b && (!decide (g.1 78 c = Int32.ofNat i) || hAt N w (g.1 79 c)))
    refine ⟨b4, ?_⟩
    rw [show inL N w (g.1 78) (g.1 79) i (m + 1) c b = inL N w (g.1 78) (g.1 79) i m (c + 1) (b && (!decide (g.1 78 c = Int32.ofNat i) || hAt N w (g.1 79 c))) from rfl, ← e, st_X10_isAsHeard_58]
    cases b with
    | false =>
      simp (disch := omega) only [st_X10_isAsHeard_60, st_X10_isAsHeard_61, st_X10_isAsHeard_64, st_X10_isAsHeard_67, st_X10_isAsHeard_68, st_X10_isAsHeard_121, st_X10_isAsHeard_122, st_X10_isAsHeard_123, st_X10_isAsHeard_126, bM_some, hg_49_35, gM_49, hH, nn_lt, show c < q by omega, if_true, b01, cond_false, Bool.false_and, lc_r, lc_i, Nat.reduceAdd, nn_r1]
    | true =>
      rw [Bool.true_and]
      by_cases h1 : g.1 78 c = Int32.ofNat i
      · rw [decide_eq_true h1, Bool.not_true, Bool.false_or]
        unfold hAt
        by_cases h2 : g.1 79 c = -1
        · rw [if_pos h2]
          have s1 := setN_le (bS w) (n := 8) h8
          have cs := cnt_set (bS w) N
          by_cases h3 : setN (bS w) N = 0
          · rw [show sang N w = false by unfold sang; rw [decide_eq_true (cs.mpr h3)]; rfl, Bool.not_false]
            simp (disch := omega) only [st_X10_isAsHeard_60, st_X10_isAsHeard_61, st_X10_isAsHeard_64, st_X10_isAsHeard_67, st_X10_isAsHeard_68, st_X10_isAsHeard_71, st_X10_isAsHeard_72, st_X10_isAsHeard_75, st_X10_isAsHeard_77, st_X10_isAsHeard_78, st_X10_isAsHeard_79, st_X10_isAsHeard_82, st_X10_isAsHeard_83, st_X10_isAsHeard_86, st_X10_isAsHeard_88, st_X10_isAsHeard_89, st_X10_isAsHeard_90, st_X10_isAsHeard_93, st_X10_isAsHeard_97, st_X10_isAsHeard_100, st_X10_isAsHeard_117, st_X10_isAsHeard_118, st_X10_isAsHeard_122, st_X10_isAsHeard_123, st_X10_isAsHeard_126, st_X10_isAsHeard_94 (p := 49) hq_49 ps_, bM_some, hg_49_35, hg_49_43, hg_49_44, ha_78, ha_79, cond_false, gM_49, gM_o, hH, nn_lt, show c < q by omega, if_true, if_false, nn_one0, nn_out, nn_clamp, h1, h2, h3, nn_e0, m_singers hM hK, b01, cond_true, bC_inl, Option.toList, List.cons_append, List.nil_append, Nat.add_zero, lc_r, lc_i, Nat.reduceAdd, nn_r1]
          · rw [show sang N w = true by unfold sang; rw [decide_eq_false (fun z => h3 (cs.mp z))]; rfl, Bool.not_true]
            simp (disch := omega) only [st_X10_isAsHeard_60, st_X10_isAsHeard_61, st_X10_isAsHeard_64, st_X10_isAsHeard_67, st_X10_isAsHeard_68, st_X10_isAsHeard_71, st_X10_isAsHeard_72, st_X10_isAsHeard_75, st_X10_isAsHeard_77, st_X10_isAsHeard_78, st_X10_isAsHeard_79, st_X10_isAsHeard_82, st_X10_isAsHeard_83, st_X10_isAsHeard_86, st_X10_isAsHeard_88, st_X10_isAsHeard_89, st_X10_isAsHeard_90, st_X10_isAsHeard_93, st_X10_isAsHeard_97, st_X10_isAsHeard_121, st_X10_isAsHeard_122, st_X10_isAsHeard_123, st_X10_isAsHeard_126, st_X10_isAsHeard_94 (p := 49) hq_49 ps_, bM_some, hg_49_35, hg_49_43, hg_49_44, ha_78, ha_79, cond_false, gM_49, gM_o, hH, nn_lt, show c < q by omega, if_true, if_false, nn_one0, nn_out, nn_clamp, h1, h2, h3, nn_e0, m_singers hM hK, b01, cond_true, bC_inl, Option.toList, List.cons_append, List.nil_append, Nat.add_zero, lc_r, lc_i, Nat.reduceAdd, nn_r1]
        · rw [if_neg h2]
          rcases sungR_01 (w := w) (g.1 79 c) N 0 with h3 | h3
          · rw [h3, show decide ((0 : Int32) = 1) = false by decide]
            simp (disch := omega) only [st_X10_isAsHeard_60, st_X10_isAsHeard_61, st_X10_isAsHeard_64, st_X10_isAsHeard_67, st_X10_isAsHeard_68, st_X10_isAsHeard_71, st_X10_isAsHeard_72, st_X10_isAsHeard_75, st_X10_isAsHeard_77, st_X10_isAsHeard_78, st_X10_isAsHeard_79, st_X10_isAsHeard_82, st_X10_isAsHeard_83, st_X10_isAsHeard_86, st_X10_isAsHeard_88, st_X10_isAsHeard_89, st_X10_isAsHeard_90, st_X10_isAsHeard_103, st_X10_isAsHeard_104, st_X10_isAsHeard_105, st_X10_isAsHeard_108, st_X10_isAsHeard_110, st_X10_isAsHeard_114, st_X10_isAsHeard_121, st_X10_isAsHeard_122, st_X10_isAsHeard_123, st_X10_isAsHeard_126, st_X10_isAsHeard_111 (p := 49) hq_49 ps_, bM_some, hg_49_35, hg_49_43, hg_49_44, ha_78, ha_79, cond_false, gM_49, gM_o, hH, nn_lt, show c < q by omega, if_true, if_false, nn_one0, nn_out, nn_clamp, h1, h2, h3, m_isSung hM hK, b01, cond_true, bC_inl, Option.toList, List.cons_append, List.nil_append, Nat.add_zero, lc_r, lc_i, Nat.reduceAdd, nn_r1]
          · rw [h3, show decide ((1 : Int32) = 1) = true by decide]
            simp (disch := omega) only [st_X10_isAsHeard_60, st_X10_isAsHeard_61, st_X10_isAsHeard_64, st_X10_isAsHeard_67, st_X10_isAsHeard_68, st_X10_isAsHeard_71, st_X10_isAsHeard_72, st_X10_isAsHeard_75, st_X10_isAsHeard_77, st_X10_isAsHeard_78, st_X10_isAsHeard_79, st_X10_isAsHeard_82, st_X10_isAsHeard_83, st_X10_isAsHeard_86, st_X10_isAsHeard_88, st_X10_isAsHeard_89, st_X10_isAsHeard_90, st_X10_isAsHeard_103, st_X10_isAsHeard_104, st_X10_isAsHeard_105, st_X10_isAsHeard_108, st_X10_isAsHeard_110, st_X10_isAsHeard_114, st_X10_isAsHeard_117, st_X10_isAsHeard_118, st_X10_isAsHeard_122, st_X10_isAsHeard_123, st_X10_isAsHeard_126, st_X10_isAsHeard_111 (p := 49) hq_49 ps_, bM_some, hg_49_35, hg_49_43, hg_49_44, ha_78, ha_79, cond_false, gM_49, gM_o, hH, nn_lt, show c < q by omega, if_true, if_false, nn_one0, nn_out, nn_clamp, h1, h2, h3, m_isSung hM hK, b01, cond_true, bC_inl, Option.toList, List.cons_append, List.nil_append, Nat.add_zero, lc_r, lc_i, Nat.reduceAdd, nn_r1]
      · rw [decide_eq_false h1, Bool.not_false, Bool.true_or]
        simp (disch := omega) only [st_X10_isAsHeard_60, st_X10_isAsHeard_61, st_X10_isAsHeard_64, st_X10_isAsHeard_67, st_X10_isAsHeard_68, st_X10_isAsHeard_71, st_X10_isAsHeard_72, st_X10_isAsHeard_75, st_X10_isAsHeard_77, st_X10_isAsHeard_78, st_X10_isAsHeard_79, st_X10_isAsHeard_117, st_X10_isAsHeard_118, st_X10_isAsHeard_122, st_X10_isAsHeard_123, st_X10_isAsHeard_126, bM_some, hg_49_35, hg_49_43, ha_78, cond_false, gM_49, gM_o, hH, nn_lt, show c < q by omega, if_true, if_false, nn_one0, nn_out, nn_clamp, h1, b01, cond_true, lc_r, lc_i, Nat.reduceAdd, nn_r1]
end MEAR
