/-! ===== the reference: a minute ===== -/
/-- what holds of a row: stoves, heat, fill, chalk, notes; the minute is from 0 to T -/
def RI (K : Kt) (N S T : Nat) (w : Rw) : Prop := (∀ j, j < N → (w j = -1 ∨ (0 ≤ (w j).toInt ∧ (w j).toInt < S)) ∧ (0 ≤ (w (8 + j)).toInt ∧ (w (8 + j)).toInt ≤ 150) ∧ (0 ≤ (w (16 + j)).toInt ∧ (w (16 + j)).toInt ≤ (K 2 j).toInt) ∧ (0 ≤ (w (24 + j)).toInt ∧ (w (24 + j)).toInt ≤ 9) ∧ (-1 ≤ (w (40 + j)).toInt ∧ (w (40 + j)).toInt ≤ 60)) ∧ 0 ≤ (w 53).toInt ∧ (w 53).toInt ≤ T
/-- what holds of a kitchen -/
def KO (K : Kt) (N S D L : Nat) : Prop := (∀ j, j < N → (1 ≤ (K 2 j).toInt ∧ (K 2 j).toInt ≤ 40) ∧ (1 ≤ (K 1 j).toInt ∧ (K 1 j).toInt ≤ 24)) ∧ (∀ j, j < S → 1 ≤ (K 5 j).toInt ∧ (K 5 j).toInt ≤ 40) ∧ (∀ d, d < D → 1 ≤ (K 6 d).toNatClampNeg ∧ (K 6 d).toNatClampNeg ≤ 3 ∧ (∀ i, i < (K 6 d).toNatClampNeg → 1 ≤ (K 7 (d * 3 + i)).toInt ∧ (K 7 (d * 3 + i)).toInt ≤ 24) ∧ ∀ i i', i < i' → i' < (K 6 d).toNatClampNeg → ¬ K 7 (d * 3 + i) = K 7 (d * 3 + i')) ∧ (L = 0 ∨ okC (K 8) L 0 0)
def chordV (K : Kt) (w : Rw) (N dd M : Nat) : Nat → Nat → Int32
  | 0, _ => 0
  | m + 1, v => if chordB w N (fun i => K 7 (dd * 3 + i)) (Int32.ofNat v) M 0 (sungR w (Int32.ofNat v) N 0) = 0 then chordV K w N dd M m (v + 1) else 1
def readyM (K : Kt) (N dd m v : Nat) (w : Rw) : Rw := if w (48 + dd) = -1 then (if chordV K w N dd (K 6 dd).toNatClampNeg m v = 0 then w else upd w (48 + dd) (w 53)) else w
def cookM (K : Kt) (L N : Nat) : Nat → Nat → Rw × Rw × Rw → Rw × Rw × Rw
  | 0, _, q => q
  | m + 1, j, q =>
    if q.1 j = -1 then cookM K L N m (j + 1) q
    else cookM K L N m (j + 1) ((if 0 < givV (givA (K 8) (lookM q.1 N j q.2.1) L 0 0 q.2.2) then upd q.1 j (-1) else q.1), lookM q.1 N j q.2.1, (givA (K 8) (lookM q.1 N j q.2.1) L 0 0 q.2.2).2)
def loseL (N : Nat) (w : Rw) : Rw := loopR (fun j w => if w 53 - w 53 / 3 * 3 = 0 then boilR j w else w) N 0 w
def minM (K : Kt) (N D L : Nat) (w a k : Rw) : Rw × Rw × Rw :=
  let w4 := loseL N (loopR (fun dd => readyM K N dd 61 0) D 0 (loopR (voiceR K) N 0 (warmL K N w)))
  let c := if L = 0 then (w4, a, k) else cookM K L N N 0 (w4, a, k)
  (upd c.1 53 (c.1 53 + 1), c.2)
section MMIN
variable {d : Nat} {t : List px_E} {g : hG} {h : px_H} {j N S D L T cn sn : Nat} {w a k : Rw} {x y z : Int32} {K : Kt}
theorem massR_pos (hf : 0 ≤ (w (16 + j)).toInt) (hf2 : (w (16 + j)).toInt ≤ 40) : 0 < massR K j w ∧ ¬ massR K j w = 0 := by
  unfold massR
  have key : ∀ c : Int32, (c = 10 ∨ c = 5) → 0 < w (16 + j) + c ∧ ¬ w (16 + j) + c = 0 := by
    intro c hc
    have e : (w (16 + j) + c).toInt = (w (16 + j)).toInt + c.toInt := by
      rcases hc with hc | hc <;> subst hc <;> rw [ii_add] <;> simp only [ti_5, ti_10] <;> omega
    rw [ii_lt, ii_eq, e, ti_0]
    rcases hc with hc | hc <;> subst hc <;> simp only [ti_5, ti_10] <;> omega
  split
  · exact key 10 (Or.inl rfl)
  · exact key 5 (Or.inr rfl)
theorem hot_warm (hf : 0 ≤ (w (16 + j)).toInt) (hf2 : (w (16 + j)).toInt ≤ 40) (hp : ¬ x = 0) : upd w (8 + j) (hotR K j x w) = warmR K x j w := by
  unfold hotR warmR gainR
  rw [if_neg hp]
  have := (massR_pos (K := K) hf hf2).1
  unfold massR at this ⊢
  rw [if_pos this]
theorem cold_warm : upd w (8 + j) (coldR K j w) = warmR K 0 j w := by
  unfold coldR warmR
  rw [if_pos rfl]
set_option maxHeartbeats 4000000 in
theorem m_min_1 (hM : MK K N S D L g) (hK : KN K N S D L) (hO : KO K N S D L) : ∀ m j : Nat, j + m = N → ∀ (w : Rw) (a2 : Option Value), (∀ i, i < N → (w i = -1 ∨ (0 ≤ (w i).toInt ∧ (w i).toInt < S)) ∧ 0 ≤ (w (16 + i)).toInt ∧ (w (16 + i)).toInt ≤ 40) → ∃ b1 b2 : Option Value,
    bc (d + 2) M_X10_aMinute none 2 [some (.ref 49), some (.int (Int32.ofNat j)), a2] [] (hp t (gM g w a k)) cn sn =
    bc (d + 2) M_X10_aMinute none 58 [some (.ref 49), b1, b2] [] (hp t (gM g (loopR (fun j w => warmR K (powerR K (w j)) j w) m j w) a k)) cn sn := by
  have h8 := hK.2.1
  have h4 := hK.2.2.2.1
  have hS := hK.2.2.1
  intro m
  induction m with
  | zero =>
    intro j hj w a2 hw
    refine ⟨some (.int (Int32.ofNat j)), a2, ?_⟩
    rw [st_X10_aMinute_2]
    simp (disch := omega) only [st_X10_aMinute_3, st_X10_aMinute_4, st_X10_aMinute_7, st_X10_aMinute_8, st_X10_aMinute_9, bM_some, hg_49_3, ha_52, cond_false, nn_1, nn_8, nn_16, nn_24, nn_32, nn_40, nn_48, nn_suc, nn_out, nn_clamp, Int32.zero_add, gM_64, gM_65, gM_66, gM_67, gM_68, gM_69, gM_70, gM_33, gM_72, gM_73, gM_o, gM_49, gMw_64, gMw_65, gMw_66, gMw_67, gMw_68, gMw_69, gMw_70, gMw_33, gMw_72, gMw_73, Nat.zero_add, dv_5, dv_10, dv_3, dv_2, ne_eq, not_false_eq_true, if_false, in_m1, nn_oc0, nn_c0, hM.n hK, nn_lt, show ¬ j < N by omega, loopR, Nat.reduceAdd]
  | succ m ih =>
    intro j hj w a2 hw
    have hjN : j < N := by omega
    obtain ⟨ho, hf, hf2⟩ := hw j hjN
    have hw' : ∀ i, i < N → (warmR K (powerR K (w j)) j w i = -1 ∨ (0 ≤ (warmR K (powerR K (w j)) j w i).toInt ∧ (warmR K (powerR K (w j)) j w i).toInt < S)) ∧ 0 ≤ (warmR K (powerR K (w j)) j w (16 + i)).toInt ∧ (warmR K (powerR K (w j)) j w (16 + i)).toInt ≤ 40 := by
      intro i hi
      have e1 : warmR K (powerR K (w j)) j w i = w i := by unfold warmR; split <;> rw [upd_oth (by omega)]
      have e2 : warmR K (powerR K (w j)) j w (16 + i) = w (16 + i) := by unfold warmR; split <;> rw [upd_oth (by omega)]
      rw [e1, e2]; exact hw i hi
    obtain ⟨b1, b2, e⟩ := ih (j + 1) (by omega) (warmR K (powerR K (w j)) j w) a2 hw'
    refine ⟨b1, b2, ?_⟩
    unfold loopR
    rw [← e]
    rw [st_X10_aMinute_2]
    rcases ho with ho | ⟨o1, o2⟩
    · have e1 : powerR K (w j) = 0 := by unfold powerR; rw [ho]; rfl
      rw [e1, ← cold_warm]
      simp (disch := omega) only [st_X10_aMinute_3, st_X10_aMinute_4, st_X10_aMinute_7, st_X10_aMinute_8, st_X10_aMinute_9, st_X10_aMinute_12, st_X10_aMinute_13, st_X10_aMinute_16, st_X10_aMinute_17, st_X10_aMinute_18, st_X10_aMinute_21, st_X10_aMinute_22, st_X10_aMinute_23, st_X10_aMinute_24, st_X10_aMinute_27, st_X10_aMinute_28, st_X10_aMinute_32, st_X10_aMinute_51, st_X10_aMinute_52, st_X10_aMinute_55, st_X10_aMinute_29 (p := 49) hq_49 ps_ir, bM_some, lc_r, hg_49_3, hg_49_25, hg_49_26, ha_52, ha_64, hw_65, cond_false, bC_inl, Option.toList, List.cons_append, List.nil_append, Nat.add_zero, Nat.reduceAdd, nn_1, nn_8, nn_16, nn_24, nn_32, nn_40, nn_48, nn_suc, nn_out, nn_clamp, Int32.zero_add, gM_64, gM_65, gM_66, gM_67, gM_68, gM_69, gM_70, gM_33, gM_72, gM_73, gM_o, gM_49, gMw_64, gMw_65, gMw_66, gMw_67, gMw_68, gMw_69, gMw_70, gMw_33, gMw_72, gMw_73, Nat.zero_add, dv_5, dv_10, dv_3, dv_2, ne_eq, not_false_eq_true, if_false, in_m1, nn_oc0, nn_c0, hM.n hK, nn_lt, hjN, if_true, ho, m_colder hM hK hjN]
    · have q0 : ¬ w j = -1 := by rw [ii_eq, ti_m1]; omega
      have q1 : ¬ w j < 0 := by rw [ii_lt, ti_0]; omega
      have q2 : w j < K 9 1 := by rw [hS, ii_lt, ii_ofNat (by omega)]; omega
      have q3 : px_out (w j) 8 = false := ii_out (by omega) (by omega)
      have q4 : (w j).toNatClampNeg < S := by have := ii_clamp (a := w j); omega
      have q5 : g.1 58 (w j).toNatClampNeg = K 5 (w j).toNatClampNeg := hM.2.2.1 _ q4
      have e1 : powerR K (w j) = K 5 (w j).toNatClampNeg := by unfold powerR; rw [if_neg q1, if_pos q2]
      have q6 := hO.2.1 _ q4
      have q7 : ¬ K 5 (w j).toNatClampNeg = 0 := by rw [ii_eq, ti_0]; omega
      rw [e1, ← hot_warm hf hf2 q7]
      simp (disch := omega) only [st_X10_aMinute_3, st_X10_aMinute_4, st_X10_aMinute_7, st_X10_aMinute_8, st_X10_aMinute_9, st_X10_aMinute_12, st_X10_aMinute_13, st_X10_aMinute_16, st_X10_aMinute_17, st_X10_aMinute_18, st_X10_aMinute_21, st_X10_aMinute_22, st_X10_aMinute_23, st_X10_aMinute_24, st_X10_aMinute_35, st_X10_aMinute_36, st_X10_aMinute_37, st_X10_aMinute_38, st_X10_aMinute_41, st_X10_aMinute_42, st_X10_aMinute_45, st_X10_aMinute_46, st_X10_aMinute_47, st_X10_aMinute_51, st_X10_aMinute_52, st_X10_aMinute_55, st_X10_aMinute_48 (p := 49) hq_49 ps_ir, bM_some, lc_r, hg_49_3, hg_49_25, hg_49_26, hg_49_9, ha_52, ha_58, ha_64, hw_65, cond_false, bC_inl, Option.toList, List.cons_append, List.nil_append, Nat.add_zero, Nat.reduceAdd, nn_1, nn_8, nn_16, nn_24, nn_32, nn_40, nn_48, nn_suc, nn_out, nn_clamp, Int32.zero_add, gM_64, gM_65, gM_66, gM_67, gM_68, gM_69, gM_70, gM_33, gM_72, gM_73, gM_o, gM_49, gMw_64, gMw_65, gMw_66, gMw_67, gMw_68, gMw_69, gMw_70, gMw_33, gMw_72, gMw_73, Nat.zero_add, dv_5, dv_10, dv_3, dv_2, ne_eq, not_false_eq_true, if_false, in_m1, nn_oc0, nn_c0, hM.n hK, nn_lt, hjN, if_true, q0, q3, q5, m_hotter hM hK hjN (massR_pos (K := K) hf hf2).2]
set_option maxHeartbeats 4000000 in
theorem m_min_2 (hM : MK K N S D L g) (hK : KN K N S D L) : ∀ m j : Nat, j + m = N → ∀ (w : Rw) (a2 : Option Value), ∃ b1 b2 : Option Value,
    bc (d + 3) M_X10_aMinute none 60 [some (.ref 49), some (.int (Int32.ofNat j)), a2] [] (hp t (gM g w a k)) cn sn =
    bc (d + 3) M_X10_aMinute none 81 [some (.ref 49), b1, b2] [] (hp t (gM g (loopR (voiceR K) m j w) a k)) cn sn := by
  have h8 := hK.2.1
  intro m
  induction m with
  | zero =>
    intro j hj w a2
    refine ⟨some (.int (Int32.ofNat j)), a2, ?_⟩
    rw [st_X10_aMinute_60]
    simp (disch := omega) only [st_X10_aMinute_61, st_X10_aMinute_62, st_X10_aMinute_65, st_X10_aMinute_66, st_X10_aMinute_67, bM_some, hg_49_3, ha_52, cond_false, nn_1, nn_8, nn_16, nn_24, nn_32, nn_40, nn_48, nn_suc, nn_out, nn_clamp, Int32.zero_add, gM_64, gM_65, gM_66, gM_67, gM_68, gM_69, gM_70, gM_33, gM_72, gM_73, gM_o, gM_49, gMw_64, gMw_65, gMw_66, gMw_67, gMw_68, gMw_69, gMw_70, gMw_33, gMw_72, gMw_73, Nat.zero_add, dv_5, dv_10, dv_3, dv_2, ne_eq, not_false_eq_true, if_false, in_m1, nn_oc0, nn_c0, hM.n hK, nn_lt, show ¬ j < N by omega, loopR, Nat.reduceAdd]
  | succ m ih =>
    intro j hj w a2
    have hjN : j < N := by omega
    obtain ⟨b1, b2, e⟩ := ih (j + 1) (by omega) (voiceR K j w) a2
    refine ⟨b1, b2, ?_⟩
    unfold loopR
    rw [← e, st_X10_aMinute_60]
    simp (disch := omega) only [st_X10_aMinute_61, st_X10_aMinute_62, st_X10_aMinute_65, st_X10_aMinute_66, st_X10_aMinute_67, st_X10_aMinute_70, st_X10_aMinute_71, st_X10_aMinute_75, st_X10_aMinute_78, st_X10_aMinute_72 (p := 49) hq_49 ps_, bM_some, lc_r, hg_49_3, ha_52, cond_false, bC_inl, Option.toList, List.nil_append, Nat.add_zero, Nat.reduceAdd, nn_1, nn_8, nn_16, nn_24, nn_32, nn_40, nn_48, nn_suc, nn_out, nn_clamp, Int32.zero_add, gM_64, gM_65, gM_66, gM_67, gM_68, gM_69, gM_70, gM_33, gM_72, gM_73, gM_o, gM_49, gMw_64, gMw_65, gMw_66, gMw_67, gMw_68, gMw_69, gMw_70, gMw_33, gMw_72, gMw_73, Nat.zero_add, dv_5, dv_10, dv_3, dv_2, ne_eq, not_false_eq_true, if_false, in_m1, nn_oc0, nn_c0, hM.n hK, nn_lt, hjN, if_true, m_sing hM hK hjN]
set_option maxHeartbeats 4000000 in
theorem m_min_3v (hM : MK K N S D L g) (hK : KN K N S D L) {dd M : Nat} (hd : dd < D) (hS : K 6 dd = Int32.ofNat M) (h3 : M ≤ 3) : ∀ m v : Nat, v + m = 61 → ∀ w : Rw, 0 ≤ (w 53).toInt → ∃ b2 : Option Value,
    bc (d + 2) M_X10_aMinute none 95 [some (.ref 49), some (.int (Int32.ofNat dd)), some (.int (Int32.ofNat v))] [] (hp t (gM g w a k)) cn sn =
    bc (d + 2) M_X10_aMinute none 136 [some (.ref 49), some (.int (Int32.ofNat dd)), b2] [] (hp t (gM g (readyM K N dd m v w) a k)) cn sn := by
  have h5 := hK.2.2.2.2.2.1
  have hM' : (K 6 dd).toNatClampNeg = M := by rw [hS, nn_clamp (by omega)]
  intro m
  induction m with
  | zero =>
    intro v hv w h53
    refine ⟨some (.int (Int32.ofNat v)), ?_⟩
    rw [st_X10_aMinute_95]
    have hr : readyM K N dd 0 v w = w := by unfold readyM chordV; rw [if_pos rfl, r_ign]
    rw [hr]
    simp (disch := omega) only [st_X10_aMinute_96, st_X10_aMinute_98, nn_g60, show 60 < v by omega, if_true, Nat.reduceAdd]
  | succ m ih =>
    intro v hv w h53
    have hn : ¬ w 53 = -1 := by rw [ii_eq, ti_m1]; omega
    by_cases h1 : w (48 + dd) = -1
    · by_cases h2 : chordB w N (fun i => K 7 (dd * 3 + i)) (Int32.ofNat v) M 0 (sungR w (Int32.ofNat v) N 0) = 0
      · obtain ⟨b2, e⟩ := ih (v + 1) (by omega) w h53
        refine ⟨b2, ?_⟩
        have hr : readyM K N dd (m + 1) v w = readyM K N dd m (v + 1) w := by
          unfold readyM; rw [if_pos h1, if_pos h1, hM']
          rw [show chordV K w N dd M (m + 1) v = chordV K w N dd M m (v + 1) from by rw [chordV, if_pos h2]]
        rw [hr, ← e, st_X10_aMinute_95]
        simp (disch := omega) only [st_X10_aMinute_96, st_X10_aMinute_98, st_X10_aMinute_101, st_X10_aMinute_102, st_X10_aMinute_105, st_X10_aMinute_106, st_X10_aMinute_107, st_X10_aMinute_108, st_X10_aMinute_111, st_X10_aMinute_112, st_X10_aMinute_113, st_X10_aMinute_117, st_X10_aMinute_130, st_X10_aMinute_133, st_X10_aMinute_114 (p := 49) hq_49 ps_, bM_some, lc_r, lc_i, hg_49_31, ha_70, cond_false, bC_inl, Option.toList, List.cons_append, List.nil_append, Nat.add_zero, Nat.reduceAdd, nn_1, nn_8, nn_16, nn_24, nn_32, nn_40, nn_48, nn_suc, nn_out, nn_clamp, Int32.zero_add, gM_64, gM_65, gM_66, gM_67, gM_68, gM_69, gM_70, gM_33, gM_72, gM_73, gM_o, gM_49, gMw_64, gMw_65, gMw_66, gMw_67, gMw_68, gMw_69, gMw_70, gMw_33, gMw_72, gMw_73, Nat.zero_add, dv_5, dv_10, dv_3, dv_2, ne_eq, not_false_eq_true, if_false, in_m1, nn_g60, show ¬ 60 < v by omega, h1, if_true, m_isChord hM hK hd hS h3, h2]
      · have hw2 : upd w (48 + dd) (w 53) 53 = w 53 := upd_oth (by omega)
        obtain ⟨b2, e⟩ := ih (v + 1) (by omega) (upd w (48 + dd) (w 53)) (by rw [hw2]; exact h53)
        refine ⟨b2, ?_⟩
        have hr : readyM K N dd (m + 1) v w = readyM K N dd m (v + 1) (upd w (48 + dd) (w 53)) := by
          unfold readyM; rw [if_pos h1, hM', upd_same, if_neg hn]
          rw [show chordV K w N dd M (m + 1) v = 1 from by rw [chordV, if_neg h2]]
          rfl
        rw [hr, ← e, st_X10_aMinute_95]
        simp (disch := omega) only [st_X10_aMinute_96, st_X10_aMinute_98, st_X10_aMinute_101, st_X10_aMinute_102, st_X10_aMinute_105, st_X10_aMinute_106, st_X10_aMinute_107, st_X10_aMinute_108, st_X10_aMinute_111, st_X10_aMinute_112, st_X10_aMinute_113, st_X10_aMinute_117, st_X10_aMinute_120, st_X10_aMinute_121, st_X10_aMinute_124, st_X10_aMinute_125, st_X10_aMinute_126, st_X10_aMinute_129, st_X10_aMinute_130, st_X10_aMinute_133, st_X10_aMinute_114 (p := 49) hq_49 ps_, bM_some, lc_r, lc_i, hg_49_31, hg_49_33, ha_70, hw_70, cond_false, bC_inl, Option.toList, List.cons_append, List.nil_append, Nat.add_zero, Nat.reduceAdd, nn_1, nn_8, nn_16, nn_24, nn_32, nn_40, nn_48, nn_suc, nn_out, nn_clamp, Int32.zero_add, gM_64, gM_65, gM_66, gM_67, gM_68, gM_69, gM_70, gM_33, gM_72, gM_73, gM_o, gM_49, gMw_64, gMw_65, gMw_66, gMw_67, gMw_68, gMw_69, gMw_70, gMw_33, gMw_72, gMw_73, Nat.zero_add, dv_5, dv_10, dv_3, dv_2, ne_eq, not_false_eq_true, if_false, in_m1, nn_g60, show ¬ 60 < v by omega, h1, if_true, m_isChord hM hK hd hS h3, h2]
    · refine ⟨some (.int (Int32.ofNat v)), ?_⟩
      have hr : readyM K N dd (m + 1) v w = w := by unfold readyM; rw [if_neg h1]
      rw [hr, st_X10_aMinute_95]
      simp (disch := omega) only [st_X10_aMinute_96, st_X10_aMinute_98, st_X10_aMinute_101, st_X10_aMinute_102, st_X10_aMinute_105, st_X10_aMinute_106, st_X10_aMinute_107, st_X10_aMinute_108, bM_some, hg_49_31, ha_70, cond_false, nn_1, nn_8, nn_16, nn_24, nn_32, nn_40, nn_48, nn_suc, nn_out, nn_clamp, Int32.zero_add, gM_64, gM_65, gM_66, gM_67, gM_68, gM_69, gM_70, gM_33, gM_72, gM_73, gM_o, gM_49, gMw_64, gMw_65, gMw_66, gMw_67, gMw_68, gMw_69, gMw_70, gMw_33, gMw_72, gMw_73, Nat.zero_add, dv_5, dv_10, dv_3, dv_2, ne_eq, not_false_eq_true, if_false, in_m1, nn_g60, show ¬ 60 < v by omega, h1, Nat.reduceAdd]
end MMIN
