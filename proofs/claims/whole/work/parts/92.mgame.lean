/-! ===== a game of the reference ===== -/
section MGAME
variable {d : Nat} {t : List px_E} {g : hG} {h : px_H} {i b ci cb j q N S D L T cn sn c : Nat} {w a k v : Rw} {x y p s : Int32} {K : Kt}
theorem m_isOf_y (hq : q < 8) (hs : tb32 s q = true) : bc d M_X10_isOf none 0 [some (.int s), some (.int (Int32.ofNat q))] [] h cn sn = some (.inl (some (.int 1)), h, cn, sn) := by
  simp only [st_X10_isOf_0, st_X10_isOf_1, st_X10_isOf_2, st_X10_isOf_3, st_X10_isOf_4, st_X10_isOf_5, st_X10_isOf_6, st_X10_isOf_9, st_X10_isOf_10, st_X10_isOf_14, st_X10_isOf_14b, st_X10_isOf_13, Nat.reduceAdd, (shr_1 hq).mpr hs, if_true]
theorem m_isOf_n (hq : q < 8) (hs : tb32 s q = false) : bc d M_X10_isOf none 0 [some (.int s), some (.int (Int32.ofNat q))] [] h cn sn = some (.inl (some (.int 0)), h, cn, sn) := by
  have : ¬ ((s >>> (Int32.ofNat q &&& 31)) &&& 1 = 1) := fun z => by rw [(shr_1 hq).mp z] at hs; cases hs
  simp only [st_X10_isOf_0, st_X10_isOf_1, st_X10_isOf_2, st_X10_isOf_3, st_X10_isOf_4, st_X10_isOf_5, st_X10_isOf_6, st_X10_isOf_9, st_X10_isOf_10, st_X10_isOf_14, st_X10_isOf_14b, st_X10_isOf_13, Nat.reduceAdd, this, if_false]
theorem apart_eq (hi : ¬ w (40 + i) = -1) (hj : ¬ w (40 + j) = -1) (bi : -1 ≤ (w (40 + i)).toInt ∧ (w (40 + i)).toInt ≤ 60) (bj : -1 ≤ (w (40 + j)).toInt ∧ (w (40 + j)).toInt ≤ 60) : px_abs (w (40 + j) - w (40 + i)) = apartR w i j := by
  unfold apartR
  rw [if_neg hi, if_neg hj, ii_eq]
  have e1 : (w (40 + i) - w (40 + j)).toInt = (w (40 + i)).toInt - (w (40 + j)).toInt := by rw [ii_sub] <;> omega
  have e2 : (w (40 + j) - w (40 + i)).toInt = (w (40 + j)).toInt - (w (40 + i)).toInt := by rw [ii_sub] <;> omega
  rw [px_abs_i (by omega) (by omega), px_abs_i (by omega) (by omega), e1, e2]
  split <;> split <;> omega
theorem apart_self : ¬ (apartR w i i = 1 ∨ apartR w i i = 2) := by
  unfold apartR
  split
  · decide
  · rw [Int32.sub_self]
    decide
theorem apart_12 : (apartR w i j = 1 ∨ apartR w i j = 2) ↔ (1 ≤ (apartR w i j).toInt ∧ (apartR w i j).toInt ≤ 2) := by
  rw [ii_eq, ii_eq, ti_1, ti_2]; omega
set_option maxHeartbeats 4000000 in
theorem m_gain_l (hM : MK K N S D L g) (hK : KN K N S D L) (hi : i < N) (hsi : ¬ w (40 + i) = -1) (hnb : ∀ j, j < N → -1 ≤ (w (40 + j)).toInt ∧ (w (40 + j)).toInt ≤ 60) (hs : ∀ q, q < N → ¬ q = i → tb32 s q = (bS w q && !(decide (q = b) && decide (cb = 0)))) : ∀ m j : Nat, j + m = N →
    bc (d + 1) M_X10_gain none 12 [some (.ref 49), some (.int (Int32.ofNat i)), some (.int s), some (.int (Int32.ofNat j))] [] (hp t (gM g w a k)) cn sn = some (.inl (some (.int (if nearB w i b cb m j then -4 else 6))), hp t (gM g w a k), cn, sn) := by
  have h8 := hK.2.1
  intro m
  induction m with
  | zero =>
    intro j hj
    rw [st_X10_gain_12]
    simp (disch := omega) only [st_X10_gain_13, st_X10_gain_14, st_X10_gain_17, st_X10_gain_18, st_X10_gain_19, st_X10_gain_71, st_X10_gain_73, bM_some, hg_49_3, ha_52, cond_false, gM_64, gM_65, gM_66, gM_67, gM_68, gM_69, gM_70, gM_33, gM_72, gM_73, gM_o, gM_49, gMw_64, gMw_65, gMw_66, gMw_67, gMw_68, gMw_69, gMw_70, gMw_33, gMw_72, gMw_73, Nat.zero_add, nn_oc0, nn_c0, hM.n hK, nn_lt, show ¬ j < N by omega, if_false, Nat.reduceAdd, nearB]
    rfl
  | succ m ih =>
    intro j hj
    rw [st_X10_gain_12]
    by_cases e : j = i
    · subst e
      rw [show nearB w j b cb (m + 1) j = nearB w j b cb m (j + 1) by rw [nearB, if_neg (fun z => apart_self z.2)]]
      rw [← ih (j + 1) (by omega)]
      simp (disch := omega) only [st_X10_gain_13, st_X10_gain_14, st_X10_gain_17, st_X10_gain_18, st_X10_gain_19, st_X10_gain_22, st_X10_gain_23, st_X10_gain_24, st_X10_gain_65, st_X10_gain_68, bM_some, hg_49_3, ha_52, cond_false, gM_64, gM_65, gM_66, gM_67, gM_68, gM_69, gM_70, gM_33, gM_72, gM_73, gM_o, gM_49, gMw_64, gMw_65, gMw_66, gMw_67, gMw_68, gMw_69, gMw_70, gMw_33, gMw_72, gMw_73, Nat.zero_add, nn_oc0, nn_c0, hM.n hK, nn_lt, hi, if_true, Nat.reduceAdd, lc_i, nn_r1]
    · have hsj := hs j (by omega) e
      cases hb : tb32 s j with
      | false =>
        have ho := m_isOf_n (d := d) (h := hp t (gM g w a k)) (cn := 0) (sn := 0) (show j < 8 by omega) hb
        rw [hb] at hsj
        rw [show nearB w i b cb (m + 1) j = nearB w i b cb m (j + 1) by
          rw [nearB, if_neg]
          intro z
          have hl : (decide (j = b) && decide (cb = 0)) = false := by
            rw [← Bool.not_eq_true, Bool.and_eq_true, decide_eq_true_eq, decide_eq_true_eq]; exact z.1
          rw [hl, Bool.not_false, Bool.and_true] at hsj
          have hbS : w (40 + j) = -1 := by
            unfold bS at hsj
            have h2 := hsj.symm
            rw [Bool.not_eq_false', decide_eq_true_eq] at h2
            exact h2
          have : apartR w i j = -1 := by unfold apartR; rw [if_neg hsi, if_pos hbS]
          rw [this] at z
          exact absurd z.2 (by decide)]
        rw [← ih (j + 1) (by omega)]
        simp (disch := omega) only [st_X10_gain_13, st_X10_gain_14, st_X10_gain_17, st_X10_gain_18, st_X10_gain_19, st_X10_gain_22, st_X10_gain_23, st_X10_gain_24, st_X10_gain_27, st_X10_gain_28, st_X10_gain_32, st_X10_gain_65, st_X10_gain_68, st_X10_gain_29 ps_, ho, bM_some, hg_49_3, ha_52, cond_false, gM_64, gM_65, gM_66, gM_67, gM_68, gM_69, gM_70, gM_33, gM_72, gM_73, gM_o, gM_49, gMw_64, gMw_65, gMw_66, gMw_67, gMw_68, gMw_69, gMw_70, gMw_33, gMw_72, gMw_73, Nat.zero_add, nn_oc0, nn_c0, hM.n hK, nn_lt, nn_inj, e, show j < N by omega, if_true, if_false, bC_inl, Option.toList, List.cons_append, List.nil_append, Nat.add_zero, Nat.reduceAdd, lc_i, nn_r1]
      | true =>
        have ho := m_isOf_y (d := d) (h := hp t (gM g w a k)) (cn := 0) (sn := 0) (show j < 8 by omega) hb
        rw [hb] at hsj
        have hand := Bool.and_eq_true_iff.mp hsj.symm
        have hl : ¬ (j = b ∧ cb = 0) := by
          intro z
          rw [decide_eq_true z.1, decide_eq_true z.2] at hand
          exact absurd hand.2 (by decide)
        have hsg : ¬ w (40 + j) = -1 := by
          intro z
          have := hand.1
          unfold bS at this
          rw [decide_eq_true z] at this
          cases this
        have hap := apart_eq hsi hsg (hnb i hi) (hnb j (by omega))
        by_cases h12 : apartR w i j = 1 ∨ apartR w i j = 2
        · rw [show nearB w i b cb (m + 1) j = true by rw [nearB, if_pos ⟨hl, h12⟩]]
          have hin := m_isIn_y (d := d) (h := hp t (gM g w a k)) (cn := 0) (sn := 0) (u := (apartR w i j).toInt64) (u1 := 1) (u2 := 2) (by rw [jj_i, tj_1, tj_2]; exact apart_12.mp h12)
          simp (disch := omega) only [st_X10_gain_13, st_X10_gain_14, st_X10_gain_17, st_X10_gain_18, st_X10_gain_19, st_X10_gain_22, st_X10_gain_23, st_X10_gain_24, st_X10_gain_27, st_X10_gain_28, st_X10_gain_32, st_X10_gain_35, st_X10_gain_36, st_X10_gain_39, st_X10_gain_40, st_X10_gain_41, st_X10_gain_42, st_X10_gain_45, st_X10_gain_46, st_X10_gain_47, st_X10_gain_48, st_X10_gain_51, st_X10_gain_52, st_X10_gain_53, st_X10_gain_59, st_X10_gain_62, st_X10_gain_64, st_X10_gain_29 ps_, st_X10_gain_56 ps_, ho, hin, hap, bP_some, m1_, bM_some, hg_49_3, hg_49_30, ha_52, ha_69, cond_false, gM_64, gM_65, gM_66, gM_67, gM_68, gM_69, gM_70, gM_33, gM_72, gM_73, gM_o, gM_49, gMw_64, gMw_65, gMw_66, gMw_67, gMw_68, gMw_69, gMw_70, gMw_33, gMw_72, gMw_73, Nat.zero_add, nn_1, nn_8, nn_16, nn_24, nn_32, nn_40, nn_48, nn_suc, nn_out, nn_clamp, Int32.zero_add, nn_oc0, nn_c0, hM.n hK, nn_lt, nn_inj, e, show j < N by omega, if_true, if_false, nn_one0, bC_inl, Option.toList, List.cons_append, List.nil_append, Nat.add_zero, Nat.reduceAdd]
        · rw [show nearB w i b cb (m + 1) j = nearB w i b cb m (j + 1) by rw [nearB, if_neg (fun z => h12 z.2)]]
          have hin := m_isIn_n (d := d) (h := hp t (gM g w a k)) (cn := 0) (sn := 0) (u := (apartR w i j).toInt64) (u1 := 1) (u2 := 2) (by rw [jj_i, tj_1, tj_2]; exact fun z => h12 (apart_12.mpr z))
          rw [← ih (j + 1) (by omega)]
          simp (disch := omega) only [st_X10_gain_13, st_X10_gain_14, st_X10_gain_17, st_X10_gain_18, st_X10_gain_19, st_X10_gain_22, st_X10_gain_23, st_X10_gain_24, st_X10_gain_27, st_X10_gain_28, st_X10_gain_32, st_X10_gain_35, st_X10_gain_36, st_X10_gain_39, st_X10_gain_40, st_X10_gain_41, st_X10_gain_42, st_X10_gain_45, st_X10_gain_46, st_X10_gain_47, st_X10_gain_48, st_X10_gain_51, st_X10_gain_52, st_X10_gain_53, st_X10_gain_59, st_X10_gain_65, st_X10_gain_68, st_X10_gain_29 ps_, st_X10_gain_56 ps_, ho, hin, hap, bP_some, m1_, bM_some, hg_49_3, hg_49_30, ha_52, ha_69, cond_false, gM_64, gM_65, gM_66, gM_67, gM_68, gM_69, gM_70, gM_33, gM_72, gM_73, gM_o, gM_49, gMw_64, gMw_65, gMw_66, gMw_67, gMw_68, gMw_69, gMw_70, gMw_33, gMw_72, gMw_73, Nat.zero_add, nn_1, nn_8, nn_16, nn_24, nn_32, nn_40, nn_48, nn_suc, nn_out, nn_clamp, Int32.zero_add, nn_oc0, nn_c0, hM.n hK, nn_lt, nn_inj, e, show j < N by omega, if_true, if_false, nn_one0, bC_inl, Option.toList, List.cons_append, List.nil_append, Nat.add_zero, Nat.reduceAdd, lc_i, nn_r1]
theorem m_gain (hM : MK K N S D L g) (hK : KN K N S D L) (hi : i < N) (hsi : ¬ w (40 + i) = -1) (hnb : ∀ j, j < N → -1 ≤ (w (40 + j)).toInt ∧ (w (40 + j)).toInt ≤ 60) (hs : ∀ q, q < N → ¬ q = i → tb32 s q = (bS w q && !(decide (q = b) && decide (cb = 0)))) (hci : tb32 s i = !decide (ci = 0)) : bc (d + 1) M_X10_gain none 0 [some (.ref 49), some (.int (Int32.ofNat i)), some (.int s), none] [] (hp t (gM g w a k)) cn sn = some (.inl (some (.int (gainV w N i ci b cb))), hp t (gM g w a k), cn, sn) := by
  have h8 := hK.2.1
  unfold gainV
  by_cases h0 : ci = 0
  · rw [decide_eq_true h0] at hci
    have ho := m_isOf_n (d := d) (h := hp t (gM g w a k)) (cn := 0) (sn := 0) (show i < 8 by omega) hci
    rw [if_pos h0]
    simp (disch := omega) only [st_X10_gain_0, st_X10_gain_1, st_X10_gain_5, st_X10_gain_8, st_X10_gain_9, st_X10_gain_2 ps_, ho, if_true, bC_inl, Option.toList, List.cons_append, List.nil_append, Nat.add_zero, Nat.reduceAdd]
  · rw [decide_eq_false h0] at hci
    have ho := m_isOf_y (d := d) (h := hp t (gM g w a k)) (cn := 0) (sn := 0) (show i < 8 by omega) hci
    rw [if_neg h0, ← m_gain_l (d := d) (t := t) (a := a) (k := k) (cn := cn) (sn := sn) hM hK hi hsi hnb hs N 0 (by omega)]
    simp (disch := omega) only [st_X10_gain_0, st_X10_gain_1, st_X10_gain_5, st_X10_gain_10, st_X10_gain_11, st_X10_gain_2 ps_, ho, nn_one0, if_false, bC_inl, Option.toList, List.cons_append, List.nil_append, Nat.add_zero, lc_i, Nat.reduceAdd]
    rfl
/-- who is kept, as the reference writes it -/
def keptV (w : Rw) (N i b : Nat) (ci cb : Nat) : Int32 := Int32.ofNat (setN (bS w) N) &&& ((if ci = 0 then (1 : Int32) <<< (Int32.ofNat i &&& 31) else 0) ^^^ -1) &&& ((if cb = 0 then (1 : Int32) <<< (Int32.ofNat b &&& 31) else 0) ^^^ -1)
theorem keptV_at (h8 : N ≤ 8) (hi : i < N) (hb : b < N) (hq : q < N) : tb32 (keptV w N i b ci cb) q = (bS w q && (!(decide (q = i) && decide (ci = 0)) && !(decide (q = b) && decide (cb = 0)))) := by
  unfold keptV
  rw [tb32_and, tb32_and, tb32_set N h8 q (by omega), decide_eq_true hq, Bool.true_and, tb32_xor, tb32_xor, tb32_m1 q (by omega)]
  have e1 : ∀ (ci i : Nat), i < 8 → tb32 (if ci = 0 then (1 : Int32) <<< (Int32.ofNat i &&& 31) else 0) q = (decide (q = i) && decide (ci = 0)) := by
    intro ci i hi
    by_cases h : ci = 0
    · rw [if_pos h, tb32_1 i hi q (by omega), decide_eq_true h, Bool.and_true]
    · rw [if_neg h, tb32_0 q (by omega), decide_eq_false h, Bool.and_false]
  rw [e1 ci i (by omega), e1 cb b (by omega), Bool.xor_true, Bool.xor_true, Bool.and_assoc]
theorem kept_f1 (h8 : N ≤ 8) (hi : i < N) (hb : b < N) (hn : ¬ i = b) (hci : ci < 2) (hsi : bS w i = true) : (∀ q, q < N → ¬ q = i → tb32 (keptV w N i b ci cb) q = (bS w q && !(decide (q = b) && decide (cb = 0)))) ∧ tb32 (keptV w N i b ci cb) i = !decide (ci = 0) := by
  constructor
  · intro q hq hne
    rw [keptV_at h8 hi hb hq, decide_eq_false hne, Bool.false_and, Bool.not_false, Bool.true_and]
  · rw [keptV_at h8 hi hb hi, hsi, decide_eq_true rfl, decide_eq_false hn, Bool.false_and, Bool.not_false, Bool.and_true, Bool.true_and, Bool.true_and]
theorem kept_f2 (h8 : N ≤ 8) (hi : i < N) (hb : b < N) (hn : ¬ i = b) (hci : ci < 2) (hsi : bS w i = true) : (∀ q, q < N → ¬ q = i → tb32 (keptV w N i b ci cb ^^^ ((1 : Int32) <<< (Int32.ofNat i &&& 31))) q = (bS w q && !(decide (q = b) && decide (cb = 0)))) ∧ tb32 (keptV w N i b ci cb ^^^ ((1 : Int32) <<< (Int32.ofNat i &&& 31))) i = !decide (1 - ci = 0) := by
  obtain ⟨f1, f2⟩ := kept_f1 (cb := cb) h8 hi hb hn hci hsi
  constructor
  · intro q hq hne
    rw [tb32_xor, f1 q hq hne, tb32_1 i (by omega) q (by omega), decide_eq_false hne, Bool.xor_false]
  · rw [tb32_xor, f2, tb32_1 i (by omega) i (by omega), decide_eq_true rfl, Bool.xor_true, Bool.not_not]
    by_cases h0 : ci = 0
    · rw [decide_eq_true h0, decide_eq_false (by omega)]; rfl
    · rw [decide_eq_false h0, decide_eq_true (by omega)]; rfl
theorem keptV_sym (h8 : N ≤ 8) (hi : i < N) (hb : b < N) (hn : ¬ i = b) (hcb : cb < 2) (hsb : bS w b = true) : ((∀ q, q < N → ¬ q = b → tb32 (keptV w N i b ci cb) q = (bS w q && !(decide (q = i) && decide (ci = 0)))) ∧ tb32 (keptV w N i b ci cb) b = !decide (cb = 0)) ∧ ((∀ q, q < N → ¬ q = b → tb32 (keptV w N i b ci cb ^^^ ((1 : Int32) <<< (Int32.ofNat b &&& 31))) q = (bS w q && !(decide (q = i) && decide (ci = 0)))) ∧ tb32 (keptV w N i b ci cb ^^^ ((1 : Int32) <<< (Int32.ofNat b &&& 31))) b = !decide (1 - cb = 0)) := by
  have f1 : ∀ q, q < N → ¬ q = b → tb32 (keptV w N i b ci cb) q = (bS w q && !(decide (q = i) && decide (ci = 0))) := by
    intro q hq hne
    rw [keptV_at h8 hi hb hq, decide_eq_false hne, Bool.false_and, Bool.not_false, Bool.and_true]
  have f2 : tb32 (keptV w N i b ci cb) b = !decide (cb = 0) := by
    rw [keptV_at h8 hi hb hb, hsb, decide_eq_true rfl, decide_eq_false (fun z => hn z.symm), Bool.false_and, Bool.not_false, Bool.true_and, Bool.true_and, Bool.true_and]
  refine ⟨⟨f1, f2⟩, ?_, ?_⟩
  · intro q hq hne
    rw [tb32_xor, f1 q hq hne, tb32_1 b (by omega) q (by omega), decide_eq_false hne, Bool.xor_false]
  · rw [tb32_xor, f2, tb32_1 b (by omega) b (by omega), decide_eq_true rfl, Bool.xor_true, Bool.not_not]
    by_cases h0 : cb = 0
    · rw [decide_eq_true h0, decide_eq_false (by omega)]; rfl
    · rw [decide_eq_false h0, decide_eq_true (by omega)]; rfl
set_option maxHeartbeats 8000000 in
theorem m_game_l (hM : MK K N S D L g) (hK : KN K N S D L) (hi : i < N) (hb : b < N) (hn : ¬ i = b) (hx : x = 0 ∨ x = 1) (hsi : ¬ w (40 + i) = -1) (hsb : ¬ w (40 + b) = -1) (hnb : ∀ j, j < N → -1 ≤ (w (40 + j)).toInt ∧ (w (40 + j)).toInt ≤ 60) : ∀ m c : Nat, c + m = 4 → ∀ (q : Nat × Int32) (a8 : Option Value), q.1 ≤ c → (q.2 = -1 ↔ q.1 = 0) →
    bc (d + 2) M_X10_game none 62 [some (.ref 49), some (.int (Int32.ofNat i)), some (.int (Int32.ofNat b)), some (.int x), some (.int (Int32.ofNat (setN (bS w) N))), some (.int (Int32.ofNat q.1)), some (.int q.2), some (.int (Int32.ofNat c)), a8] [] (hp t (gM g w a k)) cn sn = some (.inl (some (.int (if x = 0 then Int32.ofNat (gameR w N i b m c q).1 else (gameR w N i b m c q).2))), hp t (gM g w a k), cn, sn) := by
  have h8 := hK.2.1
  have bi : bS w i = true := by unfold bS; rw [decide_eq_false hsi]; rfl
  have bb : bS w b = true := by unfold bS; rw [decide_eq_false hsb]; rfl
  have o1 : ∀ {cn sn : Nat}, bc (d + 1) M_X10_isOf none 0 [some (.int (Int32.ofNat (setN (bS w) N))), some (.int (Int32.ofNat i))] [] (hp t (gM g w a k)) cn sn = some (.inl (some (.int 1)), hp t (gM g w a k), cn, sn) := m_isOf_y (by omega) (by rw [tb32_set N h8 i (by omega), decide_eq_true hi, bi]; rfl)
  have o2 : ∀ {cn sn : Nat}, bc (d + 1) M_X10_isOf none 0 [some (.int (Int32.ofNat (setN (bS w) N))), some (.int (Int32.ofNat b))] [] (hp t (gM g w a k)) cn sn = some (.inl (some (.int 1)), hp t (gM g w a k), cn, sn) := m_isOf_y (by omega) (by rw [tb32_set N h8 b (by omega), decide_eq_true hb, bb]; rfl)
  intro m
  induction m with
  | zero =>
    intro c hc q a8 hq hq2
    rw [st_X10_game_62]
    rcases hx with hx | hx <;> subst hx <;>
    simp (disch := omega) only [st_X10_game_64, st_X10_game_65, st_X10_game_203, st_X10_game_204, st_X10_game_207, st_X10_game_209, st_X10_game_212, st_X10_game_214, nn_one0, if_true, if_false, nn_l4, show ¬ c < 4 by omega, gameR, Nat.reduceAdd]
  | succ m ih =>
    intro c hc q a8 hq hq2
    obtain ⟨A1, A2⟩ := kept_f1 (w := w) (ci := c / 2) (cb := c % 2) h8 hi hb hn (by omega) bi
    obtain ⟨B1, B2⟩ := kept_f2 (w := w) (ci := c / 2) (cb := c % 2) h8 hi hb hn (by omega) bi
    obtain ⟨⟨C1, C2⟩, D1, D2⟩ := keptV_sym (w := w) (ci := c / 2) (cb := c % 2) h8 hi hb hn (by omega) bb
    have g1 := m_gain (d := d) (t := t) (a := a) (k := k) (cn := 0) (sn := 0) hM hK hi hsi hnb A1 A2
    have g2 := m_gain (d := d) (t := t) (a := a) (k := k) (cn := 0) (sn := 0) hM hK hi hsi hnb B1 B2
    have g3 := m_gain (d := d) (t := t) (a := a) (k := k) (cn := 0) (sn := 0) hM hK hb hsb hnb C1 C2
    have g4 := m_gain (d := d) (t := t) (a := a) (k := k) (cn := 0) (sn := 0) hM hK hb hsb hnb D1 D2
    rw [show gameR w N i b (m + 1) c q = gameR w N i b m (c + 1) (if restB w N i b c then (q.1 + 1, if q.1 = 0 then Int32.ofNat (10 * (c / 2) + c % 2) else q.2) else q) from rfl]
    have run : ∀ z : Option (px_Res × px_H × Nat × Nat), bc (d + 2) M_X10_game none 124 [some (.ref 49), some (.int (Int32.ofNat i)), some (.int (Int32.ofNat b)), some (.int x), some (.int (Int32.ofNat (setN (bS w) N))), some (.int (Int32.ofNat q.1)), some (.int q.2), some (.int (Int32.ofNat c)), some (.int (keptV w N i b (c / 2) (c % 2)))] [] (hp t (gM g w a k)) cn sn = z → bc (d + 2) M_X10_game none 62 [some (.ref 49), some (.int (Int32.ofNat i)), some (.int (Int32.ofNat b)), some (.int x), some (.int (Int32.ofNat (setN (bS w) N))), some (.int (Int32.ofNat q.1)), some (.int q.2), some (.int (Int32.ofNat c)), a8] [] (hp t (gM g w a k)) cn sn = z := by
      intro z hz
      rw [← hz, st_X10_game_62]
      unfold keptV
      by_cases c1 : c / 2 = 0
      · by_cases c2 : c % 2 = 0
        · simp (disch := omega) only [st_X10_game_64, st_X10_game_65, st_X10_game_68, st_X10_game_70, st_X10_game_74, st_X10_game_77, st_X10_game_79, st_X10_game_83, st_X10_game_86, st_X10_game_88, st_X10_game_90, st_X10_game_92, st_X10_game_95, st_X10_game_96, st_X10_game_97, st_X10_game_98, st_X10_game_101, st_X10_game_102, st_X10_game_103, st_X10_game_104, st_X10_game_105, st_X10_game_107, st_X10_game_109, st_X10_game_112, st_X10_game_113, st_X10_game_114, st_X10_game_115, st_X10_game_118, st_X10_game_119, st_X10_game_120, st_X10_game_121, st_X10_game_122, st_X10_game_91v, st_X10_game_108v, st_X10_game_71 ps_, st_X10_game_80 ps_, o1, o2, nn_one0, dv_2, if_true, if_false, nn_l4, show c < 4 by omega, nn_div2, nn_rem2', nn_e0, eq_true c1, eq_true c2, bC_inl, Option.toList, List.cons_append, List.nil_append, Nat.add_zero, lc_i, Nat.reduceAdd]
        · simp (disch := omega) only [st_X10_game_64, st_X10_game_65, st_X10_game_68, st_X10_game_70, st_X10_game_74, st_X10_game_77, st_X10_game_79, st_X10_game_83, st_X10_game_86, st_X10_game_88, st_X10_game_90, st_X10_game_92, st_X10_game_95, st_X10_game_96, st_X10_game_97, st_X10_game_98, st_X10_game_101, st_X10_game_102, st_X10_game_103, st_X10_game_104, st_X10_game_105, st_X10_game_107, st_X10_game_109, st_X10_game_112, st_X10_game_113, st_X10_game_114, st_X10_game_115, st_X10_game_118, st_X10_game_119, st_X10_game_120, st_X10_game_121, st_X10_game_122, st_X10_game_91v, st_X10_game_108v, st_X10_game_71 ps_, st_X10_game_80 ps_, o1, o2, nn_one0, dv_2, if_true, if_false, nn_l4, show c < 4 by omega, nn_div2, nn_rem2', nn_e0, eq_true c1, eq_false c2, bC_inl, Option.toList, List.cons_append, List.nil_append, Nat.add_zero, lc_i, Nat.reduceAdd]
      · by_cases c2 : c % 2 = 0
        · simp (disch := omega) only [st_X10_game_64, st_X10_game_65, st_X10_game_68, st_X10_game_70, st_X10_game_74, st_X10_game_77, st_X10_game_79, st_X10_game_83, st_X10_game_86, st_X10_game_88, st_X10_game_90, st_X10_game_92, st_X10_game_95, st_X10_game_96, st_X10_game_97, st_X10_game_98, st_X10_game_101, st_X10_game_102, st_X10_game_103, st_X10_game_104, st_X10_game_105, st_X10_game_107, st_X10_game_109, st_X10_game_112, st_X10_game_113, st_X10_game_114, st_X10_game_115, st_X10_game_118, st_X10_game_119, st_X10_game_120, st_X10_game_121, st_X10_game_122, st_X10_game_91v, st_X10_game_108v, st_X10_game_71 ps_, st_X10_game_80 ps_, o1, o2, nn_one0, dv_2, if_true, if_false, nn_l4, show c < 4 by omega, nn_div2, nn_rem2', nn_e0, eq_false c1, eq_true c2, bC_inl, Option.toList, List.cons_append, List.nil_append, Nat.add_zero, lc_i, Nat.reduceAdd]
        · simp (disch := omega) only [st_X10_game_64, st_X10_game_65, st_X10_game_68, st_X10_game_70, st_X10_game_74, st_X10_game_77, st_X10_game_79, st_X10_game_83, st_X10_game_86, st_X10_game_88, st_X10_game_90, st_X10_game_92, st_X10_game_95, st_X10_game_96, st_X10_game_97, st_X10_game_98, st_X10_game_101, st_X10_game_102, st_X10_game_103, st_X10_game_104, st_X10_game_105, st_X10_game_107, st_X10_game_109, st_X10_game_112, st_X10_game_113, st_X10_game_114, st_X10_game_115, st_X10_game_118, st_X10_game_119, st_X10_game_120, st_X10_game_121, st_X10_game_122, st_X10_game_91v, st_X10_game_108v, st_X10_game_71 ps_, st_X10_game_80 ps_, o1, o2, nn_one0, dv_2, if_true, if_false, nn_l4, show c < 4 by omega, nn_div2, nn_rem2', nn_e0, eq_false c1, eq_false c2, bC_inl, Option.toList, List.cons_append, List.nil_append, Nat.add_zero, lc_i, Nat.reduceAdd]
    apply run
    by_cases q1 : gainV w N i (c / 2) b (c % 2) < gainV w N i (1 - c / 2) b (c % 2)
    · rw [show restB w N i b c = false by unfold restB; rw [decide_eq_true q1]; rfl]
      simp (disch := omega) only [st_X10_game_124, st_X10_game_125, st_X10_game_126, st_X10_game_128, st_X10_game_129, st_X10_game_130, st_X10_game_131, st_X10_game_135, st_X10_game_136, st_X10_game_137, st_X10_game_142, st_X10_game_197, st_X10_game_200, st_X10_game_132 (p := 49) hq_49 ps_, st_X10_game_139 (p := 49) hq_49 ps_i, g1, g2, q1, if_true, bC_inl, Option.toList, List.cons_append, List.nil_append, Nat.add_zero, lc_i, Nat.reduceAdd, nn_r1]
      exact ih (c + 1) (by omega) q _ (by omega) hq2
    · by_cases q2 : gainV w N b (c % 2) i (c / 2) < gainV w N b (1 - c % 2) i (c / 2)
      · rw [show restB w N i b c = false by unfold restB; rw [decide_eq_true q2, decide_eq_false q1]; rfl]
        simp (disch := omega) only [st_X10_game_124, st_X10_game_125, st_X10_game_126, st_X10_game_128, st_X10_game_129, st_X10_game_130, st_X10_game_131, st_X10_game_135, st_X10_game_136, st_X10_game_137, st_X10_game_142, st_X10_game_145, st_X10_game_146, st_X10_game_147, st_X10_game_149, st_X10_game_150, st_X10_game_151, st_X10_game_152, st_X10_game_156, st_X10_game_157, st_X10_game_158, st_X10_game_163, st_X10_game_166, st_X10_game_197, st_X10_game_200, st_X10_game_132 (p := 49) hq_49 ps_, st_X10_game_139 (p := 49) hq_49 ps_i, st_X10_game_153 (p := 49) hq_49 ps_, st_X10_game_160 (p := 49) hq_49 ps_i, g1, g2, g3, g4, q1, q2, if_true, if_false, bC_inl, Option.toList, List.cons_append, List.nil_append, Nat.add_zero, lc_i, Nat.reduceAdd, nn_r1]
        exact ih (c + 1) (by omega) q _ (by omega) hq2
      · rw [show restB w N i b c = true by unfold restB; rw [decide_eq_false q2, decide_eq_false q1]; rfl]
        have ih' := ih (c + 1) (by omega) (q.1 + 1, if q.1 = 0 then Int32.ofNat (10 * (c / 2) + c % 2) else q.2) (some (.int (keptV w N i b (c / 2) (c % 2)))) (by show q.1 + 1 ≤ c + 1; omega) (by
          dsimp only
          constructor
          · intro z
            by_cases q3 : q.1 = 0
            · rw [if_pos q3] at z; rw [nn_nneg (by omega)] at z; exact z.elim
            · rw [if_neg q3] at z; exact absurd (hq2.mp z) q3
          · intro z; omega)
        by_cases q3 : q.1 = 0
        · rw [if_pos q3] at ih'
          rw [if_pos q3, if_pos rfl]
          simp (disch := omega) only [st_X10_game_124, st_X10_game_125, st_X10_game_126, st_X10_game_128, st_X10_game_129, st_X10_game_130, st_X10_game_131, st_X10_game_135, st_X10_game_136, st_X10_game_137, st_X10_game_142, st_X10_game_145, st_X10_game_146, st_X10_game_147, st_X10_game_149, st_X10_game_150, st_X10_game_151, st_X10_game_152, st_X10_game_156, st_X10_game_157, st_X10_game_158, st_X10_game_163, st_X10_game_169, st_X10_game_172, st_X10_game_174, st_X10_game_175, st_X10_game_178, st_X10_game_180, st_X10_game_182, st_X10_game_184, st_X10_game_185, st_X10_game_187, st_X10_game_189, st_X10_game_190, st_X10_game_195, st_X10_game_197, st_X10_game_200, st_X10_game_183v, st_X10_game_188v, st_X10_game_132 (p := 49) hq_49 ps_, st_X10_game_139 (p := 49) hq_49 ps_i, st_X10_game_153 (p := 49) hq_49 ps_, st_X10_game_160 (p := 49) hq_49 ps_i, g1, g2, g3, g4, q1, q2, hq2.mpr q3, dv_2, nn_div2, nn_rem2', nn_m10, nn_add, if_true, if_false, bC_inl, Option.toList, List.cons_append, List.nil_append, Nat.add_zero, lc_i, Nat.reduceAdd, nn_r1]
          exact ih'
        · rw [if_neg q3] at ih'
          rw [if_neg q3, if_pos rfl]
          have q4 : ¬ q.2 = -1 := fun z => q3 (hq2.mp z)
          simp (disch := omega) only [st_X10_game_124, st_X10_game_125, st_X10_game_126, st_X10_game_128, st_X10_game_129, st_X10_game_130, st_X10_game_131, st_X10_game_135, st_X10_game_136, st_X10_game_137, st_X10_game_142, st_X10_game_145, st_X10_game_146, st_X10_game_147, st_X10_game_149, st_X10_game_150, st_X10_game_151, st_X10_game_152, st_X10_game_156, st_X10_game_157, st_X10_game_158, st_X10_game_163, st_X10_game_169, st_X10_game_172, st_X10_game_174, st_X10_game_175, st_X10_game_193, st_X10_game_195, st_X10_game_197, st_X10_game_200, st_X10_game_132 (p := 49) hq_49 ps_, st_X10_game_139 (p := 49) hq_49 ps_i, st_X10_game_153 (p := 49) hq_49 ps_, st_X10_game_160 (p := 49) hq_49 ps_i, g1, g2, g3, g4, q1, q2, q4, if_true, if_false, bC_inl, Option.toList, List.cons_append, List.nil_append, Nat.add_zero, lc_i, Nat.reduceAdd, nn_r1]
          exact ih'
end MGAME
