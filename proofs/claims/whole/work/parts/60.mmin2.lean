/-! ===== the reference: a minute, put together ===== -/
section MMIN2
variable {d : Nat} {t : List px_E} {g : hG} {h : px_H} {j N S D L T cn sn : Nat} {w a k : Rw} {x y z : Int32} {K : Kt}
theorem readyM_53 {m v dd : Nat} (hd : dd < 5) : readyM K N dd m v w 53 = w 53 := by
  unfold readyM
  repeat' split
  · rfl
  · exact upd_oth (by omega)
  · rfl
set_option maxHeartbeats 4000000 in
theorem m_min_3 (hM : MK K N S D L g) (hK : KN K N S D L) : ∀ m j : Nat, j + m = D → ∀ (w : Rw) (a2 : Option Value), 0 ≤ (w 53).toInt → ∃ b1 b2 : Option Value,
    bc (d + 2) M_X10_aMinute none 83 [some (.ref 49), some (.int (Int32.ofNat j)), a2] [] (hp t (gM g w a k)) cn sn =
    bc (d + 2) M_X10_aMinute none 142 [some (.ref 49), b1, b2] [] (hp t (gM g (loopR (fun dd => readyM K N dd 61 0) m j w) a k)) cn sn := by
  have h5 := hK.2.2.2.2.2.1
  intro m
  induction m with
  | zero =>
    intro j hj w a2 h53
    refine ⟨some (.int (Int32.ofNat j)), a2, ?_⟩
    rw [st_X10_aMinute_83]
    simp (disch := omega) only [st_X10_aMinute_84, st_X10_aMinute_85, st_X10_aMinute_88, st_X10_aMinute_89, st_X10_aMinute_90, bM_some, hg_49_3, ha_52, cond_false, nn_1, nn_8, nn_16, nn_24, nn_32, nn_40, nn_48, nn_suc, nn_out, nn_clamp, Int32.zero_add, gM_64, gM_65, gM_66, gM_67, gM_68, gM_69, gM_70, gM_33, gM_72, gM_73, gM_o, gM_49, gMw_64, gMw_65, gMw_66, gMw_67, gMw_68, gMw_69, gMw_70, gMw_33, gMw_72, gMw_73, Nat.zero_add, dv_5, dv_10, dv_3, dv_2, ne_eq, not_false_eq_true, if_false, in_m1, nn_oc2, nn_c2, hM.di hK, nn_lt, show ¬ j < D by omega, loopR, Nat.reduceAdd]
  | succ m ih =>
    intro j hj w a2 h53
    have hjD : j < D := by omega
    obtain ⟨M, hS, h3⟩ := hK.2.2.2.2.2.2.2.2 j hjD
    obtain ⟨b2, e1⟩ := m_min_3v (d := d) (t := t) (a := a) (k := k) (cn := cn) (sn := sn) hM hK hjD hS h3 61 0 (by omega) w h53
    obtain ⟨c1, c2, e2⟩ := ih (j + 1) (by omega) (readyM K N j 61 0 w) b2 (by rw [readyM_53 (by omega)]; exact h53)
    refine ⟨c1, c2, ?_⟩
    unfold loopR
    rw [← e2, st_X10_aMinute_83]
    rw [show Int32.ofNat 0 = (0 : Int32) from rfl] at e1
    simp (disch := omega) only [st_X10_aMinute_84, st_X10_aMinute_85, st_X10_aMinute_88, st_X10_aMinute_89, st_X10_aMinute_90, st_X10_aMinute_93, st_X10_aMinute_94, bM_some, lc_i, lc_r, hg_49_3, ha_52, cond_false, nn_1, nn_8, nn_16, nn_24, nn_32, nn_40, nn_48, nn_suc, nn_out, nn_clamp, Int32.zero_add, gM_64, gM_65, gM_66, gM_67, gM_68, gM_69, gM_70, gM_33, gM_72, gM_73, gM_o, gM_49, gMw_64, gMw_65, gMw_66, gMw_67, gMw_68, gMw_69, gMw_70, gMw_33, gMw_72, gMw_73, Nat.zero_add, dv_5, dv_10, dv_3, dv_2, ne_eq, not_false_eq_true, if_false, in_m1, nn_oc2, nn_c2, hM.di hK, nn_lt, hjD, if_true, Nat.reduceAdd, e1, st_X10_aMinute_136, st_X10_aMinute_139]
set_option maxHeartbeats 4000000 in
theorem m_min_4 (hM : MK K N S D L g) (hK : KN K N S D L) : ∀ m j : Nat, j + m = N → ∀ (w : Rw) (a2 : Option Value), ∃ b1 b2 : Option Value,
    bc (d + 2) M_X10_aMinute none 144 [some (.ref 49), some (.int (Int32.ofNat j)), a2] [] (hp t (gM g w a k)) cn sn =
    bc (d + 2) M_X10_aMinute none 165 [some (.ref 49), b1, b2] [] (hp t (gM g (loopR (fun j w => if w 53 - w 53 / 3 * 3 = 0 then boilR j w else w) m j w) a k)) cn sn := by
  have h8 := hK.2.1
  intro m
  induction m with
  | zero =>
    intro j hj w a2
    refine ⟨some (.int (Int32.ofNat j)), a2, ?_⟩
    rw [st_X10_aMinute_144]
    simp (disch := omega) only [st_X10_aMinute_145, st_X10_aMinute_146, st_X10_aMinute_149, st_X10_aMinute_150, st_X10_aMinute_151, bM_some, hg_49_3, ha_52, cond_false, nn_1, nn_8, nn_16, nn_24, nn_32, nn_40, nn_48, nn_suc, nn_out, nn_clamp, Int32.zero_add, gM_64, gM_65, gM_66, gM_67, gM_68, gM_69, gM_70, gM_33, gM_72, gM_73, gM_o, gM_49, gMw_64, gMw_65, gMw_66, gMw_67, gMw_68, gMw_69, gMw_70, gMw_33, gMw_72, gMw_73, Nat.zero_add, dv_5, dv_10, dv_3, dv_2, ne_eq, not_false_eq_true, if_false, in_m1, nn_oc0, nn_c0, hM.n hK, nn_lt, show ¬ j < N by omega, loopR, Nat.reduceAdd]
  | succ m ih =>
    intro j hj w a2
    have hjN : j < N := by omega
    have hj8 : j < 8 := by omega
    obtain ⟨b1, b2, e⟩ := ih (j + 1) (by omega) (if w 53 - w 53 / 3 * 3 = 0 then boilR j w else w) a2
    refine ⟨b1, b2, ?_⟩
    unfold loopR
    rw [← e, st_X10_aMinute_144]
    simp (disch := omega) only [st_X10_aMinute_145, st_X10_aMinute_146, st_X10_aMinute_149, st_X10_aMinute_150, st_X10_aMinute_151, st_X10_aMinute_154, st_X10_aMinute_155, st_X10_aMinute_159, st_X10_aMinute_162, st_X10_aMinute_156 (p := 49) hq_49 ps_, bM_some, lc_r, hg_49_3, ha_52, cond_false, bC_inl, Option.toList, List.nil_append, Nat.add_zero, Nat.reduceAdd, nn_1, nn_8, nn_16, nn_24, nn_32, nn_40, nn_48, nn_suc, nn_out, nn_clamp, Int32.zero_add, gM_64, gM_65, gM_66, gM_67, gM_68, gM_69, gM_70, gM_33, gM_72, gM_73, gM_o, gM_49, gMw_64, gMw_65, gMw_66, gMw_67, gMw_68, gMw_69, gMw_70, gMw_33, gMw_72, gMw_73, Nat.zero_add, dv_5, dv_10, dv_3, dv_2, ne_eq, not_false_eq_true, if_false, in_m1, nn_oc0, nn_c0, hM.n hK, nn_lt, hjN, if_true, m_lose hj8]
set_option maxHeartbeats 4000000 in
theorem m_min_5 (hM : MK K N S D L g) (hK : KN K N S D L) (hL0 : ¬ L = 0) (ok : okC (K 8) L 0 0) : ∀ m j : Nat, j + m = N → ∀ (w a k : Rw) (a2 : Option Value), ∃ b1 b2 : Option Value,
    bc (d + 3) M_X10_aMinute none 167 [some (.ref 49), some (.int (Int32.ofNat j)), a2] [] (hp t (gM g w a k)) cn sn =
    bc (d + 3) M_X10_aMinute none 217 [some (.ref 49), b1, b2] [] (hp t (gM g (cookM K L N m j (w, a, k)).1 (cookM K L N m j (w, a, k)).2.1 (cookM K L N m j (w, a, k)).2.2)) cn sn := by
  have h8 := hK.2.1
  have h6 := hK.2.2.2.2.2.2.2.1
  intro m
  induction m with
  | zero =>
    intro j hj w a k a2
    refine ⟨some (.int (Int32.ofNat j)), a2, ?_⟩
    rw [st_X10_aMinute_167]
    simp (disch := omega) only [st_X10_aMinute_168, st_X10_aMinute_169, st_X10_aMinute_172, st_X10_aMinute_173, st_X10_aMinute_174, bM_some, hg_49_3, ha_52, cond_false, nn_1, nn_8, nn_16, nn_24, nn_32, nn_40, nn_48, nn_suc, nn_out, nn_clamp, Int32.zero_add, gM_64, gM_65, gM_66, gM_67, gM_68, gM_69, gM_70, gM_33, gM_72, gM_73, gM_o, gM_49, gMw_64, gMw_65, gMw_66, gMw_67, gMw_68, gMw_69, gMw_70, gMw_33, gMw_72, gMw_73, Nat.zero_add, dv_5, dv_10, dv_3, dv_2, ne_eq, not_false_eq_true, if_false, in_m1, nn_oc0, nn_c0, hM.n hK, nn_lt, show ¬ j < N by omega, cookM, Nat.reduceAdd]
  | succ m ih =>
    intro j hj w a k a2
    have hjN : j < N := by omega
    have hL1 : 0 < L := by omega
    unfold cookM
    by_cases h1 : w j = -1
    · obtain ⟨b1, b2, e⟩ := ih (j + 1) (by omega) w a k a2
      refine ⟨b1, b2, ?_⟩
      simp only [h1, if_true]
      rw [← e, st_X10_aMinute_167]
      simp (disch := omega) only [st_X10_aMinute_168, st_X10_aMinute_169, st_X10_aMinute_172, st_X10_aMinute_173, st_X10_aMinute_174, st_X10_aMinute_177, st_X10_aMinute_178, st_X10_aMinute_181, st_X10_aMinute_182, st_X10_aMinute_183, st_X10_aMinute_186, st_X10_aMinute_187, st_X10_aMinute_190, st_X10_aMinute_191, st_X10_aMinute_192, st_X10_aMinute_193, st_X10_aMinute_211, st_X10_aMinute_214, bM_some, lc_r, hg_49_3, hg_49_25, ha_52, ha_64, cond_false, Nat.reduceAdd, nn_1, nn_8, nn_16, nn_24, nn_32, nn_40, nn_48, nn_suc, nn_out, nn_clamp, Int32.zero_add, gM_64, gM_65, gM_66, gM_67, gM_68, gM_69, gM_70, gM_33, gM_72, gM_73, gM_o, gM_49, gMw_64, gMw_65, gMw_66, gMw_67, gMw_68, gMw_69, gMw_70, gMw_33, gMw_72, gMw_73, Nat.zero_add, dv_5, dv_10, dv_3, dv_2, ne_eq, not_false_eq_true, if_false, in_m1, nn_oc0, nn_c0, nn_oc3, nn_c3, hM.n hK, hM.l hK, nn_lt, nn_g0, hjN, hL1, if_true, h1]
    · by_cases h2 : 0 < givV (givA (K 8) (lookM w N j a) L 0 0 k)
      · obtain ⟨b1, b2, e⟩ := ih (j + 1) (by omega) (upd w j (-1)) (lookM w N j a) (givA (K 8) (lookM w N j a) L 0 0 k).2 a2
        refine ⟨b1, b2, ?_⟩
        simp only [h1, if_false, h2, if_true]
        rw [← e, st_X10_aMinute_167]
        simp (disch := omega) only [st_X10_aMinute_168, st_X10_aMinute_169, st_X10_aMinute_172, st_X10_aMinute_173, st_X10_aMinute_174, st_X10_aMinute_177, st_X10_aMinute_178, st_X10_aMinute_181, st_X10_aMinute_182, st_X10_aMinute_183, st_X10_aMinute_186, st_X10_aMinute_187, st_X10_aMinute_190, st_X10_aMinute_191, st_X10_aMinute_192, st_X10_aMinute_193, st_X10_aMinute_196, st_X10_aMinute_197, st_X10_aMinute_201, st_X10_aMinute_204, st_X10_aMinute_205, st_X10_aMinute_208, st_X10_aMinute_209, st_X10_aMinute_210, st_X10_aMinute_211, st_X10_aMinute_214, st_X10_aMinute_198 (p := 49) hq_49 ps_, bM_some, lc_r, hg_49_3, hg_49_25, ha_52, ha_64, hw_64, cond_false, bC_inl, Option.toList, List.cons_append, List.nil_append, Nat.add_zero, Nat.reduceAdd, nn_1, nn_8, nn_16, nn_24, nn_32, nn_40, nn_48, nn_suc, nn_out, nn_clamp, Int32.zero_add, gM_64, gM_65, gM_66, gM_67, gM_68, gM_69, gM_70, gM_33, gM_72, gM_73, gM_o, gM_49, gMw_64, gMw_65, gMw_66, gMw_67, gMw_68, gMw_69, gMw_70, gMw_33, gMw_72, gMw_73, Nat.zero_add, dv_5, dv_10, dv_3, dv_2, ne_eq, not_false_eq_true, if_false, in_m1, nn_oc0, nn_c0, nn_oc3, nn_c3, hM.n hK, hM.l hK, nn_lt, nn_g0, hjN, hL1, if_true, h1, h2, nn_one0, m_isLifted hM hK ok hjN]
      · obtain ⟨b1, b2, e⟩ := ih (j + 1) (by omega) w (lookM w N j a) (givA (K 8) (lookM w N j a) L 0 0 k).2 a2
        refine ⟨b1, b2, ?_⟩
        simp only [h1, if_false, h2]
        rw [← e, st_X10_aMinute_167]
        simp (disch := omega) only [st_X10_aMinute_168, st_X10_aMinute_169, st_X10_aMinute_172, st_X10_aMinute_173, st_X10_aMinute_174, st_X10_aMinute_177, st_X10_aMinute_178, st_X10_aMinute_181, st_X10_aMinute_182, st_X10_aMinute_183, st_X10_aMinute_186, st_X10_aMinute_187, st_X10_aMinute_190, st_X10_aMinute_191, st_X10_aMinute_192, st_X10_aMinute_193, st_X10_aMinute_196, st_X10_aMinute_197, st_X10_aMinute_201, st_X10_aMinute_211, st_X10_aMinute_214, st_X10_aMinute_198 (p := 49) hq_49 ps_, bM_some, lc_r, hg_49_3, hg_49_25, ha_52, ha_64, cond_false, bC_inl, Option.toList, List.cons_append, List.nil_append, Nat.add_zero, Nat.reduceAdd, nn_1, nn_8, nn_16, nn_24, nn_32, nn_40, nn_48, nn_suc, nn_out, nn_clamp, Int32.zero_add, gM_64, gM_65, gM_66, gM_67, gM_68, gM_69, gM_70, gM_33, gM_72, gM_73, gM_o, gM_49, gMw_64, gMw_65, gMw_66, gMw_67, gMw_68, gMw_69, gMw_70, gMw_33, gMw_72, gMw_73, Nat.zero_add, dv_5, dv_10, dv_3, dv_2, ne_eq, not_false_eq_true, if_false, in_m1, nn_oc0, nn_c0, nn_oc3, nn_c3, hM.n hK, hM.l hK, nn_lt, nn_g0, hjN, hL1, if_true, h1, h2, m_isLifted hM hK ok hjN]
theorem loopR_at {f : Nat → Rw → Rw} {i : Nat} (hf : ∀ j w, f j w i = w i) : ∀ (m j : Nat) (w : Rw), loopR f m j w i = w i := by
  intro m
  induction m with
  | zero => intro j w; rfl
  | succ m ih => intro j w; unfold loopR; rw [ih, hf]
theorem loopR_lt {f : Nat → Rw → Rw} {i B : Nat} (hf : ∀ j w, j < B → f j w i = w i) : ∀ (m j : Nat) (w : Rw), j + m ≤ B → loopR f m j w i = w i := by
  intro m
  induction m with
  | zero => intro j w _; rfl
  | succ m ih => intro j w h; unfold loopR; rw [ih _ _ (by omega), hf _ _ (by omega)]
theorem warmR_53 (hj : j < 8) : warmR K x j w 53 = w 53 := by unfold warmR; split <;> rw [upd_oth (by omega)]
theorem voiceR_53 (hj : j < 8) : voiceR K j w 53 = w 53 := by
  unfold voiceR; repeat' split
  · rw [upd_oth (by omega)]
  · rw [upd_oth (by omega)]
  · rw [upd_oth (by omega), upd_oth (by omega)]
set_option maxHeartbeats 4000000 in
theorem m_aMinute (hM : MK K N S D L g) (hK : KN K N S D L) (hO : KO K N S D L) (hR : RI K N S T w) :
    bc (d + 3) M_X10_aMinute none 0 [some (.ref 49), none, none] [] (hp t (gM g w a k)) cn sn =
    some (.inl none, hp t (gM g (minM K N D L w a k).1 (minM K N D L w a k).2.1 (minM K N D L w a k).2.2), cn, sn) := by
  have h8 := hK.2.1
  have h6 := hK.2.2.2.2.2.2.2.1
  have hw1 : ∀ i, i < N → (w i = -1 ∨ (0 ≤ (w i).toInt ∧ (w i).toInt < S)) ∧ 0 ≤ (w (16 + i)).toInt ∧ (w (16 + i)).toInt ≤ 40 := by
    intro i hi
    have q := hR.1 i hi
    have q2 := (hO.1 i hi).1
    exact ⟨q.1, q.2.2.1.1, by omega⟩
  simp only [st_X10_aMinute_0, st_X10_aMinute_1, lc_r, Nat.reduceAdd]
  obtain ⟨b1, b2, e1⟩ := m_min_1 (d := d + 1) (t := t) (a := a) (k := k) (cn := cn) (sn := sn) hM hK hO N 0 (by omega) w none hw1
  rw [show Int32.ofNat 0 = (0 : Int32) from rfl] at e1
  rw [e1]
  simp only [st_X10_aMinute_58, st_X10_aMinute_59, lc_r, Nat.reduceAdd]
  obtain ⟨c1, c2, e2⟩ := m_min_2 (d := d) (t := t) (a := a) (k := k) (cn := cn) (sn := sn) hM hK N 0 (by omega) (warmL K N w) b2
  rw [show Int32.ofNat 0 = (0 : Int32) from rfl] at e2
  rw [show loopR (fun j w => warmR K (powerR K (w j)) j w) N 0 w = warmL K N w from rfl, e2]
  simp only [st_X10_aMinute_81, st_X10_aMinute_82, lc_r, Nat.reduceAdd]
  have h53 : (loopR (voiceR K) N 0 (warmL K N w)) 53 = w 53 := by
    rw [loopR_lt (B := 8) (fun j w hj => voiceR_53 hj) _ _ _ (by omega)]
    exact loopR_lt (f := fun j w => warmR K (powerR K (w j)) j w) (B := 8) (fun j w hj => warmR_53 hj) _ _ _ (by omega)
  obtain ⟨f1, f2, e3⟩ := m_min_3 (d := d + 1) (t := t) (a := a) (k := k) (cn := cn) (sn := sn) hM hK D 0 (by omega) (loopR (voiceR K) N 0 (warmL K N w)) c2 (by rw [h53]; exact hR.2.1)
  rw [show Int32.ofNat 0 = (0 : Int32) from rfl] at e3
  rw [e3]
  simp only [st_X10_aMinute_142, st_X10_aMinute_143, lc_r, Nat.reduceAdd]
  obtain ⟨p1, p2, e4⟩ := m_min_4 (d := d + 1) (t := t) (a := a) (k := k) (cn := cn) (sn := sn) hM hK N 0 (by omega) (loopR (fun dd => readyM K N dd 61 0) D 0 (loopR (voiceR K) N 0 (warmL K N w))) f2
  rw [show Int32.ofNat 0 = (0 : Int32) from rfl] at e4
  rw [e4]
  simp only [st_X10_aMinute_165, st_X10_aMinute_166, lc_r, Nat.reduceAdd]
  unfold minM
  rw [show loopR (fun j w => if w 53 - w 53 / 3 * 3 = 0 then boilR j w else w) N 0 (loopR (fun dd => readyM K N dd 61 0) D 0 (loopR (voiceR K) N 0 (warmL K N w))) = loseL N (loopR (fun dd => readyM K N dd 61 0) D 0 (loopR (voiceR K) N 0 (warmL K N w))) from rfl]
  generalize loseL N (loopR (fun dd => readyM K N dd 61 0) D 0 (loopR (voiceR K) N 0 (warmL K N w))) = w4
  by_cases hL : L = 0
  · subst hL
    have hz : ¬ 0 < (0 : Nat) := by omega
    by_cases hN : N = 0
    · subst hN
      rw [st_X10_aMinute_167]
      simp (disch := omega) only [st_X10_aMinute_168, st_X10_aMinute_169, st_X10_aMinute_172, st_X10_aMinute_173, st_X10_aMinute_174, st_X10_aMinute_217, st_X10_aMinute_219, st_X10_aMinute_222, st_X10_aMinute_223, st_X10_aMinute_224, st_X10_aMinute_227, st_X10_aMinute_218r, bM_some, hg_49_3, hg_49_33, hs_49_33, ha_52, cond_false, Nat.reduceAdd, nn_1, nn_8, nn_16, nn_24, nn_32, nn_40, nn_48, nn_suc, nn_out, nn_clamp, Int32.zero_add, gM_64, gM_65, gM_66, gM_67, gM_68, gM_69, gM_70, gM_33, gM_72, gM_73, gM_o, gM_49, gMw_64, gMw_65, gMw_66, gMw_67, gMw_68, gMw_69, gMw_70, gMw_33, gMw_72, gMw_73, Nat.zero_add, dv_5, dv_10, dv_3, dv_2, ne_eq, not_false_eq_true, if_false, in_m1, nn_oc0, nn_c0, hM.n hK, nn_g0, hz, if_true]
    · have hN0 : 0 < N := by omega
      rw [st_X10_aMinute_167]
      simp (disch := omega) only [st_X10_aMinute_168, st_X10_aMinute_169, st_X10_aMinute_172, st_X10_aMinute_173, st_X10_aMinute_174, st_X10_aMinute_177, st_X10_aMinute_178, st_X10_aMinute_181, st_X10_aMinute_182, st_X10_aMinute_183, st_X10_aMinute_217, st_X10_aMinute_219, st_X10_aMinute_222, st_X10_aMinute_223, st_X10_aMinute_224, st_X10_aMinute_227, st_X10_aMinute_218r, bM_some, hg_49_3, hg_49_33, hs_49_33, ha_52, cond_false, Nat.reduceAdd, nn_1, nn_8, nn_16, nn_24, nn_32, nn_40, nn_48, nn_suc, nn_out, nn_clamp, Int32.zero_add, gM_64, gM_65, gM_66, gM_67, gM_68, gM_69, gM_70, gM_33, gM_72, gM_73, gM_o, gM_49, gMw_64, gMw_65, gMw_66, gMw_67, gMw_68, gMw_69, gMw_70, gMw_33, gMw_72, gMw_73, Nat.zero_add, dv_5, dv_10, dv_3, dv_2, ne_eq, not_false_eq_true, if_false, in_m1, nn_oc0, nn_c0, nn_oc3, nn_c3, hM.n hK, hM.l hK, nn_g0, hz, hN0, if_true]
  · have ok : okC (K 8) L 0 0 := by
      rcases hO.2.2.2 with q | q
      · exact absurd q hL
      · exact q
    obtain ⟨q1, q2, e5⟩ := m_min_5 (d := d) (t := t) (cn := cn) (sn := sn) hM hK hL ok N 0 (by omega) w4 a k p2
    rw [show Int32.ofNat 0 = (0 : Int32) from rfl] at e5
    rw [e5]
    simp (disch := omega) only [st_X10_aMinute_217, st_X10_aMinute_219, st_X10_aMinute_222, st_X10_aMinute_223, st_X10_aMinute_224, st_X10_aMinute_227, st_X10_aMinute_218r, bM_some, hg_49_33, hs_49_33, Nat.reduceAdd, nn_1, nn_8, nn_16, nn_24, nn_32, nn_40, nn_48, nn_suc, nn_out, nn_clamp, Int32.zero_add, gM_64, gM_65, gM_66, gM_67, gM_68, gM_69, gM_70, gM_33, gM_72, gM_73, gM_o, gM_49, gMw_64, gMw_65, gMw_66, gMw_67, gMw_68, gMw_69, gMw_70, gMw_33, gMw_72, gMw_73, Nat.zero_add, dv_5, dv_10, dv_3, dv_2, ne_eq, not_false_eq_true, if_false, in_m1, hL]
end MMIN2
