/-! ===== together ===== -/
def loseR (j : Nat) (w : Rw) : Rw := if w 53 - w 53 / 3 * 3 = 0 then boilR j w else w
/-- a step that touches kettle j alone, by what stands there -/
def Own (f : Rw → Rw) (j : Nat) : Prop := (∀ w i, ¬ (i < 48 ∧ i % 8 = j) → f w i = w i) ∧ ∀ w w' i, (∀ i, i < 48 → i % 8 = j → w i = w' i) → w 53 = w' 53 → i < 48 → i % 8 = j → f w i = f w' i
theorem own_comm {f f' : Rw → Rw} {j j' : Nat} (h : Own f j) (h' : Own f' j') (hn : ¬ j = j') (w : Rw) : f (f' w) = f' (f w) := by
  funext i
  by_cases h1 : i < 48 ∧ i % 8 = j
  · rw [h'.1 _ i (by omega)]
    exact h.2 _ _ i (fun i' a b => h'.1 _ i' (by omega)) (h'.1 _ 53 (by omega)) h1.1 h1.2
  · by_cases h2 : i < 48 ∧ i % 8 = j'
    · rw [h.1 _ i h1]
      exact (h'.2 _ _ i (fun i' a b => h.1 _ i' (by omega)) (h.1 _ 53 (by omega)) h2.1 h2.2).symm
    · rw [h.1 _ i h1, h'.1 _ i h2, h'.1 _ i h2, h.1 _ i h1]
theorem own_warm {K : Kt} {p : Int32} {j : Nat} (hj : j < 8) : Own (warmR K p j) j := by
  constructor
  · intro w i hi
    unfold warmR; split <;> rw [upd_oth (by omega)]
  · intro w w' i h _ hi he
    have e1 := h (8 + j) (by omega) (by omega)
    have e2 := h (16 + j) (by omega) (by omega)
    unfold warmR
    rw [e1, e2]
    split <;> (rw [upd_at, upd_at, h i hi he])
theorem own_voice {K : Kt} {j : Nat} (hj : j < 8) : Own (voiceR K j) j := ⟨fun w i hi => voice_own.1 j w i hj hi, fun w w' i h h5 hi he => voice_own.2 j w w' i hj h h5 hi he⟩
theorem own_lose {j : Nat} (hj : j < 8) : Own (loseR j) j := by
  constructor
  · intro w i hi
    unfold loseR; split
    · exact boil_own.1 j w i hj hi
    · rfl
  · intro w w' i h h5 hi he
    unfold loseR
    rw [h5]
    split
    · exact boil_own.2 j w w' i hj h h5 hi he
    · exact h i hi he
def burnR (K : Kt) (j : Nat) (p : Int32) (w : Rw) : Rw := loseR j (burnS K j p w)
def apt (w : Rw) (j j' : Nat) (x : Int32) : Bool := !decide (w (40 + j) = -1) && (!decide (w (40 + j') = -1) && decide (px_abs (w (40 + j) - w (40 + j')) = x))
def togS (K : Kt) (j j' : Nat) (p : Int32) (w : Rw) : Rw := burnR K j' p (burnR K j p w)
def togR (K : Kt) (j j' : Nat) (p x : Int32) : Nat → Nat → Rw → Nat
  | 0, c, _ => c
  | m + 1, c, w => togR K j j' p x m (c + (bif apt (togS K j j' p w) j j' x then 1 else 0)) (upd (togS K j j' p w) 53 (togS K j j' p w 53 + 1))
section TOG
variable {d : Nat} {t : List px_E} {g : hG} {j j' q N S D L T cn sn c : Nat} {w a k v : Rw} {x y p : Int32} {K : Kt} {s : Int32} {n : Int64}
theorem loseR_n (hj : j < 8) {i : Nat} (h : 40 ≤ i) : loseR j w i = w i := by
  unfold loseR boilR
  repeat' split
  · rfl
  · rw [upd_oth (by omega), upd_oth (by omega)]
  · rw [upd_oth (by omega)]
  · rfl
theorem burnR_o (hj : j < 8) {i : Nat} (h : ¬ (i < 48 ∧ i % 8 = j)) : burnR K j p w i = w i := by
  unfold burnR burnS
  rw [(own_lose hj).1 _ i h, (own_voice hj).1 _ i h, (own_warm hj).1 _ i h]
theorem burnS_53 (hj : j < 8) : burnS K j p w 53 = w 53 := burnS_hi hj (by omega)
set_option maxHeartbeats 2000000 in
theorem c_burn (hj : j < 8) : bc (d + 2) M_X9_burn none 0 [some (.ref 0), some (.int (Int32.ofNat j)), some (.int p), none] [] (hp t (gP g 30 w s n v k)) cn sn = some (.inl (some (.int (burnR (kC g) j p w (40 + j)))), hp t (gP g 30 (burnR (kC g) j p w) s n v k), cn, sn) := by
  have e1 := c_warm (d := d) (t := t) (g := g) (r := 30) (w := w) (s := s) (n := n) (v := v) (k := k) (x := p) (cn := 0) (sn := 0) h30 hj
  have e2 := c_voice (d := d) (t := t) (g := g) (r := 30) (w := warmR (kC g) p j w) (s := s) (n := n) (v := v) (k := k) (cn := 0) (sn := 0) h30 hj
  rw [show voiceR (kC g) j (warmR (kC g) p j w) = burnS (kC g) j p w from rfl] at e2
  have e3 := c_boil (d := d) (t := t) (g := g) (r := 30) (w := burnS (kC g) j p w) (s := s) (n := n) (v := v) (k := k) (cn := 0) (sn := 0) h30 hj
  unfold burnR
  rw [loseR_n hj (i := 40 + j) (by omega)]
  unfold loseR
  by_cases h : burnS (kC g) j p w 53 - burnS (kC g) j p w 53 / 3 * 3 = 0
  · simp (disch := omega) only [st_X9_burn_0, bM_some, hg_0_1, st_X9_burn_1, st_X9_burn_4, hg_0_3, st_X9_burn_5, st_X9_burn_8, st_X9_burn_9, st_X9_burn_10 (p := 16) hq_16 ps_, bC_inl, Option.toList, List.cons_append, List.nil_append, Nat.add_zero, st_X9_burn_13, st_X9_burn_14, st_X9_burn_17, st_X9_burn_18, st_X9_burn_21, st_X9_burn_22 (p := 16) hq_16 ps_, st_X9_burn_25, st_X9_burn_26, st_X9_burn_29, st_X9_burn_31, st_X9_burn_32, cond_false, ha_30, st_X9_burn_33, lc_i, lc_r, lc_n, lc_j, lc_f, st_X9_burn_34, st_X9_burn_35, st_X9_burn_36, st_X9_burn_39, st_X9_burn_41, st_X9_burn_42, st_X9_burn_43v, st_X9_burn_44, st_X9_burn_47, st_X9_burn_48, st_X9_burn_51, st_X9_burn_52, st_X9_burn_55, st_X9_burn_56 (p := 16) hq_16 ps_, st_X9_burn_59, st_X9_burn_60, Nat.reduceAdd, gP_r h30, gP_s h30, gP_n h30, nn_1, nn_8, nn_16, nn_24, nn_32, nn_40, nn_48, nn_suc, nn_out, nn_clamp, Int32.zero_add, dv_5, dv_10, dv_3, dv_2, ne_eq, not_false_eq_true, if_false, in_m1, e1, e2, e3, nn_o53, nn_c53, h, if_true]
  · simp (disch := omega) only [st_X9_burn_0, bM_some, hg_0_1, st_X9_burn_1, st_X9_burn_4, hg_0_3, st_X9_burn_5, st_X9_burn_8, st_X9_burn_9, st_X9_burn_10 (p := 16) hq_16 ps_, bC_inl, Option.toList, List.cons_append, List.nil_append, Nat.add_zero, st_X9_burn_13, st_X9_burn_14, st_X9_burn_17, st_X9_burn_18, st_X9_burn_21, st_X9_burn_22 (p := 16) hq_16 ps_, st_X9_burn_25, st_X9_burn_26, st_X9_burn_29, st_X9_burn_31, st_X9_burn_32, cond_false, ha_30, st_X9_burn_33, lc_i, lc_r, lc_n, lc_j, lc_f, st_X9_burn_34, st_X9_burn_35, st_X9_burn_36, st_X9_burn_39, st_X9_burn_41, st_X9_burn_42, st_X9_burn_43v, st_X9_burn_44, st_X9_burn_47, st_X9_burn_48, st_X9_burn_51, st_X9_burn_52, st_X9_burn_55, st_X9_burn_56 (p := 16) hq_16 ps_, st_X9_burn_59, st_X9_burn_60, Nat.reduceAdd, gP_r h30, gP_s h30, gP_n h30, nn_1, nn_8, nn_16, nn_24, nn_32, nn_40, nn_48, nn_suc, nn_out, nn_clamp, Int32.zero_add, dv_5, dv_10, dv_3, dv_2, ne_eq, not_false_eq_true, if_false, in_m1, e1, e2, nn_o53, nn_c53, h]
set_option maxHeartbeats 4000000 in
theorem c_tog_l (hj : j < 8) (hj' : j' < 8) (hn : ¬ j = j') : ∀ m i : Nat, i + m = 61 → ∀ (w : Rw) (c : Nat) (a7 a8 : Option Value), Z54 w → ∃ w' : Rw, Z54 w' ∧
    bc (d + 3) M_X9_together none 58 [some (.ref 0), some (.int (Int32.ofNat j)), some (.int (Int32.ofNat j')), some (.int p), some (.int x), some (.int (Int32.ofNat c)), some (.int (Int32.ofNat i)), a7, a8] [] (hp t (gP g 30 w s n v k)) cn sn = some (.inl (some (.int (Int32.ofNat (togR (kC g) j j' p x m c w)))), hp t (gP g 30 w' s n v k), cn, sn) := by
  intro m
  induction m with
  | zero =>
    intro i hi w c a7 a8 hz
    refine ⟨w, hz, ?_⟩
    rw [st_X9_together_58]
    simp (disch := omega) only [st_X9_together_60, st_X9_together_62, st_X9_together_126, st_X9_together_128, nn_g60, show 60 < i by omega, if_true, togR, Nat.reduceAdd]
  | succ m ih =>
    intro i hi w c a7 a8 hz
    have e1 := c_burn (d := d) (t := t) (g := g) (j := j) (w := w) (s := s) (n := n) (v := v) (k := k) (p := p) (cn := 0) (sn := 0) hj
    have e2 := c_burn (d := d) (t := t) (g := g) (j := j') (w := burnR (kC g) j p w) (s := s) (n := n) (v := v) (k := k) (p := p) (cn := 0) (sn := 0) hj'
    rw [show burnR (kC g) j' p (burnR (kC g) j p w) = togS (kC g) j j' p w from rfl] at e2
    have e3 : burnR (kC g) j p w (40 + j) = togS (kC g) j j' p w (40 + j) := (burnR_o hj' (by omega)).symm
    rw [e3] at e1
    have hz' : Z54 (upd (togS (kC g) j j' p w) 53 (togS (kC g) j j' p w 53 + 1)) := by
      intro i' hi'
      rw [upd_oth (by omega)]
      unfold togS
      rw [burnR_o hj' (by omega), burnR_o hj (by omega)]
      exact hz i' hi'
    obtain ⟨w', hz2, e⟩ := ih (i + 1) (by omega) (upd (togS (kC g) j j' p w) 53 (togS (kC g) j j' p w 53 + 1)) (c + (bif apt (togS (kC g) j j' p w) j j' x then 1 else 0)) (some (.int (togS (kC g) j j' p w (40 + j)))) (some (.int (togS (kC g) j j' p w (40 + j')))) hz'
    refine ⟨w', hz2, ?_⟩
    rw [show togR (kC g) j j' p x (m + 1) c w = togR (kC g) j j' p x m (c + (bif apt (togS (kC g) j j' p w) j j' x then 1 else 0)) (upd (togS (kC g) j j' p w) 53 (togS (kC g) j j' p w 53 + 1)) from rfl, ← e, st_X9_together_58]
    unfold apt
    by_cases q1 : togS (kC g) j j' p w (40 + j) = -1
    · simp (disch := omega) only [st_X9_together_0, st_X9_together_1, st_X9_together_2 (p := 0) hq_0 ps_, bC_inl, Option.toList, List.cons_append, List.nil_append, Nat.add_zero, st_X9_together_5, st_X9_together_6, st_X9_together_7 (p := 0) hq_0 ps_, st_X9_together_10, st_X9_together_11, st_X9_together_12, st_X9_together_15, st_X9_together_16, st_X9_together_17, st_X9_together_20, st_X9_together_21, st_X9_together_23, st_X9_together_26, st_X9_together_28, st_X9_together_31, st_X9_together_33, st_X9_together_35, st_X9_together_38, st_X9_together_48, lc_i, lc_r, lc_n, lc_j, lc_f, st_X9_together_49, st_X9_together_51, st_X9_together_52 (p := 0) hq_0 ps_, st_X9_together_55, st_X9_together_56, st_X9_together_60, st_X9_together_62, st_X9_together_65, st_X9_together_66, st_X9_together_67, st_X9_together_68 (p := 0) hq_0 ps_, st_X9_together_71, st_X9_together_73, st_X9_together_74, st_X9_together_75, st_X9_together_76 (p := 0) hq_0 ps_, st_X9_together_79, st_X9_together_81, st_X9_together_83, st_X9_together_84, st_X9_together_87, st_X9_together_89, st_X9_together_90, st_X9_together_93, st_X9_together_95, st_X9_together_97, bP_some, m1_, st_X9_together_98, st_X9_together_101, st_X9_together_103, st_X9_together_106, st_X9_together_109, bM_some, hg_0_3, st_X9_together_110, st_X9_together_113, st_X9_together_115, cond_false, ha_30, st_X9_together_116, st_X9_together_117, st_X9_together_118, hw_30, st_X9_together_119, st_X9_together_120, st_X9_together_123, st_X9_together_126, st_X9_together_128, Nat.reduceAdd, gP_r h30, gP_s h30, gP_n h30, hI_R, gP_w h30, e1, e2, nn_g60, show ¬ 60 < i by omega, if_true, if_false, q1, nn_o53, nn_c53, nn_r1, decide_true, Bool.not_true, Bool.false_and, cond_false, Nat.add_zero]
    · by_cases q2 : togS (kC g) j j' p w (40 + j') = -1
      · simp (disch := omega) only [st_X9_together_0, st_X9_together_1, st_X9_together_2 (p := 0) hq_0 ps_, bC_inl, Option.toList, List.cons_append, List.nil_append, Nat.add_zero, st_X9_together_5, st_X9_together_6, st_X9_together_7 (p := 0) hq_0 ps_, st_X9_together_10, st_X9_together_11, st_X9_together_12, st_X9_together_15, st_X9_together_16, st_X9_together_17, st_X9_together_20, st_X9_together_21, st_X9_together_23, st_X9_together_26, st_X9_together_28, st_X9_together_31, st_X9_together_33, st_X9_together_35, st_X9_together_38, st_X9_together_48, lc_i, lc_r, lc_n, lc_j, lc_f, st_X9_together_49, st_X9_together_51, st_X9_together_52 (p := 0) hq_0 ps_, st_X9_together_55, st_X9_together_56, st_X9_together_60, st_X9_together_62, st_X9_together_65, st_X9_together_66, st_X9_together_67, st_X9_together_68 (p := 0) hq_0 ps_, st_X9_together_71, st_X9_together_73, st_X9_together_74, st_X9_together_75, st_X9_together_76 (p := 0) hq_0 ps_, st_X9_together_79, st_X9_together_81, st_X9_together_83, st_X9_together_84, st_X9_together_87, st_X9_together_89, st_X9_together_90, st_X9_together_93, st_X9_together_95, st_X9_together_97, bP_some, m1_, st_X9_together_98, st_X9_together_101, st_X9_together_103, st_X9_together_106, st_X9_together_109, bM_some, hg_0_3, st_X9_together_110, st_X9_together_113, st_X9_together_115, cond_false, ha_30, st_X9_together_116, st_X9_together_117, st_X9_together_118, hw_30, st_X9_together_119, st_X9_together_120, st_X9_together_123, st_X9_together_126, st_X9_together_128, Nat.reduceAdd, gP_r h30, gP_s h30, gP_n h30, hI_R, gP_w h30, e1, e2, nn_g60, show ¬ 60 < i by omega, if_true, if_false, q1, q2, nn_o53, nn_c53, nn_r1, decide_true, decide_false, Bool.not_true, Bool.false_and, Bool.and_false, cond_false, Nat.add_zero]
      · by_cases q3 : px_abs (togS (kC g) j j' p w (40 + j) - togS (kC g) j j' p w (40 + j')) = x
        · simp (disch := omega) only [st_X9_together_0, st_X9_together_1, st_X9_together_2 (p := 0) hq_0 ps_, bC_inl, Option.toList, List.cons_append, List.nil_append, Nat.add_zero, st_X9_together_5, st_X9_together_6, st_X9_together_7 (p := 0) hq_0 ps_, st_X9_together_10, st_X9_together_11, st_X9_together_12, st_X9_together_15, st_X9_together_16, st_X9_together_17, st_X9_together_20, st_X9_together_21, st_X9_together_23, st_X9_together_26, st_X9_together_28, st_X9_together_31, st_X9_together_33, st_X9_together_35, st_X9_together_38, st_X9_together_48, lc_i, lc_r, lc_n, lc_j, lc_f, st_X9_together_49, st_X9_together_51, st_X9_together_52 (p := 0) hq_0 ps_, st_X9_together_55, st_X9_together_56, st_X9_together_60, st_X9_together_62, st_X9_together_65, st_X9_together_66, st_X9_together_67, st_X9_together_68 (p := 0) hq_0 ps_, st_X9_together_71, st_X9_together_73, st_X9_together_74, st_X9_together_75, st_X9_together_76 (p := 0) hq_0 ps_, st_X9_together_79, st_X9_together_81, st_X9_together_83, st_X9_together_84, st_X9_together_87, st_X9_together_89, st_X9_together_90, st_X9_together_93, st_X9_together_95, st_X9_together_97, bP_some, m1_, st_X9_together_98, st_X9_together_101, st_X9_together_103, st_X9_together_106, st_X9_together_109, bM_some, hg_0_3, st_X9_together_110, st_X9_together_113, st_X9_together_115, cond_false, ha_30, st_X9_together_116, st_X9_together_117, st_X9_together_118, hw_30, st_X9_together_119, st_X9_together_120, st_X9_together_123, st_X9_together_126, st_X9_together_128, Nat.reduceAdd, gP_r h30, gP_s h30, gP_n h30, hI_R, gP_w h30, e1, e2, nn_g60, show ¬ 60 < i by omega, if_true, if_false, q1, q2, q3, nn_o53, nn_c53, nn_r1, decide_true, decide_false, Bool.not_false, Bool.true_and, cond_true]
        · simp (disch := omega) only [st_X9_together_0, st_X9_together_1, st_X9_together_2 (p := 0) hq_0 ps_, bC_inl, Option.toList, List.cons_append, List.nil_append, Nat.add_zero, st_X9_together_5, st_X9_together_6, st_X9_together_7 (p := 0) hq_0 ps_, st_X9_together_10, st_X9_together_11, st_X9_together_12, st_X9_together_15, st_X9_together_16, st_X9_together_17, st_X9_together_20, st_X9_together_21, st_X9_together_23, st_X9_together_26, st_X9_together_28, st_X9_together_31, st_X9_together_33, st_X9_together_35, st_X9_together_38, st_X9_together_48, lc_i, lc_r, lc_n, lc_j, lc_f, st_X9_together_49, st_X9_together_51, st_X9_together_52 (p := 0) hq_0 ps_, st_X9_together_55, st_X9_together_56, st_X9_together_60, st_X9_together_62, st_X9_together_65, st_X9_together_66, st_X9_together_67, st_X9_together_68 (p := 0) hq_0 ps_, st_X9_together_71, st_X9_together_73, st_X9_together_74, st_X9_together_75, st_X9_together_76 (p := 0) hq_0 ps_, st_X9_together_79, st_X9_together_81, st_X9_together_83, st_X9_together_84, st_X9_together_87, st_X9_together_89, st_X9_together_90, st_X9_together_93, st_X9_together_95, st_X9_together_97, bP_some, m1_, st_X9_together_98, st_X9_together_101, st_X9_together_103, st_X9_together_106, st_X9_together_109, bM_some, hg_0_3, st_X9_together_110, st_X9_together_113, st_X9_together_115, cond_false, ha_30, st_X9_together_116, st_X9_together_117, st_X9_together_118, hw_30, st_X9_together_119, st_X9_together_120, st_X9_together_123, st_X9_together_126, st_X9_together_128, Nat.reduceAdd, gP_r h30, gP_s h30, gP_n h30, hI_R, gP_w h30, e1, e2, nn_g60, show ¬ 60 < i by omega, if_true, if_false, q1, q2, q3, nn_o53, nn_c53, nn_r1, decide_false, Bool.not_false, Bool.true_and, cond_false, Nat.add_zero]
set_option maxHeartbeats 2000000 in
theorem c_together (hK : KN (kC g) N S D L) (hz : Z54 (g.1 29)) (hz' : Z54 (g.1 30)) (hj : j < N) (hj' : j' < N) (hn : ¬ j = j') (hpp : 1 ≤ p.toInt ∧ p.toInt ≤ 40) (hx : 0 ≤ x.toInt ∧ x.toInt ≤ 24) : ∃ w' : Rw, Z54 w' ∧
    bc (d + 3) M_X9_together none 0 [some (.ref 0), some (.int (Int32.ofNat j)), some (.int (Int32.ofNat j')), some (.int p), some (.int x), none, none, none, none] [] (hp t g) cn sn = some (.inl (some (.int (Int32.ofNat (togR (kC g) j j' p x 60 0 (g.1 29))))), hp t (gP g 30 w' (g.1 16 14) (g.2.1 16 13) (g.1 28) (g.1 27)), cn, sn) := by
  have h8 := hK.2.1
  obtain ⟨w', h2, e⟩ := c_tog_l (d := d) (t := t) (g := g) (j := j) (j' := j') (p := p) (x := x) (s := g.1 16 14) (n := g.2.1 16 13) (v := g.1 28) (k := g.1 27) (cn := cn) (sn := sn) (by omega) (by omega) hn 60 1 (by omega) (g.1 29) 0 none none hz
  refine ⟨w', h2, ?_⟩
  rw [gP_tr] at e
  rw [← e]
  have p1 : ¬ p < 1 := by rw [ii_lt, ti_1]; omega
  have p2 : ¬ 40 < p := by rw [ii_lt, ti_40]; omega
  have x1 : ¬ x < 0 := by rw [ii_lt, ti_0]; omega
  have x2 : ¬ 24 < x := by rw [ii_lt, ti_24]; omega
  simp (disch := omega) only [st_X9_together_0, st_X9_together_1, st_X9_together_2 (p := 0) hq_0 ps_, bC_inl, Option.toList, List.cons_append, List.nil_append, Nat.add_zero, st_X9_together_5, st_X9_together_6, st_X9_together_7 (p := 0) hq_0 ps_, st_X9_together_10, st_X9_together_11, st_X9_together_12, st_X9_together_15, st_X9_together_16, st_X9_together_17, st_X9_together_20, st_X9_together_21, st_X9_together_23, st_X9_together_26, st_X9_together_28, st_X9_together_31, st_X9_together_33, st_X9_together_35, st_X9_together_38, st_X9_together_48, lc_i, lc_r, lc_n, lc_j, lc_f, st_X9_together_49, st_X9_together_51, st_X9_together_52 (p := 0) hq_0 ps_, st_X9_together_55, st_X9_together_56, st_X9_together_60, st_X9_together_62, st_X9_together_65, st_X9_together_66, st_X9_together_67, st_X9_together_68 (p := 0) hq_0 ps_, st_X9_together_71, st_X9_together_73, st_X9_together_74, st_X9_together_75, st_X9_together_76 (p := 0) hq_0 ps_, st_X9_together_79, st_X9_together_81, st_X9_together_83, st_X9_together_84, st_X9_together_87, st_X9_together_89, st_X9_together_90, st_X9_together_93, st_X9_together_95, st_X9_together_97, bP_some, m1_, st_X9_together_98, st_X9_together_101, st_X9_together_103, st_X9_together_106, st_X9_together_109, bM_some, hg_0_3, st_X9_together_110, st_X9_together_113, st_X9_together_115, cond_false, ha_30, st_X9_together_116, st_X9_together_117, st_X9_together_118, hw_30, st_X9_together_119, st_X9_together_120, st_X9_together_123, st_X9_together_126, st_X9_together_128, Nat.reduceAdd, nk_y hK hj, nk_y hK hj', nn_inj, hn, p1, p2, x1, x2, if_false, c_trial hz hz']
  rfl
theorem c_together_n1 (hK : KN (kC g) N S D L) (hx : ¬ ((0 ≤ x.toInt ∧ x.toInt < N) ∧ (0 ≤ y.toInt ∧ y.toInt < N))) {z u : Int32} : bc (d + 13) M_X9_together none 0 [some (.ref 0), some (.int x), some (.int y), some (.int z), some (.int u), none, none, none, none] [] (hp t g) cn sn = some (.inr 1, hp t g, cn + 1, sn + 6) := by
  by_cases h1 : 0 ≤ x.toInt ∧ x.toInt < N
  · have h2 : ¬ (0 ≤ y.toInt ∧ y.toInt < N) := fun z => hx ⟨h1, z⟩
    have hc := ii_clamp (a := x)
    have hx : x = Int32.ofNat x.toNatClampNeg := (ii_nat (by omega)).symm
    have hy := nk_y (d := d + 12) (t := t) (cn := 0) (sn := 0) (j := x.toNatClampNeg) hK (by omega)
    rw [← hx] at hy
    simp only [st_X9_together_0, st_X9_together_1, st_X9_together_5, st_X9_together_6, st_X9_together_2 (p := 0) hq_0 ps_, st_X9_together_7 (p := 0) hq_0 ps_, hy, nk_n hK h2, bC_inl, bC_inr, Option.toList, List.nil_append, Nat.zero_add, Nat.add_zero, Nat.reduceAdd]
  · simp only [st_X9_together_0, st_X9_together_1, st_X9_together_2 (p := 0) hq_0 ps_, nk_n hK h1, bC_inr, Nat.zero_add, Nat.reduceAdd]
theorem c_together_n2 (hK : KN (kC g) N S D L) (hj : j < N) (hj' : j' < N) (hx : ¬ (¬ j = j' ∧ (1 ≤ p.toInt ∧ p.toInt ≤ 40) ∧ (0 ≤ x.toInt ∧ x.toInt ≤ 24))) : bc (d + 13) M_X9_together none 0 [some (.ref 0), some (.int (Int32.ofNat j)), some (.int (Int32.ofNat j')), some (.int p), some (.int x), none, none, none, none] [] (hp t g) cn sn = some (.inr 0, hp t g, cn + 1, sn + 6) := by
  have h8 := hK.2.1
  by_cases h0 : j = j'
  · subst h0
    simp only [st_X9_together_0, st_X9_together_1, st_X9_together_5, st_X9_together_6, st_X9_together_10, st_X9_together_11, st_X9_together_12, st_X9_together_38, st_X9_together_2 (p := 0) hq_0 ps_, st_X9_together_7 (p := 0) hq_0 ps_, nk_y hK hj, bC_inl, Option.toList, List.nil_append, Nat.add_zero, Nat.reduceAdd, if_true]
  · have h0' : ¬ Int32.ofNat j = Int32.ofNat j' := by rw [nn_inj (by omega) (by omega)]; exact h0
    by_cases h1 : p < 1
    · simp only [st_X9_together_0, st_X9_together_1, st_X9_together_5, st_X9_together_6, st_X9_together_10, st_X9_together_11, st_X9_together_12, st_X9_together_15, st_X9_together_16, st_X9_together_17, st_X9_together_38, st_X9_together_2 (p := 0) hq_0 ps_, st_X9_together_7 (p := 0) hq_0 ps_, nk_y hK hj, nk_y hK hj', bC_inl, Option.toList, List.nil_append, Nat.add_zero, Nat.reduceAdd, h0', h1, if_true, if_false]
    · by_cases h2 : 40 < p
      · simp only [st_X9_together_0, st_X9_together_1, st_X9_together_5, st_X9_together_6, st_X9_together_10, st_X9_together_11, st_X9_together_12, st_X9_together_15, st_X9_together_16, st_X9_together_17, st_X9_together_20, st_X9_together_21, st_X9_together_23, st_X9_together_38, st_X9_together_2 (p := 0) hq_0 ps_, st_X9_together_7 (p := 0) hq_0 ps_, nk_y hK hj, nk_y hK hj', bC_inl, Option.toList, List.nil_append, Nat.add_zero, Nat.reduceAdd, h0', h1, h2, if_true, if_false]
      · by_cases h3 : x < 0
        · simp only [st_X9_together_0, st_X9_together_1, st_X9_together_5, st_X9_together_6, st_X9_together_10, st_X9_together_11, st_X9_together_12, st_X9_together_15, st_X9_together_16, st_X9_together_17, st_X9_together_20, st_X9_together_21, st_X9_together_23, st_X9_together_26, st_X9_together_28, st_X9_together_38, st_X9_together_2 (p := 0) hq_0 ps_, st_X9_together_7 (p := 0) hq_0 ps_, nk_y hK hj, nk_y hK hj', bC_inl, Option.toList, List.nil_append, Nat.add_zero, Nat.reduceAdd, h0', h1, h2, h3, if_true, if_false]
        · have h4 : 24 < x := by
            rw [ii_lt, ti_1] at h1; rw [ii_lt, ti_40] at h2; rw [ii_lt, ti_0] at h3; rw [ii_lt, ti_24]
            exact Classical.byContradiction fun z => hx ⟨h0, by omega, by omega⟩
          simp only [st_X9_together_0, st_X9_together_1, st_X9_together_5, st_X9_together_6, st_X9_together_10, st_X9_together_11, st_X9_together_12, st_X9_together_15, st_X9_together_16, st_X9_together_17, st_X9_together_20, st_X9_together_21, st_X9_together_23, st_X9_together_26, st_X9_together_28, st_X9_together_31, st_X9_together_33, st_X9_together_35, st_X9_together_38, st_X9_together_2 (p := 0) hq_0 ps_, st_X9_together_7 (p := 0) hq_0 ps_, nk_y hK hj, nk_y hK hj', bC_inl, Option.toList, List.nil_append, Nat.add_zero, Nat.reduceAdd, h0', h1, h2, h3, h4, if_true, if_false]
end TOG
