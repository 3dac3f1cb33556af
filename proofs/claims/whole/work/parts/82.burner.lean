/-! ===== a burner ===== -/
def burnS (K : Kt) (j : Nat) (p : Int32) (w : Rw) : Rw := voiceR K j (warmR K p j w)
def burnI (K : Kt) (j : Nat) (p : Int32) : Nat → Rw → Bool
  | 0, _ => false
  | m + 1, w => if burnS K j p w (40 + j) = -1 then burnI K j p m (burnS K j p w) else true
def heatI (M p : Int32) : Nat → Int32 → Int32
  | 0, h => h
  | i + 1, h => heatI M p i (px_min 150 (h + px_max 1 (10 * p / M)))
def burnO (b : Nat → Bool) : Nat → Nat → Int32
  | 0, _ => -1
  | m + 1, p => bif b p then Int32.ofNat p else burnO b m (p + 1)
def burnB (K : Kt) (w : Rw) (j n p : Nat) : Bool := !decide (couldR K j w = 0) && !decide (heatI (massR K j w) (Int32.ofNat p) n (w (8 + j)) < 100)
section BURN
variable {d : Nat} {t : List px_E} {g : hG} {j q N S D L T cn sn : Nat} {w a k : Rw} {x y v p : Int32} {K : Kt}
theorem heat_b {M p h : Int32} (hM : 5 ≤ M.toInt ∧ M.toInt ≤ 50) (hp : 1 ≤ p.toInt ∧ p.toInt ≤ 40) (hh : 0 ≤ h.toInt ∧ h.toInt ≤ 150) : h.toInt ≤ (px_min 150 (h + px_max 1 (10 * p / M))).toInt ∧ (px_min 150 (h + px_max 1 (10 * p / M))).toInt ≤ 150 := by
  have hg := gainR_b (m := M) (p := p) hM.1 hM.2 (by omega) hp.2
  unfold gainR at hg
  rw [if_pos (by rw [ii_lt, ti_0]; omega)] at hg
  rw [px_min_i, ti_150]
  have e : (h + px_max 1 (10 * p / M)).toInt = h.toInt + (px_max 1 (10 * p / M)).toInt := by rw [ii_add] <;> omega
  omega
theorem heat_m {M p : Int32} (hM : 5 ≤ M.toInt ∧ M.toInt ≤ 50) (hp : 1 ≤ p.toInt ∧ p.toInt ≤ 40) : ∀ (m : Nat) (h : Int32), 0 ≤ h.toInt ∧ h.toInt ≤ 150 → h.toInt ≤ (heatI M p m h).toInt := by
  intro m
  induction m with
  | zero => intro h _; exact Int.le_refl _
  | succ m ih =>
    intro h hh
    have h1 := heat_b hM hp hh
    have h2 := ih (px_min 150 (h + px_max 1 (10 * p / M))) (by omega)
    unfold heatI
    omega
theorem massR_b (hf : 0 ≤ (w (16 + j)).toInt ∧ (w (16 + j)).toInt ≤ 40) : 5 ≤ (massR K j w).toInt ∧ (massR K j w).toInt ≤ 50 := by
  unfold massR
  split
  · rw [ii_add] <;> rw [ti_10] <;> omega
  · rw [ii_add] <;> rw [ti_5] <;> omega
theorem warm_h (hf : 0 ≤ (w (16 + j)).toInt ∧ (w (16 + j)).toInt ≤ 40) (hp : 1 ≤ p.toInt) : warmR K p j w = upd w (8 + j) (px_min 150 (w (8 + j) + px_max 1 (10 * p / massR K j w))) := by
  have h0 : ¬ p = 0 := by rw [ii_eq, ti_0]; omega
  rw [← hot_warm hf.1 hf.2 h0]
  rfl
theorem burnS_at (hj : j < 8) (hf : 0 ≤ (w (16 + j)).toInt ∧ (w (16 + j)).toInt ≤ 40) (hp : 1 ≤ p.toInt) : burnS K j p w (8 + j) = px_min 150 (w (8 + j) + px_max 1 (10 * p / massR K j w)) ∧ burnS K j p w (16 + j) = w (16 + j) ∧ burnS K j p w (24 + j) = w (24 + j) ∧ (burnS K j p w (40 + j) = -1 ↔ (px_min 150 (w (8 + j) + px_max 1 (10 * p / massR K j w)) < 100 ∨ couldR K j w = 0)) := by
  unfold burnS
  rw [warm_h hf hp]
  generalize px_min 150 (w (8 + j) + px_max 1 (10 * p / massR K j w)) = h
  have ec : couldR K j (upd w (8 + j) h) = couldR K j w := by unfold couldR; rw [upd_oth (by omega), upd_oth (by omega)]
  unfold voiceR
  rw [ec, upd_same]
  by_cases h1 : h < 100
  · rw [if_pos h1]
    simp only [upd_at, show ¬ 8 + j = 40 + j by omega, show ¬ 16 + j = 40 + j by omega, show ¬ 24 + j = 40 + j by omega, show ¬ 16 + j = 8 + j by omega, show ¬ 24 + j = 8 + j by omega, if_true, if_false, h1, true_or, and_self]
  · rw [if_neg h1]
    by_cases h2 : couldR K j w = 0
    · rw [if_pos h2]
      simp only [upd_at, show ¬ 8 + j = 40 + j by omega, show ¬ 16 + j = 40 + j by omega, show ¬ 24 + j = 40 + j by omega, show ¬ 16 + j = 8 + j by omega, show ¬ 24 + j = 8 + j by omega, if_true, if_false, h2, or_true, and_self]
    · rw [if_neg h2]
      simp only [upd_at, show ¬ 8 + j = 40 + j by omega, show ¬ 16 + j = 40 + j by omega, show ¬ 24 + j = 40 + j by omega, show ¬ 16 + j = 8 + j by omega, show ¬ 24 + j = 8 + j by omega, show ¬ 8 + j = 32 + j by omega, show ¬ 16 + j = 32 + j by omega, show ¬ 24 + j = 32 + j by omega, show ¬ 40 + j = 32 + j by omega, if_true, if_false, h1, h2, or_self, true_and, iff_false]
      exact noteR_ne
theorem burnI_eq (hj : j < 8) (hp : 1 ≤ p.toInt ∧ p.toInt ≤ 40) : ∀ (m : Nat) (w : Rw), (0 ≤ (w (16 + j)).toInt ∧ (w (16 + j)).toInt ≤ 40) → (0 ≤ (w (8 + j)).toInt ∧ (w (8 + j)).toInt ≤ 150) → burnI K j p (m + 1) w = (!decide (couldR K j w = 0) && !decide (heatI (massR K j w) p (m + 1) (w (8 + j)) < 100)) := by
  intro m
  induction m with
  | zero =>
    intro w hf hh
    obtain ⟨-, -, -, e⟩ := burnS_at (K := K) hj hf hp.1
    unfold burnI burnI heatI heatI
    by_cases h : burnS K j p w (40 + j) = -1
    · rw [if_pos h]
      rcases e.mp h with q | q
      · rw [decide_eq_true q, Bool.not_true, Bool.and_false]
      · rw [decide_eq_true q, Bool.not_true, Bool.false_and]
    · rw [if_neg h, decide_eq_false (fun q => h (e.mpr (Or.inr q))), decide_eq_false (fun q => h (e.mpr (Or.inl q)))]; rfl
  | succ m ih =>
    intro w hf hh
    obtain ⟨e8, e16, e24, e⟩ := burnS_at (K := K) hj hf hp.1
    have hM := massR_b (K := K) hf
    have hb := heat_b hM hp hh
    have em : massR K j (burnS K j p w) = massR K j w := by unfold massR; rw [e16]
    have ec : couldR K j (burnS K j p w) = couldR K j w := by unfold couldR; rw [e16, e24]
    rw [show burnI K j p (m + 1 + 1) w = if burnS K j p w (40 + j) = -1 then burnI K j p (m + 1) (burnS K j p w) else true from rfl]
    rw [show heatI (massR K j w) p (m + 1 + 1) (w (8 + j)) = heatI (massR K j w) p (m + 1) (px_min 150 (w (8 + j) + px_max 1 (10 * p / massR K j w))) from rfl]
    by_cases h : burnS K j p w (40 + j) = -1
    · rw [if_pos h, ih _ (by rw [e16]; exact hf) (by rw [e8]; omega), em, ec, e8]
    · rw [if_neg h]
      have q1 : ¬ couldR K j w = 0 := fun q => h (e.mpr (Or.inr q))
      have q2 : ¬ px_min 150 (w (8 + j) + px_max 1 (10 * p / massR K j w)) < 100 := fun q => h (e.mpr (Or.inl q))
      have q3 := heat_m hM hp (m + 1) (px_min 150 (w (8 + j) + px_max 1 (10 * p / massR K j w))) (by omega)
      have q4 : ¬ heatI (massR K j w) p (m + 1) (px_min 150 (w (8 + j) + px_max 1 (10 * p / massR K j w))) < 100 := by
        rw [ii_lt, ti_100] at q2 ⊢; omega
      rw [decide_eq_false q1, decide_eq_false q4]; rfl
theorem c_trial_g {s : Int32} {n : Int64} {v : Rw} (h : Z54 (g.1 29)) (h' : Z54 w) : bc (d + 1) M_X9_beginTrial none 0 [some (.ref 0)] [] (hp t (gP g 30 w s n v k)) cn sn = some (.inl none, hp t (gP g 30 (g.1 29) s n v k), cn, sn) := by
  have := c_trial (d := d) (t := t) (g := gP g 30 w s n v k) (cn := cn) (sn := sn) h (by rw [gP_r h30]; exact h')
  rw [this]
  rw [show (gP g 30 w s n v k).1 29 = g.1 29 from rfl, gP_w h30]
theorem burnS_hi (hj : j < 8) {i : Nat} (hi : 48 ≤ i) : burnS K j p w i = w i := by
  unfold burnS
  rw [voice_own.1 j _ i hj (by omega)]
  unfold warmR; split <;> rw [upd_oth (by omega)]
set_option maxHeartbeats 4000000 in
theorem c_burn_i (hK : KN (kC g) N S D L) (hj : j < N) (hq : q ≤ 120) (p : Nat) : ∀ m i : Nat, i + m = q + 1 → ∀ (w : Rw) (s : Int32) (n : Int64) (v k : Rw), Z54 w → ∃ (w' : Rw) (b4 : Option Value), Z54 w' ∧
    bc (d + 2) M_X9_burner none 25 [some (.ref 0), some (.int (Int32.ofNat j)), some (.int (Int32.ofNat q)), some (.int (Int32.ofNat p)), some (.int (Int32.ofNat i))] [] (hp t (gP g 30 w s n v k)) cn sn =
    bif burnI (kC g) j (Int32.ofNat p) m w then some (.inl (some (.int (Int32.ofNat p))), hp t (gP g 30 w' s n v k), cn, sn) else bc (d + 2) M_X9_burner none 77 [some (.ref 0), some (.int (Int32.ofNat j)), some (.int (Int32.ofNat q)), some (.int (Int32.ofNat p)), b4] [] (hp t (gP g 30 w' s n v k)) cn sn := by
  have h8 := hK.2.1
  have hj8 : j < 8 := by omega
  intro m
  induction m with
  | zero =>
    intro i hi w s n v k hz
    refine ⟨w, some (.int (Int32.ofNat i)), hz, ?_⟩
    rw [st_X9_burner_25]
    simp (disch := omega) only [st_X9_burner_27, st_X9_burner_28, nn_lt, show q < i by omega, if_true, burnI, cond_false, Nat.reduceAdd]
  | succ m ih =>
    intro i hi w s n v k hz
    have hz' : Z54 (burnS (kC g) j (Int32.ofNat p) w) := fun x hx => (burnS_hi hj8 (by omega)).trans (hz x hx)
    rw [show burnI (kC g) j (Int32.ofNat p) (m + 1) w = if burnS (kC g) j (Int32.ofNat p) w (40 + j) = -1 then burnI (kC g) j (Int32.ofNat p) m (burnS (kC g) j (Int32.ofNat p) w) else true from rfl]
    rw [st_X9_burner_25]
    have e1 := c_warm (d := d) (t := t) (g := g) (r := 30) (w := w) (s := s) (n := n) (v := v) (k := k) (x := Int32.ofNat p) (cn := 0) (sn := 0) h30 hj8
    have e2 := c_voice (d := d) (t := t) (g := g) (r := 30) (w := warmR (kC g) (Int32.ofNat p) j w) (s := s) (n := n) (v := v) (k := k) (cn := 0) (sn := 0) h30 hj8
    rw [show voiceR (kC g) j (warmR (kC g) (Int32.ofNat p) j w) = burnS (kC g) j (Int32.ofNat p) w from rfl] at e2
    by_cases h : burnS (kC g) j (Int32.ofNat p) w (40 + j) = -1
    · obtain ⟨w', b4, hz2, e⟩ := ih (i + 1) (by omega) (burnS (kC g) j (Int32.ofNat p) w) s n v k hz'
      refine ⟨w', b4, hz2, ?_⟩
      rw [if_pos h, ← e]
      simp (disch := omega) only [st_X9_burner_0, st_X9_burner_1, st_X9_burner_2 (p := 0) hq_0 ps_, bC_inl, Option.toList, List.cons_append, List.nil_append, Nat.add_zero, st_X9_burner_5, st_X9_burner_6, st_X9_burner_7 (p := 0) hq_0 ps_, st_X9_burner_10, lc_i, lc_r, lc_n, lc_j, lc_f, st_X9_burner_11, st_X9_burner_13, st_X9_burner_15, st_X9_burner_18, st_X9_burner_19 (p := 0) hq_0 ps_, st_X9_burner_22, st_X9_burner_23, st_X9_burner_27, st_X9_burner_28, st_X9_burner_31, bM_some, hg_0_1, st_X9_burner_32, st_X9_burner_35, hg_0_3, st_X9_burner_36, st_X9_burner_39, st_X9_burner_40, st_X9_burner_41 (p := 16) hq_16 ps_, st_X9_burner_44, st_X9_burner_45, st_X9_burner_48, st_X9_burner_49, st_X9_burner_52, st_X9_burner_53 (p := 16) hq_16 ps_, st_X9_burner_56, st_X9_burner_57, st_X9_burner_60, st_X9_burner_62, st_X9_burner_63, cond_false, ha_30, st_X9_burner_64, st_X9_burner_65, st_X9_burner_66, st_X9_burner_69, st_X9_burner_70, st_X9_burner_71, st_X9_burner_74, st_X9_burner_77, st_X9_burner_80, st_X9_burner_83, st_X9_burner_84, Nat.reduceAdd, gP_r h30, gP_s h30, gP_n h30, nn_1, nn_8, nn_16, nn_24, nn_32, nn_40, nn_48, nn_suc, nn_out, nn_clamp, Int32.zero_add, nn_lt, show ¬ q < i by omega, if_true, if_false, e1, e2, h, nn_r1]
    · refine ⟨_, none, hz', ?_⟩
      rw [if_neg h, cond_true]
      simp (disch := omega) only [st_X9_burner_0, st_X9_burner_1, st_X9_burner_2 (p := 0) hq_0 ps_, bC_inl, Option.toList, List.cons_append, List.nil_append, Nat.add_zero, st_X9_burner_5, st_X9_burner_6, st_X9_burner_7 (p := 0) hq_0 ps_, st_X9_burner_10, lc_i, lc_r, lc_n, lc_j, lc_f, st_X9_burner_11, st_X9_burner_13, st_X9_burner_15, st_X9_burner_18, st_X9_burner_19 (p := 0) hq_0 ps_, st_X9_burner_22, st_X9_burner_23, st_X9_burner_27, st_X9_burner_28, st_X9_burner_31, bM_some, hg_0_1, st_X9_burner_32, st_X9_burner_35, hg_0_3, st_X9_burner_36, st_X9_burner_39, st_X9_burner_40, st_X9_burner_41 (p := 16) hq_16 ps_, st_X9_burner_44, st_X9_burner_45, st_X9_burner_48, st_X9_burner_49, st_X9_burner_52, st_X9_burner_53 (p := 16) hq_16 ps_, st_X9_burner_56, st_X9_burner_57, st_X9_burner_60, st_X9_burner_62, st_X9_burner_63, cond_false, ha_30, st_X9_burner_64, st_X9_burner_65, st_X9_burner_66, st_X9_burner_69, st_X9_burner_70, st_X9_burner_71, st_X9_burner_74, st_X9_burner_77, st_X9_burner_80, st_X9_burner_83, st_X9_burner_84, Nat.reduceAdd, gP_r h30, gP_s h30, gP_n h30, nn_1, nn_8, nn_16, nn_24, nn_32, nn_40, nn_48, nn_suc, nn_out, nn_clamp, Int32.zero_add, nn_lt, show ¬ q < i by omega, if_false, e1, e2, h]
set_option maxHeartbeats 4000000 in
theorem c_burn_o (hK : KN (kC g) N S D L) (hO : KO (kC g) N S D L) (hR' : RI (kC g) N S T (g.1 29)) (hz : Z54 (g.1 29)) (hj : j < N) (h1 : 1 ≤ q) (hq : q ≤ 120) : ∀ m p : Nat, p + m = 41 → 1 ≤ p → ∀ (w : Rw) (s : Int32) (n : Int64) (v k : Rw) (a4 : Option Value), Z54 w → ∃ (w' : Rw) (s' : Int32) (n' : Int64) (v' k' : Rw), Z54 w' ∧
    bc (d + 2) M_X9_burner none 12 [some (.ref 0), some (.int (Int32.ofNat j)), some (.int (Int32.ofNat q)), some (.int (Int32.ofNat p)), a4] [] (hp t (gP g 30 w s n v k)) cn sn = some (.inl (some (.int (burnO (burnB (kC g) (g.1 29) j q) m p))), hp t (gP g 30 w' s' n' v' k'), cn, sn) := by
  have h8 := hK.2.1
  obtain ⟨q1, q2, q3, q4, q5⟩ := hR'.1 j hj
  have qs := (hO.1 j hj).1
  intro m
  induction m with
  | zero =>
    intro p hp hp1 w s n v k a4 hw
    refine ⟨w, s, n, v, k, hw, ?_⟩
    rw [st_X9_burner_12]
    simp (disch := omega) only [st_X9_burner_13, st_X9_burner_15, st_X9_burner_83, st_X9_burner_84, nn_g40, show 40 < p by omega, if_true, burnO, Nat.reduceAdd]
  | succ m ih =>
    intro p hp hp1 w s n v k a4 hw
    obtain ⟨w', b4, hz2, e⟩ := c_burn_i (d := d) (t := t) (g := g) (cn := cn) (sn := sn) (q := q) hK hj hq p q 1 (by omega) (g.1 29) s n v k hz
    have hb : burnI (kC g) j (Int32.ofNat p) q (g.1 29) = burnB (kC g) (g.1 29) j q p := by
      obtain ⟨q', rfl⟩ := Nat.exists_eq_add_of_le h1
      rw [Nat.add_comm 1 q']
      exact burnI_eq (by omega) (by rw [ii_ofNat (by omega)]; omega) q' (g.1 29) ⟨q3.1, by omega⟩ q2
    rw [hb, show Int32.ofNat 1 = (1 : Int32) from rfl] at e
    rw [show burnO (burnB (kC g) (g.1 29) j q) (m + 1) p = bif burnB (kC g) (g.1 29) j q p then Int32.ofNat p else burnO (burnB (kC g) (g.1 29) j q) m (p + 1) from rfl]
    rw [st_X9_burner_12]
    cases hbb : burnB (kC g) (g.1 29) j q p with
    | true =>
      rw [hbb, cond_true] at e
      refine ⟨w', s, n, v, k, hz2, ?_⟩
      simp (disch := omega) only [st_X9_burner_13, st_X9_burner_15, st_X9_burner_18, st_X9_burner_22, st_X9_burner_23, st_X9_burner_19 (p := 0) hq_0 ps_, nn_g40, show ¬ 40 < p by omega, if_false, c_trial_g hz hw, bC_inl, Option.toList, List.nil_append, Nat.add_zero, lc_i, Nat.reduceAdd, e, cond_true]
    | false =>
      rw [hbb, cond_false] at e
      obtain ⟨w2, s2, n2, v2, k2, hz3, e3⟩ := ih (p + 1) (by omega) (by omega) w' s n v k b4 hz2
      refine ⟨w2, s2, n2, v2, k2, hz3, ?_⟩
      rw [cond_false, ← e3]
      simp (disch := omega) only [st_X9_burner_13, st_X9_burner_15, st_X9_burner_18, st_X9_burner_22, st_X9_burner_23, st_X9_burner_19 (p := 0) hq_0 ps_, nn_g40, show ¬ 40 < p by omega, if_false, c_trial_g hz hw, bC_inl, Option.toList, List.nil_append, Nat.add_zero, lc_i, Nat.reduceAdd, e, st_X9_burner_77, st_X9_burner_80, nn_r1]
set_option maxHeartbeats 2000000 in
theorem c_burner (hK : KN (kC g) N S D L) (hO : KO (kC g) N S D L) (hR' : RI (kC g) N S T (g.1 29)) (hz : Z54 (g.1 29)) (hz' : Z54 (g.1 30)) (hj : j < N) (h1 : 1 ≤ q) (hq : q ≤ 120) : ∃ (w' : Rw) (s' : Int32) (n' : Int64) (v' k' : Rw), Z54 w' ∧
    bc (d + 2) M_X9_burner none 0 [some (.ref 0), some (.int (Int32.ofNat j)), some (.int (Int32.ofNat q)), none, none] [] (hp t g) cn sn = some (.inl (some (.int (burnO (burnB (kC g) (g.1 29) j q) 40 1))), hp t (gP g 30 w' s' n' v' k'), cn, sn) := by
  obtain ⟨w', s', n', v', k', h2, e⟩ := c_burn_o (d := d) (t := t) (cn := cn) (sn := sn) hK hO hR' hz hj h1 hq 40 1 (by omega) (by omega) (g.1 30) (g.1 16 14) (g.2.1 16 13) (g.1 28) (g.1 27) none hz'
  refine ⟨w', s', n', v', k', h2, ?_⟩
  rw [gP_eta] at e
  rw [← e]
  simp (disch := omega) only [st_X9_burner_0, st_X9_burner_1, st_X9_burner_5, st_X9_burner_6, st_X9_burner_10, st_X9_burner_11, st_X9_burner_2 (p := 0) hq_0 ps_, st_X9_burner_7 (p := 0) hq_0 ps_, nk_y hK hj, nf_y h1 hq, bC_inl, Option.toList, List.nil_append, Nat.add_zero, lc_i, Nat.reduceAdd]
  rfl
theorem c_burner_n1 (hK : KN (kC g) N S D L) (hx : ¬ (0 ≤ x.toInt ∧ x.toInt < N)) : bc (d + 13) M_X9_burner none 0 [some (.ref 0), some (.int x), some (.int y), none, none] [] (hp t g) cn sn = some (.inr 1, hp t g, cn + 1, sn + 6) := by
  simp only [st_X9_burner_0, st_X9_burner_1, st_X9_burner_2 (p := 0) hq_0 ps_, nk_n hK hx, bC_inr, Nat.zero_add, Nat.reduceAdd]
theorem c_burner_n2 (hK : KN (kC g) N S D L) (hj : j < N) (hy : ¬ (1 ≤ y.toInt ∧ y.toInt ≤ 120)) : bc (d + 13) M_X9_burner none 0 [some (.ref 0), some (.int (Int32.ofNat j)), some (.int y), none, none] [] (hp t g) cn sn = some (.inr 0, hp t g, cn + 1, sn + 6) := by
  simp only [st_X9_burner_0, st_X9_burner_1, st_X9_burner_5, st_X9_burner_6, st_X9_burner_2 (p := 0) hq_0 ps_, st_X9_burner_7 (p := 0) hq_0 ps_, nk_y hK hj, nf_n hy, bC_inl, bC_inr, Option.toList, List.nil_append, Nat.zero_add, Nat.add_zero, Nat.reduceAdd]
end BURN
