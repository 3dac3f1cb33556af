/-! ===== the calls that ask, side by side: the others ===== -/
section QUERY2
variable {N S D L n q T : Nat} {ac : Nat → Rw} {o : Option Im} {t : List px_E} {g g1 G : hG} {w a k : Rw} {v x y : Int32} {fL fM : px_H → Option (px_Res × px_H × Nat × Nat)}
theorem ex_rng {A B : Nat} (hx : (A : Int) ≤ x.toInt ∧ x.toInt ≤ B) : ∃ j : Nat, x = Int32.ofNat j ∧ A ≤ j ∧ j ≤ B := by
  have hc := ii_clamp (a := x)
  exact ⟨x.toNatClampNeg, (ii_nat (by omega)).symm, by omega, by omega⟩
theorem rl_done (H : RelP N S D L n q T ac o t g) (x : Int32) : OkL (fun h => bc 99 M_L_done none 0 [some (.ref 0), some (.int x), some (.ref 88), none] [] h 0 0) (fun h => bc 99 M_X10_done none 0 [some (.ref 49), some (.int x), none] [] h 0 0) t g := by
  by_cases hx : 0 ≤ x.toInt ∧ x.toInt < D
  · obtain ⟨j, ex, hj⟩ := ex_nat hx
    subst ex
    obtain ⟨w', s', n', v', k', hz, e⟩ := c_done (d := 94) (t := t) (cn := 0) (sn := 0) (r_K H) (r_O H) (r_z H) (r_30 H) hj
    refine okL_y H (Fr_gP (Or.inl rfl) (Fr_rf H) hz) (lx_done_y (d := 98) e) (fun G HG hM hw _ => ?_)
    obtain ⟨f, a', k', e⟩ := m_done (d := 94) (t := t) (g := G) (cn := 0) (sn := 0) (w := g.1 29) (a := G.1 72) (k := G.1 73) hM (r_K H) (r_O H) (r_R H) hj
    rw [r_gM hw] at e
    exact ⟨_, e, frm_R HG hw, rfl, rfl⟩
  · exact okL_n H (by decide) (lx_done_1 (d := 98) (c_done_n (d := 85) (r_K H) hx)) (rf_n H (f := fun h => bc 99 M_X10_done none 0 [some (.ref 49), some (.int x), none] [] h 0 0) (m_done_n (d := 95) (r_M H) (r_K H) hx))
theorem rl_then (H : RelP N S D L n q T ac o t g) (x y : Int32) : OkL (fun h => bc 99 M_L_then none 0 [some (.ref 0), some (.int x), some (.int y), some (.ref 88), none] [] h 0 0) (fun h => bc 99 M_X10_then none 0 [some (.ref 49), some (.int x), some (.int y), none] [] h 0 0) t g := by
  by_cases hx : 0 ≤ x.toInt ∧ x.toInt < N
  · by_cases hy : 1 ≤ y.toInt ∧ y.toInt ≤ 120
    · obtain ⟨j, ex, hj⟩ := ex_nat hx
      subst ex
      obtain ⟨m, ey, h1, h2⟩ := ex_rng (A := 1) (B := 120) hy
      subst ey
      obtain ⟨w', s', n', v', k', hz, e⟩ := c_then (d := 94) (t := t) (cn := 0) (sn := 0) (r_K H) (r_O H) (r_z H) (r_30 H) hj h1 h2
      refine okL_y H (Fr_gP (Or.inl rfl) (Fr_rf H) hz) (lx_then_y (d := 98) e) (fun G HG hM hw _ => ?_)
      obtain ⟨a', k', e⟩ := m_then (d := 95) (t := t) (g := G) (cn := 0) (sn := 0) (w := g.1 29) (a := G.1 72) (k := G.1 73) hM (r_K H) (r_O H) (r_R H) hj h1 h2
      rw [r_gM hw] at e
      exact ⟨_, e, frm_B HG hw, rfl, rfl⟩
    · have e2 := m_then_n2 (d := 95) (t := t) (w := g.1 29) (a := g.1 72) (k := g.1 73) (cn := 0) (sn := 0) (r_M H) (r_K H) hx hy
      obtain ⟨j, ex, hj⟩ := ex_nat hx
      subst ex
      exact okL_n H (by decide) (lx_then_0 (d := 98) (c_then_n2 (d := 85) (r_K H) hj hy)) (rf_n H (f := fun h => bc 99 M_X10_then none 0 [some (.ref 49), some (.int (Int32.ofNat j)), some (.int y), none] [] h 0 0) e2)
  · exact okL_n H (by decide) (lx_then_1 (d := 98) (c_then_n1 (d := 85) (r_K H) hx)) (rf_n H (f := fun h => bc 99 M_X10_then none 0 [some (.ref 49), some (.int x), some (.int y), none] [] h 0 0) (m_then_n1 (d := 95) (r_M H) (r_K H) hx))
theorem rl_fugue (H : RelP N S D L n q T ac o t g) (x : Int32) : OkL (fun h => bc 99 M_L_fugue none 0 [some (.ref 0), some (.int x), some (.ref 88), none] [] h 0 0) (fun h => bc 99 M_X10_fugue none 0 [some (.ref 49), some (.int x), none, none] [] h 0 0) t g := by
  by_cases hx : 1 ≤ x.toInt ∧ x.toInt ≤ 8
  · obtain ⟨j, ex, h1, h2⟩ := ex_rng (A := 1) (B := 8) hx
    subst ex
    obtain ⟨w', s', n', v', k', hz, e⟩ := c_fugue (d := 94) (t := t) (cn := 0) (sn := 0) (r_K H) (r_O H) (r_z H) (r_30 H) h1 h2
    refine okL_y H (Fr_gP (Or.inl rfl) (Fr_rf H) hz) (lx_fugue_y (d := 98) e) (fun G HG hM hw _ => ?_)
    obtain ⟨a', k', e⟩ := m_fugue (d := 95) (t := t) (g := G) (cn := 0) (sn := 0) (w := g.1 29) (a := G.1 72) (k := G.1 73) hM (r_K H) (r_O H) (r_R H) h1 h2
    rw [r_gM hw] at e
    exact ⟨_, e, frm_B HG hw, rfl, rfl⟩
  · exact okL_n H (by decide) (lx_fugue_0 (d := 98) (c_fugue_n (d := 86) hx)) (rf_n H (f := fun h => bc 99 M_X10_fugue none 0 [some (.ref 49), some (.int x), none, none] [] h 0 0) (m_fugue_n (d := 95) hx))
theorem rl_loudest (H : RelP N S D L n q T ac o t g) (x : Int32) : OkL (fun h => bc 99 M_L_loudest none 0 [some (.ref 0), some (.int x), some (.ref 88), none] [] h 0 0) (fun h => bc 99 M_X10_loudest none 0 [some (.ref 49), some (.int x), none, none, none] [] h 0 0) t g := by
  by_cases hx : x = 0 ∨ x = 1
  · obtain ⟨w', s', n', v', k', hz, e⟩ := c_loudest (d := 94) (t := t) (cn := 0) (sn := 0) (r_K H) (r_O H) (r_z H) (r_30 H) hx
    refine okL_y H (Fr_gP (Or.inl rfl) (Fr_rf H) hz) (lx_loudest_y (d := 98) e) (fun G HG hM hw _ => ?_)
    obtain ⟨a', k', e⟩ := m_loudest (d := 95) (t := t) (g := G) (cn := 0) (sn := 0) (w := g.1 29) (a := G.1 72) (k := G.1 73) hM (r_K H) (r_O H) (r_R H) hx
    rw [r_gM hw] at e
    exact ⟨_, e, frm_B HG hw, rfl, rfl⟩
  · have h0 : ¬ x = 0 := fun z => hx (Or.inl z)
    have h1 : ¬ x = 1 := fun z => hx (Or.inr z)
    exact okL_n H (by decide) (lx_loudest_1 (d := 98) (c_loudest_n (d := 86) h0 h1)) (rf_n H (f := fun h => bc 99 M_X10_loudest none 0 [some (.ref 49), some (.int x), none, none, none] [] h 0 0) (m_loudest_n (d := 95) h0 h1))
theorem rl_tuned (H : RelP N S D L n q T ac o t g) (x y : Int32) : OkL (fun h => bc 99 M_L_tuned none 0 [some (.ref 0), some (.int x), some (.int y), some (.ref 88), none] [] h 0 0) (fun h => bc 99 M_X10_tuned none 0 [some (.ref 49), some (.int x), some (.int y)] [] h 0 0) t g := by
  by_cases hx : 0 ≤ x.toInt ∧ x.toInt < N
  · obtain ⟨j, ex, hj⟩ := ex_nat hx
    subst ex
    by_cases hy : 0 ≤ y.toInt ∧ y.toInt ≤ 60
    · refine okL_y H (Fr_rf H) (lx_tuned_y (d := 98) (c_tuned (d := 96) (r_K H) (r_O H) (r_R H) hj hy.1 hy.2)) (fun G HG hM hw _ => ?_)
      have e := m_tuned (d := 96) (t := t) (g := G) (cn := 0) (sn := 0) (w := g.1 29) (a := G.1 72) (k := G.1 73) hM (r_K H) (r_O H) hj hy.1 hy.2
      rw [r_gM hw] at e
      exact ⟨_, e, frm_1 HG hw, rfl, rfl⟩
    · exact okL_n H (by decide) (lx_tuned_0 (d := 98) (c_tuned_n2 (d := 85) (r_K H) hj hy)) (rf_n H (f := fun h => bc 99 M_X10_tuned none 0 [some (.ref 49), some (.int (Int32.ofNat j)), some (.int y)] [] h 0 0) (m_tuned_n2 (d := 96) (r_M H) (r_K H) hj hy))
  · exact okL_n H (by decide) (lx_tuned_1 (d := 98) (c_tuned_n1 (d := 85) (r_K H) hx)) (rf_n H (f := fun h => bc 99 M_X10_tuned none 0 [some (.ref 49), some (.int x), some (.int y)] [] h 0 0) (m_tuned_n1 (d := 96) (r_M H) (r_K H) hx))
theorem rl_chord (H : RelP N S D L n q T ac o t g) (x : Int32) : OkL (fun h => bc 99 M_L_chord none 0 [some (.ref 0), some (.int x), some (.ref 88), none] [] h 0 0) (fun h => bc 99 M_X10_chord none 0 [some (.ref 49), some (.int x), none, none] [] h 0 0) t g := by
  by_cases hx : 0 ≤ x.toInt ∧ x.toInt < D
  · obtain ⟨j, ex, hj⟩ := ex_nat hx
    subst ex
    obtain ⟨c6, c7, c8, v, hb, e⟩ := c_chord (d := 93) (t := t) (cn := 0) (sn := 0) (r_K H) (r_O H) (r_R H) hj
    refine okL_y H (g1 := gNt g c6 c7 c8) (Fr_hR (Fr_hR (Fr_hR (Fr_rf H) (fun j => by unfold nes esN; omega)) (fun j => by unfold nes esN; omega)) (fun j => by unfold nes esN; omega)) (lx_chord_y (d := 98) e) (fun G HG hM hw _ => ?_)
    obtain ⟨r, hr, e⟩ := m_chord (d := 90) (t := t) (g := G) (cn := 0) (sn := 0) (w := g.1 29) (a := G.1 72) (k := G.1 73) hM (r_K H) (r_O H) (r_R H) hj
    rw [r_gM hw, ← chord_eq (r_O H) (r_R H) hj hb hr] at e
    exact ⟨_, e, frm_1 HG hw, rfl, rfl⟩
  · exact okL_n H (by decide) (lx_chord_1 (d := 98) (c_chord_n (d := 85) (r_K H) hx)) (rf_n H (f := fun h => bc 99 M_X10_chord none 0 [some (.ref 49), some (.int x), none, none] [] h 0 0) (m_chord_n (d := 97) (r_M H) (r_K H) hx))
theorem rl_burner (H : RelP N S D L n q T ac o t g) (x y : Int32) : OkL (fun h => bc 99 M_L_burner none 0 [some (.ref 0), some (.int x), some (.int y), some (.ref 88), none] [] h 0 0) (fun h => bc 99 M_X10_burner none 0 [some (.ref 49), some (.int x), some (.int y), none, none, none, none] [] h 0 0) t g := by
  by_cases hx : 0 ≤ x.toInt ∧ x.toInt < N
  · obtain ⟨j, ex, hj⟩ := ex_nat hx
    subst ex
    by_cases hy : 1 ≤ y.toInt ∧ y.toInt ≤ 120
    · obtain ⟨m, ey, h1, h2⟩ := ex_rng (A := 1) (B := 120) hy
      subst ey
      obtain ⟨w', s', n', v', k', hz, e⟩ := c_burner (d := 96) (t := t) (cn := 0) (sn := 0) (r_K H) (r_O H) (r_R H) (r_z H) (r_30 H) hj h1 h2
      refine okL_y H (Fr_gP (Or.inl rfl) (Fr_rf H) hz) (lx_burner_y (d := 98) e) (fun G HG hM hw _ => ?_)
      have e := m_burner (d := 96) (t := t) (g := G) (cn := 0) (sn := 0) (w := g.1 29) (a := G.1 72) (k := G.1 73) hM (r_K H) (r_O H) (r_R H) hj h1 h2
      rw [r_gM hw] at e
      exact ⟨_, e, frm_1 HG hw, rfl, rfl⟩
    · exact okL_n H (by decide) (lx_burner_0 (d := 98) (c_burner_n2 (d := 85) (r_K H) hj hy)) (rf_n H (f := fun h => bc 99 M_X10_burner none 0 [some (.ref 49), some (.int (Int32.ofNat j)), some (.int y), none, none, none, none] [] h 0 0) (m_burner_n2 (d := 96) (r_M H) (r_K H) hj hy))
  · exact okL_n H (by decide) (lx_burner_1 (d := 98) (c_burner_n1 (d := 85) (r_K H) hx)) (rf_n H (f := fun h => bc 99 M_X10_burner none 0 [some (.ref 49), some (.int x), some (.int y), none, none, none, none] [] h 0 0) (m_burner_n1 (d := 96) (r_M H) (r_K H) hx))
theorem rl_together (H : RelP N S D L n q T ac o t g) (x y p u : Int32) : OkL (fun h => bc 99 M_L_together none 0 [some (.ref 0), some (.int x), some (.int y), some (.int p), some (.int u), some (.ref 88), none] [] h 0 0) (fun h => bc 99 M_X10_together none 0 [some (.ref 49), some (.int x), some (.int y), some (.int p), some (.int u), none, none] [] h 0 0) t g := by
  by_cases hx : (0 ≤ x.toInt ∧ x.toInt < N) ∧ (0 ≤ y.toInt ∧ y.toInt < N)
  · obtain ⟨j, ex, hj⟩ := ex_nat hx.1
    obtain ⟨j', ey, hj'⟩ := ex_nat hx.2
    subst ex
    subst ey
    by_cases hy : ¬ j = j' ∧ (1 ≤ p.toInt ∧ p.toInt ≤ 40) ∧ (0 ≤ u.toInt ∧ u.toInt ≤ 24)
    · obtain ⟨w', hz, e⟩ := c_together (d := 95) (t := t) (cn := 0) (sn := 0) (r_K H) (r_z H) (r_30 H) hj hj' hy.1 hy.2.1 hy.2.2
      refine okL_y H (Fr_gP (Or.inl rfl) (Fr_rf H) hz) (lx_together_y (d := 98) e) (fun G HG hM hw _ => ?_)
      have e := m_together (d := 96) (t := t) (g := G) (cn := 0) (sn := 0) (w := g.1 29) (a := G.1 72) (k := G.1 73) hM (r_K H) (r_O H) (r_R H) hj hj' hy.1 hy.2.1 hy.2.2
      rw [r_gM hw] at e
      exact ⟨_, e, frm_B HG hw, rfl, rfl⟩
    · exact okL_n H (by decide) (lx_together_0 (d := 98) (c_together_n2 (d := 85) (r_K H) hj hj' hy)) (rf_n H (f := fun h => bc 99 M_X10_together none 0 [some (.ref 49), some (.int (Int32.ofNat j)), some (.int (Int32.ofNat j')), some (.int p), some (.int u), none, none] [] h 0 0) (m_together_n2 (d := 96) (r_M H) (r_K H) hj hj' hy))
  · exact okL_n H (by decide) (lx_together_1 (d := 98) (c_together_n1 (d := 85) (r_K H) hx)) (rf_n H (f := fun h => bc 99 M_X10_together none 0 [some (.ref 49), some (.int x), some (.int y), some (.int p), some (.int u), none, none] [] h 0 0) (m_together_n1 (d := 96) (r_M H) (r_K H) hx))
theorem r_nb (H : RelP N S D L n q T ac o t g) : ∀ j, j < N → -1 ≤ (g.1 29 (40 + j)).toInt ∧ (g.1 29 (40 + j)).toInt ≤ 60 := fun j hj => ((r_R H).1 j hj).2.2.2.2
theorem rl_game (H : RelP N S D L n q T ac o t g) (x y p : Int32) : OkL (fun h => bc 99 M_L_game none 0 [some (.ref 0), some (.int x), some (.int y), some (.int p), some (.ref 88), none] [] h 0 0) (fun h => bc 99 M_X10_game none 0 [some (.ref 49), some (.int x), some (.int y), some (.int p), none, none, none, none, none] [] h 0 0) t g := by
  by_cases hx : (0 ≤ x.toInt ∧ x.toInt < N) ∧ (0 ≤ y.toInt ∧ y.toInt < N) ∧ (p = 0 ∨ p = 1)
  · obtain ⟨j, ex, hj⟩ := ex_nat hx.1
    obtain ⟨j', ey, hj'⟩ := ex_nat hx.2.1
    subst ex
    subst ey
    by_cases hy : j = j'
    · subst hy
      exact okL_n H (by decide) (lx_game_0 (d := 98) (c_game_n2 (d := 85) (r_K H) hj hx.2.2)) (rf_n H (f := fun h => bc 99 M_X10_game none 0 [some (.ref 49), some (.int (Int32.ofNat j)), some (.int (Int32.ofNat j)), some (.int p), none, none, none, none, none] [] h 0 0) (m_game_n2 (d := 96) (r_M H) (r_K H) hj hx.2.2))
    · refine okL_y H (Fr_rf H) (lx_game_y (d := 98) (c_game (d := 94) (r_K H) hj hj' hy hx.2.2)) (fun G HG hM hw _ => ?_)
      have e := m_game (d := 96) (t := t) (g := G) (cn := 0) (sn := 0) (w := g.1 29) (a := G.1 72) (k := G.1 73) hM (r_K H) (r_nb H) hj hj' hy hx.2.2
      rw [r_gM hw] at e
      exact ⟨_, e, frm_1 HG hw, rfl, rfl⟩
  · exact okL_n H (by decide) (lx_game_1 (d := 98) (c_game_n1 (d := 85) (r_K H) hx)) (rf_n H (f := fun h => bc 99 M_X10_game none 0 [some (.ref 49), some (.int x), some (.int y), some (.int p), none, none, none, none, none] [] h 0 0) (m_game_n1 (d := 96) (r_M H) (r_K H) hx))
theorem x012 (hx : 0 ≤ x.toInt ∧ x.toInt ≤ 2) : x = 0 ∨ x = 1 ∨ x = 2 := by
  have : x.toInt = 0 ∨ x.toInt = 1 ∨ x.toInt = 2 := by omega
  rcases this with h | h | h
  · exact Or.inl (Int32.toInt_inj.mp (h.trans (by decide)))
  · exact Or.inr (Or.inl (Int32.toInt_inj.mp (h.trans (by decide))))
  · exact Or.inr (Or.inr (Int32.toInt_inj.mp (h.trans (by decide))))
theorem x01 (hx : 0 ≤ x.toInt ∧ x.toInt ≤ 1) : x = 0 ∨ x = 1 := by
  have : x.toInt = 0 ∨ x.toInt = 1 := by omega
  rcases this with h | h
  · exact Or.inl (Int32.toInt_inj.mp (h.trans (by decide)))
  · exact Or.inr (Int32.toInt_inj.mp (h.trans (by decide)))
theorem rl_evening (H : RelP N S D L n q T ac o t g) (z u x : Int32) : OkL (fun h => bc 99 M_L_evening none 0 [some (.ref 0), some (.int z), some (.int u), some (.int x), some (.ref 88), none] [] h 0 0) (fun h => bc 99 M_X10_evening none 0 [some (.ref 49), some (.int z), some (.int u), some (.int x), none, none, none, none] [] h 0 0) t g := by
  by_cases hx : 0 ≤ x.toInt ∧ x.toInt ≤ 2
  · by_cases hu : 0 ≤ u.toInt ∧ u.toInt ≤ 90
    · obtain ⟨m, eu, -, h2⟩ := ex_rng (A := 0) (B := 90) hu
      subst eu
      obtain ⟨w', s', n', v', k', hz, e⟩ := c_evening (d := 94) (t := t) (cn := 0) (sn := 0) (y := z) (r_K H) (r_O H) (r_z H) (r_30 H) h2 (x012 hx)
      refine okL_y H (Fr_gP (Or.inl rfl) (Fr_rf H) hz) (lx_evening_y (d := 98) e) (fun G HG hM hw _ => ?_)
      obtain ⟨z', a', k', e⟩ := m_evening (d := 95) (t := t) (g := G) (cn := 0) (sn := 0) (w := g.1 29) (a := G.1 72) (k := G.1 73) (y := z) hM (r_K H) (r_O H) (r_R H) h2 (x012 hx)
      rw [r_gM hw] at e
      exact ⟨_, e, Fr_gM (Fr_hI (Fr_hR (Fr_hI (Fr_rf HG) nes492) nes74) (by unfold nes esN; omega)) (fun i hi => (hw i hi).symm), rfl, rfl⟩
    · exact okL_n H (by decide) (lx_evening_0 (d := 98) (c_evening_n2 (d := 85) hx hu)) (rf_n H (f := fun h => bc 99 M_X10_evening none 0 [some (.ref 49), some (.int z), some (.int u), some (.int x), none, none, none, none] [] h 0 0) (m_evening_n2 (d := 95) hx hu))
  · exact okL_n H (by decide) (lx_evening_1 (d := 98) (c_evening_n1 (d := 85) hx)) (rf_n H (f := fun h => bc 99 M_X10_evening none 0 [some (.ref 49), some (.int z), some (.int u), some (.int x), none, none, none, none] [] h 0 0) (m_evening_n1 (d := 95) hx))

theorem rl_kettle (H : RelP N S D L n q T ac o t g) (x y : Int32) : OkL (fun h => bc 99 M_L_kettle none 0 [some (.ref 0), some (.int x), some (.int y), some (.ref 88), none] [] h 0 0) (fun h => bc 99 M_X10_kettle none 0 [some (.ref 49), some (.int x), some (.int y)] [] h 0 0) t g := by
  by_cases hx : 0 ≤ x.toInt ∧ x.toInt < N
  · obtain ⟨j, ex, hj⟩ := ex_nat hx
    subst ex
    have e1 := c_kettle (d := 85) (t := t) (x := y) (cn := 0) (sn := 0) (r_K H) hj
    cases hA : kettleA (kC g) (g.1 29) j y with
    | some v =>
      rw [hA] at e1
      refine okL_y H (Fr_rf H) (lx_kettle_y (d := 98) e1) (fun G HG hM hw _ => ?_)
      have e := m_kettle (d := 97) (t := t) (g := G) (x := y) (cn := 0) (sn := 0) (w := g.1 29) (a := G.1 72) (k := G.1 73) hM (r_K H) hj
      rw [r_gM hw, hA] at e
      exact ⟨_, e, frm_1 HG hw, rfl, rfl⟩
    | none =>
      rw [hA] at e1
      have e := m_kettle (d := 97) (t := t) (g := g) (x := y) (cn := 0) (sn := 0) (w := g.1 29) (a := g.1 72) (k := g.1 73) (r_M H) (r_K H) hj
      rw [hA] at e
      exact okL_n H (by decide) (lx_kettle_1 (d := 98) e1) (rf_n H (f := fun h => bc 99 M_X10_kettle none 0 [some (.ref 49), some (.int (Int32.ofNat j)), some (.int y)] [] h 0 0) e)
  · exact okL_n H (by decide) (lx_kettle_1 (d := 98) (c_kettle_n (d := 85) (r_K H) hx)) (rf_n H (f := fun h => bc 99 M_X10_kettle none 0 [some (.ref 49), some (.int x), some (.int y)] [] h 0 0) (m_kettle_n (d := 97) (r_M H) (r_K H) hx))

theorem rl_stove (H : RelP N S D L n q T ac o t g) (x y : Int32) : OkL (fun h => bc 99 M_L_stove none 0 [some (.ref 0), some (.int x), some (.int y), some (.ref 88), none] [] h 0 0) (fun h => bc 99 M_X10_stove none 0 [some (.ref 49), some (.int x), some (.int y)] [] h 0 0) t g := by
  by_cases hx : 0 ≤ x.toInt ∧ x.toInt < S
  · obtain ⟨j, ex, hj⟩ := ex_nat hx
    subst ex
    have e1 := c_stove (d := 85) (t := t) (x := y) (cn := 0) (sn := 0) (r_K H) hj
    cases hA : stoveA (kC g) N (g.1 29) j y with
    | some v =>
      rw [hA] at e1
      refine okL_y H (Fr_rf H) (lx_stove_y (d := 98) e1) (fun G HG hM hw _ => ?_)
      have e := m_stove (d := 97) (t := t) (g := G) (x := y) (cn := 0) (sn := 0) (w := g.1 29) (a := G.1 72) (k := G.1 73) hM (r_K H) hj
      rw [r_gM hw, hA] at e
      exact ⟨_, e, frm_1 HG hw, rfl, rfl⟩
    | none =>
      rw [hA] at e1
      have e := m_stove (d := 97) (t := t) (g := g) (x := y) (cn := 0) (sn := 0) (w := g.1 29) (a := g.1 72) (k := g.1 73) (r_M H) (r_K H) hj
      rw [hA] at e
      exact okL_n H (by decide) (lx_stove_1 (d := 98) e1) (rf_n H (f := fun h => bc 99 M_X10_stove none 0 [some (.ref 49), some (.int (Int32.ofNat j)), some (.int y)] [] h 0 0) e)
  · exact okL_n H (by decide) (lx_stove_1 (d := 98) (c_stove_n (d := 85) (r_K H) hx)) (rf_n H (f := fun h => bc 99 M_X10_stove none 0 [some (.ref 49), some (.int x), some (.int y)] [] h 0 0) (m_stove_n (d := 97) (r_M H) (r_K H) hx))

theorem rl_dish (H : RelP N S D L n q T ac o t g) (x y : Int32) : OkL (fun h => bc 99 M_L_dish none 0 [some (.ref 0), some (.int x), some (.int y), some (.ref 88), none] [] h 0 0) (fun h => bc 99 M_X10_dish none 0 [some (.ref 49), some (.int x), some (.int y)] [] h 0 0) t g := by
  by_cases hx : 0 ≤ x.toInt ∧ x.toInt < D
  · obtain ⟨j, ex, hj⟩ := ex_nat hx
    subst ex
    have e1 := c_dish (d := 85) (t := t) (x := y) (cn := 0) (sn := 0) (r_K H) hj
    cases hA : dishA (kC g) (g.1 29) j y with
    | some v =>
      rw [hA] at e1
      refine okL_y H (Fr_rf H) (lx_dish_y (d := 98) e1) (fun G HG hM hw _ => ?_)
      have e := m_dish (d := 97) (t := t) (g := G) (x := y) (cn := 0) (sn := 0) (w := g.1 29) (a := G.1 72) (k := G.1 73) hM (r_K H) hj
      rw [r_gM hw, hA] at e
      exact ⟨_, e, frm_1 HG hw, rfl, rfl⟩
    | none =>
      rw [hA] at e1
      have e := m_dish (d := 97) (t := t) (g := g) (x := y) (cn := 0) (sn := 0) (w := g.1 29) (a := g.1 72) (k := g.1 73) (r_M H) (r_K H) hj
      rw [hA] at e
      exact okL_n H (by decide) (lx_dish_1 (d := 98) e1) (rf_n H (f := fun h => bc 99 M_X10_dish none 0 [some (.ref 49), some (.int (Int32.ofNat j)), some (.int y)] [] h 0 0) e)
  · exact okL_n H (by decide) (lx_dish_1 (d := 98) (c_dish_n (d := 85) (r_K H) hx)) (rf_n H (f := fun h => bc 99 M_X10_dish none 0 [some (.ref 49), some (.int x), some (.int y)] [] h 0 0) (m_dish_n (d := 97) (r_M H) (r_K H) hx))

theorem rl_count (H : RelP N S D L n q T ac o t g) (x : Int32) : OkL (fun h => bc 99 M_L_count none 0 [some (.ref 0), some (.int x), some (.ref 88), none] [] h 0 0) (fun h => bc 99 M_X10_count none 0 [some (.ref 49), some (.int x)] [] h 0 0) t g := by
  have hA : g.1 32 2 = Int32.ofNat n := by obtain ⟨f, -, -, z, -⟩ := H.1.2.2.2.2.2.2.2.1.1.2; exact z
  have hH : g.1 34 2 = Int32.ofNat q := H.1.2.2.2.2.2.2.2.2.1.2.1
  have hT : g.1 1 2 = Int32.ofNat T := H.1.2.2.2.2.2.2.2.2.2.1.1
  have e1 := c_count (d := 85) (t := t) (x := x) (cn := 0) (sn := 0) (st := g.1 31) (r_K H) hA hH hT rfl rfl rfl
  have em : ∀ G, RelP N S D L n q T ac o t G → MK (kC g) N S D L G → (∀ i, i < 54 → mrow G i = g.1 29 i) → (∀ c j, esN c j → G.1 c j = g.1 c j) → bc 99 M_X10_count none 0 [some (.ref 49), some (.int x)] [] (hp t G) 0 0 = outM (countA N S D (g.1 29) n q T (g.1 31) x) (hp t (gM (hI G 49 2 0) (g.1 29) (G.1 72) (G.1 73))) (hp t (gM (hI G 49 2 1) (g.1 29) (G.1 72) (G.1 73))) 0 0 := by
    intro G HG hM hw hE
    have s : ∀ i, i < 3 → G.1 62 i = g.1 31 i := fun i hi => (HG.2.1.2.2.2.2.2.1 i hi).trans (hE 31 i (by unfold esN; omega))
    have e := m_count (d := 97) (t := t) (g := G) (x := x) (cn := 0) (sn := 0) (w := g.1 29) (a := G.1 72) (k := G.1 73) (st := g.1 31) hM (r_K H) (r_nb H) HG.2.1.2.2.1.1 HG.2.1.2.2.2.1 HG.2.1.2.2.2.2.2.2.1 (s 0 (by omega)) (s 1 (by omega)) (s 2 (by omega))
    rw [r_gM hw] at e
    exact e
  cases hA : countA N S D (g.1 29) n q T (g.1 31) x with
  | some v =>
    rw [hA] at e1
    refine okL_y H (Fr_rf H) (lx_count_y (d := 98) e1) (fun G HG hM hw hE => ?_)
    have e := em G HG hM hw hE
    rw [hA] at e
    exact ⟨_, e, frm_1 HG hw, rfl, rfl⟩
  | none =>
    rw [hA] at e1
    have e := em g H (r_M H) (r_w H) (fun _ _ _ => rfl)
    rw [hA] at e
    exact okL_n H (by decide) (lx_count_1 (d := 98) e1) ⟨_, e, frm_1 H (r_w H), rfl⟩
theorem okD_q (H : RelP N S D L n q T ac o t g) {fX : px_H → Option (px_Res × px_H × Nat × Nat)} {v : Int32} (hF : Fr g g1) (eX : fX (hp t g) = some (.inl (some (.int v)), hp t g1, 0, 0))
    (hm : ∀ G, RelP N S D L n q T ac o t G → MK (kC g) N S D L G → (∀ i, i < 54 → mrow G i = g.1 29 i) → (∀ c j, esN c j → G.1 c j = g.1 c j) → ∃ g2, fM (hp t G) = some (.inl (some (.int v)), hp t g2, 0, 0) ∧ Fr G g2) : OkD fX fM t g := by
  have HG := RelP_fr H hF
  have e29 : g1.1 29 = g.1 29 := Fr_row hF.1 (fun j => by unfold esN; omega)
  obtain ⟨g2, e2, f2⟩ := hm _ HG (by have z := r_M HG; rw [kC_es hF.1] at z; exact z) (fun i hi => by rw [r_w HG i hi, e29]) hF.1
  exact ⟨v, t, g1, g2, 0, 0, eX, e2, RelP_rel (RelP_fr HG f2), by omega, by omega⟩
theorem rl_fault (H : RelP N S D L n q T ac o t g) : OkD (fun h => bc 99 M_X9_fault none 0 [some (.ref 0)] [] h 0 0) (fun h => bc 99 M_X10_fault none 0 [some (.ref 49)] [] h 0 0) t g := by
  refine okD_q H (Fr_rf H) (c_fault (d := 99)) (fun G HG hM hw hE => ?_)
  have e := m_fault (d := 99) (t := t) (g := G) (cn := 0) (sn := 0) (w := g.1 29) (a := G.1 72) (k := G.1 73)
  rw [r_gM hw, HG.2.1.2.2.2.2.2.2.2.2, hE 1 3 (by unfold esN; omega)] at e
  exact ⟨_, e, frm_1 HG hw⟩
theorem rl_quiet (H : RelP N S D L n q T ac o t g) : OkD (fun h => bc 99 M_X9_quiet none 0 [some (.ref 0), none, none] [] h 0 0) (fun h => bc 99 M_X10_quiet none 0 [some (.ref 49), none, none, none] [] h 0 0) t g := by
  obtain ⟨w', s', n', v', k', hz, e⟩ := c_quiet (d := 95) (t := t) (cn := 0) (sn := 0) (r_K H) (r_O H) (r_z H) (r_30 H)
  refine okD_q H (Fr_gP (Or.inl rfl) (Fr_rf H) hz) e (fun G HG hM hw hE => ?_)
  obtain ⟨a', k', e⟩ := m_quiet (d := 95) (t := t) (g := G) (cn := 0) (sn := 0) (w := g.1 29) (a := G.1 72) (k := G.1 73) hM (r_K H) (r_O H) (r_R H)
  rw [r_gM hw] at e
  exact ⟨_, e, frm_B HG hw⟩
end QUERY2
